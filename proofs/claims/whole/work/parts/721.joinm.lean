/-! A TREE IS MOVED: the reference -/
theorem rot_next (q x y : Int) (hq : 0 ≤ q ∧ q ≤ 2) : rotX (q + 1) x y = -(rotY q x y) ∧ rotY (q + 1) x y = rotX q x y := by
  rcases (show q = 0 ∨ q = 1 ∨ q = 2 by omega) with z | z | z <;> subst z
  · exact ⟨rfl, rfl⟩
  · exact ⟨rfl, rfl⟩
  · refine ⟨?_, rfl⟩
    show y = - - y
    omega
theorem turn_ok {N : Mem} {q : Int} {Post : Mem → Prop} (hq : 0 ≤ q ∧ q ≤ 3) (h : Post (pp N (rotX q (N 0 19) (N 0 20)) (rotY q (N 0 19) (N 0 20)))) : wp_Model_turn q N Post := by
  obtain ⟨k, hk⟩ : ∃ k : Nat, q = k := ⟨q.toNat, by omega⟩
  subst hk
  have loop : ∀ f t : Nat, t + f = k → wp_Model_turn_2 Post (f + 1) k t (pp N (rotX t (N 0 19) (N 0 20)) (rotY t (N 0 19) (N 0 20))) := by
    intro f
    induction f with
    | zero =>
      intro t ht
      refine ⟨⟨by omega, by omega⟩, ⟨by omega, by omega⟩, fun _ => ?_, fun z => absurd (show (k : Int) ≤ t by omega) z⟩
      rw [show t = k by omega]; exact h
    | succ f ih =>
      intro t ht
      refine ⟨⟨by omega, by omega⟩, ⟨by omega, by omega⟩, fun z => absurd z (by omega), fun _ v3 h3 M2 h2 M3 h4 v2 hv2 => ?_⟩
      rw [pp_19] at h3
      rw [pp_20, pp_x] at h2
      rw [h2, pp_y, h3] at h4
      have nx := rot_next t (N 0 19) (N 0 20) ⟨by omega, by omega⟩
      rw [hv2, h4, ← nx.1, ← nx.2, show ((t : Nat) : Int) + 1 = ((t + 1 : Nat) : Int) by omega]
      exact ih (t + 1) (by omega)
  refine ⟨k + 1, ?_⟩
  have := loop k 0 (by omega)
  rw [show rotX ((0 : Nat) : Int) (N 0 19) (N 0 20) = N 0 19 from rfl, show rotY ((0 : Nat) : Int) (N 0 19) (N 0 20) = N 0 20 from rfl, pp_same] at this
  exact this
theorem aim_ok {M N : Mem} {k a i b j : Nat} {Post : Mem → Prop} (hE : RelE M N) (hk : k ≤ 100) (h80 : N 8 (6 * k) = a) (h81 : N 8 (6 * k + 1) = i) (h82 : N 8 (6 * k + 2) = b) (h83 : N 8 (6 * k + 3) = j) (ha : a < 6) (hb : b < 6) (hi : i < szN N a) (hj : j < szN N b) (hq : 0 ≤ N 10 (4 * a + 2) ∧ N 10 (4 * a + 2) ≤ 3) (q' : Int) (hq' : q' = (N 10 (4 * a + 2) + qN N a i b j) % 4)
    (h : ∀ N' : Mem, (∀ r, r ≠ 0 → r ≠ 12 → N' r = N r) → (∀ t, t ≠ 19 → t ≠ 20 → N' 0 t = N 0 t) → (∀ t, t ≠ 4 * b → t ≠ 4 * b + 1 → t ≠ 4 * b + 2 → N' 12 t = N 12 t) → N' 12 (4 * b) = N 10 (4 * a) + rotX (N 10 (4 * a + 2)) (ex M a i) (ey M a i) - rotX q' (ex M b (j + 1)) (ey M b (j + 1)) → N' 12 (4 * b + 1) = N 10 (4 * a + 1) + rotY (N 10 (4 * a + 2)) (ex M a i) (ey M a i) - rotY q' (ex M b (j + 1)) (ey M b (j + 1)) → N' 12 (4 * b + 2) = q' → Post N') : wp_Model_aim ((6 * k : Nat) : Int) N Post := by
  have hda := Rel.holds hE ha
  have hdb := Rel.holds hE hb
  have sa28 := (hE a ha).1.1.2
  have sb28 := (hE b hb).1.1.2
  have ea : N 1 a = (szN N a : Int) := by unfold szN; omega
  have eb : N 1 b = (szN N b : Int) := by unfold szN; omega
  have ra : 0 < szN N a ∧ szN N a ≤ 28 := ⟨by omega, by unfold szN; omega⟩
  have rb : 0 < szN N b ∧ szN N b ≤ 28 := ⟨by omega, by unfold szN; omega⟩
  have i2 : (4 * (a : Int) + 2).toNat = 4 * a + 2 := by omega
  have i0 : (4 * (a : Int)).toNat = 4 * a := by omega
  have i1 : (4 * (a : Int) + 1).toNat = 4 * a + 1 := by omega
  have j2 : (4 * (b : Int) + 2).toNat = 4 * b + 2 := by omega
  have j0 : (4 * (b : Int)).toNat = 4 * b := by omega
  have j1 : (4 * (b : Int) + 1).toNat = 4 * b + 1 := by omega
  refine ⟨⟨by omega, by omega⟩, fun v2 h2 => ⟨⟨by omega, by omega⟩, fun v3 h3 => ⟨⟨by omega, by omega⟩, fun v4 h4 => ⟨⟨by omega, by omega⟩, fun v5 h5 => ?_⟩⟩⟩⟩
  rw [Int.toNat_natCast, h80] at h2
  rw [show (((6 * k : Nat) : Int) + 1).toNat = 6 * k + 1 by omega, h81] at h3
  rw [show (((6 * k : Nat) : Int) + 2).toNat = 6 * k + 2 by omega, h82] at h4
  rw [show (((6 * k : Nat) : Int) + 3).toNat = 6 * k + 3 by omega, h83] at h5
  subst h2; subst h3; subst h4; subst h5
  refine ⟨⟨by omega, by omega⟩, turns_ok ha hb ea eb ra rb hi hj (fun v6 h6 => ?_)⟩
  rw [i2] at h6
  have h6 : v6 = q' := by rw [h6, hq']; rfl
  rw [h6]
  refine corner_ok hda (Nat.le_of_lt hi) ⟨⟨by omega, by omega⟩, ?_⟩
  rw [i2, pp_r (show 10 ≠ 0 by decide)]
  refine turn_ok hq ?_
  rw [pp_pp, pp_19, pp_20]
  refine ⟨⟨by omega, by omega⟩, fun v7 h7 => ⟨⟨by omega, by omega⟩, fun v8 h8 => ?_⟩⟩
  rw [i0, pp_19, pp_r (show 10 ≠ 0 by decide)] at h7
  rw [i1, pp_20, pp_r (show 10 ≠ 0 by decide)] at h8
  rw [show ((j : Nat) : Int) + 1 = ((j + 1 : Nat) : Int) by omega]
  refine corner_ok (hdb.pp _ _) (show j + 1 ≤ szN N b by omega) ?_
  rw [pp_pp]
  refine turn_ok ⟨by omega, by omega⟩ ?_
  rw [pp_pp, pp_19, pp_20]
  refine ⟨⟨by omega, by omega⟩, fun N1 e1 => ⟨⟨by omega, by omega⟩, fun N2 e2 => ⟨⟨by omega, by omega⟩, fun N3 e3 => ?_⟩⟩⟩
  rw [j0, pp_19] at e1
  rw [j1] at e2
  rw [j2] at e3
  have p20 : N1 0 20 = rotY q' (ex M b (j + 1)) (ey M b (j + 1)) := by rw [e1, up_ne (by decide), pp_20]; rfl
  rw [p20] at e2
  refine h N3 (fun r r0 r12 => by rw [e3, up_ne r12, e2, up_ne r12, e1, up_ne r12, pp_r r0]) (fun t t1 t2 => by rw [e3, up_ne (by decide), e2, up_ne (by decide), e1, up_ne (by decide), pp_0 t1 t2]) (fun t t0 t1 t2 => by rw [e3, up_nj t2, e2, up_nj t1, e1, up_nj t0, pp_r (by decide)]) ?_ ?_ ?_
  · rw [e3, up_nj (by omega), e2, up_nj (by omega), e1, up_ss, h7, Int.add_comm (rotX _ _ _)]
    rfl
  · rw [e3, up_nj (by omega), e2, up_ss, h8, Int.add_comm (rotY _ _ _)]
    rfl
  · rw [e3, up_ss]
theorem move_ok {N : Mem} {b ns : Nat} {ta t X Y : Int} {Post : Mem → Prop} (hns : N 0 1 = ns) (hn6 : ns ≤ 6) (hb : b < ns) (hX : N 12 (4 * b) = X) (hY : N 12 (4 * b + 1) = Y) (ht : t = (N 12 (4 * b + 2) - N 10 (4 * b + 2)) % 4) (hcopy : ∀ i, i < 24 → i ≠ 4 * b → i ≠ 4 * b + 1 → i ≠ 4 * b + 2 → N 12 i = N 10 i) (h3 : ∀ s, s < 6 → in32 (N 10 (4 * s + 3))) (hta : in32 ta) (hout : ∀ s, ns ≤ s → s < 6 → N 10 (4 * s + 3) ≠ ta ∧ N 10 (4 * s + 3) ≠ N 10 (4 * b + 3))
    (h : ∀ N' : Mem, (∀ r, r ≠ 0 → r ≠ 12 → N' r = N r) → (∀ j, j ≠ 19 → j ≠ 20 → N' 0 j = N 0 j) → (∀ i, i < 24 → N' 12 i = newP (N 10) ta (N 10 (4 * b + 3)) t (X - rotX t (N 10 (4 * b)) (N 10 (4 * b + 1))) (Y - rotY t (N 10 (4 * b)) (N 10 (4 * b + 1))) i) → Post N') : wp_Model_moveTree b ta N Post := by
  obtain ⟨Q, hQ⟩ : ∃ Q, Q = newP (N 10) ta (N 10 (4 * b + 3)) t (X - rotX t (N 10 (4 * b)) (N 10 (4 * b + 1))) (Y - rotY t (N 10 (4 * b)) (N 10 (4 * b + 1))) := ⟨_, rfl⟩
  have t03 : 0 ≤ t ∧ t ≤ 3 := by omega
  have hb6 : b < 6 := by omega
  rw [← hQ] at h
  have Q0 : ∀ s, Q (4 * s) = if N 10 (4 * s + 3) = N 10 (4 * b + 3) then rotX t (N 10 (4 * s)) (N 10 (4 * s + 1)) + (X - rotX t (N 10 (4 * b)) (N 10 (4 * b + 1))) else N 10 (4 * s) := fun s => by rw [hQ, newP_0]
  have Q1 : ∀ s, Q (4 * s + 1) = if N 10 (4 * s + 3) = N 10 (4 * b + 3) then rotY t (N 10 (4 * s)) (N 10 (4 * s + 1)) + (Y - rotY t (N 10 (4 * b)) (N 10 (4 * b + 1))) else N 10 (4 * s + 1) := fun s => by rw [hQ, newP_1]
  have Q2 : ∀ s, Q (4 * s + 2) = if N 10 (4 * s + 3) = N 10 (4 * b + 3) then (N 10 (4 * s + 2) + t) % 4 else N 10 (4 * s + 2) := fun s => by rw [hQ, newP_2]
  have Q3 : ∀ s, Q (4 * s + 3) = if N 10 (4 * s + 3) = ta ∨ N 10 (4 * s + 3) = N 10 (4 * b + 3) then min ta (N 10 (4 * b + 3)) else N 10 (4 * s + 3) := fun s => by rw [hQ, newP_3]
  have Qb0 : Q (4 * b) = X := by rw [Q0, if_pos rfl]; omega
  have Qb1 : Q (4 * b + 1) = Y := by rw [Q1, if_pos rfl]; omega
  -- the trees' names
  have names : ∀ f s : Nat, s + f = ns → ∀ (Nc : Mem) (low : Int), low = min ta (N 10 (4 * b + 3)) → (∀ r, r ≠ 0 → r ≠ 12 → Nc r = N r) → (∀ j, j ≠ 19 → j ≠ 20 → Nc 0 j = N 0 j) → (∀ s', s' < 6 → ∀ c, c < 3 → Nc 12 (4 * s' + c) = Q (4 * s' + c)) → (∀ s', s' < s → Nc 12 (4 * s' + 3) = Q (4 * s' + 3)) → (∀ s', s ≤ s' → s' < 6 → Nc 12 (4 * s' + 3) = N 10 (4 * s' + 3)) → wp_Model_moveTree_225 Post (f + 1) ta (N 10 (4 * b + 3)) low s Nc := by
    intro f
    induction f with
    | zero =>
      intro s hs Nc low hlow a1 a2 a3 a4 a5
      have e1 : Nc 0 1 = ns := by rw [a2 1 (by decide) (by decide), hns]
      refine ⟨⟨by omega, by omega⟩, by rw [e1]; exact ⟨by omega, by omega⟩, fun _ => h Nc a1 a2 (fun i hi => ?_), fun z => absurd (show Nc 0 1 ≤ (s : Int) by omega) z⟩
      obtain ⟨s', c, e, hc⟩ : ∃ s' c, i = 4 * s' + c ∧ c < 4 := ⟨i / 4, i % 4, by omega, by omega⟩
      subst e
      by_cases z : c < 3
      · exact a3 s' (by omega) c z
      · have hc3 : c = 3 := by omega
        subst hc3
        by_cases z2 : s' < s
        · exact a4 s' z2
        · rw [a5 s' (by omega) (by omega), Q3, if_neg]
          have := hout s' (by omega) (by omega)
          intro q
          rcases q with q | q
          · exact this.1 q
          · exact this.2 q
    | succ f ih =>
      intro s hs Nc low hlow a1 a2 a3 a4 a5
      have hs6 : s < 6 := by omega
      have e1 : Nc 0 1 = ns := by rw [a2 1 (by decide) (by decide), hns]
      have e10 : Nc 10 = N 10 := a1 10 (by decide) (by decide)
      have ix : (4 * (s : Int) + 3).toNat = 4 * s + 3 := by omega
      have set : wp_Model_moveTree_265 (fun y0 y1 y2 y3 M => wp_Model_moveTree_225 Post (f + 1) y0 y1 y2 y3 M) ta (N 10 (4 * b + 3)) low s Nc Post ∨ True := Or.inr trivial
      have upd : (N 10 (4 * s + 3) = ta ∨ N 10 (4 * s + 3) = N 10 (4 * b + 3)) → wp_Model_moveTree_265 (fun y0 y1 y2 y3 M => wp_Model_moveTree_225 Post (f + 1) y0 y1 y2 y3 M) ta (N 10 (4 * b + 3)) low s Nc Post := by
        intro hm
        refine ⟨⟨by omega, by omega⟩, fun N1 g1 v hv => ?_⟩
        rw [ix] at g1
        rw [hv, show ((s : Nat) : Int) + 1 = ((s + 1 : Nat) : Int) by omega]
        refine ih (s + 1) (by omega) N1 low hlow (fun r r0 r12 => by rw [g1, up_ne r12]; exact a1 r r0 r12) (fun j j1 j2 => by rw [g1, up_ne (by decide)]; exact a2 j j1 j2) (fun s' hs' c hc => by rw [g1, up_nj (by omega)]; exact a3 s' hs' c hc) (fun s' hs' => ?_) (fun s' h1 h2 => by rw [g1, up_nj (by omega)]; exact a5 s' (by omega) h2)
        rw [g1]
        by_cases z : s' = s
        · subst z; rw [up_ss, Q3, if_pos hm]; exact hlow
        · rw [up_nj (by omega)]; exact a4 s' (by omega)
      have skip : ¬ (N 10 (4 * s + 3) = ta ∨ N 10 (4 * s + 3) = N 10 (4 * b + 3)) → wp_Model_moveTree_225 Post (f + 1) ta (N 10 (4 * b + 3)) low ((s : Int) + 1) Nc := by
        intro hm
        rw [show ((s : Nat) : Int) + 1 = ((s + 1 : Nat) : Int) by omega]
        refine ih (s + 1) (by omega) Nc low hlow a1 a2 a3 (fun s' hs' => ?_) (fun s' h1 h2 => a5 s' (by omega) h2)
        by_cases z : s' = s
        · subst z; rw [a5 s' (by omega) hs6, Q3, if_neg hm]
        · exact a4 s' (by omega)
      refine ⟨⟨by omega, by omega⟩, by rw [e1]; exact ⟨by omega, by omega⟩, fun z => absurd z (by omega), fun _ => ⟨⟨by omega, by omega⟩, ?_⟩⟩
      rw [ix, e10]
      refine ⟨h3 s hs6, h3 b hb6, fun z => upd (Or.inr z), fun z => ⟨⟨by omega, by omega⟩, h3 s hs6, hta, fun z2 v hv => ?_, fun z2 => upd (Or.inl z2)⟩⟩
      rw [hv]
      exact skip (fun q => by
        rcases q with q | q
        · exact z2 q
        · exact z q)
  -- the tree is moved
  have loop : ∀ f s : Nat, s + f = ns → ∀ Nc : Mem, (∀ r, r ≠ 0 → r ≠ 12 → Nc r = N r) → (∀ j, j ≠ 19 → j ≠ 20 → Nc 0 j = N 0 j) → (∀ s', s' < s → ∀ c, c < 3 → Nc 12 (4 * s' + c) = Q (4 * s' + c)) → (∀ s', s ≤ s' → s' < 6 → ∀ c, c < 3 → Nc 12 (4 * s' + c) = N 12 (4 * s' + c)) → (∀ s', s' < 6 → Nc 12 (4 * s' + 3) = N 10 (4 * s' + 3)) → wp_Model_moveTree_27 Post (f + 1) b ta t s Nc := by
    intro f
    induction f with
    | zero =>
      intro s hs Nc a1 a2 a3 a4 a5
      have e1 : Nc 0 1 = ns := by rw [a2 1 (by decide) (by decide), hns]
      have e10 : Nc 10 = N 10 := a1 10 (by decide) (by decide)
      have ix : (4 * (b : Int) + 3).toNat = 4 * b + 3 := by omega
      refine ⟨⟨by omega, by omega⟩, by rw [e1]; exact ⟨by omega, by omega⟩, fun _ => ⟨⟨by omega, by omega⟩, fun v4 h4 => ?_⟩, fun z => absurd (show Nc 0 1 ≤ (s : Int) by omega) z⟩
      rw [ix, e10] at h4
      rw [h4]
      have all : ∀ s', s' < 6 → ∀ c, c < 3 → Nc 12 (4 * s' + c) = Q (4 * s' + c) := fun s' hs' c hc => by
        by_cases z : s' < s
        · exact a3 s' z c hc
        · rw [a4 s' (by omega) hs' c hc, hcopy _ (by omega) (by omega) (by omega) (by omega)]
          have ho := (hout s' (by omega) hs').2
          rcases (show c = 0 ∨ c = 1 ∨ c = 2 by omega) with q | q | q <;> subst q
          · rw [Nat.add_zero, Q0, if_neg ho]
          · rw [Q1, if_neg ho]
          · rw [Q2, if_neg ho]
      refine ⟨h3 b hb6, hta, fun z => ⟨ns + 1, names ns 0 (by omega) Nc ta (by omega) a1 a2 all (fun s' hs' => absurd hs' (by omega)) (fun s' _ hs' => a5 s' hs')⟩, fun z => ⟨ns + 1, names ns 0 (by omega) Nc _ (by omega) a1 a2 all (fun s' hs' => absurd hs' (by omega)) (fun s' _ hs' => a5 s' hs')⟩⟩
    | succ f ih =>
      intro s hs Nc a1 a2 a3 a4 a5
      have hs6 : s < 6 := by omega
      have e1 : Nc 0 1 = ns := by rw [a2 1 (by decide) (by decide), hns]
      have e10 : Nc 10 = N 10 := a1 10 (by decide) (by decide)
      have ib3 : (4 * (b : Int) + 3).toNat = 4 * b + 3 := by omega
      have is3 : (4 * (s : Int) + 3).toNat = 4 * s + 3 := by omega
      have ib0 : (4 * (b : Int)).toNat = 4 * b := by omega
      have is0 : (4 * (s : Int)).toNat = 4 * s := by omega
      have ib1 : (4 * (b : Int) + 1).toNat = 4 * b + 1 := by omega
      have is1 : (4 * (s : Int) + 1).toNat = 4 * s + 1 := by omega
      have is2 : (4 * (s : Int) + 2).toNat = 4 * s + 2 := by omega
      have eX : Nc 12 (4 * b) = X := by
        by_cases z : b < s
        · have := a3 b z 0 (by omega)
          rw [Nat.add_zero] at this
          rw [this]; exact Qb0
        · have := a4 b (by omega) hb6 0 (by omega)
          rw [Nat.add_zero] at this
          rw [this]; exact hX
      have eY : Nc 12 (4 * b + 1) = Y := by
        by_cases z : b < s
        · rw [a3 b z 1 (by omega)]; exact Qb1
        · rw [a4 b (by omega) hb6 1 (by omega)]; exact hY
      refine ⟨⟨by omega, by omega⟩, by rw [e1]; exact ⟨by omega, by omega⟩, fun z => absurd z (by omega), fun _ => ⟨⟨by omega, by omega⟩, ⟨by omega, by omega⟩, ?_⟩⟩
      rw [ib3, is3, e10]
      refine ⟨h3 s hs6, h3 b hb6, fun hm => ⟨⟨by omega, by omega⟩, ⟨by omega, by omega⟩, fun M2 g2 => ⟨⟨by omega, by omega⟩, ⟨by omega, by omega⟩, fun M3 g3 => ?_⟩⟩, fun hm v hv => ?_⟩
      · rw [is0, ib0] at g2
        have m10 : M2 10 = N 10 := by rw [g2, up_ne (by decide)]; exact e10
        rw [is1, ib1, m10, g2] at g3
        have e3 : M3 = pp Nc (N 10 (4 * s) - N 10 (4 * b)) (N 10 (4 * s + 1) - N 10 (4 * b + 1)) := g3
        rw [e3]
        refine turn_ok t03 ?_
        rw [pp_pp, pp_19, pp_20]
        have rs := rot_sub t (N 10 (4 * s)) (N 10 (4 * s + 1)) (N 10 (4 * b)) (N 10 (4 * b + 1))
        rw [rs.1, rs.2]
        refine ⟨⟨by omega, by omega⟩, ⟨by omega, by omega⟩, fun M6 g6 => ⟨⟨by omega, by omega⟩, ⟨by omega, by omega⟩, fun M7 g7 => ⟨⟨by omega, by omega⟩, ⟨by omega, by omega⟩, fun M8 g8 v hv => ?_⟩⟩⟩
        rw [is0, ib0, pp_19, pp_r (show 12 ≠ 0 by decide), eX] at g6
        have m61 : M6 12 (4 * b + 1) = Y := by rw [g6, up_nj (by omega), pp_r (by decide)]; exact eY
        have m620 : M6 0 20 = rotY t (N 10 (4 * s)) (N 10 (4 * s + 1)) - rotY t (N 10 (4 * b)) (N 10 (4 * b + 1)) := by rw [g6, up_ne (by decide), pp_20]
        rw [is1, ib1, m61, m620] at g7
        have m710 : M7 10 = N 10 := by rw [g7, up_ne (by decide), g6, up_ne (by decide), pp_r (by decide)]; exact e10
        rw [is2, m710] at g8
        rw [hv, show ((s : Nat) : Int) + 1 = ((s + 1 : Nat) : Int) by omega]
        have r12 : ∀ i, i ≠ 4 * s → i ≠ 4 * s + 1 → i ≠ 4 * s + 2 → M8 12 i = Nc 12 i := fun i i0 i1 i2 => by rw [g8, up_nj i2, g7, up_nj i1, g6, up_nj i0, pp_r (by decide)]
        refine ih (s + 1) (by omega) M8 (fun r r0 r1 => by rw [g8, up_ne r1, g7, up_ne r1, g6, up_ne r1, pp_r r0]; exact a1 r r0 r1) (fun j j1 j2 => by rw [g8, up_ne (by decide), g7, up_ne (by decide), g6, up_ne (by decide), pp_0 j1 j2]; exact a2 j j1 j2) (fun s' hs' c hc => ?_) (fun s' h1 h2 c hc => by rw [r12 _ (by omega) (by omega) (by omega)]; exact a4 s' (by omega) h2 c hc) (fun s' hs' => by rw [r12 _ (by omega) (by omega) (by omega)]; exact a5 s' hs')
        by_cases z : s' = s
        · subst z
          rcases (show c = 0 ∨ c = 1 ∨ c = 2 by omega) with q | q | q <;> subst q
          · rw [Nat.add_zero, Q0, if_pos hm, g8, up_nj (by omega), g7, up_nj (by omega), g6, up_ss]; omega
          · rw [Q1, if_pos hm, g8, up_nj (by omega), g7, up_ss]; omega
          · rw [Q2, if_pos hm, g8, up_ss]
        · rw [r12 _ (by omega) (by omega) (by omega)]; exact a3 s' (by omega) c hc
      · rw [hv, show ((s : Nat) : Int) + 1 = ((s + 1 : Nat) : Int) by omega]
        refine ih (s + 1) (by omega) Nc a1 a2 (fun s' hs' c hc => ?_) (fun s' h1 h2 c hc => a4 s' (by omega) h2 c hc) a5
        by_cases z : s' = s
        · subst z
          have hsb : s' ≠ b := fun q => hm (by rw [q])
          rw [a4 s' (by omega) hs6 c hc, hcopy _ (by omega) (by omega) (by omega) (by omega)]
          rcases (show c = 0 ∨ c = 1 ∨ c = 2 by omega) with q | q | q <;> subst q
          · rw [Nat.add_zero, Q0, if_neg hm]
          · rw [Q1, if_neg hm]
          · rw [Q2, if_neg hm]
        · exact a3 s' (by omega) c hc
  have ib2 : (4 * (b : Int) + 2).toNat = 4 * b + 2 := by omega
  refine ⟨⟨by omega, by omega⟩, ⟨by omega, by omega⟩, fun v3 hv3 => ⟨ns + 1, ?_⟩⟩
  rw [ib2, ← ht] at hv3
  rw [hv3]
  exact loop ns 0 (by omega) N (fun _ _ _ => rfl) (fun _ _ _ => rfl) (fun s' hs' => absurd hs' (by omega)) (fun _ _ _ _ _ => rfl) (fun s' hs' => hcopy _ (by omega) (by omega) (by omega) (by omega))
