/-! OVERLAPS ON BOTH SIDES -/
theorem over_ok {Mc : Mem} {c : Nat} {Post : Int → Prop} (hc : Mc 111 5 = c) (hc2 : c ≤ 1936) (hin : ∀ t, t < c → in32 (Mc 112 t)) (h : ∀ r : Int, (r = 0 ∨ r = 1) → (r = 1 ↔ ∃ t, t < c ∧ 1 < Mc 112 t) → Post r) : wp_Board_hasOverlap Mc Post := by
  have loop : ∀ f t : Nat, t + f = c → (∀ q, q < t → ¬ 1 < Mc 112 q) → wp_Board_hasOverlap_2 Mc Post (f + 1) t := by
    intro f
    induction f with
    | zero =>
      intro t ht hq
      refine ⟨⟨by omega, by omega⟩, by rw [hc]; exact ⟨by omega, by omega⟩, fun _ => h 0 (Or.inl rfl) ⟨fun z => absurd z (by decide), fun ⟨q, a, b⟩ => absurd b (hq q (by omega))⟩, fun z => absurd (show Mc 111 5 ≤ (t : Int) by omega) z⟩
    | succ f ih =>
      intro t ht hq
      refine ⟨⟨by omega, by omega⟩, by rw [hc]; exact ⟨by omega, by omega⟩, fun z => absurd z (by omega), fun _ => ⟨⟨by omega, by omega⟩, ?_⟩⟩
      rw [Int.toNat_natCast]
      refine ⟨hin t (by omega), fun z v hv => ?_, fun z => h 1 (Or.inr rfl) ⟨fun _ => ⟨t, by omega, by omega⟩, fun _ => rfl⟩⟩
      rw [hv, show ((t : Nat) : Int) + 1 = ((t + 1 : Nat) : Int) by omega]
      refine ih (t + 1) (by omega) (fun q hq' => ?_)
      by_cases z2 : q = t
      · subst z2; omega
      · exact hq q (by omega)
  exact ⟨c + 1, loop c 0 (by omega) (fun q hq => absurd hq (by omega))⟩
def CX (N : Mem) (P : Nat → Int) (s i : Nat) : Int := P (4 * s) + crX (P (4 * s + 2)) (N 6 (49 * s + i)) (N 7 (49 * s + i))
def CY (N : Mem) (P : Nat → Int) (s i : Nat) : Int := P (4 * s + 1) + crY (P (4 * s + 2)) (N 6 (49 * s + i)) (N 7 (49 * s + i))
theorem cr_next (q x y : Int) (hq : 0 ≤ q ∧ q ≤ 2) : crX (q + 1) x y = -(crY q x y) - 1 ∧ crY (q + 1) x y = crX q x y := by
  rcases (show q = 0 ∨ q = 1 ∨ q = 2 by omega) with z | z | z <;> subst z
  · exact ⟨rfl, rfl⟩
  · exact ⟨rfl, rfl⟩
  · refine ⟨?_, rfl⟩
    show y = -(-y - 1) - 1
    omega
theorem cellOf_ok {N : Mem} {k1 s k : Nat} {Post : Mem → Prop} (hk1 : k1 ≠ 0) (hs : s < 6) (hk : k < 49) (hq : 0 ≤ N k1 (4 * s + 2) ∧ N k1 (4 * s + 2) ≤ 3) (h : Post (pp N (CX N (N k1) s k) (CY N (N k1) s k))) : wp_Model_cellOf k1 s k N Post := by
  obtain ⟨q, hqq⟩ : ∃ q : Nat, N k1 (4 * s + 2) = q := ⟨(N k1 (4 * s + 2)).toNat, by omega⟩
  have i1 : (49 * (s : Int) + (k : Int)).toNat = 49 * s + k := by omega
  have i2 : (4 * (s : Int) + 2).toNat = 4 * s + 2 := by omega
  have i3 : (4 * (s : Int)).toNat = 4 * s := by omega
  have i4 : (4 * (s : Int) + 1).toNat = 4 * s + 1 := by omega
  have loop : ∀ f t : Nat, t + f = q → wp_Model_cellOf_33 k1 Post (f + 1) s t (pp N (crX t (N 6 (49 * s + k)) (N 7 (49 * s + k))) (crY t (N 6 (49 * s + k)) (N 7 (49 * s + k)))) := by
    intro f
    induction f with
    | zero =>
      intro t ht
      refine ⟨⟨by omega, by omega⟩, ⟨by omega, by omega⟩, ?_⟩
      rw [i2, i3, i4, pp_r hk1, hqq]
      refine ⟨⟨by omega, by omega⟩, fun _ => ⟨⟨by omega, by omega⟩, fun M1 h1 => ⟨⟨by omega, by omega⟩, fun M2 h2 => ?_⟩⟩, fun z => absurd (show (q : Int) ≤ t by omega) z⟩
      rw [pp_19, pp_x] at h1
      rw [h1, pp_20, pp_r hk1, pp_y] at h2
      rw [h2, show t = q by omega]
      unfold CX CY at h
      rw [hqq] at h
      rw [Int.add_comm (crX _ _ _), Int.add_comm (crY _ _ _)]
      exact h
    | succ f ih =>
      intro t ht
      refine ⟨⟨by omega, by omega⟩, ⟨by omega, by omega⟩, ?_⟩
      rw [i2, pp_r hk1, hqq]
      refine ⟨⟨by omega, by omega⟩, fun z => absurd z (by omega), fun _ v5 h5 M4 h4 M5 h6 v4 hv4 => ?_⟩
      rw [pp_19] at h5
      rw [pp_20, pp_x] at h4
      rw [h4, pp_y, h5] at h6
      have nx := cr_next t (N 6 (49 * s + k)) (N 7 (49 * s + k)) ⟨by omega, by omega⟩
      rw [hv4, h6, ← nx.1, ← nx.2, show ((t : Nat) : Int) + 1 = ((t + 1 : Nat) : Int) by omega]
      exact ih (t + 1) (by omega)
  refine ⟨⟨by omega, by omega⟩, fun M1 h1 => ⟨⟨by omega, by omega⟩, fun M2 h2 => ⟨q + 1, ?_⟩⟩⟩
  rw [i1] at h1 h2
  have e : M2 = pp N (crX 0 (N 6 (49 * s + k)) (N 7 (49 * s + k))) (crY 0 (N 6 (49 * s + k)) (N 7 (49 * s + k))) := by
    rw [h2, h1, up_ne (show 7 ≠ 0 by decide)]
    rfl
  rw [e]
  exact loop q 0 (by omega)
/-- two sherds have a cell in common -/
def Ov (N : Mem) (P : Nat → Int) (s t : Nat) : Prop := ∃ i j : Nat, (i : Int) < N 5 s ∧ (j : Int) < N 5 t ∧ CX N P s i = CX N P t j ∧ CY N P s i = CY N P t j
/-- the reference's cells and places, as far as an overlap reads them -/
def PlOK (N : Mem) (P : Nat → Int) (s : Nat) : Prop := (0 ≤ N 5 s ∧ N 5 s ≤ 49) ∧ (0 ≤ P (4 * s + 2) ∧ P (4 * s + 2) ≤ 3) ∧ ∀ i : Nat, (i : Int) < N 5 s → in32 (CX N P s i) ∧ in32 (CY N P s i)
theorem CX_pp {N : Mem} {P : Nat → Int} {a b : Int} (s i : Nat) : CX (pp N a b) P s i = CX N P s i ∧ CY (pp N a b) P s i = CY N P s i := by
  unfold CX CY
  rw [pp_r (by decide), pp_r (by decide)]
  exact ⟨rfl, rfl⟩
theorem overlap_ok {N : Mem} {k1 s t : Nat} {Post : Int → Mem → Prop} (hk1 : k1 ≠ 0) (hs : s < 6) (ht : t < 6) (ps : PlOK N (N k1) s) (pt : PlOK N (N k1) t) (h : ∀ r a b : Int, (r = 0 ∨ r = 1) → (r = 1 ↔ Ov N (N k1) s t) → Post r (pp N a b)) : wp_Model_overlap k1 s t N Post := by
  obtain ⟨ks, eks⟩ : ∃ ks : Nat, N 5 s = ks := ⟨(N 5 s).toNat, by have := ps.1; omega⟩
  obtain ⟨kt, ekt⟩ : ∃ kt : Nat, N 5 t = kt := ⟨(N 5 t).toNat, by have := pt.1; omega⟩
  have k49 : ks ≤ 49 ∧ kt ≤ 49 := by have := ps.1; have := pt.1; omega
  have prod : ks * kt ≤ 49 * 49 := Nat.mul_le_mul k49.1 k49.2
  have eqP : ∀ a b : Int, (pp N a b) k1 = N k1 := fun a b => pp_r hk1
  have loop : ∀ f k : Nat, k + f = ks * kt → ∀ r a b : Int, (r = 0 ∨ r = 1) → (r = 1 ↔ ∃ q, q < k ∧ CX N (N k1) s (q / kt) = CX N (N k1) t (q % kt) ∧ CY N (N k1) s (q / kt) = CY N (N k1) t (q % kt)) → wp_Model_overlap_6 k1 Post (f + 1) s t r k (pp N a b) := by
    intro f
    induction f with
    | zero =>
      intro k hk r a b hr hiff
      refine ⟨⟨by omega, by omega⟩, ⟨by omega, by omega⟩, ⟨by omega, by omega⟩, ?_⟩
      rw [Int.toNat_natCast, Int.toNat_natCast, pp_r (by decide), eks, ekt, ← Int.natCast_mul]
      refine ⟨⟨by omega, by omega⟩, fun _ => ⟨hr, h r a b hr ⟨fun z => ?_, fun ⟨i, j, h1, h2, h3, h4⟩ => ?_⟩⟩, fun z => absurd (show ((ks * kt : Nat) : Int) ≤ k by omega) z⟩
      · obtain ⟨q, q1, q2, q3⟩ := hiff.mp z
        have hkt : 0 < kt := by
          rcases Nat.eq_zero_or_pos kt with e | e
          · rw [e, Nat.mul_zero] at hk; omega
          · exact e
        have hd : q / kt < ks := by rw [Nat.div_lt_iff_lt_mul hkt]; omega
        exact ⟨q / kt, q % kt, by rw [eks]; omega, by rw [ekt]; have := Nat.mod_lt q hkt; omega, q2, q3⟩
      · rw [eks] at h1
        rw [ekt] at h2
        refine hiff.mpr ⟨kt * i + j, ?_, ?_⟩
        · have : kt * (i + 1) ≤ kt * ks := Nat.mul_le_mul_left kt (by omega)
          rw [Nat.mul_add, Nat.mul_one, Nat.mul_comm kt ks] at this
          omega
        · obtain ⟨e1, e2⟩ := dm_un (n := kt) (i := i) (j := j) (by omega) rfl
          rw [← e1, ← e2]
          exact ⟨h3, h4⟩
    | succ f ih =>
      intro k hk r a b hr hiff
      have hkt : 0 < kt := by
        rcases Nat.eq_zero_or_pos kt with e | e
        · rw [e, Nat.mul_zero] at hk; omega
        · exact e
      have hd : k / kt < ks := by rw [Nat.div_lt_iff_lt_mul hkt]; omega
      have hm := Nat.mod_lt k hkt
      refine ⟨⟨by omega, by omega⟩, ⟨by omega, by omega⟩, ⟨by omega, by omega⟩, ?_⟩
      rw [Int.toNat_natCast, Int.toNat_natCast, pp_r (show 5 ≠ 0 by decide), eks, ekt, ← Int.natCast_mul]
      refine ⟨⟨by omega, by omega⟩, fun z => absurd z (by omega), fun _ => ⟨⟨by omega, by omega⟩, ⟨by omega, by omega, by omega, by omega⟩, ?_⟩⟩
      rw [show ((k : Nat) : Int) / ((kt : Nat) : Int) = ((k / kt : Nat) : Int) from rfl]
      refine cellOf_ok hk1 hs (by omega) (by rw [eqP]; exact ps.2.1) ?_
      rw [pp_pp, eqP, (CX_pp _ _).1, (CX_pp _ _).2]
      intro v6 h6 v7 h7
      rw [pp_19] at h6
      rw [pp_20] at h7
      refine ⟨⟨by omega, by omega⟩, ?_⟩
      rw [pp_r (show 5 ≠ 0 by decide), ekt]
      refine ⟨⟨by omega, by omega, by omega, by omega⟩, ?_⟩
      rw [show ((k : Nat) : Int) % ((kt : Nat) : Int) = ((k % kt : Nat) : Int) from rfl]
      refine cellOf_ok hk1 ht (by omega) (by rw [eqP]; exact pt.2.1) ?_
      rw [pp_pp, eqP, (CX_pp _ _).1, (CX_pp _ _).2]
      have ins := ps.2.2 (k / kt) (by rw [eks]; omega)
      have int := pt.2.2 (k % kt) (by rw [ekt]; omega)
      have next : ∀ r' : Int, (r' = 0 ∨ r' = 1) → (r' = 1 ↔ r = 1 ∨ (CX N (N k1) s (k / kt) = CX N (N k1) t (k % kt) ∧ CY N (N k1) s (k / kt) = CY N (N k1) t (k % kt))) → wp_Model_overlap_6 k1 Post (f + 1) s t r' ((k : Int) + 1) (pp N (CX N (N k1) t (k % kt)) (CY N (N k1) t (k % kt))) := by
        intro r' hr' hiff'
        rw [show ((k : Nat) : Int) + 1 = ((k + 1 : Nat) : Int) by omega]
        refine ih (k + 1) (by omega) r' _ _ hr' ?_
        rw [hiff']
        constructor
        · intro z
          rcases z with z | z
          · obtain ⟨q, q1, q2⟩ := hiff.mp z
            exact ⟨q, by omega, q2⟩
          · exact ⟨k, by omega, z⟩
        · intro ⟨q, q1, q2⟩
          by_cases e : q = k
          · subst e; exact Or.inr q2
          · exact Or.inl (hiff.mpr ⟨q, by omega, q2⟩)
      rw [pp_19, pp_20, h6, h7]
      refine ⟨by rcases hr with z | z <;> rw [z] <;> exact xl rfl, fun z v hv => ?_, fun z => ⟨int.1, ins.1, fun z2 v hv => ?_, fun z2 => ⟨int.2, ins.2, fun z3 v hv => ?_, fun z3 v hv => ?_⟩⟩⟩
      · rw [hv]; exact next 1 (Or.inr rfl) ⟨fun _ => Or.inl (by omega), fun _ => rfl⟩
      · rw [hv]; exact next 0 (Or.inl rfl) ⟨fun e => absurd e (by decide), fun e => by
          rcases e with e | e
          · omega
          · exact absurd e.1.symm z2⟩
      · rw [hv]; exact next 0 (Or.inl rfl) ⟨fun e => absurd e (by decide), fun e => by
          rcases e with e | e
          · omega
          · exact absurd e.2.symm z3⟩
      · rw [hv]; exact next 1 (Or.inr rfl) ⟨fun _ => Or.inr ⟨z2.symm, z3.symm⟩, fun _ => rfl⟩
  refine ⟨ks * kt + 1, ?_⟩
  have := loop (ks * kt) 0 (by omega) 0 (N 0 19) (N 0 20) (Or.inl rfl) ⟨fun z => absurd z (by decide), fun ⟨q, q1, _⟩ => absurd q1 (by omega)⟩
  rw [pp_same] at this
  exact this
theorem Ov_pp {N : Mem} {P : Nat → Int} {a b : Int} (s t : Nat) : Ov (pp N a b) P s t ↔ Ov N P s t := by
  unfold Ov
  simp only [(CX_pp _ _).1, (CX_pp _ _).2, pp_r (show 5 ≠ 0 by decide)]
theorem PlOK.pp {N : Mem} {P : Nat → Int} {s : Nat} (h : PlOK N P s) (a b : Int) : PlOK (pp N a b) P s := by
  unfold PlOK at *
  simp only [(CX_pp _ _).1, (CX_pp _ _).2, pp_r (show 5 ≠ 0 by decide)]
  exact h
theorem fits_ok {N : Mem} {ns : Nat} {tr : Int} {Post : Int → Mem → Prop} (hns : N 0 1 = ns) (hn6 : ns ≤ 6) (htr : in32 tr) (h3 : ∀ s, s < 6 → in32 (N 12 (4 * s + 3))) (hpl : ∀ s, s < 6 → N 12 (4 * s + 3) = tr → PlOK N (N 12) s) (h : ∀ r a b : Int, (r = 0 ∨ r = 1) → (r = 1 ↔ ∀ s t, t < s → s < ns → N 12 (4 * s + 3) = tr → N 12 (4 * t + 3) = tr → ¬ Ov N (N 12) s t) → Post r (pp N a b)) : wp_Model_fits tr N Post := by
  have outer : ∀ f s : Nat, s + f = ns → ∀ x a b : Int, (x = 0 ∨ x = 1) → (x = 1 ↔ ∀ s' t, t < s' → s' < s → N 12 (4 * s' + 3) = tr → N 12 (4 * t + 3) = tr → ¬ Ov N (N 12) s' t) → wp_Model_fits_4 Post (f + 1) tr x s (pp N a b) := by
    intro f
    induction f with
    | zero =>
      intro s hs x a b hx hiff
      refine ⟨⟨by omega, by omega⟩, by rw [pp_0 (by decide) (by decide), hns]; exact ⟨by omega, by omega⟩, fun _ => ⟨hx, h x a b hx (by rw [show ns = s by omega]; exact hiff)⟩, fun z => absurd (show (pp N a b) 0 1 ≤ (s : Int) by rw [pp_0 (by decide) (by decide), hns]; omega) z⟩
    | succ f ih =>
      intro s hs x a b hx hiff
      refine ⟨⟨by omega, by omega⟩, by rw [pp_0 (by decide) (by decide), hns]; exact ⟨by omega, by omega⟩, fun z => absurd z (by rw [pp_0 (by decide) (by decide), hns]; omega), fun _ => ?_⟩
      have hs6 : s < 6 := by omega
      have inner : ∀ f2 t : Nat, t + f2 = s → ∀ x a b : Int, (x = 0 ∨ x = 1) → (x = 1 ↔ (∀ s' t', t' < s' → s' < s → N 12 (4 * s' + 3) = tr → N 12 (4 * t' + 3) = tr → ¬ Ov N (N 12) s' t') ∧ ∀ t', t' < t → N 12 (4 * s + 3) = tr → N 12 (4 * t' + 3) = tr → ¬ Ov N (N 12) s t') → wp_Model_fits_15 (fun y0 y1 y2 M => wp_Model_fits_4 Post (f + 1) y0 y1 y2 M) Post (f2 + 1) tr x s t (pp N a b) := by
        intro f2
        induction f2 with
        | zero =>
          intro t ht x a b hx hiff
          refine ⟨⟨by omega, by omega⟩, ⟨by omega, by omega⟩, fun _ v hv => ?_, fun z => absurd (show (s : Int) ≤ t by omega) z⟩
          rw [hv, show ((s : Nat) : Int) + 1 = ((s + 1 : Nat) : Int) by omega]
          refine ih (s + 1) (by omega) x a b hx ?_
          rw [hiff]
          constructor
          · intro ⟨z1, z2⟩ s' t' h1 h2 h3 h4
            by_cases e : s' = s
            · subst e; exact z2 t' (by omega) h3 h4
            · exact z1 s' t' h1 (by omega) h3 h4
          · intro z
            exact ⟨fun s' t' h1 h2 => z s' t' h1 (by omega), fun t' h1 => z s t' (by omega) (by omega)⟩
        | succ f2 ih2 =>
          intro t ht x a b hx hiff
          have ht6 : t < 6 := by omega
          refine ⟨⟨by omega, by omega⟩, ⟨by omega, by omega⟩, fun z => absurd z (by omega), fun _ => ⟨by rcases hx with z | z <;> rw [z] <;> exact xl rfl, fun hx0 v hv => ?_, fun hx1 => ⟨⟨by omega, by omega⟩, ?_⟩⟩⟩
          · rw [hv, show ((s : Nat) : Int) + 1 = ((s + 1 : Nat) : Int) by omega]
            refine ih (s + 1) (by omega) x a b hx ⟨fun z => absurd z (by omega), fun z => ?_⟩
            exact hiff.mpr ⟨fun s' t' h1 h2 => z s' t' h1 (by omega), fun t' h1 => z s t' (by omega) (by omega)⟩
          · have i1 : (4 * (s : Int) + 3).toNat = 4 * s + 3 := by omega
            have i2 : (4 * (t : Int) + 3).toNat = 4 * t + 3 := by omega
            rw [i1, i2, pp_r (show 12 ≠ 0 by decide)]
            have old := hiff.mp (by omega)
            have next : ∀ x' a b : Int, (x' = 0 ∨ x' = 1) → (x' = 1 ↔ (N 12 (4 * s + 3) = tr → N 12 (4 * t + 3) = tr → ¬ Ov N (N 12) s t)) → wp_Model_fits_15 (fun y0 y1 y2 M => wp_Model_fits_4 Post (f + 1) y0 y1 y2 M) Post (f2 + 1) tr x' s ((t : Int) + 1) (pp N a b) := by
              intro x' a b hx' hiff'
              rw [show ((t : Nat) : Int) + 1 = ((t + 1 : Nat) : Int) by omega]
              refine ih2 (t + 1) (by omega) x' a b hx' ?_
              rw [hiff']
              constructor
              · intro z
                refine ⟨old.1, fun t' h1 => ?_⟩
                by_cases e : t' = t
                · subst e; exact z
                · exact old.2 t' (by omega)
              · intro z
                exact z.2 t (by omega)
            refine ⟨h3 s hs6, htr, fun z v hv => ?_, fun z => ⟨⟨by omega, by omega⟩, h3 t ht6, htr, fun z2 v hv => ?_, fun z2 => ?_⟩⟩
            · rw [hv]; exact next 1 a b (Or.inr rfl) ⟨fun _ q => absurd q z, fun _ => rfl⟩
            · rw [hv]; exact next 1 a b (Or.inr rfl) ⟨fun _ _ q => absurd q z2, fun _ => rfl⟩
            · have e12 : (pp N a b) 12 = N 12 := pp_r (by decide)
              refine overlap_ok (by decide) hs6 ht6 (by rw [e12]; exact (hpl s hs6 z).pp a b) (by rw [e12]; exact (hpl t ht6 z2).pp a b) (fun r a2 b2 hr hio => ?_)
              rw [e12, Ov_pp] at hio
              rw [pp_pp]
              refine ⟨by rcases hr with z | z <;> rw [z] <;> exact xl rfl, fun q v hv => ?_, fun q v hv => ?_⟩
              · rw [hv]; exact next 0 a2 b2 (Or.inl rfl) ⟨fun e => absurd e (by decide), fun e => absurd (hio.mp (by omega)) (e z z2)⟩
              · rw [hv]; exact next 1 a2 b2 (Or.inr rfl) ⟨fun _ _ _ ov => by have := hio.mpr ov; omega, fun _ => rfl⟩
      refine ⟨s + 1, inner s 0 (by omega) x a b hx ?_⟩
      rw [hiff]
      exact ⟨fun z => ⟨z, fun t' h1 => absurd h1 (by omega)⟩, fun z => z.1⟩
  refine ⟨ns + 1, ?_⟩
  have := outer ns 0 (by omega) 1 (N 0 19) (N 0 20) (Or.inr rfl) ⟨fun _ s' t h1 h2 => absurd h2 (by omega), fun _ => rfl⟩
  rw [pp_same] at this
  exact this
