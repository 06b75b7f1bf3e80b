/-! run: the reference's way -/
def hB (N : Mem) (a b : Nat) : Int := if N 4 a = 1 ∧ N 4 b = 1 then sm (fun k => gI N a (k / szN N b) b (k % szN N b)) (szN N a * szN N b) else 0
section RN
variable {N N3 : Mem} {a b k : Nat}
/-- the start of the reference's run has the numbers of N -/
def Same3 (N N3 : Mem) : Prop := (∀ r, r ≠ 0 → N3 r = N r) ∧ ∀ j, j ≠ 0 → j ≠ 11 → j ≠ 12 → N3 0 j = N 0 j
def SM (N : Mem) (a b k : Nat) : T6 → Prop := fun y => ∃ a' i' b' j' : Nat, Val N a' i' b' j' ∧ isG N a' i' b' j' ∧ y = tupA N a' i' b' j' ∧ (a' < a ∨ (a' = a ∧ (b' < b ∨ (b' = b ∧ szN N b' * i' + j' < k))))
theorem SM_ok (hN : Nums N) {y : T6} (h : SM N a b k y) : okT y ∧ smallT y := by
  obtain ⟨a', i', b', j', h1, h2, h3, -⟩ := h
  rw [h3]; exact tupA_ok hN h1 h2
theorem tupA_inj {a i b j a' i' b' j' : Nat} (h : tupA N a i b j = tupA N a' i' b' j') : a = a' ∧ i = i' ∧ b = b' ∧ j = j' := by
  unfold tupA at h
  simp only [Prod.mk.injEq] at h
  obtain ⟨h1, h2, h3, h4, -⟩ := h
  exact ⟨by omega, by omega, by omega, by omega⟩
theorem dm {k n : Nat} (hn : 0 < n) : n * (k / n) + k % n = k ∧ k % n < n := ⟨Nat.div_add_mod k n, Nat.mod_lt k hn⟩
theorem dm_un {n i j k : Nat} (hj : j < n) (h : n * i + j = k) : i = k / n ∧ j = k % n := by
  subst h
  rw [Nat.mul_add_mod, Nat.mod_eq_of_lt hj, Nat.mul_add_div (by omega), Nat.div_eq_of_lt hj]
  exact ⟨by omega, rfl⟩
theorem SM_new (hb : 0 < szN N b) : ¬ SM N a b k (tupA N a (k / szN N b) b (k % szN N b)) := by
  intro ⟨a', i', b', j', h1, h2, h3, h4⟩
  obtain ⟨e1, e2, e3, e4⟩ := tupA_inj h3
  subst e1; subst e2; subst e3; subst e4
  have := (dm (k := k) hb).1
  omega
theorem SM_next (hb : 0 < szN N b) (hv : Val N a (k / szN N b) b (k % szN N b)) (hg : isG N a (k / szN N b) b (k % szN N b)) (y : T6) : (SM N a b k y ∨ y = tupA N a (k / szN N b) b (k % szN N b)) ↔ SM N a b (k + 1) y := by
  have hd := dm (k := k) hb
  constructor
  · intro h
    rcases h with ⟨a', i', b', j', h1, h2, h3, h4⟩ | h
    · exact ⟨a', i', b', j', h1, h2, h3, by omega⟩
    · exact ⟨a, _, b, _, hv, hg, h, by omega⟩
  · intro ⟨a', i', b', j', h1, h2, h3, h4⟩
    by_cases q : a' = a ∧ b' = b ∧ szN N b' * i' + j' = k
    · obtain ⟨q1, q2, q3⟩ := q
      subst q1; subst q2
      obtain ⟨u1, u2⟩ := dm_un h1.2.2.2 q3
      subst u1; subst u2
      exact Or.inr h3
    · exact Or.inl ⟨a', i', b', j', h1, h2, h3, by omega⟩
theorem SM_skip (hb : 0 < szN N b) (hg : ¬ isG N a (k / szN N b) b (k % szN N b)) (y : T6) : SM N a b k y ↔ SM N a b (k + 1) y := by
  constructor
  · intro ⟨a', i', b', j', h1, h2, h3, h4⟩
    exact ⟨a', i', b', j', h1, h2, h3, by omega⟩
  · intro ⟨a', i', b', j', h1, h2, h3, h4⟩
    by_cases q : a' = a ∧ b' = b ∧ szN N b' * i' + j' = k
    · obtain ⟨q1, q2, q3⟩ := q
      subst q1; subst q2
      obtain ⟨u1, u2⟩ := dm_un h1.2.2.2 q3
      subst u1; subst u2
      exact absurd h2 hg
    · exact ⟨a', i', b', j', h1, h2, h3, by omega⟩
theorem SM_same {a2 b2 k2 : Nat} (h : ∀ a' i' b' j', Val N a' i' b' j' → ((a' < a ∨ (a' = a ∧ (b' < b ∨ (b' = b ∧ szN N b' * i' + j' < k)))) ↔ (a' < a2 ∨ (a' = a2 ∧ (b' < b2 ∨ (b' = b2 ∧ szN N b' * i' + j' < k2)))))) (y : T6) : SM N a b k y ↔ SM N a2 b2 k2 y := by
  constructor
  · intro ⟨a', i', b', j', h1, h2, h3, h4⟩
    exact ⟨a', i', b', j', h1, h2, h3, (h _ _ _ _ h1).mp h4⟩
  · intro ⟨a', i', b', j', h1, h2, h3, h4⟩
    exact ⟨a', i', b', j', h1, h2, h3, (h _ _ _ _ h1).mpr h4⟩
theorem RunN.congr {Nc : Mem} {S S' : T6 → Prop} (h : RunN N3 S Nc) (hS : ∀ y, S y ↔ S' y) : RunN N3 S' Nc := by
  obtain ⟨h1, h2, h3, h4⟩ := h
  exact ⟨h1, h2, h3, h4.congr hS (fun _ _ => rfl)⟩
theorem RunN.found {Nc N' : Mem} {S : T6 → Prop} (h : RunN N3 S Nc) (hf : ∀ r, r ≠ 9 → N' r = Nc r) : RunN N3 S N' := by
  obtain ⟨h1, h2, h3, h4⟩ := h
  refine ⟨fun r a b c => by rw [hf r c]; exact h1 r a b c, fun j hj => by rw [hf 0 (by decide)]; exact h2 j hj, by rw [hf 0 (by decide)]; exact h3, ?_⟩
  rw [hf 0 (by decide)]
  refine h4.congr (fun _ => Iff.rfl) (fun k _ => ?_)
  unfold tupN
  rw [hf 8 (by decide)]
theorem findAll_ok {Post : Int → Mem → Prop} {ns : Nat} (hN : Nums N) (h3 : Same3 N N3) (hns : N 0 1 = ns) (hab : a < b) (hbn : b < ns) (ha1 : N 4 a = 1) (hb1 : N 4 b = 1) {Nc : Mem} (hI : RunN N3 (SM N a b 0) Nc) (h : ∀ N', RunN N3 (SM N a (b + 1) 0) N' → Post (hB N a b) N') : wp_Model_findAll a b Nc Post := by
  have n6 := hN.1
  have ha6 : a < 6 := by omega
  have hb6 : b < 6 := by omega
  have sa4 := (hN.2.2.2 a ha6).2.2.1 ha1
  have sb4 := (hN.2.2.2 b hb6).2.2.1 hb1
  have sa28 := (hN.2.2.2 a ha6).1
  have sb28 := (hN.2.2.2 b hb6).1
  obtain ⟨sa, esa⟩ : ∃ sa, szN N a = sa := ⟨_, rfl⟩
  obtain ⟨sb, esb⟩ : ∃ sb, szN N b = sb := ⟨_, rfl⟩
  have ea : N 1 a = (sa : Int) := by rw [← esa]; unfold szN; omega
  have eb : N 1 b = (sb : Int) := by rw [← esb]; unfold szN; omega
  have ra : 0 < sa ∧ sa ≤ 28 := ⟨by omega, by omega⟩
  have rb : 0 < sb ∧ sb ≤ 28 := ⟨by omega, by omega⟩
  have prod : sa * sb ≤ 28 * 28 := Nat.mul_le_mul ra.2 rb.2
  have loop : ∀ f k : Nat, k + f = sa * sb → ∀ Nc, RunN N3 (SM N a b k) Nc → wp_Model_findAll_5 Post (f + 1) a b (sm (fun k => gI N a (k / szN N b) b (k % szN N b)) k) k Nc := by
    intro f
    induction f with
    | zero =>
      intro k hk Nc hI
      have c1 : Nc 1 = N 1 := by rw [hI.1 1 (by decide) (by decide) (by decide), h3.1 1 (by decide)]
      refine ⟨⟨by omega, by omega⟩, ⟨by omega, by omega⟩, ⟨by omega, by omega⟩, ?_⟩
      rw [Int.toNat_natCast, Int.toNat_natCast, c1, ea, eb, ← Int.natCast_mul]
      refine ⟨⟨by omega, by omega⟩, fun _ => ?_, fun z => absurd (show ((sa * sb : Nat) : Int) ≤ k by omega) z⟩
      have := h Nc (hI.congr (SM_same (fun a' i' b' j' hv => by
        constructor
        · intro z; omega
        · intro z
          by_cases e : a' = a ∧ b' = b
          · obtain ⟨e1, e2⟩ := e
            subst e1; subst e2
            have g1 := hv.2.2.1
            have g2 := hv.2.2.2
            rw [esa] at g1
            rw [esb] at g2 ⊢
            refine Or.inr ⟨rfl, Or.inr ⟨rfl, ?_⟩⟩
            have : sb * (i' + 1) ≤ sb * sa := Nat.mul_le_mul_left sb g1
            rw [Nat.mul_add, Nat.mul_one, Nat.mul_comm sb sa] at this
            omega
          · omega)))
      unfold hB at this
      rw [if_pos ⟨ha1, hb1⟩, esa, esb] at this
      rw [esb, show k = sa * sb by omega]
      exact this
    | succ f ih =>
      intro k hk Nc hI
      have c : ∀ r, r ≠ 0 → r ≠ 8 → r ≠ 9 → Nc r = N r := fun r x y z => by rw [hI.1 r x y z, h3.1 r x]
      have c0 : ∀ j, j ≠ 0 → j ≠ 11 → j ≠ 12 → Nc 0 j = N 0 j := fun j x y z => by rw [hI.2.1 j z, h3.2 j x y z]
      have c1 := c 1 (by decide) (by decide) (by decide)
      have hd := dm (k := k) rb.1
      have hdiv : k / sb < sa := by
        rw [Nat.div_lt_iff_lt_mul rb.1]; omega
      have hv : Val N a (k / szN N b) b (k % szN N b) := ⟨⟨hab, by omega⟩, ⟨ha1, hb1⟩, by rw [esa, esb]; exact hdiv, by rw [esb]; exact hd.2⟩
      refine ⟨⟨by omega, by omega⟩, ⟨by omega, by omega⟩, ⟨by omega, by omega⟩, ?_⟩
      rw [Int.toNat_natCast, Int.toNat_natCast, c1, ea, eb, ← Int.natCast_mul]
      refine ⟨⟨by omega, by omega⟩, fun z => absurd z (by omega), fun _ => ⟨⟨by omega, by omega⟩, ⟨by omega, by omega, by omega, by omega⟩, ⟨by omega, by omega⟩, ⟨by omega, by omega, by omega, by omega⟩, ?_⟩⟩
      rw [show ((k : Nat) : Int) / ((sb : Nat) : Int) = ((k / sb : Nat) : Int) from rfl, show ((k : Nat) : Int) % ((sb : Nat) : Int) = ((k % sb : Nat) : Int) from rfl]
      have hgo : ∀ (Nd : Mem), RunN N3 (SM N a b (k + 1)) Nd → isG N a (k / szN N b) b (k % szN N b) → wp_Model_findAll_5 Post (f + 1) a b (sm (fun k => gI N a (k / szN N b) b (k % szN N b)) k + 1) ((k : Int) + 1) Nd := by
        intro Nd hNd hg
        have := ih (k + 1) (by omega) Nd hNd
        have e : sm (fun k => gI N a (k / szN N b) b (k % szN N b)) (k + 1) = sm (fun k => gI N a (k / szN N b) b (k % szN N b)) k + 1 := by
          show _ + gI N a (k / szN N b) b (k % szN N b) = _
          unfold gI; rw [if_pos hg]
        rw [e] at this
        exact this
      have hno : ∀ (Nd : Mem), RunN N3 (SM N a b (k + 1)) Nd → ¬ isG N a (k / szN N b) b (k % szN N b) → wp_Model_findAll_5 Post (f + 1) a b (sm (fun k => gI N a (k / szN N b) b (k % szN N b)) k) ((k : Int) + 1) Nd := by
        intro Nd hNd hg
        have := ih (k + 1) (by omega) Nd hNd
        have e : sm (fun k => gI N a (k / szN N b) b (k % szN N b)) (k + 1) = sm (fun k => gI N a (k / szN N b) b (k % szN N b)) k := by
          show _ + gI N a (k / szN N b) b (k % szN N b) = _
          unfold gI; rw [if_neg hg, Int.add_zero]
        rw [e] at this
        exact this
      have c2 := c 2 (by decide) (by decide) (by decide)
      have c3 := c 3 (by decide) (by decide) (by decide)
      have c9 := c0 9 (by decide) (by decide) (by decide)
      have c10 := c0 10 (by decide) (by decide) (by decide)
      have n9 := hN.2.1
      have eq : qN N a (k / sb) b (k % sb) = qOf (fun t => Nc 2 (28 * a + t)) (fun t => Nc 2 (28 * b + t)) (k / sb) (k % sb) := by rw [c2]; rfl
      have el : lenN N a (k / sb) b (k % sb) = lenF sa sb (fun t => Nc 2 (28 * a + t)) (fun t => Nc 2 (28 * b + t)) (k / sb) (k % sb) (qN N a (k / sb) b (k % sb)) := by
        rw [c2]; unfold lenN; rw [esa, esb]; rfl
      have es : suN N a (k / sb) b (k % sb) = sm (sqF sa sb (fun t => Nc 3 (28 * a + t)) (fun t => Nc 3 (28 * b + t)) (k / sb) (k % sb)) (lenN N a (k / sb) b (k % sb)) := by
        rw [c3]; unfold suN; rw [esa, esb]; rfl
      refine finds_ok (Post := fun r_1 M_2 => (in32 r_1 ∧ (¬ r_1 = 0 → (∀ v3_3 : Int, v3_3 = sm (fun k => gI N a (k / szN N b) b (k % szN N b)) k + 1 → (wp_Model_put M_2 (fun M_5 => (∀ v4_6 : Int, v4_6 = (k : Int) + 1 → wp_Model_findAll_5 Post (f + 1) a b v3_3 v4_6 M_5))))) ∧ (r_1 = 0 → (∀ v4_7 : Int, v4_7 = (k : Int) + 1 → wp_Model_findAll_5 Post (f + 1) a b (sm (fun k => gI N a (k / szN N b) b (k % szN N b)) k) v4_7 M_2)))) ha6 hb6 (by rw [c1]; exact ea) (by rw [c1]; exact eb) ra rb hdiv hd.2 (by rw [c9]; exact ⟨by omega, by omega⟩) (by rw [c10]; exact hN.2.2.1) (fun s hs t ht => by rw [c3]; exact (hN.2.2.2 s hs).2.2.2.2 t ht) _ eq _ el _ es (fun hc => ?_) (fun hc r N' hr hiff hf => ?_)
      · rw [c2] at hc
        have hng : ¬ isG N a (k / szN N b) b (k % szN N b) := fun q => by
          have := q.1
          rw [esa, esb] at this
          exact this hc
        refine ⟨xl rfl, fun z => absurd rfl z, fun _ v hv4 => ?_⟩
        rw [hv4]
        exact hno Nc (hI.congr (SM_skip (by rw [esb]; exact rb.1) hng)) hng
      · rw [c2] at hc
        rw [c9, c10] at hiff
        have hig : r = 1 ↔ isG N a (k / szN N b) b (k % szN N b) := by
          rw [esb]
          constructor
          · intro z
            have := hiff.mp z
            refine ⟨?_, this.1, this.2⟩
            rw [esa, esb]; exact hc
          · intro z
            exact hiff.mpr ⟨z.2.1, z.2.2⟩
        obtain ⟨hf0, fa, fi, fb, fj, fn, fs⟩ := hf
        refine ⟨by rcases hr with z | z <;> rw [z] <;> exact xl rfl, fun z v3 h3' => ?_, fun z v4 h4 => ?_⟩
        · have hg := hig.mp (by omega)
          have e9 : tup9 N' = tupA N a (k / szN N b) b (k % szN N b) := by
            rw [esb]
            unfold tup9 tupR tupA
            rw [fa, fi, fb, fj, fn, fs]
          refine put_ok (hI.found hf0) (fun y hy => SM_ok hN hy) (tupA_ok hN hv hg) e9 (SM_new (by rw [esb]; exact rb.1)) (fun N5 hN5 v4 h4 => ?_)
          rw [h3', h4]
          exact hgo N5 (hN5.congr (SM_next (by rw [esb]; exact rb.1) hv hg)) hg
        · have hng : ¬ isG N a (k / szN N b) b (k % szN N b) := fun q => by have := hig.mpr q; omega
          rw [h4]
          exact hno N' ((hI.found hf0).congr (SM_skip (by rw [esb]; exact rb.1) hng)) hng
  exact ⟨sa * sb + 1, loop (sa * sb) 0 (by omega) Nc hI⟩
theorem run31_ok {X19 : Int → Int → Mem → Prop} {Post : Int → Mem → Prop} {ns : Nat} (hN : Nums N) (h3 : Same3 N N3) (hns : N 0 1 = ns) :
    ∀ f b : Nat, b + f = ns → a < b → ∀ (Nc : Mem) (x1 : Int), RunN N3 (SM N a b 0) Nc → (∀ N', RunN N3 (SM N (a + 1) (a + 2) 0) N' → X19 (x1 + sm (fun t => hB N a (b + t)) f) ((a + 1 : Nat) : Int) N') → wp_Model_run_31 X19 Post (f + 1) x1 a b Nc := by
  have n6 := hN.1
  intro f
  induction f with
  | zero =>
    intro b hb hab Nc x1 hI h
    have e1 : Nc 0 1 = ns := by rw [hI.2.1 1 (by decide), h3.2 1 (by decide) (by decide) (by decide), hns]
    refine ⟨⟨by omega, by omega⟩, by rw [e1]; exact ⟨by omega, by omega⟩, fun _ v hv => ?_, fun z => absurd (show Nc 0 1 ≤ (b : Int) by omega) z⟩
    have := h Nc (hI.congr (SM_same (fun a' i' b' j' hv => by
      have h1 := hv.1
      constructor <;> intro z <;> omega)))
    rw [show sm (fun t => hB N a (b + t)) 0 = 0 from rfl, Int.add_zero] at this
    rw [hv]
    exact this
  | succ f ih =>
    intro b hb hab Nc x1 hI h
    have e1 : Nc 0 1 = ns := by rw [hI.2.1 1 (by decide), h3.2 1 (by decide) (by decide) (by decide), hns]
    have e4 : Nc 4 = N 4 := by rw [hI.1 4 (by decide) (by decide) (by decide), h3.1 4 (by decide)]
    have ha6 : a < 6 := by omega
    have hb6 : b < 6 := by omega
    have za := (hN.2.2.2 a ha6).2.1
    have zb := (hN.2.2.2 b hb6).2.1
    have next : ∀ (N' : Mem) (v : Int), RunN N3 (SM N a (b + 1) 0) N' → v = x1 + hB N a b → wp_Model_run_31 X19 Post (f + 1) v a ((b : Int) + 1) N' := by
      intro N' v hN' hv
      refine ih (b + 1) (by omega) (by omega) N' v hN' (fun N2 hN2 => ?_)
      have := h N2 hN2
      rw [sm_front, Nat.add_zero] at this
      have e : sm (fun t => hB N a (b + 1 + t)) f = sm (fun k => hB N a (b + (k + 1))) f := sm_congr (fun k _ => by rw [show b + 1 + k = b + (k + 1) by omega])
      rw [e, hv, Int.add_assoc]
      exact this
    have none : ¬ (N 4 a = 1 ∧ N 4 b = 1) → wp_Model_run_31 X19 Post (f + 1) (x1 + 0) a ((b : Int) + 1) Nc := by
      intro hz
      refine next Nc _ (hI.congr (SM_same (fun a' i' b' j' hv => by
        have h1 := hv.2.1
        constructor
        · intro z; omega
        · intro z
          by_cases e : a' = a ∧ b' = b
          · rw [e.1, e.2] at h1; exact absurd h1 hz
          · omega))) ?_
      unfold hB
      rw [if_neg hz]
    refine ⟨⟨by omega, by omega⟩, by rw [e1]; exact ⟨by omega, by omega⟩, fun z => absurd z (by omega), fun _ => ⟨⟨by omega, by omega⟩, ?_⟩⟩
    rw [Int.toNat_natCast, Int.toNat_natCast, e4]
    refine ⟨by rcases za with q | q <;> rw [q] <;> exact xl rfl, fun q v1 h1 v3 h3' => ?_, fun q => ⟨⟨by omega, by omega⟩, by rcases zb with q | q <;> rw [q] <;> exact xl rfl, fun q2 v1 h1 v3 h3' => ?_, fun q2 => findAll_ok hN h3 hns hab (by omega) (by omega) (by omega) hI (fun N' hN' v1 h1 v3 h3' => ?_)⟩⟩
    · rw [h1, h3']; exact none (by omega)
    · rw [h1, h3']; exact none (by omega)
    · rw [h3']; exact next N' v1 hN' h1
theorem run19_ok {Post : Int → Mem → Prop} {ns : Nat} (hN : Nums N) (h3 : Same3 N N3) (hns : N 0 1 = ns) :
    ∀ f a : Nat, a + f = ns → ∀ (Nc : Mem) (x1 : Int), RunN N3 (SM N a (a + 1) 0) Nc → (∀ N', RunN N3 (SM N ns (ns + 1) 0) N' → Post (x1 + sm (fun t => sm (fun u => hB N (a + t) (a + t + 1 + u)) (ns - (a + t + 1))) f) N') → wp_Model_run_19 Post (f + 1) x1 a Nc := by
  have n6 := hN.1
  intro f
  induction f with
  | zero =>
    intro a ha Nc x1 hI h
    have e1 : Nc 0 1 = ns := by rw [hI.2.1 1 (by decide), h3.2 1 (by decide) (by decide) (by decide), hns]
    refine ⟨⟨by omega, by omega⟩, by rw [e1]; exact ⟨by omega, by omega⟩, fun _ => ?_, fun z => absurd (show Nc 0 1 ≤ (a : Int) by omega) z⟩
    have han : a = ns := by omega
    subst han
    have := h Nc hI
    rw [show sm (fun t => sm (fun u => hB N (a + t) (a + t + 1 + u)) (a - (a + t + 1))) 0 = 0 from rfl, Int.add_zero] at this
    exact this
  | succ f ih =>
    intro a ha Nc x1 hI h
    have e1 : Nc 0 1 = ns := by rw [hI.2.1 1 (by decide), h3.2 1 (by decide) (by decide) (by decide), hns]
    refine ⟨⟨by omega, by omega⟩, by rw [e1]; exact ⟨by omega, by omega⟩, fun z => absurd z (by omega), fun _ v hv => ⟨ns - (a + 1) + 1, ?_⟩⟩
    rw [hv]
    refine run31_ok hN h3 hns (ns - (a + 1)) (a + 1) (by omega) (by omega) Nc x1 hI (fun N' hN' => ?_)
    refine ih (a + 1) (by omega) N' _ hN' (fun N2 hN2 => ?_)
    have := h N2 hN2
    rw [sm_front, Nat.add_zero] at this
    have e : sm (fun t => sm (fun u => hB N (a + 1 + t) (a + 1 + t + 1 + u)) (ns - (a + 1 + t + 1))) f = sm (fun k => sm (fun u => hB N (a + (k + 1)) (a + (k + 1) + 1 + u)) (ns - (a + (k + 1) + 1))) f := sm_congr (fun k _ => by rw [show a + 1 + k = a + (k + 1) by omega])
    rw [e, Int.add_assoc]
    exact this
theorem sm_const0 {f : Nat → Int} (n : Nat) (h : ∀ k, f k = 0) : sm f n = 0 := sm_zero (fun k _ => h k)
/-- both have counted the same -/
theorem count_same (hN : Nums N) {ns : Nat} (hns : N 0 1 = ns) : sm (fun t => rowA N ns (0 + t)) ns = sm (fun t => sm (fun u => hB N (0 + t) (0 + t + 1 + u)) (ns - (0 + t + 1))) ns := by
  have n6 := hN.1
  refine sm_congr (fun a ha => ?_)
  rw [Nat.zero_add]
  have ha6 : a < 6 := by omega
  unfold rowA
  by_cases hc : N 4 a = 1
  · rw [if_pos hc, sm_swap (fun i u => gB N a i (a + 1 + u))]
    refine sm_congr (fun u hu => ?_)
    have hb6 : a + 1 + u < 6 := by omega
    unfold gB hB
    by_cases hb : N 4 (a + 1 + u) = 1
    · rw [if_pos ⟨hc, hb⟩, Nat.mul_comm, sm_rows]
      refine sm_congr (fun i hi => ?_)
      rw [if_pos hb]
      refine sm_congr (fun j hj => ?_)
      obtain ⟨e1, e2⟩ := dm_un hj (rfl : szN N (a + 1 + u) * i + j = szN N (a + 1 + u) * i + j)
      rw [← e1, ← e2]
    · rw [if_neg (fun z => hb z.2)]
      exact sm_const0 _ (fun i => if_neg hb)
  · rw [if_neg hc]
    refine (sm_const0 _ (fun u => ?_)).symm
    unfold hB
    rw [if_neg (fun z => hc z.1)]
end RN
theorem ob_run : Ob_run Rel := by
  intro M N hR
  obtain ⟨h1, h2, h3, h4⟩ := id hR
  obtain ⟨⟨c1, c2, c3⟩, c4, c5, c6⟩ := id h1
  obtain ⟨p1, p2, p3, p4, p5, p6, p7⟩ := id h4
  have hN := Nums.of h1 h2
  obtain ⟨ns, hns⟩ : ∃ ns : Nat, N 0 1 = ns := ⟨(N 0 1).toNat, by omega⟩
  intro M2 hM2
  have r8 : ∀ r, r ≠ 8 → M2 r = M r := fun r hr => by rw [hM2, up_ne hr]
  have hC2 : RelC M2 N := by
    unfold RelC
    rw [r8 0 (by decide)]
    exact h1
  have hE2 : RelE M2 N := h2.same (fun s j hs hj => r8 _ (by omega)) (fun _ _ _ => rfl) rfl
  have e81 : M2 8 1 = 0 := by rw [hM2, up_ss]
  have noC : ∀ y, ¬ SC N 0 0 1 0 y := fun y ⟨a', i', b', j', q1, q2, q3, q4⟩ => by
    have := q1.1
    omega
  have noM : ∀ y, ¬ SM N 0 1 0 y := fun y ⟨a', i', b', j', q1, q2, q3, q4⟩ => by
    have := q1.1
    omega
  have hI0 : RunC M2 N (SC N 0 0 1 0) M2 := by
    refine ⟨fun _ _ _ _ => rfl, by rw [e81]; exact ⟨by decide, by decide⟩, by rw [r8 9 (by decide)]; exact p2, ?_, fun k hk => by omega⟩
    rw [e81]
    exact ⟨by decide, fun i j _ hj => absurd hj (by simp), fun k hk => absurd hk (by simp), fun x hx => absurd hx (noC x)⟩
  refine ⟨ns + 1, run11_ok hN hC2 hE2 hns ns 0 (by omega) M2 0 hI0 (fun M' hM' => ?_)⟩
  intro N1 e1 N2 e2 N3 e3
  have hs3 : Same3 N N3 := ⟨fun r hr => by rw [e3, up_ne hr, e2, up_ne hr, e1, up_ne hr], fun j a b c => by rw [e3, up_nj b, e2, up_nj c, e1, up_nj a]⟩
  have n12 : N3 0 12 = 0 := by rw [e3, up_nj (by decide), e2, up_ss]
  have n11 : N3 0 11 = 1 := by rw [e3, up_ss]
  have hJ0 : RunN N3 (SM N 0 1 0) N3 := by
    refine ⟨fun _ _ _ _ => rfl, fun _ _ => rfl, by rw [n12]; exact ⟨by decide, by decide⟩, ?_⟩
    rw [n12]
    exact ⟨by decide, fun i j _ hj => absurd hj (by simp), fun k hk => absurd hk (by simp), fun x hx => absurd hx (noM x)⟩
  refine ⟨ns + 1, run19_ok hN hs3 hns ns 0 (by omega) N3 0 hJ0 (fun N' hN' => ⟨by rw [count_same hN hns], ?_⟩)⟩
  have q : ∀ r, r ≠ 0 → r ≠ 8 → r ≠ 9 → N' r = N r := fun r a b c => by rw [hN'.1 r a b c, hs3.1 r a]
  have z : ∀ j, j ≠ 0 → j ≠ 11 → j ≠ 12 → N' 0 j = N 0 j := fun j a b c => by rw [hN'.2.1 j c, hs3.2 j a b c]
  have z11 : N' 0 11 = 1 := by rw [hN'.2.1 11 (by decide), n11]
  have p : ∀ r, r ≠ 8 → r ≠ 9 → ¬ (10 ≤ r ∧ r < 111) → M' r = M r := fun r a b c => by rw [hM'.1 r a b c, r8 r a]
  have hset : ∀ y, SM N ns (ns + 1) 0 y ↔ SC N ns 0 (ns + 1) 0 y := by
    intro y
    constructor
    · intro ⟨a', i', b', j', g1, g2, g3, g4⟩
      have := g1.1
      exact ⟨a', i', b', j', g1, g2, g3, by omega⟩
    · intro ⟨a', i', b', j', g1, g2, g3, g4⟩
      have := g1.1
      exact ⟨a', i', b', j', g1, g2, g3, by omega⟩
  have hN2 := hN'.congr hset
  obtain ⟨u1, u2⟩ := hM'.2.2.2.1.uniq (fun x hx => (SC_ok hN hx).1.1.1) hN2.2.2.2
  have m81 := hM'.2.1
  have n12' := hN'.2.2.1
  have heq : M' 8 1 = N' 0 12 := by omega
  refine ⟨?_, ?_, ?_, ?_⟩
  · unfold RelC
    rw [p 0 (by decide) (by decide) (by omega), z 1 (by decide) (by decide) (by decide), z 9 (by decide) (by decide) (by decide), z 10 (by decide) (by decide) (by decide), q 4 (by decide) (by decide) (by decide)]
    exact h1
  · exact h2.same (fun s j hs hj => p _ (by omega) (by omega) (by omega)) (fun r a b => q r (by omega) (by omega) (by omega)) (z 1 (by decide) (by decide) (by decide))
  · exact h3.same (by rw [p 0 (by decide) (by decide) (by omega)]) (z 17 (by decide) (by decide) (by decide)) (fun k a b => p k (by omega) (by omega) (by omega)) (fun j i a b c => p _ (by omega) (by omega) (by omega)) (q 10 (by decide) (by decide) (by decide)) (q 11 (by decide) (by decide) (by decide)) (q 4 (by decide) (by decide) (by decide)) (fun s _ _ => ⟨p _ (by omega) (by omega) (by omega), p _ (by omega) (by omega) (by omega), by rw [q 1 (by decide) (by decide) (by decide)]⟩)
  · refine ⟨m81, hM'.2.2.1, Or.inr z11, n12', fun x => absurd (z11.symm.trans x) (by decide), fun _ => heq, fun k hk => ?_⟩
    have hk1 : k < (M' 8 1).toNat := by omega
    have et := u2 k hk1
    have hS := hM'.2.2.2.1.2.2.1 k hk1
    obtain ⟨a', i', b', j', g1, g2, g3, g4⟩ := hS
    have hq := hM'.2.2.2.2 k hk
    have et2 : tupN N' k = tupA N a' i' b' j' := by rw [← et, g3]
    have f0 : N' 8 (6 * k) = a' := congrArg (fun t : T6 => t.1) et2
    have f1 : N' 8 (6 * k + 1) = i' := congrArg (fun t : T6 => t.2.1) et2
    have f2 : N' 8 (6 * k + 2) = b' := congrArg (fun t : T6 => t.2.2.1) et2
    have f3 : N' 8 (6 * k + 3) = j' := congrArg (fun t : T6 => t.2.2.2.1) et2
    obtain ⟨v1, v2, v3, v4⟩ := g1
    refine ⟨fun j hj => ?_, ?_, ?_⟩
    · rcases (show j = 0 ∨ j = 1 ∨ j = 2 ∨ j = 3 ∨ j = 4 ∨ j = 5 by omega) with rfl | rfl | rfl | rfl | rfl | rfl
      · exact congrArg (fun t : T6 => t.1) et
      · exact congrArg (fun t : T6 => t.2.1) et
      · exact congrArg (fun t : T6 => t.2.2.1) et
      · exact congrArg (fun t : T6 => t.2.2.2.1) et
      · exact congrArg (fun t : T6 => t.2.2.2.2.1) et
      · exact congrArg (fun t : T6 => t.2.2.2.2.2) et
    · unfold PairOK
      rw [f0, f1, f2, f3, Int.toNat_natCast, Int.toNat_natCast, q 4 (by decide) (by decide) (by decide), q 1 (by decide) (by decide) (by decide), z 1 (by decide) (by decide) (by decide)]
      unfold szN at v3 v4
      exact ⟨⟨by omega, by omega, by omega⟩, v2, ⟨by omega, by omega⟩, by omega, by omega⟩
    · rw [hq, g3, f0, f1, f2, f3, q 2 (by decide) (by decide) (by decide)]
      rfl
