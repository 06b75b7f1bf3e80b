/-! run: what is found, and the class's way through it -/
def szN (N : Mem) (s : Nat) : Nat := (N 1 s).toNat
def dN (N : Mem) (s : Nat) : Nat → Int := fun k => N 2 (28 * s + k)
def htN (N : Mem) (s : Nat) : Nat → Int := fun k => N 3 (28 * s + k)
def qN (N : Mem) (a i b j : Nat) : Int := qOf (dN N a) (dN N b) i j
def lenN (N : Mem) (a i b j : Nat) : Nat := lenF (szN N a) (szN N b) (dN N a) (dN N b) i j (qN N a i b j)
def suN (N : Mem) (a i b j : Nat) : Int := sm (sqF (szN N a) (szN N b) (htN N a) (htN N b) i j) (lenN N a i b j)
def tupA (N : Mem) (a i b j : Nat) : T6 := ((a : Int), (i : Int), (b : Int), (j : Int), (lenN N a i b j : Int), suN N a i b j)
abbrev isG (N : Mem) (a i b j : Nat) : Prop := ¬ ctr (N 2 (28 * a + (i + szN N a - 1) % szN N a)) (N 2 (28 * b + (j + 1) % szN N b)) (qN N a i b j) ∧ N 0 9 ≤ (lenN N a i b j : Int) ∧ suN N a i b j ≤ N 0 10 * (lenN N a i b j : Int)
def Val (N : Mem) (a i b j : Nat) : Prop := (a < b ∧ (b : Int) < N 0 1) ∧ (N 4 a = 1 ∧ N 4 b = 1) ∧ i < szN N a ∧ j < szN N b
def gI (N : Mem) (a i b j : Nat) : Int := if isG N a i b j then 1 else 0
def gB (N : Mem) (a i b : Nat) : Int := if N 4 b = 1 then sm (fun j => gI N a i b j) (szN N b) else 0
/-- the reference's numbers, as far as run reads them -/
def Nums (N : Mem) : Prop := (0 ≤ N 0 1 ∧ N 0 1 ≤ 6) ∧ (2 ≤ N 0 9 ∧ N 0 9 ≤ 20) ∧ (0 ≤ N 0 10 ∧ N 0 10 ≤ 9801) ∧ ∀ s, s < 6 → (0 ≤ N 1 s ∧ N 1 s ≤ 28) ∧ (N 4 s = 0 ∨ N 4 s = 1) ∧ (N 4 s = 1 → 4 ≤ N 1 s) ∧ (∀ k, k < 28 → 0 ≤ N 2 (28 * s + k) ∧ N 2 (28 * s + k) ≤ 3) ∧ ∀ k, k < 28 → 0 ≤ N 3 (28 * s + k) ∧ N 3 (28 * s + k) ≤ 99
theorem Nums.of {M N : Mem} (h1 : RelC M N) (h2 : RelE M N) : Nums N := by
  obtain ⟨⟨c1, c2, c3⟩, c4, c5, c6⟩ := h1
  refine ⟨⟨c2, c3⟩, c5.2, c6.2, fun s hs => ?_⟩
  obtain ⟨⟨e1, e2, e3, e4, e5, e6⟩, -⟩ := h2 s hs
  exact ⟨e1.2, e2.2, fun h => (e6 h).1, fun k hk => (e3 k hk).2, fun k hk => (e4 k hk).2⟩
theorem before_at {M : Mem} {k0 sa i : Nat} {Post : Int → Prop} (hs : M k0 4 = sa) (h28 : 0 < sa ∧ sa ≤ 28) (hi : i < sa) (h : Post (((i + sa - 1) % sa : Nat) : Int)) : wp_Edge_before k0 i M Post := by
  have e := before_ok (y := i + sa) hs h28 (by omega) h
  rw [show (i + sa) % sa = i by rw [Nat.add_mod_right]; exact Nat.mod_eq_of_lt hi] at e
  exact e
theorem after_at {M : Mem} {k0 sa i : Nat} {Post : Int → Prop} (hs : M k0 4 = sa) (h28 : 0 < sa ∧ sa ≤ 28) (hi : i < sa) (h : Post (((i + 1) % sa : Nat) : Int)) : wp_Edge_after k0 i M Post := by
  have e := after_ok (x := i) hs h28 h
  rw [show i % sa = i from Nat.mod_eq_of_lt hi] at e
  exact e
section RC
variable {N : Mem} {a i b j : Nat}
theorem Val.lt (hN : Nums N) (h : Val N a i b j) : a < 6 ∧ b < 6 ∧ (0 < szN N a ∧ szN N a ≤ 28) ∧ (0 < szN N b ∧ szN N b ≤ 28) := by
  obtain ⟨⟨h1, h2⟩, ⟨h3, h4⟩, h5, h6⟩ := h
  have := hN.1
  have ha : a < 6 := by omega
  have hb : b < 6 := by omega
  have sa := (hN.2.2.2 a ha).1
  have sb := (hN.2.2.2 b hb).1
  unfold szN at h5 h6 ⊢
  exact ⟨ha, hb, ⟨by omega, by omega⟩, by omega, by omega⟩
theorem lenN_le (N : Mem) (a i b j : Nat) : lenN N a i b j ≤ min (szN N a) (szN N b) := by
  have := (runL_le (PM (szN N a) (szN N b) (dN N a) (dN N b) i j (qN N a i b j)) (min (szN N a) (szN N b)) 0).2
  unfold lenN lenF
  omega
theorem suN_le (hN : Nums N) (h : Val N a i b j) : 0 ≤ suN N a i b j ∧ suN N a i b j ≤ 9801 * (lenN N a i b j : Int) := by
  obtain ⟨ha, hb, hsa, hsb⟩ := h.lt hN
  have h1 := (hN.2.2.2 a ha).2.2.2.2
  have h2 := (hN.2.2.2 b hb).2.2.2.2
  exact sqF_le hsa.1 hsb.1 (fun k hk => h1 k (by omega)) (fun k hk => h2 k (by omega)) _
theorem tupA_ok (hN : Nums N) (h : Val N a i b j) (hg : isG N a i b j) : okT (tupA N a i b j) ∧ smallT (tupA N a i b j) := by
  obtain ⟨ha, hb, hsa, hsb⟩ := h.lt hN
  have h1 := lenN_le N a i b j
  have h2 := suN_le hN h
  have h3 := hg.2.1
  have h4 := hN.2.1
  obtain ⟨-, -, h5, h6⟩ := h
  refine ⟨⟨⟨?_, ?_⟩, ?_, ?_⟩, ⟨?_, ?_⟩, ⟨?_, ?_⟩, ⟨?_, ?_⟩, ?_, ?_⟩
  · show 0 < (lenN N a i b j : Int); omega
  · show (lenN N a i b j : Int) ≤ 28; omega
  · show 0 ≤ suN N a i b j; omega
  · show suN N a i b j ≤ 300000; omega
  · show -2147483648 ≤ (a : Int); omega
  · show (a : Int) ≤ 2147483647; omega
  · show -2147483648 ≤ (i : Int); omega
  · show (i : Int) ≤ 2147483647; omega
  · show -2147483648 ≤ (b : Int); omega
  · show (b : Int) ≤ 2147483647; omega
  · show -2147483648 ≤ (j : Int); omega
  · show (j : Int) ≤ 2147483647; omega
/-- what the class has offered before it comes to a, i, b, j -/
def SC (N : Mem) (a i b j : Nat) : T6 → Prop := fun y => ∃ a' i' b' j' : Nat, Val N a' i' b' j' ∧ isG N a' i' b' j' ∧ y = tupA N a' i' b' j' ∧ (a' < a ∨ (a' = a ∧ (i' < i ∨ (i' = i ∧ (b' < b ∨ (b' = b ∧ j' < j))))))
theorem SC_ok (hN : Nums N) {y : T6} (h : SC N a i b j y) : okT y ∧ smallT y := by
  obtain ⟨a', i', b', j', h1, h2, h3, -⟩ := h
  rw [h3]; exact tupA_ok hN h1 h2
theorem SC_key {y : T6} (h : SC N a i b j y) : lexL y (tupA N a i b j) := by
  obtain ⟨a', i', b', j', h1, h2, h3, h4⟩ := h
  rw [h3]
  unfold lexL tupA
  dsimp only
  omega
theorem SC_next (hv : Val N a i b j) (hg : isG N a i b j) (y : T6) : (SC N a i b j y ∨ y = tupA N a i b j) ↔ SC N a i b (j + 1) y := by
  constructor
  · intro h
    rcases h with ⟨a', i', b', j', h1, h2, h3, h4⟩ | h
    · exact ⟨a', i', b', j', h1, h2, h3, by omega⟩
    · exact ⟨a, i, b, j, hv, hg, h, by omega⟩
  · intro ⟨a', i', b', j', h1, h2, h3, h4⟩
    by_cases q : a' = a ∧ i' = i ∧ b' = b ∧ j' = j
    · obtain ⟨q1, q2, q3, q4⟩ := q
      subst q1; subst q2; subst q3; subst q4
      exact Or.inr h3
    · exact Or.inl ⟨a', i', b', j', h1, h2, h3, by omega⟩
theorem SC_skip (hg : ¬ isG N a i b j) (y : T6) : SC N a i b j y ↔ SC N a i b (j + 1) y := by
  constructor
  · intro ⟨a', i', b', j', h1, h2, h3, h4⟩
    exact ⟨a', i', b', j', h1, h2, h3, by omega⟩
  · intro ⟨a', i', b', j', h1, h2, h3, h4⟩
    by_cases q : a' = a ∧ i' = i ∧ b' = b ∧ j' = j
    · obtain ⟨q1, q2, q3, q4⟩ := q
      subst q1; subst q2; subst q3; subst q4
      exact absurd h2 hg
    · exact ⟨a', i', b', j', h1, h2, h3, by omega⟩
theorem SC_same {a2 i2 b2 j2 : Nat} (h : ∀ a' i' b' j', Val N a' i' b' j' → ((a' < a ∨ (a' = a ∧ (i' < i ∨ (i' = i ∧ (b' < b ∨ (b' = b ∧ j' < j)))))) ↔ (a' < a2 ∨ (a' = a2 ∧ (i' < i2 ∨ (i' = i2 ∧ (b' < b2 ∨ (b' = b2 ∧ j' < j2)))))))) (y : T6) : SC N a i b j y ↔ SC N a2 i2 b2 j2 y := by
  constructor
  · intro ⟨a', i', b', j', h1, h2, h3, h4⟩
    exact ⟨a', i', b', j', h1, h2, h3, (h _ _ _ _ h1).mp h4⟩
  · intro ⟨a', i', b', j', h1, h2, h3, h4⟩
    exact ⟨a', i', b', j', h1, h2, h3, (h _ _ _ _ h1).mpr h4⟩
theorem RunC.congr {M0 M : Mem} {S S' : T6 → Prop} (h : RunC M0 N S M) (hS : ∀ y, S y ↔ S' y) : RunC M0 N S' M := by
  obtain ⟨h1, h2, h3, h4, h5⟩ := h
  exact ⟨h1, h2, h3, h4.congr hS (fun _ _ => rfl), h5⟩
variable {M0 M : Mem}
theorem PM_congr {sa sb : Nat} {da db da' db' : Nat → Int} {q : Int} (h1 : 0 < sa) (h2 : 0 < sb) (ha : ∀ k, k < sa → da k = da' k) (hb : ∀ k, k < sb → db k = db' k) : PM sa sb da db i j q = PM sa sb da' db' i j q := by
  funext m
  unfold PM
  rw [ha _ (Nat.mod_lt _ h1), hb _ (Nat.mod_lt _ h2)]
theorem listIf_ok {Post : Int → Mem → Prop} (hN : Nums N) (hC : RelC M0 N) (hE : RelE M0 N) (hv : Val N a i b j) (hI : RunC M0 N (SC N a i b j) M) (h1 : isG N a i b j → ∀ M', RunC M0 N (SC N a i b (j + 1)) M' → Post 1 M') (h0 : ¬ isG N a i b j → RunC M0 N (SC N a i b (j + 1)) M → Post 0 M) : wp_X_listIfPair a i b j M Post := by
  obtain ⟨ha, hb, hsa, hsb⟩ := hv.lt hN
  have hia : i < szN N a := hv.2.2.1
  have hjb : j < szN N b := hv.2.2.2
  have fr := hI.1
  have rE : ∀ s k, s < 6 → k < 5 → M (114 + 10 * s + k) = M0 (114 + 10 * s + k) := fun s k hs hk => fr _ (by omega) (by omega) (by omega)
  have st : ∀ s k, s < 6 → k < 28 → M (114 + 10 * s + 1) k = N 2 (28 * s + k) := fun s k hs hk => by rw [rE s 1 hs (by omega)]; exact ((hE s hs).1.2.2.1 k hk).1
  have hg : ∀ s k, s < 6 → k < 28 → M (114 + 10 * s + 2) k = N 3 (28 * s + k) := fun s k hs hk => by rw [rE s 2 hs (by omega)]; exact ((hE s hs).1.2.2.2.1 k hk).1
  have sz : ∀ s, s < 6 → M (114 + 10 * s) 4 = (szN N s : Int) := fun s hs => by
    have e := rE s 0 hs (by omega)
    rw [Nat.add_zero] at e
    rw [e, (hE s hs).1.1.1]
    unfold szN
    have := (hE s hs).1.1.2
    omega
  have m0 : M 0 = M0 0 := fr 0 (by omega) (by omega) (by omega)
  have la := lenN_le N a i b j
  have su := suN_le hN hv
  have hbn : 0 ≤ N 0 10 * (lenN N a i b j : Int) ∧ N 0 10 * (lenN N a i b j : Int) ≤ 9801 * 28 := ⟨Int.mul_nonneg hN.2.2.1.1 (by omega), Int.mul_le_mul hN.2.2.1.2 (by omega) (by omega) (by omega)⟩
  refine ⟨⟨by omega, by omega⟩, fun k5 h5 => ⟨⟨by omega, by omega⟩, fun k6 h6 => ⟨⟨by omega, by omega⟩, ⟨by omega, by omega⟩, fun v7 h7 => ?_⟩⟩⟩
  rw [Int.toNat_natCast] at h5 h6
  subst h5
  subst h6
  rw [Int.toNat_natCast, Int.toNat_natCast, st a i ha (by omega), st b j hb (by omega)] at h7
  have h7 : v7 = qN N a i b j := h7
  have no : ¬ isG N a i b j → Post 0 M := fun q => h0 q (hI.congr (SC_skip q))
  have hbef := Nat.mod_lt (i + szN N a - 1) hsa.1
  have haft := Nat.mod_lt (j + 1) hsb.1
  refine before_at (sz a ha) hsa hia ⟨⟨by omega, by omega⟩, after_at (sz b hb) hsb hjb ⟨⟨by omega, by omega⟩, ?_⟩⟩
  rw [Int.toNat_natCast, Int.toNat_natCast, st a _ ha (by omega), st b _ hb (by omega), h7]
  refine ctr_ok (fun hc => ⟨xl rfl, fun _ => ?_, fun q => absurd rfl q⟩) (fun hc => ⟨xl rfl, fun q => absurd q (by decide), fun _ => no (fun q => q.1 hc)⟩)
  refine stretch_ok (sz a ha) (sz b hb) hsa hsb hia hjb ?_
  have el : lenF (szN N a) (szN N b) (M (114 + 10 * a + 1)) (M (114 + 10 * b + 1)) i j (qN N a i b j) = lenN N a i b j := by
    unfold lenN lenF
    rw [PM_congr hsa.1 hsb.1 (fun k hk => st a k ha (by omega)) (fun k hk => st b k hb (by omega))]
    rfl
  rw [el, m0, hC.2.2.1.1, hC.2.2.2.1]
  have n9 := hN.2.1
  refine ⟨⟨by omega, by omega⟩, ⟨by omega, by omega⟩, fun hl => ?_, fun hl => no (fun q => hl q.2.1)⟩
  refine squares_ok (sz a ha) (sz b hb) hsa hsb hia hjb la ?_
  have es : sm (sqF (szN N a) (szN N b) (M (114 + 10 * a + 2)) (M (114 + 10 * b + 2)) i j) (lenN N a i b j) = suN N a i b j := by
    unfold suN
    refine sm_congr (fun m _ => ?_)
    unfold sqF htN
    rw [hg a _ ha (by have := Nat.mod_lt (i + m) hsa.1; omega), hg b _ hb (by have := Nat.mod_lt (j + szN N b - m) hsb.1; omega)]
  rw [es]
  refine ⟨⟨by omega, by omega⟩, ⟨by omega, by omega⟩, fun hs => ?_, fun hs => no (fun q => hs q.2.2)⟩
  have hgood : isG N a i b j := ⟨hc, hl, hs⟩
  exact offer_ok (x := tupA N a i b j) hI (fun y hy => (SC_ok hN hy).1) (tupA_ok hN hv hgood).1 rfl (fun y hy => SC_key hy) (fun M' hM' => h1 hgood M' (hM'.congr (SC_next hv hgood)))
theorem lpw_ok {Post : Int → Mem → Prop} (hN : Nums N) (hC : RelC M0 N) (hE : RelE M0 N) (hab : a < b) (hb : (b : Int) < N 0 1) (ha : N 4 a = 1) (hi : i < szN N a) (hI : RunC M0 N (SC N a i b 0) M) (h : ∀ M', RunC M0 N (SC N a i (b + 1) 0) M' → Post (gB N a i b) M') : wp_X_listPairsWith a i b M Post := by
  have hb6 : b < 6 := by have := hN.1; omega
  have e5 : ∀ M, RunC M0 N (SC N a i b 0) M → M (114 + 10 * b) 5 = N 4 b := fun M hI => by rw [hI.1 _ (by omega) (by omega) (by omega)]; exact (hE b hb6).1.2.1.1
  have e4 : ∀ (M : Mem) (j : Nat), RunC M0 N (SC N a i b j) M → M (114 + 10 * b) 4 = (szN N b : Int) := fun M j hI => by
    rw [hI.1 _ (by omega) (by omega) (by omega), (hE b hb6).1.1.1]
    have := (hE b hb6).1.1.2
    unfold szN; omega
  have h28 : szN N b ≤ 28 := by have := (hN.2.2.2 b hb6).1; unfold szN; omega
  refine ⟨⟨by omega, by omega⟩, ?_⟩
  rw [Int.toNat_natCast, e5 M hI]
  have h01 := (hN.2.2.2 b hb6).2.1
  refine ⟨by rcases h01 with q | q <;> rw [q] <;> exact xl rfl, fun q => ?_, fun q => ?_⟩
  · have hb1 : N 4 b = 1 := by omega
    have loop : ∀ f j : Nat, j + f = szN N b → ∀ M, RunC M0 N (SC N a i b j) M → wp_X_listPairsWith_20 Post (f + 1) a i b (sm (fun j => gI N a i b j) j) j M := by
      intro f
      induction f with
      | zero =>
        intro j hj M hI
        refine ⟨⟨by omega, by omega⟩, ⟨by omega, by omega⟩, ?_⟩
        rw [Int.toNat_natCast, e4 M j hI]
        refine ⟨⟨by omega, by omega⟩, fun _ => ?_, fun z => absurd (show (szN N b : Int) ≤ j by omega) z⟩
        have := h M (hI.congr (SC_same (fun a' i' b' j' hv => by
          have h1 := hv.2.2.2
          constructor
          · intro z; omega
          · intro z
            by_cases e : b' = b
            · rw [e] at h1; omega
            · omega)))
        unfold gB at this
        rw [if_pos hb1] at this
        rw [show j = szN N b by omega]; exact this
      | succ f ih =>
        intro j hj M hI
        have hv : Val N a i b j := ⟨⟨hab, hb⟩, ⟨ha, hb1⟩, hi, by omega⟩
        refine ⟨⟨by omega, by omega⟩, ⟨by omega, by omega⟩, ?_⟩
        rw [Int.toNat_natCast, e4 M j hI]
        refine ⟨⟨by omega, by omega⟩, fun z => absurd z (by omega), fun _ => listIf_ok hN hC hE hv hI (fun hg M' hM' => ⟨xl rfl, fun z => absurd z (by decide), fun _ v4 h4 v5 h5 => ?_⟩) (fun hg hM' => ⟨xl rfl, fun _ v5 h5 => ?_, fun z => absurd rfl z⟩)⟩
        · rw [h4, h5, show ((j : Nat) : Int) + 1 = ((j + 1 : Nat) : Int) by omega]
          have := ih (j + 1) (by omega) M' hM'
          have e : sm (fun j => gI N a i b j) (j + 1) = sm (fun j => gI N a i b j) j + 1 := by
            show _ + gI N a i b j = _
            unfold gI; rw [if_pos hg]
          rw [e] at this; exact this
        · rw [h5, show ((j : Nat) : Int) + 1 = ((j + 1 : Nat) : Int) by omega]
          have := ih (j + 1) (by omega) M hM'
          have e : sm (fun j => gI N a i b j) (j + 1) = sm (fun j => gI N a i b j) j := by
            show _ + gI N a i b j = _
            unfold gI; rw [if_neg hg, Int.add_zero]
          rw [e] at this; exact this
    exact ⟨szN N b + 1, loop (szN N b) 0 (by omega) M hI⟩
  · have := h M (hI.congr (SC_same (fun a' i' b' j' hv => by
      have h1 := hv.2.1.2
      constructor
      · intro z; omega
      · intro z
        by_cases e : b' = b
        · rw [e] at h1; omega
        · omega)))
    unfold gB at this
    rw [if_neg (by omega)] at this
    exact this
theorem sm_front (f : Nat → Int) (n : Nat) : sm f (n + 1) = f 0 + sm (fun k => f (k + 1)) n := by
  rw [Nat.add_comm, sm_app]
  have e : sm f 1 = f 0 := by show 0 + f 0 = _; omega
  rw [e]
  congr 1
  exact sm_congr (fun k _ => by rw [Nat.add_comm])
theorem run51_ok {X11 : Int → Int → Mem → Prop} {X21 : Int → Int → Int → Mem → Prop} {Post : Int → Mem → Prop} {ns : Nat} (hN : Nums N) (hC : RelC M0 N) (hE : RelE M0 N) (hns : N 0 1 = ns) (ha : N 4 a = 1) (hi : i < szN N a) :
    ∀ f b : Nat, b + f = ns → a < b → ∀ (M : Mem) (x1 : Int), RunC M0 N (SC N a i b 0) M → (∀ M', RunC M0 N (SC N a (i + 1) (a + 1) 0) M' → X21 (x1 + sm (fun t => gB N a i (b + t)) f) a ((i + 1 : Nat) : Int) M') → wp_X_run_51 X11 X21 Post (f + 1) x1 a i b M := by
  intro f
  induction f with
  | zero =>
    intro b hb hab M x1 hI h
    have n6 := hN.1
    have e5 : M 0 5 = ns := by rw [hI.1 0 (by omega) (by omega) (by omega), hC.1.1, hns]
    refine ⟨⟨by omega, by omega⟩, by rw [e5]; exact ⟨by omega, by omega⟩, fun _ v hv => ?_, fun z => absurd (show M 0 5 ≤ (b : Int) by omega) z⟩
    have := h M (hI.congr (SC_same (fun a' i' b' j' hv => by
      have h1 := hv.1
      constructor <;> intro z <;> omega)))
    rw [show sm (fun t => gB N a i (b + t)) 0 = 0 from rfl, Int.add_zero] at this
    rw [hv, show ((i : Nat) : Int) + 1 = ((i + 1 : Nat) : Int) by omega]
    exact this
  | succ f ih =>
    intro b hb hab M x1 hI h
    have n6 := hN.1
    have e5 : M 0 5 = ns := by rw [hI.1 0 (by omega) (by omega) (by omega), hC.1.1, hns]
    refine ⟨⟨by omega, by omega⟩, by rw [e5]; exact ⟨by omega, by omega⟩, fun z => absurd z (by omega), fun _ => lpw_ok hN hC hE hab (by omega) ha hi hI (fun M' hM' v1 h1 v4 h4 => ?_)⟩
    rw [h4, show ((b : Nat) : Int) + 1 = ((b + 1 : Nat) : Int) by omega, h1]
    refine ih (b + 1) (by omega) (by omega) M' _ hM' (fun M2 hM2 => ?_)
    have := h M2 hM2
    rw [sm_front, Nat.add_zero] at this
    have e : sm (fun t => gB N a i (b + 1 + t)) f = sm (fun k => gB N a i (b + (k + 1))) f := sm_congr (fun k _ => by rw [show b + 1 + k = b + (k + 1) by omega])
    rw [e, Int.add_assoc]
    exact this
theorem run21_ok {X11 : Int → Int → Mem → Prop} {Post : Int → Mem → Prop} {ns : Nat} (hN : Nums N) (hC : RelC M0 N) (hE : RelE M0 N) (hns : N 0 1 = ns) (ha : N 4 a = 1) (han : a < ns) :
    ∀ f i : Nat, i + f = szN N a → ∀ (M : Mem) (x1 : Int), RunC M0 N (SC N a i (a + 1) 0) M → (∀ M', RunC M0 N (SC N (a + 1) 0 (a + 2) 0) M' → X11 (x1 + sm (fun t => sm (fun u => gB N a (i + t) (a + 1 + u)) (ns - (a + 1))) f) ((a + 1 : Nat) : Int) M') → wp_X_run_21 X11 Post (f + 1) x1 a i M := by
  have n6 := hN.1
  have ha6 : a < 6 := by omega
  have h28 : szN N a ≤ 28 := by have := (hN.2.2.2 a ha6).1; unfold szN; omega
  have e45 : ∀ (M : Mem) (S : T6 → Prop), RunC M0 N S M → M (114 + 10 * a) 4 = (szN N a : Int) ∧ M (114 + 10 * a) 5 = 1 := fun M S hI => by
    rw [hI.1 _ (by omega) (by omega) (by omega), (hE a ha6).1.1.1, (hE a ha6).1.2.1.1]
    have := (hE a ha6).1.1.2
    exact ⟨by unfold szN; omega, ha⟩
  intro f
  induction f with
  | zero =>
    intro i hi M x1 hI h
    obtain ⟨e4, e5⟩ := e45 M _ hI
    refine ⟨⟨by omega, by omega⟩, ?_⟩
    rw [Int.toNat_natCast, e4, e5]
    refine ⟨xl rfl, fun z => absurd z (by decide), fun _ => ⟨⟨by omega, by omega⟩, ⟨by omega, by omega⟩, ⟨by omega, by omega⟩, fun _ v hv => ?_, fun z => absurd (show (szN N a : Int) ≤ i by omega) z⟩⟩
    have := h M (hI.congr (SC_same (fun a' i' b' j' hv => by
      have h1 := hv.1
      have h2 := hv.2.2.1
      constructor
      · intro z; omega
      · intro z
        by_cases e : a' = a
        · rw [e] at h2; omega
        · omega)))
    rw [show sm (fun t => sm (fun u => gB N a (i + t) (a + 1 + u)) (ns - (a + 1))) 0 = 0 from rfl, Int.add_zero] at this
    rw [hv, show ((a : Nat) : Int) + 1 = ((a + 1 : Nat) : Int) by omega]
    exact this
  | succ f ih =>
    intro i hi M x1 hI h
    obtain ⟨e4, e5⟩ := e45 M _ hI
    refine ⟨⟨by omega, by omega⟩, ?_⟩
    rw [Int.toNat_natCast, e4, e5]
    refine ⟨xl rfl, fun z => absurd z (by decide), fun _ => ⟨⟨by omega, by omega⟩, ⟨by omega, by omega⟩, ⟨by omega, by omega⟩, fun z => absurd z (by omega), fun _ v hv => ⟨ns - (a + 1) + 1, ?_⟩⟩⟩
    rw [hv, show ((a : Nat) : Int) + 1 = ((a + 1 : Nat) : Int) by omega]
    refine run51_ok hN hC hE hns ha (by omega) (ns - (a + 1)) (a + 1) (by omega) (by omega) M x1 hI (fun M' hM' => ?_)
    refine ih (i + 1) (by omega) M' _ hM' (fun M2 hM2 => ?_)
    have := h M2 hM2
    rw [sm_front, Nat.add_zero] at this
    have e : sm (fun t => sm (fun u => gB N a (i + 1 + t) (a + 1 + u)) (ns - (a + 1))) f = sm (fun k => sm (fun u => gB N a (i + (k + 1)) (a + 1 + u)) (ns - (a + 1))) f := sm_congr (fun k _ => by rw [show i + 1 + k = i + (k + 1) by omega])
    rw [e, Int.add_assoc]
    exact this
def rowA (N : Mem) (ns a : Nat) : Int := if N 4 a = 1 then sm (fun i => sm (fun u => gB N a i (a + 1 + u)) (ns - (a + 1))) (szN N a) else 0
theorem run11_ok {Post : Int → Mem → Prop} {ns : Nat} (hN : Nums N) (hC : RelC M0 N) (hE : RelE M0 N) (hns : N 0 1 = ns) :
    ∀ f a : Nat, a + f = ns → ∀ (M : Mem) (x1 : Int), RunC M0 N (SC N a 0 (a + 1) 0) M → (∀ M', RunC M0 N (SC N ns 0 (ns + 1) 0) M' → Post (x1 + sm (fun t => rowA N ns (a + t)) f) M') → wp_X_run_11 Post (f + 1) x1 a M := by
  have n6 := hN.1
  intro f
  induction f with
  | zero =>
    intro a ha M x1 hI h
    have e5 : M 0 5 = ns := by rw [hI.1 0 (by omega) (by omega) (by omega), hC.1.1, hns]
    refine ⟨⟨by omega, by omega⟩, by rw [e5]; exact ⟨by omega, by omega⟩, fun _ => ?_, fun z => absurd (show M 0 5 ≤ (a : Int) by omega) z⟩
    have han : a = ns := by omega
    subst han
    have := h M hI
    rw [show sm (fun t => rowA N a (a + t)) 0 = 0 from rfl, Int.add_zero] at this
    exact this
  | succ f ih =>
    intro a ha M x1 hI h
    have e5 : M 0 5 = ns := by rw [hI.1 0 (by omega) (by omega) (by omega), hC.1.1, hns]
    have ha6 : a < 6 := by omega
    have next : ∀ (M' : Mem) (v : Int), RunC M0 N (SC N (a + 1) 0 (a + 2) 0) M' → v = x1 + rowA N ns a → wp_X_run_11 Post (f + 1) v ((a + 1 : Nat) : Int) M' := by
      intro M' v hM' hv
      refine ih (a + 1) (by omega) M' v hM' (fun M2 hM2 => ?_)
      have := h M2 hM2
      rw [sm_front, Nat.add_zero] at this
      have e : sm (fun t => rowA N ns (a + 1 + t)) f = sm (fun k => rowA N ns (a + (k + 1))) f := sm_congr (fun k _ => by rw [show a + 1 + k = a + (k + 1) by omega])
      rw [e, hv, Int.add_assoc]
      exact this
    refine ⟨⟨by omega, by omega⟩, by rw [e5]; exact ⟨by omega, by omega⟩, fun z => absurd z (by omega), fun _ => ?_⟩
    by_cases hc : N 4 a = 1
    · refine ⟨szN N a + 1, run21_ok hN hC hE hns hc (by omega) (szN N a) 0 (by omega) M x1 hI (fun M' hM' => next M' _ hM' ?_)⟩
      unfold rowA
      rw [if_pos hc]
      congr 1
      exact sm_congr (fun k _ => by rw [Nat.zero_add])
    · refine ⟨1, ⟨by omega, by omega⟩, ?_⟩
      have e5' : M (114 + 10 * (a : Int).toNat) 5 = 0 := by
        rw [Int.toNat_natCast, hI.1 _ (by omega) (by omega) (by omega), (hE a ha6).1.2.1.1]
        have := (hN.2.2.2 a ha6).2.1
        omega
      rw [e5']
      refine ⟨xl rfl, fun _ v hv => ?_, fun z => absurd rfl z⟩
      rw [hv, show ((a : Nat) : Int) + 1 = ((a + 1 : Nat) : Int) by omega]
      refine next M x1 (hI.congr (SC_same (fun a' i' b' j' hv => by
        have h1 := hv.1
        have h2 := hv.2.1.1
        constructor
        · intro z; omega
        · intro z
          by_cases e : a' = a
          · rw [e] at h2; omega
          · omega))) ?_
      unfold rowA
      rw [if_neg hc, Int.add_zero]
end RC
