/-! STRETCHES THAT FIT -/
abbrev ctr (u v q : Int) : Prop := (v + q) % 4 = (u + 2) % 4
def runL (P : Nat → Bool) : Nat → Nat → Nat
  | 0, m => m
  | f + 1, m => if P m = true then runL P f (m + 1) else m
theorem runL_le (P : Nat → Bool) : ∀ (f m : Nat), m ≤ runL P f m ∧ runL P f m ≤ m + f := by
  intro f
  induction f with
  | zero => intro m; exact ⟨Nat.le_refl _, Nat.le_refl _⟩
  | succ f ih =>
    intro m
    unfold runL
    split
    · have := ih (m + 1); omega
    · omega
def qOf (da db : Nat → Int) (i j : Nat) : Int := (da i + 2 - db j) % 4
def PM (sa sb : Nat) (da db : Nat → Int) (i j : Nat) (q : Int) : Nat → Bool := fun m => decide (ctr (da ((i + m) % sa)) (db ((j + sb - m) % sb)) q)
def lenF (sa sb : Nat) (da db : Nat → Int) (i j : Nat) (q : Int) : Nat := runL (PM sa sb da db i j q) (min sa sb) 0
def sqF (sa sb : Nat) (ha hb : Nat → Int) (i j : Nat) : Nat → Int := fun m => (ha ((i + m) % sa) - hb ((j + sb - m) % sb)) * (ha ((i + m) % sa) - hb ((j + sb - m) % sb))
theorem mod_succ {x n : Nat} (hn : 0 < n) : (x + 1) % n = if x % n + 1 < n then x % n + 1 else 0 := by
  have h := Nat.div_add_mod x n
  have hlt := Nat.mod_lt x hn
  split
  · next q =>
    have e : x + 1 = n * (x / n) + (x % n + 1) := by omega
    rw [e, Nat.mul_add_mod, Nat.mod_eq_of_lt q]
  · next q =>
    have e : x + 1 = n * (x / n + 1) := by rw [Nat.mul_add]; omega
    rw [e, Nat.mul_mod_right]
theorem mod_pred {y n : Nat} (hn : 0 < n) (hy : 0 < y) : (y - 1) % n = if 0 < y % n then y % n - 1 else n - 1 := by
  have h := mod_succ (x := y - 1) hn
  rw [show y - 1 + 1 = y by omega] at h
  have hlt := Nat.mod_lt (y - 1) hn
  by_cases q : (y - 1) % n + 1 < n
  · rw [if_pos q] at h
    rw [h, if_pos (by omega)]
    omega
  · rw [if_neg q] at h
    rw [h, if_neg (by omega)]
    omega
section Fi
variable {M N : Mem} {k0 k2 sa sb i j : Nat} {Post : Int → Prop}
theorem after_ok {x : Nat} (hs : M k0 4 = sa) (h28 : 0 < sa ∧ sa ≤ 28) (h : Post (((x + 1) % sa : Nat) : Int)) : wp_Edge_after k0 ((x % sa : Nat) : Int) M Post := by
  have hlt := Nat.mod_lt x h28.1
  have e := mod_succ (x := x) h28.1
  refine ⟨⟨by omega, by omega⟩, ⟨by omega, by omega⟩, fun q => ?_, fun q => ?_⟩
  · rw [if_neg (by omega)] at e; rw [e] at h; exact h
  · rw [if_pos (by omega)] at e; rw [e] at h; exact h
theorem before_ok {y : Nat} (hs : M k0 4 = sa) (h28 : 0 < sa ∧ sa ≤ 28) (hy : 0 < y) (h : Post (((y - 1) % sa : Nat) : Int)) : wp_Edge_before k0 ((y % sa : Nat) : Int) M Post := by
  have hlt := Nat.mod_lt y h28.1
  have e := mod_pred h28.1 hy
  refine ⟨⟨by omega, by omega⟩, fun q => ?_, fun q => ?_⟩
  · rw [if_neg (by omega)] at e; rw [e] at h
    rw [hs, show ((sa : Nat) : Int) - 1 = ((sa - 1 : Nat) : Int) by omega]; exact h
  · rw [if_pos (by omega)] at e; rw [e] at h
    rw [show ((y % sa : Nat) : Int) - 1 = ((y % sa - 1 : Nat) : Int) by omega]; exact h
theorem ctr_ok {u v q : Int} (h0 : ¬ ctr u v q → Post 0) (h1 : ctr u v q → Post 1) : wp_X_contrary u v q M Post :=
  ⟨⟨by omega, by omega⟩, ⟨by omega, by omega⟩, h0, h1⟩
theorem stretch_ok {q : Int} (ha : M k0 4 = sa) (hb : M k2 4 = sb) (ha28 : 0 < sa ∧ sa ≤ 28) (hb28 : 0 < sb ∧ sb ≤ 28) (hi : i < sa) (hj : j < sb) (h : Post (lenF sa sb (M (k0 + 1)) (M (k2 + 1)) i j q)) : wp_X_stretch k0 k2 i j q M Post := by
  have loop : ∀ f m : Nat, m + f = min sa sb → Post (runL (PM sa sb (M (k0 + 1)) (M (k2 + 1)) i j q) f m) → wp_X_stretch_16 k0 k2 M Post (f + 1) (((i + m) % sa : Nat) : Int) (((j + sb - m) % sb : Nat) : Int) q ((min sa sb : Nat) : Int) m := by
    intro f
    induction f with
    | zero =>
      intro m hm hP
      exact ⟨⟨by omega, by omega⟩, ⟨by omega, by omega⟩, fun _ => hP, fun z => absurd (show ((min sa sb : Nat) : Int) ≤ m by omega) z⟩
    | succ f ih =>
      intro m hm hP
      have l1 := Nat.mod_lt (i + m) ha28.1
      have l2 := Nat.mod_lt (j + sb - m) hb28.1
      refine ⟨⟨by omega, by omega⟩, ⟨by omega, by omega⟩, fun z => absurd z (by omega), fun _ => ⟨⟨by omega, by omega⟩, ⟨by omega, by omega⟩, ?_⟩⟩
      rw [Int.toNat_natCast, Int.toNat_natCast]
      unfold runL at hP
      refine ctr_ok (fun z => ⟨xl rfl, fun _ => ?_, fun z => absurd rfl z⟩) (fun z => ⟨xl rfl, fun z => absurd z (by decide), fun _ v hv => ?_⟩)
      · rw [if_neg (by unfold PM; simpa using z)] at hP; exact hP
      · rw [if_pos (by unfold PM; simpa using z)] at hP
        refine after_ok ha ha28 (before_ok hb hb28 (by omega) ?_)
        rw [hv, show ((m : Nat) : Int) + 1 = ((m + 1 : Nat) : Int) by omega, show i + m + 1 = i + (m + 1) by omega, show j + sb - m - 1 = j + sb - (m + 1) by omega]
        exact ih (m + 1) (by omega) hP
  refine ⟨⟨by omega, by omega⟩, ⟨by omega, by omega⟩, fun v hv => ⟨min sa sb + 1, ?_⟩⟩
  have := loop (min sa sb) 0 (by omega) h
  rw [show (i + 0) % sa = i by rw [Nat.add_zero]; exact Nat.mod_eq_of_lt hi, show (j + sb - 0) % sb = j by rw [Nat.sub_zero, Nat.add_mod_right]; exact Nat.mod_eq_of_lt hj] at this
  rw [hv, ha, hb, show min (sa : Int) (sb : Int) = ((min sa sb : Nat) : Int) by omega]
  exact this
theorem squares_ok {n : Nat} (ha : M k0 4 = sa) (hb : M k2 4 = sb) (ha28 : 0 < sa ∧ sa ≤ 28) (hb28 : 0 < sb ∧ sb ≤ 28) (hi : i < sa) (hj : j < sb) (hn : n ≤ min sa sb) (h : Post (sm (sqF sa sb (M (k0 + 2)) (M (k2 + 2)) i j) n)) : wp_X_squares k0 k2 i j n M Post := by
  have loop : ∀ f m : Nat, m + f = n → wp_X_squares_6 k0 k2 M Post (f + 1) (((i + m) % sa : Nat) : Int) (((j + sb - m) % sb : Nat) : Int) n (sm (sqF sa sb (M (k0 + 2)) (M (k2 + 2)) i j) m) m := by
    intro f
    induction f with
    | zero =>
      intro m hm
      refine ⟨⟨by omega, by omega⟩, ⟨by omega, by omega⟩, fun _ => ?_, fun z => absurd (show (n : Int) ≤ m by omega) z⟩
      rw [show m = n by omega]; exact h
    | succ f ih =>
      intro m hm
      have l1 := Nat.mod_lt (i + m) ha28.1
      have l2 := Nat.mod_lt (j + sb - m) hb28.1
      refine ⟨⟨by omega, by omega⟩, ⟨by omega, by omega⟩, fun z => absurd z (by omega), fun _ => ⟨⟨by omega, by omega⟩, ⟨by omega, by omega⟩, fun v7 h7 v5 h5 => ?_⟩⟩
      rw [Int.toNat_natCast, Int.toNat_natCast] at h7
      refine after_ok ha ha28 (before_ok hb hb28 (by omega) (fun v hv => ?_))
      rw [hv, show ((m : Nat) : Int) + 1 = ((m + 1 : Nat) : Int) by omega, show i + m + 1 = i + (m + 1) by omega, show j + sb - m - 1 = j + sb - (m + 1) by omega, h5, h7]
      exact ih (m + 1) (by omega)
  have := loop n 0 (by omega)
  rw [show (i + 0) % sa = i by rw [Nat.add_zero]; exact Nat.mod_eq_of_lt hi, show (j + sb - 0) % sb = j by rw [Nat.sub_zero, Nat.add_mod_right]; exact Nat.mod_eq_of_lt hj] at this
  exact ⟨n + 1, this⟩
theorem stepOf_ok {s t : Nat} {x : Int} (hs : s < 6) (hz : N 1 s = sa) (h28 : 0 < sa ∧ sa ≤ 28) (hx : x + sa = t) (ht : t < 1000) (h : Post (N 2 (28 * s + t % sa))) : wp_Model_stepOf s x N Post := by
  have hlt := Nat.mod_lt t h28.1
  refine ⟨⟨by omega, by omega⟩, ⟨by omega, by omega⟩, ?_⟩
  rw [Int.toNat_natCast, hz, hx, show ((t : Nat) : Int) % ((sa : Nat) : Int) = ((t % sa : Nat) : Int) from rfl]
  refine ⟨⟨by omega, by omega, by omega, by omega⟩, ⟨by omega, by omega⟩, ?_⟩
  rw [show (28 * (s : Int) + ((t % sa : Nat) : Int)).toNat = 28 * s + t % sa by omega]; exact h
theorem heightOf_ok {s t : Nat} {x : Int} (hs : s < 6) (hz : N 1 s = sa) (h28 : 0 < sa ∧ sa ≤ 28) (hx : x + sa = t) (ht : t < 1000) (h : Post (N 3 (28 * s + t % sa))) : wp_Model_heightOf s x N Post := by
  have hlt := Nat.mod_lt t h28.1
  refine ⟨⟨by omega, by omega⟩, ⟨by omega, by omega⟩, ?_⟩
  rw [Int.toNat_natCast, hz, hx, show ((t : Nat) : Int) % ((sa : Nat) : Int) = ((t % sa : Nat) : Int) from rfl]
  refine ⟨⟨by omega, by omega, by omega, by omega⟩, ⟨by omega, by omega⟩, ?_⟩
  rw [show (28 * (s : Int) + ((t % sa : Nat) : Int)).toNat = 28 * s + t % sa by omega]; exact h
theorem turns_ok {a b : Nat} (ha6 : a < 6) (hb6 : b < 6) (ha : N 1 a = sa) (hb : N 1 b = sb) (ha28 : 0 < sa ∧ sa ≤ 28) (hb28 : 0 < sb ∧ sb ≤ 28) (hi : i < sa) (hj : j < sb) (h : Post (qOf (fun k => N 2 (28 * a + k)) (fun k => N 2 (28 * b + k)) i j)) : wp_Model_turnsOf a i b j N Post := by
  refine stepOf_ok (t := i + sa) ha6 ha ha28 (by omega) (by omega) (stepOf_ok (t := j + sb) hb6 hb hb28 (by omega) (by omega) ?_)
  rw [Nat.add_mod_right, Nat.add_mod_right, Nat.mod_eq_of_lt hi, Nat.mod_eq_of_lt hj]
  exact h
theorem matches_ok {a b ta tb : Nat} {xa xb q : Int} (ha6 : a < 6) (hb6 : b < 6) (ha : N 1 a = sa) (hb : N 1 b = sb) (ha28 : 0 < sa ∧ sa ≤ 28) (hb28 : 0 < sb ∧ sb ≤ 28) (hxa : xa + sa = ta) (hxb : xb + sb = tb) (ht : ta < 1000 ∧ tb < 1000) (h0 : ¬ ctr (N 2 (28 * a + ta % sa)) (N 2 (28 * b + tb % sb)) q → Post 0) (h1 : ctr (N 2 (28 * a + ta % sa)) (N 2 (28 * b + tb % sb)) q → Post 1) : wp_Model_matches a xa b xb q N Post :=
  stepOf_ok hb6 hb hb28 hxb ht.2 (stepOf_ok ha6 ha ha28 hxa ht.1 ⟨⟨by omega, by omega⟩, ⟨by omega, by omega⟩, h0, h1⟩)
end Fi
theorem sq_le {x : Int} (h : -99 ≤ x ∧ x ≤ 99) : 0 ≤ x * x ∧ x * x ≤ 9801 := by
  have h1 : x.natAbs ≤ 99 := by omega
  have h2 := Nat.mul_le_mul h1 h1
  have h3 := Int.natAbs_mul_self (a := x)
  omega
theorem sqF_le {sa sb i j : Nat} {ha hb : Nat → Int} (ra : 0 < sa) (rb : 0 < sb) (ha9 : ∀ k, k < sa → 0 ≤ ha k ∧ ha k ≤ 99) (hb9 : ∀ k, k < sb → 0 ≤ hb k ∧ hb k ≤ 99) (n : Nat) : 0 ≤ sm (sqF sa sb ha hb i j) n ∧ sm (sqF sa sb ha hb i j) n ≤ 9801 * n := by
  induction n with
  | zero => exact ⟨Int.le_refl _, Int.le_refl _⟩
  | succ n ih =>
    have l1 := ha9 _ (Nat.mod_lt (i + n) ra)
    have l2 := hb9 _ (Nat.mod_lt (j + sb - n) rb)
    have := sq_le (x := ha ((i + n) % sa) - hb ((j + sb - n) % sb)) ⟨by omega, by omega⟩
    have e : sm (sqF sa sb ha hb i j) (n + 1) = sm (sqF sa sb ha hb i j) n + (ha ((i + n) % sa) - hb ((j + sb - n) % sb)) * (ha ((i + n) % sa) - hb ((j + sb - n) % sb)) := rfl
    rw [e]
    omega
section Fm
variable {N : Mem} {sa sb i j a b : Nat} {Post : Int → Mem → Prop}
/-- what the reference has found -/
def Found (N N' : Mem) (a i b j n : Nat) (su : Int) : Prop := (∀ r, r ≠ 9 → N' r = N r) ∧ N' 9 0 = a ∧ N' 9 1 = i ∧ N' 9 2 = b ∧ N' 9 3 = j ∧ N' 9 4 = n ∧ N' 9 5 = su
theorem finds_ok (ha6 : a < 6) (hb6 : b < 6) (ha : N 1 a = sa) (hb : N 1 b = sb) (ha28 : 0 < sa ∧ sa ≤ 28) (hb28 : 0 < sb ∧ sb ≤ 28) (hi : i < sa) (hj : j < sb) (hl : 0 ≤ N 0 9 ∧ N 0 9 ≤ 20) (hbd : 0 ≤ N 0 10 ∧ N 0 10 ≤ 9801) (hh : ∀ s, s < 6 → ∀ k, k < 28 → 0 ≤ N 3 (28 * s + k) ∧ N 3 (28 * s + k) ≤ 99)
    (q : Int) (hq : q = qOf (fun k => N 2 (28 * a + k)) (fun k => N 2 (28 * b + k)) i j) (n : Nat) (hn : n = lenF sa sb (fun k => N 2 (28 * a + k)) (fun k => N 2 (28 * b + k)) i j q) (su : Int) (hsu : su = sm (sqF sa sb (fun k => N 3 (28 * a + k)) (fun k => N 3 (28 * b + k)) i j) n)
    (h0 : ctr (N 2 (28 * a + (i + sa - 1) % sa)) (N 2 (28 * b + (j + 1) % sb)) q → Post 0 N) (h1 : ¬ ctr (N 2 (28 * a + (i + sa - 1) % sa)) (N 2 (28 * b + (j + 1) % sb)) q → ∀ (r : Int) (N' : Mem), (r = 0 ∨ r = 1) → (r = 1 ↔ N 0 9 ≤ n ∧ su ≤ N 0 10 * n) → Found N N' a i b j n su → Post r N') : wp_Model_finds a i b j N Post := by
  have fin : ¬ ctr (N 2 (28 * a + (i + sa - 1) % sa)) (N 2 (28 * b + (j + 1) % sb)) q → wp_Model_finds_155 a i b j n su N Post := by
    intro hc
    refine ⟨⟨by decide, by decide⟩, fun M1 e1 => ⟨⟨by decide, by decide⟩, fun M2 e2 => ⟨⟨by decide, by decide⟩, fun M3 e3 => ⟨⟨by decide, by decide⟩, fun M4 e4 => ⟨⟨by decide, by decide⟩, fun M5 e5 => ⟨⟨by decide, by decide⟩, fun M6 e6 => ?_⟩⟩⟩⟩⟩⟩
    have hr : ∀ r, r ≠ 9 → M6 r = N r := fun r hr => by rw [e6, up_ne hr, e5, up_ne hr, e4, up_ne hr, e3, up_ne hr, e2, up_ne hr, e1, up_ne hr]
    have hF : Found N M6 a i b j n su := by
      refine ⟨hr, ?_, ?_, ?_, ?_, ?_, ?_⟩
      · rw [e6, up_nj (by decide), e5, up_nj (by decide), e4, up_nj (by decide), e3, up_nj (by decide), e2, up_nj (by decide), e1]; exact up_ss _ _ _ _
      · rw [e6, up_nj (by decide), e5, up_nj (by decide), e4, up_nj (by decide), e3, up_nj (by decide), e2]; exact up_ss _ _ _ _
      · rw [e6, up_nj (by decide), e5, up_nj (by decide), e4, up_nj (by decide), e3]; exact up_ss _ _ _ _
      · rw [e6, up_nj (by decide), e5, up_nj (by decide), e4]; exact up_ss _ _ _ _
      · rw [e6, up_nj (by decide), e5]; exact up_ss _ _ _ _
      · rw [e6]; exact up_ss _ _ _ _
    have hn28 : n ≤ 28 := by
      have := (runL_le (PM sa sb (fun k => N 2 (28 * a + k)) (fun k => N 2 (28 * b + k)) i j q) (min sa sb) 0).2
      unfold lenF at hn
      omega
    have hsu2 : 0 ≤ su ∧ su ≤ 9801 * n := by
      rw [hsu]; exact sqF_le ha28.1 hb28.1 (fun k hk => hh a ha6 k (by omega)) (fun k hk => hh b hb6 k (by omega)) n
    have hbn : 0 ≤ N 0 10 * (n : Int) ∧ N 0 10 * (n : Int) ≤ 9801 * 28 := ⟨Int.mul_nonneg hbd.1 (by omega), Int.mul_le_mul hbd.2 (by omega) (by omega) (by omega)⟩
    rw [hr 0 (by decide)]
    refine ⟨⟨by omega, by omega⟩, ⟨by omega, by omega⟩, fun z => ?_, fun z => ⟨⟨by omega, by omega⟩, ⟨by omega, by omega⟩, fun z2 => ?_, fun z2 => ?_⟩⟩
    · exact h1 hc 0 M6 (Or.inl rfl) ⟨fun x => absurd x (by decide), fun x => by omega⟩ hF
    · exact h1 hc 0 M6 (Or.inl rfl) ⟨fun x => absurd x (by decide), fun x => by omega⟩ hF
    · exact h1 hc 1 M6 (Or.inr rfl) ⟨fun _ => ⟨by omega, by omega⟩, fun _ => rfl⟩ hF
  refine turns_ok ha6 hb6 ha hb ha28 hb28 hi hj ?_
  rw [← hq]
  refine matches_ok (ta := i + sa - 1) (tb := j + 1 + sb) ha6 hb6 ha hb ha28 hb28 (by omega) (by omega) ⟨by omega, by omega⟩ (fun hc => ⟨xl rfl, fun _ => ?_, fun z => absurd rfl z⟩) (fun hc => ⟨xl rfl, fun z => absurd z (by decide), fun _ => ?_⟩)
  · rw [Nat.add_mod_right] at hc
    have loop : ∀ f m : Nat, m + f = min sa sb → n = runL (PM sa sb (fun k => N 2 (28 * a + k)) (fun k => N 2 (28 * b + k)) i j q) f m → wp_Model_finds_69 Post (f + 1) a i b j q ((min sa sb : Nat) : Int) m (sm (sqF sa sb (fun k => N 3 (28 * a + k)) (fun k => N 3 (28 * b + k)) i j) m) N := by
      intro f
      induction f with
      | zero =>
        intro m hm hr
        refine ⟨⟨by omega, by omega⟩, ⟨by omega, by omega⟩, fun _ => ?_, fun z => absurd (show ((min sa sb : Nat) : Int) ≤ m by omega) z⟩
        have hnm : n = m := hr
        rw [← hnm, ← hsu]; exact fin hc
      | succ f ih =>
        intro m hm hr
        refine ⟨⟨by omega, by omega⟩, ⟨by omega, by omega⟩, fun z => absurd z (by omega), fun _ => ⟨⟨by omega, by omega⟩, ?_⟩⟩
        rw [Int.toNat_natCast, Int.toNat_natCast, ha, hb]
        refine ⟨⟨by omega, by omega, by omega, by omega⟩, ⟨by omega, by omega⟩, ⟨by omega, by omega⟩, ⟨by omega, by omega, by omega, by omega⟩, ?_⟩
        have e1 : ((i : Int) + (m : Int)) % (sa : Int) = (((i + m) % sa : Nat) : Int) := rfl
        have e2 : ((j : Int) - (m : Int) + (sb : Int)) % (sb : Int) = (((j + sb - m) % sb : Nat) : Int) := by
          rw [show (j : Int) - (m : Int) + (sb : Int) = ((j + sb - m : Nat) : Int) by omega]; rfl
        rw [e1, e2]
        have l1 := Nat.mod_lt (i + m) ha28.1
        have l2 := Nat.mod_lt (j + sb - m) hb28.1
        unfold runL at hr
        refine matches_ok (ta := (i + m) % sa + sa) (tb := (j + sb - m) % sb + sb) ha6 hb6 ha hb ha28 hb28 (by omega) (by omega) ⟨by omega, by omega⟩ (fun z => ⟨xl rfl, fun _ => ?_, fun z => absurd rfl z⟩) (fun z => ⟨xl rfl, fun z => absurd z (by decide), fun _ => ?_⟩)
        · rw [Nat.add_mod_right, Nat.add_mod_right, Nat.mod_mod, Nat.mod_mod] at z
          rw [if_neg (by unfold PM; simpa using z)] at hr
          have hnm : n = m := hr
          rw [← hnm, ← hsu]; exact fin hc
        · rw [Nat.add_mod_right, Nat.add_mod_right, Nat.mod_mod, Nat.mod_mod] at z
          rw [if_pos (by unfold PM; simpa using z)] at hr
          refine heightOf_ok (t := i + m + sa) ha6 ha ha28 (by omega) (by omega) (heightOf_ok (t := j + sb - m) hb6 hb hb28 (by omega) (by omega) (fun v9 h9 v8 h8 v7 h7 => ?_))
          rw [Nat.add_mod_right] at h9
          rw [h7, h8, h9, show ((m : Nat) : Int) + 1 = ((m + 1 : Nat) : Int) by omega]
          exact ih (m + 1) (by omega) hr
    have start := loop (min sa sb) 0 (by omega) (by rw [hn]; rfl)
    refine ⟨⟨by omega, by omega⟩, ⟨by omega, by omega⟩, ?_⟩
    rw [Int.toNat_natCast, Int.toNat_natCast, ha, hb]
    refine ⟨⟨by omega, by omega⟩, ⟨by omega, by omega⟩, fun z => ⟨⟨by omega, by omega⟩, fun v hv => ⟨min sa sb + 1, ?_⟩⟩, fun z => ⟨⟨by omega, by omega⟩, fun v hv => ⟨min sa sb + 1, ?_⟩⟩⟩
    · rw [hv, show (sb : Int) = ((min sa sb : Nat) : Int) by omega]; exact start
    · rw [hv, show (sa : Int) = ((min sa sb : Nat) : Int) by omega]; exact start
  · rw [Nat.add_mod_right] at hc
    exact h0 hc
end Fm
