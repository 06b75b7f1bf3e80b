/-! A pair is put into the reference's list -/
def tup9 (N : Mem) : T6 := tupR (N 9)
theorem ah_step {N : Mem} {n k t : Nat} {Post : Int → Prop} (hk : k ≤ 100) (ht : t < 4) (i1 : in32 (N 9 t)) (i2 : in32 (N 8 (6 * k + t))) (he : N 9 t = N 8 (6 * k + t) → wp_Model_isAhead_99 N Post n ((6 * k : Nat) : Int) ((t + 1 : Nat) : Int)) (hlt : N 9 t < N 8 (6 * k + t) → Post 1) (hgt : N 8 (6 * k + t) < N 9 t → Post 0) : wp_Model_isAhead_99 N Post (n + 1) ((6 * k : Nat) : Int) t := by
  have e : (((6 * k : Nat) : Int) + (t : Int)).toNat = 6 * k + t := by omega
  refine ⟨⟨by omega, by omega⟩, fun q => absurd q (by omega), fun _ => ⟨⟨by omega, by omega⟩, ⟨by omega, by omega⟩, ?_⟩⟩
  rw [Int.toNat_natCast, e]
  refine ⟨i1, i2, fun q v hv => ?_, fun q => ⟨⟨by omega, by omega⟩, ⟨by omega, by omega⟩, i1, i2, fun q2 => hgt (by omega), fun q2 => hlt (by omega)⟩⟩
  rw [hv, show ((t : Nat) : Int) + 1 = ((t + 1 : Nat) : Int) by omega]
  exact he q
def smallT (x : T6) : Prop := in32 x.1 ∧ in32 x.2.1 ∧ in32 x.2.2.1 ∧ in32 x.2.2.2.1
theorem ahead_N {N : Mem} {k : Nat} {x : T6} {Post : Int → Prop} (hk : k ≤ 100) (hx : okT x) (hsx : smallT x) (hy : okT (tupN N k)) (hsy : smallT (tupN N k)) (e9 : tup9 N = x) (h1 : Lt6 x (tupN N k) → Post 1) (h0 : ¬ Lt6 x (tupN N k) → Post 0) : wp_Model_isAhead k N Post := by
  have p1 := prod_in hx hy
  have p2 := prod_in hy hx
  obtain ⟨⟨a1, a2⟩, a3, a4⟩ := id hx
  obtain ⟨⟨b1, b2⟩, b3, b4⟩ := id hy
  have x0 : N 9 0 = x.1 := by rw [← e9]; rfl
  have x1 : N 9 1 = x.2.1 := by rw [← e9]; rfl
  have x2 : N 9 2 = x.2.2.1 := by rw [← e9]; rfl
  have x3 : N 9 3 = x.2.2.2.1 := by rw [← e9]; rfl
  have x4 : N 9 4 = tn x := by rw [← e9]; rfl
  have x5 : N 9 5 = ts x := by rw [← e9]; rfl
  have y4 : N 8 (6 * k + 4) = tn (tupN N k) := rfl
  have y5 : N 8 (6 * k + 5) = ts (tupN N k) := rfl
  intro v2 h2
  have v2k : v2 = ((6 * k : Nat) : Int) := by omega
  subst v2k
  refine ⟨⟨by decide, by decide⟩, ⟨by omega, by omega⟩, fun v3 h3 => ⟨⟨by omega, by omega⟩, ⟨by decide, by decide⟩, fun v4 h4 => ?_⟩⟩
  rw [show (((6 * k : Nat) : Int) + 4).toNat = 6 * k + 4 by omega, show (5 : Int).toNat = 5 from rfl, x5, y4] at h3
  rw [show (((6 * k : Nat) : Int) + 5).toNat = 6 * k + 5 by omega, show (4 : Int).toNat = 4 from rfl, x4, y5] at h4
  have i4 : in32 (tn x) := ⟨by omega, by omega⟩
  have j4 : in32 (tn (tupN N k)) := ⟨by omega, by omega⟩
  rw [show (((6 * k : Nat) : Int) + 4).toNat = 6 * k + 4 by omega, show (4 : Int).toNat = 4 from rfl, x4, y4]
  unfold Lt6 rk at h1 h0
  refine ⟨⟨by omega, by omega⟩, ⟨by omega, by omega⟩, fun e => ⟨⟨by decide, by decide⟩, ⟨by omega, by omega⟩, i4, j4, fun e2 => ⟨5, ?_⟩, fun e2 => ⟨⟨by decide, by decide⟩, ⟨by omega, by omega⟩, i4, j4, fun q => h0 (by omega), fun q => h1 (by omega)⟩⟩, fun e => ⟨⟨by omega, by omega⟩, ⟨by omega, by omega⟩, fun q => h0 (by omega), fun q => h1 (by omega)⟩⟩
  have hlex : (lexL x (tupN N k) → Post 1) ∧ (¬ lexL x (tupN N k) → Post 0) := ⟨fun q => h1 (Or.inr ⟨by omega, e2, q⟩), fun q => h0 (fun z => by
    rcases z with (z | ⟨z, z'⟩) | ⟨z, z', z''⟩
    · omega
    · omega
    · exact q z'')⟩
  have z0 : N 8 (6 * k + 0) = (tupN N k).1 := rfl
  have z1 : N 8 (6 * k + 1) = (tupN N k).2.1 := rfl
  have z2 : N 8 (6 * k + 2) = (tupN N k).2.2.1 := rfl
  have z3 : N 8 (6 * k + 3) = (tupN N k).2.2.2.1 := rfl
  unfold lexL at hlex
  refine ah_step (t := 0) hk (by decide) (by rw [x0]; exact hsx.1) (by rw [z0]; exact hsy.1) (fun q0 => ?_) (fun q => hlex.1 (by omega)) (fun q => hlex.2 (by omega))
  refine ah_step (t := 1) hk (by decide) (by rw [x1]; exact hsx.2.1) (by rw [z1]; exact hsy.2.1) (fun q1 => ?_) (fun q => hlex.1 (by omega)) (fun q => hlex.2 (by omega))
  refine ah_step (t := 2) hk (by decide) (by rw [x2]; exact hsx.2.2.1) (by rw [z2]; exact hsy.2.2.1) (fun q2 => ?_) (fun q => hlex.1 (by omega)) (fun q => hlex.2 (by omega))
  refine ah_step (t := 3) hk (by decide) (by rw [x3]; exact hsx.2.2.2) (by rw [z3]; exact hsy.2.2.2) (fun q3 => ?_) (fun q => hlex.1 (by omega)) (fun q => hlex.2 (by omega))
  exact ⟨by decide, fun _ => hlex.2 (by omega), fun q => absurd (by decide) q⟩
theorem shift_ok {X5 : Int → Mem → Prop} {Post : Mem → Prop} {p : Nat} {Ns : Mem} (hp : 0 < p ∧ p ≤ 100) (h : ∀ N' : Mem, (∀ r, r ≠ 8 → N' r = Ns r) → (∀ t, N' 8 t = if 6 * p ≤ t ∧ t < 6 * p + 6 then Ns 8 (t - 6) else Ns 8 t) → X5 ((p - 1 : Nat) : Int) N') : ∃ nn, wp_Model_put_21 X5 Post nn p 0 Ns := by
  have loop : ∀ f i : Nat, i + f = 6 → ∀ Nc : Mem, (∀ r, r ≠ 8 → Nc r = Ns r) → (∀ t, Nc 8 t = if 6 * p ≤ t ∧ t < 6 * p + i then Ns 8 (t - 6) else Ns 8 t) → wp_Model_put_21 X5 Post (f + 1) p i Nc := by
    intro f
    induction f with
    | zero =>
      intro i hi Nc a b
      refine ⟨⟨by omega, by omega⟩, fun _ v hv => ?_, fun q => absurd (show (6 : Int) ≤ i by omega) q⟩
      rw [hv, show ((p : Nat) : Int) + -1 = ((p - 1 : Nat) : Int) by omega]
      exact h Nc a (fun t => by rw [b t, show i = 6 by omega])
    | succ f ih =>
      intro i hi Nc a b
      refine ⟨⟨by omega, by omega⟩, fun q => absurd q (by omega), fun _ => ⟨⟨by omega, by omega⟩, ⟨by omega, by omega⟩, fun N2 hN2 v hv => ?_⟩⟩
      rw [show (6 * (p : Int) - 6 + (i : Int)).toNat = 6 * p - 6 + i by omega, show (6 * (p : Int) + (i : Int)).toNat = 6 * p + i by omega, b (6 * p - 6 + i), if_neg (by omega)] at hN2
      rw [hv, show ((i : Nat) : Int) + 1 = ((i + 1 : Nat) : Int) by omega]
      refine ih (i + 1) (by omega) N2 (fun r hr => by rw [hN2, up_ne hr]; exact a r hr) (fun t => ?_)
      rw [hN2]
      by_cases q : t = 6 * p + i
      · rw [q, up_ss, if_pos (by omega)]; congr 1; omega
      · rw [up_nj q, b t]
        by_cases q2 : 6 * p ≤ t ∧ t < 6 * p + i
        · rw [if_pos q2, if_pos (by omega)]
        · rw [if_neg q2, if_neg (by omega)]
  exact ⟨7, loop 6 0 (by omega) Ns (fun _ _ => rfl) (fun t => by rw [if_neg (by omega)])⟩
theorem write_ok {Post : Mem → Prop} {p c : Nat} {Ns : Mem} (hp : p ≤ 100) (hc : c ≤ 100) (h12 : Ns 0 12 = c) (h : ∀ N' : Mem, (∀ r, r ≠ 8 → r ≠ 0 → N' r = Ns r) → (∀ j, j ≠ 12 → N' 0 j = Ns 0 j) → N' 0 12 = ((if c < 100 then c + 1 else c : Nat) : Int) → (∀ t, N' 8 t = if 6 * p ≤ t ∧ t < 6 * p + 6 then Ns 9 (t - 6 * p) else Ns 8 t) → Post N') : ∃ nn, wp_Model_put_66 Post nn p 0 Ns := by
  have loop : ∀ f i : Nat, i + f = 6 → ∀ Nc : Mem, (∀ r, r ≠ 8 → Nc r = Ns r) → (∀ t, Nc 8 t = if 6 * p ≤ t ∧ t < 6 * p + i then Ns 9 (t - 6 * p) else Ns 8 t) → wp_Model_put_66 Post (f + 1) p i Nc := by
    intro f
    induction f with
    | zero =>
      intro i hi Nc a b
      have e12 : Nc 0 12 = c := by rw [a 0 (by decide)]; exact h12
      refine ⟨⟨by omega, by omega⟩, fun _ => ?_, fun q => absurd (show (6 : Int) ≤ i by omega) q⟩
      rw [e12]
      have last : ∀ N' : Mem, N' = up Nc 0 12 ((if c < 100 then c + 1 else c : Nat) : Int) → Post N' := by
        intro N' hN'
        refine h N' (fun r h8 h0 => by rw [hN', up_ne h0]; exact a r h8) (fun j hj => by rw [hN', up_nj hj, a 0 (by decide)]) (by rw [hN', up_ss]) (fun t => ?_)
        rw [hN', up_ne (by decide), b t, show i = 6 by omega]
      refine ⟨⟨by omega, by omega⟩, fun q N1 h1 => last N1 ?_, fun q N1 h1 => last N1 ?_⟩
      · rw [h1, if_neg (by omega), Int.add_zero]
      · rw [h1, if_pos (by omega)]; rfl
    | succ f ih =>
      intro i hi Nc a b
      refine ⟨⟨by omega, by omega⟩, fun q => absurd q (by omega), fun _ => ⟨⟨by omega, by omega⟩, ⟨by omega, by omega⟩, fun N2 hN2 v hv => ?_⟩⟩
      rw [show (6 * (p : Int) + (i : Int)).toNat = 6 * p + i by omega, Int.toNat_natCast, a 9 (by decide)] at hN2
      rw [hv, show ((i : Nat) : Int) + 1 = ((i + 1 : Nat) : Int) by omega]
      refine ih (i + 1) (by omega) N2 (fun r hr => by rw [hN2, up_ne hr]; exact a r hr) (fun t => ?_)
      rw [hN2]
      by_cases q : t = 6 * p + i
      · rw [q, up_ss, if_pos (by omega)]; congr 1; omega
      · rw [up_nj q, b t]
        by_cases q2 : 6 * p ≤ t ∧ t < 6 * p + i
        · rw [if_pos q2, if_pos (by omega)]
        · rw [if_neg q2, if_neg (by omega)]
  exact ⟨7, loop 6 0 (by omega) Ns (fun _ _ => rfl) (fun t => by rw [if_neg (by omega)])⟩
theorem put_ok {N0 N : Mem} {S : T6 → Prop} {Post : Mem → Prop} {x : T6} (hI : RunN N0 S N) (hS : ∀ y, S y → okT y ∧ smallT y) (hx : okT x ∧ smallT x) (e9 : tup9 N = x) (hnew : ¬ S x) (h : ∀ N', RunN N0 (fun y => S y ∨ y = x) N' → Post N') : wp_Model_put N Post := by
  obtain ⟨f1, f2, f3, f4⟩ := hI
  obtain ⟨c, hc⟩ : ∃ c : Nat, N 0 12 = c := ⟨(N 0 12).toNat, by omega⟩
  rw [hc] at f3 f4
  rw [Int.toNat_natCast] at f4
  have hc100 : c ≤ 100 := by omega
  have fin : ∀ p : Nat, p ≤ c → ∀ Nc : Mem, (∀ r, r ≠ 8 → Nc r = N r) → (∀ t, Nc 8 t = if 6 * (p + 1) ≤ t ∧ t < 6 * (c + 1) then N 8 (t - 6) else N 8 t) → (∀ k, p ≤ k → k < c → Lt6 x (tupN N k)) → (p = 0 ∨ Lt6 (tupN N (p - 1)) x) → ∃ nn, wp_Model_put_66 Post nn p 0 Nc := by
    intro p hp Nc a b d1 d2
    refine write_ok (c := c) (by omega) hc100 (by rw [a 0 (by decide)]; exact hc) (fun N' g1 g2 g3 g4 => ?_)
    have at1 : ∀ t, t < 6 * p → N' 8 t = N 8 t := fun t ht => by rw [g4 t, if_neg (by omega), b t, if_neg (by omega)]
    have at2 : ∀ i, i < 6 → N' 8 (6 * p + i) = N 9 i := fun i hi => by rw [g4, if_pos (by omega), show 6 * p + i - 6 * p = i by omega, a 9 (by decide)]
    have at3 : ∀ t, 6 * (p + 1) ≤ t → t < 6 * (c + 1) → N' 8 t = N 8 (t - 6) := fun t h1 h2 => by rw [g4 t, if_neg (by omega), b t, if_pos ⟨h1, h2⟩]
    have u1 : ∀ k, k < p → tupN N' k = tupN N k := fun k hk => by
      unfold tupN
      rw [at1 _ (by omega), at1 _ (by omega), at1 _ (by omega), at1 _ (by omega), at1 _ (by omega), at1 _ (by omega)]
    have u2 : tupN N' p = x := by
      rw [← e9]
      unfold tupN tup9 tupR
      have z := at2 0 (by omega)
      rw [Nat.add_zero] at z
      rw [z, at2 1 (by omega), at2 2 (by omega), at2 3 (by omega), at2 4 (by omega), at2 5 (by omega)]
    have u3 : ∀ k, p ≤ k → k < c → tupN N' (k + 1) = tupN N k := fun k h1 h2 => by
      unfold tupN
      rw [at3 _ (by omega) (by omega), at3 _ (by omega) (by omega), at3 _ (by omega) (by omega), at3 _ (by omega) (by omega), at3 _ (by omega) (by omega), at3 _ (by omega) (by omega)]
      rw [show 6 * (k + 1) - 6 = 6 * k by omega, show 6 * (k + 1) + 1 - 6 = 6 * k + 1 by omega, show 6 * (k + 1) + 2 - 6 = 6 * k + 2 by omega, show 6 * (k + 1) + 3 - 6 = 6 * k + 3 by omega, show 6 * (k + 1) + 4 - 6 = 6 * k + 4 by omega, show 6 * (k + 1) + 5 - 6 = 6 * k + 5 by omega]
    refine h N' ⟨fun r h0 h8 h9 => by rw [g1 r h8 h0, a r h8]; exact f1 r h0 h8 h9, fun j hj => by rw [g2 j hj, a 0 (by decide)]; exact f2 j hj, ?_, ?_⟩
    · rw [g3]; split <;> omega
    · rw [g3, Int.toNat_natCast]
      exact f4.put (fun y hy => (hS y hy).1.1.1) hx.1.1.1 hp d2 d1 u1 u2 u3
  have loop : ∀ p : Nat, p ≤ c → ∀ Nc : Mem, (∀ r, r ≠ 8 → Nc r = N r) → (∀ t, Nc 8 t = if 6 * (p + 1) ≤ t ∧ t < 6 * (c + 1) then N 8 (t - 6) else N 8 t) → (∀ k, p ≤ k → k < c → Lt6 x (tupN N k)) → wp_Model_put_5 Post (p + 1) p Nc := by
    intro p
    induction p with
    | zero =>
      intro hp Nc a b d1
      exact ⟨⟨by omega, by omega⟩, fun _ => fin 0 hp Nc a b d1 (Or.inl rfl), fun q => absurd (show ((0 : Nat) : Int) ≤ 0 by omega) q⟩
    | succ p ih =>
      intro hp Nc a b d1
      refine ⟨⟨by omega, by omega⟩, fun q => absurd q (by omega), fun _ => ?_⟩
      rw [show ((p + 1 : Nat) : Int) - 1 = (p : Int) by omega]
      have hy : S (tupN N p) := f4.2.2.1 p (by omega)
      have ety : tupN Nc p = tupN N p := by
        unfold tupN
        rw [b, if_neg (by omega), b, if_neg (by omega), b, if_neg (by omega), b, if_neg (by omega), b, if_neg (by omega), b, if_neg (by omega)]
      have e9' : tup9 Nc = x := by rw [← e9]; unfold tup9; rw [a 9 (by decide)]
      refine ahead_N (by omega) hx.1 hx.2 (by rw [ety]; exact (hS _ hy).1) (by rw [ety]; exact (hS _ hy).2) e9' (fun hlt => ⟨xl rfl, fun q => absurd q (by decide), fun _ => ?_⟩) (fun hlt => ⟨xl rfl, fun _ => ?_, fun q => absurd rfl q⟩)
      · rw [ety] at hlt
        refine shift_ok ⟨by omega, by omega⟩ (fun N' g1 g2 => ?_)
        rw [Nat.add_sub_cancel]
        refine ih (by omega) N' (fun r hr => by rw [g1 r hr]; exact a r hr) (fun t => ?_) (fun k h1 h2 => ?_)
        · rw [g2 t]
          by_cases q : 6 * (p + 1) ≤ t ∧ t < 6 * (p + 1) + 6
          · rw [if_pos q, b, if_neg (by omega), if_pos (by omega)]
          · rw [if_neg q, b t]
            by_cases q2 : 6 * (p + 1 + 1) ≤ t ∧ t < 6 * (c + 1)
            · rw [if_pos q2, if_pos (by omega)]
            · rw [if_neg q2, if_neg (by omega)]
        · by_cases q : k = p
          · rw [q]; exact hlt
          · exact d1 k (by omega) h2
      · rw [ety] at hlt
        refine fin (p + 1) hp Nc a b d1 (Or.inr ?_)
        rw [Nat.add_sub_cancel]
        rcases Lt6_tri (x := x) (y := tupN N p) hx.1.1.1 (hS _ hy).1.1.1 with q | q | q
        · rw [← q] at hy; exact absurd hy hnew
        · exact absurd q hlt
        · exact q
  intro v hv
  rw [hv, hc]
  exact ⟨c + 1, loop c (Nat.le_refl _) N (fun _ _ => rfl) (fun t => by rw [if_neg (by omega)]) (fun k h1 h2 => absurd h1 (by omega))⟩
