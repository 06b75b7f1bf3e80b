/-! close, the second part -/
section Cl2
variable {N : Mem} {n s : Nat} {d cx cy : Nat → Int}
def CInv (N : Mem) (s n : Nat) (d cx cy : Nat → Int) (c : Nat) (Nc : Mem) : Prop :=
  (∀ r, r ≠ 0 → r ≠ 5 → r ≠ 6 → r ≠ 7 → Nc r = N r) ∧ (∀ j, j ≠ 19 → j ≠ 20 → Nc 0 j = N 0 j) ∧ (∀ t, t ≠ s → Nc 5 t = N 5 t) ∧ (∀ i, ¬ (49 * s ≤ i ∧ i < 49 * s + 49) → Nc 6 i = N 6 i ∧ Nc 7 i = N 7 i) ∧ Nc 5 s = sm (fun c => wn n d cx cy (cX c) (cY c)) c ∧ (∀ i : Nat, (i : Int) < Nc 5 s → wn n d cx cy (Nc 6 (49 * s + i)) (Nc 7 (49 * s + i)) = 1) ∧ ∀ c', c' < c → wn n d cx cy (cX c') (cY c') = 1 → ∃ i : Nat, (i : Int) < Nc 5 s ∧ Nc 6 (49 * s + i) = cX c' ∧ Nc 7 (49 * s + i) = cY c'
theorem cells_ok {Post : Int → Mem → Prop} (hh : Holds N s n d cx cy) (ho : Once n cx cy) (hsp : 0 < spaceOf n d cx) (h5 : N 5 s = 0) (h : ∀ N' : Mem, CInv N s n d cx cy 1024 N' → Post (N' 5 s) N') : ∃ nn, wp_Model_close_75 Post nn s 0 N := by
  obtain ⟨hs6, hn28, -, -, hp⟩ := id hh
  have hoo : cx n = 0 ∧ cy n = 0 := ⟨ho.1, ho.2.1⟩
  have h01 := wn_pos hp ho hn28 hsp
  have htot := wn_win hp hoo hn28
  have h49 := space49 hp hoo hn28
  have hpart := sm_part (f := fun c => wn n d cx cy (cX c) (cY c)) (m := 1024) (fun k _ => by rcases h01 (cX k) (cY k) with q | q <;> rw [q] <;> decide)
  have hnn : ∀ k, 0 ≤ sm (fun c => wn n d cx cy (cX c) (cY c)) k := fun k => sm_nonneg (fun k _ => by rcases h01 (cX k) (cY k) with q | q <;> rw [q] <;> decide)
  have loop : ∀ (m c : Nat), c + m = 1024 → ∀ Nc, CInv N s n d cx cy c Nc → wp_Model_close_75 Post (m + 1) s c Nc := by
    intro m
    induction m with
    | zero =>
      intro c hc Nc hI
      refine ⟨⟨by omega, by omega⟩, fun _ => ⟨⟨by omega, by omega⟩, ?_⟩, fun q => absurd (show (1024 : Int) ≤ c by omega) q⟩
      rw [Int.toNat_natCast]
      exact h Nc (by rw [show c = 1024 by omega] at hI; exact hI)
    | succ m ih =>
      intro c hc Nc hI
      obtain ⟨a, b, e, f, g, g1, g2⟩ := id hI
      have hg : Holds Nc s n d cx cy := hh.of (by rw [a 1 (by decide) (by decide) (by decide) (by decide)]) (a 2 (by decide) (by decide) (by decide) (by decide))
      refine ⟨⟨by omega, by omega⟩, fun q => absurd q (by omega), fun _ => ⟨⟨by omega, by omega, by omega, by omega⟩, fun v3 h3 => ⟨⟨by omega, by omega, by omega, by omega⟩, fun v4 h4 => ?_⟩⟩⟩
      have e3 : v3 = cX c := by unfold cX; omega
      have e4 : v4 = cY c := by unfold cY; omega
      subst e3
      subst e4
      refine inside_ok ⟨by omega, by omega⟩ ⟨by omega, by omega⟩ hg (fun r pa pb hr hpar => ?_)
      have hrw : r = wn n d cx cy (cX c) (cY c) := by have := h01 (cX c) (cY c); omega
      have hb1 := hpart (c + 1) (by omega)
      have hb1' : sm (fun c => wn n d cx cy (cX c) (cY c)) c + wn n d cx cy (cX c) (cY c) ≤ sm (fun c => wn n d cx cy (cX c) (cY c)) 1024 := hb1
      have hb0 := hnn c
      refine ⟨by rcases hr with z | z <;> rw [z] <;> exact xl rfl, fun q => ⟨⟨by omega, by omega⟩, ?_⟩, fun q v hv => ?_⟩
      · have hw1 : wn n d cx cy (cX c) (cY c) = 1 := by have := h01 (cX c) (cY c); omega
        have h5s : (pp Nc pa pb) 5 s = sm (fun c => wn n d cx cy (cX c) (cY c)) c := by rw [pp_r (by decide)]; exact g
        obtain ⟨k, hk⟩ : ∃ k : Nat, sm (fun c => wn n d cx cy (cX c) (cY c)) c = k := ⟨(sm (fun c => wn n d cx cy (cX c) (cY c)) c).toNat, by omega⟩
        rw [hk] at h5s g
        rw [Int.toNat_natCast, h5s]
        refine ⟨⟨by omega, by omega⟩, fun N5 h5 => ⟨⟨by omega, by omega⟩, ?_⟩⟩
        rw [show (49 * (s : Int) + (k : Int)).toNat = 49 * s + k by omega] at h5
        have h5s2 : N5 5 s = k := by rw [h5, up_ne (by decide)]; exact h5s
        rw [h5s2]
        refine ⟨⟨by omega, by omega⟩, fun N6 h6 => ⟨⟨by omega, by omega⟩, ⟨by omega, by omega⟩, fun N7 h7 v hv => ?_⟩⟩
        rw [show (49 * (s : Int) + (k : Int)).toNat = 49 * s + k by omega] at h6
        have h5s3 : N6 5 s = k := by rw [h6, up_ne (by decide)]; exact h5s2
        rw [h5s3] at h7
        rw [hv, show ((c : Nat) : Int) + 1 = ((c + 1 : Nat) : Int) by omega]
        have r6 : ∀ i, i ≠ 49 * s + k → N7 6 i = Nc 6 i := fun i hi => by rw [h7, up_ne (by decide), h6, up_ne (by decide), h5, up_nj hi, pp_r (by decide)]
        have r66 : N7 6 (49 * s + k) = cX c := by rw [h7, up_ne (by decide), h6, up_ne (by decide), h5, up_ss]
        have r7 : ∀ i, i ≠ 49 * s + k → N7 7 i = Nc 7 i := fun i hi => by rw [h7, up_ne (by decide), h6, up_nj hi, h5, up_ne (by decide), pp_r (by decide)]
        have r77 : N7 7 (49 * s + k) = cY c := by rw [h7, up_ne (by decide), h6, up_ss]
        have r5 : N7 5 s = k + 1 := by rw [h7, up_ss]
        refine ih (c + 1) (by omega) N7 ⟨fun r z0 z5 z6 z7 => ?_, fun j z1 z2 => ?_, fun t ht => ?_, fun i hi => ?_, ?_, fun i hi => ?_, fun c' hc' hw' => ?_⟩
        · rw [h7, up_ne z5, h6, up_ne z7, h5, up_ne z6, pp_r z0]; exact a r z0 z5 z6 z7
        · rw [h7, up_ne (by decide), h6, up_ne (by decide), h5, up_ne (by decide), pp_0 z1 z2]; exact b j z1 z2
        · rw [h7, up_nj ht, h6, up_ne (by decide), h5, up_ne (by decide), pp_r (by decide)]; exact e t ht
        · rw [r6 i (by omega), r7 i (by omega)]; exact f i hi
        · rw [r5]
          show _ = sm (fun c => wn n d cx cy (cX c) (cY c)) c + wn n d cx cy (cX c) (cY c)
          rw [hk, hw1]
        · rw [r5] at hi
          by_cases z : i = k
          · subst z; rw [r66, r77]; exact hw1
          · rw [r6 _ (by omega), r7 _ (by omega)]; exact g1 i (by omega)
        · by_cases z : c' = c
          · subst z
            exact ⟨k, by omega, r66, r77⟩
          · obtain ⟨i, i1, i2, i3⟩ := g2 c' (by omega) hw'
            exact ⟨i, by omega, by rw [r6 _ (by omega)]; exact i2, by rw [r7 _ (by omega)]; exact i3⟩
      · have hw0 : wn n d cx cy (cX c) (cY c) = 0 := by omega
        rw [hv, show ((c : Nat) : Int) + 1 = ((c + 1 : Nat) : Int) by omega]
        refine ih (c + 1) (by omega) _ ⟨fun r z0 z5 z6 z7 => ?_, fun j z1 z2 => ?_, fun t ht => ?_, fun i hi => ?_, ?_, fun i hi => ?_, fun c' hc' hw' => ?_⟩
        · rw [pp_r z0]; exact a r z0 z5 z6 z7
        · rw [pp_0 z1 z2]; exact b j z1 z2
        · rw [pp_r (by decide)]; exact e t ht
        · rw [pp_r (by decide), pp_r (by decide)]; exact f i hi
        · rw [pp_r (by decide)]
          show _ = sm (fun c => wn n d cx cy (cX c) (cY c)) c + wn n d cx cy (cX c) (cY c)
          rw [hw0, Int.add_zero]; exact g
        · rw [pp_r (by decide)] at hi ⊢; rw [pp_r (by decide)]; exact g1 i hi
        · have z : c' ≠ c := fun z => by subst z; omega
          rw [pp_r (by decide), pp_r (by decide), pp_r (by decide)]
          exact g2 c' (by omega) hw'
  exact ⟨1025, loop 1024 0 (by omega) N ⟨fun _ _ _ _ _ => rfl, fun _ _ _ => rfl, fun _ _ => rfl, fun _ _ => ⟨rfl, rfl⟩, by rw [h5]; rfl, fun i hi => absurd hi (by omega), fun c' hc' => absurd hc' (by omega)⟩⟩
end Cl2
theorem rot0 (x y : Int) : rotX 0 x y = x ∧ rotY 0 x y = y := ⟨if_pos rfl, if_pos rfl⟩
theorem card_pos {P : Nat → Int} {t : Int} {s : Nat} (hs : s < 6) (h : P (4 * s + 3) = t) : 1 ≤ card P t := by
  have hn : ∀ k, k < 6 → 0 ≤ (if P (4 * k + 3) = t then (1 : Int) else 0) := fun k _ => by split <;> decide
  have h1 := sm_part (f := fun s => if P (4 * s + 3) = t then (1 : Int) else 0) hn (s + 1) (by omega)
  have h2 : 0 ≤ sm (fun s => if P (4 * s + 3) = t then (1 : Int) else 0) s := sm_nonneg (fun k hk => hn k (by omega))
  have h3 : sm (fun s => if P (4 * s + 3) = t then (1 : Int) else 0) (s + 1) = sm (fun s => if P (4 * s + 3) = t then (1 : Int) else 0) s + 1 := by
    show _ + (if P (4 * s + 3) = t then (1 : Int) else 0) = _
    rw [if_pos h]
  unfold card
  omega
theorem LayOK.shut {clo clo' siz : Nat → Int} {cx cy : Nat → Nat → Int} {P : Nat → Int} {J : Int} {s : Nat} {d : Nat → Int} (h : LayOK clo siz cx cy P J) (hs : s < 6) (h0 : clo s = 0) (h1 : clo' s = 1) (ho : ∀ t, t ≠ s → clo' t = clo t) (hn : (siz s).toNat ≤ 28) (hp : Poly (siz s).toNat d (cx s) (cy s)) (hc : cx s (siz s).toNat = 0 ∧ cy s (siz s).toNat = 0) : LayOK clo' siz cx cy P J := by
  obtain ⟨a, b, c⟩ := h
  have up1 : ∀ t, clo t = 1 → clo' t = 1 := fun t ht => by
    by_cases z : t = s
    · subst z; exact h1
    · rw [ho t z]; exact ht
  have self : P (4 * s + 3) = s := by
    by_cases z : P (4 * s + 3) = s
    · exact z
    · have := ((a s hs).2.2.1 z).1; omega
  have alone : ∀ t, t < 6 → P (4 * t + 3) = s → t = s := fun t ht hts => by
    by_cases z : P (4 * t + 3) = t
    · omega
    · have := ((a t ht).2.2.1 z).2
      rw [hts, Int.toNat_natCast] at this; omega
  refine ⟨fun t ht => ?_, fun t t0 t1 => ?_, c⟩
  · obtain ⟨a1, a2, a3, a4⟩ := a t ht
    refine ⟨a1, a2, fun q => ⟨up1 _ (a3 q).1, up1 _ (a3 q).2⟩, fun q => a4 ?_⟩
    by_cases z : t = s
    · subst z; exact h0
    · rw [← ho t z]; exact q
  · obtain ⟨l, r, u, dd, b1, b2, b3⟩ := b t t0 t1
    by_cases z : t = s
    · subst z
      obtain ⟨il, hl1, hl2⟩ := ex_min (cx s) (siz s).toNat
      obtain ⟨iu, hu1, hu2⟩ := ex_min (cy s) (siz s).toNat
      obtain ⟨bx1, bx2, bx3⟩ := box hp hc
      obtain ⟨z1, z2, z3⟩ := (a s hs).2.2.2 h0
      have cp : 1 ≤ card P s := card_pos hs self
      have p0 := cnt_pos d 0 (siz s).toNat
      have p1 := cnt_pos d 1 (siz s).toNat
      have q1 := hl2 0 (by omega)
      have q2 := hu2 0 (by omega)
      have q3 := bx2 0 il (by omega) hl1
      have q4 := bx3 0 iu (by omega) hu1
      rw [hp.1] at q1 q3
      rw [hp.2.1] at q2 q4
      refine ⟨cx s il, cx s il + cnt d 0 (siz s).toNat, cy s iu, cy s iu + cnt d 1 (siz s).toNat, ⟨by omega, by omega, by omega, by omega⟩, by omega, fun t' ht' hts => ?_⟩
      have := alone t' ht' hts
      subst this
      rw [z1, z2, z3]
      refine ⟨⟨by omega, by omega, by omega, by omega⟩, fun _ k hk => ?_⟩
      rw [(rot0 _ _).1, (rot0 _ _).2, Int.zero_add, Int.zero_add]
      have k1 := hl2 k hk
      have k2 := hu2 k hk
      have k3 := bx2 k il hk hl1
      have k4 := bx3 k iu hk hu1
      exact ⟨by omega, by omega, by omega, by omega⟩
    · refine ⟨l, r, u, dd, b1, b2, fun t' ht' hts => ⟨(b3 t' ht' hts).1, fun hq => (b3 t' ht' hts).2 ?_⟩⟩
      rw [← ho t' (fun q => by subst q; omega)]; exact hq
theorem Rel.holds {M N : Mem} (h : RelE M N) {s : Nat} (hs : s < 6) : Holds N s (N 1 s).toNat (M (114 + 10 * s + 1)) (M (114 + 10 * s + 3)) (M (114 + 10 * s + 4)) := by
  obtain ⟨⟨e1, e2, e3, e4, e5, e6⟩, -⟩ := h s hs
  exact ⟨hs, by omega, by omega, fun i hi => (e3 i (by omega)).1.symm, e5⟩
theorem Rel.pt {M N : Mem} (h : Rel M N) (a b : Int) : Rel M (pp N a b) := by
  obtain ⟨h1, h2, h3, h4⟩ := h
  have q : ∀ j, j ≠ 19 → j ≠ 20 → pp N a b 0 j = N 0 j := fun j x y => pp_0 x y
  have z : ∀ r, r ≠ 0 → pp N a b r = N r := fun r hr => pp_r hr
  have h6 := h1.1.2.2
  refine ⟨?_, h2.same (fun _ _ _ _ => rfl) (fun r a _ => z r (by omega)) (q 1 (by omega) (by omega)), h3.same rfl (q 17 (by omega) (by omega)) (fun _ _ _ => rfl) (fun _ _ _ _ _ => rfl) (z 10 (by omega)) (z 11 (by omega)) (z 4 (by omega)) (fun s _ _ => ⟨rfl, rfl, by rw [z 1 (by omega)]⟩), h4.same h6 rfl rfl (fun _ _ _ => rfl) (q 11 (by omega) (by omega)) (q 12 (by omega) (by omega)) (z 8 (by omega)) (by rw [q 1 (by omega) (by omega)]; exact Int.le_refl _) (z 4 (by omega)) (fun s _ _ => by rw [z 1 (by omega)]) (fun s i _ _ _ => by rw [z 2 (by omega)])⟩
  unfold RelC
  rw [q 1 (by omega) (by omega), q 9 (by omega) (by omega), q 10 (by omega) (by omega), z 4 (by omega)]
  exact h1
