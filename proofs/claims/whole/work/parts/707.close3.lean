/-! close: both sides -/
theorem sm_set {f f' : Nat → Int} {m s : Nat} (hs : s < m) (h0 : f s = 0) (h1 : f' s = 1) (ho : ∀ t, t ≠ s → f' t = f t) : sm f' m = sm f m + 1 := by
  have e : sm f' m = sm (fun k => f k + (if k = s then 1 else 0)) m := sm_congr (fun k _ => by
    by_cases z : k = s
    · subst z; rw [if_pos rfl, h1, h0]; rfl
    · rw [if_neg z, ho k z]; omega)
  rw [e, sm_add, sm_one (i := s) hs (fun k _ z => if_neg z), if_pos rfl]
theorem ob_close : Ob_close Rel := by
  intro M N w a1 hR i1
  obtain ⟨h1, h2, h3, h4⟩ := id hR
  obtain ⟨⟨c1, c2, c3⟩, c4, c5, c6⟩ := id h1
  unfold wpL_close wp_X_close
  by_cases hs : 0 ≤ a1 ∧ a1 < N 0 1
  · refine eo_yes h1 i1 hs ?_
    obtain ⟨s, hsa⟩ : ∃ s : Nat, a1 = s := ⟨a1.toNat, by omega⟩
    subst hsa
    rw [Int.toNat_natCast]
    have hs6 : s < 6 := by omega
    obtain ⟨⟨e1, e2, e3, e4, e5, e6⟩, e7, e8⟩ := h2 s hs6
    have in5 : in32 (M (114 + 10 * s) 5) := by rw [e2.1]; rcases e2.2 with h | h <;> rw [h] <;> exact xl rfl
    have inc : in32 (N 4 s) := by rw [← e2.1]; exact in5
    have inn : in32 (N 1 s) := ⟨by omega, by omega⟩
    have hn28 : (N 1 s).toNat ≤ 28 := by omega
    have hsz : M (114 + 10 * s) 4 = ((N 1 s).toNat : Int) := by rw [e1.1]; omega
    have go : ∀ Post : Int → Mem → Prop, (N 4 s ≠ 0 → Post 0 (up N 0 0 0)) → (N 4 s = 0 → N 1 s < 4 → Post 0 (up N 0 0 0)) → (N 4 s = 0 → ¬ N 1 s < 4 → wp_Model_isOnce s (up N 0 0 0) (fun r_3 M_4 => (in32 r_3 ∧ (r_3 = 0 → Post 0 M_4) ∧ (¬ r_3 = 0 → (wp_Model_space s M_4 (fun r_5 M_6 => (in32 r_5 ∧ (0 < r_5 → ((0 ≤ (s : Int) ∧ (s : Int) < 6) ∧ ∀ M_7 : Mem, M_7 = up M_6 4 (s : Int).toNat 1 → (∀ M_8 : Mem, M_8 = up M_7 0 11 0 → ∃ nn, wp_Model_close_75 Post nn s 0 M_8))) ∧ (¬ 0 < r_5 → Post 0 M_6)))))))) → wp_Model_close s N Post := by
      intro Post k1 k2 k3
      refine sh_yes h1 i1 hs ⟨xl rfl, fun _ => thr_no ⟨xl rfl, fun _ => ⟨⟨by omega, by omega⟩, ?_⟩, fun q => absurd rfl q⟩, fun q => absurd q (by decide)⟩
      rw [Int.toNat_natCast, up_ne (by decide), up_ne (by decide)]
      exact ⟨inc, k1, fun q => ⟨⟨by omega, by omega⟩, inn, k2 q, k3 q⟩⟩
    have hold : Holds (up N 0 0 0) s (N 1 s).toNat (M (114 + 10 * s + 1)) (M (114 + 10 * s + 3)) (M (114 + 10 * s + 4)) := (Rel.holds h2 hs6).of (by rw [up_ne (by decide)]) (up_ne (by decide))
    have zero : ∀ N' : Mem, N' 0 0 = 0 → Rel M N' → wp_Model_thrown N' (fun t => endR Rel 0 (toL 0) M 0 N' t) := fun N' z hr => ⟨z, ⟨by omega, by omega⟩, fun _ => rfl, hr⟩
    have z00 : (up N 0 0 0) 0 0 = 0 := up_ss _ _ _ _
    refine ⟨in5, fun h => ?_, fun h => ?_⟩
    · rw [e2.1] at h
      exact go _ (fun _ => zero _ z00 (hR.thr 0)) (fun q => absurd q h) (fun q => absurd q h)
    · rw [e2.1] at h
      refine can_ok hn28 hsz e5 (fun r hr hiff => ⟨by rcases hr with z | z <;> rw [z] <;> exact xl rfl, fun hr1 => ?_, fun hr0 => ?_⟩)
      · obtain ⟨hn4, hon, hsp⟩ := hiff.mp (by omega)
        have hcc : M (114 + 10 * s + 3) (N 1 s).toNat = 0 ∧ M (114 + 10 * s + 4) (N 1 s).toNat = 0 := ⟨hon.1, hon.2.1⟩
        intro M3 hM3 M4 hM4 M6 hM6
        have p : ∀ r, r ≠ 0 → r ≠ 8 → r ≠ 114 + 10 * s → M6 r = M r := fun r a b c => by rw [hM6, up_ne b, hM4, up_ne a, hM3, up_ne c]
        have p0 : ∀ j, j ≠ 6 → M6 0 j = M 0 j := fun j a => by rw [hM6, up_ne (by decide), hM4, up_nj a, hM3, up_ne (by omega)]
        have p6 : M6 0 6 = M 0 6 + 1 := by rw [hM6, up_ne (by decide), hM4, up_ss, hM3, up_ne (by omega)]
        have p81 : M6 8 1 = 0 := by rw [hM6, up_ss]
        have pe : ∀ j, j ≠ 5 → M6 (114 + 10 * s) j = M (114 + 10 * s) j := fun j a => by rw [hM6, up_ne (by omega), hM4, up_ne (by omega), hM3, up_nj a]
        have pe5 : M6 (114 + 10 * s) 5 = 1 := by rw [hM6, up_ne (by omega), hM4, up_ne (by omega), hM3, up_ss]
        refine area_ok hn28 (by rw [pe 4 (by decide)]; exact hsz) (by rw [p _ (by omega) (by omega) (by omega), p _ (by omega) (by omega) (by omega), p _ (by omega) (by omega) (by omega)]; exact e5) ?_
        rw [p (114 + 10 * s + 1) (by omega) (by omega) (by omega), p (114 + 10 * s + 3) (by omega) (by omega) (by omega)]
        refine go _ (fun q => absurd h q) (fun _ q => absurd q (by omega)) (fun _ _ => once_ok hold (fun r3 pa pb hr3 hif3 => ?_))
        refine ⟨by rcases hr3 with z | z <;> rw [z] <;> exact xl rfl, fun q => absurd (hif3.mpr hon) (by omega), fun _ => space_ok (hold.pp pa pb) (fun qa qb => ?_)⟩
        rw [space2 e5 hcc, pp_pp]
        have hsl := space_low hn28 e5
        refine ⟨⟨by omega, by omega⟩, fun _ => ⟨⟨by omega, by omega⟩, fun N7 hN7 N8 hN8 => ?_⟩, fun q => absurd (show (0 : Int) < 2 * spaceOf (N 1 s).toNat (M (114 + 10 * s + 1)) (M (114 + 10 * s + 3)) by omega) q⟩
        rw [Int.toNat_natCast] at hN7
        have q8 : ∀ r, r ≠ 0 → r ≠ 4 → N8 r = N r := fun r a b => by rw [hN8, up_ne a, hN7, up_ne b, pp_r a, up_ne a]
        have q84 : ∀ t, t ≠ s → N8 4 t = N 4 t := fun t ht => by rw [hN8, up_ne (by decide), hN7, up_nj ht, pp_r (by decide), up_ne (by decide)]
        have q844 : N8 4 s = 1 := by rw [hN8, up_ne (by decide), hN7, up_ss]
        have z8 : ∀ j, j ≠ 0 → j ≠ 11 → j ≠ 19 → j ≠ 20 → N8 0 j = N 0 j := fun j a b c d => by rw [hN8, up_nj b, hN7, up_ne (by decide), pp_0 c d, up_nj a]
        have z80 : N8 0 0 = 0 := by rw [hN8, up_nj (by decide), hN7, up_ne (by decide), pp_0 (by decide) (by decide)]; exact z00
        have z811 : N8 0 11 = 0 := by rw [hN8, up_ss]
        have hold8 : Holds N8 s (N 1 s).toNat (M (114 + 10 * s + 1)) (M (114 + 10 * s + 3)) (M (114 + 10 * s + 4)) := (Rel.holds h2 hs6).of (by rw [q8 1 (by decide) (by decide)]) (q8 2 (by decide) (by decide))
        refine cells_ok hold8 hon hsp (by rw [q8 5 (by decide) (by decide)]; exact e7.1 h) (fun N9 hI => ?_)
        obtain ⟨a, b, e, f, g, g1, g2⟩ := hI
        have q : ∀ r, r ≠ 0 → r ≠ 4 → r ≠ 5 → r ≠ 6 → r ≠ 7 → N9 r = N r := fun r x0 x4 x5 x6 x7 => by rw [a r x0 x5 x6 x7, q8 r x0 x4]
        have q4 : ∀ t, t ≠ s → N9 4 t = N 4 t := fun t ht => by rw [a 4 (by decide) (by decide) (by decide) (by decide), q84 t ht]
        have q44 : N9 4 s = 1 := by rw [a 4 (by decide) (by decide) (by decide) (by decide), q844]
        have z : ∀ j, j ≠ 0 → j ≠ 11 → j ≠ 19 → j ≠ 20 → N9 0 j = N 0 j := fun j x0 x1 x2 x3 => by rw [b j x2 x3, z8 j x0 x1 x2 x3]
        have z11 : N9 0 11 = 0 := by rw [b 11 (by decide) (by decide), z811]
        have ne := wn_win e5 hcc hn28
        refine ⟨by rw [b 0 (by decide) (by decide)]; exact z80, ⟨by omega, by omega⟩, fun _ => toL_eq (by rw [g, ne]), ?_, ?_, ?_, ?_⟩
        · refine ⟨⟨by rw [p0 5 (by decide), z 1 (by decide) (by decide) (by decide) (by decide)]; exact c1, by rw [z 1 (by decide) (by decide) (by decide) (by decide)]; exact ⟨c2, c3⟩⟩, ?_, ?_, ?_⟩
          · rw [p6, c4, sm_set (f := fun s => N 4 s) (f' := fun s => N9 4 s) hs6 h q44 q4]
          · rw [p0 8 (by decide), z 9 (by decide) (by decide) (by decide) (by decide)]; exact c5
          · rw [p0 9 (by decide), z 10 (by decide) (by decide) (by decide) (by decide)]; exact c6
        · intro t ht
          obtain ⟨⟨f1, f2, f3, f4, f5, f6⟩, f7, f8⟩ := h2 t ht
          rw [p (114 + 10 * t + 1) (by omega) (by omega) (by omega), p (114 + 10 * t + 2) (by omega) (by omega) (by omega), p (114 + 10 * t + 3) (by omega) (by omega) (by omega), p (114 + 10 * t + 4) (by omega) (by omega) (by omega), q 1 (by decide) (by decide) (by decide) (by decide) (by decide), q 2 (by decide) (by decide) (by decide) (by decide) (by decide), q 3 (by decide) (by decide) (by decide) (by decide) (by decide), z 1 (by decide) (by decide) (by decide) (by decide)]
          by_cases hts : t = s
          · subst hts
            rw [q44]
            refine ⟨⟨⟨by rw [pe 4 (by decide)]; exact f1.1, f1.2⟩, ⟨pe5, Or.inr rfl⟩, f3, f4, f5, fun _ => ⟨by omega, hon, hsp⟩⟩, ⟨fun x => absurd x (by decide), fun _ => ⟨?_, g1, fun x y hxy => ?_⟩⟩, f8⟩
            · have := space49 e5 hcc hn28
              rw [g, ne]; omega
            · have hin := wn_in e5 hcc hn28 (show wn (N 1 t).toNat (M (114 + 10 * t + 1)) (M (114 + 10 * t + 3)) (M (114 + 10 * t + 4)) x y ≠ 0 by rw [hxy]; decide)
              obtain ⟨c, hc, hcx, hcy⟩ := win_at (x := x) (y := y) ⟨by omega, by omega⟩ ⟨by omega, by omega⟩
              have := g2 c hc (by rw [hcx, hcy]; exact hxy)
              rw [hcx, hcy] at this
              exact this
          · rw [p (114 + 10 * t) (by omega) (by omega) (by omega), q4 t hts, e t hts, q8 5 (by decide) (by decide)]
            refine ⟨⟨f1, f2, f3, f4, f5, f6⟩, ⟨f7.1, fun hc => ?_⟩, f8⟩
            obtain ⟨k1, k2, k3⟩ := f7.2 hc
            refine ⟨k1, fun i hi => ?_, fun x y hxy => ?_⟩
            · dsimp only
              rw [(f (49 * t + i) (by omega)).1, (f (49 * t + i) (by omega)).2, q8 6 (by decide) (by decide), q8 7 (by decide) (by decide)]
              exact k2 i hi
            · obtain ⟨i, j1, j2, j3⟩ := k3 x y hxy
              refine ⟨i, j1, ?_, ?_⟩
              · dsimp only
                rw [(f (49 * t + i) (by omega)).1, q8 6 (by decide) (by decide)]; exact j2
              · dsimp only
                rw [(f (49 * t + i) (by omega)).2, q8 7 (by decide) (by decide)]; exact j3
        · obtain ⟨⟨l1, l2, l3⟩, l4, l5, l6⟩ := id h3
          have hex : ex M6 = ex M := by funext t; exact p _ (by omega) (by omega) (by omega)
          have hey : ey M6 = ey M := by funext t; exact p _ (by omega) (by omega) (by omega)
          have shut : ∀ (P : Nat → Int) (J : Int), LayOK (N 4) (N 1) (ex M) (ey M) P J → LayOK (N9 4) (N9 1) (ex M6) (ey M6) P J := by
            intro P J hP
            rw [hex, hey, q 1 (by decide) (by decide) (by decide) (by decide) (by decide)]
            exact hP.shut hs6 h q44 q4 hn28 e5 hcc
          refine ⟨⟨by rw [p0 7 (by decide), z 17 (by decide) (by decide) (by decide) (by decide)]; exact l1, by rw [z 17 (by decide) (by decide) (by decide) (by decide)]; exact ⟨l2, l3⟩⟩, ?_, ?_, fun j hj => ?_⟩
          · rw [q 10 (by decide) (by decide) (by decide) (by decide) (by decide)]
            exact l4.same (fun j x y => p _ (by omega) (by omega) (by omega))
          · rw [q 10 (by decide) (by decide) (by decide) (by decide) (by decide), z 17 (by decide) (by decide) (by decide) (by decide)]
            exact shut _ _ l5
          · rw [z 17 (by decide) (by decide) (by decide) (by decide)] at hj
            rw [q 11 (by decide) (by decide) (by decide) (by decide) (by decide)]
            exact ⟨(l6 j hj).1.same (fun c x y => p _ (by omega) (by omega) (by omega)), shut _ _ (l6 j hj).2⟩
        · exact h4.clear p81 (p 9 (by decide) (by decide) (by omega)) z11 (z 12 (by decide) (by decide) (by decide) (by decide))
      · have hno : ¬ (4 ≤ (N 1 s).toNat ∧ Once (N 1 s).toNat (M (114 + 10 * s + 3)) (M (114 + 10 * s + 4)) ∧ 0 < spaceOf (N 1 s).toNat (M (114 + 10 * s + 1)) (M (114 + 10 * s + 3))) := fun x => by have := hiff.mpr x; omega
        refine go _ (fun q => absurd h q) (fun _ _ => zero _ z00 (hR.thr 0)) (fun _ h4' => once_ok hold (fun r3 pa pb hr3 hif3 => ?_))
        have pz : ∀ a b, (pp (up N 0 0 0) a b) 0 0 = 0 := fun a b => by rw [pp_0 (by decide) (by decide)]; exact z00
        refine ⟨by rcases hr3 with z | z <;> rw [z] <;> exact xl rfl, fun _ => zero _ (pz _ _) ((hR.thr 0).pt _ _), fun q => space_ok (hold.pp pa pb) (fun qa qb => ?_)⟩
        have hon := hif3.mp (by omega)
        rw [space2 e5 ⟨hon.1, hon.2.1⟩, pp_pp]
        have hsl := space_low hn28 e5
        refine ⟨⟨by omega, by omega⟩, fun q2 => absurd ⟨by omega, hon, by omega⟩ hno, fun _ => zero _ (pz _ _) ((hR.thr 0).pt _ _)⟩
  · refine eo_no h1 i1 hs ⟨rfl, sh_no h1 i1 hs ⟨xl rfl, fun q => absurd rfl q, fun _ => thr_1 ⟨xl rfl, fun q => absurd q (by decide), fun _ => ⟨up_ss _ _ _ _, ⟨by omega, by omega⟩, fun q => absurd q (by decide), hR.thr 1⟩⟩⟩⟩
