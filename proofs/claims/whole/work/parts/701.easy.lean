/-! THE EASY CALLS -/
theorem toL_eq {a b : Int} (h : a = b) : toL a = toL b := by rw [h]
theorem ob_sherd : Ob_sherd Rel := by
  intro M N w hR
  obtain ⟨h1, h2, h3, h4⟩ := id hR
  obtain ⟨⟨c1, c2, c3⟩, c4, c5, c6⟩ := id h1
  have in6 : in32 (N 0 1) := ⟨by omega, by omega⟩
  refine ⟨by rw [c1]; exact in6, fun h M1 hM1 => ?_, fun h => ⟨rfl, ?_⟩⟩
  · rw [c1] at h hM1
    refine ⟨in6, fun _ => thr_no ⟨xl rfl, fun _ N1 hN1 => ?_, fun q => absurd rfl q⟩, fun q => absurd q (by omega)⟩
    rw [up_nj (by decide)] at hN1
    show endR Rel 0 _ M1 _ N1 (N1 0 0)
    have q : ∀ r, r ≠ 0 → N1 r = N r := fun r hr => by rw [hN1, up_ne hr, up_ne hr]
    have z : ∀ j, j ≠ 0 → j ≠ 1 → N1 0 j = N 0 j := fun j a b => by rw [hN1, up_nj b, up_nj a]
    have z1 : N1 0 1 = N 0 1 + 1 := by rw [hN1, up_ss]
    have z0 : N1 0 0 = 0 := by rw [hN1, up_nj (by decide), up_ss]
    have p : ∀ r, r ≠ 0 → M1 r = M r := fun r hr => by rw [hM1, up_ne hr]
    have p0 : ∀ j, j ≠ 5 → M1 0 j = M 0 j := fun j a => by rw [hM1, up_nj a]
    have p5 : M1 0 5 = N 0 1 + 1 := by rw [hM1, up_ss]
    refine ⟨z0, ⟨by omega, by omega⟩, fun _ => toL_eq (by rw [p5, z1]), ?_, ?_, ?_, ?_⟩
    · refine ⟨⟨by rw [p5, z1], by omega, by omega⟩, ?_, ?_, ?_⟩
      · rw [p0 6 (by decide), q 4 (by decide)]; exact c4
      · rw [p0 8 (by decide), z 9 (by decide) (by decide)]; exact c5
      · rw [p0 9 (by decide), z 10 (by decide) (by decide)]; exact c6
    · intro s hs
      obtain ⟨e1, e2, e3⟩ := h2 s hs
      rw [p _ (by omega), p _ (by omega), p _ (by omega), p _ (by omega), p _ (by omega), q 1 (by omega), q 2 (by omega), q 3 (by omega), q 4 (by omega), q 5 (by omega), q 6 (by omega), q 7 (by omega), z1]
      exact ⟨e1, e2, fun h => e3 (by omega)⟩
    · exact h3.same (p0 7 (by decide)) (z 17 (by decide) (by decide)) (fun k a b => p k (by omega)) (fun j i a b c => p _ (by omega)) (q 10 (by decide)) (q 11 (by decide)) (q 4 (by decide)) (fun s _ _ => ⟨p _ (by omega), p _ (by omega), by rw [q 1 (by decide)]⟩)
    · exact h4.same c3 (by rw [p 8 (by decide)]) (p 9 (by decide)) (fun k a b => p k (by omega)) (z 11 (by decide) (by decide)) (z 12 (by decide) (by decide)) (q 8 (by decide)) (by omega) (q 4 (by decide)) (fun s _ _ => by rw [q 1 (by decide)]) (fun s i _ _ _ => by rw [q 2 (by decide)])
  · rw [c1] at h
    refine ⟨in6, fun q => absurd (show N 0 1 = 6 by omega) q, fun _ => thr_1 ⟨xl rfl, fun q => absurd q (by decide), fun _ => ?_⟩⟩
    exact ⟨up_ss _ _ _ _, ⟨by omega, by omega⟩, fun q => absurd q (by decide), hR.thr 1⟩
theorem ob_least : Ob_least Rel := by
  intro M N w a1 hR i1
  obtain ⟨h1, h2, h3, h4⟩ := id hR
  obtain ⟨⟨c1, c2, c3⟩, c4, c5, c6⟩ := id h1
  have bad : ¬ (2 ≤ a1 ∧ a1 ≤ 20) → wp_Model_least a1 N (fun r N1 => wp_Model_thrown N1 (fun t => endR Rel 1 w M r N1 t)) := by
    intro h
    refine in_no i1 (xl rfl) (xl rfl) h ⟨xl rfl, fun q => absurd rfl q, fun _ => thr_1 ⟨xl rfl, fun q => absurd q (by decide), fun _ => ?_⟩⟩
    exact ⟨up_ss _ _ _ _, ⟨by omega, by omega⟩, fun q => absurd q (by decide), hR.thr 1⟩
  refine ⟨i1, fun h => ⟨rfl, bad (by omega)⟩, fun h => ⟨i1, fun hh v hv M2 hM2 M4 hM4 => ?_, fun hh => ⟨rfl, bad (by omega)⟩⟩⟩
  refine in_yes i1 (xl rfl) (xl rfl) ⟨by omega, hh⟩ ⟨xl rfl, fun _ => thr_no ⟨xl rfl, fun _ v2 hv2 N4 hN4 N5 hN5 => ?_, fun q => absurd rfl q⟩, fun q => absurd q (by decide)⟩
  show endR Rel 0 _ M4 _ N5 (N5 0 0)
  have q : ∀ r, r ≠ 0 → N5 r = N r := fun r hr => by rw [hN5, hN4, up_ne hr, up_ne hr, up_ne hr]
  have z : ∀ j, j ≠ 0 → j ≠ 9 → j ≠ 11 → N5 0 j = N 0 j := fun j a b c => by rw [hN5, hN4, up_nj c, up_nj b, up_nj a]
  have z0 : N5 0 0 = 0 := by rw [hN5, hN4, up_nj (by decide), up_nj (by decide), up_ss]
  have z9 : N5 0 9 = a1 := by rw [hN5, hN4, up_nj (by decide), up_ss]
  have z11 : N5 0 11 = 0 := by rw [hN5, up_ss]
  have p : ∀ r, r ≠ 0 → r ≠ 8 → M4 r = M r := fun r a b => by rw [hM4, up_ne b, hM2, up_ne a]
  have p0 : ∀ j, j ≠ 8 → M4 0 j = M 0 j := fun j a => by rw [hM4, up_ne (by decide), hM2, up_nj a]
  have p8 : M4 0 8 = a1 := by rw [hM4, up_ne (by decide), hM2, up_ss]
  have p81 : M4 8 1 = 0 := by rw [hM4, up_ss]
  refine ⟨z0, ⟨by omega, by omega⟩, fun _ => toL_eq (by rw [hv, hv2, up_nj (by decide)]; exact c5.1), ?_, ?_, ?_, ?_⟩
  · refine ⟨⟨by rw [p0 5 (by decide), z 1 (by decide) (by decide) (by decide)]; exact c1, by rw [z 1 (by decide) (by decide) (by decide)]; exact ⟨c2, c3⟩⟩, ?_, ?_, ?_⟩
    · rw [p0 6 (by decide), q 4 (by decide)]; exact c4
    · rw [p8, z9]; exact ⟨rfl, by omega, hh⟩
    · rw [p0 9 (by decide), z 10 (by decide) (by decide) (by decide)]; exact c6
  · exact h2.same (fun s j _ _ => p _ (by omega) (by omega)) (fun r a b => q r (by omega)) (z 1 (by decide) (by decide) (by decide))
  · exact h3.same (p0 7 (by decide)) (z 17 (by decide) (by decide) (by decide)) (fun k a b => p k (by omega) (by omega)) (fun j i a b c => p _ (by omega) (by omega)) (q 10 (by decide)) (q 11 (by decide)) (q 4 (by decide)) (fun s _ _ => ⟨p _ (by omega) (by omega), p _ (by omega) (by omega), by rw [q 1 (by decide)]⟩)
  · exact h4.clear p81 (p 9 (by decide) (by decide)) z11 (z 12 (by decide) (by decide) (by decide))
theorem ob_bound : Ob_bound Rel := by
  intro M N w a1 hR i1
  obtain ⟨h1, h2, h3, h4⟩ := id hR
  obtain ⟨⟨c1, c2, c3⟩, c4, c5, c6⟩ := id h1
  have bad : ¬ (0 ≤ a1 ∧ a1 ≤ 9801) → wp_Model_bound a1 N (fun r N1 => wp_Model_thrown N1 (fun t => endR Rel 1 w M r N1 t)) := by
    intro h
    refine in_no i1 (xl rfl) (xl rfl) h ⟨xl rfl, fun q => absurd rfl q, fun _ => thr_1 ⟨xl rfl, fun q => absurd q (by decide), fun _ => ?_⟩⟩
    exact ⟨up_ss _ _ _ _, ⟨by omega, by omega⟩, fun q => absurd q (by decide), hR.thr 1⟩
  refine ⟨i1, fun h => ⟨rfl, bad (by omega)⟩, fun h => ⟨i1, fun hh v hv M2 hM2 M4 hM4 => ?_, fun hh => ⟨rfl, bad (by omega)⟩⟩⟩
  refine in_yes i1 (xl rfl) (xl rfl) ⟨by omega, hh⟩ ⟨xl rfl, fun _ => thr_no ⟨xl rfl, fun _ v2 hv2 N4 hN4 N5 hN5 => ?_, fun q => absurd rfl q⟩, fun q => absurd q (by decide)⟩
  show endR Rel 0 _ M4 _ N5 (N5 0 0)
  have q : ∀ r, r ≠ 0 → N5 r = N r := fun r hr => by rw [hN5, hN4, up_ne hr, up_ne hr, up_ne hr]
  have z : ∀ j, j ≠ 0 → j ≠ 10 → j ≠ 11 → N5 0 j = N 0 j := fun j a b c => by rw [hN5, hN4, up_nj c, up_nj b, up_nj a]
  have z0 : N5 0 0 = 0 := by rw [hN5, hN4, up_nj (by decide), up_nj (by decide), up_ss]
  have z9 : N5 0 10 = a1 := by rw [hN5, hN4, up_nj (by decide), up_ss]
  have z11 : N5 0 11 = 0 := by rw [hN5, up_ss]
  have p : ∀ r, r ≠ 0 → r ≠ 8 → M4 r = M r := fun r a b => by rw [hM4, up_ne b, hM2, up_ne a]
  have p0 : ∀ j, j ≠ 9 → M4 0 j = M 0 j := fun j a => by rw [hM4, up_ne (by decide), hM2, up_nj a]
  have p8 : M4 0 9 = a1 := by rw [hM4, up_ne (by decide), hM2, up_ss]
  have p81 : M4 8 1 = 0 := by rw [hM4, up_ss]
  refine ⟨z0, ⟨by omega, by omega⟩, fun _ => toL_eq (by rw [hv, hv2, up_nj (by decide)]; exact c6.1), ?_, ?_, ?_, ?_⟩
  · refine ⟨⟨by rw [p0 5 (by decide), z 1 (by decide) (by decide) (by decide)]; exact c1, by rw [z 1 (by decide) (by decide) (by decide)]; exact ⟨c2, c3⟩⟩, ?_, ?_, ?_⟩
    · rw [p0 6 (by decide), q 4 (by decide)]; exact c4
    · rw [p0 8 (by decide), z 9 (by decide) (by decide) (by decide)]; exact c5
    · rw [p8, z9]; exact ⟨rfl, by omega, hh⟩
  · exact h2.same (fun s j _ _ => p _ (by omega) (by omega)) (fun r a b => q r (by omega)) (z 1 (by decide) (by decide) (by decide))
  · exact h3.same (p0 7 (by decide)) (z 17 (by decide) (by decide) (by decide)) (fun k a b => p k (by omega) (by omega)) (fun j i a b c => p _ (by omega) (by omega)) (q 10 (by decide)) (q 11 (by decide)) (q 4 (by decide)) (fun s _ _ => ⟨p _ (by omega) (by omega), p _ (by omega) (by omega), by rw [q 1 (by decide)]⟩)
  · exact h4.clear p81 (p 9 (by decide) (by decide)) z11 (z 12 (by decide) (by decide) (by decide))
theorem ob_place : Ob_place Rel := by
  intro M N w a1 a2 hR i1 i2
  obtain ⟨h1, h2, h3, h4⟩ := id hR
  obtain ⟨⟨c1, c2, c3⟩, c4, c5, c6⟩ := id h1
  have bad : ¬ ((0 ≤ a1 ∧ a1 < N 0 1) ∧ (0 ≤ a2 ∧ a2 ≤ 3)) → wp_Model_place a1 a2 N (fun r N1 => wp_Model_thrown N1 (fun t => endR Rel 1 w M r N1 t)) := by
    intro h
    have t : wp_Model_place_18 a1 a2 N (fun r N1 => wp_Model_thrown N1 (fun t => endR Rel 1 w M r N1 t)) := thr_1 ⟨xl rfl, fun q => absurd q (by decide), fun _ => ⟨up_ss _ _ _ _, ⟨by omega, by omega⟩, fun q => absurd q (by decide), hR.thr 1⟩⟩
    by_cases hs : 0 ≤ a1 ∧ a1 < N 0 1
    · exact sh_yes h1 i1 hs ⟨xl rfl, fun q => absurd q (by decide), fun _ => in_no i2 (xl rfl) (xl rfl) (fun q => h ⟨hs, q⟩) ⟨xl rfl, fun q => absurd rfl q, fun _ => t⟩⟩
    · exact sh_no h1 i1 hs ⟨xl rfl, fun _ => t, fun q => absurd rfl q⟩
  unfold wpL_place wp_X_place
  by_cases hs : 0 ≤ a1 ∧ a1 < N 0 1
  · refine xs_yes h1 i1 hs ⟨xl rfl, fun _ => ?_, fun q => absurd q (by decide)⟩
    have h6 : 0 ≤ a1 ∧ a1 < 6 := ⟨hs.1, by omega⟩
    obtain ⟨l1, l2, l3, l4⟩ := h3.2.1 a1.toNat (by omega)
    have good : ∀ c : Nat, c ≤ 3 → a2 = (c : Int) → ∀ v, v = N 10 (4 * a1.toNat + c) → wp_Model_place a1 a2 N (fun r N1 => wp_Model_thrown N1 (fun t => endR Rel 0 (toL v) M r N1 t)) := by
      intro c hc hac v hv
      refine sh_yes h1 i1 hs ⟨xl rfl, fun q => absurd q (by decide), fun _ => in_yes i2 (xl rfl) (xl rfl) ⟨by omega, by omega⟩ ⟨xl rfl, fun _ => thr_no ⟨xl rfl, fun _ => ⟨⟨by omega, by omega⟩, ?_⟩, fun q => absurd rfl q⟩, fun q => absurd q (by decide)⟩⟩
      refine ⟨up_ss _ _ _ _, ⟨by omega, by omega⟩, fun _ => toL_eq ?_, hR.thr 0⟩
      rw [hv, up_ne (by decide), show (4 * a1 + a2).toNat = 4 * a1.toNat + c by omega]
    exact ⟨i2, fun h => ⟨h6, good 0 (by omega) h _ l1⟩, fun h => ⟨h6, good 1 (by omega) h _ l2⟩, fun h => ⟨h6, good 2 (by omega) h _ l3⟩, fun h => ⟨h6, good 3 (by omega) h _ l4⟩, fun h => ⟨rfl, bad (by omega)⟩⟩
  · exact xs_no h1 i1 hs ⟨xl rfl, fun q => absurd rfl q, fun _ => ⟨rfl, bad (fun q => hs q.1)⟩⟩
theorem cl_sum {N : Mem} {M : Mem} (hE : RelE M N) (hc : 0 ≤ N 0 1 ∧ N 0 1 ≤ 6) : ∀ n : Nat, (N 0 1).toNat ≤ n → n ≤ 6 → sm (fun s => N 4 s) n = sm (fun s => N 4 s) (N 0 1).toNat := by
  intro n
  induction n with
  | zero => intro a b; rw [show (N 0 1).toNat = 0 by omega]
  | succ n ih =>
    intro a b
    by_cases h : (N 0 1).toNat = n + 1
    · rw [h]
    · rw [← ih (by omega) (by omega)]
      show sm _ n + N 4 n = _
      obtain ⟨⟨e1, e2, -, -, -, e6⟩, -, e3⟩ := hE n (by omega)
      have := e3 (by omega)
      rcases e2.2 with h0 | h0
      · rw [h0, Int.add_zero]
      · have := (e6 h0).1; omega
theorem ob_count : Ob_count Rel := by
  intro M N w a1 hR i1
  obtain ⟨h1, h2, h3, h4⟩ := id hR
  obtain ⟨⟨c1, c2, c3⟩, c4, c5, c6⟩ := id h1
  have loop : ∀ (v : Int) (N' : Mem), (∀ r, r ≠ 0 → N' r = N r) → (∀ j, j ≠ 0 → N' 0 j = N 0 j) → (N' = up N 0 0 0) → (a1 = 0 → v = N 0 1) → (a1 = 1 → v = M 0 6) → (a1 = 2 → v = M 8 1) → (a1 = 3 → v = M 0 7) → 0 ≤ a1 ∧ a1 ≤ 3 → ∀ (n k : Nat), k + n = (N 0 1).toNat → wp_Model_count_29 (fun r N1 => wp_Model_thrown N1 (fun t => endR Rel 0 (toL v) M r N1 t)) (n + 1) a1 (sm (fun s => N 4 s) k) k N' := by
    intro v N' q z hN' v0 v1 v2 v3 ha n
    have fin : ∀ r, r = v → wp_Model_thrown N' (fun t => endR Rel 0 (toL v) M r N' t) := by
      intro r hr
      subst hN'
      exact ⟨up_ss _ _ _ _, ⟨by omega, by omega⟩, fun _ => toL_eq hr.symm, hR.thr 0⟩
    have hfin : ∀ k : Nat, k = (N 0 1).toNat → ∀ n, wp_Model_count_29 (fun r N1 => wp_Model_thrown N1 (fun t => endR Rel 0 (toL v) M r N1 t)) (n + 1) a1 (sm (fun s => N 4 s) k) k N' := by
      intro k hk n
      refine ⟨⟨by omega, by omega⟩, by rw [z 1 (by decide)]; exact ⟨by omega, by omega⟩, fun _ => ⟨i1, fun n0 => ⟨i1, fun n1 => ⟨i1, fun n2 => fin _ ?_, fun e2 => ⟨?_, fun e3 => fin _ ?_, fun e3 => fin _ ?_⟩⟩, fun e1 => fin _ ?_⟩, fun e0 => fin _ ?_⟩, fun h => absurd h (by rw [z 1 (by decide)]; omega)⟩
      · rw [z 17 (by decide), v3 (by omega)]; exact h3.1.1.symm
      · rw [z 11 (by decide)]; rcases h4.2.2.1 with h | h <;> rw [h] <;> exact xl rfl
      · rw [z 11 (by decide)] at e3; rw [v2 e2]; exact (h4.2.2.2.2.1 e3).symm
      · rw [z 11 (by decide)] at e3; rw [z 12 (by decide), v2 e2]; exact (h4.2.2.2.2.2.1 (by have := h4.2.2.1; omega)).symm
      · rw [v1 e1, c4, cl_sum h2 ⟨c2, c3⟩ 6 (by omega) (by omega), hk]
      · rw [z 1 (by decide)]; exact (v0 e0).symm
    induction n with
    | zero => intro k hk; exact hfin k (by omega) 0
    | succ n ih =>
      intro k hk
      have hk6 : k < 6 := by omega
      obtain ⟨⟨e1, e2, -⟩, -⟩ := h2 k hk6
      refine ⟨⟨by omega, by omega⟩, by rw [z 1 (by decide)]; exact ⟨by omega, by omega⟩, fun h => absurd h (by rw [z 1 (by decide)]; omega), fun _ => ⟨⟨by omega, by omega⟩, ?_, fun h v2 hv2 v3 hv3 => ?_, fun h v2 hv2 v3 hv3 => ?_⟩⟩
      · rw [q 4 (by decide), Int.toNat_natCast]; rcases e2.2 with h | h <;> rw [h] <;> exact xl rfl
      · rw [q 4 (by decide), Int.toNat_natCast] at h
        rw [hv3, hv2, show ((k : Nat) : Int) + 1 = ((k + 1 : Nat) : Int) by omega]
        have := ih (k + 1) (by omega)
        have e : sm (fun s => N 4 s) (k + 1) = sm (fun s => N 4 s) k + 0 := by show _ + N 4 k = _; rw [h]
        rw [e] at this; exact this
      · rw [q 4 (by decide), Int.toNat_natCast] at h
        rw [hv3, hv2, show ((k : Nat) : Int) + 1 = ((k + 1 : Nat) : Int) by omega]
        have := ih (k + 1) (by omega)
        have e : sm (fun s => N 4 s) (k + 1) = sm (fun s => N 4 s) k + 1 := by show _ + N 4 k = _; rw [show N 4 k = 1 by have := e2.2; omega]
        rw [e] at this; exact this
  have good : ∀ v : Int, (a1 = 0 → v = N 0 1) → (a1 = 1 → v = M 0 6) → (a1 = 2 → v = M 8 1) → (a1 = 3 → v = M 0 7) → 0 ≤ a1 ∧ a1 ≤ 3 → wp_Model_count a1 N (fun r N1 => wp_Model_thrown N1 (fun t => endR Rel 0 (toL v) M r N1 t)) := by
    intro v v0 v1 v2 v3 ha
    exact in_yes i1 (xl rfl) (xl rfl) ha ⟨xl rfl, fun _ => thr_no ⟨xl rfl, fun _ => ⟨_, loop v _ (fun r hr => up_ne hr) (fun j hj => up_nj hj) rfl v0 v1 v2 v3 ha (N 0 1).toNat 0 (by omega)⟩, fun q => absurd rfl q⟩, fun q => absurd q (by decide)⟩
  refine ⟨i1, fun h => good _ (fun _ => c1) (fun h' => absurd h' (by omega)) (fun h' => absurd h' (by omega)) (fun h' => absurd h' (by omega)) ⟨by omega, by omega⟩, fun h => good _ (fun h' => absurd h' (by omega)) (fun _ => rfl) (fun h' => absurd h' (by omega)) (fun h' => absurd h' (by omega)) ⟨by omega, by omega⟩, fun h => good _ (fun h' => absurd h' (by omega)) (fun h' => absurd h' (by omega)) (fun _ => rfl) (fun h' => absurd h' (by omega)) ⟨by omega, by omega⟩, fun h => good _ (fun h' => absurd h' (by omega)) (fun h' => absurd h' (by omega)) (fun h' => absurd h' (by omega)) (fun _ => rfl) ⟨by omega, by omega⟩, fun h => ⟨rfl, ?_⟩⟩
  exact in_no i1 (xl rfl) (xl rfl) (by omega) ⟨xl rfl, fun q => absurd rfl q, fun _ => thr_1 ⟨xl rfl, fun q => absurd q (by decide), fun _ => ⟨up_ss _ _ _ _, ⟨by omega, by omega⟩, fun q => absurd q (by decide), hR.thr 1⟩⟩⟩
theorem ob_pair : Ob_pair Rel := by
  intro M N w a1 a2 hR i1 i2
  obtain ⟨h1, h2, h3, h4⟩ := id hR
  obtain ⟨p1, p2, p3, p4, p5, p6, p7⟩ := id h4
  have in12 : in32 (N 0 12 - 1) := ⟨by omega, by omega⟩
  have in11 : in32 (N 0 11) := by rcases p3 with h | h <;> rw [h] <;> exact xl rfl
  have bad : ¬ ((0 ≤ a1 ∧ a1 < M 8 1) ∧ (0 ≤ a2 ∧ a2 ≤ 5)) → wp_Model_pair a1 a2 N (fun r N1 => wp_Model_thrown N1 (fun t => endR Rel 1 w M r N1 t)) := by
    intro h
    have t : wp_Model_pair_18 a1 a2 N (fun r N1 => wp_Model_thrown N1 (fun t => endR Rel 1 w M r N1 t)) := thr_1 ⟨xl rfl, fun q => absurd q (by decide), fun _ => ⟨up_ss _ _ _ _, ⟨by omega, by omega⟩, fun q => absurd q (by decide), hR.thr 1⟩⟩
    refine ⟨in11, fun _ => ⟨xl rfl, fun _ => t, fun q => absurd rfl q⟩, fun hh => ?_⟩
    have h81 := p6 (by omega)
    by_cases hs : 0 ≤ a1 ∧ a1 ≤ N 0 12 - 1
    · exact in_yes i1 (xl rfl) in12 hs ⟨xl rfl, fun q => absurd q (by decide), fun _ => ⟨xl rfl, fun q => absurd q (by decide), fun _ => in_no i2 (xl rfl) (xl rfl) (fun q => h ⟨⟨hs.1, by omega⟩, q⟩) ⟨xl rfl, fun q => absurd rfl q, fun _ => t⟩⟩⟩
    · exact in_no i1 (xl rfl) in12 hs ⟨xl rfl, fun _ => ⟨xl rfl, fun _ => t, fun q => absurd rfl q⟩, fun q => absurd rfl q⟩
  have in8 : in32 (M 8 1) := ⟨by omega, by omega⟩
  refine ⟨i1, fun h => ⟨rfl, bad (by omega)⟩, fun h => ⟨i1, in8, fun hh => ⟨⟨by omega, by omega⟩, ?_⟩, fun hh => ⟨rfl, bad (by omega)⟩⟩⟩
  have hl : N 0 11 = 1 := by
    rcases p3 with q | q
    · have := p5 q; omega
    · exact q
  have h12 := p6 hl
  obtain ⟨g1, g2, g3⟩ := p7 a1.toNat (by omega)
  have good : ∀ c : Nat, c ≤ 5 → a2 = (c : Int) → wp_Model_pair a1 a2 N (fun r N1 => wp_Model_thrown N1 (fun t => endR Rel 0 (toL (M (10 + (M 9 a1.toNat).toNat % 101) c)) M r N1 t)) := by
    intro c hc hac
    refine ⟨in11, fun q => absurd q (by omega), fun _ => in_yes i1 (xl rfl) in12 ⟨by omega, by omega⟩ ⟨xl rfl, fun q => absurd q (by decide), fun _ => ⟨xl rfl, fun q => absurd q (by decide), fun _ => in_yes i2 (xl rfl) (xl rfl) ⟨by omega, by omega⟩ ⟨xl rfl, fun _ => thr_no ⟨xl rfl, fun _ => ⟨⟨by omega, by omega⟩, ?_⟩, fun q => absurd rfl q⟩, fun q => absurd q (by decide)⟩⟩⟩⟩
    refine ⟨up_ss _ _ _ _, ⟨by omega, by omega⟩, fun _ => toL_eq ?_, hR.thr 0⟩
    have := g1 c (by omega)
    unfold pK at this
    rw [this, up_ne (by decide), show (6 * a1 + a2).toNat = 6 * a1.toNat + c by omega]
  exact ⟨i2, fun h => good 0 (by omega) h, fun h => good 1 (by omega) h, fun h => good 2 (by omega) h, fun h => good 3 (by omega) h, fun h => good 4 (by omega) h, fun h => good 5 (by omega) h, fun h => ⟨rfl, bad (by omega)⟩⟩
