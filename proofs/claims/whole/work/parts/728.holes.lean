/-! HOLES -/
def holes_fin (Post : Int → Mem → Prop) (x1 : Int) (M0 : Mem) : Prop := ((0 ≤ ((4 * x1) + 3) ∧ ((4 * x1) + 3) < 24) ∧ (wp_Model_lay (M0 10 ((4 * x1) + 3).toNat) M0 (fun M_2 => (wp_Model_flood M_2 (fun M_4 => ∃ nn, wp_Model_holes_79 Post nn 0 0 M_4)))))
theorem clear_ok {N : Mem} {Post : Int → Mem → Prop} {x1 : Int} (h : ∀ N' : Mem, (∀ r, r ≠ 13 → N' r = N r) → (∀ t, t < 8100 → N' 13 t = 0) → holes_fin Post x1 N') : ∃ nn, wp_Model_holes_37 Post nn x1 0 N := by
  have loop : ∀ f i : Nat, i + f = 8100 → ∀ Nc : Mem, (∀ r, r ≠ 13 → Nc r = N r) → (∀ k, k < i → Nc 13 k = 0) → wp_Model_holes_37 Post (f + 1) x1 i Nc := by
    intro f
    induction f with
    | zero =>
      intro i hi Nc a b
      exact ⟨⟨by omega, by omega⟩, fun _ => h Nc a (fun k hk => b k (by omega)), fun z => absurd (show (8100 : Int) ≤ i by omega) z⟩
    | succ f ih =>
      intro i hi Nc a b
      refine ⟨⟨by omega, by omega⟩, fun z => absurd z (by omega), fun _ => ⟨⟨by omega, by omega⟩, fun N1 h1 v hv => ?_⟩⟩
      rw [Int.toNat_natCast] at h1
      rw [hv, show ((i : Nat) : Int) + 1 = ((i + 1 : Nat) : Int) by omega]
      refine ih (i + 1) (by omega) N1 (fun r hr => by rw [h1, up_ne hr]; exact a r hr) (fun k hk => ?_)
      rw [h1]
      by_cases z : k = i
      · subst z; rw [up_ss]
      · rw [up_nj z]; exact b k (by omega)
  exact ⟨8101, loop 8100 0 (by omega) N (fun _ _ => rfl) (fun k hk => absurd hk (by omega))⟩
theorem encl_ok {Post : Int → Mem → Prop} {c : Nat} {Mc : Mem} (h5 : Mc 111 5 = c) (hc : c ≤ 1936) (hin : ∀ t, t < c → -1 ≤ Mc 112 t ∧ Mc 112 t ≤ 6) (hP : Post (sm (fun t => if Mc 112 t = 0 then (1 : Int) else 0) c) Mc) : ∃ nn, wp_Board_enclosedCells_8 Post nn 0 0 Mc := by
  have loop : ∀ f t : Nat, t + f = c → wp_Board_enclosedCells_8 Post (f + 1) (sm (fun t => if Mc 112 t = 0 then (1 : Int) else 0) t) t Mc := by
    intro f
    induction f with
    | zero =>
      intro t ht
      refine ⟨⟨by omega, by omega⟩, by rw [h5]; exact ⟨by omega, by omega⟩, fun _ => ?_, fun z => absurd (show Mc 111 5 ≤ (t : Int) by rw [h5]; omega) z⟩
      rw [show t = c by omega]; exact hP
    | succ f ih =>
      intro t ht
      have it := hin t (by omega)
      refine ⟨⟨by omega, by omega⟩, by rw [h5]; exact ⟨by omega, by omega⟩, fun z => absurd z (by rw [h5]; omega), fun _ => ⟨⟨by omega, by omega⟩, ?_⟩⟩
      rw [Int.toNat_natCast]
      have e : sm (fun t => if Mc 112 t = 0 then (1 : Int) else 0) (t + 1) = sm (fun t => if Mc 112 t = 0 then (1 : Int) else 0) t + (if Mc 112 t = 0 then (1 : Int) else 0) := rfl
      refine ⟨⟨by omega, by omega⟩, fun z v hv => ?_, fun z v1 hv1 v2 hv2 => ?_⟩
      · rw [hv, show ((t : Nat) : Int) + 1 = ((t + 1 : Nat) : Int) by omega]
        have := ih (t + 1) (by omega)
        rw [e, if_neg z, Int.add_zero] at this
        exact this
      · rw [hv1, hv2, show ((t : Nat) : Int) + 1 = ((t + 1 : Nat) : Int) by omega]
        have := ih (t + 1) (by omega)
        rw [e, if_pos z] at this
        exact this
  exact ⟨c + 1, loop c 0 (by omega)⟩
theorem rows_sum {g : Nat → Int} {e : Int → Int → Int} {L Tp : Int} {w h : Nat} (hg : ∀ row col : Nat, row < h → col < w → g (w * row + col) = e (L + col) (Tp + row)) : sm g (w * h) = sm (fun q => sm (fun r => e (L + r) (Tp + q)) w) h := by
  rw [sm_rows]
  exact sm_congr (fun q hq => sm_congr (fun r hr => hg q r hq hr))
theorem ite_ind {a : Int} {p : Prop} (h : a = 0 ↔ p) : (if a = 0 then (1 : Int) else 0) = ind p := by
  by_cases z : a = 0
  · rw [if_pos z, ind_pos (h.mp z)]
  · rw [if_neg z, ind_neg (fun q => z (h.mpr q))]
theorem ob_holes : Ob_holes Rel := by
  intro M N w a1 hR i1
  obtain ⟨h1, h2, h3, h4⟩ := id hR
  obtain ⟨⟨c1, c2, c3⟩, c4, c5, c6⟩ := id h1
  obtain ⟨⟨l1, l2, l3⟩, l4, l5, l6⟩ := id h3
  unfold wpL_holes wp_X_holes
  by_cases hs : 0 ≤ a1 ∧ a1 < N 0 1
  · refine eo_yes h1 i1 hs ?_
    obtain ⟨s, hsa⟩ : ∃ s : Nat, a1 = s := ⟨a1.toNat, by omega⟩
    subst hsa
    rw [Int.toNat_natCast]
    have hs6 : s < 6 := by omega
    obtain ⟨⟨e1, e2, e3, e4, e5, e6⟩, e7, e8⟩ := h2 s hs6
    have in5 : in32 (M (114 + 10 * s) 5) := by rw [e2.1]; rcases e2.2 with h | h <;> rw [h] <;> exact xl rfl
    have inc : in32 (N 4 s) := by rw [← e2.1]; exact in5
    have go : ∀ Post : Int → Mem → Prop, (N 4 s ≠ 0 → ∃ nn, wp_Model_holes_37 Post nn s 0 (up N 0 0 0)) → (N 4 s = 0 → Post 0 (up N 0 0 0)) → wp_Model_holes s N Post := by
      intro Post k1 k2
      refine sh_yes h1 i1 hs ⟨xl rfl, fun _ => thr_no ⟨xl rfl, fun _ => ⟨⟨by omega, by omega⟩, ?_⟩, fun q => absurd rfl q⟩, fun q => absurd q (by decide)⟩
      rw [Int.toNat_natCast, up_ne (by decide)]
      exact ⟨inc, k1, k2⟩
    refine ⟨in5, fun hc => ⟨⟨by omega, by omega⟩, ?_⟩, fun hc => ?_⟩
    · rw [e2.1] at hc
      have cc : N 4 s = 1 := by have := e2.2; omega
      obtain ⟨P, hP⟩ : ∃ P, P = N 10 := ⟨_, rfl⟩
      rw [← hP] at l4 l5
      have trs : ∀ t, t < 6 → M (2 + 4) t = P (4 * t + 3) := fun t ht => (l4 t ht).2.2.2
      have ptr := (l5.1 s hs6).2.1
      obtain ⟨T, hT⟩ : ∃ T : Nat, P (4 * s + 3) = T := ⟨(P (4 * s + 3)).toNat, by omega⟩
      have hT6 : T < 6 := by omega
      obtain ⟨⟨l, r, u, d, hbx, hLI⟩, hTO⟩ := layin_of h2 l4 l5 hs6 cc hT
      have hsum := hLI.2.2.1.2
      rw [trs s hs6, hT]
      refine lay_ok hLI (fun Mb lo hi ul uh ww hh n1 hB bx by' hIn hcov => ?_)
      obtain ⟨o1, -⟩ := over_iff hTO hLI hB hIn hcov
      obtain ⟨⟨b2, b3, b4, b5⟩, ⟨bw, bh⟩, b7, b8⟩ := id hB
      obtain ⟨U, hU⟩ : ∃ U : Int → Int → Prop, U = fun x y => Wsum M T (szN N) x y = 0 := ⟨_, rfl⟩
      have Uiff : ∀ x y, U x y ↔ Wsum M T (szN N) x y = 0 := fun x y => by rw [hU]
      have Uno : ∀ x y, ¬ U x y ↔ ∃ t, t < 6 ∧ M (2 + 4) t = T ∧ ∃ i : Nat, (i : Int) < N 5 t ∧ CX N P t i = x ∧ CY N P t i = y := fun x y => by
        rw [← (hTO.sum x y).2.1, Uiff]
        have := (hTO.sum x y).1
        omega
      have Uout : ∀ x y, ¬ ((lo ≤ x ∧ x < hi) ∧ ul ≤ y ∧ y < uh) → U x y := fun x y hn => by
        rw [Uiff]
        have h0 := (hTO.sum x y).1
        by_cases z : 0 < Wsum M T (szN N) x y
        · exact absurd (hTO.inbox hLI hIn z) hn
        · omega
      have hUb : ∀ row col : Nat, row < hh → col < ww → (Mb 112 (row * ww + col) = 0 ↔ U (lo - 1 + col) (ul - 1 + row)) := fun row col hr hc => by
        rw [hcov row col hr hc, Uiff]
      have hrim : ∀ row col : Nat, row < hh → col < ww → (row = 0 ∨ row + 1 = hh ∨ col = 0 ∨ col + 1 = ww) → U (lo - 1 + col) (ul - 1 + row) ∧ Out U (lo - 1 + col) (ul - 1 + row) := fun row col hr hc q => by
        have hn : ¬ ((lo ≤ lo - 1 + (col : Int) ∧ lo - 1 + (col : Int) < hi) ∧ ul ≤ ul - 1 + (row : Int) ∧ ul - 1 + (row : Int) < uh) := by omega
        exact ⟨Uout _ _ hn, out_beyond Uout hn⟩
      refine flood_ok (L := lo - 1) (Tp := ul - 1) (by omega) (by omega) b7 b4 b5 o1 hUb hrim ⟨by omega, by omega, by omega, by omega⟩ (fun Mc m1 m2 m3 => ?_)
      refine encl_ok (c := ww * hh) (by rw [m1 111 (by decide) (by decide)]; exact b5) b7 m3 ?_
      have cls : sm (fun t => if Mc 112 t = 0 then (1 : Int) else 0) (ww * hh) = sm (fun q => sm (fun r => (fun x y => ind (U x y ∧ ¬ Out U x y)) (lo - 1 + r) (ul - 1 + q)) ww) hh := rows_sum (g := fun t => if Mc 112 t = 0 then (1 : Int) else 0) (e := fun x y => ind (U x y ∧ ¬ Out U x y)) (L := lo - 1) (Tp := ul - 1) (fun row col hr hc => by
        show (if Mc 112 (ww * row + col) = 0 then (1 : Int) else 0) = _
        rw [Nat.mul_comm ww row]
        exact ite_ind (m2 row col hr hc))
      -- the reference
      refine go _ (fun _ => clear_ok (fun N2 k1 k2 => ?_)) (fun q => absurd q hc)
      have y1 : ∀ r, r ≠ 0 → r ≠ 13 → N2 r = N r := fun r r0 r13 => by rw [k1 r r13, up_ne r0]
      have y0 : ∀ j, j ≠ 0 → N2 0 j = N 0 j := fun j hj => by rw [k1 0 (by decide), up_nj hj]
      have y00 : N2 0 0 = 0 := by rw [k1 0 (by decide), up_ss]
      have y10 : N2 10 = P := by rw [y1 10 (by decide) (by decide), hP]
      obtain ⟨ns, ens⟩ : ∃ ns : Nat, N 0 1 = ns := ⟨(N 0 1).toNat, by omega⟩
      have ceq : ∀ t i, CX N2 (N2 10) t i = CX N P t i ∧ CY N2 (N2 10) t i = CY N P t i := fun t i => by
        unfold CX CY
        rw [y10, y1 6 (by decide) (by decide), y1 7 (by decide) (by decide)]
        exact ⟨rfl, rfl⟩
      have hcl : ∀ t, t < 6 → N 4 t = 1 → t < ns := fun t ht hct => by
        obtain ⟨⟨z1, z2, z3, z4, z5, z6⟩, -, z7⟩ := h2 t ht
        have x1 := (z6 hct).1
        by_cases q : t < ns
        · exact q
        · have := z7 (by omega); omega
      have TCiff : ∀ t i, TC N2 ns T t i ↔ t < 6 ∧ M (2 + 4) t = T ∧ (i : Int) < N 5 t := fun t i => by
        unfold TC
        rw [y10, y1 5 (by decide) (by decide)]
        constructor
        · intro ⟨q1, q2, q3⟩
          exact ⟨by omega, by rw [trs t (by omega)]; exact q2, q3⟩
        · intro ⟨q1, q2, q3⟩
          rw [trs t q1] at q2
          exact ⟨hcl t q1 (l5.kin hs6 q1 cc (by rw [q2, hT])), q2, q3⟩
      have tcU : ∀ t i, TC N2 ns T t i → ¬ U (CX N P t i) (CY N P t i) := fun t i ht => by
        obtain ⟨q1, q2, q3⟩ := (TCiff t i).mp ht
        rw [Uno]
        exact ⟨t, q1, q2, i, q3, rfl, rfl⟩
      have tcin : ∀ t i, TC N2 ns T t i → (lo ≤ CX N P t i ∧ CX N P t i < hi) ∧ ul ≤ CY N P t i ∧ CY N P t i < uh := fun t i ht => by
        by_cases z : (lo ≤ CX N P t i ∧ CX N P t i < hi) ∧ ul ≤ CY N P t i ∧ CY N P t i < uh
        · exact z
        · exact absurd (Uout _ _ z) (tcU t i ht)
      obtain ⟨f1, f2, f3⟩ := e6 cc
      have hn28 : (N 1 s).toNat ≤ 28 := by omega
      have hoo : M (114 + 10 * s + 3) (N 1 s).toNat = 0 ∧ M (114 + 10 * s + 4) (N 1 s).toNat = 0 := ⟨f2.1, f2.2.1⟩
      have hex : ∃ t i, TC N2 ns T t i := by
        have hw := wn_win e5 hoo hn28
        obtain ⟨c, hc1, hc2⟩ := sm_ex (show sm (fun c => wn (N 1 s).toNat (M (114 + 10 * s + 1)) (M (114 + 10 * s + 3)) (M (114 + 10 * s + 4)) (cX c) (cY c)) 1024 ≠ 0 by rw [hw]; omega)
        have h01 := wn_pos e5 f2 hn28 f3 (cX c) (cY c)
        obtain ⟨i, j1, j2, j3⟩ := (e7.2 cc).2.2 (cX c) (cY c) (by omega)
        exact ⟨s, i, (TCiff s i).mpr ⟨hs6, by rw [trs s hs6]; exact hT, j1⟩⟩
      have hML : MLok N2 ns T lo hi ul uh := by
        refine ⟨⟨by rw [y0 1 (by decide)]; exact ens, by omega⟩, ⟨by omega, by omega⟩, fun t ht => ?_, fun t ht hm => ?_, fun t i ht => ?_, ⟨⟨by omega, by omega, by omega⟩, by omega, by omega, by omega⟩, hex⟩
        · rw [y10, y1 5 (by decide) (by decide)]
          have z := (l5.1 t ht).2.1
          obtain ⟨⟨z1, z2, -⟩, z7, -⟩ := h2 t ht
          refine ⟨?_, by omega, by omega⟩
          rcases z2.2 with q | q
          · have := z7.1 q; omega
          · exact (z7.2 q).1
        · rw [y10]; exact (l5.1 t (by omega)).1
        · rw [(ceq t i).1, (ceq t i).2]; exact tcin t i ht
      unfold holes_fin
      have ix : (4 * (s : Int) + 3).toNat = 4 * s + 3 := by omega
      refine ⟨⟨by omega, by omega⟩, ?_⟩
      rw [ix, y10, hT]
      refine mlay_ok hML k2 (fun N3 left top z1 z2 z3 z4 z5 => ?_)
      have z3' : ∀ t i, TC N2 ns T t i → left ≤ CX N P t i ∧ top ≤ CY N P t i := fun t i ht => by
        have := z3 t i ht
        rw [(ceq t i).1, (ceq t i).2] at this
        exact this
      -- the cells lie in this box too
      have Uout2 : ∀ x y, ¬ ((left ≤ x ∧ x < hi) ∧ top ≤ y ∧ y < uh) → U x y := fun x y hn => by
        refine Classical.byContradiction (fun q => hn ?_)
        obtain ⟨t, q1, q2, i, q3, q4, q5⟩ := (Uno x y).mp q
        have ht := (TCiff t i).mpr ⟨q1, q2, q3⟩
        have a := tcin t i ht
        have b := z3' t i ht
        rw [q4, q5] at a b
        exact ⟨⟨by omega, by omega⟩, by omega, by omega⟩
      have hU3 : ∀ t, t < 8100 → (N3 13 t = 0 ↔ U (left - 1 + ((t % 90 : Nat) : Int)) (top - 1 + ((t / 90 : Nat) : Int))) := fun t ht => by
        have v := z4 t ht
        have key : N3 13 t = 1 ↔ ¬ U (left - 1 + ((t % 90 : Nat) : Int)) (top - 1 + ((t / 90 : Nat) : Int)) := by
          rw [z5 t ht, Uno]
          constructor
          · intro ⟨t', i, q1, q2⟩
            rw [(ceq t' i).1, (ceq t' i).2] at q2
            have a := tcin t' i q1
            have b := z3' t' i q1
            obtain ⟨p1, p2, p3⟩ := (TCiff t' i).mp q1
            exact ⟨t', p1, p2, i, p3, by omega, by omega⟩
          · intro ⟨t', p1, p2, i, p3, p4, p5⟩
            have q1 := (TCiff t' i).mpr ⟨p1, p2, p3⟩
            refine ⟨t', i, q1, ?_⟩
            rw [(ceq t' i).1, (ceq t' i).2, p4, p5]
            omega
        constructor
        · intro q
          refine Classical.byContradiction (fun z => ?_)
          have := key.mpr z
          omega
        · intro q
          rcases v with v | v
          · exact v
          · exact absurd q (key.mp v)
      have hrim3 : ∀ row col : Nat, row < 90 → col < 90 → (row = 0 ∨ row + 1 = 90 ∨ col = 0 ∨ col + 1 = 90) → U (left - 1 + col) (top - 1 + row) ∧ Out U (left - 1 + col) (top - 1 + row) := fun row col hr hc q => by
        have hn : ¬ ((left ≤ left - 1 + (col : Int) ∧ left - 1 + (col : Int) < hi) ∧ top ≤ top - 1 + (row : Int) ∧ top - 1 + (row : Int) < uh) := by omega
        exact ⟨Uout2 _ _ hn, out_beyond Uout2 hn⟩
      refine mflood_ok (L := left - 1) (Tp := top - 1) z4 hU3 ⟨by omega, by omega, by omega, by omega⟩ hrim3 (fun N4 w1 w2 w3 => mcount_ok w2 ?_)
      have mdl : sm (fun t => if N4 13 t = 0 then (1 : Int) else 0) 8100 = sm (fun q => sm (fun r => (fun x y => ind (U x y ∧ ¬ Out U x y)) (left - 1 + r) (top - 1 + q)) 90) 90 := rows_sum (g := fun t => if N4 13 t = 0 then (1 : Int) else 0) (e := fun x y => ind (U x y ∧ ¬ Out U x y)) (L := left - 1) (Tp := top - 1) (w := 90) (h := 90) (fun row col hr hc => ite_ind (w3 row col hr hc))
      have ez : ∀ x y, ¬ ((left ≤ x ∧ x < hi) ∧ top ≤ y ∧ y < uh) → (fun x y => ind (U x y ∧ ¬ Out U x y)) x y = 0 := fun x y hn => ind_neg (fun q => q.2 (out_beyond Uout2 hn))
      have s1 := sum_win (e := fun x y => ind (U x y ∧ ¬ Out U x y)) (L := lo - 1) (Tp := ul - 1) (a := left) (b := hi) (u := top) (d := uh) (w := ww) (h := hh) (by omega) (by omega) (by omega) (by omega) (by omega) (by omega) ez
      have s2 := sum_win (e := fun x y => ind (U x y ∧ ¬ Out U x y)) (L := left - 1) (Tp := top - 1) (a := left) (b := hi) (u := top) (d := uh) (w := 90) (h := 90) (by omega) (by omega) (by omega) (by omega) (by omega) (by omega) ez
      have n00 : N4 0 0 = 0 := by rw [w1 0 (by decide), z1.2 0 (by decide) (by decide) (by decide) (by decide)]; exact y00
      refine ⟨n00, ⟨by omega, by omega⟩, fun _ => toL_eq (by rw [cls, s1, mdl, s2]), hR.scr (fun r r1 r2 r3 => by rw [m1 r r2 r3]; exact n1 r r1 r2) (fun r r0 r9 r12 r13 => by rw [w1 r r13, z1.1 r r0 r13]; exact y1 r r0 r13) (fun j j0 j19 j20 j22 j23 => by rw [w1 0 (by decide), z1.2 j j19 j20 j22 j23]; exact y0 j j0)⟩
    · rw [e2.1] at hc
      exact go _ (fun q => absurd hc q) (fun _ => ⟨up_ss _ _ _ _, ⟨by omega, by omega⟩, fun _ => rfl, hR.thr 0⟩)
  · refine eo_no h1 i1 hs ⟨rfl, sh_no h1 i1 hs ⟨xl rfl, fun q => absurd rfl q, fun _ => thr_1 ⟨xl rfl, fun q => absurd q (by decide), fun _ => ⟨up_ss _ _ _ _, ⟨by omega, by omega⟩, fun q => absurd q (by decide), hR.thr 1⟩⟩⟩⟩
theorem all_obs : Obs Rel := ⟨ob_init, ob_sherd, ob_step, ob_height, ob_close, ob_least, ob_bound, ob_run, ob_pair, ob_join, ob_undo, ob_place, ob_holes, ob_count⟩
