/-! THE REFERENCE'S FLOOD -/
def FN (U : Int → Int → Prop) (Nb Nc : Mem) (L Tp : Int) : Prop :=
  (∀ r, r ≠ 13 → Nc r = Nb r) ∧ (∀ t, t < 8100 → Nc 13 t = Nb 13 t ∨ (Nb 13 t = 0 ∧ Nc 13 t = 2)) ∧ (∀ t, t < 8100 → Nc 13 t = 2 → Out U (L + ((t % 90 : Nat) : Int)) (Tp + ((t / 90 : Nat) : Int))) ∧ Nc 13 0 = 2
def Zs (N : Mem) : Int := sm (fun t => if N 13 t = 0 then (1 : Int) else 0) 8100
def nb (t t' : Nat) : Prop := (0 < t % 90 ∧ t' + 1 = t) ∨ (t % 90 < 89 ∧ t' = t + 1) ∨ t' + 90 = t ∨ t' = t + 90
def shut (N : Mem) (k : Nat) : Prop := ∀ t, t < k → N 13 t = 0 → ∀ t', t' < 8100 → nb t t' → N 13 t' ≠ 2
section MF
variable {U : Int → Int → Prop} {Nb : Mem} {L Tp : Int}
theorem isOut_ok {N : Mem} {k : Int} {Post : Int → Prop} (hk : in32 k) (hin : ∀ t, t < 8100 → in32 (N 13 t)) (h1 : ∀ t : Nat, k = (t : Int) → t < 8100 → N 13 t = 2 → Post 1) (h0 : (∀ t : Nat, k = (t : Int) → t < 8100 → N 13 t ≠ 2) → Post 0) : wp_Model_isOut k N Post := by
  refine ⟨hk, fun z => h0 (fun t e _ => by omega), fun z => ⟨hk, fun z2 => h0 (fun t e ht => by omega), fun z2 => ⟨⟨by omega, by omega⟩, hin _ (by omega), fun z3 => h0 (fun t e ht q => z3 (by rw [e, Int.toNat_natCast]; exact q)), fun z3 => h1 k.toNat (by omega) (by omega) z3⟩⟩⟩
theorem pass_ok {X9 : Int → Mem → Prop} {Post : Mem → Prop} {Ns : Mem} (hb : ∀ t, t < 8100 → Nb 13 t = 0 ∨ Nb 13 t = 1) (hU : ∀ t, t < 8100 → (Nb 13 t = 0 ↔ U (L + ((t % 90 : Nat) : Int)) (Tp + ((t / 90 : Nat) : Int)))) (hX : ∀ (x : Int) (Nc : Mem), FN U Nb Nc L Tp → ((x = 0 ∧ Nc = Ns ∧ shut Ns 8100) ∨ (x = 1 ∧ Zs Nc < Zs Ns)) → X9 x Nc) :
    ∀ f k : Nat, k + f = 8100 → ∀ (x : Int) (Nc : Mem), FN U Nb Nc L Tp → ((x = 0 ∧ Nc = Ns ∧ shut Ns k) ∨ (x = 1 ∧ Zs Nc < Zs Ns)) → wp_Model_flood_17 X9 Post (f + 1) x k Nc := by
  intro f
  induction f with
  | zero =>
    intro k hk x Nc hF hx
    exact ⟨⟨by omega, by omega⟩, fun _ => hX x Nc hF (by rw [show k = 8100 by omega] at hx; exact hx), fun z => absurd (show (8100 : Int) ≤ k by omega) z⟩
  | succ f ih =>
    intro k hk x Nc hF hx
    obtain ⟨g1, g2, g3, g4⟩ := id hF
    have hin : ∀ t, t < 8100 → in32 (Nc 13 t) := fun t ht => by
      have := g2 t ht
      have := hb t ht
      exact ⟨by omega, by omega⟩
    have hk8 : k < 8100 := by omega
    refine ⟨⟨by omega, by omega⟩, fun z => absurd z (by omega), fun _ => ⟨⟨by omega, by omega, by omega, by omega⟩, fun v3 h3 => ⟨⟨by omega, by omega⟩, ?_⟩⟩⟩
    rw [Int.toNat_natCast]
    have e3 : v3 = ((k % 90 : Nat) : Int) := by omega
    -- a new cell outside
    have mark : Nc 13 k = 0 → ∀ t' : Nat, t' < 8100 → nb k t' → Nc 13 t' = 2 → wp_Model_flood_96 X9 (fun y0 y1 M => wp_Model_flood_17 X9 Post (f + 1) y0 y1 M) k Nc Post := by
      intro hz t' ht' hn h2
      refine ⟨⟨by omega, by omega⟩, fun N1 e1 v hv => ?_⟩
      rw [Int.toNat_natCast] at e1
      rw [hv, show ((k : Nat) : Int) + 1 = ((k + 1 : Nat) : Int) by omega]
      have nbz : Nb 13 k = 0 := by have := g2 k hk8; omega
      have hu := (hU k hk8).mp nbz
      have ho := g3 t' ht' h2
      have c1 : ∀ t, N1 13 t = if t = k then 2 else Nc 13 t := fun t => by
        rw [e1]
        by_cases q : t = k
        · rw [q, up_ss, if_pos rfl]
        · rw [up_nj q, if_neg q]
      have dec : Zs N1 = Zs Nc - 1 := sm_drop (s := k) hk8 (if_pos hz) (by
        show (if N1 13 k = 0 then (1 : Int) else 0) = 0
        rw [c1, if_pos rfl, if_neg (by decide)]) (fun t _ q => by
        show (if N1 13 t = 0 then (1 : Int) else 0) = (if Nc 13 t = 0 then (1 : Int) else 0)
        rw [c1, if_neg q])
      refine ih (k + 1) (by omega) 1 N1 ⟨fun r hr => by rw [e1, up_ne hr]; exact g1 r hr, fun t ht => ?_, fun t ht hm => ?_, ?_⟩ (Or.inr ⟨rfl, ?_⟩)
      · rw [c1]
        by_cases q : t = k
        · rw [if_pos q, q]; exact Or.inr ⟨nbz, rfl⟩
        · rw [if_neg q]; exact g2 t ht
      · by_cases q : t = k
        · rw [q]
          refine ho.step hu ?_
          unfold adj
          unfold nb at hn
          omega
        · rw [c1, if_neg q] at hm; exact g3 t ht hm
      · rw [c1]
        by_cases q : 0 = k
        · rw [if_pos q]
        · rw [if_neg q]; exact g4
      · rcases hx with ⟨-, q, -⟩ | ⟨-, q⟩
        · rw [← q, dec]; exact Int.sub_lt_self _ (by decide)
        · rw [dec]; exact Int.lt_of_le_of_lt (Int.sub_le_self _ (by decide)) q
    have skip : (Nc 13 k = 0 → ∀ t', t' < 8100 → nb k t' → Nc 13 t' ≠ 2) → wp_Model_flood_17 X9 Post (f + 1) x ((k : Int) + 1) Nc := by
      intro hno
      rw [show ((k : Nat) : Int) + 1 = ((k + 1 : Nat) : Int) by omega]
      refine ih (k + 1) (by omega) x Nc hF ?_
      rcases hx with ⟨q1, q2, q3⟩ | q
      · refine Or.inl ⟨q1, q2, fun t ht hz t' ht' hn => ?_⟩
        by_cases z : t = k
        · subst z
          rw [← q2] at hz ⊢
          exact hno hz t' ht' hn
        · exact q3 t (by omega) hz t' ht' hn
      · exact Or.inr q
    -- above and below
    have last : Nc 13 k = 0 → (∀ t', t' < 8100 → (0 < k % 90 ∧ t' + 1 = k) ∨ (k % 90 < 89 ∧ t' = k + 1) → Nc 13 t' ≠ 2) → wp_Model_flood_71 X9 (fun y0 y1 M => wp_Model_flood_17 X9 Post (f + 1) y0 y1 M) x k Nc Post := by
      intro hz hside
      refine isOut_ok ⟨by omega, by omega⟩ hin (fun t e ht h2 => ⟨xl rfl, fun _ => mark hz t ht (Or.inr (Or.inr (Or.inl (by omega)))) h2, fun q => absurd q (by decide)⟩) (fun hup => ⟨xl rfl, fun q => absurd rfl q, fun _ => ?_⟩)
      refine isOut_ok ⟨by omega, by omega⟩ hin (fun t e ht h2 => ⟨xl rfl, fun _ => mark hz t ht (Or.inr (Or.inr (Or.inr (by omega)))) h2, fun q => absurd q (by decide)⟩) (fun hdn => ⟨xl rfl, fun q => absurd rfl q, fun _ v hv => ?_⟩)
      rw [hv]
      refine skip (fun _ t' ht' hn => ?_)
      rcases hn with q | q | q | q
      · exact hside t' ht' (Or.inl q)
      · exact hside t' ht' (Or.inr q)
      · exact hup t' (by omega) ht'
      · exact hdn t' (by omega) ht'
    have right : Nc 13 k = 0 → (∀ t', t' < 8100 → (0 < k % 90 ∧ t' + 1 = k) → Nc 13 t' ≠ 2) → wp_Model_flood_55 X9 (fun y0 y1 M => wp_Model_flood_17 X9 Post (f + 1) y0 y1 M) x k v3 Nc Post := by
      intro hz hleft
      refine ⟨⟨by omega, by omega⟩, fun q => last hz (fun t' ht' hn => ?_), fun q => ?_⟩
      · rcases hn with z | z
        · exact hleft t' ht' z
        · omega
      · refine isOut_ok ⟨by omega, by omega⟩ hin (fun t e ht h2 => ⟨xl rfl, fun _ => mark hz t ht (Or.inr (Or.inl ⟨by omega, by omega⟩)) h2, fun q => absurd q (by decide)⟩) (fun hr => ⟨xl rfl, fun q => absurd rfl q, fun _ => last hz (fun t' ht' hn => ?_)⟩)
        rcases hn with z | z
        · exact hleft t' ht' z
        · exact hr t' (by omega) ht'
    refine ⟨hin k hk8, fun hz => ⟨⟨by omega, by omega⟩, fun q => right hz (fun t' ht' z => by omega), fun q => ?_⟩, fun hz v hv => ?_⟩
    · refine isOut_ok ⟨by omega, by omega⟩ hin (fun t e ht h2 => ⟨xl rfl, fun _ => mark hz t ht (Or.inl ⟨by omega, by omega⟩) h2, fun q => absurd q (by decide)⟩) (fun hl => ⟨xl rfl, fun q => absurd rfl q, fun _ => right hz (fun t' ht' z => hl t' (by omega) ht')⟩)
    · rw [hv]
      exact skip (fun z => absurd z hz)
theorem mflood_ok {Post : Mem → Prop} (hb : ∀ t, t < 8100 → Nb 13 t = 0 ∨ Nb 13 t = 1) (hU : ∀ t, t < 8100 → (Nb 13 t = 0 ↔ U (L + ((t % 90 : Nat) : Int)) (Tp + ((t / 90 : Nat) : Int)))) (hwin : -400 ≤ L ∧ L + 90 ≤ 400 ∧ -400 ≤ Tp ∧ Tp + 90 ≤ 400) (hrim : ∀ row col : Nat, row < 90 → col < 90 → (row = 0 ∨ row + 1 = 90 ∨ col = 0 ∨ col + 1 = 90) → U (L + col) (Tp + row) ∧ Out U (L + col) (Tp + row))
    (hP : ∀ Nc : Mem, (∀ r, r ≠ 13 → Nc r = Nb r) → (∀ t, t < 8100 → Nc 13 t = 0 ∨ Nc 13 t = 1 ∨ Nc 13 t = 2) → (∀ row col : Nat, row < 90 → col < 90 → (Nc 13 (90 * row + col) = 0 ↔ U (L + col) (Tp + row) ∧ ¬ Out U (L + col) (Tp + row))) → Post Nc) : wp_Model_flood Nb Post := by
  have done : ∀ Nc : Mem, FN U Nb Nc L Tp → shut Nc 8100 → Post Nc := by
    intro Nc hF hsh
    obtain ⟨g1, g2, g3, g4⟩ := id hF
    have g := grid (U := U) (K := fun row col => Nc 13 (90 * row + col) = 2) (L := L) (Tp := Tp) (w := 90) (h := 90) (by decide) (by decide) hwin (fun row col hr hc q => (hrim row col hr hc q).1) g4 (fun row col row' col' hr hc hr' hc' hk ha hu => by
      have h2 : 90 * row' + col' < 8100 := by omega
      have u := (hU _ h2).mpr (by rw [show (90 * row' + col') % 90 = col' by omega, show (90 * row' + col') / 90 = row' by omega]; exact hu)
      have c2 := g2 _ h2
      by_cases z : Nc 13 (90 * row' + col') = 2
      · exact z
      · have := hsh _ h2 (by omega) (90 * row + col) (by omega) (by unfold nb; unfold adjN at ha; omega)
        exact absurd hk this) (fun row col hr hc hk => by
      have := g3 _ (show 90 * row + col < 8100 by omega) hk
      rw [show (90 * row + col) % 90 = col by omega, show (90 * row + col) / 90 = row by omega] at this
      exact this)
    refine hP Nc g1 (fun t ht => by have := g2 t ht; have := hb t ht; omega) (fun row col hr hc => ?_)
    have h2 : 90 * row + col < 8100 := by omega
    have u := hU _ h2
    rw [show (90 * row + col) % 90 = col by omega, show (90 * row + col) / 90 = row by omega] at u
    have c2 := g2 _ h2
    constructor
    · intro z
      have hu := u.mp (by omega)
      refine ⟨hu, fun ho => ?_⟩
      have this : Nc 13 (90 * row + col) = 2 := (g row col hr hc hu).mpr ho
      omega
    · intro ⟨hu, hno⟩
      have := u.mpr hu
      have nk : ¬ Nc 13 (90 * row + col) = 2 := fun q => hno ((g row col hr hc hu).mp q)
      omega
  have znn : ∀ N : Mem, 0 ≤ Zs N := fun N => sm_nonneg (fun t _ => by split <;> decide)
  have outer : ∀ n : Nat, ∀ (x : Int) (Nc : Mem), FN U Nb Nc L Tp → ((x = 0 ∧ shut Nc 8100) ∨ (x = 1 ∧ Zs Nc + 1 ≤ n)) → wp_Model_flood_9 Post (n + 1) x Nc := by
    intro n
    induction n with
    | zero =>
      intro x Nc hF hx
      have := znn Nc
      rcases hx with ⟨q, q2⟩ | ⟨q, q2⟩
      · exact ⟨by rw [q]; exact xl rfl, fun _ => done Nc hF q2, fun z => absurd q z⟩
      · omega
    | succ n ih =>
      intro x Nc hF hx
      rcases hx with ⟨q, q2⟩ | ⟨q, q2⟩
      · exact ⟨by rw [q]; exact xl rfl, fun _ => done Nc hF q2, fun z => absurd q z⟩
      · refine ⟨by rw [q]; exact xl rfl, fun z => absurd z (by omega), fun _ => ⟨8101, pass_ok (Ns := Nc) hb hU (fun x' N' hF' hx' => ih x' N' hF' ?_) 8100 0 (by omega) 0 Nc hF (Or.inl ⟨rfl, rfl, fun t ht => absurd ht (by omega)⟩)⟩⟩
        rcases hx' with ⟨z1, z2, z3⟩ | ⟨z1, z2⟩
        · exact Or.inl ⟨z1, by rw [z2]; exact z3⟩
        · exact Or.inr ⟨z1, by omega⟩
  refine ⟨⟨by decide, by decide⟩, fun N1 e1 => ⟨(Zs N1 + 1).toNat + 1, outer _ 1 N1 ?_ (Or.inr ⟨rfl, by have := znn N1; omega⟩)⟩⟩
  have e1 : N1 = up Nb 13 0 2 := e1
  have r0 := hrim 0 0 (by omega) (by omega) (Or.inl rfl)
  have n0 : Nb 13 0 = 0 := (hU 0 (by decide)).mpr r0.1
  refine ⟨fun r hr => by rw [e1, up_ne hr], fun t ht => ?_, fun t ht hm => ?_, by rw [e1, up_ss]⟩
  · by_cases q : t = 0
    · rw [q, e1, up_ss]; exact Or.inr ⟨n0, rfl⟩
    · rw [e1, up_nj q]; exact Or.inl rfl
  · by_cases q : t = 0
    · rw [q]; exact r0.2
    · rw [e1, up_nj q] at hm
      have := hb t ht
      omega
theorem mcount_ok {Post : Int → Mem → Prop} {Nc : Mem} (hv : ∀ t, t < 8100 → Nc 13 t = 0 ∨ Nc 13 t = 1 ∨ Nc 13 t = 2) (hP : Post (sm (fun t => if Nc 13 t = 0 then (1 : Int) else 0) 8100) Nc) : ∃ nn, wp_Model_holes_79 Post nn 0 0 Nc := by
  have loop : ∀ f t : Nat, t + f = 8100 → wp_Model_holes_79 Post (f + 1) (sm (fun t => if Nc 13 t = 0 then (1 : Int) else 0) t) t Nc := by
    intro f
    induction f with
    | zero =>
      intro t ht
      refine ⟨⟨by omega, by omega⟩, fun _ => ?_, fun z => absurd (show (8100 : Int) ≤ t by omega) z⟩
      rw [show t = 8100 by omega]; exact hP
    | succ f ih =>
      intro t ht
      have it := hv t (by omega)
      refine ⟨⟨by omega, by omega⟩, fun z => absurd z (by omega), fun _ => ⟨⟨by omega, by omega⟩, ?_⟩⟩
      rw [Int.toNat_natCast]
      have e : sm (fun t => if Nc 13 t = 0 then (1 : Int) else 0) (t + 1) = sm (fun t => if Nc 13 t = 0 then (1 : Int) else 0) t + (if Nc 13 t = 0 then (1 : Int) else 0) := rfl
      refine ⟨⟨by omega, by omega⟩, fun z v hv v3 h3 => ?_, fun z v hv v3 h3 => ?_⟩
      · rw [hv, h3, show ((t : Nat) : Int) + 1 = ((t + 1 : Nat) : Int) by omega]
        have := ih (t + 1) (by omega)
        rw [e, if_neg z] at this
        exact this
      · rw [hv, h3, show ((t : Nat) : Int) + 1 = ((t + 1 : Nat) : Int) by omega]
        have := ih (t + 1) (by omega)
        rw [e, if_pos z] at this
        exact this
  exact ⟨8101, loop 8100 0 (by omega)⟩
end MF
