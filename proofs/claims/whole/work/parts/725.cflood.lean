/-! THE CLASS'S FLOOD -/
def FI (U : Int → Int → Prop) (Mb Mc : Mem) (L Tp : Int) (w h known : Nat) : Prop :=
  (∀ r, r ≠ 112 → r ≠ 113 → Mc r = Mb r) ∧ (∀ t, t < w * h → Mc 112 t = Mb 112 t ∨ (Mb 112 t = 0 ∧ Mc 112 t = -1)) ∧ (∀ i, i < known → ∃ t, t < w * h ∧ Mc 113 i = (t : Int) ∧ Mc 112 t = -1) ∧ (∀ t, t < w * h → Mc 112 t = -1 → ∃ i, i < known ∧ Mc 113 i = (t : Int)) ∧ sm (fun t => if Mc 112 t = -1 then (1 : Int) else 0) (w * h) = known ∧ ∀ t, t < w * h → Mc 112 t = -1 → Out U (L + ((t % w : Nat) : Int)) (Tp + ((t / w : Nat) : Int))
section CF
variable {U : Int → Int → Prop} {Mb : Mem} {L Tp : Int} {w h : Nat}
def More (Mc Mc' : Mem) (w h known known' : Nat) : Prop := known ≤ known' ∧ (∀ i, i < known → Mc' 113 i = Mc 113 i) ∧ ∀ t, t < w * h → Mc 112 t ≠ 0 → Mc' 112 t ≠ 0
theorem More.trans {A B C : Mem} {k1 k2 k3 : Nat} (h1 : More A B w h k1 k2) (h2 : More B C w h k2 k3) : More A C w h k1 k3 := by
  refine ⟨Nat.le_trans h1.1 h2.1, fun i hi => by rw [h2.2.1 i (by have := h1.1; omega)]; exact h1.2.1 i hi, fun t ht hz => h2.2.2 t ht (h1.2.2 t ht hz)⟩
theorem reach_ok {Mc : Mem} {known : Nat} {x : Int} {Post : Int → Mem → Prop} (hc : w * h ≤ 1936) (h5 : Mb 111 5 = ((w * h : Nat) : Int)) (hb : ∀ t, t < w * h → 0 ≤ Mb 112 t ∧ Mb 112 t ≤ 6) (hI : FI U Mb Mc L Tp w h known) (hx : in32 x) (hs : ∀ t : Nat, x = (t : Int) → t < w * h → Mb 112 t = 0 → Out U (L + ((t % w : Nat) : Int)) (Tp + ((t / w : Nat) : Int))) (hP : ∀ (known' : Nat) (Mc' : Mem), FI U Mb Mc' L Tp w h known' → More Mc Mc' w h known known' → (∀ t : Nat, x = (t : Int) → t < w * h → Mc' 112 t ≠ 0) → Post known' Mc') : wp_Board_reach x known Mc Post := by
  obtain ⟨i1, i2, i3, i4, i5, i6⟩ := id hI
  have e5 : Mc 111 5 = ((w * h : Nat) : Int) := by rw [i1 111 (by decide) (by decide)]; exact h5
  have f01 : ∀ t, t < w * h → (if Mc 112 t = -1 then (1 : Int) else 0) = 0 ∨ (if Mc 112 t = -1 then (1 : Int) else 0) = 1 := fun t _ => by split <;> decide
  have hkn : known ≤ w * h := by
    have := (two_ones (n := w * h) f01).1
    omega
  have same : (∀ t : Nat, x = (t : Int) → t < w * h → Mc 112 t ≠ 0) → Post known Mc := fun q => hP known Mc hI ⟨Nat.le_refl _, fun _ _ => rfl, fun _ _ z => z⟩ q
  refine ⟨hx, fun q => same (fun t ht _ => by omega), fun q => ⟨hx, by rw [e5]; exact ⟨by omega, by omega⟩, fun q2 => same (fun t ht ht2 => by omega), fun q2 => ?_⟩⟩
  obtain ⟨t, et⟩ : ∃ t : Nat, x = t := ⟨x.toNat, by omega⟩
  subst et
  have htl : t < w * h := by omega
  have bt := hb t htl
  have ct := i2 t htl
  refine ⟨⟨by omega, by omega⟩, fun q3 => ?_, fun q3 => ⟨⟨by omega, by omega⟩, ?_⟩⟩
  · refine same (fun t' ht' _ hz => ?_)
    have : t' = t := by omega
    subst this
    -- all cells are marked, so this one is
    have hall : sm (fun t => if Mc 112 t = -1 then (1 : Int) else 0) (w * h) ≤ (w * h : Nat) - 1 := by
      have e : sm (fun k => if Mc 112 k = -1 then (1 : Int) else 0) (w * h) = sm (fun k => (if k = t' then (0 : Int) else if Mc 112 k = -1 then 1 else 0)) (w * h) := sm_congr (fun k _ => by
        by_cases z : k = t'
        · rw [if_pos z, z, if_neg (by omega)]
        · rw [if_neg z])
      have e2 : sm (fun k => (if k = t' then (0 : Int) else if Mc 112 k = -1 then 1 else 0)) (w * h) ≤ sm (fun k => 1 - (if k = t' then (1 : Int) else 0)) (w * h) := sm_le (fun k _ => by
        by_cases z : k = t'
        · rw [if_pos z, if_pos z]; decide
        · rw [if_neg z, if_neg z]; split <;> decide)
      have e3 : sm (fun _ => (1 : Int)) (w * h) ≤ (w * h : Nat) := (two_ones (n := w * h) (f := fun _ => (1 : Int)) (fun _ _ => Or.inr rfl)).1.2
      rw [sm_sub (fun _ => (1 : Int)), sm_one (i := t') (f := fun k => if k = t' then (1 : Int) else 0) htl (fun k _ z => if_neg z), if_pos rfl] at e2
      omega
    omega
  · rw [Int.toNat_natCast]
    refine ⟨⟨by omega, by omega⟩, fun q4 => ⟨⟨by omega, by omega⟩, fun M1 g1 => ⟨⟨by omega, by omega⟩, fun M2 g2 => ?_⟩⟩, fun q4 => same (fun t' ht' _ => by rw [show t' = t by omega]; exact q4)⟩
    rw [Int.toNat_natCast] at g2
    have c2 : ∀ k, M2 112 k = if k = t then -1 else Mc 112 k := fun k => by
      rw [g2, up_ne (by decide), g1]
      by_cases z : k = t
      · rw [z, up_ss, if_pos rfl]
      · rw [up_nj z, if_neg z]
    have r2 : ∀ k, M2 113 k = if k = known then (t : Int) else Mc 113 k := fun k => by
      rw [g2]
      by_cases z : k = known
      · rw [z, up_ss, if_pos rfl]
      · rw [up_nj z, if_neg z, g1, up_ne (by decide)]
    have mb0 : Mb 112 t = 0 := by omega
    have : ((known : Nat) : Int) + 1 = ((known + 1 : Nat) : Int) := by omega
    rw [this]
    refine hP (known + 1) M2 ⟨fun r r1 r3 => by rw [g2, up_ne r3, g1, up_ne r1]; exact i1 r r1 r3, fun k hk => ?_, fun i hi => ?_, fun k hk hm => ?_, ?_, fun k hk hm => ?_⟩ ⟨by omega, fun i hi => by rw [r2, if_neg (by omega)], fun k hk hz => ?_⟩ (fun t' ht' _ => ?_)
    · rw [c2]
      by_cases z : k = t
      · rw [if_pos z, z]; exact Or.inr ⟨mb0, rfl⟩
      · rw [if_neg z]; exact i2 k hk
    · by_cases z : i = known
      · exact ⟨t, htl, by rw [r2, if_pos z], by rw [c2, if_pos rfl]⟩
      · obtain ⟨t', a, b, c⟩ := i3 i (by omega)
        refine ⟨t', a, by rw [r2, if_neg z]; exact b, ?_⟩
        rw [c2]
        by_cases z2 : t' = t
        · rw [if_pos z2]
        · rw [if_neg z2]; exact c
    · by_cases z : k = t
      · exact ⟨known, by omega, by rw [r2, if_pos rfl, z]⟩
      · rw [c2, if_neg z] at hm
        obtain ⟨i, a, b⟩ := i4 k hk hm
        exact ⟨i, by omega, by rw [r2, if_neg (by omega)]; exact b⟩
    · have := sm_drop (f := fun k => if M2 112 k = -1 then (1 : Int) else 0) (f' := fun k => if Mc 112 k = -1 then (1 : Int) else 0) htl (by
        show (if M2 112 t = -1 then (1 : Int) else 0) = 1
        rw [c2, if_pos rfl, if_pos rfl]) (by
        show (if Mc 112 t = -1 then (1 : Int) else 0) = 0
        rw [if_neg (by omega)]) (fun k _ z => by
        show (if Mc 112 k = -1 then (1 : Int) else 0) = (if M2 112 k = -1 then (1 : Int) else 0)
        rw [c2, if_neg z])
      omega
    · by_cases z : k = t
      · rw [z]; exact hs t rfl htl mb0
      · rw [c2, if_neg z] at hm; exact i6 k hk hm
    · rw [c2]
      by_cases z : k = t
      · rw [if_pos z]; decide
      · rw [if_neg z]; exact hz
    · have : t' = t := by omega
      rw [c2, if_pos this]; decide
theorem flood_ok {Post : Mem → Prop} (hw2 : 2 ≤ w) (hh2 : 2 ≤ h) (hc : w * h ≤ 1936) (h4 : Mb 111 4 = (w : Int)) (h5 : Mb 111 5 = ((w * h : Nat) : Int)) (hb : ∀ t, t < w * h → 0 ≤ Mb 112 t ∧ Mb 112 t ≤ 6) (hU : ∀ row col : Nat, row < h → col < w → (Mb 112 (row * w + col) = 0 ↔ U (L + col) (Tp + row))) (hrim : ∀ row col : Nat, row < h → col < w → (row = 0 ∨ row + 1 = h ∨ col = 0 ∨ col + 1 = w) → U (L + col) (Tp + row) ∧ Out U (L + col) (Tp + row)) (hwin : -400 ≤ L ∧ L + w ≤ 400 ∧ -400 ≤ Tp ∧ Tp + h ≤ 400)
    (hP : ∀ Mc : Mem, (∀ r, r ≠ 112 → r ≠ 113 → Mc r = Mb r) → (∀ row col : Nat, row < h → col < w → (Mc 112 (row * w + col) = 0 ↔ U (L + col) (Tp + row) ∧ ¬ Out U (L + col) (Tp + row))) → (∀ t, t < w * h → -1 ≤ Mc 112 t ∧ Mc 112 t ≤ 6) → Post Mc) : wp_Board_flood Mb Post := by
  have hpos : 0 < w * h := Nat.mul_pos (by omega) (by omega)
  have ixlt : ∀ row col : Nat, row < h → col < w → row * w + col < w * h := fun row col hr hc => by
    have : (row + 1) * w ≤ h * w := Nat.mul_le_mul_right w hr
    rw [Nat.add_mul, Nat.one_mul, Nat.mul_comm h w] at this
    omega
  have ixdm : ∀ row col : Nat, col < w → (row * w + col) / w = row ∧ (row * w + col) % w = col := fun row col hc => by
    obtain ⟨a, b⟩ := dm_un (n := w) (i := row) (j := col) hc rfl
    rw [Nat.mul_comm row w]
    exact ⟨a.symm, b.symm⟩
  have cell : ∀ t, t < w * h → t / w < h ∧ t % w < w ∧ t / w * w + t % w = t := fun t ht => by
    refine ⟨by rw [Nat.div_lt_iff_lt_mul (by omega), Nat.mul_comm]; exact ht, Nat.mod_lt _ (by omega), ?_⟩
    rw [Nat.mul_comm]; exact Nat.div_add_mod t w
  have hUt : ∀ t, t < w * h → (Mb 112 t = 0 ↔ U (L + ((t % w : Nat) : Int)) (Tp + ((t / w : Nat) : Int))) := fun t ht => by
    obtain ⟨a, b, c⟩ := cell t ht
    have := hU (t / w) (t % w) a b
    rw [c] at this
    exact this
  -- what lies beside a cell outside is outside, if it is free
  have beside : ∀ t t' : Nat, t < w * h → t' < w * h → Out U (L + ((t % w : Nat) : Int)) (Tp + ((t / w : Nat) : Int)) → (t' = t + 1 ∨ t = t' + 1 ∨ t' = t + w ∨ t = t' + w) → Mb 112 t' = 0 → Out U (L + ((t' % w : Nat) : Int)) (Tp + ((t' / w : Nat) : Int)) := by
    intro t t' ht ht' ho hn hz
    obtain ⟨a, b, c⟩ := cell t ht
    obtain ⟨a', b', c'⟩ := cell t' ht'
    have hu := (hUt t' ht').mp hz
    by_cases q : t' / w = 0 ∨ t' / w + 1 = h ∨ t' % w = 0 ∨ t' % w + 1 = w
    · exact (hrim _ _ a' b' q).2
    · rcases hn with e | e | e | e
      · -- one to the right
        have d : t / w = t' / w ∧ t % w + 1 = t' % w := by
          have := ixdm (t' / w) (t' % w - 1) (by omega)
          have e2 : t' / w * w + (t' % w - 1) = t := by omega
          rw [e2] at this
          exact ⟨this.1, by omega⟩
        exact ho.step hu (Or.inr ⟨by rw [d.1], Or.inl (by omega)⟩)
      · have d : t / w = t' / w ∧ t % w = t' % w + 1 := by
          have := ixdm (t' / w) (t' % w + 1) (by omega)
          have e2 : t' / w * w + (t' % w + 1) = t := by omega
          rw [e2] at this
          exact this
        exact ho.step hu (Or.inr ⟨by rw [d.1], Or.inr (by omega)⟩)
      · have hq0 : 0 < t' / w := Nat.pos_of_ne_zero (fun e => q (Or.inl e))
        have d : t / w + 1 = t' / w ∧ t % w = t' % w := by
          have := ixdm (t' / w - 1) (t' % w) b'
          have e2 : (t' / w - 1) * w + t' % w = t := by
            have e3 : (t' / w - 1 + 1) * w = (t' / w - 1) * w + w := by rw [Nat.add_mul, Nat.one_mul]
            rw [Nat.sub_add_cancel hq0] at e3
            omega
          rw [e2] at this
          exact ⟨by rw [this.1]; exact Nat.sub_add_cancel hq0, this.2⟩
        exact ho.step hu (Or.inl ⟨by rw [d.2], Or.inl (by omega)⟩)
      · have d : t / w = t' / w + 1 ∧ t % w = t' % w := by
          have := ixdm (t' / w + 1) (t' % w) b'
          have e2 : (t' / w + 1) * w + t' % w = t := by
            rw [Nat.add_mul, Nat.one_mul]; omega
          rw [e2] at this
          exact this
        exact ho.step hu (Or.inl ⟨by rw [d.2], Or.inr (by omega)⟩)
  have done : ∀ (known : Nat) (Mc : Mem), FI U Mb Mc L Tp w h known → (∀ i, i < known → ∀ t : Nat, Mc 113 i = (t : Int) → ∀ t' : Nat, t' < w * h → (t' = t + 1 ∨ t = t' + 1 ∨ t' = t + w ∨ t = t' + w) → Mc 112 t' ≠ 0) → Mc 112 0 ≠ 0 → Post Mc := by
    intro known Mc hI hn h00
    obtain ⟨i1, i2, i3, i4, i5, i6⟩ := id hI
    have K0 : Mc 112 0 = -1 := by
      have z := (hUt 0 hpos).mpr (by
        have := (hrim 0 0 (by omega) (by omega) (Or.inl rfl)).1
        rw [Nat.zero_mod, Nat.zero_div]; exact this)
      have := i2 0 hpos
      omega
    have g := grid (U := U) (K := fun row col => Mc 112 (row * w + col) = -1) (L := L) (Tp := Tp) hw2 hh2 hwin (fun row col hr hc q => (hrim row col hr hc q).1) (by show Mc 112 (0 * w + 0) = -1; rw [Nat.zero_mul]; exact K0) (fun row col row' col' hr hc' hr' hc'' hk ha hu => by
      have h1 := ixlt row col hr hc'
      have h2 := ixlt row' col' hr' hc''
      obtain ⟨i, hi, hv⟩ := i4 _ h1 hk
      have hz := (hU row' col' hr' hc'').mpr hu
      have := hn i hi _ hv _ h2 (by
        rcases ha with ⟨a1, a2 | a2⟩ | ⟨a1, a2 | a2⟩
        · refine Or.inr (Or.inr (Or.inl ?_)); rw [a1, a2, Nat.add_mul, Nat.one_mul]; omega
        · refine Or.inr (Or.inr (Or.inr ?_)); rw [a1, a2, Nat.add_mul, Nat.one_mul]; omega
        · refine Or.inl ?_; rw [a1, a2]; omega
        · refine Or.inr (Or.inl ?_); rw [a1, a2]; omega)
      have := i2 _ h2
      show Mc 112 (row' * w + col') = -1
      omega) (fun row col hr hc' hk => by
      have := i6 _ (ixlt row col hr hc') hk
      rw [(ixdm row col hc').1, (ixdm row col hc').2] at this
      exact this)
    refine hP Mc i1 (fun row col hr hc' => ?_) (fun t ht => by have := i2 t ht; have := hb t ht; omega)
    have h1 := ixlt row col hr hc'
    have c2 := i2 _ h1
    have u := hU row col hr hc'
    constructor
    · intro z
      have hu := u.mp (by omega)
      refine ⟨hu, fun ho => ?_⟩
      have := (g row col hr hc' hu).mpr ho
      have this : Mc 112 (row * w + col) = -1 := this
      omega
    · intro ⟨hu, hno⟩
      have := u.mpr hu
      have nk : ¬ Mc 112 (row * w + col) = -1 := fun q => hno ((g row col hr hc' hu).mp q)
      omega
  have loop : ∀ f next : Nat, next + f = w * h → ∀ (known : Nat) (Mc : Mem), next ≤ known → FI U Mb Mc L Tp w h known → (∀ i, i < next → ∀ t : Nat, Mc 113 i = (t : Int) → ∀ t' : Nat, t' < w * h → (t' = t + 1 ∨ t = t' + 1 ∨ t' = t + w ∨ t = t' + w) → Mc 112 t' ≠ 0) → Mc 112 0 ≠ 0 → wp_Board_flood_9 Post (f + 1) known next Mc := by
    intro f
    induction f with
    | zero =>
      intro next hnx known Mc hk hI hn h00
      have f01 : ∀ t, t < w * h → (if Mc 112 t = -1 then (1 : Int) else 0) = 0 ∨ (if Mc 112 t = -1 then (1 : Int) else 0) = 1 := fun t _ => by split <;> decide
      have hkn : known ≤ w * h := by
        have := (two_ones (n := w * h) f01).1
        have := hI.2.2.2.2.1
        omega
      exact ⟨⟨by omega, by omega⟩, ⟨by omega, by omega⟩, fun _ => done known Mc hI (fun i hi => hn i (by omega)) h00, fun z => absurd (show (known : Int) ≤ next by omega) z⟩
    | succ f ih =>
      intro next hnx known Mc hk hI hn h00
      have f01 : ∀ t, t < w * h → (if Mc 112 t = -1 then (1 : Int) else 0) = 0 ∨ (if Mc 112 t = -1 then (1 : Int) else 0) = 1 := fun t _ => by split <;> decide
      have hkn : known ≤ w * h := by
        have := (two_ones (n := w * h) f01).1
        have := hI.2.2.2.2.1
        omega
      refine ⟨⟨by omega, by omega⟩, ⟨by omega, by omega⟩, fun z => done known Mc hI (fun i hi => hn i (by omega)) h00, fun z => ⟨⟨by omega, by omega⟩, fun z2 => absurd z2 (by omega), fun _ => ⟨⟨by omega, by omega⟩, fun v3 h3 => ?_⟩⟩⟩
      rw [Int.toNat_natCast] at h3
      obtain ⟨t, ht, ev, em⟩ := hI.2.2.1 next (by omega)
      rw [ev] at h3
      subst h3
      have ho := hI.2.2.2.2.2 t ht em
      have hwb : w ≤ 1936 := Nat.le_trans (Nat.le_mul_of_pos_right w (by omega)) hc
      have out : ∀ t' : Nat, t' < w * h → (t' = t + 1 ∨ t = t' + 1 ∨ t' = t + w ∨ t = t' + w) → Mb 112 t' = 0 → Out U (L + ((t' % w : Nat) : Int)) (Tp + ((t' / w : Nat) : Int)) := fun t' h1 h2 h3 => beside t t' ht h1 ho h2 h3
      refine reach_ok hc h5 hb hI ⟨by omega, by omega⟩ (fun t' e h1 h2 => out t' h1 (by omega) h2) (fun k1 M1 I1 r1 n1 => ?_)
      refine reach_ok hc h5 hb I1 ⟨by omega, by omega⟩ (fun t' e h1 h2 => out t' h1 (by omega) h2) (fun k2 M2 I2 r2 n2 => ?_)
      have e24 : M2 111 4 = (w : Int) := by rw [I2.1 111 (by decide) (by decide)]; exact h4
      rw [e24]
      refine reach_ok hc h5 hb I2 ⟨by omega, by omega⟩ (fun t' e h1 h2 => out t' h1 (by omega) h2) (fun k3 M3 I3 r3 n3 => ?_)
      have e34 : M3 111 4 = (w : Int) := by rw [I3.1 111 (by decide) (by decide)]; exact h4
      rw [e34]
      refine reach_ok hc h5 hb I3 ⟨by omega, by omega⟩ (fun t' e h1 h2 => out t' h1 (by omega) h2) (fun k4 M4 I4 r4 n4 v hv => ?_)
      rw [hv, show ((next : Nat) : Int) + 1 = ((next + 1 : Nat) : Int) by omega]
      have all := ((r1.trans r2).trans r3).trans r4
      refine ih (next + 1) (by omega) k4 M4 (by have := all.1; omega) I4 (fun i hi tt htt t' ht' hnb => ?_) (all.2.2 0 hpos h00)
      rw [all.2.1 i (by omega)] at htt
      by_cases zi : i = next
      · subst zi
        rw [ev] at htt
        have : tt = t := by omega
        subst this
        rcases hnb with q | q | q | q
        · exact r4.2.2 _ ht' (r3.2.2 _ ht' (r2.2.2 _ ht' (n1 t' (by omega) ht')))
        · exact r4.2.2 _ ht' (r3.2.2 _ ht' (n2 t' (by omega) ht'))
        · exact r4.2.2 _ ht' (n3 t' (by omega) ht')
        · exact n4 t' (by omega) ht'
      · exact all.2.2 t' ht' (hn i (by omega) tt htt t' ht' hnb)
  have I0 : FI U Mb Mb L Tp w h 0 := by
    have no : ∀ t, t < w * h → ¬ Mb 112 t = -1 := fun t ht q => by have := hb t ht; omega
    refine ⟨fun _ _ _ => rfl, fun _ _ => Or.inl rfl, fun i hi => absurd hi (by omega), fun t ht q => absurd q (no t ht), ?_, fun t ht q => absurd q (no t ht)⟩
    exact sm_zero (fun t ht => if_neg (no t ht))
  refine reach_ok (x := 0) (known := 0) hc h5 hb I0 (xl rfl) (fun t e h1 h2 => ?_) (fun k M1 I1 r1 n1 => ⟨w * h + 1, loop (w * h) 0 (by omega) k M1 (by omega) I1 (fun i hi => absurd hi (by omega)) (n1 0 rfl hpos)⟩)
  have : t = 0 := by omega
  subst this
  rw [Nat.zero_mod, Nat.zero_div]
  exact (hrim 0 0 (by omega) (by omega) (Or.inl rfl)).2
theorem enclosed_ok {Post : Int → Mem → Prop} {c : Nat} {Mc : Mem} {Mb : Mem} (h5 : Mb 111 5 = c) (hc : c ≤ 1936) (hfl : ∀ Post2 : Mem → Prop, Post2 Mc → wp_Board_flood Mb Post2) (hMc : Mc 111 = Mb 111) (hin : ∀ t, t < c → -1 ≤ Mc 112 t ∧ Mc 112 t ≤ 6) (hP : Post (sm (fun t => if Mc 112 t = 0 then (1 : Int) else 0) c) Mc) : wp_Board_enclosedCells Mb Post := by
  refine hfl _ ⟨c + 1, ?_⟩
  have loop : ∀ f t : Nat, t + f = c → wp_Board_enclosedCells_8 Post (f + 1) (sm (fun t => if Mc 112 t = 0 then (1 : Int) else 0) t) t Mc := by
    intro f
    induction f with
    | zero =>
      intro t ht
      refine ⟨⟨by omega, by omega⟩, by rw [hMc, h5]; exact ⟨by omega, by omega⟩, fun _ => ?_, fun z => absurd (show Mc 111 5 ≤ (t : Int) by rw [hMc, h5]; omega) z⟩
      rw [show t = c by omega]; exact hP
    | succ f ih =>
      intro t ht
      have it := hin t (by omega)
      refine ⟨⟨by omega, by omega⟩, by rw [hMc, h5]; exact ⟨by omega, by omega⟩, fun z => absurd z (by rw [hMc, h5]; omega), fun _ => ⟨⟨by omega, by omega⟩, ?_⟩⟩
      rw [Int.toNat_natCast]
      have e : sm (fun t => if Mc 112 t = 0 then (1 : Int) else 0) (t + 1) = sm (fun t => if Mc 112 t = 0 then (1 : Int) else 0) t + (if Mc 112 t = 0 then (1 : Int) else 0) := rfl
      refine ⟨⟨by omega, by omega⟩, fun z v hv => ?_, fun z v1 hv1 v2 hv2 => ?_⟩
      · rw [hv, show ((t : Nat) : Int) + 1 = ((t + 1 : Nat) : Int) by omega]
        have := ih (t + 1) (by omega)
        rw [e, if_neg z, Int.add_zero] at this
        exact this
      · rw [hv1, hv2, show ((t : Nat) : Int) + 1 = ((t + 1 : Nat) : Int) by omega]
        have := ih (t + 1) (by omega)
        rw [e, if_pos z] at this
        exact this
  exact loop c 0 (by omega)
end CF
