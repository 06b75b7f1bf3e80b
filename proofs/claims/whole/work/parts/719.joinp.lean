/-! A TREE IS MOVED -/
theorem rot_add (q x y x' y' : Int) : rotX q (x + x') (y + y') = rotX q x y + rotX q x' y' ∧ rotY q (x + x') (y + y') = rotY q x y + rotY q x' y' := by
  unfold rotX rotY
  constructor <;> (repeat' split) <;> omega
theorem rot_sub (q x y x' y' : Int) : rotX q (x - x') (y - y') = rotX q x y - rotX q x' y' ∧ rotY q (x - x') (y - y') = rotY q x y - rotY q x' y' := by
  unfold rotX rotY
  constructor <;> (repeat' split) <;> omega
theorem rot_comp {q t : Int} (hq : 0 ≤ q ∧ q ≤ 3) (ht : 0 ≤ t ∧ t ≤ 3) (x y : Int) : rotX ((q + t) % 4) x y = rotX t (rotX q x y) (rotY q x y) ∧ rotY ((q + t) % 4) x y = rotY t (rotX q x y) (rotY q x y) := by
  rcases (show q = 0 ∨ q = 1 ∨ q = 2 ∨ q = 3 by omega) with z | z | z | z <;> subst z <;> rcases (show t = 0 ∨ t = 1 ∨ t = 2 ∨ t = 3 by omega) with z | z | z | z <;> subst z <;> refine ⟨?_, ?_⟩ <;> simp [rotX, rotY]
theorem rot_box {t : Int} (ht : 0 ≤ t ∧ t ≤ 3) (l r u d sx sy : Int) : ∃ l' r' u' d' : Int, (r' - l') + (d' - u') = (r - l) + (d - u) ∧ ∀ x y : Int, l ≤ x → x ≤ r → u ≤ y → y ≤ d → l' ≤ rotX t x y + sx ∧ rotX t x y + sx ≤ r' ∧ u' ≤ rotY t x y + sy ∧ rotY t x y + sy ≤ d' := by
  rcases (show t = 0 ∨ t = 1 ∨ t = 2 ∨ t = 3 by omega) with z | z | z | z <;> subst z
  · refine ⟨l + sx, r + sx, u + sy, d + sy, by omega, fun x y a b c e => ?_⟩
    show l + sx ≤ x + sx ∧ x + sx ≤ r + sx ∧ u + sy ≤ y + sy ∧ y + sy ≤ d + sy
    omega
  · refine ⟨-d + sx, -u + sx, l + sy, r + sy, by omega, fun x y a b c e => ?_⟩
    show -d + sx ≤ -y + sx ∧ -y + sx ≤ -u + sx ∧ l + sy ≤ x + sy ∧ x + sy ≤ r + sy
    omega
  · refine ⟨-r + sx, -l + sx, -d + sy, -u + sy, by omega, fun x y a b c e => ?_⟩
    show -r + sx ≤ -x + sx ∧ -x + sx ≤ -l + sx ∧ -d + sy ≤ -y + sy ∧ -y + sy ≤ -u + sy
    omega
  · refine ⟨u + sx, d + sx, -r + sy, -l + sy, by omega, fun x y a b c e => ?_⟩
    show u + sx ≤ y + sx ∧ y + sx ≤ d + sx ∧ -r + sy ≤ -x + sy ∧ -x + sy ≤ -l + sy
    omega
/-- the layout behind a join: b's tree turned and shifted, both trees one -/
def newP (P : Nat → Int) (ta tb t sx sy : Int) : Nat → Int := fun i =>
  if i % 4 = 0 then (if P (4 * (i / 4) + 3) = tb then rotX t (P (4 * (i / 4))) (P (4 * (i / 4) + 1)) + sx else P (4 * (i / 4)))
  else if i % 4 = 1 then (if P (4 * (i / 4) + 3) = tb then rotY t (P (4 * (i / 4))) (P (4 * (i / 4) + 1)) + sy else P (4 * (i / 4) + 1))
  else if i % 4 = 2 then (if P (4 * (i / 4) + 3) = tb then (P (4 * (i / 4) + 2) + t) % 4 else P (4 * (i / 4) + 2))
  else (if P (4 * (i / 4) + 3) = ta ∨ P (4 * (i / 4) + 3) = tb then min ta tb else P (4 * (i / 4) + 3))
section NP
variable {P : Nat → Int} {ta tb t sx sy : Int}
theorem newP_0 (s : Nat) : newP P ta tb t sx sy (4 * s) = if P (4 * s + 3) = tb then rotX t (P (4 * s)) (P (4 * s + 1)) + sx else P (4 * s) := by
  unfold newP
  rw [if_pos (by omega), show 4 * s / 4 = s by omega]
theorem newP_1 (s : Nat) : newP P ta tb t sx sy (4 * s + 1) = if P (4 * s + 3) = tb then rotY t (P (4 * s)) (P (4 * s + 1)) + sy else P (4 * s + 1) := by
  unfold newP
  rw [if_neg (by omega), if_pos (by omega), show (4 * s + 1) / 4 = s by omega]
theorem newP_2 (s : Nat) : newP P ta tb t sx sy (4 * s + 2) = if P (4 * s + 3) = tb then (P (4 * s + 2) + t) % 4 else P (4 * s + 2) := by
  unfold newP
  rw [if_neg (by omega), if_neg (by omega), if_pos (by omega), show (4 * s + 2) / 4 = s by omega]
theorem newP_3 (s : Nat) : newP P ta tb t sx sy (4 * s + 3) = if P (4 * s + 3) = ta ∨ P (4 * s + 3) = tb then min ta tb else P (4 * s + 3) := by
  unfold newP
  rw [if_neg (by omega), if_neg (by omega), if_neg (by omega), show (4 * s + 3) / 4 = s by omega]
end NP
theorem LayOK.kin {clo siz : Nat → Int} {cx cy : Nat → Nat → Int} {P : Nat → Int} {J : Int} (h : LayOK clo siz cx cy P J) {s t : Nat} (hs : s < 6) (ht : t < 6) (hc : clo s = 1) (e : P (4 * t + 3) = P (4 * s + 3)) : clo t = 1 := by
  obtain ⟨a, -, -⟩ := h
  by_cases z : P (4 * t + 3) = t
  · by_cases z2 : P (4 * s + 3) = s
    · have : t = s := by omega
      rw [this]; exact hc
    · have := ((a s hs).2.2.1 z2).2
      rw [show (P (4 * s + 3)).toNat = t by omega] at this
      exact this
  · exact ((a t ht).2.2.1 z).1
theorem sm_drop {f f' : Nat → Int} {m s : Nat} (hs : s < m) (h0 : f s = 1) (h1 : f' s = 0) (ho : ∀ t, t < m → t ≠ s → f' t = f t) : sm f' m = sm f m - 1 := by
  have e : sm f' m = sm (fun k => f k - (if k = s then 1 else 0)) m := sm_congr (fun k hk => by
    by_cases z : k = s
    · subst z; rw [if_pos rfl, h1, h0]; rfl
    · rw [if_neg z, ho k hk z]; omega)
  rw [e, sm_sub, sm_one (i := s) hs (fun k _ z => if_neg z), if_pos rfl]
theorem LayOK.join {clo siz : Nat → Int} {cx cy : Nat → Nat → Int} {P : Nat → Int} {J : Int} (h : LayOK clo siz cx cy P J) {a b ka kb : Nat} {t sx sy : Int} (ha : a < 6) (hb : b < 6) (ca : clo a = 1) (cb : clo b = 1) (hab : P (4 * a + 3) ≠ P (4 * b + 3)) (ht : 0 ≤ t ∧ t ≤ 3) (hka : ka ≤ (siz a).toNat) (hkb : kb ≤ (siz b).toNat)
    (tx : rotX t (P (4 * b) + rotX (P (4 * b + 2)) (cx b kb) (cy b kb)) (P (4 * b + 1) + rotY (P (4 * b + 2)) (cx b kb) (cy b kb)) + sx = P (4 * a) + rotX (P (4 * a + 2)) (cx a ka) (cy a ka)) (ty : rotY t (P (4 * b) + rotX (P (4 * b + 2)) (cx b kb) (cy b kb)) (P (4 * b + 1) + rotY (P (4 * b + 2)) (cx b kb) (cy b kb)) + sy = P (4 * a + 1) + rotY (P (4 * a + 2)) (cx a ka) (cy a ka)) :
    LayOK clo siz cx cy (newP P (P (4 * a + 3)) (P (4 * b + 3)) t sx sy) (J + 1) ∧ J ≤ 4 := by
  obtain ⟨p1, p2, p3⟩ := id h
  obtain ⟨ta, eta⟩ : ∃ ta : Nat, P (4 * a + 3) = ta := ⟨(P (4 * a + 3)).toNat, by have := (p1 a ha).2.1; omega⟩
  obtain ⟨tb, etb⟩ : ∃ tb : Nat, P (4 * b + 3) = tb := ⟨(P (4 * b + 3)).toNat, by have := (p1 b hb).2.1; omega⟩
  have ta6 : ta < 6 := by have := (p1 a ha).2.1; omega
  have tb6 : tb < 6 := by have := (p1 b hb).2.1; omega
  have rta : P (4 * ta + 3) = ta := by have := (p1 a ha).2.1.2.2; rw [eta, Int.toNat_natCast] at this; exact this
  have rtb : P (4 * tb + 3) = tb := by have := (p1 b hb).2.1.2.2; rw [etb, Int.toNat_natCast] at this; exact this
  have kina : ∀ s, s < 6 → P (4 * s + 3) = ta → clo s = 1 := fun s hs e => h.kin ha hs ca (by rw [e, eta])
  have kinb : ∀ s, s < 6 → P (4 * s + 3) = tb → clo s = 1 := fun s hs e => h.kin hb hs cb (by rw [e, etb])
  rw [eta, etb] at hab ⊢
  have hne : ta ≠ tb := fun z => hab (by rw [z])
  obtain ⟨low, elow⟩ : ∃ low : Nat, min (ta : Int) (tb : Int) = low := ⟨min ta tb, by omega⟩
  have l01 : (low = ta ∧ ta < tb) ∨ (low = tb ∧ tb < ta) := by omega
  have n3 : ∀ s, newP P ta tb t sx sy (4 * s + 3) = if P (4 * s + 3) = ta ∨ P (4 * s + 3) = tb then (low : Int) else P (4 * s + 3) := fun s => by rw [newP_3, elow]
  refine ⟨⟨fun s hs => ?_, fun T T0 T1 => ?_, ?_⟩, ?_⟩
  · obtain ⟨a1, a2, a3, a4⟩ := p1 s hs
    rw [newP_0, newP_1, newP_2, n3]
    by_cases zb : P (4 * s + 3) = tb
    · rw [if_pos zb, if_pos zb, if_pos zb, if_pos (Or.inr zb), Int.toNat_natCast]
      have cs := kinb s hs zb
      have clow : clo low = 1 := by
        rcases l01 with ⟨q, _⟩ | ⟨q, _⟩
        · rw [q]; exact kina ta ta6 rta
        · rw [q]; exact kinb tb tb6 rtb
      refine ⟨⟨by omega, by omega⟩, ⟨by omega, by omega, ?_⟩, fun _ => ⟨cs, clow⟩, fun q => by omega⟩
      rw [n3]
      rcases l01 with ⟨q, _⟩ | ⟨q, _⟩
      · rw [q, if_pos (Or.inl rta)]
      · rw [q, if_pos (Or.inr rtb)]
    · rw [if_neg zb, if_neg zb, if_neg zb]
      by_cases za : P (4 * s + 3) = ta
      · rw [if_pos (Or.inl za), Int.toNat_natCast]
        have cs := kina s hs za
        have clow : clo low = 1 := by
          rcases l01 with ⟨q, _⟩ | ⟨q, _⟩
          · rw [q]; exact kina ta ta6 rta
          · rw [q]; exact kinb tb tb6 rtb
        refine ⟨a1, ⟨by omega, by omega, ?_⟩, fun _ => ⟨cs, clow⟩, fun q => by omega⟩
        rw [n3]
        rcases l01 with ⟨q, _⟩ | ⟨q, _⟩
        · rw [q, if_pos (Or.inl rta)]
        · rw [q, if_pos (Or.inr rtb)]
      · rw [if_neg (by omega)]
        refine ⟨a1, ⟨a2.1, a2.2.1, ?_⟩, a3, a4⟩
        rw [n3, a2.2.2, if_neg (by omega)]
  · have mem : ∀ s, newP P ta tb t sx sy (4 * s + 3) = T ↔ (P (4 * s + 3) = T ∧ T ≠ ta ∧ T ≠ tb) ∨ ((P (4 * s + 3) = ta ∨ P (4 * s + 3) = tb) ∧ T = low) := by
      intro s
      rw [n3]
      by_cases z : P (4 * s + 3) = ta ∨ P (4 * s + 3) = tb
      · rw [if_pos z]; omega
      · rw [if_neg z]; omega
    by_cases zT : T = low
    · subst zT
      obtain ⟨l, r, u, d, b1, b2, b3⟩ := p2 ta (by omega) (by omega)
      obtain ⟨l2, r2, u2, d2, c1, c2, c3⟩ := p2 tb (by omega) (by omega)
      obtain ⟨l3, r3, u3, d3, e1, e2⟩ := rot_box ht l2 r2 u2 d2 sx sy
      have pa := (b3 a ha eta).2 ca ka hka
      have pb := (c3 b hb etb).2 cb kb hkb
      have pb' := e2 _ _ pb.1 pb.2.1 pb.2.2.1 pb.2.2.2
      rw [tx, ty] at pb'
      have hcard : card (newP P ta tb t sx sy) low = card P ta + card P tb := by
        unfold card
        rw [← sm_add]
        refine sm_congr (fun s hs => ?_)
        have hm := mem s
        by_cases z1 : P (4 * s + 3) = ta
        · rw [if_pos (hm.mpr (Or.inr ⟨Or.inl z1, rfl⟩)), if_pos z1, if_neg (by omega)]; rfl
        · by_cases z2 : P (4 * s + 3) = tb
          · rw [if_pos (hm.mpr (Or.inr ⟨Or.inr z2, rfl⟩)), if_neg z1, if_pos z2]; rfl
          · rw [if_neg (fun q => by have := hm.mp q; omega), if_neg z1, if_neg z2]; rfl
      refine ⟨min l l3, max r r3, min u u3, max d d3, ⟨by omega, by omega, by omega, by omega⟩, by rw [hcard]; omega, fun s hs hm => ?_⟩
      rw [newP_0, newP_1, newP_2]
      by_cases z2 : P (4 * s + 3) = tb
      · rw [if_pos z2, if_pos z2, if_pos z2]
        obtain ⟨g1, g2⟩ := c3 s hs z2
        have q1 := e2 _ _ g1.1 g1.2.1 g1.2.2.1 g1.2.2.2
        refine ⟨⟨by omega, by omega, by omega, by omega⟩, fun hc k hk => ?_⟩
        have g3 := g2 hc k hk
        have q2 := e2 _ _ g3.1 g3.2.1 g3.2.2.1 g3.2.2.2
        have rc := rot_comp (p1 s hs).1 ht (cx s k) (cy s k)
        have ra := rot_add t (P (4 * s)) (P (4 * s + 1)) (rotX (P (4 * s + 2)) (cx s k) (cy s k)) (rotY (P (4 * s + 2)) (cx s k) (cy s k))
        rw [rc.1, rc.2]
        rw [ra.1, ra.2] at q2
        exact ⟨by omega, by omega, by omega, by omega⟩
      · have z1 : P (4 * s + 3) = ta := by have := (mem s).mp hm; omega
        rw [if_neg z2, if_neg z2, if_neg z2]
        obtain ⟨g1, g2⟩ := b3 s hs z1
        refine ⟨⟨by omega, by omega, by omega, by omega⟩, fun hc k hk => ?_⟩
        have g3 := g2 hc k hk
        exact ⟨by omega, by omega, by omega, by omega⟩
    · by_cases zT2 : T = ta ∨ T = tb
      · refine ⟨0, 0, 0, 0, ⟨by decide, by decide, by decide, by decide⟩, ?_, fun s hs hm => ?_⟩
        · have : 0 ≤ card (newP P ta tb t sx sy) T := sm_nonneg (fun k hk => by split <;> decide)
          omega
        · have := (mem s).mp hm
          omega
      · obtain ⟨l, r, u, d, b1, b2, b3⟩ := p2 T T0 T1
        have hcard : card (newP P ta tb t sx sy) T = card P T := by
          unfold card
          refine sm_congr (fun s hs => ?_)
          have hm := mem s
          by_cases z : P (4 * s + 3) = T
          · rw [if_pos z, if_pos (hm.mpr (Or.inl ⟨z, by omega, by omega⟩))]
          · rw [if_neg z, if_neg (fun q => by have := hm.mp q; omega)]
        refine ⟨l, r, u, d, b1, by rw [hcard]; exact b2, fun s hs hm => ?_⟩
        have hm2 : P (4 * s + 3) = T := by have := (mem s).mp hm; omega
        rw [newP_0, newP_1, newP_2, if_neg (by omega), if_neg (by omega), if_neg (by omega)]
        exact b3 s hs hm2
  · obtain ⟨los, elos⟩ : ∃ los : Nat, los < 6 ∧ los ≠ low ∧ (los = ta ∨ los = tb) := by
      rcases l01 with ⟨q, q2⟩ | ⟨q, q2⟩
      · exact ⟨tb, tb6, by omega, Or.inr rfl⟩
      · exact ⟨ta, ta6, by omega, Or.inl rfl⟩
    have hlr : P (4 * los + 3) = los := by
      rcases elos.2.2 with q | q
      · rw [q]; exact rta
      · rw [q]; exact rtb
    have := sm_drop (f := fun s => if P (4 * s + 3) = (s : Int) then (1 : Int) else 0) (f' := fun s => if newP P ta tb t sx sy (4 * s + 3) = (s : Int) then (1 : Int) else 0) elos.1 (if_pos hlr) (by
      show (if newP P ta tb t sx sy (4 * los + 3) = (los : Int) then (1 : Int) else 0) = 0
      have e : newP P ta tb t sx sy (4 * los + 3) = low := by rw [n3]; exact if_pos (by omega)
      rw [e, if_neg (by omega)]) (fun s hs hne' => by
      show (if newP P ta tb t sx sy (4 * s + 3) = (s : Int) then (1 : Int) else 0) = (if P (4 * s + 3) = (s : Int) then (1 : Int) else 0)
      rw [n3]
      by_cases z : P (4 * s + 3) = ta ∨ P (4 * s + 3) = tb
      · rw [if_pos z]
        by_cases z2 : s = low
        · rw [if_pos (by omega), if_pos]
          rcases l01 with ⟨q, _⟩ | ⟨q, _⟩
          · rw [z2, q]; exact rta
          · rw [z2, q]; exact rtb
        · rw [if_neg (by omega), if_neg]
          intro q
          omega
      · rw [if_neg z])
    rw [this, p3]
    omega
  · have f01 : ∀ s, s < 6 → (if P (4 * s + 3) = (s : Int) then (1 : Int) else 0) = 0 ∨ (if P (4 * s + 3) = (s : Int) then (1 : Int) else 0) = 1 := fun s _ => by split <;> decide
    have two := (two_ones (n := 6) f01).2.2.mpr (by
      rcases l01 with ⟨q, q2⟩ | ⟨q, q2⟩
      · exact ⟨tb, ta, q2, tb6, if_pos rtb, if_pos rta⟩
      · exact ⟨ta, tb, q2, ta6, if_pos rta, if_pos rtb⟩)
    rw [p3] at two
    omega
