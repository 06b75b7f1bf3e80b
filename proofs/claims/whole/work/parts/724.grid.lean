/-! WHAT IS OUTSIDE -/
def adj (x y x' y' : Int) : Prop := (x' = x ∧ (y' = y + 1 ∨ y' = y - 1)) ∨ (y' = y ∧ (x' = x + 1 ∨ x' = x - 1))
/-- a cell from which one comes out without crossing a sherd -/
def Out (U : Int → Int → Prop) (x y : Int) : Prop := ∀ S : Int → Int → Prop, (∀ x y, (x < -500 ∨ 500 < x ∨ y < -500 ∨ 500 < y) → S x y) → (∀ x y x' y', S x y → U x' y' → adj x y x' y' → S x' y') → S x y
theorem Out.far {U : Int → Int → Prop} {x y : Int} (h : x < -500 ∨ 500 < x ∨ y < -500 ∨ 500 < y) : Out U x y := fun S h1 _ => h1 x y h
theorem Out.step {U : Int → Int → Prop} {x y x' y' : Int} (h : Out U x y) (hu : U x' y') (ha : adj x y x' y') : Out U x' y' := fun S h1 h2 => h2 x y x' y' (h S h1 h2) hu ha
section Grid
variable {U : Int → Int → Prop} {lo hi ul uh : Int}
theorem out_beyond (hU : ∀ x y, ¬ ((lo ≤ x ∧ x < hi) ∧ ul ≤ y ∧ y < uh) → U x y) {x y : Int} (h : ¬ ((lo ≤ x ∧ x < hi) ∧ ul ≤ y ∧ y < uh)) : Out U x y := by
  have left : ∀ (m : Nat) (y : Int), -501 + (m : Int) < lo → Out U (-501 + (m : Int)) y := by
    intro m
    induction m with
    | zero => intro y _; exact Out.far (by omega)
    | succ m ih =>
      intro y hm
      exact (ih y (by omega)).step (hU _ _ (by omega)) (Or.inr ⟨rfl, Or.inl (by omega)⟩)
  have right : ∀ (m : Nat) (y : Int), hi ≤ 501 - (m : Int) → Out U (501 - (m : Int)) y := by
    intro m
    induction m with
    | zero => intro y _; exact Out.far (by omega)
    | succ m ih =>
      intro y hm
      exact (ih y (by omega)).step (hU _ _ (by omega)) (Or.inr ⟨rfl, Or.inr (by omega)⟩)
  have top : ∀ (m : Nat) (x : Int), -501 + (m : Int) < ul → Out U x (-501 + (m : Int)) := by
    intro m
    induction m with
    | zero => intro x _; exact Out.far (by omega)
    | succ m ih =>
      intro x hm
      exact (ih x (by omega)).step (hU _ _ (by omega)) (Or.inl ⟨rfl, Or.inl (by omega)⟩)
  have bot : ∀ (m : Nat) (x : Int), uh ≤ 501 - (m : Int) → Out U x (501 - (m : Int)) := by
    intro m
    induction m with
    | zero => intro x _; exact Out.far (by omega)
    | succ m ih =>
      intro x hm
      exact (ih x (by omega)).step (hU _ _ (by omega)) (Or.inl ⟨rfl, Or.inr (by omega)⟩)
  by_cases q : x < -500 ∨ 500 < x ∨ y < -500 ∨ 500 < y
  · exact Out.far q
  · by_cases q1 : x < lo
    · have := left (x + 501).toNat y (by omega)
      rw [show -501 + ((x + 501).toNat : Int) = x by omega] at this
      exact this
    · by_cases q2 : hi ≤ x
      · have := right (501 - x).toNat y (by omega)
        rw [show 501 - ((501 - x).toNat : Int) = x by omega] at this
        exact this
      · by_cases q3 : y < ul
        · have := top (y + 501).toNat x (by omega)
          rw [show -501 + ((y + 501).toNat : Int) = y by omega] at this
          exact this
        · have := bot (501 - y).toNat x (by omega)
          rw [show 501 - ((501 - y).toNat : Int) = y by omega] at this
          exact this
def adjN (r c r' c' : Nat) : Prop := (c' = c ∧ (r' = r + 1 ∨ r = r' + 1)) ∨ (r' = r ∧ (c' = c + 1 ∨ c = c' + 1))
/-- a window whose rim is free: what is marked there, from its first cell on, is what is outside -/
theorem grid {K : Nat → Nat → Prop} {L Tp : Int} {w h : Nat} (hw : 2 ≤ w) (hh : 2 ≤ h) (hb : -400 ≤ L ∧ L + w ≤ 400 ∧ -400 ≤ Tp ∧ Tp + h ≤ 400) (hrim : ∀ row col : Nat, row < h → col < w → (row = 0 ∨ row + 1 = h ∨ col = 0 ∨ col + 1 = w) → U (L + col) (Tp + row)) (h0 : K 0 0) (hcl : ∀ row col row' col' : Nat, row < h → col < w → row' < h → col' < w → K row col → adjN row col row' col' → U (L + col') (Tp + row') → K row' col') (hs : ∀ row col : Nat, row < h → col < w → K row col → Out U (L + col) (Tp + row)) :
    ∀ row col : Nat, row < h → col < w → U (L + col) (Tp + row) → (K row col ↔ Out U (L + col) (Tp + row)) := by
  have t1 : ∀ col, col < w → K 0 col := by
    intro col
    induction col with
    | zero => intro _; exact h0
    | succ c ih => intro hc; exact hcl 0 c 0 (c + 1) (by omega) (by omega) (by omega) hc (ih (by omega)) (Or.inr ⟨rfl, Or.inl rfl⟩) (hrim 0 (c + 1) (by omega) hc (Or.inl rfl))
  have t2 : ∀ row, row < h → K row 0 := by
    intro row
    induction row with
    | zero => intro _; exact h0
    | succ r ih => intro hr; exact hcl r 0 (r + 1) 0 (by omega) (by omega) hr (by omega) (ih (by omega)) (Or.inl ⟨rfl, Or.inl rfl⟩) (hrim (r + 1) 0 hr (by omega) (by omega))
  have t3 : ∀ row, row < h → K row (w - 1) := by
    intro row
    induction row with
    | zero => intro _; exact t1 (w - 1) (by omega)
    | succ r ih => intro hr; exact hcl r (w - 1) (r + 1) (w - 1) (by omega) (by omega) hr (by omega) (ih (by omega)) (Or.inl ⟨rfl, Or.inl rfl⟩) (hrim (r + 1) (w - 1) hr (by omega) (by omega))
  have t4 : ∀ col, col < w → K (h - 1) col := by
    intro col
    induction col with
    | zero => intro _; exact t2 (h - 1) (by omega)
    | succ c ih => intro hc; exact hcl (h - 1) c (h - 1) (c + 1) (by omega) (by omega) (by omega) hc (ih (by omega)) (Or.inr ⟨rfl, Or.inl rfl⟩) (hrim (h - 1) (c + 1) (by omega) hc (by omega))
  have rim : ∀ row col, row < h → col < w → (row = 0 ∨ row + 1 = h ∨ col = 0 ∨ col + 1 = w) → K row col := by
    intro row col hr hc q
    rcases q with q | q | q | q
    · rw [q]; exact t1 col hc
    · rw [show row = h - 1 by omega]; exact t4 col hc
    · rw [q]; exact t2 row hr
    · rw [show col = w - 1 by omega]; exact t3 row hr
  intro row col hr hc hu
  refine ⟨fun hk => hs row col hr hc hk, fun ho => ?_⟩
  have key := ho (fun x y => ∀ row col : Nat, row < h → col < w → x = L + col → y = Tp + row → K row col) (fun x y q row col hr hc ex ey => by omega) (fun x y x' y' hS hu' ha row' col' hr' hc' ex ey => by
    by_cases q : row' = 0 ∨ row' + 1 = h ∨ col' = 0 ∨ col' + 1 = w
    · exact rim row' col' hr' hc' q
    · subst ex; subst ey
      rcases ha with ⟨a1, a2 | a2⟩ | ⟨a1, a2 | a2⟩
      · exact hcl (row' - 1) col' row' col' (by omega) hc' hr' hc' (hS (row' - 1) col' (by omega) hc' (by omega) (by omega)) (Or.inl ⟨rfl, Or.inl (by omega)⟩) hu'
      · exact hcl (row' + 1) col' row' col' (by omega) hc' hr' hc' (hS (row' + 1) col' (by omega) hc' (by omega) (by omega)) (Or.inl ⟨rfl, Or.inr (by omega)⟩) hu'
      · exact hcl row' (col' - 1) row' col' hr' (by omega) hr' hc' (hS row' (col' - 1) hr' (by omega) (by omega) (by omega)) (Or.inr ⟨rfl, Or.inl (by omega)⟩) hu'
      · exact hcl row' (col' + 1) row' col' hr' (by omega) hr' hc' (hS row' (col' + 1) hr' (by omega) (by omega) (by omega)) (Or.inr ⟨rfl, Or.inr (by omega)⟩) hu')
  exact key row col hr hc rfl rfl
noncomputable def ind (p : Prop) : Int := @ite Int p (Classical.propDecidable p) 1 0
theorem ind_pos {p : Prop} (h : p) : ind p = 1 := by unfold ind; rw [if_pos h]
theorem ind_neg {p : Prop} (h : ¬ p) : ind p = 0 := by unfold ind; rw [if_neg h]
theorem ind_congr {p q : Prop} (h : p ↔ q) : ind p = ind q := by
  by_cases hp : p
  · rw [ind_pos hp, ind_pos (h.mp hp)]
  · rw [ind_neg hp, ind_neg (fun z => hp (h.mpr z))]
theorem sm_win {f : Int → Int} {L a b : Int} {w : Nat} (h1 : L ≤ a) (h2 : a ≤ b) (h3 : b ≤ L + w) (hz : ∀ x, ¬ (a ≤ x ∧ x < b) → f x = 0) : sm (fun r => f (L + r)) w = sm (fun r => f (a + r)) (b - a).toNat := by
  have e : w = (a - L).toNat + ((b - a).toNat + (L + w - b).toNat) := by omega
  rw [e, sm_app, sm_app]
  have z1 : sm (fun r => f (L + r)) (a - L).toNat = 0 := sm_zero (fun k hk => hz _ (by omega))
  have z2 : sm (fun k => f (L + (((a - L).toNat + ((b - a).toNat + k) : Nat) : Int))) (L + w - b).toNat = 0 := sm_zero (fun k hk => hz _ (by omega))
  have z3 : sm (fun k => f (L + (((a - L).toNat + k : Nat) : Int))) (b - a).toNat = sm (fun r => f (a + r)) (b - a).toNat := sm_congr (fun k hk => by congr 1; omega)
  rw [z1, z3, z2]
  omega
theorem sum_win {e : Int → Int → Int} {L Tp a b u d : Int} {w h : Nat} (x1 : L ≤ a) (x2 : a ≤ b) (x3 : b ≤ L + w) (y1 : Tp ≤ u) (y2 : u ≤ d) (y3 : d ≤ Tp + h) (hz : ∀ x y, ¬ ((a ≤ x ∧ x < b) ∧ u ≤ y ∧ y < d) → e x y = 0) : sm (fun q => sm (fun r => e (L + r) (Tp + q)) w) h = sm (fun q => sm (fun r => e (a + r) (u + q)) (b - a).toNat) (d - u).toNat := by
  have e1 : sm (fun q => sm (fun r => e (L + r) (Tp + q)) w) h = sm (fun q => (fun y => sm (fun r => e (a + r) y) (b - a).toNat) (Tp + q)) h := sm_congr (fun q _ => sm_win (f := fun x => e x (Tp + q)) x1 x2 x3 (fun x hx => hz x _ (fun z => hx z.1)))
  rw [e1]
  exact sm_win (f := fun y => sm (fun r => e (a + r) y) (b - a).toNat) y1 y2 y3 (fun y hy => sm_zero (fun r _ => hz _ _ (fun z => hy z.2)))
end Grid
