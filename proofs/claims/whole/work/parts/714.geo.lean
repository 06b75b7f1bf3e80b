/-! TURNED AND MOVED EDGES -/
section Geo
variable {n : Nat} {d cx cy : Nat → Int}
theorem wn_congr {d' cx' cy' : Nat → Int} (h : ∀ k, k < n → d' k = d k ∧ cx' k = cx k ∧ cy' k = cy k) (x y : Int) : wn n d' cx' cy' x y = wn n d cx cy x y := by
  refine sm_congr (fun k hk => ?_)
  obtain ⟨h1, h2, h3⟩ := h k hk
  unfold wd
  rw [h1, h2, h3]
theorem Poly.congr {d' cx' cy' : Nat → Int} (h : Poly n d cx cy) (h1 : ∀ k, k < n → d' k = d k) (h2 : ∀ k, k ≤ n → cx' k = cx k ∧ cy' k = cy k) : Poly n d' cx' cy' := by
  obtain ⟨a, b, c⟩ := h
  refine ⟨by rw [(h2 0 (by omega)).1]; exact a, by rw [(h2 0 (by omega)).2]; exact b, fun k hk => ?_⟩
  rw [h1 k hk, (h2 k (by omega)).1, (h2 k (by omega)).2, (h2 (k + 1) (by omega)).1, (h2 (k + 1) (by omega)).2]
  exact c k hk
theorem wn_tr (X Y x y : Int) : wn n d (fun k => X + cx k) (fun k => Y + cy k) x y = wn n d cx cy (x - X) (y - Y) := by
  refine sm_congr (fun k _ => ?_)
  simp only [wd]
  (repeat' split) <;> omega
/-- a quarter turn -/
theorem Poly.rot (h : Poly n d cx cy) : Poly n (fun k => (d k + 1) % 4) (fun k => -cy k) (fun k => cx k) := by
  refine ⟨by show -cy 0 = 0; have := h.2.1; omega, h.1, fun k hk => ?_⟩
  dsimp only
  unfold stX stY
  rcases d_cases h hk with ⟨q, a, b⟩ | ⟨q, a, b⟩ | ⟨q, a, b⟩ | ⟨q, a, b⟩ <;> rw [q, a, b] <;> refine ⟨by decide, ?_, ?_⟩ <;> simp <;> omega
theorem wn_high (y : Int) (hy : ∀ k, k ≤ n → cy k < y) (h : Poly n d cx cy) (x : Int) : wn n d cx cy x y = 0 := by
  refine sm_zero (fun k hk => ?_)
  have h1 := hy k (by omega)
  unfold wd
  by_cases h3 : d k = 3
  · rw [if_pos h3, if_neg (by omega)]
  · rw [if_neg h3]
    by_cases h4 : d k = 1
    · rw [if_pos h4, if_neg (by omega)]
    · rw [if_neg h4]
theorem wn_rot1 (h : Poly n d cx cy) (ho : cx n = 0 ∧ cy n = 0) (x y : Int) : wn n (fun k => (d k + 1) % 4) (fun k => -cy k) (fun k => cx k) (-y - 1) x = wn n d cx cy x y := by
  have hlow := @cx_low n d cx cy h
  have step : ∀ y : Int, wn n (fun k => (d k + 1) % 4) (fun k => -cy k) (fun k => cx k) (-y - 1) x - wn n (fun k => (d k + 1) % 4) (fun k => -cy k) (fun k => cx k) (-(y - 1) - 1) x = sm (fw d cx cy 0 x y) n - sm (tw d cx cy 2 x y) n := by
    intro y
    unfold wn
    rw [← sm_sub, ← sm_sub]
    refine sm_congr (fun k hk => ?_)
    simp only [wd, fw, tw]
    rcases d_cases h hk with ⟨q, a, b⟩ | ⟨q, a, b⟩ | ⟨q, a, b⟩ | ⟨q, a, b⟩ <;> (repeat' split) <;> omega
  have top : ∀ y : Int, (n : Int) < y → wn n (fun k => (d k + 1) % 4) (fun k => -cy k) (fun k => cx k) (-y - 1) x = wn n d cx cy x y := by
    intro y hy
    rw [wn_high y (fun k hk => by have := hlow hk; omega) h x]
    refine sm_zero (fun k hk => ?_)
    have := hlow (Nat.le_of_lt hk)
    unfold wd
    dsimp only
    by_cases h3 : (d k + 1) % 4 = 3
    · rw [if_pos h3, if_neg (by omega)]
    · rw [if_neg h3]
      by_cases h4 : (d k + 1) % 4 = 1
      · rw [if_pos h4, if_neg (by omega)]
      · rw [if_neg h4]
  have down : ∀ m : Nat, wn n (fun k => (d k + 1) % 4) (fun k => -cy k) (fun k => cx k) (-((n : Int) + 1 - m) - 1) x = wn n d cx cy x ((n : Int) + 1 - m) := by
    intro m
    induction m with
    | zero => exact top _ (by omega)
    | succ m ih =>
      have s1 := step ((n : Int) + 1 - m)
      have s2 := wn_ver h ho x ((n : Int) + 1 - m)
      have e : (n : Int) + 1 - m - 1 = (n : Int) + 1 - ((m + 1 : Nat) : Int) := by omega
      rw [e] at s1 s2
      omega
  by_cases hy : (n : Int) < y
  · exact top y hy
  · have := down ((n : Int) + 1 - y).toNat
    rw [show (n : Int) + 1 - (((n : Int) + 1 - y).toNat : Int) = y by omega] at this
    exact this
def crX (q x y : Int) : Int := if q = 0 then x else if q = 1 then -y - 1 else if q = 2 then -x - 1 else y
def crY (q x y : Int) : Int := if q = 0 then y else if q = 1 then x else if q = 2 then -y - 1 else -x - 1
theorem Poly.rotq (h : Poly n d cx cy) {q : Int} (hq : 0 ≤ q ∧ q ≤ 3) : Poly n (fun k => (d k + q) % 4) (fun k => rotX q (cx k) (cy k)) (fun k => rotY q (cx k) (cy k)) := by
  have r1 := h.rot
  have r2 := r1.rot
  have r3 := r2.rot
  rcases (show q = 0 ∨ q = 1 ∨ q = 2 ∨ q = 3 by omega) with z | z | z | z
  · refine h.congr (fun k hk => ?_) (fun k _ => ?_)
    · have := (h.2.2 k hk).1; omega
    · rw [z]; exact ⟨rfl, rfl⟩
  · exact r1.congr (fun k hk => by rw [z]) (fun k _ => by rw [z]; exact ⟨rfl, rfl⟩)
  · exact r2.congr (fun k hk => by omega) (fun k _ => by rw [z]; exact ⟨rfl, rfl⟩)
  · exact r3.congr (fun k hk => by omega) (fun k _ => by rw [z]; refine ⟨?_, rfl⟩; show cy k = - - cy k; omega)
theorem wn_rotq (h : Poly n d cx cy) (ho : cx n = 0 ∧ cy n = 0) {q : Int} (hq : 0 ≤ q ∧ q ≤ 3) (x y : Int) : wn n (fun k => (d k + q) % 4) (fun k => rotX q (cx k) (cy k)) (fun k => rotY q (cx k) (cy k)) (crX q x y) (crY q x y) = wn n d cx cy x y := by
  have r1 := h.rot
  have r2 := r1.rot
  have o1 : (fun k => -cy k) n = 0 ∧ (fun k => cx k) n = 0 := ⟨by show -cy n = 0; omega, ho.1⟩
  have o2 : (fun k => -cx k) n = 0 ∧ (fun k => -cy k) n = 0 := ⟨by show -cx n = 0; omega, by show -cy n = 0; omega⟩
  have w1 := wn_rot1 h ho x y
  have w2 := wn_rot1 r1 o1 (-y - 1) x
  have w3 := wn_rot1 r2 o2 (-x - 1) (-y - 1)
  rcases (show q = 0 ∨ q = 1 ∨ q = 2 ∨ q = 3 by omega) with z | z | z | z
  · subst z
    refine wn_congr (fun k hk => ⟨?_, rfl, rfl⟩) x y
    have := (h.2.2 k hk).1; omega
  · subst z
    exact w1
  · subst z
    rw [← w1, ← w2]
    exact wn_congr (fun k hk => ⟨by omega, rfl, rfl⟩) _ _
  · subst z
    rw [← w1, ← w2, ← w3]
    show wn n _ _ _ y (-x - 1) = wn n _ _ _ (-(-y - 1) - 1) (-x - 1)
    rw [show -(-y - 1) - 1 = y by omega]
    exact wn_congr (fun k hk => ⟨by omega, by show cy k = - - cy k; omega, rfl⟩) _ _
/-- every cell is a turned cell -/
theorem cr_inv {q : Int} (hq : 0 ≤ q ∧ q ≤ 3) (u v : Int) : ∃ x y : Int, crX q x y = u ∧ crY q x y = v := by
  rcases (show q = 0 ∨ q = 1 ∨ q = 2 ∨ q = 3 by omega) with z | z | z | z
  · subst z; exact ⟨u, v, rfl, rfl⟩
  · subst z; refine ⟨v, -u - 1, ?_, rfl⟩; show -(-u - 1) - 1 = u; omega
  · subst z; refine ⟨-u - 1, -v - 1, ?_, ?_⟩
    · show -(-u - 1) - 1 = u; omega
    · show -(-v - 1) - 1 = v; omega
  · subst z; refine ⟨-v - 1, u, rfl, ?_⟩; show -(-v - 1) - 1 = v; omega
theorem rot_n {q : Int} {k : Nat} (hq : 0 ≤ q ∧ q ≤ 3) (h : cx k = 0 ∧ cy k = 0) : rotX q (cx k) (cy k) = 0 ∧ rotY q (cx k) (cy k) = 0 := by
  unfold rotX rotY
  rw [h.1, h.2]
  rcases (show q = 0 ∨ q = 1 ∨ q = 2 ∨ q = 3 by omega) with z | z | z | z <;> subst z <;> exact ⟨by decide, by decide⟩
theorem wn_box (h : Poly n d cx cy) (ho : cx n = 0 ∧ cy n = 0) {lo hi ul uh : Int} (hb : ∀ k, k ≤ n → lo ≤ cx k ∧ cx k ≤ hi ∧ ul ≤ cy k ∧ cy k ≤ uh) {x y : Int} (hw : wn n d cx cy x y ≠ 0) : (lo ≤ x ∧ x < hi) ∧ ul ≤ y ∧ y < uh := by
  obtain ⟨k, hk, hwk⟩ := sm_ex hw
  have nk := hb k (Nat.le_of_lt hk)
  have nk1 := hb (k + 1) (by omega)
  have hx : x < hi := by
    by_cases c : x < hi
    · exact c
    · exact absurd (wn_right h ho (fun k hk => by have := hb k (Nat.le_of_lt hk); omega)) hw
  unfold wd at hwk
  rcases d_cases h hk with ⟨q, a, b⟩ | ⟨q, a, b⟩ | ⟨q, a, b⟩ | ⟨q, a, b⟩
  · rw [if_neg (by omega), if_neg (by omega)] at hwk; exact absurd rfl hwk
  · rw [if_neg (by omega), if_pos q] at hwk
    by_cases c : cy k = y ∧ cx k ≤ x
    · exact ⟨⟨by omega, hx⟩, by omega, by omega⟩
    · rw [if_neg c] at hwk; exact absurd rfl hwk
  · rw [if_neg (by omega), if_neg (by omega)] at hwk; exact absurd rfl hwk
  · rw [if_pos q] at hwk
    by_cases c : cy k - 1 = y ∧ cx k ≤ x
    · exact ⟨⟨by omega, hx⟩, by omega, by omega⟩
    · rw [if_neg c] at hwk; exact absurd rfl hwk
/-- the rows above are even -/
theorem rows_even (h : Poly n d cx cy) (ho : cx n = 0 ∧ cy n = 0) (y : Int) : sm (fun k => if d k = 3 then (if cy k - 1 < y then (1 : Int) else 0) else if d k = 1 then (if cy k < y then -1 else 0) else 0) n = 0 := by
  have e : sm (fun k => if d k = 3 then (if cy k - 1 < y then (1 : Int) else 0) else if d k = 1 then (if cy k < y then -1 else 0) else 0) n = sm (fun k => (if cy (k + 1) < y then y - cy (k + 1) else 0) - (if cy k < y then y - cy k else 0)) n := by
    refine sm_congr (fun k hk => ?_)
    rcases d_cases h hk with ⟨q, a, b⟩ | ⟨q, a, b⟩ | ⟨q, a, b⟩ | ⟨q, a, b⟩
    · rw [if_neg (by omega), if_neg (by omega), b]; omega
    · rw [if_neg (by omega), if_pos q, b]
      by_cases c : cy k < y
      · rw [if_pos c, if_pos c]
        by_cases c2 : cy k + 1 < y
        · rw [if_pos c2]; omega
        · rw [if_neg c2]; omega
      · rw [if_neg c, if_neg c, if_neg (by omega)]; omega
    · rw [if_neg (by omega), if_neg (by omega), b]; omega
    · rw [if_pos q, b]
      by_cases c : cy k - 1 < y
      · rw [if_pos c, if_pos c]
        by_cases c2 : cy k < y
        · rw [if_pos c2]; omega
        · rw [if_neg c2]; omega
      · rw [if_neg c, if_neg c, if_neg (by omega)]; omega
  rw [e, sm_tel (fun k => if cy k < y then y - cy k else 0) n, ho.2, h.2.1]
  omega
end Geo
