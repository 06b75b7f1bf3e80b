/-! SUMS, AND HOW OFTEN AN EDGE GOES ROUND A CELL: for an edge that comes to no corner twice it is one number and the next one -/
def sm (f : Nat → Int) : Nat → Int
  | 0 => 0
  | n + 1 => sm f n + f n
theorem sm_congr {f h : Nat → Int} : ∀ {n : Nat}, (∀ k, k < n → f k = h k) → sm f n = sm h n
  | 0, _ => rfl
  | n + 1, e => by
    show sm f n + f n = sm h n + h n
    rw [sm_congr (fun k hk => e k (by omega)), e n (by omega)]
theorem sm_add (f h : Nat → Int) : ∀ n : Nat, sm (fun k => f k + h k) n = sm f n + sm h n
  | 0 => rfl
  | n + 1 => by
    show sm (fun k => f k + h k) n + (f n + h n) = sm f n + f n + (sm h n + h n)
    rw [sm_add f h n]; omega
theorem sm_sub (f h : Nat → Int) : ∀ n : Nat, sm (fun k => f k - h k) n = sm f n - sm h n
  | 0 => rfl
  | n + 1 => by
    show sm (fun k => f k - h k) n + (f n - h n) = sm f n + f n - (sm h n + h n)
    rw [sm_sub f h n]; omega
theorem sm_tel (f : Nat → Int) : ∀ n : Nat, sm (fun k => f (k + 1) - f k) n = f n - f 0
  | 0 => by show (0 : Int) = f 0 - f 0; omega
  | n + 1 => by
    show sm (fun k => f (k + 1) - f k) n + (f (n + 1) - f n) = f (n + 1) - f 0
    rw [sm_tel f n]; omega
theorem sm_zero {f : Nat → Int} : ∀ {n : Nat}, (∀ k, k < n → f k = 0) → sm f n = 0
  | 0, _ => rfl
  | n + 1, e => by
    show sm f n + f n = 0
    rw [sm_zero (fun k hk => e k (by omega)), e n (by omega)]; rfl
theorem sm_one {f : Nat → Int} {i : Nat} : ∀ {n : Nat}, i < n → (∀ k, k < n → k ≠ i → f k = 0) → sm f n = f i
  | 0, h, _ => absurd h (Nat.not_lt_zero i)
  | n + 1, h, e => by
    show sm f n + f n = f i
    by_cases hi : i = n
    · subst hi
      rw [sm_zero (fun k hk => e k (by omega) (by omega))]; omega
    · rw [sm_one (by omega) (fun k hk hk2 => e k (by omega) hk2), e n (by omega) (by omega)]; omega
theorem sm_nonneg {f : Nat → Int} : ∀ {n : Nat}, (∀ k, k < n → 0 ≤ f k) → 0 ≤ sm f n
  | 0, _ => by show (0 : Int) ≤ 0; omega
  | n + 1, e => by
    show 0 ≤ sm f n + f n
    have h1 := sm_nonneg (n := n) (fun k hk => e k (by omega))
    have h2 := e n (by omega)
    omega
theorem sm_le {f h : Nat → Int} : ∀ {n : Nat}, (∀ k, k < n → f k ≤ h k) → sm f n ≤ sm h n
  | 0, _ => by show (0 : Int) ≤ 0; omega
  | n + 1, e => by
    show sm f n + f n ≤ sm h n + h n
    have h1 := sm_le (n := n) (fun k hk => e k (by omega))
    have h2 := e n (by omega)
    omega
theorem sm_mul (c : Int) (f : Nat → Int) : ∀ n : Nat, sm (fun k => c * f k) n = c * sm f n
  | 0 => by show (0 : Int) = c * 0; omega
  | n + 1 => by
    show sm (fun k => c * f k) n + c * f n = c * (sm f n + f n)
    rw [sm_mul c f n, Int.mul_add]
theorem sm_swap (f : Nat → Nat → Int) (a : Nat) : ∀ b : Nat, sm (fun i => sm (fun j => f i j) a) b = sm (fun j => sm (fun i => f i j) b) a
  | 0 => by show (0 : Int) = _; exact (sm_zero (fun k _ => rfl)).symm
  | b + 1 => by
    show sm (fun i => sm (fun j => f i j) a) b + sm (fun j => f b j) a = sm (fun j => sm (fun i => f i j) b + f b j) a
    rw [sm_swap f a b, sm_add]
theorem sm_app (f : Nat → Int) (m : Nat) : ∀ n : Nat, sm f (m + n) = sm f m + sm (fun k => f (m + k)) n
  | 0 => by show sm f m = sm f m + 0; omega
  | n + 1 => by
    show sm f (m + n) + f (m + n) = sm f m + (sm (fun k => f (m + k)) n + f (m + n))
    rw [sm_app f m n]; omega
theorem sm_rows (f : Nat → Int) (w : Nat) : ∀ m : Nat, sm f (w * m) = sm (fun q => sm (fun r => f (w * q + r)) w) m
  | 0 => rfl
  | m + 1 => by
    show sm f (w * (m + 1)) = sm (fun q => sm (fun r => f (w * q + r)) w) m + sm (fun r => f (w * m + r)) w
    rw [Nat.mul_succ, sm_app, sm_rows f w m]
theorem sm_ge (t : Int) (ht : 0 ≤ t) : ∀ n : Nat, sm (fun r => if t ≤ (r : Int) then 1 else 0) n = if t ≤ (n : Int) then (n : Int) - t else 0
  | 0 => by
    show (0 : Int) = _
    split <;> omega
  | n + 1 => by
    show sm (fun r => if t ≤ (r : Int) then 1 else 0) n + (if t ≤ (n : Int) then 1 else 0) = _
    rw [sm_ge t ht n]
    split <;> split <;> omega
/-- the steps of an edge and its corners -/
def Poly (n : Nat) (d cx cy : Nat → Int) : Prop := cx 0 = 0 ∧ cy 0 = 0 ∧ ∀ k, k < n → (0 ≤ d k ∧ d k ≤ 3) ∧ cx (k + 1) = cx k + stX (d k) ∧ cy (k + 1) = cy k + stY (d k)
/-- it ends where it began and comes to no corner twice -/
def Once (n : Nat) (cx cy : Nat → Int) : Prop := cx n = 0 ∧ cy n = 0 ∧ ∀ i j, i < n → j < n → cx i = cx j → cy i = cy j → i = j
def wd (d cx cy : Nat → Int) (x y : Int) (k : Nat) : Int := if d k = 3 then (if cy k - 1 = y ∧ cx k ≤ x then 1 else 0) else if d k = 1 then (if cy k = y ∧ cx k ≤ x then -1 else 0) else 0
/-- how often the edge goes round the cell x, y -/
def wn (n : Nat) (d cx cy : Nat → Int) (x y : Int) : Int := sm (wd d cx cy x y) n
def spaceOf (n : Nat) (d cx : Nat → Int) : Int := sm (fun k => cx k * stY (d k)) n
section Winding
variable {n : Nat} {d cx cy : Nat → Int}
theorem d_cases (h : Poly n d cx cy) {k : Nat} (hk : k < n) : (d k = 0 ∧ cx (k + 1) = cx k + 1 ∧ cy (k + 1) = cy k) ∨ (d k = 1 ∧ cx (k + 1) = cx k ∧ cy (k + 1) = cy k + 1) ∨ (d k = 2 ∧ cx (k + 1) = cx k - 1 ∧ cy (k + 1) = cy k) ∨ (d k = 3 ∧ cx (k + 1) = cx k ∧ cy (k + 1) = cy k - 1) := by
  obtain ⟨⟨h1, h2⟩, h3, h4⟩ := h.2.2 k hk
  rcases (show d k = 0 ∨ d k = 1 ∨ d k = 2 ∨ d k = 3 by omega) with e | e | e | e <;> rw [e] at h3 h4 <;> simp [stX, stY] at h3 h4
  · exact Or.inl ⟨e, h3, h4⟩
  · exact Or.inr (Or.inl ⟨e, h3, h4⟩)
  · exact Or.inr (Or.inr (Or.inl ⟨e, by omega, h4⟩))
  · exact Or.inr (Or.inr (Or.inr ⟨e, h3, by omega⟩))
/-- steps that begin at a point, those that end there -/
def fw (d cx cy : Nat → Int) (dir x y : Int) (k : Nat) : Int := if d k = dir ∧ cx k = x ∧ cy k = y then 1 else 0
def tw (d cx cy : Nat → Int) (dir x y : Int) (k : Nat) : Int := if d k = dir ∧ cx (k + 1) = x ∧ cy (k + 1) = y then 1 else 0
theorem wn_hor (h : Poly n d cx cy) (x y : Int) : wn n d cx cy x y - wn n d cx cy (x - 1) y = sm (tw d cx cy 3 x y) n - sm (fw d cx cy 1 x y) n := by
  unfold wn
  rw [← sm_sub, ← sm_sub]
  refine sm_congr (fun k hk => ?_)
  simp only [wd, fw, tw]
  rcases d_cases h hk with ⟨e, e1, e2⟩ | ⟨e, e1, e2⟩ | ⟨e, e1, e2⟩ | ⟨e, e1, e2⟩ <;> (repeat' split) <;> omega
theorem wn_ver (h : Poly n d cx cy) (ho : cx n = 0 ∧ cy n = 0) (x y : Int) : wn n d cx cy x y - wn n d cx cy x (y - 1) = sm (fw d cx cy 0 x y) n - sm (tw d cx cy 2 x y) n := by
  have ht := sm_tel (fun k => if cy k = y ∧ cx k ≤ x then 1 else 0) n
  have e0 : (if cy n = y ∧ cx n ≤ x then (1 : Int) else 0) - (if cy 0 = y ∧ cx 0 ≤ x then 1 else 0) = 0 := by
    rw [ho.1, ho.2, h.1, h.2.1]; omega
  have e1 : wn n d cx cy x y - wn n d cx cy x (y - 1) = sm (fun k => ((if cy (k + 1) = y ∧ cx (k + 1) ≤ x then 1 else 0) - (if cy k = y ∧ cx k ≤ x then 1 else 0)) + (fw d cx cy 0 x y k - tw d cx cy 2 x y k)) n := by
    unfold wn
    rw [← sm_sub]
    refine sm_congr (fun k hk => ?_)
    simp only [wd, fw, tw]
    rcases d_cases h hk with ⟨e, e1, e2⟩ | ⟨e, e1, e2⟩ | ⟨e, e1, e2⟩ | ⟨e, e1, e2⟩ <;> (repeat' split) <;> omega
  rw [e1, sm_add, sm_sub (fw d cx cy 0 x y)]
  have : sm (fun k => (if cy (k + 1) = y ∧ cx (k + 1) ≤ x then (1 : Int) else 0) - (if cy k = y ∧ cx k ≤ x then 1 else 0)) n = 0 := by
    exact ht.trans e0
  rw [this]; omega
theorem tw_up (h : Poly n d cx cy) (x y : Int) : sm (tw d cx cy 3 x (y - 1)) n = sm (fw d cx cy 3 x y) n := by
  refine sm_congr (fun k hk => ?_)
  simp only [fw, tw]
  rcases d_cases h hk with ⟨e, e1, e2⟩ | ⟨e, e1, e2⟩ | ⟨e, e1, e2⟩ | ⟨e, e1, e2⟩ <;> (repeat' split) <;> omega
theorem fw_down (h : Poly n d cx cy) (x y : Int) : sm (fw d cx cy 1 x (y - 1)) n = sm (tw d cx cy 1 x y) n := by
  refine sm_congr (fun k hk => ?_)
  simp only [fw, tw]
  rcases d_cases h hk with ⟨e, e1, e2⟩ | ⟨e, e1, e2⟩ | ⟨e, e1, e2⟩ | ⟨e, e1, e2⟩ <;> (repeat' split) <;> omega
theorem fw_right (h : Poly n d cx cy) (x y : Int) : sm (fw d cx cy 0 (x - 1) y) n = sm (tw d cx cy 0 x y) n := by
  refine sm_congr (fun k hk => ?_)
  simp only [fw, tw]
  rcases d_cases h hk with ⟨e, e1, e2⟩ | ⟨e, e1, e2⟩ | ⟨e, e1, e2⟩ | ⟨e, e1, e2⟩ <;> (repeat' split) <;> omega
theorem tw_left (h : Poly n d cx cy) (x y : Int) : sm (tw d cx cy 2 (x - 1) y) n = sm (fw d cx cy 2 x y) n := by
  refine sm_congr (fun k hk => ?_)
  simp only [fw, tw]
  rcases d_cases h hk with ⟨e, e1, e2⟩ | ⟨e, e1, e2⟩ | ⟨e, e1, e2⟩ | ⟨e, e1, e2⟩ <;> (repeat' split) <;> omega
theorem fw_at (ho : Once n cx cy) {i : Nat} (hi : i < n) (dir : Int) : sm (fw d cx cy dir (cx i) (cy i)) n = if d i = dir then 1 else 0 := by
  rw [sm_one hi]
  · unfold fw; simp
  · intro k hk hne
    unfold fw
    rw [if_neg]
    rintro ⟨-, h1, h2⟩
    exact hne (ho.2.2 k i hk hi h1 h2)
/-- the step ahead of step i, round the edge -/
def pv (n i : Nat) : Nat := if i = 0 then n - 1 else i - 1
theorem pv_lt {i : Nat} (hi : i < n) : pv n i < n := by unfold pv; split <;> omega
theorem pv_at (h : Poly n d cx cy) (ho : Once n cx cy) {i : Nat} (hi : i < n) : cx (pv n i + 1) = cx i ∧ cy (pv n i + 1) = cy i := by
  unfold pv
  split
  · rename_i e
    subst e
    rw [show n - 1 + 1 = n by omega, ho.1, ho.2.1, h.1, h.2.1]
    exact ⟨rfl, rfl⟩
  · rw [show i - 1 + 1 = i by omega]
    exact ⟨rfl, rfl⟩
theorem pv_of (h : Poly n d cx cy) (ho : Once n cx cy) {i k : Nat} (hi : i < n) (hk : k < n) (h1 : cx (k + 1) = cx i) (h2 : cy (k + 1) = cy i) : k = pv n i := by
  unfold pv
  by_cases hn : k + 1 < n
  · have := ho.2.2 (k + 1) i hn hi h1 h2
    split <;> omega
  · have hk1 : k + 1 = n := by omega
    rw [hk1, ho.1] at h1
    rw [hk1, ho.2.1] at h2
    have := ho.2.2 0 i (by omega) hi (by rw [h.1]; exact h1) (by rw [h.2.1]; exact h2)
    split <;> omega
theorem tw_at (h : Poly n d cx cy) (ho : Once n cx cy) {i : Nat} (hi : i < n) (dir : Int) : sm (tw d cx cy dir (cx i) (cy i)) n = if d (pv n i) = dir then 1 else 0 := by
  rw [sm_one (pv_lt hi)]
  · unfold tw
    obtain ⟨h1, h2⟩ := pv_at h ho hi
    simp [h1, h2]
  · intro k hk hne
    unfold tw
    rw [if_neg]
    rintro ⟨-, h1, h2⟩
    exact hne (pv_of h ho hi hk h1 h2)
/-- the number of the cell at the left hand of step k -/
def lw (n : Nat) (d cx cy : Nat → Int) (k : Nat) : Int := if d k = 0 then wn n d cx cy (cx k) (cy k - 1) else if d k = 1 then wn n d cx cy (cx k) (cy k) else if d k = 2 then wn n d cx cy (cx k - 1) (cy k) else wn n d cx cy (cx k - 1) (cy k - 1)
theorem lw_same (h : Poly n d cx cy) (ho : Once n cx cy) {i : Nat} (hi : i < n) : lw n d cx cy (pv n i) = lw n d cx cy i := by
  have a1 := wn_hor h (cx i) (cy i)
  have a2 := wn_hor h (cx i) (cy i - 1)
  have a3 := wn_ver h ⟨ho.1, ho.2.1⟩ (cx i) (cy i)
  have a4 := wn_ver h ⟨ho.1, ho.2.1⟩ (cx i - 1) (cy i)
  rw [tw_at h ho hi, fw_at ho hi] at a1
  rw [tw_up h, fw_down h, tw_at h ho hi, fw_at ho hi] at a2
  rw [tw_at h ho hi, fw_at ho hi] at a3
  rw [fw_right h, tw_left h, tw_at h ho hi, fw_at ho hi] at a4
  obtain ⟨p1, p2⟩ := pv_at h ho hi
  unfold lw
  generalize hp : pv n i = j at *
  have hj : j < n := by rw [← hp]; exact pv_lt hi
  rcases d_cases h hj with ⟨e, e1, e2⟩ | ⟨e, e1, e2⟩ | ⟨e, e1, e2⟩ | ⟨e, e1, e2⟩ <;> rcases d_cases h hi with ⟨f, f1, f2⟩ | ⟨f, f1, f2⟩ | ⟨f, f1, f2⟩ | ⟨f, f1, f2⟩ <;> simp only [e, f] at a1 a2 a3 a4 ⊢ <;>
    (try rw [show cx j = cx i - 1 by omega]) <;> (try rw [show cx j = cx i by omega]) <;> (try rw [show cx j = cx i + 1 by omega]) <;> (try rw [show cy j = cy i - 1 by omega]) <;> (try rw [show cy j = cy i by omega]) <;> (try rw [show cy j = cy i + 1 by omega]) <;> (try rw [show cx i + 1 - 1 = cx i by omega]) <;> (try rw [show cy i + 1 - 1 = cy i by omega]) <;> simp at * <;> omega
theorem lw_all (h : Poly n d cx cy) (ho : Once n cx cy) : ∀ {k : Nat}, k < n → lw n d cx cy k = lw n d cx cy 0
  | 0, _ => rfl
  | k + 1, hk => by
    rw [← lw_same h ho hk]
    have : pv n (k + 1) = k := by unfold pv; rw [if_neg (by omega)]; omega
    rw [this]
    exact lw_all h ho (by omega)
theorem sm_ex {f : Nat → Int} (h : sm f n ≠ 0) : ∃ k, k < n ∧ f k ≠ 0 := by
  false_or_by_contra
  rename_i q
  refine h (sm_zero (fun k hk => ?_))
  false_or_by_contra
  exact q ⟨k, hk, by assumption⟩
/-- crossing an upright edge: nothing, or from the left hand's number to the next one or back -/
theorem wn_cross (h : Poly n d cx cy) (ho : Once n cx cy) (x y : Int) : wn n d cx cy x y = wn n d cx cy (x - 1) y ∨ (wn n d cx cy (x - 1) y = lw n d cx cy 0 ∧ wn n d cx cy x y = lw n d cx cy 0 + 1) ∨ (wn n d cx cy x y = lw n d cx cy 0 ∧ wn n d cx cy (x - 1) y = lw n d cx cy 0 + 1) := by
  have a := wn_hor h x y
  by_cases h3 : sm (tw d cx cy 3 x y) n = 0
  · by_cases h1 : sm (fw d cx cy 1 x y) n = 0
    · left; omega
    · obtain ⟨k, hk, hf⟩ := sm_ex h1
      have hf : d k = 1 ∧ cx k = x ∧ cy k = y := by
        unfold fw at hf
        split at hf
        · assumption
        · exact absurd rfl hf
      have e := fw_at (d := d) ho hk 1
      rw [hf.2.1, hf.2.2, if_pos hf.1] at e
      have l := lw_all h ho hk
      unfold lw at l
      rw [if_neg (by omega), if_pos hf.1, hf.2.1, hf.2.2] at l
      right; right
      unfold lw
      omega
  · obtain ⟨k, hk, hf⟩ := sm_ex h3
    have hf : d k = 3 ∧ cx (k + 1) = x ∧ cy (k + 1) = y := by
      unfold tw at hf
      split at hf
      · assumption
      · exact absurd rfl hf
    have l := lw_all h ho hk
    have c : cx k = x ∧ cy k - 1 = y := by
      rcases d_cases h hk with ⟨e, e1, e2⟩ | ⟨e, e1, e2⟩ | ⟨e, e1, e2⟩ | ⟨e, e1, e2⟩ <;> omega
    have l2 : lw n d cx cy k = wn n d cx cy (x - 1) y := by
      unfold lw
      rw [if_neg (by omega), if_neg (by omega), if_neg (by omega), c.1, c.2]
    have e : sm (tw d cx cy 3 x y) n = 1 := by
      have := sm_one (f := tw d cx cy 3 x y) hk (fun j hj hne => by
        unfold tw
        rw [if_neg]
        rintro ⟨g1, g2, g3⟩
        refine hne (ho.2.2 j k hj hk ?_ ?_)
        · rcases d_cases h hj with ⟨e, e1, e2⟩ | ⟨e, e1, e2⟩ | ⟨e, e1, e2⟩ | ⟨e, e1, e2⟩ <;> omega
        · rcases d_cases h hj with ⟨e, e1, e2⟩ | ⟨e, e1, e2⟩ | ⟨e, e1, e2⟩ | ⟨e, e1, e2⟩ <;> omega)
      rw [this]
      unfold tw
      rw [if_pos hf]
    by_cases h1 : sm (fw d cx cy 1 x y) n = 0
    · right; left; omega
    · obtain ⟨k', hk', hf'⟩ := sm_ex h1
      have hf' : d k' = 1 ∧ cx k' = x ∧ cy k' = y := by
        unfold fw at hf'
        split at hf'
        · assumption
        · exact absurd rfl hf'
      have e' := fw_at (d := d) ho hk' 1
      rw [hf'.2.1, hf'.2.2, if_pos hf'.1] at e'
      left; omega
theorem cx_low (h : Poly n d cx cy) : ∀ {k : Nat}, k ≤ n → -(k : Int) ≤ cx k ∧ cx k ≤ k ∧ -(k : Int) ≤ cy k ∧ cy k ≤ k
  | 0, _ => by rw [h.1, h.2.1]; omega
  | k + 1, hk => by
    have := cx_low h (k := k) (by omega)
    rcases d_cases h (k := k) (by omega) with ⟨e, e1, e2⟩ | ⟨e, e1, e2⟩ | ⟨e, e1, e2⟩ | ⟨e, e1, e2⟩ <;> omega
theorem wn_far (h : Poly n d cx cy) {x : Int} (y : Int) (hx : x < -(n : Int)) : wn n d cx cy x y = 0 := by
  refine sm_zero (fun k hk => ?_)
  have := (cx_low h (k := k) (by omega)).1
  unfold wd
  (repeat' split) <;> omega
theorem wn_three (h : Poly n d cx cy) (ho : Once n cx cy) (y : Int) : ∀ m : Nat, (wn n d cx cy (-(n : Int) - 1 + m) y = 0 ∨ wn n d cx cy (-(n : Int) - 1 + m) y = lw n d cx cy 0 ∨ wn n d cx cy (-(n : Int) - 1 + m) y = lw n d cx cy 0 + 1) ∧ (wn n d cx cy (-(n : Int) - 1 + m) y = 0 ∨ lw n d cx cy 0 = 0 ∨ lw n d cx cy 0 = -1)
  | 0 => by
    have := wn_far h (x := -(n : Int) - 1 + (0 : Nat)) y (by omega)
    exact ⟨Or.inl this, Or.inl this⟩
  | m + 1 => by
    have ih := wn_three h ho y m
    have c := wn_cross h ho (-(n : Int) - 1 + ((m + 1 : Nat) : Int)) y
    rw [show -(n : Int) - 1 + ((m + 1 : Nat) : Int) - 1 = -(n : Int) - 1 + (m : Int) by omega] at c
    omega
theorem wn_two (h : Poly n d cx cy) (ho : Once n cx cy) {x0 y0 : Int} (hp : 0 < wn n d cx cy x0 y0) (x y : Int) : wn n d cx cy x y = 0 ∨ wn n d cx cy x y = 1 := by
  have key : ∀ x y : Int, (wn n d cx cy x y = 0 ∨ wn n d cx cy x y = lw n d cx cy 0 ∨ wn n d cx cy x y = lw n d cx cy 0 + 1) ∧ (wn n d cx cy x y = 0 ∨ lw n d cx cy 0 = 0 ∨ lw n d cx cy 0 = -1) := by
    intro x y
    by_cases hx : x < -(n : Int)
    · have := wn_far h y hx
      exact ⟨Or.inl this, Or.inl this⟩
    · have := wn_three h ho y (x + (n : Int) + 1).toNat
      rw [show -(n : Int) - 1 + ((x + (n : Int) + 1).toNat : Int) = x by omega] at this
      exact this
  have k0 := key x0 y0
  have k1 := key x y
  omega
end Winding
