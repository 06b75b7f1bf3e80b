/-! THE WINDOW of 32 by 32 cells: the numbers of all its cells add up to the space that the edge goes round -/
def cX (c : Nat) : Int := ((c % 32 : Nat) : Int) - 16
def cY (c : Nat) : Int := ((c / 32 : Nat) : Int) - 16
theorem win_one (a b : Int) (ha : -16 ≤ a ∧ a ≤ 16) (hb : -16 ≤ b ∧ b < 16) : sm (fun c => if b = cY c ∧ a ≤ cX c then 1 else 0) 1024 = 16 - a := by
  rw [show (1024 : Nat) = 32 * 32 from rfl, sm_rows, sm_one (i := (b + 16).toNat) (by omega)]
  · have e : sm (fun r => if b = cY (32 * (b + 16).toNat + r) ∧ a ≤ cX (32 * (b + 16).toNat + r) then (1 : Int) else 0) 32 = sm (fun r => if a + 16 ≤ (r : Int) then 1 else 0) 32 := sm_congr (fun r hr => by
      unfold cX cY
      rw [show (32 * (b + 16).toNat + r) / 32 = (b + 16).toNat by omega, show (32 * (b + 16).toNat + r) % 32 = r by omega]
      (repeat' split) <;> omega)
    rw [e, sm_ge (a + 16) (by omega)]
    split <;> omega
  · intro q hq hne
    refine sm_zero (fun r hr => ?_)
    unfold cX cY
    rw [if_neg]
    rintro ⟨h1, h2⟩
    omega
section Window
variable {n : Nat} {d cx cy : Nat → Int}
/-- how many of the first k steps go that way -/
def cnt (d : Nat → Int) (dir : Int) (k : Nat) : Int := sm (fun j => if d j = dir then 1 else 0) k
theorem cnt_s (d : Nat → Int) (dir : Int) (k : Nat) : cnt d dir (k + 1) = cnt d dir k + (if d k = dir then 1 else 0) := rfl
theorem cnt_mono (d : Nat → Int) (dir : Int) (i : Nat) : ∀ m : Nat, cnt d dir i ≤ cnt d dir (i + m)
  | 0 => Int.le_refl _
  | m + 1 => by
    have := cnt_mono d dir i m
    show cnt d dir i ≤ cnt d dir (i + m + 1)
    rw [cnt_s]
    split <;> omega
theorem cnt_le {d : Nat → Int} {dir : Int} {i j : Nat} (h : i ≤ j) : cnt d dir i ≤ cnt d dir j := by
  have := cnt_mono d dir i (j - i)
  rwa [show i + (j - i) = j by omega] at this
theorem cnt_0 (d : Nat → Int) (dir : Int) : cnt d dir 0 = 0 := rfl
theorem cnt_pos (d : Nat → Int) (dir : Int) (k : Nat) : 0 ≤ cnt d dir k := by
  have := cnt_le (d := d) (dir := dir) (Nat.zero_le k)
  rwa [cnt_0] at this
theorem cnt_sum (h : Poly n d cx cy) : ∀ {k : Nat}, k ≤ n → cx k = cnt d 0 k - cnt d 2 k ∧ cy k = cnt d 1 k - cnt d 3 k ∧ cnt d 0 k + cnt d 1 k + cnt d 2 k + cnt d 3 k = k
  | 0, _ => by rw [h.1, h.2.1]; simp [cnt_0]
  | k + 1, hk => by
    have ih := cnt_sum h (k := k) (by omega)
    rw [cnt_s, cnt_s, cnt_s, cnt_s]
    rcases d_cases h (k := k) (by omega) with ⟨e, e1, e2⟩ | ⟨e, e1, e2⟩ | ⟨e, e1, e2⟩ | ⟨e, e1, e2⟩ <;> rw [e1, e2] <;> simp only [e] <;> simp <;> omega
/-- the sides of its box, and both together: half of its steps -/
theorem box (h : Poly n d cx cy) (ho : cx n = 0 ∧ cy n = 0) : 2 * (cnt d 0 n + cnt d 1 n) = n ∧ (∀ i j, i ≤ n → j ≤ n → cx i - cx j ≤ cnt d 0 n) ∧ ∀ i j, i ≤ n → j ≤ n → cy i - cy j ≤ cnt d 1 n := by
  have hn := cnt_sum h (k := n) (Nat.le_refl n)
  rw [ho.1, ho.2] at hn
  refine ⟨by omega, fun i j hi hj => ?_, fun i j hi hj => ?_⟩
  · have h1 := cnt_sum h hi
    have h2 := cnt_sum h hj
    by_cases hij : i ≤ j
    · have a := cnt_le (d := d) (dir := 2) hij
      have a2 := cnt_le (d := d) (dir := 0) hij
      have b := cnt_le (d := d) (dir := 2) hj
      have c := cnt_pos d 2 i
      omega
    · have a := cnt_le (d := d) (dir := 0) (show j ≤ i by omega)
      have a2 := cnt_le (d := d) (dir := 2) (show j ≤ i by omega)
      have b := cnt_le (d := d) (dir := 0) hi
      have c := cnt_pos d 0 j
      omega
  · have h1 := cnt_sum h hi
    have h2 := cnt_sum h hj
    by_cases hij : i ≤ j
    · have a := cnt_le (d := d) (dir := 3) hij
      have a2 := cnt_le (d := d) (dir := 1) hij
      have b := cnt_le (d := d) (dir := 3) hj
      have c := cnt_pos d 3 i
      omega
    · have a := cnt_le (d := d) (dir := 1) (show j ≤ i by omega)
      have a2 := cnt_le (d := d) (dir := 3) (show j ≤ i by omega)
      have b := cnt_le (d := d) (dir := 1) hi
      have c := cnt_pos d 1 j
      omega
theorem near (h : Poly n d cx cy) (ho : cx n = 0 ∧ cy n = 0) (hn : n ≤ 28) {k : Nat} (hk : k ≤ n) : -14 ≤ cx k ∧ cx k ≤ 14 ∧ -14 ≤ cy k ∧ cy k ≤ 14 := by
  obtain ⟨b1, b2, b3⟩ := box h ho
  have c0 := cnt_pos d 0 n
  have c1 := cnt_pos d 1 n
  have x1 := b2 k n hk (Nat.le_refl n)
  have x2 := b2 n k (Nat.le_refl n) hk
  have y1 := b3 k n hk (Nat.le_refl n)
  have y2 := b3 n k (Nat.le_refl n) hk
  rw [ho.1] at x1 x2
  rw [ho.2] at y1 y2
  omega
theorem wd_win (h : Poly n d cx cy) (ho : cx n = 0 ∧ cy n = 0) (hn : n ≤ 28) {k : Nat} (hk : k < n) : sm (fun c => wd d cx cy (cX c) (cY c) k) 1024 = cx k * stY (d k) - 16 * stY (d k) := by
  have b := near h ho hn (k := k) (by omega)
  have b2 := near h ho hn (k := k + 1) (by omega)
  unfold wd
  rcases d_cases h hk with ⟨e, e1, e2⟩ | ⟨e, e1, e2⟩ | ⟨e, e1, e2⟩ | ⟨e, e1, e2⟩ <;> simp only [e] <;> simp [stY]
  · exact sm_zero (fun _ _ => rfl)
  · have := win_one (cx k) (cy k) (by omega) (by omega)
    have e3 : sm (fun c => if cy k = cY c ∧ cx k ≤ cX c then (-1 : Int) else 0) 1024 = sm (fun c => (-1) * (if cy k = cY c ∧ cx k ≤ cX c then (1 : Int) else 0)) 1024 := sm_congr (fun c _ => by split <;> omega)
    rw [e3, sm_mul, this]; omega
  · exact sm_zero (fun _ _ => rfl)
  · have := win_one (cx k) (cy k - 1) (by omega) (by omega)
    rw [this]; omega
theorem stY_sum (h : Poly n d cx cy) : sm (fun k => stY (d k)) n = cy n := by
  have e : sm (fun k => stY (d k)) n = sm (fun k => cy (k + 1) - cy k) n := sm_congr (fun k hk => by have := (h.2.2 k hk).2.2; omega)
  rw [e, sm_tel, h.2.1]; omega
/-- all cells of the window together -/
theorem wn_win (h : Poly n d cx cy) (ho : cx n = 0 ∧ cy n = 0) (hn : n ≤ 28) : sm (fun c => wn n d cx cy (cX c) (cY c)) 1024 = spaceOf n d cx := by
  unfold wn
  rw [sm_swap (fun c k => wd d cx cy (cX c) (cY c) k) n 1024, sm_congr (fun k hk => wd_win h ho hn hk), sm_sub, sm_mul, stY_sum h, ho.2]
  unfold spaceOf
  omega
theorem wn_pos (h : Poly n d cx cy) (ho : Once n cx cy) (hn : n ≤ 28) (hs : 0 < spaceOf n d cx) (x y : Int) : wn n d cx cy x y = 0 ∨ wn n d cx cy x y = 1 := by
  have e := wn_win h ⟨ho.1, ho.2.1⟩ hn
  have : ∃ c, 0 < wn n d cx cy (cX c) (cY c) := by
    false_or_by_contra
    rename_i q
    have hle : sm (fun c => wn n d cx cy (cX c) (cY c)) 1024 ≤ sm (fun _ => 0) 1024 := sm_le (fun c _ => by
      have : ¬ 0 < wn n d cx cy (cX c) (cY c) := fun z => q ⟨c, z⟩
      omega)
    rw [sm_zero (f := fun _ => 0) (fun _ _ => rfl)] at hle
    omega
  obtain ⟨c, hc⟩ := this
  exact wn_two h ho hc x y
/-- the other way to reckon: twice as much -/
theorem space2 (h : Poly n d cx cy) (ho : cx n = 0 ∧ cy n = 0) : sm (fun k => cx k * stY (d k) - cy k * stX (d k)) n = 2 * spaceOf n d cx := by
  have t := sm_tel (fun k => cx k * cy k) n
  have e : sm (fun k => cx (k + 1) * cy (k + 1) - cx k * cy k) n = sm (fun k => cx k * stY (d k) + cy k * stX (d k)) n := sm_congr (fun k hk => by
    rcases d_cases h hk with ⟨e, e1, e2⟩ | ⟨e, e1, e2⟩ | ⟨e, e1, e2⟩ | ⟨e, e1, e2⟩ <;> rw [e1, e2, e] <;> simp [stX, stY, Int.add_mul, Int.mul_add, Int.sub_mul, Int.mul_sub] <;> omega)
  have e0 : cx n * cy n - cx 0 * cy 0 = 0 := by rw [ho.1, h.1]; simp
  have s : sm (fun k => cx k * stY (d k) + cy k * stX (d k)) n = 0 := by rw [← e]; exact t.trans e0
  rw [sm_add] at s
  rw [sm_sub]
  unfold spaceOf
  omega
end Window
