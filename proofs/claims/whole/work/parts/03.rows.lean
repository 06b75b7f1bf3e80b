/-! MY OWN LAYER: numbers as Int, a region of cells as a memory Nat → Nat → Int (cell, place) -/
abbrev iv (a : Int) : Value := .int (Int32.ofInt a)
abbrev Mem : Type := Nat → Nat → Int
abbrev in32 (x : Int) : Prop := -2147483648 ≤ x ∧ x ≤ 2147483647
def up (M : Mem) (k j : Nat) (x : Int) : Mem := fun k' => if k' = k then (fun j' => if j' = j then x else M k j') else M k'
theorem up_ss (M : Mem) (k j : Nat) (x : Int) : up M k j x k j = x := by simp [up]
theorem up_ne {M : Mem} {k j k' : Nat} {x : Int} (h : k' ≠ k) : up M k j x k' = M k' := by simp [up, h]
theorem up_nj {M : Mem} {k j j' : Nat} {x : Int} (h : j' ≠ j) : up M k j x k j' = M k j' := by simp [up, h]
theorem up_row (M : Mem) (k j : Nat) (x : Int) : up M k j x k = fun j' => if j' = j then x else M k j' := by simp [up]
theorem xi_T {x : Int} (h : in32 x) : (Int32.ofInt x).toInt = x := by
  obtain ⟨h1, h2⟩ := h
  exact Int32.toInt_ofInt_of_le (by omega) (by omega)
theorem xi_lt {x y : Int} (hx : in32 x) (hy : in32 y) : Int32.ofInt x < Int32.ofInt y ↔ x < y := by rw [Int32.lt_iff_toInt_lt, xi_T hx, xi_T hy]
theorem xi_le {x y : Int} (hx : in32 x) (hy : in32 y) : Int32.ofInt x ≤ Int32.ofInt y ↔ x ≤ y := by rw [Int32.le_iff_toInt_le, xi_T hx, xi_T hy]
theorem xi_eq {x y : Int} (hx : in32 x) (hy : in32 y) : Int32.ofInt x = Int32.ofInt y ↔ x = y := by rw [← Int32.toInt_inj, xi_T hx, xi_T hy]
theorem xi_0 : Int32.ofInt 0 = 0 := rfl
theorem xi_z : in32 0 := ⟨by omega, by omega⟩
theorem xi_lt0 {x : Int} (hx : in32 x) : Int32.ofInt x < 0 ↔ x < 0 := by rw [← xi_0]; exact xi_lt hx xi_z
theorem xi_le0 {x : Int} (hx : in32 x) : Int32.ofInt x ≤ 0 ↔ x ≤ 0 := by rw [← xi_0]; exact xi_le hx xi_z
theorem xi_gt0 {x : Int} (hx : in32 x) : 0 < Int32.ofInt x ↔ 0 < x := by rw [← xi_0]; exact xi_lt xi_z hx
theorem xi_ge0 {x : Int} (hx : in32 x) : 0 ≤ Int32.ofInt x ↔ 0 ≤ x := by rw [← xi_0]; exact xi_le xi_z hx
theorem xi_eq0 {x : Int} (hx : in32 x) : Int32.ofInt x = 0 ↔ x = 0 := by rw [← xi_0]; exact xi_eq hx xi_z
theorem xi_cl {x : Int} (h : in32 x) : (Int32.ofInt x).toNatClampNeg = x.toNat := by
  obtain ⟨h1, h2⟩ := h
  exact Int32.toNatClampNeg_ofInt_of_le (by omega) (by omega)
theorem xi_in {x : Int} {n : Nat} (h0 : 0 ≤ x ∧ x < n) (hn : n < 2147483648) : vp_in (Int32.ofInt x) n := by
  obtain ⟨h0, h1⟩ := h0
  exact vp_in_iff.mpr (by rw [xi_T ⟨by omega, by omega⟩]; exact ⟨h0, h1⟩)
theorem xi_ix {x : Int} {n : Nat} (h0 : 0 ≤ x ∧ x < n) (hn : n < 2147483648) : (Int32.ofInt x).toNatClampNeg = x.toNat := by
  obtain ⟨h0, h1⟩ := h0
  exact xi_cl ⟨by omega, by omega⟩
theorem xi_and3 (x : Int) : Int32.ofInt x &&& Int32.ofInt 3 = Int32.ofInt (x % 4) := by
  rw [pk_and (Int32.ofInt x) (m := Int32.ofInt 3) 2 (by decide)]
  show Int32.ofNat _ = _
  rw [← Int32.ofInt_eq_ofNat, Int32.toBitVec_ofInt, BitVec.toNat_ofInt]
  congr 1
  omega
theorem xi_and15 (x : Int) : Int32.ofInt x &&& Int32.ofInt 15 = Int32.ofInt (x % 16) := by
  rw [pk_and (Int32.ofInt x) (m := Int32.ofInt 15) 4 (by decide)]
  show Int32.ofNat _ = _
  rw [← Int32.ofInt_eq_ofNat, Int32.toBitVec_ofInt, BitVec.toNat_ofInt]
  congr 1
  omega
theorem xi_dv {x y : Int} (h0 : 0 ≤ x) (h1 : x ≤ 2147483647) (h2 : 0 < y) (h3 : y ≤ 2147483647) : Int32.ofInt x / Int32.ofInt y = Int32.ofInt (x / y) := by
  rw [← Int32.ofInt_tdiv (Int.le_trans (by decide) h0) (Int.le_trans h1 (by decide)) (Int.le_trans (by decide) (Int.le_of_lt h2)) (Int.le_trans h3 (by decide)), Int.tdiv_eq_ediv_of_nonneg h0]
theorem xi_rm {x y : Int} (h0 : 0 ≤ x) (h1 : x ≤ 2147483647) (h2 : 0 < y) (h3 : y ≤ 2147483647) : Int32.ofInt x - Int32.ofInt x / Int32.ofInt y * Int32.ofInt y = Int32.ofInt (x % y) := by
  rw [xi_dv h0 h1 h2 h3, ← Int32.ofInt_mul, ← Int32.ofInt_sub]
  congr 1
  have := Int.emod_add_mul_ediv x y
  rw [Int.mul_comm] at this
  omega
theorem xi_ne0 {y : Int} (h2 : 0 < y) (h3 : y ≤ 2147483647) : ¬ Int32.ofInt y = 0 := by
  rw [xi_eq0 ⟨by omega, h3⟩]; omega
/-- the good words of the table: those that every method may ask for -/
def gd : List Cond := lw_tbl.filter goodWord
theorem gd_mem {w : Cond} (h : w ∈ lw_tbl) (hg : goodWord w = true) : w ∈ gd := List.mem_filter.mpr ⟨h, hg⟩
abbrev Cx (p : Program) (m : MethodId) (c : Code) (cc : ByteArray) (nL : Nat) (s : State) (args : Array Value) (own : String) : Prop := CallFix p m c cc nL s args gd own
section XR
variable {p : Program} {l : Launch} {e : Env} {R : Room} {s : State} {m : MethodId} {args : Array Value} {below : List Frame} {meth : Method} {c : Code} {H : Heap} {locs : List Loc} {cells slots : Nat} {Q : State → Prop}
variable {cc : ByteArray} {pc nL : Nat} {ls : Array Slot} {rest : List Value} {own : String}
theorem xi_const (hC : Cx p m c cc nL s args own) {n : Int} (hdg : decode cc pc = .ok (.iconst n, 1)) (k : W p l e R s m args below meth c H locs cells slots Q (F0 m (pc + 1) ls (iv n :: rest))) : W p l e R s m args below meth c H locs cells slots Q (F0 m pc ls rest) := lv_iconst hC.1 hC.2.1 hdg rfl k
theorem xi_bipush (hC : Cx p m c cc nL s args own) {n : Int} (hdg : decode cc pc = .ok (.bipush n, 2)) (hv : (Int8.ofInt n).toInt32 = Int32.ofInt n) (k : W p l e R s m args below meth c H locs cells slots Q (F0 m (pc + 2) ls (iv n :: rest))) : W p l e R s m args below meth c H locs cells slots Q (F0 m pc ls rest) := lv_bipush hC.1 hC.2.1 hdg hv k
theorem xi_sipush (hC : Cx p m c cc nL s args own) {n : Int} (hdg : decode cc pc = .ok (.sipush n, 3)) (hv : (Int16.ofInt n).toInt32 = Int32.ofInt n) (k : W p l e R s m args below meth c H locs cells slots Q (F0 m (pc + 3) ls (iv n :: rest))) : W p l e R s m args below meth c H locs cells slots Q (F0 m pc ls rest) := lv_sipush hC.1 hC.2.1 hdg hv k
theorem xi_top {x : Int} (k : ∀ y : Int, y = x → W p l e R s m args below meth c H locs cells slots Q (F0 m pc ls (iv y :: rest))) : W p l e R s m args below meth c H locs cells slots Q (F0 m pc ls (iv x :: rest)) := k x rfl
theorem xi_add (hC : Cx p m c cc nL s args own) {x y : Int} (hdg : decode cc pc = .ok (.iadd, 1)) (k : W p l e R s m args below meth c H locs cells slots Q (F0 m (pc + 1) ls (iv (x + y) :: rest))) : W p l e R s m args below meth c H locs cells slots Q (F0 m pc ls (iv y :: iv x :: rest)) := lv_iadd hC.1 hC.2.1 hdg (by rw [← Int32.ofInt_add]; exact k)
theorem xi_sub (hC : Cx p m c cc nL s args own) {x y : Int} (hdg : decode cc pc = .ok (.isub, 1)) (k : W p l e R s m args below meth c H locs cells slots Q (F0 m (pc + 1) ls (iv (x - y) :: rest))) : W p l e R s m args below meth c H locs cells slots Q (F0 m pc ls (iv y :: iv x :: rest)) := lv_isub hC.1 hC.2.1 hdg (by rw [← Int32.ofInt_sub]; exact k)
theorem xi_mul (hC : Cx p m c cc nL s args own) {x y : Int} (hdg : decode cc pc = .ok (.imul, 1)) (k : W p l e R s m args below meth c H locs cells slots Q (F0 m (pc + 1) ls (iv (x * y) :: rest))) : W p l e R s m args below meth c H locs cells slots Q (F0 m pc ls (iv y :: iv x :: rest)) := lv_imul hC.1 hC.2.1 hdg (by rw [← Int32.ofInt_mul]; exact k)
theorem xi_neg (hC : Cx p m c cc nL s args own) {x : Int} (hdg : decode cc pc = .ok (.ineg, 1)) (k : W p l e R s m args below meth c H locs cells slots Q (F0 m (pc + 1) ls (iv (-x) :: rest))) : W p l e R s m args below meth c H locs cells slots Q (F0 m pc ls (iv x :: rest)) := lv_ineg hC.1 hC.2.1 hdg (by rw [← Int32.ofInt_neg]; exact k)
theorem xi_and3r (hC : Cx p m c cc nL s args own) {x : Int} (hdg : decode cc pc = .ok (.iand, 1)) (k : W p l e R s m args below meth c H locs cells slots Q (F0 m (pc + 1) ls (iv (x % 4) :: rest))) : W p l e R s m args below meth c H locs cells slots Q (F0 m pc ls (iv 3 :: iv x :: rest)) := lv_iand hC.1 hC.2.1 hdg (by rw [xi_and3]; exact k)
theorem xi_and15r (hC : Cx p m c cc nL s args own) {x : Int} (hdg : decode cc pc = .ok (.iand, 1)) (k : W p l e R s m args below meth c H locs cells slots Q (F0 m (pc + 1) ls (iv (x % 16) :: rest))) : W p l e R s m args below meth c H locs cells slots Q (F0 m pc ls (iv 15 :: iv x :: rest)) := lv_iand hC.1 hC.2.1 hdg (by rw [xi_and15]; exact k)
theorem xi_div (hC : Cx p m c cc nL s args own) {x y : Int} (hdg : decode cc pc = .ok (.idiv, 1)) (h : 0 ≤ x ∧ x ≤ 2147483647 ∧ 0 < y ∧ y ≤ 2147483647) (k : W p l e R s m args below meth c H locs cells slots Q (F0 m (pc + 1) ls (iv (x / y) :: rest))) : W p l e R s m args below meth c H locs cells slots Q (F0 m pc ls (iv y :: iv x :: rest)) := lv_idiv hC.1 hC.2.1 hdg (xi_ne0 h.2.2.1 h.2.2.2) (by rw [xi_dv h.1 h.2.1 h.2.2.1 h.2.2.2]; exact k)
theorem xi_rem (hC : Cx p m c cc nL s args own) {x y : Int} (hdg : decode cc pc = .ok (.irem, 1)) (h : 0 ≤ x ∧ x ≤ 2147483647 ∧ 0 < y ∧ y ≤ 2147483647) (k : W p l e R s m args below meth c H locs cells slots Q (F0 m (pc + 1) ls (iv (x % y) :: rest))) : W p l e R s m args below meth c H locs cells slots Q (F0 m pc ls (iv y :: iv x :: rest)) := lv_irem hC.1 hC.2.1 hdg (xi_ne0 h.2.2.1 h.2.2.2) (by rw [xi_rm h.1 h.2.1 h.2.2.1 h.2.2.2]; exact k)
theorem xi_iinc (hC : Cx p m c cc nL s args own) {i k : Nat} {n : Int} {x v : Int} {lv lv' : List (Nat × Value)} (hdg : decode cc pc = .ok (.iinc i n, 3)) (h : lv_has ls nL lv) (hk : lv[k]? = some (i, iv x)) (hv : v = x + n) (hn : i < nL) (hl : (i, iv v) :: lv.filter (fun q => !(q.1 == i) && !(q.1 + 1 == i && q.2.category == 2)) = lv')
    (kk : ∀ ls' : Array Slot, lv_has ls' nL lv' → W p l e R s m args below meth c H locs cells slots Q (F0 m (pc + 3) ls' rest)) : W p l e R s m args below meth c H locs cells slots Q (F0 m pc ls rest) :=
  lv_iinc (v := Int32.ofInt v) hC.1 hC.2.1 hdg h hk (by rw [hv, Int32.ofInt_add]) hn hl kk
theorem xi_ceq (hC : Cx p m c cc nL s args own) {x y : Int} {off : Int} {tgt : Nat} (hdg : decode cc pc = .ok (.if_icmp .eq off, 3)) (ht : (pc : Int) + off = (tgt : Int)) (h1 : in32 x) (h2 : in32 y) (kt : x = y → W p l e R s m args below meth c H locs cells slots Q (F0 m tgt ls rest)) (kf : ¬ x = y → W p l e R s m args below meth c H locs cells slots Q (F0 m (pc + 3) ls rest)) : W p l e R s m args below meth c H locs cells slots Q (F0 m pc ls (iv y :: iv x :: rest)) :=
  lv_icmp_eq hC.1 hC.2.1 hdg ht (fun h => kt ((xi_eq h1 h2).mp h)) (fun h => kf (fun q => h ((xi_eq h1 h2).mpr q)))
theorem xi_cne (hC : Cx p m c cc nL s args own) {x y : Int} {off : Int} {tgt : Nat} (hdg : decode cc pc = .ok (.if_icmp .ne off, 3)) (ht : (pc : Int) + off = (tgt : Int)) (h1 : in32 x) (h2 : in32 y) (kt : ¬ x = y → W p l e R s m args below meth c H locs cells slots Q (F0 m tgt ls rest)) (kf : x = y → W p l e R s m args below meth c H locs cells slots Q (F0 m (pc + 3) ls rest)) : W p l e R s m args below meth c H locs cells slots Q (F0 m pc ls (iv y :: iv x :: rest)) :=
  lv_icmp_ne hC.1 hC.2.1 hdg ht (fun h => kt (fun q => h ((xi_eq h1 h2).mpr q))) (fun h => kf ((xi_eq h1 h2).mp h))
theorem xi_clt (hC : Cx p m c cc nL s args own) {x y : Int} {off : Int} {tgt : Nat} (hdg : decode cc pc = .ok (.if_icmp .lt off, 3)) (ht : (pc : Int) + off = (tgt : Int)) (h1 : in32 x) (h2 : in32 y) (kt : x < y → W p l e R s m args below meth c H locs cells slots Q (F0 m tgt ls rest)) (kf : ¬ x < y → W p l e R s m args below meth c H locs cells slots Q (F0 m (pc + 3) ls rest)) : W p l e R s m args below meth c H locs cells slots Q (F0 m pc ls (iv y :: iv x :: rest)) :=
  lv_icmp_lt hC.1 hC.2.1 hdg ht (fun h => kt ((xi_lt h1 h2).mp h)) (fun h => kf (fun q => h ((xi_lt h1 h2).mpr q)))
theorem xi_cge (hC : Cx p m c cc nL s args own) {x y : Int} {off : Int} {tgt : Nat} (hdg : decode cc pc = .ok (.if_icmp .ge off, 3)) (ht : (pc : Int) + off = (tgt : Int)) (h1 : in32 x) (h2 : in32 y) (kt : y ≤ x → W p l e R s m args below meth c H locs cells slots Q (F0 m tgt ls rest)) (kf : ¬ y ≤ x → W p l e R s m args below meth c H locs cells slots Q (F0 m (pc + 3) ls rest)) : W p l e R s m args below meth c H locs cells slots Q (F0 m pc ls (iv y :: iv x :: rest)) :=
  lv_icmp_ge hC.1 hC.2.1 hdg ht (fun h => kt ((xi_le h2 h1).mp h)) (fun h => kf (fun q => h ((xi_le h2 h1).mpr q)))
theorem xi_cgt (hC : Cx p m c cc nL s args own) {x y : Int} {off : Int} {tgt : Nat} (hdg : decode cc pc = .ok (.if_icmp .gt off, 3)) (ht : (pc : Int) + off = (tgt : Int)) (h1 : in32 x) (h2 : in32 y) (kt : y < x → W p l e R s m args below meth c H locs cells slots Q (F0 m tgt ls rest)) (kf : ¬ y < x → W p l e R s m args below meth c H locs cells slots Q (F0 m (pc + 3) ls rest)) : W p l e R s m args below meth c H locs cells slots Q (F0 m pc ls (iv y :: iv x :: rest)) :=
  lv_icmp_gt hC.1 hC.2.1 hdg ht (fun h => kt ((xi_lt h2 h1).mp h)) (fun h => kf (fun q => h ((xi_lt h2 h1).mpr q)))
theorem xi_cle (hC : Cx p m c cc nL s args own) {x y : Int} {off : Int} {tgt : Nat} (hdg : decode cc pc = .ok (.if_icmp .le off, 3)) (ht : (pc : Int) + off = (tgt : Int)) (h1 : in32 x) (h2 : in32 y) (kt : x ≤ y → W p l e R s m args below meth c H locs cells slots Q (F0 m tgt ls rest)) (kf : ¬ x ≤ y → W p l e R s m args below meth c H locs cells slots Q (F0 m (pc + 3) ls rest)) : W p l e R s m args below meth c H locs cells slots Q (F0 m pc ls (iv y :: iv x :: rest)) :=
  lv_icmp_le hC.1 hC.2.1 hdg ht (fun h => kt ((xi_le h1 h2).mp h)) (fun h => kf (fun q => h ((xi_le h1 h2).mpr q)))
theorem xi_ieq (hC : Cx p m c cc nL s args own) {x : Int} {off : Int} {tgt : Nat} (hdg : decode cc pc = .ok (.ifCond .eq off, 3)) (ht : (pc : Int) + off = (tgt : Int)) (h1 : in32 x) (kt : x = 0 → W p l e R s m args below meth c H locs cells slots Q (F0 m tgt ls rest)) (kf : ¬ x = 0 → W p l e R s m args below meth c H locs cells slots Q (F0 m (pc + 3) ls rest)) : W p l e R s m args below meth c H locs cells slots Q (F0 m pc ls (iv x :: rest)) :=
  lv_if_eq hC.1 hC.2.1 hdg ht (fun h => kt ((xi_eq0 h1).mp h)) (fun h => kf (fun q => h ((xi_eq0 h1).mpr q)))
theorem xi_ine (hC : Cx p m c cc nL s args own) {x : Int} {off : Int} {tgt : Nat} (hdg : decode cc pc = .ok (.ifCond .ne off, 3)) (ht : (pc : Int) + off = (tgt : Int)) (h1 : in32 x) (kt : ¬ x = 0 → W p l e R s m args below meth c H locs cells slots Q (F0 m tgt ls rest)) (kf : x = 0 → W p l e R s m args below meth c H locs cells slots Q (F0 m (pc + 3) ls rest)) : W p l e R s m args below meth c H locs cells slots Q (F0 m pc ls (iv x :: rest)) :=
  lv_if_ne hC.1 hC.2.1 hdg ht (fun h => kt (fun q => h ((xi_eq0 h1).mpr q))) (fun h => kf ((xi_eq0 h1).mp h))
theorem xi_ilt (hC : Cx p m c cc nL s args own) {x : Int} {off : Int} {tgt : Nat} (hdg : decode cc pc = .ok (.ifCond .lt off, 3)) (ht : (pc : Int) + off = (tgt : Int)) (h1 : in32 x) (kt : x < 0 → W p l e R s m args below meth c H locs cells slots Q (F0 m tgt ls rest)) (kf : ¬ x < 0 → W p l e R s m args below meth c H locs cells slots Q (F0 m (pc + 3) ls rest)) : W p l e R s m args below meth c H locs cells slots Q (F0 m pc ls (iv x :: rest)) :=
  lv_if_lt hC.1 hC.2.1 hdg ht (fun h => kt ((xi_lt0 h1).mp h)) (fun h => kf (fun q => h ((xi_lt0 h1).mpr q)))
theorem xi_ige (hC : Cx p m c cc nL s args own) {x : Int} {off : Int} {tgt : Nat} (hdg : decode cc pc = .ok (.ifCond .ge off, 3)) (ht : (pc : Int) + off = (tgt : Int)) (h1 : in32 x) (kt : 0 ≤ x → W p l e R s m args below meth c H locs cells slots Q (F0 m tgt ls rest)) (kf : ¬ 0 ≤ x → W p l e R s m args below meth c H locs cells slots Q (F0 m (pc + 3) ls rest)) : W p l e R s m args below meth c H locs cells slots Q (F0 m pc ls (iv x :: rest)) :=
  lv_if_ge hC.1 hC.2.1 hdg ht (fun h => kt ((xi_ge0 h1).mp h)) (fun h => kf (fun q => h ((xi_ge0 h1).mpr q)))
theorem xi_igt (hC : Cx p m c cc nL s args own) {x : Int} {off : Int} {tgt : Nat} (hdg : decode cc pc = .ok (.ifCond .gt off, 3)) (ht : (pc : Int) + off = (tgt : Int)) (h1 : in32 x) (kt : 0 < x → W p l e R s m args below meth c H locs cells slots Q (F0 m tgt ls rest)) (kf : ¬ 0 < x → W p l e R s m args below meth c H locs cells slots Q (F0 m (pc + 3) ls rest)) : W p l e R s m args below meth c H locs cells slots Q (F0 m pc ls (iv x :: rest)) :=
  lv_if_gt hC.1 hC.2.1 hdg ht (fun h => kt ((xi_gt0 h1).mp h)) (fun h => kf (fun q => h ((xi_gt0 h1).mpr q)))
theorem xi_ile (hC : Cx p m c cc nL s args own) {x : Int} {off : Int} {tgt : Nat} (hdg : decode cc pc = .ok (.ifCond .le off, 3)) (ht : (pc : Int) + off = (tgt : Int)) (h1 : in32 x) (kt : x ≤ 0 → W p l e R s m args below meth c H locs cells slots Q (F0 m tgt ls rest)) (kf : ¬ x ≤ 0 → W p l e R s m args below meth c H locs cells slots Q (F0 m (pc + 3) ls rest)) : W p l e R s m args below meth c H locs cells slots Q (F0 m pc ls (iv x :: rest)) :=
  lv_if_le hC.1 hC.2.1 hdg ht (fun h => kt ((xi_le0 h1).mp h)) (fun h => kf (fun q => h ((xi_le0 h1).mpr q)))
end XR
