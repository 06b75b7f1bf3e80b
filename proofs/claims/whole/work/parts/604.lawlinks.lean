def xz (xs : Nat → Int32) (i : Int) : Int := (xs i.toNat).toInt
theorem xz_in (xs : Nat → Int32) (i : Int) : in32 (xz xs i) := ⟨(xs i.toNat).le_toInt, Int.le_of_lt_add_one (xs i.toNat).toInt_lt⟩
theorem iv_toInt (v : Int32) : iv v.toInt = .int v := by
  show Value.int (Int32.ofInt v.toInt) = _
  rw [Int32.ofInt_toInt]
theorem lg_cmp_self (a : Int64) : Value.int (lg_cmp a a) = iv 0 := by
  simp [lg_cmp]
def endR (Rel : Mem → Mem → Prop) (k : Int) (w1 : Int64) (M1 : Mem) (r : Int) (N1 : Mem) (t : Int) : Prop := t = k ∧ (0 ≤ k ∧ k ≤ 3) ∧ (k = 0 → w1 = toL r) ∧ Rel M1 N1
def Ob_init (Rel : Mem → Mem → Prop) : Prop := Rel m0 n0
def Ob_sherd (Rel : Mem → Mem → Prop) : Prop := ∀ (M N : Mem) (w : Int64), Rel M N → wpL_sherd  w M (fun k w1 M1 => wp_Model_sherd  N (fun r N1 => wp_Model_thrown N1 (fun t => endR Rel k w1 M1 r N1 t)))
def Ob_step (Rel : Mem → Mem → Prop) : Prop := ∀ (M N : Mem) (w : Int64) (a1 : Int) (a2 : Int), Rel M N → in32 a1 → in32 a2 → wpL_step a1 a2 w M (fun k w1 M1 => wp_Model_step a1 a2 N (fun r N1 => wp_Model_thrown N1 (fun t => endR Rel k w1 M1 r N1 t)))
def Ob_height (Rel : Mem → Mem → Prop) : Prop := ∀ (M N : Mem) (w : Int64) (a1 : Int) (a2 : Int) (a3 : Int), Rel M N → in32 a1 → in32 a2 → in32 a3 → wpL_height a1 a2 a3 w M (fun k w1 M1 => wp_Model_height a1 a2 a3 N (fun r N1 => wp_Model_thrown N1 (fun t => endR Rel k w1 M1 r N1 t)))
def Ob_close (Rel : Mem → Mem → Prop) : Prop := ∀ (M N : Mem) (w : Int64) (a1 : Int), Rel M N → in32 a1 → wpL_close a1 w M (fun k w1 M1 => wp_Model_close a1 N (fun r N1 => wp_Model_thrown N1 (fun t => endR Rel k w1 M1 r N1 t)))
def Ob_least (Rel : Mem → Mem → Prop) : Prop := ∀ (M N : Mem) (w : Int64) (a1 : Int), Rel M N → in32 a1 → wpL_least a1 w M (fun k w1 M1 => wp_Model_least a1 N (fun r N1 => wp_Model_thrown N1 (fun t => endR Rel k w1 M1 r N1 t)))
def Ob_bound (Rel : Mem → Mem → Prop) : Prop := ∀ (M N : Mem) (w : Int64) (a1 : Int), Rel M N → in32 a1 → wpL_bound a1 w M (fun k w1 M1 => wp_Model_bound a1 N (fun r N1 => wp_Model_thrown N1 (fun t => endR Rel k w1 M1 r N1 t)))
def Ob_run (Rel : Mem → Mem → Prop) : Prop := ∀ (M N : Mem), Rel M N → wp_X_run M (fun r M1 => wp_Model_run N (fun r2 N1 => r = r2 ∧ Rel M1 N1))
def Ob_pair (Rel : Mem → Mem → Prop) : Prop := ∀ (M N : Mem) (w : Int64) (a1 : Int) (a2 : Int), Rel M N → in32 a1 → in32 a2 → wpL_pair a1 a2 w M (fun k w1 M1 => wp_Model_pair a1 a2 N (fun r N1 => wp_Model_thrown N1 (fun t => endR Rel k w1 M1 r N1 t)))
def Ob_join (Rel : Mem → Mem → Prop) : Prop := ∀ (M N : Mem) (w : Int64) (a1 : Int), Rel M N → in32 a1 → wpL_join a1 w M (fun k w1 M1 => wp_Model_join a1 N (fun r N1 => wp_Model_thrown N1 (fun t => endR Rel k w1 M1 r N1 t)))
def Ob_undo (Rel : Mem → Mem → Prop) : Prop := ∀ (M N : Mem), Rel M N → wp_X_undo M (fun r M1 => wp_Model_undo N (fun r2 N1 => r = r2 ∧ Rel M1 N1))
def Ob_place (Rel : Mem → Mem → Prop) : Prop := ∀ (M N : Mem) (w : Int64) (a1 : Int) (a2 : Int), Rel M N → in32 a1 → in32 a2 → wpL_place a1 a2 w M (fun k w1 M1 => wp_Model_place a1 a2 N (fun r N1 => wp_Model_thrown N1 (fun t => endR Rel k w1 M1 r N1 t)))
def Ob_holes (Rel : Mem → Mem → Prop) : Prop := ∀ (M N : Mem) (w : Int64) (a1 : Int), Rel M N → in32 a1 → wpL_holes a1 w M (fun k w1 M1 => wp_Model_holes a1 N (fun r N1 => wp_Model_thrown N1 (fun t => endR Rel k w1 M1 r N1 t)))
def Ob_count (Rel : Mem → Mem → Prop) : Prop := ∀ (M N : Mem) (w : Int64) (a1 : Int), Rel M N → in32 a1 → wpL_count a1 w M (fun k w1 M1 => wp_Model_count a1 N (fun r N1 => wp_Model_thrown N1 (fun t => endR Rel k w1 M1 r N1 t)))
def Obs (Rel : Mem → Mem → Prop) : Prop := Ob_init Rel ∧ Ob_sherd Rel ∧ Ob_step Rel ∧ Ob_height Rel ∧ Ob_close Rel ∧ Ob_least Rel ∧ Ob_bound Rel ∧ Ob_run Rel ∧ Ob_pair Rel ∧ Ob_join Rel ∧ Ob_undo Rel ∧ Ob_place Rel ∧ Ob_holes Rel ∧ Ob_count Rel
theorem Obs.init {Rel : Mem → Mem → Prop} (h : Obs Rel) : Rel m0 n0 := h.1
theorem Obs.sherd {Rel : Mem → Mem → Prop} (h : Obs Rel) : ∀ (M N : Mem) (w : Int64), Rel M N → wpL_sherd  w M (fun k w1 M1 => wp_Model_sherd  N (fun r N1 => wp_Model_thrown N1 (fun t => endR Rel k w1 M1 r N1 t))) := h.2.1
theorem Obs.step {Rel : Mem → Mem → Prop} (h : Obs Rel) : ∀ (M N : Mem) (w : Int64) (a1 : Int) (a2 : Int), Rel M N → in32 a1 → in32 a2 → wpL_step a1 a2 w M (fun k w1 M1 => wp_Model_step a1 a2 N (fun r N1 => wp_Model_thrown N1 (fun t => endR Rel k w1 M1 r N1 t))) := h.2.2.1
theorem Obs.height {Rel : Mem → Mem → Prop} (h : Obs Rel) : ∀ (M N : Mem) (w : Int64) (a1 : Int) (a2 : Int) (a3 : Int), Rel M N → in32 a1 → in32 a2 → in32 a3 → wpL_height a1 a2 a3 w M (fun k w1 M1 => wp_Model_height a1 a2 a3 N (fun r N1 => wp_Model_thrown N1 (fun t => endR Rel k w1 M1 r N1 t))) := h.2.2.2.1
theorem Obs.close {Rel : Mem → Mem → Prop} (h : Obs Rel) : ∀ (M N : Mem) (w : Int64) (a1 : Int), Rel M N → in32 a1 → wpL_close a1 w M (fun k w1 M1 => wp_Model_close a1 N (fun r N1 => wp_Model_thrown N1 (fun t => endR Rel k w1 M1 r N1 t))) := h.2.2.2.2.1
theorem Obs.least {Rel : Mem → Mem → Prop} (h : Obs Rel) : ∀ (M N : Mem) (w : Int64) (a1 : Int), Rel M N → in32 a1 → wpL_least a1 w M (fun k w1 M1 => wp_Model_least a1 N (fun r N1 => wp_Model_thrown N1 (fun t => endR Rel k w1 M1 r N1 t))) := h.2.2.2.2.2.1
theorem Obs.bound {Rel : Mem → Mem → Prop} (h : Obs Rel) : ∀ (M N : Mem) (w : Int64) (a1 : Int), Rel M N → in32 a1 → wpL_bound a1 w M (fun k w1 M1 => wp_Model_bound a1 N (fun r N1 => wp_Model_thrown N1 (fun t => endR Rel k w1 M1 r N1 t))) := h.2.2.2.2.2.2.1
theorem Obs.run {Rel : Mem → Mem → Prop} (h : Obs Rel) : ∀ (M N : Mem), Rel M N → wp_X_run M (fun r M1 => wp_Model_run N (fun r2 N1 => r = r2 ∧ Rel M1 N1)) := h.2.2.2.2.2.2.2.1
theorem Obs.pair {Rel : Mem → Mem → Prop} (h : Obs Rel) : ∀ (M N : Mem) (w : Int64) (a1 : Int) (a2 : Int), Rel M N → in32 a1 → in32 a2 → wpL_pair a1 a2 w M (fun k w1 M1 => wp_Model_pair a1 a2 N (fun r N1 => wp_Model_thrown N1 (fun t => endR Rel k w1 M1 r N1 t))) := h.2.2.2.2.2.2.2.2.1
theorem Obs.join {Rel : Mem → Mem → Prop} (h : Obs Rel) : ∀ (M N : Mem) (w : Int64) (a1 : Int), Rel M N → in32 a1 → wpL_join a1 w M (fun k w1 M1 => wp_Model_join a1 N (fun r N1 => wp_Model_thrown N1 (fun t => endR Rel k w1 M1 r N1 t))) := h.2.2.2.2.2.2.2.2.2.1
theorem Obs.undo {Rel : Mem → Mem → Prop} (h : Obs Rel) : ∀ (M N : Mem), Rel M N → wp_X_undo M (fun r M1 => wp_Model_undo N (fun r2 N1 => r = r2 ∧ Rel M1 N1)) := h.2.2.2.2.2.2.2.2.2.2.1
theorem Obs.place {Rel : Mem → Mem → Prop} (h : Obs Rel) : ∀ (M N : Mem) (w : Int64) (a1 : Int) (a2 : Int), Rel M N → in32 a1 → in32 a2 → wpL_place a1 a2 w M (fun k w1 M1 => wp_Model_place a1 a2 N (fun r N1 => wp_Model_thrown N1 (fun t => endR Rel k w1 M1 r N1 t))) := h.2.2.2.2.2.2.2.2.2.2.2.1
theorem Obs.holes {Rel : Mem → Mem → Prop} (h : Obs Rel) : ∀ (M N : Mem) (w : Int64) (a1 : Int), Rel M N → in32 a1 → wpL_holes a1 w M (fun k w1 M1 => wp_Model_holes a1 N (fun r N1 => wp_Model_thrown N1 (fun t => endR Rel k w1 M1 r N1 t))) := h.2.2.2.2.2.2.2.2.2.2.2.2.1
theorem Obs.count {Rel : Mem → Mem → Prop} (h : Obs Rel) : ∀ (M N : Mem) (w : Int64) (a1 : Int), Rel M N → in32 a1 → wpL_count a1 w M (fun k w1 M1 => wp_Model_count a1 N (fun r N1 => wp_Model_thrown N1 (fun t => endR Rel k w1 M1 r N1 t))) := h.2.2.2.2.2.2.2.2.2.2.2.2.2
set_option maxRecDepth 20000 in
theorem lk_LL_61 : lkV "EdgeJoinsLaw" 61 R_Model y_Model_sherd b_Model_sherd 1 (some .int) 0 := ⟨rfl, ⟨by decide, by decide, by decide +kernel⟩, gm 632 rfl rfl, gm 7 (by decide +kernel) rfl, gm 630 (by decide +kernel) rfl, gm 631 (by decide +kernel) rfl, Or.inl (gm 629 (by decide +kernel) rfl)⟩
set_option maxRecDepth 20000 in
theorem lk_LL_62 : lkV "EdgeJoinsLaw" 62 R_Model y_Model_thrown b_Model_thrown 1 (some .int) 0 := ⟨rfl, ⟨by decide, by decide, by decide +kernel⟩, gm 628 rfl rfl, gm 7 (by decide +kernel) rfl, gm 626 (by decide +kernel) rfl, gm 627 (by decide +kernel) rfl, Or.inl (gm 625 (by decide +kernel) rfl)⟩
set_option maxRecDepth 20000 in
theorem lk_LL_68 : lkV "EdgeJoinsLaw" 68 R_Model y_Model_step b_Model_step 4 (some .int) 2 := ⟨rfl, ⟨by decide, by decide, by decide +kernel⟩, gm 640 rfl rfl, gm 7 (by decide +kernel) rfl, gm 638 (by decide +kernel) rfl, gm 639 (by decide +kernel) rfl, Or.inl (gm 637 (by decide +kernel) rfl)⟩
set_option maxRecDepth 20000 in
theorem lk_LL_72 : lkV "EdgeJoinsLaw" 72 R_Model y_Model_height b_Model_height 6 (some .int) 3 := ⟨rfl, ⟨by decide, by decide, by decide +kernel⟩, gm 651 rfl rfl, gm 7 (by decide +kernel) rfl, gm 649 (by decide +kernel) rfl, gm 650 (by decide +kernel) rfl, Or.inl (gm 648 (by decide +kernel) rfl)⟩
set_option maxRecDepth 20000 in
theorem lk_LL_76 : lkV "EdgeJoinsLaw" 76 R_Model y_Model_close b_Model_close 5 (some .int) 1 := ⟨rfl, ⟨by decide, by decide, by decide +kernel⟩, gm 655 rfl rfl, gm 7 (by decide +kernel) rfl, gm 653 (by decide +kernel) rfl, gm 654 (by decide +kernel) rfl, Or.inl (gm 652 (by decide +kernel) rfl)⟩
set_option maxRecDepth 20000 in
theorem lk_LL_79 : lkV "EdgeJoinsLaw" 79 R_Model y_Model_least b_Model_least 3 (some .int) 1 := ⟨rfl, ⟨by decide, by decide, by decide +kernel⟩, gm 681 rfl rfl, gm 7 (by decide +kernel) rfl, gm 679 (by decide +kernel) rfl, gm 680 (by decide +kernel) rfl, Or.inl (gm 678 (by decide +kernel) rfl)⟩
set_option maxRecDepth 20000 in
theorem lk_LL_82 : lkV "EdgeJoinsLaw" 82 R_Model y_Model_bound b_Model_bound 3 (some .int) 1 := ⟨rfl, ⟨by decide, by decide, by decide +kernel⟩, gm 685 rfl rfl, gm 7 (by decide +kernel) rfl, gm 683 (by decide +kernel) rfl, gm 684 (by decide +kernel) rfl, Or.inl (gm 682 (by decide +kernel) rfl)⟩
set_option maxRecDepth 20000 in
theorem lk_LL_83 : lkV "EdgeJoinsLaw" 83 R_X y_X_run b_X_run 5 (some .int) 0 := ⟨rfl, ⟨by decide, by decide, by decide +kernel⟩, gm 198 rfl rfl, gm 1 (by decide +kernel) rfl, gm 196 (by decide +kernel) rfl, gm 197 (by decide +kernel) rfl, Or.inl (gm 195 (by decide +kernel) rfl)⟩
set_option maxRecDepth 20000 in
theorem lk_LL_86 : lkV "EdgeJoinsLaw" 86 R_Model y_Model_run b_Model_run 4 (some .int) 0 := ⟨rfl, ⟨by decide, by decide, by decide +kernel⟩, gm 689 rfl rfl, gm 7 (by decide +kernel) rfl, gm 687 (by decide +kernel) rfl, gm 688 (by decide +kernel) rfl, Or.inl (gm 686 (by decide +kernel) rfl)⟩
set_option maxRecDepth 20000 in
theorem lk_LL_89 : lkV "EdgeJoinsLaw" 89 R_Model y_Model_pair b_Model_pair 3 (some .int) 2 := ⟨rfl, ⟨by decide, by decide, by decide +kernel⟩, gm 725 rfl rfl, gm 7 (by decide +kernel) rfl, gm 723 (by decide +kernel) rfl, gm 724 (by decide +kernel) rfl, Or.inl (gm 722 (by decide +kernel) rfl)⟩
set_option maxRecDepth 20000 in
theorem lk_LL_92 : lkV "EdgeJoinsLaw" 92 R_Model y_Model_join b_Model_join 5 (some .int) 1 := ⟨rfl, ⟨by decide, by decide, by decide +kernel⟩, gm 733 rfl rfl, gm 7 (by decide +kernel) rfl, gm 731 (by decide +kernel) rfl, gm 732 (by decide +kernel) rfl, Or.inl (gm 730 (by decide +kernel) rfl)⟩
set_option maxRecDepth 20000 in
theorem lk_LL_93 : lkV "EdgeJoinsLaw" 93 R_X y_X_undo b_X_undo 1 (some .boolean) 0 := ⟨rfl, ⟨by decide, by decide, by decide +kernel⟩, gm 246 rfl rfl, gm 1 (by decide +kernel) rfl, gm 244 (by decide +kernel) rfl, gm 245 (by decide +kernel) rfl, Or.inl (gm 243 (by decide +kernel) rfl)⟩
set_option maxRecDepth 20000 in
theorem lk_LL_97 : lkV "EdgeJoinsLaw" 97 R_Model y_Model_undo b_Model_undo 2 (some .boolean) 0 := ⟨rfl, ⟨by decide, by decide, by decide +kernel⟩, gm 761 rfl rfl, gm 7 (by decide +kernel) rfl, gm 759 (by decide +kernel) rfl, gm 760 (by decide +kernel) rfl, Or.inl (gm 758 (by decide +kernel) rfl)⟩
set_option maxRecDepth 20000 in
theorem lk_LL_100 : lkV "EdgeJoinsLaw" 100 R_Model y_Model_place b_Model_place 3 (some .int) 2 := ⟨rfl, ⟨by decide, by decide, by decide +kernel⟩, gm 765 rfl rfl, gm 7 (by decide +kernel) rfl, gm 763 (by decide +kernel) rfl, gm 764 (by decide +kernel) rfl, Or.inl (gm 762 (by decide +kernel) rfl)⟩
set_option maxRecDepth 20000 in
theorem lk_LL_103 : lkV "EdgeJoinsLaw" 103 R_Model y_Model_holes b_Model_holes 4 (some .int) 1 := ⟨rfl, ⟨by decide, by decide, by decide +kernel⟩, gm 769 rfl rfl, gm 7 (by decide +kernel) rfl, gm 767 (by decide +kernel) rfl, gm 768 (by decide +kernel) rfl, Or.inl (gm 766 (by decide +kernel) rfl)⟩
set_option maxRecDepth 20000 in
theorem lk_LL_106 : lkV "EdgeJoinsLaw" 106 R_Model y_Model_count b_Model_count 4 (some .int) 1 := ⟨rfl, ⟨by decide, by decide, by decide +kernel⟩, gm 785 rfl rfl, gm 7 (by decide +kernel) rfl, gm 783 (by decide +kernel) rfl, gm 784 (by decide +kernel) rfl, Or.inl (gm 782 (by decide +kernel) rfl)⟩
set_option maxRecDepth 20000 in
theorem lw_LS_56 : lkW "EdgeJoinsLaw" 56 y_Law_sherd b_Law_sherd 3 (some .int) [(0, 8, 11, 13)] 2 := ⟨⟨by decide, by decide, by decide +kernel⟩, gm 253 (by decide +kernel) rfl, gm 0 (by decide +kernel) rfl, gm 252 (by decide +kernel) rfl, gm 251 (by decide +kernel) rfl⟩
set_option maxRecDepth 20000 in
theorem lw_LS_65 : lkW "EdgeJoinsLaw" 65 y_Law_step b_Law_step 5 (some .int) [(0, 10, 13, 19), (0, 10, 17, 13), (0, 10, 21, 21)] 4 := ⟨⟨by decide, by decide, by decide +kernel⟩, gm 329 (by decide +kernel) rfl, gm 0 (by decide +kernel) rfl, gm 328 (by decide +kernel) rfl, gm 327 (by decide +kernel) rfl⟩
set_option maxRecDepth 20000 in
theorem lw_LS_69 : lkW "EdgeJoinsLaw" 69 y_Law_height b_Law_height 6 (some .int) [(0, 12, 15, 19), (0, 12, 19, 21)] 5 := ⟨⟨by decide, by decide, by decide +kernel⟩, gm 387 (by decide +kernel) rfl, gm 0 (by decide +kernel) rfl, gm 386 (by decide +kernel) rfl, gm 385 (by decide +kernel) rfl⟩
set_option maxRecDepth 20000 in
theorem lw_LS_73 : lkW "EdgeJoinsLaw" 73 y_Law_close b_Law_close 4 (some .int) [(0, 9, 12, 19)] 3 := ⟨⟨by decide, by decide, by decide +kernel⟩, gm 396 (by decide +kernel) rfl, gm 0 (by decide +kernel) rfl, gm 395 (by decide +kernel) rfl, gm 394 (by decide +kernel) rfl⟩
set_option maxRecDepth 20000 in
theorem lw_LS_77 : lkW "EdgeJoinsLaw" 77 y_Law_least b_Law_least 4 (some .int) [(0, 9, 12, 21)] 3 := ⟨⟨by decide, by decide, by decide +kernel⟩, gm 416 (by decide +kernel) rfl, gm 0 (by decide +kernel) rfl, gm 415 (by decide +kernel) rfl, gm 414 (by decide +kernel) rfl⟩
set_option maxRecDepth 20000 in
theorem lw_LS_80 : lkW "EdgeJoinsLaw" 80 y_Law_bound b_Law_bound 4 (some .int) [(0, 9, 12, 21)] 3 := ⟨⟨by decide, by decide, by decide +kernel⟩, gm 424 (by decide +kernel) rfl, gm 0 (by decide +kernel) rfl, gm 423 (by decide +kernel) rfl, gm 422 (by decide +kernel) rfl⟩
set_option maxRecDepth 20000 in
theorem lw_LS_87 : lkW "EdgeJoinsLaw" 87 y_Law_pair b_Law_pair 5 (some .int) [(0, 10, 13, 19)] 4 := ⟨⟨by decide, by decide, by decide +kernel⟩, gm 432 (by decide +kernel) rfl, gm 0 (by decide +kernel) rfl, gm 431 (by decide +kernel) rfl, gm 430 (by decide +kernel) rfl⟩
set_option maxRecDepth 20000 in
theorem lw_LS_90 : lkW "EdgeJoinsLaw" 90 y_Law_join b_Law_join 4 (some .int) [(0, 9, 12, 19)] 3 := ⟨⟨by decide, by decide, by decide +kernel⟩, gm 445 (by decide +kernel) rfl, gm 0 (by decide +kernel) rfl, gm 444 (by decide +kernel) rfl, gm 443 (by decide +kernel) rfl⟩
set_option maxRecDepth 20000 in
theorem lw_LS_98 : lkW "EdgeJoinsLaw" 98 y_Law_place b_Law_place 5 (some .int) [(0, 10, 13, 19)] 4 := ⟨⟨by decide, by decide, by decide +kernel⟩, gm 512 (by decide +kernel) rfl, gm 0 (by decide +kernel) rfl, gm 511 (by decide +kernel) rfl, gm 510 (by decide +kernel) rfl⟩
set_option maxRecDepth 20000 in
theorem lw_LS_101 : lkW "EdgeJoinsLaw" 101 y_Law_holes b_Law_holes 4 (some .int) [(0, 9, 12, 19)] 3 := ⟨⟨by decide, by decide, by decide +kernel⟩, gm 520 (by decide +kernel) rfl, gm 0 (by decide +kernel) rfl, gm 519 (by decide +kernel) rfl, gm 518 (by decide +kernel) rfl⟩
set_option maxRecDepth 20000 in
theorem lw_LS_104 : lkW "EdgeJoinsLaw" 104 y_Law_count b_Law_count 4 (some .int) [(0, 9, 12, 19)] 3 := ⟨⟨by decide, by decide, by decide +kernel⟩, gm 539 (by decide +kernel) rfl, gm 0 (by decide +kernel) rfl, gm 538 (by decide +kernel) rfl, gm 537 (by decide +kernel) rfl⟩
