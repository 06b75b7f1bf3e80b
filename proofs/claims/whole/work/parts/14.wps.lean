-- EdgeJoins.sherd()I
def wp_X_sherd (M0 : Mem) (Post : Int → Mem → Prop) (PostX : Nat → Prop) : Prop :=
    (in32 (M0 0 5) ∧ ((M0 0 5) < 6 → (∀ M_1 : Mem, M_1 = up M0 0 5 ((M0 0 5) + 1) → Post ((M_1 0 5) - 1) M_1)) ∧ (¬ (M0 0 5) < 6 → PostX 1))
-- EdgeJoins.isSherd(I)Z
def wp_X_isSherd (x1 : Int) (M0 : Mem) (Post : Int → Prop) : Prop :=
    (in32 x1 ∧ (x1 < 0 → Post 0) ∧ (¬ x1 < 0 → (in32 x1 ∧ (in32 (M0 0 5) ∧ ((M0 0 5) ≤ x1 → Post 0) ∧ (¬ (M0 0 5) ≤ x1 → Post 1)))))
-- EdgeJoins.edgeOf(I)LEdgeJoins$Edge;
def wp_X_edgeOf (x1 : Int) (M0 : Mem) (Post : Nat → Prop) (PostX : Nat → Prop) : Prop :=
    (wp_X_isSherd x1 M0 (fun r_1 => (in32 r_1 ∧ (¬ r_1 = 0 → ((0 ≤ x1 ∧ x1 < 6) ∧ Post (114 + 10 * x1.toNat))) ∧ (r_1 = 0 → PostX 0))))
-- EdgeJoins$Edge.append(I)V
def wp_Edge_append (k0 : Nat) (x1 : Int) (M0 : Mem) (Post : Mem → Prop) : Prop :=
    (in32 (M0 k0 4) ∧ ((M0 k0 4) < 28 → ((0 ≤ (M0 k0 4) ∧ (M0 k0 4) < 28) ∧ ∀ M_1 : Mem, M_1 = up M0 (k0 + 1) (M0 k0 4).toNat x1 → ((0 ≤ (M_1 k0 4) ∧ (M_1 k0 4) < 29) ∧ ((0 ≤ (x1 % 4) ∧ (x1 % 4) < 4) ∧ ((0 ≤ ((M_1 k0 4) + 1) ∧ ((M_1 k0 4) + 1) < 29) ∧ ∀ M_3 : Mem, M_3 = up M_1 (k0 + 3) ((M_1 k0 4) + 1).toNat ((M_1 (k0 + 3) (M_1 k0 4).toNat) + (stX (x1 % 4))) → ((0 ≤ (M_3 k0 4) ∧ (M_3 k0 4) < 29) ∧ ((0 ≤ (x1 % 4) ∧ (x1 % 4) < 4) ∧ ((0 ≤ ((M_3 k0 4) + 1) ∧ ((M_3 k0 4) + 1) < 29) ∧ ∀ M_5 : Mem, M_5 = up M_3 (k0 + 4) ((M_3 k0 4) + 1).toNat ((M_3 (k0 + 4) (M_3 k0 4).toNat) + (stY (x1 % 4))) → (∀ M_6 : Mem, M_6 = up M_5 k0 4 ((M_5 k0 4) + 1) → Post M_6))))))))) ∧ (¬ (M0 k0 4) < 28 → Post M0))
-- EdgeJoins.step(II)I
def wp_X_step (x1 x2 : Int) (M0 : Mem) (Post : Int → Mem → Prop) (PostX : Nat → Prop) : Prop :=
    (wp_X_edgeOf x1 M0 (fun r_1 => (in32 (M0 r_1 5) ∧ (¬ (M0 r_1 5) = 0 → PostX 1) ∧ ((M0 r_1 5) = 0 → (in32 (M0 r_1 4) ∧ ((M0 r_1 4) < 28 → (in32 x2 ∧ (x2 < 0 → PostX 2) ∧ (¬ x2 < 0 → (in32 x2 ∧ (x2 ≤ 3 → (wp_Edge_append r_1 x2 M0 (fun M_3 => Post (M_3 r_1 4) M_3))) ∧ (¬ x2 ≤ 3 → PostX 2))))) ∧ (¬ (M0 r_1 4) < 28 → PostX 1))))) PostX)
-- EdgeJoins$Ranking.clear()V
def wp_Ranking_clear (M0 : Mem) (Post : Mem → Prop) : Prop :=
    (∀ M_1 : Mem, M_1 = up M0 8 1 0 → Post M_1)
-- EdgeJoins.height(III)I
def wp_X_height (x1 x2 x3 : Int) (M0 : Mem) (Post : Int → Mem → Prop) (PostX : Nat → Prop) : Prop :=
    (wp_X_edgeOf x1 M0 (fun r_1 => (in32 x2 ∧ (x2 < 0 → PostX 0) ∧ (¬ x2 < 0 → (in32 x2 ∧ (in32 (M0 r_1 4) ∧ (x2 < (M0 r_1 4) → (in32 x3 ∧ (x3 < 0 → PostX 2) ∧ (¬ x3 < 0 → (in32 x3 ∧ (x3 ≤ 99 → ((0 ≤ x2 ∧ x2 < 28) ∧ (∀ v5_2 : Int, v5_2 = (M0 (r_1 + 2) x2.toNat) → ((0 ≤ x2 ∧ x2 < 28) ∧ ∀ M_3 : Mem, M_3 = up M0 (r_1 + 2) x2.toNat x3 → (wp_Ranking_clear M_3 (fun M_5 => Post v5_2 M_5)))))) ∧ (¬ x3 ≤ 99 → PostX 2))))) ∧ (¬ x2 < (M0 r_1 4) → PostX 0)))))) PostX)
-- EdgeJoins$Edge.comesToACornerTwice()Z
def wp_Edge_comesToACornerTwice_14 (X2 : Int → Prop) (k0 : Nat) (M0 : Mem) (Post : Int → Prop) : Nat → Int → Int → Prop
  | 0, _, _ => False
  | n + 1, x1, x2 =>
    (in32 x2 ∧ (in32 (M0 k0 4) ∧ ((M0 k0 4) ≤ x2 → (∀ v1_1 : Int, v1_1 = x1 + 1 → X2 v1_1)) ∧ (¬ (M0 k0 4) ≤ x2 → ((0 ≤ x1 ∧ x1 < 29) ∧ ((0 ≤ x2 ∧ x2 < 29) ∧ (in32 (M0 (k0 + 3) x1.toNat) ∧ (in32 (M0 (k0 + 3) x2.toNat) ∧ (¬ (M0 (k0 + 3) x1.toNat) = (M0 (k0 + 3) x2.toNat) → (∀ v2_2 : Int, v2_2 = x2 + 1 → wp_Edge_comesToACornerTwice_14 X2 k0 M0 Post n x1 v2_2)) ∧ ((M0 (k0 + 3) x1.toNat) = (M0 (k0 + 3) x2.toNat) → ((0 ≤ x1 ∧ x1 < 29) ∧ ((0 ≤ x2 ∧ x2 < 29) ∧ (in32 (M0 (k0 + 4) x1.toNat) ∧ (in32 (M0 (k0 + 4) x2.toNat) ∧ (¬ (M0 (k0 + 4) x1.toNat) = (M0 (k0 + 4) x2.toNat) → (∀ v2_3 : Int, v2_3 = x2 + 1 → wp_Edge_comesToACornerTwice_14 X2 k0 M0 Post n x1 v2_3)) ∧ ((M0 (k0 + 4) x1.toNat) = (M0 (k0 + 4) x2.toNat) → Post 1)))))))))))))
def wp_Edge_comesToACornerTwice_2 (k0 : Nat) (M0 : Mem) (Post : Int → Prop) : Nat → Int → Prop
  | 0, _ => False
  | n + 1, x1 =>
    (in32 x1 ∧ (in32 (M0 k0 4) ∧ ((M0 k0 4) ≤ x1 → Post 0) ∧ (¬ (M0 k0 4) ≤ x1 → (∀ v2_1 : Int, v2_1 = (x1 + 1) → ∃ nn, wp_Edge_comesToACornerTwice_14 (fun y0 => wp_Edge_comesToACornerTwice_2 k0 M0 Post n y0) k0 M0 Post nn x1 v2_1))))
def wp_Edge_comesToACornerTwice (k0 : Nat) (M0 : Mem) (Post : Int → Prop) : Prop :=
    ∃ nn, wp_Edge_comesToACornerTwice_2 k0 M0 Post nn 0
-- EdgeJoins$Edge.area()I
def wp_Edge_area_4 (k0 : Nat) (M0 : Mem) (Post : Int → Prop) : Nat → Int → Int → Prop
  | 0, _, _ => False
  | n + 1, x1, x2 =>
    (in32 x2 ∧ (in32 (M0 k0 4) ∧ ((M0 k0 4) ≤ x2 → Post x1) ∧ (¬ (M0 k0 4) ≤ x2 → ((0 ≤ x2 ∧ x2 < 29) ∧ ((0 ≤ x2 ∧ x2 < 28) ∧ ((0 ≤ ((M0 (k0 + 1) x2.toNat) % 4) ∧ ((M0 (k0 + 1) x2.toNat) % 4) < 4) ∧ (∀ v1_2 : Int, v1_2 = (x1 + ((M0 (k0 + 3) x2.toNat) * (stY ((M0 (k0 + 1) x2.toNat) % 4)))) → (∀ v2_3 : Int, v2_3 = x2 + 1 → wp_Edge_area_4 k0 M0 Post n v1_2 v2_3))))))))
def wp_Edge_area (k0 : Nat) (M0 : Mem) (Post : Int → Prop) : Prop :=
    ∃ nn, wp_Edge_area_4 k0 M0 Post nn 0 0
-- EdgeJoins$Edge.canBeClosed()Z
def wp_Edge_canBeClosed (k0 : Nat) (M0 : Mem) (Post : Int → Prop) : Prop :=
    (in32 (M0 k0 4) ∧ ((M0 k0 4) < 4 → Post 0) ∧ (¬ (M0 k0 4) < 4 → ((0 ≤ (M0 k0 4) ∧ (M0 k0 4) < 29) ∧ (in32 (M0 (k0 + 3) (M0 k0 4).toNat) ∧ (¬ (M0 (k0 + 3) (M0 k0 4).toNat) = 0 → Post 0) ∧ ((M0 (k0 + 3) (M0 k0 4).toNat) = 0 → ((0 ≤ (M0 k0 4) ∧ (M0 k0 4) < 29) ∧ (in32 (M0 (k0 + 4) (M0 k0 4).toNat) ∧ (¬ (M0 (k0 + 4) (M0 k0 4).toNat) = 0 → Post 0) ∧ ((M0 (k0 + 4) (M0 k0 4).toNat) = 0 → (wp_Edge_comesToACornerTwice k0 M0 (fun r_1 => (in32 r_1 ∧ (¬ r_1 = 0 → Post 0) ∧ (r_1 = 0 → (wp_Edge_area k0 M0 (fun r_2 => (in32 r_2 ∧ (r_2 ≤ 0 → Post 0) ∧ (¬ r_2 ≤ 0 → Post 1))))))))))))))))
-- EdgeJoins.close(I)I
def wp_X_close (x1 : Int) (M0 : Mem) (Post : Int → Mem → Prop) (PostX : Nat → Prop) : Prop :=
    (wp_X_edgeOf x1 M0 (fun r_1 => (in32 (M0 r_1 5) ∧ (¬ (M0 r_1 5) = 0 → Post 0 M0) ∧ ((M0 r_1 5) = 0 → (wp_Edge_canBeClosed r_1 M0 (fun r_2 => (in32 r_2 ∧ (¬ r_2 = 0 → (∀ M_3 : Mem, M_3 = up M0 r_1 5 1 → (∀ M_4 : Mem, M_4 = up M_3 0 6 ((M_3 0 6) + 1) → (wp_Ranking_clear M_4 (fun M_6 => (wp_Edge_area r_1 M_6 (fun r_7 => Post r_7 M_6))))))) ∧ (r_2 = 0 → Post 0 M0))))))) PostX)
-- EdgeJoins.least(I)I
def wp_X_least (x1 : Int) (M0 : Mem) (Post : Int → Mem → Prop) (PostX : Nat → Prop) : Prop :=
    (in32 x1 ∧ (x1 < 2 → PostX 2) ∧ (¬ x1 < 2 → (in32 x1 ∧ (x1 ≤ 20 → (∀ v2_1 : Int, v2_1 = (M0 0 8) → (∀ M_2 : Mem, M_2 = up M0 0 8 x1 → (wp_Ranking_clear M_2 (fun M_4 => Post v2_1 M_4))))) ∧ (¬ x1 ≤ 20 → PostX 2))))
-- EdgeJoins.bound(I)I
def wp_X_bound (x1 : Int) (M0 : Mem) (Post : Int → Mem → Prop) (PostX : Nat → Prop) : Prop :=
    (in32 x1 ∧ (x1 < 0 → PostX 2) ∧ (¬ x1 < 0 → (in32 x1 ∧ (x1 ≤ 9801 → (∀ v2_1 : Int, v2_1 = (M0 0 9) → (∀ M_2 : Mem, M_2 = up M0 0 9 x1 → (wp_Ranking_clear M_2 (fun M_4 => Post v2_1 M_4))))) ∧ (¬ x1 ≤ 9801 → PostX 2))))
-- EdgeJoins$Edge.before(I)I
def wp_Edge_before (k0 : Nat) (x1 : Int) (M0 : Mem) (Post : Int → Prop) : Prop :=
    (in32 x1 ∧ (x1 ≤ 0 → Post ((M0 k0 4) - 1)) ∧ (¬ x1 ≤ 0 → Post (x1 - 1)))
-- EdgeJoins$Edge.after(I)I
def wp_Edge_after (k0 : Nat) (x1 : Int) (M0 : Mem) (Post : Int → Prop) : Prop :=
    (in32 (x1 + 1) ∧ (in32 (M0 k0 4) ∧ ((M0 k0 4) ≤ (x1 + 1) → Post 0) ∧ (¬ (M0 k0 4) ≤ (x1 + 1) → Post (x1 + 1))))
-- EdgeJoins.contrary(III)Z
def wp_X_contrary (x0 x1 x2 : Int) (M0 : Mem) (Post : Int → Prop) : Prop :=
    (in32 ((x1 + x2) % 4) ∧ (in32 ((x0 + 2) % 4) ∧ (¬ ((x1 + x2) % 4) = ((x0 + 2) % 4) → Post 0) ∧ (((x1 + x2) % 4) = ((x0 + 2) % 4) → Post 1)))
-- EdgeJoins.stretch(LEdgeJoins$Edge;ILEdgeJoins$Edge;II)I
def wp_X_stretch_16 (k0 : Nat) (k2 : Nat) (M0 : Mem) (Post : Int → Prop) : Nat → Int → Int → Int → Int → Int → Prop
  | 0, _, _, _, _, _ => False
  | n + 1, x1, x3, x4, x5, x6 =>
    (in32 x6 ∧ (in32 x5 ∧ (x5 ≤ x6 → Post x6) ∧ (¬ x5 ≤ x6 → ((0 ≤ x1 ∧ x1 < 28) ∧ ((0 ≤ x3 ∧ x3 < 28) ∧ (wp_X_contrary (M0 (k0 + 1) x1.toNat) (M0 (k2 + 1) x3.toNat) x4 M0 (fun r_1 => (in32 r_1 ∧ (r_1 = 0 → Post x6) ∧ (¬ r_1 = 0 → (∀ v6_2 : Int, v6_2 = x6 + 1 → (wp_Edge_after k0 x1 M0 (fun r_3 => (wp_Edge_before k2 x3 M0 (fun r_4 => wp_X_stretch_16 k0 k2 M0 Post n r_3 r_4 x4 x5 v6_2))))))))))))))
def wp_X_stretch (k0 : Nat) (k2 : Nat) (x1 x3 x4 : Int) (M0 : Mem) (Post : Int → Prop) : Prop :=
    (in32 (M0 k0 4) ∧ (in32 (M0 k2 4) ∧ (∀ v5_1 : Int, v5_1 = (min (M0 k0 4) (M0 k2 4)) → ∃ nn, wp_X_stretch_16 k0 k2 M0 Post nn x1 x3 x4 v5_1 0)))
-- EdgeJoins.squares(LEdgeJoins$Edge;ILEdgeJoins$Edge;II)I
def wp_X_squares_6 (k0 : Nat) (k2 : Nat) (M0 : Mem) (Post : Int → Prop) : Nat → Int → Int → Int → Int → Int → Prop
  | 0, _, _, _, _, _ => False
  | n + 1, x1, x3, x4, x5, x6 =>
    (in32 x6 ∧ (in32 x4 ∧ (x4 ≤ x6 → Post x5) ∧ (¬ x4 ≤ x6 → ((0 ≤ x1 ∧ x1 < 28) ∧ ((0 ≤ x3 ∧ x3 < 28) ∧ (∀ v7_1 : Int, v7_1 = ((M0 (k0 + 2) x1.toNat) - (M0 (k2 + 2) x3.toNat)) → (∀ v5_2 : Int, v5_2 = (x5 + (v7_1 * v7_1)) → (wp_Edge_after k0 x1 M0 (fun r_3 => (wp_Edge_before k2 x3 M0 (fun r_4 => (∀ v6_5 : Int, v6_5 = x6 + 1 → wp_X_squares_6 k0 k2 M0 Post n r_3 r_4 x4 v5_2 v6_5))))))))))))
def wp_X_squares (k0 : Nat) (k2 : Nat) (x1 x3 x4 : Int) (M0 : Mem) (Post : Int → Prop) : Prop :=
    ∃ nn, wp_X_squares_6 k0 k2 M0 Post nn x1 x3 x4 0 0
-- EdgeJoins$Pair.become(IIIIIII)V
def wp_Pair_become (k0 : Nat) (x1 x2 x3 x4 x5 x6 x7 : Int) (M0 : Mem) (Post : Mem → Prop) : Prop :=
    (∀ M_1 : Mem, M_1 = up M0 k0 0 x1 → (∀ M_2 : Mem, M_2 = up M_1 k0 1 x2 → (∀ M_3 : Mem, M_3 = up M_2 k0 2 x3 → (∀ M_4 : Mem, M_4 = up M_3 k0 3 x4 → (∀ M_5 : Mem, M_5 = up M_4 k0 4 x5 → (∀ M_6 : Mem, M_6 = up M_5 k0 5 x6 → (∀ M_7 : Mem, M_7 = up M_6 k0 6 x7 → Post M_7)))))))
-- EdgeJoins$Pair.ranksAhead(LEdgeJoins$Pair;)Z
def wp_Pair_ranksAhead (k0 : Nat) (k1 : Nat) (M0 : Mem) (Post : Int → Prop) : Prop :=
    (∀ v2_1 : Int, v2_1 = ((M0 k0 5) * (M0 k1 4)) → (∀ v3_2 : Int, v3_2 = ((M0 k1 5) * (M0 k0 4)) → (in32 v2_1 ∧ (in32 v3_2 ∧ (v2_1 = v3_2 → (in32 (M0 k0 4) ∧ (in32 (M0 k1 4) ∧ ((M0 k0 4) ≤ (M0 k1 4) → Post 0) ∧ (¬ (M0 k0 4) ≤ (M0 k1 4) → Post 1)))) ∧ (¬ v2_1 = v3_2 → (in32 v2_1 ∧ (in32 v3_2 ∧ (v3_2 ≤ v2_1 → Post 0) ∧ (¬ v3_2 ≤ v2_1 → Post 1))))))))
-- EdgeJoins$Ranking.offer(IIIIIII)V
def wp_Ranking_offer_77 (k8 : Nat) (x9 : Int) (M0 : Mem) (Post : Mem → Prop) : Prop :=
    ((0 ≤ x9 ∧ x9 < 101) ∧ ∀ M_1 : Mem, M_1 = up M0 9 x9.toNat ((k8 : Nat) - 10 : Int) → (in32 (M_1 8 1) ∧ (100 ≤ (M_1 8 1) → Post M_1) ∧ (¬ 100 ≤ (M_1 8 1) → (∀ M_2 : Mem, M_2 = up M_1 8 1 ((M_1 8 1) + 1) → Post M_2))))
def wp_Ranking_offer_33 (k8 : Nat) (Post : Mem → Prop) : Nat → Int → Mem → Prop
  | 0, _, _ => False
  | n + 1, x9, M0 =>
    (in32 x9 ∧ (x9 ≤ 0 → wp_Ranking_offer_77 k8 x9 M0 Post) ∧ (¬ x9 ≤ 0 → ((0 ≤ (x9 - 1) ∧ (x9 - 1) < 101) ∧ (wp_Pair_ranksAhead k8 (10 + (M0 9 (x9 - 1).toNat).toNat % 101) M0 (fun r_2 => (in32 r_2 ∧ (r_2 = 0 → wp_Ranking_offer_77 k8 x9 M0 Post) ∧ (¬ r_2 = 0 → ((0 ≤ (x9 - 1) ∧ (x9 - 1) < 101) ∧ ((0 ≤ x9 ∧ x9 < 101) ∧ ∀ M_4 : Mem, M_4 = up M0 9 x9.toNat (((10 + (M0 9 (x9 - 1).toNat).toNat % 101) : Nat) - 10 : Int) → (∀ v9_5 : Int, v9_5 = x9 + (-1) → wp_Ranking_offer_33 k8 Post n v9_5 M_4))))))))))
def wp_Ranking_offer (x1 x2 x3 x4 x5 x6 x7 : Int) (M0 : Mem) (Post : Mem → Prop) : Prop :=
    ((0 ≤ (M0 8 1) ∧ (M0 8 1) < 101) ∧ (∀ k8_2 : Nat, k8_2 = (10 + (M0 9 (M0 8 1).toNat).toNat % 101) → (wp_Pair_become k8_2 x1 x2 x3 x4 x5 x6 x7 M0 (fun M_4 => (∀ v9_5 : Int, v9_5 = (M_4 8 1) → ∃ nn, wp_Ranking_offer_33 k8_2 Post nn v9_5 M_4)))))
-- EdgeJoins.listIfPair(IIII)Z
def wp_X_listIfPair (x1 x2 x3 x4 : Int) (M0 : Mem) (Post : Int → Mem → Prop) : Prop :=
    ((0 ≤ x1 ∧ x1 < 6) ∧ (∀ k5_2 : Nat, k5_2 = (114 + 10 * x1.toNat) → ((0 ≤ x3 ∧ x3 < 6) ∧ (∀ k6_4 : Nat, k6_4 = (114 + 10 * x3.toNat) → ((0 ≤ x2 ∧ x2 < 28) ∧ ((0 ≤ x4 ∧ x4 < 28) ∧ (∀ v7_5 : Int, v7_5 = ((((M0 (k5_2 + 1) x2.toNat) + 2) - (M0 (k6_4 + 1) x4.toNat)) % 4) → (wp_Edge_before k5_2 x2 M0 (fun r_6 => ((0 ≤ r_6 ∧ r_6 < 28) ∧ (wp_Edge_after k6_4 x4 M0 (fun r_7 => ((0 ≤ r_7 ∧ r_7 < 28) ∧ (wp_X_contrary (M0 (k5_2 + 1) r_6.toNat) (M0 (k6_4 + 1) r_7.toNat) v7_5 M0 (fun r_8 => (in32 r_8 ∧ (r_8 = 0 → (wp_X_stretch k5_2 k6_4 x2 x4 v7_5 M0 (fun r_9 => (in32 r_9 ∧ (in32 (M0 0 8) ∧ ((M0 0 8) ≤ r_9 → (wp_X_squares k5_2 k6_4 x2 x4 r_9 M0 (fun r_10 => (in32 r_10 ∧ (in32 ((M0 0 9) * r_9) ∧ (r_10 ≤ ((M0 0 9) * r_9) → (wp_Ranking_offer x1 x2 x3 x4 r_9 r_10 v7_5 M0 (fun M_12 => Post 1 M_12))) ∧ (¬ r_10 ≤ ((M0 0 9) * r_9) → Post 0 M0)))))) ∧ (¬ (M0 0 8) ≤ r_9 → Post 0 M0)))))) ∧ (¬ r_8 = 0 → Post 0 M0)))))))))))))))))
-- EdgeJoins.listPairsWith(III)I
def wp_X_listPairsWith_20 (Post : Int → Mem → Prop) : Nat → Int → Int → Int → Int → Int → Mem → Prop
  | 0, _, _, _, _, _, _ => False
  | n + 1, x1, x2, x3, x4, x5, M0 =>
    ((0 ≤ x3 ∧ x3 < 6) ∧ (in32 x5 ∧ (in32 (M0 (114 + 10 * x3.toNat) 4) ∧ ((M0 (114 + 10 * x3.toNat) 4) ≤ x5 → Post x4 M0) ∧ (¬ (M0 (114 + 10 * x3.toNat) 4) ≤ x5 → (wp_X_listIfPair x1 x2 x3 x5 M0 (fun r_2 M_3 => (in32 r_2 ∧ (r_2 = 0 → (∀ v5_4 : Int, v5_4 = x5 + 1 → wp_X_listPairsWith_20 Post n x1 x2 x3 x4 v5_4 M_3)) ∧ (¬ r_2 = 0 → (∀ v4_5 : Int, v4_5 = x4 + 1 → (∀ v5_6 : Int, v5_6 = x5 + 1 → wp_X_listPairsWith_20 Post n x1 x2 x3 v4_5 v5_6 M_3))))))))))
def wp_X_listPairsWith (x1 x2 x3 : Int) (M0 : Mem) (Post : Int → Mem → Prop) : Prop :=
    ((0 ≤ x3 ∧ x3 < 6) ∧ (in32 (M0 (114 + 10 * x3.toNat) 5) ∧ (¬ (M0 (114 + 10 * x3.toNat) 5) = 0 → ∃ nn, wp_X_listPairsWith_20 Post nn x1 x2 x3 0 0 M0) ∧ ((M0 (114 + 10 * x3.toNat) 5) = 0 → Post 0 M0)))
-- EdgeJoins.run()I
def wp_X_run_51 (X11 : Int → Int → Mem → Prop) (X21 : Int → Int → Int → Mem → Prop) (Post : Int → Mem → Prop) : Nat → Int → Int → Int → Int → Mem → Prop
  | 0, _, _, _, _, _ => False
  | n + 1, x1, x2, x3, x4, M0 =>
    (in32 x4 ∧ (in32 (M0 0 5) ∧ ((M0 0 5) ≤ x4 → (∀ v3_1 : Int, v3_1 = x3 + 1 → X21 x1 x2 v3_1 M0)) ∧ (¬ (M0 0 5) ≤ x4 → (wp_X_listPairsWith x2 x3 x4 M0 (fun r_2 M_3 => (∀ v1_4 : Int, v1_4 = (x1 + r_2) → (∀ v4_5 : Int, v4_5 = x4 + 1 → wp_X_run_51 X11 X21 Post n v1_4 x2 x3 v4_5 M_3)))))))
def wp_X_run_21 (X11 : Int → Int → Mem → Prop) (Post : Int → Mem → Prop) : Nat → Int → Int → Int → Mem → Prop
  | 0, _, _, _, _ => False
  | n + 1, x1, x2, x3, M0 =>
    ((0 ≤ x2 ∧ x2 < 6) ∧ (in32 (M0 (114 + 10 * x2.toNat) 5) ∧ ((M0 (114 + 10 * x2.toNat) 5) = 0 → (∀ v2_2 : Int, v2_2 = x2 + 1 → X11 x1 v2_2 M0)) ∧ (¬ (M0 (114 + 10 * x2.toNat) 5) = 0 → ((0 ≤ x2 ∧ x2 < 6) ∧ (in32 x3 ∧ (in32 (M0 (114 + 10 * x2.toNat) 4) ∧ ((M0 (114 + 10 * x2.toNat) 4) ≤ x3 → (∀ v2_4 : Int, v2_4 = x2 + 1 → X11 x1 v2_4 M0)) ∧ (¬ (M0 (114 + 10 * x2.toNat) 4) ≤ x3 → (∀ v4_5 : Int, v4_5 = (x2 + 1) → ∃ nn, wp_X_run_51 X11 (fun y0 y1 y2 M => wp_X_run_21 X11 Post n y0 y1 y2 M) Post nn x1 x2 x3 v4_5 M0))))))))
def wp_X_run_11 (Post : Int → Mem → Prop) : Nat → Int → Int → Mem → Prop
  | 0, _, _, _ => False
  | n + 1, x1, x2, M0 =>
    (in32 x2 ∧ (in32 (M0 0 5) ∧ ((M0 0 5) ≤ x2 → Post x1 M0) ∧ (¬ (M0 0 5) ≤ x2 → ∃ nn, wp_X_run_21 (fun y0 y1 M => wp_X_run_11 Post n y0 y1 M) Post nn x1 x2 0 M0)))
def wp_X_run (M0 : Mem) (Post : Int → Mem → Prop) : Prop :=
    (wp_Ranking_clear M0 (fun M_2 => ∃ nn, wp_X_run_11 Post nn 0 0 M_2))
-- EdgeJoins.toldPair(I)LEdgeJoins$Pair;
def wp_X_toldPair (x1 : Int) (M0 : Mem) (Post : Nat → Prop) (PostX : Nat → Prop) : Prop :=
    (in32 x1 ∧ (x1 < 0 → PostX 0) ∧ (¬ x1 < 0 → (in32 x1 ∧ (in32 (M0 8 1) ∧ (x1 < (M0 8 1) → ((0 ≤ x1 ∧ x1 < 101) ∧ Post (10 + (M0 9 x1.toNat).toNat % 101))) ∧ (¬ x1 < (M0 8 1) → PostX 0)))))
-- EdgeJoins.pair(II)I
def wp_X_pair (x1 x2 : Int) (M0 : Mem) (Post : Int → Prop) (PostX : Nat → Prop) : Prop :=
    (wp_X_toldPair x1 M0 (fun r_1 => (in32 x2 ∧ (x2 = 0 → Post (M0 r_1 0)) ∧ (x2 = 1 → Post (M0 r_1 1)) ∧ (x2 = 2 → Post (M0 r_1 2)) ∧ (x2 = 3 → Post (M0 r_1 3)) ∧ (x2 = 4 → Post (M0 r_1 4)) ∧ (x2 = 5 → Post (M0 r_1 5)) ∧ ((x2 < 0 ∨ 5 < x2) → PostX 0))) PostX)
-- EdgeJoins.turnedX(III)I
def wp_X_turnedX (x0 x1 x2 : Int) (M0 : Mem) (Post : Int → Prop) : Prop :=
    (in32 (x2 % 4) ∧ ((x2 % 4) = 0 → Post x0) ∧ ((x2 % 4) = 1 → Post (-x1)) ∧ ((x2 % 4) = 2 → Post (-x0)) ∧ (((x2 % 4) < 0 ∨ 2 < (x2 % 4)) → Post x1))
-- EdgeJoins$Layout.placedX(LEdgeJoins$Edge;II)I
def wp_Layout_placedX (k0 : Nat) (k1 : Nat) (x2 x3 : Int) (M0 : Mem) (Post : Int → Prop) : Prop :=
    ((0 ≤ x2 ∧ x2 < 6) ∧ ((0 ≤ x3 ∧ x3 < 29) ∧ ((0 ≤ x3 ∧ x3 < 29) ∧ ((0 ≤ x2 ∧ x2 < 6) ∧ (wp_X_turnedX (M0 (k1 + 3) x3.toNat) (M0 (k1 + 4) x3.toNat) (M0 (k0 + 3) x2.toNat) M0 (fun r_1 => Post ((M0 (k0 + 1) x2.toNat) + r_1)))))))
-- EdgeJoins.turnedY(III)I
def wp_X_turnedY (x0 x1 x2 : Int) (M0 : Mem) (Post : Int → Prop) : Prop :=
    (in32 (x2 % 4) ∧ ((x2 % 4) = 0 → Post x1) ∧ ((x2 % 4) = 1 → Post x0) ∧ ((x2 % 4) = 2 → Post (-x1)) ∧ (((x2 % 4) < 0 ∨ 2 < (x2 % 4)) → Post (-x0)))
-- EdgeJoins$Layout.placedY(LEdgeJoins$Edge;II)I
def wp_Layout_placedY (k0 : Nat) (k1 : Nat) (x2 x3 : Int) (M0 : Mem) (Post : Int → Prop) : Prop :=
    ((0 ≤ x2 ∧ x2 < 6) ∧ ((0 ≤ x3 ∧ x3 < 29) ∧ ((0 ≤ x3 ∧ x3 < 29) ∧ ((0 ≤ x2 ∧ x2 < 6) ∧ (wp_X_turnedY (M0 (k1 + 3) x3.toNat) (M0 (k1 + 4) x3.toNat) (M0 (k0 + 3) x2.toNat) M0 (fun r_1 => Post ((M0 (k0 + 2) x2.toNat) + r_1)))))))
-- EdgeJoins$Layout.lies(IIII)Z
def wp_Layout_lies (k0 : Nat) (x1 x2 x3 x4 : Int) (M0 : Mem) (Post : Int → Prop) : Prop :=
    ((0 ≤ x1 ∧ x1 < 6) ∧ (in32 (M0 (k0 + 1) x1.toNat) ∧ (in32 x2 ∧ (¬ (M0 (k0 + 1) x1.toNat) = x2 → Post 0) ∧ ((M0 (k0 + 1) x1.toNat) = x2 → ((0 ≤ x1 ∧ x1 < 6) ∧ (in32 (M0 (k0 + 2) x1.toNat) ∧ (in32 x3 ∧ (¬ (M0 (k0 + 2) x1.toNat) = x3 → Post 0) ∧ ((M0 (k0 + 2) x1.toNat) = x3 → ((0 ≤ x1 ∧ x1 < 6) ∧ (in32 (M0 (k0 + 3) x1.toNat) ∧ (in32 x4 ∧ (¬ (M0 (k0 + 3) x1.toNat) = x4 → Post 0) ∧ ((M0 (k0 + 3) x1.toNat) = x4 → Post 1))))))))))))
-- EdgeJoins$Layout.copy(LEdgeJoins$Layout;)V
def wp_Layout_copy_2 (k0 : Nat) (k1 : Nat) (Post : Mem → Prop) : Nat → Int → Mem → Prop
  | 0, _, _ => False
  | n + 1, x2, M0 =>
    (in32 x2 ∧ (6 ≤ x2 → Post M0) ∧ (¬ 6 ≤ x2 → ((0 ≤ x2 ∧ x2 < 6) ∧ ((0 ≤ x2 ∧ x2 < 6) ∧ ∀ M_1 : Mem, M_1 = up M0 (k0 + 1) x2.toNat (M0 (k1 + 1) x2.toNat) → ((0 ≤ x2 ∧ x2 < 6) ∧ ((0 ≤ x2 ∧ x2 < 6) ∧ ∀ M_2 : Mem, M_2 = up M_1 (k0 + 2) x2.toNat (M_1 (k1 + 2) x2.toNat) → ((0 ≤ x2 ∧ x2 < 6) ∧ ((0 ≤ x2 ∧ x2 < 6) ∧ ∀ M_3 : Mem, M_3 = up M_2 (k0 + 3) x2.toNat (M_2 (k1 + 3) x2.toNat) → ((0 ≤ x2 ∧ x2 < 6) ∧ ((0 ≤ x2 ∧ x2 < 6) ∧ ∀ M_4 : Mem, M_4 = up M_3 (k0 + 4) x2.toNat (M_3 (k1 + 4) x2.toNat) → (∀ v2_5 : Int, v2_5 = x2 + 1 → wp_Layout_copy_2 k0 k1 Post n v2_5 M_4)))))))))))
def wp_Layout_copy (k0 : Nat) (k1 : Nat) (M0 : Mem) (Post : Mem → Prop) : Prop :=
    ∃ nn, wp_Layout_copy_2 k0 k1 Post nn 0 M0
-- EdgeJoins$Layout.bring(IIII)V
def wp_Layout_bring_58 (k0 : Nat) (Post : Mem → Prop) : Nat → Int → Int → Int → Int → Int → Mem → Prop
  | 0, _, _, _, _, _, _ => False
  | n + 1, x1, x5, x6, x7, x8, M0 =>
    (in32 x8 ∧ (6 ≤ x8 → Post M0) ∧ (¬ 6 ≤ x8 → ((0 ≤ x8 ∧ x8 < 6) ∧ ((0 ≤ x1 ∧ x1 < 6) ∧ (in32 (M0 (k0 + 4) x8.toNat) ∧ (in32 (M0 (k0 + 4) x1.toNat) ∧ (¬ (M0 (k0 + 4) x8.toNat) = (M0 (k0 + 4) x1.toNat) → (∀ v8_1 : Int, v8_1 = x8 + 1 → wp_Layout_bring_58 k0 Post n x1 x5 x6 x7 v8_1 M0)) ∧ ((M0 (k0 + 4) x8.toNat) = (M0 (k0 + 4) x1.toNat) → ((0 ≤ x8 ∧ x8 < 6) ∧ (∀ v9_2 : Int, v9_2 = (M0 (k0 + 1) x8.toNat) → ((0 ≤ x8 ∧ x8 < 6) ∧ (∀ v10_3 : Int, v10_3 = (M0 (k0 + 2) x8.toNat) → (wp_X_turnedX v9_2 v10_3 x5 M0 (fun r_4 => ((0 ≤ x8 ∧ x8 < 6) ∧ ∀ M_5 : Mem, M_5 = up M0 (k0 + 1) x8.toNat (r_4 + x6) → (wp_X_turnedY v9_2 v10_3 x5 M_5 (fun r_6 => ((0 ≤ x8 ∧ x8 < 6) ∧ ∀ M_7 : Mem, M_7 = up M_5 (k0 + 2) x8.toNat (r_6 + x7) → ((0 ≤ x8 ∧ x8 < 6) ∧ ((0 ≤ x8 ∧ x8 < 6) ∧ ∀ M_8 : Mem, M_8 = up M_7 (k0 + 3) x8.toNat (((M_7 (k0 + 3) x8.toNat) + x5) % 4) → (∀ v8_9 : Int, v8_9 = x8 + 1 → wp_Layout_bring_58 k0 Post n x1 x5 x6 x7 v8_9 M_8))))))))))))))))))))
def wp_Layout_bring (k0 : Nat) (x1 x2 x3 x4 : Int) (M0 : Mem) (Post : Mem → Prop) : Prop :=
    ((0 ≤ x1 ∧ x1 < 6) ∧ (∀ v5_1 : Int, v5_1 = ((x4 - (M0 (k0 + 3) x1.toNat)) % 4) → ((0 ≤ x1 ∧ x1 < 6) ∧ ((0 ≤ x1 ∧ x1 < 6) ∧ (wp_X_turnedX (M0 (k0 + 1) x1.toNat) (M0 (k0 + 2) x1.toNat) v5_1 M0 (fun r_2 => (∀ v6_3 : Int, v6_3 = (x2 - r_2) → ((0 ≤ x1 ∧ x1 < 6) ∧ ((0 ≤ x1 ∧ x1 < 6) ∧ (wp_X_turnedY (M0 (k0 + 1) x1.toNat) (M0 (k0 + 2) x1.toNat) v5_1 M0 (fun r_4 => (∀ v7_5 : Int, v7_5 = (x3 - r_4) → ∃ nn, wp_Layout_bring_58 k0 Post nn x1 v5_1 v6_3 v7_5 0 M0))))))))))))
-- EdgeJoins$Layout.unite(II)V
def wp_Layout_unite_36 (k0 : Nat) (Post : Mem → Prop) : Nat → Int → Int → Int → Mem → Prop
  | 0, _, _, _, _ => False
  | n + 1, x3, x4, x5, M0 =>
    (in32 x5 ∧ (6 ≤ x5 → Post M0) ∧ (¬ 6 ≤ x5 → ((0 ≤ x5 ∧ x5 < 6) ∧ (in32 (M0 (k0 + 4) x5.toNat) ∧ (in32 x4 ∧ (¬ (M0 (k0 + 4) x5.toNat) = x4 → (∀ v5_1 : Int, v5_1 = x5 + 1 → wp_Layout_unite_36 k0 Post n x3 x4 v5_1 M0)) ∧ ((M0 (k0 + 4) x5.toNat) = x4 → ((0 ≤ x5 ∧ x5 < 6) ∧ ∀ M_2 : Mem, M_2 = up M0 (k0 + 4) x5.toNat x3 → (∀ v5_3 : Int, v5_3 = x5 + 1 → wp_Layout_unite_36 k0 Post n x3 x4 v5_3 M_2))))))))
def wp_Layout_unite (k0 : Nat) (x1 x2 : Int) (M0 : Mem) (Post : Mem → Prop) : Prop :=
    ((0 ≤ x1 ∧ x1 < 6) ∧ ((0 ≤ x2 ∧ x2 < 6) ∧ (in32 (M0 (k0 + 4) x1.toNat) ∧ (in32 (M0 (k0 + 4) x2.toNat) ∧ (∀ v3_1 : Int, v3_1 = (min (M0 (k0 + 4) x1.toNat) (M0 (k0 + 4) x2.toNat)) → ((0 ≤ x1 ∧ x1 < 6) ∧ ((0 ≤ x2 ∧ x2 < 6) ∧ (in32 (M0 (k0 + 4) x1.toNat) ∧ (in32 (M0 (k0 + 4) x2.toNat) ∧ (∀ v4_2 : Int, v4_2 = (max (M0 (k0 + 4) x1.toNat) (M0 (k0 + 4) x2.toNat)) → ∃ nn, wp_Layout_unite_36 k0 Post nn v3_1 v4_2 0 M0))))))))))
-- EdgeJoins$Board.frame([LEdgeJoins$Edge;LEdgeJoins$Layout;I)V
def wp_Board_frame_45 (X35 : Int → Int → Int → Int → Mem → Prop) (k2 : Nat) (Post : Mem → Prop) : Nat → Int → Int → Int → Int → Int → Mem → Prop
  | 0, _, _, _, _, _, _ => False
  | n + 1, x3, x4, x5, x6, x7, M0 =>
    ((0 ≤ x6 ∧ x6 < 6) ∧ (in32 (M0 (k2 + 4) x6.toNat) ∧ (in32 x3 ∧ (¬ (M0 (k2 + 4) x6.toNat) = x3 → (∀ v6_1 : Int, v6_1 = x6 + 1 → X35 x3 x4 x5 v6_1 M0)) ∧ ((M0 (k2 + 4) x6.toNat) = x3 → ((0 ≤ x6 ∧ x6 < 6) ∧ (in32 x7 ∧ (in32 (M0 (114 + 10 * x6.toNat) 4) ∧ ((M0 (114 + 10 * x6.toNat) 4) ≤ x7 → (∀ v6_3 : Int, v6_3 = x6 + 1 → X35 x3 x4 x5 v6_3 M0)) ∧ (¬ (M0 (114 + 10 * x6.toNat) 4) ≤ x7 → ((0 ≤ x6 ∧ x6 < 6) ∧ (wp_Layout_placedX k2 (114 + 10 * x6.toNat) x6 x7 M0 (fun r_5 => ((0 ≤ x6 ∧ x6 < 6) ∧ (wp_Layout_placedY k2 (114 + 10 * x6.toNat) x6 x7 M0 (fun r_7 => (in32 (M0 111 2) ∧ (in32 r_5 ∧ (∀ M_8 : Mem, M_8 = up M0 111 2 (min (M0 111 2) r_5) → (in32 x4 ∧ (in32 r_5 ∧ (∀ v4_9 : Int, v4_9 = (max x4 r_5) → (in32 (M_8 111 3) ∧ (in32 r_7 ∧ (∀ M_10 : Mem, M_10 = up M_8 111 3 (min (M_8 111 3) r_7) → (in32 x5 ∧ (in32 r_7 ∧ (∀ v5_11 : Int, v5_11 = (max x5 r_7) → (∀ v7_12 : Int, v7_12 = x7 + 1 → wp_Board_frame_45 X35 k2 Post n x3 v4_9 v5_11 x6 v7_12 M_10)))))))))))))))))))))))))))
def wp_Board_frame_35 (k2 : Nat) (Post : Mem → Prop) : Nat → Int → Int → Int → Int → Mem → Prop
  | 0, _, _, _, _, _ => False
  | n + 1, x3, x4, x5, x6, M0 =>
    (in32 x6 ∧ (6 ≤ x6 → (∀ M_1 : Mem, M_1 = up M0 111 2 ((M0 111 2) - 1) → (∀ M_2 : Mem, M_2 = up M_1 111 3 ((M_1 111 3) - 1) → (∀ M_3 : Mem, M_3 = up M_2 111 4 ((x4 + 1) - (M_2 111 2)) → (in32 ((M_3 111 4) * ((x5 + 1) - (M_3 111 3))) ∧ (∀ M_4 : Mem, M_4 = up M_3 111 5 (min ((M_3 111 4) * ((x5 + 1) - (M_3 111 3))) 1936) → Post M_4)))))) ∧ (¬ 6 ≤ x6 → ∃ nn, wp_Board_frame_45 (fun y0 y1 y2 y3 M => wp_Board_frame_35 k2 Post n y0 y1 y2 y3 M) k2 Post nn x3 x4 x5 x6 0 M0))
def wp_Board_frame (k2 : Nat) (x3 : Int) (M0 : Mem) (Post : Mem → Prop) : Prop :=
    ((0 ≤ x3 ∧ x3 < 6) ∧ (∀ M_1 : Mem, M_1 = up M0 111 2 (M0 (k2 + 1) x3.toNat) → ((0 ≤ x3 ∧ x3 < 6) ∧ (∀ M_2 : Mem, M_2 = up M_1 111 3 (M_1 (k2 + 2) x3.toNat) → (∀ v4_3 : Int, v4_3 = (M_2 111 2) → (∀ v5_4 : Int, v5_4 = (M_2 111 3) → ∃ nn, wp_Board_frame_35 k2 Post nn x3 v4_3 v5_4 0 M_2))))))
-- EdgeJoins$Board.mark(III)V
def wp_Board_mark (x1 x2 x3 : Int) (M0 : Mem) (Post : Mem → Prop) : Prop :=
    (∀ v4_1 : Int, v4_1 = ((((x2 - (M0 111 3)) * (M0 111 4)) + x1) - (M0 111 2)) → (in32 v4_1 ∧ (v4_1 < 0 → Post M0) ∧ (¬ v4_1 < 0 → (in32 v4_1 ∧ (in32 (M0 111 5) ∧ ((M0 111 5) ≤ v4_1 → Post M0) ∧ (¬ (M0 111 5) ≤ v4_1 → ((0 ≤ v4_1 ∧ v4_1 < 1936) ∧ ((0 ≤ v4_1 ∧ v4_1 < 1936) ∧ ∀ M_2 : Mem, M_2 = up M0 112 v4_1.toNat ((M0 112 v4_1.toNat) + x3) → Post M_2))))))))
-- EdgeJoins$Board.markSides(LEdgeJoins$Edge;LEdgeJoins$Layout;I)V
def wp_Board_markSides_3 (k1 : Nat) (k2 : Nat) (Post : Mem → Prop) : Nat → Int → Int → Mem → Prop
  | 0, _, _, _ => False
  | n + 1, x3, x4, M0 =>
    (in32 x4 ∧ (in32 (M0 k1 4) ∧ ((M0 k1 4) ≤ x4 → Post M0) ∧ (¬ (M0 k1 4) ≤ x4 → ((0 ≤ x4 ∧ x4 < 28) ∧ ((0 ≤ x3 ∧ x3 < 6) ∧ (∀ v5_1 : Int, v5_1 = (((M0 (k1 + 1) x4.toNat) + (M0 (k2 + 3) x3.toNat)) % 4) → (wp_Layout_placedX k2 k1 x3 x4 M0 (fun r_2 => (wp_Layout_placedY k2 k1 x3 x4 M0 (fun r_3 => (in32 v5_1 ∧ (¬ v5_1 = 3 → (in32 v5_1 ∧ (¬ v5_1 = 1 → (∀ v4_4 : Int, v4_4 = x4 + 1 → wp_Board_markSides_3 k1 k2 Post n x3 v4_4 M0)) ∧ (v5_1 = 1 → (wp_Board_mark r_2 r_3 (-1) M0 (fun M_6 => (∀ v4_7 : Int, v4_7 = x4 + 1 → wp_Board_markSides_3 k1 k2 Post n x3 v4_7 M_6)))))) ∧ (v5_1 = 3 → (wp_Board_mark r_2 (r_3 - 1) 1 M0 (fun M_9 => (∀ v4_10 : Int, v4_10 = x4 + 1 → wp_Board_markSides_3 k1 k2 Post n x3 v4_10 M_9)))))))))))))))
def wp_Board_markSides (k1 : Nat) (k2 : Nat) (x3 : Int) (M0 : Mem) (Post : Mem → Prop) : Prop :=
    ∃ nn, wp_Board_markSides_3 k1 k2 Post nn x3 0 M0
-- EdgeJoins$Board.lay([LEdgeJoins$Edge;LEdgeJoins$Layout;I)V
def wp_Board_lay_74 (Post : Mem → Prop) : Nat → Int → Mem → Prop
  | 0, _, _ => False
  | n + 1, x4, M0 =>
    (in32 x4 ∧ (in32 (M0 111 5) ∧ ((M0 111 5) ≤ x4 → Post M0) ∧ (¬ (M0 111 5) ≤ x4 → ((0 ≤ x4 ∧ x4 < 1936) ∧ ((0 ≤ (x4 - 1) ∧ (x4 - 1) < 1936) ∧ ((0 ≤ x4 ∧ x4 < 1936) ∧ ∀ M_1 : Mem, M_1 = up M0 112 x4.toNat ((M0 112 x4.toNat) + (M0 112 (x4 - 1).toNat)) → (∀ v4_2 : Int, v4_2 = x4 + 1 → wp_Board_lay_74 Post n v4_2 M_1)))))))
def wp_Board_lay_36 (k2 : Nat) (Post : Mem → Prop) : Nat → Int → Int → Mem → Prop
  | 0, _, _, _ => False
  | n + 1, x3, x4, M0 =>
    (in32 x4 ∧ (6 ≤ x4 → ∃ nn, wp_Board_lay_74 Post nn 1 M0) ∧ (¬ 6 ≤ x4 → ((0 ≤ x4 ∧ x4 < 6) ∧ (in32 (M0 (k2 + 4) x4.toNat) ∧ (in32 x3 ∧ (¬ (M0 (k2 + 4) x4.toNat) = x3 → (∀ v4_1 : Int, v4_1 = x4 + 1 → wp_Board_lay_36 k2 Post n x3 v4_1 M0)) ∧ ((M0 (k2 + 4) x4.toNat) = x3 → ((0 ≤ x4 ∧ x4 < 6) ∧ (wp_Board_markSides (114 + 10 * x4.toNat) k2 x4 M0 (fun M_4 => (∀ v4_5 : Int, v4_5 = x4 + 1 → wp_Board_lay_36 k2 Post n x3 v4_5 M_4))))))))))
def wp_Board_lay_10 (k2 : Nat) (Post : Mem → Prop) : Nat → Int → Int → Mem → Prop
  | 0, _, _, _ => False
  | n + 1, x3, x4, M0 =>
    (in32 x4 ∧ (in32 (M0 111 5) ∧ ((M0 111 5) ≤ x4 → ∃ nn, wp_Board_lay_36 k2 Post nn x3 0 M0) ∧ (¬ (M0 111 5) ≤ x4 → ((0 ≤ x4 ∧ x4 < 1936) ∧ ∀ M_1 : Mem, M_1 = up M0 112 x4.toNat 0 → (∀ v4_2 : Int, v4_2 = x4 + 1 → wp_Board_lay_10 k2 Post n x3 v4_2 M_1)))))
def wp_Board_lay (k2 : Nat) (x3 : Int) (M0 : Mem) (Post : Mem → Prop) : Prop :=
    (wp_Board_frame k2 x3 M0 (fun M_2 => ∃ nn, wp_Board_lay_10 k2 Post nn x3 0 M_2))
-- EdgeJoins$Board.hasOverlap()Z
def wp_Board_hasOverlap_2 (M0 : Mem) (Post : Int → Prop) : Nat → Int → Prop
  | 0, _ => False
  | n + 1, x1 =>
    (in32 x1 ∧ (in32 (M0 111 5) ∧ ((M0 111 5) ≤ x1 → Post 0) ∧ (¬ (M0 111 5) ≤ x1 → ((0 ≤ x1 ∧ x1 < 1936) ∧ (in32 (M0 112 x1.toNat) ∧ ((M0 112 x1.toNat) ≤ 1 → (∀ v1_1 : Int, v1_1 = x1 + 1 → wp_Board_hasOverlap_2 M0 Post n v1_1)) ∧ (¬ (M0 112 x1.toNat) ≤ 1 → Post 1))))))
def wp_Board_hasOverlap (M0 : Mem) (Post : Int → Prop) : Prop :=
    ∃ nn, wp_Board_hasOverlap_2 M0 Post nn 0
-- EdgeJoins.tryToJoin(LEdgeJoins$Pair;III)I
def wp_X_tryToJoin (k1 : Nat) (x2 x3 x4 : Int) (M0 : Mem) (Post : Int → Mem → Prop) : Prop :=
    (in32 (M0 0 7) ∧ ((M0 0 7) < 6 → ((0 ≤ (M0 0 7) ∧ (M0 0 7) < 6) ∧ (wp_Layout_copy (119 + 10 * (M0 0 7).toNat) 2 M0 (fun M_3 => (wp_Layout_bring 2 (M_3 k1 2) x2 x3 x4 M_3 (fun M_5 => (wp_Layout_unite 2 (M_5 k1 0) (M_5 k1 2) M_5 (fun M_7 => ((0 ≤ (M_7 k1 0) ∧ (M_7 k1 0) < 6) ∧ (wp_Board_lay 2 (M_7 (2 + 4) (M_7 k1 0).toNat) M_7 (fun M_9 => (wp_Board_hasOverlap M_9 (fun r_10 => (in32 r_10 ∧ (r_10 = 0 → (∀ M_11 : Mem, M_11 = up M_9 0 7 ((M_9 0 7) + 1) → Post 0 M_11)) ∧ (¬ r_10 = 0 → ((0 ≤ (M_9 0 7) ∧ (M_9 0 7) < 6) ∧ (wp_Layout_copy 2 (119 + 10 * (M_9 0 7).toNat) M_9 (fun M_14 => Post 1 M_14)))))))))))))))))) ∧ (¬ (M0 0 7) < 6 → Post 1 M0))
-- EdgeJoins.join(I)I
def wp_X_join (x1 : Int) (M0 : Mem) (Post : Int → Mem → Prop) (PostX : Nat → Prop) : Prop :=
    (wp_X_toldPair x1 M0 (fun r_1 => ((0 ≤ (M0 r_1 2) ∧ (M0 r_1 2) < 6) ∧ (∀ k3_3 : Nat, k3_3 = (114 + 10 * (M0 r_1 2).toNat) → ((0 ≤ (M0 r_1 0) ∧ (M0 r_1 0) < 6) ∧ (∀ v4_4 : Int, v4_4 = (((M0 (2 + 3) (M0 r_1 0).toNat) + (M0 r_1 6)) % 4) → ((0 ≤ ((M0 r_1 3) + 1) ∧ ((M0 r_1 3) + 1) < 29) ∧ (∀ v5_5 : Int, v5_5 = (M0 (k3_3 + 3) ((M0 r_1 3) + 1).toNat) → ((0 ≤ ((M0 r_1 3) + 1) ∧ ((M0 r_1 3) + 1) < 29) ∧ (∀ v6_6 : Int, v6_6 = (M0 (k3_3 + 4) ((M0 r_1 3) + 1).toNat) → ((0 ≤ (M0 r_1 0) ∧ (M0 r_1 0) < 6) ∧ (wp_Layout_placedX 2 (114 + 10 * (M0 r_1 0).toNat) (M0 r_1 0) (M0 r_1 1) M0 (fun r_8 => (wp_X_turnedX v5_5 v6_6 v4_4 M0 (fun r_9 => (∀ v7_10 : Int, v7_10 = (r_8 - r_9) → ((0 ≤ (M0 r_1 0) ∧ (M0 r_1 0) < 6) ∧ (wp_Layout_placedY 2 (114 + 10 * (M0 r_1 0).toNat) (M0 r_1 0) (M0 r_1 1) M0 (fun r_12 => (wp_X_turnedY v5_5 v6_6 v4_4 M0 (fun r_13 => (∀ v8_14 : Int, v8_14 = (r_12 - r_13) → ((0 ≤ (M0 r_1 0) ∧ (M0 r_1 0) < 6) ∧ ((0 ≤ (M0 r_1 2) ∧ (M0 r_1 2) < 6) ∧ (in32 (M0 (2 + 4) (M0 r_1 0).toNat) ∧ (in32 (M0 (2 + 4) (M0 r_1 2).toNat) ∧ (¬ (M0 (2 + 4) (M0 r_1 0).toNat) = (M0 (2 + 4) (M0 r_1 2).toNat) → (wp_X_tryToJoin r_1 v7_10 v8_14 v4_4 M0 (fun r_15 M_16 => Post r_15 M_16))) ∧ ((M0 (2 + 4) (M0 r_1 0).toNat) = (M0 (2 + 4) (M0 r_1 2).toNat) → (wp_Layout_lies 2 (M0 r_1 2) v7_10 v8_14 v4_4 M0 (fun r_17 => (in32 r_17 ∧ (r_17 = 0 → Post 2 M0) ∧ (¬ r_17 = 0 → Post 3 M0)))))))))))))))))))))))))))))) PostX)
-- EdgeJoins.undo()Z
def wp_X_undo (M0 : Mem) (Post : Int → Mem → Prop) : Prop :=
    (in32 (M0 0 7) ∧ (¬ (M0 0 7) = 0 → (∀ M_1 : Mem, M_1 = up M0 0 7 ((M0 0 7) - 1) → ((0 ≤ (M_1 0 7) ∧ (M_1 0 7) < 6) ∧ (wp_Layout_copy 2 (119 + 10 * (M_1 0 7).toNat) M_1 (fun M_4 => Post 1 M_4))))) ∧ ((M0 0 7) = 0 → Post 0 M0))
-- EdgeJoins.place(II)I
def wp_X_place (x1 x2 : Int) (M0 : Mem) (Post : Int → Prop) (PostX : Nat → Prop) : Prop :=
    (wp_X_isSherd x1 M0 (fun r_1 => (in32 r_1 ∧ (¬ r_1 = 0 → (in32 x2 ∧ (x2 = 0 → ((0 ≤ x1 ∧ x1 < 6) ∧ Post (M0 (2 + 1) x1.toNat))) ∧ (x2 = 1 → ((0 ≤ x1 ∧ x1 < 6) ∧ Post (M0 (2 + 2) x1.toNat))) ∧ (x2 = 2 → ((0 ≤ x1 ∧ x1 < 6) ∧ Post (M0 (2 + 3) x1.toNat))) ∧ (x2 = 3 → ((0 ≤ x1 ∧ x1 < 6) ∧ Post (M0 (2 + 4) x1.toNat))) ∧ ((x2 < 0 ∨ 3 < x2) → PostX 0))) ∧ (r_1 = 0 → PostX 0))))
-- EdgeJoins$Board.reach(II)I
def wp_Board_reach (x1 x2 : Int) (M0 : Mem) (Post : Int → Mem → Prop) : Prop :=
    (in32 x1 ∧ (x1 < 0 → Post x2 M0) ∧ (¬ x1 < 0 → (in32 x1 ∧ (in32 (M0 111 5) ∧ ((M0 111 5) ≤ x1 → Post x2 M0) ∧ (¬ (M0 111 5) ≤ x1 → (in32 x2 ∧ (1936 ≤ x2 → Post x2 M0) ∧ (¬ 1936 ≤ x2 → ((0 ≤ x1 ∧ x1 < 1936) ∧ (in32 (M0 112 x1.toNat) ∧ ((M0 112 x1.toNat) = 0 → ((0 ≤ x1 ∧ x1 < 1936) ∧ ∀ M_1 : Mem, M_1 = up M0 112 x1.toNat (-1) → ((0 ≤ x2 ∧ x2 < 1936) ∧ ∀ M_2 : Mem, M_2 = up M_1 113 x2.toNat x1 → Post (x2 + 1) M_2))) ∧ (¬ (M0 112 x1.toNat) = 0 → Post x2 M0))))))))))
-- EdgeJoins$Board.flood()V
def wp_Board_flood_9 (Post : Mem → Prop) : Nat → Int → Int → Mem → Prop
  | 0, _, _, _ => False
  | n + 1, x1, x2, M0 =>
    (in32 x2 ∧ (in32 x1 ∧ (x1 ≤ x2 → Post M0) ∧ (¬ x1 ≤ x2 → (in32 x2 ∧ (1936 ≤ x2 → Post M0) ∧ (¬ 1936 ≤ x2 → ((0 ≤ x2 ∧ x2 < 1936) ∧ (∀ v3_1 : Int, v3_1 = (M0 113 x2.toNat) → (wp_Board_reach (v3_1 + 1) x1 M0 (fun r_2 M_3 => (wp_Board_reach (v3_1 - 1) r_2 M_3 (fun r_4 M_5 => (wp_Board_reach (v3_1 + (M_5 111 4)) r_4 M_5 (fun r_6 M_7 => (wp_Board_reach (v3_1 - (M_7 111 4)) r_6 M_7 (fun r_8 M_9 => (∀ v2_10 : Int, v2_10 = x2 + 1 → wp_Board_flood_9 Post n r_8 v2_10 M_9))))))))))))))))
def wp_Board_flood (M0 : Mem) (Post : Mem → Prop) : Prop :=
    (wp_Board_reach 0 0 M0 (fun r_1 M_2 => ∃ nn, wp_Board_flood_9 Post nn r_1 0 M_2))
-- EdgeJoins$Board.enclosedCells()I
def wp_Board_enclosedCells_8 (Post : Int → Mem → Prop) : Nat → Int → Int → Mem → Prop
  | 0, _, _, _ => False
  | n + 1, x1, x2, M0 =>
    (in32 x2 ∧ (in32 (M0 111 5) ∧ ((M0 111 5) ≤ x2 → Post x1 M0) ∧ (¬ (M0 111 5) ≤ x2 → ((0 ≤ x2 ∧ x2 < 1936) ∧ (in32 (M0 112 x2.toNat) ∧ (¬ (M0 112 x2.toNat) = 0 → (∀ v2_1 : Int, v2_1 = x2 + 1 → wp_Board_enclosedCells_8 Post n x1 v2_1 M0)) ∧ ((M0 112 x2.toNat) = 0 → (∀ v1_2 : Int, v1_2 = x1 + 1 → (∀ v2_3 : Int, v2_3 = x2 + 1 → wp_Board_enclosedCells_8 Post n v1_2 v2_3 M0))))))))
def wp_Board_enclosedCells (M0 : Mem) (Post : Int → Mem → Prop) : Prop :=
    (wp_Board_flood M0 (fun M_2 => ∃ nn, wp_Board_enclosedCells_8 Post nn 0 0 M_2))
-- EdgeJoins.holes(I)I
def wp_X_holes (x1 : Int) (M0 : Mem) (Post : Int → Mem → Prop) (PostX : Nat → Prop) : Prop :=
    (wp_X_edgeOf x1 M0 (fun r_1 => (in32 (M0 r_1 5) ∧ (¬ (M0 r_1 5) = 0 → ((0 ≤ x1 ∧ x1 < 6) ∧ (wp_Board_lay 2 (M0 (2 + 4) x1.toNat) M0 (fun M_3 => (wp_Board_enclosedCells M_3 (fun r_4 M_5 => Post r_4 M_5)))))) ∧ ((M0 r_1 5) = 0 → Post 0 M0))) PostX)
-- EdgeJoins.count(I)I
def wp_X_count (x1 : Int) (M0 : Mem) (Post : Int → Prop) (PostX : Nat → Prop) : Prop :=
    (in32 x1 ∧ (x1 = 0 → Post (M0 0 5)) ∧ (x1 = 1 → Post (M0 0 6)) ∧ (x1 = 2 → Post (M0 8 1)) ∧ (x1 = 3 → Post (M0 0 7)) ∧ ((x1 < 0 ∨ 3 < x1) → PostX 0))
-- EdgeJoinsModel.thrown()I
def wp_Model_thrown (M0 : Mem) (Post : Int → Prop) : Prop :=
    Post (M0 0 0)
-- EdgeJoinsModel.throwing(ZZZ)Z
def wp_Model_throwing_26 (t1 : Int) (M0 : Mem) (Post : Int → Mem → Prop) : Prop :=
    (∀ M_1 : Mem, M_1 = up M0 0 0 t1 → (in32 (M_1 0 0) ∧ ((M_1 0 0) ≤ 0 → Post 0 M_1) ∧ (¬ (M_1 0 0) ≤ 0 → Post 1 M_1)))
def wp_Model_throwing (x1 x2 x3 : Int) (M0 : Mem) (Post : Int → Mem → Prop) : Prop :=
    (in32 x1 ∧ (x1 = 0 → (in32 x2 ∧ (x2 = 0 → (in32 x3 ∧ (x3 = 0 → wp_Model_throwing_26 0 M0 Post) ∧ (¬ x3 = 0 → wp_Model_throwing_26 3 M0 Post))) ∧ (¬ x2 = 0 → wp_Model_throwing_26 2 M0 Post))) ∧ (¬ x1 = 0 → wp_Model_throwing_26 1 M0 Post))
-- EdgeJoinsModel.in(III)Z
def wp_Model_in (x0 x1 x2 : Int) (M0 : Mem) (Post : Int → Prop) : Prop :=
    (in32 x0 ∧ (in32 x1 ∧ (x0 < x1 → Post 0) ∧ (¬ x0 < x1 → (in32 x0 ∧ (in32 x2 ∧ (x2 < x0 → Post 0) ∧ (¬ x2 < x0 → Post 1))))))
-- EdgeJoinsModel.isSherd(I)Z
def wp_Model_isSherd (x1 : Int) (M0 : Mem) (Post : Int → Prop) : Prop :=
    (wp_Model_in x1 0 ((M0 0 1) - 1) M0 (fun r_1 => (r_1 = 0 ∨ r_1 = 1) ∧ Post r_1))
-- EdgeJoinsModel.sherd()I
def wp_Model_sherd_15 (t1 : Int) (M0 : Mem) (Post : Int → Mem → Prop) : Prop :=
    (wp_Model_throwing t1 0 0 M0 (fun r_1 M_2 => (in32 r_1 ∧ (r_1 = 0 → (∀ M_3 : Mem, M_3 = up M_2 0 1 ((M_2 0 1) + 1) → Post ((M_3 0 1) - 1) M_3)) ∧ (¬ r_1 = 0 → Post 0 M_2))))
def wp_Model_sherd (M0 : Mem) (Post : Int → Mem → Prop) : Prop :=
    (in32 (M0 0 1) ∧ (¬ (M0 0 1) = 6 → wp_Model_sherd_15 0 M0 Post) ∧ ((M0 0 1) = 6 → wp_Model_sherd_15 1 M0 Post))
-- EdgeJoinsModel.step(II)I
def wp_Model_step_59 (x1 x2 t1 t2 t3 : Int) (M0 : Mem) (Post : Int → Mem → Prop) : Prop :=
    (wp_Model_throwing t1 t2 t3 M0 (fun r_1 M_2 => (in32 r_1 ∧ (r_1 = 0 → ((0 ≤ x1 ∧ x1 < 6) ∧ ((0 ≤ ((28 * x1) + (M_2 1 x1.toNat)) ∧ ((28 * x1) + (M_2 1 x1.toNat)) < 168) ∧ ∀ M_3 : Mem, M_3 = up M_2 2 ((28 * x1) + (M_2 1 x1.toNat)).toNat x2 → ((0 ≤ x1 ∧ x1 < 6) ∧ ((0 ≤ x1 ∧ x1 < 6) ∧ ∀ M_4 : Mem, M_4 = up M_3 1 x1.toNat ((M_3 1 x1.toNat) + 1) → ((0 ≤ x1 ∧ x1 < 6) ∧ Post (M_4 1 x1.toNat) M_4)))))) ∧ (¬ r_1 = 0 → Post 0 M_2))))
def wp_Model_step_45 (x1 x2 t1 t2 : Int) (M0 : Mem) (Post : Int → Mem → Prop) : Prop :=
    (wp_Model_in x2 0 3 M0 (fun r_1 => (in32 r_1 ∧ (¬ r_1 = 0 → wp_Model_step_59 x1 x2 t1 t2 0 M0 Post) ∧ (r_1 = 0 → wp_Model_step_59 x1 x2 t1 t2 1 M0 Post))))
def wp_Model_step_44 (x1 x2 t1 : Int) (M0 : Mem) (Post : Int → Mem → Prop) : Prop :=
    wp_Model_step_45 x1 x2 t1 0 M0 Post
def wp_Model_step_40 (x1 x2 t1 : Int) (M0 : Mem) (Post : Int → Mem → Prop) : Prop :=
    wp_Model_step_45 x1 x2 t1 1 M0 Post
def wp_Model_step_13 (x1 x2 t0 : Int) (M0 : Mem) (Post : Int → Mem → Prop) : Prop :=
    (in32 t0 ∧ (¬ t0 = 0 → wp_Model_step_44 x1 x2 t0 M0 Post) ∧ (t0 = 0 → ((0 ≤ x1 ∧ x1 < 6) ∧ (in32 (M0 4 x1.toNat) ∧ (¬ (M0 4 x1.toNat) = 0 → wp_Model_step_40 x1 x2 t0 M0 Post) ∧ ((M0 4 x1.toNat) = 0 → ((0 ≤ x1 ∧ x1 < 6) ∧ (in32 (M0 1 x1.toNat) ∧ (¬ (M0 1 x1.toNat) = 28 → wp_Model_step_44 x1 x2 t0 M0 Post) ∧ ((M0 1 x1.toNat) = 28 → wp_Model_step_40 x1 x2 t0 M0 Post))))))))
def wp_Model_step (x1 x2 : Int) (M0 : Mem) (Post : Int → Mem → Prop) : Prop :=
    (wp_Model_isSherd x1 M0 (fun r_1 => (in32 r_1 ∧ (¬ r_1 = 0 → wp_Model_step_13 x1 x2 0 M0 Post) ∧ (r_1 = 0 → wp_Model_step_13 x1 x2 1 M0 Post))))
-- EdgeJoinsModel.height(III)I
def wp_Model_height_49 (x1 x2 x3 t1 t2 : Int) (M0 : Mem) (Post : Int → Mem → Prop) : Prop :=
    (wp_Model_throwing t1 t2 0 M0 (fun r_1 M_2 => (in32 r_1 ∧ (r_1 = 0 → ((0 ≤ ((28 * x1) + x2) ∧ ((28 * x1) + x2) < 168) ∧ (∀ v5_3 : Int, v5_3 = (M_2 3 ((28 * x1) + x2).toNat) → ((0 ≤ ((28 * x1) + x2) ∧ ((28 * x1) + x2) < 168) ∧ ∀ M_4 : Mem, M_4 = up M_2 3 ((28 * x1) + x2).toNat x3 → (∀ M_5 : Mem, M_5 = up M_4 0 11 0 → Post v5_3 M_5))))) ∧ (¬ r_1 = 0 → Post 0 M_2))))
def wp_Model_height_29 (x1 x2 x3 t0 : Int) (M0 : Mem) (Post : Int → Mem → Prop) : Prop :=
    (wp_Model_in x3 0 99 M0 (fun r_1 => (in32 r_1 ∧ (¬ r_1 = 0 → wp_Model_height_49 x1 x2 x3 t0 0 M0 Post) ∧ (r_1 = 0 → wp_Model_height_49 x1 x2 x3 t0 1 M0 Post))))
def wp_Model_height_24 (x1 x2 x3 : Int) (M0 : Mem) (Post : Int → Mem → Prop) : Prop :=
    wp_Model_height_29 x1 x2 x3 1 M0 Post
def wp_Model_height (x1 x2 x3 : Int) (M0 : Mem) (Post : Int → Mem → Prop) : Prop :=
    (wp_Model_isSherd x1 M0 (fun r_1 => (in32 r_1 ∧ (r_1 = 0 → wp_Model_height_24 x1 x2 x3 M0 Post) ∧ (¬ r_1 = 0 → ((0 ≤ x1 ∧ x1 < 6) ∧ (wp_Model_in x2 0 ((M0 1 x1.toNat) - 1) M0 (fun r_2 => (in32 r_2 ∧ (¬ r_2 = 0 → wp_Model_height_29 x1 x2 x3 0 M0 Post) ∧ (r_2 = 0 → wp_Model_height_24 x1 x2 x3 M0 Post)))))))))
-- EdgeJoinsModel.across(I)I
def wp_Model_across (x0 : Int) (M0 : Mem) (Post : Int → Prop) : Prop :=
    (in32 x0 ∧ (¬ x0 = 0 → (in32 x0 ∧ (¬ x0 = 2 → Post 0) ∧ (x0 = 2 → Post (-1)))) ∧ (x0 = 0 → Post 1))
-- EdgeJoinsModel.down(I)I
def wp_Model_down (x0 : Int) (M0 : Mem) (Post : Int → Prop) : Prop :=
    (in32 x0 ∧ (¬ x0 = 1 → (in32 x0 ∧ (¬ x0 = 3 → Post 0) ∧ (x0 = 3 → Post (-1)))) ∧ (x0 = 1 → Post 1))
-- EdgeJoinsModel.corner(II)V
def wp_Model_corner_12 (Post : Mem → Prop) : Nat → Int → Int → Int → Mem → Prop
  | 0, _, _, _, _ => False
  | n + 1, x1, x2, x3, M0 =>
    (in32 x3 ∧ (in32 x2 ∧ (x2 ≤ x3 → Post M0) ∧ (¬ x2 ≤ x3 → ((0 ≤ ((28 * x1) + x3) ∧ ((28 * x1) + x3) < 168) ∧ (wp_Model_across (M0 2 ((28 * x1) + x3).toNat) M0 (fun r_1 => (∀ M_2 : Mem, M_2 = up M0 0 19 ((M0 0 19) + r_1) → ((0 ≤ ((28 * x1) + x3) ∧ ((28 * x1) + x3) < 168) ∧ (wp_Model_down (M_2 2 ((28 * x1) + x3).toNat) M_2 (fun r_3 => (∀ M_4 : Mem, M_4 = up M_2 0 20 ((M_2 0 20) + r_3) → (∀ v3_5 : Int, v3_5 = x3 + 1 → wp_Model_corner_12 Post n x1 x2 v3_5 M_4))))))))))))
def wp_Model_corner (x1 x2 : Int) (M0 : Mem) (Post : Mem → Prop) : Prop :=
    (∀ M_1 : Mem, M_1 = up M0 0 19 0 → (∀ M_2 : Mem, M_2 = up M_1 0 20 0 → ∃ nn, wp_Model_corner_12 Post nn x1 x2 0 M_2))
-- EdgeJoinsModel.isOnce(I)Z
def wp_Model_isOnce_32 (X2 : Int → Int → Mem → Prop) (Post : Int → Mem → Prop) : Nat → Int → Int → Int → Int → Int → Mem → Prop
  | 0, _, _, _, _, _, _ => False
  | n + 1, x1, x2, x3, x4, x5, M0 =>
    (in32 x5 ∧ (in32 x2 ∧ (x2 ≤ x5 → (∀ v2_1 : Int, v2_1 = x2 + 1 → X2 x1 v2_1 M0)) ∧ (¬ x2 ≤ x5 → (wp_Model_corner x1 x5 M0 (fun M_3 => (in32 (M_3 0 19) ∧ (in32 x3 ∧ (¬ (M_3 0 19) = x3 → (∀ v5_4 : Int, v5_4 = x5 + 1 → wp_Model_isOnce_32 X2 Post n x1 x2 x3 x4 v5_4 M_3)) ∧ ((M_3 0 19) = x3 → (in32 (M_3 0 20) ∧ (in32 x4 ∧ (¬ (M_3 0 20) = x4 → (∀ v5_5 : Int, v5_5 = x5 + 1 → wp_Model_isOnce_32 X2 Post n x1 x2 x3 x4 v5_5 M_3)) ∧ ((M_3 0 20) = x4 → Post 0 M_3)))))))))))
def wp_Model_isOnce_2 (Post : Int → Mem → Prop) : Nat → Int → Int → Mem → Prop
  | 0, _, _, _ => False
  | n + 1, x1, x2, M0 =>
    ((0 ≤ x1 ∧ x1 < 6) ∧ (in32 x2 ∧ (in32 (M0 1 x1.toNat) ∧ ((M0 1 x1.toNat) ≤ x2 → ((0 ≤ x1 ∧ x1 < 6) ∧ (wp_Model_corner x1 (M0 1 x1.toNat) M0 (fun M_2 => (in32 (M_2 0 19) ∧ (¬ (M_2 0 19) = 0 → Post 0 M_2) ∧ ((M_2 0 19) = 0 → (in32 (M_2 0 20) ∧ (¬ (M_2 0 20) = 0 → Post 0 M_2) ∧ ((M_2 0 20) = 0 → Post 1 M_2)))))))) ∧ (¬ (M0 1 x1.toNat) ≤ x2 → (wp_Model_corner x1 x2 M0 (fun M_4 => (∀ v3_5 : Int, v3_5 = (M_4 0 19) → (∀ v4_6 : Int, v4_6 = (M_4 0 20) → ∃ nn, wp_Model_isOnce_32 (fun y0 y1 M => wp_Model_isOnce_2 Post n y0 y1 M) Post nn x1 x2 v3_5 v4_6 0 M_4))))))))
def wp_Model_isOnce (x1 : Int) (M0 : Mem) (Post : Int → Mem → Prop) : Prop :=
    ∃ nn, wp_Model_isOnce_2 Post nn x1 0 M0
-- EdgeJoinsModel.space(I)I
def wp_Model_space_4 (Post : Int → Mem → Prop) : Nat → Int → Int → Int → Mem → Prop
  | 0, _, _, _, _ => False
  | n + 1, x1, x2, x3, M0 =>
    ((0 ≤ x1 ∧ x1 < 6) ∧ (in32 x3 ∧ (in32 (M0 1 x1.toNat) ∧ ((M0 1 x1.toNat) ≤ x3 → Post x2 M0) ∧ (¬ (M0 1 x1.toNat) ≤ x3 → (wp_Model_corner x1 x3 M0 (fun M_2 => ((0 ≤ ((28 * x1) + x3) ∧ ((28 * x1) + x3) < 168) ∧ (∀ v4_3 : Int, v4_3 = (M_2 2 ((28 * x1) + x3).toNat) → (wp_Model_down v4_3 M_2 (fun r_4 => (wp_Model_across v4_3 M_2 (fun r_5 => (∀ v2_6 : Int, v2_6 = (x2 + (((M_2 0 19) * r_4) - ((M_2 0 20) * r_5))) → (∀ v3_7 : Int, v3_7 = x3 + 1 → wp_Model_space_4 Post n x1 v2_6 v3_7 M_2))))))))))))))
def wp_Model_space (x1 : Int) (M0 : Mem) (Post : Int → Mem → Prop) : Prop :=
    ∃ nn, wp_Model_space_4 Post nn x1 0 0 M0
-- EdgeJoinsModel.isInside(III)Z
def wp_Model_isInside_90 (X6 : Int → Int → Int → Int → Int → Mem → Prop) (x1 x2 x3 x5 t0 t1 : Int) (M0 : Mem) (Post : Int → Mem → Prop) : Prop :=
    (in32 t0 ∧ (in32 t1 ∧ (t0 = t1 → (∀ v5_1 : Int, v5_1 = x5 + 1 → X6 x1 x2 x3 0 v5_1 M0)) ∧ (¬ t0 = t1 → (∀ v5_2 : Int, v5_2 = x5 + 1 → X6 x1 x2 x3 1 v5_2 M0))))
def wp_Model_isInside_89 (X6 : Int → Int → Int → Int → Int → Mem → Prop) (x1 x2 x3 x5 t0 : Int) (M0 : Mem) (Post : Int → Mem → Prop) : Prop :=
    wp_Model_isInside_90 X6 x1 x2 x3 x5 t0 0 M0 Post
def wp_Model_isInside_67 (X6 : Int → Int → Int → Int → Int → Mem → Prop) (x1 x2 x3 x4 x5 t0 : Int) (M0 : Mem) (Post : Int → Mem → Prop) : Prop :=
    (in32 t0 ∧ (in32 x3 ∧ (¬ t0 = x3 → wp_Model_isInside_89 X6 x1 x2 x3 x5 x4 M0 Post) ∧ (t0 = x3 → (in32 (M0 0 19) ∧ (in32 x2 ∧ (x2 < (M0 0 19) → wp_Model_isInside_89 X6 x1 x2 x3 x5 x4 M0 Post) ∧ (¬ x2 < (M0 0 19) → wp_Model_isInside_90 X6 x1 x2 x3 x5 x4 1 M0 Post))))))
def wp_Model_isInside_6 (Post : Int → Mem → Prop) : Nat → Int → Int → Int → Int → Int → Mem → Prop
  | 0, _, _, _, _, _, _ => False
  | n + 1, x1, x2, x3, x4, x5, M0 =>
    ((0 ≤ x1 ∧ x1 < 6) ∧ (in32 x5 ∧ (in32 (M0 1 x1.toNat) ∧ ((M0 1 x1.toNat) ≤ x5 → (x4 = 0 ∨ x4 = 1) ∧ Post x4 M0) ∧ (¬ (M0 1 x1.toNat) ≤ x5 → ((0 ≤ ((28 * x1) + x5) ∧ ((28 * x1) + x5) < 168) ∧ (∀ v6_1 : Int, v6_1 = (M0 2 ((28 * x1) + x5).toNat) → ((0 ≤ v6_1 ∧ v6_1 ≤ 2147483647 ∧ 0 < (2 : Int) ∧ (2 : Int) ≤ 2147483647) ∧ (in32 (v6_1 % 2) ∧ (¬ (v6_1 % 2) = 0 → (wp_Model_corner x1 x5 M0 (fun M_3 => (in32 v6_1 ∧ (¬ v6_1 = 1 → wp_Model_isInside_67 (fun y0 y1 y2 y3 y4 M => wp_Model_isInside_6 Post n y0 y1 y2 y3 y4 M) x1 x2 x3 x4 x5 ((M_3 0 20) - 1) M_3 Post) ∧ (v6_1 = 1 → wp_Model_isInside_67 (fun y0 y1 y2 y3 y4 M => wp_Model_isInside_6 Post n y0 y1 y2 y3 y4 M) x1 x2 x3 x4 x5 (M_3 0 20) M_3 Post))))) ∧ ((v6_1 % 2) = 0 → (∀ v5_4 : Int, v5_4 = x5 + 1 → wp_Model_isInside_6 Post n x1 x2 x3 x4 v5_4 M0))))))))))
def wp_Model_isInside (x1 x2 x3 : Int) (M0 : Mem) (Post : Int → Mem → Prop) : Prop :=
    ∃ nn, wp_Model_isInside_6 Post nn x1 x2 x3 0 0 M0
-- EdgeJoinsModel.close(I)I
def wp_Model_close_75 (Post : Int → Mem → Prop) : Nat → Int → Int → Mem → Prop
  | 0, _, _, _ => False
  | n + 1, x1, x2, M0 =>
    (in32 x2 ∧ (1024 ≤ x2 → ((0 ≤ x1 ∧ x1 < 6) ∧ Post (M0 5 x1.toNat) M0)) ∧ (¬ 1024 ≤ x2 → ((0 ≤ x2 ∧ x2 ≤ 2147483647 ∧ 0 < (32 : Int) ∧ (32 : Int) ≤ 2147483647) ∧ (∀ v3_1 : Int, v3_1 = ((x2 % 32) - 16) → ((0 ≤ x2 ∧ x2 ≤ 2147483647 ∧ 0 < (32 : Int) ∧ (32 : Int) ≤ 2147483647) ∧ (∀ v4_2 : Int, v4_2 = ((x2 / 32) - 16) → (wp_Model_isInside x1 v3_1 v4_2 M0 (fun r_3 M_4 => (in32 r_3 ∧ (¬ r_3 = 0 → ((0 ≤ x1 ∧ x1 < 6) ∧ ((0 ≤ ((49 * x1) + (M_4 5 x1.toNat)) ∧ ((49 * x1) + (M_4 5 x1.toNat)) < 294) ∧ ∀ M_5 : Mem, M_5 = up M_4 6 ((49 * x1) + (M_4 5 x1.toNat)).toNat v3_1 → ((0 ≤ x1 ∧ x1 < 6) ∧ ((0 ≤ ((49 * x1) + (M_5 5 x1.toNat)) ∧ ((49 * x1) + (M_5 5 x1.toNat)) < 294) ∧ ∀ M_6 : Mem, M_6 = up M_5 7 ((49 * x1) + (M_5 5 x1.toNat)).toNat v4_2 → ((0 ≤ x1 ∧ x1 < 6) ∧ ((0 ≤ x1 ∧ x1 < 6) ∧ ∀ M_7 : Mem, M_7 = up M_6 5 x1.toNat ((M_6 5 x1.toNat) + 1) → (∀ v2_8 : Int, v2_8 = x2 + 1 → wp_Model_close_75 Post n x1 v2_8 M_7)))))))) ∧ (r_3 = 0 → (∀ v2_9 : Int, v2_9 = x2 + 1 → wp_Model_close_75 Post n x1 v2_9 M_4)))))))))))
def wp_Model_close_14 (x1 t1 : Int) (M0 : Mem) (Post : Int → Mem → Prop) : Prop :=
    (wp_Model_throwing t1 0 0 M0 (fun r_1 M_2 => (in32 r_1 ∧ (r_1 = 0 → ((0 ≤ x1 ∧ x1 < 6) ∧ (in32 (M_2 4 x1.toNat) ∧ (¬ (M_2 4 x1.toNat) = 0 → Post 0 M_2) ∧ ((M_2 4 x1.toNat) = 0 → ((0 ≤ x1 ∧ x1 < 6) ∧ (in32 (M_2 1 x1.toNat) ∧ ((M_2 1 x1.toNat) < 4 → Post 0 M_2) ∧ (¬ (M_2 1 x1.toNat) < 4 → (wp_Model_isOnce x1 M_2 (fun r_3 M_4 => (in32 r_3 ∧ (r_3 = 0 → Post 0 M_4) ∧ (¬ r_3 = 0 → (wp_Model_space x1 M_4 (fun r_5 M_6 => (in32 r_5 ∧ (0 < r_5 → ((0 ≤ x1 ∧ x1 < 6) ∧ ∀ M_7 : Mem, M_7 = up M_6 4 x1.toNat 1 → (∀ M_8 : Mem, M_8 = up M_7 0 11 0 → ∃ nn, wp_Model_close_75 Post nn x1 0 M_8))) ∧ (¬ 0 < r_5 → Post 0 M_6))))))))))))))) ∧ (¬ r_1 = 0 → Post 0 M_2))))
def wp_Model_close (x1 : Int) (M0 : Mem) (Post : Int → Mem → Prop) : Prop :=
    (wp_Model_isSherd x1 M0 (fun r_1 => (in32 r_1 ∧ (¬ r_1 = 0 → wp_Model_close_14 x1 0 M0 Post) ∧ (r_1 = 0 → wp_Model_close_14 x1 1 M0 Post))))
-- EdgeJoinsModel.least(I)I
def wp_Model_least_16 (x1 t1 : Int) (M0 : Mem) (Post : Int → Mem → Prop) : Prop :=
    (wp_Model_throwing t1 0 0 M0 (fun r_1 M_2 => (in32 r_1 ∧ (r_1 = 0 → (∀ v2_3 : Int, v2_3 = (M_2 0 9) → (∀ M_4 : Mem, M_4 = up M_2 0 9 x1 → (∀ M_5 : Mem, M_5 = up M_4 0 11 0 → Post v2_3 M_5)))) ∧ (¬ r_1 = 0 → Post 0 M_2))))
def wp_Model_least (x1 : Int) (M0 : Mem) (Post : Int → Mem → Prop) : Prop :=
    (wp_Model_in x1 2 20 M0 (fun r_1 => (in32 r_1 ∧ (¬ r_1 = 0 → wp_Model_least_16 x1 0 M0 Post) ∧ (r_1 = 0 → wp_Model_least_16 x1 1 M0 Post))))
-- EdgeJoinsModel.bound(I)I
def wp_Model_bound_17 (x1 t1 : Int) (M0 : Mem) (Post : Int → Mem → Prop) : Prop :=
    (wp_Model_throwing t1 0 0 M0 (fun r_1 M_2 => (in32 r_1 ∧ (r_1 = 0 → (∀ v2_3 : Int, v2_3 = (M_2 0 10) → (∀ M_4 : Mem, M_4 = up M_2 0 10 x1 → (∀ M_5 : Mem, M_5 = up M_4 0 11 0 → Post v2_3 M_5)))) ∧ (¬ r_1 = 0 → Post 0 M_2))))
def wp_Model_bound (x1 : Int) (M0 : Mem) (Post : Int → Mem → Prop) : Prop :=
    (wp_Model_in x1 0 9801 M0 (fun r_1 => (in32 r_1 ∧ (¬ r_1 = 0 → wp_Model_bound_17 x1 0 M0 Post) ∧ (r_1 = 0 → wp_Model_bound_17 x1 1 M0 Post))))
-- EdgeJoinsModel.stepOf(II)I
def wp_Model_stepOf (x1 x2 : Int) (M0 : Mem) (Post : Int → Prop) : Prop :=
    ((0 ≤ x1 ∧ x1 < 6) ∧ ((0 ≤ x1 ∧ x1 < 6) ∧ ((0 ≤ (x2 + (M0 1 x1.toNat)) ∧ (x2 + (M0 1 x1.toNat)) ≤ 2147483647 ∧ 0 < (M0 1 x1.toNat) ∧ (M0 1 x1.toNat) ≤ 2147483647) ∧ ((0 ≤ ((28 * x1) + ((x2 + (M0 1 x1.toNat)) % (M0 1 x1.toNat))) ∧ ((28 * x1) + ((x2 + (M0 1 x1.toNat)) % (M0 1 x1.toNat))) < 168) ∧ Post (M0 2 ((28 * x1) + ((x2 + (M0 1 x1.toNat)) % (M0 1 x1.toNat))).toNat)))))
-- EdgeJoinsModel.heightOf(II)I
def wp_Model_heightOf (x1 x2 : Int) (M0 : Mem) (Post : Int → Prop) : Prop :=
    ((0 ≤ x1 ∧ x1 < 6) ∧ ((0 ≤ x1 ∧ x1 < 6) ∧ ((0 ≤ (x2 + (M0 1 x1.toNat)) ∧ (x2 + (M0 1 x1.toNat)) ≤ 2147483647 ∧ 0 < (M0 1 x1.toNat) ∧ (M0 1 x1.toNat) ≤ 2147483647) ∧ ((0 ≤ ((28 * x1) + ((x2 + (M0 1 x1.toNat)) % (M0 1 x1.toNat))) ∧ ((28 * x1) + ((x2 + (M0 1 x1.toNat)) % (M0 1 x1.toNat))) < 168) ∧ Post (M0 3 ((28 * x1) + ((x2 + (M0 1 x1.toNat)) % (M0 1 x1.toNat))).toNat)))))
-- EdgeJoinsModel.matches(IIIII)Z
def wp_Model_matches (x1 x2 x3 x4 x5 : Int) (M0 : Mem) (Post : Int → Prop) : Prop :=
    (wp_Model_stepOf x3 x4 M0 (fun r_1 => (wp_Model_stepOf x1 x2 M0 (fun r_2 => (in32 ((r_1 + x5) % 4) ∧ (in32 ((r_2 + 2) % 4) ∧ (¬ ((r_1 + x5) % 4) = ((r_2 + 2) % 4) → Post 0) ∧ (((r_1 + x5) % 4) = ((r_2 + 2) % 4) → Post 1)))))))
-- EdgeJoinsModel.turnsOf(IIII)I
def wp_Model_turnsOf (x1 x2 x3 x4 : Int) (M0 : Mem) (Post : Int → Prop) : Prop :=
    (wp_Model_stepOf x1 x2 M0 (fun r_1 => (wp_Model_stepOf x3 x4 M0 (fun r_2 => Post (((r_1 + 2) - r_2) % 4)))))
-- EdgeJoinsModel.finds(IIII)Z
def wp_Model_finds_155 (x1 x2 x3 x4 x7 x8 : Int) (M0 : Mem) (Post : Int → Mem → Prop) : Prop :=
    ((0 ≤ (0 : Int) ∧ (0 : Int) < 6) ∧ ∀ M_1 : Mem, M_1 = up M0 9 (0 : Int).toNat x1 → ((0 ≤ (1 : Int) ∧ (1 : Int) < 6) ∧ ∀ M_2 : Mem, M_2 = up M_1 9 (1 : Int).toNat x2 → ((0 ≤ (2 : Int) ∧ (2 : Int) < 6) ∧ ∀ M_3 : Mem, M_3 = up M_2 9 (2 : Int).toNat x3 → ((0 ≤ (3 : Int) ∧ (3 : Int) < 6) ∧ ∀ M_4 : Mem, M_4 = up M_3 9 (3 : Int).toNat x4 → ((0 ≤ (4 : Int) ∧ (4 : Int) < 6) ∧ ∀ M_5 : Mem, M_5 = up M_4 9 (4 : Int).toNat x7 → ((0 ≤ (5 : Int) ∧ (5 : Int) < 6) ∧ ∀ M_6 : Mem, M_6 = up M_5 9 (5 : Int).toNat x8 → (in32 x7 ∧ (in32 (M_6 0 9) ∧ (x7 < (M_6 0 9) → Post 0 M_6) ∧ (¬ x7 < (M_6 0 9) → (in32 x8 ∧ (in32 ((M_6 0 10) * x7) ∧ (((M_6 0 10) * x7) < x8 → Post 0 M_6) ∧ (¬ ((M_6 0 10) * x7) < x8 → Post 1 M_6))))))))))))
def wp_Model_finds_69 (Post : Int → Mem → Prop) : Nat → Int → Int → Int → Int → Int → Int → Int → Int → Mem → Prop
  | 0, _, _, _, _, _, _, _, _, _ => False
  | n + 1, x1, x2, x3, x4, x5, x6, x7, x8, M0 =>
    (in32 x7 ∧ (in32 x6 ∧ (x6 ≤ x7 → wp_Model_finds_155 x1 x2 x3 x4 x7 x8 M0 Post) ∧ (¬ x6 ≤ x7 → ((0 ≤ x1 ∧ x1 < 6) ∧ ((0 ≤ (x2 + x7) ∧ (x2 + x7) ≤ 2147483647 ∧ 0 < (M0 1 x1.toNat) ∧ (M0 1 x1.toNat) ≤ 2147483647) ∧ ((0 ≤ x3 ∧ x3 < 6) ∧ ((0 ≤ x3 ∧ x3 < 6) ∧ ((0 ≤ ((x4 - x7) + (M0 1 x3.toNat)) ∧ ((x4 - x7) + (M0 1 x3.toNat)) ≤ 2147483647 ∧ 0 < (M0 1 x3.toNat) ∧ (M0 1 x3.toNat) ≤ 2147483647) ∧ (wp_Model_matches x1 ((x2 + x7) % (M0 1 x1.toNat)) x3 (((x4 - x7) + (M0 1 x3.toNat)) % (M0 1 x3.toNat)) x5 M0 (fun r_1 => (in32 r_1 ∧ (r_1 = 0 → wp_Model_finds_155 x1 x2 x3 x4 x7 x8 M0 Post) ∧ (¬ r_1 = 0 → (wp_Model_heightOf x1 (x2 + x7) M0 (fun r_2 => (wp_Model_heightOf x3 (x4 - x7) M0 (fun r_3 => (∀ v9_4 : Int, v9_4 = (r_2 - r_3) → (∀ v8_5 : Int, v8_5 = (x8 + (v9_4 * v9_4)) → (∀ v7_6 : Int, v7_6 = x7 + 1 → wp_Model_finds_69 Post n x1 x2 x3 x4 x5 x6 v7_6 v8_5 M0)))))))))))))))))))
def wp_Model_finds (x1 x2 x3 x4 : Int) (M0 : Mem) (Post : Int → Mem → Prop) : Prop :=
    (wp_Model_turnsOf x1 x2 x3 x4 M0 (fun r_1 => (wp_Model_matches x1 (x2 - 1) x3 (x4 + 1) r_1 M0 (fun r_2 => (in32 r_2 ∧ (r_2 = 0 → ((0 ≤ x1 ∧ x1 < 6) ∧ ((0 ≤ x3 ∧ x3 < 6) ∧ (in32 (M0 1 x1.toNat) ∧ (in32 (M0 1 x3.toNat) ∧ ((M0 1 x3.toNat) ≤ (M0 1 x1.toNat) → ((0 ≤ x3 ∧ x3 < 6) ∧ (∀ v6_3 : Int, v6_3 = (M0 1 x3.toNat) → ∃ nn, wp_Model_finds_69 Post nn x1 x2 x3 x4 r_1 v6_3 0 0 M0))) ∧ (¬ (M0 1 x3.toNat) ≤ (M0 1 x1.toNat) → ((0 ≤ x1 ∧ x1 < 6) ∧ (∀ v6_4 : Int, v6_4 = (M0 1 x1.toNat) → ∃ nn, wp_Model_finds_69 Post nn x1 x2 x3 x4 r_1 v6_4 0 0 M0)))))))) ∧ (¬ r_2 = 0 → Post 0 M0))))))
-- EdgeJoinsModel.isAhead(I)Z
def wp_Model_isAhead_99 (M0 : Mem) (Post : Int → Prop) : Nat → Int → Int → Prop
  | 0, _, _ => False
  | n + 1, x2, x5 =>
    (in32 x5 ∧ (4 ≤ x5 → Post 0) ∧ (¬ 4 ≤ x5 → ((0 ≤ x5 ∧ x5 < 6) ∧ ((0 ≤ (x2 + x5) ∧ (x2 + x5) < 606) ∧ (in32 (M0 9 x5.toNat) ∧ (in32 (M0 8 (x2 + x5).toNat) ∧ ((M0 9 x5.toNat) = (M0 8 (x2 + x5).toNat) → (∀ v5_1 : Int, v5_1 = x5 + 1 → wp_Model_isAhead_99 M0 Post n x2 v5_1)) ∧ (¬ (M0 9 x5.toNat) = (M0 8 (x2 + x5).toNat) → ((0 ≤ x5 ∧ x5 < 6) ∧ ((0 ≤ (x2 + x5) ∧ (x2 + x5) < 606) ∧ (in32 (M0 9 x5.toNat) ∧ (in32 (M0 8 (x2 + x5).toNat) ∧ ((M0 8 (x2 + x5).toNat) ≤ (M0 9 x5.toNat) → Post 0) ∧ (¬ (M0 8 (x2 + x5).toNat) ≤ (M0 9 x5.toNat) → Post 1))))))))))))
def wp_Model_isAhead (x1 : Int) (M0 : Mem) (Post : Int → Prop) : Prop :=
    (∀ v2_1 : Int, v2_1 = (6 * x1) → ((0 ≤ (5 : Int) ∧ (5 : Int) < 6) ∧ ((0 ≤ (v2_1 + 4) ∧ (v2_1 + 4) < 606) ∧ (∀ v3_2 : Int, v3_2 = ((M0 9 (5 : Int).toNat) * (M0 8 (v2_1 + 4).toNat)) → ((0 ≤ (v2_1 + 5) ∧ (v2_1 + 5) < 606) ∧ ((0 ≤ (4 : Int) ∧ (4 : Int) < 6) ∧ (∀ v4_3 : Int, v4_3 = ((M0 8 (v2_1 + 5).toNat) * (M0 9 (4 : Int).toNat)) → (in32 v3_2 ∧ (in32 v4_3 ∧ (v3_2 = v4_3 → ((0 ≤ (4 : Int) ∧ (4 : Int) < 6) ∧ ((0 ≤ (v2_1 + 4) ∧ (v2_1 + 4) < 606) ∧ (in32 (M0 9 (4 : Int).toNat) ∧ (in32 (M0 8 (v2_1 + 4).toNat) ∧ ((M0 9 (4 : Int).toNat) = (M0 8 (v2_1 + 4).toNat) → ∃ nn, wp_Model_isAhead_99 M0 Post nn v2_1 0) ∧ (¬ (M0 9 (4 : Int).toNat) = (M0 8 (v2_1 + 4).toNat) → ((0 ≤ (4 : Int) ∧ (4 : Int) < 6) ∧ ((0 ≤ (v2_1 + 4) ∧ (v2_1 + 4) < 606) ∧ (in32 (M0 9 (4 : Int).toNat) ∧ (in32 (M0 8 (v2_1 + 4).toNat) ∧ ((M0 9 (4 : Int).toNat) ≤ (M0 8 (v2_1 + 4).toNat) → Post 0) ∧ (¬ (M0 9 (4 : Int).toNat) ≤ (M0 8 (v2_1 + 4).toNat) → Post 1))))))))))) ∧ (¬ v3_2 = v4_3 → (in32 v3_2 ∧ (in32 v4_3 ∧ (v4_3 ≤ v3_2 → Post 0) ∧ (¬ v4_3 ≤ v3_2 → Post 1)))))))))))))
-- EdgeJoinsModel.put()V
def wp_Model_put_66 (Post : Mem → Prop) : Nat → Int → Int → Mem → Prop
  | 0, _, _, _ => False
  | n + 1, x1, x2, M0 =>
    (in32 x2 ∧ (6 ≤ x2 → (in32 (M0 0 12) ∧ (100 ≤ (M0 0 12) → (∀ M_1 : Mem, M_1 = up M0 0 12 ((M0 0 12) + 0) → Post M_1)) ∧ (¬ 100 ≤ (M0 0 12) → (∀ M_2 : Mem, M_2 = up M0 0 12 ((M0 0 12) + 1) → Post M_2)))) ∧ (¬ 6 ≤ x2 → ((0 ≤ x2 ∧ x2 < 6) ∧ ((0 ≤ ((6 * x1) + x2) ∧ ((6 * x1) + x2) < 606) ∧ ∀ M_3 : Mem, M_3 = up M0 8 ((6 * x1) + x2).toNat (M0 9 x2.toNat) → (∀ v2_4 : Int, v2_4 = x2 + 1 → wp_Model_put_66 Post n x1 v2_4 M_3)))))
def wp_Model_put_21 (X5 : Int → Mem → Prop) (Post : Mem → Prop) : Nat → Int → Int → Mem → Prop
  | 0, _, _, _ => False
  | n + 1, x1, x2, M0 =>
    (in32 x2 ∧ (6 ≤ x2 → (∀ v1_1 : Int, v1_1 = x1 + (-1) → X5 v1_1 M0)) ∧ (¬ 6 ≤ x2 → ((0 ≤ (((6 * x1) - 6) + x2) ∧ (((6 * x1) - 6) + x2) < 606) ∧ ((0 ≤ ((6 * x1) + x2) ∧ ((6 * x1) + x2) < 606) ∧ ∀ M_2 : Mem, M_2 = up M0 8 ((6 * x1) + x2).toNat (M0 8 (((6 * x1) - 6) + x2).toNat) → (∀ v2_3 : Int, v2_3 = x2 + 1 → wp_Model_put_21 X5 Post n x1 v2_3 M_2)))))
def wp_Model_put_5 (Post : Mem → Prop) : Nat → Int → Mem → Prop
  | 0, _, _ => False
  | n + 1, x1, M0 =>
    (in32 x1 ∧ (x1 ≤ 0 → ∃ nn, wp_Model_put_66 Post nn x1 0 M0) ∧ (¬ x1 ≤ 0 → (wp_Model_isAhead (x1 - 1) M0 (fun r_1 => (in32 r_1 ∧ (r_1 = 0 → ∃ nn, wp_Model_put_66 Post nn x1 0 M0) ∧ (¬ r_1 = 0 → ∃ nn, wp_Model_put_21 (fun y0 M => wp_Model_put_5 Post n y0 M) Post nn x1 0 M0))))))
def wp_Model_put (M0 : Mem) (Post : Mem → Prop) : Prop :=
    (∀ v1_1 : Int, v1_1 = (M0 0 12) → ∃ nn, wp_Model_put_5 Post nn v1_1 M0)
-- EdgeJoinsModel.findAll(II)I
def wp_Model_findAll_5 (Post : Int → Mem → Prop) : Nat → Int → Int → Int → Int → Mem → Prop
  | 0, _, _, _, _, _ => False
  | n + 1, x1, x2, x3, x4, M0 =>
    ((0 ≤ x1 ∧ x1 < 6) ∧ ((0 ≤ x2 ∧ x2 < 6) ∧ (in32 x4 ∧ (in32 ((M0 1 x1.toNat) * (M0 1 x2.toNat)) ∧ (((M0 1 x1.toNat) * (M0 1 x2.toNat)) ≤ x4 → Post x3 M0) ∧ (¬ ((M0 1 x1.toNat) * (M0 1 x2.toNat)) ≤ x4 → ((0 ≤ x2 ∧ x2 < 6) ∧ ((0 ≤ x4 ∧ x4 ≤ 2147483647 ∧ 0 < (M0 1 x2.toNat) ∧ (M0 1 x2.toNat) ≤ 2147483647) ∧ ((0 ≤ x2 ∧ x2 < 6) ∧ ((0 ≤ x4 ∧ x4 ≤ 2147483647 ∧ 0 < (M0 1 x2.toNat) ∧ (M0 1 x2.toNat) ≤ 2147483647) ∧ (wp_Model_finds x1 (x4 / (M0 1 x2.toNat)) x2 (x4 % (M0 1 x2.toNat)) M0 (fun r_1 M_2 => (in32 r_1 ∧ (¬ r_1 = 0 → (∀ v3_3 : Int, v3_3 = x3 + 1 → (wp_Model_put M_2 (fun M_5 => (∀ v4_6 : Int, v4_6 = x4 + 1 → wp_Model_findAll_5 Post n x1 x2 v3_3 v4_6 M_5))))) ∧ (r_1 = 0 → (∀ v4_7 : Int, v4_7 = x4 + 1 → wp_Model_findAll_5 Post n x1 x2 x3 v4_7 M_2))))))))))))))
def wp_Model_findAll (x1 x2 : Int) (M0 : Mem) (Post : Int → Mem → Prop) : Prop :=
    ∃ nn, wp_Model_findAll_5 Post nn x1 x2 0 0 M0
-- EdgeJoinsModel.run()I
def wp_Model_run_31 (X19 : Int → Int → Mem → Prop) (Post : Int → Mem → Prop) : Nat → Int → Int → Int → Mem → Prop
  | 0, _, _, _, _ => False
  | n + 1, x1, x2, x3, M0 =>
    (in32 x3 ∧ (in32 (M0 0 1) ∧ ((M0 0 1) ≤ x3 → (∀ v2_1 : Int, v2_1 = x2 + 1 → X19 x1 v2_1 M0)) ∧ (¬ (M0 0 1) ≤ x3 → ((0 ≤ x2 ∧ x2 < 6) ∧ (in32 (M0 4 x2.toNat) ∧ ((M0 4 x2.toNat) = 0 → (∀ v1_2 : Int, v1_2 = (x1 + 0) → (∀ v3_3 : Int, v3_3 = x3 + 1 → wp_Model_run_31 X19 Post n v1_2 x2 v3_3 M0))) ∧ (¬ (M0 4 x2.toNat) = 0 → ((0 ≤ x3 ∧ x3 < 6) ∧ (in32 (M0 4 x3.toNat) ∧ ((M0 4 x3.toNat) = 0 → (∀ v1_4 : Int, v1_4 = (x1 + 0) → (∀ v3_5 : Int, v3_5 = x3 + 1 → wp_Model_run_31 X19 Post n v1_4 x2 v3_5 M0))) ∧ (¬ (M0 4 x3.toNat) = 0 → (wp_Model_findAll x2 x3 M0 (fun r_6 M_7 => (∀ v1_8 : Int, v1_8 = (x1 + r_6) → (∀ v3_9 : Int, v3_9 = x3 + 1 → wp_Model_run_31 X19 Post n v1_8 x2 v3_9 M_7)))))))))))))
def wp_Model_run_19 (Post : Int → Mem → Prop) : Nat → Int → Int → Mem → Prop
  | 0, _, _, _ => False
  | n + 1, x1, x2, M0 =>
    (in32 x2 ∧ (in32 (M0 0 1) ∧ ((M0 0 1) ≤ x2 → Post x1 M0) ∧ (¬ (M0 0 1) ≤ x2 → (∀ v3_1 : Int, v3_1 = (x2 + 1) → ∃ nn, wp_Model_run_31 (fun y0 y1 M => wp_Model_run_19 Post n y0 y1 M) Post nn x1 x2 v3_1 M0))))
def wp_Model_run (M0 : Mem) (Post : Int → Mem → Prop) : Prop :=
    (∀ M_1 : Mem, M_1 = up M0 0 0 0 → (∀ M_2 : Mem, M_2 = up M_1 0 12 0 → (∀ M_3 : Mem, M_3 = up M_2 0 11 1 → ∃ nn, wp_Model_run_19 Post nn 0 0 M_3)))
-- EdgeJoinsModel.isPair(I)Z
def wp_Model_isPair (x1 : Int) (M0 : Mem) (Post : Int → Prop) : Prop :=
    (in32 (M0 0 11) ∧ ((M0 0 11) = 0 → Post 0) ∧ (¬ (M0 0 11) = 0 → (wp_Model_in x1 0 ((M0 0 12) - 1) M0 (fun r_1 => (in32 r_1 ∧ (r_1 = 0 → Post 0) ∧ (¬ r_1 = 0 → Post 1))))))
-- EdgeJoinsModel.pair(II)I
def wp_Model_pair_23 (x1 x2 t1 : Int) (M0 : Mem) (Post : Int → Mem → Prop) : Prop :=
    (wp_Model_throwing t1 0 0 M0 (fun r_1 M_2 => (in32 r_1 ∧ (r_1 = 0 → ((0 ≤ ((6 * x1) + x2) ∧ ((6 * x1) + x2) < 606) ∧ Post (M_2 8 ((6 * x1) + x2).toNat) M_2)) ∧ (¬ r_1 = 0 → Post 0 M_2))))
def wp_Model_pair_18 (x1 x2 : Int) (M0 : Mem) (Post : Int → Mem → Prop) : Prop :=
    wp_Model_pair_23 x1 x2 1 M0 Post
def wp_Model_pair (x1 x2 : Int) (M0 : Mem) (Post : Int → Mem → Prop) : Prop :=
    (wp_Model_isPair x1 M0 (fun r_1 => (in32 r_1 ∧ (r_1 = 0 → wp_Model_pair_18 x1 x2 M0 Post) ∧ (¬ r_1 = 0 → (wp_Model_in x2 0 5 M0 (fun r_2 => (in32 r_2 ∧ (¬ r_2 = 0 → wp_Model_pair_23 x1 x2 0 M0 Post) ∧ (r_2 = 0 → wp_Model_pair_18 x1 x2 M0 Post))))))))
-- EdgeJoinsModel.turn(I)V
def wp_Model_turn_2 (Post : Mem → Prop) : Nat → Int → Int → Mem → Prop
  | 0, _, _, _ => False
  | n + 1, x1, x2, M0 =>
    (in32 x2 ∧ (in32 x1 ∧ (x1 ≤ x2 → Post M0) ∧ (¬ x1 ≤ x2 → (∀ v3_1 : Int, v3_1 = (M0 0 19) → (∀ M_2 : Mem, M_2 = up M0 0 19 (-(M0 0 20)) → (∀ M_3 : Mem, M_3 = up M_2 0 20 v3_1 → (∀ v2_4 : Int, v2_4 = x2 + 1 → wp_Model_turn_2 Post n x1 v2_4 M_3)))))))
def wp_Model_turn (x1 : Int) (M0 : Mem) (Post : Mem → Prop) : Prop :=
    ∃ nn, wp_Model_turn_2 Post nn x1 0 M0
-- EdgeJoinsModel.cellOf([III)V
def wp_Model_cellOf_33 (k1 : Nat) (Post : Mem → Prop) : Nat → Int → Int → Mem → Prop
  | 0, _, _, _ => False
  | n + 1, x2, x4, M0 =>
    ((0 ≤ ((4 * x2) + 2) ∧ ((4 * x2) + 2) < 24) ∧ (in32 x4 ∧ (in32 (M0 k1 ((4 * x2) + 2).toNat) ∧ ((M0 k1 ((4 * x2) + 2).toNat) ≤ x4 → ((0 ≤ (4 * x2) ∧ (4 * x2) < 24) ∧ (∀ M_1 : Mem, M_1 = up M0 0 19 ((M0 0 19) + (M0 k1 (4 * x2).toNat)) → ((0 ≤ ((4 * x2) + 1) ∧ ((4 * x2) + 1) < 24) ∧ (∀ M_2 : Mem, M_2 = up M_1 0 20 ((M_1 0 20) + (M_1 k1 ((4 * x2) + 1).toNat)) → Post M_2))))) ∧ (¬ (M0 k1 ((4 * x2) + 2).toNat) ≤ x4 → (∀ v5_3 : Int, v5_3 = (M0 0 19) → (∀ M_4 : Mem, M_4 = up M0 0 19 ((-(M0 0 20)) - 1) → (∀ M_5 : Mem, M_5 = up M_4 0 20 v5_3 → (∀ v4_6 : Int, v4_6 = x4 + 1 → wp_Model_cellOf_33 k1 Post n x2 v4_6 M_5))))))))
def wp_Model_cellOf (k1 : Nat) (x2 x3 : Int) (M0 : Mem) (Post : Mem → Prop) : Prop :=
    ((0 ≤ ((49 * x2) + x3) ∧ ((49 * x2) + x3) < 294) ∧ (∀ M_1 : Mem, M_1 = up M0 0 19 (M0 6 ((49 * x2) + x3).toNat) → ((0 ≤ ((49 * x2) + x3) ∧ ((49 * x2) + x3) < 294) ∧ (∀ M_2 : Mem, M_2 = up M_1 0 20 (M_1 7 ((49 * x2) + x3).toNat) → ∃ nn, wp_Model_cellOf_33 k1 Post nn x2 0 M_2))))
-- EdgeJoinsModel.overlap([III)Z
def wp_Model_overlap_6 (k1 : Nat) (Post : Int → Mem → Prop) : Nat → Int → Int → Int → Int → Mem → Prop
  | 0, _, _, _, _, _ => False
  | n + 1, x2, x3, x4, x5, M0 =>
    ((0 ≤ x2 ∧ x2 < 6) ∧ ((0 ≤ x3 ∧ x3 < 6) ∧ (in32 x5 ∧ (in32 ((M0 5 x2.toNat) * (M0 5 x3.toNat)) ∧ (((M0 5 x2.toNat) * (M0 5 x3.toNat)) ≤ x5 → (x4 = 0 ∨ x4 = 1) ∧ Post x4 M0) ∧ (¬ ((M0 5 x2.toNat) * (M0 5 x3.toNat)) ≤ x5 → ((0 ≤ x3 ∧ x3 < 6) ∧ ((0 ≤ x5 ∧ x5 ≤ 2147483647 ∧ 0 < (M0 5 x3.toNat) ∧ (M0 5 x3.toNat) ≤ 2147483647) ∧ (wp_Model_cellOf k1 x2 (x5 / (M0 5 x3.toNat)) M0 (fun M_2 => (∀ v6_3 : Int, v6_3 = (M_2 0 19) → (∀ v7_4 : Int, v7_4 = (M_2 0 20) → ((0 ≤ x3 ∧ x3 < 6) ∧ ((0 ≤ x5 ∧ x5 ≤ 2147483647 ∧ 0 < (M_2 5 x3.toNat) ∧ (M_2 5 x3.toNat) ≤ 2147483647) ∧ (wp_Model_cellOf k1 x3 (x5 % (M_2 5 x3.toNat)) M_2 (fun M_6 => (in32 x4 ∧ (¬ x4 = 0 → (∀ v5_7 : Int, v5_7 = x5 + 1 → wp_Model_overlap_6 k1 Post n x2 x3 1 v5_7 M_6)) ∧ (x4 = 0 → (in32 (M_6 0 19) ∧ (in32 v6_3 ∧ (¬ (M_6 0 19) = v6_3 → (∀ v5_8 : Int, v5_8 = x5 + 1 → wp_Model_overlap_6 k1 Post n x2 x3 0 v5_8 M_6)) ∧ ((M_6 0 19) = v6_3 → (in32 (M_6 0 20) ∧ (in32 v7_4 ∧ (¬ (M_6 0 20) = v7_4 → (∀ v5_9 : Int, v5_9 = x5 + 1 → wp_Model_overlap_6 k1 Post n x2 x3 0 v5_9 M_6)) ∧ ((M_6 0 20) = v7_4 → (∀ v5_10 : Int, v5_10 = x5 + 1 → wp_Model_overlap_6 k1 Post n x2 x3 1 v5_10 M_6))))))))))))))))))))))))
def wp_Model_overlap (k1 : Nat) (x2 x3 : Int) (M0 : Mem) (Post : Int → Mem → Prop) : Prop :=
    ∃ nn, wp_Model_overlap_6 k1 Post nn x2 x3 0 0 M0
-- EdgeJoinsModel.aim(I)V
def wp_Model_aim (x1 : Int) (M0 : Mem) (Post : Mem → Prop) : Prop :=
    ((0 ≤ x1 ∧ x1 < 606) ∧ (∀ v2_1 : Int, v2_1 = (M0 8 x1.toNat) → ((0 ≤ (x1 + 1) ∧ (x1 + 1) < 606) ∧ (∀ v3_2 : Int, v3_2 = (M0 8 (x1 + 1).toNat) → ((0 ≤ (x1 + 2) ∧ (x1 + 2) < 606) ∧ (∀ v4_3 : Int, v4_3 = (M0 8 (x1 + 2).toNat) → ((0 ≤ (x1 + 3) ∧ (x1 + 3) < 606) ∧ (∀ v5_4 : Int, v5_4 = (M0 8 (x1 + 3).toNat) → ((0 ≤ ((4 * v2_1) + 2) ∧ ((4 * v2_1) + 2) < 24) ∧ (wp_Model_turnsOf v2_1 v3_2 v4_3 v5_4 M0 (fun r_5 => (∀ v6_6 : Int, v6_6 = (((M0 10 ((4 * v2_1) + 2).toNat) + r_5) % 4) → (wp_Model_corner v2_1 v3_2 M0 (fun M_8 => ((0 ≤ ((4 * v2_1) + 2) ∧ ((4 * v2_1) + 2) < 24) ∧ (wp_Model_turn (M_8 10 ((4 * v2_1) + 2).toNat) M_8 (fun M_10 => ((0 ≤ (4 * v2_1) ∧ (4 * v2_1) < 24) ∧ (∀ v7_11 : Int, v7_11 = ((M_10 0 19) + (M_10 10 (4 * v2_1).toNat)) → ((0 ≤ ((4 * v2_1) + 1) ∧ ((4 * v2_1) + 1) < 24) ∧ (∀ v8_12 : Int, v8_12 = ((M_10 0 20) + (M_10 10 ((4 * v2_1) + 1).toNat)) → (wp_Model_corner v4_3 (v5_4 + 1) M_10 (fun M_14 => (wp_Model_turn v6_6 M_14 (fun M_16 => ((0 ≤ (4 * v4_3) ∧ (4 * v4_3) < 24) ∧ ∀ M_17 : Mem, M_17 = up M_16 12 (4 * v4_3).toNat (v7_11 - (M_16 0 19)) → ((0 ≤ ((4 * v4_3) + 1) ∧ ((4 * v4_3) + 1) < 24) ∧ ∀ M_18 : Mem, M_18 = up M_17 12 ((4 * v4_3) + 1).toNat (v8_12 - (M_17 0 20)) → ((0 ≤ ((4 * v4_3) + 2) ∧ ((4 * v4_3) + 2) < 24) ∧ ∀ M_19 : Mem, M_19 = up M_18 12 ((4 * v4_3) + 2).toNat v6_6 → Post M_19))))))))))))))))))))))))))))
-- EdgeJoinsModel.moveTree(II)V
def wp_Model_moveTree_265 (X225 : Int → Int → Int → Int → Mem → Prop) (x2 x4 x5 x6 : Int) (M0 : Mem) (Post : Mem → Prop) : Prop :=
    ((0 ≤ ((4 * x6) + 3) ∧ ((4 * x6) + 3) < 24) ∧ ∀ M_1 : Mem, M_1 = up M0 12 ((4 * x6) + 3).toNat x5 → (∀ v6_2 : Int, v6_2 = x6 + 1 → X225 x2 x4 x5 v6_2 M_1))
def wp_Model_moveTree_225 (Post : Mem → Prop) : Nat → Int → Int → Int → Int → Mem → Prop
  | 0, _, _, _, _, _ => False
  | n + 1, x2, x4, x5, x6, M0 =>
    (in32 x6 ∧ (in32 (M0 0 1) ∧ ((M0 0 1) ≤ x6 → Post M0) ∧ (¬ (M0 0 1) ≤ x6 → ((0 ≤ ((4 * x6) + 3) ∧ ((4 * x6) + 3) < 24) ∧ (in32 (M0 10 ((4 * x6) + 3).toNat) ∧ (in32 x4 ∧ ((M0 10 ((4 * x6) + 3).toNat) = x4 → wp_Model_moveTree_265 (fun y0 y1 y2 y3 M => wp_Model_moveTree_225 Post n y0 y1 y2 y3 M) x2 x4 x5 x6 M0 Post) ∧ (¬ (M0 10 ((4 * x6) + 3).toNat) = x4 → ((0 ≤ ((4 * x6) + 3) ∧ ((4 * x6) + 3) < 24) ∧ (in32 (M0 10 ((4 * x6) + 3).toNat) ∧ (in32 x2 ∧ (¬ (M0 10 ((4 * x6) + 3).toNat) = x2 → (∀ v6_1 : Int, v6_1 = x6 + 1 → wp_Model_moveTree_225 Post n x2 x4 x5 v6_1 M0)) ∧ ((M0 10 ((4 * x6) + 3).toNat) = x2 → wp_Model_moveTree_265 (fun y0 y1 y2 y3 M => wp_Model_moveTree_225 Post n y0 y1 y2 y3 M) x2 x4 x5 x6 M0 Post)))))))))))
def wp_Model_moveTree_27 (Post : Mem → Prop) : Nat → Int → Int → Int → Int → Mem → Prop
  | 0, _, _, _, _, _ => False
  | n + 1, x1, x2, x3, x4, M0 =>
    (in32 x4 ∧ (in32 (M0 0 1) ∧ ((M0 0 1) ≤ x4 → ((0 ≤ ((4 * x1) + 3) ∧ ((4 * x1) + 3) < 24) ∧ (∀ v4_1 : Int, v4_1 = (M0 10 ((4 * x1) + 3).toNat) → (in32 v4_1 ∧ (in32 x2 ∧ (x2 ≤ v4_1 → ∃ nn, wp_Model_moveTree_225 Post nn x2 v4_1 x2 0 M0) ∧ (¬ x2 ≤ v4_1 → ∃ nn, wp_Model_moveTree_225 Post nn x2 v4_1 v4_1 0 M0)))))) ∧ (¬ (M0 0 1) ≤ x4 → ((0 ≤ ((4 * x4) + 3) ∧ ((4 * x4) + 3) < 24) ∧ ((0 ≤ ((4 * x1) + 3) ∧ ((4 * x1) + 3) < 24) ∧ (in32 (M0 10 ((4 * x4) + 3).toNat) ∧ (in32 (M0 10 ((4 * x1) + 3).toNat) ∧ ((M0 10 ((4 * x4) + 3).toNat) = (M0 10 ((4 * x1) + 3).toNat) → ((0 ≤ (4 * x4) ∧ (4 * x4) < 24) ∧ ((0 ≤ (4 * x1) ∧ (4 * x1) < 24) ∧ (∀ M_2 : Mem, M_2 = up M0 0 19 ((M0 10 (4 * x4).toNat) - (M0 10 (4 * x1).toNat)) → ((0 ≤ ((4 * x4) + 1) ∧ ((4 * x4) + 1) < 24) ∧ ((0 ≤ ((4 * x1) + 1) ∧ ((4 * x1) + 1) < 24) ∧ (∀ M_3 : Mem, M_3 = up M_2 0 20 ((M_2 10 ((4 * x4) + 1).toNat) - (M_2 10 ((4 * x1) + 1).toNat)) → (wp_Model_turn x3 M_3 (fun M_5 => ((0 ≤ (4 * x1) ∧ (4 * x1) < 24) ∧ ((0 ≤ (4 * x4) ∧ (4 * x4) < 24) ∧ ∀ M_6 : Mem, M_6 = up M_5 12 (4 * x4).toNat ((M_5 12 (4 * x1).toNat) + (M_5 0 19)) → ((0 ≤ ((4 * x1) + 1) ∧ ((4 * x1) + 1) < 24) ∧ ((0 ≤ ((4 * x4) + 1) ∧ ((4 * x4) + 1) < 24) ∧ ∀ M_7 : Mem, M_7 = up M_6 12 ((4 * x4) + 1).toNat ((M_6 12 ((4 * x1) + 1).toNat) + (M_6 0 20)) → ((0 ≤ ((4 * x4) + 2) ∧ ((4 * x4) + 2) < 24) ∧ ((0 ≤ ((4 * x4) + 2) ∧ ((4 * x4) + 2) < 24) ∧ ∀ M_8 : Mem, M_8 = up M_7 12 ((4 * x4) + 2).toNat (((M_7 10 ((4 * x4) + 2).toNat) + x3) % 4) → (∀ v4_9 : Int, v4_9 = x4 + 1 → wp_Model_moveTree_27 Post n x1 x2 x3 v4_9 M_8)))))))))))))))) ∧ (¬ (M0 10 ((4 * x4) + 3).toNat) = (M0 10 ((4 * x1) + 3).toNat) → (∀ v4_10 : Int, v4_10 = x4 + 1 → wp_Model_moveTree_27 Post n x1 x2 x3 v4_10 M0)))))))))
def wp_Model_moveTree (x1 x2 : Int) (M0 : Mem) (Post : Mem → Prop) : Prop :=
    ((0 ≤ ((4 * x1) + 2) ∧ ((4 * x1) + 2) < 24) ∧ ((0 ≤ ((4 * x1) + 2) ∧ ((4 * x1) + 2) < 24) ∧ (∀ v3_1 : Int, v3_1 = (((M0 12 ((4 * x1) + 2).toNat) - (M0 10 ((4 * x1) + 2).toNat)) % 4) → ∃ nn, wp_Model_moveTree_27 Post nn x1 x2 v3_1 0 M0)))
-- EdgeJoinsModel.fits(I)Z
def wp_Model_fits_15 (X4 : Int → Int → Int → Mem → Prop) (Post : Int → Mem → Prop) : Nat → Int → Int → Int → Int → Mem → Prop
  | 0, _, _, _, _, _ => False
  | n + 1, x1, x2, x3, x4, M0 =>
    (in32 x4 ∧ (in32 x3 ∧ (x3 ≤ x4 → (∀ v3_1 : Int, v3_1 = x3 + 1 → X4 x1 x2 v3_1 M0)) ∧ (¬ x3 ≤ x4 → (in32 x2 ∧ (x2 = 0 → (∀ v3_2 : Int, v3_2 = x3 + 1 → X4 x1 x2 v3_2 M0)) ∧ (¬ x2 = 0 → ((0 ≤ ((4 * x3) + 3) ∧ ((4 * x3) + 3) < 24) ∧ (in32 (M0 12 ((4 * x3) + 3).toNat) ∧ (in32 x1 ∧ (¬ (M0 12 ((4 * x3) + 3).toNat) = x1 → (∀ v4_3 : Int, v4_3 = x4 + 1 → wp_Model_fits_15 X4 Post n x1 1 x3 v4_3 M0)) ∧ ((M0 12 ((4 * x3) + 3).toNat) = x1 → ((0 ≤ ((4 * x4) + 3) ∧ ((4 * x4) + 3) < 24) ∧ (in32 (M0 12 ((4 * x4) + 3).toNat) ∧ (in32 x1 ∧ (¬ (M0 12 ((4 * x4) + 3).toNat) = x1 → (∀ v4_4 : Int, v4_4 = x4 + 1 → wp_Model_fits_15 X4 Post n x1 1 x3 v4_4 M0)) ∧ ((M0 12 ((4 * x4) + 3).toNat) = x1 → (wp_Model_overlap 12 x3 x4 M0 (fun r_5 M_6 => (in32 r_5 ∧ (¬ r_5 = 0 → (∀ v4_7 : Int, v4_7 = x4 + 1 → wp_Model_fits_15 X4 Post n x1 0 x3 v4_7 M_6)) ∧ (r_5 = 0 → (∀ v4_8 : Int, v4_8 = x4 + 1 → wp_Model_fits_15 X4 Post n x1 1 x3 v4_8 M_6))))))))))))))))))
def wp_Model_fits_4 (Post : Int → Mem → Prop) : Nat → Int → Int → Int → Mem → Prop
  | 0, _, _, _, _ => False
  | n + 1, x1, x2, x3, M0 =>
    (in32 x3 ∧ (in32 (M0 0 1) ∧ ((M0 0 1) ≤ x3 → (x2 = 0 ∨ x2 = 1) ∧ Post x2 M0) ∧ (¬ (M0 0 1) ≤ x3 → ∃ nn, wp_Model_fits_15 (fun y0 y1 y2 M => wp_Model_fits_4 Post n y0 y1 y2 M) Post nn x1 x2 x3 0 M0)))
def wp_Model_fits (x1 : Int) (M0 : Mem) (Post : Int → Mem → Prop) : Prop :=
    ∃ nn, wp_Model_fits_4 Post nn x1 1 0 M0
-- EdgeJoinsModel.join(I)I
def wp_Model_join_215 (Post : Int → Mem → Prop) : Nat → Int → Mem → Prop
  | 0, _, _ => False
  | n + 1, x4, M0 =>
    (in32 x4 ∧ (24 ≤ x4 → (∀ M_1 : Mem, M_1 = up M0 0 17 ((M0 0 17) + 1) → Post 0 M_1)) ∧ (¬ 24 ≤ x4 → ((0 ≤ x4 ∧ x4 < 24) ∧ ((0 ≤ ((24 * (M0 0 17)) + x4) ∧ ((24 * (M0 0 17)) + x4) < 144) ∧ ∀ M_2 : Mem, M_2 = up M0 11 ((24 * (M0 0 17)) + x4).toNat (M0 10 x4.toNat) → ((0 ≤ x4 ∧ x4 < 24) ∧ ((0 ≤ x4 ∧ x4 < 24) ∧ ∀ M_3 : Mem, M_3 = up M_2 10 x4.toNat (M_2 12 x4.toNat) → (∀ v4_4 : Int, v4_4 = x4 + 1 → wp_Model_join_215 Post n v4_4 M_3)))))))
def wp_Model_join_49 (Post : Int → Mem → Prop) : Nat → Int → Int → Int → Int → Mem → Prop
  | 0, _, _, _, _, _ => False
  | n + 1, x1, x2, x3, x4, M0 =>
    (in32 x4 ∧ (24 ≤ x4 → (wp_Model_aim (6 * x1) M0 (fun M_2 => ((0 ≤ ((4 * x2) + 3) ∧ ((4 * x2) + 3) < 24) ∧ ((0 ≤ ((4 * x3) + 3) ∧ ((4 * x3) + 3) < 24) ∧ (in32 (M_2 10 ((4 * x2) + 3).toNat) ∧ (in32 (M_2 10 ((4 * x3) + 3).toNat) ∧ (¬ (M_2 10 ((4 * x2) + 3).toNat) = (M_2 10 ((4 * x3) + 3).toNat) → ((0 ≤ ((4 * x2) + 3) ∧ ((4 * x2) + 3) < 24) ∧ (wp_Model_moveTree x3 (M_2 10 ((4 * x2) + 3).toNat) M_2 (fun M_4 => ((0 ≤ ((4 * x3) + 3) ∧ ((4 * x3) + 3) < 24) ∧ (wp_Model_fits (M_4 12 ((4 * x3) + 3).toNat) M_4 (fun r_5 M_6 => (in32 r_5 ∧ (¬ r_5 = 0 → ∃ nn, wp_Model_join_215 Post nn 0 M_6) ∧ (r_5 = 0 → Post 1 M_6))))))))) ∧ ((M_2 10 ((4 * x2) + 3).toNat) = (M_2 10 ((4 * x3) + 3).toNat) → ((0 ≤ (4 * x3) ∧ (4 * x3) < 24) ∧ ((0 ≤ (4 * x3) ∧ (4 * x3) < 24) ∧ (in32 (M_2 12 (4 * x3).toNat) ∧ (in32 (M_2 10 (4 * x3).toNat) ∧ (¬ (M_2 12 (4 * x3).toNat) = (M_2 10 (4 * x3).toNat) → Post 2 M_2) ∧ ((M_2 12 (4 * x3).toNat) = (M_2 10 (4 * x3).toNat) → ((0 ≤ ((4 * x3) + 1) ∧ ((4 * x3) + 1) < 24) ∧ ((0 ≤ ((4 * x3) + 1) ∧ ((4 * x3) + 1) < 24) ∧ (in32 (M_2 12 ((4 * x3) + 1).toNat) ∧ (in32 (M_2 10 ((4 * x3) + 1).toNat) ∧ (¬ (M_2 12 ((4 * x3) + 1).toNat) = (M_2 10 ((4 * x3) + 1).toNat) → Post 2 M_2) ∧ ((M_2 12 ((4 * x3) + 1).toNat) = (M_2 10 ((4 * x3) + 1).toNat) → ((0 ≤ ((4 * x3) + 2) ∧ ((4 * x3) + 2) < 24) ∧ ((0 ≤ ((4 * x3) + 2) ∧ ((4 * x3) + 2) < 24) ∧ (in32 (M_2 12 ((4 * x3) + 2).toNat) ∧ (in32 (M_2 10 ((4 * x3) + 2).toNat) ∧ (¬ (M_2 12 ((4 * x3) + 2).toNat) = (M_2 10 ((4 * x3) + 2).toNat) → Post 2 M_2) ∧ ((M_2 12 ((4 * x3) + 2).toNat) = (M_2 10 ((4 * x3) + 2).toNat) → Post 3 M_2))))))))))))))))))))))) ∧ (¬ 24 ≤ x4 → ((0 ≤ x4 ∧ x4 < 24) ∧ ((0 ≤ x4 ∧ x4 < 24) ∧ ∀ M_7 : Mem, M_7 = up M0 12 x4.toNat (M0 10 x4.toNat) → (∀ v4_8 : Int, v4_8 = x4 + 1 → wp_Model_join_49 Post n x1 x2 x3 v4_8 M_7)))))
def wp_Model_join_14 (x1 t1 : Int) (M0 : Mem) (Post : Int → Mem → Prop) : Prop :=
    (wp_Model_throwing t1 0 0 M0 (fun r_1 M_2 => (in32 r_1 ∧ (r_1 = 0 → ((0 ≤ (6 * x1) ∧ (6 * x1) < 606) ∧ (∀ v2_3 : Int, v2_3 = (M_2 8 (6 * x1).toNat) → ((0 ≤ ((6 * x1) + 2) ∧ ((6 * x1) + 2) < 606) ∧ (∀ v3_4 : Int, v3_4 = (M_2 8 ((6 * x1) + 2).toNat) → ∃ nn, wp_Model_join_49 Post nn x1 v2_3 v3_4 0 M_2))))) ∧ (¬ r_1 = 0 → Post 0 M_2))))
def wp_Model_join (x1 : Int) (M0 : Mem) (Post : Int → Mem → Prop) : Prop :=
    (wp_Model_isPair x1 M0 (fun r_1 => (in32 r_1 ∧ (¬ r_1 = 0 → wp_Model_join_14 x1 0 M0 Post) ∧ (r_1 = 0 → wp_Model_join_14 x1 1 M0 Post))))
-- EdgeJoinsModel.undo()Z
def wp_Model_undo_26 (Post : Int → Mem → Prop) : Nat → Int → Mem → Prop
  | 0, _, _ => False
  | n + 1, x1, M0 =>
    (in32 x1 ∧ (24 ≤ x1 → Post 1 M0) ∧ (¬ 24 ≤ x1 → ((0 ≤ ((24 * (M0 0 17)) + x1) ∧ ((24 * (M0 0 17)) + x1) < 144) ∧ ((0 ≤ x1 ∧ x1 < 24) ∧ ∀ M_1 : Mem, M_1 = up M0 10 x1.toNat (M0 11 ((24 * (M0 0 17)) + x1).toNat) → (∀ v1_2 : Int, v1_2 = x1 + 1 → wp_Model_undo_26 Post n v1_2 M_1)))))
def wp_Model_undo (M0 : Mem) (Post : Int → Mem → Prop) : Prop :=
    (∀ M_1 : Mem, M_1 = up M0 0 0 0 → (in32 (M_1 0 17) ∧ (¬ (M_1 0 17) = 0 → (∀ M_2 : Mem, M_2 = up M_1 0 17 ((M_1 0 17) - 1) → ∃ nn, wp_Model_undo_26 Post nn 0 M_2)) ∧ ((M_1 0 17) = 0 → Post 0 M_1)))
-- EdgeJoinsModel.place(II)I
def wp_Model_place_23 (x1 x2 t1 : Int) (M0 : Mem) (Post : Int → Mem → Prop) : Prop :=
    (wp_Model_throwing t1 0 0 M0 (fun r_1 M_2 => (in32 r_1 ∧ (r_1 = 0 → ((0 ≤ ((4 * x1) + x2) ∧ ((4 * x1) + x2) < 24) ∧ Post (M_2 10 ((4 * x1) + x2).toNat) M_2)) ∧ (¬ r_1 = 0 → Post 0 M_2))))
def wp_Model_place_18 (x1 x2 : Int) (M0 : Mem) (Post : Int → Mem → Prop) : Prop :=
    wp_Model_place_23 x1 x2 1 M0 Post
def wp_Model_place (x1 x2 : Int) (M0 : Mem) (Post : Int → Mem → Prop) : Prop :=
    (wp_Model_isSherd x1 M0 (fun r_1 => (in32 r_1 ∧ (r_1 = 0 → wp_Model_place_18 x1 x2 M0 Post) ∧ (¬ r_1 = 0 → (wp_Model_in x2 0 3 M0 (fun r_2 => (in32 r_2 ∧ (¬ r_2 = 0 → wp_Model_place_23 x1 x2 0 M0 Post) ∧ (r_2 = 0 → wp_Model_place_18 x1 x2 M0 Post))))))))
-- EdgeJoinsModel.lay(I)V
def wp_Model_lay_130 (X16 : Int → Int → Mem → Prop) (X23 : Int → Int → Int → Mem → Prop) (X34 : Int → Int → Int → Int → Mem → Prop) (x1 x2 x3 x4 : Int) (M0 : Mem) (Post : Mem → Prop) : Prop :=
    (in32 x2 ∧ (¬ x2 = 0 → (∀ v4_1 : Int, v4_1 = x4 + 1 → X34 x1 x2 x3 v4_1 M0)) ∧ (x2 = 0 → (in32 (M0 0 20) ∧ (in32 (M0 0 23) ∧ ((M0 0 23) ≤ (M0 0 20) → (∀ v4_2 : Int, v4_2 = x4 + 1 → X34 x1 x2 x3 v4_2 M0)) ∧ (¬ (M0 0 23) ≤ (M0 0 20) → (∀ M_3 : Mem, M_3 = up M0 0 23 (M0 0 20) → (∀ v4_4 : Int, v4_4 = x4 + 1 → X34 x1 x2 x3 v4_4 M_3)))))))
def wp_Model_lay_107 (X16 : Int → Int → Mem → Prop) (X23 : Int → Int → Int → Mem → Prop) (X34 : Int → Int → Int → Int → Mem → Prop) (x1 x2 x3 x4 : Int) (M0 : Mem) (Post : Mem → Prop) : Prop :=
    (in32 x2 ∧ (¬ x2 = 0 → wp_Model_lay_130 X16 X23 X34 x1 x2 x3 x4 M0 Post) ∧ (x2 = 0 → (in32 (M0 0 19) ∧ (in32 (M0 0 22) ∧ ((M0 0 22) ≤ (M0 0 19) → wp_Model_lay_130 X16 X23 X34 x1 x2 x3 x4 M0 Post) ∧ (¬ (M0 0 22) ≤ (M0 0 19) → (∀ M_1 : Mem, M_1 = up M0 0 22 (M0 0 19) → wp_Model_lay_130 X16 X23 X34 x1 x2 x3 x4 M_1 Post))))))
def wp_Model_lay_34 (X16 : Int → Int → Mem → Prop) (X23 : Int → Int → Int → Mem → Prop) (Post : Mem → Prop) : Nat → Int → Int → Int → Int → Mem → Prop
  | 0, _, _, _, _, _ => False
  | n + 1, x1, x2, x3, x4, M0 =>
    ((0 ≤ x3 ∧ x3 < 6) ∧ (in32 x4 ∧ (in32 (M0 5 x3.toNat) ∧ ((M0 5 x3.toNat) ≤ x4 → (∀ v3_1 : Int, v3_1 = x3 + 1 → X23 x1 x2 v3_1 M0)) ∧ (¬ (M0 5 x3.toNat) ≤ x4 → ((0 ≤ ((4 * x3) + 3) ∧ ((4 * x3) + 3) < 24) ∧ (in32 (M0 10 ((4 * x3) + 3).toNat) ∧ (in32 x1 ∧ (¬ (M0 10 ((4 * x3) + 3).toNat) = x1 → (∀ v3_2 : Int, v3_2 = x3 + 1 → X23 x1 x2 v3_2 M0)) ∧ ((M0 10 ((4 * x3) + 3).toNat) = x1 → (wp_Model_cellOf 10 x3 x4 M0 (fun M_4 => (in32 x2 ∧ (¬ x2 = 1 → wp_Model_lay_107 X16 X23 (fun y0 y1 y2 y3 M => wp_Model_lay_34 X16 X23 Post n y0 y1 y2 y3 M) x1 x2 x3 x4 M_4 Post) ∧ (x2 = 1 → ((0 ≤ ((((90 * (((M_4 0 20) - (M_4 0 23)) + 1)) + (M_4 0 19)) - (M_4 0 22)) + 1) ∧ ((((90 * (((M_4 0 20) - (M_4 0 23)) + 1)) + (M_4 0 19)) - (M_4 0 22)) + 1) < 8100) ∧ ∀ M_5 : Mem, M_5 = up M_4 13 ((((90 * (((M_4 0 20) - (M_4 0 23)) + 1)) + (M_4 0 19)) - (M_4 0 22)) + 1).toNat 1 → wp_Model_lay_107 X16 X23 (fun y0 y1 y2 y3 M => wp_Model_lay_34 X16 X23 Post n y0 y1 y2 y3 M) x1 x2 x3 x4 M_5 Post)))))))))))))
def wp_Model_lay_23 (X16 : Int → Int → Mem → Prop) (Post : Mem → Prop) : Nat → Int → Int → Int → Mem → Prop
  | 0, _, _, _, _ => False
  | n + 1, x1, x2, x3, M0 =>
    (in32 x3 ∧ (in32 (M0 0 1) ∧ ((M0 0 1) ≤ x3 → (∀ v2_1 : Int, v2_1 = x2 + 1 → X16 x1 v2_1 M0)) ∧ (¬ (M0 0 1) ≤ x3 → ∃ nn, wp_Model_lay_34 X16 (fun y0 y1 y2 M => wp_Model_lay_23 X16 Post n y0 y1 y2 M) Post nn x1 x2 x3 0 M0)))
def wp_Model_lay_16 (Post : Mem → Prop) : Nat → Int → Int → Mem → Prop
  | 0, _, _, _ => False
  | n + 1, x1, x2, M0 =>
    (in32 x2 ∧ (2 ≤ x2 → Post M0) ∧ (¬ 2 ≤ x2 → ∃ nn, wp_Model_lay_23 (fun y0 y1 M => wp_Model_lay_16 Post n y0 y1 M) Post nn x1 x2 0 M0))
def wp_Model_lay (x1 : Int) (M0 : Mem) (Post : Mem → Prop) : Prop :=
    (∀ M_1 : Mem, M_1 = up M0 0 22 1000 → (∀ M_2 : Mem, M_2 = up M_1 0 23 1000 → ∃ nn, wp_Model_lay_16 Post nn x1 0 M_2))
-- EdgeJoinsModel.isOut(I)Z
def wp_Model_isOut (x1 : Int) (M0 : Mem) (Post : Int → Prop) : Prop :=
    (in32 x1 ∧ (x1 < 0 → Post 0) ∧ (¬ x1 < 0 → (in32 x1 ∧ (8100 ≤ x1 → Post 0) ∧ (¬ 8100 ≤ x1 → ((0 ≤ x1 ∧ x1 < 8100) ∧ (in32 (M0 13 x1.toNat) ∧ (¬ (M0 13 x1.toNat) = 2 → Post 0) ∧ ((M0 13 x1.toNat) = 2 → Post 1)))))))
-- EdgeJoinsModel.flood()V
def wp_Model_flood_96 (X9 : Int → Mem → Prop) (X17 : Int → Int → Mem → Prop) (x2 : Int) (M0 : Mem) (Post : Mem → Prop) : Prop :=
    ((0 ≤ x2 ∧ x2 < 8100) ∧ ∀ M_1 : Mem, M_1 = up M0 13 x2.toNat 2 → (∀ v2_2 : Int, v2_2 = x2 + 1 → X17 1 v2_2 M_1))
def wp_Model_flood_71 (X9 : Int → Mem → Prop) (X17 : Int → Int → Mem → Prop) (x1 x2 : Int) (M0 : Mem) (Post : Mem → Prop) : Prop :=
    (wp_Model_isOut (x2 - 90) M0 (fun r_1 => (in32 r_1 ∧ (¬ r_1 = 0 → wp_Model_flood_96 X9 X17 x2 M0 Post) ∧ (r_1 = 0 → (wp_Model_isOut (x2 + 90) M0 (fun r_2 => (in32 r_2 ∧ (¬ r_2 = 0 → wp_Model_flood_96 X9 X17 x2 M0 Post) ∧ (r_2 = 0 → (∀ v2_3 : Int, v2_3 = x2 + 1 → X17 x1 v2_3 M0)))))))))
def wp_Model_flood_55 (X9 : Int → Mem → Prop) (X17 : Int → Int → Mem → Prop) (x1 x2 x3 : Int) (M0 : Mem) (Post : Mem → Prop) : Prop :=
    (in32 x3 ∧ (89 ≤ x3 → wp_Model_flood_71 X9 X17 x1 x2 M0 Post) ∧ (¬ 89 ≤ x3 → (wp_Model_isOut (x2 + 1) M0 (fun r_1 => (in32 r_1 ∧ (¬ r_1 = 0 → wp_Model_flood_96 X9 X17 x2 M0 Post) ∧ (r_1 = 0 → wp_Model_flood_71 X9 X17 x1 x2 M0 Post))))))
def wp_Model_flood_17 (X9 : Int → Mem → Prop) (Post : Mem → Prop) : Nat → Int → Int → Mem → Prop
  | 0, _, _, _ => False
  | n + 1, x1, x2, M0 =>
    (in32 x2 ∧ (8100 ≤ x2 → X9 x1 M0) ∧ (¬ 8100 ≤ x2 → ((0 ≤ x2 ∧ x2 ≤ 2147483647 ∧ 0 < (90 : Int) ∧ (90 : Int) ≤ 2147483647) ∧ (∀ v3_1 : Int, v3_1 = (x2 % 90) → ((0 ≤ x2 ∧ x2 < 8100) ∧ (in32 (M0 13 x2.toNat) ∧ ((M0 13 x2.toNat) = 0 → (in32 v3_1 ∧ (v3_1 ≤ 0 → wp_Model_flood_55 X9 (fun y0 y1 M => wp_Model_flood_17 X9 Post n y0 y1 M) x1 x2 v3_1 M0 Post) ∧ (¬ v3_1 ≤ 0 → (wp_Model_isOut (x2 - 1) M0 (fun r_2 => (in32 r_2 ∧ (¬ r_2 = 0 → wp_Model_flood_96 X9 (fun y0 y1 M => wp_Model_flood_17 X9 Post n y0 y1 M) x2 M0 Post) ∧ (r_2 = 0 → wp_Model_flood_55 X9 (fun y0 y1 M => wp_Model_flood_17 X9 Post n y0 y1 M) x1 x2 v3_1 M0 Post))))))) ∧ (¬ (M0 13 x2.toNat) = 0 → (∀ v2_3 : Int, v2_3 = x2 + 1 → wp_Model_flood_17 X9 Post n x1 v2_3 M0))))))))
def wp_Model_flood_9 (Post : Mem → Prop) : Nat → Int → Mem → Prop
  | 0, _, _ => False
  | n + 1, x1, M0 =>
    (in32 x1 ∧ (x1 = 0 → Post M0) ∧ (¬ x1 = 0 → ∃ nn, wp_Model_flood_17 (fun y0 M => wp_Model_flood_9 Post n y0 M) Post nn 0 0 M0))
def wp_Model_flood (M0 : Mem) (Post : Mem → Prop) : Prop :=
    ((0 ≤ (0 : Int) ∧ (0 : Int) < 8100) ∧ ∀ M_1 : Mem, M_1 = up M0 13 (0 : Int).toNat 2 → ∃ nn, wp_Model_flood_9 Post nn 1 M_1)
-- EdgeJoinsModel.holes(I)I
def wp_Model_holes_79 (Post : Int → Mem → Prop) : Nat → Int → Int → Mem → Prop
  | 0, _, _, _ => False
  | n + 1, x2, x3, M0 =>
    (in32 x3 ∧ (8100 ≤ x3 → Post x2 M0) ∧ (¬ 8100 ≤ x3 → ((0 ≤ x3 ∧ x3 < 8100) ∧ (in32 (M0 13 x3.toNat) ∧ (¬ (M0 13 x3.toNat) = 0 → (∀ v2_1 : Int, v2_1 = (x2 + 0) → (∀ v3_2 : Int, v3_2 = x3 + 1 → wp_Model_holes_79 Post n v2_1 v3_2 M0))) ∧ ((M0 13 x3.toNat) = 0 → (∀ v2_3 : Int, v2_3 = (x2 + 1) → (∀ v3_4 : Int, v3_4 = x3 + 1 → wp_Model_holes_79 Post n v2_3 v3_4 M0)))))))
def wp_Model_holes_37 (Post : Int → Mem → Prop) : Nat → Int → Int → Mem → Prop
  | 0, _, _, _ => False
  | n + 1, x1, x2, M0 =>
    (in32 x2 ∧ (8100 ≤ x2 → ((0 ≤ ((4 * x1) + 3) ∧ ((4 * x1) + 3) < 24) ∧ (wp_Model_lay (M0 10 ((4 * x1) + 3).toNat) M0 (fun M_2 => (wp_Model_flood M_2 (fun M_4 => ∃ nn, wp_Model_holes_79 Post nn 0 0 M_4)))))) ∧ (¬ 8100 ≤ x2 → ((0 ≤ x2 ∧ x2 < 8100) ∧ ∀ M_5 : Mem, M_5 = up M0 13 x2.toNat 0 → (∀ v2_6 : Int, v2_6 = x2 + 1 → wp_Model_holes_37 Post n x1 v2_6 M_5))))
def wp_Model_holes_14 (x1 t1 : Int) (M0 : Mem) (Post : Int → Mem → Prop) : Prop :=
    (wp_Model_throwing t1 0 0 M0 (fun r_1 M_2 => (in32 r_1 ∧ (r_1 = 0 → ((0 ≤ x1 ∧ x1 < 6) ∧ (in32 (M_2 4 x1.toNat) ∧ (¬ (M_2 4 x1.toNat) = 0 → ∃ nn, wp_Model_holes_37 Post nn x1 0 M_2) ∧ ((M_2 4 x1.toNat) = 0 → Post 0 M_2)))) ∧ (¬ r_1 = 0 → Post 0 M_2))))
def wp_Model_holes (x1 : Int) (M0 : Mem) (Post : Int → Mem → Prop) : Prop :=
    (wp_Model_isSherd x1 M0 (fun r_1 => (in32 r_1 ∧ (¬ r_1 = 0 → wp_Model_holes_14 x1 0 M0 Post) ∧ (r_1 = 0 → wp_Model_holes_14 x1 1 M0 Post))))
-- EdgeJoinsModel.count(I)I
def wp_Model_count_29 (Post : Int → Mem → Prop) : Nat → Int → Int → Int → Mem → Prop
  | 0, _, _, _, _ => False
  | n + 1, x1, x2, x3, M0 =>
    (in32 x3 ∧ (in32 (M0 0 1) ∧ ((M0 0 1) ≤ x3 → (in32 x1 ∧ (¬ x1 = 0 → (in32 x1 ∧ (¬ x1 = 1 → (in32 x1 ∧ (¬ x1 = 2 → Post (M0 0 17) M0) ∧ (x1 = 2 → (in32 (M0 0 11) ∧ ((M0 0 11) = 0 → Post 0 M0) ∧ (¬ (M0 0 11) = 0 → Post (M0 0 12) M0))))) ∧ (x1 = 1 → Post x2 M0))) ∧ (x1 = 0 → Post (M0 0 1) M0))) ∧ (¬ (M0 0 1) ≤ x3 → ((0 ≤ x3 ∧ x3 < 6) ∧ (in32 (M0 4 x3.toNat) ∧ ((M0 4 x3.toNat) = 0 → (∀ v2_1 : Int, v2_1 = (x2 + 0) → (∀ v3_2 : Int, v3_2 = x3 + 1 → wp_Model_count_29 Post n x1 v2_1 v3_2 M0))) ∧ (¬ (M0 4 x3.toNat) = 0 → (∀ v2_3 : Int, v2_3 = (x2 + 1) → (∀ v3_4 : Int, v3_4 = x3 + 1 → wp_Model_count_29 Post n x1 v2_3 v3_4 M0))))))))
def wp_Model_count_15 (x1 t1 : Int) (M0 : Mem) (Post : Int → Mem → Prop) : Prop :=
    (wp_Model_throwing t1 0 0 M0 (fun r_1 M_2 => (in32 r_1 ∧ (r_1 = 0 → ∃ nn, wp_Model_count_29 Post nn x1 0 0 M_2) ∧ (¬ r_1 = 0 → Post 0 M_2))))
def wp_Model_count (x1 : Int) (M0 : Mem) (Post : Int → Mem → Prop) : Prop :=
    (wp_Model_in x1 0 3 M0 (fun r_1 => (in32 r_1 ∧ (¬ r_1 = 0 → wp_Model_count_15 x1 0 M0 Post) ∧ (r_1 = 0 → wp_Model_count_15 x1 1 M0 Post))))
