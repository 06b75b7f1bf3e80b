theorem d_X_squares_0 : decode b_X_squares 0 = .ok (.iconst 0, 1) := by decide +kernel
theorem d_X_squares_1 : decode b_X_squares 1 = .ok (.istore 5, 2) := by decide +kernel
theorem d_X_squares_3 : decode b_X_squares 3 = .ok (.iconst 0, 1) := by decide +kernel
theorem d_X_squares_4 : decode b_X_squares 4 = .ok (.istore 6, 2) := by decide +kernel
theorem d_X_squares_6 : decode b_X_squares 6 = .ok (.iload 6, 2) := by decide +kernel
theorem d_X_squares_8 : decode b_X_squares 8 = .ok (.iload 4, 2) := by decide +kernel
theorem d_X_squares_10 : decode b_X_squares 10 = .ok (.if_icmp .ge 46, 3) := by decide +kernel
theorem d_X_squares_13 : decode b_X_squares 13 = .ok (.aload_n 0, 1) := by decide +kernel
theorem d_X_squares_14 : decode b_X_squares 14 = .ok (.getfield 93, 3) := by decide +kernel
theorem d_X_squares_17 : decode b_X_squares 17 = .ok (.iload_n 1, 1) := by decide +kernel
theorem d_X_squares_18 : decode b_X_squares 18 = .ok (.iaload, 1) := by decide +kernel
theorem d_X_squares_19 : decode b_X_squares 19 = .ok (.aload_n 2, 1) := by decide +kernel
theorem d_X_squares_20 : decode b_X_squares 20 = .ok (.getfield 93, 3) := by decide +kernel
theorem d_X_squares_23 : decode b_X_squares 23 = .ok (.iload_n 3, 1) := by decide +kernel
theorem d_X_squares_24 : decode b_X_squares 24 = .ok (.iaload, 1) := by decide +kernel
theorem d_X_squares_25 : decode b_X_squares 25 = .ok (.isub, 1) := by decide +kernel
theorem d_X_squares_26 : decode b_X_squares 26 = .ok (.istore 7, 2) := by decide +kernel
theorem d_X_squares_28 : decode b_X_squares 28 = .ok (.iload 5, 2) := by decide +kernel
theorem d_X_squares_30 : decode b_X_squares 30 = .ok (.iload 7, 2) := by decide +kernel
theorem d_X_squares_32 : decode b_X_squares 32 = .ok (.iload 7, 2) := by decide +kernel
theorem d_X_squares_34 : decode b_X_squares 34 = .ok (.imul, 1) := by decide +kernel
theorem d_X_squares_35 : decode b_X_squares 35 = .ok (.iadd, 1) := by decide +kernel
theorem d_X_squares_36 : decode b_X_squares 36 = .ok (.istore 5, 2) := by decide +kernel
theorem d_X_squares_38 : decode b_X_squares 38 = .ok (.aload_n 0, 1) := by decide +kernel
theorem d_X_squares_39 : decode b_X_squares 39 = .ok (.iload_n 1, 1) := by decide +kernel
theorem d_X_squares_40 : decode b_X_squares 40 = .ok (.invokevirtual 221, 3) := by decide +kernel
theorem d_X_squares_43 : decode b_X_squares 43 = .ok (.istore_n 1, 1) := by decide +kernel
theorem d_X_squares_44 : decode b_X_squares 44 = .ok (.aload_n 2, 1) := by decide +kernel
theorem d_X_squares_45 : decode b_X_squares 45 = .ok (.iload_n 3, 1) := by decide +kernel
theorem d_X_squares_46 : decode b_X_squares 46 = .ok (.invokevirtual 217, 3) := by decide +kernel
theorem d_X_squares_49 : decode b_X_squares 49 = .ok (.istore_n 3, 1) := by decide +kernel
theorem d_X_squares_50 : decode b_X_squares 50 = .ok (.iinc 6 1, 3) := by decide +kernel
theorem d_X_squares_53 : decode b_X_squares 53 = .ok (.goto (-47), 3) := by decide +kernel
theorem d_X_squares_56 : decode b_X_squares 56 = .ok (.iload 5, 2) := by decide +kernel
theorem d_X_squares_58 : decode b_X_squares 58 = .ok (.ireturn, 1) := by decide +kernel
theorem d_Pair_become_0 : decode b_Pair_become 0 = .ok (.aload_n 0, 1) := by decide +kernel
theorem d_Pair_become_1 : decode b_Pair_become 1 = .ok (.iload_n 1, 1) := by decide +kernel
theorem d_Pair_become_2 : decode b_Pair_become 2 = .ok (.putfield 7, 3) := by decide +kernel
theorem d_Pair_become_5 : decode b_Pair_become 5 = .ok (.aload_n 0, 1) := by decide +kernel
theorem d_Pair_become_6 : decode b_Pair_become 6 = .ok (.iload_n 2, 1) := by decide +kernel
theorem d_Pair_become_7 : decode b_Pair_become 7 = .ok (.putfield 13, 3) := by decide +kernel
theorem d_Pair_become_10 : decode b_Pair_become 10 = .ok (.aload_n 0, 1) := by decide +kernel
theorem d_Pair_become_11 : decode b_Pair_become 11 = .ok (.iload_n 3, 1) := by decide +kernel
theorem d_Pair_become_12 : decode b_Pair_become 12 = .ok (.putfield 16, 3) := by decide +kernel
theorem d_Pair_become_15 : decode b_Pair_become 15 = .ok (.aload_n 0, 1) := by decide +kernel
theorem d_Pair_become_16 : decode b_Pair_become 16 = .ok (.iload 4, 2) := by decide +kernel
theorem d_Pair_become_18 : decode b_Pair_become 18 = .ok (.putfield 19, 3) := by decide +kernel
theorem d_Pair_become_21 : decode b_Pair_become 21 = .ok (.aload_n 0, 1) := by decide +kernel
theorem d_Pair_become_22 : decode b_Pair_become 22 = .ok (.iload 5, 2) := by decide +kernel
theorem d_Pair_become_24 : decode b_Pair_become 24 = .ok (.putfield 22, 3) := by decide +kernel
theorem d_Pair_become_27 : decode b_Pair_become 27 = .ok (.aload_n 0, 1) := by decide +kernel
theorem d_Pair_become_28 : decode b_Pair_become 28 = .ok (.iload 6, 2) := by decide +kernel
theorem d_Pair_become_30 : decode b_Pair_become 30 = .ok (.putfield 25, 3) := by decide +kernel
theorem d_Pair_become_33 : decode b_Pair_become 33 = .ok (.aload_n 0, 1) := by decide +kernel
theorem d_Pair_become_34 : decode b_Pair_become 34 = .ok (.iload 7, 2) := by decide +kernel
theorem d_Pair_become_36 : decode b_Pair_become 36 = .ok (.putfield 28, 3) := by decide +kernel
theorem d_Pair_become_39 : decode b_Pair_become 39 = .ok (.return_, 1) := by decide +kernel
theorem d_Pair_ranksAhead_0 : decode b_Pair_ranksAhead 0 = .ok (.aload_n 0, 1) := by decide +kernel
theorem d_Pair_ranksAhead_1 : decode b_Pair_ranksAhead 1 = .ok (.getfield 25, 3) := by decide +kernel
theorem d_Pair_ranksAhead_4 : decode b_Pair_ranksAhead 4 = .ok (.aload_n 1, 1) := by decide +kernel
theorem d_Pair_ranksAhead_5 : decode b_Pair_ranksAhead 5 = .ok (.getfield 22, 3) := by decide +kernel
theorem d_Pair_ranksAhead_8 : decode b_Pair_ranksAhead 8 = .ok (.imul, 1) := by decide +kernel
theorem d_Pair_ranksAhead_9 : decode b_Pair_ranksAhead 9 = .ok (.istore_n 2, 1) := by decide +kernel
theorem d_Pair_ranksAhead_10 : decode b_Pair_ranksAhead 10 = .ok (.aload_n 1, 1) := by decide +kernel
theorem d_Pair_ranksAhead_11 : decode b_Pair_ranksAhead 11 = .ok (.getfield 25, 3) := by decide +kernel
theorem d_Pair_ranksAhead_14 : decode b_Pair_ranksAhead 14 = .ok (.aload_n 0, 1) := by decide +kernel
theorem d_Pair_ranksAhead_15 : decode b_Pair_ranksAhead 15 = .ok (.getfield 22, 3) := by decide +kernel
theorem d_Pair_ranksAhead_18 : decode b_Pair_ranksAhead 18 = .ok (.imul, 1) := by decide +kernel
theorem d_Pair_ranksAhead_19 : decode b_Pair_ranksAhead 19 = .ok (.istore_n 3, 1) := by decide +kernel
theorem d_Pair_ranksAhead_20 : decode b_Pair_ranksAhead 20 = .ok (.iload_n 2, 1) := by decide +kernel
theorem d_Pair_ranksAhead_21 : decode b_Pair_ranksAhead 21 = .ok (.iload_n 3, 1) := by decide +kernel
theorem d_Pair_ranksAhead_22 : decode b_Pair_ranksAhead 22 = .ok (.if_icmp .eq 16, 3) := by decide +kernel
theorem d_Pair_ranksAhead_25 : decode b_Pair_ranksAhead 25 = .ok (.iload_n 2, 1) := by decide +kernel
theorem d_Pair_ranksAhead_26 : decode b_Pair_ranksAhead 26 = .ok (.iload_n 3, 1) := by decide +kernel
theorem d_Pair_ranksAhead_27 : decode b_Pair_ranksAhead 27 = .ok (.if_icmp .ge 7, 3) := by decide +kernel
theorem d_Pair_ranksAhead_30 : decode b_Pair_ranksAhead 30 = .ok (.iconst 1, 1) := by decide +kernel
theorem d_Pair_ranksAhead_31 : decode b_Pair_ranksAhead 31 = .ok (.goto 23, 3) := by decide +kernel
theorem d_Pair_ranksAhead_34 : decode b_Pair_ranksAhead 34 = .ok (.iconst 0, 1) := by decide +kernel
theorem d_Pair_ranksAhead_35 : decode b_Pair_ranksAhead 35 = .ok (.goto 19, 3) := by decide +kernel
theorem d_Pair_ranksAhead_38 : decode b_Pair_ranksAhead 38 = .ok (.aload_n 0, 1) := by decide +kernel
theorem d_Pair_ranksAhead_39 : decode b_Pair_ranksAhead 39 = .ok (.getfield 22, 3) := by decide +kernel
theorem d_Pair_ranksAhead_42 : decode b_Pair_ranksAhead 42 = .ok (.aload_n 1, 1) := by decide +kernel
theorem d_Pair_ranksAhead_43 : decode b_Pair_ranksAhead 43 = .ok (.getfield 22, 3) := by decide +kernel
theorem d_Pair_ranksAhead_46 : decode b_Pair_ranksAhead 46 = .ok (.if_icmp .le 7, 3) := by decide +kernel
theorem d_Pair_ranksAhead_49 : decode b_Pair_ranksAhead 49 = .ok (.iconst 1, 1) := by decide +kernel
theorem d_Pair_ranksAhead_50 : decode b_Pair_ranksAhead 50 = .ok (.goto 4, 3) := by decide +kernel
theorem d_Pair_ranksAhead_53 : decode b_Pair_ranksAhead 53 = .ok (.iconst 0, 1) := by decide +kernel
theorem d_Pair_ranksAhead_54 : decode b_Pair_ranksAhead 54 = .ok (.ireturn, 1) := by decide +kernel
theorem d_Ranking_offer_0 : decode b_Ranking_offer 0 = .ok (.aload_n 0, 1) := by decide +kernel
theorem d_Ranking_offer_1 : decode b_Ranking_offer 1 = .ok (.getfield 11, 3) := by decide +kernel
theorem d_Ranking_offer_4 : decode b_Ranking_offer 4 = .ok (.aload_n 0, 1) := by decide +kernel
theorem d_Ranking_offer_5 : decode b_Ranking_offer 5 = .ok (.getfield 17, 3) := by decide +kernel
theorem d_Ranking_offer_8 : decode b_Ranking_offer 8 = .ok (.aaload, 1) := by decide +kernel
theorem d_Ranking_offer_9 : decode b_Ranking_offer 9 = .ok (.astore 8, 2) := by decide +kernel
theorem d_Ranking_offer_11 : decode b_Ranking_offer 11 = .ok (.aload 8, 2) := by decide +kernel
theorem d_Ranking_offer_13 : decode b_Ranking_offer 13 = .ok (.iload_n 1, 1) := by decide +kernel
theorem d_Ranking_offer_14 : decode b_Ranking_offer 14 = .ok (.iload_n 2, 1) := by decide +kernel
theorem d_Ranking_offer_15 : decode b_Ranking_offer 15 = .ok (.iload_n 3, 1) := by decide +kernel
theorem d_Ranking_offer_16 : decode b_Ranking_offer 16 = .ok (.iload 4, 2) := by decide +kernel
theorem d_Ranking_offer_18 : decode b_Ranking_offer 18 = .ok (.iload 5, 2) := by decide +kernel
theorem d_Ranking_offer_20 : decode b_Ranking_offer 20 = .ok (.iload 6, 2) := by decide +kernel
theorem d_Ranking_offer_22 : decode b_Ranking_offer 22 = .ok (.iload 7, 2) := by decide +kernel
theorem d_Ranking_offer_24 : decode b_Ranking_offer 24 = .ok (.invokevirtual 22, 3) := by decide +kernel
theorem d_Ranking_offer_27 : decode b_Ranking_offer 27 = .ok (.aload_n 0, 1) := by decide +kernel
theorem d_Ranking_offer_28 : decode b_Ranking_offer 28 = .ok (.getfield 17, 3) := by decide +kernel
theorem d_Ranking_offer_31 : decode b_Ranking_offer 31 = .ok (.istore 9, 2) := by decide +kernel
theorem d_Ranking_offer_33 : decode b_Ranking_offer 33 = .ok (.iload 9, 2) := by decide +kernel
theorem d_Ranking_offer_35 : decode b_Ranking_offer 35 = .ok (.ifCond .le 42, 3) := by decide +kernel
theorem d_Ranking_offer_38 : decode b_Ranking_offer 38 = .ok (.aload 8, 2) := by decide +kernel
theorem d_Ranking_offer_40 : decode b_Ranking_offer 40 = .ok (.aload_n 0, 1) := by decide +kernel
theorem d_Ranking_offer_41 : decode b_Ranking_offer 41 = .ok (.getfield 11, 3) := by decide +kernel
theorem d_Ranking_offer_44 : decode b_Ranking_offer 44 = .ok (.iload 9, 2) := by decide +kernel
theorem d_Ranking_offer_46 : decode b_Ranking_offer 46 = .ok (.iconst 1, 1) := by decide +kernel
theorem d_Ranking_offer_47 : decode b_Ranking_offer 47 = .ok (.isub, 1) := by decide +kernel
theorem d_Ranking_offer_48 : decode b_Ranking_offer 48 = .ok (.aaload, 1) := by decide +kernel
theorem d_Ranking_offer_49 : decode b_Ranking_offer 49 = .ok (.invokevirtual 26, 3) := by decide +kernel
theorem d_Ranking_offer_52 : decode b_Ranking_offer 52 = .ok (.ifCond .eq 25, 3) := by decide +kernel
theorem d_Ranking_offer_55 : decode b_Ranking_offer 55 = .ok (.aload_n 0, 1) := by decide +kernel
theorem d_Ranking_offer_56 : decode b_Ranking_offer 56 = .ok (.getfield 11, 3) := by decide +kernel
theorem d_Ranking_offer_59 : decode b_Ranking_offer 59 = .ok (.iload 9, 2) := by decide +kernel
theorem d_Ranking_offer_61 : decode b_Ranking_offer 61 = .ok (.aload_n 0, 1) := by decide +kernel
theorem d_Ranking_offer_62 : decode b_Ranking_offer 62 = .ok (.getfield 11, 3) := by decide +kernel
theorem d_Ranking_offer_65 : decode b_Ranking_offer 65 = .ok (.iload 9, 2) := by decide +kernel
theorem d_Ranking_offer_67 : decode b_Ranking_offer 67 = .ok (.iconst 1, 1) := by decide +kernel
theorem d_Ranking_offer_68 : decode b_Ranking_offer 68 = .ok (.isub, 1) := by decide +kernel
theorem d_Ranking_offer_69 : decode b_Ranking_offer 69 = .ok (.aaload, 1) := by decide +kernel
theorem d_Ranking_offer_70 : decode b_Ranking_offer 70 = .ok (.aastore, 1) := by decide +kernel
theorem d_Ranking_offer_71 : decode b_Ranking_offer 71 = .ok (.iinc 9 (-1), 3) := by decide +kernel
theorem d_Ranking_offer_74 : decode b_Ranking_offer 74 = .ok (.goto (-41), 3) := by decide +kernel
theorem d_Ranking_offer_77 : decode b_Ranking_offer 77 = .ok (.aload_n 0, 1) := by decide +kernel
theorem d_Ranking_offer_78 : decode b_Ranking_offer 78 = .ok (.getfield 11, 3) := by decide +kernel
theorem d_Ranking_offer_81 : decode b_Ranking_offer 81 = .ok (.iload 9, 2) := by decide +kernel
theorem d_Ranking_offer_83 : decode b_Ranking_offer 83 = .ok (.aload 8, 2) := by decide +kernel
theorem d_Ranking_offer_85 : decode b_Ranking_offer 85 = .ok (.aastore, 1) := by decide +kernel
theorem d_Ranking_offer_86 : decode b_Ranking_offer 86 = .ok (.aload_n 0, 1) := by decide +kernel
theorem d_Ranking_offer_87 : decode b_Ranking_offer 87 = .ok (.getfield 17, 3) := by decide +kernel
theorem d_Ranking_offer_90 : decode b_Ranking_offer 90 = .ok (.bipush 100, 2) := by decide +kernel
theorem d_Ranking_offer_92 : decode b_Ranking_offer 92 = .ok (.if_icmp .ge 13, 3) := by decide +kernel
theorem d_Ranking_offer_95 : decode b_Ranking_offer 95 = .ok (.aload_n 0, 1) := by decide +kernel
theorem d_Ranking_offer_96 : decode b_Ranking_offer 96 = .ok (.dup, 1) := by decide +kernel
theorem d_Ranking_offer_97 : decode b_Ranking_offer 97 = .ok (.getfield 17, 3) := by decide +kernel
theorem d_Ranking_offer_100 : decode b_Ranking_offer 100 = .ok (.iconst 1, 1) := by decide +kernel
theorem d_Ranking_offer_101 : decode b_Ranking_offer 101 = .ok (.iadd, 1) := by decide +kernel
theorem d_Ranking_offer_102 : decode b_Ranking_offer 102 = .ok (.putfield 17, 3) := by decide +kernel
theorem d_Ranking_offer_105 : decode b_Ranking_offer 105 = .ok (.return_, 1) := by decide +kernel
theorem d_X_listIfPair_0 : decode b_X_listIfPair 0 = .ok (.aload_n 0, 1) := by decide +kernel
theorem d_X_listIfPair_1 : decode b_X_listIfPair 1 = .ok (.getfield 11, 3) := by decide +kernel
theorem d_X_listIfPair_4 : decode b_X_listIfPair 4 = .ok (.iload_n 1, 1) := by decide +kernel
theorem d_X_listIfPair_5 : decode b_X_listIfPair 5 = .ok (.aaload, 1) := by decide +kernel
theorem d_X_listIfPair_6 : decode b_X_listIfPair 6 = .ok (.astore 5, 2) := by decide +kernel
theorem d_X_listIfPair_8 : decode b_X_listIfPair 8 = .ok (.aload_n 0, 1) := by decide +kernel
theorem d_X_listIfPair_9 : decode b_X_listIfPair 9 = .ok (.getfield 11, 3) := by decide +kernel
theorem d_X_listIfPair_12 : decode b_X_listIfPair 12 = .ok (.iload_n 3, 1) := by decide +kernel
theorem d_X_listIfPair_13 : decode b_X_listIfPair 13 = .ok (.aaload, 1) := by decide +kernel
theorem d_X_listIfPair_14 : decode b_X_listIfPair 14 = .ok (.astore 6, 2) := by decide +kernel
theorem d_X_listIfPair_16 : decode b_X_listIfPair 16 = .ok (.aload 5, 2) := by decide +kernel
theorem d_X_listIfPair_18 : decode b_X_listIfPair 18 = .ok (.getfield 214, 3) := by decide +kernel
theorem d_X_listIfPair_21 : decode b_X_listIfPair 21 = .ok (.iload_n 2, 1) := by decide +kernel
theorem d_X_listIfPair_22 : decode b_X_listIfPair 22 = .ok (.iaload, 1) := by decide +kernel
theorem d_X_listIfPair_23 : decode b_X_listIfPair 23 = .ok (.iconst 2, 1) := by decide +kernel
theorem d_X_listIfPair_24 : decode b_X_listIfPair 24 = .ok (.iadd, 1) := by decide +kernel
theorem d_X_listIfPair_25 : decode b_X_listIfPair 25 = .ok (.aload 6, 2) := by decide +kernel
theorem d_X_listIfPair_27 : decode b_X_listIfPair 27 = .ok (.getfield 214, 3) := by decide +kernel
theorem d_X_listIfPair_30 : decode b_X_listIfPair 30 = .ok (.iload 4, 2) := by decide +kernel
theorem d_X_listIfPair_32 : decode b_X_listIfPair 32 = .ok (.iaload, 1) := by decide +kernel
theorem d_X_listIfPair_33 : decode b_X_listIfPair 33 = .ok (.isub, 1) := by decide +kernel
theorem d_X_listIfPair_34 : decode b_X_listIfPair 34 = .ok (.iconst 3, 1) := by decide +kernel
theorem d_X_listIfPair_35 : decode b_X_listIfPair 35 = .ok (.iand, 1) := by decide +kernel
theorem d_X_listIfPair_36 : decode b_X_listIfPair 36 = .ok (.istore 7, 2) := by decide +kernel
theorem d_X_listIfPair_38 : decode b_X_listIfPair 38 = .ok (.aload 5, 2) := by decide +kernel
theorem d_X_listIfPair_40 : decode b_X_listIfPair 40 = .ok (.getfield 214, 3) := by decide +kernel
theorem d_X_listIfPair_43 : decode b_X_listIfPair 43 = .ok (.aload 5, 2) := by decide +kernel
theorem d_X_listIfPair_45 : decode b_X_listIfPair 45 = .ok (.iload_n 2, 1) := by decide +kernel
theorem d_X_listIfPair_46 : decode b_X_listIfPair 46 = .ok (.invokevirtual 217, 3) := by decide +kernel
theorem d_X_listIfPair_49 : decode b_X_listIfPair 49 = .ok (.iaload, 1) := by decide +kernel
theorem d_X_listIfPair_50 : decode b_X_listIfPair 50 = .ok (.aload 6, 2) := by decide +kernel
theorem d_X_listIfPair_52 : decode b_X_listIfPair 52 = .ok (.getfield 214, 3) := by decide +kernel
theorem d_X_listIfPair_55 : decode b_X_listIfPair 55 = .ok (.aload 6, 2) := by decide +kernel
theorem d_X_listIfPair_57 : decode b_X_listIfPair 57 = .ok (.iload 4, 2) := by decide +kernel
theorem d_X_listIfPair_59 : decode b_X_listIfPair 59 = .ok (.invokevirtual 221, 3) := by decide +kernel
theorem d_X_listIfPair_62 : decode b_X_listIfPair 62 = .ok (.iaload, 1) := by decide +kernel
theorem d_X_listIfPair_63 : decode b_X_listIfPair 63 = .ok (.iload 7, 2) := by decide +kernel
theorem d_X_listIfPair_65 : decode b_X_listIfPair 65 = .ok (.invokestatic 224, 3) := by decide +kernel
theorem d_X_listIfPair_68 : decode b_X_listIfPair 68 = .ok (.ifCond .eq 5, 3) := by decide +kernel
theorem d_X_listIfPair_71 : decode b_X_listIfPair 71 = .ok (.iconst 0, 1) := by decide +kernel
theorem d_X_listIfPair_72 : decode b_X_listIfPair 72 = .ok (.ireturn, 1) := by decide +kernel
theorem d_X_listIfPair_73 : decode b_X_listIfPair 73 = .ok (.aload 5, 2) := by decide +kernel
theorem d_X_listIfPair_75 : decode b_X_listIfPair 75 = .ok (.iload_n 2, 1) := by decide +kernel
theorem d_X_listIfPair_76 : decode b_X_listIfPair 76 = .ok (.aload 6, 2) := by decide +kernel
theorem d_X_listIfPair_78 : decode b_X_listIfPair 78 = .ok (.iload 4, 2) := by decide +kernel
theorem d_X_listIfPair_80 : decode b_X_listIfPair 80 = .ok (.iload 7, 2) := by decide +kernel
theorem d_X_listIfPair_82 : decode b_X_listIfPair 82 = .ok (.invokestatic 228, 3) := by decide +kernel
theorem d_X_listIfPair_85 : decode b_X_listIfPair 85 = .ok (.istore 8, 2) := by decide +kernel
theorem d_X_listIfPair_87 : decode b_X_listIfPair 87 = .ok (.iload 8, 2) := by decide +kernel
theorem d_X_listIfPair_89 : decode b_X_listIfPair 89 = .ok (.aload_n 0, 1) := by decide +kernel
theorem d_X_listIfPair_90 : decode b_X_listIfPair 90 = .ok (.getfield 50, 3) := by decide +kernel
theorem d_X_listIfPair_93 : decode b_X_listIfPair 93 = .ok (.if_icmp .ge 5, 3) := by decide +kernel
theorem d_X_listIfPair_96 : decode b_X_listIfPair 96 = .ok (.iconst 0, 1) := by decide +kernel
theorem d_X_listIfPair_97 : decode b_X_listIfPair 97 = .ok (.ireturn, 1) := by decide +kernel
theorem d_X_listIfPair_98 : decode b_X_listIfPair 98 = .ok (.aload 5, 2) := by decide +kernel
theorem d_X_listIfPair_100 : decode b_X_listIfPair 100 = .ok (.iload_n 2, 1) := by decide +kernel
theorem d_X_listIfPair_101 : decode b_X_listIfPair 101 = .ok (.aload 6, 2) := by decide +kernel
theorem d_X_listIfPair_103 : decode b_X_listIfPair 103 = .ok (.iload 4, 2) := by decide +kernel
theorem d_X_listIfPair_105 : decode b_X_listIfPair 105 = .ok (.iload 8, 2) := by decide +kernel
theorem d_X_listIfPair_107 : decode b_X_listIfPair 107 = .ok (.invokestatic 232, 3) := by decide +kernel
theorem d_X_listIfPair_110 : decode b_X_listIfPair 110 = .ok (.istore 9, 2) := by decide +kernel
theorem d_X_listIfPair_112 : decode b_X_listIfPair 112 = .ok (.iload 9, 2) := by decide +kernel
theorem d_X_listIfPair_114 : decode b_X_listIfPair 114 = .ok (.aload_n 0, 1) := by decide +kernel
theorem d_X_listIfPair_115 : decode b_X_listIfPair 115 = .ok (.getfield 53, 3) := by decide +kernel
theorem d_X_listIfPair_118 : decode b_X_listIfPair 118 = .ok (.iload 8, 2) := by decide +kernel
theorem d_X_listIfPair_120 : decode b_X_listIfPair 120 = .ok (.imul, 1) := by decide +kernel
theorem d_X_listIfPair_121 : decode b_X_listIfPair 121 = .ok (.if_icmp .le 5, 3) := by decide +kernel
theorem d_X_listIfPair_124 : decode b_X_listIfPair 124 = .ok (.iconst 0, 1) := by decide +kernel
theorem d_X_listIfPair_125 : decode b_X_listIfPair 125 = .ok (.ireturn, 1) := by decide +kernel
theorem d_X_listIfPair_126 : decode b_X_listIfPair 126 = .ok (.aload_n 0, 1) := by decide +kernel
theorem d_X_listIfPair_127 : decode b_X_listIfPair 127 = .ok (.getfield 29, 3) := by decide +kernel
theorem d_X_listIfPair_130 : decode b_X_listIfPair 130 = .ok (.iload_n 1, 1) := by decide +kernel
theorem d_X_listIfPair_131 : decode b_X_listIfPair 131 = .ok (.iload_n 2, 1) := by decide +kernel
theorem d_X_listIfPair_132 : decode b_X_listIfPair 132 = .ok (.iload_n 3, 1) := by decide +kernel
theorem d_X_listIfPair_133 : decode b_X_listIfPair 133 = .ok (.iload 4, 2) := by decide +kernel
theorem d_X_listIfPair_135 : decode b_X_listIfPair 135 = .ok (.iload 8, 2) := by decide +kernel
theorem d_X_listIfPair_137 : decode b_X_listIfPair 137 = .ok (.iload 9, 2) := by decide +kernel
theorem d_X_listIfPair_139 : decode b_X_listIfPair 139 = .ok (.iload 7, 2) := by decide +kernel
theorem d_X_listIfPair_141 : decode b_X_listIfPair 141 = .ok (.invokevirtual 235, 3) := by decide +kernel
theorem d_X_listIfPair_144 : decode b_X_listIfPair 144 = .ok (.iconst 1, 1) := by decide +kernel
theorem d_X_listIfPair_145 : decode b_X_listIfPair 145 = .ok (.ireturn, 1) := by decide +kernel
theorem d_X_listPairsWith_0 : decode b_X_listPairsWith 0 = .ok (.aload_n 0, 1) := by decide +kernel
theorem d_X_listPairsWith_1 : decode b_X_listPairsWith 1 = .ok (.getfield 11, 3) := by decide +kernel
theorem d_X_listPairsWith_4 : decode b_X_listPairsWith 4 = .ok (.iload_n 3, 1) := by decide +kernel
theorem d_X_listPairsWith_5 : decode b_X_listPairsWith 5 = .ok (.aaload, 1) := by decide +kernel
theorem d_X_listPairsWith_6 : decode b_X_listPairsWith 6 = .ok (.getfield 68, 3) := by decide +kernel
theorem d_X_listPairsWith_9 : decode b_X_listPairsWith 9 = .ok (.ifCond .ne 5, 3) := by decide +kernel
theorem d_X_listPairsWith_12 : decode b_X_listPairsWith 12 = .ok (.iconst 0, 1) := by decide +kernel
theorem d_X_listPairsWith_13 : decode b_X_listPairsWith 13 = .ok (.ireturn, 1) := by decide +kernel
theorem d_X_listPairsWith_14 : decode b_X_listPairsWith 14 = .ok (.iconst 0, 1) := by decide +kernel
theorem d_X_listPairsWith_15 : decode b_X_listPairsWith 15 = .ok (.istore 4, 2) := by decide +kernel
theorem d_X_listPairsWith_17 : decode b_X_listPairsWith 17 = .ok (.iconst 0, 1) := by decide +kernel
theorem d_X_listPairsWith_18 : decode b_X_listPairsWith 18 = .ok (.istore 5, 2) := by decide +kernel
theorem d_X_listPairsWith_20 : decode b_X_listPairsWith 20 = .ok (.iload 5, 2) := by decide +kernel
theorem d_X_listPairsWith_22 : decode b_X_listPairsWith 22 = .ok (.aload_n 0, 1) := by decide +kernel
theorem d_X_listPairsWith_23 : decode b_X_listPairsWith 23 = .ok (.getfield 11, 3) := by decide +kernel
theorem d_X_listPairsWith_26 : decode b_X_listPairsWith 26 = .ok (.iload_n 3, 1) := by decide +kernel
theorem d_X_listPairsWith_27 : decode b_X_listPairsWith 27 = .ok (.aaload, 1) := by decide +kernel
theorem d_X_listPairsWith_28 : decode b_X_listPairsWith 28 = .ok (.getfield 72, 3) := by decide +kernel
theorem d_X_listPairsWith_31 : decode b_X_listPairsWith 31 = .ok (.if_icmp .ge 24, 3) := by decide +kernel
theorem d_X_listPairsWith_34 : decode b_X_listPairsWith 34 = .ok (.aload_n 0, 1) := by decide +kernel
theorem d_X_listPairsWith_35 : decode b_X_listPairsWith 35 = .ok (.iload_n 1, 1) := by decide +kernel
theorem d_X_listPairsWith_36 : decode b_X_listPairsWith 36 = .ok (.iload_n 2, 1) := by decide +kernel
theorem d_X_listPairsWith_37 : decode b_X_listPairsWith 37 = .ok (.iload_n 3, 1) := by decide +kernel
theorem d_X_listPairsWith_38 : decode b_X_listPairsWith 38 = .ok (.iload 5, 2) := by decide +kernel
theorem d_X_listPairsWith_40 : decode b_X_listPairsWith 40 = .ok (.invokevirtual 211, 3) := by decide +kernel
theorem d_X_listPairsWith_43 : decode b_X_listPairsWith 43 = .ok (.ifCond .eq 6, 3) := by decide +kernel
theorem d_X_listPairsWith_46 : decode b_X_listPairsWith 46 = .ok (.iinc 4 1, 3) := by decide +kernel
theorem d_X_listPairsWith_49 : decode b_X_listPairsWith 49 = .ok (.iinc 5 1, 3) := by decide +kernel
theorem d_X_listPairsWith_52 : decode b_X_listPairsWith 52 = .ok (.goto (-32), 3) := by decide +kernel
theorem d_X_listPairsWith_55 : decode b_X_listPairsWith 55 = .ok (.iload 4, 2) := by decide +kernel
theorem d_X_listPairsWith_57 : decode b_X_listPairsWith 57 = .ok (.ireturn, 1) := by decide +kernel
theorem d_X_run_0 : decode b_X_run 0 = .ok (.aload_n 0, 1) := by decide +kernel
theorem d_X_run_1 : decode b_X_run 1 = .ok (.getfield 29, 3) := by decide +kernel
theorem d_X_run_4 : decode b_X_run 4 = .ok (.invokevirtual 97, 3) := by decide +kernel
theorem d_X_run_7 : decode b_X_run 7 = .ok (.iconst 0, 1) := by decide +kernel
theorem d_X_run_8 : decode b_X_run 8 = .ok (.istore_n 1, 1) := by decide +kernel
theorem d_X_run_9 : decode b_X_run 9 = .ok (.iconst 0, 1) := by decide +kernel
theorem d_X_run_10 : decode b_X_run 10 = .ok (.istore_n 2, 1) := by decide +kernel
theorem d_X_run_11 : decode b_X_run 11 = .ok (.iload_n 2, 1) := by decide +kernel
theorem d_X_run_12 : decode b_X_run 12 = .ok (.aload_n 0, 1) := by decide +kernel
theorem d_X_run_13 : decode b_X_run 13 = .ok (.getfield 40, 3) := by decide +kernel
theorem d_X_run_16 : decode b_X_run 16 = .ok (.if_icmp .ge 73, 3) := by decide +kernel
theorem d_X_run_19 : decode b_X_run 19 = .ok (.iconst 0, 1) := by decide +kernel
theorem d_X_run_20 : decode b_X_run 20 = .ok (.istore_n 3, 1) := by decide +kernel
theorem d_X_run_21 : decode b_X_run 21 = .ok (.aload_n 0, 1) := by decide +kernel
theorem d_X_run_22 : decode b_X_run 22 = .ok (.getfield 11, 3) := by decide +kernel
theorem d_X_run_25 : decode b_X_run 25 = .ok (.iload_n 2, 1) := by decide +kernel
theorem d_X_run_26 : decode b_X_run 26 = .ok (.aaload, 1) := by decide +kernel
theorem d_X_run_27 : decode b_X_run 27 = .ok (.getfield 68, 3) := by decide +kernel
theorem d_X_run_30 : decode b_X_run 30 = .ok (.ifCond .eq 53, 3) := by decide +kernel
theorem d_X_run_33 : decode b_X_run 33 = .ok (.iload_n 3, 1) := by decide +kernel
theorem d_X_run_34 : decode b_X_run 34 = .ok (.aload_n 0, 1) := by decide +kernel
theorem d_X_run_35 : decode b_X_run 35 = .ok (.getfield 11, 3) := by decide +kernel
theorem d_X_run_38 : decode b_X_run 38 = .ok (.iload_n 2, 1) := by decide +kernel
theorem d_X_run_39 : decode b_X_run 39 = .ok (.aaload, 1) := by decide +kernel
theorem d_X_run_40 : decode b_X_run 40 = .ok (.getfield 72, 3) := by decide +kernel
theorem d_X_run_43 : decode b_X_run 43 = .ok (.if_icmp .ge 40, 3) := by decide +kernel
theorem d_X_run_46 : decode b_X_run 46 = .ok (.iload_n 2, 1) := by decide +kernel
theorem d_X_run_47 : decode b_X_run 47 = .ok (.iconst 1, 1) := by decide +kernel
theorem d_X_run_48 : decode b_X_run 48 = .ok (.iadd, 1) := by decide +kernel
theorem d_X_run_49 : decode b_X_run 49 = .ok (.istore 4, 2) := by decide +kernel
theorem d_X_run_51 : decode b_X_run 51 = .ok (.iload 4, 2) := by decide +kernel
theorem d_X_run_53 : decode b_X_run 53 = .ok (.aload_n 0, 1) := by decide +kernel
theorem d_X_run_54 : decode b_X_run 54 = .ok (.getfield 40, 3) := by decide +kernel
theorem d_X_run_57 : decode b_X_run 57 = .ok (.if_icmp .ge 20, 3) := by decide +kernel
theorem d_X_run_60 : decode b_X_run 60 = .ok (.iload_n 1, 1) := by decide +kernel
theorem d_X_run_61 : decode b_X_run 61 = .ok (.aload_n 0, 1) := by decide +kernel
theorem d_X_run_62 : decode b_X_run 62 = .ok (.iload_n 2, 1) := by decide +kernel
theorem d_X_run_63 : decode b_X_run 63 = .ok (.iload_n 3, 1) := by decide +kernel
theorem d_X_run_64 : decode b_X_run 64 = .ok (.iload 4, 2) := by decide +kernel
theorem d_X_run_66 : decode b_X_run 66 = .ok (.invokevirtual 112, 3) := by decide +kernel
theorem d_X_run_69 : decode b_X_run 69 = .ok (.iadd, 1) := by decide +kernel
theorem d_X_run_70 : decode b_X_run 70 = .ok (.istore_n 1, 1) := by decide +kernel
theorem d_X_run_71 : decode b_X_run 71 = .ok (.iinc 4 1, 3) := by decide +kernel
theorem d_X_run_74 : decode b_X_run 74 = .ok (.goto (-23), 3) := by decide +kernel
theorem d_X_run_77 : decode b_X_run 77 = .ok (.iinc 3 1, 3) := by decide +kernel
theorem d_X_run_80 : decode b_X_run 80 = .ok (.goto (-59), 3) := by decide +kernel
theorem d_X_run_83 : decode b_X_run 83 = .ok (.iinc 2 1, 3) := by decide +kernel
theorem d_X_run_86 : decode b_X_run 86 = .ok (.goto (-75), 3) := by decide +kernel
theorem d_X_run_89 : decode b_X_run 89 = .ok (.iload_n 1, 1) := by decide +kernel
theorem d_X_run_90 : decode b_X_run 90 = .ok (.ireturn, 1) := by decide +kernel
theorem d_X_toldPair_0 : decode b_X_toldPair 0 = .ok (.iload_n 1, 1) := by decide +kernel
theorem d_X_toldPair_1 : decode b_X_toldPair 1 = .ok (.ifCond .lt 14, 3) := by decide +kernel
theorem d_X_toldPair_4 : decode b_X_toldPair 4 = .ok (.iload_n 1, 1) := by decide +kernel
theorem d_X_toldPair_5 : decode b_X_toldPair 5 = .ok (.aload_n 0, 1) := by decide +kernel
theorem d_X_toldPair_6 : decode b_X_toldPair 6 = .ok (.getfield 29, 3) := by decide +kernel
theorem d_X_toldPair_9 : decode b_X_toldPair 9 = .ok (.getfield 202, 3) := by decide +kernel
theorem d_X_toldPair_12 : decode b_X_toldPair 12 = .ok (.if_icmp .lt 13, 3) := by decide +kernel
theorem d_X_toldPair_15 : decode b_X_toldPair 15 = .ok (.new 86, 3) := by decide +kernel
theorem d_X_toldPair_18 : decode b_X_toldPair 18 = .ok (.dup, 1) := by decide +kernel
theorem d_X_toldPair_19 : decode b_X_toldPair 19 = .ok (.ldc 205, 2) := by decide +kernel
theorem d_X_toldPair_21 : decode b_X_toldPair 21 = .ok (.invokespecial 90, 3) := by decide +kernel
theorem d_X_toldPair_24 : decode b_X_toldPair 24 = .ok (.athrow, 1) := by decide +kernel
theorem d_X_toldPair_25 : decode b_X_toldPair 25 = .ok (.aload_n 0, 1) := by decide +kernel
theorem d_X_toldPair_26 : decode b_X_toldPair 26 = .ok (.getfield 29, 3) := by decide +kernel
theorem d_X_toldPair_29 : decode b_X_toldPair 29 = .ok (.getfield 207, 3) := by decide +kernel
theorem d_X_toldPair_32 : decode b_X_toldPair 32 = .ok (.iload_n 1, 1) := by decide +kernel
theorem d_X_toldPair_33 : decode b_X_toldPair 33 = .ok (.aaload, 1) := by decide +kernel
theorem d_X_toldPair_34 : decode b_X_toldPair 34 = .ok (.areturn, 1) := by decide +kernel
theorem d_X_pair_0 : decode b_X_pair 0 = .ok (.aload_n 0, 1) := by decide +kernel
theorem d_X_pair_1 : decode b_X_pair 1 = .ok (.iload_n 1, 1) := by decide +kernel
theorem d_X_pair_2 : decode b_X_pair 2 = .ok (.invokevirtual 116, 3) := by decide +kernel
theorem d_X_pair_5 : decode b_X_pair 5 = .ok (.astore_n 3, 1) := by decide +kernel
theorem d_X_pair_6 : decode b_X_pair 6 = .ok (.iload_n 2, 1) := by decide +kernel
theorem d_X_pair_7 : decode b_X_pair 7 = .ok (.tableswitch 67 0 5 #[37, 42, 47, 52, 57, 62], 37) := by decide +kernel
theorem d_X_pair_44 : decode b_X_pair 44 = .ok (.aload_n 3, 1) := by decide +kernel
theorem d_X_pair_45 : decode b_X_pair 45 = .ok (.getfield 120, 3) := by decide +kernel
theorem d_X_pair_48 : decode b_X_pair 48 = .ok (.ireturn, 1) := by decide +kernel
theorem d_X_pair_49 : decode b_X_pair 49 = .ok (.aload_n 3, 1) := by decide +kernel
theorem d_X_pair_50 : decode b_X_pair 50 = .ok (.getfield 125, 3) := by decide +kernel
theorem d_X_pair_53 : decode b_X_pair 53 = .ok (.ireturn, 1) := by decide +kernel
theorem d_X_pair_54 : decode b_X_pair 54 = .ok (.aload_n 3, 1) := by decide +kernel
theorem d_X_pair_55 : decode b_X_pair 55 = .ok (.getfield 128, 3) := by decide +kernel
theorem d_X_pair_58 : decode b_X_pair 58 = .ok (.ireturn, 1) := by decide +kernel
theorem d_X_pair_59 : decode b_X_pair 59 = .ok (.aload_n 3, 1) := by decide +kernel
theorem d_X_pair_60 : decode b_X_pair 60 = .ok (.getfield 131, 3) := by decide +kernel
theorem d_X_pair_63 : decode b_X_pair 63 = .ok (.ireturn, 1) := by decide +kernel
theorem d_X_pair_64 : decode b_X_pair 64 = .ok (.aload_n 3, 1) := by decide +kernel
theorem d_X_pair_65 : decode b_X_pair 65 = .ok (.getfield 134, 3) := by decide +kernel
theorem d_X_pair_68 : decode b_X_pair 68 = .ok (.ireturn, 1) := by decide +kernel
theorem d_X_pair_69 : decode b_X_pair 69 = .ok (.aload_n 3, 1) := by decide +kernel
theorem d_X_pair_70 : decode b_X_pair 70 = .ok (.getfield 137, 3) := by decide +kernel
theorem d_X_pair_73 : decode b_X_pair 73 = .ok (.ireturn, 1) := by decide +kernel
theorem d_X_pair_74 : decode b_X_pair 74 = .ok (.new 86, 3) := by decide +kernel
theorem d_X_pair_77 : decode b_X_pair 77 = .ok (.dup, 1) := by decide +kernel
theorem d_X_pair_78 : decode b_X_pair 78 = .ok (.ldc 140, 2) := by decide +kernel
theorem d_X_pair_80 : decode b_X_pair 80 = .ok (.invokespecial 90, 3) := by decide +kernel
theorem d_X_pair_83 : decode b_X_pair 83 = .ok (.athrow, 1) := by decide +kernel
theorem d_X_turnedX_0 : decode b_X_turnedX 0 = .ok (.iload_n 2, 1) := by decide +kernel
theorem d_X_turnedX_1 : decode b_X_turnedX 1 = .ok (.iconst 3, 1) := by decide +kernel
theorem d_X_turnedX_2 : decode b_X_turnedX 2 = .ok (.iand, 1) := by decide +kernel
theorem d_X_turnedX_3 : decode b_X_turnedX 3 = .ok (.tableswitch 33 0 2 #[25, 27, 30], 25) := by decide +kernel
theorem d_X_turnedX_28 : decode b_X_turnedX 28 = .ok (.iload_n 0, 1) := by decide +kernel
theorem d_X_turnedX_29 : decode b_X_turnedX 29 = .ok (.ireturn, 1) := by decide +kernel
theorem d_X_turnedX_30 : decode b_X_turnedX 30 = .ok (.iload_n 1, 1) := by decide +kernel
theorem d_X_turnedX_31 : decode b_X_turnedX 31 = .ok (.ineg, 1) := by decide +kernel
theorem d_X_turnedX_32 : decode b_X_turnedX 32 = .ok (.ireturn, 1) := by decide +kernel
theorem d_X_turnedX_33 : decode b_X_turnedX 33 = .ok (.iload_n 0, 1) := by decide +kernel
theorem d_X_turnedX_34 : decode b_X_turnedX 34 = .ok (.ineg, 1) := by decide +kernel
theorem d_X_turnedX_35 : decode b_X_turnedX 35 = .ok (.ireturn, 1) := by decide +kernel
theorem d_X_turnedX_36 : decode b_X_turnedX 36 = .ok (.iload_n 1, 1) := by decide +kernel
theorem d_X_turnedX_37 : decode b_X_turnedX 37 = .ok (.ireturn, 1) := by decide +kernel
theorem d_Layout_placedX_0 : decode b_Layout_placedX 0 = .ok (.aload_n 0, 1) := by decide +kernel
theorem d_Layout_placedX_1 : decode b_Layout_placedX 1 = .ok (.getfield 9, 3) := by decide +kernel
theorem d_Layout_placedX_4 : decode b_Layout_placedX 4 = .ok (.iload_n 2, 1) := by decide +kernel
theorem d_Layout_placedX_5 : decode b_Layout_placedX 5 = .ok (.iaload, 1) := by decide +kernel
theorem d_Layout_placedX_6 : decode b_Layout_placedX 6 = .ok (.aload_n 1, 1) := by decide +kernel
theorem d_Layout_placedX_7 : decode b_Layout_placedX 7 = .ok (.getfield 24, 3) := by decide +kernel
theorem d_Layout_placedX_10 : decode b_Layout_placedX 10 = .ok (.iload_n 3, 1) := by decide +kernel
theorem d_Layout_placedX_11 : decode b_Layout_placedX 11 = .ok (.iaload, 1) := by decide +kernel
theorem d_Layout_placedX_12 : decode b_Layout_placedX 12 = .ok (.aload_n 1, 1) := by decide +kernel
theorem d_Layout_placedX_13 : decode b_Layout_placedX 13 = .ok (.getfield 29, 3) := by decide +kernel
theorem d_Layout_placedX_16 : decode b_Layout_placedX 16 = .ok (.iload_n 3, 1) := by decide +kernel
theorem d_Layout_placedX_17 : decode b_Layout_placedX 17 = .ok (.iaload, 1) := by decide +kernel
theorem d_Layout_placedX_18 : decode b_Layout_placedX 18 = .ok (.aload_n 0, 1) := by decide +kernel
theorem d_Layout_placedX_19 : decode b_Layout_placedX 19 = .ok (.getfield 18, 3) := by decide +kernel
theorem d_Layout_placedX_22 : decode b_Layout_placedX 22 = .ok (.iload_n 2, 1) := by decide +kernel
theorem d_Layout_placedX_23 : decode b_Layout_placedX 23 = .ok (.iaload, 1) := by decide +kernel
theorem d_Layout_placedX_24 : decode b_Layout_placedX 24 = .ok (.invokestatic 32, 3) := by decide +kernel
theorem d_Layout_placedX_27 : decode b_Layout_placedX 27 = .ok (.iadd, 1) := by decide +kernel
theorem d_Layout_placedX_28 : decode b_Layout_placedX 28 = .ok (.ireturn, 1) := by decide +kernel
theorem d_X_turnedY_0 : decode b_X_turnedY 0 = .ok (.iload_n 2, 1) := by decide +kernel
theorem d_X_turnedY_1 : decode b_X_turnedY 1 = .ok (.iconst 3, 1) := by decide +kernel
theorem d_X_turnedY_2 : decode b_X_turnedY 2 = .ok (.iand, 1) := by decide +kernel
theorem d_X_turnedY_3 : decode b_X_turnedY 3 = .ok (.tableswitch 32 0 2 #[25, 27, 29], 25) := by decide +kernel
theorem d_X_turnedY_28 : decode b_X_turnedY 28 = .ok (.iload_n 1, 1) := by decide +kernel
theorem d_X_turnedY_29 : decode b_X_turnedY 29 = .ok (.ireturn, 1) := by decide +kernel
theorem d_X_turnedY_30 : decode b_X_turnedY 30 = .ok (.iload_n 0, 1) := by decide +kernel
theorem d_X_turnedY_31 : decode b_X_turnedY 31 = .ok (.ireturn, 1) := by decide +kernel
theorem d_X_turnedY_32 : decode b_X_turnedY 32 = .ok (.iload_n 1, 1) := by decide +kernel
theorem d_X_turnedY_33 : decode b_X_turnedY 33 = .ok (.ineg, 1) := by decide +kernel
theorem d_X_turnedY_34 : decode b_X_turnedY 34 = .ok (.ireturn, 1) := by decide +kernel
theorem d_X_turnedY_35 : decode b_X_turnedY 35 = .ok (.iload_n 0, 1) := by decide +kernel
theorem d_X_turnedY_36 : decode b_X_turnedY 36 = .ok (.ineg, 1) := by decide +kernel
theorem d_X_turnedY_37 : decode b_X_turnedY 37 = .ok (.ireturn, 1) := by decide +kernel
theorem d_Layout_placedY_0 : decode b_Layout_placedY 0 = .ok (.aload_n 0, 1) := by decide +kernel
theorem d_Layout_placedY_1 : decode b_Layout_placedY 1 = .ok (.getfield 15, 3) := by decide +kernel
theorem d_Layout_placedY_4 : decode b_Layout_placedY 4 = .ok (.iload_n 2, 1) := by decide +kernel
theorem d_Layout_placedY_5 : decode b_Layout_placedY 5 = .ok (.iaload, 1) := by decide +kernel
theorem d_Layout_placedY_6 : decode b_Layout_placedY 6 = .ok (.aload_n 1, 1) := by decide +kernel
theorem d_Layout_placedY_7 : decode b_Layout_placedY 7 = .ok (.getfield 24, 3) := by decide +kernel
theorem d_Layout_placedY_10 : decode b_Layout_placedY 10 = .ok (.iload_n 3, 1) := by decide +kernel
theorem d_Layout_placedY_11 : decode b_Layout_placedY 11 = .ok (.iaload, 1) := by decide +kernel
theorem d_Layout_placedY_12 : decode b_Layout_placedY 12 = .ok (.aload_n 1, 1) := by decide +kernel
theorem d_Layout_placedY_13 : decode b_Layout_placedY 13 = .ok (.getfield 29, 3) := by decide +kernel
theorem d_Layout_placedY_16 : decode b_Layout_placedY 16 = .ok (.iload_n 3, 1) := by decide +kernel
theorem d_Layout_placedY_17 : decode b_Layout_placedY 17 = .ok (.iaload, 1) := by decide +kernel
theorem d_Layout_placedY_18 : decode b_Layout_placedY 18 = .ok (.aload_n 0, 1) := by decide +kernel
theorem d_Layout_placedY_19 : decode b_Layout_placedY 19 = .ok (.getfield 18, 3) := by decide +kernel
theorem d_Layout_placedY_22 : decode b_Layout_placedY 22 = .ok (.iload_n 2, 1) := by decide +kernel
theorem d_Layout_placedY_23 : decode b_Layout_placedY 23 = .ok (.iaload, 1) := by decide +kernel
theorem d_Layout_placedY_24 : decode b_Layout_placedY 24 = .ok (.invokestatic 36, 3) := by decide +kernel
theorem d_Layout_placedY_27 : decode b_Layout_placedY 27 = .ok (.iadd, 1) := by decide +kernel
theorem d_Layout_placedY_28 : decode b_Layout_placedY 28 = .ok (.ireturn, 1) := by decide +kernel
