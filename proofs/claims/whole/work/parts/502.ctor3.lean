theorem ob_i : Cond.instanceMethod Lib.objectInit ∈ gd := gm 21 (by decide +kernel) rfl
theorem ob_c : Cond.code Lib.objectInit ⟨#[0xb1]⟩ 1 none ∈ gd := gm 22 (by decide +kernel) rfl
theorem ar_int : Cond.arrayClass .int ∈ gd := gm 52 (by decide +kernel) rfl
theorem ar_boolean : Cond.arrayClass .boolean ∈ gd := gm 624 (by decide +kernel) rfl
theorem ar_long : Cond.arrayClass .long ∈ gd := gm 786 (by decide +kernel) rfl
theorem d_X_init_0 : decode b_X_init 0 = .ok (.aload_n 0, 1) := by decide +kernel
theorem d_X_init_1 : decode b_X_init 1 = .ok (.invokespecial 1, 3) := by decide +kernel
theorem d_X_init_4 : decode b_X_init 4 = .ok (.aload_n 0, 1) := by decide +kernel
theorem d_X_init_5 : decode b_X_init 5 = .ok (.bipush 6, 2) := by decide +kernel
theorem d_X_init_7 : decode b_X_init 7 = .ok (.anewarray 9, 3) := by decide +kernel
theorem d_X_init_10 : decode b_X_init 10 = .ok (.putfield 11, 3) := by decide +kernel
theorem d_X_init_13 : decode b_X_init 13 = .ok (.aload_n 0, 1) := by decide +kernel
theorem d_X_init_14 : decode b_X_init 14 = .ok (.new 15, 3) := by decide +kernel
theorem d_X_init_17 : decode b_X_init 17 = .ok (.dup, 1) := by decide +kernel
theorem d_X_init_18 : decode b_X_init 18 = .ok (.invokespecial 17, 3) := by decide +kernel
theorem d_X_init_21 : decode b_X_init 21 = .ok (.putfield 18, 3) := by decide +kernel
theorem d_X_init_24 : decode b_X_init 24 = .ok (.aload_n 0, 1) := by decide +kernel
theorem d_X_init_25 : decode b_X_init 25 = .ok (.bipush 6, 2) := by decide +kernel
theorem d_X_init_27 : decode b_X_init 27 = .ok (.anewarray 15, 3) := by decide +kernel
theorem d_X_init_30 : decode b_X_init 30 = .ok (.putfield 22, 3) := by decide +kernel
theorem d_X_init_33 : decode b_X_init 33 = .ok (.aload_n 0, 1) := by decide +kernel
theorem d_X_init_34 : decode b_X_init 34 = .ok (.new 26, 3) := by decide +kernel
theorem d_X_init_37 : decode b_X_init 37 = .ok (.dup, 1) := by decide +kernel
theorem d_X_init_38 : decode b_X_init 38 = .ok (.invokespecial 28, 3) := by decide +kernel
theorem d_X_init_41 : decode b_X_init 41 = .ok (.putfield 29, 3) := by decide +kernel
theorem d_X_init_44 : decode b_X_init 44 = .ok (.aload_n 0, 1) := by decide +kernel
theorem d_X_init_45 : decode b_X_init 45 = .ok (.new 33, 3) := by decide +kernel
theorem d_X_init_48 : decode b_X_init 48 = .ok (.dup, 1) := by decide +kernel
theorem d_X_init_49 : decode b_X_init 49 = .ok (.invokespecial 35, 3) := by decide +kernel
theorem d_X_init_52 : decode b_X_init 52 = .ok (.putfield 36, 3) := by decide +kernel
theorem d_X_init_55 : decode b_X_init 55 = .ok (.aload_n 0, 1) := by decide +kernel
theorem d_X_init_56 : decode b_X_init 56 = .ok (.iconst 0, 1) := by decide +kernel
theorem d_X_init_57 : decode b_X_init 57 = .ok (.putfield 40, 3) := by decide +kernel
theorem d_X_init_60 : decode b_X_init 60 = .ok (.aload_n 0, 1) := by decide +kernel
theorem d_X_init_61 : decode b_X_init 61 = .ok (.iconst 0, 1) := by decide +kernel
theorem d_X_init_62 : decode b_X_init 62 = .ok (.putfield 44, 3) := by decide +kernel
theorem d_X_init_65 : decode b_X_init 65 = .ok (.aload_n 0, 1) := by decide +kernel
theorem d_X_init_66 : decode b_X_init 66 = .ok (.iconst 0, 1) := by decide +kernel
theorem d_X_init_67 : decode b_X_init 67 = .ok (.putfield 47, 3) := by decide +kernel
theorem d_X_init_70 : decode b_X_init 70 = .ok (.aload_n 0, 1) := by decide +kernel
theorem d_X_init_71 : decode b_X_init 71 = .ok (.iconst 3, 1) := by decide +kernel
theorem d_X_init_72 : decode b_X_init 72 = .ok (.putfield 50, 3) := by decide +kernel
theorem d_X_init_75 : decode b_X_init 75 = .ok (.aload_n 0, 1) := by decide +kernel
theorem d_X_init_76 : decode b_X_init 76 = .ok (.bipush 100, 2) := by decide +kernel
theorem d_X_init_78 : decode b_X_init 78 = .ok (.putfield 53, 3) := by decide +kernel
theorem d_X_init_81 : decode b_X_init 81 = .ok (.iconst 0, 1) := by decide +kernel
theorem d_X_init_82 : decode b_X_init 82 = .ok (.istore_n 1, 1) := by decide +kernel
theorem d_X_init_83 : decode b_X_init 83 = .ok (.iload_n 1, 1) := by decide +kernel
theorem d_X_init_84 : decode b_X_init 84 = .ok (.bipush 6, 2) := by decide +kernel
theorem d_X_init_86 : decode b_X_init 86 = .ok (.if_icmp .ge 35, 3) := by decide +kernel
theorem d_X_init_89 : decode b_X_init 89 = .ok (.aload_n 0, 1) := by decide +kernel
theorem d_X_init_90 : decode b_X_init 90 = .ok (.getfield 11, 3) := by decide +kernel
theorem d_X_init_93 : decode b_X_init 93 = .ok (.iload_n 1, 1) := by decide +kernel
theorem d_X_init_94 : decode b_X_init 94 = .ok (.new 9, 3) := by decide +kernel
theorem d_X_init_97 : decode b_X_init 97 = .ok (.dup, 1) := by decide +kernel
theorem d_X_init_98 : decode b_X_init 98 = .ok (.invokespecial 56, 3) := by decide +kernel
theorem d_X_init_101 : decode b_X_init 101 = .ok (.aastore, 1) := by decide +kernel
theorem d_X_init_102 : decode b_X_init 102 = .ok (.aload_n 0, 1) := by decide +kernel
theorem d_X_init_103 : decode b_X_init 103 = .ok (.getfield 22, 3) := by decide +kernel
theorem d_X_init_106 : decode b_X_init 106 = .ok (.iload_n 1, 1) := by decide +kernel
theorem d_X_init_107 : decode b_X_init 107 = .ok (.new 15, 3) := by decide +kernel
theorem d_X_init_110 : decode b_X_init 110 = .ok (.dup, 1) := by decide +kernel
theorem d_X_init_111 : decode b_X_init 111 = .ok (.invokespecial 17, 3) := by decide +kernel
theorem d_X_init_114 : decode b_X_init 114 = .ok (.aastore, 1) := by decide +kernel
theorem d_X_init_115 : decode b_X_init 115 = .ok (.iinc 1 1, 3) := by decide +kernel
theorem d_X_init_118 : decode b_X_init 118 = .ok (.goto (-35), 3) := by decide +kernel
theorem d_X_init_121 : decode b_X_init 121 = .ok (.return_, 1) := by decide +kernel
theorem d_Edge_init_0 : decode b_Edge_init 0 = .ok (.aload_n 0, 1) := by decide +kernel
theorem d_Edge_init_1 : decode b_Edge_init 1 = .ok (.invokespecial 3, 3) := by decide +kernel
theorem d_Edge_init_4 : decode b_Edge_init 4 = .ok (.aload_n 0, 1) := by decide +kernel
theorem d_Edge_init_5 : decode b_Edge_init 5 = .ok (.bipush 28, 2) := by decide +kernel
theorem d_Edge_init_7 : decode b_Edge_init 7 = .ok (.newarray .int, 2) := by decide +kernel
theorem d_Edge_init_9 : decode b_Edge_init 9 = .ok (.putfield 9, 3) := by decide +kernel
theorem d_Edge_init_12 : decode b_Edge_init 12 = .ok (.aload_n 0, 1) := by decide +kernel
theorem d_Edge_init_13 : decode b_Edge_init 13 = .ok (.bipush 28, 2) := by decide +kernel
theorem d_Edge_init_15 : decode b_Edge_init 15 = .ok (.newarray .int, 2) := by decide +kernel
theorem d_Edge_init_17 : decode b_Edge_init 17 = .ok (.putfield 15, 3) := by decide +kernel
theorem d_Edge_init_20 : decode b_Edge_init 20 = .ok (.aload_n 0, 1) := by decide +kernel
theorem d_Edge_init_21 : decode b_Edge_init 21 = .ok (.bipush 29, 2) := by decide +kernel
theorem d_Edge_init_23 : decode b_Edge_init 23 = .ok (.newarray .int, 2) := by decide +kernel
theorem d_Edge_init_25 : decode b_Edge_init 25 = .ok (.putfield 18, 3) := by decide +kernel
theorem d_Edge_init_28 : decode b_Edge_init 28 = .ok (.aload_n 0, 1) := by decide +kernel
theorem d_Edge_init_29 : decode b_Edge_init 29 = .ok (.bipush 29, 2) := by decide +kernel
theorem d_Edge_init_31 : decode b_Edge_init 31 = .ok (.newarray .int, 2) := by decide +kernel
theorem d_Edge_init_33 : decode b_Edge_init 33 = .ok (.putfield 21, 3) := by decide +kernel
theorem d_Edge_init_36 : decode b_Edge_init 36 = .ok (.aload_n 0, 1) := by decide +kernel
theorem d_Edge_init_37 : decode b_Edge_init 37 = .ok (.iconst 0, 1) := by decide +kernel
theorem d_Edge_init_38 : decode b_Edge_init 38 = .ok (.putfield 24, 3) := by decide +kernel
theorem d_Edge_init_41 : decode b_Edge_init 41 = .ok (.aload_n 0, 1) := by decide +kernel
theorem d_Edge_init_42 : decode b_Edge_init 42 = .ok (.iconst 0, 1) := by decide +kernel
theorem d_Edge_init_43 : decode b_Edge_init 43 = .ok (.putfield 28, 3) := by decide +kernel
theorem d_Edge_init_46 : decode b_Edge_init 46 = .ok (.return_, 1) := by decide +kernel
theorem d_Layout_init_0 : decode b_Layout_init 0 = .ok (.aload_n 0, 1) := by decide +kernel
theorem d_Layout_init_1 : decode b_Layout_init 1 = .ok (.invokespecial 3, 3) := by decide +kernel
theorem d_Layout_init_4 : decode b_Layout_init 4 = .ok (.aload_n 0, 1) := by decide +kernel
theorem d_Layout_init_5 : decode b_Layout_init 5 = .ok (.bipush 6, 2) := by decide +kernel
theorem d_Layout_init_7 : decode b_Layout_init 7 = .ok (.newarray .int, 2) := by decide +kernel
theorem d_Layout_init_9 : decode b_Layout_init 9 = .ok (.putfield 9, 3) := by decide +kernel
theorem d_Layout_init_12 : decode b_Layout_init 12 = .ok (.aload_n 0, 1) := by decide +kernel
theorem d_Layout_init_13 : decode b_Layout_init 13 = .ok (.bipush 6, 2) := by decide +kernel
theorem d_Layout_init_15 : decode b_Layout_init 15 = .ok (.newarray .int, 2) := by decide +kernel
theorem d_Layout_init_17 : decode b_Layout_init 17 = .ok (.putfield 15, 3) := by decide +kernel
theorem d_Layout_init_20 : decode b_Layout_init 20 = .ok (.aload_n 0, 1) := by decide +kernel
theorem d_Layout_init_21 : decode b_Layout_init 21 = .ok (.bipush 6, 2) := by decide +kernel
theorem d_Layout_init_23 : decode b_Layout_init 23 = .ok (.newarray .int, 2) := by decide +kernel
theorem d_Layout_init_25 : decode b_Layout_init 25 = .ok (.putfield 18, 3) := by decide +kernel
theorem d_Layout_init_28 : decode b_Layout_init 28 = .ok (.aload_n 0, 1) := by decide +kernel
theorem d_Layout_init_29 : decode b_Layout_init 29 = .ok (.bipush 6, 2) := by decide +kernel
theorem d_Layout_init_31 : decode b_Layout_init 31 = .ok (.newarray .int, 2) := by decide +kernel
theorem d_Layout_init_33 : decode b_Layout_init 33 = .ok (.putfield 21, 3) := by decide +kernel
theorem d_Layout_init_36 : decode b_Layout_init 36 = .ok (.iconst 0, 1) := by decide +kernel
theorem d_Layout_init_37 : decode b_Layout_init 37 = .ok (.istore_n 1, 1) := by decide +kernel
theorem d_Layout_init_38 : decode b_Layout_init 38 = .ok (.iload_n 1, 1) := by decide +kernel
theorem d_Layout_init_39 : decode b_Layout_init 39 = .ok (.bipush 6, 2) := by decide +kernel
theorem d_Layout_init_41 : decode b_Layout_init 41 = .ok (.if_icmp .ge 16, 3) := by decide +kernel
theorem d_Layout_init_44 : decode b_Layout_init 44 = .ok (.aload_n 0, 1) := by decide +kernel
theorem d_Layout_init_45 : decode b_Layout_init 45 = .ok (.getfield 21, 3) := by decide +kernel
theorem d_Layout_init_48 : decode b_Layout_init 48 = .ok (.iload_n 1, 1) := by decide +kernel
theorem d_Layout_init_49 : decode b_Layout_init 49 = .ok (.iload_n 1, 1) := by decide +kernel
theorem d_Layout_init_50 : decode b_Layout_init 50 = .ok (.iastore, 1) := by decide +kernel
theorem d_Layout_init_51 : decode b_Layout_init 51 = .ok (.iinc 1 1, 3) := by decide +kernel
theorem d_Layout_init_54 : decode b_Layout_init 54 = .ok (.goto (-16), 3) := by decide +kernel
theorem d_Layout_init_57 : decode b_Layout_init 57 = .ok (.return_, 1) := by decide +kernel
theorem d_Pair_init_0 : decode b_Pair_init 0 = .ok (.aload_n 0, 1) := by decide +kernel
theorem d_Pair_init_1 : decode b_Pair_init 1 = .ok (.invokespecial 1, 3) := by decide +kernel
theorem d_Pair_init_4 : decode b_Pair_init 4 = .ok (.return_, 1) := by decide +kernel
theorem d_Ranking_init_0 : decode b_Ranking_init 0 = .ok (.aload_n 0, 1) := by decide +kernel
theorem d_Ranking_init_1 : decode b_Ranking_init 1 = .ok (.invokespecial 3, 3) := by decide +kernel
theorem d_Ranking_init_4 : decode b_Ranking_init 4 = .ok (.aload_n 0, 1) := by decide +kernel
theorem d_Ranking_init_5 : decode b_Ranking_init 5 = .ok (.bipush 101, 2) := by decide +kernel
theorem d_Ranking_init_7 : decode b_Ranking_init 7 = .ok (.anewarray 9, 3) := by decide +kernel
theorem d_Ranking_init_10 : decode b_Ranking_init 10 = .ok (.putfield 11, 3) := by decide +kernel
theorem d_Ranking_init_13 : decode b_Ranking_init 13 = .ok (.aload_n 0, 1) := by decide +kernel
theorem d_Ranking_init_14 : decode b_Ranking_init 14 = .ok (.iconst 0, 1) := by decide +kernel
theorem d_Ranking_init_15 : decode b_Ranking_init 15 = .ok (.putfield 17, 3) := by decide +kernel
theorem d_Ranking_init_18 : decode b_Ranking_init 18 = .ok (.iconst 0, 1) := by decide +kernel
theorem d_Ranking_init_19 : decode b_Ranking_init 19 = .ok (.istore_n 1, 1) := by decide +kernel
theorem d_Ranking_init_20 : decode b_Ranking_init 20 = .ok (.iload_n 1, 1) := by decide +kernel
theorem d_Ranking_init_21 : decode b_Ranking_init 21 = .ok (.bipush 100, 2) := by decide +kernel
theorem d_Ranking_init_23 : decode b_Ranking_init 23 = .ok (.if_icmp .gt 22, 3) := by decide +kernel
theorem d_Ranking_init_26 : decode b_Ranking_init 26 = .ok (.aload_n 0, 1) := by decide +kernel
theorem d_Ranking_init_27 : decode b_Ranking_init 27 = .ok (.getfield 11, 3) := by decide +kernel
theorem d_Ranking_init_30 : decode b_Ranking_init 30 = .ok (.iload_n 1, 1) := by decide +kernel
theorem d_Ranking_init_31 : decode b_Ranking_init 31 = .ok (.new 9, 3) := by decide +kernel
theorem d_Ranking_init_34 : decode b_Ranking_init 34 = .ok (.dup, 1) := by decide +kernel
theorem d_Ranking_init_35 : decode b_Ranking_init 35 = .ok (.invokespecial 21, 3) := by decide +kernel
theorem d_Ranking_init_38 : decode b_Ranking_init 38 = .ok (.aastore, 1) := by decide +kernel
theorem d_Ranking_init_39 : decode b_Ranking_init 39 = .ok (.iinc 1 1, 3) := by decide +kernel
theorem d_Ranking_init_42 : decode b_Ranking_init 42 = .ok (.goto (-22), 3) := by decide +kernel
theorem d_Ranking_init_45 : decode b_Ranking_init 45 = .ok (.return_, 1) := by decide +kernel
theorem d_Board_init_0 : decode b_Board_init 0 = .ok (.aload_n 0, 1) := by decide +kernel
theorem d_Board_init_1 : decode b_Board_init 1 = .ok (.invokespecial 3, 3) := by decide +kernel
theorem d_Board_init_4 : decode b_Board_init 4 = .ok (.aload_n 0, 1) := by decide +kernel
theorem d_Board_init_5 : decode b_Board_init 5 = .ok (.sipush 1936, 3) := by decide +kernel
theorem d_Board_init_8 : decode b_Board_init 8 = .ok (.newarray .int, 2) := by decide +kernel
theorem d_Board_init_10 : decode b_Board_init 10 = .ok (.putfield 11, 3) := by decide +kernel
theorem d_Board_init_13 : decode b_Board_init 13 = .ok (.aload_n 0, 1) := by decide +kernel
theorem d_Board_init_14 : decode b_Board_init 14 = .ok (.sipush 1936, 3) := by decide +kernel
theorem d_Board_init_17 : decode b_Board_init 17 = .ok (.newarray .int, 2) := by decide +kernel
theorem d_Board_init_19 : decode b_Board_init 19 = .ok (.putfield 15, 3) := by decide +kernel
theorem d_Board_init_22 : decode b_Board_init 22 = .ok (.return_, 1) := by decide +kernel
theorem d_Model_init_0 : decode b_Model_init 0 = .ok (.aload_n 0, 1) := by decide +kernel
theorem d_Model_init_1 : decode b_Model_init 1 = .ok (.invokespecial 1, 3) := by decide +kernel
theorem d_Model_init_4 : decode b_Model_init 4 = .ok (.aload_n 0, 1) := by decide +kernel
theorem d_Model_init_5 : decode b_Model_init 5 = .ok (.bipush 6, 2) := by decide +kernel
theorem d_Model_init_7 : decode b_Model_init 7 = .ok (.newarray .int, 2) := by decide +kernel
theorem d_Model_init_9 : decode b_Model_init 9 = .ok (.putfield 7, 3) := by decide +kernel
theorem d_Model_init_12 : decode b_Model_init 12 = .ok (.aload_n 0, 1) := by decide +kernel
theorem d_Model_init_13 : decode b_Model_init 13 = .ok (.sipush 168, 3) := by decide +kernel
theorem d_Model_init_16 : decode b_Model_init 16 = .ok (.newarray .int, 2) := by decide +kernel
theorem d_Model_init_18 : decode b_Model_init 18 = .ok (.putfield 13, 3) := by decide +kernel
theorem d_Model_init_21 : decode b_Model_init 21 = .ok (.aload_n 0, 1) := by decide +kernel
theorem d_Model_init_22 : decode b_Model_init 22 = .ok (.sipush 168, 3) := by decide +kernel
theorem d_Model_init_25 : decode b_Model_init 25 = .ok (.newarray .int, 2) := by decide +kernel
theorem d_Model_init_27 : decode b_Model_init 27 = .ok (.putfield 16, 3) := by decide +kernel
theorem d_Model_init_30 : decode b_Model_init 30 = .ok (.aload_n 0, 1) := by decide +kernel
theorem d_Model_init_31 : decode b_Model_init 31 = .ok (.bipush 6, 2) := by decide +kernel
theorem d_Model_init_33 : decode b_Model_init 33 = .ok (.newarray .boolean, 2) := by decide +kernel
theorem d_Model_init_35 : decode b_Model_init 35 = .ok (.putfield 19, 3) := by decide +kernel
theorem d_Model_init_38 : decode b_Model_init 38 = .ok (.aload_n 0, 1) := by decide +kernel
theorem d_Model_init_39 : decode b_Model_init 39 = .ok (.bipush 6, 2) := by decide +kernel
theorem d_Model_init_41 : decode b_Model_init 41 = .ok (.newarray .int, 2) := by decide +kernel
theorem d_Model_init_43 : decode b_Model_init 43 = .ok (.putfield 23, 3) := by decide +kernel
theorem d_Model_init_46 : decode b_Model_init 46 = .ok (.aload_n 0, 1) := by decide +kernel
theorem d_Model_init_47 : decode b_Model_init 47 = .ok (.sipush 294, 3) := by decide +kernel
theorem d_Model_init_50 : decode b_Model_init 50 = .ok (.newarray .int, 2) := by decide +kernel
theorem d_Model_init_52 : decode b_Model_init 52 = .ok (.putfield 26, 3) := by decide +kernel
theorem d_Model_init_55 : decode b_Model_init 55 = .ok (.aload_n 0, 1) := by decide +kernel
theorem d_Model_init_56 : decode b_Model_init 56 = .ok (.sipush 294, 3) := by decide +kernel
theorem d_Model_init_59 : decode b_Model_init 59 = .ok (.newarray .int, 2) := by decide +kernel
theorem d_Model_init_61 : decode b_Model_init 61 = .ok (.putfield 29, 3) := by decide +kernel
theorem d_Model_init_64 : decode b_Model_init 64 = .ok (.aload_n 0, 1) := by decide +kernel
theorem d_Model_init_65 : decode b_Model_init 65 = .ok (.iconst 3, 1) := by decide +kernel
theorem d_Model_init_66 : decode b_Model_init 66 = .ok (.putfield 32, 3) := by decide +kernel
theorem d_Model_init_69 : decode b_Model_init 69 = .ok (.aload_n 0, 1) := by decide +kernel
theorem d_Model_init_70 : decode b_Model_init 70 = .ok (.bipush 100, 2) := by decide +kernel
theorem d_Model_init_72 : decode b_Model_init 72 = .ok (.putfield 36, 3) := by decide +kernel
theorem d_Model_init_75 : decode b_Model_init 75 = .ok (.aload_n 0, 1) := by decide +kernel
theorem d_Model_init_76 : decode b_Model_init 76 = .ok (.sipush 606, 3) := by decide +kernel
theorem d_Model_init_79 : decode b_Model_init 79 = .ok (.newarray .int, 2) := by decide +kernel
theorem d_Model_init_81 : decode b_Model_init 81 = .ok (.putfield 39, 3) := by decide +kernel
theorem d_Model_init_84 : decode b_Model_init 84 = .ok (.aload_n 0, 1) := by decide +kernel
theorem d_Model_init_85 : decode b_Model_init 85 = .ok (.bipush 6, 2) := by decide +kernel
theorem d_Model_init_87 : decode b_Model_init 87 = .ok (.newarray .int, 2) := by decide +kernel
theorem d_Model_init_89 : decode b_Model_init 89 = .ok (.putfield 42, 3) := by decide +kernel
theorem d_Model_init_92 : decode b_Model_init 92 = .ok (.aload_n 0, 1) := by decide +kernel
theorem d_Model_init_93 : decode b_Model_init 93 = .ok (.bipush 24, 2) := by decide +kernel
theorem d_Model_init_95 : decode b_Model_init 95 = .ok (.newarray .int, 2) := by decide +kernel
theorem d_Model_init_97 : decode b_Model_init 97 = .ok (.putfield 45, 3) := by decide +kernel
theorem d_Model_init_100 : decode b_Model_init 100 = .ok (.aload_n 0, 1) := by decide +kernel
theorem d_Model_init_101 : decode b_Model_init 101 = .ok (.sipush 144, 3) := by decide +kernel
theorem d_Model_init_104 : decode b_Model_init 104 = .ok (.newarray .int, 2) := by decide +kernel
theorem d_Model_init_106 : decode b_Model_init 106 = .ok (.putfield 48, 3) := by decide +kernel
theorem d_Model_init_109 : decode b_Model_init 109 = .ok (.aload_n 0, 1) := by decide +kernel
theorem d_Model_init_110 : decode b_Model_init 110 = .ok (.bipush 24, 2) := by decide +kernel
theorem d_Model_init_112 : decode b_Model_init 112 = .ok (.newarray .int, 2) := by decide +kernel
theorem d_Model_init_114 : decode b_Model_init 114 = .ok (.putfield 51, 3) := by decide +kernel
theorem d_Model_init_117 : decode b_Model_init 117 = .ok (.aload_n 0, 1) := by decide +kernel
theorem d_Model_init_118 : decode b_Model_init 118 = .ok (.sipush 8100, 3) := by decide +kernel
theorem d_Model_init_121 : decode b_Model_init 121 = .ok (.newarray .int, 2) := by decide +kernel
theorem d_Model_init_123 : decode b_Model_init 123 = .ok (.putfield 54, 3) := by decide +kernel
theorem d_Model_init_126 : decode b_Model_init 126 = .ok (.iconst 0, 1) := by decide +kernel
theorem d_Model_init_127 : decode b_Model_init 127 = .ok (.istore_n 1, 1) := by decide +kernel
theorem d_Model_init_128 : decode b_Model_init 128 = .ok (.iload_n 1, 1) := by decide +kernel
theorem d_Model_init_129 : decode b_Model_init 129 = .ok (.bipush 6, 2) := by decide +kernel
theorem d_Model_init_131 : decode b_Model_init 131 = .ok (.if_icmp .ge 20, 3) := by decide +kernel
theorem d_Model_init_134 : decode b_Model_init 134 = .ok (.aload_n 0, 1) := by decide +kernel
theorem d_Model_init_135 : decode b_Model_init 135 = .ok (.getfield 45, 3) := by decide +kernel
theorem d_Model_init_138 : decode b_Model_init 138 = .ok (.iconst 4, 1) := by decide +kernel
theorem d_Model_init_139 : decode b_Model_init 139 = .ok (.iload_n 1, 1) := by decide +kernel
theorem d_Model_init_140 : decode b_Model_init 140 = .ok (.imul, 1) := by decide +kernel
theorem d_Model_init_141 : decode b_Model_init 141 = .ok (.iconst 3, 1) := by decide +kernel
theorem d_Model_init_142 : decode b_Model_init 142 = .ok (.iadd, 1) := by decide +kernel
theorem d_Model_init_143 : decode b_Model_init 143 = .ok (.iload_n 1, 1) := by decide +kernel
theorem d_Model_init_144 : decode b_Model_init 144 = .ok (.iastore, 1) := by decide +kernel
theorem d_Model_init_145 : decode b_Model_init 145 = .ok (.iinc 1 1, 3) := by decide +kernel
theorem d_Model_init_148 : decode b_Model_init 148 = .ok (.goto (-20), 3) := by decide +kernel
theorem d_Model_init_151 : decode b_Model_init 151 = .ok (.return_, 1) := by decide +kernel
set_option maxHeartbeats 4000000 in
set_option maxRecDepth 20000 in
theorem k_Pair (l : Launch) (D : va_G) (g : Nat → ClassId) (b : Nat) : Met l y_Pair_init (Cond.code y_Pair_init b_Pair_init 1 none :: gd) ({ frames := 1, cells := 0, slots := 0, locals := 24 }) (PcN D g b (FPair)) (QN D b 1 (FPair)) 0 0 (fromB b) := by
  refine xm_new (own := "EdgeJoins$Pair") (by decide) rfl rfl (Nat.le_of_ble_eq_true rfl) ?_
  intro p e s m below meth c ls H args hC hr hlocks hin hK hP hsz hk hS hl
  have hl : lv_has ls 1 [(0, .ref (b + 0))] := hl
  refine lv_aload_n hC.1 hC.2.1 d_Pair_init_0 rfl (lv_at hl 0 rfl) ?_
  refine xn_obj hC hl.1 (gm 66 (by decide +kernel) rfl) ob_i ob_c (Nat.le_of_ble_eq_true rfl) (Nat.le_of_ble_eq_true rfl) d_Pair_init_1 ?_
  exact xr_n (n := 0) hC hr hlocks hP (by omega) hS d_Pair_init_4
set_option maxHeartbeats 4000000 in
set_option maxRecDepth 20000 in
theorem k_Edge (l : Launch) (D : va_G) (g : Nat → ClassId) (b : Nat) : Met l y_Edge_init (Cond.code y_Edge_init b_Edge_init 1 none :: gd) ({ frames := 1, cells := 4, slots := 114, locals := 24 }) (PcN D g b (FEdge g [.null, .null, .null, .null, .int 0, .int 0])) (QN D b 5 (FEdge g [.ref (b + 1), .ref (b + 2), .ref (b + 3), .ref (b + 4), iv 0, iv 0])) 4 114 (fromB b) := by
  refine xm_new (own := "EdgeJoins$Edge") (by decide) rfl rfl (Nat.le_of_ble_eq_true rfl) ?_
  intro p e s m below meth c ls H args hC hr hlocks hin hK hP hsz hk hS hl
  have hl : lv_has ls 1 [(0, .ref (b + 0))] := hl
  refine lv_aload_n hC.1 hC.2.1 d_Edge_init_0 rfl (lv_at hl 0 rfl) ?_
  refine xn_obj hC hl.1 (gm 134 (by decide +kernel) rfl) ob_i ob_c (Nat.le_of_ble_eq_true rfl) (Nat.le_of_ble_eq_true rfl) d_Edge_init_1 ?_
  refine lv_aload_n hC.1 hC.2.1 d_Edge_init_4 rfl (lv_at hl 0 rfl) ?_
  refine xi_bipush hC d_Edge_init_5 (by decide) ?_
  refine W.exact (n := 0) hP (by omega) (fun hz => ?_)
  refine xn_newi (len := 28) hC ar_int hK (CI.of hP hz) hS (by decide) rfl (Nat.le_of_ble_eq_true rfl) (Nat.le_of_ble_eq_true rfl) d_Edge_init_7 (fun H hI hS => ?_)
  have hP := hI.2
  refine xn_putF (i := 9) (k := 0) (f' := FEdge g [.ref (b + 1), .null, .null, .null, .int 0, .int 0]) (fun _ h => h) hC i_Edge t_Edge t_Edge_ok n_Edge hK hP hS (by decide) rfl rfl 0 (by decide) (gm 135 (by decide +kernel) rfl) rfl hin rfl rfl rfl rfl (Nat.le_of_ble_eq_true rfl) rfl (fun a ha h => by cases a with | zero => exact absurd rfl h | succ a => rfl) d_Edge_init_9 (fun H locs hP hS => ?_)
  refine lv_aload_n hC.1 hC.2.1 d_Edge_init_12 rfl (lv_at hl 0 rfl) ?_
  refine xi_bipush hC d_Edge_init_13 (by decide) ?_
  refine W.exact (n := 1) hP (by omega) (fun hz => ?_)
  refine xn_newi (len := 28) hC ar_int hK (CI.of hP hz) hS (by decide) rfl (Nat.le_of_ble_eq_true rfl) (Nat.le_of_ble_eq_true rfl) d_Edge_init_15 (fun H hI hS => ?_)
  have hP := hI.2
  refine xn_putF (i := 15) (k := 0) (f' := FEdge g [.ref (b + 1), .ref (b + 2), .null, .null, .int 0, .int 0]) (fun _ h => h) hC i_Edge t_Edge t_Edge_ok n_Edge hK hP hS (by decide) rfl rfl 1 (by decide) (gm 138 (by decide +kernel) rfl) rfl hin rfl rfl rfl rfl (Nat.le_of_ble_eq_true rfl) rfl (fun a ha h => by cases a with | zero => exact absurd rfl h | succ a => rfl) d_Edge_init_17 (fun H locs hP hS => ?_)
  refine lv_aload_n hC.1 hC.2.1 d_Edge_init_20 rfl (lv_at hl 0 rfl) ?_
  refine xi_bipush hC d_Edge_init_21 (by decide) ?_
  refine W.exact (n := 2) hP (by omega) (fun hz => ?_)
  refine xn_newi (len := 29) hC ar_int hK (CI.of hP hz) hS (by decide) rfl (Nat.le_of_ble_eq_true rfl) (Nat.le_of_ble_eq_true rfl) d_Edge_init_23 (fun H hI hS => ?_)
  have hP := hI.2
  refine xn_putF (i := 18) (k := 0) (f' := FEdge g [.ref (b + 1), .ref (b + 2), .ref (b + 3), .null, .int 0, .int 0]) (fun _ h => h) hC i_Edge t_Edge t_Edge_ok n_Edge hK hP hS (by decide) rfl rfl 2 (by decide) (gm 140 (by decide +kernel) rfl) rfl hin rfl rfl rfl rfl (Nat.le_of_ble_eq_true rfl) rfl (fun a ha h => by cases a with | zero => exact absurd rfl h | succ a => rfl) d_Edge_init_25 (fun H locs hP hS => ?_)
  refine lv_aload_n hC.1 hC.2.1 d_Edge_init_28 rfl (lv_at hl 0 rfl) ?_
  refine xi_bipush hC d_Edge_init_29 (by decide) ?_
  refine W.exact (n := 3) hP (by omega) (fun hz => ?_)
  refine xn_newi (len := 29) hC ar_int hK (CI.of hP hz) hS (by decide) rfl (Nat.le_of_ble_eq_true rfl) (Nat.le_of_ble_eq_true rfl) d_Edge_init_31 (fun H hI hS => ?_)
  have hP := hI.2
  refine xn_putF (i := 21) (k := 0) (f' := FEdge g [.ref (b + 1), .ref (b + 2), .ref (b + 3), .ref (b + 4), .int 0, .int 0]) (fun _ h => h) hC i_Edge t_Edge t_Edge_ok n_Edge hK hP hS (by decide) rfl rfl 3 (by decide) (gm 143 (by decide +kernel) rfl) rfl hin rfl rfl rfl rfl (Nat.le_of_ble_eq_true rfl) rfl (fun a ha h => by cases a with | zero => exact absurd rfl h | succ a => rfl) d_Edge_init_33 (fun H locs hP hS => ?_)
  refine lv_aload_n hC.1 hC.2.1 d_Edge_init_36 rfl (lv_at hl 0 rfl) ?_
  refine xi_const hC d_Edge_init_37 ?_
  refine xn_putI (i := 24) (k := 0) (f' := FEdge g [.ref (b + 1), .ref (b + 2), .ref (b + 3), .ref (b + 4), iv 0, .int 0]) (fun _ h => h) hC i_Edge t_Edge t_Edge_ok n_Edge hK hP hS (by decide) rfl rfl 4 (by decide) (gm 146 (by decide +kernel) rfl) rfl rfl rfl rfl (Nat.le_of_ble_eq_true rfl) rfl (fun a ha h => by cases a with | zero => exact absurd rfl h | succ a => rfl) d_Edge_init_38 (fun H locs hP hS => ?_)
  refine lv_aload_n hC.1 hC.2.1 d_Edge_init_41 rfl (lv_at hl 0 rfl) ?_
  refine xi_const hC d_Edge_init_42 ?_
  refine xn_putI (i := 28) (k := 0) (f' := FEdge g [.ref (b + 1), .ref (b + 2), .ref (b + 3), .ref (b + 4), iv 0, iv 0]) (fun _ h => h) hC i_Edge t_Edge t_Edge_ok n_Edge hK hP hS (by decide) rfl rfl 5 (by decide) (gm 149 (by decide +kernel) rfl) rfl rfl rfl rfl (Nat.le_of_ble_eq_true rfl) rfl (fun a ha h => by cases a with | zero => exact absurd rfl h | succ a => rfl) d_Edge_init_43 (fun H locs hP hS => ?_)
  exact xr_n (n := 4) hC hr hlocks hP (by omega) hS d_Edge_init_46
set_option maxHeartbeats 4000000 in
set_option maxRecDepth 20000 in
theorem k_Board (l : Launch) (D : va_G) (g : Nat → ClassId) (b : Nat) : Met l y_Board_init (Cond.code y_Board_init b_Board_init 1 none :: gd) ({ frames := 1, cells := 2, slots := 3872, locals := 24 }) (PcN D g b (FBoard g [.null, .null, .int 0, .int 0, .int 0, .int 0])) (QN D b 3 (FBoard g [.ref (b + 1), .ref (b + 2), .int 0, .int 0, .int 0, .int 0])) 2 3872 (fromB b) := by
  refine xm_new (own := "EdgeJoins$Board") (by decide) rfl rfl (Nat.le_of_ble_eq_true rfl) ?_
  intro p e s m below meth c ls H args hC hr hlocks hin hK hP hsz hk hS hl
  have hl : lv_has ls 1 [(0, .ref (b + 0))] := hl
  refine lv_aload_n hC.1 hC.2.1 d_Board_init_0 rfl (lv_at hl 0 rfl) ?_
  refine xn_obj hC hl.1 (gm 110 (by decide +kernel) rfl) ob_i ob_c (Nat.le_of_ble_eq_true rfl) (Nat.le_of_ble_eq_true rfl) d_Board_init_1 ?_
  refine lv_aload_n hC.1 hC.2.1 d_Board_init_4 rfl (lv_at hl 0 rfl) ?_
  refine xi_sipush hC d_Board_init_5 (by decide) ?_
  refine W.exact (n := 0) hP (by omega) (fun hz => ?_)
  refine xn_newi (len := 1936) hC ar_int hK (CI.of hP hz) hS (by decide) rfl (Nat.le_of_ble_eq_true rfl) (Nat.le_of_ble_eq_true rfl) d_Board_init_8 (fun H hI hS => ?_)
  have hP := hI.2
  refine xn_putF (i := 11) (k := 0) (f' := FBoard g [.ref (b + 1), .null, .int 0, .int 0, .int 0, .int 0]) (fun _ h => h) hC i_Board t_Board t_Board_ok n_Board hK hP hS (by decide) rfl rfl 0 (by decide) (gm 111 (by decide +kernel) rfl) rfl hin rfl rfl rfl rfl (Nat.le_of_ble_eq_true rfl) rfl (fun a ha h => by cases a with | zero => exact absurd rfl h | succ a => rfl) d_Board_init_10 (fun H locs hP hS => ?_)
  refine lv_aload_n hC.1 hC.2.1 d_Board_init_13 rfl (lv_at hl 0 rfl) ?_
  refine xi_sipush hC d_Board_init_14 (by decide) ?_
  refine W.exact (n := 1) hP (by omega) (fun hz => ?_)
  refine xn_newi (len := 1936) hC ar_int hK (CI.of hP hz) hS (by decide) rfl (Nat.le_of_ble_eq_true rfl) (Nat.le_of_ble_eq_true rfl) d_Board_init_17 (fun H hI hS => ?_)
  have hP := hI.2
  refine xn_putF (i := 15) (k := 0) (f' := FBoard g [.ref (b + 1), .ref (b + 2), .int 0, .int 0, .int 0, .int 0]) (fun _ h => h) hC i_Board t_Board t_Board_ok n_Board hK hP hS (by decide) rfl rfl 1 (by decide) (gm 112 (by decide +kernel) rfl) rfl hin rfl rfl rfl rfl (Nat.le_of_ble_eq_true rfl) rfl (fun a ha h => by cases a with | zero => exact absurd rfl h | succ a => rfl) d_Board_init_19 (fun H locs hP hS => ?_)
  exact xr_n (n := 2) hC hr hlocks hP (by omega) hS d_Board_init_22
def trU (s : Nat) : Nat → Int32 := fun j => if j < s then Int32.ofInt (j : Int) else 0
theorem trU_s (s : Nat) : trU (s + 1) = upd (trU s) s (Int32.ofInt (s : Int)) := by
  funext j
  unfold trU upd
  by_cases h : j = s
  · subst h; simp
  · simp only [h, if_false]
    by_cases h2 : j < s
    · rw [if_pos h2, if_pos (by omega)]
    · rw [if_neg h2, if_neg (by omega)]
set_option maxHeartbeats 4000000 in
theorem q_Layout {p : Program} {l : Launch} {e : Env} {s : State} {m : MethodId} {args : Array Value} {below : List Frame} {meth : Method} {c : Code} {D : va_G} {g : Nat → ClassId} {b : Nat} (hC : Cx p m c b_Layout_init 2 s args "EdgeJoins$Layout") (hr : meth.sig.returnType = none) (hlocks : meth.locks = false) (hK : va_K D classes (tyG g) s) (hk : sK s) (hsz : s.heap.size = b + 1) : ∀ (n i : Nat), i + n = 6 → ∀ (H : Heap) (locs : List Loc) (ls : Array Slot), va_P D classes (wsF b 5 (FLayout g [.ref (b + 1), .ref (b + 2), .ref (b + 3), .ref (b + 4)] (trU i))) H → va_S (fromB b) s.heap H locs → lv_has ls 2 [(1, iv (i : Int)), (0, .ref (b + 0))] → W p l e ({ frames := 1, cells := 4, slots := 24, locals := 24 }) s m args below meth c H locs 4 24 (MQ below (QN D b 5 (FLayout g [.ref (b + 1), .ref (b + 2), .ref (b + 3), .ref (b + 4)] (trU 6))) args s 4 24 (fromB b)) (F0 m 38 ls []) := by
  intro n
  induction n with
  | zero =>
    intro i hi H locs ls hP hS hl
    have hi6 : i = 6 := by omega
    subst hi6
    refine lv_iload_n hC.1 hC.2.1 d_Layout_init_38 rfl (lv_at hl 0 rfl) ?_
    refine xi_bipush hC d_Layout_init_39 (by decide) ?_
    refine xi_cge hC (tgt := 57) d_Layout_init_41 (by decide) (xl rfl) (xl rfl) (fun q => ?_) (fun q => absurd (by decide) q)
    exact xr_n (n := 4) hC hr hlocks hP (by omega) hS d_Layout_init_57
  | succ n ih =>
    intro i hi H locs ls hP hS hl
    have hb : in32 (i : Int) := ⟨by omega, by omega⟩
    refine lv_iload_n hC.1 hC.2.1 d_Layout_init_38 rfl (lv_at hl 0 rfl) ?_
    refine xi_bipush hC d_Layout_init_39 (by decide) ?_
    refine xi_cge hC (tgt := 57) d_Layout_init_41 (by decide) hb (xl rfl) (fun q => absurd q (by omega)) (fun q => ?_)
    refine lv_aload_n hC.1 hC.2.1 d_Layout_init_44 rfl (lv_at hl 1 rfl) ?_
    refine xn_get (i := 21) (k := 0) (v := .ref (b + 4)) hC i_Layout hK hP (by decide) rfl rfl 3 (by decide) (gm 40 (by decide +kernel) rfl) rfl d_Layout_init_45 ?_
    refine lv_iload_n hC.1 hC.2.1 d_Layout_init_48 rfl (lv_at hl 0 rfl) ?_
    refine lv_iload_n hC.1 hC.2.1 d_Layout_init_49 rfl (lv_at hl 0 rfl) ?_
    refine xn_iast (k := 4) (len := 6) (f' := FLayout g [.ref (b + 1), .ref (b + 2), .ref (b + 3), .ref (b + 4)] (trU (i + 1))) (fun _ h => h) hC hK hP hS (by decide) rfl (by decide) ⟨by omega, by omega⟩ (by rw [trU_s]; rfl) (fun a ha h => by unfold FLayout; by_cases h0 : a = 0 <;> by_cases h4 : a < 4 <;> simp only [h0, h4, if_true, if_false]; omega) d_Layout_init_50 (fun H locs hP hS => ?_)
    refine xi_iinc (v := ((i + 1 : Nat) : Int)) (lv' := [(1, iv ((i + 1 : Nat) : Int)), (0, .ref (b + 0))]) hC d_Layout_init_51 hl (k := 0) rfl (by omega) (by decide) rfl (fun ls hl => ?_)
    refine lv_goto (tgt := 38) hC.1 hC.2.1 d_Layout_init_54 (by decide) ?_
    exact ih (i + 1) (by omega) _ _ _ hP hS (lv_sub hl [0, 1] rfl)
set_option maxHeartbeats 4000000 in
set_option maxRecDepth 20000 in
theorem k_Layout (l : Launch) (D : va_G) (g : Nat → ClassId) (b : Nat) : Met l y_Layout_init (Cond.code y_Layout_init b_Layout_init 2 none :: gd) ({ frames := 1, cells := 4, slots := 24, locals := 24 }) (PcN D g b (FLayout g [.null, .null, .null, .null] (fun _ => 0))) (QN D b 5 (FLayout g [.ref (b + 1), .ref (b + 2), .ref (b + 3), .ref (b + 4)] (trU 6))) 4 24 (fromB b) := by
  refine xm_new (own := "EdgeJoins$Layout") (by decide) rfl rfl (Nat.le_of_ble_eq_true rfl) ?_
  intro p e s m below meth c ls H args hC hr hlocks hin hK hP hsz hk hS hl
  have hl : lv_has ls 2 [(0, .ref (b + 0))] := hl
  refine lv_aload_n hC.1 hC.2.1 d_Layout_init_0 rfl (lv_at hl 0 rfl) ?_
  refine xn_obj hC hl.1 (gm 30 (by decide +kernel) rfl) ob_i ob_c (Nat.le_of_ble_eq_true rfl) (Nat.le_of_ble_eq_true rfl) d_Layout_init_1 ?_
  refine lv_aload_n hC.1 hC.2.1 d_Layout_init_4 rfl (lv_at hl 0 rfl) ?_
  refine xi_bipush hC d_Layout_init_5 (by decide) ?_
  refine W.exact (n := 0) hP (by omega) (fun hz => ?_)
  refine xn_newi (len := 6) hC ar_int hK (CI.of hP hz) hS (by decide) rfl (Nat.le_of_ble_eq_true rfl) (Nat.le_of_ble_eq_true rfl) d_Layout_init_7 (fun H hI hS => ?_)
  have hP := hI.2
  refine xn_putF (i := 9) (k := 0) (f' := FLayout g [.ref (b + 1), .null, .null, .null] (fun _ => 0)) (fun _ h => h) hC i_Layout t_Layout t_Layout_ok n_Layout hK hP hS (by decide) rfl rfl 0 (by decide) (gm 31 (by decide +kernel) rfl) rfl hin rfl rfl rfl rfl (Nat.le_of_ble_eq_true rfl) rfl (fun a ha h => by cases a with | zero => exact absurd rfl h | succ a => rfl) d_Layout_init_9 (fun H locs hP hS => ?_)
  refine lv_aload_n hC.1 hC.2.1 d_Layout_init_12 rfl (lv_at hl 0 rfl) ?_
  refine xi_bipush hC d_Layout_init_13 (by decide) ?_
  refine W.exact (n := 1) hP (by omega) (fun hz => ?_)
  refine xn_newi (len := 6) hC ar_int hK (CI.of hP hz) hS (by decide) rfl (Nat.le_of_ble_eq_true rfl) (Nat.le_of_ble_eq_true rfl) d_Layout_init_15 (fun H hI hS => ?_)
  have hP := hI.2
  refine xn_putF (i := 15) (k := 0) (f' := FLayout g [.ref (b + 1), .ref (b + 2), .null, .null] (fun _ => 0)) (fun _ h => h) hC i_Layout t_Layout t_Layout_ok n_Layout hK hP hS (by decide) rfl rfl 1 (by decide) (gm 34 (by decide +kernel) rfl) rfl hin rfl rfl rfl rfl (Nat.le_of_ble_eq_true rfl) rfl (fun a ha h => by cases a with | zero => exact absurd rfl h | succ a => rfl) d_Layout_init_17 (fun H locs hP hS => ?_)
  refine lv_aload_n hC.1 hC.2.1 d_Layout_init_20 rfl (lv_at hl 0 rfl) ?_
  refine xi_bipush hC d_Layout_init_21 (by decide) ?_
  refine W.exact (n := 2) hP (by omega) (fun hz => ?_)
  refine xn_newi (len := 6) hC ar_int hK (CI.of hP hz) hS (by decide) rfl (Nat.le_of_ble_eq_true rfl) (Nat.le_of_ble_eq_true rfl) d_Layout_init_23 (fun H hI hS => ?_)
  have hP := hI.2
  refine xn_putF (i := 18) (k := 0) (f' := FLayout g [.ref (b + 1), .ref (b + 2), .ref (b + 3), .null] (fun _ => 0)) (fun _ h => h) hC i_Layout t_Layout t_Layout_ok n_Layout hK hP hS (by decide) rfl rfl 2 (by decide) (gm 37 (by decide +kernel) rfl) rfl hin rfl rfl rfl rfl (Nat.le_of_ble_eq_true rfl) rfl (fun a ha h => by cases a with | zero => exact absurd rfl h | succ a => rfl) d_Layout_init_25 (fun H locs hP hS => ?_)
  refine lv_aload_n hC.1 hC.2.1 d_Layout_init_28 rfl (lv_at hl 0 rfl) ?_
  refine xi_bipush hC d_Layout_init_29 (by decide) ?_
  refine W.exact (n := 3) hP (by omega) (fun hz => ?_)
  refine xn_newi (len := 6) hC ar_int hK (CI.of hP hz) hS (by decide) rfl (Nat.le_of_ble_eq_true rfl) (Nat.le_of_ble_eq_true rfl) d_Layout_init_31 (fun H hI hS => ?_)
  have hP := hI.2
  refine xn_putF (i := 21) (k := 0) (f' := FLayout g [.ref (b + 1), .ref (b + 2), .ref (b + 3), .ref (b + 4)] (fun _ => 0)) (fun _ h => h) hC i_Layout t_Layout t_Layout_ok n_Layout hK hP hS (by decide) rfl rfl 3 (by decide) (gm 40 (by decide +kernel) rfl) rfl hin rfl rfl rfl rfl (Nat.le_of_ble_eq_true rfl) rfl (fun a ha h => by cases a with | zero => exact absurd rfl h | succ a => rfl) d_Layout_init_33 (fun H locs hP hS => ?_)
  refine xi_const hC d_Layout_init_36 ?_
  refine lv_istore_n (lv' := [(1, iv 0), (0, .ref (b + 0))]) hC.1 hC.2.1 d_Layout_init_37 rfl hl (by decide) rfl (fun ls hl => ?_)
  exact q_Layout hC hr hlocks hK hk hsz 6 0 (by omega) _ _ _ hP hS (lv_sub hl [0, 1] rfl)
def plU (s : Nat) : Nat → Int32 := fun j => if j % 4 = 3 ∧ j / 4 < s then Int32.ofInt ((j / 4 : Nat) : Int) else 0
theorem plU_0 : plU 0 = fun _ => 0 := by
  funext j
  unfold plU
  rw [if_neg (by omega)]
theorem plU_s (s : Nat) : plU (s + 1) = upd (plU s) (4 * s + 3) (Int32.ofInt (s : Int)) := by
  funext j
  unfold plU upd
  by_cases h : j = 4 * s + 3
  · subst h
    rw [if_pos (by omega), if_pos rfl, show (4 * s + 3) / 4 = s by omega]
  · rw [if_neg h]
    show _ = (if j % 4 = 3 ∧ j / 4 < s then Int32.ofInt ((j / 4 : Nat) : Int) else 0)
    by_cases h2 : j % 4 = 3 ∧ j / 4 < s
    · rw [if_pos h2, if_pos (by omega)]
    · rw [if_neg h2, if_neg (by omega)]
set_option maxHeartbeats 4000000 in
theorem q_Model {p : Program} {l : Launch} {e : Env} {s : State} {m : MethodId} {args : Array Value} {below : List Frame} {meth : Method} {c : Code} {D : va_G} {g : Nat → ClassId} {b : Nat} (hC : Cx p m c b_Model_init 2 s args "EdgeJoinsModel") (hr : meth.sig.returnType = none) (hlocks : meth.locks = false) (hK : va_K D classes (tyG g) s) (hk : sK s) (hsz : s.heap.size = b + 1) : ∀ (n i : Nat), i + n = 6 → ∀ (H : Heap) (locs : List Loc) (ls : Array Slot), va_P D classes (wsF b 14 (FModel g [.int 0, .int 0, .ref (b + 1), .ref (b + 2), .ref (b + 3), .ref (b + 4), .ref (b + 5), .ref (b + 6), .ref (b + 7), iv 3, iv 100, .int 0, .int 0, .ref (b + 8), .ref (b + 9), .ref (b + 10), .ref (b + 11), .int 0, .ref (b + 12), .int 0, .int 0, .ref (b + 13), .int 0, .int 0] (plU i))) H → va_S (fromB b) s.heap H locs → lv_has ls 2 [(1, iv (i : Int)), (0, .ref (b + 0))] → W p l e ({ frames := 1, cells := 13, slots := 9846, locals := 24 }) s m args below meth c H locs 13 9846 (MQ below (QN D b 14 (FModel g [.int 0, .int 0, .ref (b + 1), .ref (b + 2), .ref (b + 3), .ref (b + 4), .ref (b + 5), .ref (b + 6), .ref (b + 7), iv 3, iv 100, .int 0, .int 0, .ref (b + 8), .ref (b + 9), .ref (b + 10), .ref (b + 11), .int 0, .ref (b + 12), .int 0, .int 0, .ref (b + 13), .int 0, .int 0] (plU 6))) args s 13 9846 (fromB b)) (F0 m 128 ls []) := by
  intro n
  induction n with
  | zero =>
    intro i hi H locs ls hP hS hl
    have hi6 : i = 6 := by omega
    subst hi6
    refine lv_iload_n hC.1 hC.2.1 d_Model_init_128 rfl (lv_at hl 0 rfl) ?_
    refine xi_bipush hC d_Model_init_129 (by decide) ?_
    refine xi_cge hC (tgt := 151) d_Model_init_131 (by decide) (xl rfl) (xl rfl) (fun q => ?_) (fun q => absurd (by decide) q)
    exact xr_n (n := 13) hC hr hlocks hP (by omega) hS d_Model_init_151
  | succ n ih =>
    intro i hi H locs ls hP hS hl
    have hb : in32 (i : Int) := ⟨by omega, by omega⟩
    refine lv_iload_n hC.1 hC.2.1 d_Model_init_128 rfl (lv_at hl 0 rfl) ?_
    refine xi_bipush hC d_Model_init_129 (by decide) ?_
    refine xi_cge hC (tgt := 151) d_Model_init_131 (by decide) hb (xl rfl) (fun q => absurd q (by omega)) (fun q => ?_)
    refine lv_aload_n hC.1 hC.2.1 d_Model_init_134 rfl (lv_at hl 1 rfl) ?_
    refine xn_get (i := 45) (k := 0) (v := .ref (b + 10)) hC i_Model hK hP (by decide) rfl rfl 15 (by decide) (gm 566 (by decide +kernel) rfl) rfl d_Model_init_135 ?_
    refine xi_const hC d_Model_init_138 ?_
    refine lv_iload_n hC.1 hC.2.1 d_Model_init_139 rfl (lv_at hl 0 rfl) ?_
    refine xi_mul hC d_Model_init_140 ?_
    refine xi_const hC d_Model_init_141 ?_
    refine xi_add hC d_Model_init_142 ?_
    refine lv_iload_n hC.1 hC.2.1 d_Model_init_143 rfl (lv_at hl 0 rfl) ?_
    refine xn_iast (k := 10) (len := 24) (f' := FModel g [.int 0, .int 0, .ref (b + 1), .ref (b + 2), .ref (b + 3), .ref (b + 4), .ref (b + 5), .ref (b + 6), .ref (b + 7), iv 3, iv 100, .int 0, .int 0, .ref (b + 8), .ref (b + 9), .ref (b + 10), .ref (b + 11), .int 0, .ref (b + 12), .int 0, .int 0, .ref (b + 13), .int 0, .int 0] (plU (i + 1))) (fun _ h => h) hC hK hP hS (by decide) rfl (by decide) ⟨by omega, by omega⟩ (by rw [plU_s, show (4 * (i : Int) + 3).toNat = 4 * i + 3 by omega]; rfl) (fun a ha h => by unfold FModel; split <;> first | rfl | exact absurd rfl h) d_Model_init_144 (fun H locs hP hS => ?_)
    refine xi_iinc (v := ((i + 1 : Nat) : Int)) (lv' := [(1, iv ((i + 1 : Nat) : Int)), (0, .ref (b + 0))]) hC d_Model_init_145 hl (k := 0) rfl (by omega) (by decide) rfl (fun ls hl => ?_)
    refine lv_goto (tgt := 128) hC.1 hC.2.1 d_Model_init_148 (by decide) ?_
    exact ih (i + 1) (by omega) _ _ _ hP hS (lv_sub hl [0, 1] rfl)
set_option maxHeartbeats 4000000 in
set_option maxRecDepth 20000 in
theorem k_Model (l : Launch) (D : va_G) (g : Nat → ClassId) (b : Nat) : Met l y_Model_init (Cond.code y_Model_init b_Model_init 2 none :: gd) ({ frames := 1, cells := 13, slots := 9846, locals := 24 }) (PcN D g b (FModel g [.int 0, .int 0, .null, .null, .null, .null, .null, .null, .null, .int 0, .int 0, .int 0, .int 0, .null, .null, .null, .null, .int 0, .null, .int 0, .int 0, .null, .int 0, .int 0] (fun _ => 0))) (QN D b 14 (FModel g [.int 0, .int 0, .ref (b + 1), .ref (b + 2), .ref (b + 3), .ref (b + 4), .ref (b + 5), .ref (b + 6), .ref (b + 7), iv 3, iv 100, .int 0, .int 0, .ref (b + 8), .ref (b + 9), .ref (b + 10), .ref (b + 11), .int 0, .ref (b + 12), .int 0, .int 0, .ref (b + 13), .int 0, .int 0] (plU 6))) 13 9846 (fromB b) := by
  refine xm_new (own := "EdgeJoinsModel") (by decide) rfl rfl (Nat.le_of_ble_eq_true rfl) ?_
  intro p e s m below meth c ls H args hC hr hlocks hin hK hP hsz hk hS hl
  have hl : lv_has ls 2 [(0, .ref (b + 0))] := hl
  refine lv_aload_n hC.1 hC.2.1 d_Model_init_0 rfl (lv_at hl 0 rfl) ?_
  refine xn_obj hC hl.1 (gm 550 (by decide +kernel) rfl) ob_i ob_c (Nat.le_of_ble_eq_true rfl) (Nat.le_of_ble_eq_true rfl) d_Model_init_1 ?_
  refine lv_aload_n hC.1 hC.2.1 d_Model_init_4 rfl (lv_at hl 0 rfl) ?_
  refine xi_bipush hC d_Model_init_5 (by decide) ?_
  refine W.exact (n := 0) hP (by omega) (fun hz => ?_)
  refine xn_newi (len := 6) hC ar_int hK (CI.of hP hz) hS (by decide) rfl (Nat.le_of_ble_eq_true rfl) (Nat.le_of_ble_eq_true rfl) d_Model_init_7 (fun H hI hS => ?_)
  have hP := hI.2
  refine xn_putF (i := 7) (k := 0) (f' := FModel g [.int 0, .int 0, .ref (b + 1), .null, .null, .null, .null, .null, .null, .int 0, .int 0, .int 0, .int 0, .null, .null, .null, .null, .int 0, .null, .int 0, .int 0, .null, .int 0, .int 0] (fun _ => 0)) (fun _ h => h) hC i_Model t_Model t_Model_ok n_Model hK hP hS (by decide) rfl rfl 2 (by decide) (gm 553 (by decide +kernel) rfl) rfl hin rfl rfl rfl rfl (Nat.le_of_ble_eq_true rfl) rfl (fun a ha h => by unfold FModel; split <;> first | rfl | exact absurd rfl h) d_Model_init_9 (fun H locs hP hS => ?_)
  refine lv_aload_n hC.1 hC.2.1 d_Model_init_12 rfl (lv_at hl 0 rfl) ?_
  refine xi_sipush hC d_Model_init_13 (by decide) ?_
  refine W.exact (n := 1) hP (by omega) (fun hz => ?_)
  refine xn_newi (len := 168) hC ar_int hK (CI.of hP hz) hS (by decide) rfl (Nat.le_of_ble_eq_true rfl) (Nat.le_of_ble_eq_true rfl) d_Model_init_16 (fun H hI hS => ?_)
  have hP := hI.2
  refine xn_putF (i := 13) (k := 0) (f' := FModel g [.int 0, .int 0, .ref (b + 1), .ref (b + 2), .null, .null, .null, .null, .null, .int 0, .int 0, .int 0, .int 0, .null, .null, .null, .null, .int 0, .null, .int 0, .int 0, .null, .int 0, .int 0] (fun _ => 0)) (fun _ h => h) hC i_Model t_Model t_Model_ok n_Model hK hP hS (by decide) rfl rfl 3 (by decide) (gm 554 (by decide +kernel) rfl) rfl hin rfl rfl rfl rfl (Nat.le_of_ble_eq_true rfl) rfl (fun a ha h => by unfold FModel; split <;> first | rfl | exact absurd rfl h) d_Model_init_18 (fun H locs hP hS => ?_)
  refine lv_aload_n hC.1 hC.2.1 d_Model_init_21 rfl (lv_at hl 0 rfl) ?_
  refine xi_sipush hC d_Model_init_22 (by decide) ?_
  refine W.exact (n := 2) hP (by omega) (fun hz => ?_)
  refine xn_newi (len := 168) hC ar_int hK (CI.of hP hz) hS (by decide) rfl (Nat.le_of_ble_eq_true rfl) (Nat.le_of_ble_eq_true rfl) d_Model_init_25 (fun H hI hS => ?_)
  have hP := hI.2
  refine xn_putF (i := 16) (k := 0) (f' := FModel g [.int 0, .int 0, .ref (b + 1), .ref (b + 2), .ref (b + 3), .null, .null, .null, .null, .int 0, .int 0, .int 0, .int 0, .null, .null, .null, .null, .int 0, .null, .int 0, .int 0, .null, .int 0, .int 0] (fun _ => 0)) (fun _ h => h) hC i_Model t_Model t_Model_ok n_Model hK hP hS (by decide) rfl rfl 4 (by decide) (gm 555 (by decide +kernel) rfl) rfl hin rfl rfl rfl rfl (Nat.le_of_ble_eq_true rfl) rfl (fun a ha h => by unfold FModel; split <;> first | rfl | exact absurd rfl h) d_Model_init_27 (fun H locs hP hS => ?_)
  refine lv_aload_n hC.1 hC.2.1 d_Model_init_30 rfl (lv_at hl 0 rfl) ?_
  refine xi_bipush hC d_Model_init_31 (by decide) ?_
  refine W.exact (n := 3) hP (by omega) (fun hz => ?_)
  refine xn_newz (len := 6) hC ar_boolean hK (CI.of hP hz) hS (by decide) rfl (Nat.le_of_ble_eq_true rfl) (Nat.le_of_ble_eq_true rfl) d_Model_init_33 (fun H hI hS => ?_)
  have hP := hI.2
  refine xn_putF (i := 19) (k := 0) (f' := FModel g [.int 0, .int 0, .ref (b + 1), .ref (b + 2), .ref (b + 3), .ref (b + 4), .null, .null, .null, .int 0, .int 0, .int 0, .int 0, .null, .null, .null, .null, .int 0, .null, .int 0, .int 0, .null, .int 0, .int 0] (fun _ => 0)) (fun _ h => h) hC i_Model t_Model t_Model_ok n_Model hK hP hS (by decide) rfl rfl 5 (by decide) (gm 556 (by decide +kernel) rfl) rfl hin rfl rfl rfl rfl (Nat.le_of_ble_eq_true rfl) rfl (fun a ha h => by unfold FModel; split <;> first | rfl | exact absurd rfl h) d_Model_init_35 (fun H locs hP hS => ?_)
  refine lv_aload_n hC.1 hC.2.1 d_Model_init_38 rfl (lv_at hl 0 rfl) ?_
  refine xi_bipush hC d_Model_init_39 (by decide) ?_
  refine W.exact (n := 4) hP (by omega) (fun hz => ?_)
  refine xn_newi (len := 6) hC ar_int hK (CI.of hP hz) hS (by decide) rfl (Nat.le_of_ble_eq_true rfl) (Nat.le_of_ble_eq_true rfl) d_Model_init_41 (fun H hI hS => ?_)
  have hP := hI.2
  refine xn_putF (i := 23) (k := 0) (f' := FModel g [.int 0, .int 0, .ref (b + 1), .ref (b + 2), .ref (b + 3), .ref (b + 4), .ref (b + 5), .null, .null, .int 0, .int 0, .int 0, .int 0, .null, .null, .null, .null, .int 0, .null, .int 0, .int 0, .null, .int 0, .int 0] (fun _ => 0)) (fun _ h => h) hC i_Model t_Model t_Model_ok n_Model hK hP hS (by decide) rfl rfl 6 (by decide) (gm 557 (by decide +kernel) rfl) rfl hin rfl rfl rfl rfl (Nat.le_of_ble_eq_true rfl) rfl (fun a ha h => by unfold FModel; split <;> first | rfl | exact absurd rfl h) d_Model_init_43 (fun H locs hP hS => ?_)
  refine lv_aload_n hC.1 hC.2.1 d_Model_init_46 rfl (lv_at hl 0 rfl) ?_
  refine xi_sipush hC d_Model_init_47 (by decide) ?_
  refine W.exact (n := 5) hP (by omega) (fun hz => ?_)
  refine xn_newi (len := 294) hC ar_int hK (CI.of hP hz) hS (by decide) rfl (Nat.le_of_ble_eq_true rfl) (Nat.le_of_ble_eq_true rfl) d_Model_init_50 (fun H hI hS => ?_)
  have hP := hI.2
  refine xn_putF (i := 26) (k := 0) (f' := FModel g [.int 0, .int 0, .ref (b + 1), .ref (b + 2), .ref (b + 3), .ref (b + 4), .ref (b + 5), .ref (b + 6), .null, .int 0, .int 0, .int 0, .int 0, .null, .null, .null, .null, .int 0, .null, .int 0, .int 0, .null, .int 0, .int 0] (fun _ => 0)) (fun _ h => h) hC i_Model t_Model t_Model_ok n_Model hK hP hS (by decide) rfl rfl 7 (by decide) (gm 558 (by decide +kernel) rfl) rfl hin rfl rfl rfl rfl (Nat.le_of_ble_eq_true rfl) rfl (fun a ha h => by unfold FModel; split <;> first | rfl | exact absurd rfl h) d_Model_init_52 (fun H locs hP hS => ?_)
  refine lv_aload_n hC.1 hC.2.1 d_Model_init_55 rfl (lv_at hl 0 rfl) ?_
  refine xi_sipush hC d_Model_init_56 (by decide) ?_
  refine W.exact (n := 6) hP (by omega) (fun hz => ?_)
  refine xn_newi (len := 294) hC ar_int hK (CI.of hP hz) hS (by decide) rfl (Nat.le_of_ble_eq_true rfl) (Nat.le_of_ble_eq_true rfl) d_Model_init_59 (fun H hI hS => ?_)
  have hP := hI.2
  refine xn_putF (i := 29) (k := 0) (f' := FModel g [.int 0, .int 0, .ref (b + 1), .ref (b + 2), .ref (b + 3), .ref (b + 4), .ref (b + 5), .ref (b + 6), .ref (b + 7), .int 0, .int 0, .int 0, .int 0, .null, .null, .null, .null, .int 0, .null, .int 0, .int 0, .null, .int 0, .int 0] (fun _ => 0)) (fun _ h => h) hC i_Model t_Model t_Model_ok n_Model hK hP hS (by decide) rfl rfl 8 (by decide) (gm 559 (by decide +kernel) rfl) rfl hin rfl rfl rfl rfl (Nat.le_of_ble_eq_true rfl) rfl (fun a ha h => by unfold FModel; split <;> first | rfl | exact absurd rfl h) d_Model_init_61 (fun H locs hP hS => ?_)
  refine lv_aload_n hC.1 hC.2.1 d_Model_init_64 rfl (lv_at hl 0 rfl) ?_
  refine xi_const hC d_Model_init_65 ?_
  refine xn_putI (i := 32) (k := 0) (f' := FModel g [.int 0, .int 0, .ref (b + 1), .ref (b + 2), .ref (b + 3), .ref (b + 4), .ref (b + 5), .ref (b + 6), .ref (b + 7), iv 3, .int 0, .int 0, .int 0, .null, .null, .null, .null, .int 0, .null, .int 0, .int 0, .null, .int 0, .int 0] (fun _ => 0)) (fun _ h => h) hC i_Model t_Model t_Model_ok n_Model hK hP hS (by decide) rfl rfl 9 (by decide) (gm 560 (by decide +kernel) rfl) rfl rfl rfl rfl (Nat.le_of_ble_eq_true rfl) rfl (fun a ha h => by unfold FModel; split <;> first | rfl | exact absurd rfl h) d_Model_init_66 (fun H locs hP hS => ?_)
  refine lv_aload_n hC.1 hC.2.1 d_Model_init_69 rfl (lv_at hl 0 rfl) ?_
  refine xi_bipush hC d_Model_init_70 (by decide) ?_
  refine xn_putI (i := 36) (k := 0) (f' := FModel g [.int 0, .int 0, .ref (b + 1), .ref (b + 2), .ref (b + 3), .ref (b + 4), .ref (b + 5), .ref (b + 6), .ref (b + 7), iv 3, iv 100, .int 0, .int 0, .null, .null, .null, .null, .int 0, .null, .int 0, .int 0, .null, .int 0, .int 0] (fun _ => 0)) (fun _ h => h) hC i_Model t_Model t_Model_ok n_Model hK hP hS (by decide) rfl rfl 10 (by decide) (gm 561 (by decide +kernel) rfl) rfl rfl rfl rfl (Nat.le_of_ble_eq_true rfl) rfl (fun a ha h => by unfold FModel; split <;> first | rfl | exact absurd rfl h) d_Model_init_72 (fun H locs hP hS => ?_)
  refine lv_aload_n hC.1 hC.2.1 d_Model_init_75 rfl (lv_at hl 0 rfl) ?_
  refine xi_sipush hC d_Model_init_76 (by decide) ?_
  refine W.exact (n := 7) hP (by omega) (fun hz => ?_)
  refine xn_newi (len := 606) hC ar_int hK (CI.of hP hz) hS (by decide) rfl (Nat.le_of_ble_eq_true rfl) (Nat.le_of_ble_eq_true rfl) d_Model_init_79 (fun H hI hS => ?_)
  have hP := hI.2
  refine xn_putF (i := 39) (k := 0) (f' := FModel g [.int 0, .int 0, .ref (b + 1), .ref (b + 2), .ref (b + 3), .ref (b + 4), .ref (b + 5), .ref (b + 6), .ref (b + 7), iv 3, iv 100, .int 0, .int 0, .ref (b + 8), .null, .null, .null, .int 0, .null, .int 0, .int 0, .null, .int 0, .int 0] (fun _ => 0)) (fun _ h => h) hC i_Model t_Model t_Model_ok n_Model hK hP hS (by decide) rfl rfl 13 (by decide) (gm 564 (by decide +kernel) rfl) rfl hin rfl rfl rfl rfl (Nat.le_of_ble_eq_true rfl) rfl (fun a ha h => by unfold FModel; split <;> first | rfl | exact absurd rfl h) d_Model_init_81 (fun H locs hP hS => ?_)
  refine lv_aload_n hC.1 hC.2.1 d_Model_init_84 rfl (lv_at hl 0 rfl) ?_
  refine xi_bipush hC d_Model_init_85 (by decide) ?_
  refine W.exact (n := 8) hP (by omega) (fun hz => ?_)
  refine xn_newi (len := 6) hC ar_int hK (CI.of hP hz) hS (by decide) rfl (Nat.le_of_ble_eq_true rfl) (Nat.le_of_ble_eq_true rfl) d_Model_init_87 (fun H hI hS => ?_)
  have hP := hI.2
  refine xn_putF (i := 42) (k := 0) (f' := FModel g [.int 0, .int 0, .ref (b + 1), .ref (b + 2), .ref (b + 3), .ref (b + 4), .ref (b + 5), .ref (b + 6), .ref (b + 7), iv 3, iv 100, .int 0, .int 0, .ref (b + 8), .ref (b + 9), .null, .null, .int 0, .null, .int 0, .int 0, .null, .int 0, .int 0] (fun _ => 0)) (fun _ h => h) hC i_Model t_Model t_Model_ok n_Model hK hP hS (by decide) rfl rfl 14 (by decide) (gm 565 (by decide +kernel) rfl) rfl hin rfl rfl rfl rfl (Nat.le_of_ble_eq_true rfl) rfl (fun a ha h => by unfold FModel; split <;> first | rfl | exact absurd rfl h) d_Model_init_89 (fun H locs hP hS => ?_)
  refine lv_aload_n hC.1 hC.2.1 d_Model_init_92 rfl (lv_at hl 0 rfl) ?_
  refine xi_bipush hC d_Model_init_93 (by decide) ?_
  refine W.exact (n := 9) hP (by omega) (fun hz => ?_)
  refine xn_newi (len := 24) hC ar_int hK (CI.of hP hz) hS (by decide) rfl (Nat.le_of_ble_eq_true rfl) (Nat.le_of_ble_eq_true rfl) d_Model_init_95 (fun H hI hS => ?_)
  have hP := hI.2
  refine xn_putF (i := 45) (k := 0) (f' := FModel g [.int 0, .int 0, .ref (b + 1), .ref (b + 2), .ref (b + 3), .ref (b + 4), .ref (b + 5), .ref (b + 6), .ref (b + 7), iv 3, iv 100, .int 0, .int 0, .ref (b + 8), .ref (b + 9), .ref (b + 10), .null, .int 0, .null, .int 0, .int 0, .null, .int 0, .int 0] (fun _ => 0)) (fun _ h => h) hC i_Model t_Model t_Model_ok n_Model hK hP hS (by decide) rfl rfl 15 (by decide) (gm 566 (by decide +kernel) rfl) rfl hin rfl rfl rfl rfl (Nat.le_of_ble_eq_true rfl) rfl (fun a ha h => by unfold FModel; split <;> first | rfl | exact absurd rfl h) d_Model_init_97 (fun H locs hP hS => ?_)
  refine lv_aload_n hC.1 hC.2.1 d_Model_init_100 rfl (lv_at hl 0 rfl) ?_
  refine xi_sipush hC d_Model_init_101 (by decide) ?_
  refine W.exact (n := 10) hP (by omega) (fun hz => ?_)
  refine xn_newi (len := 144) hC ar_int hK (CI.of hP hz) hS (by decide) rfl (Nat.le_of_ble_eq_true rfl) (Nat.le_of_ble_eq_true rfl) d_Model_init_104 (fun H hI hS => ?_)
  have hP := hI.2
  refine xn_putF (i := 48) (k := 0) (f' := FModel g [.int 0, .int 0, .ref (b + 1), .ref (b + 2), .ref (b + 3), .ref (b + 4), .ref (b + 5), .ref (b + 6), .ref (b + 7), iv 3, iv 100, .int 0, .int 0, .ref (b + 8), .ref (b + 9), .ref (b + 10), .ref (b + 11), .int 0, .null, .int 0, .int 0, .null, .int 0, .int 0] (fun _ => 0)) (fun _ h => h) hC i_Model t_Model t_Model_ok n_Model hK hP hS (by decide) rfl rfl 16 (by decide) (gm 567 (by decide +kernel) rfl) rfl hin rfl rfl rfl rfl (Nat.le_of_ble_eq_true rfl) rfl (fun a ha h => by unfold FModel; split <;> first | rfl | exact absurd rfl h) d_Model_init_106 (fun H locs hP hS => ?_)
  refine lv_aload_n hC.1 hC.2.1 d_Model_init_109 rfl (lv_at hl 0 rfl) ?_
  refine xi_bipush hC d_Model_init_110 (by decide) ?_
  refine W.exact (n := 11) hP (by omega) (fun hz => ?_)
  refine xn_newi (len := 24) hC ar_int hK (CI.of hP hz) hS (by decide) rfl (Nat.le_of_ble_eq_true rfl) (Nat.le_of_ble_eq_true rfl) d_Model_init_112 (fun H hI hS => ?_)
  have hP := hI.2
  refine xn_putF (i := 51) (k := 0) (f' := FModel g [.int 0, .int 0, .ref (b + 1), .ref (b + 2), .ref (b + 3), .ref (b + 4), .ref (b + 5), .ref (b + 6), .ref (b + 7), iv 3, iv 100, .int 0, .int 0, .ref (b + 8), .ref (b + 9), .ref (b + 10), .ref (b + 11), .int 0, .ref (b + 12), .int 0, .int 0, .null, .int 0, .int 0] (fun _ => 0)) (fun _ h => h) hC i_Model t_Model t_Model_ok n_Model hK hP hS (by decide) rfl rfl 18 (by decide) (gm 569 (by decide +kernel) rfl) rfl hin rfl rfl rfl rfl (Nat.le_of_ble_eq_true rfl) rfl (fun a ha h => by unfold FModel; split <;> first | rfl | exact absurd rfl h) d_Model_init_114 (fun H locs hP hS => ?_)
  refine lv_aload_n hC.1 hC.2.1 d_Model_init_117 rfl (lv_at hl 0 rfl) ?_
  refine xi_sipush hC d_Model_init_118 (by decide) ?_
  refine W.exact (n := 12) hP (by omega) (fun hz => ?_)
  refine xn_newi (len := 8100) hC ar_int hK (CI.of hP hz) hS (by decide) rfl (Nat.le_of_ble_eq_true rfl) (Nat.le_of_ble_eq_true rfl) d_Model_init_121 (fun H hI hS => ?_)
  have hP := hI.2
  refine xn_putF (i := 54) (k := 0) (f' := FModel g [.int 0, .int 0, .ref (b + 1), .ref (b + 2), .ref (b + 3), .ref (b + 4), .ref (b + 5), .ref (b + 6), .ref (b + 7), iv 3, iv 100, .int 0, .int 0, .ref (b + 8), .ref (b + 9), .ref (b + 10), .ref (b + 11), .int 0, .ref (b + 12), .int 0, .int 0, .ref (b + 13), .int 0, .int 0] (fun _ => 0)) (fun _ h => h) hC i_Model t_Model t_Model_ok n_Model hK hP hS (by decide) rfl rfl 21 (by decide) (gm 572 (by decide +kernel) rfl) rfl hin rfl rfl rfl rfl (Nat.le_of_ble_eq_true rfl) rfl (fun a ha h => by unfold FModel; split <;> first | rfl | exact absurd rfl h) d_Model_init_123 (fun H locs hP hS => ?_)
  refine xi_const hC d_Model_init_126 ?_
  refine lv_istore_n (lv' := [(1, iv 0), (0, .ref (b + 0))]) hC.1 hC.2.1 d_Model_init_127 rfl hl (by decide) rfl (fun ls hl => ?_)
  exact q_Model hC hr hlocks hK hk hsz 6 0 (by omega) _ _ _ (by rw [plU_0]; exact hP) hS (lv_sub hl [0, 1] rfl)
