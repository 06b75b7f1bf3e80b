theorem d_Model_pair_0 : decode b_Model_pair 0 = .ok (.aload_n 0, 1) := by decide +kernel
theorem d_Model_pair_1 : decode b_Model_pair 1 = .ok (.aload_n 0, 1) := by decide +kernel
theorem d_Model_pair_2 : decode b_Model_pair 2 = .ok (.iload_n 1, 1) := by decide +kernel
theorem d_Model_pair_3 : decode b_Model_pair 3 = .ok (.invokevirtual 136, 3) := by decide +kernel
theorem d_Model_pair_6 : decode b_Model_pair 6 = .ok (.ifCond .eq 12, 3) := by decide +kernel
theorem d_Model_pair_9 : decode b_Model_pair 9 = .ok (.iload_n 2, 1) := by decide +kernel
theorem d_Model_pair_10 : decode b_Model_pair 10 = .ok (.iconst 0, 1) := by decide +kernel
theorem d_Model_pair_11 : decode b_Model_pair 11 = .ok (.iconst 5, 1) := by decide +kernel
theorem d_Model_pair_12 : decode b_Model_pair 12 = .ok (.invokestatic 63, 3) := by decide +kernel
theorem d_Model_pair_15 : decode b_Model_pair 15 = .ok (.ifCond .ne 7, 3) := by decide +kernel
theorem d_Model_pair_18 : decode b_Model_pair 18 = .ok (.iconst 1, 1) := by decide +kernel
theorem d_Model_pair_19 : decode b_Model_pair 19 = .ok (.goto 4, 3) := by decide +kernel
theorem d_Model_pair_22 : decode b_Model_pair 22 = .ok (.iconst 0, 1) := by decide +kernel
theorem d_Model_pair_23 : decode b_Model_pair 23 = .ok (.iconst 0, 1) := by decide +kernel
theorem d_Model_pair_24 : decode b_Model_pair 24 = .ok (.iconst 0, 1) := by decide +kernel
theorem d_Model_pair_25 : decode b_Model_pair 25 = .ok (.invokevirtual 67, 3) := by decide +kernel
theorem d_Model_pair_28 : decode b_Model_pair 28 = .ok (.ifCond .eq 5, 3) := by decide +kernel
theorem d_Model_pair_31 : decode b_Model_pair 31 = .ok (.iconst 0, 1) := by decide +kernel
theorem d_Model_pair_32 : decode b_Model_pair 32 = .ok (.ireturn, 1) := by decide +kernel
theorem d_Model_pair_33 : decode b_Model_pair 33 = .ok (.aload_n 0, 1) := by decide +kernel
theorem d_Model_pair_34 : decode b_Model_pair 34 = .ok (.getfield 39, 3) := by decide +kernel
theorem d_Model_pair_37 : decode b_Model_pair 37 = .ok (.bipush 6, 2) := by decide +kernel
theorem d_Model_pair_39 : decode b_Model_pair 39 = .ok (.iload_n 1, 1) := by decide +kernel
theorem d_Model_pair_40 : decode b_Model_pair 40 = .ok (.imul, 1) := by decide +kernel
theorem d_Model_pair_41 : decode b_Model_pair 41 = .ok (.iload_n 2, 1) := by decide +kernel
theorem d_Model_pair_42 : decode b_Model_pair 42 = .ok (.iadd, 1) := by decide +kernel
theorem d_Model_pair_43 : decode b_Model_pair 43 = .ok (.iaload, 1) := by decide +kernel
theorem d_Model_pair_44 : decode b_Model_pair 44 = .ok (.ireturn, 1) := by decide +kernel
theorem d_Model_turn_0 : decode b_Model_turn 0 = .ok (.iconst 0, 1) := by decide +kernel
theorem d_Model_turn_1 : decode b_Model_turn 1 = .ok (.istore_n 2, 1) := by decide +kernel
theorem d_Model_turn_2 : decode b_Model_turn 2 = .ok (.iload_n 2, 1) := by decide +kernel
theorem d_Model_turn_3 : decode b_Model_turn 3 = .ok (.iload_n 1, 1) := by decide +kernel
theorem d_Model_turn_4 : decode b_Model_turn 4 = .ok (.if_icmp .ge 28, 3) := by decide +kernel
theorem d_Model_turn_7 : decode b_Model_turn 7 = .ok (.aload_n 0, 1) := by decide +kernel
theorem d_Model_turn_8 : decode b_Model_turn 8 = .ok (.getfield 79, 3) := by decide +kernel
theorem d_Model_turn_11 : decode b_Model_turn 11 = .ok (.istore_n 3, 1) := by decide +kernel
theorem d_Model_turn_12 : decode b_Model_turn 12 = .ok (.aload_n 0, 1) := by decide +kernel
theorem d_Model_turn_13 : decode b_Model_turn 13 = .ok (.aload_n 0, 1) := by decide +kernel
theorem d_Model_turn_14 : decode b_Model_turn 14 = .ok (.getfield 82, 3) := by decide +kernel
theorem d_Model_turn_17 : decode b_Model_turn 17 = .ok (.ineg, 1) := by decide +kernel
theorem d_Model_turn_18 : decode b_Model_turn 18 = .ok (.putfield 79, 3) := by decide +kernel
theorem d_Model_turn_21 : decode b_Model_turn 21 = .ok (.aload_n 0, 1) := by decide +kernel
theorem d_Model_turn_22 : decode b_Model_turn 22 = .ok (.iload_n 3, 1) := by decide +kernel
theorem d_Model_turn_23 : decode b_Model_turn 23 = .ok (.putfield 82, 3) := by decide +kernel
theorem d_Model_turn_26 : decode b_Model_turn 26 = .ok (.iinc 2 1, 3) := by decide +kernel
theorem d_Model_turn_29 : decode b_Model_turn 29 = .ok (.goto (-27), 3) := by decide +kernel
theorem d_Model_turn_32 : decode b_Model_turn 32 = .ok (.return_, 1) := by decide +kernel
theorem d_Model_cellOf_0 : decode b_Model_cellOf 0 = .ok (.aload_n 0, 1) := by decide +kernel
theorem d_Model_cellOf_1 : decode b_Model_cellOf 1 = .ok (.aload_n 0, 1) := by decide +kernel
theorem d_Model_cellOf_2 : decode b_Model_cellOf 2 = .ok (.getfield 26, 3) := by decide +kernel
theorem d_Model_cellOf_5 : decode b_Model_cellOf 5 = .ok (.bipush 49, 2) := by decide +kernel
theorem d_Model_cellOf_7 : decode b_Model_cellOf 7 = .ok (.iload_n 2, 1) := by decide +kernel
theorem d_Model_cellOf_8 : decode b_Model_cellOf 8 = .ok (.imul, 1) := by decide +kernel
theorem d_Model_cellOf_9 : decode b_Model_cellOf 9 = .ok (.iload_n 3, 1) := by decide +kernel
theorem d_Model_cellOf_10 : decode b_Model_cellOf 10 = .ok (.iadd, 1) := by decide +kernel
theorem d_Model_cellOf_11 : decode b_Model_cellOf 11 = .ok (.iaload, 1) := by decide +kernel
theorem d_Model_cellOf_12 : decode b_Model_cellOf 12 = .ok (.putfield 79, 3) := by decide +kernel
theorem d_Model_cellOf_15 : decode b_Model_cellOf 15 = .ok (.aload_n 0, 1) := by decide +kernel
theorem d_Model_cellOf_16 : decode b_Model_cellOf 16 = .ok (.aload_n 0, 1) := by decide +kernel
theorem d_Model_cellOf_17 : decode b_Model_cellOf 17 = .ok (.getfield 29, 3) := by decide +kernel
theorem d_Model_cellOf_20 : decode b_Model_cellOf 20 = .ok (.bipush 49, 2) := by decide +kernel
theorem d_Model_cellOf_22 : decode b_Model_cellOf 22 = .ok (.iload_n 2, 1) := by decide +kernel
theorem d_Model_cellOf_23 : decode b_Model_cellOf 23 = .ok (.imul, 1) := by decide +kernel
theorem d_Model_cellOf_24 : decode b_Model_cellOf 24 = .ok (.iload_n 3, 1) := by decide +kernel
theorem d_Model_cellOf_25 : decode b_Model_cellOf 25 = .ok (.iadd, 1) := by decide +kernel
theorem d_Model_cellOf_26 : decode b_Model_cellOf 26 = .ok (.iaload, 1) := by decide +kernel
theorem d_Model_cellOf_27 : decode b_Model_cellOf 27 = .ok (.putfield 82, 3) := by decide +kernel
theorem d_Model_cellOf_30 : decode b_Model_cellOf 30 = .ok (.iconst 0, 1) := by decide +kernel
theorem d_Model_cellOf_31 : decode b_Model_cellOf 31 = .ok (.istore 4, 2) := by decide +kernel
theorem d_Model_cellOf_33 : decode b_Model_cellOf 33 = .ok (.iload 4, 2) := by decide +kernel
theorem d_Model_cellOf_35 : decode b_Model_cellOf 35 = .ok (.aload_n 1, 1) := by decide +kernel
theorem d_Model_cellOf_36 : decode b_Model_cellOf 36 = .ok (.iconst 4, 1) := by decide +kernel
theorem d_Model_cellOf_37 : decode b_Model_cellOf 37 = .ok (.iload_n 2, 1) := by decide +kernel
theorem d_Model_cellOf_38 : decode b_Model_cellOf 38 = .ok (.imul, 1) := by decide +kernel
theorem d_Model_cellOf_39 : decode b_Model_cellOf 39 = .ok (.iconst 2, 1) := by decide +kernel
theorem d_Model_cellOf_40 : decode b_Model_cellOf 40 = .ok (.iadd, 1) := by decide +kernel
theorem d_Model_cellOf_41 : decode b_Model_cellOf 41 = .ok (.iaload, 1) := by decide +kernel
theorem d_Model_cellOf_42 : decode b_Model_cellOf 42 = .ok (.if_icmp .ge 32, 3) := by decide +kernel
theorem d_Model_cellOf_45 : decode b_Model_cellOf 45 = .ok (.aload_n 0, 1) := by decide +kernel
theorem d_Model_cellOf_46 : decode b_Model_cellOf 46 = .ok (.getfield 79, 3) := by decide +kernel
theorem d_Model_cellOf_49 : decode b_Model_cellOf 49 = .ok (.istore 5, 2) := by decide +kernel
theorem d_Model_cellOf_51 : decode b_Model_cellOf 51 = .ok (.aload_n 0, 1) := by decide +kernel
theorem d_Model_cellOf_52 : decode b_Model_cellOf 52 = .ok (.aload_n 0, 1) := by decide +kernel
theorem d_Model_cellOf_53 : decode b_Model_cellOf 53 = .ok (.getfield 82, 3) := by decide +kernel
theorem d_Model_cellOf_56 : decode b_Model_cellOf 56 = .ok (.ineg, 1) := by decide +kernel
theorem d_Model_cellOf_57 : decode b_Model_cellOf 57 = .ok (.iconst 1, 1) := by decide +kernel
theorem d_Model_cellOf_58 : decode b_Model_cellOf 58 = .ok (.isub, 1) := by decide +kernel
theorem d_Model_cellOf_59 : decode b_Model_cellOf 59 = .ok (.putfield 79, 3) := by decide +kernel
theorem d_Model_cellOf_62 : decode b_Model_cellOf 62 = .ok (.aload_n 0, 1) := by decide +kernel
theorem d_Model_cellOf_63 : decode b_Model_cellOf 63 = .ok (.iload 5, 2) := by decide +kernel
theorem d_Model_cellOf_65 : decode b_Model_cellOf 65 = .ok (.putfield 82, 3) := by decide +kernel
theorem d_Model_cellOf_68 : decode b_Model_cellOf 68 = .ok (.iinc 4 1, 3) := by decide +kernel
theorem d_Model_cellOf_71 : decode b_Model_cellOf 71 = .ok (.goto (-38), 3) := by decide +kernel
theorem d_Model_cellOf_74 : decode b_Model_cellOf 74 = .ok (.aload_n 0, 1) := by decide +kernel
theorem d_Model_cellOf_75 : decode b_Model_cellOf 75 = .ok (.dup, 1) := by decide +kernel
theorem d_Model_cellOf_76 : decode b_Model_cellOf 76 = .ok (.getfield 79, 3) := by decide +kernel
theorem d_Model_cellOf_79 : decode b_Model_cellOf 79 = .ok (.aload_n 1, 1) := by decide +kernel
theorem d_Model_cellOf_80 : decode b_Model_cellOf 80 = .ok (.iconst 4, 1) := by decide +kernel
theorem d_Model_cellOf_81 : decode b_Model_cellOf 81 = .ok (.iload_n 2, 1) := by decide +kernel
theorem d_Model_cellOf_82 : decode b_Model_cellOf 82 = .ok (.imul, 1) := by decide +kernel
theorem d_Model_cellOf_83 : decode b_Model_cellOf 83 = .ok (.iaload, 1) := by decide +kernel
theorem d_Model_cellOf_84 : decode b_Model_cellOf 84 = .ok (.iadd, 1) := by decide +kernel
theorem d_Model_cellOf_85 : decode b_Model_cellOf 85 = .ok (.putfield 79, 3) := by decide +kernel
theorem d_Model_cellOf_88 : decode b_Model_cellOf 88 = .ok (.aload_n 0, 1) := by decide +kernel
theorem d_Model_cellOf_89 : decode b_Model_cellOf 89 = .ok (.dup, 1) := by decide +kernel
theorem d_Model_cellOf_90 : decode b_Model_cellOf 90 = .ok (.getfield 82, 3) := by decide +kernel
theorem d_Model_cellOf_93 : decode b_Model_cellOf 93 = .ok (.aload_n 1, 1) := by decide +kernel
theorem d_Model_cellOf_94 : decode b_Model_cellOf 94 = .ok (.iconst 4, 1) := by decide +kernel
theorem d_Model_cellOf_95 : decode b_Model_cellOf 95 = .ok (.iload_n 2, 1) := by decide +kernel
theorem d_Model_cellOf_96 : decode b_Model_cellOf 96 = .ok (.imul, 1) := by decide +kernel
theorem d_Model_cellOf_97 : decode b_Model_cellOf 97 = .ok (.iconst 1, 1) := by decide +kernel
theorem d_Model_cellOf_98 : decode b_Model_cellOf 98 = .ok (.iadd, 1) := by decide +kernel
theorem d_Model_cellOf_99 : decode b_Model_cellOf 99 = .ok (.iaload, 1) := by decide +kernel
theorem d_Model_cellOf_100 : decode b_Model_cellOf 100 = .ok (.iadd, 1) := by decide +kernel
theorem d_Model_cellOf_101 : decode b_Model_cellOf 101 = .ok (.putfield 82, 3) := by decide +kernel
theorem d_Model_cellOf_104 : decode b_Model_cellOf 104 = .ok (.return_, 1) := by decide +kernel
theorem d_Model_overlap_0 : decode b_Model_overlap 0 = .ok (.iconst 0, 1) := by decide +kernel
theorem d_Model_overlap_1 : decode b_Model_overlap 1 = .ok (.istore 4, 2) := by decide +kernel
theorem d_Model_overlap_3 : decode b_Model_overlap 3 = .ok (.iconst 0, 1) := by decide +kernel
theorem d_Model_overlap_4 : decode b_Model_overlap 4 = .ok (.istore 5, 2) := by decide +kernel
theorem d_Model_overlap_6 : decode b_Model_overlap 6 = .ok (.iload 5, 2) := by decide +kernel
theorem d_Model_overlap_8 : decode b_Model_overlap 8 = .ok (.aload_n 0, 1) := by decide +kernel
theorem d_Model_overlap_9 : decode b_Model_overlap 9 = .ok (.getfield 23, 3) := by decide +kernel
theorem d_Model_overlap_12 : decode b_Model_overlap 12 = .ok (.iload_n 2, 1) := by decide +kernel
theorem d_Model_overlap_13 : decode b_Model_overlap 13 = .ok (.iaload, 1) := by decide +kernel
theorem d_Model_overlap_14 : decode b_Model_overlap 14 = .ok (.aload_n 0, 1) := by decide +kernel
theorem d_Model_overlap_15 : decode b_Model_overlap 15 = .ok (.getfield 23, 3) := by decide +kernel
theorem d_Model_overlap_18 : decode b_Model_overlap 18 = .ok (.iload_n 3, 1) := by decide +kernel
theorem d_Model_overlap_19 : decode b_Model_overlap 19 = .ok (.iaload, 1) := by decide +kernel
theorem d_Model_overlap_20 : decode b_Model_overlap 20 = .ok (.imul, 1) := by decide +kernel
theorem d_Model_overlap_21 : decode b_Model_overlap 21 = .ok (.if_icmp .ge 81, 3) := by decide +kernel
theorem d_Model_overlap_24 : decode b_Model_overlap 24 = .ok (.aload_n 0, 1) := by decide +kernel
theorem d_Model_overlap_25 : decode b_Model_overlap 25 = .ok (.aload_n 1, 1) := by decide +kernel
theorem d_Model_overlap_26 : decode b_Model_overlap 26 = .ok (.iload_n 2, 1) := by decide +kernel
theorem d_Model_overlap_27 : decode b_Model_overlap 27 = .ok (.iload 5, 2) := by decide +kernel
theorem d_Model_overlap_29 : decode b_Model_overlap 29 = .ok (.aload_n 0, 1) := by decide +kernel
theorem d_Model_overlap_30 : decode b_Model_overlap 30 = .ok (.getfield 23, 3) := by decide +kernel
theorem d_Model_overlap_33 : decode b_Model_overlap 33 = .ok (.iload_n 3, 1) := by decide +kernel
theorem d_Model_overlap_34 : decode b_Model_overlap 34 = .ok (.iaload, 1) := by decide +kernel
theorem d_Model_overlap_35 : decode b_Model_overlap 35 = .ok (.idiv, 1) := by decide +kernel
theorem d_Model_overlap_36 : decode b_Model_overlap 36 = .ok (.invokevirtual 139, 3) := by decide +kernel
theorem d_Model_overlap_39 : decode b_Model_overlap 39 = .ok (.aload_n 0, 1) := by decide +kernel
theorem d_Model_overlap_40 : decode b_Model_overlap 40 = .ok (.getfield 79, 3) := by decide +kernel
theorem d_Model_overlap_43 : decode b_Model_overlap 43 = .ok (.istore 6, 2) := by decide +kernel
theorem d_Model_overlap_45 : decode b_Model_overlap 45 = .ok (.aload_n 0, 1) := by decide +kernel
theorem d_Model_overlap_46 : decode b_Model_overlap 46 = .ok (.getfield 82, 3) := by decide +kernel
theorem d_Model_overlap_49 : decode b_Model_overlap 49 = .ok (.istore 7, 2) := by decide +kernel
theorem d_Model_overlap_51 : decode b_Model_overlap 51 = .ok (.aload_n 0, 1) := by decide +kernel
theorem d_Model_overlap_52 : decode b_Model_overlap 52 = .ok (.aload_n 1, 1) := by decide +kernel
theorem d_Model_overlap_53 : decode b_Model_overlap 53 = .ok (.iload_n 3, 1) := by decide +kernel
theorem d_Model_overlap_54 : decode b_Model_overlap 54 = .ok (.iload 5, 2) := by decide +kernel
theorem d_Model_overlap_56 : decode b_Model_overlap 56 = .ok (.aload_n 0, 1) := by decide +kernel
theorem d_Model_overlap_57 : decode b_Model_overlap 57 = .ok (.getfield 23, 3) := by decide +kernel
theorem d_Model_overlap_60 : decode b_Model_overlap 60 = .ok (.iload_n 3, 1) := by decide +kernel
theorem d_Model_overlap_61 : decode b_Model_overlap 61 = .ok (.iaload, 1) := by decide +kernel
theorem d_Model_overlap_62 : decode b_Model_overlap 62 = .ok (.irem, 1) := by decide +kernel
theorem d_Model_overlap_63 : decode b_Model_overlap 63 = .ok (.invokevirtual 139, 3) := by decide +kernel
theorem d_Model_overlap_66 : decode b_Model_overlap 66 = .ok (.iload 4, 2) := by decide +kernel
theorem d_Model_overlap_68 : decode b_Model_overlap 68 = .ok (.ifCond .ne 21, 3) := by decide +kernel
theorem d_Model_overlap_71 : decode b_Model_overlap 71 = .ok (.aload_n 0, 1) := by decide +kernel
theorem d_Model_overlap_72 : decode b_Model_overlap 72 = .ok (.getfield 79, 3) := by decide +kernel
theorem d_Model_overlap_75 : decode b_Model_overlap 75 = .ok (.iload 6, 2) := by decide +kernel
theorem d_Model_overlap_77 : decode b_Model_overlap 77 = .ok (.if_icmp .ne 16, 3) := by decide +kernel
theorem d_Model_overlap_80 : decode b_Model_overlap 80 = .ok (.aload_n 0, 1) := by decide +kernel
theorem d_Model_overlap_81 : decode b_Model_overlap 81 = .ok (.getfield 82, 3) := by decide +kernel
theorem d_Model_overlap_84 : decode b_Model_overlap 84 = .ok (.iload 7, 2) := by decide +kernel
theorem d_Model_overlap_86 : decode b_Model_overlap 86 = .ok (.if_icmp .ne 7, 3) := by decide +kernel
theorem d_Model_overlap_89 : decode b_Model_overlap 89 = .ok (.iconst 1, 1) := by decide +kernel
theorem d_Model_overlap_90 : decode b_Model_overlap 90 = .ok (.goto 4, 3) := by decide +kernel
theorem d_Model_overlap_93 : decode b_Model_overlap 93 = .ok (.iconst 0, 1) := by decide +kernel
theorem d_Model_overlap_94 : decode b_Model_overlap 94 = .ok (.istore 4, 2) := by decide +kernel
theorem d_Model_overlap_96 : decode b_Model_overlap 96 = .ok (.iinc 5 1, 3) := by decide +kernel
theorem d_Model_overlap_99 : decode b_Model_overlap 99 = .ok (.goto (-93), 3) := by decide +kernel
theorem d_Model_overlap_102 : decode b_Model_overlap 102 = .ok (.iload 4, 2) := by decide +kernel
theorem d_Model_overlap_104 : decode b_Model_overlap 104 = .ok (.ireturn, 1) := by decide +kernel
theorem d_Model_aim_0 : decode b_Model_aim 0 = .ok (.aload_n 0, 1) := by decide +kernel
theorem d_Model_aim_1 : decode b_Model_aim 1 = .ok (.getfield 39, 3) := by decide +kernel
theorem d_Model_aim_4 : decode b_Model_aim 4 = .ok (.iload_n 1, 1) := by decide +kernel
theorem d_Model_aim_5 : decode b_Model_aim 5 = .ok (.iaload, 1) := by decide +kernel
theorem d_Model_aim_6 : decode b_Model_aim 6 = .ok (.istore_n 2, 1) := by decide +kernel
theorem d_Model_aim_7 : decode b_Model_aim 7 = .ok (.aload_n 0, 1) := by decide +kernel
theorem d_Model_aim_8 : decode b_Model_aim 8 = .ok (.getfield 39, 3) := by decide +kernel
theorem d_Model_aim_11 : decode b_Model_aim 11 = .ok (.iload_n 1, 1) := by decide +kernel
theorem d_Model_aim_12 : decode b_Model_aim 12 = .ok (.iconst 1, 1) := by decide +kernel
theorem d_Model_aim_13 : decode b_Model_aim 13 = .ok (.iadd, 1) := by decide +kernel
theorem d_Model_aim_14 : decode b_Model_aim 14 = .ok (.iaload, 1) := by decide +kernel
theorem d_Model_aim_15 : decode b_Model_aim 15 = .ok (.istore_n 3, 1) := by decide +kernel
theorem d_Model_aim_16 : decode b_Model_aim 16 = .ok (.aload_n 0, 1) := by decide +kernel
theorem d_Model_aim_17 : decode b_Model_aim 17 = .ok (.getfield 39, 3) := by decide +kernel
theorem d_Model_aim_20 : decode b_Model_aim 20 = .ok (.iload_n 1, 1) := by decide +kernel
theorem d_Model_aim_21 : decode b_Model_aim 21 = .ok (.iconst 2, 1) := by decide +kernel
theorem d_Model_aim_22 : decode b_Model_aim 22 = .ok (.iadd, 1) := by decide +kernel
theorem d_Model_aim_23 : decode b_Model_aim 23 = .ok (.iaload, 1) := by decide +kernel
theorem d_Model_aim_24 : decode b_Model_aim 24 = .ok (.istore 4, 2) := by decide +kernel
theorem d_Model_aim_26 : decode b_Model_aim 26 = .ok (.aload_n 0, 1) := by decide +kernel
theorem d_Model_aim_27 : decode b_Model_aim 27 = .ok (.getfield 39, 3) := by decide +kernel
theorem d_Model_aim_30 : decode b_Model_aim 30 = .ok (.iload_n 1, 1) := by decide +kernel
theorem d_Model_aim_31 : decode b_Model_aim 31 = .ok (.iconst 3, 1) := by decide +kernel
theorem d_Model_aim_32 : decode b_Model_aim 32 = .ok (.iadd, 1) := by decide +kernel
theorem d_Model_aim_33 : decode b_Model_aim 33 = .ok (.iaload, 1) := by decide +kernel
theorem d_Model_aim_34 : decode b_Model_aim 34 = .ok (.istore 5, 2) := by decide +kernel
theorem d_Model_aim_36 : decode b_Model_aim 36 = .ok (.aload_n 0, 1) := by decide +kernel
theorem d_Model_aim_37 : decode b_Model_aim 37 = .ok (.getfield 45, 3) := by decide +kernel
theorem d_Model_aim_40 : decode b_Model_aim 40 = .ok (.iconst 4, 1) := by decide +kernel
theorem d_Model_aim_41 : decode b_Model_aim 41 = .ok (.iload_n 2, 1) := by decide +kernel
theorem d_Model_aim_42 : decode b_Model_aim 42 = .ok (.imul, 1) := by decide +kernel
theorem d_Model_aim_43 : decode b_Model_aim 43 = .ok (.iconst 2, 1) := by decide +kernel
theorem d_Model_aim_44 : decode b_Model_aim 44 = .ok (.iadd, 1) := by decide +kernel
theorem d_Model_aim_45 : decode b_Model_aim 45 = .ok (.iaload, 1) := by decide +kernel
theorem d_Model_aim_46 : decode b_Model_aim 46 = .ok (.aload_n 0, 1) := by decide +kernel
theorem d_Model_aim_47 : decode b_Model_aim 47 = .ok (.iload_n 2, 1) := by decide +kernel
theorem d_Model_aim_48 : decode b_Model_aim 48 = .ok (.iload_n 3, 1) := by decide +kernel
theorem d_Model_aim_49 : decode b_Model_aim 49 = .ok (.iload 4, 2) := by decide +kernel
theorem d_Model_aim_51 : decode b_Model_aim 51 = .ok (.iload 5, 2) := by decide +kernel
theorem d_Model_aim_53 : decode b_Model_aim 53 = .ok (.invokevirtual 109, 3) := by decide +kernel
theorem d_Model_aim_56 : decode b_Model_aim 56 = .ok (.iadd, 1) := by decide +kernel
theorem d_Model_aim_57 : decode b_Model_aim 57 = .ok (.iconst 3, 1) := by decide +kernel
theorem d_Model_aim_58 : decode b_Model_aim 58 = .ok (.iand, 1) := by decide +kernel
theorem d_Model_aim_59 : decode b_Model_aim 59 = .ok (.istore 6, 2) := by decide +kernel
theorem d_Model_aim_61 : decode b_Model_aim 61 = .ok (.aload_n 0, 1) := by decide +kernel
theorem d_Model_aim_62 : decode b_Model_aim 62 = .ok (.iload_n 2, 1) := by decide +kernel
theorem d_Model_aim_63 : decode b_Model_aim 63 = .ok (.iload_n 3, 1) := by decide +kernel
theorem d_Model_aim_64 : decode b_Model_aim 64 = .ok (.invokevirtual 92, 3) := by decide +kernel
theorem d_Model_aim_67 : decode b_Model_aim 67 = .ok (.aload_n 0, 1) := by decide +kernel
theorem d_Model_aim_68 : decode b_Model_aim 68 = .ok (.aload_n 0, 1) := by decide +kernel
theorem d_Model_aim_69 : decode b_Model_aim 69 = .ok (.getfield 45, 3) := by decide +kernel
theorem d_Model_aim_72 : decode b_Model_aim 72 = .ok (.iconst 4, 1) := by decide +kernel
theorem d_Model_aim_73 : decode b_Model_aim 73 = .ok (.iload_n 2, 1) := by decide +kernel
theorem d_Model_aim_74 : decode b_Model_aim 74 = .ok (.imul, 1) := by decide +kernel
theorem d_Model_aim_75 : decode b_Model_aim 75 = .ok (.iconst 2, 1) := by decide +kernel
theorem d_Model_aim_76 : decode b_Model_aim 76 = .ok (.iadd, 1) := by decide +kernel
theorem d_Model_aim_77 : decode b_Model_aim 77 = .ok (.iaload, 1) := by decide +kernel
theorem d_Model_aim_78 : decode b_Model_aim 78 = .ok (.invokevirtual 143, 3) := by decide +kernel
theorem d_Model_aim_81 : decode b_Model_aim 81 = .ok (.aload_n 0, 1) := by decide +kernel
theorem d_Model_aim_82 : decode b_Model_aim 82 = .ok (.getfield 79, 3) := by decide +kernel
theorem d_Model_aim_85 : decode b_Model_aim 85 = .ok (.aload_n 0, 1) := by decide +kernel
theorem d_Model_aim_86 : decode b_Model_aim 86 = .ok (.getfield 45, 3) := by decide +kernel
theorem d_Model_aim_89 : decode b_Model_aim 89 = .ok (.iconst 4, 1) := by decide +kernel
theorem d_Model_aim_90 : decode b_Model_aim 90 = .ok (.iload_n 2, 1) := by decide +kernel
theorem d_Model_aim_91 : decode b_Model_aim 91 = .ok (.imul, 1) := by decide +kernel
theorem d_Model_aim_92 : decode b_Model_aim 92 = .ok (.iaload, 1) := by decide +kernel
theorem d_Model_aim_93 : decode b_Model_aim 93 = .ok (.iadd, 1) := by decide +kernel
theorem d_Model_aim_94 : decode b_Model_aim 94 = .ok (.istore 7, 2) := by decide +kernel
theorem d_Model_aim_96 : decode b_Model_aim 96 = .ok (.aload_n 0, 1) := by decide +kernel
theorem d_Model_aim_97 : decode b_Model_aim 97 = .ok (.getfield 82, 3) := by decide +kernel
theorem d_Model_aim_100 : decode b_Model_aim 100 = .ok (.aload_n 0, 1) := by decide +kernel
theorem d_Model_aim_101 : decode b_Model_aim 101 = .ok (.getfield 45, 3) := by decide +kernel
theorem d_Model_aim_104 : decode b_Model_aim 104 = .ok (.iconst 4, 1) := by decide +kernel
theorem d_Model_aim_105 : decode b_Model_aim 105 = .ok (.iload_n 2, 1) := by decide +kernel
theorem d_Model_aim_106 : decode b_Model_aim 106 = .ok (.imul, 1) := by decide +kernel
theorem d_Model_aim_107 : decode b_Model_aim 107 = .ok (.iconst 1, 1) := by decide +kernel
theorem d_Model_aim_108 : decode b_Model_aim 108 = .ok (.iadd, 1) := by decide +kernel
theorem d_Model_aim_109 : decode b_Model_aim 109 = .ok (.iaload, 1) := by decide +kernel
theorem d_Model_aim_110 : decode b_Model_aim 110 = .ok (.iadd, 1) := by decide +kernel
theorem d_Model_aim_111 : decode b_Model_aim 111 = .ok (.istore 8, 2) := by decide +kernel
theorem d_Model_aim_113 : decode b_Model_aim 113 = .ok (.aload_n 0, 1) := by decide +kernel
theorem d_Model_aim_114 : decode b_Model_aim 114 = .ok (.iload 4, 2) := by decide +kernel
theorem d_Model_aim_116 : decode b_Model_aim 116 = .ok (.iload 5, 2) := by decide +kernel
theorem d_Model_aim_118 : decode b_Model_aim 118 = .ok (.iconst 1, 1) := by decide +kernel
theorem d_Model_aim_119 : decode b_Model_aim 119 = .ok (.iadd, 1) := by decide +kernel
theorem d_Model_aim_120 : decode b_Model_aim 120 = .ok (.invokevirtual 92, 3) := by decide +kernel
theorem d_Model_aim_123 : decode b_Model_aim 123 = .ok (.aload_n 0, 1) := by decide +kernel
theorem d_Model_aim_124 : decode b_Model_aim 124 = .ok (.iload 6, 2) := by decide +kernel
theorem d_Model_aim_126 : decode b_Model_aim 126 = .ok (.invokevirtual 143, 3) := by decide +kernel
theorem d_Model_aim_129 : decode b_Model_aim 129 = .ok (.aload_n 0, 1) := by decide +kernel
theorem d_Model_aim_130 : decode b_Model_aim 130 = .ok (.getfield 51, 3) := by decide +kernel
theorem d_Model_aim_133 : decode b_Model_aim 133 = .ok (.iconst 4, 1) := by decide +kernel
theorem d_Model_aim_134 : decode b_Model_aim 134 = .ok (.iload 4, 2) := by decide +kernel
theorem d_Model_aim_136 : decode b_Model_aim 136 = .ok (.imul, 1) := by decide +kernel
theorem d_Model_aim_137 : decode b_Model_aim 137 = .ok (.iload 7, 2) := by decide +kernel
theorem d_Model_aim_139 : decode b_Model_aim 139 = .ok (.aload_n 0, 1) := by decide +kernel
theorem d_Model_aim_140 : decode b_Model_aim 140 = .ok (.getfield 79, 3) := by decide +kernel
theorem d_Model_aim_143 : decode b_Model_aim 143 = .ok (.isub, 1) := by decide +kernel
theorem d_Model_aim_144 : decode b_Model_aim 144 = .ok (.iastore, 1) := by decide +kernel
theorem d_Model_aim_145 : decode b_Model_aim 145 = .ok (.aload_n 0, 1) := by decide +kernel
theorem d_Model_aim_146 : decode b_Model_aim 146 = .ok (.getfield 51, 3) := by decide +kernel
theorem d_Model_aim_149 : decode b_Model_aim 149 = .ok (.iconst 4, 1) := by decide +kernel
theorem d_Model_aim_150 : decode b_Model_aim 150 = .ok (.iload 4, 2) := by decide +kernel
theorem d_Model_aim_152 : decode b_Model_aim 152 = .ok (.imul, 1) := by decide +kernel
theorem d_Model_aim_153 : decode b_Model_aim 153 = .ok (.iconst 1, 1) := by decide +kernel
theorem d_Model_aim_154 : decode b_Model_aim 154 = .ok (.iadd, 1) := by decide +kernel
theorem d_Model_aim_155 : decode b_Model_aim 155 = .ok (.iload 8, 2) := by decide +kernel
theorem d_Model_aim_157 : decode b_Model_aim 157 = .ok (.aload_n 0, 1) := by decide +kernel
theorem d_Model_aim_158 : decode b_Model_aim 158 = .ok (.getfield 82, 3) := by decide +kernel
theorem d_Model_aim_161 : decode b_Model_aim 161 = .ok (.isub, 1) := by decide +kernel
theorem d_Model_aim_162 : decode b_Model_aim 162 = .ok (.iastore, 1) := by decide +kernel
theorem d_Model_aim_163 : decode b_Model_aim 163 = .ok (.aload_n 0, 1) := by decide +kernel
theorem d_Model_aim_164 : decode b_Model_aim 164 = .ok (.getfield 51, 3) := by decide +kernel
theorem d_Model_aim_167 : decode b_Model_aim 167 = .ok (.iconst 4, 1) := by decide +kernel
theorem d_Model_aim_168 : decode b_Model_aim 168 = .ok (.iload 4, 2) := by decide +kernel
theorem d_Model_aim_170 : decode b_Model_aim 170 = .ok (.imul, 1) := by decide +kernel
theorem d_Model_aim_171 : decode b_Model_aim 171 = .ok (.iconst 2, 1) := by decide +kernel
theorem d_Model_aim_172 : decode b_Model_aim 172 = .ok (.iadd, 1) := by decide +kernel
theorem d_Model_aim_173 : decode b_Model_aim 173 = .ok (.iload 6, 2) := by decide +kernel
theorem d_Model_aim_175 : decode b_Model_aim 175 = .ok (.iastore, 1) := by decide +kernel
theorem d_Model_aim_176 : decode b_Model_aim 176 = .ok (.return_, 1) := by decide +kernel
