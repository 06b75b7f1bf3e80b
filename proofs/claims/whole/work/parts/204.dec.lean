theorem d_X_holes_0 : decode b_X_holes 0 = .ok (.aload_n 0, 1) := by decide +kernel
theorem d_X_holes_1 : decode b_X_holes 1 = .ok (.iload_n 1, 1) := by decide +kernel
theorem d_X_holes_2 : decode b_X_holes 2 = .ok (.invokevirtual 64, 3) := by decide +kernel
theorem d_X_holes_5 : decode b_X_holes 5 = .ok (.getfield 68, 3) := by decide +kernel
theorem d_X_holes_8 : decode b_X_holes 8 = .ok (.ifCond .ne 5, 3) := by decide +kernel
theorem d_X_holes_11 : decode b_X_holes 11 = .ok (.iconst 0, 1) := by decide +kernel
theorem d_X_holes_12 : decode b_X_holes 12 = .ok (.ireturn, 1) := by decide +kernel
theorem d_X_holes_13 : decode b_X_holes 13 = .ok (.aload_n 0, 1) := by decide +kernel
theorem d_X_holes_14 : decode b_X_holes 14 = .ok (.getfield 36, 3) := by decide +kernel
theorem d_X_holes_17 : decode b_X_holes 17 = .ok (.aload_n 0, 1) := by decide +kernel
theorem d_X_holes_18 : decode b_X_holes 18 = .ok (.getfield 11, 3) := by decide +kernel
theorem d_X_holes_21 : decode b_X_holes 21 = .ok (.aload_n 0, 1) := by decide +kernel
theorem d_X_holes_22 : decode b_X_holes 22 = .ok (.getfield 18, 3) := by decide +kernel
theorem d_X_holes_25 : decode b_X_holes 25 = .ok (.aload_n 0, 1) := by decide +kernel
theorem d_X_holes_26 : decode b_X_holes 26 = .ok (.getfield 18, 3) := by decide +kernel
theorem d_X_holes_29 : decode b_X_holes 29 = .ok (.getfield 166, 3) := by decide +kernel
theorem d_X_holes_32 : decode b_X_holes 32 = .ok (.iload_n 1, 1) := by decide +kernel
theorem d_X_holes_33 : decode b_X_holes 33 = .ok (.iaload, 1) := by decide +kernel
theorem d_X_holes_34 : decode b_X_holes 34 = .ok (.invokevirtual 195, 3) := by decide +kernel
theorem d_X_holes_37 : decode b_X_holes 37 = .ok (.aload_n 0, 1) := by decide +kernel
theorem d_X_holes_38 : decode b_X_holes 38 = .ok (.getfield 36, 3) := by decide +kernel
theorem d_X_holes_41 : decode b_X_holes 41 = .ok (.invokevirtual 199, 3) := by decide +kernel
theorem d_X_holes_44 : decode b_X_holes 44 = .ok (.ireturn, 1) := by decide +kernel
theorem d_X_count_0 : decode b_X_count 0 = .ok (.iload_n 1, 1) := by decide +kernel
theorem d_X_count_1 : decode b_X_count 1 = .ok (.tableswitch 54 0 3 #[31, 36, 41, 49], 31) := by decide +kernel
theorem d_X_count_32 : decode b_X_count 32 = .ok (.aload_n 0, 1) := by decide +kernel
theorem d_X_count_33 : decode b_X_count 33 = .ok (.getfield 40, 3) := by decide +kernel
theorem d_X_count_36 : decode b_X_count 36 = .ok (.ireturn, 1) := by decide +kernel
theorem d_X_count_37 : decode b_X_count 37 = .ok (.aload_n 0, 1) := by decide +kernel
theorem d_X_count_38 : decode b_X_count 38 = .ok (.getfield 44, 3) := by decide +kernel
theorem d_X_count_41 : decode b_X_count 41 = .ok (.ireturn, 1) := by decide +kernel
theorem d_X_count_42 : decode b_X_count 42 = .ok (.aload_n 0, 1) := by decide +kernel
theorem d_X_count_43 : decode b_X_count 43 = .ok (.getfield 29, 3) := by decide +kernel
theorem d_X_count_46 : decode b_X_count 46 = .ok (.getfield 202, 3) := by decide +kernel
theorem d_X_count_49 : decode b_X_count 49 = .ok (.ireturn, 1) := by decide +kernel
theorem d_X_count_50 : decode b_X_count 50 = .ok (.aload_n 0, 1) := by decide +kernel
theorem d_X_count_51 : decode b_X_count 51 = .ok (.getfield 47, 3) := by decide +kernel
theorem d_X_count_54 : decode b_X_count 54 = .ok (.ireturn, 1) := by decide +kernel
theorem d_X_count_55 : decode b_X_count 55 = .ok (.new 86, 3) := by decide +kernel
theorem d_X_count_58 : decode b_X_count 58 = .ok (.dup, 1) := by decide +kernel
theorem d_X_count_59 : decode b_X_count 59 = .ok (.ldc 203, 2) := by decide +kernel
theorem d_X_count_61 : decode b_X_count 61 = .ok (.invokespecial 90, 3) := by decide +kernel
theorem d_X_count_64 : decode b_X_count 64 = .ok (.athrow, 1) := by decide +kernel
theorem d_Model_thrown_0 : decode b_Model_thrown 0 = .ok (.aload_n 0, 1) := by decide +kernel
theorem d_Model_thrown_1 : decode b_Model_thrown 1 = .ok (.getfield 57, 3) := by decide +kernel
theorem d_Model_thrown_4 : decode b_Model_thrown 4 = .ok (.ireturn, 1) := by decide +kernel
theorem d_Model_throwing_0 : decode b_Model_throwing 0 = .ok (.aload_n 0, 1) := by decide +kernel
theorem d_Model_throwing_1 : decode b_Model_throwing 1 = .ok (.iload_n 1, 1) := by decide +kernel
theorem d_Model_throwing_2 : decode b_Model_throwing 2 = .ok (.ifCond .eq 7, 3) := by decide +kernel
theorem d_Model_throwing_5 : decode b_Model_throwing 5 = .ok (.iconst 1, 1) := by decide +kernel
theorem d_Model_throwing_6 : decode b_Model_throwing 6 = .ok (.goto 20, 3) := by decide +kernel
theorem d_Model_throwing_9 : decode b_Model_throwing 9 = .ok (.iload_n 2, 1) := by decide +kernel
theorem d_Model_throwing_10 : decode b_Model_throwing 10 = .ok (.ifCond .eq 7, 3) := by decide +kernel
theorem d_Model_throwing_13 : decode b_Model_throwing 13 = .ok (.iconst 2, 1) := by decide +kernel
theorem d_Model_throwing_14 : decode b_Model_throwing 14 = .ok (.goto 12, 3) := by decide +kernel
theorem d_Model_throwing_17 : decode b_Model_throwing 17 = .ok (.iload_n 3, 1) := by decide +kernel
theorem d_Model_throwing_18 : decode b_Model_throwing 18 = .ok (.ifCond .eq 7, 3) := by decide +kernel
theorem d_Model_throwing_21 : decode b_Model_throwing 21 = .ok (.iconst 3, 1) := by decide +kernel
theorem d_Model_throwing_22 : decode b_Model_throwing 22 = .ok (.goto 4, 3) := by decide +kernel
theorem d_Model_throwing_25 : decode b_Model_throwing 25 = .ok (.iconst 0, 1) := by decide +kernel
theorem d_Model_throwing_26 : decode b_Model_throwing 26 = .ok (.putfield 57, 3) := by decide +kernel
theorem d_Model_throwing_29 : decode b_Model_throwing 29 = .ok (.aload_n 0, 1) := by decide +kernel
theorem d_Model_throwing_30 : decode b_Model_throwing 30 = .ok (.getfield 57, 3) := by decide +kernel
theorem d_Model_throwing_33 : decode b_Model_throwing 33 = .ok (.ifCond .le 7, 3) := by decide +kernel
theorem d_Model_throwing_36 : decode b_Model_throwing 36 = .ok (.iconst 1, 1) := by decide +kernel
theorem d_Model_throwing_37 : decode b_Model_throwing 37 = .ok (.goto 4, 3) := by decide +kernel
theorem d_Model_throwing_40 : decode b_Model_throwing 40 = .ok (.iconst 0, 1) := by decide +kernel
theorem d_Model_throwing_41 : decode b_Model_throwing 41 = .ok (.ireturn, 1) := by decide +kernel
theorem d_Model_in_0 : decode b_Model_in 0 = .ok (.iload_n 0, 1) := by decide +kernel
theorem d_Model_in_1 : decode b_Model_in 1 = .ok (.iload_n 1, 1) := by decide +kernel
theorem d_Model_in_2 : decode b_Model_in 2 = .ok (.if_icmp .lt 12, 3) := by decide +kernel
theorem d_Model_in_5 : decode b_Model_in 5 = .ok (.iload_n 0, 1) := by decide +kernel
theorem d_Model_in_6 : decode b_Model_in 6 = .ok (.iload_n 2, 1) := by decide +kernel
theorem d_Model_in_7 : decode b_Model_in 7 = .ok (.if_icmp .gt 7, 3) := by decide +kernel
theorem d_Model_in_10 : decode b_Model_in 10 = .ok (.iconst 1, 1) := by decide +kernel
theorem d_Model_in_11 : decode b_Model_in 11 = .ok (.goto 4, 3) := by decide +kernel
theorem d_Model_in_14 : decode b_Model_in 14 = .ok (.iconst 0, 1) := by decide +kernel
theorem d_Model_in_15 : decode b_Model_in 15 = .ok (.ireturn, 1) := by decide +kernel
theorem d_Model_isSherd_0 : decode b_Model_isSherd 0 = .ok (.iload_n 1, 1) := by decide +kernel
theorem d_Model_isSherd_1 : decode b_Model_isSherd 1 = .ok (.iconst 0, 1) := by decide +kernel
theorem d_Model_isSherd_2 : decode b_Model_isSherd 2 = .ok (.aload_n 0, 1) := by decide +kernel
theorem d_Model_isSherd_3 : decode b_Model_isSherd 3 = .ok (.getfield 60, 3) := by decide +kernel
theorem d_Model_isSherd_6 : decode b_Model_isSherd 6 = .ok (.iconst 1, 1) := by decide +kernel
theorem d_Model_isSherd_7 : decode b_Model_isSherd 7 = .ok (.isub, 1) := by decide +kernel
theorem d_Model_isSherd_8 : decode b_Model_isSherd 8 = .ok (.invokestatic 63, 3) := by decide +kernel
theorem d_Model_isSherd_11 : decode b_Model_isSherd 11 = .ok (.ireturn, 1) := by decide +kernel
theorem d_Model_sherd_0 : decode b_Model_sherd 0 = .ok (.aload_n 0, 1) := by decide +kernel
theorem d_Model_sherd_1 : decode b_Model_sherd 1 = .ok (.aload_n 0, 1) := by decide +kernel
theorem d_Model_sherd_2 : decode b_Model_sherd 2 = .ok (.getfield 60, 3) := by decide +kernel
theorem d_Model_sherd_5 : decode b_Model_sherd 5 = .ok (.bipush 6, 2) := by decide +kernel
theorem d_Model_sherd_7 : decode b_Model_sherd 7 = .ok (.if_icmp .ne 7, 3) := by decide +kernel
theorem d_Model_sherd_10 : decode b_Model_sherd 10 = .ok (.iconst 1, 1) := by decide +kernel
theorem d_Model_sherd_11 : decode b_Model_sherd 11 = .ok (.goto 4, 3) := by decide +kernel
theorem d_Model_sherd_14 : decode b_Model_sherd 14 = .ok (.iconst 0, 1) := by decide +kernel
theorem d_Model_sherd_15 : decode b_Model_sherd 15 = .ok (.iconst 0, 1) := by decide +kernel
theorem d_Model_sherd_16 : decode b_Model_sherd 16 = .ok (.iconst 0, 1) := by decide +kernel
theorem d_Model_sherd_17 : decode b_Model_sherd 17 = .ok (.invokevirtual 67, 3) := by decide +kernel
theorem d_Model_sherd_20 : decode b_Model_sherd 20 = .ok (.ifCond .eq 5, 3) := by decide +kernel
theorem d_Model_sherd_23 : decode b_Model_sherd 23 = .ok (.iconst 0, 1) := by decide +kernel
theorem d_Model_sherd_24 : decode b_Model_sherd 24 = .ok (.ireturn, 1) := by decide +kernel
theorem d_Model_sherd_25 : decode b_Model_sherd 25 = .ok (.aload_n 0, 1) := by decide +kernel
theorem d_Model_sherd_26 : decode b_Model_sherd 26 = .ok (.dup, 1) := by decide +kernel
theorem d_Model_sherd_27 : decode b_Model_sherd 27 = .ok (.getfield 60, 3) := by decide +kernel
theorem d_Model_sherd_30 : decode b_Model_sherd 30 = .ok (.iconst 1, 1) := by decide +kernel
theorem d_Model_sherd_31 : decode b_Model_sherd 31 = .ok (.iadd, 1) := by decide +kernel
theorem d_Model_sherd_32 : decode b_Model_sherd 32 = .ok (.putfield 60, 3) := by decide +kernel
theorem d_Model_sherd_35 : decode b_Model_sherd 35 = .ok (.aload_n 0, 1) := by decide +kernel
theorem d_Model_sherd_36 : decode b_Model_sherd 36 = .ok (.getfield 60, 3) := by decide +kernel
theorem d_Model_sherd_39 : decode b_Model_sherd 39 = .ok (.iconst 1, 1) := by decide +kernel
theorem d_Model_sherd_40 : decode b_Model_sherd 40 = .ok (.isub, 1) := by decide +kernel
theorem d_Model_sherd_41 : decode b_Model_sherd 41 = .ok (.ireturn, 1) := by decide +kernel
theorem d_Model_step_0 : decode b_Model_step 0 = .ok (.aload_n 0, 1) := by decide +kernel
theorem d_Model_step_1 : decode b_Model_step 1 = .ok (.iload_n 1, 1) := by decide +kernel
theorem d_Model_step_2 : decode b_Model_step 2 = .ok (.invokevirtual 71, 3) := by decide +kernel
theorem d_Model_step_5 : decode b_Model_step 5 = .ok (.ifCond .ne 7, 3) := by decide +kernel
theorem d_Model_step_8 : decode b_Model_step 8 = .ok (.iconst 1, 1) := by decide +kernel
theorem d_Model_step_9 : decode b_Model_step 9 = .ok (.goto 4, 3) := by decide +kernel
theorem d_Model_step_12 : decode b_Model_step 12 = .ok (.iconst 0, 1) := by decide +kernel
theorem d_Model_step_13 : decode b_Model_step 13 = .ok (.istore_n 3, 1) := by decide +kernel
theorem d_Model_step_14 : decode b_Model_step 14 = .ok (.aload_n 0, 1) := by decide +kernel
theorem d_Model_step_15 : decode b_Model_step 15 = .ok (.iload_n 3, 1) := by decide +kernel
theorem d_Model_step_16 : decode b_Model_step 16 = .ok (.iload_n 3, 1) := by decide +kernel
theorem d_Model_step_17 : decode b_Model_step 17 = .ok (.ifCond .ne 27, 3) := by decide +kernel
theorem d_Model_step_20 : decode b_Model_step 20 = .ok (.aload_n 0, 1) := by decide +kernel
theorem d_Model_step_21 : decode b_Model_step 21 = .ok (.getfield 19, 3) := by decide +kernel
theorem d_Model_step_24 : decode b_Model_step 24 = .ok (.iload_n 1, 1) := by decide +kernel
theorem d_Model_step_25 : decode b_Model_step 25 = .ok (.baload, 1) := by decide +kernel
theorem d_Model_step_26 : decode b_Model_step 26 = .ok (.ifCond .ne 14, 3) := by decide +kernel
theorem d_Model_step_29 : decode b_Model_step 29 = .ok (.aload_n 0, 1) := by decide +kernel
theorem d_Model_step_30 : decode b_Model_step 30 = .ok (.getfield 7, 3) := by decide +kernel
theorem d_Model_step_33 : decode b_Model_step 33 = .ok (.iload_n 1, 1) := by decide +kernel
theorem d_Model_step_34 : decode b_Model_step 34 = .ok (.iaload, 1) := by decide +kernel
theorem d_Model_step_35 : decode b_Model_step 35 = .ok (.bipush 28, 2) := by decide +kernel
theorem d_Model_step_37 : decode b_Model_step 37 = .ok (.if_icmp .ne 7, 3) := by decide +kernel
theorem d_Model_step_40 : decode b_Model_step 40 = .ok (.iconst 1, 1) := by decide +kernel
theorem d_Model_step_41 : decode b_Model_step 41 = .ok (.goto 4, 3) := by decide +kernel
theorem d_Model_step_44 : decode b_Model_step 44 = .ok (.iconst 0, 1) := by decide +kernel
theorem d_Model_step_45 : decode b_Model_step 45 = .ok (.iload_n 2, 1) := by decide +kernel
theorem d_Model_step_46 : decode b_Model_step 46 = .ok (.iconst 0, 1) := by decide +kernel
theorem d_Model_step_47 : decode b_Model_step 47 = .ok (.iconst 3, 1) := by decide +kernel
theorem d_Model_step_48 : decode b_Model_step 48 = .ok (.invokestatic 63, 3) := by decide +kernel
theorem d_Model_step_51 : decode b_Model_step 51 = .ok (.ifCond .ne 7, 3) := by decide +kernel
theorem d_Model_step_54 : decode b_Model_step 54 = .ok (.iconst 1, 1) := by decide +kernel
theorem d_Model_step_55 : decode b_Model_step 55 = .ok (.goto 4, 3) := by decide +kernel
theorem d_Model_step_58 : decode b_Model_step 58 = .ok (.iconst 0, 1) := by decide +kernel
theorem d_Model_step_59 : decode b_Model_step 59 = .ok (.invokevirtual 67, 3) := by decide +kernel
theorem d_Model_step_62 : decode b_Model_step 62 = .ok (.ifCond .eq 5, 3) := by decide +kernel
theorem d_Model_step_65 : decode b_Model_step 65 = .ok (.iconst 0, 1) := by decide +kernel
theorem d_Model_step_66 : decode b_Model_step 66 = .ok (.ireturn, 1) := by decide +kernel
theorem d_Model_step_67 : decode b_Model_step 67 = .ok (.aload_n 0, 1) := by decide +kernel
theorem d_Model_step_68 : decode b_Model_step 68 = .ok (.getfield 13, 3) := by decide +kernel
theorem d_Model_step_71 : decode b_Model_step 71 = .ok (.bipush 28, 2) := by decide +kernel
theorem d_Model_step_73 : decode b_Model_step 73 = .ok (.iload_n 1, 1) := by decide +kernel
theorem d_Model_step_74 : decode b_Model_step 74 = .ok (.imul, 1) := by decide +kernel
theorem d_Model_step_75 : decode b_Model_step 75 = .ok (.aload_n 0, 1) := by decide +kernel
theorem d_Model_step_76 : decode b_Model_step 76 = .ok (.getfield 7, 3) := by decide +kernel
theorem d_Model_step_79 : decode b_Model_step 79 = .ok (.iload_n 1, 1) := by decide +kernel
theorem d_Model_step_80 : decode b_Model_step 80 = .ok (.iaload, 1) := by decide +kernel
theorem d_Model_step_81 : decode b_Model_step 81 = .ok (.iadd, 1) := by decide +kernel
theorem d_Model_step_82 : decode b_Model_step 82 = .ok (.iload_n 2, 1) := by decide +kernel
theorem d_Model_step_83 : decode b_Model_step 83 = .ok (.iastore, 1) := by decide +kernel
theorem d_Model_step_84 : decode b_Model_step 84 = .ok (.aload_n 0, 1) := by decide +kernel
theorem d_Model_step_85 : decode b_Model_step 85 = .ok (.getfield 7, 3) := by decide +kernel
theorem d_Model_step_88 : decode b_Model_step 88 = .ok (.iload_n 1, 1) := by decide +kernel
theorem d_Model_step_89 : decode b_Model_step 89 = .ok (.dup2, 1) := by decide +kernel
theorem d_Model_step_90 : decode b_Model_step 90 = .ok (.iaload, 1) := by decide +kernel
theorem d_Model_step_91 : decode b_Model_step 91 = .ok (.iconst 1, 1) := by decide +kernel
theorem d_Model_step_92 : decode b_Model_step 92 = .ok (.iadd, 1) := by decide +kernel
theorem d_Model_step_93 : decode b_Model_step 93 = .ok (.iastore, 1) := by decide +kernel
theorem d_Model_step_94 : decode b_Model_step 94 = .ok (.aload_n 0, 1) := by decide +kernel
theorem d_Model_step_95 : decode b_Model_step 95 = .ok (.getfield 7, 3) := by decide +kernel
theorem d_Model_step_98 : decode b_Model_step 98 = .ok (.iload_n 1, 1) := by decide +kernel
theorem d_Model_step_99 : decode b_Model_step 99 = .ok (.iaload, 1) := by decide +kernel
theorem d_Model_step_100 : decode b_Model_step 100 = .ok (.ireturn, 1) := by decide +kernel
theorem d_Model_height_0 : decode b_Model_height 0 = .ok (.aload_n 0, 1) := by decide +kernel
theorem d_Model_height_1 : decode b_Model_height 1 = .ok (.iload_n 1, 1) := by decide +kernel
theorem d_Model_height_2 : decode b_Model_height 2 = .ok (.invokevirtual 71, 3) := by decide +kernel
theorem d_Model_height_5 : decode b_Model_height 5 = .ok (.ifCond .eq 19, 3) := by decide +kernel
theorem d_Model_height_8 : decode b_Model_height 8 = .ok (.iload_n 2, 1) := by decide +kernel
theorem d_Model_height_9 : decode b_Model_height 9 = .ok (.iconst 0, 1) := by decide +kernel
theorem d_Model_height_10 : decode b_Model_height 10 = .ok (.aload_n 0, 1) := by decide +kernel
theorem d_Model_height_11 : decode b_Model_height 11 = .ok (.getfield 7, 3) := by decide +kernel
theorem d_Model_height_14 : decode b_Model_height 14 = .ok (.iload_n 1, 1) := by decide +kernel
theorem d_Model_height_15 : decode b_Model_height 15 = .ok (.iaload, 1) := by decide +kernel
theorem d_Model_height_16 : decode b_Model_height 16 = .ok (.iconst 1, 1) := by decide +kernel
theorem d_Model_height_17 : decode b_Model_height 17 = .ok (.isub, 1) := by decide +kernel
theorem d_Model_height_18 : decode b_Model_height 18 = .ok (.invokestatic 63, 3) := by decide +kernel
theorem d_Model_height_21 : decode b_Model_height 21 = .ok (.ifCond .ne 7, 3) := by decide +kernel
theorem d_Model_height_24 : decode b_Model_height 24 = .ok (.iconst 1, 1) := by decide +kernel
theorem d_Model_height_25 : decode b_Model_height 25 = .ok (.goto 4, 3) := by decide +kernel
theorem d_Model_height_28 : decode b_Model_height 28 = .ok (.iconst 0, 1) := by decide +kernel
theorem d_Model_height_29 : decode b_Model_height 29 = .ok (.istore 4, 2) := by decide +kernel
theorem d_Model_height_31 : decode b_Model_height 31 = .ok (.aload_n 0, 1) := by decide +kernel
theorem d_Model_height_32 : decode b_Model_height 32 = .ok (.iload 4, 2) := by decide +kernel
theorem d_Model_height_34 : decode b_Model_height 34 = .ok (.iload_n 3, 1) := by decide +kernel
theorem d_Model_height_35 : decode b_Model_height 35 = .ok (.iconst 0, 1) := by decide +kernel
theorem d_Model_height_36 : decode b_Model_height 36 = .ok (.bipush 99, 2) := by decide +kernel
theorem d_Model_height_38 : decode b_Model_height 38 = .ok (.invokestatic 63, 3) := by decide +kernel
theorem d_Model_height_41 : decode b_Model_height 41 = .ok (.ifCond .ne 7, 3) := by decide +kernel
theorem d_Model_height_44 : decode b_Model_height 44 = .ok (.iconst 1, 1) := by decide +kernel
theorem d_Model_height_45 : decode b_Model_height 45 = .ok (.goto 4, 3) := by decide +kernel
theorem d_Model_height_48 : decode b_Model_height 48 = .ok (.iconst 0, 1) := by decide +kernel
theorem d_Model_height_49 : decode b_Model_height 49 = .ok (.iconst 0, 1) := by decide +kernel
theorem d_Model_height_50 : decode b_Model_height 50 = .ok (.invokevirtual 67, 3) := by decide +kernel
theorem d_Model_height_53 : decode b_Model_height 53 = .ok (.ifCond .eq 5, 3) := by decide +kernel
theorem d_Model_height_56 : decode b_Model_height 56 = .ok (.iconst 0, 1) := by decide +kernel
theorem d_Model_height_57 : decode b_Model_height 57 = .ok (.ireturn, 1) := by decide +kernel
theorem d_Model_height_58 : decode b_Model_height 58 = .ok (.aload_n 0, 1) := by decide +kernel
theorem d_Model_height_59 : decode b_Model_height 59 = .ok (.getfield 16, 3) := by decide +kernel
theorem d_Model_height_62 : decode b_Model_height 62 = .ok (.bipush 28, 2) := by decide +kernel
theorem d_Model_height_64 : decode b_Model_height 64 = .ok (.iload_n 1, 1) := by decide +kernel
theorem d_Model_height_65 : decode b_Model_height 65 = .ok (.imul, 1) := by decide +kernel
theorem d_Model_height_66 : decode b_Model_height 66 = .ok (.iload_n 2, 1) := by decide +kernel
theorem d_Model_height_67 : decode b_Model_height 67 = .ok (.iadd, 1) := by decide +kernel
theorem d_Model_height_68 : decode b_Model_height 68 = .ok (.iaload, 1) := by decide +kernel
theorem d_Model_height_69 : decode b_Model_height 69 = .ok (.istore 5, 2) := by decide +kernel
theorem d_Model_height_71 : decode b_Model_height 71 = .ok (.aload_n 0, 1) := by decide +kernel
theorem d_Model_height_72 : decode b_Model_height 72 = .ok (.getfield 16, 3) := by decide +kernel
theorem d_Model_height_75 : decode b_Model_height 75 = .ok (.bipush 28, 2) := by decide +kernel
theorem d_Model_height_77 : decode b_Model_height 77 = .ok (.iload_n 1, 1) := by decide +kernel
theorem d_Model_height_78 : decode b_Model_height 78 = .ok (.imul, 1) := by decide +kernel
theorem d_Model_height_79 : decode b_Model_height 79 = .ok (.iload_n 2, 1) := by decide +kernel
theorem d_Model_height_80 : decode b_Model_height 80 = .ok (.iadd, 1) := by decide +kernel
theorem d_Model_height_81 : decode b_Model_height 81 = .ok (.iload_n 3, 1) := by decide +kernel
theorem d_Model_height_82 : decode b_Model_height 82 = .ok (.iastore, 1) := by decide +kernel
theorem d_Model_height_83 : decode b_Model_height 83 = .ok (.aload_n 0, 1) := by decide +kernel
theorem d_Model_height_84 : decode b_Model_height 84 = .ok (.iconst 0, 1) := by decide +kernel
theorem d_Model_height_85 : decode b_Model_height 85 = .ok (.putfield 75, 3) := by decide +kernel
theorem d_Model_height_88 : decode b_Model_height 88 = .ok (.iload 5, 2) := by decide +kernel
theorem d_Model_height_90 : decode b_Model_height 90 = .ok (.ireturn, 1) := by decide +kernel
theorem d_Model_across_0 : decode b_Model_across 0 = .ok (.iload_n 0, 1) := by decide +kernel
theorem d_Model_across_1 : decode b_Model_across 1 = .ok (.ifCond .ne 7, 3) := by decide +kernel
theorem d_Model_across_4 : decode b_Model_across 4 = .ok (.iconst 1, 1) := by decide +kernel
theorem d_Model_across_5 : decode b_Model_across 5 = .ok (.goto 13, 3) := by decide +kernel
theorem d_Model_across_8 : decode b_Model_across 8 = .ok (.iload_n 0, 1) := by decide +kernel
theorem d_Model_across_9 : decode b_Model_across 9 = .ok (.iconst 2, 1) := by decide +kernel
theorem d_Model_across_10 : decode b_Model_across 10 = .ok (.if_icmp .ne 7, 3) := by decide +kernel
theorem d_Model_across_13 : decode b_Model_across 13 = .ok (.iconst (-1), 1) := by decide +kernel
theorem d_Model_across_14 : decode b_Model_across 14 = .ok (.goto 4, 3) := by decide +kernel
theorem d_Model_across_17 : decode b_Model_across 17 = .ok (.iconst 0, 1) := by decide +kernel
theorem d_Model_across_18 : decode b_Model_across 18 = .ok (.ireturn, 1) := by decide +kernel
theorem d_Model_down_0 : decode b_Model_down 0 = .ok (.iload_n 0, 1) := by decide +kernel
theorem d_Model_down_1 : decode b_Model_down 1 = .ok (.iconst 1, 1) := by decide +kernel
theorem d_Model_down_2 : decode b_Model_down 2 = .ok (.if_icmp .ne 7, 3) := by decide +kernel
theorem d_Model_down_5 : decode b_Model_down 5 = .ok (.iconst 1, 1) := by decide +kernel
theorem d_Model_down_6 : decode b_Model_down 6 = .ok (.goto 13, 3) := by decide +kernel
theorem d_Model_down_9 : decode b_Model_down 9 = .ok (.iload_n 0, 1) := by decide +kernel
theorem d_Model_down_10 : decode b_Model_down 10 = .ok (.iconst 3, 1) := by decide +kernel
theorem d_Model_down_11 : decode b_Model_down 11 = .ok (.if_icmp .ne 7, 3) := by decide +kernel
theorem d_Model_down_14 : decode b_Model_down 14 = .ok (.iconst (-1), 1) := by decide +kernel
theorem d_Model_down_15 : decode b_Model_down 15 = .ok (.goto 4, 3) := by decide +kernel
theorem d_Model_down_18 : decode b_Model_down 18 = .ok (.iconst 0, 1) := by decide +kernel
theorem d_Model_down_19 : decode b_Model_down 19 = .ok (.ireturn, 1) := by decide +kernel
theorem d_Model_corner_0 : decode b_Model_corner 0 = .ok (.aload_n 0, 1) := by decide +kernel
theorem d_Model_corner_1 : decode b_Model_corner 1 = .ok (.iconst 0, 1) := by decide +kernel
theorem d_Model_corner_2 : decode b_Model_corner 2 = .ok (.putfield 79, 3) := by decide +kernel
theorem d_Model_corner_5 : decode b_Model_corner 5 = .ok (.aload_n 0, 1) := by decide +kernel
theorem d_Model_corner_6 : decode b_Model_corner 6 = .ok (.iconst 0, 1) := by decide +kernel
theorem d_Model_corner_7 : decode b_Model_corner 7 = .ok (.putfield 82, 3) := by decide +kernel
theorem d_Model_corner_10 : decode b_Model_corner 10 = .ok (.iconst 0, 1) := by decide +kernel
theorem d_Model_corner_11 : decode b_Model_corner 11 = .ok (.istore_n 3, 1) := by decide +kernel
theorem d_Model_corner_12 : decode b_Model_corner 12 = .ok (.iload_n 3, 1) := by decide +kernel
theorem d_Model_corner_13 : decode b_Model_corner 13 = .ok (.iload_n 2, 1) := by decide +kernel
theorem d_Model_corner_14 : decode b_Model_corner 14 = .ok (.if_icmp .ge 55, 3) := by decide +kernel
theorem d_Model_corner_17 : decode b_Model_corner 17 = .ok (.aload_n 0, 1) := by decide +kernel
theorem d_Model_corner_18 : decode b_Model_corner 18 = .ok (.dup, 1) := by decide +kernel
theorem d_Model_corner_19 : decode b_Model_corner 19 = .ok (.getfield 79, 3) := by decide +kernel
theorem d_Model_corner_22 : decode b_Model_corner 22 = .ok (.aload_n 0, 1) := by decide +kernel
theorem d_Model_corner_23 : decode b_Model_corner 23 = .ok (.getfield 13, 3) := by decide +kernel
theorem d_Model_corner_26 : decode b_Model_corner 26 = .ok (.bipush 28, 2) := by decide +kernel
theorem d_Model_corner_28 : decode b_Model_corner 28 = .ok (.iload_n 1, 1) := by decide +kernel
theorem d_Model_corner_29 : decode b_Model_corner 29 = .ok (.imul, 1) := by decide +kernel
theorem d_Model_corner_30 : decode b_Model_corner 30 = .ok (.iload_n 3, 1) := by decide +kernel
theorem d_Model_corner_31 : decode b_Model_corner 31 = .ok (.iadd, 1) := by decide +kernel
theorem d_Model_corner_32 : decode b_Model_corner 32 = .ok (.iaload, 1) := by decide +kernel
theorem d_Model_corner_33 : decode b_Model_corner 33 = .ok (.invokestatic 85, 3) := by decide +kernel
theorem d_Model_corner_36 : decode b_Model_corner 36 = .ok (.iadd, 1) := by decide +kernel
theorem d_Model_corner_37 : decode b_Model_corner 37 = .ok (.putfield 79, 3) := by decide +kernel
theorem d_Model_corner_40 : decode b_Model_corner 40 = .ok (.aload_n 0, 1) := by decide +kernel
theorem d_Model_corner_41 : decode b_Model_corner 41 = .ok (.dup, 1) := by decide +kernel
theorem d_Model_corner_42 : decode b_Model_corner 42 = .ok (.getfield 82, 3) := by decide +kernel
theorem d_Model_corner_45 : decode b_Model_corner 45 = .ok (.aload_n 0, 1) := by decide +kernel
theorem d_Model_corner_46 : decode b_Model_corner 46 = .ok (.getfield 13, 3) := by decide +kernel
theorem d_Model_corner_49 : decode b_Model_corner 49 = .ok (.bipush 28, 2) := by decide +kernel
theorem d_Model_corner_51 : decode b_Model_corner 51 = .ok (.iload_n 1, 1) := by decide +kernel
theorem d_Model_corner_52 : decode b_Model_corner 52 = .ok (.imul, 1) := by decide +kernel
theorem d_Model_corner_53 : decode b_Model_corner 53 = .ok (.iload_n 3, 1) := by decide +kernel
theorem d_Model_corner_54 : decode b_Model_corner 54 = .ok (.iadd, 1) := by decide +kernel
theorem d_Model_corner_55 : decode b_Model_corner 55 = .ok (.iaload, 1) := by decide +kernel
theorem d_Model_corner_56 : decode b_Model_corner 56 = .ok (.invokestatic 89, 3) := by decide +kernel
theorem d_Model_corner_59 : decode b_Model_corner 59 = .ok (.iadd, 1) := by decide +kernel
theorem d_Model_corner_60 : decode b_Model_corner 60 = .ok (.putfield 82, 3) := by decide +kernel
theorem d_Model_corner_63 : decode b_Model_corner 63 = .ok (.iinc 3 1, 3) := by decide +kernel
theorem d_Model_corner_66 : decode b_Model_corner 66 = .ok (.goto (-54), 3) := by decide +kernel
theorem d_Model_corner_69 : decode b_Model_corner 69 = .ok (.return_, 1) := by decide +kernel
theorem d_Model_isOnce_0 : decode b_Model_isOnce 0 = .ok (.iconst 0, 1) := by decide +kernel
theorem d_Model_isOnce_1 : decode b_Model_isOnce 1 = .ok (.istore_n 2, 1) := by decide +kernel
theorem d_Model_isOnce_2 : decode b_Model_isOnce 2 = .ok (.iload_n 2, 1) := by decide +kernel
theorem d_Model_isOnce_3 : decode b_Model_isOnce 3 = .ok (.aload_n 0, 1) := by decide +kernel
theorem d_Model_isOnce_4 : decode b_Model_isOnce 4 = .ok (.getfield 7, 3) := by decide +kernel
theorem d_Model_isOnce_7 : decode b_Model_isOnce 7 = .ok (.iload_n 1, 1) := by decide +kernel
theorem d_Model_isOnce_8 : decode b_Model_isOnce 8 = .ok (.iaload, 1) := by decide +kernel
theorem d_Model_isOnce_9 : decode b_Model_isOnce 9 = .ok (.if_icmp .ge 67, 3) := by decide +kernel
theorem d_Model_isOnce_12 : decode b_Model_isOnce 12 = .ok (.aload_n 0, 1) := by decide +kernel
theorem d_Model_isOnce_13 : decode b_Model_isOnce 13 = .ok (.iload_n 1, 1) := by decide +kernel
theorem d_Model_isOnce_14 : decode b_Model_isOnce 14 = .ok (.iload_n 2, 1) := by decide +kernel
theorem d_Model_isOnce_15 : decode b_Model_isOnce 15 = .ok (.invokevirtual 92, 3) := by decide +kernel
theorem d_Model_isOnce_18 : decode b_Model_isOnce 18 = .ok (.aload_n 0, 1) := by decide +kernel
theorem d_Model_isOnce_19 : decode b_Model_isOnce 19 = .ok (.getfield 79, 3) := by decide +kernel
theorem d_Model_isOnce_22 : decode b_Model_isOnce 22 = .ok (.istore_n 3, 1) := by decide +kernel
theorem d_Model_isOnce_23 : decode b_Model_isOnce 23 = .ok (.aload_n 0, 1) := by decide +kernel
theorem d_Model_isOnce_24 : decode b_Model_isOnce 24 = .ok (.getfield 82, 3) := by decide +kernel
theorem d_Model_isOnce_27 : decode b_Model_isOnce 27 = .ok (.istore 4, 2) := by decide +kernel
theorem d_Model_isOnce_29 : decode b_Model_isOnce 29 = .ok (.iconst 0, 1) := by decide +kernel
theorem d_Model_isOnce_30 : decode b_Model_isOnce 30 = .ok (.istore 5, 2) := by decide +kernel
theorem d_Model_isOnce_32 : decode b_Model_isOnce 32 = .ok (.iload 5, 2) := by decide +kernel
theorem d_Model_isOnce_34 : decode b_Model_isOnce 34 = .ok (.iload_n 2, 1) := by decide +kernel
theorem d_Model_isOnce_35 : decode b_Model_isOnce 35 = .ok (.if_icmp .ge 35, 3) := by decide +kernel
theorem d_Model_isOnce_38 : decode b_Model_isOnce 38 = .ok (.aload_n 0, 1) := by decide +kernel
theorem d_Model_isOnce_39 : decode b_Model_isOnce 39 = .ok (.iload_n 1, 1) := by decide +kernel
theorem d_Model_isOnce_40 : decode b_Model_isOnce 40 = .ok (.iload 5, 2) := by decide +kernel
theorem d_Model_isOnce_42 : decode b_Model_isOnce 42 = .ok (.invokevirtual 92, 3) := by decide +kernel
theorem d_Model_isOnce_45 : decode b_Model_isOnce 45 = .ok (.aload_n 0, 1) := by decide +kernel
theorem d_Model_isOnce_46 : decode b_Model_isOnce 46 = .ok (.getfield 79, 3) := by decide +kernel
theorem d_Model_isOnce_49 : decode b_Model_isOnce 49 = .ok (.iload_n 3, 1) := by decide +kernel
theorem d_Model_isOnce_50 : decode b_Model_isOnce 50 = .ok (.if_icmp .ne 14, 3) := by decide +kernel
theorem d_Model_isOnce_53 : decode b_Model_isOnce 53 = .ok (.aload_n 0, 1) := by decide +kernel
theorem d_Model_isOnce_54 : decode b_Model_isOnce 54 = .ok (.getfield 82, 3) := by decide +kernel
theorem d_Model_isOnce_57 : decode b_Model_isOnce 57 = .ok (.iload 4, 2) := by decide +kernel
theorem d_Model_isOnce_59 : decode b_Model_isOnce 59 = .ok (.if_icmp .ne 5, 3) := by decide +kernel
theorem d_Model_isOnce_62 : decode b_Model_isOnce 62 = .ok (.iconst 0, 1) := by decide +kernel
theorem d_Model_isOnce_63 : decode b_Model_isOnce 63 = .ok (.ireturn, 1) := by decide +kernel
theorem d_Model_isOnce_64 : decode b_Model_isOnce 64 = .ok (.iinc 5 1, 3) := by decide +kernel
theorem d_Model_isOnce_67 : decode b_Model_isOnce 67 = .ok (.goto (-35), 3) := by decide +kernel
theorem d_Model_isOnce_70 : decode b_Model_isOnce 70 = .ok (.iinc 2 1, 3) := by decide +kernel
theorem d_Model_isOnce_73 : decode b_Model_isOnce 73 = .ok (.goto (-71), 3) := by decide +kernel
theorem d_Model_isOnce_76 : decode b_Model_isOnce 76 = .ok (.aload_n 0, 1) := by decide +kernel
theorem d_Model_isOnce_77 : decode b_Model_isOnce 77 = .ok (.iload_n 1, 1) := by decide +kernel
theorem d_Model_isOnce_78 : decode b_Model_isOnce 78 = .ok (.aload_n 0, 1) := by decide +kernel
theorem d_Model_isOnce_79 : decode b_Model_isOnce 79 = .ok (.getfield 7, 3) := by decide +kernel
theorem d_Model_isOnce_82 : decode b_Model_isOnce 82 = .ok (.iload_n 1, 1) := by decide +kernel
theorem d_Model_isOnce_83 : decode b_Model_isOnce 83 = .ok (.iaload, 1) := by decide +kernel
theorem d_Model_isOnce_84 : decode b_Model_isOnce 84 = .ok (.invokevirtual 92, 3) := by decide +kernel
theorem d_Model_isOnce_87 : decode b_Model_isOnce 87 = .ok (.aload_n 0, 1) := by decide +kernel
theorem d_Model_isOnce_88 : decode b_Model_isOnce 88 = .ok (.getfield 79, 3) := by decide +kernel
theorem d_Model_isOnce_91 : decode b_Model_isOnce 91 = .ok (.ifCond .ne 14, 3) := by decide +kernel
theorem d_Model_isOnce_94 : decode b_Model_isOnce 94 = .ok (.aload_n 0, 1) := by decide +kernel
theorem d_Model_isOnce_95 : decode b_Model_isOnce 95 = .ok (.getfield 82, 3) := by decide +kernel
theorem d_Model_isOnce_98 : decode b_Model_isOnce 98 = .ok (.ifCond .ne 7, 3) := by decide +kernel
theorem d_Model_isOnce_101 : decode b_Model_isOnce 101 = .ok (.iconst 1, 1) := by decide +kernel
theorem d_Model_isOnce_102 : decode b_Model_isOnce 102 = .ok (.goto 4, 3) := by decide +kernel
theorem d_Model_isOnce_105 : decode b_Model_isOnce 105 = .ok (.iconst 0, 1) := by decide +kernel
theorem d_Model_isOnce_106 : decode b_Model_isOnce 106 = .ok (.ireturn, 1) := by decide +kernel
theorem d_Model_space_0 : decode b_Model_space 0 = .ok (.iconst 0, 1) := by decide +kernel
theorem d_Model_space_1 : decode b_Model_space 1 = .ok (.istore_n 2, 1) := by decide +kernel
theorem d_Model_space_2 : decode b_Model_space 2 = .ok (.iconst 0, 1) := by decide +kernel
theorem d_Model_space_3 : decode b_Model_space 3 = .ok (.istore_n 3, 1) := by decide +kernel
theorem d_Model_space_4 : decode b_Model_space 4 = .ok (.iload_n 3, 1) := by decide +kernel
theorem d_Model_space_5 : decode b_Model_space 5 = .ok (.aload_n 0, 1) := by decide +kernel
theorem d_Model_space_6 : decode b_Model_space 6 = .ok (.getfield 7, 3) := by decide +kernel
theorem d_Model_space_9 : decode b_Model_space 9 = .ok (.iload_n 1, 1) := by decide +kernel
theorem d_Model_space_10 : decode b_Model_space 10 = .ok (.iaload, 1) := by decide +kernel
theorem d_Model_space_11 : decode b_Model_space 11 = .ok (.if_icmp .ge 52, 3) := by decide +kernel
theorem d_Model_space_14 : decode b_Model_space 14 = .ok (.aload_n 0, 1) := by decide +kernel
theorem d_Model_space_15 : decode b_Model_space 15 = .ok (.iload_n 1, 1) := by decide +kernel
theorem d_Model_space_16 : decode b_Model_space 16 = .ok (.iload_n 3, 1) := by decide +kernel
theorem d_Model_space_17 : decode b_Model_space 17 = .ok (.invokevirtual 92, 3) := by decide +kernel
theorem d_Model_space_20 : decode b_Model_space 20 = .ok (.aload_n 0, 1) := by decide +kernel
theorem d_Model_space_21 : decode b_Model_space 21 = .ok (.getfield 13, 3) := by decide +kernel
theorem d_Model_space_24 : decode b_Model_space 24 = .ok (.bipush 28, 2) := by decide +kernel
theorem d_Model_space_26 : decode b_Model_space 26 = .ok (.iload_n 1, 1) := by decide +kernel
theorem d_Model_space_27 : decode b_Model_space 27 = .ok (.imul, 1) := by decide +kernel
theorem d_Model_space_28 : decode b_Model_space 28 = .ok (.iload_n 3, 1) := by decide +kernel
theorem d_Model_space_29 : decode b_Model_space 29 = .ok (.iadd, 1) := by decide +kernel
theorem d_Model_space_30 : decode b_Model_space 30 = .ok (.iaload, 1) := by decide +kernel
theorem d_Model_space_31 : decode b_Model_space 31 = .ok (.istore 4, 2) := by decide +kernel
theorem d_Model_space_33 : decode b_Model_space 33 = .ok (.iload_n 2, 1) := by decide +kernel
theorem d_Model_space_34 : decode b_Model_space 34 = .ok (.aload_n 0, 1) := by decide +kernel
theorem d_Model_space_35 : decode b_Model_space 35 = .ok (.getfield 79, 3) := by decide +kernel
theorem d_Model_space_38 : decode b_Model_space 38 = .ok (.iload 4, 2) := by decide +kernel
theorem d_Model_space_40 : decode b_Model_space 40 = .ok (.invokestatic 89, 3) := by decide +kernel
theorem d_Model_space_43 : decode b_Model_space 43 = .ok (.imul, 1) := by decide +kernel
theorem d_Model_space_44 : decode b_Model_space 44 = .ok (.aload_n 0, 1) := by decide +kernel
theorem d_Model_space_45 : decode b_Model_space 45 = .ok (.getfield 82, 3) := by decide +kernel
theorem d_Model_space_48 : decode b_Model_space 48 = .ok (.iload 4, 2) := by decide +kernel
theorem d_Model_space_50 : decode b_Model_space 50 = .ok (.invokestatic 85, 3) := by decide +kernel
theorem d_Model_space_53 : decode b_Model_space 53 = .ok (.imul, 1) := by decide +kernel
theorem d_Model_space_54 : decode b_Model_space 54 = .ok (.isub, 1) := by decide +kernel
theorem d_Model_space_55 : decode b_Model_space 55 = .ok (.iadd, 1) := by decide +kernel
theorem d_Model_space_56 : decode b_Model_space 56 = .ok (.istore_n 2, 1) := by decide +kernel
theorem d_Model_space_57 : decode b_Model_space 57 = .ok (.iinc 3 1, 3) := by decide +kernel
theorem d_Model_space_60 : decode b_Model_space 60 = .ok (.goto (-56), 3) := by decide +kernel
theorem d_Model_space_63 : decode b_Model_space 63 = .ok (.iload_n 2, 1) := by decide +kernel
theorem d_Model_space_64 : decode b_Model_space 64 = .ok (.ireturn, 1) := by decide +kernel
