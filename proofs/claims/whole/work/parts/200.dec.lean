theorem d_X_sherd_0 : decode b_X_sherd 0 = .ok (.aload_n 0, 1) := by decide +kernel
theorem d_X_sherd_1 : decode b_X_sherd 1 = .ok (.getfield 40, 3) := by decide +kernel
theorem d_X_sherd_4 : decode b_X_sherd 4 = .ok (.bipush 6, 2) := by decide +kernel
theorem d_X_sherd_6 : decode b_X_sherd 6 = .ok (.if_icmp .lt 13, 3) := by decide +kernel
theorem d_X_sherd_9 : decode b_X_sherd 9 = .ok (.new 57, 3) := by decide +kernel
theorem d_X_sherd_12 : decode b_X_sherd 12 = .ok (.dup, 1) := by decide +kernel
theorem d_X_sherd_13 : decode b_X_sherd 13 = .ok (.ldc 59, 2) := by decide +kernel
theorem d_X_sherd_15 : decode b_X_sherd 15 = .ok (.invokespecial 61, 3) := by decide +kernel
theorem d_X_sherd_18 : decode b_X_sherd 18 = .ok (.athrow, 1) := by decide +kernel
theorem d_X_sherd_19 : decode b_X_sherd 19 = .ok (.aload_n 0, 1) := by decide +kernel
theorem d_X_sherd_20 : decode b_X_sherd 20 = .ok (.dup, 1) := by decide +kernel
theorem d_X_sherd_21 : decode b_X_sherd 21 = .ok (.getfield 40, 3) := by decide +kernel
theorem d_X_sherd_24 : decode b_X_sherd 24 = .ok (.iconst 1, 1) := by decide +kernel
theorem d_X_sherd_25 : decode b_X_sherd 25 = .ok (.iadd, 1) := by decide +kernel
theorem d_X_sherd_26 : decode b_X_sherd 26 = .ok (.putfield 40, 3) := by decide +kernel
theorem d_X_sherd_29 : decode b_X_sherd 29 = .ok (.aload_n 0, 1) := by decide +kernel
theorem d_X_sherd_30 : decode b_X_sherd 30 = .ok (.getfield 40, 3) := by decide +kernel
theorem d_X_sherd_33 : decode b_X_sherd 33 = .ok (.iconst 1, 1) := by decide +kernel
theorem d_X_sherd_34 : decode b_X_sherd 34 = .ok (.isub, 1) := by decide +kernel
theorem d_X_sherd_35 : decode b_X_sherd 35 = .ok (.ireturn, 1) := by decide +kernel
theorem d_X_isSherd_0 : decode b_X_isSherd 0 = .ok (.iload_n 1, 1) := by decide +kernel
theorem d_X_isSherd_1 : decode b_X_isSherd 1 = .ok (.ifCond .lt 15, 3) := by decide +kernel
theorem d_X_isSherd_4 : decode b_X_isSherd 4 = .ok (.iload_n 1, 1) := by decide +kernel
theorem d_X_isSherd_5 : decode b_X_isSherd 5 = .ok (.aload_n 0, 1) := by decide +kernel
theorem d_X_isSherd_6 : decode b_X_isSherd 6 = .ok (.getfield 40, 3) := by decide +kernel
theorem d_X_isSherd_9 : decode b_X_isSherd 9 = .ok (.if_icmp .ge 7, 3) := by decide +kernel
theorem d_X_isSherd_12 : decode b_X_isSherd 12 = .ok (.iconst 1, 1) := by decide +kernel
theorem d_X_isSherd_13 : decode b_X_isSherd 13 = .ok (.goto 4, 3) := by decide +kernel
theorem d_X_isSherd_16 : decode b_X_isSherd 16 = .ok (.iconst 0, 1) := by decide +kernel
theorem d_X_isSherd_17 : decode b_X_isSherd 17 = .ok (.ireturn, 1) := by decide +kernel
theorem d_X_edgeOf_0 : decode b_X_edgeOf 0 = .ok (.aload_n 0, 1) := by decide +kernel
theorem d_X_edgeOf_1 : decode b_X_edgeOf 1 = .ok (.iload_n 1, 1) := by decide +kernel
theorem d_X_edgeOf_2 : decode b_X_edgeOf 2 = .ok (.invokevirtual 181, 3) := by decide +kernel
theorem d_X_edgeOf_5 : decode b_X_edgeOf 5 = .ok (.ifCond .ne 13, 3) := by decide +kernel
theorem d_X_edgeOf_8 : decode b_X_edgeOf 8 = .ok (.new 86, 3) := by decide +kernel
theorem d_X_edgeOf_11 : decode b_X_edgeOf 11 = .ok (.dup, 1) := by decide +kernel
theorem d_X_edgeOf_12 : decode b_X_edgeOf 12 = .ok (.ldc 185, 2) := by decide +kernel
theorem d_X_edgeOf_14 : decode b_X_edgeOf 14 = .ok (.invokespecial 90, 3) := by decide +kernel
theorem d_X_edgeOf_17 : decode b_X_edgeOf 17 = .ok (.athrow, 1) := by decide +kernel
theorem d_X_edgeOf_18 : decode b_X_edgeOf 18 = .ok (.aload_n 0, 1) := by decide +kernel
theorem d_X_edgeOf_19 : decode b_X_edgeOf 19 = .ok (.getfield 11, 3) := by decide +kernel
theorem d_X_edgeOf_22 : decode b_X_edgeOf 22 = .ok (.iload_n 1, 1) := by decide +kernel
theorem d_X_edgeOf_23 : decode b_X_edgeOf 23 = .ok (.aaload, 1) := by decide +kernel
theorem d_X_edgeOf_24 : decode b_X_edgeOf 24 = .ok (.areturn, 1) := by decide +kernel
theorem d_Edge_append_0 : decode b_Edge_append 0 = .ok (.aload_n 0, 1) := by decide +kernel
theorem d_Edge_append_1 : decode b_Edge_append 1 = .ok (.getfield 24, 3) := by decide +kernel
theorem d_Edge_append_4 : decode b_Edge_append 4 = .ok (.bipush 28, 2) := by decide +kernel
theorem d_Edge_append_6 : decode b_Edge_append 6 = .ok (.if_icmp .lt 4, 3) := by decide +kernel
theorem d_Edge_append_9 : decode b_Edge_append 9 = .ok (.return_, 1) := by decide +kernel
theorem d_Edge_append_10 : decode b_Edge_append 10 = .ok (.aload_n 0, 1) := by decide +kernel
theorem d_Edge_append_11 : decode b_Edge_append 11 = .ok (.getfield 9, 3) := by decide +kernel
theorem d_Edge_append_14 : decode b_Edge_append 14 = .ok (.aload_n 0, 1) := by decide +kernel
theorem d_Edge_append_15 : decode b_Edge_append 15 = .ok (.getfield 24, 3) := by decide +kernel
theorem d_Edge_append_18 : decode b_Edge_append 18 = .ok (.iload_n 1, 1) := by decide +kernel
theorem d_Edge_append_19 : decode b_Edge_append 19 = .ok (.iastore, 1) := by decide +kernel
theorem d_Edge_append_20 : decode b_Edge_append 20 = .ok (.aload_n 0, 1) := by decide +kernel
theorem d_Edge_append_21 : decode b_Edge_append 21 = .ok (.getfield 18, 3) := by decide +kernel
theorem d_Edge_append_24 : decode b_Edge_append 24 = .ok (.aload_n 0, 1) := by decide +kernel
theorem d_Edge_append_25 : decode b_Edge_append 25 = .ok (.getfield 24, 3) := by decide +kernel
theorem d_Edge_append_28 : decode b_Edge_append 28 = .ok (.iconst 1, 1) := by decide +kernel
theorem d_Edge_append_29 : decode b_Edge_append 29 = .ok (.iadd, 1) := by decide +kernel
theorem d_Edge_append_30 : decode b_Edge_append 30 = .ok (.aload_n 0, 1) := by decide +kernel
theorem d_Edge_append_31 : decode b_Edge_append 31 = .ok (.getfield 18, 3) := by decide +kernel
theorem d_Edge_append_34 : decode b_Edge_append 34 = .ok (.aload_n 0, 1) := by decide +kernel
theorem d_Edge_append_35 : decode b_Edge_append 35 = .ok (.getfield 24, 3) := by decide +kernel
theorem d_Edge_append_38 : decode b_Edge_append 38 = .ok (.iaload, 1) := by decide +kernel
theorem d_Edge_append_39 : decode b_Edge_append 39 = .ok (.getstatic 32, 3) := by decide +kernel
theorem d_Edge_append_42 : decode b_Edge_append 42 = .ok (.iload_n 1, 1) := by decide +kernel
theorem d_Edge_append_43 : decode b_Edge_append 43 = .ok (.iconst 3, 1) := by decide +kernel
theorem d_Edge_append_44 : decode b_Edge_append 44 = .ok (.iand, 1) := by decide +kernel
theorem d_Edge_append_45 : decode b_Edge_append 45 = .ok (.iaload, 1) := by decide +kernel
theorem d_Edge_append_46 : decode b_Edge_append 46 = .ok (.iadd, 1) := by decide +kernel
theorem d_Edge_append_47 : decode b_Edge_append 47 = .ok (.iastore, 1) := by decide +kernel
theorem d_Edge_append_48 : decode b_Edge_append 48 = .ok (.aload_n 0, 1) := by decide +kernel
theorem d_Edge_append_49 : decode b_Edge_append 49 = .ok (.getfield 21, 3) := by decide +kernel
theorem d_Edge_append_52 : decode b_Edge_append 52 = .ok (.aload_n 0, 1) := by decide +kernel
theorem d_Edge_append_53 : decode b_Edge_append 53 = .ok (.getfield 24, 3) := by decide +kernel
theorem d_Edge_append_56 : decode b_Edge_append 56 = .ok (.iconst 1, 1) := by decide +kernel
theorem d_Edge_append_57 : decode b_Edge_append 57 = .ok (.iadd, 1) := by decide +kernel
theorem d_Edge_append_58 : decode b_Edge_append 58 = .ok (.aload_n 0, 1) := by decide +kernel
theorem d_Edge_append_59 : decode b_Edge_append 59 = .ok (.getfield 21, 3) := by decide +kernel
theorem d_Edge_append_62 : decode b_Edge_append 62 = .ok (.aload_n 0, 1) := by decide +kernel
theorem d_Edge_append_63 : decode b_Edge_append 63 = .ok (.getfield 24, 3) := by decide +kernel
theorem d_Edge_append_66 : decode b_Edge_append 66 = .ok (.iaload, 1) := by decide +kernel
theorem d_Edge_append_67 : decode b_Edge_append 67 = .ok (.getstatic 35, 3) := by decide +kernel
theorem d_Edge_append_70 : decode b_Edge_append 70 = .ok (.iload_n 1, 1) := by decide +kernel
theorem d_Edge_append_71 : decode b_Edge_append 71 = .ok (.iconst 3, 1) := by decide +kernel
theorem d_Edge_append_72 : decode b_Edge_append 72 = .ok (.iand, 1) := by decide +kernel
theorem d_Edge_append_73 : decode b_Edge_append 73 = .ok (.iaload, 1) := by decide +kernel
theorem d_Edge_append_74 : decode b_Edge_append 74 = .ok (.iadd, 1) := by decide +kernel
theorem d_Edge_append_75 : decode b_Edge_append 75 = .ok (.iastore, 1) := by decide +kernel
theorem d_Edge_append_76 : decode b_Edge_append 76 = .ok (.aload_n 0, 1) := by decide +kernel
theorem d_Edge_append_77 : decode b_Edge_append 77 = .ok (.dup, 1) := by decide +kernel
theorem d_Edge_append_78 : decode b_Edge_append 78 = .ok (.getfield 24, 3) := by decide +kernel
theorem d_Edge_append_81 : decode b_Edge_append 81 = .ok (.iconst 1, 1) := by decide +kernel
theorem d_Edge_append_82 : decode b_Edge_append 82 = .ok (.iadd, 1) := by decide +kernel
theorem d_Edge_append_83 : decode b_Edge_append 83 = .ok (.putfield 24, 3) := by decide +kernel
theorem d_Edge_append_86 : decode b_Edge_append 86 = .ok (.return_, 1) := by decide +kernel
theorem d_X_step_0 : decode b_X_step 0 = .ok (.aload_n 0, 1) := by decide +kernel
theorem d_X_step_1 : decode b_X_step 1 = .ok (.iload_n 1, 1) := by decide +kernel
theorem d_X_step_2 : decode b_X_step 2 = .ok (.invokevirtual 64, 3) := by decide +kernel
theorem d_X_step_5 : decode b_X_step 5 = .ok (.astore_n 3, 1) := by decide +kernel
theorem d_X_step_6 : decode b_X_step 6 = .ok (.aload_n 3, 1) := by decide +kernel
theorem d_X_step_7 : decode b_X_step 7 = .ok (.getfield 68, 3) := by decide +kernel
theorem d_X_step_10 : decode b_X_step 10 = .ok (.ifCond .ne 12, 3) := by decide +kernel
theorem d_X_step_13 : decode b_X_step 13 = .ok (.aload_n 3, 1) := by decide +kernel
theorem d_X_step_14 : decode b_X_step 14 = .ok (.getfield 72, 3) := by decide +kernel
theorem d_X_step_17 : decode b_X_step 17 = .ok (.bipush 28, 2) := by decide +kernel
theorem d_X_step_19 : decode b_X_step 19 = .ok (.if_icmp .lt 13, 3) := by decide +kernel
theorem d_X_step_22 : decode b_X_step 22 = .ok (.new 57, 3) := by decide +kernel
theorem d_X_step_25 : decode b_X_step 25 = .ok (.dup, 1) := by decide +kernel
theorem d_X_step_26 : decode b_X_step 26 = .ok (.ldc 75, 2) := by decide +kernel
theorem d_X_step_28 : decode b_X_step 28 = .ok (.invokespecial 61, 3) := by decide +kernel
theorem d_X_step_31 : decode b_X_step 31 = .ok (.athrow, 1) := by decide +kernel
theorem d_X_step_32 : decode b_X_step 32 = .ok (.iload_n 2, 1) := by decide +kernel
theorem d_X_step_33 : decode b_X_step 33 = .ok (.ifCond .lt 8, 3) := by decide +kernel
theorem d_X_step_36 : decode b_X_step 36 = .ok (.iload_n 2, 1) := by decide +kernel
theorem d_X_step_37 : decode b_X_step 37 = .ok (.iconst 3, 1) := by decide +kernel
theorem d_X_step_38 : decode b_X_step 38 = .ok (.if_icmp .le 13, 3) := by decide +kernel
theorem d_X_step_41 : decode b_X_step 41 = .ok (.new 77, 3) := by decide +kernel
theorem d_X_step_44 : decode b_X_step 44 = .ok (.dup, 1) := by decide +kernel
theorem d_X_step_45 : decode b_X_step 45 = .ok (.ldc 79, 2) := by decide +kernel
theorem d_X_step_47 : decode b_X_step 47 = .ok (.invokespecial 81, 3) := by decide +kernel
theorem d_X_step_50 : decode b_X_step 50 = .ok (.athrow, 1) := by decide +kernel
theorem d_X_step_51 : decode b_X_step 51 = .ok (.aload_n 3, 1) := by decide +kernel
theorem d_X_step_52 : decode b_X_step 52 = .ok (.iload_n 2, 1) := by decide +kernel
theorem d_X_step_53 : decode b_X_step 53 = .ok (.invokevirtual 82, 3) := by decide +kernel
theorem d_X_step_56 : decode b_X_step 56 = .ok (.aload_n 3, 1) := by decide +kernel
theorem d_X_step_57 : decode b_X_step 57 = .ok (.getfield 72, 3) := by decide +kernel
theorem d_X_step_60 : decode b_X_step 60 = .ok (.ireturn, 1) := by decide +kernel
theorem d_Ranking_clear_0 : decode b_Ranking_clear 0 = .ok (.aload_n 0, 1) := by decide +kernel
theorem d_Ranking_clear_1 : decode b_Ranking_clear 1 = .ok (.iconst 0, 1) := by decide +kernel
theorem d_Ranking_clear_2 : decode b_Ranking_clear 2 = .ok (.putfield 17, 3) := by decide +kernel
theorem d_Ranking_clear_5 : decode b_Ranking_clear 5 = .ok (.return_, 1) := by decide +kernel
theorem d_X_height_0 : decode b_X_height 0 = .ok (.aload_n 0, 1) := by decide +kernel
theorem d_X_height_1 : decode b_X_height 1 = .ok (.iload_n 1, 1) := by decide +kernel
theorem d_X_height_2 : decode b_X_height 2 = .ok (.invokevirtual 64, 3) := by decide +kernel
theorem d_X_height_5 : decode b_X_height 5 = .ok (.astore 4, 2) := by decide +kernel
theorem d_X_height_7 : decode b_X_height 7 = .ok (.iload_n 2, 1) := by decide +kernel
theorem d_X_height_8 : decode b_X_height 8 = .ok (.ifCond .lt 12, 3) := by decide +kernel
theorem d_X_height_11 : decode b_X_height 11 = .ok (.iload_n 2, 1) := by decide +kernel
theorem d_X_height_12 : decode b_X_height 12 = .ok (.aload 4, 2) := by decide +kernel
theorem d_X_height_14 : decode b_X_height 14 = .ok (.getfield 72, 3) := by decide +kernel
theorem d_X_height_17 : decode b_X_height 17 = .ok (.if_icmp .lt 13, 3) := by decide +kernel
theorem d_X_height_20 : decode b_X_height 20 = .ok (.new 86, 3) := by decide +kernel
theorem d_X_height_23 : decode b_X_height 23 = .ok (.dup, 1) := by decide +kernel
theorem d_X_height_24 : decode b_X_height 24 = .ok (.ldc 88, 2) := by decide +kernel
theorem d_X_height_26 : decode b_X_height 26 = .ok (.invokespecial 90, 3) := by decide +kernel
theorem d_X_height_29 : decode b_X_height 29 = .ok (.athrow, 1) := by decide +kernel
theorem d_X_height_30 : decode b_X_height 30 = .ok (.iload_n 3, 1) := by decide +kernel
theorem d_X_height_31 : decode b_X_height 31 = .ok (.ifCond .lt 9, 3) := by decide +kernel
theorem d_X_height_34 : decode b_X_height 34 = .ok (.iload_n 3, 1) := by decide +kernel
theorem d_X_height_35 : decode b_X_height 35 = .ok (.bipush 99, 2) := by decide +kernel
theorem d_X_height_37 : decode b_X_height 37 = .ok (.if_icmp .le 13, 3) := by decide +kernel
theorem d_X_height_40 : decode b_X_height 40 = .ok (.new 77, 3) := by decide +kernel
theorem d_X_height_43 : decode b_X_height 43 = .ok (.dup, 1) := by decide +kernel
theorem d_X_height_44 : decode b_X_height 44 = .ok (.ldc 91, 2) := by decide +kernel
theorem d_X_height_46 : decode b_X_height 46 = .ok (.invokespecial 81, 3) := by decide +kernel
theorem d_X_height_49 : decode b_X_height 49 = .ok (.athrow, 1) := by decide +kernel
theorem d_X_height_50 : decode b_X_height 50 = .ok (.aload 4, 2) := by decide +kernel
theorem d_X_height_52 : decode b_X_height 52 = .ok (.getfield 93, 3) := by decide +kernel
theorem d_X_height_55 : decode b_X_height 55 = .ok (.iload_n 2, 1) := by decide +kernel
theorem d_X_height_56 : decode b_X_height 56 = .ok (.iaload, 1) := by decide +kernel
theorem d_X_height_57 : decode b_X_height 57 = .ok (.istore 5, 2) := by decide +kernel
theorem d_X_height_59 : decode b_X_height 59 = .ok (.aload 4, 2) := by decide +kernel
theorem d_X_height_61 : decode b_X_height 61 = .ok (.getfield 93, 3) := by decide +kernel
theorem d_X_height_64 : decode b_X_height 64 = .ok (.iload_n 2, 1) := by decide +kernel
theorem d_X_height_65 : decode b_X_height 65 = .ok (.iload_n 3, 1) := by decide +kernel
theorem d_X_height_66 : decode b_X_height 66 = .ok (.iastore, 1) := by decide +kernel
theorem d_X_height_67 : decode b_X_height 67 = .ok (.aload_n 0, 1) := by decide +kernel
theorem d_X_height_68 : decode b_X_height 68 = .ok (.getfield 29, 3) := by decide +kernel
theorem d_X_height_71 : decode b_X_height 71 = .ok (.invokevirtual 97, 3) := by decide +kernel
theorem d_X_height_74 : decode b_X_height 74 = .ok (.iload 5, 2) := by decide +kernel
theorem d_X_height_76 : decode b_X_height 76 = .ok (.ireturn, 1) := by decide +kernel
theorem d_Edge_comesToACornerTwice_0 : decode b_Edge_comesToACornerTwice 0 = .ok (.iconst 0, 1) := by decide +kernel
theorem d_Edge_comesToACornerTwice_1 : decode b_Edge_comesToACornerTwice 1 = .ok (.istore_n 1, 1) := by decide +kernel
theorem d_Edge_comesToACornerTwice_2 : decode b_Edge_comesToACornerTwice 2 = .ok (.iload_n 1, 1) := by decide +kernel
theorem d_Edge_comesToACornerTwice_3 : decode b_Edge_comesToACornerTwice 3 = .ok (.aload_n 0, 1) := by decide +kernel
theorem d_Edge_comesToACornerTwice_4 : decode b_Edge_comesToACornerTwice 4 = .ok (.getfield 24, 3) := by decide +kernel
theorem d_Edge_comesToACornerTwice_7 : decode b_Edge_comesToACornerTwice 7 = .ok (.if_icmp .ge 59, 3) := by decide +kernel
theorem d_Edge_comesToACornerTwice_10 : decode b_Edge_comesToACornerTwice 10 = .ok (.iload_n 1, 1) := by decide +kernel
theorem d_Edge_comesToACornerTwice_11 : decode b_Edge_comesToACornerTwice 11 = .ok (.iconst 1, 1) := by decide +kernel
theorem d_Edge_comesToACornerTwice_12 : decode b_Edge_comesToACornerTwice 12 = .ok (.iadd, 1) := by decide +kernel
theorem d_Edge_comesToACornerTwice_13 : decode b_Edge_comesToACornerTwice 13 = .ok (.istore_n 2, 1) := by decide +kernel
theorem d_Edge_comesToACornerTwice_14 : decode b_Edge_comesToACornerTwice 14 = .ok (.iload_n 2, 1) := by decide +kernel
theorem d_Edge_comesToACornerTwice_15 : decode b_Edge_comesToACornerTwice 15 = .ok (.aload_n 0, 1) := by decide +kernel
theorem d_Edge_comesToACornerTwice_16 : decode b_Edge_comesToACornerTwice 16 = .ok (.getfield 24, 3) := by decide +kernel
theorem d_Edge_comesToACornerTwice_19 : decode b_Edge_comesToACornerTwice 19 = .ok (.if_icmp .ge 41, 3) := by decide +kernel
theorem d_Edge_comesToACornerTwice_22 : decode b_Edge_comesToACornerTwice 22 = .ok (.aload_n 0, 1) := by decide +kernel
theorem d_Edge_comesToACornerTwice_23 : decode b_Edge_comesToACornerTwice 23 = .ok (.getfield 18, 3) := by decide +kernel
theorem d_Edge_comesToACornerTwice_26 : decode b_Edge_comesToACornerTwice 26 = .ok (.iload_n 1, 1) := by decide +kernel
theorem d_Edge_comesToACornerTwice_27 : decode b_Edge_comesToACornerTwice 27 = .ok (.iaload, 1) := by decide +kernel
theorem d_Edge_comesToACornerTwice_28 : decode b_Edge_comesToACornerTwice 28 = .ok (.aload_n 0, 1) := by decide +kernel
theorem d_Edge_comesToACornerTwice_29 : decode b_Edge_comesToACornerTwice 29 = .ok (.getfield 18, 3) := by decide +kernel
theorem d_Edge_comesToACornerTwice_32 : decode b_Edge_comesToACornerTwice 32 = .ok (.iload_n 2, 1) := by decide +kernel
theorem d_Edge_comesToACornerTwice_33 : decode b_Edge_comesToACornerTwice 33 = .ok (.iaload, 1) := by decide +kernel
theorem d_Edge_comesToACornerTwice_34 : decode b_Edge_comesToACornerTwice 34 = .ok (.if_icmp .ne 20, 3) := by decide +kernel
theorem d_Edge_comesToACornerTwice_37 : decode b_Edge_comesToACornerTwice 37 = .ok (.aload_n 0, 1) := by decide +kernel
theorem d_Edge_comesToACornerTwice_38 : decode b_Edge_comesToACornerTwice 38 = .ok (.getfield 21, 3) := by decide +kernel
theorem d_Edge_comesToACornerTwice_41 : decode b_Edge_comesToACornerTwice 41 = .ok (.iload_n 1, 1) := by decide +kernel
theorem d_Edge_comesToACornerTwice_42 : decode b_Edge_comesToACornerTwice 42 = .ok (.iaload, 1) := by decide +kernel
theorem d_Edge_comesToACornerTwice_43 : decode b_Edge_comesToACornerTwice 43 = .ok (.aload_n 0, 1) := by decide +kernel
theorem d_Edge_comesToACornerTwice_44 : decode b_Edge_comesToACornerTwice 44 = .ok (.getfield 21, 3) := by decide +kernel
theorem d_Edge_comesToACornerTwice_47 : decode b_Edge_comesToACornerTwice 47 = .ok (.iload_n 2, 1) := by decide +kernel
theorem d_Edge_comesToACornerTwice_48 : decode b_Edge_comesToACornerTwice 48 = .ok (.iaload, 1) := by decide +kernel
theorem d_Edge_comesToACornerTwice_49 : decode b_Edge_comesToACornerTwice 49 = .ok (.if_icmp .ne 5, 3) := by decide +kernel
theorem d_Edge_comesToACornerTwice_52 : decode b_Edge_comesToACornerTwice 52 = .ok (.iconst 1, 1) := by decide +kernel
theorem d_Edge_comesToACornerTwice_53 : decode b_Edge_comesToACornerTwice 53 = .ok (.ireturn, 1) := by decide +kernel
theorem d_Edge_comesToACornerTwice_54 : decode b_Edge_comesToACornerTwice 54 = .ok (.iinc 2 1, 3) := by decide +kernel
theorem d_Edge_comesToACornerTwice_57 : decode b_Edge_comesToACornerTwice 57 = .ok (.goto (-43), 3) := by decide +kernel
theorem d_Edge_comesToACornerTwice_60 : decode b_Edge_comesToACornerTwice 60 = .ok (.iinc 1 1, 3) := by decide +kernel
theorem d_Edge_comesToACornerTwice_63 : decode b_Edge_comesToACornerTwice 63 = .ok (.goto (-61), 3) := by decide +kernel
theorem d_Edge_comesToACornerTwice_66 : decode b_Edge_comesToACornerTwice 66 = .ok (.iconst 0, 1) := by decide +kernel
theorem d_Edge_comesToACornerTwice_67 : decode b_Edge_comesToACornerTwice 67 = .ok (.ireturn, 1) := by decide +kernel
theorem d_Edge_area_0 : decode b_Edge_area 0 = .ok (.iconst 0, 1) := by decide +kernel
theorem d_Edge_area_1 : decode b_Edge_area 1 = .ok (.istore_n 1, 1) := by decide +kernel
theorem d_Edge_area_2 : decode b_Edge_area 2 = .ok (.iconst 0, 1) := by decide +kernel
theorem d_Edge_area_3 : decode b_Edge_area 3 = .ok (.istore_n 2, 1) := by decide +kernel
theorem d_Edge_area_4 : decode b_Edge_area 4 = .ok (.iload_n 2, 1) := by decide +kernel
theorem d_Edge_area_5 : decode b_Edge_area 5 = .ok (.aload_n 0, 1) := by decide +kernel
theorem d_Edge_area_6 : decode b_Edge_area 6 = .ok (.getfield 24, 3) := by decide +kernel
theorem d_Edge_area_9 : decode b_Edge_area 9 = .ok (.if_icmp .ge 31, 3) := by decide +kernel
theorem d_Edge_area_12 : decode b_Edge_area 12 = .ok (.iload_n 1, 1) := by decide +kernel
theorem d_Edge_area_13 : decode b_Edge_area 13 = .ok (.aload_n 0, 1) := by decide +kernel
theorem d_Edge_area_14 : decode b_Edge_area 14 = .ok (.getfield 18, 3) := by decide +kernel
theorem d_Edge_area_17 : decode b_Edge_area 17 = .ok (.iload_n 2, 1) := by decide +kernel
theorem d_Edge_area_18 : decode b_Edge_area 18 = .ok (.iaload, 1) := by decide +kernel
theorem d_Edge_area_19 : decode b_Edge_area 19 = .ok (.getstatic 35, 3) := by decide +kernel
theorem d_Edge_area_22 : decode b_Edge_area 22 = .ok (.aload_n 0, 1) := by decide +kernel
theorem d_Edge_area_23 : decode b_Edge_area 23 = .ok (.getfield 9, 3) := by decide +kernel
theorem d_Edge_area_26 : decode b_Edge_area 26 = .ok (.iload_n 2, 1) := by decide +kernel
theorem d_Edge_area_27 : decode b_Edge_area 27 = .ok (.iaload, 1) := by decide +kernel
theorem d_Edge_area_28 : decode b_Edge_area 28 = .ok (.iconst 3, 1) := by decide +kernel
theorem d_Edge_area_29 : decode b_Edge_area 29 = .ok (.iand, 1) := by decide +kernel
theorem d_Edge_area_30 : decode b_Edge_area 30 = .ok (.iaload, 1) := by decide +kernel
theorem d_Edge_area_31 : decode b_Edge_area 31 = .ok (.imul, 1) := by decide +kernel
theorem d_Edge_area_32 : decode b_Edge_area 32 = .ok (.iadd, 1) := by decide +kernel
theorem d_Edge_area_33 : decode b_Edge_area 33 = .ok (.istore_n 1, 1) := by decide +kernel
theorem d_Edge_area_34 : decode b_Edge_area 34 = .ok (.iinc 2 1, 3) := by decide +kernel
theorem d_Edge_area_37 : decode b_Edge_area 37 = .ok (.goto (-33), 3) := by decide +kernel
theorem d_Edge_area_40 : decode b_Edge_area 40 = .ok (.iload_n 1, 1) := by decide +kernel
theorem d_Edge_area_41 : decode b_Edge_area 41 = .ok (.ireturn, 1) := by decide +kernel
theorem d_Edge_canBeClosed_0 : decode b_Edge_canBeClosed 0 = .ok (.aload_n 0, 1) := by decide +kernel
theorem d_Edge_canBeClosed_1 : decode b_Edge_canBeClosed 1 = .ok (.getfield 24, 3) := by decide +kernel
theorem d_Edge_canBeClosed_4 : decode b_Edge_canBeClosed 4 = .ok (.iconst 4, 1) := by decide +kernel
theorem d_Edge_canBeClosed_5 : decode b_Edge_canBeClosed 5 = .ok (.if_icmp .lt 45, 3) := by decide +kernel
theorem d_Edge_canBeClosed_8 : decode b_Edge_canBeClosed 8 = .ok (.aload_n 0, 1) := by decide +kernel
theorem d_Edge_canBeClosed_9 : decode b_Edge_canBeClosed 9 = .ok (.getfield 18, 3) := by decide +kernel
theorem d_Edge_canBeClosed_12 : decode b_Edge_canBeClosed 12 = .ok (.aload_n 0, 1) := by decide +kernel
theorem d_Edge_canBeClosed_13 : decode b_Edge_canBeClosed 13 = .ok (.getfield 24, 3) := by decide +kernel
theorem d_Edge_canBeClosed_16 : decode b_Edge_canBeClosed 16 = .ok (.iaload, 1) := by decide +kernel
theorem d_Edge_canBeClosed_17 : decode b_Edge_canBeClosed 17 = .ok (.ifCond .ne 33, 3) := by decide +kernel
theorem d_Edge_canBeClosed_20 : decode b_Edge_canBeClosed 20 = .ok (.aload_n 0, 1) := by decide +kernel
theorem d_Edge_canBeClosed_21 : decode b_Edge_canBeClosed 21 = .ok (.getfield 21, 3) := by decide +kernel
theorem d_Edge_canBeClosed_24 : decode b_Edge_canBeClosed 24 = .ok (.aload_n 0, 1) := by decide +kernel
theorem d_Edge_canBeClosed_25 : decode b_Edge_canBeClosed 25 = .ok (.getfield 24, 3) := by decide +kernel
theorem d_Edge_canBeClosed_28 : decode b_Edge_canBeClosed 28 = .ok (.iaload, 1) := by decide +kernel
theorem d_Edge_canBeClosed_29 : decode b_Edge_canBeClosed 29 = .ok (.ifCond .ne 21, 3) := by decide +kernel
theorem d_Edge_canBeClosed_32 : decode b_Edge_canBeClosed 32 = .ok (.aload_n 0, 1) := by decide +kernel
theorem d_Edge_canBeClosed_33 : decode b_Edge_canBeClosed 33 = .ok (.invokevirtual 38, 3) := by decide +kernel
theorem d_Edge_canBeClosed_36 : decode b_Edge_canBeClosed 36 = .ok (.ifCond .ne 14, 3) := by decide +kernel
theorem d_Edge_canBeClosed_39 : decode b_Edge_canBeClosed 39 = .ok (.aload_n 0, 1) := by decide +kernel
theorem d_Edge_canBeClosed_40 : decode b_Edge_canBeClosed 40 = .ok (.invokevirtual 42, 3) := by decide +kernel
theorem d_Edge_canBeClosed_43 : decode b_Edge_canBeClosed 43 = .ok (.ifCond .le 7, 3) := by decide +kernel
theorem d_Edge_canBeClosed_46 : decode b_Edge_canBeClosed 46 = .ok (.iconst 1, 1) := by decide +kernel
theorem d_Edge_canBeClosed_47 : decode b_Edge_canBeClosed 47 = .ok (.goto 4, 3) := by decide +kernel
theorem d_Edge_canBeClosed_50 : decode b_Edge_canBeClosed 50 = .ok (.iconst 0, 1) := by decide +kernel
theorem d_Edge_canBeClosed_51 : decode b_Edge_canBeClosed 51 = .ok (.ireturn, 1) := by decide +kernel
theorem d_X_close_0 : decode b_X_close 0 = .ok (.aload_n 0, 1) := by decide +kernel
theorem d_X_close_1 : decode b_X_close 1 = .ok (.iload_n 1, 1) := by decide +kernel
theorem d_X_close_2 : decode b_X_close 2 = .ok (.invokevirtual 64, 3) := by decide +kernel
theorem d_X_close_5 : decode b_X_close 5 = .ok (.astore_n 2, 1) := by decide +kernel
theorem d_X_close_6 : decode b_X_close 6 = .ok (.aload_n 2, 1) := by decide +kernel
theorem d_X_close_7 : decode b_X_close 7 = .ok (.getfield 68, 3) := by decide +kernel
theorem d_X_close_10 : decode b_X_close 10 = .ok (.ifCond .ne 10, 3) := by decide +kernel
theorem d_X_close_13 : decode b_X_close 13 = .ok (.aload_n 2, 1) := by decide +kernel
theorem d_X_close_14 : decode b_X_close 14 = .ok (.invokevirtual 100, 3) := by decide +kernel
theorem d_X_close_17 : decode b_X_close 17 = .ok (.ifCond .ne 5, 3) := by decide +kernel
theorem d_X_close_20 : decode b_X_close 20 = .ok (.iconst 0, 1) := by decide +kernel
theorem d_X_close_21 : decode b_X_close 21 = .ok (.ireturn, 1) := by decide +kernel
theorem d_X_close_22 : decode b_X_close 22 = .ok (.aload_n 2, 1) := by decide +kernel
theorem d_X_close_23 : decode b_X_close 23 = .ok (.iconst 1, 1) := by decide +kernel
theorem d_X_close_24 : decode b_X_close 24 = .ok (.putfield 68, 3) := by decide +kernel
theorem d_X_close_27 : decode b_X_close 27 = .ok (.aload_n 0, 1) := by decide +kernel
theorem d_X_close_28 : decode b_X_close 28 = .ok (.dup, 1) := by decide +kernel
theorem d_X_close_29 : decode b_X_close 29 = .ok (.getfield 44, 3) := by decide +kernel
theorem d_X_close_32 : decode b_X_close 32 = .ok (.iconst 1, 1) := by decide +kernel
theorem d_X_close_33 : decode b_X_close 33 = .ok (.iadd, 1) := by decide +kernel
theorem d_X_close_34 : decode b_X_close 34 = .ok (.putfield 44, 3) := by decide +kernel
theorem d_X_close_37 : decode b_X_close 37 = .ok (.aload_n 0, 1) := by decide +kernel
theorem d_X_close_38 : decode b_X_close 38 = .ok (.getfield 29, 3) := by decide +kernel
theorem d_X_close_41 : decode b_X_close 41 = .ok (.invokevirtual 97, 3) := by decide +kernel
theorem d_X_close_44 : decode b_X_close 44 = .ok (.aload_n 2, 1) := by decide +kernel
theorem d_X_close_45 : decode b_X_close 45 = .ok (.invokevirtual 104, 3) := by decide +kernel
theorem d_X_close_48 : decode b_X_close 48 = .ok (.ireturn, 1) := by decide +kernel
theorem d_X_least_0 : decode b_X_least 0 = .ok (.iload_n 1, 1) := by decide +kernel
theorem d_X_least_1 : decode b_X_least 1 = .ok (.iconst 2, 1) := by decide +kernel
theorem d_X_least_2 : decode b_X_least 2 = .ok (.if_icmp .lt 9, 3) := by decide +kernel
theorem d_X_least_5 : decode b_X_least 5 = .ok (.iload_n 1, 1) := by decide +kernel
theorem d_X_least_6 : decode b_X_least 6 = .ok (.bipush 20, 2) := by decide +kernel
theorem d_X_least_8 : decode b_X_least 8 = .ok (.if_icmp .le 13, 3) := by decide +kernel
theorem d_X_least_11 : decode b_X_least 11 = .ok (.new 77, 3) := by decide +kernel
theorem d_X_least_14 : decode b_X_least 14 = .ok (.dup, 1) := by decide +kernel
theorem d_X_least_15 : decode b_X_least 15 = .ok (.ldc 108, 2) := by decide +kernel
theorem d_X_least_17 : decode b_X_least 17 = .ok (.invokespecial 81, 3) := by decide +kernel
theorem d_X_least_20 : decode b_X_least 20 = .ok (.athrow, 1) := by decide +kernel
theorem d_X_least_21 : decode b_X_least 21 = .ok (.aload_n 0, 1) := by decide +kernel
theorem d_X_least_22 : decode b_X_least 22 = .ok (.getfield 50, 3) := by decide +kernel
theorem d_X_least_25 : decode b_X_least 25 = .ok (.istore_n 2, 1) := by decide +kernel
theorem d_X_least_26 : decode b_X_least 26 = .ok (.aload_n 0, 1) := by decide +kernel
theorem d_X_least_27 : decode b_X_least 27 = .ok (.iload_n 1, 1) := by decide +kernel
theorem d_X_least_28 : decode b_X_least 28 = .ok (.putfield 50, 3) := by decide +kernel
theorem d_X_least_31 : decode b_X_least 31 = .ok (.aload_n 0, 1) := by decide +kernel
theorem d_X_least_32 : decode b_X_least 32 = .ok (.getfield 29, 3) := by decide +kernel
theorem d_X_least_35 : decode b_X_least 35 = .ok (.invokevirtual 97, 3) := by decide +kernel
theorem d_X_least_38 : decode b_X_least 38 = .ok (.iload_n 2, 1) := by decide +kernel
theorem d_X_least_39 : decode b_X_least 39 = .ok (.ireturn, 1) := by decide +kernel
theorem d_X_bound_0 : decode b_X_bound 0 = .ok (.iload_n 1, 1) := by decide +kernel
theorem d_X_bound_1 : decode b_X_bound 1 = .ok (.ifCond .lt 10, 3) := by decide +kernel
theorem d_X_bound_4 : decode b_X_bound 4 = .ok (.iload_n 1, 1) := by decide +kernel
theorem d_X_bound_5 : decode b_X_bound 5 = .ok (.sipush 9801, 3) := by decide +kernel
theorem d_X_bound_8 : decode b_X_bound 8 = .ok (.if_icmp .le 13, 3) := by decide +kernel
theorem d_X_bound_11 : decode b_X_bound 11 = .ok (.new 77, 3) := by decide +kernel
theorem d_X_bound_14 : decode b_X_bound 14 = .ok (.dup, 1) := by decide +kernel
theorem d_X_bound_15 : decode b_X_bound 15 = .ok (.ldc 110, 2) := by decide +kernel
theorem d_X_bound_17 : decode b_X_bound 17 = .ok (.invokespecial 81, 3) := by decide +kernel
theorem d_X_bound_20 : decode b_X_bound 20 = .ok (.athrow, 1) := by decide +kernel
theorem d_X_bound_21 : decode b_X_bound 21 = .ok (.aload_n 0, 1) := by decide +kernel
theorem d_X_bound_22 : decode b_X_bound 22 = .ok (.getfield 53, 3) := by decide +kernel
theorem d_X_bound_25 : decode b_X_bound 25 = .ok (.istore_n 2, 1) := by decide +kernel
theorem d_X_bound_26 : decode b_X_bound 26 = .ok (.aload_n 0, 1) := by decide +kernel
theorem d_X_bound_27 : decode b_X_bound 27 = .ok (.iload_n 1, 1) := by decide +kernel
theorem d_X_bound_28 : decode b_X_bound 28 = .ok (.putfield 53, 3) := by decide +kernel
theorem d_X_bound_31 : decode b_X_bound 31 = .ok (.aload_n 0, 1) := by decide +kernel
theorem d_X_bound_32 : decode b_X_bound 32 = .ok (.getfield 29, 3) := by decide +kernel
theorem d_X_bound_35 : decode b_X_bound 35 = .ok (.invokevirtual 97, 3) := by decide +kernel
theorem d_X_bound_38 : decode b_X_bound 38 = .ok (.iload_n 2, 1) := by decide +kernel
theorem d_X_bound_39 : decode b_X_bound 39 = .ok (.ireturn, 1) := by decide +kernel
theorem d_Edge_before_0 : decode b_Edge_before 0 = .ok (.iload_n 1, 1) := by decide +kernel
theorem d_Edge_before_1 : decode b_Edge_before 1 = .ok (.ifCond .le 9, 3) := by decide +kernel
theorem d_Edge_before_4 : decode b_Edge_before 4 = .ok (.iload_n 1, 1) := by decide +kernel
theorem d_Edge_before_5 : decode b_Edge_before 5 = .ok (.iconst 1, 1) := by decide +kernel
theorem d_Edge_before_6 : decode b_Edge_before 6 = .ok (.isub, 1) := by decide +kernel
theorem d_Edge_before_7 : decode b_Edge_before 7 = .ok (.goto 9, 3) := by decide +kernel
theorem d_Edge_before_10 : decode b_Edge_before 10 = .ok (.aload_n 0, 1) := by decide +kernel
theorem d_Edge_before_11 : decode b_Edge_before 11 = .ok (.getfield 24, 3) := by decide +kernel
theorem d_Edge_before_14 : decode b_Edge_before 14 = .ok (.iconst 1, 1) := by decide +kernel
theorem d_Edge_before_15 : decode b_Edge_before 15 = .ok (.isub, 1) := by decide +kernel
theorem d_Edge_before_16 : decode b_Edge_before 16 = .ok (.ireturn, 1) := by decide +kernel
theorem d_Edge_after_0 : decode b_Edge_after 0 = .ok (.iload_n 1, 1) := by decide +kernel
theorem d_Edge_after_1 : decode b_Edge_after 1 = .ok (.iconst 1, 1) := by decide +kernel
theorem d_Edge_after_2 : decode b_Edge_after 2 = .ok (.iadd, 1) := by decide +kernel
theorem d_Edge_after_3 : decode b_Edge_after 3 = .ok (.aload_n 0, 1) := by decide +kernel
theorem d_Edge_after_4 : decode b_Edge_after 4 = .ok (.getfield 24, 3) := by decide +kernel
theorem d_Edge_after_7 : decode b_Edge_after 7 = .ok (.if_icmp .ge 9, 3) := by decide +kernel
theorem d_Edge_after_10 : decode b_Edge_after 10 = .ok (.iload_n 1, 1) := by decide +kernel
theorem d_Edge_after_11 : decode b_Edge_after 11 = .ok (.iconst 1, 1) := by decide +kernel
theorem d_Edge_after_12 : decode b_Edge_after 12 = .ok (.iadd, 1) := by decide +kernel
theorem d_Edge_after_13 : decode b_Edge_after 13 = .ok (.goto 4, 3) := by decide +kernel
theorem d_Edge_after_16 : decode b_Edge_after 16 = .ok (.iconst 0, 1) := by decide +kernel
theorem d_Edge_after_17 : decode b_Edge_after 17 = .ok (.ireturn, 1) := by decide +kernel
theorem d_X_contrary_0 : decode b_X_contrary 0 = .ok (.iload_n 1, 1) := by decide +kernel
theorem d_X_contrary_1 : decode b_X_contrary 1 = .ok (.iload_n 2, 1) := by decide +kernel
theorem d_X_contrary_2 : decode b_X_contrary 2 = .ok (.iadd, 1) := by decide +kernel
theorem d_X_contrary_3 : decode b_X_contrary 3 = .ok (.iconst 3, 1) := by decide +kernel
theorem d_X_contrary_4 : decode b_X_contrary 4 = .ok (.iand, 1) := by decide +kernel
theorem d_X_contrary_5 : decode b_X_contrary 5 = .ok (.iload_n 0, 1) := by decide +kernel
theorem d_X_contrary_6 : decode b_X_contrary 6 = .ok (.iconst 2, 1) := by decide +kernel
theorem d_X_contrary_7 : decode b_X_contrary 7 = .ok (.iadd, 1) := by decide +kernel
theorem d_X_contrary_8 : decode b_X_contrary 8 = .ok (.iconst 3, 1) := by decide +kernel
theorem d_X_contrary_9 : decode b_X_contrary 9 = .ok (.iand, 1) := by decide +kernel
theorem d_X_contrary_10 : decode b_X_contrary 10 = .ok (.if_icmp .ne 7, 3) := by decide +kernel
theorem d_X_contrary_13 : decode b_X_contrary 13 = .ok (.iconst 1, 1) := by decide +kernel
theorem d_X_contrary_14 : decode b_X_contrary 14 = .ok (.goto 4, 3) := by decide +kernel
theorem d_X_contrary_17 : decode b_X_contrary 17 = .ok (.iconst 0, 1) := by decide +kernel
theorem d_X_contrary_18 : decode b_X_contrary 18 = .ok (.ireturn, 1) := by decide +kernel
theorem d_X_stretch_0 : decode b_X_stretch 0 = .ok (.aload_n 0, 1) := by decide +kernel
theorem d_X_stretch_1 : decode b_X_stretch 1 = .ok (.getfield 72, 3) := by decide +kernel
theorem d_X_stretch_4 : decode b_X_stretch 4 = .ok (.aload_n 2, 1) := by decide +kernel
theorem d_X_stretch_5 : decode b_X_stretch 5 = .ok (.getfield 72, 3) := by decide +kernel
theorem d_X_stretch_8 : decode b_X_stretch 8 = .ok (.invokestatic 239, 3) := by decide +kernel
theorem d_X_stretch_11 : decode b_X_stretch 11 = .ok (.istore 5, 2) := by decide +kernel
theorem d_X_stretch_13 : decode b_X_stretch 13 = .ok (.iconst 0, 1) := by decide +kernel
theorem d_X_stretch_14 : decode b_X_stretch 14 = .ok (.istore 6, 2) := by decide +kernel
theorem d_X_stretch_16 : decode b_X_stretch 16 = .ok (.iload 6, 2) := by decide +kernel
theorem d_X_stretch_18 : decode b_X_stretch 18 = .ok (.iload 5, 2) := by decide +kernel
theorem d_X_stretch_20 : decode b_X_stretch 20 = .ok (.if_icmp .ge 41, 3) := by decide +kernel
theorem d_X_stretch_23 : decode b_X_stretch 23 = .ok (.aload_n 0, 1) := by decide +kernel
theorem d_X_stretch_24 : decode b_X_stretch 24 = .ok (.getfield 214, 3) := by decide +kernel
theorem d_X_stretch_27 : decode b_X_stretch 27 = .ok (.iload_n 1, 1) := by decide +kernel
theorem d_X_stretch_28 : decode b_X_stretch 28 = .ok (.iaload, 1) := by decide +kernel
theorem d_X_stretch_29 : decode b_X_stretch 29 = .ok (.aload_n 2, 1) := by decide +kernel
theorem d_X_stretch_30 : decode b_X_stretch 30 = .ok (.getfield 214, 3) := by decide +kernel
theorem d_X_stretch_33 : decode b_X_stretch 33 = .ok (.iload_n 3, 1) := by decide +kernel
theorem d_X_stretch_34 : decode b_X_stretch 34 = .ok (.iaload, 1) := by decide +kernel
theorem d_X_stretch_35 : decode b_X_stretch 35 = .ok (.iload 4, 2) := by decide +kernel
theorem d_X_stretch_37 : decode b_X_stretch 37 = .ok (.invokestatic 224, 3) := by decide +kernel
theorem d_X_stretch_40 : decode b_X_stretch 40 = .ok (.ifCond .eq 21, 3) := by decide +kernel
theorem d_X_stretch_43 : decode b_X_stretch 43 = .ok (.iinc 6 1, 3) := by decide +kernel
theorem d_X_stretch_46 : decode b_X_stretch 46 = .ok (.aload_n 0, 1) := by decide +kernel
theorem d_X_stretch_47 : decode b_X_stretch 47 = .ok (.iload_n 1, 1) := by decide +kernel
theorem d_X_stretch_48 : decode b_X_stretch 48 = .ok (.invokevirtual 221, 3) := by decide +kernel
theorem d_X_stretch_51 : decode b_X_stretch 51 = .ok (.istore_n 1, 1) := by decide +kernel
theorem d_X_stretch_52 : decode b_X_stretch 52 = .ok (.aload_n 2, 1) := by decide +kernel
theorem d_X_stretch_53 : decode b_X_stretch 53 = .ok (.iload_n 3, 1) := by decide +kernel
theorem d_X_stretch_54 : decode b_X_stretch 54 = .ok (.invokevirtual 217, 3) := by decide +kernel
theorem d_X_stretch_57 : decode b_X_stretch 57 = .ok (.istore_n 3, 1) := by decide +kernel
theorem d_X_stretch_58 : decode b_X_stretch 58 = .ok (.goto (-42), 3) := by decide +kernel
theorem d_X_stretch_61 : decode b_X_stretch 61 = .ok (.iload 6, 2) := by decide +kernel
theorem d_X_stretch_63 : decode b_X_stretch 63 = .ok (.ireturn, 1) := by decide +kernel
