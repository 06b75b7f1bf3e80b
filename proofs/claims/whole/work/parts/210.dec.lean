theorem d_Model_holes_0 : decode b_Model_holes 0 = .ok (.aload_n 0, 1) := by decide +kernel
theorem d_Model_holes_1 : decode b_Model_holes 1 = .ok (.aload_n 0, 1) := by decide +kernel
theorem d_Model_holes_2 : decode b_Model_holes 2 = .ok (.iload_n 1, 1) := by decide +kernel
theorem d_Model_holes_3 : decode b_Model_holes 3 = .ok (.invokevirtual 71, 3) := by decide +kernel
theorem d_Model_holes_6 : decode b_Model_holes 6 = .ok (.ifCond .ne 7, 3) := by decide +kernel
theorem d_Model_holes_9 : decode b_Model_holes 9 = .ok (.iconst 1, 1) := by decide +kernel
theorem d_Model_holes_10 : decode b_Model_holes 10 = .ok (.goto 4, 3) := by decide +kernel
theorem d_Model_holes_13 : decode b_Model_holes 13 = .ok (.iconst 0, 1) := by decide +kernel
theorem d_Model_holes_14 : decode b_Model_holes 14 = .ok (.iconst 0, 1) := by decide +kernel
theorem d_Model_holes_15 : decode b_Model_holes 15 = .ok (.iconst 0, 1) := by decide +kernel
theorem d_Model_holes_16 : decode b_Model_holes 16 = .ok (.invokevirtual 67, 3) := by decide +kernel
theorem d_Model_holes_19 : decode b_Model_holes 19 = .ok (.ifCond .eq 5, 3) := by decide +kernel
theorem d_Model_holes_22 : decode b_Model_holes 22 = .ok (.iconst 0, 1) := by decide +kernel
theorem d_Model_holes_23 : decode b_Model_holes 23 = .ok (.ireturn, 1) := by decide +kernel
theorem d_Model_holes_24 : decode b_Model_holes 24 = .ok (.aload_n 0, 1) := by decide +kernel
theorem d_Model_holes_25 : decode b_Model_holes 25 = .ok (.getfield 19, 3) := by decide +kernel
theorem d_Model_holes_28 : decode b_Model_holes 28 = .ok (.iload_n 1, 1) := by decide +kernel
theorem d_Model_holes_29 : decode b_Model_holes 29 = .ok (.baload, 1) := by decide +kernel
theorem d_Model_holes_30 : decode b_Model_holes 30 = .ok (.ifCond .ne 5, 3) := by decide +kernel
theorem d_Model_holes_33 : decode b_Model_holes 33 = .ok (.iconst 0, 1) := by decide +kernel
theorem d_Model_holes_34 : decode b_Model_holes 34 = .ok (.ireturn, 1) := by decide +kernel
theorem d_Model_holes_35 : decode b_Model_holes 35 = .ok (.iconst 0, 1) := by decide +kernel
theorem d_Model_holes_36 : decode b_Model_holes 36 = .ok (.istore_n 2, 1) := by decide +kernel
theorem d_Model_holes_37 : decode b_Model_holes 37 = .ok (.iload_n 2, 1) := by decide +kernel
theorem d_Model_holes_38 : decode b_Model_holes 38 = .ok (.sipush 8100, 3) := by decide +kernel
theorem d_Model_holes_41 : decode b_Model_holes 41 = .ok (.if_icmp .ge 16, 3) := by decide +kernel
theorem d_Model_holes_44 : decode b_Model_holes 44 = .ok (.aload_n 0, 1) := by decide +kernel
theorem d_Model_holes_45 : decode b_Model_holes 45 = .ok (.getfield 54, 3) := by decide +kernel
theorem d_Model_holes_48 : decode b_Model_holes 48 = .ok (.iload_n 2, 1) := by decide +kernel
theorem d_Model_holes_49 : decode b_Model_holes 49 = .ok (.iconst 0, 1) := by decide +kernel
theorem d_Model_holes_50 : decode b_Model_holes 50 = .ok (.iastore, 1) := by decide +kernel
theorem d_Model_holes_51 : decode b_Model_holes 51 = .ok (.iinc 2 1, 3) := by decide +kernel
theorem d_Model_holes_54 : decode b_Model_holes 54 = .ok (.goto (-17), 3) := by decide +kernel
theorem d_Model_holes_57 : decode b_Model_holes 57 = .ok (.aload_n 0, 1) := by decide +kernel
theorem d_Model_holes_58 : decode b_Model_holes 58 = .ok (.aload_n 0, 1) := by decide +kernel
theorem d_Model_holes_59 : decode b_Model_holes 59 = .ok (.getfield 45, 3) := by decide +kernel
theorem d_Model_holes_62 : decode b_Model_holes 62 = .ok (.iconst 4, 1) := by decide +kernel
theorem d_Model_holes_63 : decode b_Model_holes 63 = .ok (.iload_n 1, 1) := by decide +kernel
theorem d_Model_holes_64 : decode b_Model_holes 64 = .ok (.imul, 1) := by decide +kernel
theorem d_Model_holes_65 : decode b_Model_holes 65 = .ok (.iconst 3, 1) := by decide +kernel
theorem d_Model_holes_66 : decode b_Model_holes 66 = .ok (.iadd, 1) := by decide +kernel
theorem d_Model_holes_67 : decode b_Model_holes 67 = .ok (.iaload, 1) := by decide +kernel
theorem d_Model_holes_68 : decode b_Model_holes 68 = .ok (.invokevirtual 172, 3) := by decide +kernel
theorem d_Model_holes_71 : decode b_Model_holes 71 = .ok (.aload_n 0, 1) := by decide +kernel
theorem d_Model_holes_72 : decode b_Model_holes 72 = .ok (.invokevirtual 175, 3) := by decide +kernel
theorem d_Model_holes_75 : decode b_Model_holes 75 = .ok (.iconst 0, 1) := by decide +kernel
theorem d_Model_holes_76 : decode b_Model_holes 76 = .ok (.istore_n 2, 1) := by decide +kernel
theorem d_Model_holes_77 : decode b_Model_holes 77 = .ok (.iconst 0, 1) := by decide +kernel
theorem d_Model_holes_78 : decode b_Model_holes 78 = .ok (.istore_n 3, 1) := by decide +kernel
theorem d_Model_holes_79 : decode b_Model_holes 79 = .ok (.iload_n 3, 1) := by decide +kernel
theorem d_Model_holes_80 : decode b_Model_holes 80 = .ok (.sipush 8100, 3) := by decide +kernel
theorem d_Model_holes_83 : decode b_Model_holes 83 = .ok (.if_icmp .ge 26, 3) := by decide +kernel
theorem d_Model_holes_86 : decode b_Model_holes 86 = .ok (.iload_n 2, 1) := by decide +kernel
theorem d_Model_holes_87 : decode b_Model_holes 87 = .ok (.aload_n 0, 1) := by decide +kernel
theorem d_Model_holes_88 : decode b_Model_holes 88 = .ok (.getfield 54, 3) := by decide +kernel
theorem d_Model_holes_91 : decode b_Model_holes 91 = .ok (.iload_n 3, 1) := by decide +kernel
theorem d_Model_holes_92 : decode b_Model_holes 92 = .ok (.iaload, 1) := by decide +kernel
theorem d_Model_holes_93 : decode b_Model_holes 93 = .ok (.ifCond .ne 7, 3) := by decide +kernel
theorem d_Model_holes_96 : decode b_Model_holes 96 = .ok (.iconst 1, 1) := by decide +kernel
theorem d_Model_holes_97 : decode b_Model_holes 97 = .ok (.goto 4, 3) := by decide +kernel
theorem d_Model_holes_100 : decode b_Model_holes 100 = .ok (.iconst 0, 1) := by decide +kernel
theorem d_Model_holes_101 : decode b_Model_holes 101 = .ok (.iadd, 1) := by decide +kernel
theorem d_Model_holes_102 : decode b_Model_holes 102 = .ok (.istore_n 2, 1) := by decide +kernel
theorem d_Model_holes_103 : decode b_Model_holes 103 = .ok (.iinc 3 1, 3) := by decide +kernel
theorem d_Model_holes_106 : decode b_Model_holes 106 = .ok (.goto (-27), 3) := by decide +kernel
theorem d_Model_holes_109 : decode b_Model_holes 109 = .ok (.iload_n 2, 1) := by decide +kernel
theorem d_Model_holes_110 : decode b_Model_holes 110 = .ok (.ireturn, 1) := by decide +kernel
theorem d_Model_count_0 : decode b_Model_count 0 = .ok (.aload_n 0, 1) := by decide +kernel
theorem d_Model_count_1 : decode b_Model_count 1 = .ok (.iload_n 1, 1) := by decide +kernel
theorem d_Model_count_2 : decode b_Model_count 2 = .ok (.iconst 0, 1) := by decide +kernel
theorem d_Model_count_3 : decode b_Model_count 3 = .ok (.iconst 3, 1) := by decide +kernel
theorem d_Model_count_4 : decode b_Model_count 4 = .ok (.invokestatic 63, 3) := by decide +kernel
theorem d_Model_count_7 : decode b_Model_count 7 = .ok (.ifCond .ne 7, 3) := by decide +kernel
theorem d_Model_count_10 : decode b_Model_count 10 = .ok (.iconst 1, 1) := by decide +kernel
theorem d_Model_count_11 : decode b_Model_count 11 = .ok (.goto 4, 3) := by decide +kernel
theorem d_Model_count_14 : decode b_Model_count 14 = .ok (.iconst 0, 1) := by decide +kernel
theorem d_Model_count_15 : decode b_Model_count 15 = .ok (.iconst 0, 1) := by decide +kernel
theorem d_Model_count_16 : decode b_Model_count 16 = .ok (.iconst 0, 1) := by decide +kernel
theorem d_Model_count_17 : decode b_Model_count 17 = .ok (.invokevirtual 67, 3) := by decide +kernel
theorem d_Model_count_20 : decode b_Model_count 20 = .ok (.ifCond .eq 5, 3) := by decide +kernel
theorem d_Model_count_23 : decode b_Model_count 23 = .ok (.iconst 0, 1) := by decide +kernel
theorem d_Model_count_24 : decode b_Model_count 24 = .ok (.ireturn, 1) := by decide +kernel
theorem d_Model_count_25 : decode b_Model_count 25 = .ok (.iconst 0, 1) := by decide +kernel
theorem d_Model_count_26 : decode b_Model_count 26 = .ok (.istore_n 2, 1) := by decide +kernel
theorem d_Model_count_27 : decode b_Model_count 27 = .ok (.iconst 0, 1) := by decide +kernel
theorem d_Model_count_28 : decode b_Model_count 28 = .ok (.istore_n 3, 1) := by decide +kernel
theorem d_Model_count_29 : decode b_Model_count 29 = .ok (.iload_n 3, 1) := by decide +kernel
theorem d_Model_count_30 : decode b_Model_count 30 = .ok (.aload_n 0, 1) := by decide +kernel
theorem d_Model_count_31 : decode b_Model_count 31 = .ok (.getfield 60, 3) := by decide +kernel
theorem d_Model_count_34 : decode b_Model_count 34 = .ok (.if_icmp .ge 26, 3) := by decide +kernel
theorem d_Model_count_37 : decode b_Model_count 37 = .ok (.iload_n 2, 1) := by decide +kernel
theorem d_Model_count_38 : decode b_Model_count 38 = .ok (.aload_n 0, 1) := by decide +kernel
theorem d_Model_count_39 : decode b_Model_count 39 = .ok (.getfield 19, 3) := by decide +kernel
theorem d_Model_count_42 : decode b_Model_count 42 = .ok (.iload_n 3, 1) := by decide +kernel
theorem d_Model_count_43 : decode b_Model_count 43 = .ok (.baload, 1) := by decide +kernel
theorem d_Model_count_44 : decode b_Model_count 44 = .ok (.ifCond .eq 7, 3) := by decide +kernel
theorem d_Model_count_47 : decode b_Model_count 47 = .ok (.iconst 1, 1) := by decide +kernel
theorem d_Model_count_48 : decode b_Model_count 48 = .ok (.goto 4, 3) := by decide +kernel
theorem d_Model_count_51 : decode b_Model_count 51 = .ok (.iconst 0, 1) := by decide +kernel
theorem d_Model_count_52 : decode b_Model_count 52 = .ok (.iadd, 1) := by decide +kernel
theorem d_Model_count_53 : decode b_Model_count 53 = .ok (.istore_n 2, 1) := by decide +kernel
theorem d_Model_count_54 : decode b_Model_count 54 = .ok (.iinc 3 1, 3) := by decide +kernel
theorem d_Model_count_57 : decode b_Model_count 57 = .ok (.goto (-28), 3) := by decide +kernel
theorem d_Model_count_60 : decode b_Model_count 60 = .ok (.iload_n 1, 1) := by decide +kernel
theorem d_Model_count_61 : decode b_Model_count 61 = .ok (.ifCond .ne 10, 3) := by decide +kernel
theorem d_Model_count_64 : decode b_Model_count 64 = .ok (.aload_n 0, 1) := by decide +kernel
theorem d_Model_count_65 : decode b_Model_count 65 = .ok (.getfield 60, 3) := by decide +kernel
theorem d_Model_count_68 : decode b_Model_count 68 = .ok (.goto 39, 3) := by decide +kernel
theorem d_Model_count_71 : decode b_Model_count 71 = .ok (.iload_n 1, 1) := by decide +kernel
theorem d_Model_count_72 : decode b_Model_count 72 = .ok (.iconst 1, 1) := by decide +kernel
theorem d_Model_count_73 : decode b_Model_count 73 = .ok (.if_icmp .ne 7, 3) := by decide +kernel
theorem d_Model_count_76 : decode b_Model_count 76 = .ok (.iload_n 2, 1) := by decide +kernel
theorem d_Model_count_77 : decode b_Model_count 77 = .ok (.goto 30, 3) := by decide +kernel
theorem d_Model_count_80 : decode b_Model_count 80 = .ok (.iload_n 1, 1) := by decide +kernel
theorem d_Model_count_81 : decode b_Model_count 81 = .ok (.iconst 2, 1) := by decide +kernel
theorem d_Model_count_82 : decode b_Model_count 82 = .ok (.if_icmp .ne 21, 3) := by decide +kernel
theorem d_Model_count_85 : decode b_Model_count 85 = .ok (.aload_n 0, 1) := by decide +kernel
theorem d_Model_count_86 : decode b_Model_count 86 = .ok (.getfield 75, 3) := by decide +kernel
theorem d_Model_count_89 : decode b_Model_count 89 = .ok (.ifCond .eq 10, 3) := by decide +kernel
theorem d_Model_count_92 : decode b_Model_count 92 = .ok (.aload_n 0, 1) := by decide +kernel
theorem d_Model_count_93 : decode b_Model_count 93 = .ok (.getfield 120, 3) := by decide +kernel
theorem d_Model_count_96 : decode b_Model_count 96 = .ok (.goto 11, 3) := by decide +kernel
theorem d_Model_count_99 : decode b_Model_count 99 = .ok (.iconst 0, 1) := by decide +kernel
theorem d_Model_count_100 : decode b_Model_count 100 = .ok (.goto 7, 3) := by decide +kernel
theorem d_Model_count_103 : decode b_Model_count 103 = .ok (.aload_n 0, 1) := by decide +kernel
theorem d_Model_count_104 : decode b_Model_count 104 = .ok (.getfield 160, 3) := by decide +kernel
theorem d_Model_count_107 : decode b_Model_count 107 = .ok (.ireturn, 1) := by decide +kernel
