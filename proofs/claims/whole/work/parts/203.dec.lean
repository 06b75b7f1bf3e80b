theorem d_Board_lay_0 : decode b_Board_lay 0 = .ok (.aload_n 0, 1) := by decide +kernel
theorem d_Board_lay_1 : decode b_Board_lay 1 = .ok (.aload_n 1, 1) := by decide +kernel
theorem d_Board_lay_2 : decode b_Board_lay 2 = .ok (.aload_n 2, 1) := by decide +kernel
theorem d_Board_lay_3 : decode b_Board_lay 3 = .ok (.iload_n 3, 1) := by decide +kernel
theorem d_Board_lay_4 : decode b_Board_lay 4 = .ok (.invokevirtual 18, 3) := by decide +kernel
theorem d_Board_lay_7 : decode b_Board_lay 7 = .ok (.iconst 0, 1) := by decide +kernel
theorem d_Board_lay_8 : decode b_Board_lay 8 = .ok (.istore 4, 2) := by decide +kernel
theorem d_Board_lay_10 : decode b_Board_lay 10 = .ok (.iload 4, 2) := by decide +kernel
theorem d_Board_lay_12 : decode b_Board_lay 12 = .ok (.aload_n 0, 1) := by decide +kernel
theorem d_Board_lay_13 : decode b_Board_lay 13 = .ok (.getfield 22, 3) := by decide +kernel
theorem d_Board_lay_16 : decode b_Board_lay 16 = .ok (.if_icmp .ge 17, 3) := by decide +kernel
theorem d_Board_lay_19 : decode b_Board_lay 19 = .ok (.aload_n 0, 1) := by decide +kernel
theorem d_Board_lay_20 : decode b_Board_lay 20 = .ok (.getfield 11, 3) := by decide +kernel
theorem d_Board_lay_23 : decode b_Board_lay 23 = .ok (.iload 4, 2) := by decide +kernel
theorem d_Board_lay_25 : decode b_Board_lay 25 = .ok (.iconst 0, 1) := by decide +kernel
theorem d_Board_lay_26 : decode b_Board_lay 26 = .ok (.iastore, 1) := by decide +kernel
theorem d_Board_lay_27 : decode b_Board_lay 27 = .ok (.iinc 4 1, 3) := by decide +kernel
theorem d_Board_lay_30 : decode b_Board_lay 30 = .ok (.goto (-20), 3) := by decide +kernel
theorem d_Board_lay_33 : decode b_Board_lay 33 = .ok (.iconst 0, 1) := by decide +kernel
theorem d_Board_lay_34 : decode b_Board_lay 34 = .ok (.istore 4, 2) := by decide +kernel
theorem d_Board_lay_36 : decode b_Board_lay 36 = .ok (.iload 4, 2) := by decide +kernel
theorem d_Board_lay_38 : decode b_Board_lay 38 = .ok (.bipush 6, 2) := by decide +kernel
theorem d_Board_lay_40 : decode b_Board_lay 40 = .ok (.if_icmp .ge 31, 3) := by decide +kernel
theorem d_Board_lay_43 : decode b_Board_lay 43 = .ok (.aload_n 2, 1) := by decide +kernel
theorem d_Board_lay_44 : decode b_Board_lay 44 = .ok (.getfield 26, 3) := by decide +kernel
theorem d_Board_lay_47 : decode b_Board_lay 47 = .ok (.iload 4, 2) := by decide +kernel
theorem d_Board_lay_49 : decode b_Board_lay 49 = .ok (.iaload, 1) := by decide +kernel
theorem d_Board_lay_50 : decode b_Board_lay 50 = .ok (.iload_n 3, 1) := by decide +kernel
theorem d_Board_lay_51 : decode b_Board_lay 51 = .ok (.if_icmp .ne 14, 3) := by decide +kernel
theorem d_Board_lay_54 : decode b_Board_lay 54 = .ok (.aload_n 0, 1) := by decide +kernel
theorem d_Board_lay_55 : decode b_Board_lay 55 = .ok (.aload_n 1, 1) := by decide +kernel
theorem d_Board_lay_56 : decode b_Board_lay 56 = .ok (.iload 4, 2) := by decide +kernel
theorem d_Board_lay_58 : decode b_Board_lay 58 = .ok (.aaload, 1) := by decide +kernel
theorem d_Board_lay_59 : decode b_Board_lay 59 = .ok (.aload_n 2, 1) := by decide +kernel
theorem d_Board_lay_60 : decode b_Board_lay 60 = .ok (.iload 4, 2) := by decide +kernel
theorem d_Board_lay_62 : decode b_Board_lay 62 = .ok (.invokevirtual 31, 3) := by decide +kernel
theorem d_Board_lay_65 : decode b_Board_lay 65 = .ok (.iinc 4 1, 3) := by decide +kernel
theorem d_Board_lay_68 : decode b_Board_lay 68 = .ok (.goto (-32), 3) := by decide +kernel
theorem d_Board_lay_71 : decode b_Board_lay 71 = .ok (.iconst 1, 1) := by decide +kernel
theorem d_Board_lay_72 : decode b_Board_lay 72 = .ok (.istore 4, 2) := by decide +kernel
theorem d_Board_lay_74 : decode b_Board_lay 74 = .ok (.iload 4, 2) := by decide +kernel
theorem d_Board_lay_76 : decode b_Board_lay 76 = .ok (.aload_n 0, 1) := by decide +kernel
theorem d_Board_lay_77 : decode b_Board_lay 77 = .ok (.getfield 22, 3) := by decide +kernel
theorem d_Board_lay_80 : decode b_Board_lay 80 = .ok (.if_icmp .ge 28, 3) := by decide +kernel
theorem d_Board_lay_83 : decode b_Board_lay 83 = .ok (.aload_n 0, 1) := by decide +kernel
theorem d_Board_lay_84 : decode b_Board_lay 84 = .ok (.getfield 11, 3) := by decide +kernel
theorem d_Board_lay_87 : decode b_Board_lay 87 = .ok (.iload 4, 2) := by decide +kernel
theorem d_Board_lay_89 : decode b_Board_lay 89 = .ok (.dup2, 1) := by decide +kernel
theorem d_Board_lay_90 : decode b_Board_lay 90 = .ok (.iaload, 1) := by decide +kernel
theorem d_Board_lay_91 : decode b_Board_lay 91 = .ok (.aload_n 0, 1) := by decide +kernel
theorem d_Board_lay_92 : decode b_Board_lay 92 = .ok (.getfield 11, 3) := by decide +kernel
theorem d_Board_lay_95 : decode b_Board_lay 95 = .ok (.iload 4, 2) := by decide +kernel
theorem d_Board_lay_97 : decode b_Board_lay 97 = .ok (.iconst 1, 1) := by decide +kernel
theorem d_Board_lay_98 : decode b_Board_lay 98 = .ok (.isub, 1) := by decide +kernel
theorem d_Board_lay_99 : decode b_Board_lay 99 = .ok (.iaload, 1) := by decide +kernel
theorem d_Board_lay_100 : decode b_Board_lay 100 = .ok (.iadd, 1) := by decide +kernel
theorem d_Board_lay_101 : decode b_Board_lay 101 = .ok (.iastore, 1) := by decide +kernel
theorem d_Board_lay_102 : decode b_Board_lay 102 = .ok (.iinc 4 1, 3) := by decide +kernel
theorem d_Board_lay_105 : decode b_Board_lay 105 = .ok (.goto (-31), 3) := by decide +kernel
theorem d_Board_lay_108 : decode b_Board_lay 108 = .ok (.return_, 1) := by decide +kernel
theorem d_Board_hasOverlap_0 : decode b_Board_hasOverlap 0 = .ok (.iconst 0, 1) := by decide +kernel
theorem d_Board_hasOverlap_1 : decode b_Board_hasOverlap 1 = .ok (.istore_n 1, 1) := by decide +kernel
theorem d_Board_hasOverlap_2 : decode b_Board_hasOverlap 2 = .ok (.iload_n 1, 1) := by decide +kernel
theorem d_Board_hasOverlap_3 : decode b_Board_hasOverlap 3 = .ok (.aload_n 0, 1) := by decide +kernel
theorem d_Board_hasOverlap_4 : decode b_Board_hasOverlap 4 = .ok (.getfield 22, 3) := by decide +kernel
theorem d_Board_hasOverlap_7 : decode b_Board_hasOverlap 7 = .ok (.if_icmp .ge 21, 3) := by decide +kernel
theorem d_Board_hasOverlap_10 : decode b_Board_hasOverlap 10 = .ok (.aload_n 0, 1) := by decide +kernel
theorem d_Board_hasOverlap_11 : decode b_Board_hasOverlap 11 = .ok (.getfield 11, 3) := by decide +kernel
theorem d_Board_hasOverlap_14 : decode b_Board_hasOverlap 14 = .ok (.iload_n 1, 1) := by decide +kernel
theorem d_Board_hasOverlap_15 : decode b_Board_hasOverlap 15 = .ok (.iaload, 1) := by decide +kernel
theorem d_Board_hasOverlap_16 : decode b_Board_hasOverlap 16 = .ok (.iconst 1, 1) := by decide +kernel
theorem d_Board_hasOverlap_17 : decode b_Board_hasOverlap 17 = .ok (.if_icmp .le 5, 3) := by decide +kernel
theorem d_Board_hasOverlap_20 : decode b_Board_hasOverlap 20 = .ok (.iconst 1, 1) := by decide +kernel
theorem d_Board_hasOverlap_21 : decode b_Board_hasOverlap 21 = .ok (.ireturn, 1) := by decide +kernel
theorem d_Board_hasOverlap_22 : decode b_Board_hasOverlap 22 = .ok (.iinc 1 1, 3) := by decide +kernel
theorem d_Board_hasOverlap_25 : decode b_Board_hasOverlap 25 = .ok (.goto (-23), 3) := by decide +kernel
theorem d_Board_hasOverlap_28 : decode b_Board_hasOverlap 28 = .ok (.iconst 0, 1) := by decide +kernel
theorem d_Board_hasOverlap_29 : decode b_Board_hasOverlap 29 = .ok (.ireturn, 1) := by decide +kernel
theorem d_X_tryToJoin_0 : decode b_X_tryToJoin 0 = .ok (.aload_n 0, 1) := by decide +kernel
theorem d_X_tryToJoin_1 : decode b_X_tryToJoin 1 = .ok (.getfield 47, 3) := by decide +kernel
theorem d_X_tryToJoin_4 : decode b_X_tryToJoin 4 = .ok (.aload_n 0, 1) := by decide +kernel
theorem d_X_tryToJoin_5 : decode b_X_tryToJoin 5 = .ok (.getfield 22, 3) := by decide +kernel
theorem d_X_tryToJoin_8 : decode b_X_tryToJoin 8 = .ok (.arraylength, 1) := by decide +kernel
theorem d_X_tryToJoin_9 : decode b_X_tryToJoin 9 = .ok (.if_icmp .lt 5, 3) := by decide +kernel
theorem d_X_tryToJoin_12 : decode b_X_tryToJoin 12 = .ok (.iconst 1, 1) := by decide +kernel
theorem d_X_tryToJoin_13 : decode b_X_tryToJoin 13 = .ok (.ireturn, 1) := by decide +kernel
theorem d_X_tryToJoin_14 : decode b_X_tryToJoin 14 = .ok (.aload_n 0, 1) := by decide +kernel
theorem d_X_tryToJoin_15 : decode b_X_tryToJoin 15 = .ok (.getfield 22, 3) := by decide +kernel
theorem d_X_tryToJoin_18 : decode b_X_tryToJoin 18 = .ok (.aload_n 0, 1) := by decide +kernel
theorem d_X_tryToJoin_19 : decode b_X_tryToJoin 19 = .ok (.getfield 47, 3) := by decide +kernel
theorem d_X_tryToJoin_22 : decode b_X_tryToJoin 22 = .ok (.aaload, 1) := by decide +kernel
theorem d_X_tryToJoin_23 : decode b_X_tryToJoin 23 = .ok (.aload_n 0, 1) := by decide +kernel
theorem d_X_tryToJoin_24 : decode b_X_tryToJoin 24 = .ok (.getfield 18, 3) := by decide +kernel
theorem d_X_tryToJoin_27 : decode b_X_tryToJoin 27 = .ok (.invokevirtual 177, 3) := by decide +kernel
theorem d_X_tryToJoin_30 : decode b_X_tryToJoin 30 = .ok (.aload_n 0, 1) := by decide +kernel
theorem d_X_tryToJoin_31 : decode b_X_tryToJoin 31 = .ok (.getfield 18, 3) := by decide +kernel
theorem d_X_tryToJoin_34 : decode b_X_tryToJoin 34 = .ok (.aload_n 1, 1) := by decide +kernel
theorem d_X_tryToJoin_35 : decode b_X_tryToJoin 35 = .ok (.getfield 128, 3) := by decide +kernel
theorem d_X_tryToJoin_38 : decode b_X_tryToJoin 38 = .ok (.iload_n 2, 1) := by decide +kernel
theorem d_X_tryToJoin_39 : decode b_X_tryToJoin 39 = .ok (.iload_n 3, 1) := by decide +kernel
theorem d_X_tryToJoin_40 : decode b_X_tryToJoin 40 = .ok (.iload 4, 2) := by decide +kernel
theorem d_X_tryToJoin_42 : decode b_X_tryToJoin 42 = .ok (.invokevirtual 245, 3) := by decide +kernel
theorem d_X_tryToJoin_45 : decode b_X_tryToJoin 45 = .ok (.aload_n 0, 1) := by decide +kernel
theorem d_X_tryToJoin_46 : decode b_X_tryToJoin 46 = .ok (.getfield 18, 3) := by decide +kernel
theorem d_X_tryToJoin_49 : decode b_X_tryToJoin 49 = .ok (.aload_n 1, 1) := by decide +kernel
theorem d_X_tryToJoin_50 : decode b_X_tryToJoin 50 = .ok (.getfield 120, 3) := by decide +kernel
theorem d_X_tryToJoin_53 : decode b_X_tryToJoin 53 = .ok (.aload_n 1, 1) := by decide +kernel
theorem d_X_tryToJoin_54 : decode b_X_tryToJoin 54 = .ok (.getfield 128, 3) := by decide +kernel
theorem d_X_tryToJoin_57 : decode b_X_tryToJoin 57 = .ok (.invokevirtual 249, 3) := by decide +kernel
theorem d_X_tryToJoin_60 : decode b_X_tryToJoin 60 = .ok (.aload_n 0, 1) := by decide +kernel
theorem d_X_tryToJoin_61 : decode b_X_tryToJoin 61 = .ok (.getfield 36, 3) := by decide +kernel
theorem d_X_tryToJoin_64 : decode b_X_tryToJoin 64 = .ok (.aload_n 0, 1) := by decide +kernel
theorem d_X_tryToJoin_65 : decode b_X_tryToJoin 65 = .ok (.getfield 11, 3) := by decide +kernel
theorem d_X_tryToJoin_68 : decode b_X_tryToJoin 68 = .ok (.aload_n 0, 1) := by decide +kernel
theorem d_X_tryToJoin_69 : decode b_X_tryToJoin 69 = .ok (.getfield 18, 3) := by decide +kernel
theorem d_X_tryToJoin_72 : decode b_X_tryToJoin 72 = .ok (.aload_n 0, 1) := by decide +kernel
theorem d_X_tryToJoin_73 : decode b_X_tryToJoin 73 = .ok (.getfield 18, 3) := by decide +kernel
theorem d_X_tryToJoin_76 : decode b_X_tryToJoin 76 = .ok (.getfield 166, 3) := by decide +kernel
theorem d_X_tryToJoin_79 : decode b_X_tryToJoin 79 = .ok (.aload_n 1, 1) := by decide +kernel
theorem d_X_tryToJoin_80 : decode b_X_tryToJoin 80 = .ok (.getfield 120, 3) := by decide +kernel
theorem d_X_tryToJoin_83 : decode b_X_tryToJoin 83 = .ok (.iaload, 1) := by decide +kernel
theorem d_X_tryToJoin_84 : decode b_X_tryToJoin 84 = .ok (.invokevirtual 195, 3) := by decide +kernel
theorem d_X_tryToJoin_87 : decode b_X_tryToJoin 87 = .ok (.aload_n 0, 1) := by decide +kernel
theorem d_X_tryToJoin_88 : decode b_X_tryToJoin 88 = .ok (.getfield 36, 3) := by decide +kernel
theorem d_X_tryToJoin_91 : decode b_X_tryToJoin 91 = .ok (.invokevirtual 253, 3) := by decide +kernel
theorem d_X_tryToJoin_94 : decode b_X_tryToJoin 94 = .ok (.ifCond .eq 21, 3) := by decide +kernel
theorem d_X_tryToJoin_97 : decode b_X_tryToJoin 97 = .ok (.aload_n 0, 1) := by decide +kernel
theorem d_X_tryToJoin_98 : decode b_X_tryToJoin 98 = .ok (.getfield 18, 3) := by decide +kernel
theorem d_X_tryToJoin_101 : decode b_X_tryToJoin 101 = .ok (.aload_n 0, 1) := by decide +kernel
theorem d_X_tryToJoin_102 : decode b_X_tryToJoin 102 = .ok (.getfield 22, 3) := by decide +kernel
theorem d_X_tryToJoin_105 : decode b_X_tryToJoin 105 = .ok (.aload_n 0, 1) := by decide +kernel
theorem d_X_tryToJoin_106 : decode b_X_tryToJoin 106 = .ok (.getfield 47, 3) := by decide +kernel
theorem d_X_tryToJoin_109 : decode b_X_tryToJoin 109 = .ok (.aaload, 1) := by decide +kernel
theorem d_X_tryToJoin_110 : decode b_X_tryToJoin 110 = .ok (.invokevirtual 177, 3) := by decide +kernel
theorem d_X_tryToJoin_113 : decode b_X_tryToJoin 113 = .ok (.iconst 1, 1) := by decide +kernel
theorem d_X_tryToJoin_114 : decode b_X_tryToJoin 114 = .ok (.ireturn, 1) := by decide +kernel
theorem d_X_tryToJoin_115 : decode b_X_tryToJoin 115 = .ok (.aload_n 0, 1) := by decide +kernel
theorem d_X_tryToJoin_116 : decode b_X_tryToJoin 116 = .ok (.dup, 1) := by decide +kernel
theorem d_X_tryToJoin_117 : decode b_X_tryToJoin 117 = .ok (.getfield 47, 3) := by decide +kernel
theorem d_X_tryToJoin_120 : decode b_X_tryToJoin 120 = .ok (.iconst 1, 1) := by decide +kernel
theorem d_X_tryToJoin_121 : decode b_X_tryToJoin 121 = .ok (.iadd, 1) := by decide +kernel
theorem d_X_tryToJoin_122 : decode b_X_tryToJoin 122 = .ok (.putfield 47, 3) := by decide +kernel
theorem d_X_tryToJoin_125 : decode b_X_tryToJoin 125 = .ok (.iconst 0, 1) := by decide +kernel
theorem d_X_tryToJoin_126 : decode b_X_tryToJoin 126 = .ok (.ireturn, 1) := by decide +kernel
theorem d_X_join_0 : decode b_X_join 0 = .ok (.aload_n 0, 1) := by decide +kernel
theorem d_X_join_1 : decode b_X_join 1 = .ok (.iload_n 1, 1) := by decide +kernel
theorem d_X_join_2 : decode b_X_join 2 = .ok (.invokevirtual 116, 3) := by decide +kernel
theorem d_X_join_5 : decode b_X_join 5 = .ok (.astore_n 2, 1) := by decide +kernel
theorem d_X_join_6 : decode b_X_join 6 = .ok (.aload_n 0, 1) := by decide +kernel
theorem d_X_join_7 : decode b_X_join 7 = .ok (.getfield 11, 3) := by decide +kernel
theorem d_X_join_10 : decode b_X_join 10 = .ok (.aload_n 2, 1) := by decide +kernel
theorem d_X_join_11 : decode b_X_join 11 = .ok (.getfield 128, 3) := by decide +kernel
theorem d_X_join_14 : decode b_X_join 14 = .ok (.aaload, 1) := by decide +kernel
theorem d_X_join_15 : decode b_X_join 15 = .ok (.astore_n 3, 1) := by decide +kernel
theorem d_X_join_16 : decode b_X_join 16 = .ok (.aload_n 0, 1) := by decide +kernel
theorem d_X_join_17 : decode b_X_join 17 = .ok (.getfield 18, 3) := by decide +kernel
theorem d_X_join_20 : decode b_X_join 20 = .ok (.getfield 142, 3) := by decide +kernel
theorem d_X_join_23 : decode b_X_join 23 = .ok (.aload_n 2, 1) := by decide +kernel
theorem d_X_join_24 : decode b_X_join 24 = .ok (.getfield 120, 3) := by decide +kernel
theorem d_X_join_27 : decode b_X_join 27 = .ok (.iaload, 1) := by decide +kernel
theorem d_X_join_28 : decode b_X_join 28 = .ok (.aload_n 2, 1) := by decide +kernel
theorem d_X_join_29 : decode b_X_join 29 = .ok (.getfield 145, 3) := by decide +kernel
theorem d_X_join_32 : decode b_X_join 32 = .ok (.iadd, 1) := by decide +kernel
theorem d_X_join_33 : decode b_X_join 33 = .ok (.iconst 3, 1) := by decide +kernel
theorem d_X_join_34 : decode b_X_join 34 = .ok (.iand, 1) := by decide +kernel
theorem d_X_join_35 : decode b_X_join 35 = .ok (.istore 4, 2) := by decide +kernel
theorem d_X_join_37 : decode b_X_join 37 = .ok (.aload_n 3, 1) := by decide +kernel
theorem d_X_join_38 : decode b_X_join 38 = .ok (.getfield 147, 3) := by decide +kernel
theorem d_X_join_41 : decode b_X_join 41 = .ok (.aload_n 2, 1) := by decide +kernel
theorem d_X_join_42 : decode b_X_join 42 = .ok (.getfield 131, 3) := by decide +kernel
theorem d_X_join_45 : decode b_X_join 45 = .ok (.iconst 1, 1) := by decide +kernel
theorem d_X_join_46 : decode b_X_join 46 = .ok (.iadd, 1) := by decide +kernel
theorem d_X_join_47 : decode b_X_join 47 = .ok (.iaload, 1) := by decide +kernel
theorem d_X_join_48 : decode b_X_join 48 = .ok (.istore 5, 2) := by decide +kernel
theorem d_X_join_50 : decode b_X_join 50 = .ok (.aload_n 3, 1) := by decide +kernel
theorem d_X_join_51 : decode b_X_join 51 = .ok (.getfield 150, 3) := by decide +kernel
theorem d_X_join_54 : decode b_X_join 54 = .ok (.aload_n 2, 1) := by decide +kernel
theorem d_X_join_55 : decode b_X_join 55 = .ok (.getfield 131, 3) := by decide +kernel
theorem d_X_join_58 : decode b_X_join 58 = .ok (.iconst 1, 1) := by decide +kernel
theorem d_X_join_59 : decode b_X_join 59 = .ok (.iadd, 1) := by decide +kernel
theorem d_X_join_60 : decode b_X_join 60 = .ok (.iaload, 1) := by decide +kernel
theorem d_X_join_61 : decode b_X_join 61 = .ok (.istore 6, 2) := by decide +kernel
theorem d_X_join_63 : decode b_X_join 63 = .ok (.aload_n 0, 1) := by decide +kernel
theorem d_X_join_64 : decode b_X_join 64 = .ok (.getfield 18, 3) := by decide +kernel
theorem d_X_join_67 : decode b_X_join 67 = .ok (.aload_n 0, 1) := by decide +kernel
theorem d_X_join_68 : decode b_X_join 68 = .ok (.getfield 11, 3) := by decide +kernel
theorem d_X_join_71 : decode b_X_join 71 = .ok (.aload_n 2, 1) := by decide +kernel
theorem d_X_join_72 : decode b_X_join 72 = .ok (.getfield 120, 3) := by decide +kernel
theorem d_X_join_75 : decode b_X_join 75 = .ok (.aaload, 1) := by decide +kernel
theorem d_X_join_76 : decode b_X_join 76 = .ok (.aload_n 2, 1) := by decide +kernel
theorem d_X_join_77 : decode b_X_join 77 = .ok (.getfield 120, 3) := by decide +kernel
theorem d_X_join_80 : decode b_X_join 80 = .ok (.aload_n 2, 1) := by decide +kernel
theorem d_X_join_81 : decode b_X_join 81 = .ok (.getfield 125, 3) := by decide +kernel
theorem d_X_join_84 : decode b_X_join 84 = .ok (.invokevirtual 153, 3) := by decide +kernel
theorem d_X_join_87 : decode b_X_join 87 = .ok (.iload 5, 2) := by decide +kernel
theorem d_X_join_89 : decode b_X_join 89 = .ok (.iload 6, 2) := by decide +kernel
theorem d_X_join_91 : decode b_X_join 91 = .ok (.iload 4, 2) := by decide +kernel
theorem d_X_join_93 : decode b_X_join 93 = .ok (.invokestatic 157, 3) := by decide +kernel
theorem d_X_join_96 : decode b_X_join 96 = .ok (.isub, 1) := by decide +kernel
theorem d_X_join_97 : decode b_X_join 97 = .ok (.istore 7, 2) := by decide +kernel
theorem d_X_join_99 : decode b_X_join 99 = .ok (.aload_n 0, 1) := by decide +kernel
theorem d_X_join_100 : decode b_X_join 100 = .ok (.getfield 18, 3) := by decide +kernel
theorem d_X_join_103 : decode b_X_join 103 = .ok (.aload_n 0, 1) := by decide +kernel
theorem d_X_join_104 : decode b_X_join 104 = .ok (.getfield 11, 3) := by decide +kernel
theorem d_X_join_107 : decode b_X_join 107 = .ok (.aload_n 2, 1) := by decide +kernel
theorem d_X_join_108 : decode b_X_join 108 = .ok (.getfield 120, 3) := by decide +kernel
theorem d_X_join_111 : decode b_X_join 111 = .ok (.aaload, 1) := by decide +kernel
theorem d_X_join_112 : decode b_X_join 112 = .ok (.aload_n 2, 1) := by decide +kernel
theorem d_X_join_113 : decode b_X_join 113 = .ok (.getfield 120, 3) := by decide +kernel
theorem d_X_join_116 : decode b_X_join 116 = .ok (.aload_n 2, 1) := by decide +kernel
theorem d_X_join_117 : decode b_X_join 117 = .ok (.getfield 125, 3) := by decide +kernel
theorem d_X_join_120 : decode b_X_join 120 = .ok (.invokevirtual 160, 3) := by decide +kernel
theorem d_X_join_123 : decode b_X_join 123 = .ok (.iload 5, 2) := by decide +kernel
theorem d_X_join_125 : decode b_X_join 125 = .ok (.iload 6, 2) := by decide +kernel
theorem d_X_join_127 : decode b_X_join 127 = .ok (.iload 4, 2) := by decide +kernel
theorem d_X_join_129 : decode b_X_join 129 = .ok (.invokestatic 163, 3) := by decide +kernel
theorem d_X_join_132 : decode b_X_join 132 = .ok (.isub, 1) := by decide +kernel
theorem d_X_join_133 : decode b_X_join 133 = .ok (.istore 8, 2) := by decide +kernel
theorem d_X_join_135 : decode b_X_join 135 = .ok (.aload_n 0, 1) := by decide +kernel
theorem d_X_join_136 : decode b_X_join 136 = .ok (.getfield 18, 3) := by decide +kernel
theorem d_X_join_139 : decode b_X_join 139 = .ok (.getfield 166, 3) := by decide +kernel
theorem d_X_join_142 : decode b_X_join 142 = .ok (.aload_n 2, 1) := by decide +kernel
theorem d_X_join_143 : decode b_X_join 143 = .ok (.getfield 120, 3) := by decide +kernel
theorem d_X_join_146 : decode b_X_join 146 = .ok (.iaload, 1) := by decide +kernel
theorem d_X_join_147 : decode b_X_join 147 = .ok (.aload_n 0, 1) := by decide +kernel
theorem d_X_join_148 : decode b_X_join 148 = .ok (.getfield 18, 3) := by decide +kernel
theorem d_X_join_151 : decode b_X_join 151 = .ok (.getfield 166, 3) := by decide +kernel
theorem d_X_join_154 : decode b_X_join 154 = .ok (.aload_n 2, 1) := by decide +kernel
theorem d_X_join_155 : decode b_X_join 155 = .ok (.getfield 128, 3) := by decide +kernel
theorem d_X_join_158 : decode b_X_join 158 = .ok (.iaload, 1) := by decide +kernel
theorem d_X_join_159 : decode b_X_join 159 = .ok (.if_icmp .ne 29, 3) := by decide +kernel
theorem d_X_join_162 : decode b_X_join 162 = .ok (.aload_n 0, 1) := by decide +kernel
theorem d_X_join_163 : decode b_X_join 163 = .ok (.getfield 18, 3) := by decide +kernel
theorem d_X_join_166 : decode b_X_join 166 = .ok (.aload_n 2, 1) := by decide +kernel
theorem d_X_join_167 : decode b_X_join 167 = .ok (.getfield 128, 3) := by decide +kernel
theorem d_X_join_170 : decode b_X_join 170 = .ok (.iload 7, 2) := by decide +kernel
theorem d_X_join_172 : decode b_X_join 172 = .ok (.iload 8, 2) := by decide +kernel
theorem d_X_join_174 : decode b_X_join 174 = .ok (.iload 4, 2) := by decide +kernel
theorem d_X_join_176 : decode b_X_join 176 = .ok (.invokevirtual 169, 3) := by decide +kernel
theorem d_X_join_179 : decode b_X_join 179 = .ok (.ifCond .eq 7, 3) := by decide +kernel
theorem d_X_join_182 : decode b_X_join 182 = .ok (.iconst 3, 1) := by decide +kernel
theorem d_X_join_183 : decode b_X_join 183 = .ok (.goto 4, 3) := by decide +kernel
theorem d_X_join_186 : decode b_X_join 186 = .ok (.iconst 2, 1) := by decide +kernel
theorem d_X_join_187 : decode b_X_join 187 = .ok (.ireturn, 1) := by decide +kernel
theorem d_X_join_188 : decode b_X_join 188 = .ok (.aload_n 0, 1) := by decide +kernel
theorem d_X_join_189 : decode b_X_join 189 = .ok (.aload_n 2, 1) := by decide +kernel
theorem d_X_join_190 : decode b_X_join 190 = .ok (.iload 7, 2) := by decide +kernel
theorem d_X_join_192 : decode b_X_join 192 = .ok (.iload 8, 2) := by decide +kernel
theorem d_X_join_194 : decode b_X_join 194 = .ok (.iload 4, 2) := by decide +kernel
theorem d_X_join_196 : decode b_X_join 196 = .ok (.invokevirtual 173, 3) := by decide +kernel
theorem d_X_join_199 : decode b_X_join 199 = .ok (.ireturn, 1) := by decide +kernel
theorem d_X_undo_0 : decode b_X_undo 0 = .ok (.aload_n 0, 1) := by decide +kernel
theorem d_X_undo_1 : decode b_X_undo 1 = .ok (.getfield 47, 3) := by decide +kernel
theorem d_X_undo_4 : decode b_X_undo 4 = .ok (.ifCond .ne 5, 3) := by decide +kernel
theorem d_X_undo_7 : decode b_X_undo 7 = .ok (.iconst 0, 1) := by decide +kernel
theorem d_X_undo_8 : decode b_X_undo 8 = .ok (.ireturn, 1) := by decide +kernel
theorem d_X_undo_9 : decode b_X_undo 9 = .ok (.aload_n 0, 1) := by decide +kernel
theorem d_X_undo_10 : decode b_X_undo 10 = .ok (.dup, 1) := by decide +kernel
theorem d_X_undo_11 : decode b_X_undo 11 = .ok (.getfield 47, 3) := by decide +kernel
theorem d_X_undo_14 : decode b_X_undo 14 = .ok (.iconst 1, 1) := by decide +kernel
theorem d_X_undo_15 : decode b_X_undo 15 = .ok (.isub, 1) := by decide +kernel
theorem d_X_undo_16 : decode b_X_undo 16 = .ok (.putfield 47, 3) := by decide +kernel
theorem d_X_undo_19 : decode b_X_undo 19 = .ok (.aload_n 0, 1) := by decide +kernel
theorem d_X_undo_20 : decode b_X_undo 20 = .ok (.getfield 18, 3) := by decide +kernel
theorem d_X_undo_23 : decode b_X_undo 23 = .ok (.aload_n 0, 1) := by decide +kernel
theorem d_X_undo_24 : decode b_X_undo 24 = .ok (.getfield 22, 3) := by decide +kernel
theorem d_X_undo_27 : decode b_X_undo 27 = .ok (.aload_n 0, 1) := by decide +kernel
theorem d_X_undo_28 : decode b_X_undo 28 = .ok (.getfield 47, 3) := by decide +kernel
theorem d_X_undo_31 : decode b_X_undo 31 = .ok (.aaload, 1) := by decide +kernel
theorem d_X_undo_32 : decode b_X_undo 32 = .ok (.invokevirtual 177, 3) := by decide +kernel
theorem d_X_undo_35 : decode b_X_undo 35 = .ok (.iconst 1, 1) := by decide +kernel
theorem d_X_undo_36 : decode b_X_undo 36 = .ok (.ireturn, 1) := by decide +kernel
theorem d_X_place_0 : decode b_X_place 0 = .ok (.aload_n 0, 1) := by decide +kernel
theorem d_X_place_1 : decode b_X_place 1 = .ok (.iload_n 1, 1) := by decide +kernel
theorem d_X_place_2 : decode b_X_place 2 = .ok (.invokevirtual 181, 3) := by decide +kernel
theorem d_X_place_5 : decode b_X_place 5 = .ok (.ifCond .ne 13, 3) := by decide +kernel
theorem d_X_place_8 : decode b_X_place 8 = .ok (.new 86, 3) := by decide +kernel
theorem d_X_place_11 : decode b_X_place 11 = .ok (.dup, 1) := by decide +kernel
theorem d_X_place_12 : decode b_X_place 12 = .ok (.ldc 185, 2) := by decide +kernel
theorem d_X_place_14 : decode b_X_place 14 = .ok (.invokespecial 90, 3) := by decide +kernel
theorem d_X_place_17 : decode b_X_place 17 = .ok (.athrow, 1) := by decide +kernel
theorem d_X_place_18 : decode b_X_place 18 = .ok (.iload_n 2, 1) := by decide +kernel
theorem d_X_place_19 : decode b_X_place 19 = .ok (.tableswitch 69 0 3 #[29, 39, 49, 59], 29) := by decide +kernel
theorem d_X_place_48 : decode b_X_place 48 = .ok (.aload_n 0, 1) := by decide +kernel
theorem d_X_place_49 : decode b_X_place 49 = .ok (.getfield 18, 3) := by decide +kernel
theorem d_X_place_52 : decode b_X_place 52 = .ok (.getfield 187, 3) := by decide +kernel
theorem d_X_place_55 : decode b_X_place 55 = .ok (.iload_n 1, 1) := by decide +kernel
theorem d_X_place_56 : decode b_X_place 56 = .ok (.iaload, 1) := by decide +kernel
theorem d_X_place_57 : decode b_X_place 57 = .ok (.ireturn, 1) := by decide +kernel
theorem d_X_place_58 : decode b_X_place 58 = .ok (.aload_n 0, 1) := by decide +kernel
theorem d_X_place_59 : decode b_X_place 59 = .ok (.getfield 18, 3) := by decide +kernel
theorem d_X_place_62 : decode b_X_place 62 = .ok (.getfield 190, 3) := by decide +kernel
theorem d_X_place_65 : decode b_X_place 65 = .ok (.iload_n 1, 1) := by decide +kernel
theorem d_X_place_66 : decode b_X_place 66 = .ok (.iaload, 1) := by decide +kernel
theorem d_X_place_67 : decode b_X_place 67 = .ok (.ireturn, 1) := by decide +kernel
theorem d_X_place_68 : decode b_X_place 68 = .ok (.aload_n 0, 1) := by decide +kernel
theorem d_X_place_69 : decode b_X_place 69 = .ok (.getfield 18, 3) := by decide +kernel
theorem d_X_place_72 : decode b_X_place 72 = .ok (.getfield 142, 3) := by decide +kernel
theorem d_X_place_75 : decode b_X_place 75 = .ok (.iload_n 1, 1) := by decide +kernel
theorem d_X_place_76 : decode b_X_place 76 = .ok (.iaload, 1) := by decide +kernel
theorem d_X_place_77 : decode b_X_place 77 = .ok (.ireturn, 1) := by decide +kernel
theorem d_X_place_78 : decode b_X_place 78 = .ok (.aload_n 0, 1) := by decide +kernel
theorem d_X_place_79 : decode b_X_place 79 = .ok (.getfield 18, 3) := by decide +kernel
theorem d_X_place_82 : decode b_X_place 82 = .ok (.getfield 166, 3) := by decide +kernel
theorem d_X_place_85 : decode b_X_place 85 = .ok (.iload_n 1, 1) := by decide +kernel
theorem d_X_place_86 : decode b_X_place 86 = .ok (.iaload, 1) := by decide +kernel
theorem d_X_place_87 : decode b_X_place 87 = .ok (.ireturn, 1) := by decide +kernel
theorem d_X_place_88 : decode b_X_place 88 = .ok (.new 86, 3) := by decide +kernel
theorem d_X_place_91 : decode b_X_place 91 = .ok (.dup, 1) := by decide +kernel
theorem d_X_place_92 : decode b_X_place 92 = .ok (.ldc 193, 2) := by decide +kernel
theorem d_X_place_94 : decode b_X_place 94 = .ok (.invokespecial 90, 3) := by decide +kernel
theorem d_X_place_97 : decode b_X_place 97 = .ok (.athrow, 1) := by decide +kernel
theorem d_Board_reach_0 : decode b_Board_reach 0 = .ok (.iload_n 1, 1) := by decide +kernel
theorem d_Board_reach_1 : decode b_Board_reach 1 = .ok (.ifCond .lt 27, 3) := by decide +kernel
theorem d_Board_reach_4 : decode b_Board_reach 4 = .ok (.iload_n 1, 1) := by decide +kernel
theorem d_Board_reach_5 : decode b_Board_reach 5 = .ok (.aload_n 0, 1) := by decide +kernel
theorem d_Board_reach_6 : decode b_Board_reach 6 = .ok (.getfield 22, 3) := by decide +kernel
theorem d_Board_reach_9 : decode b_Board_reach 9 = .ok (.if_icmp .ge 19, 3) := by decide +kernel
theorem d_Board_reach_12 : decode b_Board_reach 12 = .ok (.iload_n 2, 1) := by decide +kernel
theorem d_Board_reach_13 : decode b_Board_reach 13 = .ok (.sipush 1936, 3) := by decide +kernel
theorem d_Board_reach_16 : decode b_Board_reach 16 = .ok (.if_icmp .ge 12, 3) := by decide +kernel
theorem d_Board_reach_19 : decode b_Board_reach 19 = .ok (.aload_n 0, 1) := by decide +kernel
theorem d_Board_reach_20 : decode b_Board_reach 20 = .ok (.getfield 11, 3) := by decide +kernel
theorem d_Board_reach_23 : decode b_Board_reach 23 = .ok (.iload_n 1, 1) := by decide +kernel
theorem d_Board_reach_24 : decode b_Board_reach 24 = .ok (.iaload, 1) := by decide +kernel
theorem d_Board_reach_25 : decode b_Board_reach 25 = .ok (.ifCond .eq 5, 3) := by decide +kernel
theorem d_Board_reach_28 : decode b_Board_reach 28 = .ok (.iload_n 2, 1) := by decide +kernel
theorem d_Board_reach_29 : decode b_Board_reach 29 = .ok (.ireturn, 1) := by decide +kernel
theorem d_Board_reach_30 : decode b_Board_reach 30 = .ok (.aload_n 0, 1) := by decide +kernel
theorem d_Board_reach_31 : decode b_Board_reach 31 = .ok (.getfield 11, 3) := by decide +kernel
theorem d_Board_reach_34 : decode b_Board_reach 34 = .ok (.iload_n 1, 1) := by decide +kernel
theorem d_Board_reach_35 : decode b_Board_reach 35 = .ok (.iconst (-1), 1) := by decide +kernel
theorem d_Board_reach_36 : decode b_Board_reach 36 = .ok (.iastore, 1) := by decide +kernel
theorem d_Board_reach_37 : decode b_Board_reach 37 = .ok (.aload_n 0, 1) := by decide +kernel
theorem d_Board_reach_38 : decode b_Board_reach 38 = .ok (.getfield 15, 3) := by decide +kernel
theorem d_Board_reach_41 : decode b_Board_reach 41 = .ok (.iload_n 2, 1) := by decide +kernel
theorem d_Board_reach_42 : decode b_Board_reach 42 = .ok (.iload_n 1, 1) := by decide +kernel
theorem d_Board_reach_43 : decode b_Board_reach 43 = .ok (.iastore, 1) := by decide +kernel
theorem d_Board_reach_44 : decode b_Board_reach 44 = .ok (.iload_n 2, 1) := by decide +kernel
theorem d_Board_reach_45 : decode b_Board_reach 45 = .ok (.iconst 1, 1) := by decide +kernel
theorem d_Board_reach_46 : decode b_Board_reach 46 = .ok (.iadd, 1) := by decide +kernel
theorem d_Board_reach_47 : decode b_Board_reach 47 = .ok (.ireturn, 1) := by decide +kernel
theorem d_Board_flood_0 : decode b_Board_flood 0 = .ok (.aload_n 0, 1) := by decide +kernel
theorem d_Board_flood_1 : decode b_Board_flood 1 = .ok (.iconst 0, 1) := by decide +kernel
theorem d_Board_flood_2 : decode b_Board_flood 2 = .ok (.iconst 0, 1) := by decide +kernel
theorem d_Board_flood_3 : decode b_Board_flood 3 = .ok (.invokevirtual 84, 3) := by decide +kernel
theorem d_Board_flood_6 : decode b_Board_flood 6 = .ok (.istore_n 1, 1) := by decide +kernel
theorem d_Board_flood_7 : decode b_Board_flood 7 = .ok (.iconst 0, 1) := by decide +kernel
theorem d_Board_flood_8 : decode b_Board_flood 8 = .ok (.istore_n 2, 1) := by decide +kernel
theorem d_Board_flood_9 : decode b_Board_flood 9 = .ok (.iload_n 2, 1) := by decide +kernel
theorem d_Board_flood_10 : decode b_Board_flood 10 = .ok (.iload_n 1, 1) := by decide +kernel
theorem d_Board_flood_11 : decode b_Board_flood 11 = .ok (.if_icmp .ge 65, 3) := by decide +kernel
theorem d_Board_flood_14 : decode b_Board_flood 14 = .ok (.iload_n 2, 1) := by decide +kernel
theorem d_Board_flood_15 : decode b_Board_flood 15 = .ok (.sipush 1936, 3) := by decide +kernel
theorem d_Board_flood_18 : decode b_Board_flood 18 = .ok (.if_icmp .ge 58, 3) := by decide +kernel
theorem d_Board_flood_21 : decode b_Board_flood 21 = .ok (.aload_n 0, 1) := by decide +kernel
theorem d_Board_flood_22 : decode b_Board_flood 22 = .ok (.getfield 15, 3) := by decide +kernel
theorem d_Board_flood_25 : decode b_Board_flood 25 = .ok (.iload_n 2, 1) := by decide +kernel
theorem d_Board_flood_26 : decode b_Board_flood 26 = .ok (.iaload, 1) := by decide +kernel
theorem d_Board_flood_27 : decode b_Board_flood 27 = .ok (.istore_n 3, 1) := by decide +kernel
theorem d_Board_flood_28 : decode b_Board_flood 28 = .ok (.aload_n 0, 1) := by decide +kernel
theorem d_Board_flood_29 : decode b_Board_flood 29 = .ok (.iload_n 3, 1) := by decide +kernel
theorem d_Board_flood_30 : decode b_Board_flood 30 = .ok (.iconst 1, 1) := by decide +kernel
theorem d_Board_flood_31 : decode b_Board_flood 31 = .ok (.iadd, 1) := by decide +kernel
theorem d_Board_flood_32 : decode b_Board_flood 32 = .ok (.iload_n 1, 1) := by decide +kernel
theorem d_Board_flood_33 : decode b_Board_flood 33 = .ok (.invokevirtual 84, 3) := by decide +kernel
theorem d_Board_flood_36 : decode b_Board_flood 36 = .ok (.istore_n 1, 1) := by decide +kernel
theorem d_Board_flood_37 : decode b_Board_flood 37 = .ok (.aload_n 0, 1) := by decide +kernel
theorem d_Board_flood_38 : decode b_Board_flood 38 = .ok (.iload_n 3, 1) := by decide +kernel
theorem d_Board_flood_39 : decode b_Board_flood 39 = .ok (.iconst 1, 1) := by decide +kernel
theorem d_Board_flood_40 : decode b_Board_flood 40 = .ok (.isub, 1) := by decide +kernel
theorem d_Board_flood_41 : decode b_Board_flood 41 = .ok (.iload_n 1, 1) := by decide +kernel
theorem d_Board_flood_42 : decode b_Board_flood 42 = .ok (.invokevirtual 84, 3) := by decide +kernel
theorem d_Board_flood_45 : decode b_Board_flood 45 = .ok (.istore_n 1, 1) := by decide +kernel
theorem d_Board_flood_46 : decode b_Board_flood 46 = .ok (.aload_n 0, 1) := by decide +kernel
theorem d_Board_flood_47 : decode b_Board_flood 47 = .ok (.iload_n 3, 1) := by decide +kernel
theorem d_Board_flood_48 : decode b_Board_flood 48 = .ok (.aload_n 0, 1) := by decide +kernel
theorem d_Board_flood_49 : decode b_Board_flood 49 = .ok (.getfield 68, 3) := by decide +kernel
theorem d_Board_flood_52 : decode b_Board_flood 52 = .ok (.iadd, 1) := by decide +kernel
theorem d_Board_flood_53 : decode b_Board_flood 53 = .ok (.iload_n 1, 1) := by decide +kernel
theorem d_Board_flood_54 : decode b_Board_flood 54 = .ok (.invokevirtual 84, 3) := by decide +kernel
theorem d_Board_flood_57 : decode b_Board_flood 57 = .ok (.istore_n 1, 1) := by decide +kernel
theorem d_Board_flood_58 : decode b_Board_flood 58 = .ok (.aload_n 0, 1) := by decide +kernel
theorem d_Board_flood_59 : decode b_Board_flood 59 = .ok (.iload_n 3, 1) := by decide +kernel
theorem d_Board_flood_60 : decode b_Board_flood 60 = .ok (.aload_n 0, 1) := by decide +kernel
theorem d_Board_flood_61 : decode b_Board_flood 61 = .ok (.getfield 68, 3) := by decide +kernel
theorem d_Board_flood_64 : decode b_Board_flood 64 = .ok (.isub, 1) := by decide +kernel
theorem d_Board_flood_65 : decode b_Board_flood 65 = .ok (.iload_n 1, 1) := by decide +kernel
theorem d_Board_flood_66 : decode b_Board_flood 66 = .ok (.invokevirtual 84, 3) := by decide +kernel
theorem d_Board_flood_69 : decode b_Board_flood 69 = .ok (.istore_n 1, 1) := by decide +kernel
theorem d_Board_flood_70 : decode b_Board_flood 70 = .ok (.iinc 2 1, 3) := by decide +kernel
theorem d_Board_flood_73 : decode b_Board_flood 73 = .ok (.goto (-64), 3) := by decide +kernel
theorem d_Board_flood_76 : decode b_Board_flood 76 = .ok (.return_, 1) := by decide +kernel
theorem d_Board_enclosedCells_0 : decode b_Board_enclosedCells 0 = .ok (.aload_n 0, 1) := by decide +kernel
theorem d_Board_enclosedCells_1 : decode b_Board_enclosedCells 1 = .ok (.invokevirtual 81, 3) := by decide +kernel
theorem d_Board_enclosedCells_4 : decode b_Board_enclosedCells 4 = .ok (.iconst 0, 1) := by decide +kernel
theorem d_Board_enclosedCells_5 : decode b_Board_enclosedCells 5 = .ok (.istore_n 1, 1) := by decide +kernel
theorem d_Board_enclosedCells_6 : decode b_Board_enclosedCells 6 = .ok (.iconst 0, 1) := by decide +kernel
theorem d_Board_enclosedCells_7 : decode b_Board_enclosedCells 7 = .ok (.istore_n 2, 1) := by decide +kernel
theorem d_Board_enclosedCells_8 : decode b_Board_enclosedCells 8 = .ok (.iload_n 2, 1) := by decide +kernel
theorem d_Board_enclosedCells_9 : decode b_Board_enclosedCells 9 = .ok (.aload_n 0, 1) := by decide +kernel
theorem d_Board_enclosedCells_10 : decode b_Board_enclosedCells 10 = .ok (.getfield 22, 3) := by decide +kernel
theorem d_Board_enclosedCells_13 : decode b_Board_enclosedCells 13 = .ok (.if_icmp .ge 21, 3) := by decide +kernel
theorem d_Board_enclosedCells_16 : decode b_Board_enclosedCells 16 = .ok (.aload_n 0, 1) := by decide +kernel
theorem d_Board_enclosedCells_17 : decode b_Board_enclosedCells 17 = .ok (.getfield 11, 3) := by decide +kernel
theorem d_Board_enclosedCells_20 : decode b_Board_enclosedCells 20 = .ok (.iload_n 2, 1) := by decide +kernel
theorem d_Board_enclosedCells_21 : decode b_Board_enclosedCells 21 = .ok (.iaload, 1) := by decide +kernel
theorem d_Board_enclosedCells_22 : decode b_Board_enclosedCells 22 = .ok (.ifCond .ne 6, 3) := by decide +kernel
theorem d_Board_enclosedCells_25 : decode b_Board_enclosedCells 25 = .ok (.iinc 1 1, 3) := by decide +kernel
theorem d_Board_enclosedCells_28 : decode b_Board_enclosedCells 28 = .ok (.iinc 2 1, 3) := by decide +kernel
theorem d_Board_enclosedCells_31 : decode b_Board_enclosedCells 31 = .ok (.goto (-23), 3) := by decide +kernel
theorem d_Board_enclosedCells_34 : decode b_Board_enclosedCells 34 = .ok (.iload_n 1, 1) := by decide +kernel
theorem d_Board_enclosedCells_35 : decode b_Board_enclosedCells 35 = .ok (.ireturn, 1) := by decide +kernel
