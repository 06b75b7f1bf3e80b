theorem d_Model_isInside_0 : decode b_Model_isInside 0 = .ok (.iconst 0, 1) := by decide +kernel
theorem d_Model_isInside_1 : decode b_Model_isInside 1 = .ok (.istore 4, 2) := by decide +kernel
theorem d_Model_isInside_3 : decode b_Model_isInside 3 = .ok (.iconst 0, 1) := by decide +kernel
theorem d_Model_isInside_4 : decode b_Model_isInside 4 = .ok (.istore 5, 2) := by decide +kernel
theorem d_Model_isInside_6 : decode b_Model_isInside 6 = .ok (.iload 5, 2) := by decide +kernel
theorem d_Model_isInside_8 : decode b_Model_isInside 8 = .ok (.aload_n 0, 1) := by decide +kernel
theorem d_Model_isInside_9 : decode b_Model_isInside 9 = .ok (.getfield 7, 3) := by decide +kernel
theorem d_Model_isInside_12 : decode b_Model_isInside 12 = .ok (.iload_n 1, 1) := by decide +kernel
theorem d_Model_isInside_13 : decode b_Model_isInside 13 = .ok (.iaload, 1) := by decide +kernel
theorem d_Model_isInside_14 : decode b_Model_isInside 14 = .ok (.if_icmp .ge 92, 3) := by decide +kernel
theorem d_Model_isInside_17 : decode b_Model_isInside 17 = .ok (.aload_n 0, 1) := by decide +kernel
theorem d_Model_isInside_18 : decode b_Model_isInside 18 = .ok (.getfield 13, 3) := by decide +kernel
theorem d_Model_isInside_21 : decode b_Model_isInside 21 = .ok (.bipush 28, 2) := by decide +kernel
theorem d_Model_isInside_23 : decode b_Model_isInside 23 = .ok (.iload_n 1, 1) := by decide +kernel
theorem d_Model_isInside_24 : decode b_Model_isInside 24 = .ok (.imul, 1) := by decide +kernel
theorem d_Model_isInside_25 : decode b_Model_isInside 25 = .ok (.iload 5, 2) := by decide +kernel
theorem d_Model_isInside_27 : decode b_Model_isInside 27 = .ok (.iadd, 1) := by decide +kernel
theorem d_Model_isInside_28 : decode b_Model_isInside 28 = .ok (.iaload, 1) := by decide +kernel
theorem d_Model_isInside_29 : decode b_Model_isInside 29 = .ok (.istore 6, 2) := by decide +kernel
theorem d_Model_isInside_31 : decode b_Model_isInside 31 = .ok (.iload 6, 2) := by decide +kernel
theorem d_Model_isInside_33 : decode b_Model_isInside 33 = .ok (.iconst 2, 1) := by decide +kernel
theorem d_Model_isInside_34 : decode b_Model_isInside 34 = .ok (.irem, 1) := by decide +kernel
theorem d_Model_isInside_35 : decode b_Model_isInside 35 = .ok (.ifCond .ne 6, 3) := by decide +kernel
theorem d_Model_isInside_38 : decode b_Model_isInside 38 = .ok (.goto 62, 3) := by decide +kernel
theorem d_Model_isInside_41 : decode b_Model_isInside 41 = .ok (.aload_n 0, 1) := by decide +kernel
theorem d_Model_isInside_42 : decode b_Model_isInside 42 = .ok (.iload_n 1, 1) := by decide +kernel
theorem d_Model_isInside_43 : decode b_Model_isInside 43 = .ok (.iload 5, 2) := by decide +kernel
theorem d_Model_isInside_45 : decode b_Model_isInside 45 = .ok (.invokevirtual 92, 3) := by decide +kernel
theorem d_Model_isInside_48 : decode b_Model_isInside 48 = .ok (.iload 6, 2) := by decide +kernel
theorem d_Model_isInside_50 : decode b_Model_isInside 50 = .ok (.iconst 1, 1) := by decide +kernel
theorem d_Model_isInside_51 : decode b_Model_isInside 51 = .ok (.if_icmp .ne 10, 3) := by decide +kernel
theorem d_Model_isInside_54 : decode b_Model_isInside 54 = .ok (.aload_n 0, 1) := by decide +kernel
theorem d_Model_isInside_55 : decode b_Model_isInside 55 = .ok (.getfield 82, 3) := by decide +kernel
theorem d_Model_isInside_58 : decode b_Model_isInside 58 = .ok (.goto 9, 3) := by decide +kernel
theorem d_Model_isInside_61 : decode b_Model_isInside 61 = .ok (.aload_n 0, 1) := by decide +kernel
theorem d_Model_isInside_62 : decode b_Model_isInside 62 = .ok (.getfield 82, 3) := by decide +kernel
theorem d_Model_isInside_65 : decode b_Model_isInside 65 = .ok (.iconst 1, 1) := by decide +kernel
theorem d_Model_isInside_66 : decode b_Model_isInside 66 = .ok (.isub, 1) := by decide +kernel
theorem d_Model_isInside_67 : decode b_Model_isInside 67 = .ok (.istore 7, 2) := by decide +kernel
theorem d_Model_isInside_69 : decode b_Model_isInside 69 = .ok (.iload 4, 2) := by decide +kernel
theorem d_Model_isInside_71 : decode b_Model_isInside 71 = .ok (.iload 7, 2) := by decide +kernel
theorem d_Model_isInside_73 : decode b_Model_isInside 73 = .ok (.iload_n 3, 1) := by decide +kernel
theorem d_Model_isInside_74 : decode b_Model_isInside 74 = .ok (.if_icmp .ne 15, 3) := by decide +kernel
theorem d_Model_isInside_77 : decode b_Model_isInside 77 = .ok (.aload_n 0, 1) := by decide +kernel
theorem d_Model_isInside_78 : decode b_Model_isInside 78 = .ok (.getfield 79, 3) := by decide +kernel
theorem d_Model_isInside_81 : decode b_Model_isInside 81 = .ok (.iload_n 2, 1) := by decide +kernel
theorem d_Model_isInside_82 : decode b_Model_isInside 82 = .ok (.if_icmp .gt 7, 3) := by decide +kernel
theorem d_Model_isInside_85 : decode b_Model_isInside 85 = .ok (.iconst 1, 1) := by decide +kernel
theorem d_Model_isInside_86 : decode b_Model_isInside 86 = .ok (.goto 4, 3) := by decide +kernel
theorem d_Model_isInside_89 : decode b_Model_isInside 89 = .ok (.iconst 0, 1) := by decide +kernel
theorem d_Model_isInside_90 : decode b_Model_isInside 90 = .ok (.if_icmp .eq 7, 3) := by decide +kernel
theorem d_Model_isInside_93 : decode b_Model_isInside 93 = .ok (.iconst 1, 1) := by decide +kernel
theorem d_Model_isInside_94 : decode b_Model_isInside 94 = .ok (.goto 4, 3) := by decide +kernel
theorem d_Model_isInside_97 : decode b_Model_isInside 97 = .ok (.iconst 0, 1) := by decide +kernel
theorem d_Model_isInside_98 : decode b_Model_isInside 98 = .ok (.istore 4, 2) := by decide +kernel
theorem d_Model_isInside_100 : decode b_Model_isInside 100 = .ok (.iinc 5 1, 3) := by decide +kernel
theorem d_Model_isInside_103 : decode b_Model_isInside 103 = .ok (.goto (-97), 3) := by decide +kernel
theorem d_Model_isInside_106 : decode b_Model_isInside 106 = .ok (.iload 4, 2) := by decide +kernel
theorem d_Model_isInside_108 : decode b_Model_isInside 108 = .ok (.ireturn, 1) := by decide +kernel
theorem d_Model_close_0 : decode b_Model_close 0 = .ok (.aload_n 0, 1) := by decide +kernel
theorem d_Model_close_1 : decode b_Model_close 1 = .ok (.aload_n 0, 1) := by decide +kernel
theorem d_Model_close_2 : decode b_Model_close 2 = .ok (.iload_n 1, 1) := by decide +kernel
theorem d_Model_close_3 : decode b_Model_close 3 = .ok (.invokevirtual 71, 3) := by decide +kernel
theorem d_Model_close_6 : decode b_Model_close 6 = .ok (.ifCond .ne 7, 3) := by decide +kernel
theorem d_Model_close_9 : decode b_Model_close 9 = .ok (.iconst 1, 1) := by decide +kernel
theorem d_Model_close_10 : decode b_Model_close 10 = .ok (.goto 4, 3) := by decide +kernel
theorem d_Model_close_13 : decode b_Model_close 13 = .ok (.iconst 0, 1) := by decide +kernel
theorem d_Model_close_14 : decode b_Model_close 14 = .ok (.iconst 0, 1) := by decide +kernel
theorem d_Model_close_15 : decode b_Model_close 15 = .ok (.iconst 0, 1) := by decide +kernel
theorem d_Model_close_16 : decode b_Model_close 16 = .ok (.invokevirtual 67, 3) := by decide +kernel
theorem d_Model_close_19 : decode b_Model_close 19 = .ok (.ifCond .eq 5, 3) := by decide +kernel
theorem d_Model_close_22 : decode b_Model_close 22 = .ok (.iconst 0, 1) := by decide +kernel
theorem d_Model_close_23 : decode b_Model_close 23 = .ok (.ireturn, 1) := by decide +kernel
theorem d_Model_close_24 : decode b_Model_close 24 = .ok (.aload_n 0, 1) := by decide +kernel
theorem d_Model_close_25 : decode b_Model_close 25 = .ok (.getfield 19, 3) := by decide +kernel
theorem d_Model_close_28 : decode b_Model_close 28 = .ok (.iload_n 1, 1) := by decide +kernel
theorem d_Model_close_29 : decode b_Model_close 29 = .ok (.baload, 1) := by decide +kernel
theorem d_Model_close_30 : decode b_Model_close 30 = .ok (.ifCond .ne 29, 3) := by decide +kernel
theorem d_Model_close_33 : decode b_Model_close 33 = .ok (.aload_n 0, 1) := by decide +kernel
theorem d_Model_close_34 : decode b_Model_close 34 = .ok (.getfield 7, 3) := by decide +kernel
theorem d_Model_close_37 : decode b_Model_close 37 = .ok (.iload_n 1, 1) := by decide +kernel
theorem d_Model_close_38 : decode b_Model_close 38 = .ok (.iaload, 1) := by decide +kernel
theorem d_Model_close_39 : decode b_Model_close 39 = .ok (.iconst 4, 1) := by decide +kernel
theorem d_Model_close_40 : decode b_Model_close 40 = .ok (.if_icmp .lt 19, 3) := by decide +kernel
theorem d_Model_close_43 : decode b_Model_close 43 = .ok (.aload_n 0, 1) := by decide +kernel
theorem d_Model_close_44 : decode b_Model_close 44 = .ok (.iload_n 1, 1) := by decide +kernel
theorem d_Model_close_45 : decode b_Model_close 45 = .ok (.invokevirtual 96, 3) := by decide +kernel
theorem d_Model_close_48 : decode b_Model_close 48 = .ok (.ifCond .eq 11, 3) := by decide +kernel
theorem d_Model_close_51 : decode b_Model_close 51 = .ok (.aload_n 0, 1) := by decide +kernel
theorem d_Model_close_52 : decode b_Model_close 52 = .ok (.iload_n 1, 1) := by decide +kernel
theorem d_Model_close_53 : decode b_Model_close 53 = .ok (.invokevirtual 99, 3) := by decide +kernel
theorem d_Model_close_56 : decode b_Model_close 56 = .ok (.ifCond .gt 5, 3) := by decide +kernel
theorem d_Model_close_59 : decode b_Model_close 59 = .ok (.iconst 0, 1) := by decide +kernel
theorem d_Model_close_60 : decode b_Model_close 60 = .ok (.ireturn, 1) := by decide +kernel
theorem d_Model_close_61 : decode b_Model_close 61 = .ok (.aload_n 0, 1) := by decide +kernel
theorem d_Model_close_62 : decode b_Model_close 62 = .ok (.getfield 19, 3) := by decide +kernel
theorem d_Model_close_65 : decode b_Model_close 65 = .ok (.iload_n 1, 1) := by decide +kernel
theorem d_Model_close_66 : decode b_Model_close 66 = .ok (.iconst 1, 1) := by decide +kernel
theorem d_Model_close_67 : decode b_Model_close 67 = .ok (.bastore, 1) := by decide +kernel
theorem d_Model_close_68 : decode b_Model_close 68 = .ok (.aload_n 0, 1) := by decide +kernel
theorem d_Model_close_69 : decode b_Model_close 69 = .ok (.iconst 0, 1) := by decide +kernel
theorem d_Model_close_70 : decode b_Model_close 70 = .ok (.putfield 75, 3) := by decide +kernel
theorem d_Model_close_73 : decode b_Model_close 73 = .ok (.iconst 0, 1) := by decide +kernel
theorem d_Model_close_74 : decode b_Model_close 74 = .ok (.istore_n 2, 1) := by decide +kernel
theorem d_Model_close_75 : decode b_Model_close 75 = .ok (.iload_n 2, 1) := by decide +kernel
theorem d_Model_close_76 : decode b_Model_close 76 = .ok (.sipush 1024, 3) := by decide +kernel
theorem d_Model_close_79 : decode b_Model_close 79 = .ok (.if_icmp .ge 85, 3) := by decide +kernel
theorem d_Model_close_82 : decode b_Model_close 82 = .ok (.iload_n 2, 1) := by decide +kernel
theorem d_Model_close_83 : decode b_Model_close 83 = .ok (.bipush 32, 2) := by decide +kernel
theorem d_Model_close_85 : decode b_Model_close 85 = .ok (.irem, 1) := by decide +kernel
theorem d_Model_close_86 : decode b_Model_close 86 = .ok (.bipush 16, 2) := by decide +kernel
theorem d_Model_close_88 : decode b_Model_close 88 = .ok (.isub, 1) := by decide +kernel
theorem d_Model_close_89 : decode b_Model_close 89 = .ok (.istore_n 3, 1) := by decide +kernel
theorem d_Model_close_90 : decode b_Model_close 90 = .ok (.iload_n 2, 1) := by decide +kernel
theorem d_Model_close_91 : decode b_Model_close 91 = .ok (.bipush 32, 2) := by decide +kernel
theorem d_Model_close_93 : decode b_Model_close 93 = .ok (.idiv, 1) := by decide +kernel
theorem d_Model_close_94 : decode b_Model_close 94 = .ok (.bipush 16, 2) := by decide +kernel
theorem d_Model_close_96 : decode b_Model_close 96 = .ok (.isub, 1) := by decide +kernel
theorem d_Model_close_97 : decode b_Model_close 97 = .ok (.istore 4, 2) := by decide +kernel
theorem d_Model_close_99 : decode b_Model_close 99 = .ok (.aload_n 0, 1) := by decide +kernel
theorem d_Model_close_100 : decode b_Model_close 100 = .ok (.iload_n 1, 1) := by decide +kernel
theorem d_Model_close_101 : decode b_Model_close 101 = .ok (.iload_n 3, 1) := by decide +kernel
theorem d_Model_close_102 : decode b_Model_close 102 = .ok (.iload 4, 2) := by decide +kernel
theorem d_Model_close_104 : decode b_Model_close 104 = .ok (.invokevirtual 102, 3) := by decide +kernel
theorem d_Model_close_107 : decode b_Model_close 107 = .ok (.ifCond .ne 6, 3) := by decide +kernel
theorem d_Model_close_110 : decode b_Model_close 110 = .ok (.goto 48, 3) := by decide +kernel
theorem d_Model_close_113 : decode b_Model_close 113 = .ok (.aload_n 0, 1) := by decide +kernel
theorem d_Model_close_114 : decode b_Model_close 114 = .ok (.getfield 26, 3) := by decide +kernel
theorem d_Model_close_117 : decode b_Model_close 117 = .ok (.bipush 49, 2) := by decide +kernel
theorem d_Model_close_119 : decode b_Model_close 119 = .ok (.iload_n 1, 1) := by decide +kernel
theorem d_Model_close_120 : decode b_Model_close 120 = .ok (.imul, 1) := by decide +kernel
theorem d_Model_close_121 : decode b_Model_close 121 = .ok (.aload_n 0, 1) := by decide +kernel
theorem d_Model_close_122 : decode b_Model_close 122 = .ok (.getfield 23, 3) := by decide +kernel
theorem d_Model_close_125 : decode b_Model_close 125 = .ok (.iload_n 1, 1) := by decide +kernel
theorem d_Model_close_126 : decode b_Model_close 126 = .ok (.iaload, 1) := by decide +kernel
theorem d_Model_close_127 : decode b_Model_close 127 = .ok (.iadd, 1) := by decide +kernel
theorem d_Model_close_128 : decode b_Model_close 128 = .ok (.iload_n 3, 1) := by decide +kernel
theorem d_Model_close_129 : decode b_Model_close 129 = .ok (.iastore, 1) := by decide +kernel
theorem d_Model_close_130 : decode b_Model_close 130 = .ok (.aload_n 0, 1) := by decide +kernel
theorem d_Model_close_131 : decode b_Model_close 131 = .ok (.getfield 29, 3) := by decide +kernel
theorem d_Model_close_134 : decode b_Model_close 134 = .ok (.bipush 49, 2) := by decide +kernel
theorem d_Model_close_136 : decode b_Model_close 136 = .ok (.iload_n 1, 1) := by decide +kernel
theorem d_Model_close_137 : decode b_Model_close 137 = .ok (.imul, 1) := by decide +kernel
theorem d_Model_close_138 : decode b_Model_close 138 = .ok (.aload_n 0, 1) := by decide +kernel
theorem d_Model_close_139 : decode b_Model_close 139 = .ok (.getfield 23, 3) := by decide +kernel
theorem d_Model_close_142 : decode b_Model_close 142 = .ok (.iload_n 1, 1) := by decide +kernel
theorem d_Model_close_143 : decode b_Model_close 143 = .ok (.iaload, 1) := by decide +kernel
theorem d_Model_close_144 : decode b_Model_close 144 = .ok (.iadd, 1) := by decide +kernel
theorem d_Model_close_145 : decode b_Model_close 145 = .ok (.iload 4, 2) := by decide +kernel
theorem d_Model_close_147 : decode b_Model_close 147 = .ok (.iastore, 1) := by decide +kernel
theorem d_Model_close_148 : decode b_Model_close 148 = .ok (.aload_n 0, 1) := by decide +kernel
theorem d_Model_close_149 : decode b_Model_close 149 = .ok (.getfield 23, 3) := by decide +kernel
theorem d_Model_close_152 : decode b_Model_close 152 = .ok (.iload_n 1, 1) := by decide +kernel
theorem d_Model_close_153 : decode b_Model_close 153 = .ok (.dup2, 1) := by decide +kernel
theorem d_Model_close_154 : decode b_Model_close 154 = .ok (.iaload, 1) := by decide +kernel
theorem d_Model_close_155 : decode b_Model_close 155 = .ok (.iconst 1, 1) := by decide +kernel
theorem d_Model_close_156 : decode b_Model_close 156 = .ok (.iadd, 1) := by decide +kernel
theorem d_Model_close_157 : decode b_Model_close 157 = .ok (.iastore, 1) := by decide +kernel
theorem d_Model_close_158 : decode b_Model_close 158 = .ok (.iinc 2 1, 3) := by decide +kernel
theorem d_Model_close_161 : decode b_Model_close 161 = .ok (.goto (-86), 3) := by decide +kernel
theorem d_Model_close_164 : decode b_Model_close 164 = .ok (.aload_n 0, 1) := by decide +kernel
theorem d_Model_close_165 : decode b_Model_close 165 = .ok (.getfield 23, 3) := by decide +kernel
theorem d_Model_close_168 : decode b_Model_close 168 = .ok (.iload_n 1, 1) := by decide +kernel
theorem d_Model_close_169 : decode b_Model_close 169 = .ok (.iaload, 1) := by decide +kernel
theorem d_Model_close_170 : decode b_Model_close 170 = .ok (.ireturn, 1) := by decide +kernel
theorem d_Model_least_0 : decode b_Model_least 0 = .ok (.aload_n 0, 1) := by decide +kernel
theorem d_Model_least_1 : decode b_Model_least 1 = .ok (.iload_n 1, 1) := by decide +kernel
theorem d_Model_least_2 : decode b_Model_least 2 = .ok (.iconst 2, 1) := by decide +kernel
theorem d_Model_least_3 : decode b_Model_least 3 = .ok (.bipush 20, 2) := by decide +kernel
theorem d_Model_least_5 : decode b_Model_least 5 = .ok (.invokestatic 63, 3) := by decide +kernel
theorem d_Model_least_8 : decode b_Model_least 8 = .ok (.ifCond .ne 7, 3) := by decide +kernel
theorem d_Model_least_11 : decode b_Model_least 11 = .ok (.iconst 1, 1) := by decide +kernel
theorem d_Model_least_12 : decode b_Model_least 12 = .ok (.goto 4, 3) := by decide +kernel
theorem d_Model_least_15 : decode b_Model_least 15 = .ok (.iconst 0, 1) := by decide +kernel
theorem d_Model_least_16 : decode b_Model_least 16 = .ok (.iconst 0, 1) := by decide +kernel
theorem d_Model_least_17 : decode b_Model_least 17 = .ok (.iconst 0, 1) := by decide +kernel
theorem d_Model_least_18 : decode b_Model_least 18 = .ok (.invokevirtual 67, 3) := by decide +kernel
theorem d_Model_least_21 : decode b_Model_least 21 = .ok (.ifCond .eq 5, 3) := by decide +kernel
theorem d_Model_least_24 : decode b_Model_least 24 = .ok (.iconst 0, 1) := by decide +kernel
theorem d_Model_least_25 : decode b_Model_least 25 = .ok (.ireturn, 1) := by decide +kernel
theorem d_Model_least_26 : decode b_Model_least 26 = .ok (.aload_n 0, 1) := by decide +kernel
theorem d_Model_least_27 : decode b_Model_least 27 = .ok (.getfield 32, 3) := by decide +kernel
theorem d_Model_least_30 : decode b_Model_least 30 = .ok (.istore_n 2, 1) := by decide +kernel
theorem d_Model_least_31 : decode b_Model_least 31 = .ok (.aload_n 0, 1) := by decide +kernel
theorem d_Model_least_32 : decode b_Model_least 32 = .ok (.iload_n 1, 1) := by decide +kernel
theorem d_Model_least_33 : decode b_Model_least 33 = .ok (.putfield 32, 3) := by decide +kernel
theorem d_Model_least_36 : decode b_Model_least 36 = .ok (.aload_n 0, 1) := by decide +kernel
theorem d_Model_least_37 : decode b_Model_least 37 = .ok (.iconst 0, 1) := by decide +kernel
theorem d_Model_least_38 : decode b_Model_least 38 = .ok (.putfield 75, 3) := by decide +kernel
theorem d_Model_least_41 : decode b_Model_least 41 = .ok (.iload_n 2, 1) := by decide +kernel
theorem d_Model_least_42 : decode b_Model_least 42 = .ok (.ireturn, 1) := by decide +kernel
theorem d_Model_bound_0 : decode b_Model_bound 0 = .ok (.aload_n 0, 1) := by decide +kernel
theorem d_Model_bound_1 : decode b_Model_bound 1 = .ok (.iload_n 1, 1) := by decide +kernel
theorem d_Model_bound_2 : decode b_Model_bound 2 = .ok (.iconst 0, 1) := by decide +kernel
theorem d_Model_bound_3 : decode b_Model_bound 3 = .ok (.sipush 9801, 3) := by decide +kernel
theorem d_Model_bound_6 : decode b_Model_bound 6 = .ok (.invokestatic 63, 3) := by decide +kernel
theorem d_Model_bound_9 : decode b_Model_bound 9 = .ok (.ifCond .ne 7, 3) := by decide +kernel
theorem d_Model_bound_12 : decode b_Model_bound 12 = .ok (.iconst 1, 1) := by decide +kernel
theorem d_Model_bound_13 : decode b_Model_bound 13 = .ok (.goto 4, 3) := by decide +kernel
theorem d_Model_bound_16 : decode b_Model_bound 16 = .ok (.iconst 0, 1) := by decide +kernel
theorem d_Model_bound_17 : decode b_Model_bound 17 = .ok (.iconst 0, 1) := by decide +kernel
theorem d_Model_bound_18 : decode b_Model_bound 18 = .ok (.iconst 0, 1) := by decide +kernel
theorem d_Model_bound_19 : decode b_Model_bound 19 = .ok (.invokevirtual 67, 3) := by decide +kernel
theorem d_Model_bound_22 : decode b_Model_bound 22 = .ok (.ifCond .eq 5, 3) := by decide +kernel
theorem d_Model_bound_25 : decode b_Model_bound 25 = .ok (.iconst 0, 1) := by decide +kernel
theorem d_Model_bound_26 : decode b_Model_bound 26 = .ok (.ireturn, 1) := by decide +kernel
theorem d_Model_bound_27 : decode b_Model_bound 27 = .ok (.aload_n 0, 1) := by decide +kernel
theorem d_Model_bound_28 : decode b_Model_bound 28 = .ok (.getfield 36, 3) := by decide +kernel
theorem d_Model_bound_31 : decode b_Model_bound 31 = .ok (.istore_n 2, 1) := by decide +kernel
theorem d_Model_bound_32 : decode b_Model_bound 32 = .ok (.aload_n 0, 1) := by decide +kernel
theorem d_Model_bound_33 : decode b_Model_bound 33 = .ok (.iload_n 1, 1) := by decide +kernel
theorem d_Model_bound_34 : decode b_Model_bound 34 = .ok (.putfield 36, 3) := by decide +kernel
theorem d_Model_bound_37 : decode b_Model_bound 37 = .ok (.aload_n 0, 1) := by decide +kernel
theorem d_Model_bound_38 : decode b_Model_bound 38 = .ok (.iconst 0, 1) := by decide +kernel
theorem d_Model_bound_39 : decode b_Model_bound 39 = .ok (.putfield 75, 3) := by decide +kernel
theorem d_Model_bound_42 : decode b_Model_bound 42 = .ok (.iload_n 2, 1) := by decide +kernel
theorem d_Model_bound_43 : decode b_Model_bound 43 = .ok (.ireturn, 1) := by decide +kernel
theorem d_Model_stepOf_0 : decode b_Model_stepOf 0 = .ok (.aload_n 0, 1) := by decide +kernel
theorem d_Model_stepOf_1 : decode b_Model_stepOf 1 = .ok (.getfield 13, 3) := by decide +kernel
theorem d_Model_stepOf_4 : decode b_Model_stepOf 4 = .ok (.bipush 28, 2) := by decide +kernel
theorem d_Model_stepOf_6 : decode b_Model_stepOf 6 = .ok (.iload_n 1, 1) := by decide +kernel
theorem d_Model_stepOf_7 : decode b_Model_stepOf 7 = .ok (.imul, 1) := by decide +kernel
theorem d_Model_stepOf_8 : decode b_Model_stepOf 8 = .ok (.iload_n 2, 1) := by decide +kernel
theorem d_Model_stepOf_9 : decode b_Model_stepOf 9 = .ok (.aload_n 0, 1) := by decide +kernel
theorem d_Model_stepOf_10 : decode b_Model_stepOf 10 = .ok (.getfield 7, 3) := by decide +kernel
theorem d_Model_stepOf_13 : decode b_Model_stepOf 13 = .ok (.iload_n 1, 1) := by decide +kernel
theorem d_Model_stepOf_14 : decode b_Model_stepOf 14 = .ok (.iaload, 1) := by decide +kernel
theorem d_Model_stepOf_15 : decode b_Model_stepOf 15 = .ok (.iadd, 1) := by decide +kernel
theorem d_Model_stepOf_16 : decode b_Model_stepOf 16 = .ok (.aload_n 0, 1) := by decide +kernel
theorem d_Model_stepOf_17 : decode b_Model_stepOf 17 = .ok (.getfield 7, 3) := by decide +kernel
theorem d_Model_stepOf_20 : decode b_Model_stepOf 20 = .ok (.iload_n 1, 1) := by decide +kernel
theorem d_Model_stepOf_21 : decode b_Model_stepOf 21 = .ok (.iaload, 1) := by decide +kernel
theorem d_Model_stepOf_22 : decode b_Model_stepOf 22 = .ok (.irem, 1) := by decide +kernel
theorem d_Model_stepOf_23 : decode b_Model_stepOf 23 = .ok (.iadd, 1) := by decide +kernel
theorem d_Model_stepOf_24 : decode b_Model_stepOf 24 = .ok (.iaload, 1) := by decide +kernel
theorem d_Model_stepOf_25 : decode b_Model_stepOf 25 = .ok (.ireturn, 1) := by decide +kernel
theorem d_Model_heightOf_0 : decode b_Model_heightOf 0 = .ok (.aload_n 0, 1) := by decide +kernel
theorem d_Model_heightOf_1 : decode b_Model_heightOf 1 = .ok (.getfield 16, 3) := by decide +kernel
theorem d_Model_heightOf_4 : decode b_Model_heightOf 4 = .ok (.bipush 28, 2) := by decide +kernel
theorem d_Model_heightOf_6 : decode b_Model_heightOf 6 = .ok (.iload_n 1, 1) := by decide +kernel
theorem d_Model_heightOf_7 : decode b_Model_heightOf 7 = .ok (.imul, 1) := by decide +kernel
theorem d_Model_heightOf_8 : decode b_Model_heightOf 8 = .ok (.iload_n 2, 1) := by decide +kernel
theorem d_Model_heightOf_9 : decode b_Model_heightOf 9 = .ok (.aload_n 0, 1) := by decide +kernel
theorem d_Model_heightOf_10 : decode b_Model_heightOf 10 = .ok (.getfield 7, 3) := by decide +kernel
theorem d_Model_heightOf_13 : decode b_Model_heightOf 13 = .ok (.iload_n 1, 1) := by decide +kernel
theorem d_Model_heightOf_14 : decode b_Model_heightOf 14 = .ok (.iaload, 1) := by decide +kernel
theorem d_Model_heightOf_15 : decode b_Model_heightOf 15 = .ok (.iadd, 1) := by decide +kernel
theorem d_Model_heightOf_16 : decode b_Model_heightOf 16 = .ok (.aload_n 0, 1) := by decide +kernel
theorem d_Model_heightOf_17 : decode b_Model_heightOf 17 = .ok (.getfield 7, 3) := by decide +kernel
theorem d_Model_heightOf_20 : decode b_Model_heightOf 20 = .ok (.iload_n 1, 1) := by decide +kernel
theorem d_Model_heightOf_21 : decode b_Model_heightOf 21 = .ok (.iaload, 1) := by decide +kernel
theorem d_Model_heightOf_22 : decode b_Model_heightOf 22 = .ok (.irem, 1) := by decide +kernel
theorem d_Model_heightOf_23 : decode b_Model_heightOf 23 = .ok (.iadd, 1) := by decide +kernel
theorem d_Model_heightOf_24 : decode b_Model_heightOf 24 = .ok (.iaload, 1) := by decide +kernel
theorem d_Model_heightOf_25 : decode b_Model_heightOf 25 = .ok (.ireturn, 1) := by decide +kernel
theorem d_Model_matches_0 : decode b_Model_matches 0 = .ok (.aload_n 0, 1) := by decide +kernel
theorem d_Model_matches_1 : decode b_Model_matches 1 = .ok (.iload_n 3, 1) := by decide +kernel
theorem d_Model_matches_2 : decode b_Model_matches 2 = .ok (.iload 4, 2) := by decide +kernel
theorem d_Model_matches_4 : decode b_Model_matches 4 = .ok (.invokevirtual 105, 3) := by decide +kernel
theorem d_Model_matches_7 : decode b_Model_matches 7 = .ok (.iload 5, 2) := by decide +kernel
theorem d_Model_matches_9 : decode b_Model_matches 9 = .ok (.iadd, 1) := by decide +kernel
theorem d_Model_matches_10 : decode b_Model_matches 10 = .ok (.iconst 3, 1) := by decide +kernel
theorem d_Model_matches_11 : decode b_Model_matches 11 = .ok (.iand, 1) := by decide +kernel
theorem d_Model_matches_12 : decode b_Model_matches 12 = .ok (.aload_n 0, 1) := by decide +kernel
theorem d_Model_matches_13 : decode b_Model_matches 13 = .ok (.iload_n 1, 1) := by decide +kernel
theorem d_Model_matches_14 : decode b_Model_matches 14 = .ok (.iload_n 2, 1) := by decide +kernel
theorem d_Model_matches_15 : decode b_Model_matches 15 = .ok (.invokevirtual 105, 3) := by decide +kernel
theorem d_Model_matches_18 : decode b_Model_matches 18 = .ok (.iconst 2, 1) := by decide +kernel
theorem d_Model_matches_19 : decode b_Model_matches 19 = .ok (.iadd, 1) := by decide +kernel
theorem d_Model_matches_20 : decode b_Model_matches 20 = .ok (.iconst 3, 1) := by decide +kernel
theorem d_Model_matches_21 : decode b_Model_matches 21 = .ok (.iand, 1) := by decide +kernel
theorem d_Model_matches_22 : decode b_Model_matches 22 = .ok (.if_icmp .ne 7, 3) := by decide +kernel
theorem d_Model_matches_25 : decode b_Model_matches 25 = .ok (.iconst 1, 1) := by decide +kernel
theorem d_Model_matches_26 : decode b_Model_matches 26 = .ok (.goto 4, 3) := by decide +kernel
theorem d_Model_matches_29 : decode b_Model_matches 29 = .ok (.iconst 0, 1) := by decide +kernel
theorem d_Model_matches_30 : decode b_Model_matches 30 = .ok (.ireturn, 1) := by decide +kernel
theorem d_Model_turnsOf_0 : decode b_Model_turnsOf 0 = .ok (.aload_n 0, 1) := by decide +kernel
theorem d_Model_turnsOf_1 : decode b_Model_turnsOf 1 = .ok (.iload_n 1, 1) := by decide +kernel
theorem d_Model_turnsOf_2 : decode b_Model_turnsOf 2 = .ok (.iload_n 2, 1) := by decide +kernel
theorem d_Model_turnsOf_3 : decode b_Model_turnsOf 3 = .ok (.invokevirtual 105, 3) := by decide +kernel
theorem d_Model_turnsOf_6 : decode b_Model_turnsOf 6 = .ok (.iconst 2, 1) := by decide +kernel
theorem d_Model_turnsOf_7 : decode b_Model_turnsOf 7 = .ok (.iadd, 1) := by decide +kernel
theorem d_Model_turnsOf_8 : decode b_Model_turnsOf 8 = .ok (.aload_n 0, 1) := by decide +kernel
theorem d_Model_turnsOf_9 : decode b_Model_turnsOf 9 = .ok (.iload_n 3, 1) := by decide +kernel
theorem d_Model_turnsOf_10 : decode b_Model_turnsOf 10 = .ok (.iload 4, 2) := by decide +kernel
theorem d_Model_turnsOf_12 : decode b_Model_turnsOf 12 = .ok (.invokevirtual 105, 3) := by decide +kernel
theorem d_Model_turnsOf_15 : decode b_Model_turnsOf 15 = .ok (.isub, 1) := by decide +kernel
theorem d_Model_turnsOf_16 : decode b_Model_turnsOf 16 = .ok (.iconst 3, 1) := by decide +kernel
theorem d_Model_turnsOf_17 : decode b_Model_turnsOf 17 = .ok (.iand, 1) := by decide +kernel
theorem d_Model_turnsOf_18 : decode b_Model_turnsOf 18 = .ok (.ireturn, 1) := by decide +kernel
