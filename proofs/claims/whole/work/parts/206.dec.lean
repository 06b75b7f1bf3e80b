theorem d_Model_finds_0 : decode b_Model_finds 0 = .ok (.aload_n 0, 1) := by decide +kernel
theorem d_Model_finds_1 : decode b_Model_finds 1 = .ok (.iload_n 1, 1) := by decide +kernel
theorem d_Model_finds_2 : decode b_Model_finds 2 = .ok (.iload_n 2, 1) := by decide +kernel
theorem d_Model_finds_3 : decode b_Model_finds 3 = .ok (.iload_n 3, 1) := by decide +kernel
theorem d_Model_finds_4 : decode b_Model_finds 4 = .ok (.iload 4, 2) := by decide +kernel
theorem d_Model_finds_6 : decode b_Model_finds 6 = .ok (.invokevirtual 109, 3) := by decide +kernel
theorem d_Model_finds_9 : decode b_Model_finds 9 = .ok (.istore 5, 2) := by decide +kernel
theorem d_Model_finds_11 : decode b_Model_finds 11 = .ok (.aload_n 0, 1) := by decide +kernel
theorem d_Model_finds_12 : decode b_Model_finds 12 = .ok (.iload_n 1, 1) := by decide +kernel
theorem d_Model_finds_13 : decode b_Model_finds 13 = .ok (.iload_n 2, 1) := by decide +kernel
theorem d_Model_finds_14 : decode b_Model_finds 14 = .ok (.iconst 1, 1) := by decide +kernel
theorem d_Model_finds_15 : decode b_Model_finds 15 = .ok (.isub, 1) := by decide +kernel
theorem d_Model_finds_16 : decode b_Model_finds 16 = .ok (.iload_n 3, 1) := by decide +kernel
theorem d_Model_finds_17 : decode b_Model_finds 17 = .ok (.iload 4, 2) := by decide +kernel
theorem d_Model_finds_19 : decode b_Model_finds 19 = .ok (.iconst 1, 1) := by decide +kernel
theorem d_Model_finds_20 : decode b_Model_finds 20 = .ok (.iadd, 1) := by decide +kernel
theorem d_Model_finds_21 : decode b_Model_finds 21 = .ok (.iload 5, 2) := by decide +kernel
theorem d_Model_finds_23 : decode b_Model_finds 23 = .ok (.invokevirtual 113, 3) := by decide +kernel
theorem d_Model_finds_26 : decode b_Model_finds 26 = .ok (.ifCond .eq 5, 3) := by decide +kernel
theorem d_Model_finds_29 : decode b_Model_finds 29 = .ok (.iconst 0, 1) := by decide +kernel
theorem d_Model_finds_30 : decode b_Model_finds 30 = .ok (.ireturn, 1) := by decide +kernel
theorem d_Model_finds_31 : decode b_Model_finds 31 = .ok (.aload_n 0, 1) := by decide +kernel
theorem d_Model_finds_32 : decode b_Model_finds 32 = .ok (.getfield 7, 3) := by decide +kernel
theorem d_Model_finds_35 : decode b_Model_finds 35 = .ok (.iload_n 1, 1) := by decide +kernel
theorem d_Model_finds_36 : decode b_Model_finds 36 = .ok (.iaload, 1) := by decide +kernel
theorem d_Model_finds_37 : decode b_Model_finds 37 = .ok (.aload_n 0, 1) := by decide +kernel
theorem d_Model_finds_38 : decode b_Model_finds 38 = .ok (.getfield 7, 3) := by decide +kernel
theorem d_Model_finds_41 : decode b_Model_finds 41 = .ok (.iload_n 3, 1) := by decide +kernel
theorem d_Model_finds_42 : decode b_Model_finds 42 = .ok (.iaload, 1) := by decide +kernel
theorem d_Model_finds_43 : decode b_Model_finds 43 = .ok (.if_icmp .ge 12, 3) := by decide +kernel
theorem d_Model_finds_46 : decode b_Model_finds 46 = .ok (.aload_n 0, 1) := by decide +kernel
theorem d_Model_finds_47 : decode b_Model_finds 47 = .ok (.getfield 7, 3) := by decide +kernel
theorem d_Model_finds_50 : decode b_Model_finds 50 = .ok (.iload_n 1, 1) := by decide +kernel
theorem d_Model_finds_51 : decode b_Model_finds 51 = .ok (.iaload, 1) := by decide +kernel
theorem d_Model_finds_52 : decode b_Model_finds 52 = .ok (.goto 9, 3) := by decide +kernel
theorem d_Model_finds_55 : decode b_Model_finds 55 = .ok (.aload_n 0, 1) := by decide +kernel
theorem d_Model_finds_56 : decode b_Model_finds 56 = .ok (.getfield 7, 3) := by decide +kernel
theorem d_Model_finds_59 : decode b_Model_finds 59 = .ok (.iload_n 3, 1) := by decide +kernel
theorem d_Model_finds_60 : decode b_Model_finds 60 = .ok (.iaload, 1) := by decide +kernel
theorem d_Model_finds_61 : decode b_Model_finds 61 = .ok (.istore 6, 2) := by decide +kernel
theorem d_Model_finds_63 : decode b_Model_finds 63 = .ok (.iconst 0, 1) := by decide +kernel
theorem d_Model_finds_64 : decode b_Model_finds 64 = .ok (.istore 7, 2) := by decide +kernel
theorem d_Model_finds_66 : decode b_Model_finds 66 = .ok (.iconst 0, 1) := by decide +kernel
theorem d_Model_finds_67 : decode b_Model_finds 67 = .ok (.istore 8, 2) := by decide +kernel
theorem d_Model_finds_69 : decode b_Model_finds 69 = .ok (.iload 7, 2) := by decide +kernel
theorem d_Model_finds_71 : decode b_Model_finds 71 = .ok (.iload 6, 2) := by decide +kernel
theorem d_Model_finds_73 : decode b_Model_finds 73 = .ok (.if_icmp .ge 82, 3) := by decide +kernel
theorem d_Model_finds_76 : decode b_Model_finds 76 = .ok (.aload_n 0, 1) := by decide +kernel
theorem d_Model_finds_77 : decode b_Model_finds 77 = .ok (.iload_n 1, 1) := by decide +kernel
theorem d_Model_finds_78 : decode b_Model_finds 78 = .ok (.iload_n 2, 1) := by decide +kernel
theorem d_Model_finds_79 : decode b_Model_finds 79 = .ok (.iload 7, 2) := by decide +kernel
theorem d_Model_finds_81 : decode b_Model_finds 81 = .ok (.iadd, 1) := by decide +kernel
theorem d_Model_finds_82 : decode b_Model_finds 82 = .ok (.aload_n 0, 1) := by decide +kernel
theorem d_Model_finds_83 : decode b_Model_finds 83 = .ok (.getfield 7, 3) := by decide +kernel
theorem d_Model_finds_86 : decode b_Model_finds 86 = .ok (.iload_n 1, 1) := by decide +kernel
theorem d_Model_finds_87 : decode b_Model_finds 87 = .ok (.iaload, 1) := by decide +kernel
theorem d_Model_finds_88 : decode b_Model_finds 88 = .ok (.irem, 1) := by decide +kernel
theorem d_Model_finds_89 : decode b_Model_finds 89 = .ok (.iload_n 3, 1) := by decide +kernel
theorem d_Model_finds_90 : decode b_Model_finds 90 = .ok (.iload 4, 2) := by decide +kernel
theorem d_Model_finds_92 : decode b_Model_finds 92 = .ok (.iload 7, 2) := by decide +kernel
theorem d_Model_finds_94 : decode b_Model_finds 94 = .ok (.isub, 1) := by decide +kernel
theorem d_Model_finds_95 : decode b_Model_finds 95 = .ok (.aload_n 0, 1) := by decide +kernel
theorem d_Model_finds_96 : decode b_Model_finds 96 = .ok (.getfield 7, 3) := by decide +kernel
theorem d_Model_finds_99 : decode b_Model_finds 99 = .ok (.iload_n 3, 1) := by decide +kernel
theorem d_Model_finds_100 : decode b_Model_finds 100 = .ok (.iaload, 1) := by decide +kernel
theorem d_Model_finds_101 : decode b_Model_finds 101 = .ok (.iadd, 1) := by decide +kernel
theorem d_Model_finds_102 : decode b_Model_finds 102 = .ok (.aload_n 0, 1) := by decide +kernel
theorem d_Model_finds_103 : decode b_Model_finds 103 = .ok (.getfield 7, 3) := by decide +kernel
theorem d_Model_finds_106 : decode b_Model_finds 106 = .ok (.iload_n 3, 1) := by decide +kernel
theorem d_Model_finds_107 : decode b_Model_finds 107 = .ok (.iaload, 1) := by decide +kernel
theorem d_Model_finds_108 : decode b_Model_finds 108 = .ok (.irem, 1) := by decide +kernel
theorem d_Model_finds_109 : decode b_Model_finds 109 = .ok (.iload 5, 2) := by decide +kernel
theorem d_Model_finds_111 : decode b_Model_finds 111 = .ok (.invokevirtual 113, 3) := by decide +kernel
theorem d_Model_finds_114 : decode b_Model_finds 114 = .ok (.ifCond .eq 41, 3) := by decide +kernel
theorem d_Model_finds_117 : decode b_Model_finds 117 = .ok (.aload_n 0, 1) := by decide +kernel
theorem d_Model_finds_118 : decode b_Model_finds 118 = .ok (.iload_n 1, 1) := by decide +kernel
theorem d_Model_finds_119 : decode b_Model_finds 119 = .ok (.iload_n 2, 1) := by decide +kernel
theorem d_Model_finds_120 : decode b_Model_finds 120 = .ok (.iload 7, 2) := by decide +kernel
theorem d_Model_finds_122 : decode b_Model_finds 122 = .ok (.iadd, 1) := by decide +kernel
theorem d_Model_finds_123 : decode b_Model_finds 123 = .ok (.invokevirtual 117, 3) := by decide +kernel
theorem d_Model_finds_126 : decode b_Model_finds 126 = .ok (.aload_n 0, 1) := by decide +kernel
theorem d_Model_finds_127 : decode b_Model_finds 127 = .ok (.iload_n 3, 1) := by decide +kernel
theorem d_Model_finds_128 : decode b_Model_finds 128 = .ok (.iload 4, 2) := by decide +kernel
theorem d_Model_finds_130 : decode b_Model_finds 130 = .ok (.iload 7, 2) := by decide +kernel
theorem d_Model_finds_132 : decode b_Model_finds 132 = .ok (.isub, 1) := by decide +kernel
theorem d_Model_finds_133 : decode b_Model_finds 133 = .ok (.invokevirtual 117, 3) := by decide +kernel
theorem d_Model_finds_136 : decode b_Model_finds 136 = .ok (.isub, 1) := by decide +kernel
theorem d_Model_finds_137 : decode b_Model_finds 137 = .ok (.istore 9, 2) := by decide +kernel
theorem d_Model_finds_139 : decode b_Model_finds 139 = .ok (.iload 8, 2) := by decide +kernel
theorem d_Model_finds_141 : decode b_Model_finds 141 = .ok (.iload 9, 2) := by decide +kernel
theorem d_Model_finds_143 : decode b_Model_finds 143 = .ok (.iload 9, 2) := by decide +kernel
theorem d_Model_finds_145 : decode b_Model_finds 145 = .ok (.imul, 1) := by decide +kernel
theorem d_Model_finds_146 : decode b_Model_finds 146 = .ok (.iadd, 1) := by decide +kernel
theorem d_Model_finds_147 : decode b_Model_finds 147 = .ok (.istore 8, 2) := by decide +kernel
theorem d_Model_finds_149 : decode b_Model_finds 149 = .ok (.iinc 7 1, 3) := by decide +kernel
theorem d_Model_finds_152 : decode b_Model_finds 152 = .ok (.goto (-83), 3) := by decide +kernel
theorem d_Model_finds_155 : decode b_Model_finds 155 = .ok (.aload_n 0, 1) := by decide +kernel
theorem d_Model_finds_156 : decode b_Model_finds 156 = .ok (.getfield 42, 3) := by decide +kernel
theorem d_Model_finds_159 : decode b_Model_finds 159 = .ok (.iconst 0, 1) := by decide +kernel
theorem d_Model_finds_160 : decode b_Model_finds 160 = .ok (.iload_n 1, 1) := by decide +kernel
theorem d_Model_finds_161 : decode b_Model_finds 161 = .ok (.iastore, 1) := by decide +kernel
theorem d_Model_finds_162 : decode b_Model_finds 162 = .ok (.aload_n 0, 1) := by decide +kernel
theorem d_Model_finds_163 : decode b_Model_finds 163 = .ok (.getfield 42, 3) := by decide +kernel
theorem d_Model_finds_166 : decode b_Model_finds 166 = .ok (.iconst 1, 1) := by decide +kernel
theorem d_Model_finds_167 : decode b_Model_finds 167 = .ok (.iload_n 2, 1) := by decide +kernel
theorem d_Model_finds_168 : decode b_Model_finds 168 = .ok (.iastore, 1) := by decide +kernel
theorem d_Model_finds_169 : decode b_Model_finds 169 = .ok (.aload_n 0, 1) := by decide +kernel
theorem d_Model_finds_170 : decode b_Model_finds 170 = .ok (.getfield 42, 3) := by decide +kernel
theorem d_Model_finds_173 : decode b_Model_finds 173 = .ok (.iconst 2, 1) := by decide +kernel
theorem d_Model_finds_174 : decode b_Model_finds 174 = .ok (.iload_n 3, 1) := by decide +kernel
theorem d_Model_finds_175 : decode b_Model_finds 175 = .ok (.iastore, 1) := by decide +kernel
theorem d_Model_finds_176 : decode b_Model_finds 176 = .ok (.aload_n 0, 1) := by decide +kernel
theorem d_Model_finds_177 : decode b_Model_finds 177 = .ok (.getfield 42, 3) := by decide +kernel
theorem d_Model_finds_180 : decode b_Model_finds 180 = .ok (.iconst 3, 1) := by decide +kernel
theorem d_Model_finds_181 : decode b_Model_finds 181 = .ok (.iload 4, 2) := by decide +kernel
theorem d_Model_finds_183 : decode b_Model_finds 183 = .ok (.iastore, 1) := by decide +kernel
theorem d_Model_finds_184 : decode b_Model_finds 184 = .ok (.aload_n 0, 1) := by decide +kernel
theorem d_Model_finds_185 : decode b_Model_finds 185 = .ok (.getfield 42, 3) := by decide +kernel
theorem d_Model_finds_188 : decode b_Model_finds 188 = .ok (.iconst 4, 1) := by decide +kernel
theorem d_Model_finds_189 : decode b_Model_finds 189 = .ok (.iload 7, 2) := by decide +kernel
theorem d_Model_finds_191 : decode b_Model_finds 191 = .ok (.iastore, 1) := by decide +kernel
theorem d_Model_finds_192 : decode b_Model_finds 192 = .ok (.aload_n 0, 1) := by decide +kernel
theorem d_Model_finds_193 : decode b_Model_finds 193 = .ok (.getfield 42, 3) := by decide +kernel
theorem d_Model_finds_196 : decode b_Model_finds 196 = .ok (.iconst 5, 1) := by decide +kernel
theorem d_Model_finds_197 : decode b_Model_finds 197 = .ok (.iload 8, 2) := by decide +kernel
theorem d_Model_finds_199 : decode b_Model_finds 199 = .ok (.iastore, 1) := by decide +kernel
theorem d_Model_finds_200 : decode b_Model_finds 200 = .ok (.iload 7, 2) := by decide +kernel
theorem d_Model_finds_202 : decode b_Model_finds 202 = .ok (.aload_n 0, 1) := by decide +kernel
theorem d_Model_finds_203 : decode b_Model_finds 203 = .ok (.getfield 32, 3) := by decide +kernel
theorem d_Model_finds_206 : decode b_Model_finds 206 = .ok (.if_icmp .lt 19, 3) := by decide +kernel
theorem d_Model_finds_209 : decode b_Model_finds 209 = .ok (.iload 8, 2) := by decide +kernel
theorem d_Model_finds_211 : decode b_Model_finds 211 = .ok (.aload_n 0, 1) := by decide +kernel
theorem d_Model_finds_212 : decode b_Model_finds 212 = .ok (.getfield 36, 3) := by decide +kernel
theorem d_Model_finds_215 : decode b_Model_finds 215 = .ok (.iload 7, 2) := by decide +kernel
theorem d_Model_finds_217 : decode b_Model_finds 217 = .ok (.imul, 1) := by decide +kernel
theorem d_Model_finds_218 : decode b_Model_finds 218 = .ok (.if_icmp .gt 7, 3) := by decide +kernel
theorem d_Model_finds_221 : decode b_Model_finds 221 = .ok (.iconst 1, 1) := by decide +kernel
theorem d_Model_finds_222 : decode b_Model_finds 222 = .ok (.goto 4, 3) := by decide +kernel
theorem d_Model_finds_225 : decode b_Model_finds 225 = .ok (.iconst 0, 1) := by decide +kernel
theorem d_Model_finds_226 : decode b_Model_finds 226 = .ok (.ireturn, 1) := by decide +kernel
theorem d_Model_isAhead_0 : decode b_Model_isAhead 0 = .ok (.bipush 6, 2) := by decide +kernel
theorem d_Model_isAhead_2 : decode b_Model_isAhead 2 = .ok (.iload_n 1, 1) := by decide +kernel
theorem d_Model_isAhead_3 : decode b_Model_isAhead 3 = .ok (.imul, 1) := by decide +kernel
theorem d_Model_isAhead_4 : decode b_Model_isAhead 4 = .ok (.istore_n 2, 1) := by decide +kernel
theorem d_Model_isAhead_5 : decode b_Model_isAhead 5 = .ok (.aload_n 0, 1) := by decide +kernel
theorem d_Model_isAhead_6 : decode b_Model_isAhead 6 = .ok (.getfield 42, 3) := by decide +kernel
theorem d_Model_isAhead_9 : decode b_Model_isAhead 9 = .ok (.iconst 5, 1) := by decide +kernel
theorem d_Model_isAhead_10 : decode b_Model_isAhead 10 = .ok (.iaload, 1) := by decide +kernel
theorem d_Model_isAhead_11 : decode b_Model_isAhead 11 = .ok (.aload_n 0, 1) := by decide +kernel
theorem d_Model_isAhead_12 : decode b_Model_isAhead 12 = .ok (.getfield 39, 3) := by decide +kernel
theorem d_Model_isAhead_15 : decode b_Model_isAhead 15 = .ok (.iload_n 2, 1) := by decide +kernel
theorem d_Model_isAhead_16 : decode b_Model_isAhead 16 = .ok (.iconst 4, 1) := by decide +kernel
theorem d_Model_isAhead_17 : decode b_Model_isAhead 17 = .ok (.iadd, 1) := by decide +kernel
theorem d_Model_isAhead_18 : decode b_Model_isAhead 18 = .ok (.iaload, 1) := by decide +kernel
theorem d_Model_isAhead_19 : decode b_Model_isAhead 19 = .ok (.imul, 1) := by decide +kernel
theorem d_Model_isAhead_20 : decode b_Model_isAhead 20 = .ok (.istore_n 3, 1) := by decide +kernel
theorem d_Model_isAhead_21 : decode b_Model_isAhead 21 = .ok (.aload_n 0, 1) := by decide +kernel
theorem d_Model_isAhead_22 : decode b_Model_isAhead 22 = .ok (.getfield 39, 3) := by decide +kernel
theorem d_Model_isAhead_25 : decode b_Model_isAhead 25 = .ok (.iload_n 2, 1) := by decide +kernel
theorem d_Model_isAhead_26 : decode b_Model_isAhead 26 = .ok (.iconst 5, 1) := by decide +kernel
theorem d_Model_isAhead_27 : decode b_Model_isAhead 27 = .ok (.iadd, 1) := by decide +kernel
theorem d_Model_isAhead_28 : decode b_Model_isAhead 28 = .ok (.iaload, 1) := by decide +kernel
theorem d_Model_isAhead_29 : decode b_Model_isAhead 29 = .ok (.aload_n 0, 1) := by decide +kernel
theorem d_Model_isAhead_30 : decode b_Model_isAhead 30 = .ok (.getfield 42, 3) := by decide +kernel
theorem d_Model_isAhead_33 : decode b_Model_isAhead 33 = .ok (.iconst 4, 1) := by decide +kernel
theorem d_Model_isAhead_34 : decode b_Model_isAhead 34 = .ok (.iaload, 1) := by decide +kernel
theorem d_Model_isAhead_35 : decode b_Model_isAhead 35 = .ok (.imul, 1) := by decide +kernel
theorem d_Model_isAhead_36 : decode b_Model_isAhead 36 = .ok (.istore 4, 2) := by decide +kernel
theorem d_Model_isAhead_38 : decode b_Model_isAhead 38 = .ok (.iload_n 3, 1) := by decide +kernel
theorem d_Model_isAhead_39 : decode b_Model_isAhead 39 = .ok (.iload 4, 2) := by decide +kernel
theorem d_Model_isAhead_41 : decode b_Model_isAhead 41 = .ok (.if_icmp .eq 15, 3) := by decide +kernel
theorem d_Model_isAhead_44 : decode b_Model_isAhead 44 = .ok (.iload_n 3, 1) := by decide +kernel
theorem d_Model_isAhead_45 : decode b_Model_isAhead 45 = .ok (.iload 4, 2) := by decide +kernel
theorem d_Model_isAhead_47 : decode b_Model_isAhead 47 = .ok (.if_icmp .ge 7, 3) := by decide +kernel
theorem d_Model_isAhead_50 : decode b_Model_isAhead 50 = .ok (.iconst 1, 1) := by decide +kernel
theorem d_Model_isAhead_51 : decode b_Model_isAhead 51 = .ok (.goto 4, 3) := by decide +kernel
theorem d_Model_isAhead_54 : decode b_Model_isAhead 54 = .ok (.iconst 0, 1) := by decide +kernel
theorem d_Model_isAhead_55 : decode b_Model_isAhead 55 = .ok (.ireturn, 1) := by decide +kernel
theorem d_Model_isAhead_56 : decode b_Model_isAhead 56 = .ok (.aload_n 0, 1) := by decide +kernel
theorem d_Model_isAhead_57 : decode b_Model_isAhead 57 = .ok (.getfield 42, 3) := by decide +kernel
theorem d_Model_isAhead_60 : decode b_Model_isAhead 60 = .ok (.iconst 4, 1) := by decide +kernel
theorem d_Model_isAhead_61 : decode b_Model_isAhead 61 = .ok (.iaload, 1) := by decide +kernel
theorem d_Model_isAhead_62 : decode b_Model_isAhead 62 = .ok (.aload_n 0, 1) := by decide +kernel
theorem d_Model_isAhead_63 : decode b_Model_isAhead 63 = .ok (.getfield 39, 3) := by decide +kernel
theorem d_Model_isAhead_66 : decode b_Model_isAhead 66 = .ok (.iload_n 2, 1) := by decide +kernel
theorem d_Model_isAhead_67 : decode b_Model_isAhead 67 = .ok (.iconst 4, 1) := by decide +kernel
theorem d_Model_isAhead_68 : decode b_Model_isAhead 68 = .ok (.iadd, 1) := by decide +kernel
theorem d_Model_isAhead_69 : decode b_Model_isAhead 69 = .ok (.iaload, 1) := by decide +kernel
theorem d_Model_isAhead_70 : decode b_Model_isAhead 70 = .ok (.if_icmp .eq 26, 3) := by decide +kernel
theorem d_Model_isAhead_73 : decode b_Model_isAhead 73 = .ok (.aload_n 0, 1) := by decide +kernel
theorem d_Model_isAhead_74 : decode b_Model_isAhead 74 = .ok (.getfield 42, 3) := by decide +kernel
theorem d_Model_isAhead_77 : decode b_Model_isAhead 77 = .ok (.iconst 4, 1) := by decide +kernel
theorem d_Model_isAhead_78 : decode b_Model_isAhead 78 = .ok (.iaload, 1) := by decide +kernel
theorem d_Model_isAhead_79 : decode b_Model_isAhead 79 = .ok (.aload_n 0, 1) := by decide +kernel
theorem d_Model_isAhead_80 : decode b_Model_isAhead 80 = .ok (.getfield 39, 3) := by decide +kernel
theorem d_Model_isAhead_83 : decode b_Model_isAhead 83 = .ok (.iload_n 2, 1) := by decide +kernel
theorem d_Model_isAhead_84 : decode b_Model_isAhead 84 = .ok (.iconst 4, 1) := by decide +kernel
theorem d_Model_isAhead_85 : decode b_Model_isAhead 85 = .ok (.iadd, 1) := by decide +kernel
theorem d_Model_isAhead_86 : decode b_Model_isAhead 86 = .ok (.iaload, 1) := by decide +kernel
theorem d_Model_isAhead_87 : decode b_Model_isAhead 87 = .ok (.if_icmp .le 7, 3) := by decide +kernel
theorem d_Model_isAhead_90 : decode b_Model_isAhead 90 = .ok (.iconst 1, 1) := by decide +kernel
theorem d_Model_isAhead_91 : decode b_Model_isAhead 91 = .ok (.goto 4, 3) := by decide +kernel
theorem d_Model_isAhead_94 : decode b_Model_isAhead 94 = .ok (.iconst 0, 1) := by decide +kernel
theorem d_Model_isAhead_95 : decode b_Model_isAhead 95 = .ok (.ireturn, 1) := by decide +kernel
theorem d_Model_isAhead_96 : decode b_Model_isAhead 96 = .ok (.iconst 0, 1) := by decide +kernel
theorem d_Model_isAhead_97 : decode b_Model_isAhead 97 = .ok (.istore 5, 2) := by decide +kernel
theorem d_Model_isAhead_99 : decode b_Model_isAhead 99 = .ok (.iload 5, 2) := by decide +kernel
theorem d_Model_isAhead_101 : decode b_Model_isAhead 101 = .ok (.iconst 4, 1) := by decide +kernel
theorem d_Model_isAhead_102 : decode b_Model_isAhead 102 = .ok (.if_icmp .ge 53, 3) := by decide +kernel
theorem d_Model_isAhead_105 : decode b_Model_isAhead 105 = .ok (.aload_n 0, 1) := by decide +kernel
theorem d_Model_isAhead_106 : decode b_Model_isAhead 106 = .ok (.getfield 42, 3) := by decide +kernel
theorem d_Model_isAhead_109 : decode b_Model_isAhead 109 = .ok (.iload 5, 2) := by decide +kernel
theorem d_Model_isAhead_111 : decode b_Model_isAhead 111 = .ok (.iaload, 1) := by decide +kernel
theorem d_Model_isAhead_112 : decode b_Model_isAhead 112 = .ok (.aload_n 0, 1) := by decide +kernel
theorem d_Model_isAhead_113 : decode b_Model_isAhead 113 = .ok (.getfield 39, 3) := by decide +kernel
theorem d_Model_isAhead_116 : decode b_Model_isAhead 116 = .ok (.iload_n 2, 1) := by decide +kernel
theorem d_Model_isAhead_117 : decode b_Model_isAhead 117 = .ok (.iload 5, 2) := by decide +kernel
theorem d_Model_isAhead_119 : decode b_Model_isAhead 119 = .ok (.iadd, 1) := by decide +kernel
theorem d_Model_isAhead_120 : decode b_Model_isAhead 120 = .ok (.iaload, 1) := by decide +kernel
theorem d_Model_isAhead_121 : decode b_Model_isAhead 121 = .ok (.if_icmp .eq 28, 3) := by decide +kernel
theorem d_Model_isAhead_124 : decode b_Model_isAhead 124 = .ok (.aload_n 0, 1) := by decide +kernel
theorem d_Model_isAhead_125 : decode b_Model_isAhead 125 = .ok (.getfield 42, 3) := by decide +kernel
theorem d_Model_isAhead_128 : decode b_Model_isAhead 128 = .ok (.iload 5, 2) := by decide +kernel
theorem d_Model_isAhead_130 : decode b_Model_isAhead 130 = .ok (.iaload, 1) := by decide +kernel
theorem d_Model_isAhead_131 : decode b_Model_isAhead 131 = .ok (.aload_n 0, 1) := by decide +kernel
theorem d_Model_isAhead_132 : decode b_Model_isAhead 132 = .ok (.getfield 39, 3) := by decide +kernel
theorem d_Model_isAhead_135 : decode b_Model_isAhead 135 = .ok (.iload_n 2, 1) := by decide +kernel
theorem d_Model_isAhead_136 : decode b_Model_isAhead 136 = .ok (.iload 5, 2) := by decide +kernel
theorem d_Model_isAhead_138 : decode b_Model_isAhead 138 = .ok (.iadd, 1) := by decide +kernel
theorem d_Model_isAhead_139 : decode b_Model_isAhead 139 = .ok (.iaload, 1) := by decide +kernel
theorem d_Model_isAhead_140 : decode b_Model_isAhead 140 = .ok (.if_icmp .ge 7, 3) := by decide +kernel
theorem d_Model_isAhead_143 : decode b_Model_isAhead 143 = .ok (.iconst 1, 1) := by decide +kernel
theorem d_Model_isAhead_144 : decode b_Model_isAhead 144 = .ok (.goto 4, 3) := by decide +kernel
theorem d_Model_isAhead_147 : decode b_Model_isAhead 147 = .ok (.iconst 0, 1) := by decide +kernel
theorem d_Model_isAhead_148 : decode b_Model_isAhead 148 = .ok (.ireturn, 1) := by decide +kernel
theorem d_Model_isAhead_149 : decode b_Model_isAhead 149 = .ok (.iinc 5 1, 3) := by decide +kernel
theorem d_Model_isAhead_152 : decode b_Model_isAhead 152 = .ok (.goto (-53), 3) := by decide +kernel
theorem d_Model_isAhead_155 : decode b_Model_isAhead 155 = .ok (.iconst 0, 1) := by decide +kernel
theorem d_Model_isAhead_156 : decode b_Model_isAhead 156 = .ok (.ireturn, 1) := by decide +kernel
theorem d_Model_put_0 : decode b_Model_put 0 = .ok (.aload_n 0, 1) := by decide +kernel
theorem d_Model_put_1 : decode b_Model_put 1 = .ok (.getfield 120, 3) := by decide +kernel
theorem d_Model_put_4 : decode b_Model_put 4 = .ok (.istore_n 1, 1) := by decide +kernel
theorem d_Model_put_5 : decode b_Model_put 5 = .ok (.iload_n 1, 1) := by decide +kernel
theorem d_Model_put_6 : decode b_Model_put 6 = .ok (.ifCond .le 58, 3) := by decide +kernel
theorem d_Model_put_9 : decode b_Model_put 9 = .ok (.aload_n 0, 1) := by decide +kernel
theorem d_Model_put_10 : decode b_Model_put 10 = .ok (.iload_n 1, 1) := by decide +kernel
theorem d_Model_put_11 : decode b_Model_put 11 = .ok (.iconst 1, 1) := by decide +kernel
theorem d_Model_put_12 : decode b_Model_put 12 = .ok (.isub, 1) := by decide +kernel
theorem d_Model_put_13 : decode b_Model_put 13 = .ok (.invokevirtual 123, 3) := by decide +kernel
theorem d_Model_put_16 : decode b_Model_put 16 = .ok (.ifCond .eq 48, 3) := by decide +kernel
theorem d_Model_put_19 : decode b_Model_put 19 = .ok (.iconst 0, 1) := by decide +kernel
theorem d_Model_put_20 : decode b_Model_put 20 = .ok (.istore_n 2, 1) := by decide +kernel
theorem d_Model_put_21 : decode b_Model_put 21 = .ok (.iload_n 2, 1) := by decide +kernel
theorem d_Model_put_22 : decode b_Model_put 22 = .ok (.bipush 6, 2) := by decide +kernel
theorem d_Model_put_24 : decode b_Model_put 24 = .ok (.if_icmp .ge 34, 3) := by decide +kernel
theorem d_Model_put_27 : decode b_Model_put 27 = .ok (.aload_n 0, 1) := by decide +kernel
theorem d_Model_put_28 : decode b_Model_put 28 = .ok (.getfield 39, 3) := by decide +kernel
theorem d_Model_put_31 : decode b_Model_put 31 = .ok (.bipush 6, 2) := by decide +kernel
theorem d_Model_put_33 : decode b_Model_put 33 = .ok (.iload_n 1, 1) := by decide +kernel
theorem d_Model_put_34 : decode b_Model_put 34 = .ok (.imul, 1) := by decide +kernel
theorem d_Model_put_35 : decode b_Model_put 35 = .ok (.iload_n 2, 1) := by decide +kernel
theorem d_Model_put_36 : decode b_Model_put 36 = .ok (.iadd, 1) := by decide +kernel
theorem d_Model_put_37 : decode b_Model_put 37 = .ok (.aload_n 0, 1) := by decide +kernel
theorem d_Model_put_38 : decode b_Model_put 38 = .ok (.getfield 39, 3) := by decide +kernel
theorem d_Model_put_41 : decode b_Model_put 41 = .ok (.bipush 6, 2) := by decide +kernel
theorem d_Model_put_43 : decode b_Model_put 43 = .ok (.iload_n 1, 1) := by decide +kernel
theorem d_Model_put_44 : decode b_Model_put 44 = .ok (.imul, 1) := by decide +kernel
theorem d_Model_put_45 : decode b_Model_put 45 = .ok (.bipush 6, 2) := by decide +kernel
theorem d_Model_put_47 : decode b_Model_put 47 = .ok (.isub, 1) := by decide +kernel
theorem d_Model_put_48 : decode b_Model_put 48 = .ok (.iload_n 2, 1) := by decide +kernel
theorem d_Model_put_49 : decode b_Model_put 49 = .ok (.iadd, 1) := by decide +kernel
theorem d_Model_put_50 : decode b_Model_put 50 = .ok (.iaload, 1) := by decide +kernel
theorem d_Model_put_51 : decode b_Model_put 51 = .ok (.iastore, 1) := by decide +kernel
theorem d_Model_put_52 : decode b_Model_put 52 = .ok (.iinc 2 1, 3) := by decide +kernel
theorem d_Model_put_55 : decode b_Model_put 55 = .ok (.goto (-34), 3) := by decide +kernel
theorem d_Model_put_58 : decode b_Model_put 58 = .ok (.iinc 1 (-1), 3) := by decide +kernel
theorem d_Model_put_61 : decode b_Model_put 61 = .ok (.goto (-56), 3) := by decide +kernel
theorem d_Model_put_64 : decode b_Model_put 64 = .ok (.iconst 0, 1) := by decide +kernel
theorem d_Model_put_65 : decode b_Model_put 65 = .ok (.istore_n 2, 1) := by decide +kernel
theorem d_Model_put_66 : decode b_Model_put 66 = .ok (.iload_n 2, 1) := by decide +kernel
theorem d_Model_put_67 : decode b_Model_put 67 = .ok (.bipush 6, 2) := by decide +kernel
theorem d_Model_put_69 : decode b_Model_put 69 = .ok (.if_icmp .ge 26, 3) := by decide +kernel
theorem d_Model_put_72 : decode b_Model_put 72 = .ok (.aload_n 0, 1) := by decide +kernel
theorem d_Model_put_73 : decode b_Model_put 73 = .ok (.getfield 39, 3) := by decide +kernel
theorem d_Model_put_76 : decode b_Model_put 76 = .ok (.bipush 6, 2) := by decide +kernel
theorem d_Model_put_78 : decode b_Model_put 78 = .ok (.iload_n 1, 1) := by decide +kernel
theorem d_Model_put_79 : decode b_Model_put 79 = .ok (.imul, 1) := by decide +kernel
theorem d_Model_put_80 : decode b_Model_put 80 = .ok (.iload_n 2, 1) := by decide +kernel
theorem d_Model_put_81 : decode b_Model_put 81 = .ok (.iadd, 1) := by decide +kernel
theorem d_Model_put_82 : decode b_Model_put 82 = .ok (.aload_n 0, 1) := by decide +kernel
theorem d_Model_put_83 : decode b_Model_put 83 = .ok (.getfield 42, 3) := by decide +kernel
theorem d_Model_put_86 : decode b_Model_put 86 = .ok (.iload_n 2, 1) := by decide +kernel
theorem d_Model_put_87 : decode b_Model_put 87 = .ok (.iaload, 1) := by decide +kernel
theorem d_Model_put_88 : decode b_Model_put 88 = .ok (.iastore, 1) := by decide +kernel
theorem d_Model_put_89 : decode b_Model_put 89 = .ok (.iinc 2 1, 3) := by decide +kernel
theorem d_Model_put_92 : decode b_Model_put 92 = .ok (.goto (-26), 3) := by decide +kernel
theorem d_Model_put_95 : decode b_Model_put 95 = .ok (.aload_n 0, 1) := by decide +kernel
theorem d_Model_put_96 : decode b_Model_put 96 = .ok (.dup, 1) := by decide +kernel
theorem d_Model_put_97 : decode b_Model_put 97 = .ok (.getfield 120, 3) := by decide +kernel
theorem d_Model_put_100 : decode b_Model_put 100 = .ok (.aload_n 0, 1) := by decide +kernel
theorem d_Model_put_101 : decode b_Model_put 101 = .ok (.getfield 120, 3) := by decide +kernel
theorem d_Model_put_104 : decode b_Model_put 104 = .ok (.bipush 100, 2) := by decide +kernel
theorem d_Model_put_106 : decode b_Model_put 106 = .ok (.if_icmp .ge 7, 3) := by decide +kernel
theorem d_Model_put_109 : decode b_Model_put 109 = .ok (.iconst 1, 1) := by decide +kernel
theorem d_Model_put_110 : decode b_Model_put 110 = .ok (.goto 4, 3) := by decide +kernel
theorem d_Model_put_113 : decode b_Model_put 113 = .ok (.iconst 0, 1) := by decide +kernel
theorem d_Model_put_114 : decode b_Model_put 114 = .ok (.iadd, 1) := by decide +kernel
theorem d_Model_put_115 : decode b_Model_put 115 = .ok (.putfield 120, 3) := by decide +kernel
theorem d_Model_put_118 : decode b_Model_put 118 = .ok (.return_, 1) := by decide +kernel
theorem d_Model_findAll_0 : decode b_Model_findAll 0 = .ok (.iconst 0, 1) := by decide +kernel
theorem d_Model_findAll_1 : decode b_Model_findAll 1 = .ok (.istore_n 3, 1) := by decide +kernel
theorem d_Model_findAll_2 : decode b_Model_findAll 2 = .ok (.iconst 0, 1) := by decide +kernel
theorem d_Model_findAll_3 : decode b_Model_findAll 3 = .ok (.istore 4, 2) := by decide +kernel
theorem d_Model_findAll_5 : decode b_Model_findAll 5 = .ok (.iload 4, 2) := by decide +kernel
theorem d_Model_findAll_7 : decode b_Model_findAll 7 = .ok (.aload_n 0, 1) := by decide +kernel
theorem d_Model_findAll_8 : decode b_Model_findAll 8 = .ok (.getfield 7, 3) := by decide +kernel
theorem d_Model_findAll_11 : decode b_Model_findAll 11 = .ok (.iload_n 1, 1) := by decide +kernel
theorem d_Model_findAll_12 : decode b_Model_findAll 12 = .ok (.iaload, 1) := by decide +kernel
theorem d_Model_findAll_13 : decode b_Model_findAll 13 = .ok (.aload_n 0, 1) := by decide +kernel
theorem d_Model_findAll_14 : decode b_Model_findAll 14 = .ok (.getfield 7, 3) := by decide +kernel
theorem d_Model_findAll_17 : decode b_Model_findAll 17 = .ok (.iload_n 2, 1) := by decide +kernel
theorem d_Model_findAll_18 : decode b_Model_findAll 18 = .ok (.iaload, 1) := by decide +kernel
theorem d_Model_findAll_19 : decode b_Model_findAll 19 = .ok (.imul, 1) := by decide +kernel
theorem d_Model_findAll_20 : decode b_Model_findAll 20 = .ok (.if_icmp .ge 46, 3) := by decide +kernel
theorem d_Model_findAll_23 : decode b_Model_findAll 23 = .ok (.aload_n 0, 1) := by decide +kernel
theorem d_Model_findAll_24 : decode b_Model_findAll 24 = .ok (.iload_n 1, 1) := by decide +kernel
theorem d_Model_findAll_25 : decode b_Model_findAll 25 = .ok (.iload 4, 2) := by decide +kernel
theorem d_Model_findAll_27 : decode b_Model_findAll 27 = .ok (.aload_n 0, 1) := by decide +kernel
theorem d_Model_findAll_28 : decode b_Model_findAll 28 = .ok (.getfield 7, 3) := by decide +kernel
theorem d_Model_findAll_31 : decode b_Model_findAll 31 = .ok (.iload_n 2, 1) := by decide +kernel
theorem d_Model_findAll_32 : decode b_Model_findAll 32 = .ok (.iaload, 1) := by decide +kernel
theorem d_Model_findAll_33 : decode b_Model_findAll 33 = .ok (.idiv, 1) := by decide +kernel
theorem d_Model_findAll_34 : decode b_Model_findAll 34 = .ok (.iload_n 2, 1) := by decide +kernel
theorem d_Model_findAll_35 : decode b_Model_findAll 35 = .ok (.iload 4, 2) := by decide +kernel
theorem d_Model_findAll_37 : decode b_Model_findAll 37 = .ok (.aload_n 0, 1) := by decide +kernel
theorem d_Model_findAll_38 : decode b_Model_findAll 38 = .ok (.getfield 7, 3) := by decide +kernel
theorem d_Model_findAll_41 : decode b_Model_findAll 41 = .ok (.iload_n 2, 1) := by decide +kernel
theorem d_Model_findAll_42 : decode b_Model_findAll 42 = .ok (.iaload, 1) := by decide +kernel
theorem d_Model_findAll_43 : decode b_Model_findAll 43 = .ok (.irem, 1) := by decide +kernel
theorem d_Model_findAll_44 : decode b_Model_findAll 44 = .ok (.invokevirtual 126, 3) := by decide +kernel
theorem d_Model_findAll_47 : decode b_Model_findAll 47 = .ok (.ifCond .ne 6, 3) := by decide +kernel
theorem d_Model_findAll_50 : decode b_Model_findAll 50 = .ok (.goto 10, 3) := by decide +kernel
theorem d_Model_findAll_53 : decode b_Model_findAll 53 = .ok (.iinc 3 1, 3) := by decide +kernel
theorem d_Model_findAll_56 : decode b_Model_findAll 56 = .ok (.aload_n 0, 1) := by decide +kernel
theorem d_Model_findAll_57 : decode b_Model_findAll 57 = .ok (.invokevirtual 130, 3) := by decide +kernel
theorem d_Model_findAll_60 : decode b_Model_findAll 60 = .ok (.iinc 4 1, 3) := by decide +kernel
theorem d_Model_findAll_63 : decode b_Model_findAll 63 = .ok (.goto (-58), 3) := by decide +kernel
theorem d_Model_findAll_66 : decode b_Model_findAll 66 = .ok (.iload_n 3, 1) := by decide +kernel
theorem d_Model_findAll_67 : decode b_Model_findAll 67 = .ok (.ireturn, 1) := by decide +kernel
theorem d_Model_run_0 : decode b_Model_run 0 = .ok (.aload_n 0, 1) := by decide +kernel
theorem d_Model_run_1 : decode b_Model_run 1 = .ok (.iconst 0, 1) := by decide +kernel
theorem d_Model_run_2 : decode b_Model_run 2 = .ok (.putfield 57, 3) := by decide +kernel
theorem d_Model_run_5 : decode b_Model_run 5 = .ok (.aload_n 0, 1) := by decide +kernel
theorem d_Model_run_6 : decode b_Model_run 6 = .ok (.iconst 0, 1) := by decide +kernel
theorem d_Model_run_7 : decode b_Model_run 7 = .ok (.putfield 120, 3) := by decide +kernel
theorem d_Model_run_10 : decode b_Model_run 10 = .ok (.aload_n 0, 1) := by decide +kernel
theorem d_Model_run_11 : decode b_Model_run 11 = .ok (.iconst 1, 1) := by decide +kernel
theorem d_Model_run_12 : decode b_Model_run 12 = .ok (.putfield 75, 3) := by decide +kernel
theorem d_Model_run_15 : decode b_Model_run 15 = .ok (.iconst 0, 1) := by decide +kernel
theorem d_Model_run_16 : decode b_Model_run 16 = .ok (.istore_n 1, 1) := by decide +kernel
theorem d_Model_run_17 : decode b_Model_run 17 = .ok (.iconst 0, 1) := by decide +kernel
theorem d_Model_run_18 : decode b_Model_run 18 = .ok (.istore_n 2, 1) := by decide +kernel
theorem d_Model_run_19 : decode b_Model_run 19 = .ok (.iload_n 2, 1) := by decide +kernel
theorem d_Model_run_20 : decode b_Model_run 20 = .ok (.aload_n 0, 1) := by decide +kernel
theorem d_Model_run_21 : decode b_Model_run 21 = .ok (.getfield 60, 3) := by decide +kernel
theorem d_Model_run_24 : decode b_Model_run 24 = .ok (.if_icmp .ge 58, 3) := by decide +kernel
theorem d_Model_run_27 : decode b_Model_run 27 = .ok (.iload_n 2, 1) := by decide +kernel
theorem d_Model_run_28 : decode b_Model_run 28 = .ok (.iconst 1, 1) := by decide +kernel
theorem d_Model_run_29 : decode b_Model_run 29 = .ok (.iadd, 1) := by decide +kernel
theorem d_Model_run_30 : decode b_Model_run 30 = .ok (.istore_n 3, 1) := by decide +kernel
theorem d_Model_run_31 : decode b_Model_run 31 = .ok (.iload_n 3, 1) := by decide +kernel
theorem d_Model_run_32 : decode b_Model_run 32 = .ok (.aload_n 0, 1) := by decide +kernel
theorem d_Model_run_33 : decode b_Model_run 33 = .ok (.getfield 60, 3) := by decide +kernel
theorem d_Model_run_36 : decode b_Model_run 36 = .ok (.if_icmp .ge 40, 3) := by decide +kernel
theorem d_Model_run_39 : decode b_Model_run 39 = .ok (.iload_n 1, 1) := by decide +kernel
theorem d_Model_run_40 : decode b_Model_run 40 = .ok (.aload_n 0, 1) := by decide +kernel
theorem d_Model_run_41 : decode b_Model_run 41 = .ok (.getfield 19, 3) := by decide +kernel
theorem d_Model_run_44 : decode b_Model_run 44 = .ok (.iload_n 2, 1) := by decide +kernel
theorem d_Model_run_45 : decode b_Model_run 45 = .ok (.baload, 1) := by decide +kernel
theorem d_Model_run_46 : decode b_Model_run 46 = .ok (.ifCond .eq 21, 3) := by decide +kernel
theorem d_Model_run_49 : decode b_Model_run 49 = .ok (.aload_n 0, 1) := by decide +kernel
theorem d_Model_run_50 : decode b_Model_run 50 = .ok (.getfield 19, 3) := by decide +kernel
theorem d_Model_run_53 : decode b_Model_run 53 = .ok (.iload_n 3, 1) := by decide +kernel
theorem d_Model_run_54 : decode b_Model_run 54 = .ok (.baload, 1) := by decide +kernel
theorem d_Model_run_55 : decode b_Model_run 55 = .ok (.ifCond .eq 12, 3) := by decide +kernel
theorem d_Model_run_58 : decode b_Model_run 58 = .ok (.aload_n 0, 1) := by decide +kernel
theorem d_Model_run_59 : decode b_Model_run 59 = .ok (.iload_n 2, 1) := by decide +kernel
theorem d_Model_run_60 : decode b_Model_run 60 = .ok (.iload_n 3, 1) := by decide +kernel
theorem d_Model_run_61 : decode b_Model_run 61 = .ok (.invokevirtual 133, 3) := by decide +kernel
theorem d_Model_run_64 : decode b_Model_run 64 = .ok (.goto 4, 3) := by decide +kernel
theorem d_Model_run_67 : decode b_Model_run 67 = .ok (.iconst 0, 1) := by decide +kernel
theorem d_Model_run_68 : decode b_Model_run 68 = .ok (.iadd, 1) := by decide +kernel
theorem d_Model_run_69 : decode b_Model_run 69 = .ok (.istore_n 1, 1) := by decide +kernel
theorem d_Model_run_70 : decode b_Model_run 70 = .ok (.iinc 3 1, 3) := by decide +kernel
theorem d_Model_run_73 : decode b_Model_run 73 = .ok (.goto (-42), 3) := by decide +kernel
theorem d_Model_run_76 : decode b_Model_run 76 = .ok (.iinc 2 1, 3) := by decide +kernel
theorem d_Model_run_79 : decode b_Model_run 79 = .ok (.goto (-60), 3) := by decide +kernel
theorem d_Model_run_82 : decode b_Model_run 82 = .ok (.iload_n 1, 1) := by decide +kernel
theorem d_Model_run_83 : decode b_Model_run 83 = .ok (.ireturn, 1) := by decide +kernel
theorem d_Model_isPair_0 : decode b_Model_isPair 0 = .ok (.aload_n 0, 1) := by decide +kernel
theorem d_Model_isPair_1 : decode b_Model_isPair 1 = .ok (.getfield 75, 3) := by decide +kernel
theorem d_Model_isPair_4 : decode b_Model_isPair 4 = .ok (.ifCond .eq 21, 3) := by decide +kernel
theorem d_Model_isPair_7 : decode b_Model_isPair 7 = .ok (.iload_n 1, 1) := by decide +kernel
theorem d_Model_isPair_8 : decode b_Model_isPair 8 = .ok (.iconst 0, 1) := by decide +kernel
theorem d_Model_isPair_9 : decode b_Model_isPair 9 = .ok (.aload_n 0, 1) := by decide +kernel
theorem d_Model_isPair_10 : decode b_Model_isPair 10 = .ok (.getfield 120, 3) := by decide +kernel
theorem d_Model_isPair_13 : decode b_Model_isPair 13 = .ok (.iconst 1, 1) := by decide +kernel
theorem d_Model_isPair_14 : decode b_Model_isPair 14 = .ok (.isub, 1) := by decide +kernel
theorem d_Model_isPair_15 : decode b_Model_isPair 15 = .ok (.invokestatic 63, 3) := by decide +kernel
theorem d_Model_isPair_18 : decode b_Model_isPair 18 = .ok (.ifCond .eq 7, 3) := by decide +kernel
theorem d_Model_isPair_21 : decode b_Model_isPair 21 = .ok (.iconst 1, 1) := by decide +kernel
theorem d_Model_isPair_22 : decode b_Model_isPair 22 = .ok (.goto 4, 3) := by decide +kernel
theorem d_Model_isPair_25 : decode b_Model_isPair 25 = .ok (.iconst 0, 1) := by decide +kernel
theorem d_Model_isPair_26 : decode b_Model_isPair 26 = .ok (.ireturn, 1) := by decide +kernel
