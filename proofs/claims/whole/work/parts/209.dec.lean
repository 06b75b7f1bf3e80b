theorem d_Model_join_0 : decode b_Model_join 0 = .ok (.aload_n 0, 1) := by decide +kernel
theorem d_Model_join_1 : decode b_Model_join 1 = .ok (.aload_n 0, 1) := by decide +kernel
theorem d_Model_join_2 : decode b_Model_join 2 = .ok (.iload_n 1, 1) := by decide +kernel
theorem d_Model_join_3 : decode b_Model_join 3 = .ok (.invokevirtual 136, 3) := by decide +kernel
theorem d_Model_join_6 : decode b_Model_join 6 = .ok (.ifCond .ne 7, 3) := by decide +kernel
theorem d_Model_join_9 : decode b_Model_join 9 = .ok (.iconst 1, 1) := by decide +kernel
theorem d_Model_join_10 : decode b_Model_join 10 = .ok (.goto 4, 3) := by decide +kernel
theorem d_Model_join_13 : decode b_Model_join 13 = .ok (.iconst 0, 1) := by decide +kernel
theorem d_Model_join_14 : decode b_Model_join 14 = .ok (.iconst 0, 1) := by decide +kernel
theorem d_Model_join_15 : decode b_Model_join 15 = .ok (.iconst 0, 1) := by decide +kernel
theorem d_Model_join_16 : decode b_Model_join 16 = .ok (.invokevirtual 67, 3) := by decide +kernel
theorem d_Model_join_19 : decode b_Model_join 19 = .ok (.ifCond .eq 5, 3) := by decide +kernel
theorem d_Model_join_22 : decode b_Model_join 22 = .ok (.iconst 0, 1) := by decide +kernel
theorem d_Model_join_23 : decode b_Model_join 23 = .ok (.ireturn, 1) := by decide +kernel
theorem d_Model_join_24 : decode b_Model_join 24 = .ok (.aload_n 0, 1) := by decide +kernel
theorem d_Model_join_25 : decode b_Model_join 25 = .ok (.getfield 39, 3) := by decide +kernel
theorem d_Model_join_28 : decode b_Model_join 28 = .ok (.bipush 6, 2) := by decide +kernel
theorem d_Model_join_30 : decode b_Model_join 30 = .ok (.iload_n 1, 1) := by decide +kernel
theorem d_Model_join_31 : decode b_Model_join 31 = .ok (.imul, 1) := by decide +kernel
theorem d_Model_join_32 : decode b_Model_join 32 = .ok (.iaload, 1) := by decide +kernel
theorem d_Model_join_33 : decode b_Model_join 33 = .ok (.istore_n 2, 1) := by decide +kernel
theorem d_Model_join_34 : decode b_Model_join 34 = .ok (.aload_n 0, 1) := by decide +kernel
theorem d_Model_join_35 : decode b_Model_join 35 = .ok (.getfield 39, 3) := by decide +kernel
theorem d_Model_join_38 : decode b_Model_join 38 = .ok (.bipush 6, 2) := by decide +kernel
theorem d_Model_join_40 : decode b_Model_join 40 = .ok (.iload_n 1, 1) := by decide +kernel
theorem d_Model_join_41 : decode b_Model_join 41 = .ok (.imul, 1) := by decide +kernel
theorem d_Model_join_42 : decode b_Model_join 42 = .ok (.iconst 2, 1) := by decide +kernel
theorem d_Model_join_43 : decode b_Model_join 43 = .ok (.iadd, 1) := by decide +kernel
theorem d_Model_join_44 : decode b_Model_join 44 = .ok (.iaload, 1) := by decide +kernel
theorem d_Model_join_45 : decode b_Model_join 45 = .ok (.istore_n 3, 1) := by decide +kernel
theorem d_Model_join_46 : decode b_Model_join 46 = .ok (.iconst 0, 1) := by decide +kernel
theorem d_Model_join_47 : decode b_Model_join 47 = .ok (.istore 4, 2) := by decide +kernel
theorem d_Model_join_49 : decode b_Model_join 49 = .ok (.iload 4, 2) := by decide +kernel
theorem d_Model_join_51 : decode b_Model_join 51 = .ok (.bipush 24, 2) := by decide +kernel
theorem d_Model_join_53 : decode b_Model_join 53 = .ok (.if_icmp .ge 23, 3) := by decide +kernel
theorem d_Model_join_56 : decode b_Model_join 56 = .ok (.aload_n 0, 1) := by decide +kernel
theorem d_Model_join_57 : decode b_Model_join 57 = .ok (.getfield 51, 3) := by decide +kernel
theorem d_Model_join_60 : decode b_Model_join 60 = .ok (.iload 4, 2) := by decide +kernel
theorem d_Model_join_62 : decode b_Model_join 62 = .ok (.aload_n 0, 1) := by decide +kernel
theorem d_Model_join_63 : decode b_Model_join 63 = .ok (.getfield 45, 3) := by decide +kernel
theorem d_Model_join_66 : decode b_Model_join 66 = .ok (.iload 4, 2) := by decide +kernel
theorem d_Model_join_68 : decode b_Model_join 68 = .ok (.iaload, 1) := by decide +kernel
theorem d_Model_join_69 : decode b_Model_join 69 = .ok (.iastore, 1) := by decide +kernel
theorem d_Model_join_70 : decode b_Model_join 70 = .ok (.iinc 4 1, 3) := by decide +kernel
theorem d_Model_join_73 : decode b_Model_join 73 = .ok (.goto (-24), 3) := by decide +kernel
theorem d_Model_join_76 : decode b_Model_join 76 = .ok (.aload_n 0, 1) := by decide +kernel
theorem d_Model_join_77 : decode b_Model_join 77 = .ok (.bipush 6, 2) := by decide +kernel
theorem d_Model_join_79 : decode b_Model_join 79 = .ok (.iload_n 1, 1) := by decide +kernel
theorem d_Model_join_80 : decode b_Model_join 80 = .ok (.imul, 1) := by decide +kernel
theorem d_Model_join_81 : decode b_Model_join 81 = .ok (.invokevirtual 151, 3) := by decide +kernel
theorem d_Model_join_84 : decode b_Model_join 84 = .ok (.aload_n 0, 1) := by decide +kernel
theorem d_Model_join_85 : decode b_Model_join 85 = .ok (.getfield 45, 3) := by decide +kernel
theorem d_Model_join_88 : decode b_Model_join 88 = .ok (.iconst 4, 1) := by decide +kernel
theorem d_Model_join_89 : decode b_Model_join 89 = .ok (.iload_n 2, 1) := by decide +kernel
theorem d_Model_join_90 : decode b_Model_join 90 = .ok (.imul, 1) := by decide +kernel
theorem d_Model_join_91 : decode b_Model_join 91 = .ok (.iconst 3, 1) := by decide +kernel
theorem d_Model_join_92 : decode b_Model_join 92 = .ok (.iadd, 1) := by decide +kernel
theorem d_Model_join_93 : decode b_Model_join 93 = .ok (.iaload, 1) := by decide +kernel
theorem d_Model_join_94 : decode b_Model_join 94 = .ok (.aload_n 0, 1) := by decide +kernel
theorem d_Model_join_95 : decode b_Model_join 95 = .ok (.getfield 45, 3) := by decide +kernel
theorem d_Model_join_98 : decode b_Model_join 98 = .ok (.iconst 4, 1) := by decide +kernel
theorem d_Model_join_99 : decode b_Model_join 99 = .ok (.iload_n 3, 1) := by decide +kernel
theorem d_Model_join_100 : decode b_Model_join 100 = .ok (.imul, 1) := by decide +kernel
theorem d_Model_join_101 : decode b_Model_join 101 = .ok (.iconst 3, 1) := by decide +kernel
theorem d_Model_join_102 : decode b_Model_join 102 = .ok (.iadd, 1) := by decide +kernel
theorem d_Model_join_103 : decode b_Model_join 103 = .ok (.iaload, 1) := by decide +kernel
theorem d_Model_join_104 : decode b_Model_join 104 = .ok (.if_icmp .ne 74, 3) := by decide +kernel
theorem d_Model_join_107 : decode b_Model_join 107 = .ok (.aload_n 0, 1) := by decide +kernel
theorem d_Model_join_108 : decode b_Model_join 108 = .ok (.getfield 51, 3) := by decide +kernel
theorem d_Model_join_111 : decode b_Model_join 111 = .ok (.iconst 4, 1) := by decide +kernel
theorem d_Model_join_112 : decode b_Model_join 112 = .ok (.iload_n 3, 1) := by decide +kernel
theorem d_Model_join_113 : decode b_Model_join 113 = .ok (.imul, 1) := by decide +kernel
theorem d_Model_join_114 : decode b_Model_join 114 = .ok (.iaload, 1) := by decide +kernel
theorem d_Model_join_115 : decode b_Model_join 115 = .ok (.aload_n 0, 1) := by decide +kernel
theorem d_Model_join_116 : decode b_Model_join 116 = .ok (.getfield 45, 3) := by decide +kernel
theorem d_Model_join_119 : decode b_Model_join 119 = .ok (.iconst 4, 1) := by decide +kernel
theorem d_Model_join_120 : decode b_Model_join 120 = .ok (.iload_n 3, 1) := by decide +kernel
theorem d_Model_join_121 : decode b_Model_join 121 = .ok (.imul, 1) := by decide +kernel
theorem d_Model_join_122 : decode b_Model_join 122 = .ok (.iaload, 1) := by decide +kernel
theorem d_Model_join_123 : decode b_Model_join 123 = .ok (.if_icmp .ne 53, 3) := by decide +kernel
theorem d_Model_join_126 : decode b_Model_join 126 = .ok (.aload_n 0, 1) := by decide +kernel
theorem d_Model_join_127 : decode b_Model_join 127 = .ok (.getfield 51, 3) := by decide +kernel
theorem d_Model_join_130 : decode b_Model_join 130 = .ok (.iconst 4, 1) := by decide +kernel
theorem d_Model_join_131 : decode b_Model_join 131 = .ok (.iload_n 3, 1) := by decide +kernel
theorem d_Model_join_132 : decode b_Model_join 132 = .ok (.imul, 1) := by decide +kernel
theorem d_Model_join_133 : decode b_Model_join 133 = .ok (.iconst 1, 1) := by decide +kernel
theorem d_Model_join_134 : decode b_Model_join 134 = .ok (.iadd, 1) := by decide +kernel
theorem d_Model_join_135 : decode b_Model_join 135 = .ok (.iaload, 1) := by decide +kernel
theorem d_Model_join_136 : decode b_Model_join 136 = .ok (.aload_n 0, 1) := by decide +kernel
theorem d_Model_join_137 : decode b_Model_join 137 = .ok (.getfield 45, 3) := by decide +kernel
theorem d_Model_join_140 : decode b_Model_join 140 = .ok (.iconst 4, 1) := by decide +kernel
theorem d_Model_join_141 : decode b_Model_join 141 = .ok (.iload_n 3, 1) := by decide +kernel
theorem d_Model_join_142 : decode b_Model_join 142 = .ok (.imul, 1) := by decide +kernel
theorem d_Model_join_143 : decode b_Model_join 143 = .ok (.iconst 1, 1) := by decide +kernel
theorem d_Model_join_144 : decode b_Model_join 144 = .ok (.iadd, 1) := by decide +kernel
theorem d_Model_join_145 : decode b_Model_join 145 = .ok (.iaload, 1) := by decide +kernel
theorem d_Model_join_146 : decode b_Model_join 146 = .ok (.if_icmp .ne 30, 3) := by decide +kernel
theorem d_Model_join_149 : decode b_Model_join 149 = .ok (.aload_n 0, 1) := by decide +kernel
theorem d_Model_join_150 : decode b_Model_join 150 = .ok (.getfield 51, 3) := by decide +kernel
theorem d_Model_join_153 : decode b_Model_join 153 = .ok (.iconst 4, 1) := by decide +kernel
theorem d_Model_join_154 : decode b_Model_join 154 = .ok (.iload_n 3, 1) := by decide +kernel
theorem d_Model_join_155 : decode b_Model_join 155 = .ok (.imul, 1) := by decide +kernel
theorem d_Model_join_156 : decode b_Model_join 156 = .ok (.iconst 2, 1) := by decide +kernel
theorem d_Model_join_157 : decode b_Model_join 157 = .ok (.iadd, 1) := by decide +kernel
theorem d_Model_join_158 : decode b_Model_join 158 = .ok (.iaload, 1) := by decide +kernel
theorem d_Model_join_159 : decode b_Model_join 159 = .ok (.aload_n 0, 1) := by decide +kernel
theorem d_Model_join_160 : decode b_Model_join 160 = .ok (.getfield 45, 3) := by decide +kernel
theorem d_Model_join_163 : decode b_Model_join 163 = .ok (.iconst 4, 1) := by decide +kernel
theorem d_Model_join_164 : decode b_Model_join 164 = .ok (.iload_n 3, 1) := by decide +kernel
theorem d_Model_join_165 : decode b_Model_join 165 = .ok (.imul, 1) := by decide +kernel
theorem d_Model_join_166 : decode b_Model_join 166 = .ok (.iconst 2, 1) := by decide +kernel
theorem d_Model_join_167 : decode b_Model_join 167 = .ok (.iadd, 1) := by decide +kernel
theorem d_Model_join_168 : decode b_Model_join 168 = .ok (.iaload, 1) := by decide +kernel
theorem d_Model_join_169 : decode b_Model_join 169 = .ok (.if_icmp .ne 7, 3) := by decide +kernel
theorem d_Model_join_172 : decode b_Model_join 172 = .ok (.iconst 3, 1) := by decide +kernel
theorem d_Model_join_173 : decode b_Model_join 173 = .ok (.goto 4, 3) := by decide +kernel
theorem d_Model_join_176 : decode b_Model_join 176 = .ok (.iconst 2, 1) := by decide +kernel
theorem d_Model_join_177 : decode b_Model_join 177 = .ok (.ireturn, 1) := by decide +kernel
theorem d_Model_join_178 : decode b_Model_join 178 = .ok (.aload_n 0, 1) := by decide +kernel
theorem d_Model_join_179 : decode b_Model_join 179 = .ok (.iload_n 3, 1) := by decide +kernel
theorem d_Model_join_180 : decode b_Model_join 180 = .ok (.aload_n 0, 1) := by decide +kernel
theorem d_Model_join_181 : decode b_Model_join 181 = .ok (.getfield 45, 3) := by decide +kernel
theorem d_Model_join_184 : decode b_Model_join 184 = .ok (.iconst 4, 1) := by decide +kernel
theorem d_Model_join_185 : decode b_Model_join 185 = .ok (.iload_n 2, 1) := by decide +kernel
theorem d_Model_join_186 : decode b_Model_join 186 = .ok (.imul, 1) := by decide +kernel
theorem d_Model_join_187 : decode b_Model_join 187 = .ok (.iconst 3, 1) := by decide +kernel
theorem d_Model_join_188 : decode b_Model_join 188 = .ok (.iadd, 1) := by decide +kernel
theorem d_Model_join_189 : decode b_Model_join 189 = .ok (.iaload, 1) := by decide +kernel
theorem d_Model_join_190 : decode b_Model_join 190 = .ok (.invokevirtual 154, 3) := by decide +kernel
theorem d_Model_join_193 : decode b_Model_join 193 = .ok (.aload_n 0, 1) := by decide +kernel
theorem d_Model_join_194 : decode b_Model_join 194 = .ok (.aload_n 0, 1) := by decide +kernel
theorem d_Model_join_195 : decode b_Model_join 195 = .ok (.getfield 51, 3) := by decide +kernel
theorem d_Model_join_198 : decode b_Model_join 198 = .ok (.iconst 4, 1) := by decide +kernel
theorem d_Model_join_199 : decode b_Model_join 199 = .ok (.iload_n 3, 1) := by decide +kernel
theorem d_Model_join_200 : decode b_Model_join 200 = .ok (.imul, 1) := by decide +kernel
theorem d_Model_join_201 : decode b_Model_join 201 = .ok (.iconst 3, 1) := by decide +kernel
theorem d_Model_join_202 : decode b_Model_join 202 = .ok (.iadd, 1) := by decide +kernel
theorem d_Model_join_203 : decode b_Model_join 203 = .ok (.iaload, 1) := by decide +kernel
theorem d_Model_join_204 : decode b_Model_join 204 = .ok (.invokevirtual 157, 3) := by decide +kernel
theorem d_Model_join_207 : decode b_Model_join 207 = .ok (.ifCond .ne 5, 3) := by decide +kernel
theorem d_Model_join_210 : decode b_Model_join 210 = .ok (.iconst 1, 1) := by decide +kernel
theorem d_Model_join_211 : decode b_Model_join 211 = .ok (.ireturn, 1) := by decide +kernel
theorem d_Model_join_212 : decode b_Model_join 212 = .ok (.iconst 0, 1) := by decide +kernel
theorem d_Model_join_213 : decode b_Model_join 213 = .ok (.istore 4, 2) := by decide +kernel
theorem d_Model_join_215 : decode b_Model_join 215 = .ok (.iload 4, 2) := by decide +kernel
theorem d_Model_join_217 : decode b_Model_join 217 = .ok (.bipush 24, 2) := by decide +kernel
theorem d_Model_join_219 : decode b_Model_join 219 = .ok (.if_icmp .ge 45, 3) := by decide +kernel
theorem d_Model_join_222 : decode b_Model_join 222 = .ok (.aload_n 0, 1) := by decide +kernel
theorem d_Model_join_223 : decode b_Model_join 223 = .ok (.getfield 48, 3) := by decide +kernel
theorem d_Model_join_226 : decode b_Model_join 226 = .ok (.bipush 24, 2) := by decide +kernel
theorem d_Model_join_228 : decode b_Model_join 228 = .ok (.aload_n 0, 1) := by decide +kernel
theorem d_Model_join_229 : decode b_Model_join 229 = .ok (.getfield 160, 3) := by decide +kernel
theorem d_Model_join_232 : decode b_Model_join 232 = .ok (.imul, 1) := by decide +kernel
theorem d_Model_join_233 : decode b_Model_join 233 = .ok (.iload 4, 2) := by decide +kernel
theorem d_Model_join_235 : decode b_Model_join 235 = .ok (.iadd, 1) := by decide +kernel
theorem d_Model_join_236 : decode b_Model_join 236 = .ok (.aload_n 0, 1) := by decide +kernel
theorem d_Model_join_237 : decode b_Model_join 237 = .ok (.getfield 45, 3) := by decide +kernel
theorem d_Model_join_240 : decode b_Model_join 240 = .ok (.iload 4, 2) := by decide +kernel
theorem d_Model_join_242 : decode b_Model_join 242 = .ok (.iaload, 1) := by decide +kernel
theorem d_Model_join_243 : decode b_Model_join 243 = .ok (.iastore, 1) := by decide +kernel
theorem d_Model_join_244 : decode b_Model_join 244 = .ok (.aload_n 0, 1) := by decide +kernel
theorem d_Model_join_245 : decode b_Model_join 245 = .ok (.getfield 45, 3) := by decide +kernel
theorem d_Model_join_248 : decode b_Model_join 248 = .ok (.iload 4, 2) := by decide +kernel
theorem d_Model_join_250 : decode b_Model_join 250 = .ok (.aload_n 0, 1) := by decide +kernel
theorem d_Model_join_251 : decode b_Model_join 251 = .ok (.getfield 51, 3) := by decide +kernel
theorem d_Model_join_254 : decode b_Model_join 254 = .ok (.iload 4, 2) := by decide +kernel
theorem d_Model_join_256 : decode b_Model_join 256 = .ok (.iaload, 1) := by decide +kernel
theorem d_Model_join_257 : decode b_Model_join 257 = .ok (.iastore, 1) := by decide +kernel
theorem d_Model_join_258 : decode b_Model_join 258 = .ok (.iinc 4 1, 3) := by decide +kernel
theorem d_Model_join_261 : decode b_Model_join 261 = .ok (.goto (-46), 3) := by decide +kernel
theorem d_Model_join_264 : decode b_Model_join 264 = .ok (.aload_n 0, 1) := by decide +kernel
theorem d_Model_join_265 : decode b_Model_join 265 = .ok (.dup, 1) := by decide +kernel
theorem d_Model_join_266 : decode b_Model_join 266 = .ok (.getfield 160, 3) := by decide +kernel
theorem d_Model_join_269 : decode b_Model_join 269 = .ok (.iconst 1, 1) := by decide +kernel
theorem d_Model_join_270 : decode b_Model_join 270 = .ok (.iadd, 1) := by decide +kernel
theorem d_Model_join_271 : decode b_Model_join 271 = .ok (.putfield 160, 3) := by decide +kernel
theorem d_Model_join_274 : decode b_Model_join 274 = .ok (.iconst 0, 1) := by decide +kernel
theorem d_Model_join_275 : decode b_Model_join 275 = .ok (.ireturn, 1) := by decide +kernel
theorem d_Model_undo_0 : decode b_Model_undo 0 = .ok (.aload_n 0, 1) := by decide +kernel
theorem d_Model_undo_1 : decode b_Model_undo 1 = .ok (.iconst 0, 1) := by decide +kernel
theorem d_Model_undo_2 : decode b_Model_undo 2 = .ok (.putfield 57, 3) := by decide +kernel
theorem d_Model_undo_5 : decode b_Model_undo 5 = .ok (.aload_n 0, 1) := by decide +kernel
theorem d_Model_undo_6 : decode b_Model_undo 6 = .ok (.getfield 160, 3) := by decide +kernel
theorem d_Model_undo_9 : decode b_Model_undo 9 = .ok (.ifCond .ne 5, 3) := by decide +kernel
theorem d_Model_undo_12 : decode b_Model_undo 12 = .ok (.iconst 0, 1) := by decide +kernel
theorem d_Model_undo_13 : decode b_Model_undo 13 = .ok (.ireturn, 1) := by decide +kernel
theorem d_Model_undo_14 : decode b_Model_undo 14 = .ok (.aload_n 0, 1) := by decide +kernel
theorem d_Model_undo_15 : decode b_Model_undo 15 = .ok (.dup, 1) := by decide +kernel
theorem d_Model_undo_16 : decode b_Model_undo 16 = .ok (.getfield 160, 3) := by decide +kernel
theorem d_Model_undo_19 : decode b_Model_undo 19 = .ok (.iconst 1, 1) := by decide +kernel
theorem d_Model_undo_20 : decode b_Model_undo 20 = .ok (.isub, 1) := by decide +kernel
theorem d_Model_undo_21 : decode b_Model_undo 21 = .ok (.putfield 160, 3) := by decide +kernel
theorem d_Model_undo_24 : decode b_Model_undo 24 = .ok (.iconst 0, 1) := by decide +kernel
theorem d_Model_undo_25 : decode b_Model_undo 25 = .ok (.istore_n 1, 1) := by decide +kernel
theorem d_Model_undo_26 : decode b_Model_undo 26 = .ok (.iload_n 1, 1) := by decide +kernel
theorem d_Model_undo_27 : decode b_Model_undo 27 = .ok (.bipush 24, 2) := by decide +kernel
theorem d_Model_undo_29 : decode b_Model_undo 29 = .ok (.if_icmp .ge 29, 3) := by decide +kernel
theorem d_Model_undo_32 : decode b_Model_undo 32 = .ok (.aload_n 0, 1) := by decide +kernel
theorem d_Model_undo_33 : decode b_Model_undo 33 = .ok (.getfield 45, 3) := by decide +kernel
theorem d_Model_undo_36 : decode b_Model_undo 36 = .ok (.iload_n 1, 1) := by decide +kernel
theorem d_Model_undo_37 : decode b_Model_undo 37 = .ok (.aload_n 0, 1) := by decide +kernel
theorem d_Model_undo_38 : decode b_Model_undo 38 = .ok (.getfield 48, 3) := by decide +kernel
theorem d_Model_undo_41 : decode b_Model_undo 41 = .ok (.bipush 24, 2) := by decide +kernel
theorem d_Model_undo_43 : decode b_Model_undo 43 = .ok (.aload_n 0, 1) := by decide +kernel
theorem d_Model_undo_44 : decode b_Model_undo 44 = .ok (.getfield 160, 3) := by decide +kernel
theorem d_Model_undo_47 : decode b_Model_undo 47 = .ok (.imul, 1) := by decide +kernel
theorem d_Model_undo_48 : decode b_Model_undo 48 = .ok (.iload_n 1, 1) := by decide +kernel
theorem d_Model_undo_49 : decode b_Model_undo 49 = .ok (.iadd, 1) := by decide +kernel
theorem d_Model_undo_50 : decode b_Model_undo 50 = .ok (.iaload, 1) := by decide +kernel
theorem d_Model_undo_51 : decode b_Model_undo 51 = .ok (.iastore, 1) := by decide +kernel
theorem d_Model_undo_52 : decode b_Model_undo 52 = .ok (.iinc 1 1, 3) := by decide +kernel
theorem d_Model_undo_55 : decode b_Model_undo 55 = .ok (.goto (-29), 3) := by decide +kernel
theorem d_Model_undo_58 : decode b_Model_undo 58 = .ok (.iconst 1, 1) := by decide +kernel
theorem d_Model_undo_59 : decode b_Model_undo 59 = .ok (.ireturn, 1) := by decide +kernel
theorem d_Model_place_0 : decode b_Model_place 0 = .ok (.aload_n 0, 1) := by decide +kernel
theorem d_Model_place_1 : decode b_Model_place 1 = .ok (.aload_n 0, 1) := by decide +kernel
theorem d_Model_place_2 : decode b_Model_place 2 = .ok (.iload_n 1, 1) := by decide +kernel
theorem d_Model_place_3 : decode b_Model_place 3 = .ok (.invokevirtual 71, 3) := by decide +kernel
theorem d_Model_place_6 : decode b_Model_place 6 = .ok (.ifCond .eq 12, 3) := by decide +kernel
theorem d_Model_place_9 : decode b_Model_place 9 = .ok (.iload_n 2, 1) := by decide +kernel
theorem d_Model_place_10 : decode b_Model_place 10 = .ok (.iconst 0, 1) := by decide +kernel
theorem d_Model_place_11 : decode b_Model_place 11 = .ok (.iconst 3, 1) := by decide +kernel
theorem d_Model_place_12 : decode b_Model_place 12 = .ok (.invokestatic 63, 3) := by decide +kernel
theorem d_Model_place_15 : decode b_Model_place 15 = .ok (.ifCond .ne 7, 3) := by decide +kernel
theorem d_Model_place_18 : decode b_Model_place 18 = .ok (.iconst 1, 1) := by decide +kernel
theorem d_Model_place_19 : decode b_Model_place 19 = .ok (.goto 4, 3) := by decide +kernel
theorem d_Model_place_22 : decode b_Model_place 22 = .ok (.iconst 0, 1) := by decide +kernel
theorem d_Model_place_23 : decode b_Model_place 23 = .ok (.iconst 0, 1) := by decide +kernel
theorem d_Model_place_24 : decode b_Model_place 24 = .ok (.iconst 0, 1) := by decide +kernel
theorem d_Model_place_25 : decode b_Model_place 25 = .ok (.invokevirtual 67, 3) := by decide +kernel
theorem d_Model_place_28 : decode b_Model_place 28 = .ok (.ifCond .eq 5, 3) := by decide +kernel
theorem d_Model_place_31 : decode b_Model_place 31 = .ok (.iconst 0, 1) := by decide +kernel
theorem d_Model_place_32 : decode b_Model_place 32 = .ok (.ireturn, 1) := by decide +kernel
theorem d_Model_place_33 : decode b_Model_place 33 = .ok (.aload_n 0, 1) := by decide +kernel
theorem d_Model_place_34 : decode b_Model_place 34 = .ok (.getfield 45, 3) := by decide +kernel
theorem d_Model_place_37 : decode b_Model_place 37 = .ok (.iconst 4, 1) := by decide +kernel
theorem d_Model_place_38 : decode b_Model_place 38 = .ok (.iload_n 1, 1) := by decide +kernel
theorem d_Model_place_39 : decode b_Model_place 39 = .ok (.imul, 1) := by decide +kernel
theorem d_Model_place_40 : decode b_Model_place 40 = .ok (.iload_n 2, 1) := by decide +kernel
theorem d_Model_place_41 : decode b_Model_place 41 = .ok (.iadd, 1) := by decide +kernel
theorem d_Model_place_42 : decode b_Model_place 42 = .ok (.iaload, 1) := by decide +kernel
theorem d_Model_place_43 : decode b_Model_place 43 = .ok (.ireturn, 1) := by decide +kernel
theorem d_Model_lay_0 : decode b_Model_lay 0 = .ok (.aload_n 0, 1) := by decide +kernel
theorem d_Model_lay_1 : decode b_Model_lay 1 = .ok (.sipush 1000, 3) := by decide +kernel
theorem d_Model_lay_4 : decode b_Model_lay 4 = .ok (.putfield 163, 3) := by decide +kernel
theorem d_Model_lay_7 : decode b_Model_lay 7 = .ok (.aload_n 0, 1) := by decide +kernel
theorem d_Model_lay_8 : decode b_Model_lay 8 = .ok (.sipush 1000, 3) := by decide +kernel
theorem d_Model_lay_11 : decode b_Model_lay 11 = .ok (.putfield 166, 3) := by decide +kernel
theorem d_Model_lay_14 : decode b_Model_lay 14 = .ok (.iconst 0, 1) := by decide +kernel
theorem d_Model_lay_15 : decode b_Model_lay 15 = .ok (.istore_n 2, 1) := by decide +kernel
theorem d_Model_lay_16 : decode b_Model_lay 16 = .ok (.iload_n 2, 1) := by decide +kernel
theorem d_Model_lay_17 : decode b_Model_lay 17 = .ok (.iconst 2, 1) := by decide +kernel
theorem d_Model_lay_18 : decode b_Model_lay 18 = .ok (.if_icmp .ge 153, 3) := by decide +kernel
theorem d_Model_lay_21 : decode b_Model_lay 21 = .ok (.iconst 0, 1) := by decide +kernel
theorem d_Model_lay_22 : decode b_Model_lay 22 = .ok (.istore_n 3, 1) := by decide +kernel
theorem d_Model_lay_23 : decode b_Model_lay 23 = .ok (.iload_n 3, 1) := by decide +kernel
theorem d_Model_lay_24 : decode b_Model_lay 24 = .ok (.aload_n 0, 1) := by decide +kernel
theorem d_Model_lay_25 : decode b_Model_lay 25 = .ok (.getfield 60, 3) := by decide +kernel
theorem d_Model_lay_28 : decode b_Model_lay 28 = .ok (.if_icmp .ge 137, 3) := by decide +kernel
theorem d_Model_lay_31 : decode b_Model_lay 31 = .ok (.iconst 0, 1) := by decide +kernel
theorem d_Model_lay_32 : decode b_Model_lay 32 = .ok (.istore 4, 2) := by decide +kernel
theorem d_Model_lay_34 : decode b_Model_lay 34 = .ok (.iload 4, 2) := by decide +kernel
theorem d_Model_lay_36 : decode b_Model_lay 36 = .ok (.aload_n 0, 1) := by decide +kernel
theorem d_Model_lay_37 : decode b_Model_lay 37 = .ok (.getfield 23, 3) := by decide +kernel
theorem d_Model_lay_40 : decode b_Model_lay 40 = .ok (.iload_n 3, 1) := by decide +kernel
theorem d_Model_lay_41 : decode b_Model_lay 41 = .ok (.iaload, 1) := by decide +kernel
theorem d_Model_lay_42 : decode b_Model_lay 42 = .ok (.if_icmp .ge 117, 3) := by decide +kernel
theorem d_Model_lay_45 : decode b_Model_lay 45 = .ok (.aload_n 0, 1) := by decide +kernel
theorem d_Model_lay_46 : decode b_Model_lay 46 = .ok (.getfield 45, 3) := by decide +kernel
theorem d_Model_lay_49 : decode b_Model_lay 49 = .ok (.iconst 4, 1) := by decide +kernel
theorem d_Model_lay_50 : decode b_Model_lay 50 = .ok (.iload_n 3, 1) := by decide +kernel
theorem d_Model_lay_51 : decode b_Model_lay 51 = .ok (.imul, 1) := by decide +kernel
theorem d_Model_lay_52 : decode b_Model_lay 52 = .ok (.iconst 3, 1) := by decide +kernel
theorem d_Model_lay_53 : decode b_Model_lay 53 = .ok (.iadd, 1) := by decide +kernel
theorem d_Model_lay_54 : decode b_Model_lay 54 = .ok (.iaload, 1) := by decide +kernel
theorem d_Model_lay_55 : decode b_Model_lay 55 = .ok (.iload_n 1, 1) := by decide +kernel
theorem d_Model_lay_56 : decode b_Model_lay 56 = .ok (.if_icmp .ne 103, 3) := by decide +kernel
theorem d_Model_lay_59 : decode b_Model_lay 59 = .ok (.aload_n 0, 1) := by decide +kernel
theorem d_Model_lay_60 : decode b_Model_lay 60 = .ok (.aload_n 0, 1) := by decide +kernel
theorem d_Model_lay_61 : decode b_Model_lay 61 = .ok (.getfield 45, 3) := by decide +kernel
theorem d_Model_lay_64 : decode b_Model_lay 64 = .ok (.iload_n 3, 1) := by decide +kernel
theorem d_Model_lay_65 : decode b_Model_lay 65 = .ok (.iload 4, 2) := by decide +kernel
theorem d_Model_lay_67 : decode b_Model_lay 67 = .ok (.invokevirtual 139, 3) := by decide +kernel
theorem d_Model_lay_70 : decode b_Model_lay 70 = .ok (.iload_n 2, 1) := by decide +kernel
theorem d_Model_lay_71 : decode b_Model_lay 71 = .ok (.iconst 1, 1) := by decide +kernel
theorem d_Model_lay_72 : decode b_Model_lay 72 = .ok (.if_icmp .ne 35, 3) := by decide +kernel
theorem d_Model_lay_75 : decode b_Model_lay 75 = .ok (.aload_n 0, 1) := by decide +kernel
theorem d_Model_lay_76 : decode b_Model_lay 76 = .ok (.getfield 54, 3) := by decide +kernel
theorem d_Model_lay_79 : decode b_Model_lay 79 = .ok (.bipush 90, 2) := by decide +kernel
theorem d_Model_lay_81 : decode b_Model_lay 81 = .ok (.aload_n 0, 1) := by decide +kernel
theorem d_Model_lay_82 : decode b_Model_lay 82 = .ok (.getfield 82, 3) := by decide +kernel
theorem d_Model_lay_85 : decode b_Model_lay 85 = .ok (.aload_n 0, 1) := by decide +kernel
theorem d_Model_lay_86 : decode b_Model_lay 86 = .ok (.getfield 166, 3) := by decide +kernel
theorem d_Model_lay_89 : decode b_Model_lay 89 = .ok (.isub, 1) := by decide +kernel
theorem d_Model_lay_90 : decode b_Model_lay 90 = .ok (.iconst 1, 1) := by decide +kernel
theorem d_Model_lay_91 : decode b_Model_lay 91 = .ok (.iadd, 1) := by decide +kernel
theorem d_Model_lay_92 : decode b_Model_lay 92 = .ok (.imul, 1) := by decide +kernel
theorem d_Model_lay_93 : decode b_Model_lay 93 = .ok (.aload_n 0, 1) := by decide +kernel
theorem d_Model_lay_94 : decode b_Model_lay 94 = .ok (.getfield 79, 3) := by decide +kernel
theorem d_Model_lay_97 : decode b_Model_lay 97 = .ok (.iadd, 1) := by decide +kernel
theorem d_Model_lay_98 : decode b_Model_lay 98 = .ok (.aload_n 0, 1) := by decide +kernel
theorem d_Model_lay_99 : decode b_Model_lay 99 = .ok (.getfield 163, 3) := by decide +kernel
theorem d_Model_lay_102 : decode b_Model_lay 102 = .ok (.isub, 1) := by decide +kernel
theorem d_Model_lay_103 : decode b_Model_lay 103 = .ok (.iconst 1, 1) := by decide +kernel
theorem d_Model_lay_104 : decode b_Model_lay 104 = .ok (.iadd, 1) := by decide +kernel
theorem d_Model_lay_105 : decode b_Model_lay 105 = .ok (.iconst 1, 1) := by decide +kernel
theorem d_Model_lay_106 : decode b_Model_lay 106 = .ok (.iastore, 1) := by decide +kernel
theorem d_Model_lay_107 : decode b_Model_lay 107 = .ok (.iload_n 2, 1) := by decide +kernel
theorem d_Model_lay_108 : decode b_Model_lay 108 = .ok (.ifCond .ne 22, 3) := by decide +kernel
theorem d_Model_lay_111 : decode b_Model_lay 111 = .ok (.aload_n 0, 1) := by decide +kernel
theorem d_Model_lay_112 : decode b_Model_lay 112 = .ok (.getfield 79, 3) := by decide +kernel
theorem d_Model_lay_115 : decode b_Model_lay 115 = .ok (.aload_n 0, 1) := by decide +kernel
theorem d_Model_lay_116 : decode b_Model_lay 116 = .ok (.getfield 163, 3) := by decide +kernel
theorem d_Model_lay_119 : decode b_Model_lay 119 = .ok (.if_icmp .ge 11, 3) := by decide +kernel
theorem d_Model_lay_122 : decode b_Model_lay 122 = .ok (.aload_n 0, 1) := by decide +kernel
theorem d_Model_lay_123 : decode b_Model_lay 123 = .ok (.aload_n 0, 1) := by decide +kernel
theorem d_Model_lay_124 : decode b_Model_lay 124 = .ok (.getfield 79, 3) := by decide +kernel
theorem d_Model_lay_127 : decode b_Model_lay 127 = .ok (.putfield 163, 3) := by decide +kernel
theorem d_Model_lay_130 : decode b_Model_lay 130 = .ok (.iload_n 2, 1) := by decide +kernel
theorem d_Model_lay_131 : decode b_Model_lay 131 = .ok (.ifCond .ne 22, 3) := by decide +kernel
theorem d_Model_lay_134 : decode b_Model_lay 134 = .ok (.aload_n 0, 1) := by decide +kernel
theorem d_Model_lay_135 : decode b_Model_lay 135 = .ok (.getfield 82, 3) := by decide +kernel
theorem d_Model_lay_138 : decode b_Model_lay 138 = .ok (.aload_n 0, 1) := by decide +kernel
theorem d_Model_lay_139 : decode b_Model_lay 139 = .ok (.getfield 166, 3) := by decide +kernel
theorem d_Model_lay_142 : decode b_Model_lay 142 = .ok (.if_icmp .ge 11, 3) := by decide +kernel
theorem d_Model_lay_145 : decode b_Model_lay 145 = .ok (.aload_n 0, 1) := by decide +kernel
theorem d_Model_lay_146 : decode b_Model_lay 146 = .ok (.aload_n 0, 1) := by decide +kernel
theorem d_Model_lay_147 : decode b_Model_lay 147 = .ok (.getfield 82, 3) := by decide +kernel
theorem d_Model_lay_150 : decode b_Model_lay 150 = .ok (.putfield 166, 3) := by decide +kernel
theorem d_Model_lay_153 : decode b_Model_lay 153 = .ok (.iinc 4 1, 3) := by decide +kernel
theorem d_Model_lay_156 : decode b_Model_lay 156 = .ok (.goto (-122), 3) := by decide +kernel
theorem d_Model_lay_159 : decode b_Model_lay 159 = .ok (.iinc 3 1, 3) := by decide +kernel
theorem d_Model_lay_162 : decode b_Model_lay 162 = .ok (.goto (-139), 3) := by decide +kernel
theorem d_Model_lay_165 : decode b_Model_lay 165 = .ok (.iinc 2 1, 3) := by decide +kernel
theorem d_Model_lay_168 : decode b_Model_lay 168 = .ok (.goto (-152), 3) := by decide +kernel
theorem d_Model_lay_171 : decode b_Model_lay 171 = .ok (.return_, 1) := by decide +kernel
theorem d_Model_isOut_0 : decode b_Model_isOut 0 = .ok (.iload_n 1, 1) := by decide +kernel
theorem d_Model_isOut_1 : decode b_Model_isOut 1 = .ok (.ifCond .lt 24, 3) := by decide +kernel
theorem d_Model_isOut_4 : decode b_Model_isOut 4 = .ok (.iload_n 1, 1) := by decide +kernel
theorem d_Model_isOut_5 : decode b_Model_isOut 5 = .ok (.sipush 8100, 3) := by decide +kernel
theorem d_Model_isOut_8 : decode b_Model_isOut 8 = .ok (.if_icmp .ge 17, 3) := by decide +kernel
theorem d_Model_isOut_11 : decode b_Model_isOut 11 = .ok (.aload_n 0, 1) := by decide +kernel
theorem d_Model_isOut_12 : decode b_Model_isOut 12 = .ok (.getfield 54, 3) := by decide +kernel
theorem d_Model_isOut_15 : decode b_Model_isOut 15 = .ok (.iload_n 1, 1) := by decide +kernel
theorem d_Model_isOut_16 : decode b_Model_isOut 16 = .ok (.iaload, 1) := by decide +kernel
theorem d_Model_isOut_17 : decode b_Model_isOut 17 = .ok (.iconst 2, 1) := by decide +kernel
theorem d_Model_isOut_18 : decode b_Model_isOut 18 = .ok (.if_icmp .ne 7, 3) := by decide +kernel
theorem d_Model_isOut_21 : decode b_Model_isOut 21 = .ok (.iconst 1, 1) := by decide +kernel
theorem d_Model_isOut_22 : decode b_Model_isOut 22 = .ok (.goto 4, 3) := by decide +kernel
theorem d_Model_isOut_25 : decode b_Model_isOut 25 = .ok (.iconst 0, 1) := by decide +kernel
theorem d_Model_isOut_26 : decode b_Model_isOut 26 = .ok (.ireturn, 1) := by decide +kernel
theorem d_Model_flood_0 : decode b_Model_flood 0 = .ok (.aload_n 0, 1) := by decide +kernel
theorem d_Model_flood_1 : decode b_Model_flood 1 = .ok (.getfield 54, 3) := by decide +kernel
theorem d_Model_flood_4 : decode b_Model_flood 4 = .ok (.iconst 0, 1) := by decide +kernel
theorem d_Model_flood_5 : decode b_Model_flood 5 = .ok (.iconst 2, 1) := by decide +kernel
theorem d_Model_flood_6 : decode b_Model_flood 6 = .ok (.iastore, 1) := by decide +kernel
theorem d_Model_flood_7 : decode b_Model_flood 7 = .ok (.iconst 1, 1) := by decide +kernel
theorem d_Model_flood_8 : decode b_Model_flood 8 = .ok (.istore_n 1, 1) := by decide +kernel
theorem d_Model_flood_9 : decode b_Model_flood 9 = .ok (.iload_n 1, 1) := by decide +kernel
theorem d_Model_flood_10 : decode b_Model_flood 10 = .ok (.ifCond .eq 104, 3) := by decide +kernel
theorem d_Model_flood_13 : decode b_Model_flood 13 = .ok (.iconst 0, 1) := by decide +kernel
theorem d_Model_flood_14 : decode b_Model_flood 14 = .ok (.istore_n 1, 1) := by decide +kernel
theorem d_Model_flood_15 : decode b_Model_flood 15 = .ok (.iconst 0, 1) := by decide +kernel
theorem d_Model_flood_16 : decode b_Model_flood 16 = .ok (.istore_n 2, 1) := by decide +kernel
theorem d_Model_flood_17 : decode b_Model_flood 17 = .ok (.iload_n 2, 1) := by decide +kernel
theorem d_Model_flood_18 : decode b_Model_flood 18 = .ok (.sipush 8100, 3) := by decide +kernel
theorem d_Model_flood_21 : decode b_Model_flood 21 = .ok (.if_icmp .ge 90, 3) := by decide +kernel
theorem d_Model_flood_24 : decode b_Model_flood 24 = .ok (.iload_n 2, 1) := by decide +kernel
theorem d_Model_flood_25 : decode b_Model_flood 25 = .ok (.bipush 90, 2) := by decide +kernel
theorem d_Model_flood_27 : decode b_Model_flood 27 = .ok (.irem, 1) := by decide +kernel
theorem d_Model_flood_28 : decode b_Model_flood 28 = .ok (.istore_n 3, 1) := by decide +kernel
theorem d_Model_flood_29 : decode b_Model_flood 29 = .ok (.aload_n 0, 1) := by decide +kernel
theorem d_Model_flood_30 : decode b_Model_flood 30 = .ok (.getfield 54, 3) := by decide +kernel
theorem d_Model_flood_33 : decode b_Model_flood 33 = .ok (.iload_n 2, 1) := by decide +kernel
theorem d_Model_flood_34 : decode b_Model_flood 34 = .ok (.iaload, 1) := by decide +kernel
theorem d_Model_flood_35 : decode b_Model_flood 35 = .ok (.ifCond .eq 6, 3) := by decide +kernel
theorem d_Model_flood_38 : decode b_Model_flood 38 = .ok (.goto 67, 3) := by decide +kernel
theorem d_Model_flood_41 : decode b_Model_flood 41 = .ok (.iload_n 3, 1) := by decide +kernel
theorem d_Model_flood_42 : decode b_Model_flood 42 = .ok (.ifCond .le 13, 3) := by decide +kernel
theorem d_Model_flood_45 : decode b_Model_flood 45 = .ok (.aload_n 0, 1) := by decide +kernel
theorem d_Model_flood_46 : decode b_Model_flood 46 = .ok (.iload_n 2, 1) := by decide +kernel
theorem d_Model_flood_47 : decode b_Model_flood 47 = .ok (.iconst 1, 1) := by decide +kernel
theorem d_Model_flood_48 : decode b_Model_flood 48 = .ok (.isub, 1) := by decide +kernel
theorem d_Model_flood_49 : decode b_Model_flood 49 = .ok (.invokevirtual 169, 3) := by decide +kernel
theorem d_Model_flood_52 : decode b_Model_flood 52 = .ok (.ifCond .ne 44, 3) := by decide +kernel
theorem d_Model_flood_55 : decode b_Model_flood 55 = .ok (.iload_n 3, 1) := by decide +kernel
theorem d_Model_flood_56 : decode b_Model_flood 56 = .ok (.bipush 89, 2) := by decide +kernel
theorem d_Model_flood_58 : decode b_Model_flood 58 = .ok (.if_icmp .ge 13, 3) := by decide +kernel
theorem d_Model_flood_61 : decode b_Model_flood 61 = .ok (.aload_n 0, 1) := by decide +kernel
theorem d_Model_flood_62 : decode b_Model_flood 62 = .ok (.iload_n 2, 1) := by decide +kernel
theorem d_Model_flood_63 : decode b_Model_flood 63 = .ok (.iconst 1, 1) := by decide +kernel
theorem d_Model_flood_64 : decode b_Model_flood 64 = .ok (.iadd, 1) := by decide +kernel
theorem d_Model_flood_65 : decode b_Model_flood 65 = .ok (.invokevirtual 169, 3) := by decide +kernel
theorem d_Model_flood_68 : decode b_Model_flood 68 = .ok (.ifCond .ne 28, 3) := by decide +kernel
theorem d_Model_flood_71 : decode b_Model_flood 71 = .ok (.aload_n 0, 1) := by decide +kernel
theorem d_Model_flood_72 : decode b_Model_flood 72 = .ok (.iload_n 2, 1) := by decide +kernel
theorem d_Model_flood_73 : decode b_Model_flood 73 = .ok (.bipush 90, 2) := by decide +kernel
theorem d_Model_flood_75 : decode b_Model_flood 75 = .ok (.isub, 1) := by decide +kernel
theorem d_Model_flood_76 : decode b_Model_flood 76 = .ok (.invokevirtual 169, 3) := by decide +kernel
theorem d_Model_flood_79 : decode b_Model_flood 79 = .ok (.ifCond .ne 17, 3) := by decide +kernel
theorem d_Model_flood_82 : decode b_Model_flood 82 = .ok (.aload_n 0, 1) := by decide +kernel
theorem d_Model_flood_83 : decode b_Model_flood 83 = .ok (.iload_n 2, 1) := by decide +kernel
theorem d_Model_flood_84 : decode b_Model_flood 84 = .ok (.bipush 90, 2) := by decide +kernel
theorem d_Model_flood_86 : decode b_Model_flood 86 = .ok (.iadd, 1) := by decide +kernel
theorem d_Model_flood_87 : decode b_Model_flood 87 = .ok (.invokevirtual 169, 3) := by decide +kernel
theorem d_Model_flood_90 : decode b_Model_flood 90 = .ok (.ifCond .ne 6, 3) := by decide +kernel
theorem d_Model_flood_93 : decode b_Model_flood 93 = .ok (.goto 12, 3) := by decide +kernel
theorem d_Model_flood_96 : decode b_Model_flood 96 = .ok (.aload_n 0, 1) := by decide +kernel
theorem d_Model_flood_97 : decode b_Model_flood 97 = .ok (.getfield 54, 3) := by decide +kernel
theorem d_Model_flood_100 : decode b_Model_flood 100 = .ok (.iload_n 2, 1) := by decide +kernel
theorem d_Model_flood_101 : decode b_Model_flood 101 = .ok (.iconst 2, 1) := by decide +kernel
theorem d_Model_flood_102 : decode b_Model_flood 102 = .ok (.iastore, 1) := by decide +kernel
theorem d_Model_flood_103 : decode b_Model_flood 103 = .ok (.iconst 1, 1) := by decide +kernel
theorem d_Model_flood_104 : decode b_Model_flood 104 = .ok (.istore_n 1, 1) := by decide +kernel
theorem d_Model_flood_105 : decode b_Model_flood 105 = .ok (.iinc 2 1, 3) := by decide +kernel
theorem d_Model_flood_108 : decode b_Model_flood 108 = .ok (.goto (-91), 3) := by decide +kernel
theorem d_Model_flood_111 : decode b_Model_flood 111 = .ok (.goto (-102), 3) := by decide +kernel
theorem d_Model_flood_114 : decode b_Model_flood 114 = .ok (.return_, 1) := by decide +kernel
