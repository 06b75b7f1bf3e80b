theorem d_Model_moveTree_0 : decode b_Model_moveTree 0 = .ok (.aload_n 0, 1) := by decide +kernel
theorem d_Model_moveTree_1 : decode b_Model_moveTree 1 = .ok (.getfield 51, 3) := by decide +kernel
theorem d_Model_moveTree_4 : decode b_Model_moveTree 4 = .ok (.iconst 4, 1) := by decide +kernel
theorem d_Model_moveTree_5 : decode b_Model_moveTree 5 = .ok (.iload_n 1, 1) := by decide +kernel
theorem d_Model_moveTree_6 : decode b_Model_moveTree 6 = .ok (.imul, 1) := by decide +kernel
theorem d_Model_moveTree_7 : decode b_Model_moveTree 7 = .ok (.iconst 2, 1) := by decide +kernel
theorem d_Model_moveTree_8 : decode b_Model_moveTree 8 = .ok (.iadd, 1) := by decide +kernel
theorem d_Model_moveTree_9 : decode b_Model_moveTree 9 = .ok (.iaload, 1) := by decide +kernel
theorem d_Model_moveTree_10 : decode b_Model_moveTree 10 = .ok (.aload_n 0, 1) := by decide +kernel
theorem d_Model_moveTree_11 : decode b_Model_moveTree 11 = .ok (.getfield 45, 3) := by decide +kernel
theorem d_Model_moveTree_14 : decode b_Model_moveTree 14 = .ok (.iconst 4, 1) := by decide +kernel
theorem d_Model_moveTree_15 : decode b_Model_moveTree 15 = .ok (.iload_n 1, 1) := by decide +kernel
theorem d_Model_moveTree_16 : decode b_Model_moveTree 16 = .ok (.imul, 1) := by decide +kernel
theorem d_Model_moveTree_17 : decode b_Model_moveTree 17 = .ok (.iconst 2, 1) := by decide +kernel
theorem d_Model_moveTree_18 : decode b_Model_moveTree 18 = .ok (.iadd, 1) := by decide +kernel
theorem d_Model_moveTree_19 : decode b_Model_moveTree 19 = .ok (.iaload, 1) := by decide +kernel
theorem d_Model_moveTree_20 : decode b_Model_moveTree 20 = .ok (.isub, 1) := by decide +kernel
theorem d_Model_moveTree_21 : decode b_Model_moveTree 21 = .ok (.iconst 3, 1) := by decide +kernel
theorem d_Model_moveTree_22 : decode b_Model_moveTree 22 = .ok (.iand, 1) := by decide +kernel
theorem d_Model_moveTree_23 : decode b_Model_moveTree 23 = .ok (.istore_n 3, 1) := by decide +kernel
theorem d_Model_moveTree_24 : decode b_Model_moveTree 24 = .ok (.iconst 0, 1) := by decide +kernel
theorem d_Model_moveTree_25 : decode b_Model_moveTree 25 = .ok (.istore 4, 2) := by decide +kernel
theorem d_Model_moveTree_27 : decode b_Model_moveTree 27 = .ok (.iload 4, 2) := by decide +kernel
theorem d_Model_moveTree_29 : decode b_Model_moveTree 29 = .ok (.aload_n 0, 1) := by decide +kernel
theorem d_Model_moveTree_30 : decode b_Model_moveTree 30 = .ok (.getfield 60, 3) := by decide +kernel
theorem d_Model_moveTree_33 : decode b_Model_moveTree 33 = .ok (.if_icmp .ge 163, 3) := by decide +kernel
theorem d_Model_moveTree_36 : decode b_Model_moveTree 36 = .ok (.aload_n 0, 1) := by decide +kernel
theorem d_Model_moveTree_37 : decode b_Model_moveTree 37 = .ok (.getfield 45, 3) := by decide +kernel
theorem d_Model_moveTree_40 : decode b_Model_moveTree 40 = .ok (.iconst 4, 1) := by decide +kernel
theorem d_Model_moveTree_41 : decode b_Model_moveTree 41 = .ok (.iload 4, 2) := by decide +kernel
theorem d_Model_moveTree_43 : decode b_Model_moveTree 43 = .ok (.imul, 1) := by decide +kernel
theorem d_Model_moveTree_44 : decode b_Model_moveTree 44 = .ok (.iconst 3, 1) := by decide +kernel
theorem d_Model_moveTree_45 : decode b_Model_moveTree 45 = .ok (.iadd, 1) := by decide +kernel
theorem d_Model_moveTree_46 : decode b_Model_moveTree 46 = .ok (.iaload, 1) := by decide +kernel
theorem d_Model_moveTree_47 : decode b_Model_moveTree 47 = .ok (.aload_n 0, 1) := by decide +kernel
theorem d_Model_moveTree_48 : decode b_Model_moveTree 48 = .ok (.getfield 45, 3) := by decide +kernel
theorem d_Model_moveTree_51 : decode b_Model_moveTree 51 = .ok (.iconst 4, 1) := by decide +kernel
theorem d_Model_moveTree_52 : decode b_Model_moveTree 52 = .ok (.iload_n 1, 1) := by decide +kernel
theorem d_Model_moveTree_53 : decode b_Model_moveTree 53 = .ok (.imul, 1) := by decide +kernel
theorem d_Model_moveTree_54 : decode b_Model_moveTree 54 = .ok (.iconst 3, 1) := by decide +kernel
theorem d_Model_moveTree_55 : decode b_Model_moveTree 55 = .ok (.iadd, 1) := by decide +kernel
theorem d_Model_moveTree_56 : decode b_Model_moveTree 56 = .ok (.iaload, 1) := by decide +kernel
theorem d_Model_moveTree_57 : decode b_Model_moveTree 57 = .ok (.if_icmp .eq 6, 3) := by decide +kernel
theorem d_Model_moveTree_60 : decode b_Model_moveTree 60 = .ok (.goto 130, 3) := by decide +kernel
theorem d_Model_moveTree_63 : decode b_Model_moveTree 63 = .ok (.aload_n 0, 1) := by decide +kernel
theorem d_Model_moveTree_64 : decode b_Model_moveTree 64 = .ok (.aload_n 0, 1) := by decide +kernel
theorem d_Model_moveTree_65 : decode b_Model_moveTree 65 = .ok (.getfield 45, 3) := by decide +kernel
theorem d_Model_moveTree_68 : decode b_Model_moveTree 68 = .ok (.iconst 4, 1) := by decide +kernel
theorem d_Model_moveTree_69 : decode b_Model_moveTree 69 = .ok (.iload 4, 2) := by decide +kernel
theorem d_Model_moveTree_71 : decode b_Model_moveTree 71 = .ok (.imul, 1) := by decide +kernel
theorem d_Model_moveTree_72 : decode b_Model_moveTree 72 = .ok (.iaload, 1) := by decide +kernel
theorem d_Model_moveTree_73 : decode b_Model_moveTree 73 = .ok (.aload_n 0, 1) := by decide +kernel
theorem d_Model_moveTree_74 : decode b_Model_moveTree 74 = .ok (.getfield 45, 3) := by decide +kernel
theorem d_Model_moveTree_77 : decode b_Model_moveTree 77 = .ok (.iconst 4, 1) := by decide +kernel
theorem d_Model_moveTree_78 : decode b_Model_moveTree 78 = .ok (.iload_n 1, 1) := by decide +kernel
theorem d_Model_moveTree_79 : decode b_Model_moveTree 79 = .ok (.imul, 1) := by decide +kernel
theorem d_Model_moveTree_80 : decode b_Model_moveTree 80 = .ok (.iaload, 1) := by decide +kernel
theorem d_Model_moveTree_81 : decode b_Model_moveTree 81 = .ok (.isub, 1) := by decide +kernel
theorem d_Model_moveTree_82 : decode b_Model_moveTree 82 = .ok (.putfield 79, 3) := by decide +kernel
theorem d_Model_moveTree_85 : decode b_Model_moveTree 85 = .ok (.aload_n 0, 1) := by decide +kernel
theorem d_Model_moveTree_86 : decode b_Model_moveTree 86 = .ok (.aload_n 0, 1) := by decide +kernel
theorem d_Model_moveTree_87 : decode b_Model_moveTree 87 = .ok (.getfield 45, 3) := by decide +kernel
theorem d_Model_moveTree_90 : decode b_Model_moveTree 90 = .ok (.iconst 4, 1) := by decide +kernel
theorem d_Model_moveTree_91 : decode b_Model_moveTree 91 = .ok (.iload 4, 2) := by decide +kernel
theorem d_Model_moveTree_93 : decode b_Model_moveTree 93 = .ok (.imul, 1) := by decide +kernel
theorem d_Model_moveTree_94 : decode b_Model_moveTree 94 = .ok (.iconst 1, 1) := by decide +kernel
theorem d_Model_moveTree_95 : decode b_Model_moveTree 95 = .ok (.iadd, 1) := by decide +kernel
theorem d_Model_moveTree_96 : decode b_Model_moveTree 96 = .ok (.iaload, 1) := by decide +kernel
theorem d_Model_moveTree_97 : decode b_Model_moveTree 97 = .ok (.aload_n 0, 1) := by decide +kernel
theorem d_Model_moveTree_98 : decode b_Model_moveTree 98 = .ok (.getfield 45, 3) := by decide +kernel
theorem d_Model_moveTree_101 : decode b_Model_moveTree 101 = .ok (.iconst 4, 1) := by decide +kernel
theorem d_Model_moveTree_102 : decode b_Model_moveTree 102 = .ok (.iload_n 1, 1) := by decide +kernel
theorem d_Model_moveTree_103 : decode b_Model_moveTree 103 = .ok (.imul, 1) := by decide +kernel
theorem d_Model_moveTree_104 : decode b_Model_moveTree 104 = .ok (.iconst 1, 1) := by decide +kernel
theorem d_Model_moveTree_105 : decode b_Model_moveTree 105 = .ok (.iadd, 1) := by decide +kernel
theorem d_Model_moveTree_106 : decode b_Model_moveTree 106 = .ok (.iaload, 1) := by decide +kernel
theorem d_Model_moveTree_107 : decode b_Model_moveTree 107 = .ok (.isub, 1) := by decide +kernel
theorem d_Model_moveTree_108 : decode b_Model_moveTree 108 = .ok (.putfield 82, 3) := by decide +kernel
theorem d_Model_moveTree_111 : decode b_Model_moveTree 111 = .ok (.aload_n 0, 1) := by decide +kernel
theorem d_Model_moveTree_112 : decode b_Model_moveTree 112 = .ok (.iload_n 3, 1) := by decide +kernel
theorem d_Model_moveTree_113 : decode b_Model_moveTree 113 = .ok (.invokevirtual 143, 3) := by decide +kernel
theorem d_Model_moveTree_116 : decode b_Model_moveTree 116 = .ok (.aload_n 0, 1) := by decide +kernel
theorem d_Model_moveTree_117 : decode b_Model_moveTree 117 = .ok (.getfield 51, 3) := by decide +kernel
theorem d_Model_moveTree_120 : decode b_Model_moveTree 120 = .ok (.iconst 4, 1) := by decide +kernel
theorem d_Model_moveTree_121 : decode b_Model_moveTree 121 = .ok (.iload 4, 2) := by decide +kernel
theorem d_Model_moveTree_123 : decode b_Model_moveTree 123 = .ok (.imul, 1) := by decide +kernel
theorem d_Model_moveTree_124 : decode b_Model_moveTree 124 = .ok (.aload_n 0, 1) := by decide +kernel
theorem d_Model_moveTree_125 : decode b_Model_moveTree 125 = .ok (.getfield 51, 3) := by decide +kernel
theorem d_Model_moveTree_128 : decode b_Model_moveTree 128 = .ok (.iconst 4, 1) := by decide +kernel
theorem d_Model_moveTree_129 : decode b_Model_moveTree 129 = .ok (.iload_n 1, 1) := by decide +kernel
theorem d_Model_moveTree_130 : decode b_Model_moveTree 130 = .ok (.imul, 1) := by decide +kernel
theorem d_Model_moveTree_131 : decode b_Model_moveTree 131 = .ok (.iaload, 1) := by decide +kernel
theorem d_Model_moveTree_132 : decode b_Model_moveTree 132 = .ok (.aload_n 0, 1) := by decide +kernel
theorem d_Model_moveTree_133 : decode b_Model_moveTree 133 = .ok (.getfield 79, 3) := by decide +kernel
theorem d_Model_moveTree_136 : decode b_Model_moveTree 136 = .ok (.iadd, 1) := by decide +kernel
theorem d_Model_moveTree_137 : decode b_Model_moveTree 137 = .ok (.iastore, 1) := by decide +kernel
theorem d_Model_moveTree_138 : decode b_Model_moveTree 138 = .ok (.aload_n 0, 1) := by decide +kernel
theorem d_Model_moveTree_139 : decode b_Model_moveTree 139 = .ok (.getfield 51, 3) := by decide +kernel
theorem d_Model_moveTree_142 : decode b_Model_moveTree 142 = .ok (.iconst 4, 1) := by decide +kernel
theorem d_Model_moveTree_143 : decode b_Model_moveTree 143 = .ok (.iload 4, 2) := by decide +kernel
theorem d_Model_moveTree_145 : decode b_Model_moveTree 145 = .ok (.imul, 1) := by decide +kernel
theorem d_Model_moveTree_146 : decode b_Model_moveTree 146 = .ok (.iconst 1, 1) := by decide +kernel
theorem d_Model_moveTree_147 : decode b_Model_moveTree 147 = .ok (.iadd, 1) := by decide +kernel
theorem d_Model_moveTree_148 : decode b_Model_moveTree 148 = .ok (.aload_n 0, 1) := by decide +kernel
theorem d_Model_moveTree_149 : decode b_Model_moveTree 149 = .ok (.getfield 51, 3) := by decide +kernel
theorem d_Model_moveTree_152 : decode b_Model_moveTree 152 = .ok (.iconst 4, 1) := by decide +kernel
theorem d_Model_moveTree_153 : decode b_Model_moveTree 153 = .ok (.iload_n 1, 1) := by decide +kernel
theorem d_Model_moveTree_154 : decode b_Model_moveTree 154 = .ok (.imul, 1) := by decide +kernel
theorem d_Model_moveTree_155 : decode b_Model_moveTree 155 = .ok (.iconst 1, 1) := by decide +kernel
theorem d_Model_moveTree_156 : decode b_Model_moveTree 156 = .ok (.iadd, 1) := by decide +kernel
theorem d_Model_moveTree_157 : decode b_Model_moveTree 157 = .ok (.iaload, 1) := by decide +kernel
theorem d_Model_moveTree_158 : decode b_Model_moveTree 158 = .ok (.aload_n 0, 1) := by decide +kernel
theorem d_Model_moveTree_159 : decode b_Model_moveTree 159 = .ok (.getfield 82, 3) := by decide +kernel
theorem d_Model_moveTree_162 : decode b_Model_moveTree 162 = .ok (.iadd, 1) := by decide +kernel
theorem d_Model_moveTree_163 : decode b_Model_moveTree 163 = .ok (.iastore, 1) := by decide +kernel
theorem d_Model_moveTree_164 : decode b_Model_moveTree 164 = .ok (.aload_n 0, 1) := by decide +kernel
theorem d_Model_moveTree_165 : decode b_Model_moveTree 165 = .ok (.getfield 51, 3) := by decide +kernel
theorem d_Model_moveTree_168 : decode b_Model_moveTree 168 = .ok (.iconst 4, 1) := by decide +kernel
theorem d_Model_moveTree_169 : decode b_Model_moveTree 169 = .ok (.iload 4, 2) := by decide +kernel
theorem d_Model_moveTree_171 : decode b_Model_moveTree 171 = .ok (.imul, 1) := by decide +kernel
theorem d_Model_moveTree_172 : decode b_Model_moveTree 172 = .ok (.iconst 2, 1) := by decide +kernel
theorem d_Model_moveTree_173 : decode b_Model_moveTree 173 = .ok (.iadd, 1) := by decide +kernel
theorem d_Model_moveTree_174 : decode b_Model_moveTree 174 = .ok (.aload_n 0, 1) := by decide +kernel
theorem d_Model_moveTree_175 : decode b_Model_moveTree 175 = .ok (.getfield 45, 3) := by decide +kernel
theorem d_Model_moveTree_178 : decode b_Model_moveTree 178 = .ok (.iconst 4, 1) := by decide +kernel
theorem d_Model_moveTree_179 : decode b_Model_moveTree 179 = .ok (.iload 4, 2) := by decide +kernel
theorem d_Model_moveTree_181 : decode b_Model_moveTree 181 = .ok (.imul, 1) := by decide +kernel
theorem d_Model_moveTree_182 : decode b_Model_moveTree 182 = .ok (.iconst 2, 1) := by decide +kernel
theorem d_Model_moveTree_183 : decode b_Model_moveTree 183 = .ok (.iadd, 1) := by decide +kernel
theorem d_Model_moveTree_184 : decode b_Model_moveTree 184 = .ok (.iaload, 1) := by decide +kernel
theorem d_Model_moveTree_185 : decode b_Model_moveTree 185 = .ok (.iload_n 3, 1) := by decide +kernel
theorem d_Model_moveTree_186 : decode b_Model_moveTree 186 = .ok (.iadd, 1) := by decide +kernel
theorem d_Model_moveTree_187 : decode b_Model_moveTree 187 = .ok (.iconst 3, 1) := by decide +kernel
theorem d_Model_moveTree_188 : decode b_Model_moveTree 188 = .ok (.iand, 1) := by decide +kernel
theorem d_Model_moveTree_189 : decode b_Model_moveTree 189 = .ok (.iastore, 1) := by decide +kernel
theorem d_Model_moveTree_190 : decode b_Model_moveTree 190 = .ok (.iinc 4 1, 3) := by decide +kernel
theorem d_Model_moveTree_193 : decode b_Model_moveTree 193 = .ok (.goto (-166), 3) := by decide +kernel
theorem d_Model_moveTree_196 : decode b_Model_moveTree 196 = .ok (.aload_n 0, 1) := by decide +kernel
theorem d_Model_moveTree_197 : decode b_Model_moveTree 197 = .ok (.getfield 45, 3) := by decide +kernel
theorem d_Model_moveTree_200 : decode b_Model_moveTree 200 = .ok (.iconst 4, 1) := by decide +kernel
theorem d_Model_moveTree_201 : decode b_Model_moveTree 201 = .ok (.iload_n 1, 1) := by decide +kernel
theorem d_Model_moveTree_202 : decode b_Model_moveTree 202 = .ok (.imul, 1) := by decide +kernel
theorem d_Model_moveTree_203 : decode b_Model_moveTree 203 = .ok (.iconst 3, 1) := by decide +kernel
theorem d_Model_moveTree_204 : decode b_Model_moveTree 204 = .ok (.iadd, 1) := by decide +kernel
theorem d_Model_moveTree_205 : decode b_Model_moveTree 205 = .ok (.iaload, 1) := by decide +kernel
theorem d_Model_moveTree_206 : decode b_Model_moveTree 206 = .ok (.istore 4, 2) := by decide +kernel
theorem d_Model_moveTree_208 : decode b_Model_moveTree 208 = .ok (.iload 4, 2) := by decide +kernel
theorem d_Model_moveTree_210 : decode b_Model_moveTree 210 = .ok (.iload_n 2, 1) := by decide +kernel
theorem d_Model_moveTree_211 : decode b_Model_moveTree 211 = .ok (.if_icmp .ge 8, 3) := by decide +kernel
theorem d_Model_moveTree_214 : decode b_Model_moveTree 214 = .ok (.iload 4, 2) := by decide +kernel
theorem d_Model_moveTree_216 : decode b_Model_moveTree 216 = .ok (.goto 4, 3) := by decide +kernel
theorem d_Model_moveTree_219 : decode b_Model_moveTree 219 = .ok (.iload_n 2, 1) := by decide +kernel
theorem d_Model_moveTree_220 : decode b_Model_moveTree 220 = .ok (.istore 5, 2) := by decide +kernel
theorem d_Model_moveTree_222 : decode b_Model_moveTree 222 = .ok (.iconst 0, 1) := by decide +kernel
theorem d_Model_moveTree_223 : decode b_Model_moveTree 223 = .ok (.istore 6, 2) := by decide +kernel
theorem d_Model_moveTree_225 : decode b_Model_moveTree 225 = .ok (.iload 6, 2) := by decide +kernel
theorem d_Model_moveTree_227 : decode b_Model_moveTree 227 = .ok (.aload_n 0, 1) := by decide +kernel
theorem d_Model_moveTree_228 : decode b_Model_moveTree 228 = .ok (.getfield 60, 3) := by decide +kernel
theorem d_Model_moveTree_231 : decode b_Model_moveTree 231 = .ok (.if_icmp .ge 53, 3) := by decide +kernel
theorem d_Model_moveTree_234 : decode b_Model_moveTree 234 = .ok (.aload_n 0, 1) := by decide +kernel
theorem d_Model_moveTree_235 : decode b_Model_moveTree 235 = .ok (.getfield 45, 3) := by decide +kernel
theorem d_Model_moveTree_238 : decode b_Model_moveTree 238 = .ok (.iconst 4, 1) := by decide +kernel
theorem d_Model_moveTree_239 : decode b_Model_moveTree 239 = .ok (.iload 6, 2) := by decide +kernel
theorem d_Model_moveTree_241 : decode b_Model_moveTree 241 = .ok (.imul, 1) := by decide +kernel
theorem d_Model_moveTree_242 : decode b_Model_moveTree 242 = .ok (.iconst 3, 1) := by decide +kernel
theorem d_Model_moveTree_243 : decode b_Model_moveTree 243 = .ok (.iadd, 1) := by decide +kernel
theorem d_Model_moveTree_244 : decode b_Model_moveTree 244 = .ok (.iaload, 1) := by decide +kernel
theorem d_Model_moveTree_245 : decode b_Model_moveTree 245 = .ok (.iload 4, 2) := by decide +kernel
theorem d_Model_moveTree_247 : decode b_Model_moveTree 247 = .ok (.if_icmp .eq 18, 3) := by decide +kernel
theorem d_Model_moveTree_250 : decode b_Model_moveTree 250 = .ok (.aload_n 0, 1) := by decide +kernel
theorem d_Model_moveTree_251 : decode b_Model_moveTree 251 = .ok (.getfield 45, 3) := by decide +kernel
theorem d_Model_moveTree_254 : decode b_Model_moveTree 254 = .ok (.iconst 4, 1) := by decide +kernel
theorem d_Model_moveTree_255 : decode b_Model_moveTree 255 = .ok (.iload 6, 2) := by decide +kernel
theorem d_Model_moveTree_257 : decode b_Model_moveTree 257 = .ok (.imul, 1) := by decide +kernel
theorem d_Model_moveTree_258 : decode b_Model_moveTree 258 = .ok (.iconst 3, 1) := by decide +kernel
theorem d_Model_moveTree_259 : decode b_Model_moveTree 259 = .ok (.iadd, 1) := by decide +kernel
theorem d_Model_moveTree_260 : decode b_Model_moveTree 260 = .ok (.iaload, 1) := by decide +kernel
theorem d_Model_moveTree_261 : decode b_Model_moveTree 261 = .ok (.iload_n 2, 1) := by decide +kernel
theorem d_Model_moveTree_262 : decode b_Model_moveTree 262 = .ok (.if_icmp .ne 16, 3) := by decide +kernel
theorem d_Model_moveTree_265 : decode b_Model_moveTree 265 = .ok (.aload_n 0, 1) := by decide +kernel
theorem d_Model_moveTree_266 : decode b_Model_moveTree 266 = .ok (.getfield 51, 3) := by decide +kernel
theorem d_Model_moveTree_269 : decode b_Model_moveTree 269 = .ok (.iconst 4, 1) := by decide +kernel
theorem d_Model_moveTree_270 : decode b_Model_moveTree 270 = .ok (.iload 6, 2) := by decide +kernel
theorem d_Model_moveTree_272 : decode b_Model_moveTree 272 = .ok (.imul, 1) := by decide +kernel
theorem d_Model_moveTree_273 : decode b_Model_moveTree 273 = .ok (.iconst 3, 1) := by decide +kernel
theorem d_Model_moveTree_274 : decode b_Model_moveTree 274 = .ok (.iadd, 1) := by decide +kernel
theorem d_Model_moveTree_275 : decode b_Model_moveTree 275 = .ok (.iload 5, 2) := by decide +kernel
theorem d_Model_moveTree_277 : decode b_Model_moveTree 277 = .ok (.iastore, 1) := by decide +kernel
theorem d_Model_moveTree_278 : decode b_Model_moveTree 278 = .ok (.iinc 6 1, 3) := by decide +kernel
theorem d_Model_moveTree_281 : decode b_Model_moveTree 281 = .ok (.goto (-56), 3) := by decide +kernel
theorem d_Model_moveTree_284 : decode b_Model_moveTree 284 = .ok (.return_, 1) := by decide +kernel
theorem d_Model_fits_0 : decode b_Model_fits 0 = .ok (.iconst 1, 1) := by decide +kernel
theorem d_Model_fits_1 : decode b_Model_fits 1 = .ok (.istore_n 2, 1) := by decide +kernel
theorem d_Model_fits_2 : decode b_Model_fits 2 = .ok (.iconst 0, 1) := by decide +kernel
theorem d_Model_fits_3 : decode b_Model_fits 3 = .ok (.istore_n 3, 1) := by decide +kernel
theorem d_Model_fits_4 : decode b_Model_fits 4 = .ok (.iload_n 3, 1) := by decide +kernel
theorem d_Model_fits_5 : decode b_Model_fits 5 = .ok (.aload_n 0, 1) := by decide +kernel
theorem d_Model_fits_6 : decode b_Model_fits 6 = .ok (.getfield 60, 3) := by decide +kernel
theorem d_Model_fits_9 : decode b_Model_fits 9 = .ok (.if_icmp .ge 77, 3) := by decide +kernel
theorem d_Model_fits_12 : decode b_Model_fits 12 = .ok (.iconst 0, 1) := by decide +kernel
theorem d_Model_fits_13 : decode b_Model_fits 13 = .ok (.istore 4, 2) := by decide +kernel
theorem d_Model_fits_15 : decode b_Model_fits 15 = .ok (.iload 4, 2) := by decide +kernel
theorem d_Model_fits_17 : decode b_Model_fits 17 = .ok (.iload_n 3, 1) := by decide +kernel
theorem d_Model_fits_18 : decode b_Model_fits 18 = .ok (.if_icmp .ge 62, 3) := by decide +kernel
theorem d_Model_fits_21 : decode b_Model_fits 21 = .ok (.iload_n 2, 1) := by decide +kernel
theorem d_Model_fits_22 : decode b_Model_fits 22 = .ok (.ifCond .eq 58, 3) := by decide +kernel
theorem d_Model_fits_25 : decode b_Model_fits 25 = .ok (.aload_n 0, 1) := by decide +kernel
theorem d_Model_fits_26 : decode b_Model_fits 26 = .ok (.getfield 51, 3) := by decide +kernel
theorem d_Model_fits_29 : decode b_Model_fits 29 = .ok (.iconst 4, 1) := by decide +kernel
theorem d_Model_fits_30 : decode b_Model_fits 30 = .ok (.iload_n 3, 1) := by decide +kernel
theorem d_Model_fits_31 : decode b_Model_fits 31 = .ok (.imul, 1) := by decide +kernel
theorem d_Model_fits_32 : decode b_Model_fits 32 = .ok (.iconst 3, 1) := by decide +kernel
theorem d_Model_fits_33 : decode b_Model_fits 33 = .ok (.iadd, 1) := by decide +kernel
theorem d_Model_fits_34 : decode b_Model_fits 34 = .ok (.iaload, 1) := by decide +kernel
theorem d_Model_fits_35 : decode b_Model_fits 35 = .ok (.iload_n 1, 1) := by decide +kernel
theorem d_Model_fits_36 : decode b_Model_fits 36 = .ok (.if_icmp .ne 32, 3) := by decide +kernel
theorem d_Model_fits_39 : decode b_Model_fits 39 = .ok (.aload_n 0, 1) := by decide +kernel
theorem d_Model_fits_40 : decode b_Model_fits 40 = .ok (.getfield 51, 3) := by decide +kernel
theorem d_Model_fits_43 : decode b_Model_fits 43 = .ok (.iconst 4, 1) := by decide +kernel
theorem d_Model_fits_44 : decode b_Model_fits 44 = .ok (.iload 4, 2) := by decide +kernel
theorem d_Model_fits_46 : decode b_Model_fits 46 = .ok (.imul, 1) := by decide +kernel
theorem d_Model_fits_47 : decode b_Model_fits 47 = .ok (.iconst 3, 1) := by decide +kernel
theorem d_Model_fits_48 : decode b_Model_fits 48 = .ok (.iadd, 1) := by decide +kernel
theorem d_Model_fits_49 : decode b_Model_fits 49 = .ok (.iaload, 1) := by decide +kernel
theorem d_Model_fits_50 : decode b_Model_fits 50 = .ok (.iload_n 1, 1) := by decide +kernel
theorem d_Model_fits_51 : decode b_Model_fits 51 = .ok (.if_icmp .ne 17, 3) := by decide +kernel
theorem d_Model_fits_54 : decode b_Model_fits 54 = .ok (.aload_n 0, 1) := by decide +kernel
theorem d_Model_fits_55 : decode b_Model_fits 55 = .ok (.aload_n 0, 1) := by decide +kernel
theorem d_Model_fits_56 : decode b_Model_fits 56 = .ok (.getfield 51, 3) := by decide +kernel
theorem d_Model_fits_59 : decode b_Model_fits 59 = .ok (.iload_n 3, 1) := by decide +kernel
theorem d_Model_fits_60 : decode b_Model_fits 60 = .ok (.iload 4, 2) := by decide +kernel
theorem d_Model_fits_62 : decode b_Model_fits 62 = .ok (.invokevirtual 147, 3) := by decide +kernel
theorem d_Model_fits_65 : decode b_Model_fits 65 = .ok (.ifCond .ne 7, 3) := by decide +kernel
theorem d_Model_fits_68 : decode b_Model_fits 68 = .ok (.iconst 1, 1) := by decide +kernel
theorem d_Model_fits_69 : decode b_Model_fits 69 = .ok (.goto 4, 3) := by decide +kernel
theorem d_Model_fits_72 : decode b_Model_fits 72 = .ok (.iconst 0, 1) := by decide +kernel
theorem d_Model_fits_73 : decode b_Model_fits 73 = .ok (.istore_n 2, 1) := by decide +kernel
theorem d_Model_fits_74 : decode b_Model_fits 74 = .ok (.iinc 4 1, 3) := by decide +kernel
theorem d_Model_fits_77 : decode b_Model_fits 77 = .ok (.goto (-62), 3) := by decide +kernel
theorem d_Model_fits_80 : decode b_Model_fits 80 = .ok (.iinc 3 1, 3) := by decide +kernel
theorem d_Model_fits_83 : decode b_Model_fits 83 = .ok (.goto (-79), 3) := by decide +kernel
theorem d_Model_fits_86 : decode b_Model_fits 86 = .ok (.iload_n 2, 1) := by decide +kernel
theorem d_Model_fits_87 : decode b_Model_fits 87 = .ok (.ireturn, 1) := by decide +kernel
