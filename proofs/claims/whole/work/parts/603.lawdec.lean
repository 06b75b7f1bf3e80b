theorem d_Law_law_0 : decode b_Law_law 0 = .ok (.new 8, 3) := by decide +kernel
theorem d_Law_law_3 : decode b_Law_law 3 = .ok (.dup, 1) := by decide +kernel
theorem d_Law_law_4 : decode b_Law_law 4 = .ok (.invokespecial 52, 3) := by decide +kernel
theorem d_Law_law_7 : decode b_Law_law 7 = .ok (.astore_n 1, 1) := by decide +kernel
theorem d_Law_law_8 : decode b_Law_law 8 = .ok (.new 53, 3) := by decide +kernel
theorem d_Law_law_11 : decode b_Law_law 11 = .ok (.dup, 1) := by decide +kernel
theorem d_Law_law_12 : decode b_Law_law 12 = .ok (.invokespecial 55, 3) := by decide +kernel
theorem d_Law_law_15 : decode b_Law_law 15 = .ok (.astore_n 2, 1) := by decide +kernel
theorem d_Law_law_16 : decode b_Law_law 16 = .ok (.iconst 1, 1) := by decide +kernel
theorem d_Law_law_17 : decode b_Law_law 17 = .ok (.newarray .long, 2) := by decide +kernel
theorem d_Law_law_19 : decode b_Law_law 19 = .ok (.astore_n 3, 1) := by decide +kernel
theorem d_Law_law_20 : decode b_Law_law 20 = .ok (.iconst 0, 1) := by decide +kernel
theorem d_Law_law_21 : decode b_Law_law 21 = .ok (.istore 4, 2) := by decide +kernel
theorem d_Law_law_23 : decode b_Law_law 23 = .ok (.iload 4, 2) := by decide +kernel
theorem d_Law_law_25 : decode b_Law_law 25 = .ok (.aload_n 0, 1) := by decide +kernel
theorem d_Law_law_26 : decode b_Law_law 26 = .ok (.arraylength, 1) := by decide +kernel
theorem d_Law_law_27 : decode b_Law_law 27 = .ok (.iconst 4, 1) := by decide +kernel
theorem d_Law_law_28 : decode b_Law_law 28 = .ok (.isub, 1) := by decide +kernel
theorem d_Law_law_29 : decode b_Law_law 29 = .ok (.if_icmp .gt 771, 3) := by decide +kernel
theorem d_Law_law_32 : decode b_Law_law 32 = .ok (.aload_n 0, 1) := by decide +kernel
theorem d_Law_law_33 : decode b_Law_law 33 = .ok (.iload 4, 2) := by decide +kernel
theorem d_Law_law_35 : decode b_Law_law 35 = .ok (.iaload, 1) := by decide +kernel
theorem d_Law_law_36 : decode b_Law_law 36 = .ok (.bipush 15, 2) := by decide +kernel
theorem d_Law_law_38 : decode b_Law_law 38 = .ok (.iand, 1) := by decide +kernel
theorem d_Law_law_39 : decode b_Law_law 39 = .ok (.tableswitch 755 0 12 #[65, 109, 177, 257, 313, 369, 425, 438, 506, 562, 575, 643, 699], 65) := by decide +kernel
theorem d_Law_law_104 : decode b_Law_law 104 = .ok (.aload_n 1, 1) := by decide +kernel
theorem d_Law_law_105 : decode b_Law_law 105 = .ok (.aload_n 3, 1) := by decide +kernel
theorem d_Law_law_106 : decode b_Law_law 106 = .ok (.invokestatic 56, 3) := by decide +kernel
theorem d_Law_law_109 : decode b_Law_law 109 = .ok (.istore 5, 2) := by decide +kernel
theorem d_Law_law_111 : decode b_Law_law 111 = .ok (.aload_n 2, 1) := by decide +kernel
theorem d_Law_law_112 : decode b_Law_law 112 = .ok (.invokevirtual 61, 3) := by decide +kernel
theorem d_Law_law_115 : decode b_Law_law 115 = .ok (.istore 6, 2) := by decide +kernel
theorem d_Law_law_117 : decode b_Law_law 117 = .ok (.aload_n 2, 1) := by decide +kernel
theorem d_Law_law_118 : decode b_Law_law 118 = .ok (.invokevirtual 62, 3) := by decide +kernel
theorem d_Law_law_121 : decode b_Law_law 121 = .ok (.iload 5, 2) := by decide +kernel
theorem d_Law_law_123 : decode b_Law_law 123 = .ok (.if_icmp .eq 5, 3) := by decide +kernel
theorem d_Law_law_126 : decode b_Law_law 126 = .ok (.iconst 0, 1) := by decide +kernel
theorem d_Law_law_127 : decode b_Law_law 127 = .ok (.ireturn, 1) := by decide +kernel
theorem d_Law_law_128 : decode b_Law_law 128 = .ok (.iload 5, 2) := by decide +kernel
theorem d_Law_law_130 : decode b_Law_law 130 = .ok (.ifCond .ne 15, 3) := by decide +kernel
theorem d_Law_law_133 : decode b_Law_law 133 = .ok (.aload_n 3, 1) := by decide +kernel
theorem d_Law_law_134 : decode b_Law_law 134 = .ok (.iconst 0, 1) := by decide +kernel
theorem d_Law_law_135 : decode b_Law_law 135 = .ok (.laload, 1) := by decide +kernel
theorem d_Law_law_136 : decode b_Law_law 136 = .ok (.iload 6, 2) := by decide +kernel
theorem d_Law_law_138 : decode b_Law_law 138 = .ok (.i2l, 1) := by decide +kernel
theorem d_Law_law_139 : decode b_Law_law 139 = .ok (.lcmp, 1) := by decide +kernel
theorem d_Law_law_140 : decode b_Law_law 140 = .ok (.ifCond .eq 5, 3) := by decide +kernel
theorem d_Law_law_143 : decode b_Law_law 143 = .ok (.iconst 0, 1) := by decide +kernel
theorem d_Law_law_144 : decode b_Law_law 144 = .ok (.ireturn, 1) := by decide +kernel
theorem d_Law_law_145 : decode b_Law_law 145 = .ok (.goto 649, 3) := by decide +kernel
theorem d_Law_law_148 : decode b_Law_law 148 = .ok (.aload_n 1, 1) := by decide +kernel
theorem d_Law_law_149 : decode b_Law_law 149 = .ok (.aload_n 0, 1) := by decide +kernel
theorem d_Law_law_150 : decode b_Law_law 150 = .ok (.iload 4, 2) := by decide +kernel
theorem d_Law_law_152 : decode b_Law_law 152 = .ok (.iconst 1, 1) := by decide +kernel
theorem d_Law_law_153 : decode b_Law_law 153 = .ok (.iadd, 1) := by decide +kernel
theorem d_Law_law_154 : decode b_Law_law 154 = .ok (.iaload, 1) := by decide +kernel
theorem d_Law_law_155 : decode b_Law_law 155 = .ok (.aload_n 0, 1) := by decide +kernel
theorem d_Law_law_156 : decode b_Law_law 156 = .ok (.iload 4, 2) := by decide +kernel
theorem d_Law_law_158 : decode b_Law_law 158 = .ok (.iconst 2, 1) := by decide +kernel
theorem d_Law_law_159 : decode b_Law_law 159 = .ok (.iadd, 1) := by decide +kernel
theorem d_Law_law_160 : decode b_Law_law 160 = .ok (.iaload, 1) := by decide +kernel
theorem d_Law_law_161 : decode b_Law_law 161 = .ok (.aload_n 3, 1) := by decide +kernel
theorem d_Law_law_162 : decode b_Law_law 162 = .ok (.invokestatic 65, 3) := by decide +kernel
theorem d_Law_law_165 : decode b_Law_law 165 = .ok (.istore 5, 2) := by decide +kernel
theorem d_Law_law_167 : decode b_Law_law 167 = .ok (.aload_n 2, 1) := by decide +kernel
theorem d_Law_law_168 : decode b_Law_law 168 = .ok (.aload_n 0, 1) := by decide +kernel
theorem d_Law_law_169 : decode b_Law_law 169 = .ok (.iload 4, 2) := by decide +kernel
theorem d_Law_law_171 : decode b_Law_law 171 = .ok (.iconst 1, 1) := by decide +kernel
theorem d_Law_law_172 : decode b_Law_law 172 = .ok (.iadd, 1) := by decide +kernel
theorem d_Law_law_173 : decode b_Law_law 173 = .ok (.iaload, 1) := by decide +kernel
theorem d_Law_law_174 : decode b_Law_law 174 = .ok (.aload_n 0, 1) := by decide +kernel
theorem d_Law_law_175 : decode b_Law_law 175 = .ok (.iload 4, 2) := by decide +kernel
theorem d_Law_law_177 : decode b_Law_law 177 = .ok (.iconst 2, 1) := by decide +kernel
theorem d_Law_law_178 : decode b_Law_law 178 = .ok (.iadd, 1) := by decide +kernel
theorem d_Law_law_179 : decode b_Law_law 179 = .ok (.iaload, 1) := by decide +kernel
theorem d_Law_law_180 : decode b_Law_law 180 = .ok (.invokevirtual 68, 3) := by decide +kernel
theorem d_Law_law_183 : decode b_Law_law 183 = .ok (.istore 6, 2) := by decide +kernel
theorem d_Law_law_185 : decode b_Law_law 185 = .ok (.aload_n 2, 1) := by decide +kernel
theorem d_Law_law_186 : decode b_Law_law 186 = .ok (.invokevirtual 62, 3) := by decide +kernel
theorem d_Law_law_189 : decode b_Law_law 189 = .ok (.iload 5, 2) := by decide +kernel
theorem d_Law_law_191 : decode b_Law_law 191 = .ok (.if_icmp .eq 5, 3) := by decide +kernel
theorem d_Law_law_194 : decode b_Law_law 194 = .ok (.iconst 0, 1) := by decide +kernel
theorem d_Law_law_195 : decode b_Law_law 195 = .ok (.ireturn, 1) := by decide +kernel
theorem d_Law_law_196 : decode b_Law_law 196 = .ok (.iload 5, 2) := by decide +kernel
theorem d_Law_law_198 : decode b_Law_law 198 = .ok (.ifCond .ne 15, 3) := by decide +kernel
theorem d_Law_law_201 : decode b_Law_law 201 = .ok (.aload_n 3, 1) := by decide +kernel
theorem d_Law_law_202 : decode b_Law_law 202 = .ok (.iconst 0, 1) := by decide +kernel
theorem d_Law_law_203 : decode b_Law_law 203 = .ok (.laload, 1) := by decide +kernel
theorem d_Law_law_204 : decode b_Law_law 204 = .ok (.iload 6, 2) := by decide +kernel
theorem d_Law_law_206 : decode b_Law_law 206 = .ok (.i2l, 1) := by decide +kernel
theorem d_Law_law_207 : decode b_Law_law 207 = .ok (.lcmp, 1) := by decide +kernel
theorem d_Law_law_208 : decode b_Law_law 208 = .ok (.ifCond .eq 5, 3) := by decide +kernel
theorem d_Law_law_211 : decode b_Law_law 211 = .ok (.iconst 0, 1) := by decide +kernel
theorem d_Law_law_212 : decode b_Law_law 212 = .ok (.ireturn, 1) := by decide +kernel
theorem d_Law_law_213 : decode b_Law_law 213 = .ok (.goto 581, 3) := by decide +kernel
theorem d_Law_law_216 : decode b_Law_law 216 = .ok (.aload_n 1, 1) := by decide +kernel
theorem d_Law_law_217 : decode b_Law_law 217 = .ok (.aload_n 0, 1) := by decide +kernel
theorem d_Law_law_218 : decode b_Law_law 218 = .ok (.iload 4, 2) := by decide +kernel
theorem d_Law_law_220 : decode b_Law_law 220 = .ok (.iconst 1, 1) := by decide +kernel
theorem d_Law_law_221 : decode b_Law_law 221 = .ok (.iadd, 1) := by decide +kernel
theorem d_Law_law_222 : decode b_Law_law 222 = .ok (.iaload, 1) := by decide +kernel
theorem d_Law_law_223 : decode b_Law_law 223 = .ok (.aload_n 0, 1) := by decide +kernel
theorem d_Law_law_224 : decode b_Law_law 224 = .ok (.iload 4, 2) := by decide +kernel
theorem d_Law_law_226 : decode b_Law_law 226 = .ok (.iconst 2, 1) := by decide +kernel
theorem d_Law_law_227 : decode b_Law_law 227 = .ok (.iadd, 1) := by decide +kernel
theorem d_Law_law_228 : decode b_Law_law 228 = .ok (.iaload, 1) := by decide +kernel
theorem d_Law_law_229 : decode b_Law_law 229 = .ok (.aload_n 0, 1) := by decide +kernel
theorem d_Law_law_230 : decode b_Law_law 230 = .ok (.iload 4, 2) := by decide +kernel
theorem d_Law_law_232 : decode b_Law_law 232 = .ok (.iconst 3, 1) := by decide +kernel
theorem d_Law_law_233 : decode b_Law_law 233 = .ok (.iadd, 1) := by decide +kernel
theorem d_Law_law_234 : decode b_Law_law 234 = .ok (.iaload, 1) := by decide +kernel
theorem d_Law_law_235 : decode b_Law_law 235 = .ok (.aload_n 3, 1) := by decide +kernel
theorem d_Law_law_236 : decode b_Law_law 236 = .ok (.invokestatic 69, 3) := by decide +kernel
theorem d_Law_law_239 : decode b_Law_law 239 = .ok (.istore 5, 2) := by decide +kernel
theorem d_Law_law_241 : decode b_Law_law 241 = .ok (.aload_n 2, 1) := by decide +kernel
theorem d_Law_law_242 : decode b_Law_law 242 = .ok (.aload_n 0, 1) := by decide +kernel
theorem d_Law_law_243 : decode b_Law_law 243 = .ok (.iload 4, 2) := by decide +kernel
theorem d_Law_law_245 : decode b_Law_law 245 = .ok (.iconst 1, 1) := by decide +kernel
theorem d_Law_law_246 : decode b_Law_law 246 = .ok (.iadd, 1) := by decide +kernel
theorem d_Law_law_247 : decode b_Law_law 247 = .ok (.iaload, 1) := by decide +kernel
theorem d_Law_law_248 : decode b_Law_law 248 = .ok (.aload_n 0, 1) := by decide +kernel
theorem d_Law_law_249 : decode b_Law_law 249 = .ok (.iload 4, 2) := by decide +kernel
theorem d_Law_law_251 : decode b_Law_law 251 = .ok (.iconst 2, 1) := by decide +kernel
theorem d_Law_law_252 : decode b_Law_law 252 = .ok (.iadd, 1) := by decide +kernel
theorem d_Law_law_253 : decode b_Law_law 253 = .ok (.iaload, 1) := by decide +kernel
theorem d_Law_law_254 : decode b_Law_law 254 = .ok (.aload_n 0, 1) := by decide +kernel
theorem d_Law_law_255 : decode b_Law_law 255 = .ok (.iload 4, 2) := by decide +kernel
theorem d_Law_law_257 : decode b_Law_law 257 = .ok (.iconst 3, 1) := by decide +kernel
theorem d_Law_law_258 : decode b_Law_law 258 = .ok (.iadd, 1) := by decide +kernel
theorem d_Law_law_259 : decode b_Law_law 259 = .ok (.iaload, 1) := by decide +kernel
theorem d_Law_law_260 : decode b_Law_law 260 = .ok (.invokevirtual 72, 3) := by decide +kernel
theorem d_Law_law_263 : decode b_Law_law 263 = .ok (.istore 6, 2) := by decide +kernel
theorem d_Law_law_265 : decode b_Law_law 265 = .ok (.aload_n 2, 1) := by decide +kernel
theorem d_Law_law_266 : decode b_Law_law 266 = .ok (.invokevirtual 62, 3) := by decide +kernel
theorem d_Law_law_269 : decode b_Law_law 269 = .ok (.iload 5, 2) := by decide +kernel
theorem d_Law_law_271 : decode b_Law_law 271 = .ok (.if_icmp .eq 5, 3) := by decide +kernel
theorem d_Law_law_274 : decode b_Law_law 274 = .ok (.iconst 0, 1) := by decide +kernel
theorem d_Law_law_275 : decode b_Law_law 275 = .ok (.ireturn, 1) := by decide +kernel
theorem d_Law_law_276 : decode b_Law_law 276 = .ok (.iload 5, 2) := by decide +kernel
theorem d_Law_law_278 : decode b_Law_law 278 = .ok (.ifCond .ne 15, 3) := by decide +kernel
theorem d_Law_law_281 : decode b_Law_law 281 = .ok (.aload_n 3, 1) := by decide +kernel
theorem d_Law_law_282 : decode b_Law_law 282 = .ok (.iconst 0, 1) := by decide +kernel
theorem d_Law_law_283 : decode b_Law_law 283 = .ok (.laload, 1) := by decide +kernel
theorem d_Law_law_284 : decode b_Law_law 284 = .ok (.iload 6, 2) := by decide +kernel
theorem d_Law_law_286 : decode b_Law_law 286 = .ok (.i2l, 1) := by decide +kernel
theorem d_Law_law_287 : decode b_Law_law 287 = .ok (.lcmp, 1) := by decide +kernel
theorem d_Law_law_288 : decode b_Law_law 288 = .ok (.ifCond .eq 5, 3) := by decide +kernel
theorem d_Law_law_291 : decode b_Law_law 291 = .ok (.iconst 0, 1) := by decide +kernel
theorem d_Law_law_292 : decode b_Law_law 292 = .ok (.ireturn, 1) := by decide +kernel
theorem d_Law_law_293 : decode b_Law_law 293 = .ok (.goto 501, 3) := by decide +kernel
theorem d_Law_law_296 : decode b_Law_law 296 = .ok (.aload_n 1, 1) := by decide +kernel
theorem d_Law_law_297 : decode b_Law_law 297 = .ok (.aload_n 0, 1) := by decide +kernel
theorem d_Law_law_298 : decode b_Law_law 298 = .ok (.iload 4, 2) := by decide +kernel
theorem d_Law_law_300 : decode b_Law_law 300 = .ok (.iconst 1, 1) := by decide +kernel
theorem d_Law_law_301 : decode b_Law_law 301 = .ok (.iadd, 1) := by decide +kernel
theorem d_Law_law_302 : decode b_Law_law 302 = .ok (.iaload, 1) := by decide +kernel
theorem d_Law_law_303 : decode b_Law_law 303 = .ok (.aload_n 3, 1) := by decide +kernel
theorem d_Law_law_304 : decode b_Law_law 304 = .ok (.invokestatic 73, 3) := by decide +kernel
theorem d_Law_law_307 : decode b_Law_law 307 = .ok (.istore 5, 2) := by decide +kernel
theorem d_Law_law_309 : decode b_Law_law 309 = .ok (.aload_n 2, 1) := by decide +kernel
theorem d_Law_law_310 : decode b_Law_law 310 = .ok (.aload_n 0, 1) := by decide +kernel
theorem d_Law_law_311 : decode b_Law_law 311 = .ok (.iload 4, 2) := by decide +kernel
theorem d_Law_law_313 : decode b_Law_law 313 = .ok (.iconst 1, 1) := by decide +kernel
theorem d_Law_law_314 : decode b_Law_law 314 = .ok (.iadd, 1) := by decide +kernel
theorem d_Law_law_315 : decode b_Law_law 315 = .ok (.iaload, 1) := by decide +kernel
theorem d_Law_law_316 : decode b_Law_law 316 = .ok (.invokevirtual 76, 3) := by decide +kernel
theorem d_Law_law_319 : decode b_Law_law 319 = .ok (.istore 6, 2) := by decide +kernel
theorem d_Law_law_321 : decode b_Law_law 321 = .ok (.aload_n 2, 1) := by decide +kernel
theorem d_Law_law_322 : decode b_Law_law 322 = .ok (.invokevirtual 62, 3) := by decide +kernel
theorem d_Law_law_325 : decode b_Law_law 325 = .ok (.iload 5, 2) := by decide +kernel
theorem d_Law_law_327 : decode b_Law_law 327 = .ok (.if_icmp .eq 5, 3) := by decide +kernel
theorem d_Law_law_330 : decode b_Law_law 330 = .ok (.iconst 0, 1) := by decide +kernel
theorem d_Law_law_331 : decode b_Law_law 331 = .ok (.ireturn, 1) := by decide +kernel
theorem d_Law_law_332 : decode b_Law_law 332 = .ok (.iload 5, 2) := by decide +kernel
theorem d_Law_law_334 : decode b_Law_law 334 = .ok (.ifCond .ne 15, 3) := by decide +kernel
theorem d_Law_law_337 : decode b_Law_law 337 = .ok (.aload_n 3, 1) := by decide +kernel
theorem d_Law_law_338 : decode b_Law_law 338 = .ok (.iconst 0, 1) := by decide +kernel
theorem d_Law_law_339 : decode b_Law_law 339 = .ok (.laload, 1) := by decide +kernel
theorem d_Law_law_340 : decode b_Law_law 340 = .ok (.iload 6, 2) := by decide +kernel
theorem d_Law_law_342 : decode b_Law_law 342 = .ok (.i2l, 1) := by decide +kernel
theorem d_Law_law_343 : decode b_Law_law 343 = .ok (.lcmp, 1) := by decide +kernel
theorem d_Law_law_344 : decode b_Law_law 344 = .ok (.ifCond .eq 5, 3) := by decide +kernel
theorem d_Law_law_347 : decode b_Law_law 347 = .ok (.iconst 0, 1) := by decide +kernel
theorem d_Law_law_348 : decode b_Law_law 348 = .ok (.ireturn, 1) := by decide +kernel
theorem d_Law_law_349 : decode b_Law_law 349 = .ok (.goto 445, 3) := by decide +kernel
theorem d_Law_law_352 : decode b_Law_law 352 = .ok (.aload_n 1, 1) := by decide +kernel
theorem d_Law_law_353 : decode b_Law_law 353 = .ok (.aload_n 0, 1) := by decide +kernel
theorem d_Law_law_354 : decode b_Law_law 354 = .ok (.iload 4, 2) := by decide +kernel
theorem d_Law_law_356 : decode b_Law_law 356 = .ok (.iconst 1, 1) := by decide +kernel
theorem d_Law_law_357 : decode b_Law_law 357 = .ok (.iadd, 1) := by decide +kernel
theorem d_Law_law_358 : decode b_Law_law 358 = .ok (.iaload, 1) := by decide +kernel
theorem d_Law_law_359 : decode b_Law_law 359 = .ok (.aload_n 3, 1) := by decide +kernel
theorem d_Law_law_360 : decode b_Law_law 360 = .ok (.invokestatic 77, 3) := by decide +kernel
theorem d_Law_law_363 : decode b_Law_law 363 = .ok (.istore 5, 2) := by decide +kernel
theorem d_Law_law_365 : decode b_Law_law 365 = .ok (.aload_n 2, 1) := by decide +kernel
theorem d_Law_law_366 : decode b_Law_law 366 = .ok (.aload_n 0, 1) := by decide +kernel
theorem d_Law_law_367 : decode b_Law_law 367 = .ok (.iload 4, 2) := by decide +kernel
theorem d_Law_law_369 : decode b_Law_law 369 = .ok (.iconst 1, 1) := by decide +kernel
theorem d_Law_law_370 : decode b_Law_law 370 = .ok (.iadd, 1) := by decide +kernel
theorem d_Law_law_371 : decode b_Law_law 371 = .ok (.iaload, 1) := by decide +kernel
theorem d_Law_law_372 : decode b_Law_law 372 = .ok (.invokevirtual 79, 3) := by decide +kernel
theorem d_Law_law_375 : decode b_Law_law 375 = .ok (.istore 6, 2) := by decide +kernel
theorem d_Law_law_377 : decode b_Law_law 377 = .ok (.aload_n 2, 1) := by decide +kernel
theorem d_Law_law_378 : decode b_Law_law 378 = .ok (.invokevirtual 62, 3) := by decide +kernel
theorem d_Law_law_381 : decode b_Law_law 381 = .ok (.iload 5, 2) := by decide +kernel
theorem d_Law_law_383 : decode b_Law_law 383 = .ok (.if_icmp .eq 5, 3) := by decide +kernel
theorem d_Law_law_386 : decode b_Law_law 386 = .ok (.iconst 0, 1) := by decide +kernel
theorem d_Law_law_387 : decode b_Law_law 387 = .ok (.ireturn, 1) := by decide +kernel
theorem d_Law_law_388 : decode b_Law_law 388 = .ok (.iload 5, 2) := by decide +kernel
theorem d_Law_law_390 : decode b_Law_law 390 = .ok (.ifCond .ne 15, 3) := by decide +kernel
theorem d_Law_law_393 : decode b_Law_law 393 = .ok (.aload_n 3, 1) := by decide +kernel
theorem d_Law_law_394 : decode b_Law_law 394 = .ok (.iconst 0, 1) := by decide +kernel
theorem d_Law_law_395 : decode b_Law_law 395 = .ok (.laload, 1) := by decide +kernel
theorem d_Law_law_396 : decode b_Law_law 396 = .ok (.iload 6, 2) := by decide +kernel
theorem d_Law_law_398 : decode b_Law_law 398 = .ok (.i2l, 1) := by decide +kernel
theorem d_Law_law_399 : decode b_Law_law 399 = .ok (.lcmp, 1) := by decide +kernel
theorem d_Law_law_400 : decode b_Law_law 400 = .ok (.ifCond .eq 5, 3) := by decide +kernel
theorem d_Law_law_403 : decode b_Law_law 403 = .ok (.iconst 0, 1) := by decide +kernel
theorem d_Law_law_404 : decode b_Law_law 404 = .ok (.ireturn, 1) := by decide +kernel
theorem d_Law_law_405 : decode b_Law_law 405 = .ok (.goto 389, 3) := by decide +kernel
theorem d_Law_law_408 : decode b_Law_law 408 = .ok (.aload_n 1, 1) := by decide +kernel
theorem d_Law_law_409 : decode b_Law_law 409 = .ok (.aload_n 0, 1) := by decide +kernel
theorem d_Law_law_410 : decode b_Law_law 410 = .ok (.iload 4, 2) := by decide +kernel
theorem d_Law_law_412 : decode b_Law_law 412 = .ok (.iconst 1, 1) := by decide +kernel
theorem d_Law_law_413 : decode b_Law_law 413 = .ok (.iadd, 1) := by decide +kernel
theorem d_Law_law_414 : decode b_Law_law 414 = .ok (.iaload, 1) := by decide +kernel
theorem d_Law_law_415 : decode b_Law_law 415 = .ok (.aload_n 3, 1) := by decide +kernel
theorem d_Law_law_416 : decode b_Law_law 416 = .ok (.invokestatic 80, 3) := by decide +kernel
theorem d_Law_law_419 : decode b_Law_law 419 = .ok (.istore 5, 2) := by decide +kernel
theorem d_Law_law_421 : decode b_Law_law 421 = .ok (.aload_n 2, 1) := by decide +kernel
theorem d_Law_law_422 : decode b_Law_law 422 = .ok (.aload_n 0, 1) := by decide +kernel
theorem d_Law_law_423 : decode b_Law_law 423 = .ok (.iload 4, 2) := by decide +kernel
theorem d_Law_law_425 : decode b_Law_law 425 = .ok (.iconst 1, 1) := by decide +kernel
theorem d_Law_law_426 : decode b_Law_law 426 = .ok (.iadd, 1) := by decide +kernel
theorem d_Law_law_427 : decode b_Law_law 427 = .ok (.iaload, 1) := by decide +kernel
theorem d_Law_law_428 : decode b_Law_law 428 = .ok (.invokevirtual 82, 3) := by decide +kernel
theorem d_Law_law_431 : decode b_Law_law 431 = .ok (.istore 6, 2) := by decide +kernel
theorem d_Law_law_433 : decode b_Law_law 433 = .ok (.aload_n 2, 1) := by decide +kernel
theorem d_Law_law_434 : decode b_Law_law 434 = .ok (.invokevirtual 62, 3) := by decide +kernel
theorem d_Law_law_437 : decode b_Law_law 437 = .ok (.iload 5, 2) := by decide +kernel
theorem d_Law_law_439 : decode b_Law_law 439 = .ok (.if_icmp .eq 5, 3) := by decide +kernel
theorem d_Law_law_442 : decode b_Law_law 442 = .ok (.iconst 0, 1) := by decide +kernel
theorem d_Law_law_443 : decode b_Law_law 443 = .ok (.ireturn, 1) := by decide +kernel
theorem d_Law_law_444 : decode b_Law_law 444 = .ok (.iload 5, 2) := by decide +kernel
theorem d_Law_law_446 : decode b_Law_law 446 = .ok (.ifCond .ne 15, 3) := by decide +kernel
theorem d_Law_law_449 : decode b_Law_law 449 = .ok (.aload_n 3, 1) := by decide +kernel
theorem d_Law_law_450 : decode b_Law_law 450 = .ok (.iconst 0, 1) := by decide +kernel
theorem d_Law_law_451 : decode b_Law_law 451 = .ok (.laload, 1) := by decide +kernel
theorem d_Law_law_452 : decode b_Law_law 452 = .ok (.iload 6, 2) := by decide +kernel
theorem d_Law_law_454 : decode b_Law_law 454 = .ok (.i2l, 1) := by decide +kernel
theorem d_Law_law_455 : decode b_Law_law 455 = .ok (.lcmp, 1) := by decide +kernel
theorem d_Law_law_456 : decode b_Law_law 456 = .ok (.ifCond .eq 5, 3) := by decide +kernel
theorem d_Law_law_459 : decode b_Law_law 459 = .ok (.iconst 0, 1) := by decide +kernel
theorem d_Law_law_460 : decode b_Law_law 460 = .ok (.ireturn, 1) := by decide +kernel
theorem d_Law_law_461 : decode b_Law_law 461 = .ok (.goto 333, 3) := by decide +kernel
theorem d_Law_law_464 : decode b_Law_law 464 = .ok (.aload_n 1, 1) := by decide +kernel
theorem d_Law_law_465 : decode b_Law_law 465 = .ok (.invokevirtual 83, 3) := by decide +kernel
theorem d_Law_law_468 : decode b_Law_law 468 = .ok (.aload_n 2, 1) := by decide +kernel
theorem d_Law_law_469 : decode b_Law_law 469 = .ok (.invokevirtual 86, 3) := by decide +kernel
theorem d_Law_law_472 : decode b_Law_law 472 = .ok (.if_icmp .eq 322, 3) := by decide +kernel
theorem d_Law_law_475 : decode b_Law_law 475 = .ok (.iconst 0, 1) := by decide +kernel
theorem d_Law_law_476 : decode b_Law_law 476 = .ok (.ireturn, 1) := by decide +kernel
theorem d_Law_law_477 : decode b_Law_law 477 = .ok (.aload_n 1, 1) := by decide +kernel
theorem d_Law_law_478 : decode b_Law_law 478 = .ok (.aload_n 0, 1) := by decide +kernel
theorem d_Law_law_479 : decode b_Law_law 479 = .ok (.iload 4, 2) := by decide +kernel
theorem d_Law_law_481 : decode b_Law_law 481 = .ok (.iconst 1, 1) := by decide +kernel
theorem d_Law_law_482 : decode b_Law_law 482 = .ok (.iadd, 1) := by decide +kernel
theorem d_Law_law_483 : decode b_Law_law 483 = .ok (.iaload, 1) := by decide +kernel
theorem d_Law_law_484 : decode b_Law_law 484 = .ok (.aload_n 0, 1) := by decide +kernel
theorem d_Law_law_485 : decode b_Law_law 485 = .ok (.iload 4, 2) := by decide +kernel
theorem d_Law_law_487 : decode b_Law_law 487 = .ok (.iconst 2, 1) := by decide +kernel
theorem d_Law_law_488 : decode b_Law_law 488 = .ok (.iadd, 1) := by decide +kernel
theorem d_Law_law_489 : decode b_Law_law 489 = .ok (.iaload, 1) := by decide +kernel
theorem d_Law_law_490 : decode b_Law_law 490 = .ok (.aload_n 3, 1) := by decide +kernel
theorem d_Law_law_491 : decode b_Law_law 491 = .ok (.invokestatic 87, 3) := by decide +kernel
theorem d_Law_law_494 : decode b_Law_law 494 = .ok (.istore 5, 2) := by decide +kernel
theorem d_Law_law_496 : decode b_Law_law 496 = .ok (.aload_n 2, 1) := by decide +kernel
theorem d_Law_law_497 : decode b_Law_law 497 = .ok (.aload_n 0, 1) := by decide +kernel
theorem d_Law_law_498 : decode b_Law_law 498 = .ok (.iload 4, 2) := by decide +kernel
theorem d_Law_law_500 : decode b_Law_law 500 = .ok (.iconst 1, 1) := by decide +kernel
theorem d_Law_law_501 : decode b_Law_law 501 = .ok (.iadd, 1) := by decide +kernel
theorem d_Law_law_502 : decode b_Law_law 502 = .ok (.iaload, 1) := by decide +kernel
theorem d_Law_law_503 : decode b_Law_law 503 = .ok (.aload_n 0, 1) := by decide +kernel
theorem d_Law_law_504 : decode b_Law_law 504 = .ok (.iload 4, 2) := by decide +kernel
theorem d_Law_law_506 : decode b_Law_law 506 = .ok (.iconst 2, 1) := by decide +kernel
theorem d_Law_law_507 : decode b_Law_law 507 = .ok (.iadd, 1) := by decide +kernel
theorem d_Law_law_508 : decode b_Law_law 508 = .ok (.iaload, 1) := by decide +kernel
theorem d_Law_law_509 : decode b_Law_law 509 = .ok (.invokevirtual 89, 3) := by decide +kernel
theorem d_Law_law_512 : decode b_Law_law 512 = .ok (.istore 6, 2) := by decide +kernel
theorem d_Law_law_514 : decode b_Law_law 514 = .ok (.aload_n 2, 1) := by decide +kernel
theorem d_Law_law_515 : decode b_Law_law 515 = .ok (.invokevirtual 62, 3) := by decide +kernel
theorem d_Law_law_518 : decode b_Law_law 518 = .ok (.iload 5, 2) := by decide +kernel
theorem d_Law_law_520 : decode b_Law_law 520 = .ok (.if_icmp .eq 5, 3) := by decide +kernel
theorem d_Law_law_523 : decode b_Law_law 523 = .ok (.iconst 0, 1) := by decide +kernel
theorem d_Law_law_524 : decode b_Law_law 524 = .ok (.ireturn, 1) := by decide +kernel
theorem d_Law_law_525 : decode b_Law_law 525 = .ok (.iload 5, 2) := by decide +kernel
theorem d_Law_law_527 : decode b_Law_law 527 = .ok (.ifCond .ne 15, 3) := by decide +kernel
theorem d_Law_law_530 : decode b_Law_law 530 = .ok (.aload_n 3, 1) := by decide +kernel
theorem d_Law_law_531 : decode b_Law_law 531 = .ok (.iconst 0, 1) := by decide +kernel
theorem d_Law_law_532 : decode b_Law_law 532 = .ok (.laload, 1) := by decide +kernel
theorem d_Law_law_533 : decode b_Law_law 533 = .ok (.iload 6, 2) := by decide +kernel
theorem d_Law_law_535 : decode b_Law_law 535 = .ok (.i2l, 1) := by decide +kernel
theorem d_Law_law_536 : decode b_Law_law 536 = .ok (.lcmp, 1) := by decide +kernel
theorem d_Law_law_537 : decode b_Law_law 537 = .ok (.ifCond .eq 5, 3) := by decide +kernel
theorem d_Law_law_540 : decode b_Law_law 540 = .ok (.iconst 0, 1) := by decide +kernel
theorem d_Law_law_541 : decode b_Law_law 541 = .ok (.ireturn, 1) := by decide +kernel
theorem d_Law_law_542 : decode b_Law_law 542 = .ok (.goto 252, 3) := by decide +kernel
theorem d_Law_law_545 : decode b_Law_law 545 = .ok (.aload_n 1, 1) := by decide +kernel
theorem d_Law_law_546 : decode b_Law_law 546 = .ok (.aload_n 0, 1) := by decide +kernel
theorem d_Law_law_547 : decode b_Law_law 547 = .ok (.iload 4, 2) := by decide +kernel
theorem d_Law_law_549 : decode b_Law_law 549 = .ok (.iconst 1, 1) := by decide +kernel
theorem d_Law_law_550 : decode b_Law_law 550 = .ok (.iadd, 1) := by decide +kernel
theorem d_Law_law_551 : decode b_Law_law 551 = .ok (.iaload, 1) := by decide +kernel
theorem d_Law_law_552 : decode b_Law_law 552 = .ok (.aload_n 3, 1) := by decide +kernel
theorem d_Law_law_553 : decode b_Law_law 553 = .ok (.invokestatic 90, 3) := by decide +kernel
theorem d_Law_law_556 : decode b_Law_law 556 = .ok (.istore 5, 2) := by decide +kernel
theorem d_Law_law_558 : decode b_Law_law 558 = .ok (.aload_n 2, 1) := by decide +kernel
theorem d_Law_law_559 : decode b_Law_law 559 = .ok (.aload_n 0, 1) := by decide +kernel
theorem d_Law_law_560 : decode b_Law_law 560 = .ok (.iload 4, 2) := by decide +kernel
theorem d_Law_law_562 : decode b_Law_law 562 = .ok (.iconst 1, 1) := by decide +kernel
theorem d_Law_law_563 : decode b_Law_law 563 = .ok (.iadd, 1) := by decide +kernel
theorem d_Law_law_564 : decode b_Law_law 564 = .ok (.iaload, 1) := by decide +kernel
theorem d_Law_law_565 : decode b_Law_law 565 = .ok (.invokevirtual 92, 3) := by decide +kernel
theorem d_Law_law_568 : decode b_Law_law 568 = .ok (.istore 6, 2) := by decide +kernel
theorem d_Law_law_570 : decode b_Law_law 570 = .ok (.aload_n 2, 1) := by decide +kernel
theorem d_Law_law_571 : decode b_Law_law 571 = .ok (.invokevirtual 62, 3) := by decide +kernel
theorem d_Law_law_574 : decode b_Law_law 574 = .ok (.iload 5, 2) := by decide +kernel
theorem d_Law_law_576 : decode b_Law_law 576 = .ok (.if_icmp .eq 5, 3) := by decide +kernel
theorem d_Law_law_579 : decode b_Law_law 579 = .ok (.iconst 0, 1) := by decide +kernel
theorem d_Law_law_580 : decode b_Law_law 580 = .ok (.ireturn, 1) := by decide +kernel
theorem d_Law_law_581 : decode b_Law_law 581 = .ok (.iload 5, 2) := by decide +kernel
theorem d_Law_law_583 : decode b_Law_law 583 = .ok (.ifCond .ne 15, 3) := by decide +kernel
theorem d_Law_law_586 : decode b_Law_law 586 = .ok (.aload_n 3, 1) := by decide +kernel
theorem d_Law_law_587 : decode b_Law_law 587 = .ok (.iconst 0, 1) := by decide +kernel
theorem d_Law_law_588 : decode b_Law_law 588 = .ok (.laload, 1) := by decide +kernel
theorem d_Law_law_589 : decode b_Law_law 589 = .ok (.iload 6, 2) := by decide +kernel
theorem d_Law_law_591 : decode b_Law_law 591 = .ok (.i2l, 1) := by decide +kernel
theorem d_Law_law_592 : decode b_Law_law 592 = .ok (.lcmp, 1) := by decide +kernel
theorem d_Law_law_593 : decode b_Law_law 593 = .ok (.ifCond .eq 5, 3) := by decide +kernel
theorem d_Law_law_596 : decode b_Law_law 596 = .ok (.iconst 0, 1) := by decide +kernel
theorem d_Law_law_597 : decode b_Law_law 597 = .ok (.ireturn, 1) := by decide +kernel
theorem d_Law_law_598 : decode b_Law_law 598 = .ok (.goto 196, 3) := by decide +kernel
theorem d_Law_law_601 : decode b_Law_law 601 = .ok (.aload_n 1, 1) := by decide +kernel
theorem d_Law_law_602 : decode b_Law_law 602 = .ok (.invokevirtual 93, 3) := by decide +kernel
theorem d_Law_law_605 : decode b_Law_law 605 = .ok (.aload_n 2, 1) := by decide +kernel
theorem d_Law_law_606 : decode b_Law_law 606 = .ok (.invokevirtual 97, 3) := by decide +kernel
theorem d_Law_law_609 : decode b_Law_law 609 = .ok (.if_icmp .eq 185, 3) := by decide +kernel
theorem d_Law_law_612 : decode b_Law_law 612 = .ok (.iconst 0, 1) := by decide +kernel
theorem d_Law_law_613 : decode b_Law_law 613 = .ok (.ireturn, 1) := by decide +kernel
theorem d_Law_law_614 : decode b_Law_law 614 = .ok (.aload_n 1, 1) := by decide +kernel
theorem d_Law_law_615 : decode b_Law_law 615 = .ok (.aload_n 0, 1) := by decide +kernel
theorem d_Law_law_616 : decode b_Law_law 616 = .ok (.iload 4, 2) := by decide +kernel
theorem d_Law_law_618 : decode b_Law_law 618 = .ok (.iconst 1, 1) := by decide +kernel
theorem d_Law_law_619 : decode b_Law_law 619 = .ok (.iadd, 1) := by decide +kernel
theorem d_Law_law_620 : decode b_Law_law 620 = .ok (.iaload, 1) := by decide +kernel
theorem d_Law_law_621 : decode b_Law_law 621 = .ok (.aload_n 0, 1) := by decide +kernel
theorem d_Law_law_622 : decode b_Law_law 622 = .ok (.iload 4, 2) := by decide +kernel
theorem d_Law_law_624 : decode b_Law_law 624 = .ok (.iconst 2, 1) := by decide +kernel
theorem d_Law_law_625 : decode b_Law_law 625 = .ok (.iadd, 1) := by decide +kernel
theorem d_Law_law_626 : decode b_Law_law 626 = .ok (.iaload, 1) := by decide +kernel
theorem d_Law_law_627 : decode b_Law_law 627 = .ok (.aload_n 3, 1) := by decide +kernel
theorem d_Law_law_628 : decode b_Law_law 628 = .ok (.invokestatic 98, 3) := by decide +kernel
theorem d_Law_law_631 : decode b_Law_law 631 = .ok (.istore 5, 2) := by decide +kernel
theorem d_Law_law_633 : decode b_Law_law 633 = .ok (.aload_n 2, 1) := by decide +kernel
theorem d_Law_law_634 : decode b_Law_law 634 = .ok (.aload_n 0, 1) := by decide +kernel
theorem d_Law_law_635 : decode b_Law_law 635 = .ok (.iload 4, 2) := by decide +kernel
theorem d_Law_law_637 : decode b_Law_law 637 = .ok (.iconst 1, 1) := by decide +kernel
theorem d_Law_law_638 : decode b_Law_law 638 = .ok (.iadd, 1) := by decide +kernel
theorem d_Law_law_639 : decode b_Law_law 639 = .ok (.iaload, 1) := by decide +kernel
theorem d_Law_law_640 : decode b_Law_law 640 = .ok (.aload_n 0, 1) := by decide +kernel
theorem d_Law_law_641 : decode b_Law_law 641 = .ok (.iload 4, 2) := by decide +kernel
theorem d_Law_law_643 : decode b_Law_law 643 = .ok (.iconst 2, 1) := by decide +kernel
theorem d_Law_law_644 : decode b_Law_law 644 = .ok (.iadd, 1) := by decide +kernel
theorem d_Law_law_645 : decode b_Law_law 645 = .ok (.iaload, 1) := by decide +kernel
theorem d_Law_law_646 : decode b_Law_law 646 = .ok (.invokevirtual 100, 3) := by decide +kernel
theorem d_Law_law_649 : decode b_Law_law 649 = .ok (.istore 6, 2) := by decide +kernel
theorem d_Law_law_651 : decode b_Law_law 651 = .ok (.aload_n 2, 1) := by decide +kernel
theorem d_Law_law_652 : decode b_Law_law 652 = .ok (.invokevirtual 62, 3) := by decide +kernel
theorem d_Law_law_655 : decode b_Law_law 655 = .ok (.iload 5, 2) := by decide +kernel
theorem d_Law_law_657 : decode b_Law_law 657 = .ok (.if_icmp .eq 5, 3) := by decide +kernel
theorem d_Law_law_660 : decode b_Law_law 660 = .ok (.iconst 0, 1) := by decide +kernel
theorem d_Law_law_661 : decode b_Law_law 661 = .ok (.ireturn, 1) := by decide +kernel
theorem d_Law_law_662 : decode b_Law_law 662 = .ok (.iload 5, 2) := by decide +kernel
theorem d_Law_law_664 : decode b_Law_law 664 = .ok (.ifCond .ne 15, 3) := by decide +kernel
theorem d_Law_law_667 : decode b_Law_law 667 = .ok (.aload_n 3, 1) := by decide +kernel
theorem d_Law_law_668 : decode b_Law_law 668 = .ok (.iconst 0, 1) := by decide +kernel
theorem d_Law_law_669 : decode b_Law_law 669 = .ok (.laload, 1) := by decide +kernel
theorem d_Law_law_670 : decode b_Law_law 670 = .ok (.iload 6, 2) := by decide +kernel
theorem d_Law_law_672 : decode b_Law_law 672 = .ok (.i2l, 1) := by decide +kernel
theorem d_Law_law_673 : decode b_Law_law 673 = .ok (.lcmp, 1) := by decide +kernel
theorem d_Law_law_674 : decode b_Law_law 674 = .ok (.ifCond .eq 5, 3) := by decide +kernel
theorem d_Law_law_677 : decode b_Law_law 677 = .ok (.iconst 0, 1) := by decide +kernel
theorem d_Law_law_678 : decode b_Law_law 678 = .ok (.ireturn, 1) := by decide +kernel
theorem d_Law_law_679 : decode b_Law_law 679 = .ok (.goto 115, 3) := by decide +kernel
theorem d_Law_law_682 : decode b_Law_law 682 = .ok (.aload_n 1, 1) := by decide +kernel
theorem d_Law_law_683 : decode b_Law_law 683 = .ok (.aload_n 0, 1) := by decide +kernel
theorem d_Law_law_684 : decode b_Law_law 684 = .ok (.iload 4, 2) := by decide +kernel
theorem d_Law_law_686 : decode b_Law_law 686 = .ok (.iconst 1, 1) := by decide +kernel
theorem d_Law_law_687 : decode b_Law_law 687 = .ok (.iadd, 1) := by decide +kernel
theorem d_Law_law_688 : decode b_Law_law 688 = .ok (.iaload, 1) := by decide +kernel
theorem d_Law_law_689 : decode b_Law_law 689 = .ok (.aload_n 3, 1) := by decide +kernel
theorem d_Law_law_690 : decode b_Law_law 690 = .ok (.invokestatic 101, 3) := by decide +kernel
theorem d_Law_law_693 : decode b_Law_law 693 = .ok (.istore 5, 2) := by decide +kernel
theorem d_Law_law_695 : decode b_Law_law 695 = .ok (.aload_n 2, 1) := by decide +kernel
theorem d_Law_law_696 : decode b_Law_law 696 = .ok (.aload_n 0, 1) := by decide +kernel
theorem d_Law_law_697 : decode b_Law_law 697 = .ok (.iload 4, 2) := by decide +kernel
theorem d_Law_law_699 : decode b_Law_law 699 = .ok (.iconst 1, 1) := by decide +kernel
theorem d_Law_law_700 : decode b_Law_law 700 = .ok (.iadd, 1) := by decide +kernel
theorem d_Law_law_701 : decode b_Law_law 701 = .ok (.iaload, 1) := by decide +kernel
theorem d_Law_law_702 : decode b_Law_law 702 = .ok (.invokevirtual 103, 3) := by decide +kernel
theorem d_Law_law_705 : decode b_Law_law 705 = .ok (.istore 6, 2) := by decide +kernel
theorem d_Law_law_707 : decode b_Law_law 707 = .ok (.aload_n 2, 1) := by decide +kernel
theorem d_Law_law_708 : decode b_Law_law 708 = .ok (.invokevirtual 62, 3) := by decide +kernel
theorem d_Law_law_711 : decode b_Law_law 711 = .ok (.iload 5, 2) := by decide +kernel
theorem d_Law_law_713 : decode b_Law_law 713 = .ok (.if_icmp .eq 5, 3) := by decide +kernel
theorem d_Law_law_716 : decode b_Law_law 716 = .ok (.iconst 0, 1) := by decide +kernel
theorem d_Law_law_717 : decode b_Law_law 717 = .ok (.ireturn, 1) := by decide +kernel
theorem d_Law_law_718 : decode b_Law_law 718 = .ok (.iload 5, 2) := by decide +kernel
theorem d_Law_law_720 : decode b_Law_law 720 = .ok (.ifCond .ne 15, 3) := by decide +kernel
theorem d_Law_law_723 : decode b_Law_law 723 = .ok (.aload_n 3, 1) := by decide +kernel
theorem d_Law_law_724 : decode b_Law_law 724 = .ok (.iconst 0, 1) := by decide +kernel
theorem d_Law_law_725 : decode b_Law_law 725 = .ok (.laload, 1) := by decide +kernel
theorem d_Law_law_726 : decode b_Law_law 726 = .ok (.iload 6, 2) := by decide +kernel
theorem d_Law_law_728 : decode b_Law_law 728 = .ok (.i2l, 1) := by decide +kernel
theorem d_Law_law_729 : decode b_Law_law 729 = .ok (.lcmp, 1) := by decide +kernel
theorem d_Law_law_730 : decode b_Law_law 730 = .ok (.ifCond .eq 5, 3) := by decide +kernel
theorem d_Law_law_733 : decode b_Law_law 733 = .ok (.iconst 0, 1) := by decide +kernel
theorem d_Law_law_734 : decode b_Law_law 734 = .ok (.ireturn, 1) := by decide +kernel
theorem d_Law_law_735 : decode b_Law_law 735 = .ok (.goto 59, 3) := by decide +kernel
theorem d_Law_law_738 : decode b_Law_law 738 = .ok (.aload_n 1, 1) := by decide +kernel
theorem d_Law_law_739 : decode b_Law_law 739 = .ok (.aload_n 0, 1) := by decide +kernel
theorem d_Law_law_740 : decode b_Law_law 740 = .ok (.iload 4, 2) := by decide +kernel
theorem d_Law_law_742 : decode b_Law_law 742 = .ok (.iconst 1, 1) := by decide +kernel
theorem d_Law_law_743 : decode b_Law_law 743 = .ok (.iadd, 1) := by decide +kernel
theorem d_Law_law_744 : decode b_Law_law 744 = .ok (.iaload, 1) := by decide +kernel
theorem d_Law_law_745 : decode b_Law_law 745 = .ok (.aload_n 3, 1) := by decide +kernel
theorem d_Law_law_746 : decode b_Law_law 746 = .ok (.invokestatic 104, 3) := by decide +kernel
theorem d_Law_law_749 : decode b_Law_law 749 = .ok (.istore 5, 2) := by decide +kernel
theorem d_Law_law_751 : decode b_Law_law 751 = .ok (.aload_n 2, 1) := by decide +kernel
theorem d_Law_law_752 : decode b_Law_law 752 = .ok (.aload_n 0, 1) := by decide +kernel
theorem d_Law_law_753 : decode b_Law_law 753 = .ok (.iload 4, 2) := by decide +kernel
theorem d_Law_law_755 : decode b_Law_law 755 = .ok (.iconst 1, 1) := by decide +kernel
theorem d_Law_law_756 : decode b_Law_law 756 = .ok (.iadd, 1) := by decide +kernel
theorem d_Law_law_757 : decode b_Law_law 757 = .ok (.iaload, 1) := by decide +kernel
theorem d_Law_law_758 : decode b_Law_law 758 = .ok (.invokevirtual 106, 3) := by decide +kernel
theorem d_Law_law_761 : decode b_Law_law 761 = .ok (.istore 6, 2) := by decide +kernel
theorem d_Law_law_763 : decode b_Law_law 763 = .ok (.aload_n 2, 1) := by decide +kernel
theorem d_Law_law_764 : decode b_Law_law 764 = .ok (.invokevirtual 62, 3) := by decide +kernel
theorem d_Law_law_767 : decode b_Law_law 767 = .ok (.iload 5, 2) := by decide +kernel
theorem d_Law_law_769 : decode b_Law_law 769 = .ok (.if_icmp .eq 5, 3) := by decide +kernel
theorem d_Law_law_772 : decode b_Law_law 772 = .ok (.iconst 0, 1) := by decide +kernel
theorem d_Law_law_773 : decode b_Law_law 773 = .ok (.ireturn, 1) := by decide +kernel
theorem d_Law_law_774 : decode b_Law_law 774 = .ok (.iload 5, 2) := by decide +kernel
theorem d_Law_law_776 : decode b_Law_law 776 = .ok (.ifCond .ne 15, 3) := by decide +kernel
theorem d_Law_law_779 : decode b_Law_law 779 = .ok (.aload_n 3, 1) := by decide +kernel
theorem d_Law_law_780 : decode b_Law_law 780 = .ok (.iconst 0, 1) := by decide +kernel
theorem d_Law_law_781 : decode b_Law_law 781 = .ok (.laload, 1) := by decide +kernel
theorem d_Law_law_782 : decode b_Law_law 782 = .ok (.iload 6, 2) := by decide +kernel
theorem d_Law_law_784 : decode b_Law_law 784 = .ok (.i2l, 1) := by decide +kernel
theorem d_Law_law_785 : decode b_Law_law 785 = .ok (.lcmp, 1) := by decide +kernel
theorem d_Law_law_786 : decode b_Law_law 786 = .ok (.ifCond .eq 5, 3) := by decide +kernel
theorem d_Law_law_789 : decode b_Law_law 789 = .ok (.iconst 0, 1) := by decide +kernel
theorem d_Law_law_790 : decode b_Law_law 790 = .ok (.ireturn, 1) := by decide +kernel
theorem d_Law_law_791 : decode b_Law_law 791 = .ok (.goto 3, 3) := by decide +kernel
theorem d_Law_law_794 : decode b_Law_law 794 = .ok (.iinc 4 4, 3) := by decide +kernel
theorem d_Law_law_797 : decode b_Law_law 797 = .ok (.goto (-774), 3) := by decide +kernel
theorem d_Law_law_800 : decode b_Law_law 800 = .ok (.iconst 1, 1) := by decide +kernel
theorem d_Law_law_801 : decode b_Law_law 801 = .ok (.ireturn, 1) := by decide +kernel
