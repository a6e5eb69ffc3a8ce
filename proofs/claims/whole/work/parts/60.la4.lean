/-! decode rows -/
theorem d_La_law_0 : decode b_La_law 0 = .ok (.new 8, 3) := by decide +kernel
theorem d_La_law_3 : decode b_La_law 3 = .ok (.dup, 1) := by decide +kernel
theorem d_La_law_4 : decode b_La_law 4 = .ok (.invokespecial 43, 3) := by decide +kernel
theorem d_La_law_7 : decode b_La_law 7 = .ok (.astore_n 1, 1) := by decide +kernel
theorem d_La_law_8 : decode b_La_law 8 = .ok (.new 44, 3) := by decide +kernel
theorem d_La_law_11 : decode b_La_law 11 = .ok (.dup, 1) := by decide +kernel
theorem d_La_law_12 : decode b_La_law 12 = .ok (.invokespecial 46, 3) := by decide +kernel
theorem d_La_law_15 : decode b_La_law 15 = .ok (.astore_n 2, 1) := by decide +kernel
theorem d_La_law_16 : decode b_La_law 16 = .ok (.iconst 1, 1) := by decide +kernel
theorem d_La_law_17 : decode b_La_law 17 = .ok (.newarray .long, 2) := by decide +kernel
theorem d_La_law_19 : decode b_La_law 19 = .ok (.astore_n 3, 1) := by decide +kernel
theorem d_La_law_20 : decode b_La_law 20 = .ok (.iconst 0, 1) := by decide +kernel
theorem d_La_law_21 : decode b_La_law 21 = .ok (.istore 4, 2) := by decide +kernel
theorem d_La_law_23 : decode b_La_law 23 = .ok (.iload 4, 2) := by decide +kernel
theorem d_La_law_25 : decode b_La_law 25 = .ok (.aload_n 0, 1) := by decide +kernel
theorem d_La_law_26 : decode b_La_law 26 = .ok (.arraylength, 1) := by decide +kernel
theorem d_La_law_27 : decode b_La_law 27 = .ok (.iconst 4, 1) := by decide +kernel
theorem d_La_law_28 : decode b_La_law 28 = .ok (.isub, 1) := by decide +kernel
theorem d_La_law_29 : decode b_La_law 29 = .ok (.if_icmp .gt 621, 3) := by decide +kernel
theorem d_La_law_32 : decode b_La_law 32 = .ok (.aload_n 0, 1) := by decide +kernel
theorem d_La_law_33 : decode b_La_law 33 = .ok (.iload 4, 2) := by decide +kernel
theorem d_La_law_35 : decode b_La_law 35 = .ok (.iaload, 1) := by decide +kernel
theorem d_La_law_36 : decode b_La_law 36 = .ok (.bipush 15, 2) := by decide +kernel
theorem d_La_law_38 : decode b_La_law 38 = .ok (.iand, 1) := by decide +kernel
theorem d_La_law_39 : decode b_La_law 39 = .ok (.tableswitch 605 0 10 #[57, 113, 181, 217, 273, 286, 342, 410, 435, 535, 549], 57) := by decide +kernel
theorem d_La_law_96 : decode b_La_law 96 = .ok (.aload_n 1, 1) := by decide +kernel
theorem d_La_law_97 : decode b_La_law 97 = .ok (.aload_n 0, 1) := by decide +kernel
theorem d_La_law_98 : decode b_La_law 98 = .ok (.iload 4, 2) := by decide +kernel
theorem d_La_law_100 : decode b_La_law 100 = .ok (.iconst 1, 1) := by decide +kernel
theorem d_La_law_101 : decode b_La_law 101 = .ok (.iadd, 1) := by decide +kernel
theorem d_La_law_102 : decode b_La_law 102 = .ok (.iaload, 1) := by decide +kernel
theorem d_La_law_103 : decode b_La_law 103 = .ok (.aload_n 3, 1) := by decide +kernel
theorem d_La_law_104 : decode b_La_law 104 = .ok (.invokestatic 47, 3) := by decide +kernel
theorem d_La_law_107 : decode b_La_law 107 = .ok (.istore 5, 2) := by decide +kernel
theorem d_La_law_109 : decode b_La_law 109 = .ok (.aload_n 2, 1) := by decide +kernel
theorem d_La_law_110 : decode b_La_law 110 = .ok (.aload_n 0, 1) := by decide +kernel
theorem d_La_law_111 : decode b_La_law 111 = .ok (.iload 4, 2) := by decide +kernel
theorem d_La_law_113 : decode b_La_law 113 = .ok (.iconst 1, 1) := by decide +kernel
theorem d_La_law_114 : decode b_La_law 114 = .ok (.iadd, 1) := by decide +kernel
theorem d_La_law_115 : decode b_La_law 115 = .ok (.iaload, 1) := by decide +kernel
theorem d_La_law_116 : decode b_La_law 116 = .ok (.invokevirtual 52, 3) := by decide +kernel
theorem d_La_law_119 : decode b_La_law 119 = .ok (.istore 6, 2) := by decide +kernel
theorem d_La_law_121 : decode b_La_law 121 = .ok (.aload_n 2, 1) := by decide +kernel
theorem d_La_law_122 : decode b_La_law 122 = .ok (.invokevirtual 53, 3) := by decide +kernel
theorem d_La_law_125 : decode b_La_law 125 = .ok (.iload 5, 2) := by decide +kernel
theorem d_La_law_127 : decode b_La_law 127 = .ok (.if_icmp .eq 5, 3) := by decide +kernel
theorem d_La_law_130 : decode b_La_law 130 = .ok (.iconst 0, 1) := by decide +kernel
theorem d_La_law_131 : decode b_La_law 131 = .ok (.ireturn, 1) := by decide +kernel
theorem d_La_law_132 : decode b_La_law 132 = .ok (.iload 5, 2) := by decide +kernel
theorem d_La_law_134 : decode b_La_law 134 = .ok (.ifCond .ne 15, 3) := by decide +kernel
theorem d_La_law_137 : decode b_La_law 137 = .ok (.aload_n 3, 1) := by decide +kernel
theorem d_La_law_138 : decode b_La_law 138 = .ok (.iconst 0, 1) := by decide +kernel
theorem d_La_law_139 : decode b_La_law 139 = .ok (.laload, 1) := by decide +kernel
theorem d_La_law_140 : decode b_La_law 140 = .ok (.iload 6, 2) := by decide +kernel
theorem d_La_law_142 : decode b_La_law 142 = .ok (.i2l, 1) := by decide +kernel
theorem d_La_law_143 : decode b_La_law 143 = .ok (.lcmp, 1) := by decide +kernel
theorem d_La_law_144 : decode b_La_law 144 = .ok (.ifCond .eq 5, 3) := by decide +kernel
theorem d_La_law_147 : decode b_La_law 147 = .ok (.iconst 0, 1) := by decide +kernel
theorem d_La_law_148 : decode b_La_law 148 = .ok (.ireturn, 1) := by decide +kernel
theorem d_La_law_149 : decode b_La_law 149 = .ok (.goto 495, 3) := by decide +kernel
theorem d_La_law_152 : decode b_La_law 152 = .ok (.aload_n 1, 1) := by decide +kernel
theorem d_La_law_153 : decode b_La_law 153 = .ok (.aload_n 0, 1) := by decide +kernel
theorem d_La_law_154 : decode b_La_law 154 = .ok (.iload 4, 2) := by decide +kernel
theorem d_La_law_156 : decode b_La_law 156 = .ok (.iconst 1, 1) := by decide +kernel
theorem d_La_law_157 : decode b_La_law 157 = .ok (.iadd, 1) := by decide +kernel
theorem d_La_law_158 : decode b_La_law 158 = .ok (.iaload, 1) := by decide +kernel
theorem d_La_law_159 : decode b_La_law 159 = .ok (.aload_n 0, 1) := by decide +kernel
theorem d_La_law_160 : decode b_La_law 160 = .ok (.iload 4, 2) := by decide +kernel
theorem d_La_law_162 : decode b_La_law 162 = .ok (.iconst 2, 1) := by decide +kernel
theorem d_La_law_163 : decode b_La_law 163 = .ok (.iadd, 1) := by decide +kernel
theorem d_La_law_164 : decode b_La_law 164 = .ok (.iaload, 1) := by decide +kernel
theorem d_La_law_165 : decode b_La_law 165 = .ok (.aload_n 3, 1) := by decide +kernel
theorem d_La_law_166 : decode b_La_law 166 = .ok (.invokestatic 57, 3) := by decide +kernel
theorem d_La_law_169 : decode b_La_law 169 = .ok (.istore 5, 2) := by decide +kernel
theorem d_La_law_171 : decode b_La_law 171 = .ok (.aload_n 2, 1) := by decide +kernel
theorem d_La_law_172 : decode b_La_law 172 = .ok (.aload_n 0, 1) := by decide +kernel
theorem d_La_law_173 : decode b_La_law 173 = .ok (.iload 4, 2) := by decide +kernel
theorem d_La_law_175 : decode b_La_law 175 = .ok (.iconst 1, 1) := by decide +kernel
theorem d_La_law_176 : decode b_La_law 176 = .ok (.iadd, 1) := by decide +kernel
theorem d_La_law_177 : decode b_La_law 177 = .ok (.iaload, 1) := by decide +kernel
theorem d_La_law_178 : decode b_La_law 178 = .ok (.aload_n 0, 1) := by decide +kernel
theorem d_La_law_179 : decode b_La_law 179 = .ok (.iload 4, 2) := by decide +kernel
theorem d_La_law_181 : decode b_La_law 181 = .ok (.iconst 2, 1) := by decide +kernel
theorem d_La_law_182 : decode b_La_law 182 = .ok (.iadd, 1) := by decide +kernel
theorem d_La_law_183 : decode b_La_law 183 = .ok (.iaload, 1) := by decide +kernel
theorem d_La_law_184 : decode b_La_law 184 = .ok (.invokevirtual 60, 3) := by decide +kernel
theorem d_La_law_187 : decode b_La_law 187 = .ok (.istore 6, 2) := by decide +kernel
theorem d_La_law_189 : decode b_La_law 189 = .ok (.aload_n 2, 1) := by decide +kernel
theorem d_La_law_190 : decode b_La_law 190 = .ok (.invokevirtual 53, 3) := by decide +kernel
theorem d_La_law_193 : decode b_La_law 193 = .ok (.iload 5, 2) := by decide +kernel
theorem d_La_law_195 : decode b_La_law 195 = .ok (.if_icmp .eq 5, 3) := by decide +kernel
theorem d_La_law_198 : decode b_La_law 198 = .ok (.iconst 0, 1) := by decide +kernel
theorem d_La_law_199 : decode b_La_law 199 = .ok (.ireturn, 1) := by decide +kernel
theorem d_La_law_200 : decode b_La_law 200 = .ok (.iload 5, 2) := by decide +kernel
theorem d_La_law_202 : decode b_La_law 202 = .ok (.ifCond .ne 15, 3) := by decide +kernel
theorem d_La_law_205 : decode b_La_law 205 = .ok (.aload_n 3, 1) := by decide +kernel
theorem d_La_law_206 : decode b_La_law 206 = .ok (.iconst 0, 1) := by decide +kernel
theorem d_La_law_207 : decode b_La_law 207 = .ok (.laload, 1) := by decide +kernel
theorem d_La_law_208 : decode b_La_law 208 = .ok (.iload 6, 2) := by decide +kernel
theorem d_La_law_210 : decode b_La_law 210 = .ok (.i2l, 1) := by decide +kernel
theorem d_La_law_211 : decode b_La_law 211 = .ok (.lcmp, 1) := by decide +kernel
theorem d_La_law_212 : decode b_La_law 212 = .ok (.ifCond .eq 5, 3) := by decide +kernel
theorem d_La_law_215 : decode b_La_law 215 = .ok (.iconst 0, 1) := by decide +kernel
theorem d_La_law_216 : decode b_La_law 216 = .ok (.ireturn, 1) := by decide +kernel
theorem d_La_law_217 : decode b_La_law 217 = .ok (.goto 427, 3) := by decide +kernel
theorem d_La_law_220 : decode b_La_law 220 = .ok (.aload_n 1, 1) := by decide +kernel
theorem d_La_law_221 : decode b_La_law 221 = .ok (.aload_n 0, 1) := by decide +kernel
theorem d_La_law_222 : decode b_La_law 222 = .ok (.iload 4, 2) := by decide +kernel
theorem d_La_law_224 : decode b_La_law 224 = .ok (.iconst 1, 1) := by decide +kernel
theorem d_La_law_225 : decode b_La_law 225 = .ok (.iadd, 1) := by decide +kernel
theorem d_La_law_226 : decode b_La_law 226 = .ok (.iaload, 1) := by decide +kernel
theorem d_La_law_227 : decode b_La_law 227 = .ok (.invokestatic 61, 3) := by decide +kernel
theorem d_La_law_230 : decode b_La_law 230 = .ok (.istore 5, 2) := by decide +kernel
theorem d_La_law_232 : decode b_La_law 232 = .ok (.aload_n 2, 1) := by decide +kernel
theorem d_La_law_233 : decode b_La_law 233 = .ok (.aload_n 0, 1) := by decide +kernel
theorem d_La_law_234 : decode b_La_law 234 = .ok (.iload 4, 2) := by decide +kernel
theorem d_La_law_236 : decode b_La_law 236 = .ok (.iconst 1, 1) := by decide +kernel
theorem d_La_law_237 : decode b_La_law 237 = .ok (.iadd, 1) := by decide +kernel
theorem d_La_law_238 : decode b_La_law 238 = .ok (.iaload, 1) := by decide +kernel
theorem d_La_law_239 : decode b_La_law 239 = .ok (.invokevirtual 64, 3) := by decide +kernel
theorem d_La_law_242 : decode b_La_law 242 = .ok (.aload_n 2, 1) := by decide +kernel
theorem d_La_law_243 : decode b_La_law 243 = .ok (.invokevirtual 53, 3) := by decide +kernel
theorem d_La_law_246 : decode b_La_law 246 = .ok (.iload 5, 2) := by decide +kernel
theorem d_La_law_248 : decode b_La_law 248 = .ok (.if_icmp .eq 5, 3) := by decide +kernel
theorem d_La_law_251 : decode b_La_law 251 = .ok (.iconst 0, 1) := by decide +kernel
theorem d_La_law_252 : decode b_La_law 252 = .ok (.ireturn, 1) := by decide +kernel
theorem d_La_law_253 : decode b_La_law 253 = .ok (.goto 391, 3) := by decide +kernel
theorem d_La_law_256 : decode b_La_law 256 = .ok (.aload_n 1, 1) := by decide +kernel
theorem d_La_law_257 : decode b_La_law 257 = .ok (.aload_n 0, 1) := by decide +kernel
theorem d_La_law_258 : decode b_La_law 258 = .ok (.iload 4, 2) := by decide +kernel
theorem d_La_law_260 : decode b_La_law 260 = .ok (.iconst 1, 1) := by decide +kernel
theorem d_La_law_261 : decode b_La_law 261 = .ok (.iadd, 1) := by decide +kernel
theorem d_La_law_262 : decode b_La_law 262 = .ok (.iaload, 1) := by decide +kernel
theorem d_La_law_263 : decode b_La_law 263 = .ok (.aload_n 3, 1) := by decide +kernel
theorem d_La_law_264 : decode b_La_law 264 = .ok (.invokestatic 65, 3) := by decide +kernel
theorem d_La_law_267 : decode b_La_law 267 = .ok (.istore 5, 2) := by decide +kernel
theorem d_La_law_269 : decode b_La_law 269 = .ok (.aload_n 2, 1) := by decide +kernel
theorem d_La_law_270 : decode b_La_law 270 = .ok (.aload_n 0, 1) := by decide +kernel
theorem d_La_law_271 : decode b_La_law 271 = .ok (.iload 4, 2) := by decide +kernel
theorem d_La_law_273 : decode b_La_law 273 = .ok (.iconst 1, 1) := by decide +kernel
theorem d_La_law_274 : decode b_La_law 274 = .ok (.iadd, 1) := by decide +kernel
theorem d_La_law_275 : decode b_La_law 275 = .ok (.iaload, 1) := by decide +kernel
theorem d_La_law_276 : decode b_La_law 276 = .ok (.invokevirtual 67, 3) := by decide +kernel
theorem d_La_law_279 : decode b_La_law 279 = .ok (.istore 6, 2) := by decide +kernel
theorem d_La_law_281 : decode b_La_law 281 = .ok (.aload_n 2, 1) := by decide +kernel
theorem d_La_law_282 : decode b_La_law 282 = .ok (.invokevirtual 53, 3) := by decide +kernel
theorem d_La_law_285 : decode b_La_law 285 = .ok (.iload 5, 2) := by decide +kernel
theorem d_La_law_287 : decode b_La_law 287 = .ok (.if_icmp .eq 5, 3) := by decide +kernel
theorem d_La_law_290 : decode b_La_law 290 = .ok (.iconst 0, 1) := by decide +kernel
theorem d_La_law_291 : decode b_La_law 291 = .ok (.ireturn, 1) := by decide +kernel
theorem d_La_law_292 : decode b_La_law 292 = .ok (.iload 5, 2) := by decide +kernel
theorem d_La_law_294 : decode b_La_law 294 = .ok (.ifCond .ne 15, 3) := by decide +kernel
theorem d_La_law_297 : decode b_La_law 297 = .ok (.aload_n 3, 1) := by decide +kernel
theorem d_La_law_298 : decode b_La_law 298 = .ok (.iconst 0, 1) := by decide +kernel
theorem d_La_law_299 : decode b_La_law 299 = .ok (.laload, 1) := by decide +kernel
theorem d_La_law_300 : decode b_La_law 300 = .ok (.iload 6, 2) := by decide +kernel
theorem d_La_law_302 : decode b_La_law 302 = .ok (.i2l, 1) := by decide +kernel
theorem d_La_law_303 : decode b_La_law 303 = .ok (.lcmp, 1) := by decide +kernel
theorem d_La_law_304 : decode b_La_law 304 = .ok (.ifCond .eq 5, 3) := by decide +kernel
theorem d_La_law_307 : decode b_La_law 307 = .ok (.iconst 0, 1) := by decide +kernel
theorem d_La_law_308 : decode b_La_law 308 = .ok (.ireturn, 1) := by decide +kernel
theorem d_La_law_309 : decode b_La_law 309 = .ok (.goto 335, 3) := by decide +kernel
theorem d_La_law_312 : decode b_La_law 312 = .ok (.aload_n 1, 1) := by decide +kernel
theorem d_La_law_313 : decode b_La_law 313 = .ok (.invokevirtual 68, 3) := by decide +kernel
theorem d_La_law_316 : decode b_La_law 316 = .ok (.aload_n 2, 1) := by decide +kernel
theorem d_La_law_317 : decode b_La_law 317 = .ok (.invokevirtual 71, 3) := by decide +kernel
theorem d_La_law_320 : decode b_La_law 320 = .ok (.if_icmp .eq 324, 3) := by decide +kernel
theorem d_La_law_323 : decode b_La_law 323 = .ok (.iconst 0, 1) := by decide +kernel
theorem d_La_law_324 : decode b_La_law 324 = .ok (.ireturn, 1) := by decide +kernel
theorem d_La_law_325 : decode b_La_law 325 = .ok (.aload_n 1, 1) := by decide +kernel
theorem d_La_law_326 : decode b_La_law 326 = .ok (.aload_n 0, 1) := by decide +kernel
theorem d_La_law_327 : decode b_La_law 327 = .ok (.iload 4, 2) := by decide +kernel
theorem d_La_law_329 : decode b_La_law 329 = .ok (.iconst 1, 1) := by decide +kernel
theorem d_La_law_330 : decode b_La_law 330 = .ok (.iadd, 1) := by decide +kernel
theorem d_La_law_331 : decode b_La_law 331 = .ok (.iaload, 1) := by decide +kernel
theorem d_La_law_332 : decode b_La_law 332 = .ok (.aload_n 3, 1) := by decide +kernel
theorem d_La_law_333 : decode b_La_law 333 = .ok (.invokestatic 72, 3) := by decide +kernel
theorem d_La_law_336 : decode b_La_law 336 = .ok (.istore 5, 2) := by decide +kernel
theorem d_La_law_338 : decode b_La_law 338 = .ok (.aload_n 2, 1) := by decide +kernel
theorem d_La_law_339 : decode b_La_law 339 = .ok (.aload_n 0, 1) := by decide +kernel
theorem d_La_law_340 : decode b_La_law 340 = .ok (.iload 4, 2) := by decide +kernel
theorem d_La_law_342 : decode b_La_law 342 = .ok (.iconst 1, 1) := by decide +kernel
theorem d_La_law_343 : decode b_La_law 343 = .ok (.iadd, 1) := by decide +kernel
theorem d_La_law_344 : decode b_La_law 344 = .ok (.iaload, 1) := by decide +kernel
theorem d_La_law_345 : decode b_La_law 345 = .ok (.invokevirtual 74, 3) := by decide +kernel
theorem d_La_law_348 : decode b_La_law 348 = .ok (.istore 6, 2) := by decide +kernel
theorem d_La_law_350 : decode b_La_law 350 = .ok (.aload_n 2, 1) := by decide +kernel
theorem d_La_law_351 : decode b_La_law 351 = .ok (.invokevirtual 53, 3) := by decide +kernel
theorem d_La_law_354 : decode b_La_law 354 = .ok (.iload 5, 2) := by decide +kernel
theorem d_La_law_356 : decode b_La_law 356 = .ok (.if_icmp .eq 5, 3) := by decide +kernel
theorem d_La_law_359 : decode b_La_law 359 = .ok (.iconst 0, 1) := by decide +kernel
theorem d_La_law_360 : decode b_La_law 360 = .ok (.ireturn, 1) := by decide +kernel
theorem d_La_law_361 : decode b_La_law 361 = .ok (.iload 5, 2) := by decide +kernel
theorem d_La_law_363 : decode b_La_law 363 = .ok (.ifCond .ne 15, 3) := by decide +kernel
theorem d_La_law_366 : decode b_La_law 366 = .ok (.aload_n 3, 1) := by decide +kernel
theorem d_La_law_367 : decode b_La_law 367 = .ok (.iconst 0, 1) := by decide +kernel
theorem d_La_law_368 : decode b_La_law 368 = .ok (.laload, 1) := by decide +kernel
theorem d_La_law_369 : decode b_La_law 369 = .ok (.iload 6, 2) := by decide +kernel
theorem d_La_law_371 : decode b_La_law 371 = .ok (.i2l, 1) := by decide +kernel
theorem d_La_law_372 : decode b_La_law 372 = .ok (.lcmp, 1) := by decide +kernel
theorem d_La_law_373 : decode b_La_law 373 = .ok (.ifCond .eq 5, 3) := by decide +kernel
theorem d_La_law_376 : decode b_La_law 376 = .ok (.iconst 0, 1) := by decide +kernel
theorem d_La_law_377 : decode b_La_law 377 = .ok (.ireturn, 1) := by decide +kernel
theorem d_La_law_378 : decode b_La_law 378 = .ok (.goto 266, 3) := by decide +kernel
theorem d_La_law_381 : decode b_La_law 381 = .ok (.aload_n 1, 1) := by decide +kernel
theorem d_La_law_382 : decode b_La_law 382 = .ok (.aload_n 0, 1) := by decide +kernel
theorem d_La_law_383 : decode b_La_law 383 = .ok (.iload 4, 2) := by decide +kernel
theorem d_La_law_385 : decode b_La_law 385 = .ok (.iconst 1, 1) := by decide +kernel
theorem d_La_law_386 : decode b_La_law 386 = .ok (.iadd, 1) := by decide +kernel
theorem d_La_law_387 : decode b_La_law 387 = .ok (.iaload, 1) := by decide +kernel
theorem d_La_law_388 : decode b_La_law 388 = .ok (.aload_n 0, 1) := by decide +kernel
theorem d_La_law_389 : decode b_La_law 389 = .ok (.iload 4, 2) := by decide +kernel
theorem d_La_law_391 : decode b_La_law 391 = .ok (.iconst 2, 1) := by decide +kernel
theorem d_La_law_392 : decode b_La_law 392 = .ok (.iadd, 1) := by decide +kernel
theorem d_La_law_393 : decode b_La_law 393 = .ok (.iaload, 1) := by decide +kernel
theorem d_La_law_394 : decode b_La_law 394 = .ok (.aload_n 3, 1) := by decide +kernel
theorem d_La_law_395 : decode b_La_law 395 = .ok (.invokestatic 75, 3) := by decide +kernel
theorem d_La_law_398 : decode b_La_law 398 = .ok (.istore 5, 2) := by decide +kernel
theorem d_La_law_400 : decode b_La_law 400 = .ok (.aload_n 2, 1) := by decide +kernel
theorem d_La_law_401 : decode b_La_law 401 = .ok (.aload_n 0, 1) := by decide +kernel
theorem d_La_law_402 : decode b_La_law 402 = .ok (.iload 4, 2) := by decide +kernel
theorem d_La_law_404 : decode b_La_law 404 = .ok (.iconst 1, 1) := by decide +kernel
theorem d_La_law_405 : decode b_La_law 405 = .ok (.iadd, 1) := by decide +kernel
theorem d_La_law_406 : decode b_La_law 406 = .ok (.iaload, 1) := by decide +kernel
theorem d_La_law_407 : decode b_La_law 407 = .ok (.aload_n 0, 1) := by decide +kernel
theorem d_La_law_408 : decode b_La_law 408 = .ok (.iload 4, 2) := by decide +kernel
theorem d_La_law_410 : decode b_La_law 410 = .ok (.iconst 2, 1) := by decide +kernel
theorem d_La_law_411 : decode b_La_law 411 = .ok (.iadd, 1) := by decide +kernel
theorem d_La_law_412 : decode b_La_law 412 = .ok (.iaload, 1) := by decide +kernel
theorem d_La_law_413 : decode b_La_law 413 = .ok (.invokevirtual 77, 3) := by decide +kernel
theorem d_La_law_416 : decode b_La_law 416 = .ok (.istore 6, 2) := by decide +kernel
theorem d_La_law_418 : decode b_La_law 418 = .ok (.aload_n 2, 1) := by decide +kernel
theorem d_La_law_419 : decode b_La_law 419 = .ok (.invokevirtual 53, 3) := by decide +kernel
theorem d_La_law_422 : decode b_La_law 422 = .ok (.iload 5, 2) := by decide +kernel
theorem d_La_law_424 : decode b_La_law 424 = .ok (.if_icmp .eq 5, 3) := by decide +kernel
theorem d_La_law_427 : decode b_La_law 427 = .ok (.iconst 0, 1) := by decide +kernel
theorem d_La_law_428 : decode b_La_law 428 = .ok (.ireturn, 1) := by decide +kernel
theorem d_La_law_429 : decode b_La_law 429 = .ok (.iload 5, 2) := by decide +kernel
theorem d_La_law_431 : decode b_La_law 431 = .ok (.ifCond .ne 15, 3) := by decide +kernel
theorem d_La_law_434 : decode b_La_law 434 = .ok (.aload_n 3, 1) := by decide +kernel
theorem d_La_law_435 : decode b_La_law 435 = .ok (.iconst 0, 1) := by decide +kernel
theorem d_La_law_436 : decode b_La_law 436 = .ok (.laload, 1) := by decide +kernel
theorem d_La_law_437 : decode b_La_law 437 = .ok (.iload 6, 2) := by decide +kernel
theorem d_La_law_439 : decode b_La_law 439 = .ok (.i2l, 1) := by decide +kernel
theorem d_La_law_440 : decode b_La_law 440 = .ok (.lcmp, 1) := by decide +kernel
theorem d_La_law_441 : decode b_La_law 441 = .ok (.ifCond .eq 5, 3) := by decide +kernel
theorem d_La_law_444 : decode b_La_law 444 = .ok (.iconst 0, 1) := by decide +kernel
theorem d_La_law_445 : decode b_La_law 445 = .ok (.ireturn, 1) := by decide +kernel
theorem d_La_law_446 : decode b_La_law 446 = .ok (.goto 198, 3) := by decide +kernel
theorem d_La_law_449 : decode b_La_law 449 = .ok (.aload_n 1, 1) := by decide +kernel
theorem d_La_law_450 : decode b_La_law 450 = .ok (.aload_n 0, 1) := by decide +kernel
theorem d_La_law_451 : decode b_La_law 451 = .ok (.iload 4, 2) := by decide +kernel
theorem d_La_law_453 : decode b_La_law 453 = .ok (.iconst 1, 1) := by decide +kernel
theorem d_La_law_454 : decode b_La_law 454 = .ok (.iadd, 1) := by decide +kernel
theorem d_La_law_455 : decode b_La_law 455 = .ok (.iaload, 1) := by decide +kernel
theorem d_La_law_456 : decode b_La_law 456 = .ok (.invokevirtual 78, 3) := by decide +kernel
theorem d_La_law_459 : decode b_La_law 459 = .ok (.aload_n 2, 1) := by decide +kernel
theorem d_La_law_460 : decode b_La_law 460 = .ok (.aload_n 0, 1) := by decide +kernel
theorem d_La_law_461 : decode b_La_law 461 = .ok (.iload 4, 2) := by decide +kernel
theorem d_La_law_463 : decode b_La_law 463 = .ok (.iconst 1, 1) := by decide +kernel
theorem d_La_law_464 : decode b_La_law 464 = .ok (.iadd, 1) := by decide +kernel
theorem d_La_law_465 : decode b_La_law 465 = .ok (.iaload, 1) := by decide +kernel
theorem d_La_law_466 : decode b_La_law 466 = .ok (.invokevirtual 81, 3) := by decide +kernel
theorem d_La_law_469 : decode b_La_law 469 = .ok (.if_icmp .eq 175, 3) := by decide +kernel
theorem d_La_law_472 : decode b_La_law 472 = .ok (.iconst 0, 1) := by decide +kernel
theorem d_La_law_473 : decode b_La_law 473 = .ok (.ireturn, 1) := by decide +kernel
theorem d_La_law_474 : decode b_La_law 474 = .ok (.aload_n 1, 1) := by decide +kernel
theorem d_La_law_475 : decode b_La_law 475 = .ok (.aload_n 0, 1) := by decide +kernel
theorem d_La_law_476 : decode b_La_law 476 = .ok (.iload 4, 2) := by decide +kernel
theorem d_La_law_478 : decode b_La_law 478 = .ok (.iconst 1, 1) := by decide +kernel
theorem d_La_law_479 : decode b_La_law 479 = .ok (.iadd, 1) := by decide +kernel
theorem d_La_law_480 : decode b_La_law 480 = .ok (.iaload, 1) := by decide +kernel
theorem d_La_law_481 : decode b_La_law 481 = .ok (.i2l, 1) := by decide +kernel
theorem d_La_law_482 : decode b_La_law 482 = .ok (.bipush 32, 2) := by decide +kernel
theorem d_La_law_484 : decode b_La_law 484 = .ok (.lshl, 1) := by decide +kernel
theorem d_La_law_485 : decode b_La_law 485 = .ok (.aload_n 0, 1) := by decide +kernel
theorem d_La_law_486 : decode b_La_law 486 = .ok (.iload 4, 2) := by decide +kernel
theorem d_La_law_488 : decode b_La_law 488 = .ok (.iconst 2, 1) := by decide +kernel
theorem d_La_law_489 : decode b_La_law 489 = .ok (.iadd, 1) := by decide +kernel
theorem d_La_law_490 : decode b_La_law 490 = .ok (.iaload, 1) := by decide +kernel
theorem d_La_law_491 : decode b_La_law 491 = .ok (.i2l, 1) := by decide +kernel
theorem d_La_law_492 : decode b_La_law 492 = .ok (.ldc2_w 82, 3) := by decide +kernel
theorem d_La_law_495 : decode b_La_law 495 = .ok (.land, 1) := by decide +kernel
theorem d_La_law_496 : decode b_La_law 496 = .ok (.lor, 1) := by decide +kernel
theorem d_La_law_497 : decode b_La_law 497 = .ok (.aload_n 0, 1) := by decide +kernel
theorem d_La_law_498 : decode b_La_law 498 = .ok (.iload 4, 2) := by decide +kernel
theorem d_La_law_500 : decode b_La_law 500 = .ok (.iconst 3, 1) := by decide +kernel
theorem d_La_law_501 : decode b_La_law 501 = .ok (.iadd, 1) := by decide +kernel
theorem d_La_law_502 : decode b_La_law 502 = .ok (.iaload, 1) := by decide +kernel
theorem d_La_law_503 : decode b_La_law 503 = .ok (.aload_n 3, 1) := by decide +kernel
theorem d_La_law_504 : decode b_La_law 504 = .ok (.invokestatic 84, 3) := by decide +kernel
theorem d_La_law_507 : decode b_La_law 507 = .ok (.istore 5, 2) := by decide +kernel
theorem d_La_law_509 : decode b_La_law 509 = .ok (.aload_n 2, 1) := by decide +kernel
theorem d_La_law_510 : decode b_La_law 510 = .ok (.aload_n 0, 1) := by decide +kernel
theorem d_La_law_511 : decode b_La_law 511 = .ok (.iload 4, 2) := by decide +kernel
theorem d_La_law_513 : decode b_La_law 513 = .ok (.iconst 1, 1) := by decide +kernel
theorem d_La_law_514 : decode b_La_law 514 = .ok (.iadd, 1) := by decide +kernel
theorem d_La_law_515 : decode b_La_law 515 = .ok (.iaload, 1) := by decide +kernel
theorem d_La_law_516 : decode b_La_law 516 = .ok (.i2l, 1) := by decide +kernel
theorem d_La_law_517 : decode b_La_law 517 = .ok (.bipush 32, 2) := by decide +kernel
theorem d_La_law_519 : decode b_La_law 519 = .ok (.lshl, 1) := by decide +kernel
theorem d_La_law_520 : decode b_La_law 520 = .ok (.aload_n 0, 1) := by decide +kernel
theorem d_La_law_521 : decode b_La_law 521 = .ok (.iload 4, 2) := by decide +kernel
theorem d_La_law_523 : decode b_La_law 523 = .ok (.iconst 2, 1) := by decide +kernel
theorem d_La_law_524 : decode b_La_law 524 = .ok (.iadd, 1) := by decide +kernel
theorem d_La_law_525 : decode b_La_law 525 = .ok (.iaload, 1) := by decide +kernel
theorem d_La_law_526 : decode b_La_law 526 = .ok (.i2l, 1) := by decide +kernel
theorem d_La_law_527 : decode b_La_law 527 = .ok (.ldc2_w 82, 3) := by decide +kernel
theorem d_La_law_530 : decode b_La_law 530 = .ok (.land, 1) := by decide +kernel
theorem d_La_law_531 : decode b_La_law 531 = .ok (.lor, 1) := by decide +kernel
theorem d_La_law_532 : decode b_La_law 532 = .ok (.aload_n 0, 1) := by decide +kernel
theorem d_La_law_533 : decode b_La_law 533 = .ok (.iload 4, 2) := by decide +kernel
theorem d_La_law_535 : decode b_La_law 535 = .ok (.iconst 3, 1) := by decide +kernel
theorem d_La_law_536 : decode b_La_law 536 = .ok (.iadd, 1) := by decide +kernel
theorem d_La_law_537 : decode b_La_law 537 = .ok (.iaload, 1) := by decide +kernel
theorem d_La_law_538 : decode b_La_law 538 = .ok (.invokevirtual 87, 3) := by decide +kernel
theorem d_La_law_541 : decode b_La_law 541 = .ok (.istore 6, 2) := by decide +kernel
theorem d_La_law_543 : decode b_La_law 543 = .ok (.aload_n 2, 1) := by decide +kernel
theorem d_La_law_544 : decode b_La_law 544 = .ok (.invokevirtual 53, 3) := by decide +kernel
theorem d_La_law_547 : decode b_La_law 547 = .ok (.iload 5, 2) := by decide +kernel
theorem d_La_law_549 : decode b_La_law 549 = .ok (.if_icmp .eq 5, 3) := by decide +kernel
theorem d_La_law_552 : decode b_La_law 552 = .ok (.iconst 0, 1) := by decide +kernel
theorem d_La_law_553 : decode b_La_law 553 = .ok (.ireturn, 1) := by decide +kernel
theorem d_La_law_554 : decode b_La_law 554 = .ok (.iload 5, 2) := by decide +kernel
theorem d_La_law_556 : decode b_La_law 556 = .ok (.ifCond .ne 15, 3) := by decide +kernel
theorem d_La_law_559 : decode b_La_law 559 = .ok (.aload_n 3, 1) := by decide +kernel
theorem d_La_law_560 : decode b_La_law 560 = .ok (.iconst 0, 1) := by decide +kernel
theorem d_La_law_561 : decode b_La_law 561 = .ok (.laload, 1) := by decide +kernel
theorem d_La_law_562 : decode b_La_law 562 = .ok (.iload 6, 2) := by decide +kernel
theorem d_La_law_564 : decode b_La_law 564 = .ok (.i2l, 1) := by decide +kernel
theorem d_La_law_565 : decode b_La_law 565 = .ok (.lcmp, 1) := by decide +kernel
theorem d_La_law_566 : decode b_La_law 566 = .ok (.ifCond .eq 5, 3) := by decide +kernel
theorem d_La_law_569 : decode b_La_law 569 = .ok (.iconst 0, 1) := by decide +kernel
theorem d_La_law_570 : decode b_La_law 570 = .ok (.ireturn, 1) := by decide +kernel
theorem d_La_law_571 : decode b_La_law 571 = .ok (.goto 73, 3) := by decide +kernel
theorem d_La_law_574 : decode b_La_law 574 = .ok (.aload_n 1, 1) := by decide +kernel
theorem d_La_law_575 : decode b_La_law 575 = .ok (.invokevirtual 88, 3) := by decide +kernel
theorem d_La_law_578 : decode b_La_law 578 = .ok (.aload_n 2, 1) := by decide +kernel
theorem d_La_law_579 : decode b_La_law 579 = .ok (.invokevirtual 92, 3) := by decide +kernel
theorem d_La_law_582 : decode b_La_law 582 = .ok (.lcmp, 1) := by decide +kernel
theorem d_La_law_583 : decode b_La_law 583 = .ok (.ifCond .eq 61, 3) := by decide +kernel
theorem d_La_law_586 : decode b_La_law 586 = .ok (.iconst 0, 1) := by decide +kernel
theorem d_La_law_587 : decode b_La_law 587 = .ok (.ireturn, 1) := by decide +kernel
theorem d_La_law_588 : decode b_La_law 588 = .ok (.aload_n 1, 1) := by decide +kernel
theorem d_La_law_589 : decode b_La_law 589 = .ok (.aload_n 0, 1) := by decide +kernel
theorem d_La_law_590 : decode b_La_law 590 = .ok (.iload 4, 2) := by decide +kernel
theorem d_La_law_592 : decode b_La_law 592 = .ok (.iconst 1, 1) := by decide +kernel
theorem d_La_law_593 : decode b_La_law 593 = .ok (.iadd, 1) := by decide +kernel
theorem d_La_law_594 : decode b_La_law 594 = .ok (.iaload, 1) := by decide +kernel
theorem d_La_law_595 : decode b_La_law 595 = .ok (.aload_n 3, 1) := by decide +kernel
theorem d_La_law_596 : decode b_La_law 596 = .ok (.invokestatic 93, 3) := by decide +kernel
theorem d_La_law_599 : decode b_La_law 599 = .ok (.istore 5, 2) := by decide +kernel
theorem d_La_law_601 : decode b_La_law 601 = .ok (.aload_n 2, 1) := by decide +kernel
theorem d_La_law_602 : decode b_La_law 602 = .ok (.aload_n 0, 1) := by decide +kernel
theorem d_La_law_603 : decode b_La_law 603 = .ok (.iload 4, 2) := by decide +kernel
theorem d_La_law_605 : decode b_La_law 605 = .ok (.iconst 1, 1) := by decide +kernel
theorem d_La_law_606 : decode b_La_law 606 = .ok (.iadd, 1) := by decide +kernel
theorem d_La_law_607 : decode b_La_law 607 = .ok (.iaload, 1) := by decide +kernel
theorem d_La_law_608 : decode b_La_law 608 = .ok (.invokevirtual 95, 3) := by decide +kernel
theorem d_La_law_611 : decode b_La_law 611 = .ok (.istore 6, 2) := by decide +kernel
theorem d_La_law_613 : decode b_La_law 613 = .ok (.aload_n 2, 1) := by decide +kernel
theorem d_La_law_614 : decode b_La_law 614 = .ok (.invokevirtual 53, 3) := by decide +kernel
theorem d_La_law_617 : decode b_La_law 617 = .ok (.iload 5, 2) := by decide +kernel
theorem d_La_law_619 : decode b_La_law 619 = .ok (.if_icmp .eq 5, 3) := by decide +kernel
theorem d_La_law_622 : decode b_La_law 622 = .ok (.iconst 0, 1) := by decide +kernel
theorem d_La_law_623 : decode b_La_law 623 = .ok (.ireturn, 1) := by decide +kernel
theorem d_La_law_624 : decode b_La_law 624 = .ok (.iload 5, 2) := by decide +kernel
theorem d_La_law_626 : decode b_La_law 626 = .ok (.ifCond .ne 15, 3) := by decide +kernel
theorem d_La_law_629 : decode b_La_law 629 = .ok (.aload_n 3, 1) := by decide +kernel
theorem d_La_law_630 : decode b_La_law 630 = .ok (.iconst 0, 1) := by decide +kernel
theorem d_La_law_631 : decode b_La_law 631 = .ok (.laload, 1) := by decide +kernel
theorem d_La_law_632 : decode b_La_law 632 = .ok (.iload 6, 2) := by decide +kernel
theorem d_La_law_634 : decode b_La_law 634 = .ok (.i2l, 1) := by decide +kernel
theorem d_La_law_635 : decode b_La_law 635 = .ok (.lcmp, 1) := by decide +kernel
theorem d_La_law_636 : decode b_La_law 636 = .ok (.ifCond .eq 5, 3) := by decide +kernel
theorem d_La_law_639 : decode b_La_law 639 = .ok (.iconst 0, 1) := by decide +kernel
theorem d_La_law_640 : decode b_La_law 640 = .ok (.ireturn, 1) := by decide +kernel
theorem d_La_law_641 : decode b_La_law 641 = .ok (.goto 3, 3) := by decide +kernel
theorem d_La_law_644 : decode b_La_law 644 = .ok (.iinc 4 4, 3) := by decide +kernel
theorem d_La_law_647 : decode b_La_law 647 = .ok (.goto (-624), 3) := by decide +kernel
theorem d_La_law_650 : decode b_La_law 650 = .ok (.iconst 1, 1) := by decide +kernel
theorem d_La_law_651 : decode b_La_law 651 = .ok (.ireturn, 1) := by decide +kernel

set_option maxHeartbeats 8000000 in
theorem lc_word {p : Program} {l : Launch} {e : Env} {s : State} {m : MethodId} {below : List Frame} {meth : Method} {c : Code} {Q : State → Prop} (htr : l.stackTraces = false) {D : va_G} {cI cB cJ : ClassId} {b L : Nat} {xs : Nat → Int32} {A : Nat → Prop}
    (hE : CallFix p m c b_La_law 7 s #[Value.ref b] zW "RvMachineLaw") (hK : va_K D zC (zT cI cB cJ) s) (hst : xOk s) (hX : va_X b L xs s s.heap) (hbl : b < s.heap.size) (hA : ∀ q, s.heap.size ≤ q → A q) (hAn : ∀ q, q < s.heap.size → ¬ A q) (hL : L ≤ 2048) {i : Nat} (hi4 : i + 4 ≤ L)
    {x ra ma ba ua ur oa orr m0 mk mt wo re ro aa si so la ip oq cp ou : Nat} {wa : Nat} {wl : Nat} {c0 : CM} {ui : Nat} {uh : Nat} {uq : (Nat → Int32)} {oi : Nat} {oh : Nat} {oqf : (Nat → Int32)} {rc : RM} {th : Int32} {rg : (Nat → Int32)} {M : MM} {I : List Int32} {O : List Int32} {ph : Int32} {dn : Int32} {nx : Int32} {fo : Int32} {wn1 : Nat} {wf : (Nat → Int32)} {uo : Nat → Int64} {rem cells slots : Nat} {H : Heap} {locs : List Loc} {ls : Array Slot}
    (hinv : LInv wl c0 ui uh uq oi oh oqf rc M I O nx wn1 wf) (hbc : cells + fuC c0 + (rem + 1) ≤ 575) (hbs : slots + fuS c0 + 4000 * (rem + 1) ≤ 3128806) (hl : lv_has ls 7 [(4, .int (nI i)), (3, .ref ou), (2, .ref m0), (1, .ref x), (0, .ref b)])
    (hP : va_P D zC [(x, .inr (0, [.ref wa, .int (nI wn1), .ref ra, .ref ma, .ref ua, .ref oa, .int ph, .int dn, .int nx, .int fo])), (wa, .inl (cI, wl, .inl (wf))), (ra, .inl (cI, 32, .inl (rg))), (ma, .inr (1, [.int (nI (cMd c0)), .int (nI (cBt c0)), .int (nI (cLo c0)), .int (nI (cNl c0)), .ref (cSa c0), .ref (cTa c0), .ref (cFa c0), .ref (cPa c0), .int (nI (cPe c0)), .ref ba])), ((cSa c0), .inl (cI, (cRn c0), .inl (cSf c0))), ((cTa c0), .inl (cI, (cRn c0), .inl (cTf c0))), ((cFa c0), .inl (cI, (cRn c0), .inl (cUf c0))), ((cPa c0), .inl (cB, (cPn c0), .inl (cPf c0))), (ba, .inl (cB, 4000, .inl (fun _ => 0))), (ua, .inr (2, [.ref ur, .int (nI ui), .int (nI uh)])), (ur, .inl (cB, 1000, .inl (uq))), (oa, .inr (2, [.ref orr, .int (nI oi), .int (nI oh)])), (orr, .inl (cB, 4096, .inl (oqf))), (m0, .inr (3, [.ref mk, .ref mt, .int (nI 48), .ref wo, .int (nI wn1), .ref re, .int nx, .int ph, .int dn, .int th, .ref ro, .ref aa, .ref si, .ref so, .ref la, .int (nI (rGd rc)), .int (nI (rGl rc)), .int (nI (rGt rc)), .int (nI (rGr rc)), .ref ip, .ref oq, .ref cp, .int (nI (rGi rc)), .int (nI (rGo rc))])), (mk, .inl (cI, 50, .inl (tM))), (mt, .inl (cI, 50, .inl (tV))), (wo, .inl (cI, 4000, .inl (wf))), (re, .inl (cI, 32, .inl (rg))), (ro, .inl (cB, 90000, .inl (rRf rc))), (aa, .inl (cI, 8001, .inl (rAf rc))), (si, .inl (cI, 8001, .inl (rZf rc))), (so, .inl (cI, 8001, .inl (rOf rc))), (la, .inl (cI, 8001, .inl (rLf rc))), (ip, .inl (cB, 1000, .inl (rJf rc))), (oq, .inl (cB, 4096, .inl (rQf rc))), (cp, .inl (cB, 4000, .inl (rCf rc))), (ou, .inl (cJ, 1, .inr (.inl (uo))))] H) (hD : va_D A [(x, .inr (0, [.ref wa, .int (nI wn1), .ref ra, .ref ma, .ref ua, .ref oa, .int ph, .int dn, .int nx, .int fo])), (wa, .inl (cI, wl, .inl (wf))), (ra, .inl (cI, 32, .inl (rg))), (ma, .inr (1, [.int (nI (cMd c0)), .int (nI (cBt c0)), .int (nI (cLo c0)), .int (nI (cNl c0)), .ref (cSa c0), .ref (cTa c0), .ref (cFa c0), .ref (cPa c0), .int (nI (cPe c0)), .ref ba])), ((cSa c0), .inl (cI, (cRn c0), .inl (cSf c0))), ((cTa c0), .inl (cI, (cRn c0), .inl (cTf c0))), ((cFa c0), .inl (cI, (cRn c0), .inl (cUf c0))), ((cPa c0), .inl (cB, (cPn c0), .inl (cPf c0))), (ba, .inl (cB, 4000, .inl (fun _ => 0))), (ua, .inr (2, [.ref ur, .int (nI ui), .int (nI uh)])), (ur, .inl (cB, 1000, .inl (uq))), (oa, .inr (2, [.ref orr, .int (nI oi), .int (nI oh)])), (orr, .inl (cB, 4096, .inl (oqf))), (m0, .inr (3, [.ref mk, .ref mt, .int (nI 48), .ref wo, .int (nI wn1), .ref re, .int nx, .int ph, .int dn, .int th, .ref ro, .ref aa, .ref si, .ref so, .ref la, .int (nI (rGd rc)), .int (nI (rGl rc)), .int (nI (rGt rc)), .int (nI (rGr rc)), .ref ip, .ref oq, .ref cp, .int (nI (rGi rc)), .int (nI (rGo rc))])), (mk, .inl (cI, 50, .inl (tM))), (mt, .inl (cI, 50, .inl (tV))), (wo, .inl (cI, 4000, .inl (wf))), (re, .inl (cI, 32, .inl (rg))), (ro, .inl (cB, 90000, .inl (rRf rc))), (aa, .inl (cI, 8001, .inl (rAf rc))), (si, .inl (cI, 8001, .inl (rZf rc))), (so, .inl (cI, 8001, .inl (rOf rc))), (la, .inl (cI, 8001, .inl (rLf rc))), (ip, .inl (cB, 1000, .inl (rJf rc))), (oq, .inl (cB, 4096, .inl (rQf rc))), (cp, .inl (cB, 4000, .inl (rCf rc))), (ou, .inl (cJ, 1, .inr (.inl (uo))))]) (hS : va_S A s.heap H locs)
    (kk : ∀ (wa : Nat) (wl : Nat) (c0 : CM) (ui : Nat) (uh : Nat) (uq : (Nat → Int32)) (oi : Nat) (oh : Nat) (oqf : (Nat → Int32)) (rc : RM) (th : Int32) (rg : (Nat → Int32)) (M : MM) (I : List Int32) (O : List Int32) (ph : Int32) (dn : Int32) (nx : Int32) (fo : Int32) (wn1 : Nat) (wf : (Nat → Int32)) (uo : Nat → Int64) (ls : Array Slot) (H : Heap) (locs : List Loc) (cells slots : Nat), LInv wl c0 ui uh uq oi oh oqf rc M I O nx wn1 wf → cells + fuC c0 + rem ≤ 575 → slots + fuS c0 + 4000 * rem ≤ 3128806 → lv_has ls 7 [(4, .int (nI i)), (3, .ref ou), (2, .ref m0), (1, .ref x), (0, .ref b)] → va_P D zC [(x, .inr (0, [.ref wa, .int (nI wn1), .ref ra, .ref ma, .ref ua, .ref oa, .int ph, .int dn, .int nx, .int fo])), (wa, .inl (cI, wl, .inl (wf))), (ra, .inl (cI, 32, .inl (rg))), (ma, .inr (1, [.int (nI (cMd c0)), .int (nI (cBt c0)), .int (nI (cLo c0)), .int (nI (cNl c0)), .ref (cSa c0), .ref (cTa c0), .ref (cFa c0), .ref (cPa c0), .int (nI (cPe c0)), .ref ba])), ((cSa c0), .inl (cI, (cRn c0), .inl (cSf c0))), ((cTa c0), .inl (cI, (cRn c0), .inl (cTf c0))), ((cFa c0), .inl (cI, (cRn c0), .inl (cUf c0))), ((cPa c0), .inl (cB, (cPn c0), .inl (cPf c0))), (ba, .inl (cB, 4000, .inl (fun _ => 0))), (ua, .inr (2, [.ref ur, .int (nI ui), .int (nI uh)])), (ur, .inl (cB, 1000, .inl (uq))), (oa, .inr (2, [.ref orr, .int (nI oi), .int (nI oh)])), (orr, .inl (cB, 4096, .inl (oqf))), (m0, .inr (3, [.ref mk, .ref mt, .int (nI 48), .ref wo, .int (nI wn1), .ref re, .int nx, .int ph, .int dn, .int th, .ref ro, .ref aa, .ref si, .ref so, .ref la, .int (nI (rGd rc)), .int (nI (rGl rc)), .int (nI (rGt rc)), .int (nI (rGr rc)), .ref ip, .ref oq, .ref cp, .int (nI (rGi rc)), .int (nI (rGo rc))])), (mk, .inl (cI, 50, .inl (tM))), (mt, .inl (cI, 50, .inl (tV))), (wo, .inl (cI, 4000, .inl (wf))), (re, .inl (cI, 32, .inl (rg))), (ro, .inl (cB, 90000, .inl (rRf rc))), (aa, .inl (cI, 8001, .inl (rAf rc))), (si, .inl (cI, 8001, .inl (rZf rc))), (so, .inl (cI, 8001, .inl (rOf rc))), (la, .inl (cI, 8001, .inl (rLf rc))), (ip, .inl (cB, 1000, .inl (rJf rc))), (oq, .inl (cB, 4096, .inl (rQf rc))), (cp, .inl (cB, 4000, .inl (rCf rc))), (ou, .inl (cJ, 1, .inr (.inl (uo))))] H → va_D A [(x, .inr (0, [.ref wa, .int (nI wn1), .ref ra, .ref ma, .ref ua, .ref oa, .int ph, .int dn, .int nx, .int fo])), (wa, .inl (cI, wl, .inl (wf))), (ra, .inl (cI, 32, .inl (rg))), (ma, .inr (1, [.int (nI (cMd c0)), .int (nI (cBt c0)), .int (nI (cLo c0)), .int (nI (cNl c0)), .ref (cSa c0), .ref (cTa c0), .ref (cFa c0), .ref (cPa c0), .int (nI (cPe c0)), .ref ba])), ((cSa c0), .inl (cI, (cRn c0), .inl (cSf c0))), ((cTa c0), .inl (cI, (cRn c0), .inl (cTf c0))), ((cFa c0), .inl (cI, (cRn c0), .inl (cUf c0))), ((cPa c0), .inl (cB, (cPn c0), .inl (cPf c0))), (ba, .inl (cB, 4000, .inl (fun _ => 0))), (ua, .inr (2, [.ref ur, .int (nI ui), .int (nI uh)])), (ur, .inl (cB, 1000, .inl (uq))), (oa, .inr (2, [.ref orr, .int (nI oi), .int (nI oh)])), (orr, .inl (cB, 4096, .inl (oqf))), (m0, .inr (3, [.ref mk, .ref mt, .int (nI 48), .ref wo, .int (nI wn1), .ref re, .int nx, .int ph, .int dn, .int th, .ref ro, .ref aa, .ref si, .ref so, .ref la, .int (nI (rGd rc)), .int (nI (rGl rc)), .int (nI (rGt rc)), .int (nI (rGr rc)), .ref ip, .ref oq, .ref cp, .int (nI (rGi rc)), .int (nI (rGo rc))])), (mk, .inl (cI, 50, .inl (tM))), (mt, .inl (cI, 50, .inl (tV))), (wo, .inl (cI, 4000, .inl (wf))), (re, .inl (cI, 32, .inl (rg))), (ro, .inl (cB, 90000, .inl (rRf rc))), (aa, .inl (cI, 8001, .inl (rAf rc))), (si, .inl (cI, 8001, .inl (rZf rc))), (so, .inl (cI, 8001, .inl (rOf rc))), (la, .inl (cI, 8001, .inl (rLf rc))), (ip, .inl (cB, 1000, .inl (rJf rc))), (oq, .inl (cB, 4096, .inl (rQf rc))), (cp, .inl (cB, 4000, .inl (rCf rc))), (ou, .inl (cJ, 1, .inr (.inl (uo))))] → va_S A s.heap H locs → W p l e room_1 s m #[Value.ref b] below meth c H locs cells slots Q (F0 m 644 ls [])) :
    W p l e room_1 s m #[Value.ref b] below meth c H locs cells slots Q (F0 m 96 ls []) := by
  have hx := hE.1
  have hb := hE.2.1
  have hown := hE.2.2.2.1
  have hw := hE.2.2.2.2
  obtain ⟨hRc, hIb, hOb, hRr, hw4k, hwwl, hwl4, hwz, hpc⟩ := hinv
  have hfcd : fuC c0 = phP (cPn c0) + 3 * phR (cRn c0) := rfl
  have hfsd : fuS c0 = 80000 * phP (cPn c0) + 3 * (8001 * phR (cRn c0)) := rfl
  have huh := hIb.2.2.1
  have huh2 := hIb.2.1
  have hoh := hOb.2.2.1
  have hwnI : (nI wn1).toInt = (wn1 : Int) := nI_toInt (by omega)
  refine lv_aload_n hx hb d_La_law_96 rfl (lv_at hl 3 rfl) ?_
  refine lv_aload_n hx hb d_La_law_97 rfl (lv_at hl 4 rfl) ?_
  refine lv_iload hx hb d_La_law_98 (lv_at hl 0 rfl) ?_
  refine lv_iconst (v := 1) hx hb d_La_law_100 (by decide) ?_
  refine lv_iadd hx hb d_La_law_101 ?_
  refine z_st (st' := [.int (nI (i + 1)), .ref b, .ref x]) (by rw [show (((nI i) + 1) : Int32) = nI (i + 1) from nI_add i 1]) ?_
  refine va_sld (i := nI (i + 1)) hx hb hX hbl (hAn b hbl) hS (vp_in_nI (by omega) (by omega)) d_La_law_102 ?_
  refine z_st (st' := [.int (xs (i + 1)), .ref x]) (by rw [show ((xs (nI (i + 1)).toNatClampNeg) : Int32) = xs (i + 1) from by rw [nI_clamp (by omega)]]) ?_
  refine lv_aload_n hx hb d_La_law_103 rfl (lv_at hl 1 rfl) ?_
  rcases Nat.lt_or_ge wn1 4000 with hw4 | hw4
  · have hq4 := (wk_le (d := wn1 + 1) hwl4)
    have hkeep : ∀ (q : Addr) (c : Cell), s.heap[q]? = some c → H[q]? = some c := fun q c h => by rw [hS.2.1 q (Array.getElem?_eq_some_iff.mp h).1 (hAn q (Array.getElem?_eq_some_iff.mp h).1)]; exact h
    refine zgoi (wr := [(ra, .inl (cI, 32, .inl (rg))), (ma, .inr (1, [.int (nI (cMd c0)), .int (nI (cBt c0)), .int (nI (cLo c0)), .int (nI (cNl c0)), .ref (cSa c0), .ref (cTa c0), .ref (cFa c0), .ref (cPa c0), .int (nI (cPe c0)), .ref ba])), ((cSa c0), .inl (cI, (cRn c0), .inl (cSf c0))), ((cTa c0), .inl (cI, (cRn c0), .inl (cTf c0))), ((cFa c0), .inl (cI, (cRn c0), .inl (cUf c0))), ((cPa c0), .inl (cB, (cPn c0), .inl (cPf c0))), (ba, .inl (cB, 4000, .inl (fun _ => 0))), (ua, .inr (2, [.ref ur, .int (nI ui), .int (nI uh)])), (ur, .inl (cB, 1000, .inl (uq))), (oa, .inr (2, [.ref orr, .int (nI oi), .int (nI oh)])), (orr, .inl (cB, 4096, .inl (oqf))), (m0, .inr (3, [.ref mk, .ref mt, .int (nI 48), .ref wo, .int (nI wn1), .ref re, .int nx, .int ph, .int dn, .int th, .ref ro, .ref aa, .ref si, .ref so, .ref la, .int (nI (rGd rc)), .int (nI (rGl rc)), .int (nI (rGt rc)), .int (nI (rGr rc)), .ref ip, .ref oq, .ref cp, .int (nI (rGi rc)), .int (nI (rGo rc))])), (mk, .inl (cI, 50, .inl (tM))), (mt, .inl (cI, 50, .inl (tV))), (wo, .inl (cI, 4000, .inl (wf))), (re, .inl (cI, 32, .inl (rg))), (ro, .inl (cB, 90000, .inl (rRf rc))), (aa, .inl (cI, 8001, .inl (rAf rc))), (si, .inl (cI, 8001, .inl (rZf rc))), (so, .inl (cI, 8001, .inl (rOf rc))), (la, .inl (cI, 8001, .inl (rLf rc))), (ip, .inl (cB, 1000, .inl (rJf rc))), (oq, .inl (cB, 4096, .inl (rQf rc))), (cp, .inl (cB, 4000, .inl (rCf rc)))]) (zrunSH (n := 3) (As := [.ref x, .int (xs (i + 1)), .ref ou]) (rest := []) hE (h_La_word_n l D cI cB cJ _ x (xs (i + 1)) ou wa wn1 ra ma ua oa ph dn nx fo wl wf uo hw4 hwwl hwl4 hwz) cbh_La_word lr_La_47 st_La_word (hpreS hst hkeep hK hP hD [0, 1, 26] rfl rfl rfl) ⟨Nat.le_of_ble_eq_true rfl, Nat.le_of_ble_eq_true rfl, by show cells + (wkc wl (wn1 + 1)) ≤ 601024; omega, by show slots + (wks wl (wn1 + 1) 4000) ≤ 7293033; omega⟩ rfl hl.1 rfl (Nat.le_of_ble_eq_true rfl) d_La_law_104) hP hD hS hA [0, 1, 26] [2, 3, 4, 5, 6, 7, 8, 9, 10, 11, 12, 13, 14, 15, 16, 17, 18, 19, 20, 21, 22, 23, 24, 25] rfl rfl rfl (by decide) (fun r2 u3 H locs hq1 hP hD hS => ?_)
    subst hq1
    have hP : va_P D zC [(ra, .inl (cI, 32, .inl (rg))), (ma, .inr (1, [.int (nI (cMd c0)), .int (nI (cBt c0)), .int (nI (cLo c0)), .int (nI (cNl c0)), .ref (cSa c0), .ref (cTa c0), .ref (cFa c0), .ref (cPa c0), .int (nI (cPe c0)), .ref ba])), ((cSa c0), .inl (cI, (cRn c0), .inl (cSf c0))), ((cTa c0), .inl (cI, (cRn c0), .inl (cTf c0))), ((cFa c0), .inl (cI, (cRn c0), .inl (cUf c0))), ((cPa c0), .inl (cB, (cPn c0), .inl (cPf c0))), (ba, .inl (cB, 4000, .inl (fun _ => 0))), (ua, .inr (2, [.ref ur, .int (nI ui), .int (nI uh)])), (ur, .inl (cB, 1000, .inl (uq))), (oa, .inr (2, [.ref orr, .int (nI oi), .int (nI oh)])), (orr, .inl (cB, 4096, .inl (oqf))), (m0, .inr (3, [.ref mk, .ref mt, .int (nI 48), .ref wo, .int (nI wn1), .ref re, .int nx, .int ph, .int dn, .int th, .ref ro, .ref aa, .ref si, .ref so, .ref la, .int (nI (rGd rc)), .int (nI (rGl rc)), .int (nI (rGt rc)), .int (nI (rGr rc)), .ref ip, .ref oq, .ref cp, .int (nI (rGi rc)), .int (nI (rGo rc))])), (mk, .inl (cI, 50, .inl (tM))), (mt, .inl (cI, 50, .inl (tV))), (wo, .inl (cI, 4000, .inl (wf))), (re, .inl (cI, 32, .inl (rg))), (ro, .inl (cB, 90000, .inl (rRf rc))), (aa, .inl (cI, 8001, .inl (rAf rc))), (si, .inl (cI, 8001, .inl (rZf rc))), (so, .inl (cI, 8001, .inl (rOf rc))), (la, .inl (cI, 8001, .inl (rLf rc))), (ip, .inl (cB, 1000, .inl (rJf rc))), (oq, .inl (cB, 4096, .inl (rQf rc))), (cp, .inl (cB, 4000, .inl (rCf rc))), (x, .inr (0, [.ref u3, .int (nI (wn1 + 1)), .ref ra, .ref ma, .ref ua, .ref oa, .int ph, .int dn, .int nx, .int fo])), (u3, .inl (cI, (wdl wl (wn1 + 1) 4000), .inl (upd wf wn1 (xs (i + 1))))), (ou, .inl (cJ, 1, .inr (.inl (vp_updL uo 0 (((nI (wn1 + 1)) : Int32).toInt64)))))] _ := hP
    have hD : va_D A [(ra, .inl (cI, 32, .inl (rg))), (ma, .inr (1, [.int (nI (cMd c0)), .int (nI (cBt c0)), .int (nI (cLo c0)), .int (nI (cNl c0)), .ref (cSa c0), .ref (cTa c0), .ref (cFa c0), .ref (cPa c0), .int (nI (cPe c0)), .ref ba])), ((cSa c0), .inl (cI, (cRn c0), .inl (cSf c0))), ((cTa c0), .inl (cI, (cRn c0), .inl (cTf c0))), ((cFa c0), .inl (cI, (cRn c0), .inl (cUf c0))), ((cPa c0), .inl (cB, (cPn c0), .inl (cPf c0))), (ba, .inl (cB, 4000, .inl (fun _ => 0))), (ua, .inr (2, [.ref ur, .int (nI ui), .int (nI uh)])), (ur, .inl (cB, 1000, .inl (uq))), (oa, .inr (2, [.ref orr, .int (nI oi), .int (nI oh)])), (orr, .inl (cB, 4096, .inl (oqf))), (m0, .inr (3, [.ref mk, .ref mt, .int (nI 48), .ref wo, .int (nI wn1), .ref re, .int nx, .int ph, .int dn, .int th, .ref ro, .ref aa, .ref si, .ref so, .ref la, .int (nI (rGd rc)), .int (nI (rGl rc)), .int (nI (rGt rc)), .int (nI (rGr rc)), .ref ip, .ref oq, .ref cp, .int (nI (rGi rc)), .int (nI (rGo rc))])), (mk, .inl (cI, 50, .inl (tM))), (mt, .inl (cI, 50, .inl (tV))), (wo, .inl (cI, 4000, .inl (wf))), (re, .inl (cI, 32, .inl (rg))), (ro, .inl (cB, 90000, .inl (rRf rc))), (aa, .inl (cI, 8001, .inl (rAf rc))), (si, .inl (cI, 8001, .inl (rZf rc))), (so, .inl (cI, 8001, .inl (rOf rc))), (la, .inl (cI, 8001, .inl (rLf rc))), (ip, .inl (cB, 1000, .inl (rJf rc))), (oq, .inl (cB, 4096, .inl (rQf rc))), (cp, .inl (cB, 4000, .inl (rCf rc))), (x, .inr (0, [.ref u3, .int (nI (wn1 + 1)), .ref ra, .ref ma, .ref ua, .ref oa, .int ph, .int dn, .int nx, .int fo])), (u3, .inl (cI, (wdl wl (wn1 + 1) 4000), .inl (upd wf wn1 (xs (i + 1))))), (ou, .inl (cJ, 1, .inr (.inl (vp_updL uo 0 (((nI (wn1 + 1)) : Int32).toInt64)))))] := hD
    obtain ⟨ce1, hce1⟩ : ∃ q, q = cells + 1 := ⟨_, rfl⟩
    obtain ⟨sl1, hsl1⟩ : ∃ q, q = slots + 4000 := ⟨_, rfl⟩
    refine W.widen (k := ce1) (n := sl1) (by show cells + wkc wl (wn1 + 1) ≤ ce1; have q := (wk_le (d := wn1 + 1) hwl4).1; omega) (by show slots + wks wl (wn1 + 1) 4000 ≤ sl1; have q := (wk_le (d := wn1 + 1) hwl4).2; omega) ?_
    refine lv_istore (lv' := [(5, .int 0), (4, .int (nI i)), (3, .ref ou), (2, .ref m0), (1, .ref x), (0, .ref b)]) hx hb d_La_law_107 hl (by decide) rfl (fun ls hl => ?_)
    refine lv_aload_n hx hb d_La_law_109 rfl (lv_at hl 3 rfl) ?_
    refine lv_aload_n hx hb d_La_law_110 rfl (lv_at hl 5 rfl) ?_
    refine lv_iload hx hb d_La_law_111 (lv_at hl 1 rfl) ?_
    refine lv_iconst (v := 1) hx hb d_La_law_113 (by decide) ?_
    refine lv_iadd hx hb d_La_law_114 ?_
    refine z_st (st' := [.int (nI (i + 1)), .ref b, .ref m0]) (by rw [show (((nI i) + 1) : Int32) = nI (i + 1) from nI_add i 1]) ?_
    refine va_sld (i := nI (i + 1)) hx hb hX hbl (hAn b hbl) hS (vp_in_nI (by omega) (by omega)) d_La_law_115 ?_
    refine z_st (st' := [.int (xs (i + 1)), .ref m0]) (by rw [show ((xs (nI (i + 1)).toNatClampNeg) : Int32) = xs (i + 1) from by rw [nI_clamp (by omega)]]) ?_
    have hkeep : ∀ (q : Addr) (c : Cell), s.heap[q]? = some c → H[q]? = some c := fun q c h => by rw [hS.2.1 q (Array.getElem?_eq_some_iff.mp h).1 (hAn q (Array.getElem?_eq_some_iff.mp h).1)]; exact h
    refine zgoi (wr := [(ra, .inl (cI, 32, .inl (rg))), (ma, .inr (1, [.int (nI (cMd c0)), .int (nI (cBt c0)), .int (nI (cLo c0)), .int (nI (cNl c0)), .ref (cSa c0), .ref (cTa c0), .ref (cFa c0), .ref (cPa c0), .int (nI (cPe c0)), .ref ba])), ((cSa c0), .inl (cI, (cRn c0), .inl (cSf c0))), ((cTa c0), .inl (cI, (cRn c0), .inl (cTf c0))), ((cFa c0), .inl (cI, (cRn c0), .inl (cUf c0))), ((cPa c0), .inl (cB, (cPn c0), .inl (cPf c0))), (ba, .inl (cB, 4000, .inl (fun _ => 0))), (ua, .inr (2, [.ref ur, .int (nI ui), .int (nI uh)])), (ur, .inl (cB, 1000, .inl (uq))), (oa, .inr (2, [.ref orr, .int (nI oi), .int (nI oh)])), (orr, .inl (cB, 4096, .inl (oqf))), (mk, .inl (cI, 50, .inl (tM))), (mt, .inl (cI, 50, .inl (tV))), (re, .inl (cI, 32, .inl (rg))), (ro, .inl (cB, 90000, .inl (rRf rc))), (aa, .inl (cI, 8001, .inl (rAf rc))), (si, .inl (cI, 8001, .inl (rZf rc))), (so, .inl (cI, 8001, .inl (rOf rc))), (la, .inl (cI, 8001, .inl (rLf rc))), (ip, .inl (cB, 1000, .inl (rJf rc))), (oq, .inl (cB, 4096, .inl (rQf rc))), (cp, .inl (cB, 4000, .inl (rCf rc))), (x, .inr (0, [.ref u3, .int (nI (wn1 + 1)), .ref ra, .ref ma, .ref ua, .ref oa, .int ph, .int dn, .int nx, .int fo])), (u3, .inl (cI, (wdl wl (wn1 + 1) 4000), .inl (upd wf wn1 (xs (i + 1))))), (ou, .inl (cJ, 1, .inr (.inl (vp_updL uo 0 (((nI (wn1 + 1)) : Int32).toInt64)))))]) (zrunV (n := 1) (As := [.int (xs (i + 1))]) (rest := []) hE (c_Mo_word l D cI cB cJ _ (xs (i + 1)) m0 mk mt (nI 48) wo (nI wn1) re nx ph dn th ro aa si so la (nI (rGd rc)) (nI (rGl rc)) (nI (rGt rc)) (nI (rGr rc)) ip oq cp (nI (rGi rc)) (nI (rGo rc)) wf ⟨by rw [hwnI]; omega, by rw [hwnI]; omega⟩) cb_Mo_word lk_La_52 in_Mo_word se_Mo_word (zpreV (q0 := 11) hK hP hD rfl rfl rfl [11, 14] rfl rfl rfl) ⟨Nat.le_of_ble_eq_true rfl, Nat.le_of_ble_eq_true rfl, by show ce1 + (0) ≤ 601024; omega, by show sl1 + (0) ≤ 7293033; omega⟩ rfl hl.1 rfl (Nat.le_of_ble_eq_true rfl) d_La_law_116) hP hD hS hA [11, 14] [0, 1, 2, 3, 4, 5, 6, 7, 8, 9, 10, 12, 13, 15, 16, 17, 18, 19, 20, 21, 22, 23, 24, 25, 26] rfl rfl rfl (by decide) (fun r5 u6 H locs hq4 hP hD hS => ?_)
    subst hq4
    have hP : va_P D zC [(ra, .inl (cI, 32, .inl (rg))), (ma, .inr (1, [.int (nI (cMd c0)), .int (nI (cBt c0)), .int (nI (cLo c0)), .int (nI (cNl c0)), .ref (cSa c0), .ref (cTa c0), .ref (cFa c0), .ref (cPa c0), .int (nI (cPe c0)), .ref ba])), ((cSa c0), .inl (cI, (cRn c0), .inl (cSf c0))), ((cTa c0), .inl (cI, (cRn c0), .inl (cTf c0))), ((cFa c0), .inl (cI, (cRn c0), .inl (cUf c0))), ((cPa c0), .inl (cB, (cPn c0), .inl (cPf c0))), (ba, .inl (cB, 4000, .inl (fun _ => 0))), (ua, .inr (2, [.ref ur, .int (nI ui), .int (nI uh)])), (ur, .inl (cB, 1000, .inl (uq))), (oa, .inr (2, [.ref orr, .int (nI oi), .int (nI oh)])), (orr, .inl (cB, 4096, .inl (oqf))), (mk, .inl (cI, 50, .inl (tM))), (mt, .inl (cI, 50, .inl (tV))), (re, .inl (cI, 32, .inl (rg))), (ro, .inl (cB, 90000, .inl (rRf rc))), (aa, .inl (cI, 8001, .inl (rAf rc))), (si, .inl (cI, 8001, .inl (rZf rc))), (so, .inl (cI, 8001, .inl (rOf rc))), (la, .inl (cI, 8001, .inl (rLf rc))), (ip, .inl (cB, 1000, .inl (rJf rc))), (oq, .inl (cB, 4096, .inl (rQf rc))), (cp, .inl (cB, 4000, .inl (rCf rc))), (x, .inr (0, [.ref u3, .int (nI (wn1 + 1)), .ref ra, .ref ma, .ref ua, .ref oa, .int ph, .int dn, .int nx, .int fo])), (u3, .inl (cI, (wdl wl (wn1 + 1) 4000), .inl (upd wf wn1 (xs (i + 1))))), (ou, .inl (cJ, 1, .inr (.inl (vp_updL uo 0 (((nI (wn1 + 1)) : Int32).toInt64))))), (m0, .inr (3, [.ref mk, .ref mt, .int (nI 48), .ref wo, .int ((sp_Mo_word (xs (i + 1)) (nI wn1) wf).2.2.1), .ref re, .int nx, .int ph, .int dn, .int ((sp_Mo_word (xs (i + 1)) (nI wn1) wf).2.1), .ref ro, .ref aa, .ref si, .ref so, .ref la, .int (nI (rGd rc)), .int (nI (rGl rc)), .int (nI (rGt rc)), .int (nI (rGr rc)), .ref ip, .ref oq, .ref cp, .int (nI (rGi rc)), .int (nI (rGo rc))])), (wo, .inl (cI, 4000, .inl ((sp_Mo_word (xs (i + 1)) (nI wn1) wf).2.2.2)))] _ := hP
    have hD : va_D A [(ra, .inl (cI, 32, .inl (rg))), (ma, .inr (1, [.int (nI (cMd c0)), .int (nI (cBt c0)), .int (nI (cLo c0)), .int (nI (cNl c0)), .ref (cSa c0), .ref (cTa c0), .ref (cFa c0), .ref (cPa c0), .int (nI (cPe c0)), .ref ba])), ((cSa c0), .inl (cI, (cRn c0), .inl (cSf c0))), ((cTa c0), .inl (cI, (cRn c0), .inl (cTf c0))), ((cFa c0), .inl (cI, (cRn c0), .inl (cUf c0))), ((cPa c0), .inl (cB, (cPn c0), .inl (cPf c0))), (ba, .inl (cB, 4000, .inl (fun _ => 0))), (ua, .inr (2, [.ref ur, .int (nI ui), .int (nI uh)])), (ur, .inl (cB, 1000, .inl (uq))), (oa, .inr (2, [.ref orr, .int (nI oi), .int (nI oh)])), (orr, .inl (cB, 4096, .inl (oqf))), (mk, .inl (cI, 50, .inl (tM))), (mt, .inl (cI, 50, .inl (tV))), (re, .inl (cI, 32, .inl (rg))), (ro, .inl (cB, 90000, .inl (rRf rc))), (aa, .inl (cI, 8001, .inl (rAf rc))), (si, .inl (cI, 8001, .inl (rZf rc))), (so, .inl (cI, 8001, .inl (rOf rc))), (la, .inl (cI, 8001, .inl (rLf rc))), (ip, .inl (cB, 1000, .inl (rJf rc))), (oq, .inl (cB, 4096, .inl (rQf rc))), (cp, .inl (cB, 4000, .inl (rCf rc))), (x, .inr (0, [.ref u3, .int (nI (wn1 + 1)), .ref ra, .ref ma, .ref ua, .ref oa, .int ph, .int dn, .int nx, .int fo])), (u3, .inl (cI, (wdl wl (wn1 + 1) 4000), .inl (upd wf wn1 (xs (i + 1))))), (ou, .inl (cJ, 1, .inr (.inl (vp_updL uo 0 (((nI (wn1 + 1)) : Int32).toInt64))))), (m0, .inr (3, [.ref mk, .ref mt, .int (nI 48), .ref wo, .int ((sp_Mo_word (xs (i + 1)) (nI wn1) wf).2.2.1), .ref re, .int nx, .int ph, .int dn, .int ((sp_Mo_word (xs (i + 1)) (nI wn1) wf).2.1), .ref ro, .ref aa, .ref si, .ref so, .ref la, .int (nI (rGd rc)), .int (nI (rGl rc)), .int (nI (rGt rc)), .int (nI (rGr rc)), .ref ip, .ref oq, .ref cp, .int (nI (rGi rc)), .int (nI (rGo rc))])), (wo, .inl (cI, 4000, .inl ((sp_Mo_word (xs (i + 1)) (nI wn1) wf).2.2.2)))] := hD
    refine W.widen (k := ce1) (n := sl1) (Nat.le_refl _) (Nat.le_refl _) ?_
    rw [mow_n hw4] at hP hD
    have hP : va_P D zC [(ra, .inl (cI, 32, .inl (rg))), (ma, .inr (1, [.int (nI (cMd c0)), .int (nI (cBt c0)), .int (nI (cLo c0)), .int (nI (cNl c0)), .ref (cSa c0), .ref (cTa c0), .ref (cFa c0), .ref (cPa c0), .int (nI (cPe c0)), .ref ba])), ((cSa c0), .inl (cI, (cRn c0), .inl (cSf c0))), ((cTa c0), .inl (cI, (cRn c0), .inl (cTf c0))), ((cFa c0), .inl (cI, (cRn c0), .inl (cUf c0))), ((cPa c0), .inl (cB, (cPn c0), .inl (cPf c0))), (ba, .inl (cB, 4000, .inl (fun _ => 0))), (ua, .inr (2, [.ref ur, .int (nI ui), .int (nI uh)])), (ur, .inl (cB, 1000, .inl (uq))), (oa, .inr (2, [.ref orr, .int (nI oi), .int (nI oh)])), (orr, .inl (cB, 4096, .inl (oqf))), (mk, .inl (cI, 50, .inl (tM))), (mt, .inl (cI, 50, .inl (tV))), (re, .inl (cI, 32, .inl (rg))), (ro, .inl (cB, 90000, .inl (rRf rc))), (aa, .inl (cI, 8001, .inl (rAf rc))), (si, .inl (cI, 8001, .inl (rZf rc))), (so, .inl (cI, 8001, .inl (rOf rc))), (la, .inl (cI, 8001, .inl (rLf rc))), (ip, .inl (cB, 1000, .inl (rJf rc))), (oq, .inl (cB, 4096, .inl (rQf rc))), (cp, .inl (cB, 4000, .inl (rCf rc))), (x, .inr (0, [.ref u3, .int (nI (wn1 + 1)), .ref ra, .ref ma, .ref ua, .ref oa, .int ph, .int dn, .int nx, .int fo])), (u3, .inl (cI, (wdl wl (wn1 + 1) 4000), .inl (upd wf wn1 (xs (i + 1))))), (ou, .inl (cJ, 1, .inr (.inl (vp_updL uo 0 (((nI (wn1 + 1)) : Int32).toInt64))))), (m0, .inr (3, [.ref mk, .ref mt, .int (nI 48), .ref wo, .int (nI (wn1 + 1)), .ref re, .int nx, .int ph, .int dn, .int 0, .ref ro, .ref aa, .ref si, .ref so, .ref la, .int (nI (rGd rc)), .int (nI (rGl rc)), .int (nI (rGt rc)), .int (nI (rGr rc)), .ref ip, .ref oq, .ref cp, .int (nI (rGi rc)), .int (nI (rGo rc))])), (wo, .inl (cI, 4000, .inl (upd wf wn1 (xs (i + 1)))))] _ := hP
    have hD : va_D A [(ra, .inl (cI, 32, .inl (rg))), (ma, .inr (1, [.int (nI (cMd c0)), .int (nI (cBt c0)), .int (nI (cLo c0)), .int (nI (cNl c0)), .ref (cSa c0), .ref (cTa c0), .ref (cFa c0), .ref (cPa c0), .int (nI (cPe c0)), .ref ba])), ((cSa c0), .inl (cI, (cRn c0), .inl (cSf c0))), ((cTa c0), .inl (cI, (cRn c0), .inl (cTf c0))), ((cFa c0), .inl (cI, (cRn c0), .inl (cUf c0))), ((cPa c0), .inl (cB, (cPn c0), .inl (cPf c0))), (ba, .inl (cB, 4000, .inl (fun _ => 0))), (ua, .inr (2, [.ref ur, .int (nI ui), .int (nI uh)])), (ur, .inl (cB, 1000, .inl (uq))), (oa, .inr (2, [.ref orr, .int (nI oi), .int (nI oh)])), (orr, .inl (cB, 4096, .inl (oqf))), (mk, .inl (cI, 50, .inl (tM))), (mt, .inl (cI, 50, .inl (tV))), (re, .inl (cI, 32, .inl (rg))), (ro, .inl (cB, 90000, .inl (rRf rc))), (aa, .inl (cI, 8001, .inl (rAf rc))), (si, .inl (cI, 8001, .inl (rZf rc))), (so, .inl (cI, 8001, .inl (rOf rc))), (la, .inl (cI, 8001, .inl (rLf rc))), (ip, .inl (cB, 1000, .inl (rJf rc))), (oq, .inl (cB, 4096, .inl (rQf rc))), (cp, .inl (cB, 4000, .inl (rCf rc))), (x, .inr (0, [.ref u3, .int (nI (wn1 + 1)), .ref ra, .ref ma, .ref ua, .ref oa, .int ph, .int dn, .int nx, .int fo])), (u3, .inl (cI, (wdl wl (wn1 + 1) 4000), .inl (upd wf wn1 (xs (i + 1))))), (ou, .inl (cJ, 1, .inr (.inl (vp_updL uo 0 (((nI (wn1 + 1)) : Int32).toInt64))))), (m0, .inr (3, [.ref mk, .ref mt, .int (nI 48), .ref wo, .int (nI (wn1 + 1)), .ref re, .int nx, .int ph, .int dn, .int 0, .ref ro, .ref aa, .ref si, .ref so, .ref la, .int (nI (rGd rc)), .int (nI (rGl rc)), .int (nI (rGt rc)), .int (nI (rGr rc)), .ref ip, .ref oq, .ref cp, .int (nI (rGi rc)), .int (nI (rGo rc))])), (wo, .inl (cI, 4000, .inl (upd wf wn1 (xs (i + 1)))))] := hD
    refine z_st (st' := [.int (nI (wn1 + 1))]) (by rw [show (((sp_Mo_word (xs (i + 1)) (nI wn1) wf).1) : Int32) = nI (wn1 + 1) from by rw [mow_n hw4]]) ?_
    refine lv_istore (lv' := [(6, .int (nI (wn1 + 1))), (5, .int 0), (4, .int (nI i)), (3, .ref ou), (2, .ref m0), (1, .ref x), (0, .ref b)]) hx hb d_La_law_119 hl (by decide) rfl (fun ls hl => ?_)
    refine lv_aload_n hx hb d_La_law_121 rfl (lv_at hl 4 rfl) ?_
    have hkeep : ∀ (q : Addr) (c : Cell), s.heap[q]? = some c → H[q]? = some c := fun q c h => by rw [hS.2.1 q (Array.getElem?_eq_some_iff.mp h).1 (hAn q (Array.getElem?_eq_some_iff.mp h).1)]; exact h
    refine zgoi (wr := [(ra, .inl (cI, 32, .inl (rg))), (ma, .inr (1, [.int (nI (cMd c0)), .int (nI (cBt c0)), .int (nI (cLo c0)), .int (nI (cNl c0)), .ref (cSa c0), .ref (cTa c0), .ref (cFa c0), .ref (cPa c0), .int (nI (cPe c0)), .ref ba])), ((cSa c0), .inl (cI, (cRn c0), .inl (cSf c0))), ((cTa c0), .inl (cI, (cRn c0), .inl (cTf c0))), ((cFa c0), .inl (cI, (cRn c0), .inl (cUf c0))), ((cPa c0), .inl (cB, (cPn c0), .inl (cPf c0))), (ba, .inl (cB, 4000, .inl (fun _ => 0))), (ua, .inr (2, [.ref ur, .int (nI ui), .int (nI uh)])), (ur, .inl (cB, 1000, .inl (uq))), (oa, .inr (2, [.ref orr, .int (nI oi), .int (nI oh)])), (orr, .inl (cB, 4096, .inl (oqf))), (mk, .inl (cI, 50, .inl (tM))), (mt, .inl (cI, 50, .inl (tV))), (re, .inl (cI, 32, .inl (rg))), (ro, .inl (cB, 90000, .inl (rRf rc))), (aa, .inl (cI, 8001, .inl (rAf rc))), (si, .inl (cI, 8001, .inl (rZf rc))), (so, .inl (cI, 8001, .inl (rOf rc))), (la, .inl (cI, 8001, .inl (rLf rc))), (ip, .inl (cB, 1000, .inl (rJf rc))), (oq, .inl (cB, 4096, .inl (rQf rc))), (cp, .inl (cB, 4000, .inl (rCf rc))), (x, .inr (0, [.ref u3, .int (nI (wn1 + 1)), .ref ra, .ref ma, .ref ua, .ref oa, .int ph, .int dn, .int nx, .int fo])), (u3, .inl (cI, (wdl wl (wn1 + 1) 4000), .inl (upd wf wn1 (xs (i + 1))))), (ou, .inl (cJ, 1, .inr (.inl (vp_updL uo 0 (((nI (wn1 + 1)) : Int32).toInt64))))), (wo, .inl (cI, 4000, .inl (upd wf wn1 (xs (i + 1)))))]) (zrunV (n := 0) (As := []) (rest := []) hE (c_Mo_thrown l D cI cB cJ _ m0 mk mt (nI 48) wo (nI (wn1 + 1)) re nx ph dn 0 ro aa si so la (nI (rGd rc)) (nI (rGl rc)) (nI (rGt rc)) (nI (rGr rc)) ip oq cp (nI (rGi rc)) (nI (rGo rc))) cb_Mo_thrown lk_La_53 in_Mo_thrown se_Mo_thrown (zpreV (q0 := 25) hK hP hD rfl rfl rfl [25] rfl rfl rfl) ⟨Nat.le_of_ble_eq_true rfl, Nat.le_of_ble_eq_true rfl, by show ce1 + (0) ≤ 601024; omega, by show sl1 + (0) ≤ 7293033; omega⟩ rfl hl.1 rfl (Nat.le_of_ble_eq_true rfl) d_La_law_122) hP hD hS hA [25] [0, 1, 2, 3, 4, 5, 6, 7, 8, 9, 10, 11, 12, 13, 14, 15, 16, 17, 18, 19, 20, 21, 22, 23, 24, 26] rfl rfl rfl (by decide) (fun r8 u9 H locs hq7 hP hD hS => ?_)
    subst hq7
    have hP : va_P D zC [(ra, .inl (cI, 32, .inl (rg))), (ma, .inr (1, [.int (nI (cMd c0)), .int (nI (cBt c0)), .int (nI (cLo c0)), .int (nI (cNl c0)), .ref (cSa c0), .ref (cTa c0), .ref (cFa c0), .ref (cPa c0), .int (nI (cPe c0)), .ref ba])), ((cSa c0), .inl (cI, (cRn c0), .inl (cSf c0))), ((cTa c0), .inl (cI, (cRn c0), .inl (cTf c0))), ((cFa c0), .inl (cI, (cRn c0), .inl (cUf c0))), ((cPa c0), .inl (cB, (cPn c0), .inl (cPf c0))), (ba, .inl (cB, 4000, .inl (fun _ => 0))), (ua, .inr (2, [.ref ur, .int (nI ui), .int (nI uh)])), (ur, .inl (cB, 1000, .inl (uq))), (oa, .inr (2, [.ref orr, .int (nI oi), .int (nI oh)])), (orr, .inl (cB, 4096, .inl (oqf))), (mk, .inl (cI, 50, .inl (tM))), (mt, .inl (cI, 50, .inl (tV))), (re, .inl (cI, 32, .inl (rg))), (ro, .inl (cB, 90000, .inl (rRf rc))), (aa, .inl (cI, 8001, .inl (rAf rc))), (si, .inl (cI, 8001, .inl (rZf rc))), (so, .inl (cI, 8001, .inl (rOf rc))), (la, .inl (cI, 8001, .inl (rLf rc))), (ip, .inl (cB, 1000, .inl (rJf rc))), (oq, .inl (cB, 4096, .inl (rQf rc))), (cp, .inl (cB, 4000, .inl (rCf rc))), (x, .inr (0, [.ref u3, .int (nI (wn1 + 1)), .ref ra, .ref ma, .ref ua, .ref oa, .int ph, .int dn, .int nx, .int fo])), (u3, .inl (cI, (wdl wl (wn1 + 1) 4000), .inl (upd wf wn1 (xs (i + 1))))), (ou, .inl (cJ, 1, .inr (.inl (vp_updL uo 0 (((nI (wn1 + 1)) : Int32).toInt64))))), (wo, .inl (cI, 4000, .inl (upd wf wn1 (xs (i + 1))))), (m0, .inr (3, [.ref mk, .ref mt, .int (nI 48), .ref wo, .int (nI (wn1 + 1)), .ref re, .int nx, .int ph, .int dn, .int 0, .ref ro, .ref aa, .ref si, .ref so, .ref la, .int (nI (rGd rc)), .int (nI (rGl rc)), .int (nI (rGt rc)), .int (nI (rGr rc)), .ref ip, .ref oq, .ref cp, .int (nI (rGi rc)), .int (nI (rGo rc))]))] _ := hP
    have hD : va_D A [(ra, .inl (cI, 32, .inl (rg))), (ma, .inr (1, [.int (nI (cMd c0)), .int (nI (cBt c0)), .int (nI (cLo c0)), .int (nI (cNl c0)), .ref (cSa c0), .ref (cTa c0), .ref (cFa c0), .ref (cPa c0), .int (nI (cPe c0)), .ref ba])), ((cSa c0), .inl (cI, (cRn c0), .inl (cSf c0))), ((cTa c0), .inl (cI, (cRn c0), .inl (cTf c0))), ((cFa c0), .inl (cI, (cRn c0), .inl (cUf c0))), ((cPa c0), .inl (cB, (cPn c0), .inl (cPf c0))), (ba, .inl (cB, 4000, .inl (fun _ => 0))), (ua, .inr (2, [.ref ur, .int (nI ui), .int (nI uh)])), (ur, .inl (cB, 1000, .inl (uq))), (oa, .inr (2, [.ref orr, .int (nI oi), .int (nI oh)])), (orr, .inl (cB, 4096, .inl (oqf))), (mk, .inl (cI, 50, .inl (tM))), (mt, .inl (cI, 50, .inl (tV))), (re, .inl (cI, 32, .inl (rg))), (ro, .inl (cB, 90000, .inl (rRf rc))), (aa, .inl (cI, 8001, .inl (rAf rc))), (si, .inl (cI, 8001, .inl (rZf rc))), (so, .inl (cI, 8001, .inl (rOf rc))), (la, .inl (cI, 8001, .inl (rLf rc))), (ip, .inl (cB, 1000, .inl (rJf rc))), (oq, .inl (cB, 4096, .inl (rQf rc))), (cp, .inl (cB, 4000, .inl (rCf rc))), (x, .inr (0, [.ref u3, .int (nI (wn1 + 1)), .ref ra, .ref ma, .ref ua, .ref oa, .int ph, .int dn, .int nx, .int fo])), (u3, .inl (cI, (wdl wl (wn1 + 1) 4000), .inl (upd wf wn1 (xs (i + 1))))), (ou, .inl (cJ, 1, .inr (.inl (vp_updL uo 0 (((nI (wn1 + 1)) : Int32).toInt64))))), (wo, .inl (cI, 4000, .inl (upd wf wn1 (xs (i + 1))))), (m0, .inr (3, [.ref mk, .ref mt, .int (nI 48), .ref wo, .int (nI (wn1 + 1)), .ref re, .int nx, .int ph, .int dn, .int 0, .ref ro, .ref aa, .ref si, .ref so, .ref la, .int (nI (rGd rc)), .int (nI (rGl rc)), .int (nI (rGt rc)), .int (nI (rGr rc)), .ref ip, .ref oq, .ref cp, .int (nI (rGi rc)), .int (nI (rGo rc))]))] := hD
    refine W.widen (k := ce1) (n := sl1) (Nat.le_refl _) (Nat.le_refl _) ?_
    refine z_st (st' := [.int 0]) (by rw [show (((sp_Mo_thrown 0)) : Int32) = 0 from rfl]) ?_
    refine lv_iload hx hb d_La_law_125 (lv_at hl 1 rfl) ?_
    refine lv_icmp_eq (tgt := 132) hx hb d_La_law_127 (by decide) (fun h10 => ?_) (fun h10 => (show False by revert h10; decide).elim)
    refine lv_iload hx hb d_La_law_132 (lv_at hl 1 rfl) ?_
    refine lv_if_ne (tgt := 149) hx hb d_La_law_134 (by decide) (fun h11 => (show False by revert h11; decide).elim) (fun h11 => ?_)
    refine lv_aload_n hx hb d_La_law_137 rfl (lv_at hl 3 rfl) ?_
    refine lv_iconst (v := 0) hx hb d_La_law_138 (by decide) ?_
    refine va_lald hx hb hK hP 24 2 rfl rfl (by unfold vp_in; decide) d_La_law_139 ?_
    refine z_st (st' := [.long ((vp_updL uo 0 (((nI (wn1 + 1)) : Int32).toInt64)) 0)]) rfl ?_
    refine z_st (st' := [.long ((nI (wn1 + 1) : Int32).toInt64)]) (by rw [show (((vp_updL uo 0 (((nI (wn1 + 1)) : Int32).toInt64)) 0) : Int64) = (nI (wn1 + 1) : Int32).toInt64 from pk_uLs]) ?_
    refine lv_iload hx hb d_La_law_140 (lv_at hl 0 rfl) ?_
    refine lv_i2l (v := (nI (wn1 + 1) : Int32).toInt64) hx hb d_La_law_142 rfl ?_
    refine W.lcmp hx hb d_La_law_143 ?_
    refine z_st (st' := [.int 0]) (by rw [show ((lg_cmp ((nI (wn1 + 1) : Int32).toInt64) ((nI (wn1 + 1) : Int32).toInt64)) : Int32) = 0 from (lg_cmp_eq _ _).mpr rfl]) ?_
    refine lv_if_eq (tgt := 149) hx hb d_La_law_144 (by decide) (fun h12 => ?_) (fun h12 => (show False by revert h12; decide).elim)
    refine lv_goto (tgt := 644) hx hb d_La_law_149 (by decide) ?_
    have hP := hP.sub (ws' := [(x, .inr (0, [.ref u3, .int (nI (wn1 + 1)), .ref ra, .ref ma, .ref ua, .ref oa, .int ph, .int dn, .int nx, .int fo])), (u3, .inl (cI, (wdl wl (wn1 + 1) 4000), .inl (upd wf wn1 (xs (i + 1))))), (ra, .inl (cI, 32, .inl (rg))), (ma, .inr (1, [.int (nI (cMd c0)), .int (nI (cBt c0)), .int (nI (cLo c0)), .int (nI (cNl c0)), .ref (cSa c0), .ref (cTa c0), .ref (cFa c0), .ref (cPa c0), .int (nI (cPe c0)), .ref ba])), ((cSa c0), .inl (cI, (cRn c0), .inl (cSf c0))), ((cTa c0), .inl (cI, (cRn c0), .inl (cTf c0))), ((cFa c0), .inl (cI, (cRn c0), .inl (cUf c0))), ((cPa c0), .inl (cB, (cPn c0), .inl (cPf c0))), (ba, .inl (cB, 4000, .inl (fun _ => 0))), (ua, .inr (2, [.ref ur, .int (nI ui), .int (nI uh)])), (ur, .inl (cB, 1000, .inl (uq))), (oa, .inr (2, [.ref orr, .int (nI oi), .int (nI oh)])), (orr, .inl (cB, 4096, .inl (oqf))), (m0, .inr (3, [.ref mk, .ref mt, .int (nI 48), .ref wo, .int (nI (wn1 + 1)), .ref re, .int nx, .int ph, .int dn, .int 0, .ref ro, .ref aa, .ref si, .ref so, .ref la, .int (nI (rGd rc)), .int (nI (rGl rc)), .int (nI (rGt rc)), .int (nI (rGr rc)), .ref ip, .ref oq, .ref cp, .int (nI (rGi rc)), .int (nI (rGo rc))])), (mk, .inl (cI, 50, .inl (tM))), (mt, .inl (cI, 50, .inl (tV))), (wo, .inl (cI, 4000, .inl (upd wf wn1 (xs (i + 1))))), (re, .inl (cI, 32, .inl (rg))), (ro, .inl (cB, 90000, .inl (rRf rc))), (aa, .inl (cI, 8001, .inl (rAf rc))), (si, .inl (cI, 8001, .inl (rZf rc))), (so, .inl (cI, 8001, .inl (rOf rc))), (la, .inl (cI, 8001, .inl (rLf rc))), (ip, .inl (cB, 1000, .inl (rJf rc))), (oq, .inl (cB, 4096, .inl (rQf rc))), (cp, .inl (cB, 4000, .inl (rCf rc))), (ou, .inl (cJ, 1, .inr (.inl (vp_updL uo 0 (((nI (wn1 + 1)) : Int32).toInt64)))))]) [22, 23, 0, 1, 2, 3, 4, 5, 6, 7, 8, 9, 10, 26, 11, 12, 25, 13, 14, 15, 16, 17, 18, 19, 20, 21, 24] rfl
    have hD := hD.sub (ws' := [(x, .inr (0, [.ref u3, .int (nI (wn1 + 1)), .ref ra, .ref ma, .ref ua, .ref oa, .int ph, .int dn, .int nx, .int fo])), (u3, .inl (cI, (wdl wl (wn1 + 1) 4000), .inl (upd wf wn1 (xs (i + 1))))), (ra, .inl (cI, 32, .inl (rg))), (ma, .inr (1, [.int (nI (cMd c0)), .int (nI (cBt c0)), .int (nI (cLo c0)), .int (nI (cNl c0)), .ref (cSa c0), .ref (cTa c0), .ref (cFa c0), .ref (cPa c0), .int (nI (cPe c0)), .ref ba])), ((cSa c0), .inl (cI, (cRn c0), .inl (cSf c0))), ((cTa c0), .inl (cI, (cRn c0), .inl (cTf c0))), ((cFa c0), .inl (cI, (cRn c0), .inl (cUf c0))), ((cPa c0), .inl (cB, (cPn c0), .inl (cPf c0))), (ba, .inl (cB, 4000, .inl (fun _ => 0))), (ua, .inr (2, [.ref ur, .int (nI ui), .int (nI uh)])), (ur, .inl (cB, 1000, .inl (uq))), (oa, .inr (2, [.ref orr, .int (nI oi), .int (nI oh)])), (orr, .inl (cB, 4096, .inl (oqf))), (m0, .inr (3, [.ref mk, .ref mt, .int (nI 48), .ref wo, .int (nI (wn1 + 1)), .ref re, .int nx, .int ph, .int dn, .int 0, .ref ro, .ref aa, .ref si, .ref so, .ref la, .int (nI (rGd rc)), .int (nI (rGl rc)), .int (nI (rGt rc)), .int (nI (rGr rc)), .ref ip, .ref oq, .ref cp, .int (nI (rGi rc)), .int (nI (rGo rc))])), (mk, .inl (cI, 50, .inl (tM))), (mt, .inl (cI, 50, .inl (tV))), (wo, .inl (cI, 4000, .inl (upd wf wn1 (xs (i + 1))))), (re, .inl (cI, 32, .inl (rg))), (ro, .inl (cB, 90000, .inl (rRf rc))), (aa, .inl (cI, 8001, .inl (rAf rc))), (si, .inl (cI, 8001, .inl (rZf rc))), (so, .inl (cI, 8001, .inl (rOf rc))), (la, .inl (cI, 8001, .inl (rLf rc))), (ip, .inl (cB, 1000, .inl (rJf rc))), (oq, .inl (cB, 4096, .inl (rQf rc))), (cp, .inl (cB, 4000, .inl (rCf rc))), (ou, .inl (cJ, 1, .inr (.inl (vp_updL uo 0 (((nI (wn1 + 1)) : Int32).toInt64)))))]) [22, 23, 0, 1, 2, 3, 4, 5, 6, 7, 8, 9, 10, 26, 11, 12, 25, 13, 14, 15, 16, 17, 18, 19, 20, 21, 24] rfl rfl
    have hl9 := lv_sub (l' := [(4, .int (nI i)), (3, .ref ou), (2, .ref m0), (1, .ref x), (0, .ref b)]) hl [2, 3, 4, 5, 6] rfl
    exact kk u3 (wdl wl (wn1 + 1) 4000) c0 ui uh uq oi oh oqf rc 0 rg M I O ph dn nx fo (wn1 + 1) (upd wf wn1 (xs (i + 1))) (vp_updL uo 0 (((nI (wn1 + 1)) : Int32).toInt64)) ls H locs _ _ ⟨hRc, hIb, hOb, hRr, by omega, wdl_gt (by omega), wdl_le hwl4, fun j hj => by rw [upd_ne (by omega)]; exact hwz j (by omega), hpc⟩ (by show ce1 + fuC c0 + rem ≤ 575; omega) (by show sl1 + fuS c0 + 4000 * rem ≤ 3128806; omega) hl9 hP hD hS
  · have hkeep : ∀ (q : Addr) (c : Cell), s.heap[q]? = some c → H[q]? = some c := fun q c h => by rw [hS.2.1 q (Array.getElem?_eq_some_iff.mp h).1 (hAn q (Array.getElem?_eq_some_iff.mp h).1)]; exact h
    refine zgoi (wr := [(wa, .inl (cI, wl, .inl (wf))), (ra, .inl (cI, 32, .inl (rg))), (ma, .inr (1, [.int (nI (cMd c0)), .int (nI (cBt c0)), .int (nI (cLo c0)), .int (nI (cNl c0)), .ref (cSa c0), .ref (cTa c0), .ref (cFa c0), .ref (cPa c0), .int (nI (cPe c0)), .ref ba])), ((cSa c0), .inl (cI, (cRn c0), .inl (cSf c0))), ((cTa c0), .inl (cI, (cRn c0), .inl (cTf c0))), ((cFa c0), .inl (cI, (cRn c0), .inl (cUf c0))), ((cPa c0), .inl (cB, (cPn c0), .inl (cPf c0))), (ba, .inl (cB, 4000, .inl (fun _ => 0))), (ua, .inr (2, [.ref ur, .int (nI ui), .int (nI uh)])), (ur, .inl (cB, 1000, .inl (uq))), (oa, .inr (2, [.ref orr, .int (nI oi), .int (nI oh)])), (orr, .inl (cB, 4096, .inl (oqf))), (m0, .inr (3, [.ref mk, .ref mt, .int (nI 48), .ref wo, .int (nI wn1), .ref re, .int nx, .int ph, .int dn, .int th, .ref ro, .ref aa, .ref si, .ref so, .ref la, .int (nI (rGd rc)), .int (nI (rGl rc)), .int (nI (rGt rc)), .int (nI (rGr rc)), .ref ip, .ref oq, .ref cp, .int (nI (rGi rc)), .int (nI (rGo rc))])), (mk, .inl (cI, 50, .inl (tM))), (mt, .inl (cI, 50, .inl (tV))), (wo, .inl (cI, 4000, .inl (wf))), (re, .inl (cI, 32, .inl (rg))), (ro, .inl (cB, 90000, .inl (rRf rc))), (aa, .inl (cI, 8001, .inl (rAf rc))), (si, .inl (cI, 8001, .inl (rZf rc))), (so, .inl (cI, 8001, .inl (rOf rc))), (la, .inl (cI, 8001, .inl (rLf rc))), (ip, .inl (cB, 1000, .inl (rJf rc))), (oq, .inl (cB, 4096, .inl (rQf rc))), (cp, .inl (cB, 4000, .inl (rCf rc))), (ou, .inl (cJ, 1, .inr (.inl (uo))))]) (zrunSH (n := 3) (As := [.ref x, .int (xs (i + 1)), .ref ou]) (rest := []) hE (h_La_word_t1 l htr D cI cB cJ _ x (xs (i + 1)) ou wa wn1 ra ma ua oa ph dn nx fo (by rw [hwnI]; omega)) cbh_La_word lr_La_47 st_La_word (hpreS hst hkeep hK hP hD [0] rfl rfl rfl) ⟨Nat.le_of_ble_eq_true rfl, Nat.le_of_ble_eq_true rfl, by show cells + (1) ≤ 601024; omega, by show slots + (6) ≤ 7293033; omega⟩ rfl hl.1 rfl (Nat.le_of_ble_eq_true rfl) d_La_law_104) hP hD hS hA [0] [1, 2, 3, 4, 5, 6, 7, 8, 9, 10, 11, 12, 13, 14, 15, 16, 17, 18, 19, 20, 21, 22, 23, 24, 25, 26] rfl rfl rfl (by decide) (fun r14 u15 H locs hq13 hP hD hS => ?_)
    subst hq13
    have hP : va_P D zC [(wa, .inl (cI, wl, .inl (wf))), (ra, .inl (cI, 32, .inl (rg))), (ma, .inr (1, [.int (nI (cMd c0)), .int (nI (cBt c0)), .int (nI (cLo c0)), .int (nI (cNl c0)), .ref (cSa c0), .ref (cTa c0), .ref (cFa c0), .ref (cPa c0), .int (nI (cPe c0)), .ref ba])), ((cSa c0), .inl (cI, (cRn c0), .inl (cSf c0))), ((cTa c0), .inl (cI, (cRn c0), .inl (cTf c0))), ((cFa c0), .inl (cI, (cRn c0), .inl (cUf c0))), ((cPa c0), .inl (cB, (cPn c0), .inl (cPf c0))), (ba, .inl (cB, 4000, .inl (fun _ => 0))), (ua, .inr (2, [.ref ur, .int (nI ui), .int (nI uh)])), (ur, .inl (cB, 1000, .inl (uq))), (oa, .inr (2, [.ref orr, .int (nI oi), .int (nI oh)])), (orr, .inl (cB, 4096, .inl (oqf))), (m0, .inr (3, [.ref mk, .ref mt, .int (nI 48), .ref wo, .int (nI wn1), .ref re, .int nx, .int ph, .int dn, .int th, .ref ro, .ref aa, .ref si, .ref so, .ref la, .int (nI (rGd rc)), .int (nI (rGl rc)), .int (nI (rGt rc)), .int (nI (rGr rc)), .ref ip, .ref oq, .ref cp, .int (nI (rGi rc)), .int (nI (rGo rc))])), (mk, .inl (cI, 50, .inl (tM))), (mt, .inl (cI, 50, .inl (tV))), (wo, .inl (cI, 4000, .inl (wf))), (re, .inl (cI, 32, .inl (rg))), (ro, .inl (cB, 90000, .inl (rRf rc))), (aa, .inl (cI, 8001, .inl (rAf rc))), (si, .inl (cI, 8001, .inl (rZf rc))), (so, .inl (cI, 8001, .inl (rOf rc))), (la, .inl (cI, 8001, .inl (rLf rc))), (ip, .inl (cB, 1000, .inl (rJf rc))), (oq, .inl (cB, 4096, .inl (rQf rc))), (cp, .inl (cB, 4000, .inl (rCf rc))), (ou, .inl (cJ, 1, .inr (.inl (uo)))), (x, .inr (0, [.ref wa, .int (nI wn1), .ref ra, .ref ma, .ref ua, .ref oa, .int ph, .int dn, .int nx, .int fo]))] _ := hP
    have hD : va_D A [(wa, .inl (cI, wl, .inl (wf))), (ra, .inl (cI, 32, .inl (rg))), (ma, .inr (1, [.int (nI (cMd c0)), .int (nI (cBt c0)), .int (nI (cLo c0)), .int (nI (cNl c0)), .ref (cSa c0), .ref (cTa c0), .ref (cFa c0), .ref (cPa c0), .int (nI (cPe c0)), .ref ba])), ((cSa c0), .inl (cI, (cRn c0), .inl (cSf c0))), ((cTa c0), .inl (cI, (cRn c0), .inl (cTf c0))), ((cFa c0), .inl (cI, (cRn c0), .inl (cUf c0))), ((cPa c0), .inl (cB, (cPn c0), .inl (cPf c0))), (ba, .inl (cB, 4000, .inl (fun _ => 0))), (ua, .inr (2, [.ref ur, .int (nI ui), .int (nI uh)])), (ur, .inl (cB, 1000, .inl (uq))), (oa, .inr (2, [.ref orr, .int (nI oi), .int (nI oh)])), (orr, .inl (cB, 4096, .inl (oqf))), (m0, .inr (3, [.ref mk, .ref mt, .int (nI 48), .ref wo, .int (nI wn1), .ref re, .int nx, .int ph, .int dn, .int th, .ref ro, .ref aa, .ref si, .ref so, .ref la, .int (nI (rGd rc)), .int (nI (rGl rc)), .int (nI (rGt rc)), .int (nI (rGr rc)), .ref ip, .ref oq, .ref cp, .int (nI (rGi rc)), .int (nI (rGo rc))])), (mk, .inl (cI, 50, .inl (tM))), (mt, .inl (cI, 50, .inl (tV))), (wo, .inl (cI, 4000, .inl (wf))), (re, .inl (cI, 32, .inl (rg))), (ro, .inl (cB, 90000, .inl (rRf rc))), (aa, .inl (cI, 8001, .inl (rAf rc))), (si, .inl (cI, 8001, .inl (rZf rc))), (so, .inl (cI, 8001, .inl (rOf rc))), (la, .inl (cI, 8001, .inl (rLf rc))), (ip, .inl (cB, 1000, .inl (rJf rc))), (oq, .inl (cB, 4096, .inl (rQf rc))), (cp, .inl (cB, 4000, .inl (rCf rc))), (ou, .inl (cJ, 1, .inr (.inl (uo)))), (x, .inr (0, [.ref wa, .int (nI wn1), .ref ra, .ref ma, .ref ua, .ref oa, .int ph, .int dn, .int nx, .int fo]))] := hD
    obtain ⟨ce2, hce2⟩ : ∃ q, q = cells + 1 := ⟨_, rfl⟩
    obtain ⟨sl2, hsl2⟩ : ∃ q, q = slots + 6 := ⟨_, rfl⟩
    refine W.widen (k := ce2) (n := sl2) (Nat.le_of_eq hce2.symm) (Nat.le_of_eq hsl2.symm) ?_
    have hw5 : wn1 = 4000 := by omega
    refine lv_istore (lv' := [(5, .int 1), (4, .int (nI i)), (3, .ref ou), (2, .ref m0), (1, .ref x), (0, .ref b)]) hx hb d_La_law_107 hl (by decide) rfl (fun ls hl => ?_)
    refine lv_aload_n hx hb d_La_law_109 rfl (lv_at hl 3 rfl) ?_
    refine lv_aload_n hx hb d_La_law_110 rfl (lv_at hl 5 rfl) ?_
    refine lv_iload hx hb d_La_law_111 (lv_at hl 1 rfl) ?_
    refine lv_iconst (v := 1) hx hb d_La_law_113 (by decide) ?_
    refine lv_iadd hx hb d_La_law_114 ?_
    refine z_st (st' := [.int (nI (i + 1)), .ref b, .ref m0]) (by rw [show (((nI i) + 1) : Int32) = nI (i + 1) from nI_add i 1]) ?_
    refine va_sld (i := nI (i + 1)) hx hb hX hbl (hAn b hbl) hS (vp_in_nI (by omega) (by omega)) d_La_law_115 ?_
    refine z_st (st' := [.int (xs (i + 1)), .ref m0]) (by rw [show ((xs (nI (i + 1)).toNatClampNeg) : Int32) = xs (i + 1) from by rw [nI_clamp (by omega)]]) ?_
    have hkeep : ∀ (q : Addr) (c : Cell), s.heap[q]? = some c → H[q]? = some c := fun q c h => by rw [hS.2.1 q (Array.getElem?_eq_some_iff.mp h).1 (hAn q (Array.getElem?_eq_some_iff.mp h).1)]; exact h
    refine zgoi (wr := [(wa, .inl (cI, wl, .inl (wf))), (ra, .inl (cI, 32, .inl (rg))), (ma, .inr (1, [.int (nI (cMd c0)), .int (nI (cBt c0)), .int (nI (cLo c0)), .int (nI (cNl c0)), .ref (cSa c0), .ref (cTa c0), .ref (cFa c0), .ref (cPa c0), .int (nI (cPe c0)), .ref ba])), ((cSa c0), .inl (cI, (cRn c0), .inl (cSf c0))), ((cTa c0), .inl (cI, (cRn c0), .inl (cTf c0))), ((cFa c0), .inl (cI, (cRn c0), .inl (cUf c0))), ((cPa c0), .inl (cB, (cPn c0), .inl (cPf c0))), (ba, .inl (cB, 4000, .inl (fun _ => 0))), (ua, .inr (2, [.ref ur, .int (nI ui), .int (nI uh)])), (ur, .inl (cB, 1000, .inl (uq))), (oa, .inr (2, [.ref orr, .int (nI oi), .int (nI oh)])), (orr, .inl (cB, 4096, .inl (oqf))), (mk, .inl (cI, 50, .inl (tM))), (mt, .inl (cI, 50, .inl (tV))), (re, .inl (cI, 32, .inl (rg))), (ro, .inl (cB, 90000, .inl (rRf rc))), (aa, .inl (cI, 8001, .inl (rAf rc))), (si, .inl (cI, 8001, .inl (rZf rc))), (so, .inl (cI, 8001, .inl (rOf rc))), (la, .inl (cI, 8001, .inl (rLf rc))), (ip, .inl (cB, 1000, .inl (rJf rc))), (oq, .inl (cB, 4096, .inl (rQf rc))), (cp, .inl (cB, 4000, .inl (rCf rc))), (ou, .inl (cJ, 1, .inr (.inl (uo)))), (x, .inr (0, [.ref wa, .int (nI wn1), .ref ra, .ref ma, .ref ua, .ref oa, .int ph, .int dn, .int nx, .int fo]))]) (zrunV (n := 1) (As := [.int (xs (i + 1))]) (rest := []) hE (c_Mo_word l D cI cB cJ _ (xs (i + 1)) m0 mk mt (nI 48) wo (nI wn1) re nx ph dn th ro aa si so la (nI (rGd rc)) (nI (rGl rc)) (nI (rGt rc)) (nI (rGr rc)) ip oq cp (nI (rGi rc)) (nI (rGo rc)) wf ⟨by rw [hwnI]; omega, by rw [hwnI]; omega⟩) cb_Mo_word lk_La_52 in_Mo_word se_Mo_word (zpreV (q0 := 12) hK hP hD rfl rfl rfl [12, 15] rfl rfl rfl) ⟨Nat.le_of_ble_eq_true rfl, Nat.le_of_ble_eq_true rfl, by show ce2 + (0) ≤ 601024; omega, by show sl2 + (0) ≤ 7293033; omega⟩ rfl hl.1 rfl (Nat.le_of_ble_eq_true rfl) d_La_law_116) hP hD hS hA [12, 15] [0, 1, 2, 3, 4, 5, 6, 7, 8, 9, 10, 11, 13, 14, 16, 17, 18, 19, 20, 21, 22, 23, 24, 25, 26] rfl rfl rfl (by decide) (fun r17 u18 H locs hq16 hP hD hS => ?_)
    subst hq16
    have hP : va_P D zC [(wa, .inl (cI, wl, .inl (wf))), (ra, .inl (cI, 32, .inl (rg))), (ma, .inr (1, [.int (nI (cMd c0)), .int (nI (cBt c0)), .int (nI (cLo c0)), .int (nI (cNl c0)), .ref (cSa c0), .ref (cTa c0), .ref (cFa c0), .ref (cPa c0), .int (nI (cPe c0)), .ref ba])), ((cSa c0), .inl (cI, (cRn c0), .inl (cSf c0))), ((cTa c0), .inl (cI, (cRn c0), .inl (cTf c0))), ((cFa c0), .inl (cI, (cRn c0), .inl (cUf c0))), ((cPa c0), .inl (cB, (cPn c0), .inl (cPf c0))), (ba, .inl (cB, 4000, .inl (fun _ => 0))), (ua, .inr (2, [.ref ur, .int (nI ui), .int (nI uh)])), (ur, .inl (cB, 1000, .inl (uq))), (oa, .inr (2, [.ref orr, .int (nI oi), .int (nI oh)])), (orr, .inl (cB, 4096, .inl (oqf))), (mk, .inl (cI, 50, .inl (tM))), (mt, .inl (cI, 50, .inl (tV))), (re, .inl (cI, 32, .inl (rg))), (ro, .inl (cB, 90000, .inl (rRf rc))), (aa, .inl (cI, 8001, .inl (rAf rc))), (si, .inl (cI, 8001, .inl (rZf rc))), (so, .inl (cI, 8001, .inl (rOf rc))), (la, .inl (cI, 8001, .inl (rLf rc))), (ip, .inl (cB, 1000, .inl (rJf rc))), (oq, .inl (cB, 4096, .inl (rQf rc))), (cp, .inl (cB, 4000, .inl (rCf rc))), (ou, .inl (cJ, 1, .inr (.inl (uo)))), (x, .inr (0, [.ref wa, .int (nI wn1), .ref ra, .ref ma, .ref ua, .ref oa, .int ph, .int dn, .int nx, .int fo])), (m0, .inr (3, [.ref mk, .ref mt, .int (nI 48), .ref wo, .int ((sp_Mo_word (xs (i + 1)) (nI wn1) wf).2.2.1), .ref re, .int nx, .int ph, .int dn, .int ((sp_Mo_word (xs (i + 1)) (nI wn1) wf).2.1), .ref ro, .ref aa, .ref si, .ref so, .ref la, .int (nI (rGd rc)), .int (nI (rGl rc)), .int (nI (rGt rc)), .int (nI (rGr rc)), .ref ip, .ref oq, .ref cp, .int (nI (rGi rc)), .int (nI (rGo rc))])), (wo, .inl (cI, 4000, .inl ((sp_Mo_word (xs (i + 1)) (nI wn1) wf).2.2.2)))] _ := hP
    have hD : va_D A [(wa, .inl (cI, wl, .inl (wf))), (ra, .inl (cI, 32, .inl (rg))), (ma, .inr (1, [.int (nI (cMd c0)), .int (nI (cBt c0)), .int (nI (cLo c0)), .int (nI (cNl c0)), .ref (cSa c0), .ref (cTa c0), .ref (cFa c0), .ref (cPa c0), .int (nI (cPe c0)), .ref ba])), ((cSa c0), .inl (cI, (cRn c0), .inl (cSf c0))), ((cTa c0), .inl (cI, (cRn c0), .inl (cTf c0))), ((cFa c0), .inl (cI, (cRn c0), .inl (cUf c0))), ((cPa c0), .inl (cB, (cPn c0), .inl (cPf c0))), (ba, .inl (cB, 4000, .inl (fun _ => 0))), (ua, .inr (2, [.ref ur, .int (nI ui), .int (nI uh)])), (ur, .inl (cB, 1000, .inl (uq))), (oa, .inr (2, [.ref orr, .int (nI oi), .int (nI oh)])), (orr, .inl (cB, 4096, .inl (oqf))), (mk, .inl (cI, 50, .inl (tM))), (mt, .inl (cI, 50, .inl (tV))), (re, .inl (cI, 32, .inl (rg))), (ro, .inl (cB, 90000, .inl (rRf rc))), (aa, .inl (cI, 8001, .inl (rAf rc))), (si, .inl (cI, 8001, .inl (rZf rc))), (so, .inl (cI, 8001, .inl (rOf rc))), (la, .inl (cI, 8001, .inl (rLf rc))), (ip, .inl (cB, 1000, .inl (rJf rc))), (oq, .inl (cB, 4096, .inl (rQf rc))), (cp, .inl (cB, 4000, .inl (rCf rc))), (ou, .inl (cJ, 1, .inr (.inl (uo)))), (x, .inr (0, [.ref wa, .int (nI wn1), .ref ra, .ref ma, .ref ua, .ref oa, .int ph, .int dn, .int nx, .int fo])), (m0, .inr (3, [.ref mk, .ref mt, .int (nI 48), .ref wo, .int ((sp_Mo_word (xs (i + 1)) (nI wn1) wf).2.2.1), .ref re, .int nx, .int ph, .int dn, .int ((sp_Mo_word (xs (i + 1)) (nI wn1) wf).2.1), .ref ro, .ref aa, .ref si, .ref so, .ref la, .int (nI (rGd rc)), .int (nI (rGl rc)), .int (nI (rGt rc)), .int (nI (rGr rc)), .ref ip, .ref oq, .ref cp, .int (nI (rGi rc)), .int (nI (rGo rc))])), (wo, .inl (cI, 4000, .inl ((sp_Mo_word (xs (i + 1)) (nI wn1) wf).2.2.2)))] := hD
    refine W.widen (k := ce2) (n := sl2) (Nat.le_refl _) (Nat.le_refl _) ?_
    rw [mow_t hw5] at hP hD
    have hP : va_P D zC [(wa, .inl (cI, wl, .inl (wf))), (ra, .inl (cI, 32, .inl (rg))), (ma, .inr (1, [.int (nI (cMd c0)), .int (nI (cBt c0)), .int (nI (cLo c0)), .int (nI (cNl c0)), .ref (cSa c0), .ref (cTa c0), .ref (cFa c0), .ref (cPa c0), .int (nI (cPe c0)), .ref ba])), ((cSa c0), .inl (cI, (cRn c0), .inl (cSf c0))), ((cTa c0), .inl (cI, (cRn c0), .inl (cTf c0))), ((cFa c0), .inl (cI, (cRn c0), .inl (cUf c0))), ((cPa c0), .inl (cB, (cPn c0), .inl (cPf c0))), (ba, .inl (cB, 4000, .inl (fun _ => 0))), (ua, .inr (2, [.ref ur, .int (nI ui), .int (nI uh)])), (ur, .inl (cB, 1000, .inl (uq))), (oa, .inr (2, [.ref orr, .int (nI oi), .int (nI oh)])), (orr, .inl (cB, 4096, .inl (oqf))), (mk, .inl (cI, 50, .inl (tM))), (mt, .inl (cI, 50, .inl (tV))), (re, .inl (cI, 32, .inl (rg))), (ro, .inl (cB, 90000, .inl (rRf rc))), (aa, .inl (cI, 8001, .inl (rAf rc))), (si, .inl (cI, 8001, .inl (rZf rc))), (so, .inl (cI, 8001, .inl (rOf rc))), (la, .inl (cI, 8001, .inl (rLf rc))), (ip, .inl (cB, 1000, .inl (rJf rc))), (oq, .inl (cB, 4096, .inl (rQf rc))), (cp, .inl (cB, 4000, .inl (rCf rc))), (ou, .inl (cJ, 1, .inr (.inl (uo)))), (x, .inr (0, [.ref wa, .int (nI wn1), .ref ra, .ref ma, .ref ua, .ref oa, .int ph, .int dn, .int nx, .int fo])), (m0, .inr (3, [.ref mk, .ref mt, .int (nI 48), .ref wo, .int (nI wn1), .ref re, .int nx, .int ph, .int dn, .int 1, .ref ro, .ref aa, .ref si, .ref so, .ref la, .int (nI (rGd rc)), .int (nI (rGl rc)), .int (nI (rGt rc)), .int (nI (rGr rc)), .ref ip, .ref oq, .ref cp, .int (nI (rGi rc)), .int (nI (rGo rc))])), (wo, .inl (cI, 4000, .inl (wf)))] _ := hP
    have hD : va_D A [(wa, .inl (cI, wl, .inl (wf))), (ra, .inl (cI, 32, .inl (rg))), (ma, .inr (1, [.int (nI (cMd c0)), .int (nI (cBt c0)), .int (nI (cLo c0)), .int (nI (cNl c0)), .ref (cSa c0), .ref (cTa c0), .ref (cFa c0), .ref (cPa c0), .int (nI (cPe c0)), .ref ba])), ((cSa c0), .inl (cI, (cRn c0), .inl (cSf c0))), ((cTa c0), .inl (cI, (cRn c0), .inl (cTf c0))), ((cFa c0), .inl (cI, (cRn c0), .inl (cUf c0))), ((cPa c0), .inl (cB, (cPn c0), .inl (cPf c0))), (ba, .inl (cB, 4000, .inl (fun _ => 0))), (ua, .inr (2, [.ref ur, .int (nI ui), .int (nI uh)])), (ur, .inl (cB, 1000, .inl (uq))), (oa, .inr (2, [.ref orr, .int (nI oi), .int (nI oh)])), (orr, .inl (cB, 4096, .inl (oqf))), (mk, .inl (cI, 50, .inl (tM))), (mt, .inl (cI, 50, .inl (tV))), (re, .inl (cI, 32, .inl (rg))), (ro, .inl (cB, 90000, .inl (rRf rc))), (aa, .inl (cI, 8001, .inl (rAf rc))), (si, .inl (cI, 8001, .inl (rZf rc))), (so, .inl (cI, 8001, .inl (rOf rc))), (la, .inl (cI, 8001, .inl (rLf rc))), (ip, .inl (cB, 1000, .inl (rJf rc))), (oq, .inl (cB, 4096, .inl (rQf rc))), (cp, .inl (cB, 4000, .inl (rCf rc))), (ou, .inl (cJ, 1, .inr (.inl (uo)))), (x, .inr (0, [.ref wa, .int (nI wn1), .ref ra, .ref ma, .ref ua, .ref oa, .int ph, .int dn, .int nx, .int fo])), (m0, .inr (3, [.ref mk, .ref mt, .int (nI 48), .ref wo, .int (nI wn1), .ref re, .int nx, .int ph, .int dn, .int 1, .ref ro, .ref aa, .ref si, .ref so, .ref la, .int (nI (rGd rc)), .int (nI (rGl rc)), .int (nI (rGt rc)), .int (nI (rGr rc)), .ref ip, .ref oq, .ref cp, .int (nI (rGi rc)), .int (nI (rGo rc))])), (wo, .inl (cI, 4000, .inl (wf)))] := hD
    refine z_st (st' := [.int 0]) (by rw [show (((sp_Mo_word (xs (i + 1)) (nI wn1) wf).1) : Int32) = 0 from by rw [mow_t hw5]]) ?_
    refine lv_istore (lv' := [(6, .int 0), (5, .int 1), (4, .int (nI i)), (3, .ref ou), (2, .ref m0), (1, .ref x), (0, .ref b)]) hx hb d_La_law_119 hl (by decide) rfl (fun ls hl => ?_)
    refine lv_aload_n hx hb d_La_law_121 rfl (lv_at hl 4 rfl) ?_
    have hkeep : ∀ (q : Addr) (c : Cell), s.heap[q]? = some c → H[q]? = some c := fun q c h => by rw [hS.2.1 q (Array.getElem?_eq_some_iff.mp h).1 (hAn q (Array.getElem?_eq_some_iff.mp h).1)]; exact h
    refine zgoi (wr := [(wa, .inl (cI, wl, .inl (wf))), (ra, .inl (cI, 32, .inl (rg))), (ma, .inr (1, [.int (nI (cMd c0)), .int (nI (cBt c0)), .int (nI (cLo c0)), .int (nI (cNl c0)), .ref (cSa c0), .ref (cTa c0), .ref (cFa c0), .ref (cPa c0), .int (nI (cPe c0)), .ref ba])), ((cSa c0), .inl (cI, (cRn c0), .inl (cSf c0))), ((cTa c0), .inl (cI, (cRn c0), .inl (cTf c0))), ((cFa c0), .inl (cI, (cRn c0), .inl (cUf c0))), ((cPa c0), .inl (cB, (cPn c0), .inl (cPf c0))), (ba, .inl (cB, 4000, .inl (fun _ => 0))), (ua, .inr (2, [.ref ur, .int (nI ui), .int (nI uh)])), (ur, .inl (cB, 1000, .inl (uq))), (oa, .inr (2, [.ref orr, .int (nI oi), .int (nI oh)])), (orr, .inl (cB, 4096, .inl (oqf))), (mk, .inl (cI, 50, .inl (tM))), (mt, .inl (cI, 50, .inl (tV))), (re, .inl (cI, 32, .inl (rg))), (ro, .inl (cB, 90000, .inl (rRf rc))), (aa, .inl (cI, 8001, .inl (rAf rc))), (si, .inl (cI, 8001, .inl (rZf rc))), (so, .inl (cI, 8001, .inl (rOf rc))), (la, .inl (cI, 8001, .inl (rLf rc))), (ip, .inl (cB, 1000, .inl (rJf rc))), (oq, .inl (cB, 4096, .inl (rQf rc))), (cp, .inl (cB, 4000, .inl (rCf rc))), (ou, .inl (cJ, 1, .inr (.inl (uo)))), (x, .inr (0, [.ref wa, .int (nI wn1), .ref ra, .ref ma, .ref ua, .ref oa, .int ph, .int dn, .int nx, .int fo])), (wo, .inl (cI, 4000, .inl (wf)))]) (zrunV (n := 0) (As := []) (rest := []) hE (c_Mo_thrown l D cI cB cJ _ m0 mk mt (nI 48) wo (nI wn1) re nx ph dn 1 ro aa si so la (nI (rGd rc)) (nI (rGl rc)) (nI (rGt rc)) (nI (rGr rc)) ip oq cp (nI (rGi rc)) (nI (rGo rc))) cb_Mo_thrown lk_La_53 in_Mo_thrown se_Mo_thrown (zpreV (q0 := 25) hK hP hD rfl rfl rfl [25] rfl rfl rfl) ⟨Nat.le_of_ble_eq_true rfl, Nat.le_of_ble_eq_true rfl, by show ce2 + (0) ≤ 601024; omega, by show sl2 + (0) ≤ 7293033; omega⟩ rfl hl.1 rfl (Nat.le_of_ble_eq_true rfl) d_La_law_122) hP hD hS hA [25] [0, 1, 2, 3, 4, 5, 6, 7, 8, 9, 10, 11, 12, 13, 14, 15, 16, 17, 18, 19, 20, 21, 22, 23, 24, 26] rfl rfl rfl (by decide) (fun r20 u21 H locs hq19 hP hD hS => ?_)
    subst hq19
    have hP : va_P D zC [(wa, .inl (cI, wl, .inl (wf))), (ra, .inl (cI, 32, .inl (rg))), (ma, .inr (1, [.int (nI (cMd c0)), .int (nI (cBt c0)), .int (nI (cLo c0)), .int (nI (cNl c0)), .ref (cSa c0), .ref (cTa c0), .ref (cFa c0), .ref (cPa c0), .int (nI (cPe c0)), .ref ba])), ((cSa c0), .inl (cI, (cRn c0), .inl (cSf c0))), ((cTa c0), .inl (cI, (cRn c0), .inl (cTf c0))), ((cFa c0), .inl (cI, (cRn c0), .inl (cUf c0))), ((cPa c0), .inl (cB, (cPn c0), .inl (cPf c0))), (ba, .inl (cB, 4000, .inl (fun _ => 0))), (ua, .inr (2, [.ref ur, .int (nI ui), .int (nI uh)])), (ur, .inl (cB, 1000, .inl (uq))), (oa, .inr (2, [.ref orr, .int (nI oi), .int (nI oh)])), (orr, .inl (cB, 4096, .inl (oqf))), (mk, .inl (cI, 50, .inl (tM))), (mt, .inl (cI, 50, .inl (tV))), (re, .inl (cI, 32, .inl (rg))), (ro, .inl (cB, 90000, .inl (rRf rc))), (aa, .inl (cI, 8001, .inl (rAf rc))), (si, .inl (cI, 8001, .inl (rZf rc))), (so, .inl (cI, 8001, .inl (rOf rc))), (la, .inl (cI, 8001, .inl (rLf rc))), (ip, .inl (cB, 1000, .inl (rJf rc))), (oq, .inl (cB, 4096, .inl (rQf rc))), (cp, .inl (cB, 4000, .inl (rCf rc))), (ou, .inl (cJ, 1, .inr (.inl (uo)))), (x, .inr (0, [.ref wa, .int (nI wn1), .ref ra, .ref ma, .ref ua, .ref oa, .int ph, .int dn, .int nx, .int fo])), (wo, .inl (cI, 4000, .inl (wf))), (m0, .inr (3, [.ref mk, .ref mt, .int (nI 48), .ref wo, .int (nI wn1), .ref re, .int nx, .int ph, .int dn, .int 1, .ref ro, .ref aa, .ref si, .ref so, .ref la, .int (nI (rGd rc)), .int (nI (rGl rc)), .int (nI (rGt rc)), .int (nI (rGr rc)), .ref ip, .ref oq, .ref cp, .int (nI (rGi rc)), .int (nI (rGo rc))]))] _ := hP
    have hD : va_D A [(wa, .inl (cI, wl, .inl (wf))), (ra, .inl (cI, 32, .inl (rg))), (ma, .inr (1, [.int (nI (cMd c0)), .int (nI (cBt c0)), .int (nI (cLo c0)), .int (nI (cNl c0)), .ref (cSa c0), .ref (cTa c0), .ref (cFa c0), .ref (cPa c0), .int (nI (cPe c0)), .ref ba])), ((cSa c0), .inl (cI, (cRn c0), .inl (cSf c0))), ((cTa c0), .inl (cI, (cRn c0), .inl (cTf c0))), ((cFa c0), .inl (cI, (cRn c0), .inl (cUf c0))), ((cPa c0), .inl (cB, (cPn c0), .inl (cPf c0))), (ba, .inl (cB, 4000, .inl (fun _ => 0))), (ua, .inr (2, [.ref ur, .int (nI ui), .int (nI uh)])), (ur, .inl (cB, 1000, .inl (uq))), (oa, .inr (2, [.ref orr, .int (nI oi), .int (nI oh)])), (orr, .inl (cB, 4096, .inl (oqf))), (mk, .inl (cI, 50, .inl (tM))), (mt, .inl (cI, 50, .inl (tV))), (re, .inl (cI, 32, .inl (rg))), (ro, .inl (cB, 90000, .inl (rRf rc))), (aa, .inl (cI, 8001, .inl (rAf rc))), (si, .inl (cI, 8001, .inl (rZf rc))), (so, .inl (cI, 8001, .inl (rOf rc))), (la, .inl (cI, 8001, .inl (rLf rc))), (ip, .inl (cB, 1000, .inl (rJf rc))), (oq, .inl (cB, 4096, .inl (rQf rc))), (cp, .inl (cB, 4000, .inl (rCf rc))), (ou, .inl (cJ, 1, .inr (.inl (uo)))), (x, .inr (0, [.ref wa, .int (nI wn1), .ref ra, .ref ma, .ref ua, .ref oa, .int ph, .int dn, .int nx, .int fo])), (wo, .inl (cI, 4000, .inl (wf))), (m0, .inr (3, [.ref mk, .ref mt, .int (nI 48), .ref wo, .int (nI wn1), .ref re, .int nx, .int ph, .int dn, .int 1, .ref ro, .ref aa, .ref si, .ref so, .ref la, .int (nI (rGd rc)), .int (nI (rGl rc)), .int (nI (rGt rc)), .int (nI (rGr rc)), .ref ip, .ref oq, .ref cp, .int (nI (rGi rc)), .int (nI (rGo rc))]))] := hD
    refine W.widen (k := ce2) (n := sl2) (Nat.le_refl _) (Nat.le_refl _) ?_
    refine z_st (st' := [.int 1]) (by rw [show (((sp_Mo_thrown 1)) : Int32) = 1 from rfl]) ?_
    refine lv_iload hx hb d_La_law_125 (lv_at hl 1 rfl) ?_
    refine lv_icmp_eq (tgt := 132) hx hb d_La_law_127 (by decide) (fun h22 => ?_) (fun h22 => (show False by revert h22; decide).elim)
    refine lv_iload hx hb d_La_law_132 (lv_at hl 1 rfl) ?_
    refine lv_if_ne (tgt := 149) hx hb d_La_law_134 (by decide) (fun h23 => ?_) (fun h23 => (show False by revert h23; decide).elim)
    refine lv_goto (tgt := 644) hx hb d_La_law_149 (by decide) ?_
    have hP := hP.sub (ws' := [(x, .inr (0, [.ref wa, .int (nI wn1), .ref ra, .ref ma, .ref ua, .ref oa, .int ph, .int dn, .int nx, .int fo])), (wa, .inl (cI, wl, .inl (wf))), (ra, .inl (cI, 32, .inl (rg))), (ma, .inr (1, [.int (nI (cMd c0)), .int (nI (cBt c0)), .int (nI (cLo c0)), .int (nI (cNl c0)), .ref (cSa c0), .ref (cTa c0), .ref (cFa c0), .ref (cPa c0), .int (nI (cPe c0)), .ref ba])), ((cSa c0), .inl (cI, (cRn c0), .inl (cSf c0))), ((cTa c0), .inl (cI, (cRn c0), .inl (cTf c0))), ((cFa c0), .inl (cI, (cRn c0), .inl (cUf c0))), ((cPa c0), .inl (cB, (cPn c0), .inl (cPf c0))), (ba, .inl (cB, 4000, .inl (fun _ => 0))), (ua, .inr (2, [.ref ur, .int (nI ui), .int (nI uh)])), (ur, .inl (cB, 1000, .inl (uq))), (oa, .inr (2, [.ref orr, .int (nI oi), .int (nI oh)])), (orr, .inl (cB, 4096, .inl (oqf))), (m0, .inr (3, [.ref mk, .ref mt, .int (nI 48), .ref wo, .int (nI wn1), .ref re, .int nx, .int ph, .int dn, .int 1, .ref ro, .ref aa, .ref si, .ref so, .ref la, .int (nI (rGd rc)), .int (nI (rGl rc)), .int (nI (rGt rc)), .int (nI (rGr rc)), .ref ip, .ref oq, .ref cp, .int (nI (rGi rc)), .int (nI (rGo rc))])), (mk, .inl (cI, 50, .inl (tM))), (mt, .inl (cI, 50, .inl (tV))), (wo, .inl (cI, 4000, .inl (wf))), (re, .inl (cI, 32, .inl (rg))), (ro, .inl (cB, 90000, .inl (rRf rc))), (aa, .inl (cI, 8001, .inl (rAf rc))), (si, .inl (cI, 8001, .inl (rZf rc))), (so, .inl (cI, 8001, .inl (rOf rc))), (la, .inl (cI, 8001, .inl (rLf rc))), (ip, .inl (cB, 1000, .inl (rJf rc))), (oq, .inl (cB, 4096, .inl (rQf rc))), (cp, .inl (cB, 4000, .inl (rCf rc))), (ou, .inl (cJ, 1, .inr (.inl (uo))))]) [24, 0, 1, 2, 3, 4, 5, 6, 7, 8, 9, 10, 11, 26, 12, 13, 25, 14, 15, 16, 17, 18, 19, 20, 21, 22, 23] rfl
    have hD := hD.sub (ws' := [(x, .inr (0, [.ref wa, .int (nI wn1), .ref ra, .ref ma, .ref ua, .ref oa, .int ph, .int dn, .int nx, .int fo])), (wa, .inl (cI, wl, .inl (wf))), (ra, .inl (cI, 32, .inl (rg))), (ma, .inr (1, [.int (nI (cMd c0)), .int (nI (cBt c0)), .int (nI (cLo c0)), .int (nI (cNl c0)), .ref (cSa c0), .ref (cTa c0), .ref (cFa c0), .ref (cPa c0), .int (nI (cPe c0)), .ref ba])), ((cSa c0), .inl (cI, (cRn c0), .inl (cSf c0))), ((cTa c0), .inl (cI, (cRn c0), .inl (cTf c0))), ((cFa c0), .inl (cI, (cRn c0), .inl (cUf c0))), ((cPa c0), .inl (cB, (cPn c0), .inl (cPf c0))), (ba, .inl (cB, 4000, .inl (fun _ => 0))), (ua, .inr (2, [.ref ur, .int (nI ui), .int (nI uh)])), (ur, .inl (cB, 1000, .inl (uq))), (oa, .inr (2, [.ref orr, .int (nI oi), .int (nI oh)])), (orr, .inl (cB, 4096, .inl (oqf))), (m0, .inr (3, [.ref mk, .ref mt, .int (nI 48), .ref wo, .int (nI wn1), .ref re, .int nx, .int ph, .int dn, .int 1, .ref ro, .ref aa, .ref si, .ref so, .ref la, .int (nI (rGd rc)), .int (nI (rGl rc)), .int (nI (rGt rc)), .int (nI (rGr rc)), .ref ip, .ref oq, .ref cp, .int (nI (rGi rc)), .int (nI (rGo rc))])), (mk, .inl (cI, 50, .inl (tM))), (mt, .inl (cI, 50, .inl (tV))), (wo, .inl (cI, 4000, .inl (wf))), (re, .inl (cI, 32, .inl (rg))), (ro, .inl (cB, 90000, .inl (rRf rc))), (aa, .inl (cI, 8001, .inl (rAf rc))), (si, .inl (cI, 8001, .inl (rZf rc))), (so, .inl (cI, 8001, .inl (rOf rc))), (la, .inl (cI, 8001, .inl (rLf rc))), (ip, .inl (cB, 1000, .inl (rJf rc))), (oq, .inl (cB, 4096, .inl (rQf rc))), (cp, .inl (cB, 4000, .inl (rCf rc))), (ou, .inl (cJ, 1, .inr (.inl (uo))))]) [24, 0, 1, 2, 3, 4, 5, 6, 7, 8, 9, 10, 11, 26, 12, 13, 25, 14, 15, 16, 17, 18, 19, 20, 21, 22, 23] rfl rfl
    have hl9 := lv_sub (l' := [(4, .int (nI i)), (3, .ref ou), (2, .ref m0), (1, .ref x), (0, .ref b)]) hl [2, 3, 4, 5, 6] rfl
    exact kk wa wl c0 ui uh uq oi oh oqf rc 1 rg M I O ph dn nx fo wn1 wf uo ls H locs _ _ ⟨hRc, hIb, hOb, hRr, hw4k, hwwl, hwl4, hwz, hpc⟩ (by show ce2 + fuC c0 + rem ≤ 575; omega) (by show sl2 + fuS c0 + 4000 * rem ≤ 3128806; omega) hl9 hP hD hS
