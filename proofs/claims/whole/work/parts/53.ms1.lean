/-! decode rows -/
theorem d_Mo_service_0 : decode b_Mo_service 0 = .ok (.aload_n 0, 1) := by decide +kernel
theorem d_Mo_service_1 : decode b_Mo_service 1 = .ok (.getfield 19, 3) := by decide +kernel
theorem d_Mo_service_4 : decode b_Mo_service 4 = .ok (.bipush 10, 2) := by decide +kernel
theorem d_Mo_service_6 : decode b_Mo_service 6 = .ok (.iaload, 1) := by decide +kernel
theorem d_Mo_service_7 : decode b_Mo_service 7 = .ok (.istore_n 1, 1) := by decide +kernel
theorem d_Mo_service_8 : decode b_Mo_service 8 = .ok (.aload_n 0, 1) := by decide +kernel
theorem d_Mo_service_9 : decode b_Mo_service 9 = .ok (.getfield 19, 3) := by decide +kernel
theorem d_Mo_service_12 : decode b_Mo_service 12 = .ok (.bipush 11, 2) := by decide +kernel
theorem d_Mo_service_14 : decode b_Mo_service 14 = .ok (.iaload, 1) := by decide +kernel
theorem d_Mo_service_15 : decode b_Mo_service 15 = .ok (.istore_n 2, 1) := by decide +kernel
theorem d_Mo_service_16 : decode b_Mo_service 16 = .ok (.aload_n 0, 1) := by decide +kernel
theorem d_Mo_service_17 : decode b_Mo_service 17 = .ok (.getfield 19, 3) := by decide +kernel
theorem d_Mo_service_20 : decode b_Mo_service 20 = .ok (.bipush 12, 2) := by decide +kernel
theorem d_Mo_service_22 : decode b_Mo_service 22 = .ok (.iaload, 1) := by decide +kernel
theorem d_Mo_service_23 : decode b_Mo_service 23 = .ok (.istore_n 3, 1) := by decide +kernel
theorem d_Mo_service_24 : decode b_Mo_service 24 = .ok (.aload_n 0, 1) := by decide +kernel
theorem d_Mo_service_25 : decode b_Mo_service 25 = .ok (.getfield 19, 3) := by decide +kernel
theorem d_Mo_service_28 : decode b_Mo_service 28 = .ok (.bipush 17, 2) := by decide +kernel
theorem d_Mo_service_30 : decode b_Mo_service 30 = .ok (.iaload, 1) := by decide +kernel
theorem d_Mo_service_31 : decode b_Mo_service 31 = .ok (.tableswitch 496 0 8 #[49, 55, 147, 55, 206, 258, 292, 357, 374], 49) := by decide +kernel
theorem d_Mo_service_80 : decode b_Mo_service 80 = .ok (.aload_n 0, 1) := by decide +kernel
theorem d_Mo_service_81 : decode b_Mo_service 81 = .ok (.iconst 2, 1) := by decide +kernel
theorem d_Mo_service_82 : decode b_Mo_service 82 = .ok (.putfield 97, 3) := by decide +kernel
theorem d_Mo_service_85 : decode b_Mo_service 85 = .ok (.return_, 1) := by decide +kernel
theorem d_Mo_service_86 : decode b_Mo_service 86 = .ok (.aload_n 0, 1) := by decide +kernel
theorem d_Mo_service_87 : decode b_Mo_service 87 = .ok (.iload_n 1, 1) := by decide +kernel
theorem d_Mo_service_88 : decode b_Mo_service 88 = .ok (.aload_n 0, 1) := by decide +kernel
theorem d_Mo_service_89 : decode b_Mo_service 89 = .ok (.getfield 19, 3) := by decide +kernel
theorem d_Mo_service_92 : decode b_Mo_service 92 = .ok (.bipush 17, 2) := by decide +kernel
theorem d_Mo_service_94 : decode b_Mo_service 94 = .ok (.iaload, 1) := by decide +kernel
theorem d_Mo_service_95 : decode b_Mo_service 95 = .ok (.iconst 1, 1) := by decide +kernel
theorem d_Mo_service_96 : decode b_Mo_service 96 = .ok (.if_icmp .ne 7, 3) := by decide +kernel
theorem d_Mo_service_99 : decode b_Mo_service 99 = .ok (.iconst 1, 1) := by decide +kernel
theorem d_Mo_service_100 : decode b_Mo_service 100 = .ok (.goto 4, 3) := by decide +kernel
theorem d_Mo_service_103 : decode b_Mo_service 103 = .ok (.iconst 2, 1) := by decide +kernel
theorem d_Mo_service_104 : decode b_Mo_service 104 = .ok (.invokevirtual 162, 3) := by decide +kernel
theorem d_Mo_service_107 : decode b_Mo_service 107 = .ok (.istore 4, 2) := by decide +kernel
theorem d_Mo_service_109 : decode b_Mo_service 109 = .ok (.iload 4, 2) := by decide +kernel
theorem d_Mo_service_111 : decode b_Mo_service 111 = .ok (.ifCond .ne 20, 3) := by decide +kernel
theorem d_Mo_service_114 : decode b_Mo_service 114 = .ok (.aload_n 0, 1) := by decide +kernel
theorem d_Mo_service_115 : decode b_Mo_service 115 = .ok (.getfield 19, 3) := by decide +kernel
theorem d_Mo_service_118 : decode b_Mo_service 118 = .ok (.bipush 17, 2) := by decide +kernel
theorem d_Mo_service_120 : decode b_Mo_service 120 = .ok (.iaload, 1) := by decide +kernel
theorem d_Mo_service_121 : decode b_Mo_service 121 = .ok (.iconst 1, 1) := by decide +kernel
theorem d_Mo_service_122 : decode b_Mo_service 122 = .ok (.if_icmp .ne 9, 3) := by decide +kernel
theorem d_Mo_service_125 : decode b_Mo_service 125 = .ok (.aload_n 0, 1) := by decide +kernel
theorem d_Mo_service_126 : decode b_Mo_service 126 = .ok (.iconst 4, 1) := by decide +kernel
theorem d_Mo_service_127 : decode b_Mo_service 127 = .ok (.invokevirtual 100, 3) := by decide +kernel
theorem d_Mo_service_130 : decode b_Mo_service 130 = .ok (.return_, 1) := by decide +kernel
theorem d_Mo_service_131 : decode b_Mo_service 131 = .ok (.aload_n 0, 1) := by decide +kernel
theorem d_Mo_service_132 : decode b_Mo_service 132 = .ok (.getfield 19, 3) := by decide +kernel
theorem d_Mo_service_135 : decode b_Mo_service 135 = .ok (.bipush 17, 2) := by decide +kernel
theorem d_Mo_service_137 : decode b_Mo_service 137 = .ok (.iaload, 1) := by decide +kernel
theorem d_Mo_service_138 : decode b_Mo_service 138 = .ok (.iconst 1, 1) := by decide +kernel
theorem d_Mo_service_139 : decode b_Mo_service 139 = .ok (.if_icmp .ne 24, 3) := by decide +kernel
theorem d_Mo_service_142 : decode b_Mo_service 142 = .ok (.aload_n 0, 1) := by decide +kernel
theorem d_Mo_service_143 : decode b_Mo_service 143 = .ok (.getfield 36, 3) := by decide +kernel
theorem d_Mo_service_146 : decode b_Mo_service 146 = .ok (.aload_n 0, 1) := by decide +kernel
theorem d_Mo_service_147 : decode b_Mo_service 147 = .ok (.getfield 165, 3) := by decide +kernel
theorem d_Mo_service_150 : decode b_Mo_service 150 = .ok (.iload 4, 2) := by decide +kernel
theorem d_Mo_service_152 : decode b_Mo_service 152 = .ok (.iastore, 1) := by decide +kernel
theorem d_Mo_service_153 : decode b_Mo_service 153 = .ok (.aload_n 0, 1) := by decide +kernel
theorem d_Mo_service_154 : decode b_Mo_service 154 = .ok (.dup, 1) := by decide +kernel
theorem d_Mo_service_155 : decode b_Mo_service 155 = .ok (.getfield 165, 3) := by decide +kernel
theorem d_Mo_service_158 : decode b_Mo_service 158 = .ok (.iconst 1, 1) := by decide +kernel
theorem d_Mo_service_159 : decode b_Mo_service 159 = .ok (.iadd, 1) := by decide +kernel
theorem d_Mo_service_160 : decode b_Mo_service 160 = .ok (.putfield 165, 3) := by decide +kernel
theorem d_Mo_service_163 : decode b_Mo_service 163 = .ok (.aload_n 0, 1) := by decide +kernel
theorem d_Mo_service_164 : decode b_Mo_service 164 = .ok (.getfield 19, 3) := by decide +kernel
theorem d_Mo_service_167 : decode b_Mo_service 167 = .ok (.bipush 10, 2) := by decide +kernel
theorem d_Mo_service_169 : decode b_Mo_service 169 = .ok (.iload 4, 2) := by decide +kernel
theorem d_Mo_service_171 : decode b_Mo_service 171 = .ok (.bipush 16, 2) := by decide +kernel
theorem d_Mo_service_173 : decode b_Mo_service 173 = .ok (.ishl, 1) := by decide +kernel
theorem d_Mo_service_174 : decode b_Mo_service 174 = .ok (.iastore, 1) := by decide +kernel
theorem d_Mo_service_175 : decode b_Mo_service 175 = .ok (.goto 358, 3) := by decide +kernel
theorem d_Mo_service_178 : decode b_Mo_service 178 = .ok (.iload_n 1, 1) := by decide +kernel
theorem d_Mo_service_179 : decode b_Mo_service 179 = .ok (.ifCond .lt 11, 3) := by decide +kernel
theorem d_Mo_service_182 : decode b_Mo_service 182 = .ok (.iload_n 1, 1) := by decide +kernel
theorem d_Mo_service_183 : decode b_Mo_service 183 = .ok (.aload_n 0, 1) := by decide +kernel
theorem d_Mo_service_184 : decode b_Mo_service 184 = .ok (.getfield 165, 3) := by decide +kernel
theorem d_Mo_service_187 : decode b_Mo_service 187 = .ok (.if_icmp .le 9, 3) := by decide +kernel
theorem d_Mo_service_190 : decode b_Mo_service 190 = .ok (.aload_n 0, 1) := by decide +kernel
theorem d_Mo_service_191 : decode b_Mo_service 191 = .ok (.iconst 4, 1) := by decide +kernel
theorem d_Mo_service_192 : decode b_Mo_service 192 = .ok (.invokevirtual 100, 3) := by decide +kernel
theorem d_Mo_service_195 : decode b_Mo_service 195 = .ok (.return_, 1) := by decide +kernel
theorem d_Mo_service_196 : decode b_Mo_service 196 = .ok (.iconst 0, 1) := by decide +kernel
theorem d_Mo_service_197 : decode b_Mo_service 197 = .ok (.istore 5, 2) := by decide +kernel
theorem d_Mo_service_199 : decode b_Mo_service 199 = .ok (.iload 5, 2) := by decide +kernel
theorem d_Mo_service_201 : decode b_Mo_service 201 = .ok (.iload_n 1, 1) := by decide +kernel
theorem d_Mo_service_202 : decode b_Mo_service 202 = .ok (.if_icmp .ge 32, 3) := by decide +kernel
theorem d_Mo_service_205 : decode b_Mo_service 205 = .ok (.aload_n 0, 1) := by decide +kernel
theorem d_Mo_service_206 : decode b_Mo_service 206 = .ok (.dup, 1) := by decide +kernel
theorem d_Mo_service_207 : decode b_Mo_service 207 = .ok (.getfield 165, 3) := by decide +kernel
theorem d_Mo_service_210 : decode b_Mo_service 210 = .ok (.iconst 1, 1) := by decide +kernel
theorem d_Mo_service_211 : decode b_Mo_service 211 = .ok (.isub, 1) := by decide +kernel
theorem d_Mo_service_212 : decode b_Mo_service 212 = .ok (.putfield 165, 3) := by decide +kernel
theorem d_Mo_service_215 : decode b_Mo_service 215 = .ok (.aload_n 0, 1) := by decide +kernel
theorem d_Mo_service_216 : decode b_Mo_service 216 = .ok (.aload_n 0, 1) := by decide +kernel
theorem d_Mo_service_217 : decode b_Mo_service 217 = .ok (.getfield 36, 3) := by decide +kernel
theorem d_Mo_service_220 : decode b_Mo_service 220 = .ok (.aload_n 0, 1) := by decide +kernel
theorem d_Mo_service_221 : decode b_Mo_service 221 = .ok (.getfield 165, 3) := by decide +kernel
theorem d_Mo_service_224 : decode b_Mo_service 224 = .ok (.iaload, 1) := by decide +kernel
theorem d_Mo_service_225 : decode b_Mo_service 225 = .ok (.invokevirtual 168, 3) := by decide +kernel
theorem d_Mo_service_228 : decode b_Mo_service 228 = .ok (.iinc 5 1, 3) := by decide +kernel
theorem d_Mo_service_231 : decode b_Mo_service 231 = .ok (.goto (-32), 3) := by decide +kernel
theorem d_Mo_service_234 : decode b_Mo_service 234 = .ok (.goto 299, 3) := by decide +kernel
theorem d_Mo_service_237 : decode b_Mo_service 237 = .ok (.iload_n 1, 1) := by decide +kernel
theorem d_Mo_service_238 : decode b_Mo_service 238 = .ok (.bipush 16, 2) := by decide +kernel
theorem d_Mo_service_240 : decode b_Mo_service 240 = .ok (.iushr, 1) := by decide +kernel
theorem d_Mo_service_241 : decode b_Mo_service 241 = .ok (.istore 4, 2) := by decide +kernel
theorem d_Mo_service_243 : decode b_Mo_service 243 = .ok (.iload_n 1, 1) := by decide +kernel
theorem d_Mo_service_244 : decode b_Mo_service 244 = .ok (.ifCond .eq 289, 3) := by decide +kernel
theorem d_Mo_service_247 : decode b_Mo_service 247 = .ok (.iload_n 1, 1) := by decide +kernel
theorem d_Mo_service_248 : decode b_Mo_service 248 = .ok (.ldc 73, 2) := by decide +kernel
theorem d_Mo_service_250 : decode b_Mo_service 250 = .ok (.iand, 1) := by decide +kernel
theorem d_Mo_service_251 : decode b_Mo_service 251 = .ok (.ifCond .ne 23, 3) := by decide +kernel
theorem d_Mo_service_254 : decode b_Mo_service 254 = .ok (.iload 4, 2) := by decide +kernel
theorem d_Mo_service_256 : decode b_Mo_service 256 = .ok (.aload_n 0, 1) := by decide +kernel
theorem d_Mo_service_257 : decode b_Mo_service 257 = .ok (.getfield 74, 3) := by decide +kernel
theorem d_Mo_service_260 : decode b_Mo_service 260 = .ok (.if_icmp .gt 14, 3) := by decide +kernel
theorem d_Mo_service_263 : decode b_Mo_service 263 = .ok (.aload_n 0, 1) := by decide +kernel
theorem d_Mo_service_264 : decode b_Mo_service 264 = .ok (.getfield 33, 3) := by decide +kernel
theorem d_Mo_service_267 : decode b_Mo_service 267 = .ok (.iload 4, 2) := by decide +kernel
theorem d_Mo_service_269 : decode b_Mo_service 269 = .ok (.iaload, 1) := by decide +kernel
theorem d_Mo_service_270 : decode b_Mo_service 270 = .ok (.iconst 2, 1) := by decide +kernel
theorem d_Mo_service_271 : decode b_Mo_service 271 = .ok (.if_icmp .eq 9, 3) := by decide +kernel
theorem d_Mo_service_274 : decode b_Mo_service 274 = .ok (.aload_n 0, 1) := by decide +kernel
theorem d_Mo_service_275 : decode b_Mo_service 275 = .ok (.iconst 4, 1) := by decide +kernel
theorem d_Mo_service_276 : decode b_Mo_service 276 = .ok (.invokevirtual 100, 3) := by decide +kernel
theorem d_Mo_service_279 : decode b_Mo_service 279 = .ok (.return_, 1) := by decide +kernel
theorem d_Mo_service_280 : decode b_Mo_service 280 = .ok (.aload_n 0, 1) := by decide +kernel
theorem d_Mo_service_281 : decode b_Mo_service 281 = .ok (.iload 4, 2) := by decide +kernel
theorem d_Mo_service_283 : decode b_Mo_service 283 = .ok (.invokevirtual 168, 3) := by decide +kernel
theorem d_Mo_service_286 : decode b_Mo_service 286 = .ok (.goto 247, 3) := by decide +kernel
theorem d_Mo_service_289 : decode b_Mo_service 289 = .ok (.aload_n 0, 1) := by decide +kernel
theorem d_Mo_service_290 : decode b_Mo_service 290 = .ok (.getfield 171, 3) := by decide +kernel
theorem d_Mo_service_293 : decode b_Mo_service 293 = .ok (.sipush 4096, 3) := by decide +kernel
theorem d_Mo_service_296 : decode b_Mo_service 296 = .ok (.if_icmp .ge 237, 3) := by decide +kernel
theorem d_Mo_service_299 : decode b_Mo_service 299 = .ok (.aload_n 0, 1) := by decide +kernel
theorem d_Mo_service_300 : decode b_Mo_service 300 = .ok (.getfield 42, 3) := by decide +kernel
theorem d_Mo_service_303 : decode b_Mo_service 303 = .ok (.aload_n 0, 1) := by decide +kernel
theorem d_Mo_service_304 : decode b_Mo_service 304 = .ok (.getfield 171, 3) := by decide +kernel
theorem d_Mo_service_307 : decode b_Mo_service 307 = .ok (.iload_n 1, 1) := by decide +kernel
theorem d_Mo_service_308 : decode b_Mo_service 308 = .ok (.i2b, 1) := by decide +kernel
theorem d_Mo_service_309 : decode b_Mo_service 309 = .ok (.bastore, 1) := by decide +kernel
theorem d_Mo_service_310 : decode b_Mo_service 310 = .ok (.aload_n 0, 1) := by decide +kernel
theorem d_Mo_service_311 : decode b_Mo_service 311 = .ok (.dup, 1) := by decide +kernel
theorem d_Mo_service_312 : decode b_Mo_service 312 = .ok (.getfield 171, 3) := by decide +kernel
theorem d_Mo_service_315 : decode b_Mo_service 315 = .ok (.iconst 1, 1) := by decide +kernel
theorem d_Mo_service_316 : decode b_Mo_service 316 = .ok (.iadd, 1) := by decide +kernel
theorem d_Mo_service_317 : decode b_Mo_service 317 = .ok (.putfield 171, 3) := by decide +kernel
theorem d_Mo_service_320 : decode b_Mo_service 320 = .ok (.goto 213, 3) := by decide +kernel
theorem d_Mo_service_323 : decode b_Mo_service 323 = .ok (.aload_n 0, 1) := by decide +kernel
theorem d_Mo_service_324 : decode b_Mo_service 324 = .ok (.getfield 174, 3) := by decide +kernel
theorem d_Mo_service_327 : decode b_Mo_service 327 = .ok (.ifCond .ne 14, 3) := by decide +kernel
theorem d_Mo_service_330 : decode b_Mo_service 330 = .ok (.aload_n 0, 1) := by decide +kernel
theorem d_Mo_service_331 : decode b_Mo_service 331 = .ok (.getfield 19, 3) := by decide +kernel
theorem d_Mo_service_334 : decode b_Mo_service 334 = .ok (.bipush 10, 2) := by decide +kernel
theorem d_Mo_service_336 : decode b_Mo_service 336 = .ok (.iconst (-1), 1) := by decide +kernel
theorem d_Mo_service_337 : decode b_Mo_service 337 = .ok (.iastore, 1) := by decide +kernel
theorem d_Mo_service_338 : decode b_Mo_service 338 = .ok (.goto 195, 3) := by decide +kernel
theorem d_Mo_service_341 : decode b_Mo_service 341 = .ok (.aload_n 0, 1) := by decide +kernel
theorem d_Mo_service_342 : decode b_Mo_service 342 = .ok (.getfield 19, 3) := by decide +kernel
theorem d_Mo_service_345 : decode b_Mo_service 345 = .ok (.bipush 10, 2) := by decide +kernel
theorem d_Mo_service_347 : decode b_Mo_service 347 = .ok (.aload_n 0, 1) := by decide +kernel
theorem d_Mo_service_348 : decode b_Mo_service 348 = .ok (.getfield 39, 3) := by decide +kernel
theorem d_Mo_service_351 : decode b_Mo_service 351 = .ok (.iconst 0, 1) := by decide +kernel
theorem d_Mo_service_352 : decode b_Mo_service 352 = .ok (.baload, 1) := by decide +kernel
theorem d_Mo_service_353 : decode b_Mo_service 353 = .ok (.sipush 255, 3) := by decide +kernel
theorem d_Mo_service_356 : decode b_Mo_service 356 = .ok (.iand, 1) := by decide +kernel
theorem d_Mo_service_357 : decode b_Mo_service 357 = .ok (.iastore, 1) := by decide +kernel
theorem d_Mo_service_358 : decode b_Mo_service 358 = .ok (.aload_n 0, 1) := by decide +kernel
theorem d_Mo_service_359 : decode b_Mo_service 359 = .ok (.dup, 1) := by decide +kernel
theorem d_Mo_service_360 : decode b_Mo_service 360 = .ok (.getfield 174, 3) := by decide +kernel
theorem d_Mo_service_363 : decode b_Mo_service 363 = .ok (.iconst 1, 1) := by decide +kernel
theorem d_Mo_service_364 : decode b_Mo_service 364 = .ok (.isub, 1) := by decide +kernel
theorem d_Mo_service_365 : decode b_Mo_service 365 = .ok (.putfield 174, 3) := by decide +kernel
theorem d_Mo_service_368 : decode b_Mo_service 368 = .ok (.aload_n 0, 1) := by decide +kernel
theorem d_Mo_service_369 : decode b_Mo_service 369 = .ok (.getfield 39, 3) := by decide +kernel
theorem d_Mo_service_372 : decode b_Mo_service 372 = .ok (.iconst 1, 1) := by decide +kernel
theorem d_Mo_service_373 : decode b_Mo_service 373 = .ok (.aload_n 0, 1) := by decide +kernel
theorem d_Mo_service_374 : decode b_Mo_service 374 = .ok (.getfield 39, 3) := by decide +kernel
theorem d_Mo_service_377 : decode b_Mo_service 377 = .ok (.iconst 0, 1) := by decide +kernel
theorem d_Mo_service_378 : decode b_Mo_service 378 = .ok (.aload_n 0, 1) := by decide +kernel
theorem d_Mo_service_379 : decode b_Mo_service 379 = .ok (.getfield 174, 3) := by decide +kernel
theorem d_Mo_service_382 : decode b_Mo_service 382 = .ok (.invokestatic 91, 3) := by decide +kernel
theorem d_Mo_service_385 : decode b_Mo_service 385 = .ok (.goto 148, 3) := by decide +kernel
theorem d_Mo_service_388 : decode b_Mo_service 388 = .ok (.iload_n 1, 1) := by decide +kernel
theorem d_Mo_service_389 : decode b_Mo_service 389 = .ok (.bipush 16, 2) := by decide +kernel
theorem d_Mo_service_391 : decode b_Mo_service 391 = .ok (.iushr, 1) := by decide +kernel
theorem d_Mo_service_392 : decode b_Mo_service 392 = .ok (.iload_n 2, 1) := by decide +kernel
theorem d_Mo_service_393 : decode b_Mo_service 393 = .ok (.bipush 16, 2) := by decide +kernel
theorem d_Mo_service_395 : decode b_Mo_service 395 = .ok (.iushr, 1) := by decide +kernel
theorem d_Mo_service_396 : decode b_Mo_service 396 = .ok (.if_icmp .eq 137, 3) := by decide +kernel
theorem d_Mo_service_399 : decode b_Mo_service 399 = .ok (.aload_n 0, 1) := by decide +kernel
theorem d_Mo_service_400 : decode b_Mo_service 400 = .ok (.iconst 4, 1) := by decide +kernel
theorem d_Mo_service_401 : decode b_Mo_service 401 = .ok (.invokevirtual 100, 3) := by decide +kernel
theorem d_Mo_service_404 : decode b_Mo_service 404 = .ok (.return_, 1) := by decide +kernel
theorem d_Mo_service_405 : decode b_Mo_service 405 = .ok (.iload_n 3, 1) := by decide +kernel
theorem d_Mo_service_406 : decode b_Mo_service 406 = .ok (.ifCond .lt 10, 3) := by decide +kernel
theorem d_Mo_service_409 : decode b_Mo_service 409 = .ok (.iload_n 3, 1) := by decide +kernel
theorem d_Mo_service_410 : decode b_Mo_service 410 = .ok (.sipush 4000, 3) := by decide +kernel
theorem d_Mo_service_413 : decode b_Mo_service 413 = .ok (.if_icmp .le 9, 3) := by decide +kernel
theorem d_Mo_service_416 : decode b_Mo_service 416 = .ok (.aload_n 0, 1) := by decide +kernel
theorem d_Mo_service_417 : decode b_Mo_service 417 = .ok (.iconst 4, 1) := by decide +kernel
theorem d_Mo_service_418 : decode b_Mo_service 418 = .ok (.invokevirtual 100, 3) := by decide +kernel
theorem d_Mo_service_421 : decode b_Mo_service 421 = .ok (.return_, 1) := by decide +kernel
theorem d_Mo_service_422 : decode b_Mo_service 422 = .ok (.iconst 0, 1) := by decide +kernel
theorem d_Mo_service_423 : decode b_Mo_service 423 = .ok (.istore 5, 2) := by decide +kernel
theorem d_Mo_service_425 : decode b_Mo_service 425 = .ok (.iload 5, 2) := by decide +kernel
theorem d_Mo_service_427 : decode b_Mo_service 427 = .ok (.iload_n 3, 1) := by decide +kernel
theorem d_Mo_service_428 : decode b_Mo_service 428 = .ok (.if_icmp .ge 60, 3) := by decide +kernel
theorem d_Mo_service_431 : decode b_Mo_service 431 = .ok (.aload_n 0, 1) := by decide +kernel
theorem d_Mo_service_432 : decode b_Mo_service 432 = .ok (.iload_n 2, 1) := by decide +kernel
theorem d_Mo_service_433 : decode b_Mo_service 433 = .ok (.iload 5, 2) := by decide +kernel
theorem d_Mo_service_435 : decode b_Mo_service 435 = .ok (.iadd, 1) := by decide +kernel
theorem d_Mo_service_436 : decode b_Mo_service 436 = .ok (.iconst 1, 1) := by decide +kernel
theorem d_Mo_service_437 : decode b_Mo_service 437 = .ok (.invokevirtual 153, 3) := by decide +kernel
theorem d_Mo_service_440 : decode b_Mo_service 440 = .ok (.ifCond .lt 15, 3) := by decide +kernel
theorem d_Mo_service_443 : decode b_Mo_service 443 = .ok (.aload_n 0, 1) := by decide +kernel
theorem d_Mo_service_444 : decode b_Mo_service 444 = .ok (.iload_n 1, 1) := by decide +kernel
theorem d_Mo_service_445 : decode b_Mo_service 445 = .ok (.iload 5, 2) := by decide +kernel
theorem d_Mo_service_447 : decode b_Mo_service 447 = .ok (.iadd, 1) := by decide +kernel
theorem d_Mo_service_448 : decode b_Mo_service 448 = .ok (.iconst 1, 1) := by decide +kernel
theorem d_Mo_service_449 : decode b_Mo_service 449 = .ok (.invokevirtual 153, 3) := by decide +kernel
theorem d_Mo_service_452 : decode b_Mo_service 452 = .ok (.ifCond .ge 9, 3) := by decide +kernel
theorem d_Mo_service_455 : decode b_Mo_service 455 = .ok (.aload_n 0, 1) := by decide +kernel
theorem d_Mo_service_456 : decode b_Mo_service 456 = .ok (.iconst 2, 1) := by decide +kernel
theorem d_Mo_service_457 : decode b_Mo_service 457 = .ok (.invokevirtual 100, 3) := by decide +kernel
theorem d_Mo_service_460 : decode b_Mo_service 460 = .ok (.return_, 1) := by decide +kernel
theorem d_Mo_service_461 : decode b_Mo_service 461 = .ok (.aload_n 0, 1) := by decide +kernel
theorem d_Mo_service_462 : decode b_Mo_service 462 = .ok (.getfield 45, 3) := by decide +kernel
theorem d_Mo_service_465 : decode b_Mo_service 465 = .ok (.iload 5, 2) := by decide +kernel
theorem d_Mo_service_467 : decode b_Mo_service 467 = .ok (.aload_n 0, 1) := by decide +kernel
theorem d_Mo_service_468 : decode b_Mo_service 468 = .ok (.getfield 23, 3) := by decide +kernel
theorem d_Mo_service_471 : decode b_Mo_service 471 = .ok (.aload_n 0, 1) := by decide +kernel
theorem d_Mo_service_472 : decode b_Mo_service 472 = .ok (.iload_n 2, 1) := by decide +kernel
theorem d_Mo_service_473 : decode b_Mo_service 473 = .ok (.iload 5, 2) := by decide +kernel
theorem d_Mo_service_475 : decode b_Mo_service 475 = .ok (.iadd, 1) := by decide +kernel
theorem d_Mo_service_476 : decode b_Mo_service 476 = .ok (.iconst 1, 1) := by decide +kernel
theorem d_Mo_service_477 : decode b_Mo_service 477 = .ok (.invokevirtual 153, 3) := by decide +kernel
theorem d_Mo_service_480 : decode b_Mo_service 480 = .ok (.baload, 1) := by decide +kernel
theorem d_Mo_service_481 : decode b_Mo_service 481 = .ok (.bastore, 1) := by decide +kernel
theorem d_Mo_service_482 : decode b_Mo_service 482 = .ok (.iinc 5 1, 3) := by decide +kernel
theorem d_Mo_service_485 : decode b_Mo_service 485 = .ok (.goto (-60), 3) := by decide +kernel
theorem d_Mo_service_488 : decode b_Mo_service 488 = .ok (.iconst 0, 1) := by decide +kernel
theorem d_Mo_service_489 : decode b_Mo_service 489 = .ok (.istore 5, 2) := by decide +kernel
theorem d_Mo_service_491 : decode b_Mo_service 491 = .ok (.iload 5, 2) := by decide +kernel
theorem d_Mo_service_493 : decode b_Mo_service 493 = .ok (.iload_n 3, 1) := by decide +kernel
theorem d_Mo_service_494 : decode b_Mo_service 494 = .ok (.if_icmp .ge 30, 3) := by decide +kernel
theorem d_Mo_service_497 : decode b_Mo_service 497 = .ok (.aload_n 0, 1) := by decide +kernel
theorem d_Mo_service_498 : decode b_Mo_service 498 = .ok (.getfield 23, 3) := by decide +kernel
theorem d_Mo_service_501 : decode b_Mo_service 501 = .ok (.aload_n 0, 1) := by decide +kernel
theorem d_Mo_service_502 : decode b_Mo_service 502 = .ok (.iload_n 1, 1) := by decide +kernel
theorem d_Mo_service_503 : decode b_Mo_service 503 = .ok (.iload 5, 2) := by decide +kernel
theorem d_Mo_service_505 : decode b_Mo_service 505 = .ok (.iadd, 1) := by decide +kernel
theorem d_Mo_service_506 : decode b_Mo_service 506 = .ok (.iconst 1, 1) := by decide +kernel
theorem d_Mo_service_507 : decode b_Mo_service 507 = .ok (.invokevirtual 153, 3) := by decide +kernel
theorem d_Mo_service_510 : decode b_Mo_service 510 = .ok (.aload_n 0, 1) := by decide +kernel
theorem d_Mo_service_511 : decode b_Mo_service 511 = .ok (.getfield 45, 3) := by decide +kernel
theorem d_Mo_service_514 : decode b_Mo_service 514 = .ok (.iload 5, 2) := by decide +kernel
theorem d_Mo_service_516 : decode b_Mo_service 516 = .ok (.baload, 1) := by decide +kernel
theorem d_Mo_service_517 : decode b_Mo_service 517 = .ok (.bastore, 1) := by decide +kernel
theorem d_Mo_service_518 : decode b_Mo_service 518 = .ok (.iinc 5 1, 3) := by decide +kernel
theorem d_Mo_service_521 : decode b_Mo_service 521 = .ok (.goto (-30), 3) := by decide +kernel
theorem d_Mo_service_524 : decode b_Mo_service 524 = .ok (.goto 9, 3) := by decide +kernel
theorem d_Mo_service_527 : decode b_Mo_service 527 = .ok (.aload_n 0, 1) := by decide +kernel
theorem d_Mo_service_528 : decode b_Mo_service 528 = .ok (.iconst 4, 1) := by decide +kernel
theorem d_Mo_service_529 : decode b_Mo_service 529 = .ok (.invokevirtual 100, 3) := by decide +kernel
theorem d_Mo_service_532 : decode b_Mo_service 532 = .ok (.return_, 1) := by decide +kernel
theorem d_Mo_service_533 : decode b_Mo_service 533 = .ok (.aload_n 0, 1) := by decide +kernel
theorem d_Mo_service_534 : decode b_Mo_service 534 = .ok (.dup, 1) := by decide +kernel
theorem d_Mo_service_535 : decode b_Mo_service 535 = .ok (.getfield 104, 3) := by decide +kernel
theorem d_Mo_service_538 : decode b_Mo_service 538 = .ok (.iconst 4, 1) := by decide +kernel
theorem d_Mo_service_539 : decode b_Mo_service 539 = .ok (.iadd, 1) := by decide +kernel
theorem d_Mo_service_540 : decode b_Mo_service 540 = .ok (.putfield 104, 3) := by decide +kernel
theorem d_Mo_service_543 : decode b_Mo_service 543 = .ok (.return_, 1) := by decide +kernel

/-! what the reference's services do -/
theorem nar_fit {v : Int32} (h : fits .byte (.int v) = true) : vp_nar .byte v = v := by
  have h1 : (-128 : Int32) ≤ v ∧ v ≤ 127 := by simpa [fits] using h
  have q1 := z_le h1.1
  have q2 := z_le h1.2
  have k1 : ((-128) : Int32).toInt = -128 := by decide
  have k2 : ((127) : Int32).toInt = 127 := by decide
  rw [vp_nar_byte]
  apply Int32.toInt_inj.mp
  rw [Int8.toInt_toInt32, Int32.toInt_toInt8]
  exact Int.bmod_eq_of_le (by omega) (by omega)
theorem mk_some {M M' : MM} {n : Int32} {gb : Bool} (e : mMk M n gb = some M') : M' = mMake M n.toInt.toNat gb ∧ mMd M < 8000 := by
  unfold mMk at e
  by_cases c : 0 ≤ n.toInt ∧ n.toInt ≤ 4000 ∧ mMd M < 8000 ∧ mBt M + up4 n.toInt.toNat ≤ 40000
  · rw [if_pos c] at e
    exact ⟨(Option.some.inj e).symm, c.2.2.1⟩
  · rw [if_neg c] at e
    cases e
theorem xMk_an (M : MM) (n : Int32) (gb : Bool) : xMk M n gb = (oAn M n gb : Int32) <<< ((16 : Int32) &&& 31) := by
  unfold xMk oAn
  cases e : mMk M n gb with
  | none => exact (if_neg (by simp)).trans (by decide)
  | some M' =>
    obtain ⟨rfl, hm⟩ := mk_some e
    have e3 := pk_shlN (n := mMd M + 1) ((16 : Int32) &&& 31) 16 (by decide) (by omega)
    exact (if_pos rfl).trans e3.symm
theorem an_some {M : MM} {n : Int32} {gb : Bool} (h : ¬ oAn M n gb = 0) : ∃ M', mMk M n gb = some M' := by
  cases e : mMk M n gb with
  | none => exact absurd (by unfold oAn; rw [e]) h
  | some M' => exact ⟨M', rfl⟩
theorem an_zero {M : MM} {n : Int32} {gb : Bool} (h : oAn M n gb = 0) : mMk M n gb = none := by
  cases e : mMk M n gb with
  | none => rfl
  | some M' =>
    exfalso
    obtain ⟨rfl, hm⟩ := mk_some e
    unfold oAn at h
    rw [e] at h
    have h : nI (mMd M + 1) = 0 := h
    exact nI_ne0 (by omega) (by omega) h
theorem o_none {M : MM} {n : Int32} {gb : Bool} (lf : Nat → Int32) (h : mMk M n gb = none) : oM M n gb = M ∧ oLf M n gb lf = lf := by
  unfold oM oLf
  rw [h]
  exact ⟨rfl, rfl⟩
theorem o_true (M : MM) (n : Int32) (lf : Nat → Int32) : mLs (oM M n true) = mLs M ∧ oLf M n true lf = lf := by
  unfold oM oLf
  cases e : mMk M n true with
  | none => exact ⟨rfl, rfl⟩
  | some M' =>
    obtain ⟨rfl, -⟩ := mk_some e
    exact ⟨rfl, rfl⟩
theorem o_last {M : MM} {n : Int32} (lf : Nat → Int32) (h : ¬ oAn M n false = 0) : oAn M n false = nI (mMd M + 1) ∧ oLf M n false lf = upd lf (mLs M).length (nI (mMd M + 1)) ∧ (mLs (oM M n false)).length = (mLs M).length + 1 := by
  obtain ⟨M', e⟩ := an_some h
  obtain ⟨rfl, -⟩ := mk_some e
  unfold oAn oLf oM
  rw [e]
  exact ⟨rfl, rfl, rfl⟩
theorem xMk_nz {M : MM} {n : Int32} {gb : Bool} (h : ¬ oAn M n gb = 0) : ¬ xMk M n gb = 0 := by
  obtain ⟨M', e⟩ := an_some h
  obtain ⟨-, hm⟩ := mk_some e
  unfold xMk
  rw [e, if_pos (show (some M').isSome = true from rfl)]
  intro q
  have q2 := congrArg zN q
  rw [zN_nI (by omega)] at q2
  have q3 : zN 0 = 0 := by decide
  omega
/-- n bytes from there on, or none wanted -/
def mHn (M : MM) (a : Int32) (x : Nat) : Prop := x = 0 ∨ ∃ z, mSz M (zN a / 65536) = some z ∧ zN a % 65536 + x ≤ z
theorem zN_add {a : Int32} {x : Nat} (h : zN a % 65536 + x < 65536) : zN (a + nI x) = zN a + x := by
  have hz := zN_lt a
  have e : a + nI x = nI (zN a + x) := by rw [← nI_add, ← z_of a]
  rw [e]
  exact zN_nI (by omega)
theorem mHn_lt {M : MM} (hM : MI M) {a : Int32} {x : Nat} (h : mHn M a x) : zN a % 65536 + x < 65536 := by
  rcases h with h | ⟨z, h1, h2⟩
  · omega
  · have := hM.2.2.1 _ z h1
    omega
theorem mHn_pl {M : MM} (hM : MI M) {a : Int32} {x : Nat} (h : mHn M a x) : mPl M (a + nI x) 1 ↔ mHn M a (x + 1) := by
  have h1 := mHn_lt hM h
  have h2 := zN_add h1
  have h3 : zN (a + nI x) / 65536 = zN a / 65536 := by omega
  have h4 : zN (a + nI x) % 65536 = zN a % 65536 + x := by omega
  unfold mPl
  rw [h3, h4]
  constructor
  · intro q
    obtain ⟨⟨z, e1, e2⟩, -⟩ := q
    exact Or.inr ⟨z, e1, by omega⟩
  · intro q
    rcases q with e | ⟨z, e1, e2⟩
    · omega
    · exact ⟨⟨z, e1, by omega⟩, Nat.mod_one _⟩
theorem mHn_mono {M : MM} {a : Int32} {x n : Nat} (h : mHn M a n) (hx : x ≤ n) : mHn M a x := by
  rcases h with h | ⟨z, e1, e2⟩
  · exact Or.inl (by omega)
  · exact Or.inr ⟨z, e1, by omega⟩
theorem pl_at {M : MM} {md lq tp tr : Nat} {af zf of lf rf : Nat → Int32} (hR : rRep M md lq tp tr af zf of lf rf) {a : Int32} {x : Nat} (h : mHn M a x) (h1 : mHn M a (x + 1)) :
    sp_Mo_place (a + nI x) 1 (nI md) af zf of = nI (zN (af (zN a / 65536)) + zN a % 65536 + x) ∧ rf (zN (af (zN a / 65536)) + zN a % 65536 + x) = mCt M (zN a / 65536) (zN a % 65536 + x) ∧ zN (af (zN a / 65536)) + zN a % 65536 + x < 90000 := by
  have hp := (mHn_pl hR.1 h).mpr h1
  have hlt := mHn_lt hR.1 h
  have e0 := zN_add hlt
  have e3 : zN (a + nI x) / 65536 = zN a / 65536 := by omega
  have e4 : zN (a + nI x) % 65536 = zN a % 65536 + x := by omega
  obtain ⟨q, z, g1, g2, g3, g4, g5, g6⟩ := (rRep_place hR (a + nI x) (k := 1) (by omega) (by omega)).1 hp
  have g6 := g6 0 (by omega)
  rw [e4] at g1 g3 g6
  rw [e3] at g2 g5 g6
  have hu := up4_le z
  have hq : zN (af (zN a / 65536)) = q := by rw [g5]; exact zN_nI (by omega)
  rw [hq]
  refine ⟨?_, ?_, by omega⟩
  · rw [Nat.add_assoc]
    exact g1
  · rw [Nat.add_assoc]
    exact g6
theorem pl_no {M : MM} {md lq tp tr : Nat} {af zf of lf rf : Nat → Int32} (hR : rRep M md lq tp tr af zf of lf rf) {a : Int32} {x : Nat} (h : mHn M a x) (h1 : ¬ mHn M a (x + 1)) : sp_Mo_place (a + nI x) 1 (nI md) af zf of = -1 :=
  (rRep_place hR (a + nI x) (k := 1) (by omega) (by omega)).2 (fun q => h1 ((mHn_pl hR.1 h).mp q))
theorem copy_bad {M : MM} (hM : MI M) {a b : Int32} {x n : Nat} (hx : x ≤ n) (h0 : 0 < x) (hn : n ≤ 4000) (h : ¬ mHn M b x ∨ ¬ mHn M a x) : xCopy a b (nI n) M = (2, M) := by
  have hh : ∀ c, ¬ mHn M c x → mHs M c (nI n) = 0 := fun c hc => Classical.byContradiction (fun q => hc (mHn_mono (Or.inr ((mHs_iff hM hn).mp q)) hx))
  unfold xCopy
  rw [if_neg (nI_pos (by omega)), if_pos (show nI n ≤ 4000 from nI_le (b := 4000) hn (by omega)), if_neg (nI_ne0 (by omega) (by omega))]
  by_cases c : mHs M b (nI n) = 0
  · rw [if_pos c]
  · rw [if_neg c]
    rcases h with h | h
    · exact absurd (hh b h) c
    · rw [if_pos (hh a h)]
theorem copy_ok {M : MM} {md lq tp tr : Nat} {af zf of lf rf cx : Nat → Int32} (hR : rRep M md lq tp tr af zf of lf rf) {a b : Int32} {n : Nat} (hn : n ≤ 4000) (ha : mHn M a n) (hb : mHn M b n) (hc : ∀ i, i < n → cx i = mCt M (zN b / 65536) (zN b % 65536 + i)) (hf : ∀ i, i < n → fits .byte (.int (cx i)) = true) :
    (xCopy a b (nI n) M).1 = 0 ∧ rRep (xCopy a b (nI n) M).2 md lq tp tr af zf of lf (va_cpy cx rf 0 (zN (af (zN a / 65536)) + zN a % 65536) n) := by
  unfold xCopy
  rw [if_neg (nI_pos (by omega)), if_pos (show nI n ≤ 4000 from nI_le (b := 4000) hn (by omega))]
  rcases Nat.eq_zero_or_pos n with c | c
  · subst c
    rw [if_pos nI_0]
    refine ⟨rfl, ?_⟩
    rw [show va_cpy cx rf 0 (zN (af (zN a / 65536)) + zN a % 65536) 0 = rf from funext (fun j => pk_cpy_out (by omega))]
    exact hR
  · rw [if_neg (nI_ne0 (by omega) (by omega))]
    have qa : ∃ z, mSz M (zN a / 65536) = some z ∧ zN a % 65536 + n ≤ z := by
      rcases ha with q | q
      · omega
      · exact q
    have qb : ∃ z, mSz M (zN b / 65536) = some z ∧ zN b % 65536 + n ≤ z := by
      rcases hb with q | q
      · omega
      · exact q
    rw [if_neg ((mHs_iff hR.1 hn).mpr qb), if_neg ((mHs_iff hR.1 hn).mpr qa)]
    refine ⟨rfl, ?_⟩
    show rRep (mCp M a b (nI n)) _ _ _ _ _ _ _ _ _
    obtain ⟨z, z1, z2⟩ := qa
    have fit := hR.2.2.2.2.2.1
    have hat : ∃ q, af (zN a / 65536) = nI q ∧ q + up4 z ≤ 90000 ∧ ∀ i, i < z → rf (q + i) = mCt M (zN a / 65536) i := by
      obtain ⟨hI, e1, e2, e3, e4, e5, e6, e7, e8, st, g1, g2, g3⟩ := hR
      exact ⟨st (zN a / 65536), (g1 _ z z1).1, by have := (g1 _ z z1).2; omega, fun i hi => g3 _ z i z1 hi⟩
    obtain ⟨q, q1, q2, q3⟩ := hat
    have hu := up4_le z
    have hq : zN (af (zN a / 65536)) = q := by rw [q1]; exact zN_nI (by omega)
    rw [hq]
    unfold mCp
    rw [zN_nI (by omega)]
    refine rRep_put hR z1 q1 (by omega) (fun i hi => ?_) (fun p hp => ?_) (fun i hi => ?_)
    · by_cases d : zN a % 65536 ≤ i ∧ i < zN a % 65536 + n
      · rw [pk_cpy_in (by omega) (by omega), pk_cpy_in d.1 d.2, show 0 + (q + i - (q + zN a % 65536)) = i - zN a % 65536 by omega]
        exact hc _ (by omega)
      · rw [pk_cpy_out (by omega), pk_cpy_out (by omega)]
        exact q3 i hi
    · rw [pk_cpy_out (by omega)]
    · by_cases d : q + zN a % 65536 ≤ i ∧ i < q + zN a % 65536 + n
      · rw [pk_cpy_in d.1 d.2]
        exact hf _ (by omega)
      · rw [pk_cpy_out (by omega)]
        exact fit i hi
theorem ct_fit {M : MM} {md lq tp tr : Nat} {af zf of lf rf : Nat → Int32} (hR : rRep M md lq tp tr af zf of lf rf) {b : Int32} {n : Nat} (h : mHn M b n) : ∀ i, i < n → fits .byte (.int (mCt M (zN b / 65536) (zN b % 65536 + i))) = true := by
  intro i hi
  have p := pl_at hR (mHn_mono h (Nat.le_of_lt hi)) (mHn_mono h hi)
  rw [← p.2.1]
  exact hR.2.2.2.2.2.1 _ p.2.2
theorem cc_0 (f g : Nat → Int32) (a : Nat) : va_cpy f g 0 a 0 = g := funext (fun j => pk_cpy_out (by omega))
theorem cc_s (f g : Nat → Int32) (a x : Nat) : upd (va_cpy f g 0 a x) (a + x) (f x) = va_cpy f g 0 a (x + 1) := by
  funext j
  by_cases c : j = a + x
  · rw [c, upd_self, pk_cpy_in (by omega) (by omega), show 0 + (a + x - a) = x by omega]
  · rw [upd_ne c]
    by_cases d : a ≤ j ∧ j < a + x
    · rw [pk_cpy_in d.1 d.2, pk_cpy_in d.1 (by omega)]
    · rw [pk_cpy_out (by omega), pk_cpy_out (by omega)]
theorem cx_s {cx F : Nat → Int32} {k : Nat} (h : ∀ i, i < k → cx i = F i) : ∀ i, i < k + 1 → upd cx k (F k) i = F i := by
  intro i hi
  by_cases c : i = k
  · rw [c, upd_self]
  · rw [upd_ne c]
    exact h i (by omega)
theorem dl_none {M : MM} {a : Int32} (hl : (mLs M).length < 2 ^ 31) (h : a < 0 ∨ ¬ a ≤ nI (mLs M).length) : mDropL M a = none := by
  unfold mDropL
  refine if_neg (fun q => ?_)
  rcases h with h | h
  · have q1 := z_lt h
    have k0 : ((0) : Int32).toInt = 0 := by decide
    omega
  · have q1 := z_nle h
    rw [nI_toInt hl] at q1
    omega
theorem dl_some {M : MM} {k : Nat} (hl : (mLs M).length < 2 ^ 31) (hk : k ≤ (mLs M).length) : mDropL M (nI k) = some (mPopN k M) := by
  unfold mDropL
  rw [nI_toInt (by omega)]
  exact if_pos ⟨by omega, by omega⟩
theorem dg_none {M : MM} {md lq tp tr : Nat} {af zf of lf rf : Nat → Int32} (hR : rRep M md lq tp tr af zf of lf rf) {a : Int32} (h : ¬ (a &&& 65535) = 0 ∨ nI md < zushr a 16 ∨ ¬ of (zN a / 65536) = 2) : mDropG M a = none := by
  have hz := zN_lt a
  have hm := hR.1.1
  have hmd := hR.2.1
  unfold mDropG
  refine if_neg (fun q => ?_)
  obtain ⟨q1, q2, q3⟩ := q
  obtain ⟨z, hz1⟩ := Option.isSome_iff_exists.mp q2
  have hk := hR.1.2.2.1 _ z hz1
  rcases h with h | h | h
  · exact h (by rw [z_a16, q1]; rfl)
  · rw [z_u16] at h
    exact nI_nlt (by omega) (by omega) h
  · exact h (by
      rw [hR.2.2.2.2.2.2.1 _ hk.1 (by omega), hz1]
      exact if_pos q3)
theorem dg_some {M : MM} {md lq tp tr : Nat} {af zf of lf rf : Nat → Int32} (hR : rRep M md lq tp tr af zf of lf rf) {a : Int32} (h0 : ¬ a = 0) (h1 : (a &&& 65535) = 0) (h2 : ¬ nI md < zushr a 16) (h3 : of (zN a / 65536) = 2) :
    ∃ z, mSz M (zN a / 65536) = some z ∧ mGv M (zN a / 65536) = true ∧ mDropG M a = some (mGone M (zN a / 65536)) ∧ 1 ≤ zN a / 65536 ∧ zN a / 65536 ≤ md := by
  have hz := zN_lt a
  rw [z_a16] at h1
  have h1 := z_e0 (by omega) h1
  rw [z_u16] at h2
  have h4 : zN a / 65536 ≤ md := Nat.not_lt.mp (fun q => h2 (nI_lt q (by omega)))
  have h5 : zN a ≠ 0 := fun q => h0 (by rw [z_of a, q]; rfl)
  have h6 : 1 ≤ zN a / 65536 := by omega
  rw [hR.2.2.2.2.2.2.1 _ h6 h4] at h3
  obtain ⟨z, e⟩ : ∃ z, mSz M (zN a / 65536) = some z := by
    cases e : mSz M (zN a / 65536) with
    | none =>
      rw [e] at h3
      exact absurd h3 (show ¬ (0 : Int32) = 2 by decide)
    | some z => exact ⟨z, rfl⟩
  rw [e] at h3
  have h3 : (if mGv M (zN a / 65536) = true then (2 : Int32) else 1) = 2 := h3
  have hg : mGv M (zN a / 65536) = true := by
    cases g : mGv M (zN a / 65536) with
    | true => rfl
    | false =>
      rw [g] at h3
      exact absurd h3 (show ¬ (1 : Int32) = 2 by decide)
  exact ⟨z, e, hg, if_pos ⟨h1, by rw [e]; rfl, hg⟩, h6, h4⟩
theorem rem_0 {cap n : Nat} {L : List Int32} {f : Nat → Int32} (h : jR cap L n f) (hn : n = 0) : bRem L = (-1, L) := by
  have h1 := h.1
  cases L with
  | nil => rfl
  | cons x r =>
    rw [hn] at h1
    cases h1
theorem rem_s {cap n : Nat} {L : List Int32} {f : Nat → Int32} (h : jR cap L n f) (hn : 0 < n) : bRem L = (f 0 &&& 255, L.drop 1) := by
  have q := tk_s (O := L) (k := 0) (by have := h.1; omega)
  rw [List.drop_zero, ← h.2.2.2.1 0 hn] at q
  exact q
theorem bAdd_full {cap n : Nat} {L : List Int32} {f : Nat → Int32} (h : jR cap L n f) (hn : ¬ n < cap) (b : Int32) : bAdd cap L b = L := if_neg (by have := h.1; omega)
/-- the reference's memory and rows of bytes as they lie -/
abbrev RM : Type := (Nat × Nat × Nat × Nat × Nat × Nat) × ((Nat → Int32) × (Nat → Int32) × (Nat → Int32) × (Nat → Int32) × (Nat → Int32) × (Nat → Int32) × (Nat → Int32) × (Nat → Int32))
def rGd (c : RM) : Nat := c.1.1
def rGl (c : RM) : Nat := c.1.2.1
def rGt (c : RM) : Nat := c.1.2.2.1
def rGr (c : RM) : Nat := c.1.2.2.2.1
def rGi (c : RM) : Nat := c.1.2.2.2.2.1
def rGo (c : RM) : Nat := c.1.2.2.2.2.2
def rAf (c : RM) : Nat → Int32 := c.2.1
def rZf (c : RM) : Nat → Int32 := c.2.2.1
def rOf (c : RM) : Nat → Int32 := c.2.2.2.1
def rLf (c : RM) : Nat → Int32 := c.2.2.2.2.1
def rRf (c : RM) : Nat → Int32 := c.2.2.2.2.2.1
def rJf (c : RM) : Nat → Int32 := c.2.2.2.2.2.2.1
def rQf (c : RM) : Nat → Int32 := c.2.2.2.2.2.2.2.1
def rCf (c : RM) : Nat → Int32 := c.2.2.2.2.2.2.2.2
def rR (M : MM) (I O : List Int32) (c : RM) : Prop := rRep M (rGd c) (rGl c) (rGt c) (rGr c) (rAf c) (rZf c) (rOf c) (rLf c) (rRf c) ∧ jR 1000 I (rGi c) (rJf c) ∧ jR 4096 O (rGo c) (rQf c)
def sPc (rg : Nat → Int32) (M : MM) (I O : List Int32) (sta pc : Int32) : Int32 := if (xServe rg M I O sta).1 = 0 then (if rg 17 = 0 then pc else pc + 4) else pc
def sSt (rg : Nat → Int32) (M : MM) (I O : List Int32) (sta : Int32) : Int32 := if (xServe rg M I O sta).1 = 0 then (xServe rg M I O sta).2.2.2.2.2 else 10 + (xServe rg M I O sta).1

set_option maxHeartbeats 4000000 in
theorem c_Mo_service (l : Launch) (D : va_G) (cI cB cJ : ClassId) (sz : Nat) (m0 : Nat) (mk : Nat) (mt : Nat) (kd : Int32) (wo : Nat) (wn : Int32) (re : Nat) (pc : Int32) (sta : Int32) (dn : Int32) (th : Int32) (ro : Nat) (aa : Nat) (si : Nat) (so : Nat) (la : Nat) (gd : Nat) (gl : Nat) (gt : Nat) (gr : Nat) (ip : Nat) (oq : Nat) (cp : Nat) (gi : Nat) (go : Nat) (rg : Nat → Int32) (rf : Nat → Int32) (af : Nat → Int32) (zf : Nat → Int32) (of : Nat → Int32) (lf : Nat → Int32) (jf : Nat → Int32) (qf : Nat → Int32) (cf : Nat → Int32) (M : MM) (I : List Int32) (O : List Int32) (hR : rRep M gd gl gt gr af zf of lf rf) (hI0 : jR 1000 I gi jf) (hO : jR 4096 O go qf) : zMet l y_Mo_service (zWs y_Mo_service b_Mo_service 6 (none)) { frames := 3, cells := 0, slots := 0, locals := 104 } (zPc D (zT cI cB cJ) sz [(m0, .inr (3, [.ref mk, .ref mt, .int kd, .ref wo, .int wn, .ref re, .int pc, .int sta, .int dn, .int th, .ref ro, .ref aa, .ref si, .ref so, .ref la, .int (nI gd), .int (nI gl), .int (nI gt), .int (nI gr), .ref ip, .ref oq, .ref cp, .int (nI gi), .int (nI go)])), (re, .inl (cI, 32, .inl (rg))), (ro, .inl (cB, 90000, .inl (rf))), (aa, .inl (cI, 8001, .inl (af))), (si, .inl (cI, 8001, .inl (zf))), (so, .inl (cI, 8001, .inl (of))), (la, .inl (cI, 8001, .inl (lf))), (ip, .inl (cB, 1000, .inl (jf))), (oq, .inl (cB, 4096, .inl (qf))), (cp, .inl (cB, 4000, .inl (cf)))] [.ref m0]) (zQv D (va_A [(m0, .inr (3, [.ref mk, .ref mt, .int kd, .ref wo, .int wn, .ref re, .int pc, .int sta, .int dn, .int th, .ref ro, .ref aa, .ref si, .ref so, .ref la, .int (nI gd), .int (nI gl), .int (nI gt), .int (nI gr), .ref ip, .ref oq, .ref cp, .int (nI gi), .int (nI go)])), (re, .inl (cI, 32, .inl (rg))), (ro, .inl (cB, 90000, .inl (rf))), (aa, .inl (cI, 8001, .inl (af))), (si, .inl (cI, 8001, .inl (zf))), (so, .inl (cI, 8001, .inl (of))), (la, .inl (cI, 8001, .inl (lf))), (ip, .inl (cB, 1000, .inl (jf))), (oq, .inl (cB, 4096, .inl (qf))), (cp, .inl (cB, 4000, .inl (cf)))] sz) (fun (U : RM) => rR (xServe rg M I O sta).2.2.1 (xServe rg M I O sta).2.2.2.1 (xServe rg M I O sta).2.2.2.2.1 U) (fun _ => (0, 0)) (fun (U : RM) => [(m0, .inr (3, [.ref mk, .ref mt, .int kd, .ref wo, .int wn, .ref re, .int (sPc rg M I O sta pc), .int (sSt rg M I O sta), .int dn, .int th, .ref ro, .ref aa, .ref si, .ref so, .ref la, .int (nI (rGd U)), .int (nI (rGl U)), .int (nI (rGt U)), .int (nI (rGr U)), .ref ip, .ref oq, .ref cp, .int (nI (rGi U)), .int (nI (rGo U))])), (re, .inl (cI, 32, .inl ((xServe rg M I O sta).2.1))), (ro, .inl (cB, 90000, .inl (rRf U))), (aa, .inl (cI, 8001, .inl (rAf U))), (si, .inl (cI, 8001, .inl (rZf U))), (so, .inl (cI, 8001, .inl (rOf U))), (la, .inl (cI, 8001, .inl (rLf U))), (ip, .inl (cB, 1000, .inl (rJf U))), (oq, .inl (cB, 4096, .inl (rQf U))), (cp, .inl (cB, 4000, .inl (rCf U)))])) (va_A [(m0, .inr (3, [.ref mk, .ref mt, .int kd, .ref wo, .int wn, .ref re, .int pc, .int sta, .int dn, .int th, .ref ro, .ref aa, .ref si, .ref so, .ref la, .int (nI gd), .int (nI gl), .int (nI gt), .int (nI gr), .ref ip, .ref oq, .ref cp, .int (nI gi), .int (nI go)])), (re, .inl (cI, 32, .inl (rg))), (ro, .inl (cB, 90000, .inl (rf))), (aa, .inl (cI, 8001, .inl (af))), (si, .inl (cI, 8001, .inl (zf))), (so, .inl (cI, 8001, .inl (of))), (la, .inl (cI, 8001, .inl (lf))), (ip, .inl (cB, 1000, .inl (jf))), (oq, .inl (cB, 4096, .inl (qf))), (cp, .inl (cB, 4000, .inl (cf)))] sz) := by
  refine zstart (Qc := fun A => zQv D A (fun (U : RM) => rR (xServe rg M I O sta).2.2.1 (xServe rg M I O sta).2.2.2.1 (xServe rg M I O sta).2.2.2.2.1 U) (fun _ => (0, 0)) (fun (U : RM) => [(m0, .inr (3, [.ref mk, .ref mt, .int kd, .ref wo, .int wn, .ref re, .int (sPc rg M I O sta pc), .int (sSt rg M I O sta), .int dn, .int th, .ref ro, .ref aa, .ref si, .ref so, .ref la, .int (nI (rGd U)), .int (nI (rGl U)), .int (nI (rGt U)), .int (nI (rGr U)), .ref ip, .ref oq, .ref cp, .int (nI (rGi U)), .int (nI (rGo U))])), (re, .inl (cI, 32, .inl ((xServe rg M I O sta).2.1))), (ro, .inl (cB, 90000, .inl (rRf U))), (aa, .inl (cI, 8001, .inl (rAf U))), (si, .inl (cI, 8001, .inl (rZf U))), (so, .inl (cI, 8001, .inl (rOf U))), (la, .inl (cI, 8001, .inl (rLf U))), (ip, .inl (cB, 1000, .inl (rJf U))), (oq, .inl (cB, 4096, .inl (rQf U))), (cp, .inl (cB, 4000, .inl (rCf U)))])) (by decide) (Nat.le_of_ble_eq_true rfl) ?_
  intro p e s m below meth c ls A hE hr hlocks hin hsz hK hP hD hS hA hAe hl
  have hx := hE.1
  have hb := hE.2.1
  have hown := hE.2.2.2.1
  have hw := hE.2.2.2.2
  have hl : lv_has ls 6 [(0, .ref m0)] := hl
  have hMI := hR.1
  have hm80 := hR.1.1
  have hmd2 := hR.2.1
  have hgl := hR.2.2.2.1
  have hll := hR.1.2.2.2.2.1
  have hgi := hI0.2.1
  have hgo := hO.2.1
  have hgt := hR.2.2.2.2.1
  have hgr : gr ≤ 40000 := by rw [hR.2.2.1]; exact hR.1.2.1
  refine lv_aload_n hx hb d_Mo_service_0 rfl (lv_at hl 0 rfl) ?_
  refine zget hE hK hP 0 rfl fd_Mo_19 rfl d_Mo_service_1 ?_
  refine lv_bipush (v := 10) hx hb d_Mo_service_4 (by decide) ?_
  refine va_iald hx hb hK hP 1 0 rfl rfl (by unfold vp_in; decide) d_Mo_service_6 ?_
  refine z_st (st' := [.int (rg 10)]) rfl ?_
  refine lv_istore_n (lv' := [(1, .int (rg 10)), (0, .ref m0)]) hx hb d_Mo_service_7 rfl hl (by decide) rfl (fun ls hl => ?_)
  refine lv_aload_n hx hb d_Mo_service_8 rfl (lv_at hl 1 rfl) ?_
  refine zget hE hK hP 0 rfl fd_Mo_19 rfl d_Mo_service_9 ?_
  refine lv_bipush (v := 11) hx hb d_Mo_service_12 (by decide) ?_
  refine va_iald hx hb hK hP 1 0 rfl rfl (by unfold vp_in; decide) d_Mo_service_14 ?_
  refine z_st (st' := [.int (rg 11)]) rfl ?_
  refine lv_istore_n (lv' := [(2, .int (rg 11)), (1, .int (rg 10)), (0, .ref m0)]) hx hb d_Mo_service_15 rfl hl (by decide) rfl (fun ls hl => ?_)
  refine lv_aload_n hx hb d_Mo_service_16 rfl (lv_at hl 2 rfl) ?_
  refine zget hE hK hP 0 rfl fd_Mo_19 rfl d_Mo_service_17 ?_
  refine lv_bipush (v := 12) hx hb d_Mo_service_20 (by decide) ?_
  refine va_iald hx hb hK hP 1 0 rfl rfl (by unfold vp_in; decide) d_Mo_service_22 ?_
  refine z_st (st' := [.int (rg 12)]) rfl ?_
  refine lv_istore_n (lv' := [(3, .int (rg 12)), (2, .int (rg 11)), (1, .int (rg 10)), (0, .ref m0)]) hx hb d_Mo_service_23 rfl hl (by decide) rfl (fun ls hl => ?_)
  refine lv_aload_n hx hb d_Mo_service_24 rfl (lv_at hl 3 rfl) ?_
  refine zget hE hK hP 0 rfl fd_Mo_19 rfl d_Mo_service_25 ?_
  refine lv_bipush (v := 17) hx hb d_Mo_service_28 (by decide) ?_
  refine va_iald hx hb hK hP 1 0 rfl rfl (by unfold vp_in; decide) d_Mo_service_30 ?_
  refine z_st (st' := [.int (rg 17)]) rfl ?_
  rcases Decidable.em ((rg 17) = 0) with h1 | h1
  · refine lv_tableIn (tgt := 80) hx hb d_Mo_service_31 (by rw [h1]; decide) (by rw [h1]; decide) (by rw [h1]; rfl) (by decide) ?_
    refine lv_aload_n hx hb d_Mo_service_80 rfl (lv_at hl 3 rfl) ?_
    refine lv_iconst (v := 2) hx hb d_Mo_service_81 (by decide) ?_
    refine zput (v := .int 2) hE hK hP hD hS 0 rfl fd_Mo_97 ft_Mo_7 rfl rfl (Nat.le_of_ble_eq_true rfl) d_Mo_service_82 (fun H locs hP hD hS => ?_)
    have hP : va_P D zC [(m0, .inr (3, [.ref mk, .ref mt, .int kd, .ref wo, .int wn, .ref re, .int pc, .int 2, .int dn, .int th, .ref ro, .ref aa, .ref si, .ref so, .ref la, .int (nI gd), .int (nI gl), .int (nI gt), .int (nI gr), .ref ip, .ref oq, .ref cp, .int (nI gi), .int (nI go)])), (re, .inl (cI, 32, .inl (rg))), (ro, .inl (cB, 90000, .inl (rf))), (aa, .inl (cI, 8001, .inl (af))), (si, .inl (cI, 8001, .inl (zf))), (so, .inl (cI, 8001, .inl (of))), (la, .inl (cI, 8001, .inl (lf))), (ip, .inl (cB, 1000, .inl (jf))), (oq, .inl (cB, 4096, .inl (qf))), (cp, .inl (cB, 4000, .inl (cf)))] _ := hP
    have hD : va_D A [(m0, .inr (3, [.ref mk, .ref mt, .int kd, .ref wo, .int wn, .ref re, .int pc, .int 2, .int dn, .int th, .ref ro, .ref aa, .ref si, .ref so, .ref la, .int (nI gd), .int (nI gl), .int (nI gt), .int (nI gr), .ref ip, .ref oq, .ref cp, .int (nI gi), .int (nI go)])), (re, .inl (cI, 32, .inl (rg))), (ro, .inl (cB, 90000, .inl (rf))), (aa, .inl (cI, 8001, .inl (af))), (si, .inl (cI, 8001, .inl (zf))), (so, .inl (cI, 8001, .inl (of))), (la, .inl (cI, 8001, .inl (lf))), (ip, .inl (cB, 1000, .inl (jf))), (oq, .inl (cB, 4096, .inl (qf))), (cp, .inl (cB, 4000, .inl (cf)))] := hD
    have hs : xServe rg M I O sta = (0, rg, M, I, O, 2) := by unfold xServe; (rw [if_pos h1]) <;> rfl
    have ypc : sPc rg M I O sta pc = pc := by unfold sPc; rw [hs]; exact (if_pos rfl).trans (if_pos h1)
    have yst : sSt rg M I O sta = 2 := by unfold sSt; rw [hs]; exact if_pos rfl
    have hP9 := hP.sub (ws' := [(m0, .inr (3, [.ref mk, .ref mt, .int kd, .ref wo, .int wn, .ref re, .int pc, .int 2, .int dn, .int th, .ref ro, .ref aa, .ref si, .ref so, .ref la, .int (nI gd), .int (nI gl), .int (nI gt), .int (nI gr), .ref ip, .ref oq, .ref cp, .int (nI gi), .int (nI go)])), (re, .inl (cI, 32, .inl (rg))), (ro, .inl (cB, 90000, .inl (rf))), (aa, .inl (cI, 8001, .inl (af))), (si, .inl (cI, 8001, .inl (zf))), (so, .inl (cI, 8001, .inl (of))), (la, .inl (cI, 8001, .inl (lf))), (ip, .inl (cB, 1000, .inl (jf))), (oq, .inl (cB, 4096, .inl (qf))), (cp, .inl (cB, 4000, .inl (cf)))]) [0, 1, 2, 3, 4, 5, 6, 7, 8, 9] rfl
    have hD9 := hD.sub (ws' := [(m0, .inr (3, [.ref mk, .ref mt, .int kd, .ref wo, .int wn, .ref re, .int pc, .int 2, .int dn, .int th, .ref ro, .ref aa, .ref si, .ref so, .ref la, .int (nI gd), .int (nI gl), .int (nI gt), .int (nI gr), .ref ip, .ref oq, .ref cp, .int (nI gi), .int (nI go)])), (re, .inl (cI, 32, .inl (rg))), (ro, .inl (cB, 90000, .inl (rf))), (aa, .inl (cI, 8001, .inl (af))), (si, .inl (cI, 8001, .inl (zf))), (so, .inl (cI, 8001, .inl (of))), (la, .inl (cI, 8001, .inl (lf))), (ip, .inl (cB, 1000, .inl (jf))), (oq, .inl (cB, 4096, .inl (qf))), (cp, .inl (cB, 4000, .inl (cf)))]) [0, 1, 2, 3, 4, 5, 6, 7, 8, 9] rfl rfl
    exact zretv hx hb hr hlocks hS ((gd, gl, gt, gr, gi, go), (af, zf, of, lf, rf, jf, qf, cf)) (by rw [hs]; exact ⟨hR, hI0, hO⟩) rfl (by rw [ypc, yst, hs]; exact hP9) (by rw [ypc, yst, hs]; exact hD9) d_Mo_service_85
  · rcases Decidable.em ((rg 17) = 1) with h2 | h2
    · refine lv_tableIn (tgt := 86) hx hb d_Mo_service_31 (by rw [h2]; decide) (by rw [h2]; decide) (by rw [h2]; rfl) (by decide) ?_
      refine lv_aload_n hx hb d_Mo_service_86 rfl (lv_at hl 3 rfl) ?_
      refine lv_iload_n hx hb d_Mo_service_87 rfl (lv_at hl 2 rfl) ?_
      refine lv_aload_n hx hb d_Mo_service_88 rfl (lv_at hl 3 rfl) ?_
      refine zget hE hK hP 0 rfl fd_Mo_19 rfl d_Mo_service_89 ?_
      refine lv_bipush (v := 17) hx hb d_Mo_service_92 (by decide) ?_
      refine va_iald hx hb hK hP 1 0 rfl rfl (by unfold vp_in; decide) d_Mo_service_94 ?_
      refine z_st (st' := [.int (rg 17), .int (rg 10), .ref m0]) rfl ?_
      refine lv_iconst (v := 1) hx hb d_Mo_service_95 (by decide) ?_
      refine lv_icmp_ne (tgt := 103) hx hb d_Mo_service_96 (by decide) (fun h3 => absurd h2 h3) (fun h3 => ?_)
      refine lv_iconst (v := 1) hx hb d_Mo_service_99 (by decide) ?_
      refine lv_goto (tgt := 104) hx hb d_Mo_service_100 (by decide) ?_
      refine zgoi (wr := [(re, .inl (cI, 32, .inl (rg))), (la, .inl (cI, 8001, .inl (lf))), (ip, .inl (cB, 1000, .inl (jf))), (oq, .inl (cB, 4096, .inl (qf))), (cp, .inl (cB, 4000, .inl (cf)))]) (zrunV (n := 2) (As := [.int (rg 10), .int 1]) (rest := []) hE (c_Mo_object l D cI cB cJ _ (rg 10) 1 m0 mk mt kd wo wn re pc sta dn th ro aa si so la gd gl gt gr ip oq cp (nI gi) (nI go) af zf of rf M lf false hR rfl) cb_Mo_object lk_Mo_162 in_Mo_object se_Mo_object (zpreV (q0 := 0) hK hP hD rfl rfl rfl [0, 3, 4, 5, 2] rfl rfl rfl) ⟨Nat.le_of_ble_eq_true rfl, Nat.le_of_ble_eq_true rfl, Nat.le_of_ble_eq_true rfl, Nat.le_of_ble_eq_true rfl⟩ rfl hl.1 rfl (Nat.le_of_ble_eq_true rfl) d_Mo_service_104) hP hD hS hA [0, 3, 4, 5, 2] [1, 6, 7, 8, 9] rfl rfl rfl (by decide) (fun r5 u6 H locs hq4 hP hD hS => ?_)
      obtain ⟨rfl, hR⟩ := hq4
      have hP : va_P D zC [(re, .inl (cI, 32, .inl (rg))), (la, .inl (cI, 8001, .inl (lf))), (ip, .inl (cB, 1000, .inl (jf))), (oq, .inl (cB, 4096, .inl (qf))), (cp, .inl (cB, 4000, .inl (cf))), (m0, .inr (3, [.ref mk, .ref mt, .int kd, .ref wo, .int wn, .ref re, .int pc, .int sta, .int dn, .int th, .ref ro, .ref aa, .ref si, .ref so, .ref la, .int (nI u6.1.1), .int (nI gl), .int (nI u6.1.2.1), .int (nI u6.1.2.2), .ref ip, .ref oq, .ref cp, .int (nI gi), .int (nI go)])), (aa, .inl (cI, 8001, .inl (u6.2.1))), (si, .inl (cI, 8001, .inl (u6.2.2.1))), (so, .inl (cI, 8001, .inl (u6.2.2.2.1))), (ro, .inl (cB, 90000, .inl (u6.2.2.2.2)))] _ := hP
      have hD : va_D A [(re, .inl (cI, 32, .inl (rg))), (la, .inl (cI, 8001, .inl (lf))), (ip, .inl (cB, 1000, .inl (jf))), (oq, .inl (cB, 4096, .inl (qf))), (cp, .inl (cB, 4000, .inl (cf))), (m0, .inr (3, [.ref mk, .ref mt, .int kd, .ref wo, .int wn, .ref re, .int pc, .int sta, .int dn, .int th, .ref ro, .ref aa, .ref si, .ref so, .ref la, .int (nI u6.1.1), .int (nI gl), .int (nI u6.1.2.1), .int (nI u6.1.2.2), .ref ip, .ref oq, .ref cp, .int (nI gi), .int (nI go)])), (aa, .inl (cI, 8001, .inl (u6.2.1))), (si, .inl (cI, 8001, .inl (u6.2.2.1))), (so, .inl (cI, 8001, .inl (u6.2.2.2.1))), (ro, .inl (cB, 90000, .inl (u6.2.2.2.2)))] := hD
      refine lv_istore (lv' := [(4, .int ((oAn M (rg 10) false))), (3, .int (rg 12)), (2, .int (rg 11)), (1, .int (rg 10)), (0, .ref m0)]) hx hb d_Mo_service_107 hl (by decide) rfl (fun ls hl => ?_)
      refine lv_iload hx hb d_Mo_service_109 (lv_at hl 0 rfl) ?_
      refine lv_if_ne (tgt := 131) hx hb d_Mo_service_111 (by decide) (fun h7 => ?_) (fun h7 => ?_)
      · refine lv_aload_n hx hb d_Mo_service_131 rfl (lv_at hl 4 rfl) ?_
        refine zget hE hK hP 5 rfl fd_Mo_19 rfl d_Mo_service_132 ?_
        refine lv_bipush (v := 17) hx hb d_Mo_service_135 (by decide) ?_
        refine va_iald hx hb hK hP 0 0 rfl rfl (by unfold vp_in; decide) d_Mo_service_137 ?_
        refine z_st (st' := [.int (rg 17)]) rfl ?_
        refine lv_iconst (v := 1) hx hb d_Mo_service_138 (by decide) ?_
        refine lv_icmp_ne (tgt := 163) hx hb d_Mo_service_139 (by decide) (fun h8 => absurd h2 h8) (fun h8 => ?_)
        obtain ⟨o1, o2, o3⟩ := o_last lf h7
        rw [o2, o3, ← hgl] at hR
        have hxk := xMk_nz h7
        refine lv_aload_n hx hb d_Mo_service_142 rfl (lv_at hl 4 rfl) ?_
        refine zget hE hK hP 5 rfl fd_Mo_36 rfl d_Mo_service_143 ?_
        refine lv_aload_n hx hb d_Mo_service_146 rfl (lv_at hl 4 rfl) ?_
        refine zget hE hK hP 5 rfl fd_Mo_165 rfl d_Mo_service_147 ?_
        refine lv_iload hx hb d_Mo_service_150 (lv_at hl 0 rfl) ?_
        refine va_iast hx hb hK hP hD hS 1 0 rfl rfl (vp_in_nI (by omega) (by omega)) d_Mo_service_152 (fun H locs hP hD hS => ?_)
        have hP : va_P D zC [(re, .inl (cI, 32, .inl (rg))), (la, .inl (cI, 8001, .inl (upd lf (nI gl).toNatClampNeg (oAn M (rg 10) false)))), (ip, .inl (cB, 1000, .inl (jf))), (oq, .inl (cB, 4096, .inl (qf))), (cp, .inl (cB, 4000, .inl (cf))), (m0, .inr (3, [.ref mk, .ref mt, .int kd, .ref wo, .int wn, .ref re, .int pc, .int sta, .int dn, .int th, .ref ro, .ref aa, .ref si, .ref so, .ref la, .int (nI u6.1.1), .int (nI gl), .int (nI u6.1.2.1), .int (nI u6.1.2.2), .ref ip, .ref oq, .ref cp, .int (nI gi), .int (nI go)])), (aa, .inl (cI, 8001, .inl (u6.2.1))), (si, .inl (cI, 8001, .inl (u6.2.2.1))), (so, .inl (cI, 8001, .inl (u6.2.2.2.1))), (ro, .inl (cB, 90000, .inl (u6.2.2.2.2)))] _ := hP
        have hD : va_D A [(re, .inl (cI, 32, .inl (rg))), (la, .inl (cI, 8001, .inl (upd lf (nI gl).toNatClampNeg (oAn M (rg 10) false)))), (ip, .inl (cB, 1000, .inl (jf))), (oq, .inl (cB, 4096, .inl (qf))), (cp, .inl (cB, 4000, .inl (cf))), (m0, .inr (3, [.ref mk, .ref mt, .int kd, .ref wo, .int wn, .ref re, .int pc, .int sta, .int dn, .int th, .ref ro, .ref aa, .ref si, .ref so, .ref la, .int (nI u6.1.1), .int (nI gl), .int (nI u6.1.2.1), .int (nI u6.1.2.2), .ref ip, .ref oq, .ref cp, .int (nI gi), .int (nI go)])), (aa, .inl (cI, 8001, .inl (u6.2.1))), (si, .inl (cI, 8001, .inl (u6.2.2.1))), (so, .inl (cI, 8001, .inl (u6.2.2.2.1))), (ro, .inl (cB, 90000, .inl (u6.2.2.2.2)))] := hD
        rw [show ((upd lf (nI gl).toNatClampNeg (oAn M (rg 10) false)) : Nat → Int32) = upd lf gl (nI (mMd M + 1)) from by rw [nI_clamp (by omega), o1]] at hP hD
        have hP : va_P D zC [(re, .inl (cI, 32, .inl (rg))), (la, .inl (cI, 8001, .inl (upd lf gl (nI (mMd M + 1))))), (ip, .inl (cB, 1000, .inl (jf))), (oq, .inl (cB, 4096, .inl (qf))), (cp, .inl (cB, 4000, .inl (cf))), (m0, .inr (3, [.ref mk, .ref mt, .int kd, .ref wo, .int wn, .ref re, .int pc, .int sta, .int dn, .int th, .ref ro, .ref aa, .ref si, .ref so, .ref la, .int (nI u6.1.1), .int (nI gl), .int (nI u6.1.2.1), .int (nI u6.1.2.2), .ref ip, .ref oq, .ref cp, .int (nI gi), .int (nI go)])), (aa, .inl (cI, 8001, .inl (u6.2.1))), (si, .inl (cI, 8001, .inl (u6.2.2.1))), (so, .inl (cI, 8001, .inl (u6.2.2.2.1))), (ro, .inl (cB, 90000, .inl (u6.2.2.2.2)))] _ := hP
        have hD : va_D A [(re, .inl (cI, 32, .inl (rg))), (la, .inl (cI, 8001, .inl (upd lf gl (nI (mMd M + 1))))), (ip, .inl (cB, 1000, .inl (jf))), (oq, .inl (cB, 4096, .inl (qf))), (cp, .inl (cB, 4000, .inl (cf))), (m0, .inr (3, [.ref mk, .ref mt, .int kd, .ref wo, .int wn, .ref re, .int pc, .int sta, .int dn, .int th, .ref ro, .ref aa, .ref si, .ref so, .ref la, .int (nI u6.1.1), .int (nI gl), .int (nI u6.1.2.1), .int (nI u6.1.2.2), .ref ip, .ref oq, .ref cp, .int (nI gi), .int (nI go)])), (aa, .inl (cI, 8001, .inl (u6.2.1))), (si, .inl (cI, 8001, .inl (u6.2.2.1))), (so, .inl (cI, 8001, .inl (u6.2.2.2.1))), (ro, .inl (cB, 90000, .inl (u6.2.2.2.2)))] := hD
        refine lv_aload_n hx hb d_Mo_service_153 rfl (lv_at hl 4 rfl) ?_
        refine lv_dup hx hb d_Mo_service_154 rfl ?_
        refine zget hE hK hP 5 rfl fd_Mo_165 rfl d_Mo_service_155 ?_
        refine lv_iconst (v := 1) hx hb d_Mo_service_158 (by decide) ?_
        refine lv_iadd hx hb d_Mo_service_159 ?_
        refine z_st (st' := [.int (nI (gl + 1)), .ref m0]) (by rw [show (((nI gl) + 1) : Int32) = nI (gl + 1) from nI_1 gl]) ?_
        refine zput (v := .int (nI (gl + 1))) hE hK hP hD hS 5 rfl fd_Mo_165 ft_Mo_16 rfl rfl (Nat.le_of_ble_eq_true rfl) d_Mo_service_160 (fun H locs hP hD hS => ?_)
        have hP : va_P D zC [(re, .inl (cI, 32, .inl (rg))), (la, .inl (cI, 8001, .inl (upd lf gl (nI (mMd M + 1))))), (ip, .inl (cB, 1000, .inl (jf))), (oq, .inl (cB, 4096, .inl (qf))), (cp, .inl (cB, 4000, .inl (cf))), (m0, .inr (3, [.ref mk, .ref mt, .int kd, .ref wo, .int wn, .ref re, .int pc, .int sta, .int dn, .int th, .ref ro, .ref aa, .ref si, .ref so, .ref la, .int (nI u6.1.1), .int (nI (gl + 1)), .int (nI u6.1.2.1), .int (nI u6.1.2.2), .ref ip, .ref oq, .ref cp, .int (nI gi), .int (nI go)])), (aa, .inl (cI, 8001, .inl (u6.2.1))), (si, .inl (cI, 8001, .inl (u6.2.2.1))), (so, .inl (cI, 8001, .inl (u6.2.2.2.1))), (ro, .inl (cB, 90000, .inl (u6.2.2.2.2)))] _ := hP
        have hD : va_D A [(re, .inl (cI, 32, .inl (rg))), (la, .inl (cI, 8001, .inl (upd lf gl (nI (mMd M + 1))))), (ip, .inl (cB, 1000, .inl (jf))), (oq, .inl (cB, 4096, .inl (qf))), (cp, .inl (cB, 4000, .inl (cf))), (m0, .inr (3, [.ref mk, .ref mt, .int kd, .ref wo, .int wn, .ref re, .int pc, .int sta, .int dn, .int th, .ref ro, .ref aa, .ref si, .ref so, .ref la, .int (nI u6.1.1), .int (nI (gl + 1)), .int (nI u6.1.2.1), .int (nI u6.1.2.2), .ref ip, .ref oq, .ref cp, .int (nI gi), .int (nI go)])), (aa, .inl (cI, 8001, .inl (u6.2.1))), (si, .inl (cI, 8001, .inl (u6.2.2.1))), (so, .inl (cI, 8001, .inl (u6.2.2.2.1))), (ro, .inl (cB, 90000, .inl (u6.2.2.2.2)))] := hD
        refine lv_aload_n hx hb d_Mo_service_163 rfl (lv_at hl 4 rfl) ?_
        refine zget hE hK hP 5 rfl fd_Mo_19 rfl d_Mo_service_164 ?_
        refine lv_bipush (v := 10) hx hb d_Mo_service_167 (by decide) ?_
        refine lv_iload hx hb d_Mo_service_169 (lv_at hl 0 rfl) ?_
        refine lv_bipush (v := 16) hx hb d_Mo_service_171 (by decide) ?_
        refine lv_ishl hx hb d_Mo_service_173 ?_
        refine va_iast hx hb hK hP hD hS 0 0 rfl rfl (by unfold vp_in; decide) d_Mo_service_174 (fun H locs hP hD hS => ?_)
        have hP : va_P D zC [(re, .inl (cI, 32, .inl (upd rg 10 (((oAn M (rg 10) false) : Int32) <<< ((16 : Int32) &&& 31))))), (la, .inl (cI, 8001, .inl (upd lf gl (nI (mMd M + 1))))), (ip, .inl (cB, 1000, .inl (jf))), (oq, .inl (cB, 4096, .inl (qf))), (cp, .inl (cB, 4000, .inl (cf))), (m0, .inr (3, [.ref mk, .ref mt, .int kd, .ref wo, .int wn, .ref re, .int pc, .int sta, .int dn, .int th, .ref ro, .ref aa, .ref si, .ref so, .ref la, .int (nI u6.1.1), .int (nI (gl + 1)), .int (nI u6.1.2.1), .int (nI u6.1.2.2), .ref ip, .ref oq, .ref cp, .int (nI gi), .int (nI go)])), (aa, .inl (cI, 8001, .inl (u6.2.1))), (si, .inl (cI, 8001, .inl (u6.2.2.1))), (so, .inl (cI, 8001, .inl (u6.2.2.2.1))), (ro, .inl (cB, 90000, .inl (u6.2.2.2.2)))] _ := hP
        have hD : va_D A [(re, .inl (cI, 32, .inl (upd rg 10 (((oAn M (rg 10) false) : Int32) <<< ((16 : Int32) &&& 31))))), (la, .inl (cI, 8001, .inl (upd lf gl (nI (mMd M + 1))))), (ip, .inl (cB, 1000, .inl (jf))), (oq, .inl (cB, 4096, .inl (qf))), (cp, .inl (cB, 4000, .inl (cf))), (m0, .inr (3, [.ref mk, .ref mt, .int kd, .ref wo, .int wn, .ref re, .int pc, .int sta, .int dn, .int th, .ref ro, .ref aa, .ref si, .ref so, .ref la, .int (nI u6.1.1), .int (nI (gl + 1)), .int (nI u6.1.2.1), .int (nI u6.1.2.2), .ref ip, .ref oq, .ref cp, .int (nI gi), .int (nI go)])), (aa, .inl (cI, 8001, .inl (u6.2.1))), (si, .inl (cI, 8001, .inl (u6.2.2.1))), (so, .inl (cI, 8001, .inl (u6.2.2.2.1))), (ro, .inl (cB, 90000, .inl (u6.2.2.2.2)))] := hD
        rw [show ((upd rg 10 (((oAn M (rg 10) false) : Int32) <<< ((16 : Int32) &&& 31))) : Nat → Int32) = upd rg 10 (xMk M (rg 10) false) from by rw [xMk_an]] at hP hD
        have hP : va_P D zC [(re, .inl (cI, 32, .inl (upd rg 10 (xMk M (rg 10) false)))), (la, .inl (cI, 8001, .inl (upd lf gl (nI (mMd M + 1))))), (ip, .inl (cB, 1000, .inl (jf))), (oq, .inl (cB, 4096, .inl (qf))), (cp, .inl (cB, 4000, .inl (cf))), (m0, .inr (3, [.ref mk, .ref mt, .int kd, .ref wo, .int wn, .ref re, .int pc, .int sta, .int dn, .int th, .ref ro, .ref aa, .ref si, .ref so, .ref la, .int (nI u6.1.1), .int (nI (gl + 1)), .int (nI u6.1.2.1), .int (nI u6.1.2.2), .ref ip, .ref oq, .ref cp, .int (nI gi), .int (nI go)])), (aa, .inl (cI, 8001, .inl (u6.2.1))), (si, .inl (cI, 8001, .inl (u6.2.2.1))), (so, .inl (cI, 8001, .inl (u6.2.2.2.1))), (ro, .inl (cB, 90000, .inl (u6.2.2.2.2)))] _ := hP
        have hD : va_D A [(re, .inl (cI, 32, .inl (upd rg 10 (xMk M (rg 10) false)))), (la, .inl (cI, 8001, .inl (upd lf gl (nI (mMd M + 1))))), (ip, .inl (cB, 1000, .inl (jf))), (oq, .inl (cB, 4096, .inl (qf))), (cp, .inl (cB, 4000, .inl (cf))), (m0, .inr (3, [.ref mk, .ref mt, .int kd, .ref wo, .int wn, .ref re, .int pc, .int sta, .int dn, .int th, .ref ro, .ref aa, .ref si, .ref so, .ref la, .int (nI u6.1.1), .int (nI (gl + 1)), .int (nI u6.1.2.1), .int (nI u6.1.2.2), .ref ip, .ref oq, .ref cp, .int (nI gi), .int (nI go)])), (aa, .inl (cI, 8001, .inl (u6.2.1))), (si, .inl (cI, 8001, .inl (u6.2.2.1))), (so, .inl (cI, 8001, .inl (u6.2.2.2.1))), (ro, .inl (cB, 90000, .inl (u6.2.2.2.2)))] := hD
        refine lv_goto (tgt := 533) hx hb d_Mo_service_175 (by decide) ?_
        refine lv_aload_n hx hb d_Mo_service_533 rfl (lv_at hl 4 rfl) ?_
        refine lv_dup hx hb d_Mo_service_534 rfl ?_
        refine zget hE hK hP 5 rfl fd_Mo_104 rfl d_Mo_service_535 ?_
        refine lv_iconst (v := 4) hx hb d_Mo_service_538 (by decide) ?_
        refine lv_iadd hx hb d_Mo_service_539 ?_
        refine zput (v := .int (pc + 4)) hE hK hP hD hS 5 rfl fd_Mo_104 ft_Mo_6 rfl rfl (Nat.le_of_ble_eq_true rfl) d_Mo_service_540 (fun H locs hP hD hS => ?_)
        have hP : va_P D zC [(re, .inl (cI, 32, .inl (upd rg 10 (xMk M (rg 10) false)))), (la, .inl (cI, 8001, .inl (upd lf gl (nI (mMd M + 1))))), (ip, .inl (cB, 1000, .inl (jf))), (oq, .inl (cB, 4096, .inl (qf))), (cp, .inl (cB, 4000, .inl (cf))), (m0, .inr (3, [.ref mk, .ref mt, .int kd, .ref wo, .int wn, .ref re, .int (pc + 4), .int sta, .int dn, .int th, .ref ro, .ref aa, .ref si, .ref so, .ref la, .int (nI u6.1.1), .int (nI (gl + 1)), .int (nI u6.1.2.1), .int (nI u6.1.2.2), .ref ip, .ref oq, .ref cp, .int (nI gi), .int (nI go)])), (aa, .inl (cI, 8001, .inl (u6.2.1))), (si, .inl (cI, 8001, .inl (u6.2.2.1))), (so, .inl (cI, 8001, .inl (u6.2.2.2.1))), (ro, .inl (cB, 90000, .inl (u6.2.2.2.2)))] _ := hP
        have hD : va_D A [(re, .inl (cI, 32, .inl (upd rg 10 (xMk M (rg 10) false)))), (la, .inl (cI, 8001, .inl (upd lf gl (nI (mMd M + 1))))), (ip, .inl (cB, 1000, .inl (jf))), (oq, .inl (cB, 4096, .inl (qf))), (cp, .inl (cB, 4000, .inl (cf))), (m0, .inr (3, [.ref mk, .ref mt, .int kd, .ref wo, .int wn, .ref re, .int (pc + 4), .int sta, .int dn, .int th, .ref ro, .ref aa, .ref si, .ref so, .ref la, .int (nI u6.1.1), .int (nI (gl + 1)), .int (nI u6.1.2.1), .int (nI u6.1.2.2), .ref ip, .ref oq, .ref cp, .int (nI gi), .int (nI go)])), (aa, .inl (cI, 8001, .inl (u6.2.1))), (si, .inl (cI, 8001, .inl (u6.2.2.1))), (so, .inl (cI, 8001, .inl (u6.2.2.2.1))), (ro, .inl (cB, 90000, .inl (u6.2.2.2.2)))] := hD
        have hs : xServe rg M I O sta = (0, upd rg 10 (xMk M (rg 10) false), oM M (rg 10) false, I, O, sta) := by unfold xServe; (rw [if_neg h1, if_pos h2, sp_Rv_answerAddress, if_neg hxk]) <;> rfl
        have ypc : sPc rg M I O sta pc = pc + 4 := by unfold sPc; rw [hs]; exact (if_pos rfl).trans (if_neg h1)
        have yst : sSt rg M I O sta = sta := by unfold sSt; rw [hs]; exact if_pos rfl
        have hP9 := hP.sub (ws' := [(m0, .inr (3, [.ref mk, .ref mt, .int kd, .ref wo, .int wn, .ref re, .int (pc + 4), .int sta, .int dn, .int th, .ref ro, .ref aa, .ref si, .ref so, .ref la, .int (nI u6.1.1), .int (nI (gl + 1)), .int (nI u6.1.2.1), .int (nI u6.1.2.2), .ref ip, .ref oq, .ref cp, .int (nI gi), .int (nI go)])), (re, .inl (cI, 32, .inl (upd rg 10 (xMk M (rg 10) false)))), (ro, .inl (cB, 90000, .inl (u6.2.2.2.2))), (aa, .inl (cI, 8001, .inl (u6.2.1))), (si, .inl (cI, 8001, .inl (u6.2.2.1))), (so, .inl (cI, 8001, .inl (u6.2.2.2.1))), (la, .inl (cI, 8001, .inl (upd lf gl (nI (mMd M + 1))))), (ip, .inl (cB, 1000, .inl (jf))), (oq, .inl (cB, 4096, .inl (qf))), (cp, .inl (cB, 4000, .inl (cf)))]) [5, 0, 9, 6, 7, 8, 1, 2, 3, 4] rfl
        have hD9 := hD.sub (ws' := [(m0, .inr (3, [.ref mk, .ref mt, .int kd, .ref wo, .int wn, .ref re, .int (pc + 4), .int sta, .int dn, .int th, .ref ro, .ref aa, .ref si, .ref so, .ref la, .int (nI u6.1.1), .int (nI (gl + 1)), .int (nI u6.1.2.1), .int (nI u6.1.2.2), .ref ip, .ref oq, .ref cp, .int (nI gi), .int (nI go)])), (re, .inl (cI, 32, .inl (upd rg 10 (xMk M (rg 10) false)))), (ro, .inl (cB, 90000, .inl (u6.2.2.2.2))), (aa, .inl (cI, 8001, .inl (u6.2.1))), (si, .inl (cI, 8001, .inl (u6.2.2.1))), (so, .inl (cI, 8001, .inl (u6.2.2.2.1))), (la, .inl (cI, 8001, .inl (upd lf gl (nI (mMd M + 1))))), (ip, .inl (cB, 1000, .inl (jf))), (oq, .inl (cB, 4096, .inl (qf))), (cp, .inl (cB, 4000, .inl (cf)))]) [5, 0, 9, 6, 7, 8, 1, 2, 3, 4] rfl rfl
        exact zretv hx hb hr hlocks hS ((u6.1.1, (gl + 1), u6.1.2.1, u6.1.2.2, gi, go), (u6.2.1, u6.2.2.1, u6.2.2.2.1, upd lf gl (nI (mMd M + 1)), u6.2.2.2.2, jf, qf, cf)) (by rw [hs]; exact ⟨hR, hI0, hO⟩) rfl (by rw [ypc, yst, hs]; exact hP9) (by rw [ypc, yst, hs]; exact hD9) d_Mo_service_543
      · refine lv_aload_n hx hb d_Mo_service_114 rfl (lv_at hl 4 rfl) ?_
        refine zget hE hK hP 5 rfl fd_Mo_19 rfl d_Mo_service_115 ?_
        refine lv_bipush (v := 17) hx hb d_Mo_service_118 (by decide) ?_
        refine va_iald hx hb hK hP 0 0 rfl rfl (by unfold vp_in; decide) d_Mo_service_120 ?_
        refine z_st (st' := [.int (rg 17)]) rfl ?_
        refine lv_iconst (v := 1) hx hb d_Mo_service_121 (by decide) ?_
        refine lv_icmp_ne (tgt := 131) hx hb d_Mo_service_122 (by decide) (fun h9 => absurd h2 h9) (fun h9 => ?_)
        have hnone := an_zero h7
        have hxk : xMk M (rg 10) false = 0 := by rw [xMk_an, h7]; decide
        rw [(o_none lf hnone).1, (o_none lf hnone).2, ← hgl] at hR
        refine lv_aload_n hx hb d_Mo_service_125 rfl (lv_at hl 4 rfl) ?_
        refine lv_iconst (v := 4) hx hb d_Mo_service_126 (by decide) ?_
        refine zgov (wr := [(re, .inl (cI, 32, .inl (rg))), (la, .inl (cI, 8001, .inl (lf))), (ip, .inl (cB, 1000, .inl (jf))), (oq, .inl (cB, 4096, .inl (qf))), (cp, .inl (cB, 4000, .inl (cf))), (aa, .inl (cI, 8001, .inl (u6.2.1))), (si, .inl (cI, 8001, .inl (u6.2.2.1))), (so, .inl (cI, 8001, .inl (u6.2.2.2.1))), (ro, .inl (cB, 90000, .inl (u6.2.2.2.2)))]) (zrunV (n := 1) (As := [.int 4]) (rest := []) hE (c_Mo_trap l D cI cB cJ _ 4 m0 mk mt kd wo wn re pc sta dn th ro aa si so la (nI u6.1.1) (nI gl) (nI u6.1.2.1) (nI u6.1.2.2) ip oq cp (nI gi) (nI go)) cb_Mo_trap lk_Mo_100 in_Mo_trap se_Mo_trap (zpreV (q0 := 5) hK hP hD rfl rfl rfl [5] rfl rfl rfl) ⟨Nat.le_of_ble_eq_true rfl, Nat.le_of_ble_eq_true rfl, Nat.le_of_ble_eq_true rfl, Nat.le_of_ble_eq_true rfl⟩ rfl hl.1 rfl (Nat.le_of_ble_eq_true rfl) d_Mo_service_127) hP hD hS hA [5] [0, 1, 2, 3, 4, 6, 7, 8, 9] rfl rfl rfl (by decide) (fun u12 H locs hq10 hP hD hS => ?_)
        clear hq10
        have hP : va_P D zC [(re, .inl (cI, 32, .inl (rg))), (la, .inl (cI, 8001, .inl (lf))), (ip, .inl (cB, 1000, .inl (jf))), (oq, .inl (cB, 4096, .inl (qf))), (cp, .inl (cB, 4000, .inl (cf))), (aa, .inl (cI, 8001, .inl (u6.2.1))), (si, .inl (cI, 8001, .inl (u6.2.2.1))), (so, .inl (cI, 8001, .inl (u6.2.2.2.1))), (ro, .inl (cB, 90000, .inl (u6.2.2.2.2))), (m0, .inr (3, [.ref mk, .ref mt, .int kd, .ref wo, .int wn, .ref re, .int pc, .int ((sp_Mo_trap 4)), .int dn, .int th, .ref ro, .ref aa, .ref si, .ref so, .ref la, .int (nI u6.1.1), .int (nI gl), .int (nI u6.1.2.1), .int (nI u6.1.2.2), .ref ip, .ref oq, .ref cp, .int (nI gi), .int (nI go)]))] _ := hP
        have hD : va_D A [(re, .inl (cI, 32, .inl (rg))), (la, .inl (cI, 8001, .inl (lf))), (ip, .inl (cB, 1000, .inl (jf))), (oq, .inl (cB, 4096, .inl (qf))), (cp, .inl (cB, 4000, .inl (cf))), (aa, .inl (cI, 8001, .inl (u6.2.1))), (si, .inl (cI, 8001, .inl (u6.2.2.1))), (so, .inl (cI, 8001, .inl (u6.2.2.2.1))), (ro, .inl (cB, 90000, .inl (u6.2.2.2.2))), (m0, .inr (3, [.ref mk, .ref mt, .int kd, .ref wo, .int wn, .ref re, .int pc, .int ((sp_Mo_trap 4)), .int dn, .int th, .ref ro, .ref aa, .ref si, .ref so, .ref la, .int (nI u6.1.1), .int (nI gl), .int (nI u6.1.2.1), .int (nI u6.1.2.2), .ref ip, .ref oq, .ref cp, .int (nI gi), .int (nI go)]))] := hD
        have hs : xServe rg M I O sta = (4, rg, M, I, O, sta) := by unfold xServe; (rw [if_neg h1, if_pos h2, hxk, hnone]) <;> rfl
        have ypc : sPc rg M I O sta pc = pc := by unfold sPc; rw [hs]; exact if_neg (show ¬ ((4) : Int32) = 0 by decide)
        have yst : sSt rg M I O sta = (sp_Mo_trap 4) := by unfold sSt; rw [hs]; exact if_neg (show ¬ ((4) : Int32) = 0 by decide)
        have hP9 := hP.sub (ws' := [(m0, .inr (3, [.ref mk, .ref mt, .int kd, .ref wo, .int wn, .ref re, .int pc, .int ((sp_Mo_trap 4)), .int dn, .int th, .ref ro, .ref aa, .ref si, .ref so, .ref la, .int (nI u6.1.1), .int (nI gl), .int (nI u6.1.2.1), .int (nI u6.1.2.2), .ref ip, .ref oq, .ref cp, .int (nI gi), .int (nI go)])), (re, .inl (cI, 32, .inl (rg))), (ro, .inl (cB, 90000, .inl (u6.2.2.2.2))), (aa, .inl (cI, 8001, .inl (u6.2.1))), (si, .inl (cI, 8001, .inl (u6.2.2.1))), (so, .inl (cI, 8001, .inl (u6.2.2.2.1))), (la, .inl (cI, 8001, .inl (lf))), (ip, .inl (cB, 1000, .inl (jf))), (oq, .inl (cB, 4096, .inl (qf))), (cp, .inl (cB, 4000, .inl (cf)))]) [9, 0, 8, 5, 6, 7, 1, 2, 3, 4] rfl
        have hD9 := hD.sub (ws' := [(m0, .inr (3, [.ref mk, .ref mt, .int kd, .ref wo, .int wn, .ref re, .int pc, .int ((sp_Mo_trap 4)), .int dn, .int th, .ref ro, .ref aa, .ref si, .ref so, .ref la, .int (nI u6.1.1), .int (nI gl), .int (nI u6.1.2.1), .int (nI u6.1.2.2), .ref ip, .ref oq, .ref cp, .int (nI gi), .int (nI go)])), (re, .inl (cI, 32, .inl (rg))), (ro, .inl (cB, 90000, .inl (u6.2.2.2.2))), (aa, .inl (cI, 8001, .inl (u6.2.1))), (si, .inl (cI, 8001, .inl (u6.2.2.1))), (so, .inl (cI, 8001, .inl (u6.2.2.2.1))), (la, .inl (cI, 8001, .inl (lf))), (ip, .inl (cB, 1000, .inl (jf))), (oq, .inl (cB, 4096, .inl (qf))), (cp, .inl (cB, 4000, .inl (cf)))]) [9, 0, 8, 5, 6, 7, 1, 2, 3, 4] rfl rfl
        exact zretv hx hb hr hlocks hS ((u6.1.1, gl, u6.1.2.1, u6.1.2.2, gi, go), (u6.2.1, u6.2.2.1, u6.2.2.2.1, lf, u6.2.2.2.2, jf, qf, cf)) (by rw [hs]; exact ⟨hR, hI0, hO⟩) rfl (by rw [ypc, yst, hs]; exact hP9) (by rw [ypc, yst, hs]; exact hD9) d_Mo_service_130
    · rcases Decidable.em ((rg 17) = 2) with h13 | h13
      · refine lv_tableIn (tgt := 178) hx hb d_Mo_service_31 (by rw [h13]; decide) (by rw [h13]; decide) (by rw [h13]; rfl) (by decide) ?_
        refine lv_iload_n hx hb d_Mo_service_178 rfl (lv_at hl 2 rfl) ?_
        refine lv_if_lt (tgt := 190) hx hb d_Mo_service_179 (by decide) (fun h14 => ?_) (fun h14 => ?_)
        · have hdl : mDropL M (rg 10) = none := dl_none (by omega) (Or.inl h14)
          refine lv_aload_n hx hb d_Mo_service_190 rfl (lv_at hl 3 rfl) ?_
          refine lv_iconst (v := 4) hx hb d_Mo_service_191 (by decide) ?_
          refine zgov (wr := [(re, .inl (cI, 32, .inl (rg))), (ro, .inl (cB, 90000, .inl (rf))), (aa, .inl (cI, 8001, .inl (af))), (si, .inl (cI, 8001, .inl (zf))), (so, .inl (cI, 8001, .inl (of))), (la, .inl (cI, 8001, .inl (lf))), (ip, .inl (cB, 1000, .inl (jf))), (oq, .inl (cB, 4096, .inl (qf))), (cp, .inl (cB, 4000, .inl (cf)))]) (zrunV (n := 1) (As := [.int 4]) (rest := []) hE (c_Mo_trap l D cI cB cJ _ 4 m0 mk mt kd wo wn re pc sta dn th ro aa si so la (nI gd) (nI gl) (nI gt) (nI gr) ip oq cp (nI gi) (nI go)) cb_Mo_trap lk_Mo_100 in_Mo_trap se_Mo_trap (zpreV (q0 := 0) hK hP hD rfl rfl rfl [0] rfl rfl rfl) ⟨Nat.le_of_ble_eq_true rfl, Nat.le_of_ble_eq_true rfl, Nat.le_of_ble_eq_true rfl, Nat.le_of_ble_eq_true rfl⟩ rfl hl.1 rfl (Nat.le_of_ble_eq_true rfl) d_Mo_service_192) hP hD hS hA [0] [1, 2, 3, 4, 5, 6, 7, 8, 9] rfl rfl rfl (by decide) (fun u17 H locs hq15 hP hD hS => ?_)
          clear hq15
          have hP : va_P D zC [(re, .inl (cI, 32, .inl (rg))), (ro, .inl (cB, 90000, .inl (rf))), (aa, .inl (cI, 8001, .inl (af))), (si, .inl (cI, 8001, .inl (zf))), (so, .inl (cI, 8001, .inl (of))), (la, .inl (cI, 8001, .inl (lf))), (ip, .inl (cB, 1000, .inl (jf))), (oq, .inl (cB, 4096, .inl (qf))), (cp, .inl (cB, 4000, .inl (cf))), (m0, .inr (3, [.ref mk, .ref mt, .int kd, .ref wo, .int wn, .ref re, .int pc, .int ((sp_Mo_trap 4)), .int dn, .int th, .ref ro, .ref aa, .ref si, .ref so, .ref la, .int (nI gd), .int (nI gl), .int (nI gt), .int (nI gr), .ref ip, .ref oq, .ref cp, .int (nI gi), .int (nI go)]))] _ := hP
          have hD : va_D A [(re, .inl (cI, 32, .inl (rg))), (ro, .inl (cB, 90000, .inl (rf))), (aa, .inl (cI, 8001, .inl (af))), (si, .inl (cI, 8001, .inl (zf))), (so, .inl (cI, 8001, .inl (of))), (la, .inl (cI, 8001, .inl (lf))), (ip, .inl (cB, 1000, .inl (jf))), (oq, .inl (cB, 4096, .inl (qf))), (cp, .inl (cB, 4000, .inl (cf))), (m0, .inr (3, [.ref mk, .ref mt, .int kd, .ref wo, .int wn, .ref re, .int pc, .int ((sp_Mo_trap 4)), .int dn, .int th, .ref ro, .ref aa, .ref si, .ref so, .ref la, .int (nI gd), .int (nI gl), .int (nI gt), .int (nI gr), .ref ip, .ref oq, .ref cp, .int (nI gi), .int (nI go)]))] := hD
          have hs : xServe rg M I O sta = (4, rg, M, I, O, sta) := by unfold xServe; (rw [if_neg h1, if_neg h2, if_pos h13, hdl]) <;> rfl
          have ypc : sPc rg M I O sta pc = pc := by unfold sPc; rw [hs]; exact if_neg (show ¬ ((4) : Int32) = 0 by decide)
          have yst : sSt rg M I O sta = (sp_Mo_trap 4) := by unfold sSt; rw [hs]; exact if_neg (show ¬ ((4) : Int32) = 0 by decide)
          have hP9 := hP.sub (ws' := [(m0, .inr (3, [.ref mk, .ref mt, .int kd, .ref wo, .int wn, .ref re, .int pc, .int ((sp_Mo_trap 4)), .int dn, .int th, .ref ro, .ref aa, .ref si, .ref so, .ref la, .int (nI gd), .int (nI gl), .int (nI gt), .int (nI gr), .ref ip, .ref oq, .ref cp, .int (nI gi), .int (nI go)])), (re, .inl (cI, 32, .inl (rg))), (ro, .inl (cB, 90000, .inl (rf))), (aa, .inl (cI, 8001, .inl (af))), (si, .inl (cI, 8001, .inl (zf))), (so, .inl (cI, 8001, .inl (of))), (la, .inl (cI, 8001, .inl (lf))), (ip, .inl (cB, 1000, .inl (jf))), (oq, .inl (cB, 4096, .inl (qf))), (cp, .inl (cB, 4000, .inl (cf)))]) [9, 0, 1, 2, 3, 4, 5, 6, 7, 8] rfl
          have hD9 := hD.sub (ws' := [(m0, .inr (3, [.ref mk, .ref mt, .int kd, .ref wo, .int wn, .ref re, .int pc, .int ((sp_Mo_trap 4)), .int dn, .int th, .ref ro, .ref aa, .ref si, .ref so, .ref la, .int (nI gd), .int (nI gl), .int (nI gt), .int (nI gr), .ref ip, .ref oq, .ref cp, .int (nI gi), .int (nI go)])), (re, .inl (cI, 32, .inl (rg))), (ro, .inl (cB, 90000, .inl (rf))), (aa, .inl (cI, 8001, .inl (af))), (si, .inl (cI, 8001, .inl (zf))), (so, .inl (cI, 8001, .inl (of))), (la, .inl (cI, 8001, .inl (lf))), (ip, .inl (cB, 1000, .inl (jf))), (oq, .inl (cB, 4096, .inl (qf))), (cp, .inl (cB, 4000, .inl (cf)))]) [9, 0, 1, 2, 3, 4, 5, 6, 7, 8] rfl rfl
          exact zretv hx hb hr hlocks hS ((gd, gl, gt, gr, gi, go), (af, zf, of, lf, rf, jf, qf, cf)) (by rw [hs]; exact ⟨hR, hI0, hO⟩) rfl (by rw [ypc, yst, hs]; exact hP9) (by rw [ypc, yst, hs]; exact hD9) d_Mo_service_195
        · refine lv_iload_n hx hb d_Mo_service_182 rfl (lv_at hl 2 rfl) ?_
          refine lv_aload_n hx hb d_Mo_service_183 rfl (lv_at hl 3 rfl) ?_
          refine zget hE hK hP 0 rfl fd_Mo_165 rfl d_Mo_service_184 ?_
          refine lv_icmp_le (tgt := 196) hx hb d_Mo_service_187 (by decide) (fun h18 => ?_) (fun h18 => ?_)
          · obtain ⟨kn, hkn, hk0⟩ := nI_of2 (x := rg 10) (M := nI gl) (n := gl) (nI_toInt (by omega)) h14 h18
            rw [hk0] at hl
            have hl : lv_has ls 6 [(3, .int (rg 12)), (2, .int (rg 11)), (1, .int (nI kn)), (0, .ref m0)] := hl
            refine lv_iconst (v := 0) hx hb d_Mo_service_196 (by decide) ?_
            refine lv_istore (lv' := [(5, .int 0), (3, .int (rg 12)), (2, .int (rg 11)), (1, .int (nI kn)), (0, .ref m0)]) hx hb d_Mo_service_197 hl (by decide) rfl (fun ls hl => ?_)
            refine zloopH (σ := (MM × Nat × Nat × (Nat → Int32))) (fun j x ls H locs cells slots => (j ≤ kn ∧ mPopN j x.1 = mPopN kn M ∧ x.2.1 + (kn - j) = gl ∧ rRep x.1 gd x.2.1 gt x.2.2.1 af zf x.2.2.2 lf rf ∧ cells = 0 ∧ slots = 0) ∧ lv_has ls 6 [(5, .int (nI (kn - j))), (3, .int (rg 12)), (2, .int (rg 11)), (1, .int (nI kn)), (0, .ref m0)] ∧ va_P D zC [(m0, .inr (3, [.ref mk, .ref mt, .int kd, .ref wo, .int wn, .ref re, .int pc, .int sta, .int dn, .int th, .ref ro, .ref aa, .ref si, .ref so, .ref la, .int (nI gd), .int (nI x.2.1), .int (nI gt), .int (nI x.2.2.1), .ref ip, .ref oq, .ref cp, .int (nI gi), .int (nI go)])), (re, .inl (cI, 32, .inl (rg))), (ro, .inl (cB, 90000, .inl (rf))), (aa, .inl (cI, 8001, .inl (af))), (si, .inl (cI, 8001, .inl (zf))), (so, .inl (cI, 8001, .inl (x.2.2.2))), (la, .inl (cI, 8001, .inl (lf))), (ip, .inl (cB, 1000, .inl (jf))), (oq, .inl (cB, 4096, .inl (qf))), (cp, .inl (cB, 4000, .inl (cf)))] H ∧ va_D A [(m0, .inr (3, [.ref mk, .ref mt, .int kd, .ref wo, .int wn, .ref re, .int pc, .int sta, .int dn, .int th, .ref ro, .ref aa, .ref si, .ref so, .ref la, .int (nI gd), .int (nI x.2.1), .int (nI gt), .int (nI x.2.2.1), .ref ip, .ref oq, .ref cp, .int (nI gi), .int (nI go)])), (re, .inl (cI, 32, .inl (rg))), (ro, .inl (cB, 90000, .inl (rf))), (aa, .inl (cI, 8001, .inl (af))), (si, .inl (cI, 8001, .inl (zf))), (so, .inl (cI, 8001, .inl (x.2.2.2))), (la, .inl (cI, 8001, .inl (lf))), (ip, .inl (cB, 1000, .inl (jf))), (oq, .inl (cB, 4096, .inl (qf))), (cp, .inl (cB, 4000, .inl (cf)))] ∧ va_S A s.heap H locs) (fun j x ls H locs cells slots hI ih => ?_) kn (M, gl, gr, of) ls ⟨⟨Nat.le_refl _, rfl, by show gl + (kn - kn) = gl; omega, hR, rfl, rfl⟩, by rw [Nat.sub_self]; exact hl, hP, hD, hS⟩
            obtain ⟨Mx, lx, tx, ox⟩ := x
            obtain ⟨⟨hj, hz, hlx, hRx, rfl, rfl⟩, hl, hP, hD, hS⟩ := hI
            dsimp only at hz hlx hRx
            have hl : lv_has ls 6 [(5, .int (nI (kn - j))), (3, .int (rg 12)), (2, .int (rg 11)), (1, .int (nI kn)), (0, .ref m0)] := hl
            have hP : va_P D zC [(m0, .inr (3, [.ref mk, .ref mt, .int kd, .ref wo, .int wn, .ref re, .int pc, .int sta, .int dn, .int th, .ref ro, .ref aa, .ref si, .ref so, .ref la, .int (nI gd), .int (nI lx), .int (nI gt), .int (nI tx), .ref ip, .ref oq, .ref cp, .int (nI gi), .int (nI go)])), (re, .inl (cI, 32, .inl (rg))), (ro, .inl (cB, 90000, .inl (rf))), (aa, .inl (cI, 8001, .inl (af))), (si, .inl (cI, 8001, .inl (zf))), (so, .inl (cI, 8001, .inl (ox))), (la, .inl (cI, 8001, .inl (lf))), (ip, .inl (cB, 1000, .inl (jf))), (oq, .inl (cB, 4096, .inl (qf))), (cp, .inl (cB, 4000, .inl (cf)))] _ := hP
            have hD : va_D A [(m0, .inr (3, [.ref mk, .ref mt, .int kd, .ref wo, .int wn, .ref re, .int pc, .int sta, .int dn, .int th, .ref ro, .ref aa, .ref si, .ref so, .ref la, .int (nI gd), .int (nI lx), .int (nI gt), .int (nI tx), .ref ip, .ref oq, .ref cp, .int (nI gi), .int (nI go)])), (re, .inl (cI, 32, .inl (rg))), (ro, .inl (cB, 90000, .inl (rf))), (aa, .inl (cI, 8001, .inl (af))), (si, .inl (cI, 8001, .inl (zf))), (so, .inl (cI, 8001, .inl (ox))), (la, .inl (cI, 8001, .inl (lf))), (ip, .inl (cB, 1000, .inl (jf))), (oq, .inl (cB, 4096, .inl (qf))), (cp, .inl (cB, 4000, .inl (cf)))] := hD
            refine lv_iload hx hb d_Mo_service_199 (lv_at hl 0 rfl) ?_
            refine lv_iload_n hx hb d_Mo_service_201 rfl (lv_at hl 3 rfl) ?_
            refine lv_icmp_ge (tgt := 234) hx hb d_Mo_service_202 (by decide) (fun h19 => ?_) (fun h19 => ?_)
            · have hj1 : j = 0 := by have q := z_le' (by omega) h19; omega
              subst hj1
              have hz2 : Mx = mPopN kn M := hz
              subst hz2
              have hR := hRx
              have hdl : mDropL M (rg 10) = some (mPopN kn M) := by rw [hk0]; exact dl_some (by omega) (by omega)
              refine lv_goto (tgt := 533) hx hb d_Mo_service_234 (by decide) ?_
              refine lv_aload_n hx hb d_Mo_service_533 rfl (lv_at hl 4 rfl) ?_
              refine lv_dup hx hb d_Mo_service_534 rfl ?_
              refine zget hE hK hP 0 rfl fd_Mo_104 rfl d_Mo_service_535 ?_
              refine lv_iconst (v := 4) hx hb d_Mo_service_538 (by decide) ?_
              refine lv_iadd hx hb d_Mo_service_539 ?_
              refine zput (v := .int (pc + 4)) hE hK hP hD hS 0 rfl fd_Mo_104 ft_Mo_6 rfl rfl (Nat.le_of_ble_eq_true rfl) d_Mo_service_540 (fun H locs hP hD hS => ?_)
              have hP : va_P D zC [(m0, .inr (3, [.ref mk, .ref mt, .int kd, .ref wo, .int wn, .ref re, .int (pc + 4), .int sta, .int dn, .int th, .ref ro, .ref aa, .ref si, .ref so, .ref la, .int (nI gd), .int (nI lx), .int (nI gt), .int (nI tx), .ref ip, .ref oq, .ref cp, .int (nI gi), .int (nI go)])), (re, .inl (cI, 32, .inl (rg))), (ro, .inl (cB, 90000, .inl (rf))), (aa, .inl (cI, 8001, .inl (af))), (si, .inl (cI, 8001, .inl (zf))), (so, .inl (cI, 8001, .inl (ox))), (la, .inl (cI, 8001, .inl (lf))), (ip, .inl (cB, 1000, .inl (jf))), (oq, .inl (cB, 4096, .inl (qf))), (cp, .inl (cB, 4000, .inl (cf)))] _ := hP
              have hD : va_D A [(m0, .inr (3, [.ref mk, .ref mt, .int kd, .ref wo, .int wn, .ref re, .int (pc + 4), .int sta, .int dn, .int th, .ref ro, .ref aa, .ref si, .ref so, .ref la, .int (nI gd), .int (nI lx), .int (nI gt), .int (nI tx), .ref ip, .ref oq, .ref cp, .int (nI gi), .int (nI go)])), (re, .inl (cI, 32, .inl (rg))), (ro, .inl (cB, 90000, .inl (rf))), (aa, .inl (cI, 8001, .inl (af))), (si, .inl (cI, 8001, .inl (zf))), (so, .inl (cI, 8001, .inl (ox))), (la, .inl (cI, 8001, .inl (lf))), (ip, .inl (cB, 1000, .inl (jf))), (oq, .inl (cB, 4096, .inl (qf))), (cp, .inl (cB, 4000, .inl (cf)))] := hD
              have hs : xServe rg M I O sta = (0, rg, mPopN kn M, I, O, sta) := by unfold xServe; (rw [if_neg h1, if_neg h2, if_pos h13, hdl]) <;> rfl
              have ypc : sPc rg M I O sta pc = pc + 4 := by unfold sPc; rw [hs]; exact (if_pos rfl).trans (if_neg h1)
              have yst : sSt rg M I O sta = sta := by unfold sSt; rw [hs]; exact if_pos rfl
              have hP9 := hP.sub (ws' := [(m0, .inr (3, [.ref mk, .ref mt, .int kd, .ref wo, .int wn, .ref re, .int (pc + 4), .int sta, .int dn, .int th, .ref ro, .ref aa, .ref si, .ref so, .ref la, .int (nI gd), .int (nI lx), .int (nI gt), .int (nI tx), .ref ip, .ref oq, .ref cp, .int (nI gi), .int (nI go)])), (re, .inl (cI, 32, .inl (rg))), (ro, .inl (cB, 90000, .inl (rf))), (aa, .inl (cI, 8001, .inl (af))), (si, .inl (cI, 8001, .inl (zf))), (so, .inl (cI, 8001, .inl (ox))), (la, .inl (cI, 8001, .inl (lf))), (ip, .inl (cB, 1000, .inl (jf))), (oq, .inl (cB, 4096, .inl (qf))), (cp, .inl (cB, 4000, .inl (cf)))]) [0, 1, 2, 3, 4, 5, 6, 7, 8, 9] rfl
              have hD9 := hD.sub (ws' := [(m0, .inr (3, [.ref mk, .ref mt, .int kd, .ref wo, .int wn, .ref re, .int (pc + 4), .int sta, .int dn, .int th, .ref ro, .ref aa, .ref si, .ref so, .ref la, .int (nI gd), .int (nI lx), .int (nI gt), .int (nI tx), .ref ip, .ref oq, .ref cp, .int (nI gi), .int (nI go)])), (re, .inl (cI, 32, .inl (rg))), (ro, .inl (cB, 90000, .inl (rf))), (aa, .inl (cI, 8001, .inl (af))), (si, .inl (cI, 8001, .inl (zf))), (so, .inl (cI, 8001, .inl (ox))), (la, .inl (cI, 8001, .inl (lf))), (ip, .inl (cB, 1000, .inl (jf))), (oq, .inl (cB, 4096, .inl (qf))), (cp, .inl (cB, 4000, .inl (cf)))]) [0, 1, 2, 3, 4, 5, 6, 7, 8, 9] rfl rfl
              exact zretv hx hb hr hlocks hS ((gd, lx, gt, tx, gi, go), (af, zf, ox, lf, rf, jf, qf, cf)) (by rw [hs]; exact ⟨hR, hI0, hO⟩) rfl (by rw [ypc, yst, hs]; exact hP9) (by rw [ypc, yst, hs]; exact hD9) d_Mo_service_543
            · have hj0 : 0 < j := Nat.pos_of_ne_zero (fun q => h19 (by rw [q]; exact nI_le (by omega) (by omega)))
              obtain ⟨j, rfl⟩ : ∃ q, j = q + 1 := ⟨j - 1, by omega⟩
              have hl : lv_has ls 6 [(5, .int (nI (kn - (j + 1)))), (3, .int (rg 12)), (2, .int (rg 11)), (1, .int (nI kn)), (0, .ref m0)] := hl
              obtain ⟨lx, rfl⟩ : ∃ q, lx = q + 1 := ⟨lx - 1, by omega⟩
              obtain ⟨kk, zz, e1, e2, e3, e4, e5, e6⟩ := rRep_last hRx
              have hkk := hRx.1.2.2.1 kk zz e1
              have hm8x := hRx.1.1
              have hlx8 : lx + 1 ≤ 8000 := by have q1 := hRx.1.2.2.2.2.1; have q2 := hRx.2.2.2.1; omega
              have hP : va_P D zC [(m0, .inr (3, [.ref mk, .ref mt, .int kd, .ref wo, .int wn, .ref re, .int pc, .int sta, .int dn, .int th, .ref ro, .ref aa, .ref si, .ref so, .ref la, .int (nI gd), .int (nI (lx + 1)), .int (nI gt), .int (nI tx), .ref ip, .ref oq, .ref cp, .int (nI gi), .int (nI go)])), (re, .inl (cI, 32, .inl (rg))), (ro, .inl (cB, 90000, .inl (rf))), (aa, .inl (cI, 8001, .inl (af))), (si, .inl (cI, 8001, .inl (zf))), (so, .inl (cI, 8001, .inl (ox))), (la, .inl (cI, 8001, .inl (lf))), (ip, .inl (cB, 1000, .inl (jf))), (oq, .inl (cB, 4096, .inl (qf))), (cp, .inl (cB, 4000, .inl (cf)))] _ := hP
              have hD : va_D A [(m0, .inr (3, [.ref mk, .ref mt, .int kd, .ref wo, .int wn, .ref re, .int pc, .int sta, .int dn, .int th, .ref ro, .ref aa, .ref si, .ref so, .ref la, .int (nI gd), .int (nI (lx + 1)), .int (nI gt), .int (nI tx), .ref ip, .ref oq, .ref cp, .int (nI gi), .int (nI go)])), (re, .inl (cI, 32, .inl (rg))), (ro, .inl (cB, 90000, .inl (rf))), (aa, .inl (cI, 8001, .inl (af))), (si, .inl (cI, 8001, .inl (zf))), (so, .inl (cI, 8001, .inl (ox))), (la, .inl (cI, 8001, .inl (lf))), (ip, .inl (cB, 1000, .inl (jf))), (oq, .inl (cB, 4096, .inl (qf))), (cp, .inl (cB, 4000, .inl (cf)))] := hD
              refine lv_aload_n hx hb d_Mo_service_205 rfl (lv_at hl 4 rfl) ?_
              refine lv_dup hx hb d_Mo_service_206 rfl ?_
              refine zget hE hK hP 0 rfl fd_Mo_165 rfl d_Mo_service_207 ?_
              refine lv_iconst (v := 1) hx hb d_Mo_service_210 (by decide) ?_
              refine lv_isub hx hb d_Mo_service_211 ?_
              refine z_st (st' := [.int (nI lx), .ref m0]) (by rw [show (((nI (lx + 1)) - 1) : Int32) = nI lx from nI_pred lx]) ?_
              refine zput (v := .int (nI lx)) hE hK hP hD hS 0 rfl fd_Mo_165 ft_Mo_16 rfl rfl (Nat.le_of_ble_eq_true rfl) d_Mo_service_212 (fun H locs hP hD hS => ?_)
              have hP : va_P D zC [(m0, .inr (3, [.ref mk, .ref mt, .int kd, .ref wo, .int wn, .ref re, .int pc, .int sta, .int dn, .int th, .ref ro, .ref aa, .ref si, .ref so, .ref la, .int (nI gd), .int (nI lx), .int (nI gt), .int (nI tx), .ref ip, .ref oq, .ref cp, .int (nI gi), .int (nI go)])), (re, .inl (cI, 32, .inl (rg))), (ro, .inl (cB, 90000, .inl (rf))), (aa, .inl (cI, 8001, .inl (af))), (si, .inl (cI, 8001, .inl (zf))), (so, .inl (cI, 8001, .inl (ox))), (la, .inl (cI, 8001, .inl (lf))), (ip, .inl (cB, 1000, .inl (jf))), (oq, .inl (cB, 4096, .inl (qf))), (cp, .inl (cB, 4000, .inl (cf)))] _ := hP
              have hD : va_D A [(m0, .inr (3, [.ref mk, .ref mt, .int kd, .ref wo, .int wn, .ref re, .int pc, .int sta, .int dn, .int th, .ref ro, .ref aa, .ref si, .ref so, .ref la, .int (nI gd), .int (nI lx), .int (nI gt), .int (nI tx), .ref ip, .ref oq, .ref cp, .int (nI gi), .int (nI go)])), (re, .inl (cI, 32, .inl (rg))), (ro, .inl (cB, 90000, .inl (rf))), (aa, .inl (cI, 8001, .inl (af))), (si, .inl (cI, 8001, .inl (zf))), (so, .inl (cI, 8001, .inl (ox))), (la, .inl (cI, 8001, .inl (lf))), (ip, .inl (cB, 1000, .inl (jf))), (oq, .inl (cB, 4096, .inl (qf))), (cp, .inl (cB, 4000, .inl (cf)))] := hD
              refine lv_aload_n hx hb d_Mo_service_215 rfl (lv_at hl 4 rfl) ?_
              refine lv_aload_n hx hb d_Mo_service_216 rfl (lv_at hl 4 rfl) ?_
              refine zget hE hK hP 0 rfl fd_Mo_36 rfl d_Mo_service_217 ?_
              refine lv_aload_n hx hb d_Mo_service_220 rfl (lv_at hl 4 rfl) ?_
              refine zget hE hK hP 0 rfl fd_Mo_165 rfl d_Mo_service_221 ?_
              refine va_iald hx hb hK hP 6 0 rfl rfl (vp_in_nI (by omega) (by omega)) d_Mo_service_224 ?_
              refine z_st (st' := [.int (nI kk), .ref m0]) (by rw [show ((lf (nI lx).toNatClampNeg) : Int32) = nI kk from by rw [nI_clamp (by omega)]; exact e3]) ?_
              refine zgov (wr := [(re, .inl (cI, 32, .inl (rg))), (ro, .inl (cB, 90000, .inl (rf))), (aa, .inl (cI, 8001, .inl (af))), (la, .inl (cI, 8001, .inl (lf))), (ip, .inl (cB, 1000, .inl (jf))), (oq, .inl (cB, 4096, .inl (qf))), (cp, .inl (cB, 4000, .inl (cf)))]) (zrunV (n := 1) (As := [.int (nI kk)]) (rest := []) hE (c_Mo_gone l D cI cB cJ _ (nI kk) m0 mk mt kd wo wn re pc sta dn th ro aa si so la (nI gd) (nI lx) (nI gt) (nI tx) ip oq cp (nI gi) (nI go) zf ox ⟨by rw [nI_toInt (by omega)]; omega, by rw [nI_toInt (by omega)]; omega⟩) cb_Mo_gone lk_Mo_168 in_Mo_gone se_Mo_gone (zpreV (q0 := 0) hK hP hD rfl rfl rfl [0, 4, 5] rfl rfl rfl) ⟨Nat.le_of_ble_eq_true rfl, Nat.le_of_ble_eq_true rfl, Nat.le_of_ble_eq_true rfl, Nat.le_of_ble_eq_true rfl⟩ rfl hl.1 rfl (Nat.le_of_ble_eq_true rfl) d_Mo_service_225) hP hD hS hA [0, 4, 5] [1, 2, 3, 6, 7, 8, 9] rfl rfl rfl (by decide) (fun u22 H locs hq20 hP hD hS => ?_)
              clear hq20
              have hP : va_P D zC [(re, .inl (cI, 32, .inl (rg))), (ro, .inl (cB, 90000, .inl (rf))), (aa, .inl (cI, 8001, .inl (af))), (la, .inl (cI, 8001, .inl (lf))), (ip, .inl (cB, 1000, .inl (jf))), (oq, .inl (cB, 4096, .inl (qf))), (cp, .inl (cB, 4000, .inl (cf))), (m0, .inr (3, [.ref mk, .ref mt, .int kd, .ref wo, .int wn, .ref re, .int pc, .int sta, .int dn, .int th, .ref ro, .ref aa, .ref si, .ref so, .ref la, .int (nI gd), .int (nI lx), .int (nI gt), .int ((sp_Mo_gone (nI kk) (nI tx) zf ox).1), .ref ip, .ref oq, .ref cp, .int (nI gi), .int (nI go)])), (si, .inl (cI, 8001, .inl (zf))), (so, .inl (cI, 8001, .inl ((sp_Mo_gone (nI kk) (nI tx) zf ox).2)))] _ := hP
              have hD : va_D A [(re, .inl (cI, 32, .inl (rg))), (ro, .inl (cB, 90000, .inl (rf))), (aa, .inl (cI, 8001, .inl (af))), (la, .inl (cI, 8001, .inl (lf))), (ip, .inl (cB, 1000, .inl (jf))), (oq, .inl (cB, 4096, .inl (qf))), (cp, .inl (cB, 4000, .inl (cf))), (m0, .inr (3, [.ref mk, .ref mt, .int kd, .ref wo, .int wn, .ref re, .int pc, .int sta, .int dn, .int th, .ref ro, .ref aa, .ref si, .ref so, .ref la, .int (nI gd), .int (nI lx), .int (nI gt), .int ((sp_Mo_gone (nI kk) (nI tx) zf ox).1), .ref ip, .ref oq, .ref cp, .int (nI gi), .int (nI go)])), (si, .inl (cI, 8001, .inl (zf))), (so, .inl (cI, 8001, .inl ((sp_Mo_gone (nI kk) (nI tx) zf ox).2)))] := hD
              rw [show (((sp_Mo_gone (nI kk) (nI tx) zf ox).1) : Int32) = nI (tx - up4 zz) from by rw [sp_gone hRx e1]] at hP hD
              have hP : va_P D zC [(re, .inl (cI, 32, .inl (rg))), (ro, .inl (cB, 90000, .inl (rf))), (aa, .inl (cI, 8001, .inl (af))), (la, .inl (cI, 8001, .inl (lf))), (ip, .inl (cB, 1000, .inl (jf))), (oq, .inl (cB, 4096, .inl (qf))), (cp, .inl (cB, 4000, .inl (cf))), (m0, .inr (3, [.ref mk, .ref mt, .int kd, .ref wo, .int wn, .ref re, .int pc, .int sta, .int dn, .int th, .ref ro, .ref aa, .ref si, .ref so, .ref la, .int (nI gd), .int (nI lx), .int (nI gt), .int (nI (tx - up4 zz)), .ref ip, .ref oq, .ref cp, .int (nI gi), .int (nI go)])), (si, .inl (cI, 8001, .inl (zf))), (so, .inl (cI, 8001, .inl ((sp_Mo_gone (nI kk) (nI tx) zf ox).2)))] _ := hP
              have hD : va_D A [(re, .inl (cI, 32, .inl (rg))), (ro, .inl (cB, 90000, .inl (rf))), (aa, .inl (cI, 8001, .inl (af))), (la, .inl (cI, 8001, .inl (lf))), (ip, .inl (cB, 1000, .inl (jf))), (oq, .inl (cB, 4096, .inl (qf))), (cp, .inl (cB, 4000, .inl (cf))), (m0, .inr (3, [.ref mk, .ref mt, .int kd, .ref wo, .int wn, .ref re, .int pc, .int sta, .int dn, .int th, .ref ro, .ref aa, .ref si, .ref so, .ref la, .int (nI gd), .int (nI lx), .int (nI gt), .int (nI (tx - up4 zz)), .ref ip, .ref oq, .ref cp, .int (nI gi), .int (nI go)])), (si, .inl (cI, 8001, .inl (zf))), (so, .inl (cI, 8001, .inl ((sp_Mo_gone (nI kk) (nI tx) zf ox).2)))] := hD
              rw [show (((sp_Mo_gone (nI kk) (nI tx) zf ox).2) : Nat → Int32) = upd ox kk 0 from by rw [sp_gone hRx e1]] at hP hD
              have hP : va_P D zC [(re, .inl (cI, 32, .inl (rg))), (ro, .inl (cB, 90000, .inl (rf))), (aa, .inl (cI, 8001, .inl (af))), (la, .inl (cI, 8001, .inl (lf))), (ip, .inl (cB, 1000, .inl (jf))), (oq, .inl (cB, 4096, .inl (qf))), (cp, .inl (cB, 4000, .inl (cf))), (m0, .inr (3, [.ref mk, .ref mt, .int kd, .ref wo, .int wn, .ref re, .int pc, .int sta, .int dn, .int th, .ref ro, .ref aa, .ref si, .ref so, .ref la, .int (nI gd), .int (nI lx), .int (nI gt), .int (nI (tx - up4 zz)), .ref ip, .ref oq, .ref cp, .int (nI gi), .int (nI go)])), (si, .inl (cI, 8001, .inl (zf))), (so, .inl (cI, 8001, .inl (upd ox kk 0)))] _ := hP
              have hD : va_D A [(re, .inl (cI, 32, .inl (rg))), (ro, .inl (cB, 90000, .inl (rf))), (aa, .inl (cI, 8001, .inl (af))), (la, .inl (cI, 8001, .inl (lf))), (ip, .inl (cB, 1000, .inl (jf))), (oq, .inl (cB, 4096, .inl (qf))), (cp, .inl (cB, 4000, .inl (cf))), (m0, .inr (3, [.ref mk, .ref mt, .int kd, .ref wo, .int wn, .ref re, .int pc, .int sta, .int dn, .int th, .ref ro, .ref aa, .ref si, .ref so, .ref la, .int (nI gd), .int (nI lx), .int (nI gt), .int (nI (tx - up4 zz)), .ref ip, .ref oq, .ref cp, .int (nI gi), .int (nI go)])), (si, .inl (cI, 8001, .inl (zf))), (so, .inl (cI, 8001, .inl (upd ox kk 0)))] := hD
              refine lv_iinc (k := 0) (v := (nI (kn - (j + 1))) + 1) (lv' := [(5, .int ((nI (kn - (j + 1))) + 1)), (3, .int (rg 12)), (2, .int (rg 11)), (1, .int (nI kn)), (0, .ref m0)]) hx hb d_Mo_service_228 hl rfl rfl (by decide) rfl (fun ls hl => ?_)
              refine lv_goto (tgt := 199) hx hb d_Mo_service_231 (by decide) ?_
              rw [nI_1, show kn - (j + 1) + 1 = kn - j by omega] at hl
              have hP := hP.sub (ws' := [(m0, .inr (3, [.ref mk, .ref mt, .int kd, .ref wo, .int wn, .ref re, .int pc, .int sta, .int dn, .int th, .ref ro, .ref aa, .ref si, .ref so, .ref la, .int (nI gd), .int (nI lx), .int (nI gt), .int (nI (tx - up4 zz)), .ref ip, .ref oq, .ref cp, .int (nI gi), .int (nI go)])), (re, .inl (cI, 32, .inl (rg))), (ro, .inl (cB, 90000, .inl (rf))), (aa, .inl (cI, 8001, .inl (af))), (si, .inl (cI, 8001, .inl (zf))), (so, .inl (cI, 8001, .inl (upd ox kk 0))), (la, .inl (cI, 8001, .inl (lf))), (ip, .inl (cB, 1000, .inl (jf))), (oq, .inl (cB, 4096, .inl (qf))), (cp, .inl (cB, 4000, .inl (cf)))]) [7, 0, 1, 2, 8, 9, 3, 4, 5, 6] rfl
              have hD := hD.sub (ws' := [(m0, .inr (3, [.ref mk, .ref mt, .int kd, .ref wo, .int wn, .ref re, .int pc, .int sta, .int dn, .int th, .ref ro, .ref aa, .ref si, .ref so, .ref la, .int (nI gd), .int (nI lx), .int (nI gt), .int (nI (tx - up4 zz)), .ref ip, .ref oq, .ref cp, .int (nI gi), .int (nI go)])), (re, .inl (cI, 32, .inl (rg))), (ro, .inl (cB, 90000, .inl (rf))), (aa, .inl (cI, 8001, .inl (af))), (si, .inl (cI, 8001, .inl (zf))), (so, .inl (cI, 8001, .inl (upd ox kk 0))), (la, .inl (cI, 8001, .inl (lf))), (ip, .inl (cB, 1000, .inl (jf))), (oq, .inl (cB, 4096, .inl (qf))), (cp, .inl (cB, 4000, .inl (cf)))]) [7, 0, 1, 2, 8, 9, 3, 4, 5, 6] rfl rfl
              exact ih j (mGone Mx kk, lx, tx - up4 zz, upd ox kk 0) ls H locs 0 0 (by omega) ⟨⟨by omega, by rw [← e2]; exact hz, by show lx + (kn - j) = gl; omega, e6, rfl, rfl⟩, hl, hP, hD, hS⟩
          · have hdl : mDropL M (rg 10) = none := dl_none (by omega) (Or.inr (by rw [← hgl]; exact h18))
            refine lv_aload_n hx hb d_Mo_service_190 rfl (lv_at hl 3 rfl) ?_
            refine lv_iconst (v := 4) hx hb d_Mo_service_191 (by decide) ?_
            refine zgov (wr := [(re, .inl (cI, 32, .inl (rg))), (ro, .inl (cB, 90000, .inl (rf))), (aa, .inl (cI, 8001, .inl (af))), (si, .inl (cI, 8001, .inl (zf))), (so, .inl (cI, 8001, .inl (of))), (la, .inl (cI, 8001, .inl (lf))), (ip, .inl (cB, 1000, .inl (jf))), (oq, .inl (cB, 4096, .inl (qf))), (cp, .inl (cB, 4000, .inl (cf)))]) (zrunV (n := 1) (As := [.int 4]) (rest := []) hE (c_Mo_trap l D cI cB cJ _ 4 m0 mk mt kd wo wn re pc sta dn th ro aa si so la (nI gd) (nI gl) (nI gt) (nI gr) ip oq cp (nI gi) (nI go)) cb_Mo_trap lk_Mo_100 in_Mo_trap se_Mo_trap (zpreV (q0 := 0) hK hP hD rfl rfl rfl [0] rfl rfl rfl) ⟨Nat.le_of_ble_eq_true rfl, Nat.le_of_ble_eq_true rfl, Nat.le_of_ble_eq_true rfl, Nat.le_of_ble_eq_true rfl⟩ rfl hl.1 rfl (Nat.le_of_ble_eq_true rfl) d_Mo_service_192) hP hD hS hA [0] [1, 2, 3, 4, 5, 6, 7, 8, 9] rfl rfl rfl (by decide) (fun u25 H locs hq23 hP hD hS => ?_)
            clear hq23
            have hP : va_P D zC [(re, .inl (cI, 32, .inl (rg))), (ro, .inl (cB, 90000, .inl (rf))), (aa, .inl (cI, 8001, .inl (af))), (si, .inl (cI, 8001, .inl (zf))), (so, .inl (cI, 8001, .inl (of))), (la, .inl (cI, 8001, .inl (lf))), (ip, .inl (cB, 1000, .inl (jf))), (oq, .inl (cB, 4096, .inl (qf))), (cp, .inl (cB, 4000, .inl (cf))), (m0, .inr (3, [.ref mk, .ref mt, .int kd, .ref wo, .int wn, .ref re, .int pc, .int ((sp_Mo_trap 4)), .int dn, .int th, .ref ro, .ref aa, .ref si, .ref so, .ref la, .int (nI gd), .int (nI gl), .int (nI gt), .int (nI gr), .ref ip, .ref oq, .ref cp, .int (nI gi), .int (nI go)]))] _ := hP
            have hD : va_D A [(re, .inl (cI, 32, .inl (rg))), (ro, .inl (cB, 90000, .inl (rf))), (aa, .inl (cI, 8001, .inl (af))), (si, .inl (cI, 8001, .inl (zf))), (so, .inl (cI, 8001, .inl (of))), (la, .inl (cI, 8001, .inl (lf))), (ip, .inl (cB, 1000, .inl (jf))), (oq, .inl (cB, 4096, .inl (qf))), (cp, .inl (cB, 4000, .inl (cf))), (m0, .inr (3, [.ref mk, .ref mt, .int kd, .ref wo, .int wn, .ref re, .int pc, .int ((sp_Mo_trap 4)), .int dn, .int th, .ref ro, .ref aa, .ref si, .ref so, .ref la, .int (nI gd), .int (nI gl), .int (nI gt), .int (nI gr), .ref ip, .ref oq, .ref cp, .int (nI gi), .int (nI go)]))] := hD
            have hs : xServe rg M I O sta = (4, rg, M, I, O, sta) := by unfold xServe; (rw [if_neg h1, if_neg h2, if_pos h13, hdl]) <;> rfl
            have ypc : sPc rg M I O sta pc = pc := by unfold sPc; rw [hs]; exact if_neg (show ¬ ((4) : Int32) = 0 by decide)
            have yst : sSt rg M I O sta = (sp_Mo_trap 4) := by unfold sSt; rw [hs]; exact if_neg (show ¬ ((4) : Int32) = 0 by decide)
            have hP9 := hP.sub (ws' := [(m0, .inr (3, [.ref mk, .ref mt, .int kd, .ref wo, .int wn, .ref re, .int pc, .int ((sp_Mo_trap 4)), .int dn, .int th, .ref ro, .ref aa, .ref si, .ref so, .ref la, .int (nI gd), .int (nI gl), .int (nI gt), .int (nI gr), .ref ip, .ref oq, .ref cp, .int (nI gi), .int (nI go)])), (re, .inl (cI, 32, .inl (rg))), (ro, .inl (cB, 90000, .inl (rf))), (aa, .inl (cI, 8001, .inl (af))), (si, .inl (cI, 8001, .inl (zf))), (so, .inl (cI, 8001, .inl (of))), (la, .inl (cI, 8001, .inl (lf))), (ip, .inl (cB, 1000, .inl (jf))), (oq, .inl (cB, 4096, .inl (qf))), (cp, .inl (cB, 4000, .inl (cf)))]) [9, 0, 1, 2, 3, 4, 5, 6, 7, 8] rfl
            have hD9 := hD.sub (ws' := [(m0, .inr (3, [.ref mk, .ref mt, .int kd, .ref wo, .int wn, .ref re, .int pc, .int ((sp_Mo_trap 4)), .int dn, .int th, .ref ro, .ref aa, .ref si, .ref so, .ref la, .int (nI gd), .int (nI gl), .int (nI gt), .int (nI gr), .ref ip, .ref oq, .ref cp, .int (nI gi), .int (nI go)])), (re, .inl (cI, 32, .inl (rg))), (ro, .inl (cB, 90000, .inl (rf))), (aa, .inl (cI, 8001, .inl (af))), (si, .inl (cI, 8001, .inl (zf))), (so, .inl (cI, 8001, .inl (of))), (la, .inl (cI, 8001, .inl (lf))), (ip, .inl (cB, 1000, .inl (jf))), (oq, .inl (cB, 4096, .inl (qf))), (cp, .inl (cB, 4000, .inl (cf)))]) [9, 0, 1, 2, 3, 4, 5, 6, 7, 8] rfl rfl
            exact zretv hx hb hr hlocks hS ((gd, gl, gt, gr, gi, go), (af, zf, of, lf, rf, jf, qf, cf)) (by rw [hs]; exact ⟨hR, hI0, hO⟩) rfl (by rw [ypc, yst, hs]; exact hP9) (by rw [ypc, yst, hs]; exact hD9) d_Mo_service_195
      · rcases Decidable.em ((rg 17) = 3) with h26 | h26
        · refine lv_tableIn (tgt := 86) hx hb d_Mo_service_31 (by rw [h26]; decide) (by rw [h26]; decide) (by rw [h26]; rfl) (by decide) ?_
          refine lv_aload_n hx hb d_Mo_service_86 rfl (lv_at hl 3 rfl) ?_
          refine lv_iload_n hx hb d_Mo_service_87 rfl (lv_at hl 2 rfl) ?_
          refine lv_aload_n hx hb d_Mo_service_88 rfl (lv_at hl 3 rfl) ?_
          refine zget hE hK hP 0 rfl fd_Mo_19 rfl d_Mo_service_89 ?_
          refine lv_bipush (v := 17) hx hb d_Mo_service_92 (by decide) ?_
          refine va_iald hx hb hK hP 1 0 rfl rfl (by unfold vp_in; decide) d_Mo_service_94 ?_
          refine z_st (st' := [.int (rg 17), .int (rg 10), .ref m0]) rfl ?_
          refine lv_iconst (v := 1) hx hb d_Mo_service_95 (by decide) ?_
          refine lv_icmp_ne (tgt := 103) hx hb d_Mo_service_96 (by decide) (fun h27 => ?_) (fun h27 => absurd h27 h2)
          refine lv_iconst (v := 2) hx hb d_Mo_service_103 (by decide) ?_
          refine zgoi (wr := [(re, .inl (cI, 32, .inl (rg))), (la, .inl (cI, 8001, .inl (lf))), (ip, .inl (cB, 1000, .inl (jf))), (oq, .inl (cB, 4096, .inl (qf))), (cp, .inl (cB, 4000, .inl (cf)))]) (zrunV (n := 2) (As := [.int (rg 10), .int 2]) (rest := []) hE (c_Mo_object l D cI cB cJ _ (rg 10) 2 m0 mk mt kd wo wn re pc sta dn th ro aa si so la gd gl gt gr ip oq cp (nI gi) (nI go) af zf of rf M lf true hR rfl) cb_Mo_object lk_Mo_162 in_Mo_object se_Mo_object (zpreV (q0 := 0) hK hP hD rfl rfl rfl [0, 3, 4, 5, 2] rfl rfl rfl) ⟨Nat.le_of_ble_eq_true rfl, Nat.le_of_ble_eq_true rfl, Nat.le_of_ble_eq_true rfl, Nat.le_of_ble_eq_true rfl⟩ rfl hl.1 rfl (Nat.le_of_ble_eq_true rfl) d_Mo_service_104) hP hD hS hA [0, 3, 4, 5, 2] [1, 6, 7, 8, 9] rfl rfl rfl (by decide) (fun r29 u30 H locs hq28 hP hD hS => ?_)
          obtain ⟨rfl, hR⟩ := hq28
          have hP : va_P D zC [(re, .inl (cI, 32, .inl (rg))), (la, .inl (cI, 8001, .inl (lf))), (ip, .inl (cB, 1000, .inl (jf))), (oq, .inl (cB, 4096, .inl (qf))), (cp, .inl (cB, 4000, .inl (cf))), (m0, .inr (3, [.ref mk, .ref mt, .int kd, .ref wo, .int wn, .ref re, .int pc, .int sta, .int dn, .int th, .ref ro, .ref aa, .ref si, .ref so, .ref la, .int (nI u30.1.1), .int (nI gl), .int (nI u30.1.2.1), .int (nI u30.1.2.2), .ref ip, .ref oq, .ref cp, .int (nI gi), .int (nI go)])), (aa, .inl (cI, 8001, .inl (u30.2.1))), (si, .inl (cI, 8001, .inl (u30.2.2.1))), (so, .inl (cI, 8001, .inl (u30.2.2.2.1))), (ro, .inl (cB, 90000, .inl (u30.2.2.2.2)))] _ := hP
          have hD : va_D A [(re, .inl (cI, 32, .inl (rg))), (la, .inl (cI, 8001, .inl (lf))), (ip, .inl (cB, 1000, .inl (jf))), (oq, .inl (cB, 4096, .inl (qf))), (cp, .inl (cB, 4000, .inl (cf))), (m0, .inr (3, [.ref mk, .ref mt, .int kd, .ref wo, .int wn, .ref re, .int pc, .int sta, .int dn, .int th, .ref ro, .ref aa, .ref si, .ref so, .ref la, .int (nI u30.1.1), .int (nI gl), .int (nI u30.1.2.1), .int (nI u30.1.2.2), .ref ip, .ref oq, .ref cp, .int (nI gi), .int (nI go)])), (aa, .inl (cI, 8001, .inl (u30.2.1))), (si, .inl (cI, 8001, .inl (u30.2.2.1))), (so, .inl (cI, 8001, .inl (u30.2.2.2.1))), (ro, .inl (cB, 90000, .inl (u30.2.2.2.2)))] := hD
          rw [(o_true M (rg 10) lf).2, (o_true M (rg 10) lf).1, ← hgl] at hR
          refine lv_istore (lv' := [(4, .int ((oAn M (rg 10) true))), (3, .int (rg 12)), (2, .int (rg 11)), (1, .int (rg 10)), (0, .ref m0)]) hx hb d_Mo_service_107 hl (by decide) rfl (fun ls hl => ?_)
          refine lv_iload hx hb d_Mo_service_109 (lv_at hl 0 rfl) ?_
          refine lv_if_ne (tgt := 131) hx hb d_Mo_service_111 (by decide) (fun h31 => ?_) (fun h31 => ?_)
          · refine lv_aload_n hx hb d_Mo_service_131 rfl (lv_at hl 4 rfl) ?_
            refine zget hE hK hP 5 rfl fd_Mo_19 rfl d_Mo_service_132 ?_
            refine lv_bipush (v := 17) hx hb d_Mo_service_135 (by decide) ?_
            refine va_iald hx hb hK hP 0 0 rfl rfl (by unfold vp_in; decide) d_Mo_service_137 ?_
            refine z_st (st' := [.int (rg 17)]) rfl ?_
            refine lv_iconst (v := 1) hx hb d_Mo_service_138 (by decide) ?_
            refine lv_icmp_ne (tgt := 163) hx hb d_Mo_service_139 (by decide) (fun h32 => ?_) (fun h32 => absurd h32 h2)
            refine lv_aload_n hx hb d_Mo_service_163 rfl (lv_at hl 4 rfl) ?_
            refine zget hE hK hP 5 rfl fd_Mo_19 rfl d_Mo_service_164 ?_
            refine lv_bipush (v := 10) hx hb d_Mo_service_167 (by decide) ?_
            refine lv_iload hx hb d_Mo_service_169 (lv_at hl 0 rfl) ?_
            refine lv_bipush (v := 16) hx hb d_Mo_service_171 (by decide) ?_
            refine lv_ishl hx hb d_Mo_service_173 ?_
            refine va_iast hx hb hK hP hD hS 0 0 rfl rfl (by unfold vp_in; decide) d_Mo_service_174 (fun H locs hP hD hS => ?_)
            have hP : va_P D zC [(re, .inl (cI, 32, .inl (upd rg 10 (((oAn M (rg 10) true) : Int32) <<< ((16 : Int32) &&& 31))))), (la, .inl (cI, 8001, .inl (lf))), (ip, .inl (cB, 1000, .inl (jf))), (oq, .inl (cB, 4096, .inl (qf))), (cp, .inl (cB, 4000, .inl (cf))), (m0, .inr (3, [.ref mk, .ref mt, .int kd, .ref wo, .int wn, .ref re, .int pc, .int sta, .int dn, .int th, .ref ro, .ref aa, .ref si, .ref so, .ref la, .int (nI u30.1.1), .int (nI gl), .int (nI u30.1.2.1), .int (nI u30.1.2.2), .ref ip, .ref oq, .ref cp, .int (nI gi), .int (nI go)])), (aa, .inl (cI, 8001, .inl (u30.2.1))), (si, .inl (cI, 8001, .inl (u30.2.2.1))), (so, .inl (cI, 8001, .inl (u30.2.2.2.1))), (ro, .inl (cB, 90000, .inl (u30.2.2.2.2)))] _ := hP
            have hD : va_D A [(re, .inl (cI, 32, .inl (upd rg 10 (((oAn M (rg 10) true) : Int32) <<< ((16 : Int32) &&& 31))))), (la, .inl (cI, 8001, .inl (lf))), (ip, .inl (cB, 1000, .inl (jf))), (oq, .inl (cB, 4096, .inl (qf))), (cp, .inl (cB, 4000, .inl (cf))), (m0, .inr (3, [.ref mk, .ref mt, .int kd, .ref wo, .int wn, .ref re, .int pc, .int sta, .int dn, .int th, .ref ro, .ref aa, .ref si, .ref so, .ref la, .int (nI u30.1.1), .int (nI gl), .int (nI u30.1.2.1), .int (nI u30.1.2.2), .ref ip, .ref oq, .ref cp, .int (nI gi), .int (nI go)])), (aa, .inl (cI, 8001, .inl (u30.2.1))), (si, .inl (cI, 8001, .inl (u30.2.2.1))), (so, .inl (cI, 8001, .inl (u30.2.2.2.1))), (ro, .inl (cB, 90000, .inl (u30.2.2.2.2)))] := hD
            rw [show ((upd rg 10 (((oAn M (rg 10) true) : Int32) <<< ((16 : Int32) &&& 31))) : Nat → Int32) = upd rg 10 (xMk M (rg 10) true) from by rw [xMk_an]] at hP hD
            have hP : va_P D zC [(re, .inl (cI, 32, .inl (upd rg 10 (xMk M (rg 10) true)))), (la, .inl (cI, 8001, .inl (lf))), (ip, .inl (cB, 1000, .inl (jf))), (oq, .inl (cB, 4096, .inl (qf))), (cp, .inl (cB, 4000, .inl (cf))), (m0, .inr (3, [.ref mk, .ref mt, .int kd, .ref wo, .int wn, .ref re, .int pc, .int sta, .int dn, .int th, .ref ro, .ref aa, .ref si, .ref so, .ref la, .int (nI u30.1.1), .int (nI gl), .int (nI u30.1.2.1), .int (nI u30.1.2.2), .ref ip, .ref oq, .ref cp, .int (nI gi), .int (nI go)])), (aa, .inl (cI, 8001, .inl (u30.2.1))), (si, .inl (cI, 8001, .inl (u30.2.2.1))), (so, .inl (cI, 8001, .inl (u30.2.2.2.1))), (ro, .inl (cB, 90000, .inl (u30.2.2.2.2)))] _ := hP
            have hD : va_D A [(re, .inl (cI, 32, .inl (upd rg 10 (xMk M (rg 10) true)))), (la, .inl (cI, 8001, .inl (lf))), (ip, .inl (cB, 1000, .inl (jf))), (oq, .inl (cB, 4096, .inl (qf))), (cp, .inl (cB, 4000, .inl (cf))), (m0, .inr (3, [.ref mk, .ref mt, .int kd, .ref wo, .int wn, .ref re, .int pc, .int sta, .int dn, .int th, .ref ro, .ref aa, .ref si, .ref so, .ref la, .int (nI u30.1.1), .int (nI gl), .int (nI u30.1.2.1), .int (nI u30.1.2.2), .ref ip, .ref oq, .ref cp, .int (nI gi), .int (nI go)])), (aa, .inl (cI, 8001, .inl (u30.2.1))), (si, .inl (cI, 8001, .inl (u30.2.2.1))), (so, .inl (cI, 8001, .inl (u30.2.2.2.1))), (ro, .inl (cB, 90000, .inl (u30.2.2.2.2)))] := hD
            refine lv_goto (tgt := 533) hx hb d_Mo_service_175 (by decide) ?_
            refine lv_aload_n hx hb d_Mo_service_533 rfl (lv_at hl 4 rfl) ?_
            refine lv_dup hx hb d_Mo_service_534 rfl ?_
            refine zget hE hK hP 5 rfl fd_Mo_104 rfl d_Mo_service_535 ?_
            refine lv_iconst (v := 4) hx hb d_Mo_service_538 (by decide) ?_
            refine lv_iadd hx hb d_Mo_service_539 ?_
            refine zput (v := .int (pc + 4)) hE hK hP hD hS 5 rfl fd_Mo_104 ft_Mo_6 rfl rfl (Nat.le_of_ble_eq_true rfl) d_Mo_service_540 (fun H locs hP hD hS => ?_)
            have hP : va_P D zC [(re, .inl (cI, 32, .inl (upd rg 10 (xMk M (rg 10) true)))), (la, .inl (cI, 8001, .inl (lf))), (ip, .inl (cB, 1000, .inl (jf))), (oq, .inl (cB, 4096, .inl (qf))), (cp, .inl (cB, 4000, .inl (cf))), (m0, .inr (3, [.ref mk, .ref mt, .int kd, .ref wo, .int wn, .ref re, .int (pc + 4), .int sta, .int dn, .int th, .ref ro, .ref aa, .ref si, .ref so, .ref la, .int (nI u30.1.1), .int (nI gl), .int (nI u30.1.2.1), .int (nI u30.1.2.2), .ref ip, .ref oq, .ref cp, .int (nI gi), .int (nI go)])), (aa, .inl (cI, 8001, .inl (u30.2.1))), (si, .inl (cI, 8001, .inl (u30.2.2.1))), (so, .inl (cI, 8001, .inl (u30.2.2.2.1))), (ro, .inl (cB, 90000, .inl (u30.2.2.2.2)))] _ := hP
            have hD : va_D A [(re, .inl (cI, 32, .inl (upd rg 10 (xMk M (rg 10) true)))), (la, .inl (cI, 8001, .inl (lf))), (ip, .inl (cB, 1000, .inl (jf))), (oq, .inl (cB, 4096, .inl (qf))), (cp, .inl (cB, 4000, .inl (cf))), (m0, .inr (3, [.ref mk, .ref mt, .int kd, .ref wo, .int wn, .ref re, .int (pc + 4), .int sta, .int dn, .int th, .ref ro, .ref aa, .ref si, .ref so, .ref la, .int (nI u30.1.1), .int (nI gl), .int (nI u30.1.2.1), .int (nI u30.1.2.2), .ref ip, .ref oq, .ref cp, .int (nI gi), .int (nI go)])), (aa, .inl (cI, 8001, .inl (u30.2.1))), (si, .inl (cI, 8001, .inl (u30.2.2.1))), (so, .inl (cI, 8001, .inl (u30.2.2.2.1))), (ro, .inl (cB, 90000, .inl (u30.2.2.2.2)))] := hD
            have hs : xServe rg M I O sta = (0, upd rg 10 (xMk M (rg 10) true), oM M (rg 10) true, I, O, sta) := by unfold xServe; (rw [if_neg h1, if_neg h2, if_neg h13, if_pos h26]) <;> rfl
            have ypc : sPc rg M I O sta pc = pc + 4 := by unfold sPc; rw [hs]; exact (if_pos rfl).trans (if_neg h1)
            have yst : sSt rg M I O sta = sta := by unfold sSt; rw [hs]; exact if_pos rfl
            have hP9 := hP.sub (ws' := [(m0, .inr (3, [.ref mk, .ref mt, .int kd, .ref wo, .int wn, .ref re, .int (pc + 4), .int sta, .int dn, .int th, .ref ro, .ref aa, .ref si, .ref so, .ref la, .int (nI u30.1.1), .int (nI gl), .int (nI u30.1.2.1), .int (nI u30.1.2.2), .ref ip, .ref oq, .ref cp, .int (nI gi), .int (nI go)])), (re, .inl (cI, 32, .inl (upd rg 10 (xMk M (rg 10) true)))), (ro, .inl (cB, 90000, .inl (u30.2.2.2.2))), (aa, .inl (cI, 8001, .inl (u30.2.1))), (si, .inl (cI, 8001, .inl (u30.2.2.1))), (so, .inl (cI, 8001, .inl (u30.2.2.2.1))), (la, .inl (cI, 8001, .inl (lf))), (ip, .inl (cB, 1000, .inl (jf))), (oq, .inl (cB, 4096, .inl (qf))), (cp, .inl (cB, 4000, .inl (cf)))]) [5, 0, 9, 6, 7, 8, 1, 2, 3, 4] rfl
            have hD9 := hD.sub (ws' := [(m0, .inr (3, [.ref mk, .ref mt, .int kd, .ref wo, .int wn, .ref re, .int (pc + 4), .int sta, .int dn, .int th, .ref ro, .ref aa, .ref si, .ref so, .ref la, .int (nI u30.1.1), .int (nI gl), .int (nI u30.1.2.1), .int (nI u30.1.2.2), .ref ip, .ref oq, .ref cp, .int (nI gi), .int (nI go)])), (re, .inl (cI, 32, .inl (upd rg 10 (xMk M (rg 10) true)))), (ro, .inl (cB, 90000, .inl (u30.2.2.2.2))), (aa, .inl (cI, 8001, .inl (u30.2.1))), (si, .inl (cI, 8001, .inl (u30.2.2.1))), (so, .inl (cI, 8001, .inl (u30.2.2.2.1))), (la, .inl (cI, 8001, .inl (lf))), (ip, .inl (cB, 1000, .inl (jf))), (oq, .inl (cB, 4096, .inl (qf))), (cp, .inl (cB, 4000, .inl (cf)))]) [5, 0, 9, 6, 7, 8, 1, 2, 3, 4] rfl rfl
            exact zretv hx hb hr hlocks hS ((u30.1.1, gl, u30.1.2.1, u30.1.2.2, gi, go), (u30.2.1, u30.2.2.1, u30.2.2.2.1, lf, u30.2.2.2.2, jf, qf, cf)) (by rw [hs]; exact ⟨hR, hI0, hO⟩) rfl (by rw [ypc, yst, hs]; exact hP9) (by rw [ypc, yst, hs]; exact hD9) d_Mo_service_543
          · refine lv_aload_n hx hb d_Mo_service_114 rfl (lv_at hl 4 rfl) ?_
            refine zget hE hK hP 5 rfl fd_Mo_19 rfl d_Mo_service_115 ?_
            refine lv_bipush (v := 17) hx hb d_Mo_service_118 (by decide) ?_
            refine va_iald hx hb hK hP 0 0 rfl rfl (by unfold vp_in; decide) d_Mo_service_120 ?_
            refine z_st (st' := [.int (rg 17)]) rfl ?_
            refine lv_iconst (v := 1) hx hb d_Mo_service_121 (by decide) ?_
            refine lv_icmp_ne (tgt := 131) hx hb d_Mo_service_122 (by decide) (fun h33 => ?_) (fun h33 => absurd h33 h2)
            refine lv_aload_n hx hb d_Mo_service_131 rfl (lv_at hl 4 rfl) ?_
            refine zget hE hK hP 5 rfl fd_Mo_19 rfl d_Mo_service_132 ?_
            refine lv_bipush (v := 17) hx hb d_Mo_service_135 (by decide) ?_
            refine va_iald hx hb hK hP 0 0 rfl rfl (by unfold vp_in; decide) d_Mo_service_137 ?_
            refine z_st (st' := [.int (rg 17)]) rfl ?_
            refine lv_iconst (v := 1) hx hb d_Mo_service_138 (by decide) ?_
            refine lv_icmp_ne (tgt := 163) hx hb d_Mo_service_139 (by decide) (fun h34 => ?_) (fun h34 => absurd h34 h2)
            refine lv_aload_n hx hb d_Mo_service_163 rfl (lv_at hl 4 rfl) ?_
            refine zget hE hK hP 5 rfl fd_Mo_19 rfl d_Mo_service_164 ?_
            refine lv_bipush (v := 10) hx hb d_Mo_service_167 (by decide) ?_
            refine lv_iload hx hb d_Mo_service_169 (lv_at hl 0 rfl) ?_
            refine lv_bipush (v := 16) hx hb d_Mo_service_171 (by decide) ?_
            refine lv_ishl hx hb d_Mo_service_173 ?_
            refine va_iast hx hb hK hP hD hS 0 0 rfl rfl (by unfold vp_in; decide) d_Mo_service_174 (fun H locs hP hD hS => ?_)
            have hP : va_P D zC [(re, .inl (cI, 32, .inl (upd rg 10 (((oAn M (rg 10) true) : Int32) <<< ((16 : Int32) &&& 31))))), (la, .inl (cI, 8001, .inl (lf))), (ip, .inl (cB, 1000, .inl (jf))), (oq, .inl (cB, 4096, .inl (qf))), (cp, .inl (cB, 4000, .inl (cf))), (m0, .inr (3, [.ref mk, .ref mt, .int kd, .ref wo, .int wn, .ref re, .int pc, .int sta, .int dn, .int th, .ref ro, .ref aa, .ref si, .ref so, .ref la, .int (nI u30.1.1), .int (nI gl), .int (nI u30.1.2.1), .int (nI u30.1.2.2), .ref ip, .ref oq, .ref cp, .int (nI gi), .int (nI go)])), (aa, .inl (cI, 8001, .inl (u30.2.1))), (si, .inl (cI, 8001, .inl (u30.2.2.1))), (so, .inl (cI, 8001, .inl (u30.2.2.2.1))), (ro, .inl (cB, 90000, .inl (u30.2.2.2.2)))] _ := hP
            have hD : va_D A [(re, .inl (cI, 32, .inl (upd rg 10 (((oAn M (rg 10) true) : Int32) <<< ((16 : Int32) &&& 31))))), (la, .inl (cI, 8001, .inl (lf))), (ip, .inl (cB, 1000, .inl (jf))), (oq, .inl (cB, 4096, .inl (qf))), (cp, .inl (cB, 4000, .inl (cf))), (m0, .inr (3, [.ref mk, .ref mt, .int kd, .ref wo, .int wn, .ref re, .int pc, .int sta, .int dn, .int th, .ref ro, .ref aa, .ref si, .ref so, .ref la, .int (nI u30.1.1), .int (nI gl), .int (nI u30.1.2.1), .int (nI u30.1.2.2), .ref ip, .ref oq, .ref cp, .int (nI gi), .int (nI go)])), (aa, .inl (cI, 8001, .inl (u30.2.1))), (si, .inl (cI, 8001, .inl (u30.2.2.1))), (so, .inl (cI, 8001, .inl (u30.2.2.2.1))), (ro, .inl (cB, 90000, .inl (u30.2.2.2.2)))] := hD
            rw [show ((upd rg 10 (((oAn M (rg 10) true) : Int32) <<< ((16 : Int32) &&& 31))) : Nat → Int32) = upd rg 10 (xMk M (rg 10) true) from by rw [xMk_an]] at hP hD
            have hP : va_P D zC [(re, .inl (cI, 32, .inl (upd rg 10 (xMk M (rg 10) true)))), (la, .inl (cI, 8001, .inl (lf))), (ip, .inl (cB, 1000, .inl (jf))), (oq, .inl (cB, 4096, .inl (qf))), (cp, .inl (cB, 4000, .inl (cf))), (m0, .inr (3, [.ref mk, .ref mt, .int kd, .ref wo, .int wn, .ref re, .int pc, .int sta, .int dn, .int th, .ref ro, .ref aa, .ref si, .ref so, .ref la, .int (nI u30.1.1), .int (nI gl), .int (nI u30.1.2.1), .int (nI u30.1.2.2), .ref ip, .ref oq, .ref cp, .int (nI gi), .int (nI go)])), (aa, .inl (cI, 8001, .inl (u30.2.1))), (si, .inl (cI, 8001, .inl (u30.2.2.1))), (so, .inl (cI, 8001, .inl (u30.2.2.2.1))), (ro, .inl (cB, 90000, .inl (u30.2.2.2.2)))] _ := hP
            have hD : va_D A [(re, .inl (cI, 32, .inl (upd rg 10 (xMk M (rg 10) true)))), (la, .inl (cI, 8001, .inl (lf))), (ip, .inl (cB, 1000, .inl (jf))), (oq, .inl (cB, 4096, .inl (qf))), (cp, .inl (cB, 4000, .inl (cf))), (m0, .inr (3, [.ref mk, .ref mt, .int kd, .ref wo, .int wn, .ref re, .int pc, .int sta, .int dn, .int th, .ref ro, .ref aa, .ref si, .ref so, .ref la, .int (nI u30.1.1), .int (nI gl), .int (nI u30.1.2.1), .int (nI u30.1.2.2), .ref ip, .ref oq, .ref cp, .int (nI gi), .int (nI go)])), (aa, .inl (cI, 8001, .inl (u30.2.1))), (si, .inl (cI, 8001, .inl (u30.2.2.1))), (so, .inl (cI, 8001, .inl (u30.2.2.2.1))), (ro, .inl (cB, 90000, .inl (u30.2.2.2.2)))] := hD
            refine lv_goto (tgt := 533) hx hb d_Mo_service_175 (by decide) ?_
            refine lv_aload_n hx hb d_Mo_service_533 rfl (lv_at hl 4 rfl) ?_
            refine lv_dup hx hb d_Mo_service_534 rfl ?_
            refine zget hE hK hP 5 rfl fd_Mo_104 rfl d_Mo_service_535 ?_
            refine lv_iconst (v := 4) hx hb d_Mo_service_538 (by decide) ?_
            refine lv_iadd hx hb d_Mo_service_539 ?_
            refine zput (v := .int (pc + 4)) hE hK hP hD hS 5 rfl fd_Mo_104 ft_Mo_6 rfl rfl (Nat.le_of_ble_eq_true rfl) d_Mo_service_540 (fun H locs hP hD hS => ?_)
            have hP : va_P D zC [(re, .inl (cI, 32, .inl (upd rg 10 (xMk M (rg 10) true)))), (la, .inl (cI, 8001, .inl (lf))), (ip, .inl (cB, 1000, .inl (jf))), (oq, .inl (cB, 4096, .inl (qf))), (cp, .inl (cB, 4000, .inl (cf))), (m0, .inr (3, [.ref mk, .ref mt, .int kd, .ref wo, .int wn, .ref re, .int (pc + 4), .int sta, .int dn, .int th, .ref ro, .ref aa, .ref si, .ref so, .ref la, .int (nI u30.1.1), .int (nI gl), .int (nI u30.1.2.1), .int (nI u30.1.2.2), .ref ip, .ref oq, .ref cp, .int (nI gi), .int (nI go)])), (aa, .inl (cI, 8001, .inl (u30.2.1))), (si, .inl (cI, 8001, .inl (u30.2.2.1))), (so, .inl (cI, 8001, .inl (u30.2.2.2.1))), (ro, .inl (cB, 90000, .inl (u30.2.2.2.2)))] _ := hP
            have hD : va_D A [(re, .inl (cI, 32, .inl (upd rg 10 (xMk M (rg 10) true)))), (la, .inl (cI, 8001, .inl (lf))), (ip, .inl (cB, 1000, .inl (jf))), (oq, .inl (cB, 4096, .inl (qf))), (cp, .inl (cB, 4000, .inl (cf))), (m0, .inr (3, [.ref mk, .ref mt, .int kd, .ref wo, .int wn, .ref re, .int (pc + 4), .int sta, .int dn, .int th, .ref ro, .ref aa, .ref si, .ref so, .ref la, .int (nI u30.1.1), .int (nI gl), .int (nI u30.1.2.1), .int (nI u30.1.2.2), .ref ip, .ref oq, .ref cp, .int (nI gi), .int (nI go)])), (aa, .inl (cI, 8001, .inl (u30.2.1))), (si, .inl (cI, 8001, .inl (u30.2.2.1))), (so, .inl (cI, 8001, .inl (u30.2.2.2.1))), (ro, .inl (cB, 90000, .inl (u30.2.2.2.2)))] := hD
            have hs : xServe rg M I O sta = (0, upd rg 10 (xMk M (rg 10) true), oM M (rg 10) true, I, O, sta) := by unfold xServe; (rw [if_neg h1, if_neg h2, if_neg h13, if_pos h26]) <;> rfl
            have ypc : sPc rg M I O sta pc = pc + 4 := by unfold sPc; rw [hs]; exact (if_pos rfl).trans (if_neg h1)
            have yst : sSt rg M I O sta = sta := by unfold sSt; rw [hs]; exact if_pos rfl
            have hP9 := hP.sub (ws' := [(m0, .inr (3, [.ref mk, .ref mt, .int kd, .ref wo, .int wn, .ref re, .int (pc + 4), .int sta, .int dn, .int th, .ref ro, .ref aa, .ref si, .ref so, .ref la, .int (nI u30.1.1), .int (nI gl), .int (nI u30.1.2.1), .int (nI u30.1.2.2), .ref ip, .ref oq, .ref cp, .int (nI gi), .int (nI go)])), (re, .inl (cI, 32, .inl (upd rg 10 (xMk M (rg 10) true)))), (ro, .inl (cB, 90000, .inl (u30.2.2.2.2))), (aa, .inl (cI, 8001, .inl (u30.2.1))), (si, .inl (cI, 8001, .inl (u30.2.2.1))), (so, .inl (cI, 8001, .inl (u30.2.2.2.1))), (la, .inl (cI, 8001, .inl (lf))), (ip, .inl (cB, 1000, .inl (jf))), (oq, .inl (cB, 4096, .inl (qf))), (cp, .inl (cB, 4000, .inl (cf)))]) [5, 0, 9, 6, 7, 8, 1, 2, 3, 4] rfl
            have hD9 := hD.sub (ws' := [(m0, .inr (3, [.ref mk, .ref mt, .int kd, .ref wo, .int wn, .ref re, .int (pc + 4), .int sta, .int dn, .int th, .ref ro, .ref aa, .ref si, .ref so, .ref la, .int (nI u30.1.1), .int (nI gl), .int (nI u30.1.2.1), .int (nI u30.1.2.2), .ref ip, .ref oq, .ref cp, .int (nI gi), .int (nI go)])), (re, .inl (cI, 32, .inl (upd rg 10 (xMk M (rg 10) true)))), (ro, .inl (cB, 90000, .inl (u30.2.2.2.2))), (aa, .inl (cI, 8001, .inl (u30.2.1))), (si, .inl (cI, 8001, .inl (u30.2.2.1))), (so, .inl (cI, 8001, .inl (u30.2.2.2.1))), (la, .inl (cI, 8001, .inl (lf))), (ip, .inl (cB, 1000, .inl (jf))), (oq, .inl (cB, 4096, .inl (qf))), (cp, .inl (cB, 4000, .inl (cf)))]) [5, 0, 9, 6, 7, 8, 1, 2, 3, 4] rfl rfl
            exact zretv hx hb hr hlocks hS ((u30.1.1, gl, u30.1.2.1, u30.1.2.2, gi, go), (u30.2.1, u30.2.2.1, u30.2.2.2.1, lf, u30.2.2.2.2, jf, qf, cf)) (by rw [hs]; exact ⟨hR, hI0, hO⟩) rfl (by rw [ypc, yst, hs]; exact hP9) (by rw [ypc, yst, hs]; exact hD9) d_Mo_service_543
        · rcases Decidable.em ((rg 17) = 4) with h35 | h35
          · refine lv_tableIn (tgt := 237) hx hb d_Mo_service_31 (by rw [h35]; decide) (by rw [h35]; decide) (by rw [h35]; rfl) (by decide) ?_
            have hz10 := zN_lt (rg 10)
            refine lv_iload_n hx hb d_Mo_service_237 rfl (lv_at hl 2 rfl) ?_
            refine lv_bipush (v := 16) hx hb d_Mo_service_238 (by decide) ?_
            refine lv_iushr (v := zushr (rg 10) 16) hx hb d_Mo_service_240 rfl ?_
            refine lv_istore (lv' := [(4, .int (zushr (rg 10) 16)), (3, .int (rg 12)), (2, .int (rg 11)), (1, .int (rg 10)), (0, .ref m0)]) hx hb d_Mo_service_241 hl (by decide) rfl (fun ls hl => ?_)
            refine lv_iload_n hx hb d_Mo_service_243 rfl (lv_at hl 3 rfl) ?_
            refine lv_if_eq (tgt := 533) hx hb d_Mo_service_244 (by decide) (fun h36 => ?_) (fun h36 => ?_)
            · refine lv_aload_n hx hb d_Mo_service_533 rfl (lv_at hl 4 rfl) ?_
              refine lv_dup hx hb d_Mo_service_534 rfl ?_
              refine zget hE hK hP 0 rfl fd_Mo_104 rfl d_Mo_service_535 ?_
              refine lv_iconst (v := 4) hx hb d_Mo_service_538 (by decide) ?_
              refine lv_iadd hx hb d_Mo_service_539 ?_
              refine zput (v := .int (pc + 4)) hE hK hP hD hS 0 rfl fd_Mo_104 ft_Mo_6 rfl rfl (Nat.le_of_ble_eq_true rfl) d_Mo_service_540 (fun H locs hP hD hS => ?_)
              have hP : va_P D zC [(m0, .inr (3, [.ref mk, .ref mt, .int kd, .ref wo, .int wn, .ref re, .int (pc + 4), .int sta, .int dn, .int th, .ref ro, .ref aa, .ref si, .ref so, .ref la, .int (nI gd), .int (nI gl), .int (nI gt), .int (nI gr), .ref ip, .ref oq, .ref cp, .int (nI gi), .int (nI go)])), (re, .inl (cI, 32, .inl (rg))), (ro, .inl (cB, 90000, .inl (rf))), (aa, .inl (cI, 8001, .inl (af))), (si, .inl (cI, 8001, .inl (zf))), (so, .inl (cI, 8001, .inl (of))), (la, .inl (cI, 8001, .inl (lf))), (ip, .inl (cB, 1000, .inl (jf))), (oq, .inl (cB, 4096, .inl (qf))), (cp, .inl (cB, 4000, .inl (cf)))] _ := hP
              have hD : va_D A [(m0, .inr (3, [.ref mk, .ref mt, .int kd, .ref wo, .int wn, .ref re, .int (pc + 4), .int sta, .int dn, .int th, .ref ro, .ref aa, .ref si, .ref so, .ref la, .int (nI gd), .int (nI gl), .int (nI gt), .int (nI gr), .ref ip, .ref oq, .ref cp, .int (nI gi), .int (nI go)])), (re, .inl (cI, 32, .inl (rg))), (ro, .inl (cB, 90000, .inl (rf))), (aa, .inl (cI, 8001, .inl (af))), (si, .inl (cI, 8001, .inl (zf))), (so, .inl (cI, 8001, .inl (of))), (la, .inl (cI, 8001, .inl (lf))), (ip, .inl (cB, 1000, .inl (jf))), (oq, .inl (cB, 4096, .inl (qf))), (cp, .inl (cB, 4000, .inl (cf)))] := hD
              have hs : xServe rg M I O sta = (0, rg, M, I, O, sta) := by unfold xServe; (rw [if_neg h1, if_neg h2, if_neg h13, if_neg h26, if_pos h35, if_pos h36]) <;> rfl
              have ypc : sPc rg M I O sta pc = pc + 4 := by unfold sPc; rw [hs]; exact (if_pos rfl).trans (if_neg h1)
              have yst : sSt rg M I O sta = sta := by unfold sSt; rw [hs]; exact if_pos rfl
              have hP9 := hP.sub (ws' := [(m0, .inr (3, [.ref mk, .ref mt, .int kd, .ref wo, .int wn, .ref re, .int (pc + 4), .int sta, .int dn, .int th, .ref ro, .ref aa, .ref si, .ref so, .ref la, .int (nI gd), .int (nI gl), .int (nI gt), .int (nI gr), .ref ip, .ref oq, .ref cp, .int (nI gi), .int (nI go)])), (re, .inl (cI, 32, .inl (rg))), (ro, .inl (cB, 90000, .inl (rf))), (aa, .inl (cI, 8001, .inl (af))), (si, .inl (cI, 8001, .inl (zf))), (so, .inl (cI, 8001, .inl (of))), (la, .inl (cI, 8001, .inl (lf))), (ip, .inl (cB, 1000, .inl (jf))), (oq, .inl (cB, 4096, .inl (qf))), (cp, .inl (cB, 4000, .inl (cf)))]) [0, 1, 2, 3, 4, 5, 6, 7, 8, 9] rfl
              have hD9 := hD.sub (ws' := [(m0, .inr (3, [.ref mk, .ref mt, .int kd, .ref wo, .int wn, .ref re, .int (pc + 4), .int sta, .int dn, .int th, .ref ro, .ref aa, .ref si, .ref so, .ref la, .int (nI gd), .int (nI gl), .int (nI gt), .int (nI gr), .ref ip, .ref oq, .ref cp, .int (nI gi), .int (nI go)])), (re, .inl (cI, 32, .inl (rg))), (ro, .inl (cB, 90000, .inl (rf))), (aa, .inl (cI, 8001, .inl (af))), (si, .inl (cI, 8001, .inl (zf))), (so, .inl (cI, 8001, .inl (of))), (la, .inl (cI, 8001, .inl (lf))), (ip, .inl (cB, 1000, .inl (jf))), (oq, .inl (cB, 4096, .inl (qf))), (cp, .inl (cB, 4000, .inl (cf)))]) [0, 1, 2, 3, 4, 5, 6, 7, 8, 9] rfl rfl
              exact zretv hx hb hr hlocks hS ((gd, gl, gt, gr, gi, go), (af, zf, of, lf, rf, jf, qf, cf)) (by rw [hs]; exact ⟨hR, hI0, hO⟩) rfl (by rw [ypc, yst, hs]; exact hP9) (by rw [ypc, yst, hs]; exact hD9) d_Mo_service_543
            · refine lv_iload_n hx hb d_Mo_service_247 rfl (lv_at hl 3 rfl) ?_
              refine lv_ldc (v := 65535) hx hb hown (hw _ kc_Mo_73) d_Mo_service_248 ?_
              refine lv_iand hx hb d_Mo_service_250 ?_
              refine lv_if_ne (tgt := 274) hx hb d_Mo_service_251 (by decide) (fun h37 => ?_) (fun h37 => ?_)
              · have hdg := dg_none hR (Or.inl h37)
                refine lv_aload_n hx hb d_Mo_service_274 rfl (lv_at hl 4 rfl) ?_
                refine lv_iconst (v := 4) hx hb d_Mo_service_275 (by decide) ?_
                refine zgov (wr := [(re, .inl (cI, 32, .inl (rg))), (ro, .inl (cB, 90000, .inl (rf))), (aa, .inl (cI, 8001, .inl (af))), (si, .inl (cI, 8001, .inl (zf))), (so, .inl (cI, 8001, .inl (of))), (la, .inl (cI, 8001, .inl (lf))), (ip, .inl (cB, 1000, .inl (jf))), (oq, .inl (cB, 4096, .inl (qf))), (cp, .inl (cB, 4000, .inl (cf)))]) (zrunV (n := 1) (As := [.int 4]) (rest := []) hE (c_Mo_trap l D cI cB cJ _ 4 m0 mk mt kd wo wn re pc sta dn th ro aa si so la (nI gd) (nI gl) (nI gt) (nI gr) ip oq cp (nI gi) (nI go)) cb_Mo_trap lk_Mo_100 in_Mo_trap se_Mo_trap (zpreV (q0 := 0) hK hP hD rfl rfl rfl [0] rfl rfl rfl) ⟨Nat.le_of_ble_eq_true rfl, Nat.le_of_ble_eq_true rfl, Nat.le_of_ble_eq_true rfl, Nat.le_of_ble_eq_true rfl⟩ rfl hl.1 rfl (Nat.le_of_ble_eq_true rfl) d_Mo_service_276) hP hD hS hA [0] [1, 2, 3, 4, 5, 6, 7, 8, 9] rfl rfl rfl (by decide) (fun u40 H locs hq38 hP hD hS => ?_)
                clear hq38
                have hP : va_P D zC [(re, .inl (cI, 32, .inl (rg))), (ro, .inl (cB, 90000, .inl (rf))), (aa, .inl (cI, 8001, .inl (af))), (si, .inl (cI, 8001, .inl (zf))), (so, .inl (cI, 8001, .inl (of))), (la, .inl (cI, 8001, .inl (lf))), (ip, .inl (cB, 1000, .inl (jf))), (oq, .inl (cB, 4096, .inl (qf))), (cp, .inl (cB, 4000, .inl (cf))), (m0, .inr (3, [.ref mk, .ref mt, .int kd, .ref wo, .int wn, .ref re, .int pc, .int ((sp_Mo_trap 4)), .int dn, .int th, .ref ro, .ref aa, .ref si, .ref so, .ref la, .int (nI gd), .int (nI gl), .int (nI gt), .int (nI gr), .ref ip, .ref oq, .ref cp, .int (nI gi), .int (nI go)]))] _ := hP
                have hD : va_D A [(re, .inl (cI, 32, .inl (rg))), (ro, .inl (cB, 90000, .inl (rf))), (aa, .inl (cI, 8001, .inl (af))), (si, .inl (cI, 8001, .inl (zf))), (so, .inl (cI, 8001, .inl (of))), (la, .inl (cI, 8001, .inl (lf))), (ip, .inl (cB, 1000, .inl (jf))), (oq, .inl (cB, 4096, .inl (qf))), (cp, .inl (cB, 4000, .inl (cf))), (m0, .inr (3, [.ref mk, .ref mt, .int kd, .ref wo, .int wn, .ref re, .int pc, .int ((sp_Mo_trap 4)), .int dn, .int th, .ref ro, .ref aa, .ref si, .ref so, .ref la, .int (nI gd), .int (nI gl), .int (nI gt), .int (nI gr), .ref ip, .ref oq, .ref cp, .int (nI gi), .int (nI go)]))] := hD
                have hs : xServe rg M I O sta = (4, rg, M, I, O, sta) := by unfold xServe; (rw [if_neg h1, if_neg h2, if_neg h13, if_neg h26, if_pos h35, if_neg h36, hdg]) <;> rfl
                have ypc : sPc rg M I O sta pc = pc := by unfold sPc; rw [hs]; exact if_neg (show ¬ ((4) : Int32) = 0 by decide)
                have yst : sSt rg M I O sta = (sp_Mo_trap 4) := by unfold sSt; rw [hs]; exact if_neg (show ¬ ((4) : Int32) = 0 by decide)
                have hP9 := hP.sub (ws' := [(m0, .inr (3, [.ref mk, .ref mt, .int kd, .ref wo, .int wn, .ref re, .int pc, .int ((sp_Mo_trap 4)), .int dn, .int th, .ref ro, .ref aa, .ref si, .ref so, .ref la, .int (nI gd), .int (nI gl), .int (nI gt), .int (nI gr), .ref ip, .ref oq, .ref cp, .int (nI gi), .int (nI go)])), (re, .inl (cI, 32, .inl (rg))), (ro, .inl (cB, 90000, .inl (rf))), (aa, .inl (cI, 8001, .inl (af))), (si, .inl (cI, 8001, .inl (zf))), (so, .inl (cI, 8001, .inl (of))), (la, .inl (cI, 8001, .inl (lf))), (ip, .inl (cB, 1000, .inl (jf))), (oq, .inl (cB, 4096, .inl (qf))), (cp, .inl (cB, 4000, .inl (cf)))]) [9, 0, 1, 2, 3, 4, 5, 6, 7, 8] rfl
                have hD9 := hD.sub (ws' := [(m0, .inr (3, [.ref mk, .ref mt, .int kd, .ref wo, .int wn, .ref re, .int pc, .int ((sp_Mo_trap 4)), .int dn, .int th, .ref ro, .ref aa, .ref si, .ref so, .ref la, .int (nI gd), .int (nI gl), .int (nI gt), .int (nI gr), .ref ip, .ref oq, .ref cp, .int (nI gi), .int (nI go)])), (re, .inl (cI, 32, .inl (rg))), (ro, .inl (cB, 90000, .inl (rf))), (aa, .inl (cI, 8001, .inl (af))), (si, .inl (cI, 8001, .inl (zf))), (so, .inl (cI, 8001, .inl (of))), (la, .inl (cI, 8001, .inl (lf))), (ip, .inl (cB, 1000, .inl (jf))), (oq, .inl (cB, 4096, .inl (qf))), (cp, .inl (cB, 4000, .inl (cf)))]) [9, 0, 1, 2, 3, 4, 5, 6, 7, 8] rfl rfl
                exact zretv hx hb hr hlocks hS ((gd, gl, gt, gr, gi, go), (af, zf, of, lf, rf, jf, qf, cf)) (by rw [hs]; exact ⟨hR, hI0, hO⟩) rfl (by rw [ypc, yst, hs]; exact hP9) (by rw [ypc, yst, hs]; exact hD9) d_Mo_service_279
              · refine lv_iload hx hb d_Mo_service_254 (lv_at hl 0 rfl) ?_
                refine lv_aload_n hx hb d_Mo_service_256 rfl (lv_at hl 4 rfl) ?_
                refine zget hE hK hP 0 rfl fd_Mo_74 rfl d_Mo_service_257 ?_
                refine lv_icmp_gt (tgt := 274) hx hb d_Mo_service_260 (by decide) (fun h41 => ?_) (fun h41 => ?_)
                · have hdg := dg_none hR (Or.inr (Or.inl h41))
                  refine lv_aload_n hx hb d_Mo_service_274 rfl (lv_at hl 4 rfl) ?_
                  refine lv_iconst (v := 4) hx hb d_Mo_service_275 (by decide) ?_
                  refine zgov (wr := [(re, .inl (cI, 32, .inl (rg))), (ro, .inl (cB, 90000, .inl (rf))), (aa, .inl (cI, 8001, .inl (af))), (si, .inl (cI, 8001, .inl (zf))), (so, .inl (cI, 8001, .inl (of))), (la, .inl (cI, 8001, .inl (lf))), (ip, .inl (cB, 1000, .inl (jf))), (oq, .inl (cB, 4096, .inl (qf))), (cp, .inl (cB, 4000, .inl (cf)))]) (zrunV (n := 1) (As := [.int 4]) (rest := []) hE (c_Mo_trap l D cI cB cJ _ 4 m0 mk mt kd wo wn re pc sta dn th ro aa si so la (nI gd) (nI gl) (nI gt) (nI gr) ip oq cp (nI gi) (nI go)) cb_Mo_trap lk_Mo_100 in_Mo_trap se_Mo_trap (zpreV (q0 := 0) hK hP hD rfl rfl rfl [0] rfl rfl rfl) ⟨Nat.le_of_ble_eq_true rfl, Nat.le_of_ble_eq_true rfl, Nat.le_of_ble_eq_true rfl, Nat.le_of_ble_eq_true rfl⟩ rfl hl.1 rfl (Nat.le_of_ble_eq_true rfl) d_Mo_service_276) hP hD hS hA [0] [1, 2, 3, 4, 5, 6, 7, 8, 9] rfl rfl rfl (by decide) (fun u44 H locs hq42 hP hD hS => ?_)
                  clear hq42
                  have hP : va_P D zC [(re, .inl (cI, 32, .inl (rg))), (ro, .inl (cB, 90000, .inl (rf))), (aa, .inl (cI, 8001, .inl (af))), (si, .inl (cI, 8001, .inl (zf))), (so, .inl (cI, 8001, .inl (of))), (la, .inl (cI, 8001, .inl (lf))), (ip, .inl (cB, 1000, .inl (jf))), (oq, .inl (cB, 4096, .inl (qf))), (cp, .inl (cB, 4000, .inl (cf))), (m0, .inr (3, [.ref mk, .ref mt, .int kd, .ref wo, .int wn, .ref re, .int pc, .int ((sp_Mo_trap 4)), .int dn, .int th, .ref ro, .ref aa, .ref si, .ref so, .ref la, .int (nI gd), .int (nI gl), .int (nI gt), .int (nI gr), .ref ip, .ref oq, .ref cp, .int (nI gi), .int (nI go)]))] _ := hP
                  have hD : va_D A [(re, .inl (cI, 32, .inl (rg))), (ro, .inl (cB, 90000, .inl (rf))), (aa, .inl (cI, 8001, .inl (af))), (si, .inl (cI, 8001, .inl (zf))), (so, .inl (cI, 8001, .inl (of))), (la, .inl (cI, 8001, .inl (lf))), (ip, .inl (cB, 1000, .inl (jf))), (oq, .inl (cB, 4096, .inl (qf))), (cp, .inl (cB, 4000, .inl (cf))), (m0, .inr (3, [.ref mk, .ref mt, .int kd, .ref wo, .int wn, .ref re, .int pc, .int ((sp_Mo_trap 4)), .int dn, .int th, .ref ro, .ref aa, .ref si, .ref so, .ref la, .int (nI gd), .int (nI gl), .int (nI gt), .int (nI gr), .ref ip, .ref oq, .ref cp, .int (nI gi), .int (nI go)]))] := hD
                  have hs : xServe rg M I O sta = (4, rg, M, I, O, sta) := by unfold xServe; (rw [if_neg h1, if_neg h2, if_neg h13, if_neg h26, if_pos h35, if_neg h36, hdg]) <;> rfl
                  have ypc : sPc rg M I O sta pc = pc := by unfold sPc; rw [hs]; exact if_neg (show ¬ ((4) : Int32) = 0 by decide)
                  have yst : sSt rg M I O sta = (sp_Mo_trap 4) := by unfold sSt; rw [hs]; exact if_neg (show ¬ ((4) : Int32) = 0 by decide)
                  have hP9 := hP.sub (ws' := [(m0, .inr (3, [.ref mk, .ref mt, .int kd, .ref wo, .int wn, .ref re, .int pc, .int ((sp_Mo_trap 4)), .int dn, .int th, .ref ro, .ref aa, .ref si, .ref so, .ref la, .int (nI gd), .int (nI gl), .int (nI gt), .int (nI gr), .ref ip, .ref oq, .ref cp, .int (nI gi), .int (nI go)])), (re, .inl (cI, 32, .inl (rg))), (ro, .inl (cB, 90000, .inl (rf))), (aa, .inl (cI, 8001, .inl (af))), (si, .inl (cI, 8001, .inl (zf))), (so, .inl (cI, 8001, .inl (of))), (la, .inl (cI, 8001, .inl (lf))), (ip, .inl (cB, 1000, .inl (jf))), (oq, .inl (cB, 4096, .inl (qf))), (cp, .inl (cB, 4000, .inl (cf)))]) [9, 0, 1, 2, 3, 4, 5, 6, 7, 8] rfl
                  have hD9 := hD.sub (ws' := [(m0, .inr (3, [.ref mk, .ref mt, .int kd, .ref wo, .int wn, .ref re, .int pc, .int ((sp_Mo_trap 4)), .int dn, .int th, .ref ro, .ref aa, .ref si, .ref so, .ref la, .int (nI gd), .int (nI gl), .int (nI gt), .int (nI gr), .ref ip, .ref oq, .ref cp, .int (nI gi), .int (nI go)])), (re, .inl (cI, 32, .inl (rg))), (ro, .inl (cB, 90000, .inl (rf))), (aa, .inl (cI, 8001, .inl (af))), (si, .inl (cI, 8001, .inl (zf))), (so, .inl (cI, 8001, .inl (of))), (la, .inl (cI, 8001, .inl (lf))), (ip, .inl (cB, 1000, .inl (jf))), (oq, .inl (cB, 4096, .inl (qf))), (cp, .inl (cB, 4000, .inl (cf)))]) [9, 0, 1, 2, 3, 4, 5, 6, 7, 8] rfl rfl
                  exact zretv hx hb hr hlocks hS ((gd, gl, gt, gr, gi, go), (af, zf, of, lf, rf, jf, qf, cf)) (by rw [hs]; exact ⟨hR, hI0, hO⟩) rfl (by rw [ypc, yst, hs]; exact hP9) (by rw [ypc, yst, hs]; exact hD9) d_Mo_service_279
                · refine lv_aload_n hx hb d_Mo_service_263 rfl (lv_at hl 4 rfl) ?_
                  refine zget hE hK hP 0 rfl fd_Mo_33 rfl d_Mo_service_264 ?_
                  refine lv_iload hx hb d_Mo_service_267 (lv_at hl 0 rfl) ?_
                  refine va_iald hx hb hK hP 5 0 rfl rfl (z_in ⟨(zus16 (rg 10)).1, by have q := z_nlt h41; rw [nI_toInt (by omega)] at q; omega⟩) d_Mo_service_269 ?_
                  refine z_st (st' := [.int (of (zN (rg 10) / 65536))]) (by rw [show ((of (zushr (rg 10) 16).toNatClampNeg) : Int32) = of (zN (rg 10) / 65536) from by rw [z_u16, nI_clamp (by omega)]]) ?_
                  refine lv_iconst (v := 2) hx hb d_Mo_service_270 (by decide) ?_
                  refine lv_icmp_eq (tgt := 280) hx hb d_Mo_service_271 (by decide) (fun h45 => ?_) (fun h45 => ?_)
                  · obtain ⟨zz, e1, e2, hdg, e4, e5⟩ := dg_some hR h36 h37 h41 h45
                    have hoo : 0 ≤ (zushr (rg 10) 16).toInt ∧ (zushr (rg 10) 16).toInt ≤ 8000 := by rw [z_u16, nI_toInt (by omega)]; omega
                    refine lv_aload_n hx hb d_Mo_service_280 rfl (lv_at hl 4 rfl) ?_
                    refine lv_iload hx hb d_Mo_service_281 (lv_at hl 0 rfl) ?_
                    refine zgov (wr := [(re, .inl (cI, 32, .inl (rg))), (ro, .inl (cB, 90000, .inl (rf))), (aa, .inl (cI, 8001, .inl (af))), (la, .inl (cI, 8001, .inl (lf))), (ip, .inl (cB, 1000, .inl (jf))), (oq, .inl (cB, 4096, .inl (qf))), (cp, .inl (cB, 4000, .inl (cf)))]) (zrunV (n := 1) (As := [.int (zushr (rg 10) 16)]) (rest := []) hE (c_Mo_gone l D cI cB cJ _ (zushr (rg 10) 16) m0 mk mt kd wo wn re pc sta dn th ro aa si so la (nI gd) (nI gl) (nI gt) (nI gr) ip oq cp (nI gi) (nI go) zf of hoo) cb_Mo_gone lk_Mo_168 in_Mo_gone se_Mo_gone (zpreV (q0 := 0) hK hP hD rfl rfl rfl [0, 4, 5] rfl rfl rfl) ⟨Nat.le_of_ble_eq_true rfl, Nat.le_of_ble_eq_true rfl, Nat.le_of_ble_eq_true rfl, Nat.le_of_ble_eq_true rfl⟩ rfl hl.1 rfl (Nat.le_of_ble_eq_true rfl) d_Mo_service_283) hP hD hS hA [0, 4, 5] [1, 2, 3, 6, 7, 8, 9] rfl rfl rfl (by decide) (fun u48 H locs hq46 hP hD hS => ?_)
                    clear hq46
                    have hP : va_P D zC [(re, .inl (cI, 32, .inl (rg))), (ro, .inl (cB, 90000, .inl (rf))), (aa, .inl (cI, 8001, .inl (af))), (la, .inl (cI, 8001, .inl (lf))), (ip, .inl (cB, 1000, .inl (jf))), (oq, .inl (cB, 4096, .inl (qf))), (cp, .inl (cB, 4000, .inl (cf))), (m0, .inr (3, [.ref mk, .ref mt, .int kd, .ref wo, .int wn, .ref re, .int pc, .int sta, .int dn, .int th, .ref ro, .ref aa, .ref si, .ref so, .ref la, .int (nI gd), .int (nI gl), .int (nI gt), .int ((sp_Mo_gone (zushr (rg 10) 16) (nI gr) zf of).1), .ref ip, .ref oq, .ref cp, .int (nI gi), .int (nI go)])), (si, .inl (cI, 8001, .inl (zf))), (so, .inl (cI, 8001, .inl ((sp_Mo_gone (zushr (rg 10) 16) (nI gr) zf of).2)))] _ := hP
                    have hD : va_D A [(re, .inl (cI, 32, .inl (rg))), (ro, .inl (cB, 90000, .inl (rf))), (aa, .inl (cI, 8001, .inl (af))), (la, .inl (cI, 8001, .inl (lf))), (ip, .inl (cB, 1000, .inl (jf))), (oq, .inl (cB, 4096, .inl (qf))), (cp, .inl (cB, 4000, .inl (cf))), (m0, .inr (3, [.ref mk, .ref mt, .int kd, .ref wo, .int wn, .ref re, .int pc, .int sta, .int dn, .int th, .ref ro, .ref aa, .ref si, .ref so, .ref la, .int (nI gd), .int (nI gl), .int (nI gt), .int ((sp_Mo_gone (zushr (rg 10) 16) (nI gr) zf of).1), .ref ip, .ref oq, .ref cp, .int (nI gi), .int (nI go)])), (si, .inl (cI, 8001, .inl (zf))), (so, .inl (cI, 8001, .inl ((sp_Mo_gone (zushr (rg 10) 16) (nI gr) zf of).2)))] := hD
                    rw [show (((sp_Mo_gone (zushr (rg 10) 16) (nI gr) zf of).1) : Int32) = nI (gr - up4 zz) from by rw [z_u16, sp_gone hR e1]] at hP hD
                    have hP : va_P D zC [(re, .inl (cI, 32, .inl (rg))), (ro, .inl (cB, 90000, .inl (rf))), (aa, .inl (cI, 8001, .inl (af))), (la, .inl (cI, 8001, .inl (lf))), (ip, .inl (cB, 1000, .inl (jf))), (oq, .inl (cB, 4096, .inl (qf))), (cp, .inl (cB, 4000, .inl (cf))), (m0, .inr (3, [.ref mk, .ref mt, .int kd, .ref wo, .int wn, .ref re, .int pc, .int sta, .int dn, .int th, .ref ro, .ref aa, .ref si, .ref so, .ref la, .int (nI gd), .int (nI gl), .int (nI gt), .int (nI (gr - up4 zz)), .ref ip, .ref oq, .ref cp, .int (nI gi), .int (nI go)])), (si, .inl (cI, 8001, .inl (zf))), (so, .inl (cI, 8001, .inl ((sp_Mo_gone (zushr (rg 10) 16) (nI gr) zf of).2)))] _ := hP
                    have hD : va_D A [(re, .inl (cI, 32, .inl (rg))), (ro, .inl (cB, 90000, .inl (rf))), (aa, .inl (cI, 8001, .inl (af))), (la, .inl (cI, 8001, .inl (lf))), (ip, .inl (cB, 1000, .inl (jf))), (oq, .inl (cB, 4096, .inl (qf))), (cp, .inl (cB, 4000, .inl (cf))), (m0, .inr (3, [.ref mk, .ref mt, .int kd, .ref wo, .int wn, .ref re, .int pc, .int sta, .int dn, .int th, .ref ro, .ref aa, .ref si, .ref so, .ref la, .int (nI gd), .int (nI gl), .int (nI gt), .int (nI (gr - up4 zz)), .ref ip, .ref oq, .ref cp, .int (nI gi), .int (nI go)])), (si, .inl (cI, 8001, .inl (zf))), (so, .inl (cI, 8001, .inl ((sp_Mo_gone (zushr (rg 10) 16) (nI gr) zf of).2)))] := hD
                    rw [show (((sp_Mo_gone (zushr (rg 10) 16) (nI gr) zf of).2) : Nat → Int32) = upd of (zN (rg 10) / 65536) 0 from by rw [z_u16, sp_gone hR e1]] at hP hD
                    have hP : va_P D zC [(re, .inl (cI, 32, .inl (rg))), (ro, .inl (cB, 90000, .inl (rf))), (aa, .inl (cI, 8001, .inl (af))), (la, .inl (cI, 8001, .inl (lf))), (ip, .inl (cB, 1000, .inl (jf))), (oq, .inl (cB, 4096, .inl (qf))), (cp, .inl (cB, 4000, .inl (cf))), (m0, .inr (3, [.ref mk, .ref mt, .int kd, .ref wo, .int wn, .ref re, .int pc, .int sta, .int dn, .int th, .ref ro, .ref aa, .ref si, .ref so, .ref la, .int (nI gd), .int (nI gl), .int (nI gt), .int (nI (gr - up4 zz)), .ref ip, .ref oq, .ref cp, .int (nI gi), .int (nI go)])), (si, .inl (cI, 8001, .inl (zf))), (so, .inl (cI, 8001, .inl (upd of (zN (rg 10) / 65536) 0)))] _ := hP
                    have hD : va_D A [(re, .inl (cI, 32, .inl (rg))), (ro, .inl (cB, 90000, .inl (rf))), (aa, .inl (cI, 8001, .inl (af))), (la, .inl (cI, 8001, .inl (lf))), (ip, .inl (cB, 1000, .inl (jf))), (oq, .inl (cB, 4096, .inl (qf))), (cp, .inl (cB, 4000, .inl (cf))), (m0, .inr (3, [.ref mk, .ref mt, .int kd, .ref wo, .int wn, .ref re, .int pc, .int sta, .int dn, .int th, .ref ro, .ref aa, .ref si, .ref so, .ref la, .int (nI gd), .int (nI gl), .int (nI gt), .int (nI (gr - up4 zz)), .ref ip, .ref oq, .ref cp, .int (nI gi), .int (nI go)])), (si, .inl (cI, 8001, .inl (zf))), (so, .inl (cI, 8001, .inl (upd of (zN (rg 10) / 65536) 0)))] := hD
                    have hR := rRep_given hR e1 e2
                    refine lv_goto (tgt := 533) hx hb d_Mo_service_286 (by decide) ?_
                    refine lv_aload_n hx hb d_Mo_service_533 rfl (lv_at hl 4 rfl) ?_
                    refine lv_dup hx hb d_Mo_service_534 rfl ?_
                    refine zget hE hK hP 7 rfl fd_Mo_104 rfl d_Mo_service_535 ?_
                    refine lv_iconst (v := 4) hx hb d_Mo_service_538 (by decide) ?_
                    refine lv_iadd hx hb d_Mo_service_539 ?_
                    refine zput (v := .int (pc + 4)) hE hK hP hD hS 7 rfl fd_Mo_104 ft_Mo_6 rfl rfl (Nat.le_of_ble_eq_true rfl) d_Mo_service_540 (fun H locs hP hD hS => ?_)
                    have hP : va_P D zC [(re, .inl (cI, 32, .inl (rg))), (ro, .inl (cB, 90000, .inl (rf))), (aa, .inl (cI, 8001, .inl (af))), (la, .inl (cI, 8001, .inl (lf))), (ip, .inl (cB, 1000, .inl (jf))), (oq, .inl (cB, 4096, .inl (qf))), (cp, .inl (cB, 4000, .inl (cf))), (m0, .inr (3, [.ref mk, .ref mt, .int kd, .ref wo, .int wn, .ref re, .int (pc + 4), .int sta, .int dn, .int th, .ref ro, .ref aa, .ref si, .ref so, .ref la, .int (nI gd), .int (nI gl), .int (nI gt), .int (nI (gr - up4 zz)), .ref ip, .ref oq, .ref cp, .int (nI gi), .int (nI go)])), (si, .inl (cI, 8001, .inl (zf))), (so, .inl (cI, 8001, .inl (upd of (zN (rg 10) / 65536) 0)))] _ := hP
                    have hD : va_D A [(re, .inl (cI, 32, .inl (rg))), (ro, .inl (cB, 90000, .inl (rf))), (aa, .inl (cI, 8001, .inl (af))), (la, .inl (cI, 8001, .inl (lf))), (ip, .inl (cB, 1000, .inl (jf))), (oq, .inl (cB, 4096, .inl (qf))), (cp, .inl (cB, 4000, .inl (cf))), (m0, .inr (3, [.ref mk, .ref mt, .int kd, .ref wo, .int wn, .ref re, .int (pc + 4), .int sta, .int dn, .int th, .ref ro, .ref aa, .ref si, .ref so, .ref la, .int (nI gd), .int (nI gl), .int (nI gt), .int (nI (gr - up4 zz)), .ref ip, .ref oq, .ref cp, .int (nI gi), .int (nI go)])), (si, .inl (cI, 8001, .inl (zf))), (so, .inl (cI, 8001, .inl (upd of (zN (rg 10) / 65536) 0)))] := hD
                    have hs : xServe rg M I O sta = (0, rg, mGone M (zN (rg 10) / 65536), I, O, sta) := by unfold xServe; (rw [if_neg h1, if_neg h2, if_neg h13, if_neg h26, if_pos h35, if_neg h36, hdg]) <;> rfl
                    have ypc : sPc rg M I O sta pc = pc + 4 := by unfold sPc; rw [hs]; exact (if_pos rfl).trans (if_neg h1)
                    have yst : sSt rg M I O sta = sta := by unfold sSt; rw [hs]; exact if_pos rfl
                    have hP9 := hP.sub (ws' := [(m0, .inr (3, [.ref mk, .ref mt, .int kd, .ref wo, .int wn, .ref re, .int (pc + 4), .int sta, .int dn, .int th, .ref ro, .ref aa, .ref si, .ref so, .ref la, .int (nI gd), .int (nI gl), .int (nI gt), .int (nI (gr - up4 zz)), .ref ip, .ref oq, .ref cp, .int (nI gi), .int (nI go)])), (re, .inl (cI, 32, .inl (rg))), (ro, .inl (cB, 90000, .inl (rf))), (aa, .inl (cI, 8001, .inl (af))), (si, .inl (cI, 8001, .inl (zf))), (so, .inl (cI, 8001, .inl (upd of (zN (rg 10) / 65536) 0))), (la, .inl (cI, 8001, .inl (lf))), (ip, .inl (cB, 1000, .inl (jf))), (oq, .inl (cB, 4096, .inl (qf))), (cp, .inl (cB, 4000, .inl (cf)))]) [7, 0, 1, 2, 8, 9, 3, 4, 5, 6] rfl
                    have hD9 := hD.sub (ws' := [(m0, .inr (3, [.ref mk, .ref mt, .int kd, .ref wo, .int wn, .ref re, .int (pc + 4), .int sta, .int dn, .int th, .ref ro, .ref aa, .ref si, .ref so, .ref la, .int (nI gd), .int (nI gl), .int (nI gt), .int (nI (gr - up4 zz)), .ref ip, .ref oq, .ref cp, .int (nI gi), .int (nI go)])), (re, .inl (cI, 32, .inl (rg))), (ro, .inl (cB, 90000, .inl (rf))), (aa, .inl (cI, 8001, .inl (af))), (si, .inl (cI, 8001, .inl (zf))), (so, .inl (cI, 8001, .inl (upd of (zN (rg 10) / 65536) 0))), (la, .inl (cI, 8001, .inl (lf))), (ip, .inl (cB, 1000, .inl (jf))), (oq, .inl (cB, 4096, .inl (qf))), (cp, .inl (cB, 4000, .inl (cf)))]) [7, 0, 1, 2, 8, 9, 3, 4, 5, 6] rfl rfl
                    exact zretv hx hb hr hlocks hS ((gd, gl, gt, (gr - up4 zz), gi, go), (af, zf, upd of (zN (rg 10) / 65536) 0, lf, rf, jf, qf, cf)) (by rw [hs]; exact ⟨hR, hI0, hO⟩) rfl (by rw [ypc, yst, hs]; exact hP9) (by rw [ypc, yst, hs]; exact hD9) d_Mo_service_543
                  · have hdg := dg_none hR (Or.inr (Or.inr h45))
                    refine lv_aload_n hx hb d_Mo_service_274 rfl (lv_at hl 4 rfl) ?_
                    refine lv_iconst (v := 4) hx hb d_Mo_service_275 (by decide) ?_
                    refine zgov (wr := [(re, .inl (cI, 32, .inl (rg))), (ro, .inl (cB, 90000, .inl (rf))), (aa, .inl (cI, 8001, .inl (af))), (si, .inl (cI, 8001, .inl (zf))), (so, .inl (cI, 8001, .inl (of))), (la, .inl (cI, 8001, .inl (lf))), (ip, .inl (cB, 1000, .inl (jf))), (oq, .inl (cB, 4096, .inl (qf))), (cp, .inl (cB, 4000, .inl (cf)))]) (zrunV (n := 1) (As := [.int 4]) (rest := []) hE (c_Mo_trap l D cI cB cJ _ 4 m0 mk mt kd wo wn re pc sta dn th ro aa si so la (nI gd) (nI gl) (nI gt) (nI gr) ip oq cp (nI gi) (nI go)) cb_Mo_trap lk_Mo_100 in_Mo_trap se_Mo_trap (zpreV (q0 := 0) hK hP hD rfl rfl rfl [0] rfl rfl rfl) ⟨Nat.le_of_ble_eq_true rfl, Nat.le_of_ble_eq_true rfl, Nat.le_of_ble_eq_true rfl, Nat.le_of_ble_eq_true rfl⟩ rfl hl.1 rfl (Nat.le_of_ble_eq_true rfl) d_Mo_service_276) hP hD hS hA [0] [1, 2, 3, 4, 5, 6, 7, 8, 9] rfl rfl rfl (by decide) (fun u51 H locs hq49 hP hD hS => ?_)
                    clear hq49
                    have hP : va_P D zC [(re, .inl (cI, 32, .inl (rg))), (ro, .inl (cB, 90000, .inl (rf))), (aa, .inl (cI, 8001, .inl (af))), (si, .inl (cI, 8001, .inl (zf))), (so, .inl (cI, 8001, .inl (of))), (la, .inl (cI, 8001, .inl (lf))), (ip, .inl (cB, 1000, .inl (jf))), (oq, .inl (cB, 4096, .inl (qf))), (cp, .inl (cB, 4000, .inl (cf))), (m0, .inr (3, [.ref mk, .ref mt, .int kd, .ref wo, .int wn, .ref re, .int pc, .int ((sp_Mo_trap 4)), .int dn, .int th, .ref ro, .ref aa, .ref si, .ref so, .ref la, .int (nI gd), .int (nI gl), .int (nI gt), .int (nI gr), .ref ip, .ref oq, .ref cp, .int (nI gi), .int (nI go)]))] _ := hP
                    have hD : va_D A [(re, .inl (cI, 32, .inl (rg))), (ro, .inl (cB, 90000, .inl (rf))), (aa, .inl (cI, 8001, .inl (af))), (si, .inl (cI, 8001, .inl (zf))), (so, .inl (cI, 8001, .inl (of))), (la, .inl (cI, 8001, .inl (lf))), (ip, .inl (cB, 1000, .inl (jf))), (oq, .inl (cB, 4096, .inl (qf))), (cp, .inl (cB, 4000, .inl (cf))), (m0, .inr (3, [.ref mk, .ref mt, .int kd, .ref wo, .int wn, .ref re, .int pc, .int ((sp_Mo_trap 4)), .int dn, .int th, .ref ro, .ref aa, .ref si, .ref so, .ref la, .int (nI gd), .int (nI gl), .int (nI gt), .int (nI gr), .ref ip, .ref oq, .ref cp, .int (nI gi), .int (nI go)]))] := hD
                    have hs : xServe rg M I O sta = (4, rg, M, I, O, sta) := by unfold xServe; (rw [if_neg h1, if_neg h2, if_neg h13, if_neg h26, if_pos h35, if_neg h36, hdg]) <;> rfl
                    have ypc : sPc rg M I O sta pc = pc := by unfold sPc; rw [hs]; exact if_neg (show ¬ ((4) : Int32) = 0 by decide)
                    have yst : sSt rg M I O sta = (sp_Mo_trap 4) := by unfold sSt; rw [hs]; exact if_neg (show ¬ ((4) : Int32) = 0 by decide)
                    have hP9 := hP.sub (ws' := [(m0, .inr (3, [.ref mk, .ref mt, .int kd, .ref wo, .int wn, .ref re, .int pc, .int ((sp_Mo_trap 4)), .int dn, .int th, .ref ro, .ref aa, .ref si, .ref so, .ref la, .int (nI gd), .int (nI gl), .int (nI gt), .int (nI gr), .ref ip, .ref oq, .ref cp, .int (nI gi), .int (nI go)])), (re, .inl (cI, 32, .inl (rg))), (ro, .inl (cB, 90000, .inl (rf))), (aa, .inl (cI, 8001, .inl (af))), (si, .inl (cI, 8001, .inl (zf))), (so, .inl (cI, 8001, .inl (of))), (la, .inl (cI, 8001, .inl (lf))), (ip, .inl (cB, 1000, .inl (jf))), (oq, .inl (cB, 4096, .inl (qf))), (cp, .inl (cB, 4000, .inl (cf)))]) [9, 0, 1, 2, 3, 4, 5, 6, 7, 8] rfl
                    have hD9 := hD.sub (ws' := [(m0, .inr (3, [.ref mk, .ref mt, .int kd, .ref wo, .int wn, .ref re, .int pc, .int ((sp_Mo_trap 4)), .int dn, .int th, .ref ro, .ref aa, .ref si, .ref so, .ref la, .int (nI gd), .int (nI gl), .int (nI gt), .int (nI gr), .ref ip, .ref oq, .ref cp, .int (nI gi), .int (nI go)])), (re, .inl (cI, 32, .inl (rg))), (ro, .inl (cB, 90000, .inl (rf))), (aa, .inl (cI, 8001, .inl (af))), (si, .inl (cI, 8001, .inl (zf))), (so, .inl (cI, 8001, .inl (of))), (la, .inl (cI, 8001, .inl (lf))), (ip, .inl (cB, 1000, .inl (jf))), (oq, .inl (cB, 4096, .inl (qf))), (cp, .inl (cB, 4000, .inl (cf)))]) [9, 0, 1, 2, 3, 4, 5, 6, 7, 8] rfl rfl
                    exact zretv hx hb hr hlocks hS ((gd, gl, gt, gr, gi, go), (af, zf, of, lf, rf, jf, qf, cf)) (by rw [hs]; exact ⟨hR, hI0, hO⟩) rfl (by rw [ypc, yst, hs]; exact hP9) (by rw [ypc, yst, hs]; exact hD9) d_Mo_service_279
          · rcases Decidable.em ((rg 17) = 5) with h52 | h52
            · refine lv_tableIn (tgt := 289) hx hb d_Mo_service_31 (by rw [h52]; decide) (by rw [h52]; decide) (by rw [h52]; rfl) (by decide) ?_
              refine lv_aload_n hx hb d_Mo_service_289 rfl (lv_at hl 3 rfl) ?_
              refine zget hE hK hP 0 rfl fd_Mo_171 rfl d_Mo_service_290 ?_
              refine lv_sipush (v := 4096) hx hb d_Mo_service_293 (by decide) ?_
              refine lv_icmp_ge (tgt := 533) hx hb d_Mo_service_296 (by decide) (fun h53 => ?_) (fun h53 => ?_)
              · refine lv_aload_n hx hb d_Mo_service_533 rfl (lv_at hl 3 rfl) ?_
                refine lv_dup hx hb d_Mo_service_534 rfl ?_
                refine zget hE hK hP 0 rfl fd_Mo_104 rfl d_Mo_service_535 ?_
                refine lv_iconst (v := 4) hx hb d_Mo_service_538 (by decide) ?_
                refine lv_iadd hx hb d_Mo_service_539 ?_
                refine zput (v := .int (pc + 4)) hE hK hP hD hS 0 rfl fd_Mo_104 ft_Mo_6 rfl rfl (Nat.le_of_ble_eq_true rfl) d_Mo_service_540 (fun H locs hP hD hS => ?_)
                have hP : va_P D zC [(m0, .inr (3, [.ref mk, .ref mt, .int kd, .ref wo, .int wn, .ref re, .int (pc + 4), .int sta, .int dn, .int th, .ref ro, .ref aa, .ref si, .ref so, .ref la, .int (nI gd), .int (nI gl), .int (nI gt), .int (nI gr), .ref ip, .ref oq, .ref cp, .int (nI gi), .int (nI go)])), (re, .inl (cI, 32, .inl (rg))), (ro, .inl (cB, 90000, .inl (rf))), (aa, .inl (cI, 8001, .inl (af))), (si, .inl (cI, 8001, .inl (zf))), (so, .inl (cI, 8001, .inl (of))), (la, .inl (cI, 8001, .inl (lf))), (ip, .inl (cB, 1000, .inl (jf))), (oq, .inl (cB, 4096, .inl (qf))), (cp, .inl (cB, 4000, .inl (cf)))] _ := hP
                have hD : va_D A [(m0, .inr (3, [.ref mk, .ref mt, .int kd, .ref wo, .int wn, .ref re, .int (pc + 4), .int sta, .int dn, .int th, .ref ro, .ref aa, .ref si, .ref so, .ref la, .int (nI gd), .int (nI gl), .int (nI gt), .int (nI gr), .ref ip, .ref oq, .ref cp, .int (nI gi), .int (nI go)])), (re, .inl (cI, 32, .inl (rg))), (ro, .inl (cB, 90000, .inl (rf))), (aa, .inl (cI, 8001, .inl (af))), (si, .inl (cI, 8001, .inl (zf))), (so, .inl (cI, 8001, .inl (of))), (la, .inl (cI, 8001, .inl (lf))), (ip, .inl (cB, 1000, .inl (jf))), (oq, .inl (cB, 4096, .inl (qf))), (cp, .inl (cB, 4000, .inl (cf)))] := hD
                have hs : xServe rg M I O sta = (0, rg, M, I, O, sta) := by unfold xServe; (rw [if_neg h1, if_neg h2, if_neg h13, if_neg h26, if_neg h35, if_pos h52, bAdd_full hO (z_le' (a := 4096) (by omega) h53) (rg 10)]) <;> rfl
                have ypc : sPc rg M I O sta pc = pc + 4 := by unfold sPc; rw [hs]; exact (if_pos rfl).trans (if_neg h1)
                have yst : sSt rg M I O sta = sta := by unfold sSt; rw [hs]; exact if_pos rfl
                have hP9 := hP.sub (ws' := [(m0, .inr (3, [.ref mk, .ref mt, .int kd, .ref wo, .int wn, .ref re, .int (pc + 4), .int sta, .int dn, .int th, .ref ro, .ref aa, .ref si, .ref so, .ref la, .int (nI gd), .int (nI gl), .int (nI gt), .int (nI gr), .ref ip, .ref oq, .ref cp, .int (nI gi), .int (nI go)])), (re, .inl (cI, 32, .inl (rg))), (ro, .inl (cB, 90000, .inl (rf))), (aa, .inl (cI, 8001, .inl (af))), (si, .inl (cI, 8001, .inl (zf))), (so, .inl (cI, 8001, .inl (of))), (la, .inl (cI, 8001, .inl (lf))), (ip, .inl (cB, 1000, .inl (jf))), (oq, .inl (cB, 4096, .inl (qf))), (cp, .inl (cB, 4000, .inl (cf)))]) [0, 1, 2, 3, 4, 5, 6, 7, 8, 9] rfl
                have hD9 := hD.sub (ws' := [(m0, .inr (3, [.ref mk, .ref mt, .int kd, .ref wo, .int wn, .ref re, .int (pc + 4), .int sta, .int dn, .int th, .ref ro, .ref aa, .ref si, .ref so, .ref la, .int (nI gd), .int (nI gl), .int (nI gt), .int (nI gr), .ref ip, .ref oq, .ref cp, .int (nI gi), .int (nI go)])), (re, .inl (cI, 32, .inl (rg))), (ro, .inl (cB, 90000, .inl (rf))), (aa, .inl (cI, 8001, .inl (af))), (si, .inl (cI, 8001, .inl (zf))), (so, .inl (cI, 8001, .inl (of))), (la, .inl (cI, 8001, .inl (lf))), (ip, .inl (cB, 1000, .inl (jf))), (oq, .inl (cB, 4096, .inl (qf))), (cp, .inl (cB, 4000, .inl (cf)))]) [0, 1, 2, 3, 4, 5, 6, 7, 8, 9] rfl rfl
                exact zretv hx hb hr hlocks hS ((gd, gl, gt, gr, gi, go), (af, zf, of, lf, rf, jf, qf, cf)) (by rw [hs]; exact ⟨hR, hI0, hO⟩) rfl (by rw [ypc, yst, hs]; exact hP9) (by rw [ypc, yst, hs]; exact hD9) d_Mo_service_543
              · have hgl4 : go < 4096 := z_nle' (a := 4096) (by omega) h53
                refine lv_aload_n hx hb d_Mo_service_299 rfl (lv_at hl 3 rfl) ?_
                refine zget hE hK hP 0 rfl fd_Mo_42 rfl d_Mo_service_300 ?_
                refine lv_aload_n hx hb d_Mo_service_303 rfl (lv_at hl 3 rfl) ?_
                refine zget hE hK hP 0 rfl fd_Mo_171 rfl d_Mo_service_304 ?_
                refine lv_iload_n hx hb d_Mo_service_307 rfl (lv_at hl 2 rfl) ?_
                refine lv_i2b (v := (rg 10 : Int32).toInt8.toInt32) hx hb d_Mo_service_308 rfl ?_
                refine va_bast hx hb hK hP hD hS 8 1 rfl rfl (vp_in_nI (by omega) (by omega)) d_Mo_service_309 (fun H locs hP hD hS => ?_)
                have hP : va_P D zC [(m0, .inr (3, [.ref mk, .ref mt, .int kd, .ref wo, .int wn, .ref re, .int pc, .int sta, .int dn, .int th, .ref ro, .ref aa, .ref si, .ref so, .ref la, .int (nI gd), .int (nI gl), .int (nI gt), .int (nI gr), .ref ip, .ref oq, .ref cp, .int (nI gi), .int (nI go)])), (re, .inl (cI, 32, .inl (rg))), (ro, .inl (cB, 90000, .inl (rf))), (aa, .inl (cI, 8001, .inl (af))), (si, .inl (cI, 8001, .inl (zf))), (so, .inl (cI, 8001, .inl (of))), (la, .inl (cI, 8001, .inl (lf))), (ip, .inl (cB, 1000, .inl (jf))), (oq, .inl (cB, 4096, .inl (upd qf (nI go).toNatClampNeg (vp_nar .byte ((rg 10 : Int32).toInt8.toInt32))))), (cp, .inl (cB, 4000, .inl (cf)))] _ := hP
                have hD : va_D A [(m0, .inr (3, [.ref mk, .ref mt, .int kd, .ref wo, .int wn, .ref re, .int pc, .int sta, .int dn, .int th, .ref ro, .ref aa, .ref si, .ref so, .ref la, .int (nI gd), .int (nI gl), .int (nI gt), .int (nI gr), .ref ip, .ref oq, .ref cp, .int (nI gi), .int (nI go)])), (re, .inl (cI, 32, .inl (rg))), (ro, .inl (cB, 90000, .inl (rf))), (aa, .inl (cI, 8001, .inl (af))), (si, .inl (cI, 8001, .inl (zf))), (so, .inl (cI, 8001, .inl (of))), (la, .inl (cI, 8001, .inl (lf))), (ip, .inl (cB, 1000, .inl (jf))), (oq, .inl (cB, 4096, .inl (upd qf (nI go).toNatClampNeg (vp_nar .byte ((rg 10 : Int32).toInt8.toInt32))))), (cp, .inl (cB, 4000, .inl (cf)))] := hD
                rw [show ((upd qf (nI go).toNatClampNeg (vp_nar .byte ((rg 10 : Int32).toInt8.toInt32))) : Nat → Int32) = upd qf go ((rg 10 : Int32).toInt8.toInt32) from by rw [nI_clamp (by omega), pk_vb]] at hP hD
                have hP : va_P D zC [(m0, .inr (3, [.ref mk, .ref mt, .int kd, .ref wo, .int wn, .ref re, .int pc, .int sta, .int dn, .int th, .ref ro, .ref aa, .ref si, .ref so, .ref la, .int (nI gd), .int (nI gl), .int (nI gt), .int (nI gr), .ref ip, .ref oq, .ref cp, .int (nI gi), .int (nI go)])), (re, .inl (cI, 32, .inl (rg))), (ro, .inl (cB, 90000, .inl (rf))), (aa, .inl (cI, 8001, .inl (af))), (si, .inl (cI, 8001, .inl (zf))), (so, .inl (cI, 8001, .inl (of))), (la, .inl (cI, 8001, .inl (lf))), (ip, .inl (cB, 1000, .inl (jf))), (oq, .inl (cB, 4096, .inl (upd qf go ((rg 10 : Int32).toInt8.toInt32)))), (cp, .inl (cB, 4000, .inl (cf)))] _ := hP
                have hD : va_D A [(m0, .inr (3, [.ref mk, .ref mt, .int kd, .ref wo, .int wn, .ref re, .int pc, .int sta, .int dn, .int th, .ref ro, .ref aa, .ref si, .ref so, .ref la, .int (nI gd), .int (nI gl), .int (nI gt), .int (nI gr), .ref ip, .ref oq, .ref cp, .int (nI gi), .int (nI go)])), (re, .inl (cI, 32, .inl (rg))), (ro, .inl (cB, 90000, .inl (rf))), (aa, .inl (cI, 8001, .inl (af))), (si, .inl (cI, 8001, .inl (zf))), (so, .inl (cI, 8001, .inl (of))), (la, .inl (cI, 8001, .inl (lf))), (ip, .inl (cB, 1000, .inl (jf))), (oq, .inl (cB, 4096, .inl (upd qf go ((rg 10 : Int32).toInt8.toInt32)))), (cp, .inl (cB, 4000, .inl (cf)))] := hD
                refine lv_aload_n hx hb d_Mo_service_310 rfl (lv_at hl 3 rfl) ?_
                refine lv_dup hx hb d_Mo_service_311 rfl ?_
                refine zget hE hK hP 0 rfl fd_Mo_171 rfl d_Mo_service_312 ?_
                refine lv_iconst (v := 1) hx hb d_Mo_service_315 (by decide) ?_
                refine lv_iadd hx hb d_Mo_service_316 ?_
                refine z_st (st' := [.int (nI (go + 1)), .ref m0]) (by rw [show (((nI go) + 1) : Int32) = nI (go + 1) from nI_1 go]) ?_
                refine zput (v := .int (nI (go + 1))) hE hK hP hD hS 0 rfl fd_Mo_171 ft_Mo_23 rfl rfl (Nat.le_of_ble_eq_true rfl) d_Mo_service_317 (fun H locs hP hD hS => ?_)
                have hP : va_P D zC [(m0, .inr (3, [.ref mk, .ref mt, .int kd, .ref wo, .int wn, .ref re, .int pc, .int sta, .int dn, .int th, .ref ro, .ref aa, .ref si, .ref so, .ref la, .int (nI gd), .int (nI gl), .int (nI gt), .int (nI gr), .ref ip, .ref oq, .ref cp, .int (nI gi), .int (nI (go + 1))])), (re, .inl (cI, 32, .inl (rg))), (ro, .inl (cB, 90000, .inl (rf))), (aa, .inl (cI, 8001, .inl (af))), (si, .inl (cI, 8001, .inl (zf))), (so, .inl (cI, 8001, .inl (of))), (la, .inl (cI, 8001, .inl (lf))), (ip, .inl (cB, 1000, .inl (jf))), (oq, .inl (cB, 4096, .inl (upd qf go ((rg 10 : Int32).toInt8.toInt32)))), (cp, .inl (cB, 4000, .inl (cf)))] _ := hP
                have hD : va_D A [(m0, .inr (3, [.ref mk, .ref mt, .int kd, .ref wo, .int wn, .ref re, .int pc, .int sta, .int dn, .int th, .ref ro, .ref aa, .ref si, .ref so, .ref la, .int (nI gd), .int (nI gl), .int (nI gt), .int (nI gr), .ref ip, .ref oq, .ref cp, .int (nI gi), .int (nI (go + 1))])), (re, .inl (cI, 32, .inl (rg))), (ro, .inl (cB, 90000, .inl (rf))), (aa, .inl (cI, 8001, .inl (af))), (si, .inl (cI, 8001, .inl (zf))), (so, .inl (cI, 8001, .inl (of))), (la, .inl (cI, 8001, .inl (lf))), (ip, .inl (cB, 1000, .inl (jf))), (oq, .inl (cB, 4096, .inl (upd qf go ((rg 10 : Int32).toInt8.toInt32)))), (cp, .inl (cB, 4000, .inl (cf)))] := hD
                have hO := jR_add hO hgl4 (rg 10)
                refine lv_goto (tgt := 533) hx hb d_Mo_service_320 (by decide) ?_
                refine lv_aload_n hx hb d_Mo_service_533 rfl (lv_at hl 3 rfl) ?_
                refine lv_dup hx hb d_Mo_service_534 rfl ?_
                refine zget hE hK hP 0 rfl fd_Mo_104 rfl d_Mo_service_535 ?_
                refine lv_iconst (v := 4) hx hb d_Mo_service_538 (by decide) ?_
                refine lv_iadd hx hb d_Mo_service_539 ?_
                refine zput (v := .int (pc + 4)) hE hK hP hD hS 0 rfl fd_Mo_104 ft_Mo_6 rfl rfl (Nat.le_of_ble_eq_true rfl) d_Mo_service_540 (fun H locs hP hD hS => ?_)
                have hP : va_P D zC [(m0, .inr (3, [.ref mk, .ref mt, .int kd, .ref wo, .int wn, .ref re, .int (pc + 4), .int sta, .int dn, .int th, .ref ro, .ref aa, .ref si, .ref so, .ref la, .int (nI gd), .int (nI gl), .int (nI gt), .int (nI gr), .ref ip, .ref oq, .ref cp, .int (nI gi), .int (nI (go + 1))])), (re, .inl (cI, 32, .inl (rg))), (ro, .inl (cB, 90000, .inl (rf))), (aa, .inl (cI, 8001, .inl (af))), (si, .inl (cI, 8001, .inl (zf))), (so, .inl (cI, 8001, .inl (of))), (la, .inl (cI, 8001, .inl (lf))), (ip, .inl (cB, 1000, .inl (jf))), (oq, .inl (cB, 4096, .inl (upd qf go ((rg 10 : Int32).toInt8.toInt32)))), (cp, .inl (cB, 4000, .inl (cf)))] _ := hP
                have hD : va_D A [(m0, .inr (3, [.ref mk, .ref mt, .int kd, .ref wo, .int wn, .ref re, .int (pc + 4), .int sta, .int dn, .int th, .ref ro, .ref aa, .ref si, .ref so, .ref la, .int (nI gd), .int (nI gl), .int (nI gt), .int (nI gr), .ref ip, .ref oq, .ref cp, .int (nI gi), .int (nI (go + 1))])), (re, .inl (cI, 32, .inl (rg))), (ro, .inl (cB, 90000, .inl (rf))), (aa, .inl (cI, 8001, .inl (af))), (si, .inl (cI, 8001, .inl (zf))), (so, .inl (cI, 8001, .inl (of))), (la, .inl (cI, 8001, .inl (lf))), (ip, .inl (cB, 1000, .inl (jf))), (oq, .inl (cB, 4096, .inl (upd qf go ((rg 10 : Int32).toInt8.toInt32)))), (cp, .inl (cB, 4000, .inl (cf)))] := hD
                have hs : xServe rg M I O sta = (0, rg, M, I, bAdd 4096 O (rg 10), sta) := by unfold xServe; (rw [if_neg h1, if_neg h2, if_neg h13, if_neg h26, if_neg h35, if_pos h52]) <;> rfl
                have ypc : sPc rg M I O sta pc = pc + 4 := by unfold sPc; rw [hs]; exact (if_pos rfl).trans (if_neg h1)
                have yst : sSt rg M I O sta = sta := by unfold sSt; rw [hs]; exact if_pos rfl
                have hP9 := hP.sub (ws' := [(m0, .inr (3, [.ref mk, .ref mt, .int kd, .ref wo, .int wn, .ref re, .int (pc + 4), .int sta, .int dn, .int th, .ref ro, .ref aa, .ref si, .ref so, .ref la, .int (nI gd), .int (nI gl), .int (nI gt), .int (nI gr), .ref ip, .ref oq, .ref cp, .int (nI gi), .int (nI (go + 1))])), (re, .inl (cI, 32, .inl (rg))), (ro, .inl (cB, 90000, .inl (rf))), (aa, .inl (cI, 8001, .inl (af))), (si, .inl (cI, 8001, .inl (zf))), (so, .inl (cI, 8001, .inl (of))), (la, .inl (cI, 8001, .inl (lf))), (ip, .inl (cB, 1000, .inl (jf))), (oq, .inl (cB, 4096, .inl (upd qf go ((rg 10 : Int32).toInt8.toInt32)))), (cp, .inl (cB, 4000, .inl (cf)))]) [0, 1, 2, 3, 4, 5, 6, 7, 8, 9] rfl
                have hD9 := hD.sub (ws' := [(m0, .inr (3, [.ref mk, .ref mt, .int kd, .ref wo, .int wn, .ref re, .int (pc + 4), .int sta, .int dn, .int th, .ref ro, .ref aa, .ref si, .ref so, .ref la, .int (nI gd), .int (nI gl), .int (nI gt), .int (nI gr), .ref ip, .ref oq, .ref cp, .int (nI gi), .int (nI (go + 1))])), (re, .inl (cI, 32, .inl (rg))), (ro, .inl (cB, 90000, .inl (rf))), (aa, .inl (cI, 8001, .inl (af))), (si, .inl (cI, 8001, .inl (zf))), (so, .inl (cI, 8001, .inl (of))), (la, .inl (cI, 8001, .inl (lf))), (ip, .inl (cB, 1000, .inl (jf))), (oq, .inl (cB, 4096, .inl (upd qf go ((rg 10 : Int32).toInt8.toInt32)))), (cp, .inl (cB, 4000, .inl (cf)))]) [0, 1, 2, 3, 4, 5, 6, 7, 8, 9] rfl rfl
                exact zretv hx hb hr hlocks hS ((gd, gl, gt, gr, gi, (go + 1)), (af, zf, of, lf, rf, jf, upd qf go ((rg 10 : Int32).toInt8.toInt32), cf)) (by rw [hs]; exact ⟨hR, hI0, hO⟩) rfl (by rw [ypc, yst, hs]; exact hP9) (by rw [ypc, yst, hs]; exact hD9) d_Mo_service_543
            · rcases Decidable.em ((rg 17) = 6) with h54 | h54
              · refine lv_tableIn (tgt := 323) hx hb d_Mo_service_31 (by rw [h54]; decide) (by rw [h54]; decide) (by rw [h54]; rfl) (by decide) ?_
                refine lv_aload_n hx hb d_Mo_service_323 rfl (lv_at hl 3 rfl) ?_
                refine zget hE hK hP 0 rfl fd_Mo_174 rfl d_Mo_service_324 ?_
                refine lv_if_ne (tgt := 341) hx hb d_Mo_service_327 (by decide) (fun h55 => ?_) (fun h55 => ?_)
                · have hg0 : 0 < gi := Nat.pos_of_ne_zero (z_n0 h55)
                  have hrm := rem_s hI0 hg0
                  refine lv_aload_n hx hb d_Mo_service_341 rfl (lv_at hl 3 rfl) ?_
                  refine zget hE hK hP 0 rfl fd_Mo_19 rfl d_Mo_service_342 ?_
                  refine lv_bipush (v := 10) hx hb d_Mo_service_345 (by decide) ?_
                  refine lv_aload_n hx hb d_Mo_service_347 rfl (lv_at hl 3 rfl) ?_
                  refine zget hE hK hP 0 rfl fd_Mo_39 rfl d_Mo_service_348 ?_
                  refine lv_iconst (v := 0) hx hb d_Mo_service_351 (by decide) ?_
                  refine va_bald hx hb hK hP 7 1 rfl rfl (by unfold vp_in; decide) d_Mo_service_352 ?_
                  refine z_st (st' := [.int (jf 0), .int 10, .ref re]) rfl ?_
                  refine lv_sipush (v := 255) hx hb d_Mo_service_353 (by decide) ?_
                  refine lv_iand hx hb d_Mo_service_356 ?_
                  refine z_st (st' := [.int ((bRem I).1), .int 10, .ref re]) (by rw [show (((jf 0) &&& 255) : Int32) = (bRem I).1 from by rw [hrm]]) ?_
                  refine va_iast hx hb hK hP hD hS 1 0 rfl rfl (by unfold vp_in; decide) d_Mo_service_357 (fun H locs hP hD hS => ?_)
                  have hP : va_P D zC [(m0, .inr (3, [.ref mk, .ref mt, .int kd, .ref wo, .int wn, .ref re, .int pc, .int sta, .int dn, .int th, .ref ro, .ref aa, .ref si, .ref so, .ref la, .int (nI gd), .int (nI gl), .int (nI gt), .int (nI gr), .ref ip, .ref oq, .ref cp, .int (nI gi), .int (nI go)])), (re, .inl (cI, 32, .inl (upd rg 10 ((bRem I).1)))), (ro, .inl (cB, 90000, .inl (rf))), (aa, .inl (cI, 8001, .inl (af))), (si, .inl (cI, 8001, .inl (zf))), (so, .inl (cI, 8001, .inl (of))), (la, .inl (cI, 8001, .inl (lf))), (ip, .inl (cB, 1000, .inl (jf))), (oq, .inl (cB, 4096, .inl (qf))), (cp, .inl (cB, 4000, .inl (cf)))] _ := hP
                  have hD : va_D A [(m0, .inr (3, [.ref mk, .ref mt, .int kd, .ref wo, .int wn, .ref re, .int pc, .int sta, .int dn, .int th, .ref ro, .ref aa, .ref si, .ref so, .ref la, .int (nI gd), .int (nI gl), .int (nI gt), .int (nI gr), .ref ip, .ref oq, .ref cp, .int (nI gi), .int (nI go)])), (re, .inl (cI, 32, .inl (upd rg 10 ((bRem I).1)))), (ro, .inl (cB, 90000, .inl (rf))), (aa, .inl (cI, 8001, .inl (af))), (si, .inl (cI, 8001, .inl (zf))), (so, .inl (cI, 8001, .inl (of))), (la, .inl (cI, 8001, .inl (lf))), (ip, .inl (cB, 1000, .inl (jf))), (oq, .inl (cB, 4096, .inl (qf))), (cp, .inl (cB, 4000, .inl (cf)))] := hD
                  refine lv_aload_n hx hb d_Mo_service_358 rfl (lv_at hl 3 rfl) ?_
                  refine lv_dup hx hb d_Mo_service_359 rfl ?_
                  refine zget hE hK hP 0 rfl fd_Mo_174 rfl d_Mo_service_360 ?_
                  refine lv_iconst (v := 1) hx hb d_Mo_service_363 (by decide) ?_
                  refine lv_isub hx hb d_Mo_service_364 ?_
                  refine z_st (st' := [.int (nI (gi - 1)), .ref m0]) (by rw [show (((nI gi) - 1) : Int32) = nI (gi - 1) from nI_sub (a := gi) (b := 1) (by omega)]) ?_
                  refine zput (v := .int (nI (gi - 1))) hE hK hP hD hS 0 rfl fd_Mo_174 ft_Mo_22 rfl rfl (Nat.le_of_ble_eq_true rfl) d_Mo_service_365 (fun H locs hP hD hS => ?_)
                  have hP : va_P D zC [(m0, .inr (3, [.ref mk, .ref mt, .int kd, .ref wo, .int wn, .ref re, .int pc, .int sta, .int dn, .int th, .ref ro, .ref aa, .ref si, .ref so, .ref la, .int (nI gd), .int (nI gl), .int (nI gt), .int (nI gr), .ref ip, .ref oq, .ref cp, .int (nI (gi - 1)), .int (nI go)])), (re, .inl (cI, 32, .inl (upd rg 10 ((bRem I).1)))), (ro, .inl (cB, 90000, .inl (rf))), (aa, .inl (cI, 8001, .inl (af))), (si, .inl (cI, 8001, .inl (zf))), (so, .inl (cI, 8001, .inl (of))), (la, .inl (cI, 8001, .inl (lf))), (ip, .inl (cB, 1000, .inl (jf))), (oq, .inl (cB, 4096, .inl (qf))), (cp, .inl (cB, 4000, .inl (cf)))] _ := hP
                  have hD : va_D A [(m0, .inr (3, [.ref mk, .ref mt, .int kd, .ref wo, .int wn, .ref re, .int pc, .int sta, .int dn, .int th, .ref ro, .ref aa, .ref si, .ref so, .ref la, .int (nI gd), .int (nI gl), .int (nI gt), .int (nI gr), .ref ip, .ref oq, .ref cp, .int (nI (gi - 1)), .int (nI go)])), (re, .inl (cI, 32, .inl (upd rg 10 ((bRem I).1)))), (ro, .inl (cB, 90000, .inl (rf))), (aa, .inl (cI, 8001, .inl (af))), (si, .inl (cI, 8001, .inl (zf))), (so, .inl (cI, 8001, .inl (of))), (la, .inl (cI, 8001, .inl (lf))), (ip, .inl (cB, 1000, .inl (jf))), (oq, .inl (cB, 4096, .inl (qf))), (cp, .inl (cB, 4000, .inl (cf)))] := hD
                  refine lv_aload_n hx hb d_Mo_service_368 rfl (lv_at hl 3 rfl) ?_
                  refine zget hE hK hP 0 rfl fd_Mo_39 rfl d_Mo_service_369 ?_
                  refine lv_iconst (v := 1) hx hb d_Mo_service_372 (by decide) ?_
                  refine z_st (st' := [.int (nI 1), .ref ip]) (by rw [show ((1) : Int32) = nI 1 from rfl]) ?_
                  refine lv_aload_n hx hb d_Mo_service_373 rfl (lv_at hl 3 rfl) ?_
                  refine zget hE hK hP 0 rfl fd_Mo_39 rfl d_Mo_service_374 ?_
                  refine lv_iconst (v := 0) hx hb d_Mo_service_377 (by decide) ?_
                  refine z_st (st' := [.int (nI 0), .ref ip, .int (nI 1), .ref ip]) (by rw [show ((0) : Int32) = nI 0 from rfl]) ?_
                  refine lv_aload_n hx hb d_Mo_service_378 rfl (lv_at hl 3 rfl) ?_
                  refine zget hE hK hP 0 rfl fd_Mo_174 rfl d_Mo_service_379 ?_
                  refine va_copyi (R := { frames := 3, cells := 0, slots := 0, locals := 104 }) (ty := .byte) (rest := []) hx hb (hE.2.2.1.trans hl.1.symm) hown (hw _ sl_Mo) (hw _ sy_nat) (hw _ sy_st) (hw _ sy_ini) hK hP hD hS 7 7 1 1 rfl rfl rfl rfl rfl (nI_pos (n := 1) (by omega)) (nI_pos (n := 0) (by omega)) (nI_pos (n := gi - 1) (by omega)) (by rw [nI_clamp (by omega), nI_clamp (by omega)]; omega) (by rw [nI_clamp (by omega), nI_clamp (by omega)]; omega) (fun i hi => by rw [nI_clamp (by omega)] at hi ⊢; exact hI0.2.2.2.2 _ (by omega)) (by exact Nat.le_of_ble_eq_true rfl) (by exact Nat.le_of_ble_eq_true rfl) d_Mo_service_382 (fun H locs hP hD hS => ?_)
                  have hP : va_P D zC [(m0, .inr (3, [.ref mk, .ref mt, .int kd, .ref wo, .int wn, .ref re, .int pc, .int sta, .int dn, .int th, .ref ro, .ref aa, .ref si, .ref so, .ref la, .int (nI gd), .int (nI gl), .int (nI gt), .int (nI gr), .ref ip, .ref oq, .ref cp, .int (nI (gi - 1)), .int (nI go)])), (re, .inl (cI, 32, .inl (upd rg 10 ((bRem I).1)))), (ro, .inl (cB, 90000, .inl (rf))), (aa, .inl (cI, 8001, .inl (af))), (si, .inl (cI, 8001, .inl (zf))), (so, .inl (cI, 8001, .inl (of))), (la, .inl (cI, 8001, .inl (lf))), (ip, .inl (cB, 1000, .inl (va_cpy jf jf (nI 1).toNatClampNeg (nI 0).toNatClampNeg (nI (gi - 1)).toNatClampNeg))), (oq, .inl (cB, 4096, .inl (qf))), (cp, .inl (cB, 4000, .inl (cf)))] _ := hP
                  have hD : va_D A [(m0, .inr (3, [.ref mk, .ref mt, .int kd, .ref wo, .int wn, .ref re, .int pc, .int sta, .int dn, .int th, .ref ro, .ref aa, .ref si, .ref so, .ref la, .int (nI gd), .int (nI gl), .int (nI gt), .int (nI gr), .ref ip, .ref oq, .ref cp, .int (nI (gi - 1)), .int (nI go)])), (re, .inl (cI, 32, .inl (upd rg 10 ((bRem I).1)))), (ro, .inl (cB, 90000, .inl (rf))), (aa, .inl (cI, 8001, .inl (af))), (si, .inl (cI, 8001, .inl (zf))), (so, .inl (cI, 8001, .inl (of))), (la, .inl (cI, 8001, .inl (lf))), (ip, .inl (cB, 1000, .inl (va_cpy jf jf (nI 1).toNatClampNeg (nI 0).toNatClampNeg (nI (gi - 1)).toNatClampNeg))), (oq, .inl (cB, 4096, .inl (qf))), (cp, .inl (cB, 4000, .inl (cf)))] := hD
                  rw [show ((va_cpy jf jf (nI 1).toNatClampNeg (nI 0).toNatClampNeg (nI (gi - 1)).toNatClampNeg) : Nat → Int32) = va_cpy jf jf 1 0 (gi - 1) from by rw [nI_clamp (by omega), nI_clamp (by omega), nI_clamp (by omega)]] at hP hD
                  have hP : va_P D zC [(m0, .inr (3, [.ref mk, .ref mt, .int kd, .ref wo, .int wn, .ref re, .int pc, .int sta, .int dn, .int th, .ref ro, .ref aa, .ref si, .ref so, .ref la, .int (nI gd), .int (nI gl), .int (nI gt), .int (nI gr), .ref ip, .ref oq, .ref cp, .int (nI (gi - 1)), .int (nI go)])), (re, .inl (cI, 32, .inl (upd rg 10 ((bRem I).1)))), (ro, .inl (cB, 90000, .inl (rf))), (aa, .inl (cI, 8001, .inl (af))), (si, .inl (cI, 8001, .inl (zf))), (so, .inl (cI, 8001, .inl (of))), (la, .inl (cI, 8001, .inl (lf))), (ip, .inl (cB, 1000, .inl (va_cpy jf jf 1 0 (gi - 1)))), (oq, .inl (cB, 4096, .inl (qf))), (cp, .inl (cB, 4000, .inl (cf)))] _ := hP
                  have hD : va_D A [(m0, .inr (3, [.ref mk, .ref mt, .int kd, .ref wo, .int wn, .ref re, .int pc, .int sta, .int dn, .int th, .ref ro, .ref aa, .ref si, .ref so, .ref la, .int (nI gd), .int (nI gl), .int (nI gt), .int (nI gr), .ref ip, .ref oq, .ref cp, .int (nI (gi - 1)), .int (nI go)])), (re, .inl (cI, 32, .inl (upd rg 10 ((bRem I).1)))), (ro, .inl (cB, 90000, .inl (rf))), (aa, .inl (cI, 8001, .inl (af))), (si, .inl (cI, 8001, .inl (zf))), (so, .inl (cI, 8001, .inl (of))), (la, .inl (cI, 8001, .inl (lf))), (ip, .inl (cB, 1000, .inl (va_cpy jf jf 1 0 (gi - 1)))), (oq, .inl (cB, 4096, .inl (qf))), (cp, .inl (cB, 4000, .inl (cf)))] := hD
                  have hI0 : jR 1000 (bRem I).2 (gi - 1) (va_cpy jf jf 1 0 (gi - 1)) := by rw [hrm]; exact jR_drop hI0 (by omega)
                  refine lv_goto (tgt := 533) hx hb d_Mo_service_385 (by decide) ?_
                  refine lv_aload_n hx hb d_Mo_service_533 rfl (lv_at hl 3 rfl) ?_
                  refine lv_dup hx hb d_Mo_service_534 rfl ?_
                  refine zget hE hK hP 0 rfl fd_Mo_104 rfl d_Mo_service_535 ?_
                  refine lv_iconst (v := 4) hx hb d_Mo_service_538 (by decide) ?_
                  refine lv_iadd hx hb d_Mo_service_539 ?_
                  refine zput (v := .int (pc + 4)) hE hK hP hD hS 0 rfl fd_Mo_104 ft_Mo_6 rfl rfl (Nat.le_of_ble_eq_true rfl) d_Mo_service_540 (fun H locs hP hD hS => ?_)
                  have hP : va_P D zC [(m0, .inr (3, [.ref mk, .ref mt, .int kd, .ref wo, .int wn, .ref re, .int (pc + 4), .int sta, .int dn, .int th, .ref ro, .ref aa, .ref si, .ref so, .ref la, .int (nI gd), .int (nI gl), .int (nI gt), .int (nI gr), .ref ip, .ref oq, .ref cp, .int (nI (gi - 1)), .int (nI go)])), (re, .inl (cI, 32, .inl (upd rg 10 ((bRem I).1)))), (ro, .inl (cB, 90000, .inl (rf))), (aa, .inl (cI, 8001, .inl (af))), (si, .inl (cI, 8001, .inl (zf))), (so, .inl (cI, 8001, .inl (of))), (la, .inl (cI, 8001, .inl (lf))), (ip, .inl (cB, 1000, .inl (va_cpy jf jf 1 0 (gi - 1)))), (oq, .inl (cB, 4096, .inl (qf))), (cp, .inl (cB, 4000, .inl (cf)))] _ := hP
                  have hD : va_D A [(m0, .inr (3, [.ref mk, .ref mt, .int kd, .ref wo, .int wn, .ref re, .int (pc + 4), .int sta, .int dn, .int th, .ref ro, .ref aa, .ref si, .ref so, .ref la, .int (nI gd), .int (nI gl), .int (nI gt), .int (nI gr), .ref ip, .ref oq, .ref cp, .int (nI (gi - 1)), .int (nI go)])), (re, .inl (cI, 32, .inl (upd rg 10 ((bRem I).1)))), (ro, .inl (cB, 90000, .inl (rf))), (aa, .inl (cI, 8001, .inl (af))), (si, .inl (cI, 8001, .inl (zf))), (so, .inl (cI, 8001, .inl (of))), (la, .inl (cI, 8001, .inl (lf))), (ip, .inl (cB, 1000, .inl (va_cpy jf jf 1 0 (gi - 1)))), (oq, .inl (cB, 4096, .inl (qf))), (cp, .inl (cB, 4000, .inl (cf)))] := hD
                  have hs : xServe rg M I O sta = (0, upd rg 10 (bRem I).1, M, (bRem I).2, O, sta) := by unfold xServe; (rw [if_neg h1, if_neg h2, if_neg h13, if_neg h26, if_neg h35, if_neg h52, if_pos h54]) <;> rfl
                  have ypc : sPc rg M I O sta pc = pc + 4 := by unfold sPc; rw [hs]; exact (if_pos rfl).trans (if_neg h1)
                  have yst : sSt rg M I O sta = sta := by unfold sSt; rw [hs]; exact if_pos rfl
                  have hP9 := hP.sub (ws' := [(m0, .inr (3, [.ref mk, .ref mt, .int kd, .ref wo, .int wn, .ref re, .int (pc + 4), .int sta, .int dn, .int th, .ref ro, .ref aa, .ref si, .ref so, .ref la, .int (nI gd), .int (nI gl), .int (nI gt), .int (nI gr), .ref ip, .ref oq, .ref cp, .int (nI (gi - 1)), .int (nI go)])), (re, .inl (cI, 32, .inl (upd rg 10 ((bRem I).1)))), (ro, .inl (cB, 90000, .inl (rf))), (aa, .inl (cI, 8001, .inl (af))), (si, .inl (cI, 8001, .inl (zf))), (so, .inl (cI, 8001, .inl (of))), (la, .inl (cI, 8001, .inl (lf))), (ip, .inl (cB, 1000, .inl (va_cpy jf jf 1 0 (gi - 1)))), (oq, .inl (cB, 4096, .inl (qf))), (cp, .inl (cB, 4000, .inl (cf)))]) [0, 1, 2, 3, 4, 5, 6, 7, 8, 9] rfl
                  have hD9 := hD.sub (ws' := [(m0, .inr (3, [.ref mk, .ref mt, .int kd, .ref wo, .int wn, .ref re, .int (pc + 4), .int sta, .int dn, .int th, .ref ro, .ref aa, .ref si, .ref so, .ref la, .int (nI gd), .int (nI gl), .int (nI gt), .int (nI gr), .ref ip, .ref oq, .ref cp, .int (nI (gi - 1)), .int (nI go)])), (re, .inl (cI, 32, .inl (upd rg 10 ((bRem I).1)))), (ro, .inl (cB, 90000, .inl (rf))), (aa, .inl (cI, 8001, .inl (af))), (si, .inl (cI, 8001, .inl (zf))), (so, .inl (cI, 8001, .inl (of))), (la, .inl (cI, 8001, .inl (lf))), (ip, .inl (cB, 1000, .inl (va_cpy jf jf 1 0 (gi - 1)))), (oq, .inl (cB, 4096, .inl (qf))), (cp, .inl (cB, 4000, .inl (cf)))]) [0, 1, 2, 3, 4, 5, 6, 7, 8, 9] rfl rfl
                  exact zretv hx hb hr hlocks hS ((gd, gl, gt, gr, (gi - 1), go), (af, zf, of, lf, rf, va_cpy jf jf 1 0 (gi - 1), qf, cf)) (by rw [hs]; exact ⟨hR, hI0, hO⟩) rfl (by rw [ypc, yst, hs]; exact hP9) (by rw [ypc, yst, hs]; exact hD9) d_Mo_service_543
                · refine lv_aload_n hx hb d_Mo_service_330 rfl (lv_at hl 3 rfl) ?_
                  refine zget hE hK hP 0 rfl fd_Mo_19 rfl d_Mo_service_331 ?_
                  refine lv_bipush (v := 10) hx hb d_Mo_service_334 (by decide) ?_
                  refine lv_iconst (v := (-1)) hx hb d_Mo_service_336 (by decide) ?_
                  refine va_iast hx hb hK hP hD hS 1 0 rfl rfl (by unfold vp_in; decide) d_Mo_service_337 (fun H locs hP hD hS => ?_)
                  have hP : va_P D zC [(m0, .inr (3, [.ref mk, .ref mt, .int kd, .ref wo, .int wn, .ref re, .int pc, .int sta, .int dn, .int th, .ref ro, .ref aa, .ref si, .ref so, .ref la, .int (nI gd), .int (nI gl), .int (nI gt), .int (nI gr), .ref ip, .ref oq, .ref cp, .int (nI gi), .int (nI go)])), (re, .inl (cI, 32, .inl (upd rg 10 (-1)))), (ro, .inl (cB, 90000, .inl (rf))), (aa, .inl (cI, 8001, .inl (af))), (si, .inl (cI, 8001, .inl (zf))), (so, .inl (cI, 8001, .inl (of))), (la, .inl (cI, 8001, .inl (lf))), (ip, .inl (cB, 1000, .inl (jf))), (oq, .inl (cB, 4096, .inl (qf))), (cp, .inl (cB, 4000, .inl (cf)))] _ := hP
                  have hD : va_D A [(m0, .inr (3, [.ref mk, .ref mt, .int kd, .ref wo, .int wn, .ref re, .int pc, .int sta, .int dn, .int th, .ref ro, .ref aa, .ref si, .ref so, .ref la, .int (nI gd), .int (nI gl), .int (nI gt), .int (nI gr), .ref ip, .ref oq, .ref cp, .int (nI gi), .int (nI go)])), (re, .inl (cI, 32, .inl (upd rg 10 (-1)))), (ro, .inl (cB, 90000, .inl (rf))), (aa, .inl (cI, 8001, .inl (af))), (si, .inl (cI, 8001, .inl (zf))), (so, .inl (cI, 8001, .inl (of))), (la, .inl (cI, 8001, .inl (lf))), (ip, .inl (cB, 1000, .inl (jf))), (oq, .inl (cB, 4096, .inl (qf))), (cp, .inl (cB, 4000, .inl (cf)))] := hD
                  have hg0 : gi = 0 := z_e0 (by omega) h55
                  have hrm := rem_0 hI0 hg0
                  rw [show ((upd rg 10 (-1)) : Nat → Int32) = upd rg 10 (bRem I).1 from by rw [hrm]] at hP hD
                  have hP : va_P D zC [(m0, .inr (3, [.ref mk, .ref mt, .int kd, .ref wo, .int wn, .ref re, .int pc, .int sta, .int dn, .int th, .ref ro, .ref aa, .ref si, .ref so, .ref la, .int (nI gd), .int (nI gl), .int (nI gt), .int (nI gr), .ref ip, .ref oq, .ref cp, .int (nI gi), .int (nI go)])), (re, .inl (cI, 32, .inl (upd rg 10 (bRem I).1))), (ro, .inl (cB, 90000, .inl (rf))), (aa, .inl (cI, 8001, .inl (af))), (si, .inl (cI, 8001, .inl (zf))), (so, .inl (cI, 8001, .inl (of))), (la, .inl (cI, 8001, .inl (lf))), (ip, .inl (cB, 1000, .inl (jf))), (oq, .inl (cB, 4096, .inl (qf))), (cp, .inl (cB, 4000, .inl (cf)))] _ := hP
                  have hD : va_D A [(m0, .inr (3, [.ref mk, .ref mt, .int kd, .ref wo, .int wn, .ref re, .int pc, .int sta, .int dn, .int th, .ref ro, .ref aa, .ref si, .ref so, .ref la, .int (nI gd), .int (nI gl), .int (nI gt), .int (nI gr), .ref ip, .ref oq, .ref cp, .int (nI gi), .int (nI go)])), (re, .inl (cI, 32, .inl (upd rg 10 (bRem I).1))), (ro, .inl (cB, 90000, .inl (rf))), (aa, .inl (cI, 8001, .inl (af))), (si, .inl (cI, 8001, .inl (zf))), (so, .inl (cI, 8001, .inl (of))), (la, .inl (cI, 8001, .inl (lf))), (ip, .inl (cB, 1000, .inl (jf))), (oq, .inl (cB, 4096, .inl (qf))), (cp, .inl (cB, 4000, .inl (cf)))] := hD
                  have hI0 : jR 1000 (bRem I).2 gi jf := by rw [hrm]; exact hI0
                  refine lv_goto (tgt := 533) hx hb d_Mo_service_338 (by decide) ?_
                  refine lv_aload_n hx hb d_Mo_service_533 rfl (lv_at hl 3 rfl) ?_
                  refine lv_dup hx hb d_Mo_service_534 rfl ?_
                  refine zget hE hK hP 0 rfl fd_Mo_104 rfl d_Mo_service_535 ?_
                  refine lv_iconst (v := 4) hx hb d_Mo_service_538 (by decide) ?_
                  refine lv_iadd hx hb d_Mo_service_539 ?_
                  refine zput (v := .int (pc + 4)) hE hK hP hD hS 0 rfl fd_Mo_104 ft_Mo_6 rfl rfl (Nat.le_of_ble_eq_true rfl) d_Mo_service_540 (fun H locs hP hD hS => ?_)
                  have hP : va_P D zC [(m0, .inr (3, [.ref mk, .ref mt, .int kd, .ref wo, .int wn, .ref re, .int (pc + 4), .int sta, .int dn, .int th, .ref ro, .ref aa, .ref si, .ref so, .ref la, .int (nI gd), .int (nI gl), .int (nI gt), .int (nI gr), .ref ip, .ref oq, .ref cp, .int (nI gi), .int (nI go)])), (re, .inl (cI, 32, .inl (upd rg 10 (bRem I).1))), (ro, .inl (cB, 90000, .inl (rf))), (aa, .inl (cI, 8001, .inl (af))), (si, .inl (cI, 8001, .inl (zf))), (so, .inl (cI, 8001, .inl (of))), (la, .inl (cI, 8001, .inl (lf))), (ip, .inl (cB, 1000, .inl (jf))), (oq, .inl (cB, 4096, .inl (qf))), (cp, .inl (cB, 4000, .inl (cf)))] _ := hP
                  have hD : va_D A [(m0, .inr (3, [.ref mk, .ref mt, .int kd, .ref wo, .int wn, .ref re, .int (pc + 4), .int sta, .int dn, .int th, .ref ro, .ref aa, .ref si, .ref so, .ref la, .int (nI gd), .int (nI gl), .int (nI gt), .int (nI gr), .ref ip, .ref oq, .ref cp, .int (nI gi), .int (nI go)])), (re, .inl (cI, 32, .inl (upd rg 10 (bRem I).1))), (ro, .inl (cB, 90000, .inl (rf))), (aa, .inl (cI, 8001, .inl (af))), (si, .inl (cI, 8001, .inl (zf))), (so, .inl (cI, 8001, .inl (of))), (la, .inl (cI, 8001, .inl (lf))), (ip, .inl (cB, 1000, .inl (jf))), (oq, .inl (cB, 4096, .inl (qf))), (cp, .inl (cB, 4000, .inl (cf)))] := hD
                  have hs : xServe rg M I O sta = (0, upd rg 10 (bRem I).1, M, (bRem I).2, O, sta) := by unfold xServe; (rw [if_neg h1, if_neg h2, if_neg h13, if_neg h26, if_neg h35, if_neg h52, if_pos h54]) <;> rfl
                  have ypc : sPc rg M I O sta pc = pc + 4 := by unfold sPc; rw [hs]; exact (if_pos rfl).trans (if_neg h1)
                  have yst : sSt rg M I O sta = sta := by unfold sSt; rw [hs]; exact if_pos rfl
                  have hP9 := hP.sub (ws' := [(m0, .inr (3, [.ref mk, .ref mt, .int kd, .ref wo, .int wn, .ref re, .int (pc + 4), .int sta, .int dn, .int th, .ref ro, .ref aa, .ref si, .ref so, .ref la, .int (nI gd), .int (nI gl), .int (nI gt), .int (nI gr), .ref ip, .ref oq, .ref cp, .int (nI gi), .int (nI go)])), (re, .inl (cI, 32, .inl (upd rg 10 (bRem I).1))), (ro, .inl (cB, 90000, .inl (rf))), (aa, .inl (cI, 8001, .inl (af))), (si, .inl (cI, 8001, .inl (zf))), (so, .inl (cI, 8001, .inl (of))), (la, .inl (cI, 8001, .inl (lf))), (ip, .inl (cB, 1000, .inl (jf))), (oq, .inl (cB, 4096, .inl (qf))), (cp, .inl (cB, 4000, .inl (cf)))]) [0, 1, 2, 3, 4, 5, 6, 7, 8, 9] rfl
                  have hD9 := hD.sub (ws' := [(m0, .inr (3, [.ref mk, .ref mt, .int kd, .ref wo, .int wn, .ref re, .int (pc + 4), .int sta, .int dn, .int th, .ref ro, .ref aa, .ref si, .ref so, .ref la, .int (nI gd), .int (nI gl), .int (nI gt), .int (nI gr), .ref ip, .ref oq, .ref cp, .int (nI gi), .int (nI go)])), (re, .inl (cI, 32, .inl (upd rg 10 (bRem I).1))), (ro, .inl (cB, 90000, .inl (rf))), (aa, .inl (cI, 8001, .inl (af))), (si, .inl (cI, 8001, .inl (zf))), (so, .inl (cI, 8001, .inl (of))), (la, .inl (cI, 8001, .inl (lf))), (ip, .inl (cB, 1000, .inl (jf))), (oq, .inl (cB, 4096, .inl (qf))), (cp, .inl (cB, 4000, .inl (cf)))]) [0, 1, 2, 3, 4, 5, 6, 7, 8, 9] rfl rfl
                  exact zretv hx hb hr hlocks hS ((gd, gl, gt, gr, gi, go), (af, zf, of, lf, rf, jf, qf, cf)) (by rw [hs]; exact ⟨hR, hI0, hO⟩) rfl (by rw [ypc, yst, hs]; exact hP9) (by rw [ypc, yst, hs]; exact hD9) d_Mo_service_543
              · rcases Decidable.em ((rg 17) = 7) with h56 | h56
                · refine lv_tableIn (tgt := 388) hx hb d_Mo_service_31 (by rw [h56]; decide) (by rw [h56]; decide) (by rw [h56]; rfl) (by decide) ?_
                  refine lv_iload_n hx hb d_Mo_service_388 rfl (lv_at hl 2 rfl) ?_
                  refine lv_bipush (v := 16) hx hb d_Mo_service_389 (by decide) ?_
                  refine lv_iushr (v := zushr (rg 10) 16) hx hb d_Mo_service_391 rfl ?_
                  refine lv_iload_n hx hb d_Mo_service_392 rfl (lv_at hl 1 rfl) ?_
                  refine lv_bipush (v := 16) hx hb d_Mo_service_393 (by decide) ?_
                  refine lv_iushr (v := zushr (rg 11) 16) hx hb d_Mo_service_395 rfl ?_
                  refine lv_icmp_eq (tgt := 533) hx hb d_Mo_service_396 (by decide) (fun h57 => ?_) (fun h57 => ?_)
                  · refine lv_aload_n hx hb d_Mo_service_533 rfl (lv_at hl 3 rfl) ?_
                    refine lv_dup hx hb d_Mo_service_534 rfl ?_
                    refine zget hE hK hP 0 rfl fd_Mo_104 rfl d_Mo_service_535 ?_
                    refine lv_iconst (v := 4) hx hb d_Mo_service_538 (by decide) ?_
                    refine lv_iadd hx hb d_Mo_service_539 ?_
                    refine zput (v := .int (pc + 4)) hE hK hP hD hS 0 rfl fd_Mo_104 ft_Mo_6 rfl rfl (Nat.le_of_ble_eq_true rfl) d_Mo_service_540 (fun H locs hP hD hS => ?_)
                    have hP : va_P D zC [(m0, .inr (3, [.ref mk, .ref mt, .int kd, .ref wo, .int wn, .ref re, .int (pc + 4), .int sta, .int dn, .int th, .ref ro, .ref aa, .ref si, .ref so, .ref la, .int (nI gd), .int (nI gl), .int (nI gt), .int (nI gr), .ref ip, .ref oq, .ref cp, .int (nI gi), .int (nI go)])), (re, .inl (cI, 32, .inl (rg))), (ro, .inl (cB, 90000, .inl (rf))), (aa, .inl (cI, 8001, .inl (af))), (si, .inl (cI, 8001, .inl (zf))), (so, .inl (cI, 8001, .inl (of))), (la, .inl (cI, 8001, .inl (lf))), (ip, .inl (cB, 1000, .inl (jf))), (oq, .inl (cB, 4096, .inl (qf))), (cp, .inl (cB, 4000, .inl (cf)))] _ := hP
                    have hD : va_D A [(m0, .inr (3, [.ref mk, .ref mt, .int kd, .ref wo, .int wn, .ref re, .int (pc + 4), .int sta, .int dn, .int th, .ref ro, .ref aa, .ref si, .ref so, .ref la, .int (nI gd), .int (nI gl), .int (nI gt), .int (nI gr), .ref ip, .ref oq, .ref cp, .int (nI gi), .int (nI go)])), (re, .inl (cI, 32, .inl (rg))), (ro, .inl (cB, 90000, .inl (rf))), (aa, .inl (cI, 8001, .inl (af))), (si, .inl (cI, 8001, .inl (zf))), (so, .inl (cI, 8001, .inl (of))), (la, .inl (cI, 8001, .inl (lf))), (ip, .inl (cB, 1000, .inl (jf))), (oq, .inl (cB, 4096, .inl (qf))), (cp, .inl (cB, 4000, .inl (cf)))] := hD
                    have hs : xServe rg M I O sta = (0, rg, M, I, O, sta) := by unfold xServe; (rw [if_neg h1, if_neg h2, if_neg h13, if_neg h26, if_neg h35, if_neg h52, if_neg h54, if_pos h56, if_pos h57]) <;> rfl
                    have ypc : sPc rg M I O sta pc = pc + 4 := by unfold sPc; rw [hs]; exact (if_pos rfl).trans (if_neg h1)
                    have yst : sSt rg M I O sta = sta := by unfold sSt; rw [hs]; exact if_pos rfl
                    have hP9 := hP.sub (ws' := [(m0, .inr (3, [.ref mk, .ref mt, .int kd, .ref wo, .int wn, .ref re, .int (pc + 4), .int sta, .int dn, .int th, .ref ro, .ref aa, .ref si, .ref so, .ref la, .int (nI gd), .int (nI gl), .int (nI gt), .int (nI gr), .ref ip, .ref oq, .ref cp, .int (nI gi), .int (nI go)])), (re, .inl (cI, 32, .inl (rg))), (ro, .inl (cB, 90000, .inl (rf))), (aa, .inl (cI, 8001, .inl (af))), (si, .inl (cI, 8001, .inl (zf))), (so, .inl (cI, 8001, .inl (of))), (la, .inl (cI, 8001, .inl (lf))), (ip, .inl (cB, 1000, .inl (jf))), (oq, .inl (cB, 4096, .inl (qf))), (cp, .inl (cB, 4000, .inl (cf)))]) [0, 1, 2, 3, 4, 5, 6, 7, 8, 9] rfl
                    have hD9 := hD.sub (ws' := [(m0, .inr (3, [.ref mk, .ref mt, .int kd, .ref wo, .int wn, .ref re, .int (pc + 4), .int sta, .int dn, .int th, .ref ro, .ref aa, .ref si, .ref so, .ref la, .int (nI gd), .int (nI gl), .int (nI gt), .int (nI gr), .ref ip, .ref oq, .ref cp, .int (nI gi), .int (nI go)])), (re, .inl (cI, 32, .inl (rg))), (ro, .inl (cB, 90000, .inl (rf))), (aa, .inl (cI, 8001, .inl (af))), (si, .inl (cI, 8001, .inl (zf))), (so, .inl (cI, 8001, .inl (of))), (la, .inl (cI, 8001, .inl (lf))), (ip, .inl (cB, 1000, .inl (jf))), (oq, .inl (cB, 4096, .inl (qf))), (cp, .inl (cB, 4000, .inl (cf)))]) [0, 1, 2, 3, 4, 5, 6, 7, 8, 9] rfl rfl
                    exact zretv hx hb hr hlocks hS ((gd, gl, gt, gr, gi, go), (af, zf, of, lf, rf, jf, qf, cf)) (by rw [hs]; exact ⟨hR, hI0, hO⟩) rfl (by rw [ypc, yst, hs]; exact hP9) (by rw [ypc, yst, hs]; exact hD9) d_Mo_service_543
                  · refine lv_aload_n hx hb d_Mo_service_399 rfl (lv_at hl 3 rfl) ?_
                    refine lv_iconst (v := 4) hx hb d_Mo_service_400 (by decide) ?_
                    refine zgov (wr := [(re, .inl (cI, 32, .inl (rg))), (ro, .inl (cB, 90000, .inl (rf))), (aa, .inl (cI, 8001, .inl (af))), (si, .inl (cI, 8001, .inl (zf))), (so, .inl (cI, 8001, .inl (of))), (la, .inl (cI, 8001, .inl (lf))), (ip, .inl (cB, 1000, .inl (jf))), (oq, .inl (cB, 4096, .inl (qf))), (cp, .inl (cB, 4000, .inl (cf)))]) (zrunV (n := 1) (As := [.int 4]) (rest := []) hE (c_Mo_trap l D cI cB cJ _ 4 m0 mk mt kd wo wn re pc sta dn th ro aa si so la (nI gd) (nI gl) (nI gt) (nI gr) ip oq cp (nI gi) (nI go)) cb_Mo_trap lk_Mo_100 in_Mo_trap se_Mo_trap (zpreV (q0 := 0) hK hP hD rfl rfl rfl [0] rfl rfl rfl) ⟨Nat.le_of_ble_eq_true rfl, Nat.le_of_ble_eq_true rfl, Nat.le_of_ble_eq_true rfl, Nat.le_of_ble_eq_true rfl⟩ rfl hl.1 rfl (Nat.le_of_ble_eq_true rfl) d_Mo_service_401) hP hD hS hA [0] [1, 2, 3, 4, 5, 6, 7, 8, 9] rfl rfl rfl (by decide) (fun u60 H locs hq58 hP hD hS => ?_)
                    clear hq58
                    have hP : va_P D zC [(re, .inl (cI, 32, .inl (rg))), (ro, .inl (cB, 90000, .inl (rf))), (aa, .inl (cI, 8001, .inl (af))), (si, .inl (cI, 8001, .inl (zf))), (so, .inl (cI, 8001, .inl (of))), (la, .inl (cI, 8001, .inl (lf))), (ip, .inl (cB, 1000, .inl (jf))), (oq, .inl (cB, 4096, .inl (qf))), (cp, .inl (cB, 4000, .inl (cf))), (m0, .inr (3, [.ref mk, .ref mt, .int kd, .ref wo, .int wn, .ref re, .int pc, .int ((sp_Mo_trap 4)), .int dn, .int th, .ref ro, .ref aa, .ref si, .ref so, .ref la, .int (nI gd), .int (nI gl), .int (nI gt), .int (nI gr), .ref ip, .ref oq, .ref cp, .int (nI gi), .int (nI go)]))] _ := hP
                    have hD : va_D A [(re, .inl (cI, 32, .inl (rg))), (ro, .inl (cB, 90000, .inl (rf))), (aa, .inl (cI, 8001, .inl (af))), (si, .inl (cI, 8001, .inl (zf))), (so, .inl (cI, 8001, .inl (of))), (la, .inl (cI, 8001, .inl (lf))), (ip, .inl (cB, 1000, .inl (jf))), (oq, .inl (cB, 4096, .inl (qf))), (cp, .inl (cB, 4000, .inl (cf))), (m0, .inr (3, [.ref mk, .ref mt, .int kd, .ref wo, .int wn, .ref re, .int pc, .int ((sp_Mo_trap 4)), .int dn, .int th, .ref ro, .ref aa, .ref si, .ref so, .ref la, .int (nI gd), .int (nI gl), .int (nI gt), .int (nI gr), .ref ip, .ref oq, .ref cp, .int (nI gi), .int (nI go)]))] := hD
                    have hs : xServe rg M I O sta = (4, rg, M, I, O, sta) := by unfold xServe; (rw [if_neg h1, if_neg h2, if_neg h13, if_neg h26, if_neg h35, if_neg h52, if_neg h54, if_pos h56, if_neg h57]) <;> rfl
                    have ypc : sPc rg M I O sta pc = pc := by unfold sPc; rw [hs]; exact if_neg (show ¬ ((4) : Int32) = 0 by decide)
                    have yst : sSt rg M I O sta = (sp_Mo_trap 4) := by unfold sSt; rw [hs]; exact if_neg (show ¬ ((4) : Int32) = 0 by decide)
                    have hP9 := hP.sub (ws' := [(m0, .inr (3, [.ref mk, .ref mt, .int kd, .ref wo, .int wn, .ref re, .int pc, .int ((sp_Mo_trap 4)), .int dn, .int th, .ref ro, .ref aa, .ref si, .ref so, .ref la, .int (nI gd), .int (nI gl), .int (nI gt), .int (nI gr), .ref ip, .ref oq, .ref cp, .int (nI gi), .int (nI go)])), (re, .inl (cI, 32, .inl (rg))), (ro, .inl (cB, 90000, .inl (rf))), (aa, .inl (cI, 8001, .inl (af))), (si, .inl (cI, 8001, .inl (zf))), (so, .inl (cI, 8001, .inl (of))), (la, .inl (cI, 8001, .inl (lf))), (ip, .inl (cB, 1000, .inl (jf))), (oq, .inl (cB, 4096, .inl (qf))), (cp, .inl (cB, 4000, .inl (cf)))]) [9, 0, 1, 2, 3, 4, 5, 6, 7, 8] rfl
                    have hD9 := hD.sub (ws' := [(m0, .inr (3, [.ref mk, .ref mt, .int kd, .ref wo, .int wn, .ref re, .int pc, .int ((sp_Mo_trap 4)), .int dn, .int th, .ref ro, .ref aa, .ref si, .ref so, .ref la, .int (nI gd), .int (nI gl), .int (nI gt), .int (nI gr), .ref ip, .ref oq, .ref cp, .int (nI gi), .int (nI go)])), (re, .inl (cI, 32, .inl (rg))), (ro, .inl (cB, 90000, .inl (rf))), (aa, .inl (cI, 8001, .inl (af))), (si, .inl (cI, 8001, .inl (zf))), (so, .inl (cI, 8001, .inl (of))), (la, .inl (cI, 8001, .inl (lf))), (ip, .inl (cB, 1000, .inl (jf))), (oq, .inl (cB, 4096, .inl (qf))), (cp, .inl (cB, 4000, .inl (cf)))]) [9, 0, 1, 2, 3, 4, 5, 6, 7, 8] rfl rfl
                    exact zretv hx hb hr hlocks hS ((gd, gl, gt, gr, gi, go), (af, zf, of, lf, rf, jf, qf, cf)) (by rw [hs]; exact ⟨hR, hI0, hO⟩) rfl (by rw [ypc, yst, hs]; exact hP9) (by rw [ypc, yst, hs]; exact hD9) d_Mo_service_404
                · rcases Decidable.em ((rg 17) = 8) with h61 | h61
                  · refine lv_tableIn (tgt := 405) hx hb d_Mo_service_31 (by rw [h61]; decide) (by rw [h61]; decide) (by rw [h61]; rfl) (by decide) ?_
                    refine lv_iload_n hx hb d_Mo_service_405 rfl (lv_at hl 0 rfl) ?_
                    refine lv_if_lt (tgt := 416) hx hb d_Mo_service_406 (by decide) (fun h62 => ?_) (fun h62 => ?_)
                    · have hcp : xCopy (rg 10) (rg 11) (rg 12) M = (4, M) := by unfold xCopy; rw [if_pos h62]
                      refine lv_aload_n hx hb d_Mo_service_416 rfl (lv_at hl 3 rfl) ?_
                      refine lv_iconst (v := 4) hx hb d_Mo_service_417 (by decide) ?_
                      refine zgov (wr := [(re, .inl (cI, 32, .inl (rg))), (ro, .inl (cB, 90000, .inl (rf))), (aa, .inl (cI, 8001, .inl (af))), (si, .inl (cI, 8001, .inl (zf))), (so, .inl (cI, 8001, .inl (of))), (la, .inl (cI, 8001, .inl (lf))), (ip, .inl (cB, 1000, .inl (jf))), (oq, .inl (cB, 4096, .inl (qf))), (cp, .inl (cB, 4000, .inl (cf)))]) (zrunV (n := 1) (As := [.int 4]) (rest := []) hE (c_Mo_trap l D cI cB cJ _ 4 m0 mk mt kd wo wn re pc sta dn th ro aa si so la (nI gd) (nI gl) (nI gt) (nI gr) ip oq cp (nI gi) (nI go)) cb_Mo_trap lk_Mo_100 in_Mo_trap se_Mo_trap (zpreV (q0 := 0) hK hP hD rfl rfl rfl [0] rfl rfl rfl) ⟨Nat.le_of_ble_eq_true rfl, Nat.le_of_ble_eq_true rfl, Nat.le_of_ble_eq_true rfl, Nat.le_of_ble_eq_true rfl⟩ rfl hl.1 rfl (Nat.le_of_ble_eq_true rfl) d_Mo_service_418) hP hD hS hA [0] [1, 2, 3, 4, 5, 6, 7, 8, 9] rfl rfl rfl (by decide) (fun u65 H locs hq63 hP hD hS => ?_)
                      clear hq63
                      have hP : va_P D zC [(re, .inl (cI, 32, .inl (rg))), (ro, .inl (cB, 90000, .inl (rf))), (aa, .inl (cI, 8001, .inl (af))), (si, .inl (cI, 8001, .inl (zf))), (so, .inl (cI, 8001, .inl (of))), (la, .inl (cI, 8001, .inl (lf))), (ip, .inl (cB, 1000, .inl (jf))), (oq, .inl (cB, 4096, .inl (qf))), (cp, .inl (cB, 4000, .inl (cf))), (m0, .inr (3, [.ref mk, .ref mt, .int kd, .ref wo, .int wn, .ref re, .int pc, .int ((sp_Mo_trap 4)), .int dn, .int th, .ref ro, .ref aa, .ref si, .ref so, .ref la, .int (nI gd), .int (nI gl), .int (nI gt), .int (nI gr), .ref ip, .ref oq, .ref cp, .int (nI gi), .int (nI go)]))] _ := hP
                      have hD : va_D A [(re, .inl (cI, 32, .inl (rg))), (ro, .inl (cB, 90000, .inl (rf))), (aa, .inl (cI, 8001, .inl (af))), (si, .inl (cI, 8001, .inl (zf))), (so, .inl (cI, 8001, .inl (of))), (la, .inl (cI, 8001, .inl (lf))), (ip, .inl (cB, 1000, .inl (jf))), (oq, .inl (cB, 4096, .inl (qf))), (cp, .inl (cB, 4000, .inl (cf))), (m0, .inr (3, [.ref mk, .ref mt, .int kd, .ref wo, .int wn, .ref re, .int pc, .int ((sp_Mo_trap 4)), .int dn, .int th, .ref ro, .ref aa, .ref si, .ref so, .ref la, .int (nI gd), .int (nI gl), .int (nI gt), .int (nI gr), .ref ip, .ref oq, .ref cp, .int (nI gi), .int (nI go)]))] := hD
                      have hs : xServe rg M I O sta = (4, rg, M, I, O, sta) := by unfold xServe; (rw [if_neg h1, if_neg h2, if_neg h13, if_neg h26, if_neg h35, if_neg h52, if_neg h54, if_neg h56, if_pos h61, hcp]) <;> rfl
                      have ypc : sPc rg M I O sta pc = pc := by unfold sPc; rw [hs]; exact if_neg (show ¬ ((4) : Int32) = 0 by decide)
                      have yst : sSt rg M I O sta = (sp_Mo_trap 4) := by unfold sSt; rw [hs]; exact if_neg (show ¬ ((4) : Int32) = 0 by decide)
                      have hP9 := hP.sub (ws' := [(m0, .inr (3, [.ref mk, .ref mt, .int kd, .ref wo, .int wn, .ref re, .int pc, .int ((sp_Mo_trap 4)), .int dn, .int th, .ref ro, .ref aa, .ref si, .ref so, .ref la, .int (nI gd), .int (nI gl), .int (nI gt), .int (nI gr), .ref ip, .ref oq, .ref cp, .int (nI gi), .int (nI go)])), (re, .inl (cI, 32, .inl (rg))), (ro, .inl (cB, 90000, .inl (rf))), (aa, .inl (cI, 8001, .inl (af))), (si, .inl (cI, 8001, .inl (zf))), (so, .inl (cI, 8001, .inl (of))), (la, .inl (cI, 8001, .inl (lf))), (ip, .inl (cB, 1000, .inl (jf))), (oq, .inl (cB, 4096, .inl (qf))), (cp, .inl (cB, 4000, .inl (cf)))]) [9, 0, 1, 2, 3, 4, 5, 6, 7, 8] rfl
                      have hD9 := hD.sub (ws' := [(m0, .inr (3, [.ref mk, .ref mt, .int kd, .ref wo, .int wn, .ref re, .int pc, .int ((sp_Mo_trap 4)), .int dn, .int th, .ref ro, .ref aa, .ref si, .ref so, .ref la, .int (nI gd), .int (nI gl), .int (nI gt), .int (nI gr), .ref ip, .ref oq, .ref cp, .int (nI gi), .int (nI go)])), (re, .inl (cI, 32, .inl (rg))), (ro, .inl (cB, 90000, .inl (rf))), (aa, .inl (cI, 8001, .inl (af))), (si, .inl (cI, 8001, .inl (zf))), (so, .inl (cI, 8001, .inl (of))), (la, .inl (cI, 8001, .inl (lf))), (ip, .inl (cB, 1000, .inl (jf))), (oq, .inl (cB, 4096, .inl (qf))), (cp, .inl (cB, 4000, .inl (cf)))]) [9, 0, 1, 2, 3, 4, 5, 6, 7, 8] rfl rfl
                      exact zretv hx hb hr hlocks hS ((gd, gl, gt, gr, gi, go), (af, zf, of, lf, rf, jf, qf, cf)) (by rw [hs]; exact ⟨hR, hI0, hO⟩) rfl (by rw [ypc, yst, hs]; exact hP9) (by rw [ypc, yst, hs]; exact hD9) d_Mo_service_421
                    · refine lv_iload_n hx hb d_Mo_service_409 rfl (lv_at hl 0 rfl) ?_
                      refine lv_sipush (v := 4000) hx hb d_Mo_service_410 (by decide) ?_
                      refine lv_icmp_le (tgt := 422) hx hb d_Mo_service_413 (by decide) (fun h66 => ?_) (fun h66 => ?_)
                      · obtain ⟨kn, hkn, hk0⟩ := nI_of2 (x := rg 12) (M := 4000) (n := 4000) (by decide) h62 h66
                        rw [hk0] at hl
                        have hl : lv_has ls 6 [(3, .int (nI kn)), (2, .int (rg 11)), (1, .int (rg 10)), (0, .ref m0)] := hl
                        refine lv_iconst (v := 0) hx hb d_Mo_service_422 (by decide) ?_
                        refine lv_istore (lv' := [(5, .int 0), (3, .int (nI kn)), (2, .int (rg 11)), (1, .int (rg 10)), (0, .ref m0)]) hx hb d_Mo_service_423 hl (by decide) rfl (fun ls hl => ?_)
                        refine zloopH (σ := (Nat × (Nat → Int32))) (fun j x ls H locs cells slots => (x.1 + j = kn ∧ mHn M (rg 11) x.1 ∧ mHn M (rg 10) x.1 ∧ (∀ i, i < x.1 → x.2 i = mCt M (zN (rg 11) / 65536) (zN (rg 11) % 65536 + i)) ∧ cells = 0 ∧ slots = 0) ∧ lv_has ls 6 [(5, .int (nI x.1)), (3, .int (nI kn)), (2, .int (rg 11)), (1, .int (rg 10)), (0, .ref m0)] ∧ va_P D zC [(m0, .inr (3, [.ref mk, .ref mt, .int kd, .ref wo, .int wn, .ref re, .int pc, .int sta, .int dn, .int th, .ref ro, .ref aa, .ref si, .ref so, .ref la, .int (nI gd), .int (nI gl), .int (nI gt), .int (nI gr), .ref ip, .ref oq, .ref cp, .int (nI gi), .int (nI go)])), (re, .inl (cI, 32, .inl (rg))), (ro, .inl (cB, 90000, .inl (rf))), (aa, .inl (cI, 8001, .inl (af))), (si, .inl (cI, 8001, .inl (zf))), (so, .inl (cI, 8001, .inl (of))), (la, .inl (cI, 8001, .inl (lf))), (ip, .inl (cB, 1000, .inl (jf))), (oq, .inl (cB, 4096, .inl (qf))), (cp, .inl (cB, 4000, .inl (x.2)))] H ∧ va_D A [(m0, .inr (3, [.ref mk, .ref mt, .int kd, .ref wo, .int wn, .ref re, .int pc, .int sta, .int dn, .int th, .ref ro, .ref aa, .ref si, .ref so, .ref la, .int (nI gd), .int (nI gl), .int (nI gt), .int (nI gr), .ref ip, .ref oq, .ref cp, .int (nI gi), .int (nI go)])), (re, .inl (cI, 32, .inl (rg))), (ro, .inl (cB, 90000, .inl (rf))), (aa, .inl (cI, 8001, .inl (af))), (si, .inl (cI, 8001, .inl (zf))), (so, .inl (cI, 8001, .inl (of))), (la, .inl (cI, 8001, .inl (lf))), (ip, .inl (cB, 1000, .inl (jf))), (oq, .inl (cB, 4096, .inl (qf))), (cp, .inl (cB, 4000, .inl (x.2)))] ∧ va_S A s.heap H locs) (fun j x ls H locs cells slots hI ih => ?_) kn (0, cf) ls ⟨⟨Nat.zero_add _, Or.inl rfl, Or.inl rfl, fun i hi => absurd hi (Nat.not_lt_zero _), rfl, rfl⟩, hl, hP, hD, hS⟩
                        obtain ⟨k, cx⟩ := x
                        obtain ⟨⟨hj, hmb, hma, hcx, rfl, rfl⟩, hl, hP, hD, hS⟩ := hI
                        dsimp only at hj hmb hma hcx
                        have hl : lv_has ls 6 [(5, .int (nI k)), (3, .int (nI kn)), (2, .int (rg 11)), (1, .int (rg 10)), (0, .ref m0)] := hl
                        have hP : va_P D zC [(m0, .inr (3, [.ref mk, .ref mt, .int kd, .ref wo, .int wn, .ref re, .int pc, .int sta, .int dn, .int th, .ref ro, .ref aa, .ref si, .ref so, .ref la, .int (nI gd), .int (nI gl), .int (nI gt), .int (nI gr), .ref ip, .ref oq, .ref cp, .int (nI gi), .int (nI go)])), (re, .inl (cI, 32, .inl (rg))), (ro, .inl (cB, 90000, .inl (rf))), (aa, .inl (cI, 8001, .inl (af))), (si, .inl (cI, 8001, .inl (zf))), (so, .inl (cI, 8001, .inl (of))), (la, .inl (cI, 8001, .inl (lf))), (ip, .inl (cB, 1000, .inl (jf))), (oq, .inl (cB, 4096, .inl (qf))), (cp, .inl (cB, 4000, .inl (cx)))] _ := hP
                        have hD : va_D A [(m0, .inr (3, [.ref mk, .ref mt, .int kd, .ref wo, .int wn, .ref re, .int pc, .int sta, .int dn, .int th, .ref ro, .ref aa, .ref si, .ref so, .ref la, .int (nI gd), .int (nI gl), .int (nI gt), .int (nI gr), .ref ip, .ref oq, .ref cp, .int (nI gi), .int (nI go)])), (re, .inl (cI, 32, .inl (rg))), (ro, .inl (cB, 90000, .inl (rf))), (aa, .inl (cI, 8001, .inl (af))), (si, .inl (cI, 8001, .inl (zf))), (so, .inl (cI, 8001, .inl (of))), (la, .inl (cI, 8001, .inl (lf))), (ip, .inl (cB, 1000, .inl (jf))), (oq, .inl (cB, 4096, .inl (qf))), (cp, .inl (cB, 4000, .inl (cx)))] := hD
                        refine lv_iload hx hb d_Mo_service_425 (lv_at hl 0 rfl) ?_
                        refine lv_iload_n hx hb d_Mo_service_427 rfl (lv_at hl 1 rfl) ?_
                        refine lv_icmp_ge (tgt := 488) hx hb d_Mo_service_428 (by decide) (fun h67 => ?_) (fun h67 => ?_)
                        · have hk1 : k = kn := by have q := z_le' (by omega) h67; omega
                          subst hk1
                          have hfx : ∀ i, i < k → fits .byte (.int (cx i)) = true := fun i hi => by rw [hcx i hi]; exact ct_fit hR hmb i hi
                          refine lv_iconst (v := 0) hx hb d_Mo_service_488 (by decide) ?_
                          refine lv_istore (lv' := [(5, .int 0), (3, .int (nI k)), (2, .int (rg 11)), (1, .int (rg 10)), (0, .ref m0)]) hx hb d_Mo_service_489 hl (by decide) rfl (fun ls hl => ?_)
                          rw [show ((rf) : Nat → Int32) = va_cpy cx rf 0 (zN (af (zN (rg 10) / 65536)) + zN (rg 10) % 65536) 0 from (cc_0 cx rf (zN (af (zN (rg 10) / 65536)) + zN (rg 10) % 65536)).symm] at hP hD
                          have hP : va_P D zC [(m0, .inr (3, [.ref mk, .ref mt, .int kd, .ref wo, .int wn, .ref re, .int pc, .int sta, .int dn, .int th, .ref ro, .ref aa, .ref si, .ref so, .ref la, .int (nI gd), .int (nI gl), .int (nI gt), .int (nI gr), .ref ip, .ref oq, .ref cp, .int (nI gi), .int (nI go)])), (re, .inl (cI, 32, .inl (rg))), (ro, .inl (cB, 90000, .inl (va_cpy cx rf 0 (zN (af (zN (rg 10) / 65536)) + zN (rg 10) % 65536) 0))), (aa, .inl (cI, 8001, .inl (af))), (si, .inl (cI, 8001, .inl (zf))), (so, .inl (cI, 8001, .inl (of))), (la, .inl (cI, 8001, .inl (lf))), (ip, .inl (cB, 1000, .inl (jf))), (oq, .inl (cB, 4096, .inl (qf))), (cp, .inl (cB, 4000, .inl (cx)))] _ := hP
                          have hD : va_D A [(m0, .inr (3, [.ref mk, .ref mt, .int kd, .ref wo, .int wn, .ref re, .int pc, .int sta, .int dn, .int th, .ref ro, .ref aa, .ref si, .ref so, .ref la, .int (nI gd), .int (nI gl), .int (nI gt), .int (nI gr), .ref ip, .ref oq, .ref cp, .int (nI gi), .int (nI go)])), (re, .inl (cI, 32, .inl (rg))), (ro, .inl (cB, 90000, .inl (va_cpy cx rf 0 (zN (af (zN (rg 10) / 65536)) + zN (rg 10) % 65536) 0))), (aa, .inl (cI, 8001, .inl (af))), (si, .inl (cI, 8001, .inl (zf))), (so, .inl (cI, 8001, .inl (of))), (la, .inl (cI, 8001, .inl (lf))), (ip, .inl (cB, 1000, .inl (jf))), (oq, .inl (cB, 4096, .inl (qf))), (cp, .inl (cB, 4000, .inl (cx)))] := hD
                          refine zloopH (σ := Nat) (fun j x ls H locs cells slots => (x + j = k ∧ cells = 0 ∧ slots = 0) ∧ lv_has ls 6 [(5, .int (nI x)), (3, .int (nI k)), (2, .int (rg 11)), (1, .int (rg 10)), (0, .ref m0)] ∧ va_P D zC [(m0, .inr (3, [.ref mk, .ref mt, .int kd, .ref wo, .int wn, .ref re, .int pc, .int sta, .int dn, .int th, .ref ro, .ref aa, .ref si, .ref so, .ref la, .int (nI gd), .int (nI gl), .int (nI gt), .int (nI gr), .ref ip, .ref oq, .ref cp, .int (nI gi), .int (nI go)])), (re, .inl (cI, 32, .inl (rg))), (ro, .inl (cB, 90000, .inl (va_cpy cx rf 0 (zN (af (zN (rg 10) / 65536)) + zN (rg 10) % 65536) x))), (aa, .inl (cI, 8001, .inl (af))), (si, .inl (cI, 8001, .inl (zf))), (so, .inl (cI, 8001, .inl (of))), (la, .inl (cI, 8001, .inl (lf))), (ip, .inl (cB, 1000, .inl (jf))), (oq, .inl (cB, 4096, .inl (qf))), (cp, .inl (cB, 4000, .inl (cx)))] H ∧ va_D A [(m0, .inr (3, [.ref mk, .ref mt, .int kd, .ref wo, .int wn, .ref re, .int pc, .int sta, .int dn, .int th, .ref ro, .ref aa, .ref si, .ref so, .ref la, .int (nI gd), .int (nI gl), .int (nI gt), .int (nI gr), .ref ip, .ref oq, .ref cp, .int (nI gi), .int (nI go)])), (re, .inl (cI, 32, .inl (rg))), (ro, .inl (cB, 90000, .inl (va_cpy cx rf 0 (zN (af (zN (rg 10) / 65536)) + zN (rg 10) % 65536) x))), (aa, .inl (cI, 8001, .inl (af))), (si, .inl (cI, 8001, .inl (zf))), (so, .inl (cI, 8001, .inl (of))), (la, .inl (cI, 8001, .inl (lf))), (ip, .inl (cB, 1000, .inl (jf))), (oq, .inl (cB, 4096, .inl (qf))), (cp, .inl (cB, 4000, .inl (cx)))] ∧ va_S A s.heap H locs) (fun j x ls H locs cells slots hI ih => ?_) k 0 ls ⟨⟨by omega, rfl, rfl⟩, hl, hP, hD, hS⟩
                          obtain ⟨⟨hj2, rfl, rfl⟩, hl, hP, hD, hS⟩ := hI
                          refine lv_iload hx hb d_Mo_service_491 (lv_at hl 0 rfl) ?_
                          refine lv_iload_n hx hb d_Mo_service_493 rfl (lv_at hl 1 rfl) ?_
                          refine lv_icmp_ge (tgt := 524) hx hb d_Mo_service_494 (by decide) (fun h68 => ?_) (fun h68 => ?_)
                          · have hx0 : k = x := by have q := z_le' (by omega) h68; omega
                            subst hx0
                            have hok := copy_ok (n := k) hR (by omega) hma hmb hcx hfx
                            have hR := hok.2
                            refine lv_goto (tgt := 533) hx hb d_Mo_service_524 (by decide) ?_
                            refine lv_aload_n hx hb d_Mo_service_533 rfl (lv_at hl 4 rfl) ?_
                            refine lv_dup hx hb d_Mo_service_534 rfl ?_
                            refine zget hE hK hP 0 rfl fd_Mo_104 rfl d_Mo_service_535 ?_
                            refine lv_iconst (v := 4) hx hb d_Mo_service_538 (by decide) ?_
                            refine lv_iadd hx hb d_Mo_service_539 ?_
                            refine zput (v := .int (pc + 4)) hE hK hP hD hS 0 rfl fd_Mo_104 ft_Mo_6 rfl rfl (Nat.le_of_ble_eq_true rfl) d_Mo_service_540 (fun H locs hP hD hS => ?_)
                            have hP : va_P D zC [(m0, .inr (3, [.ref mk, .ref mt, .int kd, .ref wo, .int wn, .ref re, .int (pc + 4), .int sta, .int dn, .int th, .ref ro, .ref aa, .ref si, .ref so, .ref la, .int (nI gd), .int (nI gl), .int (nI gt), .int (nI gr), .ref ip, .ref oq, .ref cp, .int (nI gi), .int (nI go)])), (re, .inl (cI, 32, .inl (rg))), (ro, .inl (cB, 90000, .inl (va_cpy cx rf 0 (zN (af (zN (rg 10) / 65536)) + zN (rg 10) % 65536) k))), (aa, .inl (cI, 8001, .inl (af))), (si, .inl (cI, 8001, .inl (zf))), (so, .inl (cI, 8001, .inl (of))), (la, .inl (cI, 8001, .inl (lf))), (ip, .inl (cB, 1000, .inl (jf))), (oq, .inl (cB, 4096, .inl (qf))), (cp, .inl (cB, 4000, .inl (cx)))] _ := hP
                            have hD : va_D A [(m0, .inr (3, [.ref mk, .ref mt, .int kd, .ref wo, .int wn, .ref re, .int (pc + 4), .int sta, .int dn, .int th, .ref ro, .ref aa, .ref si, .ref so, .ref la, .int (nI gd), .int (nI gl), .int (nI gt), .int (nI gr), .ref ip, .ref oq, .ref cp, .int (nI gi), .int (nI go)])), (re, .inl (cI, 32, .inl (rg))), (ro, .inl (cB, 90000, .inl (va_cpy cx rf 0 (zN (af (zN (rg 10) / 65536)) + zN (rg 10) % 65536) k))), (aa, .inl (cI, 8001, .inl (af))), (si, .inl (cI, 8001, .inl (zf))), (so, .inl (cI, 8001, .inl (of))), (la, .inl (cI, 8001, .inl (lf))), (ip, .inl (cB, 1000, .inl (jf))), (oq, .inl (cB, 4096, .inl (qf))), (cp, .inl (cB, 4000, .inl (cx)))] := hD
                            have hs : xServe rg M I O sta = (0, rg, (xCopy (rg 10) (rg 11) (nI k) M).2, I, O, sta) := by unfold xServe; (rw [if_neg h1, if_neg h2, if_neg h13, if_neg h26, if_neg h35, if_neg h52, if_neg h54, if_neg h56, if_pos h61, hk0, hok.1]) <;> rfl
                            have ypc : sPc rg M I O sta pc = pc + 4 := by unfold sPc; rw [hs]; exact (if_pos rfl).trans (if_neg h1)
                            have yst : sSt rg M I O sta = sta := by unfold sSt; rw [hs]; exact if_pos rfl
                            have hP9 := hP.sub (ws' := [(m0, .inr (3, [.ref mk, .ref mt, .int kd, .ref wo, .int wn, .ref re, .int (pc + 4), .int sta, .int dn, .int th, .ref ro, .ref aa, .ref si, .ref so, .ref la, .int (nI gd), .int (nI gl), .int (nI gt), .int (nI gr), .ref ip, .ref oq, .ref cp, .int (nI gi), .int (nI go)])), (re, .inl (cI, 32, .inl (rg))), (ro, .inl (cB, 90000, .inl (va_cpy cx rf 0 (zN (af (zN (rg 10) / 65536)) + zN (rg 10) % 65536) k))), (aa, .inl (cI, 8001, .inl (af))), (si, .inl (cI, 8001, .inl (zf))), (so, .inl (cI, 8001, .inl (of))), (la, .inl (cI, 8001, .inl (lf))), (ip, .inl (cB, 1000, .inl (jf))), (oq, .inl (cB, 4096, .inl (qf))), (cp, .inl (cB, 4000, .inl (cx)))]) [0, 1, 2, 3, 4, 5, 6, 7, 8, 9] rfl
                            have hD9 := hD.sub (ws' := [(m0, .inr (3, [.ref mk, .ref mt, .int kd, .ref wo, .int wn, .ref re, .int (pc + 4), .int sta, .int dn, .int th, .ref ro, .ref aa, .ref si, .ref so, .ref la, .int (nI gd), .int (nI gl), .int (nI gt), .int (nI gr), .ref ip, .ref oq, .ref cp, .int (nI gi), .int (nI go)])), (re, .inl (cI, 32, .inl (rg))), (ro, .inl (cB, 90000, .inl (va_cpy cx rf 0 (zN (af (zN (rg 10) / 65536)) + zN (rg 10) % 65536) k))), (aa, .inl (cI, 8001, .inl (af))), (si, .inl (cI, 8001, .inl (zf))), (so, .inl (cI, 8001, .inl (of))), (la, .inl (cI, 8001, .inl (lf))), (ip, .inl (cB, 1000, .inl (jf))), (oq, .inl (cB, 4096, .inl (qf))), (cp, .inl (cB, 4000, .inl (cx)))]) [0, 1, 2, 3, 4, 5, 6, 7, 8, 9] rfl rfl
                            exact zretv hx hb hr hlocks hS ((gd, gl, gt, gr, gi, go), (af, zf, of, lf, va_cpy cx rf 0 (zN (af (zN (rg 10) / 65536)) + zN (rg 10) % 65536) k, jf, qf, cx)) (by rw [hs]; exact ⟨hR, hI0, hO⟩) rfl (by rw [ypc, yst, hs]; exact hP9) (by rw [ypc, yst, hs]; exact hD9) d_Mo_service_543
                          · have hlt2 : x < k := z_nle' (by omega) h68
                            refine lv_aload_n hx hb d_Mo_service_497 rfl (lv_at hl 4 rfl) ?_
                            refine zget hE hK hP 0 rfl fd_Mo_23 rfl d_Mo_service_498 ?_
                            refine lv_aload_n hx hb d_Mo_service_501 rfl (lv_at hl 4 rfl) ?_
                            refine lv_iload_n hx hb d_Mo_service_502 rfl (lv_at hl 3 rfl) ?_
                            refine lv_iload hx hb d_Mo_service_503 (lv_at hl 0 rfl) ?_
                            refine lv_iadd hx hb d_Mo_service_505 ?_
                            refine lv_iconst (v := 1) hx hb d_Mo_service_506 (by decide) ?_
                            refine zgoi (wr := [(re, .inl (cI, 32, .inl (rg))), (ro, .inl (cB, 90000, .inl (va_cpy cx rf 0 (zN (af (zN (rg 10) / 65536)) + zN (rg 10) % 65536) x))), (la, .inl (cI, 8001, .inl (lf))), (ip, .inl (cB, 1000, .inl (jf))), (oq, .inl (cB, 4096, .inl (qf))), (cp, .inl (cB, 4000, .inl (cx)))]) (zrunV (n := 2) (As := [.int ((rg 10) + (nI x)), .int 1]) (rest := [.ref ro]) hE (c_Mo_place l D cI cB cJ _ ((rg 10) + (nI x)) 1 m0 mk mt kd wo wn re pc sta dn th ro aa si so la (nI gd) (nI gl) (nI gt) (nI gr) ip oq cp (nI gi) (nI go) af zf of ⟨by rw [nI_toInt (by have := hR.1.1; have := hR.2.1; omega)]; omega, by rw [nI_toInt (by have := hR.1.1; have := hR.2.1; omega)]; have := hR.1.1; have := hR.2.1; omega⟩ (by decide)) cb_Mo_place lk_Mo_153 in_Mo_place se_Mo_place (zpreV (q0 := 0) hK hP hD rfl rfl rfl [0, 3, 4, 5] rfl rfl rfl) ⟨Nat.le_of_ble_eq_true rfl, Nat.le_of_ble_eq_true rfl, Nat.le_of_ble_eq_true rfl, Nat.le_of_ble_eq_true rfl⟩ rfl hl.1 rfl (Nat.le_of_ble_eq_true rfl) d_Mo_service_507) hP hD hS hA [0, 3, 4, 5] [1, 2, 6, 7, 8, 9] rfl rfl rfl (by decide) (fun r70 u71 H locs hq69 hP hD hS => ?_)
                            subst hq69
                            have hP : va_P D zC [(re, .inl (cI, 32, .inl (rg))), (ro, .inl (cB, 90000, .inl (va_cpy cx rf 0 (zN (af (zN (rg 10) / 65536)) + zN (rg 10) % 65536) x))), (la, .inl (cI, 8001, .inl (lf))), (ip, .inl (cB, 1000, .inl (jf))), (oq, .inl (cB, 4096, .inl (qf))), (cp, .inl (cB, 4000, .inl (cx))), (m0, .inr (3, [.ref mk, .ref mt, .int kd, .ref wo, .int wn, .ref re, .int pc, .int sta, .int dn, .int th, .ref ro, .ref aa, .ref si, .ref so, .ref la, .int (nI gd), .int (nI gl), .int (nI gt), .int (nI gr), .ref ip, .ref oq, .ref cp, .int (nI gi), .int (nI go)])), (aa, .inl (cI, 8001, .inl (af))), (si, .inl (cI, 8001, .inl (zf))), (so, .inl (cI, 8001, .inl (of)))] _ := hP
                            have hD : va_D A [(re, .inl (cI, 32, .inl (rg))), (ro, .inl (cB, 90000, .inl (va_cpy cx rf 0 (zN (af (zN (rg 10) / 65536)) + zN (rg 10) % 65536) x))), (la, .inl (cI, 8001, .inl (lf))), (ip, .inl (cB, 1000, .inl (jf))), (oq, .inl (cB, 4096, .inl (qf))), (cp, .inl (cB, 4000, .inl (cx))), (m0, .inr (3, [.ref mk, .ref mt, .int kd, .ref wo, .int wn, .ref re, .int pc, .int sta, .int dn, .int th, .ref ro, .ref aa, .ref si, .ref so, .ref la, .int (nI gd), .int (nI gl), .int (nI gt), .int (nI gr), .ref ip, .ref oq, .ref cp, .int (nI gi), .int (nI go)])), (aa, .inl (cI, 8001, .inl (af))), (si, .inl (cI, 8001, .inl (zf))), (so, .inl (cI, 8001, .inl (of)))] := hD
                            have pa := pl_at hR (mHn_mono hma (Nat.le_of_lt hlt2)) (mHn_mono hma hlt2)
                            have pa3 := pa.2.2
                            refine z_st (st' := [.int (nI ((zN (af (zN (rg 10) / 65536)) + zN (rg 10) % 65536) + x)), .ref ro]) (by rw [show (((sp_Mo_place ((rg 10) + (nI x)) 1 (nI gd) af zf of)) : Int32) = nI ((zN (af (zN (rg 10) / 65536)) + zN (rg 10) % 65536) + x) from pa.1]) ?_
                            refine lv_aload_n hx hb d_Mo_service_510 rfl (lv_at hl 4 rfl) ?_
                            refine zget hE hK hP 6 rfl fd_Mo_45 rfl d_Mo_service_511 ?_
                            refine lv_iload hx hb d_Mo_service_514 (lv_at hl 0 rfl) ?_
                            refine va_bald hx hb hK hP 5 1 rfl rfl (vp_in_nI (by omega) (by omega)) d_Mo_service_516 ?_
                            refine z_st (st' := [.int (cx x), .int (nI ((zN (af (zN (rg 10) / 65536)) + zN (rg 10) % 65536) + x)), .ref ro]) (by rw [show ((cx (nI x).toNatClampNeg) : Int32) = cx x from by rw [nI_clamp (by omega)]]) ?_
                            refine va_bast hx hb hK hP hD hS 1 1 rfl rfl (vp_in_nI pa3 (by omega)) d_Mo_service_517 (fun H locs hP hD hS => ?_)
                            have hP : va_P D zC [(re, .inl (cI, 32, .inl (rg))), (ro, .inl (cB, 90000, .inl (upd (va_cpy cx rf 0 (zN (af (zN (rg 10) / 65536)) + zN (rg 10) % 65536) x) (nI ((zN (af (zN (rg 10) / 65536)) + zN (rg 10) % 65536) + x)).toNatClampNeg (vp_nar .byte (cx x))))), (la, .inl (cI, 8001, .inl (lf))), (ip, .inl (cB, 1000, .inl (jf))), (oq, .inl (cB, 4096, .inl (qf))), (cp, .inl (cB, 4000, .inl (cx))), (m0, .inr (3, [.ref mk, .ref mt, .int kd, .ref wo, .int wn, .ref re, .int pc, .int sta, .int dn, .int th, .ref ro, .ref aa, .ref si, .ref so, .ref la, .int (nI gd), .int (nI gl), .int (nI gt), .int (nI gr), .ref ip, .ref oq, .ref cp, .int (nI gi), .int (nI go)])), (aa, .inl (cI, 8001, .inl (af))), (si, .inl (cI, 8001, .inl (zf))), (so, .inl (cI, 8001, .inl (of)))] _ := hP
                            have hD : va_D A [(re, .inl (cI, 32, .inl (rg))), (ro, .inl (cB, 90000, .inl (upd (va_cpy cx rf 0 (zN (af (zN (rg 10) / 65536)) + zN (rg 10) % 65536) x) (nI ((zN (af (zN (rg 10) / 65536)) + zN (rg 10) % 65536) + x)).toNatClampNeg (vp_nar .byte (cx x))))), (la, .inl (cI, 8001, .inl (lf))), (ip, .inl (cB, 1000, .inl (jf))), (oq, .inl (cB, 4096, .inl (qf))), (cp, .inl (cB, 4000, .inl (cx))), (m0, .inr (3, [.ref mk, .ref mt, .int kd, .ref wo, .int wn, .ref re, .int pc, .int sta, .int dn, .int th, .ref ro, .ref aa, .ref si, .ref so, .ref la, .int (nI gd), .int (nI gl), .int (nI gt), .int (nI gr), .ref ip, .ref oq, .ref cp, .int (nI gi), .int (nI go)])), (aa, .inl (cI, 8001, .inl (af))), (si, .inl (cI, 8001, .inl (zf))), (so, .inl (cI, 8001, .inl (of)))] := hD
                            rw [show ((upd (va_cpy cx rf 0 (zN (af (zN (rg 10) / 65536)) + zN (rg 10) % 65536) x) (nI ((zN (af (zN (rg 10) / 65536)) + zN (rg 10) % 65536) + x)).toNatClampNeg (vp_nar .byte (cx x))) : Nat → Int32) = upd (va_cpy cx rf 0 (zN (af (zN (rg 10) / 65536)) + zN (rg 10) % 65536) x) ((zN (af (zN (rg 10) / 65536)) + zN (rg 10) % 65536) + x) (cx x) from by rw [nI_clamp (by omega), nar_fit (hfx x hlt2)]] at hP hD
                            have hP : va_P D zC [(re, .inl (cI, 32, .inl (rg))), (ro, .inl (cB, 90000, .inl (upd (va_cpy cx rf 0 (zN (af (zN (rg 10) / 65536)) + zN (rg 10) % 65536) x) ((zN (af (zN (rg 10) / 65536)) + zN (rg 10) % 65536) + x) (cx x)))), (la, .inl (cI, 8001, .inl (lf))), (ip, .inl (cB, 1000, .inl (jf))), (oq, .inl (cB, 4096, .inl (qf))), (cp, .inl (cB, 4000, .inl (cx))), (m0, .inr (3, [.ref mk, .ref mt, .int kd, .ref wo, .int wn, .ref re, .int pc, .int sta, .int dn, .int th, .ref ro, .ref aa, .ref si, .ref so, .ref la, .int (nI gd), .int (nI gl), .int (nI gt), .int (nI gr), .ref ip, .ref oq, .ref cp, .int (nI gi), .int (nI go)])), (aa, .inl (cI, 8001, .inl (af))), (si, .inl (cI, 8001, .inl (zf))), (so, .inl (cI, 8001, .inl (of)))] _ := hP
                            have hD : va_D A [(re, .inl (cI, 32, .inl (rg))), (ro, .inl (cB, 90000, .inl (upd (va_cpy cx rf 0 (zN (af (zN (rg 10) / 65536)) + zN (rg 10) % 65536) x) ((zN (af (zN (rg 10) / 65536)) + zN (rg 10) % 65536) + x) (cx x)))), (la, .inl (cI, 8001, .inl (lf))), (ip, .inl (cB, 1000, .inl (jf))), (oq, .inl (cB, 4096, .inl (qf))), (cp, .inl (cB, 4000, .inl (cx))), (m0, .inr (3, [.ref mk, .ref mt, .int kd, .ref wo, .int wn, .ref re, .int pc, .int sta, .int dn, .int th, .ref ro, .ref aa, .ref si, .ref so, .ref la, .int (nI gd), .int (nI gl), .int (nI gt), .int (nI gr), .ref ip, .ref oq, .ref cp, .int (nI gi), .int (nI go)])), (aa, .inl (cI, 8001, .inl (af))), (si, .inl (cI, 8001, .inl (zf))), (so, .inl (cI, 8001, .inl (of)))] := hD
                            refine lv_iinc (k := 0) (v := (nI x) + 1) (lv' := [(5, .int ((nI x) + 1)), (3, .int (nI k)), (2, .int (rg 11)), (1, .int (rg 10)), (0, .ref m0)]) hx hb d_Mo_service_518 hl rfl rfl (by decide) rfl (fun ls hl => ?_)
                            refine lv_goto (tgt := 491) hx hb d_Mo_service_521 (by decide) ?_
                            rw [nI_1] at hl
                            rw [show ((upd (va_cpy cx rf 0 (zN (af (zN (rg 10) / 65536)) + zN (rg 10) % 65536) x) ((zN (af (zN (rg 10) / 65536)) + zN (rg 10) % 65536) + x) (cx x)) : Nat → Int32) = va_cpy cx rf 0 (zN (af (zN (rg 10) / 65536)) + zN (rg 10) % 65536) (x + 1) from cc_s cx rf (zN (af (zN (rg 10) / 65536)) + zN (rg 10) % 65536) x] at hP hD
                            have hP : va_P D zC [(re, .inl (cI, 32, .inl (rg))), (ro, .inl (cB, 90000, .inl (va_cpy cx rf 0 (zN (af (zN (rg 10) / 65536)) + zN (rg 10) % 65536) (x + 1)))), (la, .inl (cI, 8001, .inl (lf))), (ip, .inl (cB, 1000, .inl (jf))), (oq, .inl (cB, 4096, .inl (qf))), (cp, .inl (cB, 4000, .inl (cx))), (m0, .inr (3, [.ref mk, .ref mt, .int kd, .ref wo, .int wn, .ref re, .int pc, .int sta, .int dn, .int th, .ref ro, .ref aa, .ref si, .ref so, .ref la, .int (nI gd), .int (nI gl), .int (nI gt), .int (nI gr), .ref ip, .ref oq, .ref cp, .int (nI gi), .int (nI go)])), (aa, .inl (cI, 8001, .inl (af))), (si, .inl (cI, 8001, .inl (zf))), (so, .inl (cI, 8001, .inl (of)))] _ := hP
                            have hD : va_D A [(re, .inl (cI, 32, .inl (rg))), (ro, .inl (cB, 90000, .inl (va_cpy cx rf 0 (zN (af (zN (rg 10) / 65536)) + zN (rg 10) % 65536) (x + 1)))), (la, .inl (cI, 8001, .inl (lf))), (ip, .inl (cB, 1000, .inl (jf))), (oq, .inl (cB, 4096, .inl (qf))), (cp, .inl (cB, 4000, .inl (cx))), (m0, .inr (3, [.ref mk, .ref mt, .int kd, .ref wo, .int wn, .ref re, .int pc, .int sta, .int dn, .int th, .ref ro, .ref aa, .ref si, .ref so, .ref la, .int (nI gd), .int (nI gl), .int (nI gt), .int (nI gr), .ref ip, .ref oq, .ref cp, .int (nI gi), .int (nI go)])), (aa, .inl (cI, 8001, .inl (af))), (si, .inl (cI, 8001, .inl (zf))), (so, .inl (cI, 8001, .inl (of)))] := hD
                            have hP := hP.sub (ws' := [(m0, .inr (3, [.ref mk, .ref mt, .int kd, .ref wo, .int wn, .ref re, .int pc, .int sta, .int dn, .int th, .ref ro, .ref aa, .ref si, .ref so, .ref la, .int (nI gd), .int (nI gl), .int (nI gt), .int (nI gr), .ref ip, .ref oq, .ref cp, .int (nI gi), .int (nI go)])), (re, .inl (cI, 32, .inl (rg))), (ro, .inl (cB, 90000, .inl (va_cpy cx rf 0 (zN (af (zN (rg 10) / 65536)) + zN (rg 10) % 65536) (x + 1)))), (aa, .inl (cI, 8001, .inl (af))), (si, .inl (cI, 8001, .inl (zf))), (so, .inl (cI, 8001, .inl (of))), (la, .inl (cI, 8001, .inl (lf))), (ip, .inl (cB, 1000, .inl (jf))), (oq, .inl (cB, 4096, .inl (qf))), (cp, .inl (cB, 4000, .inl (cx)))]) [6, 0, 1, 7, 8, 9, 2, 3, 4, 5] rfl
                            have hD := hD.sub (ws' := [(m0, .inr (3, [.ref mk, .ref mt, .int kd, .ref wo, .int wn, .ref re, .int pc, .int sta, .int dn, .int th, .ref ro, .ref aa, .ref si, .ref so, .ref la, .int (nI gd), .int (nI gl), .int (nI gt), .int (nI gr), .ref ip, .ref oq, .ref cp, .int (nI gi), .int (nI go)])), (re, .inl (cI, 32, .inl (rg))), (ro, .inl (cB, 90000, .inl (va_cpy cx rf 0 (zN (af (zN (rg 10) / 65536)) + zN (rg 10) % 65536) (x + 1)))), (aa, .inl (cI, 8001, .inl (af))), (si, .inl (cI, 8001, .inl (zf))), (so, .inl (cI, 8001, .inl (of))), (la, .inl (cI, 8001, .inl (lf))), (ip, .inl (cB, 1000, .inl (jf))), (oq, .inl (cB, 4096, .inl (qf))), (cp, .inl (cB, 4000, .inl (cx)))]) [6, 0, 1, 7, 8, 9, 2, 3, 4, 5] rfl rfl
                            exact ih (j - 1) (x + 1) ls H locs 0 0 (by omega) ⟨⟨by omega, rfl, rfl⟩, hl, hP, hD, hS⟩
                        · have hlt : k < kn := z_nle' (by omega) h67
                          refine lv_aload_n hx hb d_Mo_service_431 rfl (lv_at hl 4 rfl) ?_
                          refine lv_iload_n hx hb d_Mo_service_432 rfl (lv_at hl 2 rfl) ?_
                          refine lv_iload hx hb d_Mo_service_433 (lv_at hl 0 rfl) ?_
                          refine lv_iadd hx hb d_Mo_service_435 ?_
                          refine lv_iconst (v := 1) hx hb d_Mo_service_436 (by decide) ?_
                          refine zgoi (wr := [(re, .inl (cI, 32, .inl (rg))), (ro, .inl (cB, 90000, .inl (rf))), (la, .inl (cI, 8001, .inl (lf))), (ip, .inl (cB, 1000, .inl (jf))), (oq, .inl (cB, 4096, .inl (qf))), (cp, .inl (cB, 4000, .inl (cx)))]) (zrunV (n := 2) (As := [.int ((rg 11) + (nI k)), .int 1]) (rest := []) hE (c_Mo_place l D cI cB cJ _ ((rg 11) + (nI k)) 1 m0 mk mt kd wo wn re pc sta dn th ro aa si so la (nI gd) (nI gl) (nI gt) (nI gr) ip oq cp (nI gi) (nI go) af zf of ⟨by rw [nI_toInt (by have := hR.1.1; have := hR.2.1; omega)]; omega, by rw [nI_toInt (by have := hR.1.1; have := hR.2.1; omega)]; have := hR.1.1; have := hR.2.1; omega⟩ (by decide)) cb_Mo_place lk_Mo_153 in_Mo_place se_Mo_place (zpreV (q0 := 0) hK hP hD rfl rfl rfl [0, 3, 4, 5] rfl rfl rfl) ⟨Nat.le_of_ble_eq_true rfl, Nat.le_of_ble_eq_true rfl, Nat.le_of_ble_eq_true rfl, Nat.le_of_ble_eq_true rfl⟩ rfl hl.1 rfl (Nat.le_of_ble_eq_true rfl) d_Mo_service_437) hP hD hS hA [0, 3, 4, 5] [1, 2, 6, 7, 8, 9] rfl rfl rfl (by decide) (fun r73 u74 H locs hq72 hP hD hS => ?_)
                          subst hq72
                          have hP : va_P D zC [(re, .inl (cI, 32, .inl (rg))), (ro, .inl (cB, 90000, .inl (rf))), (la, .inl (cI, 8001, .inl (lf))), (ip, .inl (cB, 1000, .inl (jf))), (oq, .inl (cB, 4096, .inl (qf))), (cp, .inl (cB, 4000, .inl (cx))), (m0, .inr (3, [.ref mk, .ref mt, .int kd, .ref wo, .int wn, .ref re, .int pc, .int sta, .int dn, .int th, .ref ro, .ref aa, .ref si, .ref so, .ref la, .int (nI gd), .int (nI gl), .int (nI gt), .int (nI gr), .ref ip, .ref oq, .ref cp, .int (nI gi), .int (nI go)])), (aa, .inl (cI, 8001, .inl (af))), (si, .inl (cI, 8001, .inl (zf))), (so, .inl (cI, 8001, .inl (of)))] _ := hP
                          have hD : va_D A [(re, .inl (cI, 32, .inl (rg))), (ro, .inl (cB, 90000, .inl (rf))), (la, .inl (cI, 8001, .inl (lf))), (ip, .inl (cB, 1000, .inl (jf))), (oq, .inl (cB, 4096, .inl (qf))), (cp, .inl (cB, 4000, .inl (cx))), (m0, .inr (3, [.ref mk, .ref mt, .int kd, .ref wo, .int wn, .ref re, .int pc, .int sta, .int dn, .int th, .ref ro, .ref aa, .ref si, .ref so, .ref la, .int (nI gd), .int (nI gl), .int (nI gt), .int (nI gr), .ref ip, .ref oq, .ref cp, .int (nI gi), .int (nI go)])), (aa, .inl (cI, 8001, .inl (af))), (si, .inl (cI, 8001, .inl (zf))), (so, .inl (cI, 8001, .inl (of)))] := hD
                          rcases Classical.em (mHn M (rg 11) (k + 1)) with hb1 | hb1
                          · have pb := pl_at hR hmb hb1
                            have pb3 := pb.2.2
                            refine z_st (st' := [.int (nI ((zN (af (zN (rg 11) / 65536)) + zN (rg 11) % 65536) + k))]) (by rw [show (((sp_Mo_place ((rg 11) + (nI k)) 1 (nI gd) af zf of)) : Int32) = nI ((zN (af (zN (rg 11) / 65536)) + zN (rg 11) % 65536) + k) from pb.1]) ?_
                            refine lv_if_lt (tgt := 455) hx hb d_Mo_service_440 (by decide) (fun h75 => (show False by exact nI_pos (by omega) h75).elim) (fun h75 => ?_)
                            refine lv_aload_n hx hb d_Mo_service_443 rfl (lv_at hl 4 rfl) ?_
                            refine lv_iload_n hx hb d_Mo_service_444 rfl (lv_at hl 3 rfl) ?_
                            refine lv_iload hx hb d_Mo_service_445 (lv_at hl 0 rfl) ?_
                            refine lv_iadd hx hb d_Mo_service_447 ?_
                            refine lv_iconst (v := 1) hx hb d_Mo_service_448 (by decide) ?_
                            refine zgoi (wr := [(re, .inl (cI, 32, .inl (rg))), (ro, .inl (cB, 90000, .inl (rf))), (la, .inl (cI, 8001, .inl (lf))), (ip, .inl (cB, 1000, .inl (jf))), (oq, .inl (cB, 4096, .inl (qf))), (cp, .inl (cB, 4000, .inl (cx)))]) (zrunV (n := 2) (As := [.int ((rg 10) + (nI k)), .int 1]) (rest := []) hE (c_Mo_place l D cI cB cJ _ ((rg 10) + (nI k)) 1 m0 mk mt kd wo wn re pc sta dn th ro aa si so la (nI gd) (nI gl) (nI gt) (nI gr) ip oq cp (nI gi) (nI go) af zf of ⟨by rw [nI_toInt (by have := hR.1.1; have := hR.2.1; omega)]; omega, by rw [nI_toInt (by have := hR.1.1; have := hR.2.1; omega)]; have := hR.1.1; have := hR.2.1; omega⟩ (by decide)) cb_Mo_place lk_Mo_153 in_Mo_place se_Mo_place (zpreV (q0 := 6) hK hP hD rfl rfl rfl [6, 7, 8, 9] rfl rfl rfl) ⟨Nat.le_of_ble_eq_true rfl, Nat.le_of_ble_eq_true rfl, Nat.le_of_ble_eq_true rfl, Nat.le_of_ble_eq_true rfl⟩ rfl hl.1 rfl (Nat.le_of_ble_eq_true rfl) d_Mo_service_449) hP hD hS hA [6, 7, 8, 9] [0, 1, 2, 3, 4, 5] rfl rfl rfl (by decide) (fun r77 u78 H locs hq76 hP hD hS => ?_)
                            subst hq76
                            have hP : va_P D zC [(re, .inl (cI, 32, .inl (rg))), (ro, .inl (cB, 90000, .inl (rf))), (la, .inl (cI, 8001, .inl (lf))), (ip, .inl (cB, 1000, .inl (jf))), (oq, .inl (cB, 4096, .inl (qf))), (cp, .inl (cB, 4000, .inl (cx))), (m0, .inr (3, [.ref mk, .ref mt, .int kd, .ref wo, .int wn, .ref re, .int pc, .int sta, .int dn, .int th, .ref ro, .ref aa, .ref si, .ref so, .ref la, .int (nI gd), .int (nI gl), .int (nI gt), .int (nI gr), .ref ip, .ref oq, .ref cp, .int (nI gi), .int (nI go)])), (aa, .inl (cI, 8001, .inl (af))), (si, .inl (cI, 8001, .inl (zf))), (so, .inl (cI, 8001, .inl (of)))] _ := hP
                            have hD : va_D A [(re, .inl (cI, 32, .inl (rg))), (ro, .inl (cB, 90000, .inl (rf))), (la, .inl (cI, 8001, .inl (lf))), (ip, .inl (cB, 1000, .inl (jf))), (oq, .inl (cB, 4096, .inl (qf))), (cp, .inl (cB, 4000, .inl (cx))), (m0, .inr (3, [.ref mk, .ref mt, .int kd, .ref wo, .int wn, .ref re, .int pc, .int sta, .int dn, .int th, .ref ro, .ref aa, .ref si, .ref so, .ref la, .int (nI gd), .int (nI gl), .int (nI gt), .int (nI gr), .ref ip, .ref oq, .ref cp, .int (nI gi), .int (nI go)])), (aa, .inl (cI, 8001, .inl (af))), (si, .inl (cI, 8001, .inl (zf))), (so, .inl (cI, 8001, .inl (of)))] := hD
                            rcases Classical.em (mHn M (rg 10) (k + 1)) with ha1 | ha1
                            · have pa := pl_at hR hma ha1
                              have pa3 := pa.2.2
                              refine z_st (st' := [.int (nI ((zN (af (zN (rg 10) / 65536)) + zN (rg 10) % 65536) + k))]) (by rw [show (((sp_Mo_place ((rg 10) + (nI k)) 1 (nI gd) af zf of)) : Int32) = nI ((zN (af (zN (rg 10) / 65536)) + zN (rg 10) % 65536) + k) from pa.1]) ?_
                              refine lv_if_ge (tgt := 461) hx hb d_Mo_service_452 (by decide) (fun h79 => ?_) (fun h79 => (show False by exact h79 (nI_pos' (by omega))).elim)
                              refine lv_aload_n hx hb d_Mo_service_461 rfl (lv_at hl 4 rfl) ?_
                              refine zget hE hK hP 6 rfl fd_Mo_45 rfl d_Mo_service_462 ?_
                              refine lv_iload hx hb d_Mo_service_465 (lv_at hl 0 rfl) ?_
                              refine lv_aload_n hx hb d_Mo_service_467 rfl (lv_at hl 4 rfl) ?_
                              refine zget hE hK hP 6 rfl fd_Mo_23 rfl d_Mo_service_468 ?_
                              refine lv_aload_n hx hb d_Mo_service_471 rfl (lv_at hl 4 rfl) ?_
                              refine lv_iload_n hx hb d_Mo_service_472 rfl (lv_at hl 2 rfl) ?_
                              refine lv_iload hx hb d_Mo_service_473 (lv_at hl 0 rfl) ?_
                              refine lv_iadd hx hb d_Mo_service_475 ?_
                              refine lv_iconst (v := 1) hx hb d_Mo_service_476 (by decide) ?_
                              refine zgoi (wr := [(re, .inl (cI, 32, .inl (rg))), (ro, .inl (cB, 90000, .inl (rf))), (la, .inl (cI, 8001, .inl (lf))), (ip, .inl (cB, 1000, .inl (jf))), (oq, .inl (cB, 4096, .inl (qf))), (cp, .inl (cB, 4000, .inl (cx)))]) (zrunV (n := 2) (As := [.int ((rg 11) + (nI k)), .int 1]) (rest := [.ref ro, .int (nI k), .ref cp]) hE (c_Mo_place l D cI cB cJ _ ((rg 11) + (nI k)) 1 m0 mk mt kd wo wn re pc sta dn th ro aa si so la (nI gd) (nI gl) (nI gt) (nI gr) ip oq cp (nI gi) (nI go) af zf of ⟨by rw [nI_toInt (by have := hR.1.1; have := hR.2.1; omega)]; omega, by rw [nI_toInt (by have := hR.1.1; have := hR.2.1; omega)]; have := hR.1.1; have := hR.2.1; omega⟩ (by decide)) cb_Mo_place lk_Mo_153 in_Mo_place se_Mo_place (zpreV (q0 := 6) hK hP hD rfl rfl rfl [6, 7, 8, 9] rfl rfl rfl) ⟨Nat.le_of_ble_eq_true rfl, Nat.le_of_ble_eq_true rfl, Nat.le_of_ble_eq_true rfl, Nat.le_of_ble_eq_true rfl⟩ rfl hl.1 rfl (Nat.le_of_ble_eq_true rfl) d_Mo_service_477) hP hD hS hA [6, 7, 8, 9] [0, 1, 2, 3, 4, 5] rfl rfl rfl (by decide) (fun r81 u82 H locs hq80 hP hD hS => ?_)
                              subst hq80
                              have hP : va_P D zC [(re, .inl (cI, 32, .inl (rg))), (ro, .inl (cB, 90000, .inl (rf))), (la, .inl (cI, 8001, .inl (lf))), (ip, .inl (cB, 1000, .inl (jf))), (oq, .inl (cB, 4096, .inl (qf))), (cp, .inl (cB, 4000, .inl (cx))), (m0, .inr (3, [.ref mk, .ref mt, .int kd, .ref wo, .int wn, .ref re, .int pc, .int sta, .int dn, .int th, .ref ro, .ref aa, .ref si, .ref so, .ref la, .int (nI gd), .int (nI gl), .int (nI gt), .int (nI gr), .ref ip, .ref oq, .ref cp, .int (nI gi), .int (nI go)])), (aa, .inl (cI, 8001, .inl (af))), (si, .inl (cI, 8001, .inl (zf))), (so, .inl (cI, 8001, .inl (of)))] _ := hP
                              have hD : va_D A [(re, .inl (cI, 32, .inl (rg))), (ro, .inl (cB, 90000, .inl (rf))), (la, .inl (cI, 8001, .inl (lf))), (ip, .inl (cB, 1000, .inl (jf))), (oq, .inl (cB, 4096, .inl (qf))), (cp, .inl (cB, 4000, .inl (cx))), (m0, .inr (3, [.ref mk, .ref mt, .int kd, .ref wo, .int wn, .ref re, .int pc, .int sta, .int dn, .int th, .ref ro, .ref aa, .ref si, .ref so, .ref la, .int (nI gd), .int (nI gl), .int (nI gt), .int (nI gr), .ref ip, .ref oq, .ref cp, .int (nI gi), .int (nI go)])), (aa, .inl (cI, 8001, .inl (af))), (si, .inl (cI, 8001, .inl (zf))), (so, .inl (cI, 8001, .inl (of)))] := hD
                              refine z_st (st' := [.int (nI ((zN (af (zN (rg 11) / 65536)) + zN (rg 11) % 65536) + k)), .ref ro, .int (nI k), .ref cp]) (by rw [show (((sp_Mo_place ((rg 11) + (nI k)) 1 (nI gd) af zf of)) : Int32) = nI ((zN (af (zN (rg 11) / 65536)) + zN (rg 11) % 65536) + k) from pb.1]) ?_
                              refine va_bald hx hb hK hP 1 1 rfl rfl (vp_in_nI pb3 (by omega)) d_Mo_service_480 ?_
                              refine z_st (st' := [.int ((mCt M (zN (rg 11) / 65536) (zN (rg 11) % 65536 + k))), .int (nI k), .ref cp]) (by rw [show ((rf (nI ((zN (af (zN (rg 11) / 65536)) + zN (rg 11) % 65536) + k)).toNatClampNeg) : Int32) = (mCt M (zN (rg 11) / 65536) (zN (rg 11) % 65536 + k)) from by rw [nI_clamp (by omega)]; exact pb.2.1]) ?_
                              refine va_bast hx hb hK hP hD hS 5 1 rfl rfl (vp_in_nI (by omega) (by omega)) d_Mo_service_481 (fun H locs hP hD hS => ?_)
                              have hP : va_P D zC [(re, .inl (cI, 32, .inl (rg))), (ro, .inl (cB, 90000, .inl (rf))), (la, .inl (cI, 8001, .inl (lf))), (ip, .inl (cB, 1000, .inl (jf))), (oq, .inl (cB, 4096, .inl (qf))), (cp, .inl (cB, 4000, .inl (upd cx (nI k).toNatClampNeg (vp_nar .byte (mCt M (zN (rg 11) / 65536) (zN (rg 11) % 65536 + k)))))), (m0, .inr (3, [.ref mk, .ref mt, .int kd, .ref wo, .int wn, .ref re, .int pc, .int sta, .int dn, .int th, .ref ro, .ref aa, .ref si, .ref so, .ref la, .int (nI gd), .int (nI gl), .int (nI gt), .int (nI gr), .ref ip, .ref oq, .ref cp, .int (nI gi), .int (nI go)])), (aa, .inl (cI, 8001, .inl (af))), (si, .inl (cI, 8001, .inl (zf))), (so, .inl (cI, 8001, .inl (of)))] _ := hP
                              have hD : va_D A [(re, .inl (cI, 32, .inl (rg))), (ro, .inl (cB, 90000, .inl (rf))), (la, .inl (cI, 8001, .inl (lf))), (ip, .inl (cB, 1000, .inl (jf))), (oq, .inl (cB, 4096, .inl (qf))), (cp, .inl (cB, 4000, .inl (upd cx (nI k).toNatClampNeg (vp_nar .byte (mCt M (zN (rg 11) / 65536) (zN (rg 11) % 65536 + k)))))), (m0, .inr (3, [.ref mk, .ref mt, .int kd, .ref wo, .int wn, .ref re, .int pc, .int sta, .int dn, .int th, .ref ro, .ref aa, .ref si, .ref so, .ref la, .int (nI gd), .int (nI gl), .int (nI gt), .int (nI gr), .ref ip, .ref oq, .ref cp, .int (nI gi), .int (nI go)])), (aa, .inl (cI, 8001, .inl (af))), (si, .inl (cI, 8001, .inl (zf))), (so, .inl (cI, 8001, .inl (of)))] := hD
                              rw [show ((upd cx (nI k).toNatClampNeg (vp_nar .byte (mCt M (zN (rg 11) / 65536) (zN (rg 11) % 65536 + k)))) : Nat → Int32) = upd cx k (mCt M (zN (rg 11) / 65536) (zN (rg 11) % 65536 + k)) from by rw [nI_clamp (by omega), nar_fit (by rw [← pb.2.1]; exact hR.2.2.2.2.2.1 _ pb3)]] at hP hD
                              have hP : va_P D zC [(re, .inl (cI, 32, .inl (rg))), (ro, .inl (cB, 90000, .inl (rf))), (la, .inl (cI, 8001, .inl (lf))), (ip, .inl (cB, 1000, .inl (jf))), (oq, .inl (cB, 4096, .inl (qf))), (cp, .inl (cB, 4000, .inl (upd cx k (mCt M (zN (rg 11) / 65536) (zN (rg 11) % 65536 + k))))), (m0, .inr (3, [.ref mk, .ref mt, .int kd, .ref wo, .int wn, .ref re, .int pc, .int sta, .int dn, .int th, .ref ro, .ref aa, .ref si, .ref so, .ref la, .int (nI gd), .int (nI gl), .int (nI gt), .int (nI gr), .ref ip, .ref oq, .ref cp, .int (nI gi), .int (nI go)])), (aa, .inl (cI, 8001, .inl (af))), (si, .inl (cI, 8001, .inl (zf))), (so, .inl (cI, 8001, .inl (of)))] _ := hP
                              have hD : va_D A [(re, .inl (cI, 32, .inl (rg))), (ro, .inl (cB, 90000, .inl (rf))), (la, .inl (cI, 8001, .inl (lf))), (ip, .inl (cB, 1000, .inl (jf))), (oq, .inl (cB, 4096, .inl (qf))), (cp, .inl (cB, 4000, .inl (upd cx k (mCt M (zN (rg 11) / 65536) (zN (rg 11) % 65536 + k))))), (m0, .inr (3, [.ref mk, .ref mt, .int kd, .ref wo, .int wn, .ref re, .int pc, .int sta, .int dn, .int th, .ref ro, .ref aa, .ref si, .ref so, .ref la, .int (nI gd), .int (nI gl), .int (nI gt), .int (nI gr), .ref ip, .ref oq, .ref cp, .int (nI gi), .int (nI go)])), (aa, .inl (cI, 8001, .inl (af))), (si, .inl (cI, 8001, .inl (zf))), (so, .inl (cI, 8001, .inl (of)))] := hD
                              refine lv_iinc (k := 0) (v := (nI k) + 1) (lv' := [(5, .int ((nI k) + 1)), (3, .int (nI kn)), (2, .int (rg 11)), (1, .int (rg 10)), (0, .ref m0)]) hx hb d_Mo_service_482 hl rfl rfl (by decide) rfl (fun ls hl => ?_)
                              refine lv_goto (tgt := 425) hx hb d_Mo_service_485 (by decide) ?_
                              rw [nI_1] at hl
                              have hP := hP.sub (ws' := [(m0, .inr (3, [.ref mk, .ref mt, .int kd, .ref wo, .int wn, .ref re, .int pc, .int sta, .int dn, .int th, .ref ro, .ref aa, .ref si, .ref so, .ref la, .int (nI gd), .int (nI gl), .int (nI gt), .int (nI gr), .ref ip, .ref oq, .ref cp, .int (nI gi), .int (nI go)])), (re, .inl (cI, 32, .inl (rg))), (ro, .inl (cB, 90000, .inl (rf))), (aa, .inl (cI, 8001, .inl (af))), (si, .inl (cI, 8001, .inl (zf))), (so, .inl (cI, 8001, .inl (of))), (la, .inl (cI, 8001, .inl (lf))), (ip, .inl (cB, 1000, .inl (jf))), (oq, .inl (cB, 4096, .inl (qf))), (cp, .inl (cB, 4000, .inl (upd cx k (mCt M (zN (rg 11) / 65536) (zN (rg 11) % 65536 + k)))))]) [6, 0, 1, 7, 8, 9, 2, 3, 4, 5] rfl
                              have hD := hD.sub (ws' := [(m0, .inr (3, [.ref mk, .ref mt, .int kd, .ref wo, .int wn, .ref re, .int pc, .int sta, .int dn, .int th, .ref ro, .ref aa, .ref si, .ref so, .ref la, .int (nI gd), .int (nI gl), .int (nI gt), .int (nI gr), .ref ip, .ref oq, .ref cp, .int (nI gi), .int (nI go)])), (re, .inl (cI, 32, .inl (rg))), (ro, .inl (cB, 90000, .inl (rf))), (aa, .inl (cI, 8001, .inl (af))), (si, .inl (cI, 8001, .inl (zf))), (so, .inl (cI, 8001, .inl (of))), (la, .inl (cI, 8001, .inl (lf))), (ip, .inl (cB, 1000, .inl (jf))), (oq, .inl (cB, 4096, .inl (qf))), (cp, .inl (cB, 4000, .inl (upd cx k (mCt M (zN (rg 11) / 65536) (zN (rg 11) % 65536 + k)))))]) [6, 0, 1, 7, 8, 9, 2, 3, 4, 5] rfl rfl
                              exact ih (j - 1) (k + 1, upd cx k (mCt M (zN (rg 11) / 65536) (zN (rg 11) % 65536 + k))) ls H locs 0 0 (by omega) ⟨⟨by show k + 1 + (j - 1) = kn; omega, hb1, ha1, cx_s (F := fun i => mCt M (zN (rg 11) / 65536) (zN (rg 11) % 65536 + i)) hcx, rfl, rfl⟩, hl, hP, hD, hS⟩
                            · have pa := pl_no hR hma ha1
                              refine z_st (st' := [.int ((-1))]) (by rw [show (((sp_Mo_place ((rg 10) + (nI k)) 1 (nI gd) af zf of)) : Int32) = (-1) from pa]) ?_
                              refine lv_if_ge (tgt := 461) hx hb d_Mo_service_452 (by decide) (fun h83 => (show False by revert h83; decide).elim) (fun h83 => ?_)
                              have hcp : xCopy (rg 10) (rg 11) (rg 12) M = (2, M) := by rw [hk0]; exact copy_bad hMI (x := k + 1) (n := kn) (by omega) (by omega) (by omega) (Or.inr ha1)
                              refine lv_aload_n hx hb d_Mo_service_455 rfl (lv_at hl 4 rfl) ?_
                              refine lv_iconst (v := 2) hx hb d_Mo_service_456 (by decide) ?_
                              refine zgov (wr := [(re, .inl (cI, 32, .inl (rg))), (ro, .inl (cB, 90000, .inl (rf))), (la, .inl (cI, 8001, .inl (lf))), (ip, .inl (cB, 1000, .inl (jf))), (oq, .inl (cB, 4096, .inl (qf))), (cp, .inl (cB, 4000, .inl (cx))), (aa, .inl (cI, 8001, .inl (af))), (si, .inl (cI, 8001, .inl (zf))), (so, .inl (cI, 8001, .inl (of)))]) (zrunV (n := 1) (As := [.int 2]) (rest := []) hE (c_Mo_trap l D cI cB cJ _ 2 m0 mk mt kd wo wn re pc sta dn th ro aa si so la (nI gd) (nI gl) (nI gt) (nI gr) ip oq cp (nI gi) (nI go)) cb_Mo_trap lk_Mo_100 in_Mo_trap se_Mo_trap (zpreV (q0 := 6) hK hP hD rfl rfl rfl [6] rfl rfl rfl) ⟨Nat.le_of_ble_eq_true rfl, Nat.le_of_ble_eq_true rfl, Nat.le_of_ble_eq_true rfl, Nat.le_of_ble_eq_true rfl⟩ rfl hl.1 rfl (Nat.le_of_ble_eq_true rfl) d_Mo_service_457) hP hD hS hA [6] [0, 1, 2, 3, 4, 5, 7, 8, 9] rfl rfl rfl (by decide) (fun u86 H locs hq84 hP hD hS => ?_)
                              clear hq84
                              have hP : va_P D zC [(re, .inl (cI, 32, .inl (rg))), (ro, .inl (cB, 90000, .inl (rf))), (la, .inl (cI, 8001, .inl (lf))), (ip, .inl (cB, 1000, .inl (jf))), (oq, .inl (cB, 4096, .inl (qf))), (cp, .inl (cB, 4000, .inl (cx))), (aa, .inl (cI, 8001, .inl (af))), (si, .inl (cI, 8001, .inl (zf))), (so, .inl (cI, 8001, .inl (of))), (m0, .inr (3, [.ref mk, .ref mt, .int kd, .ref wo, .int wn, .ref re, .int pc, .int ((sp_Mo_trap 2)), .int dn, .int th, .ref ro, .ref aa, .ref si, .ref so, .ref la, .int (nI gd), .int (nI gl), .int (nI gt), .int (nI gr), .ref ip, .ref oq, .ref cp, .int (nI gi), .int (nI go)]))] _ := hP
                              have hD : va_D A [(re, .inl (cI, 32, .inl (rg))), (ro, .inl (cB, 90000, .inl (rf))), (la, .inl (cI, 8001, .inl (lf))), (ip, .inl (cB, 1000, .inl (jf))), (oq, .inl (cB, 4096, .inl (qf))), (cp, .inl (cB, 4000, .inl (cx))), (aa, .inl (cI, 8001, .inl (af))), (si, .inl (cI, 8001, .inl (zf))), (so, .inl (cI, 8001, .inl (of))), (m0, .inr (3, [.ref mk, .ref mt, .int kd, .ref wo, .int wn, .ref re, .int pc, .int ((sp_Mo_trap 2)), .int dn, .int th, .ref ro, .ref aa, .ref si, .ref so, .ref la, .int (nI gd), .int (nI gl), .int (nI gt), .int (nI gr), .ref ip, .ref oq, .ref cp, .int (nI gi), .int (nI go)]))] := hD
                              have hs : xServe rg M I O sta = (2, rg, M, I, O, sta) := by unfold xServe; (rw [if_neg h1, if_neg h2, if_neg h13, if_neg h26, if_neg h35, if_neg h52, if_neg h54, if_neg h56, if_pos h61, hcp]) <;> rfl
                              have ypc : sPc rg M I O sta pc = pc := by unfold sPc; rw [hs]; exact if_neg (show ¬ ((2) : Int32) = 0 by decide)
                              have yst : sSt rg M I O sta = (sp_Mo_trap 2) := by unfold sSt; rw [hs]; exact if_neg (show ¬ ((2) : Int32) = 0 by decide)
                              have hP9 := hP.sub (ws' := [(m0, .inr (3, [.ref mk, .ref mt, .int kd, .ref wo, .int wn, .ref re, .int pc, .int ((sp_Mo_trap 2)), .int dn, .int th, .ref ro, .ref aa, .ref si, .ref so, .ref la, .int (nI gd), .int (nI gl), .int (nI gt), .int (nI gr), .ref ip, .ref oq, .ref cp, .int (nI gi), .int (nI go)])), (re, .inl (cI, 32, .inl (rg))), (ro, .inl (cB, 90000, .inl (rf))), (aa, .inl (cI, 8001, .inl (af))), (si, .inl (cI, 8001, .inl (zf))), (so, .inl (cI, 8001, .inl (of))), (la, .inl (cI, 8001, .inl (lf))), (ip, .inl (cB, 1000, .inl (jf))), (oq, .inl (cB, 4096, .inl (qf))), (cp, .inl (cB, 4000, .inl (cx)))]) [9, 0, 1, 6, 7, 8, 2, 3, 4, 5] rfl
                              have hD9 := hD.sub (ws' := [(m0, .inr (3, [.ref mk, .ref mt, .int kd, .ref wo, .int wn, .ref re, .int pc, .int ((sp_Mo_trap 2)), .int dn, .int th, .ref ro, .ref aa, .ref si, .ref so, .ref la, .int (nI gd), .int (nI gl), .int (nI gt), .int (nI gr), .ref ip, .ref oq, .ref cp, .int (nI gi), .int (nI go)])), (re, .inl (cI, 32, .inl (rg))), (ro, .inl (cB, 90000, .inl (rf))), (aa, .inl (cI, 8001, .inl (af))), (si, .inl (cI, 8001, .inl (zf))), (so, .inl (cI, 8001, .inl (of))), (la, .inl (cI, 8001, .inl (lf))), (ip, .inl (cB, 1000, .inl (jf))), (oq, .inl (cB, 4096, .inl (qf))), (cp, .inl (cB, 4000, .inl (cx)))]) [9, 0, 1, 6, 7, 8, 2, 3, 4, 5] rfl rfl
                              exact zretv hx hb hr hlocks hS ((gd, gl, gt, gr, gi, go), (af, zf, of, lf, rf, jf, qf, cx)) (by rw [hs]; exact ⟨hR, hI0, hO⟩) rfl (by rw [ypc, yst, hs]; exact hP9) (by rw [ypc, yst, hs]; exact hD9) d_Mo_service_460
                          · have pb := pl_no hR hmb hb1
                            refine z_st (st' := [.int ((-1))]) (by rw [show (((sp_Mo_place ((rg 11) + (nI k)) 1 (nI gd) af zf of)) : Int32) = (-1) from pb]) ?_
                            refine lv_if_lt (tgt := 455) hx hb d_Mo_service_440 (by decide) (fun h87 => ?_) (fun h87 => (show False by revert h87; decide).elim)
                            have hcp : xCopy (rg 10) (rg 11) (rg 12) M = (2, M) := by rw [hk0]; exact copy_bad hMI (x := k + 1) (n := kn) (by omega) (by omega) (by omega) (Or.inl hb1)
                            refine lv_aload_n hx hb d_Mo_service_455 rfl (lv_at hl 4 rfl) ?_
                            refine lv_iconst (v := 2) hx hb d_Mo_service_456 (by decide) ?_
                            refine zgov (wr := [(re, .inl (cI, 32, .inl (rg))), (ro, .inl (cB, 90000, .inl (rf))), (la, .inl (cI, 8001, .inl (lf))), (ip, .inl (cB, 1000, .inl (jf))), (oq, .inl (cB, 4096, .inl (qf))), (cp, .inl (cB, 4000, .inl (cx))), (aa, .inl (cI, 8001, .inl (af))), (si, .inl (cI, 8001, .inl (zf))), (so, .inl (cI, 8001, .inl (of)))]) (zrunV (n := 1) (As := [.int 2]) (rest := []) hE (c_Mo_trap l D cI cB cJ _ 2 m0 mk mt kd wo wn re pc sta dn th ro aa si so la (nI gd) (nI gl) (nI gt) (nI gr) ip oq cp (nI gi) (nI go)) cb_Mo_trap lk_Mo_100 in_Mo_trap se_Mo_trap (zpreV (q0 := 6) hK hP hD rfl rfl rfl [6] rfl rfl rfl) ⟨Nat.le_of_ble_eq_true rfl, Nat.le_of_ble_eq_true rfl, Nat.le_of_ble_eq_true rfl, Nat.le_of_ble_eq_true rfl⟩ rfl hl.1 rfl (Nat.le_of_ble_eq_true rfl) d_Mo_service_457) hP hD hS hA [6] [0, 1, 2, 3, 4, 5, 7, 8, 9] rfl rfl rfl (by decide) (fun u90 H locs hq88 hP hD hS => ?_)
                            clear hq88
                            have hP : va_P D zC [(re, .inl (cI, 32, .inl (rg))), (ro, .inl (cB, 90000, .inl (rf))), (la, .inl (cI, 8001, .inl (lf))), (ip, .inl (cB, 1000, .inl (jf))), (oq, .inl (cB, 4096, .inl (qf))), (cp, .inl (cB, 4000, .inl (cx))), (aa, .inl (cI, 8001, .inl (af))), (si, .inl (cI, 8001, .inl (zf))), (so, .inl (cI, 8001, .inl (of))), (m0, .inr (3, [.ref mk, .ref mt, .int kd, .ref wo, .int wn, .ref re, .int pc, .int ((sp_Mo_trap 2)), .int dn, .int th, .ref ro, .ref aa, .ref si, .ref so, .ref la, .int (nI gd), .int (nI gl), .int (nI gt), .int (nI gr), .ref ip, .ref oq, .ref cp, .int (nI gi), .int (nI go)]))] _ := hP
                            have hD : va_D A [(re, .inl (cI, 32, .inl (rg))), (ro, .inl (cB, 90000, .inl (rf))), (la, .inl (cI, 8001, .inl (lf))), (ip, .inl (cB, 1000, .inl (jf))), (oq, .inl (cB, 4096, .inl (qf))), (cp, .inl (cB, 4000, .inl (cx))), (aa, .inl (cI, 8001, .inl (af))), (si, .inl (cI, 8001, .inl (zf))), (so, .inl (cI, 8001, .inl (of))), (m0, .inr (3, [.ref mk, .ref mt, .int kd, .ref wo, .int wn, .ref re, .int pc, .int ((sp_Mo_trap 2)), .int dn, .int th, .ref ro, .ref aa, .ref si, .ref so, .ref la, .int (nI gd), .int (nI gl), .int (nI gt), .int (nI gr), .ref ip, .ref oq, .ref cp, .int (nI gi), .int (nI go)]))] := hD
                            have hs : xServe rg M I O sta = (2, rg, M, I, O, sta) := by unfold xServe; (rw [if_neg h1, if_neg h2, if_neg h13, if_neg h26, if_neg h35, if_neg h52, if_neg h54, if_neg h56, if_pos h61, hcp]) <;> rfl
                            have ypc : sPc rg M I O sta pc = pc := by unfold sPc; rw [hs]; exact if_neg (show ¬ ((2) : Int32) = 0 by decide)
                            have yst : sSt rg M I O sta = (sp_Mo_trap 2) := by unfold sSt; rw [hs]; exact if_neg (show ¬ ((2) : Int32) = 0 by decide)
                            have hP9 := hP.sub (ws' := [(m0, .inr (3, [.ref mk, .ref mt, .int kd, .ref wo, .int wn, .ref re, .int pc, .int ((sp_Mo_trap 2)), .int dn, .int th, .ref ro, .ref aa, .ref si, .ref so, .ref la, .int (nI gd), .int (nI gl), .int (nI gt), .int (nI gr), .ref ip, .ref oq, .ref cp, .int (nI gi), .int (nI go)])), (re, .inl (cI, 32, .inl (rg))), (ro, .inl (cB, 90000, .inl (rf))), (aa, .inl (cI, 8001, .inl (af))), (si, .inl (cI, 8001, .inl (zf))), (so, .inl (cI, 8001, .inl (of))), (la, .inl (cI, 8001, .inl (lf))), (ip, .inl (cB, 1000, .inl (jf))), (oq, .inl (cB, 4096, .inl (qf))), (cp, .inl (cB, 4000, .inl (cx)))]) [9, 0, 1, 6, 7, 8, 2, 3, 4, 5] rfl
                            have hD9 := hD.sub (ws' := [(m0, .inr (3, [.ref mk, .ref mt, .int kd, .ref wo, .int wn, .ref re, .int pc, .int ((sp_Mo_trap 2)), .int dn, .int th, .ref ro, .ref aa, .ref si, .ref so, .ref la, .int (nI gd), .int (nI gl), .int (nI gt), .int (nI gr), .ref ip, .ref oq, .ref cp, .int (nI gi), .int (nI go)])), (re, .inl (cI, 32, .inl (rg))), (ro, .inl (cB, 90000, .inl (rf))), (aa, .inl (cI, 8001, .inl (af))), (si, .inl (cI, 8001, .inl (zf))), (so, .inl (cI, 8001, .inl (of))), (la, .inl (cI, 8001, .inl (lf))), (ip, .inl (cB, 1000, .inl (jf))), (oq, .inl (cB, 4096, .inl (qf))), (cp, .inl (cB, 4000, .inl (cx)))]) [9, 0, 1, 6, 7, 8, 2, 3, 4, 5] rfl rfl
                            exact zretv hx hb hr hlocks hS ((gd, gl, gt, gr, gi, go), (af, zf, of, lf, rf, jf, qf, cx)) (by rw [hs]; exact ⟨hR, hI0, hO⟩) rfl (by rw [ypc, yst, hs]; exact hP9) (by rw [ypc, yst, hs]; exact hD9) d_Mo_service_460
                      · have hcp : xCopy (rg 10) (rg 11) (rg 12) M = (4, M) := by unfold xCopy; rw [if_neg h62, if_neg h66]
                        refine lv_aload_n hx hb d_Mo_service_416 rfl (lv_at hl 3 rfl) ?_
                        refine lv_iconst (v := 4) hx hb d_Mo_service_417 (by decide) ?_
                        refine zgov (wr := [(re, .inl (cI, 32, .inl (rg))), (ro, .inl (cB, 90000, .inl (rf))), (aa, .inl (cI, 8001, .inl (af))), (si, .inl (cI, 8001, .inl (zf))), (so, .inl (cI, 8001, .inl (of))), (la, .inl (cI, 8001, .inl (lf))), (ip, .inl (cB, 1000, .inl (jf))), (oq, .inl (cB, 4096, .inl (qf))), (cp, .inl (cB, 4000, .inl (cf)))]) (zrunV (n := 1) (As := [.int 4]) (rest := []) hE (c_Mo_trap l D cI cB cJ _ 4 m0 mk mt kd wo wn re pc sta dn th ro aa si so la (nI gd) (nI gl) (nI gt) (nI gr) ip oq cp (nI gi) (nI go)) cb_Mo_trap lk_Mo_100 in_Mo_trap se_Mo_trap (zpreV (q0 := 0) hK hP hD rfl rfl rfl [0] rfl rfl rfl) ⟨Nat.le_of_ble_eq_true rfl, Nat.le_of_ble_eq_true rfl, Nat.le_of_ble_eq_true rfl, Nat.le_of_ble_eq_true rfl⟩ rfl hl.1 rfl (Nat.le_of_ble_eq_true rfl) d_Mo_service_418) hP hD hS hA [0] [1, 2, 3, 4, 5, 6, 7, 8, 9] rfl rfl rfl (by decide) (fun u93 H locs hq91 hP hD hS => ?_)
                        clear hq91
                        have hP : va_P D zC [(re, .inl (cI, 32, .inl (rg))), (ro, .inl (cB, 90000, .inl (rf))), (aa, .inl (cI, 8001, .inl (af))), (si, .inl (cI, 8001, .inl (zf))), (so, .inl (cI, 8001, .inl (of))), (la, .inl (cI, 8001, .inl (lf))), (ip, .inl (cB, 1000, .inl (jf))), (oq, .inl (cB, 4096, .inl (qf))), (cp, .inl (cB, 4000, .inl (cf))), (m0, .inr (3, [.ref mk, .ref mt, .int kd, .ref wo, .int wn, .ref re, .int pc, .int ((sp_Mo_trap 4)), .int dn, .int th, .ref ro, .ref aa, .ref si, .ref so, .ref la, .int (nI gd), .int (nI gl), .int (nI gt), .int (nI gr), .ref ip, .ref oq, .ref cp, .int (nI gi), .int (nI go)]))] _ := hP
                        have hD : va_D A [(re, .inl (cI, 32, .inl (rg))), (ro, .inl (cB, 90000, .inl (rf))), (aa, .inl (cI, 8001, .inl (af))), (si, .inl (cI, 8001, .inl (zf))), (so, .inl (cI, 8001, .inl (of))), (la, .inl (cI, 8001, .inl (lf))), (ip, .inl (cB, 1000, .inl (jf))), (oq, .inl (cB, 4096, .inl (qf))), (cp, .inl (cB, 4000, .inl (cf))), (m0, .inr (3, [.ref mk, .ref mt, .int kd, .ref wo, .int wn, .ref re, .int pc, .int ((sp_Mo_trap 4)), .int dn, .int th, .ref ro, .ref aa, .ref si, .ref so, .ref la, .int (nI gd), .int (nI gl), .int (nI gt), .int (nI gr), .ref ip, .ref oq, .ref cp, .int (nI gi), .int (nI go)]))] := hD
                        have hs : xServe rg M I O sta = (4, rg, M, I, O, sta) := by unfold xServe; (rw [if_neg h1, if_neg h2, if_neg h13, if_neg h26, if_neg h35, if_neg h52, if_neg h54, if_neg h56, if_pos h61, hcp]) <;> rfl
                        have ypc : sPc rg M I O sta pc = pc := by unfold sPc; rw [hs]; exact if_neg (show ¬ ((4) : Int32) = 0 by decide)
                        have yst : sSt rg M I O sta = (sp_Mo_trap 4) := by unfold sSt; rw [hs]; exact if_neg (show ¬ ((4) : Int32) = 0 by decide)
                        have hP9 := hP.sub (ws' := [(m0, .inr (3, [.ref mk, .ref mt, .int kd, .ref wo, .int wn, .ref re, .int pc, .int ((sp_Mo_trap 4)), .int dn, .int th, .ref ro, .ref aa, .ref si, .ref so, .ref la, .int (nI gd), .int (nI gl), .int (nI gt), .int (nI gr), .ref ip, .ref oq, .ref cp, .int (nI gi), .int (nI go)])), (re, .inl (cI, 32, .inl (rg))), (ro, .inl (cB, 90000, .inl (rf))), (aa, .inl (cI, 8001, .inl (af))), (si, .inl (cI, 8001, .inl (zf))), (so, .inl (cI, 8001, .inl (of))), (la, .inl (cI, 8001, .inl (lf))), (ip, .inl (cB, 1000, .inl (jf))), (oq, .inl (cB, 4096, .inl (qf))), (cp, .inl (cB, 4000, .inl (cf)))]) [9, 0, 1, 2, 3, 4, 5, 6, 7, 8] rfl
                        have hD9 := hD.sub (ws' := [(m0, .inr (3, [.ref mk, .ref mt, .int kd, .ref wo, .int wn, .ref re, .int pc, .int ((sp_Mo_trap 4)), .int dn, .int th, .ref ro, .ref aa, .ref si, .ref so, .ref la, .int (nI gd), .int (nI gl), .int (nI gt), .int (nI gr), .ref ip, .ref oq, .ref cp, .int (nI gi), .int (nI go)])), (re, .inl (cI, 32, .inl (rg))), (ro, .inl (cB, 90000, .inl (rf))), (aa, .inl (cI, 8001, .inl (af))), (si, .inl (cI, 8001, .inl (zf))), (so, .inl (cI, 8001, .inl (of))), (la, .inl (cI, 8001, .inl (lf))), (ip, .inl (cB, 1000, .inl (jf))), (oq, .inl (cB, 4096, .inl (qf))), (cp, .inl (cB, 4000, .inl (cf)))]) [9, 0, 1, 2, 3, 4, 5, 6, 7, 8] rfl rfl
                        exact zretv hx hb hr hlocks hS ((gd, gl, gt, gr, gi, go), (af, zf, of, lf, rf, jf, qf, cf)) (by rw [hs]; exact ⟨hR, hI0, hO⟩) rfl (by rw [ypc, yst, hs]; exact hP9) (by rw [ypc, yst, hs]; exact hD9) d_Mo_service_421
                  · refine lv_tableOut (tgt := 527) hx hb d_Mo_service_31 (by have q0 := z_ne h1 (n := 0) (by decide); have q1 := z_ne h2 (n := 1) (by decide); have q2 := z_ne h13 (n := 2) (by decide); have q3 := z_ne h26 (n := 3) (by decide); have q4 := z_ne h35 (n := 4) (by decide); have q5 := z_ne h52 (n := 5) (by decide); have q6 := z_ne h54 (n := 6) (by decide); have q7 := z_ne h56 (n := 7) (by decide); have q8 := z_ne h61 (n := 8) (by decide); omega) (by decide) ?_
                    refine lv_aload_n hx hb d_Mo_service_527 rfl (lv_at hl 3 rfl) ?_
                    refine lv_iconst (v := 4) hx hb d_Mo_service_528 (by decide) ?_
                    refine zgov (wr := [(re, .inl (cI, 32, .inl (rg))), (ro, .inl (cB, 90000, .inl (rf))), (aa, .inl (cI, 8001, .inl (af))), (si, .inl (cI, 8001, .inl (zf))), (so, .inl (cI, 8001, .inl (of))), (la, .inl (cI, 8001, .inl (lf))), (ip, .inl (cB, 1000, .inl (jf))), (oq, .inl (cB, 4096, .inl (qf))), (cp, .inl (cB, 4000, .inl (cf)))]) (zrunV (n := 1) (As := [.int 4]) (rest := []) hE (c_Mo_trap l D cI cB cJ _ 4 m0 mk mt kd wo wn re pc sta dn th ro aa si so la (nI gd) (nI gl) (nI gt) (nI gr) ip oq cp (nI gi) (nI go)) cb_Mo_trap lk_Mo_100 in_Mo_trap se_Mo_trap (zpreV (q0 := 0) hK hP hD rfl rfl rfl [0] rfl rfl rfl) ⟨Nat.le_of_ble_eq_true rfl, Nat.le_of_ble_eq_true rfl, Nat.le_of_ble_eq_true rfl, Nat.le_of_ble_eq_true rfl⟩ rfl hl.1 rfl (Nat.le_of_ble_eq_true rfl) d_Mo_service_529) hP hD hS hA [0] [1, 2, 3, 4, 5, 6, 7, 8, 9] rfl rfl rfl (by decide) (fun u96 H locs hq94 hP hD hS => ?_)
                    clear hq94
                    have hP : va_P D zC [(re, .inl (cI, 32, .inl (rg))), (ro, .inl (cB, 90000, .inl (rf))), (aa, .inl (cI, 8001, .inl (af))), (si, .inl (cI, 8001, .inl (zf))), (so, .inl (cI, 8001, .inl (of))), (la, .inl (cI, 8001, .inl (lf))), (ip, .inl (cB, 1000, .inl (jf))), (oq, .inl (cB, 4096, .inl (qf))), (cp, .inl (cB, 4000, .inl (cf))), (m0, .inr (3, [.ref mk, .ref mt, .int kd, .ref wo, .int wn, .ref re, .int pc, .int ((sp_Mo_trap 4)), .int dn, .int th, .ref ro, .ref aa, .ref si, .ref so, .ref la, .int (nI gd), .int (nI gl), .int (nI gt), .int (nI gr), .ref ip, .ref oq, .ref cp, .int (nI gi), .int (nI go)]))] _ := hP
                    have hD : va_D A [(re, .inl (cI, 32, .inl (rg))), (ro, .inl (cB, 90000, .inl (rf))), (aa, .inl (cI, 8001, .inl (af))), (si, .inl (cI, 8001, .inl (zf))), (so, .inl (cI, 8001, .inl (of))), (la, .inl (cI, 8001, .inl (lf))), (ip, .inl (cB, 1000, .inl (jf))), (oq, .inl (cB, 4096, .inl (qf))), (cp, .inl (cB, 4000, .inl (cf))), (m0, .inr (3, [.ref mk, .ref mt, .int kd, .ref wo, .int wn, .ref re, .int pc, .int ((sp_Mo_trap 4)), .int dn, .int th, .ref ro, .ref aa, .ref si, .ref so, .ref la, .int (nI gd), .int (nI gl), .int (nI gt), .int (nI gr), .ref ip, .ref oq, .ref cp, .int (nI gi), .int (nI go)]))] := hD
                    have hs : xServe rg M I O sta = (4, rg, M, I, O, sta) := by unfold xServe; (rw [if_neg h1, if_neg h2, if_neg h13, if_neg h26, if_neg h35, if_neg h52, if_neg h54, if_neg h56, if_neg h61]) <;> rfl
                    have ypc : sPc rg M I O sta pc = pc := by unfold sPc; rw [hs]; exact if_neg (show ¬ ((4) : Int32) = 0 by decide)
                    have yst : sSt rg M I O sta = (sp_Mo_trap 4) := by unfold sSt; rw [hs]; exact if_neg (show ¬ ((4) : Int32) = 0 by decide)
                    have hP9 := hP.sub (ws' := [(m0, .inr (3, [.ref mk, .ref mt, .int kd, .ref wo, .int wn, .ref re, .int pc, .int ((sp_Mo_trap 4)), .int dn, .int th, .ref ro, .ref aa, .ref si, .ref so, .ref la, .int (nI gd), .int (nI gl), .int (nI gt), .int (nI gr), .ref ip, .ref oq, .ref cp, .int (nI gi), .int (nI go)])), (re, .inl (cI, 32, .inl (rg))), (ro, .inl (cB, 90000, .inl (rf))), (aa, .inl (cI, 8001, .inl (af))), (si, .inl (cI, 8001, .inl (zf))), (so, .inl (cI, 8001, .inl (of))), (la, .inl (cI, 8001, .inl (lf))), (ip, .inl (cB, 1000, .inl (jf))), (oq, .inl (cB, 4096, .inl (qf))), (cp, .inl (cB, 4000, .inl (cf)))]) [9, 0, 1, 2, 3, 4, 5, 6, 7, 8] rfl
                    have hD9 := hD.sub (ws' := [(m0, .inr (3, [.ref mk, .ref mt, .int kd, .ref wo, .int wn, .ref re, .int pc, .int ((sp_Mo_trap 4)), .int dn, .int th, .ref ro, .ref aa, .ref si, .ref so, .ref la, .int (nI gd), .int (nI gl), .int (nI gt), .int (nI gr), .ref ip, .ref oq, .ref cp, .int (nI gi), .int (nI go)])), (re, .inl (cI, 32, .inl (rg))), (ro, .inl (cB, 90000, .inl (rf))), (aa, .inl (cI, 8001, .inl (af))), (si, .inl (cI, 8001, .inl (zf))), (so, .inl (cI, 8001, .inl (of))), (la, .inl (cI, 8001, .inl (lf))), (ip, .inl (cB, 1000, .inl (jf))), (oq, .inl (cB, 4096, .inl (qf))), (cp, .inl (cB, 4000, .inl (cf)))]) [9, 0, 1, 2, 3, 4, 5, 6, 7, 8] rfl rfl
                    exact zretv hx hb hr hlocks hS ((gd, gl, gt, gr, gi, go), (af, zf, of, lf, rf, jf, qf, cf)) (by rw [hs]; exact ⟨hR, hI0, hO⟩) rfl (by rw [ypc, yst, hs]; exact hP9) (by rw [ypc, yst, hs]; exact hD9) d_Mo_service_532
