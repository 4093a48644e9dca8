theorem dL_refuses_0 : decode cL_refuses 0 = .ok (.iload_n 2, 1) := by decide +kernel
theorem dL_refuses_1 : decode cL_refuses 1 = .ok (.iconst 2, 1) := by decide +kernel
theorem dL_refuses_2 : decode cL_refuses 2 = .ok (.irem, 1) := by decide +kernel
theorem dL_refuses_3 : decode cL_refuses 3 = .ok (.ifCond .ne 12, 3) := by decide +kernel
theorem dL_refuses_6 : decode cL_refuses 6 = .ok (.iconst (-1), 1) := by decide +kernel
theorem dL_refuses_7 : decode cL_refuses 7 = .ok (.iload_n 2, 1) := by decide +kernel
theorem dL_refuses_8 : decode cL_refuses 8 = .ok (.bipush 50, 2) := by decide +kernel
theorem dL_refuses_10 : decode cL_refuses 10 = .ok (.irem, 1) := by decide +kernel
theorem dL_refuses_11 : decode cL_refuses 11 = .ok (.isub, 1) := by decide +kernel
theorem dL_refuses_12 : decode cL_refuses 12 = .ok (.goto 12, 3) := by decide +kernel
theorem dL_refuses_15 : decode cL_refuses 15 = .ok (.aload_n 0, 1) := by decide +kernel
theorem dL_refuses_16 : decode cL_refuses 16 = .ok (.invokevirtual 94, 3) := by decide +kernel
theorem dL_refuses_19 : decode cL_refuses 19 = .ok (.iload_n 2, 1) := by decide +kernel
theorem dL_refuses_20 : decode cL_refuses 20 = .ok (.bipush 50, 2) := by decide +kernel
theorem dL_refuses_22 : decode cL_refuses 22 = .ok (.irem, 1) := by decide +kernel
theorem dL_refuses_23 : decode cL_refuses 23 = .ok (.iadd, 1) := by decide +kernel
theorem dL_refuses_24 : decode cL_refuses 24 = .ok (.istore_n 3, 1) := by decide +kernel
theorem dL_refuses_25 : decode cL_refuses 25 = .ok (.iload_n 2, 1) := by decide +kernel
theorem dL_refuses_26 : decode cL_refuses 26 = .ok (.iconst 2, 1) := by decide +kernel
theorem dL_refuses_27 : decode cL_refuses 27 = .ok (.irem, 1) := by decide +kernel
theorem dL_refuses_28 : decode cL_refuses 28 = .ok (.ifCond .ne 12, 3) := by decide +kernel
theorem dL_refuses_31 : decode cL_refuses 31 = .ok (.iconst (-1), 1) := by decide +kernel
theorem dL_refuses_32 : decode cL_refuses 32 = .ok (.iload_n 2, 1) := by decide +kernel
theorem dL_refuses_33 : decode cL_refuses 33 = .ok (.bipush 50, 2) := by decide +kernel
theorem dL_refuses_35 : decode cL_refuses 35 = .ok (.irem, 1) := by decide +kernel
theorem dL_refuses_36 : decode cL_refuses 36 = .ok (.isub, 1) := by decide +kernel
theorem dL_refuses_37 : decode cL_refuses 37 = .ok (.goto 10, 3) := by decide +kernel
theorem dL_refuses_40 : decode cL_refuses 40 = .ok (.bipush 8, 2) := by decide +kernel
theorem dL_refuses_42 : decode cL_refuses 42 = .ok (.iload_n 2, 1) := by decide +kernel
theorem dL_refuses_43 : decode cL_refuses 43 = .ok (.bipush 50, 2) := by decide +kernel
theorem dL_refuses_45 : decode cL_refuses 45 = .ok (.irem, 1) := by decide +kernel
theorem dL_refuses_46 : decode cL_refuses 46 = .ok (.iadd, 1) := by decide +kernel
theorem dL_refuses_47 : decode cL_refuses 47 = .ok (.istore 4, 2) := by decide +kernel
theorem dL_refuses_49 : decode cL_refuses 49 = .ok (.iload_n 2, 1) := by decide +kernel
theorem dL_refuses_50 : decode cL_refuses 50 = .ok (.iconst 2, 1) := by decide +kernel
theorem dL_refuses_51 : decode cL_refuses 51 = .ok (.irem, 1) := by decide +kernel
theorem dL_refuses_52 : decode cL_refuses 52 = .ok (.ifCond .ne 12, 3) := by decide +kernel
theorem dL_refuses_55 : decode cL_refuses 55 = .ok (.iconst (-1), 1) := by decide +kernel
theorem dL_refuses_56 : decode cL_refuses 56 = .ok (.iload_n 2, 1) := by decide +kernel
theorem dL_refuses_57 : decode cL_refuses 57 = .ok (.bipush 50, 2) := by decide +kernel
theorem dL_refuses_59 : decode cL_refuses 59 = .ok (.irem, 1) := by decide +kernel
theorem dL_refuses_60 : decode cL_refuses 60 = .ok (.isub, 1) := by decide +kernel
theorem dL_refuses_61 : decode cL_refuses 61 = .ok (.goto 11, 3) := by decide +kernel
theorem dL_refuses_64 : decode cL_refuses 64 = .ok (.aload_n 1, 1) := by decide +kernel
theorem dL_refuses_65 : decode cL_refuses 65 = .ok (.iconst 0, 1) := by decide +kernel
theorem dL_refuses_66 : decode cL_refuses 66 = .ok (.iaload, 1) := by decide +kernel
theorem dL_refuses_67 : decode cL_refuses 67 = .ok (.iload_n 2, 1) := by decide +kernel
theorem dL_refuses_68 : decode cL_refuses 68 = .ok (.bipush 50, 2) := by decide +kernel
theorem dL_refuses_70 : decode cL_refuses 70 = .ok (.irem, 1) := by decide +kernel
theorem dL_refuses_71 : decode cL_refuses 71 = .ok (.iadd, 1) := by decide +kernel
theorem dL_refuses_72 : decode cL_refuses 72 = .ok (.istore 5, 2) := by decide +kernel
theorem dL_refuses_74 : decode cL_refuses 74 = .ok (.iload_n 2, 1) := by decide +kernel
theorem dL_refuses_75 : decode cL_refuses 75 = .ok (.bipush 8, 2) := by decide +kernel
theorem dL_refuses_77 : decode cL_refuses 77 = .ok (.irem, 1) := by decide +kernel
theorem dL_refuses_78 : decode cL_refuses 78 = .ok (.istore 6, 2) := by decide +kernel
theorem dL_refuses_80 : decode cL_refuses 80 = .ok (.aload_n 0, 1) := by decide +kernel
theorem dL_refuses_81 : decode cL_refuses 81 = .ok (.iload 4, 2) := by decide +kernel
theorem dL_refuses_83 : decode cL_refuses 83 = .ok (.iconst (-1), 1) := by decide +kernel
theorem dL_refuses_84 : decode cL_refuses 84 = .ok (.invokestatic 98, 3) := by decide +kernel
theorem dL_refuses_87 : decode cL_refuses 87 = .ok (.ldc 15, 2) := by decide +kernel
theorem dL_refuses_89 : decode cL_refuses 89 = .ok (.if_icmp .ne 543, 3) := by decide +kernel
theorem dL_refuses_92 : decode cL_refuses 92 = .ok (.aload_n 0, 1) := by decide +kernel
theorem dL_refuses_93 : decode cL_refuses 93 = .ok (.iload 6, 2) := by decide +kernel
theorem dL_refuses_95 : decode cL_refuses 95 = .ok (.bipush 16, 2) := by decide +kernel
theorem dL_refuses_97 : decode cL_refuses 97 = .ok (.iload_n 2, 1) := by decide +kernel
theorem dL_refuses_98 : decode cL_refuses 98 = .ok (.iadd, 1) := by decide +kernel
theorem dL_refuses_99 : decode cL_refuses 99 = .ok (.invokestatic 98, 3) := by decide +kernel
theorem dL_refuses_102 : decode cL_refuses 102 = .ok (.ldc 18, 2) := by decide +kernel
theorem dL_refuses_104 : decode cL_refuses 104 = .ok (.if_icmp .ne 528, 3) := by decide +kernel
theorem dL_refuses_107 : decode cL_refuses 107 = .ok (.aload_n 0, 1) := by decide +kernel
theorem dL_refuses_108 : decode cL_refuses 108 = .ok (.iload 6, 2) := by decide +kernel
theorem dL_refuses_110 : decode cL_refuses 110 = .ok (.iconst (-1), 1) := by decide +kernel
theorem dL_refuses_111 : decode cL_refuses 111 = .ok (.iload_n 2, 1) := by decide +kernel
theorem dL_refuses_112 : decode cL_refuses 112 = .ok (.isub, 1) := by decide +kernel
theorem dL_refuses_113 : decode cL_refuses 113 = .ok (.invokestatic 98, 3) := by decide +kernel
theorem dL_refuses_116 : decode cL_refuses 116 = .ok (.ldc 18, 2) := by decide +kernel
theorem dL_refuses_118 : decode cL_refuses 118 = .ok (.if_icmp .ne 514, 3) := by decide +kernel
theorem dL_refuses_121 : decode cL_refuses 121 = .ok (.aload_n 0, 1) := by decide +kernel
theorem dL_refuses_122 : decode cL_refuses 122 = .ok (.iload 4, 2) := by decide +kernel
theorem dL_refuses_124 : decode cL_refuses 124 = .ok (.iconst 0, 1) := by decide +kernel
theorem dL_refuses_125 : decode cL_refuses 125 = .ok (.invokestatic 104, 3) := by decide +kernel
theorem dL_refuses_128 : decode cL_refuses 128 = .ok (.ldc 15, 2) := by decide +kernel
theorem dL_refuses_130 : decode cL_refuses 130 = .ok (.if_icmp .ne 502, 3) := by decide +kernel
theorem dL_refuses_133 : decode cL_refuses 133 = .ok (.aload_n 0, 1) := by decide +kernel
theorem dL_refuses_134 : decode cL_refuses 134 = .ok (.iload 6, 2) := by decide +kernel
theorem dL_refuses_136 : decode cL_refuses 136 = .ok (.iconst 0, 1) := by decide +kernel
theorem dL_refuses_137 : decode cL_refuses 137 = .ok (.invokestatic 104, 3) := by decide +kernel
theorem dL_refuses_140 : decode cL_refuses 140 = .ok (.ldc 18, 2) := by decide +kernel
theorem dL_refuses_142 : decode cL_refuses 142 = .ok (.if_icmp .ne 490, 3) := by decide +kernel
theorem dL_refuses_145 : decode cL_refuses 145 = .ok (.aload_n 0, 1) := by decide +kernel
theorem dL_refuses_146 : decode cL_refuses 146 = .ok (.iload 6, 2) := by decide +kernel
theorem dL_refuses_148 : decode cL_refuses 148 = .ok (.ldc 107, 2) := by decide +kernel
theorem dL_refuses_150 : decode cL_refuses 150 = .ok (.iload_n 2, 1) := by decide +kernel
theorem dL_refuses_151 : decode cL_refuses 151 = .ok (.iadd, 1) := by decide +kernel
theorem dL_refuses_152 : decode cL_refuses 152 = .ok (.invokestatic 104, 3) := by decide +kernel
theorem dL_refuses_155 : decode cL_refuses 155 = .ok (.ldc 18, 2) := by decide +kernel
theorem dL_refuses_157 : decode cL_refuses 157 = .ok (.if_icmp .ne 475, 3) := by decide +kernel
theorem dL_refuses_160 : decode cL_refuses 160 = .ok (.aload_n 0, 1) := by decide +kernel
theorem dL_refuses_161 : decode cL_refuses 161 = .ok (.iload 6, 2) := by decide +kernel
theorem dL_refuses_163 : decode cL_refuses 163 = .ok (.bipush (-2), 2) := by decide +kernel
theorem dL_refuses_165 : decode cL_refuses 165 = .ok (.iload_n 2, 1) := by decide +kernel
theorem dL_refuses_166 : decode cL_refuses 166 = .ok (.isub, 1) := by decide +kernel
theorem dL_refuses_167 : decode cL_refuses 167 = .ok (.invokestatic 104, 3) := by decide +kernel
theorem dL_refuses_170 : decode cL_refuses 170 = .ok (.ldc 18, 2) := by decide +kernel
theorem dL_refuses_172 : decode cL_refuses 172 = .ok (.if_icmp .ne 460, 3) := by decide +kernel
theorem dL_refuses_175 : decode cL_refuses 175 = .ok (.aload_n 0, 1) := by decide +kernel
theorem dL_refuses_176 : decode cL_refuses 176 = .ok (.iload 4, 2) := by decide +kernel
theorem dL_refuses_178 : decode cL_refuses 178 = .ok (.iload 4, 2) := by decide +kernel
theorem dL_refuses_180 : decode cL_refuses 180 = .ok (.iconst 0, 1) := by decide +kernel
theorem dL_refuses_181 : decode cL_refuses 181 = .ok (.invokestatic 108, 3) := by decide +kernel
theorem dL_refuses_184 : decode cL_refuses 184 = .ok (.ldc 15, 2) := by decide +kernel
theorem dL_refuses_186 : decode cL_refuses 186 = .ok (.if_icmp .ne 446, 3) := by decide +kernel
theorem dL_refuses_189 : decode cL_refuses 189 = .ok (.aload_n 0, 1) := by decide +kernel
theorem dL_refuses_190 : decode cL_refuses 190 = .ok (.iload 6, 2) := by decide +kernel
theorem dL_refuses_192 : decode cL_refuses 192 = .ok (.iload 4, 2) := by decide +kernel
theorem dL_refuses_194 : decode cL_refuses 194 = .ok (.iconst 0, 1) := by decide +kernel
theorem dL_refuses_195 : decode cL_refuses 195 = .ok (.invokestatic 108, 3) := by decide +kernel
theorem dL_refuses_198 : decode cL_refuses 198 = .ok (.ldc 15, 2) := by decide +kernel
theorem dL_refuses_200 : decode cL_refuses 200 = .ok (.if_icmp .ne 432, 3) := by decide +kernel
theorem dL_refuses_203 : decode cL_refuses 203 = .ok (.aload_n 0, 1) := by decide +kernel
theorem dL_refuses_204 : decode cL_refuses 204 = .ok (.iload 6, 2) := by decide +kernel
theorem dL_refuses_206 : decode cL_refuses 206 = .ok (.iload 6, 2) := by decide +kernel
theorem dL_refuses_208 : decode cL_refuses 208 = .ok (.iconst 5, 1) := by decide +kernel
theorem dL_refuses_209 : decode cL_refuses 209 = .ok (.invokestatic 108, 3) := by decide +kernel
theorem dL_refuses_212 : decode cL_refuses 212 = .ok (.ldc 18, 2) := by decide +kernel
theorem dL_refuses_214 : decode cL_refuses 214 = .ok (.if_icmp .ne 418, 3) := by decide +kernel
theorem dL_refuses_217 : decode cL_refuses 217 = .ok (.aload_n 0, 1) := by decide +kernel
theorem dL_refuses_218 : decode cL_refuses 218 = .ok (.iload 6, 2) := by decide +kernel
theorem dL_refuses_220 : decode cL_refuses 220 = .ok (.iload 6, 2) := by decide +kernel
theorem dL_refuses_222 : decode cL_refuses 222 = .ok (.iconst 1, 1) := by decide +kernel
theorem dL_refuses_223 : decode cL_refuses 223 = .ok (.iadd, 1) := by decide +kernel
theorem dL_refuses_224 : decode cL_refuses 224 = .ok (.bipush 8, 2) := by decide +kernel
theorem dL_refuses_226 : decode cL_refuses 226 = .ok (.irem, 1) := by decide +kernel
theorem dL_refuses_227 : decode cL_refuses 227 = .ok (.iconst 0, 1) := by decide +kernel
theorem dL_refuses_228 : decode cL_refuses 228 = .ok (.invokestatic 108, 3) := by decide +kernel
theorem dL_refuses_231 : decode cL_refuses 231 = .ok (.ldc 18, 2) := by decide +kernel
theorem dL_refuses_233 : decode cL_refuses 233 = .ok (.if_icmp .ne 399, 3) := by decide +kernel
theorem dL_refuses_236 : decode cL_refuses 236 = .ok (.aload_n 0, 1) := by decide +kernel
theorem dL_refuses_237 : decode cL_refuses 237 = .ok (.iload 6, 2) := by decide +kernel
theorem dL_refuses_239 : decode cL_refuses 239 = .ok (.iload 6, 2) := by decide +kernel
theorem dL_refuses_241 : decode cL_refuses 241 = .ok (.iconst 1, 1) := by decide +kernel
theorem dL_refuses_242 : decode cL_refuses 242 = .ok (.iadd, 1) := by decide +kernel
theorem dL_refuses_243 : decode cL_refuses 243 = .ok (.bipush 8, 2) := by decide +kernel
theorem dL_refuses_245 : decode cL_refuses 245 = .ok (.irem, 1) := by decide +kernel
theorem dL_refuses_246 : decode cL_refuses 246 = .ok (.ldc 107, 2) := by decide +kernel
theorem dL_refuses_248 : decode cL_refuses 248 = .ok (.iload_n 2, 1) := by decide +kernel
theorem dL_refuses_249 : decode cL_refuses 249 = .ok (.iadd, 1) := by decide +kernel
theorem dL_refuses_250 : decode cL_refuses 250 = .ok (.invokestatic 108, 3) := by decide +kernel
theorem dL_refuses_253 : decode cL_refuses 253 = .ok (.ldc 18, 2) := by decide +kernel
theorem dL_refuses_255 : decode cL_refuses 255 = .ok (.if_icmp .ne 377, 3) := by decide +kernel
theorem dL_refuses_258 : decode cL_refuses 258 = .ok (.aload_n 0, 1) := by decide +kernel
theorem dL_refuses_259 : decode cL_refuses 259 = .ok (.iload 4, 2) := by decide +kernel
theorem dL_refuses_261 : decode cL_refuses 261 = .ok (.iload 6, 2) := by decide +kernel
theorem dL_refuses_263 : decode cL_refuses 263 = .ok (.invokestatic 112, 3) := by decide +kernel
theorem dL_refuses_266 : decode cL_refuses 266 = .ok (.ldc 15, 2) := by decide +kernel
theorem dL_refuses_268 : decode cL_refuses 268 = .ok (.if_icmp .ne 364, 3) := by decide +kernel
theorem dL_refuses_271 : decode cL_refuses 271 = .ok (.aload_n 0, 1) := by decide +kernel
theorem dL_refuses_272 : decode cL_refuses 272 = .ok (.iload 6, 2) := by decide +kernel
theorem dL_refuses_274 : decode cL_refuses 274 = .ok (.iload 4, 2) := by decide +kernel
theorem dL_refuses_276 : decode cL_refuses 276 = .ok (.invokestatic 114, 3) := by decide +kernel
theorem dL_refuses_279 : decode cL_refuses 279 = .ok (.ldc 15, 2) := by decide +kernel
theorem dL_refuses_281 : decode cL_refuses 281 = .ok (.if_icmp .ne 351, 3) := by decide +kernel
theorem dL_refuses_284 : decode cL_refuses 284 = .ok (.aload_n 0, 1) := by decide +kernel
theorem dL_refuses_285 : decode cL_refuses 285 = .ok (.iconst 4, 1) := by decide +kernel
theorem dL_refuses_286 : decode cL_refuses 286 = .ok (.iload_n 2, 1) := by decide +kernel
theorem dL_refuses_287 : decode cL_refuses 287 = .ok (.iadd, 1) := by decide +kernel
theorem dL_refuses_288 : decode cL_refuses 288 = .ok (.iconst 0, 1) := by decide +kernel
theorem dL_refuses_289 : decode cL_refuses 289 = .ok (.invokestatic 117, 3) := by decide +kernel
theorem dL_refuses_292 : decode cL_refuses 292 = .ok (.ldc 15, 2) := by decide +kernel
theorem dL_refuses_294 : decode cL_refuses 294 = .ok (.if_icmp .ne 338, 3) := by decide +kernel
theorem dL_refuses_297 : decode cL_refuses 297 = .ok (.aload_n 0, 1) := by decide +kernel
theorem dL_refuses_298 : decode cL_refuses 298 = .ok (.iconst 0, 1) := by decide +kernel
theorem dL_refuses_299 : decode cL_refuses 299 = .ok (.iload 4, 2) := by decide +kernel
theorem dL_refuses_301 : decode cL_refuses 301 = .ok (.invokestatic 117, 3) := by decide +kernel
theorem dL_refuses_304 : decode cL_refuses 304 = .ok (.ldc 15, 2) := by decide +kernel
theorem dL_refuses_306 : decode cL_refuses 306 = .ok (.if_icmp .ne 326, 3) := by decide +kernel
theorem dL_refuses_309 : decode cL_refuses 309 = .ok (.aload_n 0, 1) := by decide +kernel
theorem dL_refuses_310 : decode cL_refuses 310 = .ok (.iload_n 3, 1) := by decide +kernel
theorem dL_refuses_311 : decode cL_refuses 311 = .ok (.bipush 101, 2) := by decide +kernel
theorem dL_refuses_313 : decode cL_refuses 313 = .ok (.invokestatic 120, 3) := by decide +kernel
theorem dL_refuses_316 : decode cL_refuses 316 = .ok (.ldc 15, 2) := by decide +kernel
theorem dL_refuses_318 : decode cL_refuses 318 = .ok (.if_icmp .ne 314, 3) := by decide +kernel
theorem dL_refuses_321 : decode cL_refuses 321 = .ok (.aload_n 0, 1) := by decide +kernel
theorem dL_refuses_322 : decode cL_refuses 322 = .ok (.iload_n 3, 1) := by decide +kernel
theorem dL_refuses_323 : decode cL_refuses 323 = .ok (.bipush 24, 2) := by decide +kernel
theorem dL_refuses_325 : decode cL_refuses 325 = .ok (.bipush 24, 2) := by decide +kernel
theorem dL_refuses_327 : decode cL_refuses 327 = .ok (.invokestatic 123, 3) := by decide +kernel
theorem dL_refuses_330 : decode cL_refuses 330 = .ok (.ldc 15, 2) := by decide +kernel
theorem dL_refuses_332 : decode cL_refuses 332 = .ok (.if_icmp .ne 300, 3) := by decide +kernel
theorem dL_refuses_335 : decode cL_refuses 335 = .ok (.aload_n 0, 1) := by decide +kernel
theorem dL_refuses_336 : decode cL_refuses 336 = .ok (.iload_n 3, 1) := by decide +kernel
theorem dL_refuses_337 : decode cL_refuses 337 = .ok (.iconst 1, 1) := by decide +kernel
theorem dL_refuses_338 : decode cL_refuses 338 = .ok (.invokestatic 126, 3) := by decide +kernel
theorem dL_refuses_341 : decode cL_refuses 341 = .ok (.ldc 15, 2) := by decide +kernel
theorem dL_refuses_343 : decode cL_refuses 343 = .ok (.if_icmp .ne 289, 3) := by decide +kernel
theorem dL_refuses_346 : decode cL_refuses 346 = .ok (.aload_n 0, 1) := by decide +kernel
theorem dL_refuses_347 : decode cL_refuses 347 = .ok (.iload_n 3, 1) := by decide +kernel
theorem dL_refuses_348 : decode cL_refuses 348 = .ok (.invokestatic 129, 3) := by decide +kernel
theorem dL_refuses_351 : decode cL_refuses 351 = .ok (.ldc 15, 2) := by decide +kernel
theorem dL_refuses_353 : decode cL_refuses 353 = .ok (.if_icmp .ne 279, 3) := by decide +kernel
theorem dL_refuses_356 : decode cL_refuses 356 = .ok (.aload_n 0, 1) := by decide +kernel
theorem dL_refuses_357 : decode cL_refuses 357 = .ok (.iload_n 3, 1) := by decide +kernel
theorem dL_refuses_358 : decode cL_refuses 358 = .ok (.invokestatic 132, 3) := by decide +kernel
theorem dL_refuses_361 : decode cL_refuses 361 = .ok (.ldc 15, 2) := by decide +kernel
theorem dL_refuses_363 : decode cL_refuses 363 = .ok (.if_icmp .ne 269, 3) := by decide +kernel
theorem dL_refuses_366 : decode cL_refuses 366 = .ok (.aload_n 0, 1) := by decide +kernel
theorem dL_refuses_367 : decode cL_refuses 367 = .ok (.iload_n 3, 1) := by decide +kernel
theorem dL_refuses_368 : decode cL_refuses 368 = .ok (.invokestatic 134, 3) := by decide +kernel
theorem dL_refuses_371 : decode cL_refuses 371 = .ok (.ldc 15, 2) := by decide +kernel
theorem dL_refuses_373 : decode cL_refuses 373 = .ok (.if_icmp .ne 259, 3) := by decide +kernel
theorem dL_refuses_376 : decode cL_refuses 376 = .ok (.aload_n 0, 1) := by decide +kernel
theorem dL_refuses_377 : decode cL_refuses 377 = .ok (.iload_n 3, 1) := by decide +kernel
theorem dL_refuses_378 : decode cL_refuses 378 = .ok (.invokestatic 137, 3) := by decide +kernel
theorem dL_refuses_381 : decode cL_refuses 381 = .ok (.ldc 15, 2) := by decide +kernel
theorem dL_refuses_383 : decode cL_refuses 383 = .ok (.if_icmp .ne 249, 3) := by decide +kernel
theorem dL_refuses_386 : decode cL_refuses 386 = .ok (.aload_n 0, 1) := by decide +kernel
theorem dL_refuses_387 : decode cL_refuses 387 = .ok (.iload_n 3, 1) := by decide +kernel
theorem dL_refuses_388 : decode cL_refuses 388 = .ok (.invokestatic 139, 3) := by decide +kernel
theorem dL_refuses_391 : decode cL_refuses 391 = .ok (.ldc 15, 2) := by decide +kernel
theorem dL_refuses_393 : decode cL_refuses 393 = .ok (.if_icmp .ne 239, 3) := by decide +kernel
theorem dL_refuses_396 : decode cL_refuses 396 = .ok (.aload_n 0, 1) := by decide +kernel
theorem dL_refuses_397 : decode cL_refuses 397 = .ok (.iload 4, 2) := by decide +kernel
theorem dL_refuses_399 : decode cL_refuses 399 = .ok (.bipush 16, 2) := by decide +kernel
theorem dL_refuses_401 : decode cL_refuses 401 = .ok (.sipush 256, 3) := by decide +kernel
theorem dL_refuses_404 : decode cL_refuses 404 = .ok (.iconst (-1), 1) := by decide +kernel
theorem dL_refuses_405 : decode cL_refuses 405 = .ok (.invokestatic 141, 3) := by decide +kernel
theorem dL_refuses_408 : decode cL_refuses 408 = .ok (.ldc 15, 2) := by decide +kernel
theorem dL_refuses_410 : decode cL_refuses 410 = .ok (.if_icmp .ne 222, 3) := by decide +kernel
theorem dL_refuses_413 : decode cL_refuses 413 = .ok (.aload_n 0, 1) := by decide +kernel
theorem dL_refuses_414 : decode cL_refuses 414 = .ok (.iload 6, 2) := by decide +kernel
theorem dL_refuses_416 : decode cL_refuses 416 = .ok (.bipush 16, 2) := by decide +kernel
theorem dL_refuses_418 : decode cL_refuses 418 = .ok (.iconst 0, 1) := by decide +kernel
theorem dL_refuses_419 : decode cL_refuses 419 = .ok (.iload 5, 2) := by decide +kernel
theorem dL_refuses_421 : decode cL_refuses 421 = .ok (.iconst (-1), 1) := by decide +kernel
theorem dL_refuses_422 : decode cL_refuses 422 = .ok (.if_icmp .ne 8, 3) := by decide +kernel
theorem dL_refuses_425 : decode cL_refuses 425 = .ok (.bipush (-2), 2) := by decide +kernel
theorem dL_refuses_427 : decode cL_refuses 427 = .ok (.goto 5, 3) := by decide +kernel
theorem dL_refuses_430 : decode cL_refuses 430 = .ok (.iload 5, 2) := by decide +kernel
theorem dL_refuses_432 : decode cL_refuses 432 = .ok (.invokestatic 141, 3) := by decide +kernel
theorem dL_refuses_435 : decode cL_refuses 435 = .ok (.ldc 15, 2) := by decide +kernel
theorem dL_refuses_437 : decode cL_refuses 437 = .ok (.if_icmp .ne 195, 3) := by decide +kernel
theorem dL_refuses_440 : decode cL_refuses 440 = .ok (.aload_n 0, 1) := by decide +kernel
theorem dL_refuses_441 : decode cL_refuses 441 = .ok (.iload 6, 2) := by decide +kernel
theorem dL_refuses_443 : decode cL_refuses 443 = .ok (.bipush 16, 2) := by decide +kernel
theorem dL_refuses_445 : decode cL_refuses 445 = .ok (.iload_n 2, 1) := by decide +kernel
theorem dL_refuses_446 : decode cL_refuses 446 = .ok (.iadd, 1) := by decide +kernel
theorem dL_refuses_447 : decode cL_refuses 447 = .ok (.iconst 0, 1) := by decide +kernel
theorem dL_refuses_448 : decode cL_refuses 448 = .ok (.iconst (-1), 1) := by decide +kernel
theorem dL_refuses_449 : decode cL_refuses 449 = .ok (.invokestatic 141, 3) := by decide +kernel
theorem dL_refuses_452 : decode cL_refuses 452 = .ok (.ldc 18, 2) := by decide +kernel
theorem dL_refuses_454 : decode cL_refuses 454 = .ok (.if_icmp .ne 178, 3) := by decide +kernel
theorem dL_refuses_457 : decode cL_refuses 457 = .ok (.aload_n 0, 1) := by decide +kernel
theorem dL_refuses_458 : decode cL_refuses 458 = .ok (.iload 6, 2) := by decide +kernel
theorem dL_refuses_460 : decode cL_refuses 460 = .ok (.iconst 0, 1) := by decide +kernel
theorem dL_refuses_461 : decode cL_refuses 461 = .ok (.sipush 256, 3) := by decide +kernel
theorem dL_refuses_464 : decode cL_refuses 464 = .ok (.iload_n 2, 1) := by decide +kernel
theorem dL_refuses_465 : decode cL_refuses 465 = .ok (.iadd, 1) := by decide +kernel
theorem dL_refuses_466 : decode cL_refuses 466 = .ok (.iconst (-1), 1) := by decide +kernel
theorem dL_refuses_467 : decode cL_refuses 467 = .ok (.invokestatic 141, 3) := by decide +kernel
theorem dL_refuses_470 : decode cL_refuses 470 = .ok (.ldc 18, 2) := by decide +kernel
theorem dL_refuses_472 : decode cL_refuses 472 = .ok (.if_icmp .ne 160, 3) := by decide +kernel
theorem dL_refuses_475 : decode cL_refuses 475 = .ok (.aload_n 0, 1) := by decide +kernel
theorem dL_refuses_476 : decode cL_refuses 476 = .ok (.iload 6, 2) := by decide +kernel
theorem dL_refuses_478 : decode cL_refuses 478 = .ok (.iconst 0, 1) := by decide +kernel
theorem dL_refuses_479 : decode cL_refuses 479 = .ok (.iconst (-1), 1) := by decide +kernel
theorem dL_refuses_480 : decode cL_refuses 480 = .ok (.iload_n 2, 1) := by decide +kernel
theorem dL_refuses_481 : decode cL_refuses 481 = .ok (.isub, 1) := by decide +kernel
theorem dL_refuses_482 : decode cL_refuses 482 = .ok (.iconst (-1), 1) := by decide +kernel
theorem dL_refuses_483 : decode cL_refuses 483 = .ok (.invokestatic 141, 3) := by decide +kernel
theorem dL_refuses_486 : decode cL_refuses 486 = .ok (.ldc 18, 2) := by decide +kernel
theorem dL_refuses_488 : decode cL_refuses 488 = .ok (.if_icmp .ne 144, 3) := by decide +kernel
theorem dL_refuses_491 : decode cL_refuses 491 = .ok (.aload_n 0, 1) := by decide +kernel
theorem dL_refuses_492 : decode cL_refuses 492 = .ok (.iload 5, 2) := by decide +kernel
theorem dL_refuses_494 : decode cL_refuses 494 = .ok (.iconst 0, 1) := by decide +kernel
theorem dL_refuses_495 : decode cL_refuses 495 = .ok (.iconst 0, 1) := by decide +kernel
theorem dL_refuses_496 : decode cL_refuses 496 = .ok (.iconst 0, 1) := by decide +kernel
theorem dL_refuses_497 : decode cL_refuses 497 = .ok (.iconst 0, 1) := by decide +kernel
theorem dL_refuses_498 : decode cL_refuses 498 = .ok (.invokestatic 145, 3) := by decide +kernel
theorem dL_refuses_501 : decode cL_refuses 501 = .ok (.ldc 15, 2) := by decide +kernel
theorem dL_refuses_503 : decode cL_refuses 503 = .ok (.if_icmp .ne 129, 3) := by decide +kernel
theorem dL_refuses_506 : decode cL_refuses 506 = .ok (.aload_n 0, 1) := by decide +kernel
theorem dL_refuses_507 : decode cL_refuses 507 = .ok (.iload 5, 2) := by decide +kernel
theorem dL_refuses_509 : decode cL_refuses 509 = .ok (.invokestatic 149, 3) := by decide +kernel
theorem dL_refuses_512 : decode cL_refuses 512 = .ok (.ldc 15, 2) := by decide +kernel
theorem dL_refuses_514 : decode cL_refuses 514 = .ok (.if_icmp .ne 118, 3) := by decide +kernel
theorem dL_refuses_517 : decode cL_refuses 517 = .ok (.aload_n 0, 1) := by decide +kernel
theorem dL_refuses_518 : decode cL_refuses 518 = .ok (.iload 5, 2) := by decide +kernel
theorem dL_refuses_520 : decode cL_refuses 520 = .ok (.invokestatic 152, 3) := by decide +kernel
theorem dL_refuses_523 : decode cL_refuses 523 = .ok (.ldc 15, 2) := by decide +kernel
theorem dL_refuses_525 : decode cL_refuses 525 = .ok (.if_icmp .ne 107, 3) := by decide +kernel
theorem dL_refuses_528 : decode cL_refuses 528 = .ok (.aload_n 0, 1) := by decide +kernel
theorem dL_refuses_529 : decode cL_refuses 529 = .ok (.iload 5, 2) := by decide +kernel
theorem dL_refuses_531 : decode cL_refuses 531 = .ok (.invokestatic 155, 3) := by decide +kernel
theorem dL_refuses_534 : decode cL_refuses 534 = .ok (.ldc 15, 2) := by decide +kernel
theorem dL_refuses_536 : decode cL_refuses 536 = .ok (.if_icmp .ne 96, 3) := by decide +kernel
theorem dL_refuses_539 : decode cL_refuses 539 = .ok (.aload_n 0, 1) := by decide +kernel
theorem dL_refuses_540 : decode cL_refuses 540 = .ok (.iload 5, 2) := by decide +kernel
theorem dL_refuses_542 : decode cL_refuses 542 = .ok (.invokestatic 157, 3) := by decide +kernel
theorem dL_refuses_545 : decode cL_refuses 545 = .ok (.ldc 15, 2) := by decide +kernel
theorem dL_refuses_547 : decode cL_refuses 547 = .ok (.if_icmp .ne 85, 3) := by decide +kernel
theorem dL_refuses_550 : decode cL_refuses 550 = .ok (.aload_n 0, 1) := by decide +kernel
theorem dL_refuses_551 : decode cL_refuses 551 = .ok (.iload 5, 2) := by decide +kernel
theorem dL_refuses_553 : decode cL_refuses 553 = .ok (.invokestatic 160, 3) := by decide +kernel
theorem dL_refuses_556 : decode cL_refuses 556 = .ok (.ldc 15, 2) := by decide +kernel
theorem dL_refuses_558 : decode cL_refuses 558 = .ok (.if_icmp .ne 74, 3) := by decide +kernel
theorem dL_refuses_561 : decode cL_refuses 561 = .ok (.aload_n 0, 1) := by decide +kernel
theorem dL_refuses_562 : decode cL_refuses 562 = .ok (.iload_n 2, 1) := by decide +kernel
theorem dL_refuses_563 : decode cL_refuses 563 = .ok (.ineg, 1) := by decide +kernel
theorem dL_refuses_564 : decode cL_refuses 564 = .ok (.invokestatic 162, 3) := by decide +kernel
theorem dL_refuses_567 : decode cL_refuses 567 = .ok (.ldc 18, 2) := by decide +kernel
theorem dL_refuses_569 : decode cL_refuses 569 = .ok (.if_icmp .ne 63, 3) := by decide +kernel
theorem dL_refuses_572 : decode cL_refuses 572 = .ok (.aload_n 0, 1) := by decide +kernel
theorem dL_refuses_573 : decode cL_refuses 573 = .ok (.bipush 101, 2) := by decide +kernel
theorem dL_refuses_575 : decode cL_refuses 575 = .ok (.iload_n 2, 1) := by decide +kernel
theorem dL_refuses_576 : decode cL_refuses 576 = .ok (.iadd, 1) := by decide +kernel
theorem dL_refuses_577 : decode cL_refuses 577 = .ok (.invokestatic 162, 3) := by decide +kernel
theorem dL_refuses_580 : decode cL_refuses 580 = .ok (.ldc 18, 2) := by decide +kernel
theorem dL_refuses_582 : decode cL_refuses 582 = .ok (.if_icmp .ne 50, 3) := by decide +kernel
theorem dL_refuses_585 : decode cL_refuses 585 = .ok (.aload_n 1, 1) := by decide +kernel
theorem dL_refuses_586 : decode cL_refuses 586 = .ok (.iconst 0, 1) := by decide +kernel
theorem dL_refuses_587 : decode cL_refuses 587 = .ok (.iaload, 1) := by decide +kernel
theorem dL_refuses_588 : decode cL_refuses 588 = .ok (.bipush 6, 2) := by decide +kernel
theorem dL_refuses_590 : decode cL_refuses 590 = .ok (.if_icmp .lt 17, 3) := by decide +kernel
theorem dL_refuses_593 : decode cL_refuses 593 = .ok (.aload_n 0, 1) := by decide +kernel
theorem dL_refuses_594 : decode cL_refuses 594 = .ok (.iload 6, 2) := by decide +kernel
theorem dL_refuses_596 : decode cL_refuses 596 = .ok (.iconst 0, 1) := by decide +kernel
theorem dL_refuses_597 : decode cL_refuses 597 = .ok (.iconst 0, 1) := by decide +kernel
theorem dL_refuses_598 : decode cL_refuses 598 = .ok (.iconst (-1), 1) := by decide +kernel
theorem dL_refuses_599 : decode cL_refuses 599 = .ok (.invokestatic 141, 3) := by decide +kernel
theorem dL_refuses_602 : decode cL_refuses 602 = .ok (.ldc 37, 2) := by decide +kernel
theorem dL_refuses_604 : decode cL_refuses 604 = .ok (.if_icmp .ne 28, 3) := by decide +kernel
theorem dL_refuses_607 : decode cL_refuses 607 = .ok (.aload_n 0, 1) := by decide +kernel
theorem dL_refuses_608 : decode cL_refuses 608 = .ok (.invokevirtual 94, 3) := by decide +kernel
theorem dL_refuses_611 : decode cL_refuses 611 = .ok (.bipush 10, 2) := by decide +kernel
theorem dL_refuses_613 : decode cL_refuses 613 = .ok (.if_icmp .lt 15, 3) := by decide +kernel
theorem dL_refuses_616 : decode cL_refuses 616 = .ok (.aload_n 0, 1) := by decide +kernel
theorem dL_refuses_617 : decode cL_refuses 617 = .ok (.iconst 0, 1) := by decide +kernel
theorem dL_refuses_618 : decode cL_refuses 618 = .ok (.iload 6, 2) := by decide +kernel
theorem dL_refuses_620 : decode cL_refuses 620 = .ok (.invokestatic 117, 3) := by decide +kernel
theorem dL_refuses_623 : decode cL_refuses 623 = .ok (.ldc 37, 2) := by decide +kernel
theorem dL_refuses_625 : decode cL_refuses 625 = .ok (.if_icmp .ne 7, 3) := by decide +kernel
theorem dL_refuses_628 : decode cL_refuses 628 = .ok (.iconst 1, 1) := by decide +kernel
theorem dL_refuses_629 : decode cL_refuses 629 = .ok (.goto 4, 3) := by decide +kernel
theorem dL_refuses_632 : decode cL_refuses 632 = .ok (.iconst 0, 1) := by decide +kernel
theorem dL_refuses_633 : decode cL_refuses 633 = .ok (.istore 7, 2) := by decide +kernel
theorem dL_refuses_635 : decode cL_refuses 635 = .ok (.iload 7, 2) := by decide +kernel
theorem dL_refuses_637 : decode cL_refuses 637 = .ok (.ifCond .eq 156, 3) := by decide +kernel
theorem dL_refuses_640 : decode cL_refuses 640 = .ok (.aload_n 1, 1) := by decide +kernel
theorem dL_refuses_641 : decode cL_refuses 641 = .ok (.iconst 0, 1) := by decide +kernel
theorem dL_refuses_642 : decode cL_refuses 642 = .ok (.iaload, 1) := by decide +kernel
theorem dL_refuses_643 : decode cL_refuses 643 = .ok (.ifCond .le 150, 3) := by decide +kernel
theorem dL_refuses_646 : decode cL_refuses 646 = .ok (.iload_n 2, 1) := by decide +kernel
theorem dL_refuses_647 : decode cL_refuses 647 = .ok (.aload_n 1, 1) := by decide +kernel
theorem dL_refuses_648 : decode cL_refuses 648 = .ok (.iconst 0, 1) := by decide +kernel
theorem dL_refuses_649 : decode cL_refuses 649 = .ok (.iaload, 1) := by decide +kernel
theorem dL_refuses_650 : decode cL_refuses 650 = .ok (.irem, 1) := by decide +kernel
theorem dL_refuses_651 : decode cL_refuses 651 = .ok (.istore 8, 2) := by decide +kernel
theorem dL_refuses_653 : decode cL_refuses 653 = .ok (.aload_n 0, 1) := by decide +kernel
theorem dL_refuses_654 : decode cL_refuses 654 = .ok (.iload 8, 2) := by decide +kernel
theorem dL_refuses_656 : decode cL_refuses 656 = .ok (.bipush 101, 2) := by decide +kernel
theorem dL_refuses_658 : decode cL_refuses 658 = .ok (.iload_n 2, 1) := by decide +kernel
theorem dL_refuses_659 : decode cL_refuses 659 = .ok (.iadd, 1) := by decide +kernel
theorem dL_refuses_660 : decode cL_refuses 660 = .ok (.bipush 101, 2) := by decide +kernel
theorem dL_refuses_662 : decode cL_refuses 662 = .ok (.iload_n 2, 1) := by decide +kernel
theorem dL_refuses_663 : decode cL_refuses 663 = .ok (.iadd, 1) := by decide +kernel
theorem dL_refuses_664 : decode cL_refuses 664 = .ok (.iconst 1, 1) := by decide +kernel
theorem dL_refuses_665 : decode cL_refuses 665 = .ok (.iconst 1, 1) := by decide +kernel
theorem dL_refuses_666 : decode cL_refuses 666 = .ok (.invokestatic 145, 3) := by decide +kernel
theorem dL_refuses_669 : decode cL_refuses 669 = .ok (.ldc 18, 2) := by decide +kernel
theorem dL_refuses_671 : decode cL_refuses 671 = .ok (.if_icmp .ne 119, 3) := by decide +kernel
theorem dL_refuses_674 : decode cL_refuses 674 = .ok (.aload_n 0, 1) := by decide +kernel
theorem dL_refuses_675 : decode cL_refuses 675 = .ok (.iload 8, 2) := by decide +kernel
theorem dL_refuses_677 : decode cL_refuses 677 = .ok (.bipush 50, 2) := by decide +kernel
theorem dL_refuses_679 : decode cL_refuses 679 = .ok (.bipush 49, 2) := by decide +kernel
theorem dL_refuses_681 : decode cL_refuses 681 = .ok (.iconst 1, 1) := by decide +kernel
theorem dL_refuses_682 : decode cL_refuses 682 = .ok (.iconst 1, 1) := by decide +kernel
theorem dL_refuses_683 : decode cL_refuses 683 = .ok (.invokestatic 145, 3) := by decide +kernel
theorem dL_refuses_686 : decode cL_refuses 686 = .ok (.ldc 18, 2) := by decide +kernel
theorem dL_refuses_688 : decode cL_refuses 688 = .ok (.if_icmp .ne 102, 3) := by decide +kernel
theorem dL_refuses_691 : decode cL_refuses 691 = .ok (.aload_n 0, 1) := by decide +kernel
theorem dL_refuses_692 : decode cL_refuses 692 = .ok (.iload 8, 2) := by decide +kernel
theorem dL_refuses_694 : decode cL_refuses 694 = .ok (.bipush 50, 2) := by decide +kernel
theorem dL_refuses_696 : decode cL_refuses 696 = .ok (.bipush 101, 2) := by decide +kernel
theorem dL_refuses_698 : decode cL_refuses 698 = .ok (.iload_n 2, 1) := by decide +kernel
theorem dL_refuses_699 : decode cL_refuses 699 = .ok (.iadd, 1) := by decide +kernel
theorem dL_refuses_700 : decode cL_refuses 700 = .ok (.iconst 1, 1) := by decide +kernel
theorem dL_refuses_701 : decode cL_refuses 701 = .ok (.iconst 1, 1) := by decide +kernel
theorem dL_refuses_702 : decode cL_refuses 702 = .ok (.invokestatic 145, 3) := by decide +kernel
theorem dL_refuses_705 : decode cL_refuses 705 = .ok (.ldc 18, 2) := by decide +kernel
theorem dL_refuses_707 : decode cL_refuses 707 = .ok (.if_icmp .ne 83, 3) := by decide +kernel
theorem dL_refuses_710 : decode cL_refuses 710 = .ok (.aload_n 0, 1) := by decide +kernel
theorem dL_refuses_711 : decode cL_refuses 711 = .ok (.iload 8, 2) := by decide +kernel
theorem dL_refuses_713 : decode cL_refuses 713 = .ok (.bipush 50, 2) := by decide +kernel
theorem dL_refuses_715 : decode cL_refuses 715 = .ok (.bipush 60, 2) := by decide +kernel
theorem dL_refuses_717 : decode cL_refuses 717 = .ok (.iconst 0, 1) := by decide +kernel
theorem dL_refuses_718 : decode cL_refuses 718 = .ok (.iconst 1, 1) := by decide +kernel
theorem dL_refuses_719 : decode cL_refuses 719 = .ok (.invokestatic 145, 3) := by decide +kernel
theorem dL_refuses_722 : decode cL_refuses 722 = .ok (.ldc 18, 2) := by decide +kernel
theorem dL_refuses_724 : decode cL_refuses 724 = .ok (.if_icmp .ne 66, 3) := by decide +kernel
theorem dL_refuses_727 : decode cL_refuses 727 = .ok (.aload_n 0, 1) := by decide +kernel
theorem dL_refuses_728 : decode cL_refuses 728 = .ok (.iload 8, 2) := by decide +kernel
theorem dL_refuses_730 : decode cL_refuses 730 = .ok (.bipush 50, 2) := by decide +kernel
theorem dL_refuses_732 : decode cL_refuses 732 = .ok (.bipush 60, 2) := by decide +kernel
theorem dL_refuses_734 : decode cL_refuses 734 = .ok (.bipush 11, 2) := by decide +kernel
theorem dL_refuses_736 : decode cL_refuses 736 = .ok (.iload_n 2, 1) := by decide +kernel
theorem dL_refuses_737 : decode cL_refuses 737 = .ok (.iadd, 1) := by decide +kernel
theorem dL_refuses_738 : decode cL_refuses 738 = .ok (.iconst 1, 1) := by decide +kernel
theorem dL_refuses_739 : decode cL_refuses 739 = .ok (.invokestatic 145, 3) := by decide +kernel
theorem dL_refuses_742 : decode cL_refuses 742 = .ok (.ldc 18, 2) := by decide +kernel
theorem dL_refuses_744 : decode cL_refuses 744 = .ok (.if_icmp .ne 46, 3) := by decide +kernel
theorem dL_refuses_747 : decode cL_refuses 747 = .ok (.aload_n 0, 1) := by decide +kernel
theorem dL_refuses_748 : decode cL_refuses 748 = .ok (.iload 8, 2) := by decide +kernel
theorem dL_refuses_750 : decode cL_refuses 750 = .ok (.bipush 50, 2) := by decide +kernel
theorem dL_refuses_752 : decode cL_refuses 752 = .ok (.bipush 60, 2) := by decide +kernel
theorem dL_refuses_754 : decode cL_refuses 754 = .ok (.iconst 1, 1) := by decide +kernel
theorem dL_refuses_755 : decode cL_refuses 755 = .ok (.sipush 1001, 3) := by decide +kernel
theorem dL_refuses_758 : decode cL_refuses 758 = .ok (.iload_n 2, 1) := by decide +kernel
theorem dL_refuses_759 : decode cL_refuses 759 = .ok (.iadd, 1) := by decide +kernel
theorem dL_refuses_760 : decode cL_refuses 760 = .ok (.invokestatic 145, 3) := by decide +kernel
theorem dL_refuses_763 : decode cL_refuses 763 = .ok (.ldc 18, 2) := by decide +kernel
theorem dL_refuses_765 : decode cL_refuses 765 = .ok (.if_icmp .ne 25, 3) := by decide +kernel
theorem dL_refuses_768 : decode cL_refuses 768 = .ok (.aload_n 0, 1) := by decide +kernel
theorem dL_refuses_769 : decode cL_refuses 769 = .ok (.iload 8, 2) := by decide +kernel
theorem dL_refuses_771 : decode cL_refuses 771 = .ok (.iconst (-1), 1) := by decide +kernel
theorem dL_refuses_772 : decode cL_refuses 772 = .ok (.iload_n 2, 1) := by decide +kernel
theorem dL_refuses_773 : decode cL_refuses 773 = .ok (.isub, 1) := by decide +kernel
theorem dL_refuses_774 : decode cL_refuses 774 = .ok (.bipush 60, 2) := by decide +kernel
theorem dL_refuses_776 : decode cL_refuses 776 = .ok (.iconst 1, 1) := by decide +kernel
theorem dL_refuses_777 : decode cL_refuses 777 = .ok (.iconst 1, 1) := by decide +kernel
theorem dL_refuses_778 : decode cL_refuses 778 = .ok (.invokestatic 145, 3) := by decide +kernel
theorem dL_refuses_781 : decode cL_refuses 781 = .ok (.ldc 18, 2) := by decide +kernel
theorem dL_refuses_783 : decode cL_refuses 783 = .ok (.if_icmp .ne 7, 3) := by decide +kernel
theorem dL_refuses_786 : decode cL_refuses 786 = .ok (.iconst 1, 1) := by decide +kernel
theorem dL_refuses_787 : decode cL_refuses 787 = .ok (.goto 4, 3) := by decide +kernel
theorem dL_refuses_790 : decode cL_refuses 790 = .ok (.iconst 0, 1) := by decide +kernel
theorem dL_refuses_791 : decode cL_refuses 791 = .ok (.istore 7, 2) := by decide +kernel
theorem dL_refuses_793 : decode cL_refuses 793 = .ok (.iload 7, 2) := by decide +kernel
theorem dL_refuses_795 : decode cL_refuses 795 = .ok (.ifCond .eq 110, 3) := by decide +kernel
theorem dL_refuses_798 : decode cL_refuses 798 = .ok (.aload_n 0, 1) := by decide +kernel
theorem dL_refuses_799 : decode cL_refuses 799 = .ok (.invokevirtual 94, 3) := by decide +kernel
theorem dL_refuses_802 : decode cL_refuses 802 = .ok (.ifCond .le 103, 3) := by decide +kernel
theorem dL_refuses_805 : decode cL_refuses 805 = .ok (.iload_n 2, 1) := by decide +kernel
theorem dL_refuses_806 : decode cL_refuses 806 = .ok (.bipush 8, 2) := by decide +kernel
theorem dL_refuses_808 : decode cL_refuses 808 = .ok (.idiv, 1) := by decide +kernel
theorem dL_refuses_809 : decode cL_refuses 809 = .ok (.aload_n 0, 1) := by decide +kernel
theorem dL_refuses_810 : decode cL_refuses 810 = .ok (.invokevirtual 94, 3) := by decide +kernel
theorem dL_refuses_813 : decode cL_refuses 813 = .ok (.irem, 1) := by decide +kernel
theorem dL_refuses_814 : decode cL_refuses 814 = .ok (.istore 8, 2) := by decide +kernel
theorem dL_refuses_816 : decode cL_refuses 816 = .ok (.aload_n 0, 1) := by decide +kernel
theorem dL_refuses_817 : decode cL_refuses 817 = .ok (.iload 8, 2) := by decide +kernel
theorem dL_refuses_819 : decode cL_refuses 819 = .ok (.bipush 101, 2) := by decide +kernel
theorem dL_refuses_821 : decode cL_refuses 821 = .ok (.iload_n 2, 1) := by decide +kernel
theorem dL_refuses_822 : decode cL_refuses 822 = .ok (.iadd, 1) := by decide +kernel
theorem dL_refuses_823 : decode cL_refuses 823 = .ok (.invokestatic 120, 3) := by decide +kernel
theorem dL_refuses_826 : decode cL_refuses 826 = .ok (.ldc 18, 2) := by decide +kernel
theorem dL_refuses_828 : decode cL_refuses 828 = .ok (.if_icmp .ne 74, 3) := by decide +kernel
theorem dL_refuses_831 : decode cL_refuses 831 = .ok (.aload_n 0, 1) := by decide +kernel
theorem dL_refuses_832 : decode cL_refuses 832 = .ok (.iload 8, 2) := by decide +kernel
theorem dL_refuses_834 : decode cL_refuses 834 = .ok (.iconst (-1), 1) := by decide +kernel
theorem dL_refuses_835 : decode cL_refuses 835 = .ok (.iload_n 2, 1) := by decide +kernel
theorem dL_refuses_836 : decode cL_refuses 836 = .ok (.isub, 1) := by decide +kernel
theorem dL_refuses_837 : decode cL_refuses 837 = .ok (.invokestatic 120, 3) := by decide +kernel
theorem dL_refuses_840 : decode cL_refuses 840 = .ok (.ldc 18, 2) := by decide +kernel
theorem dL_refuses_842 : decode cL_refuses 842 = .ok (.if_icmp .ne 60, 3) := by decide +kernel
theorem dL_refuses_845 : decode cL_refuses 845 = .ok (.aload_n 0, 1) := by decide +kernel
theorem dL_refuses_846 : decode cL_refuses 846 = .ok (.iload 8, 2) := by decide +kernel
theorem dL_refuses_848 : decode cL_refuses 848 = .ok (.bipush 24, 2) := by decide +kernel
theorem dL_refuses_850 : decode cL_refuses 850 = .ok (.iload_n 2, 1) := by decide +kernel
theorem dL_refuses_851 : decode cL_refuses 851 = .ok (.iadd, 1) := by decide +kernel
theorem dL_refuses_852 : decode cL_refuses 852 = .ok (.iconst 0, 1) := by decide +kernel
theorem dL_refuses_853 : decode cL_refuses 853 = .ok (.invokestatic 123, 3) := by decide +kernel
theorem dL_refuses_856 : decode cL_refuses 856 = .ok (.ldc 18, 2) := by decide +kernel
theorem dL_refuses_858 : decode cL_refuses 858 = .ok (.if_icmp .ne 44, 3) := by decide +kernel
theorem dL_refuses_861 : decode cL_refuses 861 = .ok (.aload_n 0, 1) := by decide +kernel
theorem dL_refuses_862 : decode cL_refuses 862 = .ok (.iload 8, 2) := by decide +kernel
theorem dL_refuses_864 : decode cL_refuses 864 = .ok (.iconst 0, 1) := by decide +kernel
theorem dL_refuses_865 : decode cL_refuses 865 = .ok (.iconst (-1), 1) := by decide +kernel
theorem dL_refuses_866 : decode cL_refuses 866 = .ok (.iload_n 2, 1) := by decide +kernel
theorem dL_refuses_867 : decode cL_refuses 867 = .ok (.isub, 1) := by decide +kernel
theorem dL_refuses_868 : decode cL_refuses 868 = .ok (.invokestatic 123, 3) := by decide +kernel
theorem dL_refuses_871 : decode cL_refuses 871 = .ok (.ldc 18, 2) := by decide +kernel
theorem dL_refuses_873 : decode cL_refuses 873 = .ok (.if_icmp .ne 29, 3) := by decide +kernel
theorem dL_refuses_876 : decode cL_refuses 876 = .ok (.aload_n 0, 1) := by decide +kernel
theorem dL_refuses_877 : decode cL_refuses 877 = .ok (.iload 8, 2) := by decide +kernel
theorem dL_refuses_879 : decode cL_refuses 879 = .ok (.invokestatic 129, 3) := by decide +kernel
theorem dL_refuses_882 : decode cL_refuses 882 = .ok (.iconst 2, 1) := by decide +kernel
theorem dL_refuses_883 : decode cL_refuses 883 = .ok (.if_icmp .eq 15, 3) := by decide +kernel
theorem dL_refuses_886 : decode cL_refuses 886 = .ok (.aload_n 0, 1) := by decide +kernel
theorem dL_refuses_887 : decode cL_refuses 887 = .ok (.iload 8, 2) := by decide +kernel
theorem dL_refuses_889 : decode cL_refuses 889 = .ok (.iconst 1, 1) := by decide +kernel
theorem dL_refuses_890 : decode cL_refuses 890 = .ok (.invokestatic 126, 3) := by decide +kernel
theorem dL_refuses_893 : decode cL_refuses 893 = .ok (.ldc 37, 2) := by decide +kernel
theorem dL_refuses_895 : decode cL_refuses 895 = .ok (.if_icmp .ne 7, 3) := by decide +kernel
theorem dL_refuses_898 : decode cL_refuses 898 = .ok (.iconst 1, 1) := by decide +kernel
theorem dL_refuses_899 : decode cL_refuses 899 = .ok (.goto 4, 3) := by decide +kernel
theorem dL_refuses_902 : decode cL_refuses 902 = .ok (.iconst 0, 1) := by decide +kernel
theorem dL_refuses_903 : decode cL_refuses 903 = .ok (.istore 7, 2) := by decide +kernel
theorem dL_refuses_905 : decode cL_refuses 905 = .ok (.iload 7, 2) := by decide +kernel
theorem dL_refuses_907 : decode cL_refuses 907 = .ok (.ireturn, 1) := by decide +kernel
