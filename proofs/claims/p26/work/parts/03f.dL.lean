theorem dL_act_0 : decode cL_act 0 = .ok (.iload_n 2, 1) := by decide +kernel
theorem dL_act_1 : decode cL_act 1 = .ok (.bipush 32, 2) := by decide +kernel
theorem dL_act_3 : decode cL_act 3 = .ok (.idiv, 1) := by decide +kernel
theorem dL_act_4 : decode cL_act 4 = .ok (.istore 4, 2) := by decide +kernel
theorem dL_act_6 : decode cL_act 6 = .ok (.aload_n 0, 1) := by decide +kernel
theorem dL_act_7 : decode cL_act 7 = .ok (.invokevirtual 94, 3) := by decide +kernel
theorem dL_act_10 : decode cL_act 10 = .ok (.ifCond .ne 7, 3) := by decide +kernel
theorem dL_act_13 : decode cL_act 13 = .ok (.iconst 0, 1) := by decide +kernel
theorem dL_act_14 : decode cL_act 14 = .ok (.goto 10, 3) := by decide +kernel
theorem dL_act_17 : decode cL_act 17 = .ok (.iload 4, 2) := by decide +kernel
theorem dL_act_19 : decode cL_act 19 = .ok (.aload_n 0, 1) := by decide +kernel
theorem dL_act_20 : decode cL_act 20 = .ok (.invokevirtual 94, 3) := by decide +kernel
theorem dL_act_23 : decode cL_act 23 = .ok (.irem, 1) := by decide +kernel
theorem dL_act_24 : decode cL_act 24 = .ok (.istore 5, 2) := by decide +kernel
theorem dL_act_26 : decode cL_act 26 = .ok (.aload_n 1, 1) := by decide +kernel
theorem dL_act_27 : decode cL_act 27 = .ok (.iconst 0, 1) := by decide +kernel
theorem dL_act_28 : decode cL_act 28 = .ok (.iaload, 1) := by decide +kernel
theorem dL_act_29 : decode cL_act 29 = .ok (.ifCond .ne 7, 3) := by decide +kernel
theorem dL_act_32 : decode cL_act 32 = .ok (.iconst 0, 1) := by decide +kernel
theorem dL_act_33 : decode cL_act 33 = .ok (.goto 9, 3) := by decide +kernel
theorem dL_act_36 : decode cL_act 36 = .ok (.iload 4, 2) := by decide +kernel
theorem dL_act_38 : decode cL_act 38 = .ok (.aload_n 1, 1) := by decide +kernel
theorem dL_act_39 : decode cL_act 39 = .ok (.iconst 0, 1) := by decide +kernel
theorem dL_act_40 : decode cL_act 40 = .ok (.iaload, 1) := by decide +kernel
theorem dL_act_41 : decode cL_act 41 = .ok (.irem, 1) := by decide +kernel
theorem dL_act_42 : decode cL_act 42 = .ok (.istore 6, 2) := by decide +kernel
theorem dL_act_44 : decode cL_act 44 = .ok (.iload_n 2, 1) := by decide +kernel
theorem dL_act_45 : decode cL_act 45 = .ok (.bipush 32, 2) := by decide +kernel
theorem dL_act_47 : decode cL_act 47 = .ok (.irem, 1) := by decide +kernel
theorem dL_act_48 : decode cL_act 48 = .ok (.tableswitch 472 0 22 #[108, 136, 136, 171, 171, 171, 215, 215, 215, 231, 246, 270, 270, 270, 346, 346, 346, 391, 398, 398, 398, 398, 398], 108) := by decide +kernel
theorem dL_act_156 : decode cL_act 156 = .ok (.aload_n 0, 1) := by decide +kernel
theorem dL_act_157 : decode cL_act 157 = .ok (.iload 4, 2) := by decide +kernel
theorem dL_act_159 : decode cL_act 159 = .ok (.bipush 8, 2) := by decide +kernel
theorem dL_act_161 : decode cL_act 161 = .ok (.irem, 1) := by decide +kernel
theorem dL_act_162 : decode cL_act 162 = .ok (.iload 4, 2) := by decide +kernel
theorem dL_act_164 : decode cL_act 164 = .ok (.bipush 8, 2) := by decide +kernel
theorem dL_act_166 : decode cL_act 166 = .ok (.idiv, 1) := by decide +kernel
theorem dL_act_167 : decode cL_act 167 = .ok (.bipush 16, 2) := by decide +kernel
theorem dL_act_169 : decode cL_act 169 = .ok (.irem, 1) := by decide +kernel
theorem dL_act_170 : decode cL_act 170 = .ok (.iload 4, 2) := by decide +kernel
theorem dL_act_172 : decode cL_act 172 = .ok (.sipush 128, 3) := by decide +kernel
theorem dL_act_175 : decode cL_act 175 = .ok (.idiv, 1) := by decide +kernel
theorem dL_act_176 : decode cL_act 176 = .ok (.bipush 16, 2) := by decide +kernel
theorem dL_act_178 : decode cL_act 178 = .ok (.irem, 1) := by decide +kernel
theorem dL_act_179 : decode cL_act 179 = .ok (.ior, 1) := by decide +kernel
theorem dL_act_180 : decode cL_act 180 = .ok (.invokestatic 98, 3) := by decide +kernel
theorem dL_act_183 : decode cL_act 183 = .ok (.ireturn, 1) := by decide +kernel
theorem dL_act_184 : decode cL_act 184 = .ok (.aload_n 0, 1) := by decide +kernel
theorem dL_act_185 : decode cL_act 185 = .ok (.iload 4, 2) := by decide +kernel
theorem dL_act_187 : decode cL_act 187 = .ok (.bipush 8, 2) := by decide +kernel
theorem dL_act_189 : decode cL_act 189 = .ok (.irem, 1) := by decide +kernel
theorem dL_act_190 : decode cL_act 190 = .ok (.iload 4, 2) := by decide +kernel
theorem dL_act_192 : decode cL_act 192 = .ok (.bipush 8, 2) := by decide +kernel
theorem dL_act_194 : decode cL_act 194 = .ok (.idiv, 1) := by decide +kernel
theorem dL_act_195 : decode cL_act 195 = .ok (.iconst 4, 1) := by decide +kernel
theorem dL_act_196 : decode cL_act 196 = .ok (.irem, 1) := by decide +kernel
theorem dL_act_197 : decode cL_act 197 = .ok (.ifCond .ne 7, 3) := by decide +kernel
theorem dL_act_200 : decode cL_act 200 = .ok (.iconst (-1), 1) := by decide +kernel
theorem dL_act_201 : decode cL_act 201 = .ok (.goto 14, 3) := by decide +kernel
theorem dL_act_204 : decode cL_act 204 = .ok (.iconst 1, 1) := by decide +kernel
theorem dL_act_205 : decode cL_act 205 = .ok (.iload 4, 2) := by decide +kernel
theorem dL_act_207 : decode cL_act 207 = .ok (.bipush 32, 2) := by decide +kernel
theorem dL_act_209 : decode cL_act 209 = .ok (.idiv, 1) := by decide +kernel
theorem dL_act_210 : decode cL_act 210 = .ok (.sipush 900, 3) := by decide +kernel
theorem dL_act_213 : decode cL_act 213 = .ok (.irem, 1) := by decide +kernel
theorem dL_act_214 : decode cL_act 214 = .ok (.iadd, 1) := by decide +kernel
theorem dL_act_215 : decode cL_act 215 = .ok (.invokestatic 104, 3) := by decide +kernel
theorem dL_act_218 : decode cL_act 218 = .ok (.ireturn, 1) := by decide +kernel
theorem dL_act_219 : decode cL_act 219 = .ok (.aload_n 0, 1) := by decide +kernel
theorem dL_act_220 : decode cL_act 220 = .ok (.iload 4, 2) := by decide +kernel
theorem dL_act_222 : decode cL_act 222 = .ok (.bipush 8, 2) := by decide +kernel
theorem dL_act_224 : decode cL_act 224 = .ok (.irem, 1) := by decide +kernel
theorem dL_act_225 : decode cL_act 225 = .ok (.iload 4, 2) := by decide +kernel
theorem dL_act_227 : decode cL_act 227 = .ok (.bipush 8, 2) := by decide +kernel
theorem dL_act_229 : decode cL_act 229 = .ok (.idiv, 1) := by decide +kernel
theorem dL_act_230 : decode cL_act 230 = .ok (.bipush 8, 2) := by decide +kernel
theorem dL_act_232 : decode cL_act 232 = .ok (.irem, 1) := by decide +kernel
theorem dL_act_233 : decode cL_act 233 = .ok (.iload 4, 2) := by decide +kernel
theorem dL_act_235 : decode cL_act 235 = .ok (.bipush 64, 2) := by decide +kernel
theorem dL_act_237 : decode cL_act 237 = .ok (.idiv, 1) := by decide +kernel
theorem dL_act_238 : decode cL_act 238 = .ok (.iconst 5, 1) := by decide +kernel
theorem dL_act_239 : decode cL_act 239 = .ok (.irem, 1) := by decide +kernel
theorem dL_act_240 : decode cL_act 240 = .ok (.ifCond .ne 7, 3) := by decide +kernel
theorem dL_act_243 : decode cL_act 243 = .ok (.iconst (-1), 1) := by decide +kernel
theorem dL_act_244 : decode cL_act 244 = .ok (.goto 15, 3) := by decide +kernel
theorem dL_act_247 : decode cL_act 247 = .ok (.iconst 1, 1) := by decide +kernel
theorem dL_act_248 : decode cL_act 248 = .ok (.iload 4, 2) := by decide +kernel
theorem dL_act_250 : decode cL_act 250 = .ok (.sipush 320, 3) := by decide +kernel
theorem dL_act_253 : decode cL_act 253 = .ok (.idiv, 1) := by decide +kernel
theorem dL_act_254 : decode cL_act 254 = .ok (.sipush 400, 3) := by decide +kernel
theorem dL_act_257 : decode cL_act 257 = .ok (.irem, 1) := by decide +kernel
theorem dL_act_258 : decode cL_act 258 = .ok (.iadd, 1) := by decide +kernel
theorem dL_act_259 : decode cL_act 259 = .ok (.invokestatic 108, 3) := by decide +kernel
theorem dL_act_262 : decode cL_act 262 = .ok (.ireturn, 1) := by decide +kernel
theorem dL_act_263 : decode cL_act 263 = .ok (.aload_n 0, 1) := by decide +kernel
theorem dL_act_264 : decode cL_act 264 = .ok (.iload 4, 2) := by decide +kernel
theorem dL_act_266 : decode cL_act 266 = .ok (.iconst 4, 1) := by decide +kernel
theorem dL_act_267 : decode cL_act 267 = .ok (.irem, 1) := by decide +kernel
theorem dL_act_268 : decode cL_act 268 = .ok (.iload 4, 2) := by decide +kernel
theorem dL_act_270 : decode cL_act 270 = .ok (.iconst 4, 1) := by decide +kernel
theorem dL_act_271 : decode cL_act 271 = .ok (.idiv, 1) := by decide +kernel
theorem dL_act_272 : decode cL_act 272 = .ok (.bipush 8, 2) := by decide +kernel
theorem dL_act_274 : decode cL_act 274 = .ok (.irem, 1) := by decide +kernel
theorem dL_act_275 : decode cL_act 275 = .ok (.invokestatic 117, 3) := by decide +kernel
theorem dL_act_278 : decode cL_act 278 = .ok (.ireturn, 1) := by decide +kernel
theorem dL_act_279 : decode cL_act 279 = .ok (.aload_n 0, 1) := by decide +kernel
theorem dL_act_280 : decode cL_act 280 = .ok (.iload 5, 2) := by decide +kernel
theorem dL_act_282 : decode cL_act 282 = .ok (.iload 4, 2) := by decide +kernel
theorem dL_act_284 : decode cL_act 284 = .ok (.bipush 10, 2) := by decide +kernel
theorem dL_act_286 : decode cL_act 286 = .ok (.idiv, 1) := by decide +kernel
theorem dL_act_287 : decode cL_act 287 = .ok (.bipush 101, 2) := by decide +kernel
theorem dL_act_289 : decode cL_act 289 = .ok (.irem, 1) := by decide +kernel
theorem dL_act_290 : decode cL_act 290 = .ok (.invokestatic 120, 3) := by decide +kernel
theorem dL_act_293 : decode cL_act 293 = .ok (.ireturn, 1) := by decide +kernel
theorem dL_act_294 : decode cL_act 294 = .ok (.aload_n 0, 1) := by decide +kernel
theorem dL_act_295 : decode cL_act 295 = .ok (.iload 5, 2) := by decide +kernel
theorem dL_act_297 : decode cL_act 297 = .ok (.iload 4, 2) := by decide +kernel
theorem dL_act_299 : decode cL_act 299 = .ok (.bipush 10, 2) := by decide +kernel
theorem dL_act_301 : decode cL_act 301 = .ok (.idiv, 1) := by decide +kernel
theorem dL_act_302 : decode cL_act 302 = .ok (.bipush 24, 2) := by decide +kernel
theorem dL_act_304 : decode cL_act 304 = .ok (.irem, 1) := by decide +kernel
theorem dL_act_305 : decode cL_act 305 = .ok (.iload 4, 2) := by decide +kernel
theorem dL_act_307 : decode cL_act 307 = .ok (.sipush 240, 3) := by decide +kernel
theorem dL_act_310 : decode cL_act 310 = .ok (.idiv, 1) := by decide +kernel
theorem dL_act_311 : decode cL_act 311 = .ok (.bipush 24, 2) := by decide +kernel
theorem dL_act_313 : decode cL_act 313 = .ok (.irem, 1) := by decide +kernel
theorem dL_act_314 : decode cL_act 314 = .ok (.invokestatic 123, 3) := by decide +kernel
theorem dL_act_317 : decode cL_act 317 = .ok (.ireturn, 1) := by decide +kernel
theorem dL_act_318 : decode cL_act 318 = .ok (.aload_n 0, 1) := by decide +kernel
theorem dL_act_319 : decode cL_act 319 = .ok (.iload 4, 2) := by decide +kernel
theorem dL_act_321 : decode cL_act 321 = .ok (.bipush 8, 2) := by decide +kernel
theorem dL_act_323 : decode cL_act 323 = .ok (.irem, 1) := by decide +kernel
theorem dL_act_324 : decode cL_act 324 = .ok (.iload 4, 2) := by decide +kernel
theorem dL_act_326 : decode cL_act 326 = .ok (.bipush 8, 2) := by decide +kernel
theorem dL_act_328 : decode cL_act 328 = .ok (.idiv, 1) := by decide +kernel
theorem dL_act_329 : decode cL_act 329 = .ok (.bipush 16, 2) := by decide +kernel
theorem dL_act_331 : decode cL_act 331 = .ok (.irem, 1) := by decide +kernel
theorem dL_act_332 : decode cL_act 332 = .ok (.iload 4, 2) := by decide +kernel
theorem dL_act_334 : decode cL_act 334 = .ok (.bipush 16, 2) := by decide +kernel
theorem dL_act_336 : decode cL_act 336 = .ok (.idiv, 1) := by decide +kernel
theorem dL_act_337 : decode cL_act 337 = .ok (.bipush 16, 2) := by decide +kernel
theorem dL_act_339 : decode cL_act 339 = .ok (.irem, 1) := by decide +kernel
theorem dL_act_340 : decode cL_act 340 = .ok (.ior, 1) := by decide +kernel
theorem dL_act_341 : decode cL_act 341 = .ok (.iload 4, 2) := by decide +kernel
theorem dL_act_343 : decode cL_act 343 = .ok (.sipush 384, 3) := by decide +kernel
theorem dL_act_346 : decode cL_act 346 = .ok (.idiv, 1) := by decide +kernel
theorem dL_act_347 : decode cL_act 347 = .ok (.iconst 2, 1) := by decide +kernel
theorem dL_act_348 : decode cL_act 348 = .ok (.irem, 1) := by decide +kernel
theorem dL_act_349 : decode cL_act 349 = .ok (.ifCond .ne 9, 3) := by decide +kernel
theorem dL_act_352 : decode cL_act 352 = .ok (.sipush 255, 3) := by decide +kernel
theorem dL_act_355 : decode cL_act 355 = .ok (.goto 12, 3) := by decide +kernel
theorem dL_act_358 : decode cL_act 358 = .ok (.iload 4, 2) := by decide +kernel
theorem dL_act_360 : decode cL_act 360 = .ok (.bipush 8, 2) := by decide +kernel
theorem dL_act_362 : decode cL_act 362 = .ok (.idiv, 1) := by decide +kernel
theorem dL_act_363 : decode cL_act 363 = .ok (.sipush 256, 3) := by decide +kernel
theorem dL_act_366 : decode cL_act 366 = .ok (.irem, 1) := by decide +kernel
theorem dL_act_367 : decode cL_act 367 = .ok (.iload 4, 2) := by decide +kernel
theorem dL_act_369 : decode cL_act 369 = .ok (.sipush 128, 3) := by decide +kernel
theorem dL_act_372 : decode cL_act 372 = .ok (.idiv, 1) := by decide +kernel
theorem dL_act_373 : decode cL_act 373 = .ok (.iconst 3, 1) := by decide +kernel
theorem dL_act_374 : decode cL_act 374 = .ok (.irem, 1) := by decide +kernel
theorem dL_act_375 : decode cL_act 375 = .ok (.ifCond .gt 9, 3) := by decide +kernel
theorem dL_act_378 : decode cL_act 378 = .ok (.aload_n 1, 1) := by decide +kernel
theorem dL_act_379 : decode cL_act 379 = .ok (.iconst 0, 1) := by decide +kernel
theorem dL_act_380 : decode cL_act 380 = .ok (.iaload, 1) := by decide +kernel
theorem dL_act_381 : decode cL_act 381 = .ok (.ifCond .ne 7, 3) := by decide +kernel
theorem dL_act_384 : decode cL_act 384 = .ok (.iconst (-1), 1) := by decide +kernel
theorem dL_act_385 : decode cL_act 385 = .ok (.goto 5, 3) := by decide +kernel
theorem dL_act_388 : decode cL_act 388 = .ok (.iload 6, 2) := by decide +kernel
theorem dL_act_390 : decode cL_act 390 = .ok (.invokestatic 141, 3) := by decide +kernel
theorem dL_act_393 : decode cL_act 393 = .ok (.ireturn, 1) := by decide +kernel
theorem dL_act_394 : decode cL_act 394 = .ok (.aload_n 0, 1) := by decide +kernel
theorem dL_act_395 : decode cL_act 395 = .ok (.iload 6, 2) := by decide +kernel
theorem dL_act_397 : decode cL_act 397 = .ok (.iload 4, 2) := by decide +kernel
theorem dL_act_399 : decode cL_act 399 = .ok (.bipush 6, 2) := by decide +kernel
theorem dL_act_401 : decode cL_act 401 = .ok (.idiv, 1) := by decide +kernel
theorem dL_act_402 : decode cL_act 402 = .ok (.bipush 60, 2) := by decide +kernel
theorem dL_act_404 : decode cL_act 404 = .ok (.irem, 1) := by decide +kernel
theorem dL_act_405 : decode cL_act 405 = .ok (.bipush 60, 2) := by decide +kernel
theorem dL_act_407 : decode cL_act 407 = .ok (.iload 4, 2) := by decide +kernel
theorem dL_act_409 : decode cL_act 409 = .ok (.sipush 360, 3) := by decide +kernel
theorem dL_act_412 : decode cL_act 412 = .ok (.idiv, 1) := by decide +kernel
theorem dL_act_413 : decode cL_act 413 = .ok (.bipush 41, 2) := by decide +kernel
theorem dL_act_415 : decode cL_act 415 = .ok (.irem, 1) := by decide +kernel
theorem dL_act_416 : decode cL_act 416 = .ok (.iadd, 1) := by decide +kernel
theorem dL_act_417 : decode cL_act 417 = .ok (.iconst 1, 1) := by decide +kernel
theorem dL_act_418 : decode cL_act 418 = .ok (.iload 4, 2) := by decide +kernel
theorem dL_act_420 : decode cL_act 420 = .ok (.bipush 17, 2) := by decide +kernel
theorem dL_act_422 : decode cL_act 422 = .ok (.idiv, 1) := by decide +kernel
theorem dL_act_423 : decode cL_act 423 = .ok (.iconst 4, 1) := by decide +kernel
theorem dL_act_424 : decode cL_act 424 = .ok (.irem, 1) := by decide +kernel
theorem dL_act_425 : decode cL_act 425 = .ok (.iadd, 1) := by decide +kernel
theorem dL_act_426 : decode cL_act 426 = .ok (.iload 4, 2) := by decide +kernel
theorem dL_act_428 : decode cL_act 428 = .ok (.bipush 68, 2) := by decide +kernel
theorem dL_act_430 : decode cL_act 430 = .ok (.idiv, 1) := by decide +kernel
theorem dL_act_431 : decode cL_act 431 = .ok (.sipush 1001, 3) := by decide +kernel
theorem dL_act_434 : decode cL_act 434 = .ok (.irem, 1) := by decide +kernel
theorem dL_act_435 : decode cL_act 435 = .ok (.invokestatic 145, 3) := by decide +kernel
theorem dL_act_438 : decode cL_act 438 = .ok (.ireturn, 1) := by decide +kernel
theorem dL_act_439 : decode cL_act 439 = .ok (.aload_n 0, 1) := by decide +kernel
theorem dL_act_440 : decode cL_act 440 = .ok (.iload 6, 2) := by decide +kernel
theorem dL_act_442 : decode cL_act 442 = .ok (.invokestatic 149, 3) := by decide +kernel
theorem dL_act_445 : decode cL_act 445 = .ok (.ireturn, 1) := by decide +kernel
theorem dL_act_446 : decode cL_act 446 = .ok (.iconst 0, 1) := by decide +kernel
theorem dL_act_447 : decode cL_act 447 = .ok (.istore 7, 2) := by decide +kernel
theorem dL_act_449 : decode cL_act 449 = .ok (.iload 7, 2) := by decide +kernel
theorem dL_act_451 : decode cL_act 451 = .ok (.aload_n 0, 1) := by decide +kernel
theorem dL_act_452 : decode cL_act 452 = .ok (.invokevirtual 94, 3) := by decide +kernel
theorem dL_act_455 : decode cL_act 455 = .ok (.if_icmp .ge 57, 3) := by decide +kernel
theorem dL_act_458 : decode cL_act 458 = .ok (.aload_n 0, 1) := by decide +kernel
theorem dL_act_459 : decode cL_act 459 = .ok (.iload 5, 2) := by decide +kernel
theorem dL_act_461 : decode cL_act 461 = .ok (.iload 7, 2) := by decide +kernel
theorem dL_act_463 : decode cL_act 463 = .ok (.iadd, 1) := by decide +kernel
theorem dL_act_464 : decode cL_act 464 = .ok (.aload_n 0, 1) := by decide +kernel
theorem dL_act_465 : decode cL_act 465 = .ok (.invokevirtual 94, 3) := by decide +kernel
theorem dL_act_468 : decode cL_act 468 = .ok (.irem, 1) := by decide +kernel
theorem dL_act_469 : decode cL_act 469 = .ok (.invokestatic 129, 3) := by decide +kernel
theorem dL_act_472 : decode cL_act 472 = .ok (.iconst 2, 1) := by decide +kernel
theorem dL_act_473 : decode cL_act 473 = .ok (.if_icmp .ne 33, 3) := by decide +kernel
theorem dL_act_476 : decode cL_act 476 = .ok (.aload_n 0, 1) := by decide +kernel
theorem dL_act_477 : decode cL_act 477 = .ok (.iload 5, 2) := by decide +kernel
theorem dL_act_479 : decode cL_act 479 = .ok (.iload 7, 2) := by decide +kernel
theorem dL_act_481 : decode cL_act 481 = .ok (.iadd, 1) := by decide +kernel
theorem dL_act_482 : decode cL_act 482 = .ok (.aload_n 0, 1) := by decide +kernel
theorem dL_act_483 : decode cL_act 483 = .ok (.invokevirtual 94, 3) := by decide +kernel
theorem dL_act_486 : decode cL_act 486 = .ok (.irem, 1) := by decide +kernel
theorem dL_act_487 : decode cL_act 487 = .ok (.iload 4, 2) := by decide +kernel
theorem dL_act_489 : decode cL_act 489 = .ok (.bipush 10, 2) := by decide +kernel
theorem dL_act_491 : decode cL_act 491 = .ok (.idiv, 1) := by decide +kernel
theorem dL_act_492 : decode cL_act 492 = .ok (.iconst 4, 1) := by decide +kernel
theorem dL_act_493 : decode cL_act 493 = .ok (.irem, 1) := by decide +kernel
theorem dL_act_494 : decode cL_act 494 = .ok (.ifCond .le 7, 3) := by decide +kernel
theorem dL_act_497 : decode cL_act 497 = .ok (.iconst 1, 1) := by decide +kernel
theorem dL_act_498 : decode cL_act 498 = .ok (.goto 4, 3) := by decide +kernel
theorem dL_act_501 : decode cL_act 501 = .ok (.iconst 0, 1) := by decide +kernel
theorem dL_act_502 : decode cL_act 502 = .ok (.invokestatic 126, 3) := by decide +kernel
theorem dL_act_505 : decode cL_act 505 = .ok (.ireturn, 1) := by decide +kernel
theorem dL_act_506 : decode cL_act 506 = .ok (.iinc 7 1, 3) := by decide +kernel
theorem dL_act_509 : decode cL_act 509 = .ok (.goto (-60), 3) := by decide +kernel
theorem dL_act_512 : decode cL_act 512 = .ok (.aload_n 0, 1) := by decide +kernel
theorem dL_act_513 : decode cL_act 513 = .ok (.iload 5, 2) := by decide +kernel
theorem dL_act_515 : decode cL_act 515 = .ok (.iconst 1, 1) := by decide +kernel
theorem dL_act_516 : decode cL_act 516 = .ok (.invokestatic 126, 3) := by decide +kernel
theorem dL_act_519 : decode cL_act 519 = .ok (.ireturn, 1) := by decide +kernel
theorem dL_act_520 : decode cL_act 520 = .ok (.iconst 1, 1) := by decide +kernel
theorem dL_act_521 : decode cL_act 521 = .ok (.iload 4, 2) := by decide +kernel
theorem dL_act_523 : decode cL_act 523 = .ok (.bipush 12, 2) := by decide +kernel
theorem dL_act_525 : decode cL_act 525 = .ok (.irem, 1) := by decide +kernel
theorem dL_act_526 : decode cL_act 526 = .ok (.iadd, 1) := by decide +kernel
theorem dL_act_527 : decode cL_act 527 = .ok (.istore 7, 2) := by decide +kernel
theorem dL_act_529 : decode cL_act 529 = .ok (.iconst 0, 1) := by decide +kernel
theorem dL_act_530 : decode cL_act 530 = .ok (.istore 8, 2) := by decide +kernel
theorem dL_act_532 : decode cL_act 532 = .ok (.iconst 0, 1) := by decide +kernel
theorem dL_act_533 : decode cL_act 533 = .ok (.istore 9, 2) := by decide +kernel
theorem dL_act_535 : decode cL_act 535 = .ok (.iload 9, 2) := by decide +kernel
theorem dL_act_537 : decode cL_act 537 = .ok (.iload 7, 2) := by decide +kernel
theorem dL_act_539 : decode cL_act 539 = .ok (.if_icmp .ge 23, 3) := by decide +kernel
theorem dL_act_542 : decode cL_act 542 = .ok (.iload_n 3, 1) := by decide +kernel
theorem dL_act_543 : decode cL_act 543 = .ok (.ifCond .eq 19, 3) := by decide +kernel
theorem dL_act_546 : decode cL_act 546 = .ok (.iload 8, 2) := by decide +kernel
theorem dL_act_548 : decode cL_act 548 = .ok (.aload_n 0, 1) := by decide +kernel
theorem dL_act_549 : decode cL_act 549 = .ok (.iconst 1, 1) := by decide +kernel
theorem dL_act_550 : decode cL_act 550 = .ok (.invokestatic 162, 3) := by decide +kernel
theorem dL_act_553 : decode cL_act 553 = .ok (.iadd, 1) := by decide +kernel
theorem dL_act_554 : decode cL_act 554 = .ok (.istore 8, 2) := by decide +kernel
theorem dL_act_556 : decode cL_act 556 = .ok (.iinc 9 1, 3) := by decide +kernel
theorem dL_act_559 : decode cL_act 559 = .ok (.goto (-24), 3) := by decide +kernel
theorem dL_act_562 : decode cL_act 562 = .ok (.iload_n 3, 1) := by decide +kernel
theorem dL_act_563 : decode cL_act 563 = .ok (.ifCond .eq 8, 3) := by decide +kernel
theorem dL_act_566 : decode cL_act 566 = .ok (.iload 8, 2) := by decide +kernel
theorem dL_act_568 : decode cL_act 568 = .ok (.goto 9, 3) := by decide +kernel
theorem dL_act_571 : decode cL_act 571 = .ok (.aload_n 0, 1) := by decide +kernel
theorem dL_act_572 : decode cL_act 572 = .ok (.iload 7, 2) := by decide +kernel
theorem dL_act_574 : decode cL_act 574 = .ok (.invokestatic 162, 3) := by decide +kernel
theorem dL_act_577 : decode cL_act 577 = .ok (.ireturn, 1) := by decide +kernel
theorem dL_alike_0 : decode cL_alike 0 = .ok (.aload_n 0, 1) := by decide +kernel
theorem dL_alike_1 : decode cL_alike 1 = .ok (.invokevirtual 94, 3) := by decide +kernel
theorem dL_alike_4 : decode cL_alike 4 = .ok (.aload_n 1, 1) := by decide +kernel
theorem dL_alike_5 : decode cL_alike 5 = .ok (.invokevirtual 94, 3) := by decide +kernel
theorem dL_alike_8 : decode cL_alike 8 = .ok (.if_icmp .ne 40, 3) := by decide +kernel
theorem dL_alike_11 : decode cL_alike 11 = .ok (.aload_n 0, 1) := by decide +kernel
theorem dL_alike_12 : decode cL_alike 12 = .ok (.iload_n 3, 1) := by decide +kernel
theorem dL_alike_13 : decode cL_alike 13 = .ok (.bipush 8, 2) := by decide +kernel
theorem dL_alike_15 : decode cL_alike 15 = .ok (.irem, 1) := by decide +kernel
theorem dL_alike_16 : decode cL_alike 16 = .ok (.iload_n 3, 1) := by decide +kernel
theorem dL_alike_17 : decode cL_alike 17 = .ok (.bipush 8, 2) := by decide +kernel
theorem dL_alike_19 : decode cL_alike 19 = .ok (.idiv, 1) := by decide +kernel
theorem dL_alike_20 : decode cL_alike 20 = .ok (.bipush 8, 2) := by decide +kernel
theorem dL_alike_22 : decode cL_alike 22 = .ok (.irem, 1) := by decide +kernel
theorem dL_alike_23 : decode cL_alike 23 = .ok (.invokestatic 112, 3) := by decide +kernel
theorem dL_alike_26 : decode cL_alike 26 = .ok (.aload_n 1, 1) := by decide +kernel
theorem dL_alike_27 : decode cL_alike 27 = .ok (.iload_n 3, 1) := by decide +kernel
theorem dL_alike_28 : decode cL_alike 28 = .ok (.bipush 8, 2) := by decide +kernel
theorem dL_alike_30 : decode cL_alike 30 = .ok (.irem, 1) := by decide +kernel
theorem dL_alike_31 : decode cL_alike 31 = .ok (.iload_n 3, 1) := by decide +kernel
theorem dL_alike_32 : decode cL_alike 32 = .ok (.bipush 8, 2) := by decide +kernel
theorem dL_alike_34 : decode cL_alike 34 = .ok (.idiv, 1) := by decide +kernel
theorem dL_alike_35 : decode cL_alike 35 = .ok (.bipush 8, 2) := by decide +kernel
theorem dL_alike_37 : decode cL_alike 37 = .ok (.irem, 1) := by decide +kernel
theorem dL_alike_38 : decode cL_alike 38 = .ok (.invokestatic 112, 3) := by decide +kernel
theorem dL_alike_41 : decode cL_alike 41 = .ok (.if_icmp .ne 7, 3) := by decide +kernel
theorem dL_alike_44 : decode cL_alike 44 = .ok (.iconst 1, 1) := by decide +kernel
theorem dL_alike_45 : decode cL_alike 45 = .ok (.goto 4, 3) := by decide +kernel
theorem dL_alike_48 : decode cL_alike 48 = .ok (.iconst 0, 1) := by decide +kernel
theorem dL_alike_49 : decode cL_alike 49 = .ok (.istore 4, 2) := by decide +kernel
theorem dL_alike_51 : decode cL_alike 51 = .ok (.iconst 0, 1) := by decide +kernel
theorem dL_alike_52 : decode cL_alike 52 = .ok (.istore 5, 2) := by decide +kernel
theorem dL_alike_54 : decode cL_alike 54 = .ok (.iload 5, 2) := by decide +kernel
theorem dL_alike_56 : decode cL_alike 56 = .ok (.aload_n 0, 1) := by decide +kernel
theorem dL_alike_57 : decode cL_alike 57 = .ok (.invokevirtual 94, 3) := by decide +kernel
theorem dL_alike_60 : decode cL_alike 60 = .ok (.if_icmp .ge 96, 3) := by decide +kernel
theorem dL_alike_63 : decode cL_alike 63 = .ok (.iload 4, 2) := by decide +kernel
theorem dL_alike_65 : decode cL_alike 65 = .ok (.ifCond .eq 91, 3) := by decide +kernel
theorem dL_alike_68 : decode cL_alike 68 = .ok (.aload_n 0, 1) := by decide +kernel
theorem dL_alike_69 : decode cL_alike 69 = .ok (.iload 5, 2) := by decide +kernel
theorem dL_alike_71 : decode cL_alike 71 = .ok (.invokestatic 129, 3) := by decide +kernel
theorem dL_alike_74 : decode cL_alike 74 = .ok (.aload_n 1, 1) := by decide +kernel
theorem dL_alike_75 : decode cL_alike 75 = .ok (.iload 5, 2) := by decide +kernel
theorem dL_alike_77 : decode cL_alike 77 = .ok (.invokestatic 129, 3) := by decide +kernel
theorem dL_alike_80 : decode cL_alike 80 = .ok (.if_icmp .ne 67, 3) := by decide +kernel
theorem dL_alike_83 : decode cL_alike 83 = .ok (.aload_n 0, 1) := by decide +kernel
theorem dL_alike_84 : decode cL_alike 84 = .ok (.iload 5, 2) := by decide +kernel
theorem dL_alike_86 : decode cL_alike 86 = .ok (.invokestatic 132, 3) := by decide +kernel
theorem dL_alike_89 : decode cL_alike 89 = .ok (.aload_n 1, 1) := by decide +kernel
theorem dL_alike_90 : decode cL_alike 90 = .ok (.iload 5, 2) := by decide +kernel
theorem dL_alike_92 : decode cL_alike 92 = .ok (.invokestatic 132, 3) := by decide +kernel
theorem dL_alike_95 : decode cL_alike 95 = .ok (.if_icmp .ne 52, 3) := by decide +kernel
theorem dL_alike_98 : decode cL_alike 98 = .ok (.aload_n 0, 1) := by decide +kernel
theorem dL_alike_99 : decode cL_alike 99 = .ok (.iload 5, 2) := by decide +kernel
theorem dL_alike_101 : decode cL_alike 101 = .ok (.invokestatic 134, 3) := by decide +kernel
theorem dL_alike_104 : decode cL_alike 104 = .ok (.aload_n 1, 1) := by decide +kernel
theorem dL_alike_105 : decode cL_alike 105 = .ok (.iload 5, 2) := by decide +kernel
theorem dL_alike_107 : decode cL_alike 107 = .ok (.invokestatic 134, 3) := by decide +kernel
theorem dL_alike_110 : decode cL_alike 110 = .ok (.if_icmp .ne 37, 3) := by decide +kernel
theorem dL_alike_113 : decode cL_alike 113 = .ok (.aload_n 0, 1) := by decide +kernel
theorem dL_alike_114 : decode cL_alike 114 = .ok (.iload 5, 2) := by decide +kernel
theorem dL_alike_116 : decode cL_alike 116 = .ok (.invokestatic 137, 3) := by decide +kernel
theorem dL_alike_119 : decode cL_alike 119 = .ok (.aload_n 1, 1) := by decide +kernel
theorem dL_alike_120 : decode cL_alike 120 = .ok (.iload 5, 2) := by decide +kernel
theorem dL_alike_122 : decode cL_alike 122 = .ok (.invokestatic 137, 3) := by decide +kernel
theorem dL_alike_125 : decode cL_alike 125 = .ok (.if_icmp .ne 22, 3) := by decide +kernel
theorem dL_alike_128 : decode cL_alike 128 = .ok (.aload_n 0, 1) := by decide +kernel
theorem dL_alike_129 : decode cL_alike 129 = .ok (.iload 5, 2) := by decide +kernel
theorem dL_alike_131 : decode cL_alike 131 = .ok (.invokestatic 139, 3) := by decide +kernel
theorem dL_alike_134 : decode cL_alike 134 = .ok (.aload_n 1, 1) := by decide +kernel
theorem dL_alike_135 : decode cL_alike 135 = .ok (.iload 5, 2) := by decide +kernel
theorem dL_alike_137 : decode cL_alike 137 = .ok (.invokestatic 139, 3) := by decide +kernel
theorem dL_alike_140 : decode cL_alike 140 = .ok (.if_icmp .ne 7, 3) := by decide +kernel
theorem dL_alike_143 : decode cL_alike 143 = .ok (.iconst 1, 1) := by decide +kernel
theorem dL_alike_144 : decode cL_alike 144 = .ok (.goto 4, 3) := by decide +kernel
theorem dL_alike_147 : decode cL_alike 147 = .ok (.iconst 0, 1) := by decide +kernel
theorem dL_alike_148 : decode cL_alike 148 = .ok (.istore 4, 2) := by decide +kernel
theorem dL_alike_150 : decode cL_alike 150 = .ok (.iinc 5 1, 3) := by decide +kernel
theorem dL_alike_153 : decode cL_alike 153 = .ok (.goto (-99), 3) := by decide +kernel
theorem dL_alike_156 : decode cL_alike 156 = .ok (.iconst 0, 1) := by decide +kernel
theorem dL_alike_157 : decode cL_alike 157 = .ok (.istore 5, 2) := by decide +kernel
theorem dL_alike_159 : decode cL_alike 159 = .ok (.iload 5, 2) := by decide +kernel
theorem dL_alike_161 : decode cL_alike 161 = .ok (.aload_n 2, 1) := by decide +kernel
theorem dL_alike_162 : decode cL_alike 162 = .ok (.iconst 0, 1) := by decide +kernel
theorem dL_alike_163 : decode cL_alike 163 = .ok (.iaload, 1) := by decide +kernel
theorem dL_alike_164 : decode cL_alike 164 = .ok (.if_icmp .ge 91, 3) := by decide +kernel
theorem dL_alike_167 : decode cL_alike 167 = .ok (.iload 4, 2) := by decide +kernel
theorem dL_alike_169 : decode cL_alike 169 = .ok (.ifCond .eq 86, 3) := by decide +kernel
theorem dL_alike_172 : decode cL_alike 172 = .ok (.aload_n 0, 1) := by decide +kernel
theorem dL_alike_173 : decode cL_alike 173 = .ok (.iload 5, 2) := by decide +kernel
theorem dL_alike_175 : decode cL_alike 175 = .ok (.invokestatic 152, 3) := by decide +kernel
theorem dL_alike_178 : decode cL_alike 178 = .ok (.aload_n 1, 1) := by decide +kernel
theorem dL_alike_179 : decode cL_alike 179 = .ok (.iload 5, 2) := by decide +kernel
theorem dL_alike_181 : decode cL_alike 181 = .ok (.invokestatic 152, 3) := by decide +kernel
theorem dL_alike_184 : decode cL_alike 184 = .ok (.if_icmp .ne 62, 3) := by decide +kernel
theorem dL_alike_187 : decode cL_alike 187 = .ok (.aload_n 0, 1) := by decide +kernel
theorem dL_alike_188 : decode cL_alike 188 = .ok (.iload 5, 2) := by decide +kernel
theorem dL_alike_190 : decode cL_alike 190 = .ok (.invokestatic 155, 3) := by decide +kernel
theorem dL_alike_193 : decode cL_alike 193 = .ok (.aload_n 1, 1) := by decide +kernel
theorem dL_alike_194 : decode cL_alike 194 = .ok (.iload 5, 2) := by decide +kernel
theorem dL_alike_196 : decode cL_alike 196 = .ok (.invokestatic 155, 3) := by decide +kernel
theorem dL_alike_199 : decode cL_alike 199 = .ok (.if_icmp .ne 47, 3) := by decide +kernel
theorem dL_alike_202 : decode cL_alike 202 = .ok (.aload_n 0, 1) := by decide +kernel
theorem dL_alike_203 : decode cL_alike 203 = .ok (.iload 5, 2) := by decide +kernel
theorem dL_alike_205 : decode cL_alike 205 = .ok (.invokestatic 157, 3) := by decide +kernel
theorem dL_alike_208 : decode cL_alike 208 = .ok (.aload_n 1, 1) := by decide +kernel
theorem dL_alike_209 : decode cL_alike 209 = .ok (.iload 5, 2) := by decide +kernel
theorem dL_alike_211 : decode cL_alike 211 = .ok (.invokestatic 157, 3) := by decide +kernel
theorem dL_alike_214 : decode cL_alike 214 = .ok (.if_icmp .ne 32, 3) := by decide +kernel
theorem dL_alike_217 : decode cL_alike 217 = .ok (.iload 5, 2) := by decide +kernel
theorem dL_alike_219 : decode cL_alike 219 = .ok (.iload_n 3, 1) := by decide +kernel
theorem dL_alike_220 : decode cL_alike 220 = .ok (.aload_n 2, 1) := by decide +kernel
theorem dL_alike_221 : decode cL_alike 221 = .ok (.iconst 0, 1) := by decide +kernel
theorem dL_alike_222 : decode cL_alike 222 = .ok (.iaload, 1) := by decide +kernel
theorem dL_alike_223 : decode cL_alike 223 = .ok (.irem, 1) := by decide +kernel
theorem dL_alike_224 : decode cL_alike 224 = .ok (.if_icmp .ne 18, 3) := by decide +kernel
theorem dL_alike_227 : decode cL_alike 227 = .ok (.aload_n 0, 1) := by decide +kernel
theorem dL_alike_228 : decode cL_alike 228 = .ok (.iload 5, 2) := by decide +kernel
theorem dL_alike_230 : decode cL_alike 230 = .ok (.invokestatic 160, 3) := by decide +kernel
theorem dL_alike_233 : decode cL_alike 233 = .ok (.aload_n 1, 1) := by decide +kernel
theorem dL_alike_234 : decode cL_alike 234 = .ok (.iload 5, 2) := by decide +kernel
theorem dL_alike_236 : decode cL_alike 236 = .ok (.invokestatic 160, 3) := by decide +kernel
theorem dL_alike_239 : decode cL_alike 239 = .ok (.if_icmp .ne 7, 3) := by decide +kernel
theorem dL_alike_242 : decode cL_alike 242 = .ok (.iconst 1, 1) := by decide +kernel
theorem dL_alike_243 : decode cL_alike 243 = .ok (.goto 4, 3) := by decide +kernel
theorem dL_alike_246 : decode cL_alike 246 = .ok (.iconst 0, 1) := by decide +kernel
theorem dL_alike_247 : decode cL_alike 247 = .ok (.istore 4, 2) := by decide +kernel
theorem dL_alike_249 : decode cL_alike 249 = .ok (.iinc 5 1, 3) := by decide +kernel
theorem dL_alike_252 : decode cL_alike 252 = .ok (.goto (-93), 3) := by decide +kernel
theorem dL_alike_255 : decode cL_alike 255 = .ok (.iload 4, 2) := by decide +kernel
theorem dL_alike_257 : decode cL_alike 257 = .ok (.ireturn, 1) := by decide +kernel
theorem dL_holds_0 : decode cL_holds 0 = .ok (.iconst 1, 1) := by decide +kernel
theorem dL_holds_1 : decode cL_holds 1 = .ok (.istore_n 3, 1) := by decide +kernel
theorem dL_holds_2 : decode cL_holds 2 = .ok (.iconst 0, 1) := by decide +kernel
theorem dL_holds_3 : decode cL_holds 3 = .ok (.istore 4, 2) := by decide +kernel
theorem dL_holds_5 : decode cL_holds 5 = .ok (.iload 4, 2) := by decide +kernel
theorem dL_holds_7 : decode cL_holds 7 = .ok (.aload_n 0, 1) := by decide +kernel
theorem dL_holds_8 : decode cL_holds 8 = .ok (.invokevirtual 94, 3) := by decide +kernel
theorem dL_holds_11 : decode cL_holds 11 = .ok (.if_icmp .ge 146, 3) := by decide +kernel
theorem dL_holds_14 : decode cL_holds 14 = .ok (.iload_n 3, 1) := by decide +kernel
theorem dL_holds_15 : decode cL_holds 15 = .ok (.ifCond .eq 142, 3) := by decide +kernel
theorem dL_holds_18 : decode cL_holds 18 = .ok (.aload_n 0, 1) := by decide +kernel
theorem dL_holds_19 : decode cL_holds 19 = .ok (.iload 4, 2) := by decide +kernel
theorem dL_holds_21 : decode cL_holds 21 = .ok (.invokestatic 129, 3) := by decide +kernel
theorem dL_holds_24 : decode cL_holds 24 = .ok (.istore 5, 2) := by decide +kernel
theorem dL_holds_26 : decode cL_holds 26 = .ok (.aload_n 0, 1) := by decide +kernel
theorem dL_holds_27 : decode cL_holds 27 = .ok (.iload 4, 2) := by decide +kernel
theorem dL_holds_29 : decode cL_holds 29 = .ok (.invokestatic 134, 3) := by decide +kernel
theorem dL_holds_32 : decode cL_holds 32 = .ok (.istore 6, 2) := by decide +kernel
theorem dL_holds_34 : decode cL_holds 34 = .ok (.iload 5, 2) := by decide +kernel
theorem dL_holds_36 : decode cL_holds 36 = .ok (.ifCond .lt 113, 3) := by decide +kernel
theorem dL_holds_39 : decode cL_holds 39 = .ok (.iload 5, 2) := by decide +kernel
theorem dL_holds_41 : decode cL_holds 41 = .ok (.iconst 2, 1) := by decide +kernel
theorem dL_holds_42 : decode cL_holds 42 = .ok (.if_icmp .gt 107, 3) := by decide +kernel
theorem dL_holds_45 : decode cL_holds 45 = .ok (.iload 6, 2) := by decide +kernel
theorem dL_holds_47 : decode cL_holds 47 = .ok (.iconst (-1), 1) := by decide +kernel
theorem dL_holds_48 : decode cL_holds 48 = .ok (.if_icmp .ne 7, 3) := by decide +kernel
theorem dL_holds_51 : decode cL_holds 51 = .ok (.iconst 1, 1) := by decide +kernel
theorem dL_holds_52 : decode cL_holds 52 = .ok (.goto 4, 3) := by decide +kernel
theorem dL_holds_55 : decode cL_holds 55 = .ok (.iconst 0, 1) := by decide +kernel
theorem dL_holds_56 : decode cL_holds 56 = .ok (.iload 5, 2) := by decide +kernel
theorem dL_holds_58 : decode cL_holds 58 = .ok (.ifCond .ne 7, 3) := by decide +kernel
theorem dL_holds_61 : decode cL_holds 61 = .ok (.iconst 1, 1) := by decide +kernel
theorem dL_holds_62 : decode cL_holds 62 = .ok (.goto 4, 3) := by decide +kernel
theorem dL_holds_65 : decode cL_holds 65 = .ok (.iconst 0, 1) := by decide +kernel
theorem dL_holds_66 : decode cL_holds 66 = .ok (.if_icmp .ne 83, 3) := by decide +kernel
theorem dL_holds_69 : decode cL_holds 69 = .ok (.iload 6, 2) := by decide +kernel
theorem dL_holds_71 : decode cL_holds 71 = .ok (.aload_n 1, 1) := by decide +kernel
theorem dL_holds_72 : decode cL_holds 72 = .ok (.iconst 0, 1) := by decide +kernel
theorem dL_holds_73 : decode cL_holds 73 = .ok (.iaload, 1) := by decide +kernel
theorem dL_holds_74 : decode cL_holds 74 = .ok (.if_icmp .ge 75, 3) := by decide +kernel
theorem dL_holds_77 : decode cL_holds 77 = .ok (.aload_n 0, 1) := by decide +kernel
theorem dL_holds_78 : decode cL_holds 78 = .ok (.iload 4, 2) := by decide +kernel
theorem dL_holds_80 : decode cL_holds 80 = .ok (.invokestatic 137, 3) := by decide +kernel
theorem dL_holds_83 : decode cL_holds 83 = .ok (.ifCond .le 7, 3) := by decide +kernel
theorem dL_holds_86 : decode cL_holds 86 = .ok (.iconst 1, 1) := by decide +kernel
theorem dL_holds_87 : decode cL_holds 87 = .ok (.goto 4, 3) := by decide +kernel
theorem dL_holds_90 : decode cL_holds 90 = .ok (.iconst 0, 1) := by decide +kernel
theorem dL_holds_91 : decode cL_holds 91 = .ok (.iload 5, 2) := by decide +kernel
theorem dL_holds_93 : decode cL_holds 93 = .ok (.iconst 1, 1) := by decide +kernel
theorem dL_holds_94 : decode cL_holds 94 = .ok (.if_icmp .ne 7, 3) := by decide +kernel
theorem dL_holds_97 : decode cL_holds 97 = .ok (.iconst 1, 1) := by decide +kernel
theorem dL_holds_98 : decode cL_holds 98 = .ok (.goto 4, 3) := by decide +kernel
theorem dL_holds_101 : decode cL_holds 101 = .ok (.iconst 0, 1) := by decide +kernel
theorem dL_holds_102 : decode cL_holds 102 = .ok (.if_icmp .ne 47, 3) := by decide +kernel
theorem dL_holds_105 : decode cL_holds 105 = .ok (.aload_n 0, 1) := by decide +kernel
theorem dL_holds_106 : decode cL_holds 106 = .ok (.iload 4, 2) := by decide +kernel
theorem dL_holds_108 : decode cL_holds 108 = .ok (.invokestatic 139, 3) := by decide +kernel
theorem dL_holds_111 : decode cL_holds 111 = .ok (.ifCond .lt 38, 3) := by decide +kernel
theorem dL_holds_114 : decode cL_holds 114 = .ok (.aload_n 0, 1) := by decide +kernel
theorem dL_holds_115 : decode cL_holds 115 = .ok (.iload 4, 2) := by decide +kernel
theorem dL_holds_117 : decode cL_holds 117 = .ok (.invokestatic 139, 3) := by decide +kernel
theorem dL_holds_120 : decode cL_holds 120 = .ok (.bipush 100, 2) := by decide +kernel
theorem dL_holds_122 : decode cL_holds 122 = .ok (.if_icmp .gt 27, 3) := by decide +kernel
theorem dL_holds_125 : decode cL_holds 125 = .ok (.aload_n 0, 1) := by decide +kernel
theorem dL_holds_126 : decode cL_holds 126 = .ok (.iload 4, 2) := by decide +kernel
theorem dL_holds_128 : decode cL_holds 128 = .ok (.invokestatic 132, 3) := by decide +kernel
theorem dL_holds_131 : decode cL_holds 131 = .ok (.ifCond .lt 18, 3) := by decide +kernel
theorem dL_holds_134 : decode cL_holds 134 = .ok (.aload_n 0, 1) := by decide +kernel
theorem dL_holds_135 : decode cL_holds 135 = .ok (.iload 4, 2) := by decide +kernel
theorem dL_holds_137 : decode cL_holds 137 = .ok (.invokestatic 132, 3) := by decide +kernel
theorem dL_holds_140 : decode cL_holds 140 = .ok (.bipush 8, 2) := by decide +kernel
theorem dL_holds_142 : decode cL_holds 142 = .ok (.if_icmp .ge 7, 3) := by decide +kernel
theorem dL_holds_145 : decode cL_holds 145 = .ok (.iconst 1, 1) := by decide +kernel
theorem dL_holds_146 : decode cL_holds 146 = .ok (.goto 4, 3) := by decide +kernel
theorem dL_holds_149 : decode cL_holds 149 = .ok (.iconst 0, 1) := by decide +kernel
theorem dL_holds_150 : decode cL_holds 150 = .ok (.istore_n 3, 1) := by decide +kernel
theorem dL_holds_151 : decode cL_holds 151 = .ok (.iinc 4 1, 3) := by decide +kernel
theorem dL_holds_154 : decode cL_holds 154 = .ok (.goto (-149), 3) := by decide +kernel
theorem dL_holds_157 : decode cL_holds 157 = .ok (.iconst 0, 1) := by decide +kernel
theorem dL_holds_158 : decode cL_holds 158 = .ok (.istore 4, 2) := by decide +kernel
theorem dL_holds_160 : decode cL_holds 160 = .ok (.iconst 0, 1) := by decide +kernel
theorem dL_holds_161 : decode cL_holds 161 = .ok (.istore 5, 2) := by decide +kernel
theorem dL_holds_163 : decode cL_holds 163 = .ok (.iload 5, 2) := by decide +kernel
theorem dL_holds_165 : decode cL_holds 165 = .ok (.aload_n 0, 1) := by decide +kernel
theorem dL_holds_166 : decode cL_holds 166 = .ok (.invokevirtual 94, 3) := by decide +kernel
theorem dL_holds_169 : decode cL_holds 169 = .ok (.if_icmp .ge 31, 3) := by decide +kernel
theorem dL_holds_172 : decode cL_holds 172 = .ok (.iload 4, 2) := by decide +kernel
theorem dL_holds_174 : decode cL_holds 174 = .ok (.aload_n 0, 1) := by decide +kernel
theorem dL_holds_175 : decode cL_holds 175 = .ok (.iload 5, 2) := by decide +kernel
theorem dL_holds_177 : decode cL_holds 177 = .ok (.invokestatic 129, 3) := by decide +kernel
theorem dL_holds_180 : decode cL_holds 180 = .ok (.ifCond .le 10, 3) := by decide +kernel
theorem dL_holds_183 : decode cL_holds 183 = .ok (.iconst 1, 1) := by decide +kernel
theorem dL_holds_184 : decode cL_holds 184 = .ok (.iload 5, 2) := by decide +kernel
theorem dL_holds_186 : decode cL_holds 186 = .ok (.ishl, 1) := by decide +kernel
theorem dL_holds_187 : decode cL_holds 187 = .ok (.goto 4, 3) := by decide +kernel
theorem dL_holds_190 : decode cL_holds 190 = .ok (.iconst 0, 1) := by decide +kernel
theorem dL_holds_191 : decode cL_holds 191 = .ok (.ior, 1) := by decide +kernel
theorem dL_holds_192 : decode cL_holds 192 = .ok (.istore 4, 2) := by decide +kernel
theorem dL_holds_194 : decode cL_holds 194 = .ok (.iinc 5 1, 3) := by decide +kernel
theorem dL_holds_197 : decode cL_holds 197 = .ok (.goto (-34), 3) := by decide +kernel
theorem dL_holds_200 : decode cL_holds 200 = .ok (.iconst 0, 1) := by decide +kernel
theorem dL_holds_201 : decode cL_holds 201 = .ok (.istore 5, 2) := by decide +kernel
theorem dL_holds_203 : decode cL_holds 203 = .ok (.iload 5, 2) := by decide +kernel
theorem dL_holds_205 : decode cL_holds 205 = .ok (.aload_n 1, 1) := by decide +kernel
theorem dL_holds_206 : decode cL_holds 206 = .ok (.iconst 0, 1) := by decide +kernel
theorem dL_holds_207 : decode cL_holds 207 = .ok (.iaload, 1) := by decide +kernel
theorem dL_holds_208 : decode cL_holds 208 = .ok (.if_icmp .ge 105, 3) := by decide +kernel
theorem dL_holds_211 : decode cL_holds 211 = .ok (.iload_n 3, 1) := by decide +kernel
theorem dL_holds_212 : decode cL_holds 212 = .ok (.ifCond .eq 101, 3) := by decide +kernel
theorem dL_holds_215 : decode cL_holds 215 = .ok (.aload_n 0, 1) := by decide +kernel
theorem dL_holds_216 : decode cL_holds 216 = .ok (.iload 5, 2) := by decide +kernel
theorem dL_holds_218 : decode cL_holds 218 = .ok (.invokestatic 160, 3) := by decide +kernel
theorem dL_holds_221 : decode cL_holds 221 = .ok (.istore 6, 2) := by decide +kernel
theorem dL_holds_223 : decode cL_holds 223 = .ok (.iload 6, 2) := by decide +kernel
theorem dL_holds_225 : decode cL_holds 225 = .ok (.ifCond .lt 80, 3) := by decide +kernel
theorem dL_holds_228 : decode cL_holds 228 = .ok (.iload 6, 2) := by decide +kernel
theorem dL_holds_230 : decode cL_holds 230 = .ok (.iconst 1, 1) := by decide +kernel
theorem dL_holds_231 : decode cL_holds 231 = .ok (.aload_n 0, 1) := by decide +kernel
theorem dL_holds_232 : decode cL_holds 232 = .ok (.invokevirtual 94, 3) := by decide +kernel
theorem dL_holds_235 : decode cL_holds 235 = .ok (.ishl, 1) := by decide +kernel
theorem dL_holds_236 : decode cL_holds 236 = .ok (.if_icmp .ge 69, 3) := by decide +kernel
theorem dL_holds_239 : decode cL_holds 239 = .ok (.iload 6, 2) := by decide +kernel
theorem dL_holds_241 : decode cL_holds 241 = .ok (.iload 4, 2) := by decide +kernel
theorem dL_holds_243 : decode cL_holds 243 = .ok (.iand, 1) := by decide +kernel
theorem dL_holds_244 : decode cL_holds 244 = .ok (.ifCond .ne 61, 3) := by decide +kernel
theorem dL_holds_247 : decode cL_holds 247 = .ok (.iload 6, 2) := by decide +kernel
theorem dL_holds_249 : decode cL_holds 249 = .ok (.ifCond .eq 13, 3) := by decide +kernel
theorem dL_holds_252 : decode cL_holds 252 = .ok (.aload_n 0, 1) := by decide +kernel
theorem dL_holds_253 : decode cL_holds 253 = .ok (.iload 5, 2) := by decide +kernel
theorem dL_holds_255 : decode cL_holds 255 = .ok (.invokestatic 152, 3) := by decide +kernel
theorem dL_holds_258 : decode cL_holds 258 = .ok (.iconst 1, 1) := by decide +kernel
theorem dL_holds_259 : decode cL_holds 259 = .ok (.if_icmp .ne 46, 3) := by decide +kernel
theorem dL_holds_262 : decode cL_holds 262 = .ok (.aload_n 0, 1) := by decide +kernel
theorem dL_holds_263 : decode cL_holds 263 = .ok (.iload 5, 2) := by decide +kernel
theorem dL_holds_265 : decode cL_holds 265 = .ok (.invokestatic 155, 3) := by decide +kernel
theorem dL_holds_268 : decode cL_holds 268 = .ok (.ifCond .lt 37, 3) := by decide +kernel
theorem dL_holds_271 : decode cL_holds 271 = .ok (.aload_n 0, 1) := by decide +kernel
theorem dL_holds_272 : decode cL_holds 272 = .ok (.iload 5, 2) := by decide +kernel
theorem dL_holds_274 : decode cL_holds 274 = .ok (.invokestatic 155, 3) := by decide +kernel
theorem dL_holds_277 : decode cL_holds 277 = .ok (.iconst 2, 1) := by decide +kernel
theorem dL_holds_278 : decode cL_holds 278 = .ok (.if_icmp .gt 27, 3) := by decide +kernel
theorem dL_holds_281 : decode cL_holds 281 = .ok (.aload_n 0, 1) := by decide +kernel
theorem dL_holds_282 : decode cL_holds 282 = .ok (.iload 5, 2) := by decide +kernel
theorem dL_holds_284 : decode cL_holds 284 = .ok (.invokestatic 157, 3) := by decide +kernel
theorem dL_holds_287 : decode cL_holds 287 = .ok (.ifCond .lt 18, 3) := by decide +kernel
theorem dL_holds_290 : decode cL_holds 290 = .ok (.aload_n 0, 1) := by decide +kernel
theorem dL_holds_291 : decode cL_holds 291 = .ok (.iload 5, 2) := by decide +kernel
theorem dL_holds_293 : decode cL_holds 293 = .ok (.invokestatic 157, 3) := by decide +kernel
theorem dL_holds_296 : decode cL_holds 296 = .ok (.bipush 10, 2) := by decide +kernel
theorem dL_holds_298 : decode cL_holds 298 = .ok (.if_icmp .gt 7, 3) := by decide +kernel
theorem dL_holds_301 : decode cL_holds 301 = .ok (.iconst 1, 1) := by decide +kernel
theorem dL_holds_302 : decode cL_holds 302 = .ok (.goto 4, 3) := by decide +kernel
theorem dL_holds_305 : decode cL_holds 305 = .ok (.iconst 0, 1) := by decide +kernel
theorem dL_holds_306 : decode cL_holds 306 = .ok (.istore_n 3, 1) := by decide +kernel
theorem dL_holds_307 : decode cL_holds 307 = .ok (.iinc 5 1, 3) := by decide +kernel
theorem dL_holds_310 : decode cL_holds 310 = .ok (.goto (-107), 3) := by decide +kernel
theorem dL_holds_313 : decode cL_holds 313 = .ok (.iload_n 2, 1) := by decide +kernel
theorem dL_holds_314 : decode cL_holds 314 = .ok (.bipush 8, 2) := by decide +kernel
theorem dL_holds_316 : decode cL_holds 316 = .ok (.irem, 1) := by decide +kernel
theorem dL_holds_317 : decode cL_holds 317 = .ok (.istore 5, 2) := by decide +kernel
theorem dL_holds_319 : decode cL_holds 319 = .ok (.iload_n 2, 1) := by decide +kernel
theorem dL_holds_320 : decode cL_holds 320 = .ok (.bipush 8, 2) := by decide +kernel
theorem dL_holds_322 : decode cL_holds 322 = .ok (.idiv, 1) := by decide +kernel
theorem dL_holds_323 : decode cL_holds 323 = .ok (.bipush 8, 2) := by decide +kernel
theorem dL_holds_325 : decode cL_holds 325 = .ok (.irem, 1) := by decide +kernel
theorem dL_holds_326 : decode cL_holds 326 = .ok (.istore 6, 2) := by decide +kernel
theorem dL_holds_328 : decode cL_holds 328 = .ok (.iload_n 2, 1) := by decide +kernel
theorem dL_holds_329 : decode cL_holds 329 = .ok (.bipush 64, 2) := by decide +kernel
theorem dL_holds_331 : decode cL_holds 331 = .ok (.idiv, 1) := by decide +kernel
theorem dL_holds_332 : decode cL_holds 332 = .ok (.bipush 8, 2) := by decide +kernel
theorem dL_holds_334 : decode cL_holds 334 = .ok (.irem, 1) := by decide +kernel
theorem dL_holds_335 : decode cL_holds 335 = .ok (.istore 7, 2) := by decide +kernel
theorem dL_holds_337 : decode cL_holds 337 = .ok (.aload_n 0, 1) := by decide +kernel
theorem dL_holds_338 : decode cL_holds 338 = .ok (.iload 5, 2) := by decide +kernel
theorem dL_holds_340 : decode cL_holds 340 = .ok (.iload 6, 2) := by decide +kernel
theorem dL_holds_342 : decode cL_holds 342 = .ok (.invokestatic 112, 3) := by decide +kernel
theorem dL_holds_345 : decode cL_holds 345 = .ok (.istore 8, 2) := by decide +kernel
theorem dL_holds_347 : decode cL_holds 347 = .ok (.aload_n 0, 1) := by decide +kernel
theorem dL_holds_348 : decode cL_holds 348 = .ok (.iload 6, 2) := by decide +kernel
theorem dL_holds_350 : decode cL_holds 350 = .ok (.iload 7, 2) := by decide +kernel
theorem dL_holds_352 : decode cL_holds 352 = .ok (.invokestatic 112, 3) := by decide +kernel
theorem dL_holds_355 : decode cL_holds 355 = .ok (.istore 9, 2) := by decide +kernel
theorem dL_holds_357 : decode cL_holds 357 = .ok (.aload_n 0, 1) := by decide +kernel
theorem dL_holds_358 : decode cL_holds 358 = .ok (.iload 5, 2) := by decide +kernel
theorem dL_holds_360 : decode cL_holds 360 = .ok (.iload 7, 2) := by decide +kernel
theorem dL_holds_362 : decode cL_holds 362 = .ok (.invokestatic 112, 3) := by decide +kernel
theorem dL_holds_365 : decode cL_holds 365 = .ok (.istore 10, 2) := by decide +kernel
theorem dL_holds_367 : decode cL_holds 367 = .ok (.iload_n 3, 1) := by decide +kernel
theorem dL_holds_368 : decode cL_holds 368 = .ok (.ifCond .eq 56, 3) := by decide +kernel
theorem dL_holds_371 : decode cL_holds 371 = .ok (.aload_n 0, 1) := by decide +kernel
theorem dL_holds_372 : decode cL_holds 372 = .ok (.iload 5, 2) := by decide +kernel
theorem dL_holds_374 : decode cL_holds 374 = .ok (.iload 5, 2) := by decide +kernel
theorem dL_holds_376 : decode cL_holds 376 = .ok (.invokestatic 112, 3) := by decide +kernel
theorem dL_holds_379 : decode cL_holds 379 = .ok (.ifCond .ne 45, 3) := by decide +kernel
theorem dL_holds_382 : decode cL_holds 382 = .ok (.iload 8, 2) := by decide +kernel
theorem dL_holds_384 : decode cL_holds 384 = .ok (.ifCond .lt 23, 3) := by decide +kernel
theorem dL_holds_387 : decode cL_holds 387 = .ok (.iload 9, 2) := by decide +kernel
theorem dL_holds_389 : decode cL_holds 389 = .ok (.ifCond .lt 18, 3) := by decide +kernel
theorem dL_holds_392 : decode cL_holds 392 = .ok (.iload 10, 2) := by decide +kernel
theorem dL_holds_394 : decode cL_holds 394 = .ok (.ifCond .lt 30, 3) := by decide +kernel
theorem dL_holds_397 : decode cL_holds 397 = .ok (.iload 10, 2) := by decide +kernel
theorem dL_holds_399 : decode cL_holds 399 = .ok (.iload 8, 2) := by decide +kernel
theorem dL_holds_401 : decode cL_holds 401 = .ok (.iload 9, 2) := by decide +kernel
theorem dL_holds_403 : decode cL_holds 403 = .ok (.iadd, 1) := by decide +kernel
theorem dL_holds_404 : decode cL_holds 404 = .ok (.if_icmp .gt 20, 3) := by decide +kernel
theorem dL_holds_407 : decode cL_holds 407 = .ok (.aload_n 0, 1) := by decide +kernel
theorem dL_holds_408 : decode cL_holds 408 = .ok (.iload 5, 2) := by decide +kernel
theorem dL_holds_410 : decode cL_holds 410 = .ok (.iload 7, 2) := by decide +kernel
theorem dL_holds_412 : decode cL_holds 412 = .ok (.invokestatic 114, 3) := by decide +kernel
theorem dL_holds_415 : decode cL_holds 415 = .ok (.iload 10, 2) := by decide +kernel
theorem dL_holds_417 : decode cL_holds 417 = .ok (.if_icmp .ne 7, 3) := by decide +kernel
theorem dL_holds_420 : decode cL_holds 420 = .ok (.iconst 1, 1) := by decide +kernel
theorem dL_holds_421 : decode cL_holds 421 = .ok (.goto 4, 3) := by decide +kernel
theorem dL_holds_424 : decode cL_holds 424 = .ok (.iconst 0, 1) := by decide +kernel
theorem dL_holds_425 : decode cL_holds 425 = .ok (.ireturn, 1) := by decide +kernel
theorem dL_ends_0 : decode cL_ends 0 = .ok (.iconst 1, 1) := by decide +kernel
theorem dL_ends_1 : decode cL_ends 1 = .ok (.istore_n 2, 1) := by decide +kernel
theorem dL_ends_2 : decode cL_ends 2 = .ok (.iconst 0, 1) := by decide +kernel
theorem dL_ends_3 : decode cL_ends 3 = .ok (.istore_n 3, 1) := by decide +kernel
theorem dL_ends_4 : decode cL_ends 4 = .ok (.iload_n 3, 1) := by decide +kernel
theorem dL_ends_5 : decode cL_ends 5 = .ok (.aload_n 0, 1) := by decide +kernel
theorem dL_ends_6 : decode cL_ends 6 = .ok (.invokevirtual 94, 3) := by decide +kernel
theorem dL_ends_9 : decode cL_ends 9 = .ok (.if_icmp .ge 30, 3) := by decide +kernel
theorem dL_ends_12 : decode cL_ends 12 = .ok (.iload_n 2, 1) := by decide +kernel
theorem dL_ends_13 : decode cL_ends 13 = .ok (.ifCond .eq 26, 3) := by decide +kernel
theorem dL_ends_16 : decode cL_ends 16 = .ok (.aload_n 0, 1) := by decide +kernel
theorem dL_ends_17 : decode cL_ends 17 = .ok (.iload_n 3, 1) := by decide +kernel
theorem dL_ends_18 : decode cL_ends 18 = .ok (.iconst 0, 1) := by decide +kernel
theorem dL_ends_19 : decode cL_ends 19 = .ok (.bipush 23, 2) := by decide +kernel
theorem dL_ends_21 : decode cL_ends 21 = .ok (.invokestatic 123, 3) := by decide +kernel
theorem dL_ends_24 : decode cL_ends 24 = .ok (.ifCond .ne 7, 3) := by decide +kernel
theorem dL_ends_27 : decode cL_ends 27 = .ok (.iconst 1, 1) := by decide +kernel
theorem dL_ends_28 : decode cL_ends 28 = .ok (.goto 4, 3) := by decide +kernel
theorem dL_ends_31 : decode cL_ends 31 = .ok (.iconst 0, 1) := by decide +kernel
theorem dL_ends_32 : decode cL_ends 32 = .ok (.istore_n 2, 1) := by decide +kernel
theorem dL_ends_33 : decode cL_ends 33 = .ok (.iinc 3 1, 3) := by decide +kernel
theorem dL_ends_36 : decode cL_ends 36 = .ok (.goto (-32), 3) := by decide +kernel
theorem dL_ends_39 : decode cL_ends 39 = .ok (.iconst 1, 1) := by decide +kernel
theorem dL_ends_40 : decode cL_ends 40 = .ok (.istore_n 3, 1) := by decide +kernel
theorem dL_ends_41 : decode cL_ends 41 = .ok (.iconst 0, 1) := by decide +kernel
theorem dL_ends_42 : decode cL_ends 42 = .ok (.istore 4, 2) := by decide +kernel
theorem dL_ends_44 : decode cL_ends 44 = .ok (.iload 4, 2) := by decide +kernel
theorem dL_ends_46 : decode cL_ends 46 = .ok (.iconst 4, 1) := by decide +kernel
theorem dL_ends_47 : decode cL_ends 47 = .ok (.if_icmp .ge 262, 3) := by decide +kernel
theorem dL_ends_50 : decode cL_ends 50 = .ok (.iload_n 2, 1) := by decide +kernel
theorem dL_ends_51 : decode cL_ends 51 = .ok (.ifCond .eq 258, 3) := by decide +kernel
theorem dL_ends_54 : decode cL_ends 54 = .ok (.iconst 0, 1) := by decide +kernel
theorem dL_ends_55 : decode cL_ends 55 = .ok (.istore 5, 2) := by decide +kernel
theorem dL_ends_57 : decode cL_ends 57 = .ok (.iload 5, 2) := by decide +kernel
theorem dL_ends_59 : decode cL_ends 59 = .ok (.bipush 20, 2) := by decide +kernel
theorem dL_ends_61 : decode cL_ends 61 = .ok (.if_icmp .ge 70, 3) := by decide +kernel
theorem dL_ends_64 : decode cL_ends 64 = .ok (.iload_n 2, 1) := by decide +kernel
theorem dL_ends_65 : decode cL_ends 65 = .ok (.ifCond .eq 66, 3) := by decide +kernel
theorem dL_ends_68 : decode cL_ends 68 = .ok (.iconst 0, 1) := by decide +kernel
theorem dL_ends_69 : decode cL_ends 69 = .ok (.istore 6, 2) := by decide +kernel
theorem dL_ends_71 : decode cL_ends 71 = .ok (.iload 6, 2) := by decide +kernel
theorem dL_ends_73 : decode cL_ends 73 = .ok (.aload_n 0, 1) := by decide +kernel
theorem dL_ends_74 : decode cL_ends 74 = .ok (.invokevirtual 94, 3) := by decide +kernel
theorem dL_ends_77 : decode cL_ends 77 = .ok (.if_icmp .ge 30, 3) := by decide +kernel
theorem dL_ends_80 : decode cL_ends 80 = .ok (.iload_n 2, 1) := by decide +kernel
theorem dL_ends_81 : decode cL_ends 81 = .ok (.ifCond .eq 26, 3) := by decide +kernel
theorem dL_ends_84 : decode cL_ends 84 = .ok (.aload_n 0, 1) := by decide +kernel
theorem dL_ends_85 : decode cL_ends 85 = .ok (.iload 6, 2) := by decide +kernel
theorem dL_ends_87 : decode cL_ends 87 = .ok (.bipush 100, 2) := by decide +kernel
theorem dL_ends_89 : decode cL_ends 89 = .ok (.invokestatic 120, 3) := by decide +kernel
theorem dL_ends_92 : decode cL_ends 92 = .ok (.ifCond .lt 7, 3) := by decide +kernel
theorem dL_ends_95 : decode cL_ends 95 = .ok (.iconst 1, 1) := by decide +kernel
theorem dL_ends_96 : decode cL_ends 96 = .ok (.goto 4, 3) := by decide +kernel
theorem dL_ends_99 : decode cL_ends 99 = .ok (.iconst 0, 1) := by decide +kernel
theorem dL_ends_100 : decode cL_ends 100 = .ok (.istore_n 2, 1) := by decide +kernel
theorem dL_ends_101 : decode cL_ends 101 = .ok (.iinc 6 1, 3) := by decide +kernel
theorem dL_ends_104 : decode cL_ends 104 = .ok (.goto (-33), 3) := by decide +kernel
theorem dL_ends_107 : decode cL_ends 107 = .ok (.iload_n 2, 1) := by decide +kernel
theorem dL_ends_108 : decode cL_ends 108 = .ok (.ifCond .eq 15, 3) := by decide +kernel
theorem dL_ends_111 : decode cL_ends 111 = .ok (.aload_n 0, 1) := by decide +kernel
theorem dL_ends_112 : decode cL_ends 112 = .ok (.iconst 1, 1) := by decide +kernel
theorem dL_ends_113 : decode cL_ends 113 = .ok (.invokestatic 162, 3) := by decide +kernel
theorem dL_ends_116 : decode cL_ends 116 = .ok (.ifCond .lt 7, 3) := by decide +kernel
theorem dL_ends_119 : decode cL_ends 119 = .ok (.iconst 1, 1) := by decide +kernel
theorem dL_ends_120 : decode cL_ends 120 = .ok (.goto 4, 3) := by decide +kernel
theorem dL_ends_123 : decode cL_ends 123 = .ok (.iconst 0, 1) := by decide +kernel
theorem dL_ends_124 : decode cL_ends 124 = .ok (.istore_n 2, 1) := by decide +kernel
theorem dL_ends_125 : decode cL_ends 125 = .ok (.iinc 5 1, 3) := by decide +kernel
theorem dL_ends_128 : decode cL_ends 128 = .ok (.goto (-71), 3) := by decide +kernel
theorem dL_ends_131 : decode cL_ends 131 = .ok (.iconst 0, 1) := by decide +kernel
theorem dL_ends_132 : decode cL_ends 132 = .ok (.istore_n 3, 1) := by decide +kernel
theorem dL_ends_133 : decode cL_ends 133 = .ok (.iconst 0, 1) := by decide +kernel
theorem dL_ends_134 : decode cL_ends 134 = .ok (.istore 5, 2) := by decide +kernel
theorem dL_ends_136 : decode cL_ends 136 = .ok (.iload 5, 2) := by decide +kernel
theorem dL_ends_138 : decode cL_ends 138 = .ok (.aload_n 0, 1) := by decide +kernel
theorem dL_ends_139 : decode cL_ends 139 = .ok (.invokevirtual 94, 3) := by decide +kernel
theorem dL_ends_142 : decode cL_ends 142 = .ok (.if_icmp .ge 161, 3) := by decide +kernel
theorem dL_ends_145 : decode cL_ends 145 = .ok (.iload_n 2, 1) := by decide +kernel
theorem dL_ends_146 : decode cL_ends 146 = .ok (.ifCond .eq 157, 3) := by decide +kernel
theorem dL_ends_149 : decode cL_ends 149 = .ok (.aload_n 0, 1) := by decide +kernel
theorem dL_ends_150 : decode cL_ends 150 = .ok (.iload 5, 2) := by decide +kernel
theorem dL_ends_152 : decode cL_ends 152 = .ok (.invokestatic 132, 3) := by decide +kernel
theorem dL_ends_155 : decode cL_ends 155 = .ok (.istore 6, 2) := by decide +kernel
theorem dL_ends_157 : decode cL_ends 157 = .ok (.aload_n 0, 1) := by decide +kernel
theorem dL_ends_158 : decode cL_ends 158 = .ok (.iload 5, 2) := by decide +kernel
theorem dL_ends_160 : decode cL_ends 160 = .ok (.invokestatic 129, 3) := by decide +kernel
theorem dL_ends_163 : decode cL_ends 163 = .ok (.iconst 2, 1) := by decide +kernel
theorem dL_ends_164 : decode cL_ends 164 = .ok (.if_icmp .ne 130, 3) := by decide +kernel
theorem dL_ends_167 : decode cL_ends 167 = .ok (.aload_n 0, 1) := by decide +kernel
theorem dL_ends_168 : decode cL_ends 168 = .ok (.aload_n 0, 1) := by decide +kernel
theorem dL_ends_169 : decode cL_ends 169 = .ok (.iload 5, 2) := by decide +kernel
theorem dL_ends_171 : decode cL_ends 171 = .ok (.invokestatic 134, 3) := by decide +kernel
theorem dL_ends_174 : decode cL_ends 174 = .ok (.invokestatic 157, 3) := by decide +kernel
theorem dL_ends_177 : decode cL_ends 177 = .ok (.istore 7, 2) := by decide +kernel
theorem dL_ends_179 : decode cL_ends 179 = .ok (.aload_n 0, 1) := by decide +kernel
theorem dL_ends_180 : decode cL_ends 180 = .ok (.iload 5, 2) := by decide +kernel
theorem dL_ends_182 : decode cL_ends 182 = .ok (.invokestatic 134, 3) := by decide +kernel
theorem dL_ends_185 : decode cL_ends 185 = .ok (.istore 8, 2) := by decide +kernel
theorem dL_ends_187 : decode cL_ends 187 = .ok (.aload_n 0, 1) := by decide +kernel
theorem dL_ends_188 : decode cL_ends 188 = .ok (.iload 8, 2) := by decide +kernel
theorem dL_ends_190 : decode cL_ends 190 = .ok (.invokestatic 155, 3) := by decide +kernel
theorem dL_ends_193 : decode cL_ends 193 = .ok (.istore 9, 2) := by decide +kernel
theorem dL_ends_195 : decode cL_ends 195 = .ok (.aload_n 0, 1) := by decide +kernel
theorem dL_ends_196 : decode cL_ends 196 = .ok (.iload 5, 2) := by decide +kernel
theorem dL_ends_198 : decode cL_ends 198 = .ok (.iconst 1, 1) := by decide +kernel
theorem dL_ends_199 : decode cL_ends 199 = .ok (.invokestatic 126, 3) := by decide +kernel
theorem dL_ends_202 : decode cL_ends 202 = .ok (.ifCond .lt 87, 3) := by decide +kernel
theorem dL_ends_205 : decode cL_ends 205 = .ok (.aload_n 0, 1) := by decide +kernel
theorem dL_ends_206 : decode cL_ends 206 = .ok (.iload 5, 2) := by decide +kernel
theorem dL_ends_208 : decode cL_ends 208 = .ok (.invokestatic 129, 3) := by decide +kernel
theorem dL_ends_211 : decode cL_ends 211 = .ok (.ifCond .ne 78, 3) := by decide +kernel
theorem dL_ends_214 : decode cL_ends 214 = .ok (.aload_n 0, 1) := by decide +kernel
theorem dL_ends_215 : decode cL_ends 215 = .ok (.iload 5, 2) := by decide +kernel
theorem dL_ends_217 : decode cL_ends 217 = .ok (.invokestatic 132, 3) := by decide +kernel
theorem dL_ends_220 : decode cL_ends 220 = .ok (.iload 6, 2) := by decide +kernel
theorem dL_ends_222 : decode cL_ends 222 = .ok (.if_icmp .eq 67, 3) := by decide +kernel
theorem dL_ends_225 : decode cL_ends 225 = .ok (.aload_n 0, 1) := by decide +kernel
theorem dL_ends_226 : decode cL_ends 226 = .ok (.iload 8, 2) := by decide +kernel
theorem dL_ends_228 : decode cL_ends 228 = .ok (.invokestatic 160, 3) := by decide +kernel
theorem dL_ends_231 : decode cL_ends 231 = .ok (.iload 5, 2) := by decide +kernel
theorem dL_ends_233 : decode cL_ends 233 = .ok (.ishr, 1) := by decide +kernel
theorem dL_ends_234 : decode cL_ends 234 = .ok (.iconst 1, 1) := by decide +kernel
theorem dL_ends_235 : decode cL_ends 235 = .ok (.iand, 1) := by decide +kernel
theorem dL_ends_236 : decode cL_ends 236 = .ok (.ifCond .ne 53, 3) := by decide +kernel
theorem dL_ends_239 : decode cL_ends 239 = .ok (.aload_n 0, 1) := by decide +kernel
theorem dL_ends_240 : decode cL_ends 240 = .ok (.iload 8, 2) := by decide +kernel
theorem dL_ends_242 : decode cL_ends 242 = .ok (.invokestatic 157, 3) := by decide +kernel
theorem dL_ends_245 : decode cL_ends 245 = .ok (.iload 7, 2) := by decide +kernel
theorem dL_ends_247 : decode cL_ends 247 = .ok (.iconst 1, 1) := by decide +kernel
theorem dL_ends_248 : decode cL_ends 248 = .ok (.iadd, 1) := by decide +kernel
theorem dL_ends_249 : decode cL_ends 249 = .ok (.if_icmp .ne 14, 3) := by decide +kernel
theorem dL_ends_252 : decode cL_ends 252 = .ok (.aload_n 0, 1) := by decide +kernel
theorem dL_ends_253 : decode cL_ends 253 = .ok (.iload 8, 2) := by decide +kernel
theorem dL_ends_255 : decode cL_ends 255 = .ok (.invokestatic 155, 3) := by decide +kernel
theorem dL_ends_258 : decode cL_ends 258 = .ok (.iload 9, 2) := by decide +kernel
theorem dL_ends_260 : decode cL_ends 260 = .ok (.if_icmp .eq 25, 3) := by decide +kernel
theorem dL_ends_263 : decode cL_ends 263 = .ok (.aload_n 0, 1) := by decide +kernel
theorem dL_ends_264 : decode cL_ends 264 = .ok (.iload 8, 2) := by decide +kernel
theorem dL_ends_266 : decode cL_ends 266 = .ok (.invokestatic 157, 3) := by decide +kernel
theorem dL_ends_269 : decode cL_ends 269 = .ok (.ifCond .ne 20, 3) := by decide +kernel
theorem dL_ends_272 : decode cL_ends 272 = .ok (.aload_n 0, 1) := by decide +kernel
theorem dL_ends_273 : decode cL_ends 273 = .ok (.iload 8, 2) := by decide +kernel
theorem dL_ends_275 : decode cL_ends 275 = .ok (.invokestatic 155, 3) := by decide +kernel
theorem dL_ends_278 : decode cL_ends 278 = .ok (.iload 9, 2) := by decide +kernel
theorem dL_ends_280 : decode cL_ends 280 = .ok (.iconst 1, 1) := by decide +kernel
theorem dL_ends_281 : decode cL_ends 281 = .ok (.iadd, 1) := by decide +kernel
theorem dL_ends_282 : decode cL_ends 282 = .ok (.if_icmp .ne 7, 3) := by decide +kernel
theorem dL_ends_285 : decode cL_ends 285 = .ok (.iconst 1, 1) := by decide +kernel
theorem dL_ends_286 : decode cL_ends 286 = .ok (.goto 4, 3) := by decide +kernel
theorem dL_ends_289 : decode cL_ends 289 = .ok (.iconst 0, 1) := by decide +kernel
theorem dL_ends_290 : decode cL_ends 290 = .ok (.istore_n 2, 1) := by decide +kernel
theorem dL_ends_291 : decode cL_ends 291 = .ok (.goto 6, 3) := by decide +kernel
theorem dL_ends_294 : decode cL_ends 294 = .ok (.iinc 3 1, 3) := by decide +kernel
theorem dL_ends_297 : decode cL_ends 297 = .ok (.iinc 5 1, 3) := by decide +kernel
theorem dL_ends_300 : decode cL_ends 300 = .ok (.goto (-164), 3) := by decide +kernel
theorem dL_ends_303 : decode cL_ends 303 = .ok (.iinc 4 1, 3) := by decide +kernel
theorem dL_ends_306 : decode cL_ends 306 = .ok (.goto (-262), 3) := by decide +kernel
theorem dL_ends_309 : decode cL_ends 309 = .ok (.iload_n 2, 1) := by decide +kernel
theorem dL_ends_310 : decode cL_ends 310 = .ok (.ifCond .eq 15, 3) := by decide +kernel
theorem dL_ends_313 : decode cL_ends 313 = .ok (.iload_n 3, 1) := by decide +kernel
theorem dL_ends_314 : decode cL_ends 314 = .ok (.aload_n 0, 1) := by decide +kernel
theorem dL_ends_315 : decode cL_ends 315 = .ok (.invokevirtual 94, 3) := by decide +kernel
theorem dL_ends_318 : decode cL_ends 318 = .ok (.if_icmp .gt 7, 3) := by decide +kernel
theorem dL_ends_321 : decode cL_ends 321 = .ok (.iconst 1, 1) := by decide +kernel
theorem dL_ends_322 : decode cL_ends 322 = .ok (.goto 4, 3) := by decide +kernel
theorem dL_ends_325 : decode cL_ends 325 = .ok (.iconst 0, 1) := by decide +kernel
theorem dL_ends_326 : decode cL_ends 326 = .ok (.ireturn, 1) := by decide +kernel
theorem dL_law_0 : decode cL_law 0 = .ok (.new 8, 3) := by decide +kernel
theorem dL_law_3 : decode cL_law 3 = .ok (.dup, 1) := by decide +kernel
theorem dL_law_4 : decode cL_law 4 = .ok (.invokespecial 165, 3) := by decide +kernel
theorem dL_law_7 : decode cL_law 7 = .ok (.astore_n 1, 1) := by decide +kernel
theorem dL_law_8 : decode cL_law 8 = .ok (.new 8, 3) := by decide +kernel
theorem dL_law_11 : decode cL_law 11 = .ok (.dup, 1) := by decide +kernel
theorem dL_law_12 : decode cL_law 12 = .ok (.invokespecial 165, 3) := by decide +kernel
theorem dL_law_15 : decode cL_law 15 = .ok (.astore_n 2, 1) := by decide +kernel
theorem dL_law_16 : decode cL_law 16 = .ok (.iconst 1, 1) := by decide +kernel
theorem dL_law_17 : decode cL_law 17 = .ok (.newarray .int, 2) := by decide +kernel
theorem dL_law_19 : decode cL_law 19 = .ok (.astore_n 3, 1) := by decide +kernel
theorem dL_law_20 : decode cL_law 20 = .ok (.bipush 20, 2) := by decide +kernel
theorem dL_law_22 : decode cL_law 22 = .ok (.aload_n 0, 1) := by decide +kernel
theorem dL_law_23 : decode cL_law 23 = .ok (.iconst 0, 1) := by decide +kernel
theorem dL_law_24 : decode cL_law 24 = .ok (.invokestatic 166, 3) := by decide +kernel
theorem dL_law_27 : decode cL_law 27 = .ok (.bipush 31, 2) := by decide +kernel
theorem dL_law_29 : decode cL_law 29 = .ok (.irem, 1) := by decide +kernel
theorem dL_law_30 : decode cL_law 30 = .ok (.iadd, 1) := by decide +kernel
theorem dL_law_31 : decode cL_law 31 = .ok (.istore 4, 2) := by decide +kernel
theorem dL_law_33 : decode cL_law 33 = .ok (.iconst 1, 1) := by decide +kernel
theorem dL_law_34 : decode cL_law 34 = .ok (.istore 5, 2) := by decide +kernel
theorem dL_law_36 : decode cL_law 36 = .ok (.iconst 0, 1) := by decide +kernel
theorem dL_law_37 : decode cL_law 37 = .ok (.istore 6, 2) := by decide +kernel
theorem dL_law_39 : decode cL_law 39 = .ok (.iload 6, 2) := by decide +kernel
theorem dL_law_41 : decode cL_law 41 = .ok (.iload 4, 2) := by decide +kernel
theorem dL_law_43 : decode cL_law 43 = .ok (.if_icmp .ge 249, 3) := by decide +kernel
theorem dL_law_46 : decode cL_law 46 = .ok (.iload 5, 2) := by decide +kernel
theorem dL_law_48 : decode cL_law 48 = .ok (.ifCond .eq 244, 3) := by decide +kernel
theorem dL_law_51 : decode cL_law 51 = .ok (.aload_n 0, 1) := by decide +kernel
theorem dL_law_52 : decode cL_law 52 = .ok (.iconst 1, 1) := by decide +kernel
theorem dL_law_53 : decode cL_law 53 = .ok (.iload 6, 2) := by decide +kernel
theorem dL_law_55 : decode cL_law 55 = .ok (.iadd, 1) := by decide +kernel
theorem dL_law_56 : decode cL_law 56 = .ok (.invokestatic 166, 3) := by decide +kernel
theorem dL_law_59 : decode cL_law 59 = .ok (.istore 7, 2) := by decide +kernel
theorem dL_law_61 : decode cL_law 61 = .ok (.iload 6, 2) := by decide +kernel
theorem dL_law_63 : decode cL_law 63 = .ok (.iconst 2, 1) := by decide +kernel
theorem dL_law_64 : decode cL_law 64 = .ok (.if_icmp .ge 16, 3) := by decide +kernel
theorem dL_law_67 : decode cL_law 67 = .ok (.iload 7, 2) := by decide +kernel
theorem dL_law_69 : decode cL_law 69 = .ok (.bipush 32, 2) := by decide +kernel
theorem dL_law_71 : decode cL_law 71 = .ok (.idiv, 1) := by decide +kernel
theorem dL_law_72 : decode cL_law 72 = .ok (.bipush 32, 2) := by decide +kernel
theorem dL_law_74 : decode cL_law 74 = .ok (.imul, 1) := by decide +kernel
theorem dL_law_75 : decode cL_law 75 = .ok (.iconst 1, 1) := by decide +kernel
theorem dL_law_76 : decode cL_law 76 = .ok (.iadd, 1) := by decide +kernel
theorem dL_law_77 : decode cL_law 77 = .ok (.goto 68, 3) := by decide +kernel
theorem dL_law_80 : decode cL_law 80 = .ok (.iload 6, 2) := by decide +kernel
theorem dL_law_82 : decode cL_law 82 = .ok (.bipush 6, 2) := by decide +kernel
theorem dL_law_84 : decode cL_law 84 = .ok (.if_icmp .ge 17, 3) := by decide +kernel
theorem dL_law_87 : decode cL_law 87 = .ok (.iload 7, 2) := by decide +kernel
theorem dL_law_89 : decode cL_law 89 = .ok (.bipush 32, 2) := by decide +kernel
theorem dL_law_91 : decode cL_law 91 = .ok (.idiv, 1) := by decide +kernel
theorem dL_law_92 : decode cL_law 92 = .ok (.bipush 32, 2) := by decide +kernel
theorem dL_law_94 : decode cL_law 94 = .ok (.imul, 1) := by decide +kernel
theorem dL_law_95 : decode cL_law 95 = .ok (.bipush 6, 2) := by decide +kernel
theorem dL_law_97 : decode cL_law 97 = .ok (.iadd, 1) := by decide +kernel
theorem dL_law_98 : decode cL_law 98 = .ok (.goto 47, 3) := by decide +kernel
theorem dL_law_101 : decode cL_law 101 = .ok (.iload 6, 2) := by decide +kernel
theorem dL_law_103 : decode cL_law 103 = .ok (.bipush 8, 2) := by decide +kernel
theorem dL_law_105 : decode cL_law 105 = .ok (.if_icmp .ge 17, 3) := by decide +kernel
theorem dL_law_108 : decode cL_law 108 = .ok (.iload 7, 2) := by decide +kernel
theorem dL_law_110 : decode cL_law 110 = .ok (.bipush 32, 2) := by decide +kernel
theorem dL_law_112 : decode cL_law 112 = .ok (.idiv, 1) := by decide +kernel
theorem dL_law_113 : decode cL_law 113 = .ok (.bipush 32, 2) := by decide +kernel
theorem dL_law_115 : decode cL_law 115 = .ok (.imul, 1) := by decide +kernel
theorem dL_law_116 : decode cL_law 116 = .ok (.bipush 11, 2) := by decide +kernel
theorem dL_law_118 : decode cL_law 118 = .ok (.iadd, 1) := by decide +kernel
theorem dL_law_119 : decode cL_law 119 = .ok (.goto 26, 3) := by decide +kernel
theorem dL_law_122 : decode cL_law 122 = .ok (.iload 6, 2) := by decide +kernel
theorem dL_law_124 : decode cL_law 124 = .ok (.bipush 10, 2) := by decide +kernel
theorem dL_law_126 : decode cL_law 126 = .ok (.if_icmp .ge 17, 3) := by decide +kernel
theorem dL_law_129 : decode cL_law 129 = .ok (.iload 7, 2) := by decide +kernel
theorem dL_law_131 : decode cL_law 131 = .ok (.bipush 32, 2) := by decide +kernel
theorem dL_law_133 : decode cL_law 133 = .ok (.idiv, 1) := by decide +kernel
theorem dL_law_134 : decode cL_law 134 = .ok (.bipush 32, 2) := by decide +kernel
theorem dL_law_136 : decode cL_law 136 = .ok (.imul, 1) := by decide +kernel
theorem dL_law_137 : decode cL_law 137 = .ok (.bipush 14, 2) := by decide +kernel
theorem dL_law_139 : decode cL_law 139 = .ok (.iadd, 1) := by decide +kernel
theorem dL_law_140 : decode cL_law 140 = .ok (.goto 5, 3) := by decide +kernel
theorem dL_law_143 : decode cL_law 143 = .ok (.iload 7, 2) := by decide +kernel
theorem dL_law_145 : decode cL_law 145 = .ok (.istore 7, 2) := by decide +kernel
theorem dL_law_147 : decode cL_law 147 = .ok (.aload_n 1, 1) := by decide +kernel
theorem dL_law_148 : decode cL_law 148 = .ok (.aload_n 3, 1) := by decide +kernel
theorem dL_law_149 : decode cL_law 149 = .ok (.iload 7, 2) := by decide +kernel
theorem dL_law_151 : decode cL_law 151 = .ok (.iconst 0, 1) := by decide +kernel
theorem dL_law_152 : decode cL_law 152 = .ok (.invokestatic 170, 3) := by decide +kernel
theorem dL_law_155 : decode cL_law 155 = .ok (.istore 8, 2) := by decide +kernel
theorem dL_law_157 : decode cL_law 157 = .ok (.aload_n 2, 1) := by decide +kernel
theorem dL_law_158 : decode cL_law 158 = .ok (.aload_n 3, 1) := by decide +kernel
theorem dL_law_159 : decode cL_law 159 = .ok (.iload 7, 2) := by decide +kernel
theorem dL_law_161 : decode cL_law 161 = .ok (.sipush 9973, 3) := by decide +kernel
theorem dL_law_164 : decode cL_law 164 = .ok (.irem, 1) := by decide +kernel
theorem dL_law_165 : decode cL_law 165 = .ok (.invokestatic 174, 3) := by decide +kernel
theorem dL_law_168 : decode cL_law 168 = .ok (.ifCond .eq 20, 3) := by decide +kernel
theorem dL_law_171 : decode cL_law 171 = .ok (.aload_n 2, 1) := by decide +kernel
theorem dL_law_172 : decode cL_law 172 = .ok (.aload_n 3, 1) := by decide +kernel
theorem dL_law_173 : decode cL_law 173 = .ok (.iload 7, 2) := by decide +kernel
theorem dL_law_175 : decode cL_law 175 = .ok (.iconst 1, 1) := by decide +kernel
theorem dL_law_176 : decode cL_law 176 = .ok (.invokestatic 170, 3) := by decide +kernel
theorem dL_law_179 : decode cL_law 179 = .ok (.iload 8, 2) := by decide +kernel
theorem dL_law_181 : decode cL_law 181 = .ok (.if_icmp .ne 7, 3) := by decide +kernel
theorem dL_law_184 : decode cL_law 184 = .ok (.iconst 1, 1) := by decide +kernel
theorem dL_law_185 : decode cL_law 185 = .ok (.goto 4, 3) := by decide +kernel
theorem dL_law_188 : decode cL_law 188 = .ok (.iconst 0, 1) := by decide +kernel
theorem dL_law_189 : decode cL_law 189 = .ok (.istore 5, 2) := by decide +kernel
theorem dL_law_191 : decode cL_law 191 = .ok (.aload_n 3, 1) := by decide +kernel
theorem dL_law_192 : decode cL_law 192 = .ok (.iconst 0, 1) := by decide +kernel
theorem dL_law_193 : decode cL_law 193 = .ok (.dup2, 1) := by decide +kernel
theorem dL_law_194 : decode cL_law 194 = .ok (.iaload, 1) := by decide +kernel
theorem dL_law_195 : decode cL_law 195 = .ok (.iload 7, 2) := by decide +kernel
theorem dL_law_197 : decode cL_law 197 = .ok (.bipush 32, 2) := by decide +kernel
theorem dL_law_199 : decode cL_law 199 = .ok (.irem, 1) := by decide +kernel
theorem dL_law_200 : decode cL_law 200 = .ok (.bipush 11, 2) := by decide +kernel
theorem dL_law_202 : decode cL_law 202 = .ok (.if_icmp .lt 22, 3) := by decide +kernel
theorem dL_law_205 : decode cL_law 205 = .ok (.iload 7, 2) := by decide +kernel
theorem dL_law_207 : decode cL_law 207 = .ok (.bipush 32, 2) := by decide +kernel
theorem dL_law_209 : decode cL_law 209 = .ok (.irem, 1) := by decide +kernel
theorem dL_law_210 : decode cL_law 210 = .ok (.bipush 13, 2) := by decide +kernel
theorem dL_law_212 : decode cL_law 212 = .ok (.if_icmp .gt 12, 3) := by decide +kernel
theorem dL_law_215 : decode cL_law 215 = .ok (.iload 8, 2) := by decide +kernel
theorem dL_law_217 : decode cL_law 217 = .ok (.ifCond .lt 7, 3) := by decide +kernel
theorem dL_law_220 : decode cL_law 220 = .ok (.iconst 1, 1) := by decide +kernel
theorem dL_law_221 : decode cL_law 221 = .ok (.goto 4, 3) := by decide +kernel
theorem dL_law_224 : decode cL_law 224 = .ok (.iconst 0, 1) := by decide +kernel
theorem dL_law_225 : decode cL_law 225 = .ok (.iadd, 1) := by decide +kernel
theorem dL_law_226 : decode cL_law 226 = .ok (.iastore, 1) := by decide +kernel
theorem dL_law_227 : decode cL_law 227 = .ok (.iload 5, 2) := by decide +kernel
theorem dL_law_229 : decode cL_law 229 = .ok (.ifCond .eq 54, 3) := by decide +kernel
theorem dL_law_232 : decode cL_law 232 = .ok (.aload_n 2, 1) := by decide +kernel
theorem dL_law_233 : decode cL_law 233 = .ok (.aload_n 3, 1) := by decide +kernel
theorem dL_law_234 : decode cL_law 234 = .ok (.iload 7, 2) := by decide +kernel
theorem dL_law_236 : decode cL_law 236 = .ok (.sipush 499, 3) := by decide +kernel
theorem dL_law_239 : decode cL_law 239 = .ok (.irem, 1) := by decide +kernel
theorem dL_law_240 : decode cL_law 240 = .ok (.invokestatic 174, 3) := by decide +kernel
theorem dL_law_243 : decode cL_law 243 = .ok (.ifCond .eq 40, 3) := by decide +kernel
theorem dL_law_246 : decode cL_law 246 = .ok (.aload_n 1, 1) := by decide +kernel
theorem dL_law_247 : decode cL_law 247 = .ok (.aload_n 2, 1) := by decide +kernel
theorem dL_law_248 : decode cL_law 248 = .ok (.aload_n 3, 1) := by decide +kernel
theorem dL_law_249 : decode cL_law 249 = .ok (.iload 7, 2) := by decide +kernel
theorem dL_law_251 : decode cL_law 251 = .ok (.bipush 7, 2) := by decide +kernel
theorem dL_law_253 : decode cL_law 253 = .ok (.idiv, 1) := by decide +kernel
theorem dL_law_254 : decode cL_law 254 = .ok (.invokestatic 178, 3) := by decide +kernel
theorem dL_law_257 : decode cL_law 257 = .ok (.ifCond .eq 26, 3) := by decide +kernel
theorem dL_law_260 : decode cL_law 260 = .ok (.iload 6, 2) := by decide +kernel
theorem dL_law_262 : decode cL_law 262 = .ok (.iconst 4, 1) := by decide +kernel
theorem dL_law_263 : decode cL_law 263 = .ok (.irem, 1) := by decide +kernel
theorem dL_law_264 : decode cL_law 264 = .ok (.ifCond .gt 15, 3) := by decide +kernel
theorem dL_law_267 : decode cL_law 267 = .ok (.aload_n 2, 1) := by decide +kernel
theorem dL_law_268 : decode cL_law 268 = .ok (.aload_n 3, 1) := by decide +kernel
theorem dL_law_269 : decode cL_law 269 = .ok (.iload 7, 2) := by decide +kernel
theorem dL_law_271 : decode cL_law 271 = .ok (.iconst 5, 1) := by decide +kernel
theorem dL_law_272 : decode cL_law 272 = .ok (.idiv, 1) := by decide +kernel
theorem dL_law_273 : decode cL_law 273 = .ok (.invokestatic 182, 3) := by decide +kernel
theorem dL_law_276 : decode cL_law 276 = .ok (.ifCond .eq 7, 3) := by decide +kernel
theorem dL_law_279 : decode cL_law 279 = .ok (.iconst 1, 1) := by decide +kernel
theorem dL_law_280 : decode cL_law 280 = .ok (.goto 4, 3) := by decide +kernel
theorem dL_law_283 : decode cL_law 283 = .ok (.iconst 0, 1) := by decide +kernel
theorem dL_law_284 : decode cL_law 284 = .ok (.istore 5, 2) := by decide +kernel
theorem dL_law_286 : decode cL_law 286 = .ok (.iinc 6 1, 3) := by decide +kernel
theorem dL_law_289 : decode cL_law 289 = .ok (.goto (-250), 3) := by decide +kernel
theorem dL_law_292 : decode cL_law 292 = .ok (.iload 5, 2) := by decide +kernel
theorem dL_law_294 : decode cL_law 294 = .ok (.ifCond .eq 47, 3) := by decide +kernel
theorem dL_law_297 : decode cL_law 297 = .ok (.aload_n 1, 1) := by decide +kernel
theorem dL_law_298 : decode cL_law 298 = .ok (.aload_n 3, 1) := by decide +kernel
theorem dL_law_299 : decode cL_law 299 = .ok (.aload_n 0, 1) := by decide +kernel
theorem dL_law_300 : decode cL_law 300 = .ok (.iconst 0, 1) := by decide +kernel
theorem dL_law_301 : decode cL_law 301 = .ok (.invokestatic 166, 3) := by decide +kernel
theorem dL_law_304 : decode cL_law 304 = .ok (.bipush 31, 2) := by decide +kernel
theorem dL_law_306 : decode cL_law 306 = .ok (.idiv, 1) := by decide +kernel
theorem dL_law_307 : decode cL_law 307 = .ok (.invokestatic 182, 3) := by decide +kernel
theorem dL_law_310 : decode cL_law 310 = .ok (.ifCond .eq 31, 3) := by decide +kernel
theorem dL_law_313 : decode cL_law 313 = .ok (.aload_n 1, 1) := by decide +kernel
theorem dL_law_314 : decode cL_law 314 = .ok (.aload_n 3, 1) := by decide +kernel
theorem dL_law_315 : decode cL_law 315 = .ok (.invokestatic 185, 3) := by decide +kernel
theorem dL_law_318 : decode cL_law 318 = .ok (.ifCond .eq 23, 3) := by decide +kernel
theorem dL_law_321 : decode cL_law 321 = .ok (.aload_n 1, 1) := by decide +kernel
theorem dL_law_322 : decode cL_law 322 = .ok (.aload_n 3, 1) := by decide +kernel
theorem dL_law_323 : decode cL_law 323 = .ok (.aload_n 0, 1) := by decide +kernel
theorem dL_law_324 : decode cL_law 324 = .ok (.iconst 0, 1) := by decide +kernel
theorem dL_law_325 : decode cL_law 325 = .ok (.invokestatic 166, 3) := by decide +kernel
theorem dL_law_328 : decode cL_law 328 = .ok (.bipush 37, 2) := by decide +kernel
theorem dL_law_330 : decode cL_law 330 = .ok (.idiv, 1) := by decide +kernel
theorem dL_law_331 : decode cL_law 331 = .ok (.invokestatic 182, 3) := by decide +kernel
theorem dL_law_334 : decode cL_law 334 = .ok (.ifCond .eq 7, 3) := by decide +kernel
theorem dL_law_337 : decode cL_law 337 = .ok (.iconst 1, 1) := by decide +kernel
theorem dL_law_338 : decode cL_law 338 = .ok (.goto 4, 3) := by decide +kernel
theorem dL_law_341 : decode cL_law 341 = .ok (.iconst 0, 1) := by decide +kernel
theorem dL_law_342 : decode cL_law 342 = .ok (.ireturn, 1) := by decide +kernel
