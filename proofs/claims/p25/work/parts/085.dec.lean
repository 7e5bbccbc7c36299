theorem hp_gc {big a : List Cond} {c : Cond} (hc : c ∈ big) (hg : goodWord c = true) (ha : GoodIn big a) : GoodIn big (c :: a) := fun w h => (List.mem_cons.mp h).elim (fun e => by rw [e]; exact ⟨hc, good_of_word hg⟩) (fun h => ha w h)
theorem dL_isWhole_198 : decode cL_isWhole 198 = .ok (.iconst 2, 1) := by decide +kernel
theorem dL_isWhole_199 : decode cL_isWhole 199 = .ok (.if_icmp .le 7, 3) := by decide +kernel
theorem dL_isWhole_202 : decode cL_isWhole 202 = .ok (.iconst 1, 1) := by decide +kernel
theorem dL_isWhole_203 : decode cL_isWhole 203 = .ok (.goto 4, 3) := by decide +kernel
theorem dL_isWhole_206 : decode cL_isWhole 206 = .ok (.iconst 0, 1) := by decide +kernel
theorem dL_isWhole_207 : decode cL_isWhole 207 = .ok (.istore_n 2, 1) := by decide +kernel
theorem dL_isWhole_208 : decode cL_isWhole 208 = .ok (.iconst 0, 1) := by decide +kernel
theorem dL_isWhole_209 : decode cL_isWhole 209 = .ok (.istore 7, 2) := by decide +kernel
theorem dL_isWhole_211 : decode cL_isWhole 211 = .ok (.iload 7, 2) := by decide +kernel
theorem dL_isWhole_213 : decode cL_isWhole 213 = .ok (.iload 5, 2) := by decide +kernel
theorem dL_isWhole_215 : decode cL_isWhole 215 = .ok (.if_icmp .ge 83, 3) := by decide +kernel
theorem dL_isWhole_218 : decode cL_isWhole 218 = .ok (.iload 6, 2) := by decide +kernel
theorem dL_isWhole_220 : decode cL_isWhole 220 = .ok (.ifCond .eq 78, 3) := by decide +kernel
theorem dL_isWhole_223 : decode cL_isWhole 223 = .ok (.iload_n 2, 1) := by decide +kernel
theorem dL_isWhole_224 : decode cL_isWhole 224 = .ok (.ifCond .eq 74, 3) := by decide +kernel
theorem dL_isWhole_227 : decode cL_isWhole 227 = .ok (.iload 4, 2) := by decide +kernel
theorem dL_isWhole_229 : decode cL_isWhole 229 = .ok (.aload_n 0, 1) := by decide +kernel
theorem dL_isWhole_230 : decode cL_isWhole 230 = .ok (.iload 5, 2) := by decide +kernel
theorem dL_isWhole_232 : decode cL_isWhole 232 = .ok (.iload 7, 2) := by decide +kernel
theorem dL_isWhole_234 : decode cL_isWhole 234 = .ok (.invokestatic 123, 3) := by decide +kernel
theorem dL_isWhole_237 : decode cL_isWhole 237 = .ok (.iadd, 1) := by decide +kernel
theorem dL_isWhole_238 : decode cL_isWhole 238 = .ok (.istore 4, 2) := by decide +kernel
theorem dL_isWhole_240 : decode cL_isWhole 240 = .ok (.aload_n 0, 1) := by decide +kernel
theorem dL_isWhole_241 : decode cL_isWhole 241 = .ok (.iload 5, 2) := by decide +kernel
theorem dL_isWhole_243 : decode cL_isWhole 243 = .ok (.iload 7, 2) := by decide +kernel
theorem dL_isWhole_245 : decode cL_isWhole 245 = .ok (.invokestatic 123, 3) := by decide +kernel
theorem dL_isWhole_248 : decode cL_isWhole 248 = .ok (.aload_n 0, 1) := by decide +kernel
theorem dL_isWhole_249 : decode cL_isWhole 249 = .ok (.iload 7, 2) := by decide +kernel
theorem dL_isWhole_251 : decode cL_isWhole 251 = .ok (.iload 5, 2) := by decide +kernel
theorem dL_isWhole_253 : decode cL_isWhole 253 = .ok (.invokestatic 123, 3) := by decide +kernel
theorem dL_isWhole_256 : decode cL_isWhole 256 = .ok (.if_icmp .ne 34, 3) := by decide +kernel
theorem dL_isWhole_259 : decode cL_isWhole 259 = .ok (.aload_n 0, 1) := by decide +kernel
theorem dL_isWhole_260 : decode cL_isWhole 260 = .ok (.iload 5, 2) := by decide +kernel
theorem dL_isWhole_262 : decode cL_isWhole 262 = .ok (.iload 7, 2) := by decide +kernel
theorem dL_isWhole_264 : decode cL_isWhole 264 = .ok (.invokestatic 123, 3) := by decide +kernel
theorem dL_isWhole_267 : decode cL_isWhole 267 = .ok (.ifCond .eq 19, 3) := by decide +kernel
theorem dL_isWhole_270 : decode cL_isWhole 270 = .ok (.aload_n 0, 1) := by decide +kernel
theorem dL_isWhole_271 : decode cL_isWhole 271 = .ok (.aload_n 0, 1) := by decide +kernel
theorem dL_isWhole_272 : decode cL_isWhole 272 = .ok (.iload 5, 2) := by decide +kernel
theorem dL_isWhole_274 : decode cL_isWhole 274 = .ok (.iconst 0, 1) := by decide +kernel
theorem dL_isWhole_275 : decode cL_isWhole 275 = .ok (.invokestatic 121, 3) := by decide +kernel
theorem dL_isWhole_278 : decode cL_isWhole 278 = .ok (.iload_n 3, 1) := by decide +kernel
theorem dL_isWhole_279 : decode cL_isWhole 279 = .ok (.invokestatic 127, 3) := by decide +kernel
theorem dL_isWhole_282 : decode cL_isWhole 282 = .ok (.iconst 1, 1) := by decide +kernel
theorem dL_isWhole_283 : decode cL_isWhole 283 = .ok (.if_icmp .ne 7, 3) := by decide +kernel
theorem dL_isWhole_286 : decode cL_isWhole 286 = .ok (.iconst 1, 1) := by decide +kernel
theorem dL_isWhole_287 : decode cL_isWhole 287 = .ok (.goto 4, 3) := by decide +kernel
theorem dL_isWhole_290 : decode cL_isWhole 290 = .ok (.iconst 0, 1) := by decide +kernel
theorem dL_isWhole_291 : decode cL_isWhole 291 = .ok (.istore_n 2, 1) := by decide +kernel
theorem dL_isWhole_292 : decode cL_isWhole 292 = .ok (.iinc 7 1, 3) := by decide +kernel
theorem dL_isWhole_295 : decode cL_isWhole 295 = .ok (.goto (-84), 3) := by decide +kernel
theorem dL_isWhole_298 : decode cL_isWhole 298 = .ok (.iinc 5 1, 3) := by decide +kernel
theorem dL_isWhole_301 : decode cL_isWhole 301 = .ok (.goto (-152), 3) := by decide +kernel
theorem dL_isWhole_304 : decode cL_isWhole 304 = .ok (.iload_n 2, 1) := by decide +kernel
theorem dL_isWhole_305 : decode cL_isWhole 305 = .ok (.ifCond .eq 17, 3) := by decide +kernel
theorem dL_isWhole_308 : decode cL_isWhole 308 = .ok (.iload 4, 2) := by decide +kernel
theorem dL_isWhole_310 : decode cL_isWhole 310 = .ok (.aload_n 0, 1) := by decide +kernel
theorem dL_isWhole_311 : decode cL_isWhole 311 = .ok (.iload_n 3, 1) := by decide +kernel
theorem dL_isWhole_312 : decode cL_isWhole 312 = .ok (.invokestatic 125, 3) := by decide +kernel
theorem dL_isWhole_315 : decode cL_isWhole 315 = .ok (.if_icmp .ne 7, 3) := by decide +kernel
theorem dL_isWhole_318 : decode cL_isWhole 318 = .ok (.iconst 1, 1) := by decide +kernel
theorem dL_isWhole_319 : decode cL_isWhole 319 = .ok (.goto 4, 3) := by decide +kernel
theorem dL_isWhole_322 : decode cL_isWhole 322 = .ok (.iconst 0, 1) := by decide +kernel
theorem dL_isWhole_323 : decode cL_isWhole 323 = .ok (.istore_n 2, 1) := by decide +kernel
theorem dL_isWhole_324 : decode cL_isWhole 324 = .ok (.iinc 3 1, 3) := by decide +kernel
theorem dL_isWhole_327 : decode cL_isWhole 327 = .ok (.goto (-193), 3) := by decide +kernel
theorem dL_isWhole_330 : decode cL_isWhole 330 = .ok (.iconst 0, 1) := by decide +kernel
theorem dL_isWhole_331 : decode cL_isWhole 331 = .ok (.istore_n 3, 1) := by decide +kernel
theorem dL_isWhole_332 : decode cL_isWhole 332 = .ok (.iload_n 3, 1) := by decide +kernel
theorem dL_isWhole_333 : decode cL_isWhole 333 = .ok (.iload_n 1, 1) := by decide +kernel
theorem dL_isWhole_334 : decode cL_isWhole 334 = .ok (.if_icmp .ge 203, 3) := by decide +kernel
theorem dL_isWhole_337 : decode cL_isWhole 337 = .ok (.iload_n 2, 1) := by decide +kernel
theorem dL_isWhole_338 : decode cL_isWhole 338 = .ok (.ifCond .eq 199, 3) := by decide +kernel
theorem dL_isWhole_341 : decode cL_isWhole 341 = .ok (.aload_n 0, 1) := by decide +kernel
theorem dL_isWhole_342 : decode cL_isWhole 342 = .ok (.iload_n 3, 1) := by decide +kernel
theorem dL_isWhole_343 : decode cL_isWhole 343 = .ok (.iconst 3, 1) := by decide +kernel
theorem dL_isWhole_344 : decode cL_isWhole 344 = .ok (.invokestatic 121, 3) := by decide +kernel
theorem dL_isWhole_347 : decode cL_isWhole 347 = .ok (.aload_n 0, 1) := by decide +kernel
theorem dL_isWhole_348 : decode cL_isWhole 348 = .ok (.iload_n 3, 1) := by decide +kernel
theorem dL_isWhole_349 : decode cL_isWhole 349 = .ok (.iconst 5, 1) := by decide +kernel
theorem dL_isWhole_350 : decode cL_isWhole 350 = .ok (.invokestatic 121, 3) := by decide +kernel
theorem dL_isWhole_353 : decode cL_isWhole 353 = .ok (.if_icmp .ne 7, 3) := by decide +kernel
theorem dL_isWhole_356 : decode cL_isWhole 356 = .ok (.iconst 1, 1) := by decide +kernel
theorem dL_isWhole_357 : decode cL_isWhole 357 = .ok (.goto 4, 3) := by decide +kernel
theorem dL_isWhole_360 : decode cL_isWhole 360 = .ok (.iconst 0, 1) := by decide +kernel
theorem dL_isWhole_361 : decode cL_isWhole 361 = .ok (.istore 4, 2) := by decide +kernel
theorem dL_isWhole_363 : decode cL_isWhole 363 = .ok (.iload 4, 2) := by decide +kernel
theorem dL_isWhole_365 : decode cL_isWhole 365 = .ok (.ifCond .eq 19, 3) := by decide +kernel
theorem dL_isWhole_368 : decode cL_isWhole 368 = .ok (.aload_n 0, 1) := by decide +kernel
theorem dL_isWhole_369 : decode cL_isWhole 369 = .ok (.iload_n 3, 1) := by decide +kernel
theorem dL_isWhole_370 : decode cL_isWhole 370 = .ok (.iconst 4, 1) := by decide +kernel
theorem dL_isWhole_371 : decode cL_isWhole 371 = .ok (.invokestatic 121, 3) := by decide +kernel
theorem dL_isWhole_374 : decode cL_isWhole 374 = .ok (.aload_n 0, 1) := by decide +kernel
theorem dL_isWhole_375 : decode cL_isWhole 375 = .ok (.iload_n 3, 1) := by decide +kernel
theorem dL_isWhole_376 : decode cL_isWhole 376 = .ok (.iconst 2, 1) := by decide +kernel
theorem dL_isWhole_377 : decode cL_isWhole 377 = .ok (.invokestatic 121, 3) := by decide +kernel
theorem dL_isWhole_380 : decode cL_isWhole 380 = .ok (.isub, 1) := by decide +kernel
theorem dL_isWhole_381 : decode cL_isWhole 381 = .ok (.goto 16, 3) := by decide +kernel
theorem dL_isWhole_384 : decode cL_isWhole 384 = .ok (.aload_n 0, 1) := by decide +kernel
theorem dL_isWhole_385 : decode cL_isWhole 385 = .ok (.iload_n 3, 1) := by decide +kernel
theorem dL_isWhole_386 : decode cL_isWhole 386 = .ok (.iconst 5, 1) := by decide +kernel
theorem dL_isWhole_387 : decode cL_isWhole 387 = .ok (.invokestatic 121, 3) := by decide +kernel
theorem dL_isWhole_390 : decode cL_isWhole 390 = .ok (.aload_n 0, 1) := by decide +kernel
theorem dL_isWhole_391 : decode cL_isWhole 391 = .ok (.iload_n 3, 1) := by decide +kernel
theorem dL_isWhole_392 : decode cL_isWhole 392 = .ok (.iconst 3, 1) := by decide +kernel
theorem dL_isWhole_393 : decode cL_isWhole 393 = .ok (.invokestatic 121, 3) := by decide +kernel
theorem dL_isWhole_396 : decode cL_isWhole 396 = .ok (.isub, 1) := by decide +kernel
theorem dL_isWhole_397 : decode cL_isWhole 397 = .ok (.istore 5, 2) := by decide +kernel
theorem dL_isWhole_399 : decode cL_isWhole 399 = .ok (.iload 4, 2) := by decide +kernel
theorem dL_isWhole_401 : decode cL_isWhole 401 = .ok (.ifCond .ne 18, 3) := by decide +kernel
theorem dL_isWhole_404 : decode cL_isWhole 404 = .ok (.aload_n 0, 1) := by decide +kernel
theorem dL_isWhole_405 : decode cL_isWhole 405 = .ok (.iload_n 3, 1) := by decide +kernel
theorem dL_isWhole_406 : decode cL_isWhole 406 = .ok (.iconst 2, 1) := by decide +kernel
theorem dL_isWhole_407 : decode cL_isWhole 407 = .ok (.invokestatic 121, 3) := by decide +kernel
theorem dL_isWhole_410 : decode cL_isWhole 410 = .ok (.aload_n 0, 1) := by decide +kernel
theorem dL_isWhole_411 : decode cL_isWhole 411 = .ok (.iload_n 3, 1) := by decide +kernel
theorem dL_isWhole_412 : decode cL_isWhole 412 = .ok (.iconst 4, 1) := by decide +kernel
theorem dL_isWhole_413 : decode cL_isWhole 413 = .ok (.invokestatic 121, 3) := by decide +kernel
theorem dL_isWhole_416 : decode cL_isWhole 416 = .ok (.if_icmp .ne 113, 3) := by decide +kernel
theorem dL_isWhole_419 : decode cL_isWhole 419 = .ok (.aload_n 0, 1) := by decide +kernel
theorem dL_isWhole_420 : decode cL_isWhole 420 = .ok (.iload_n 3, 1) := by decide +kernel
theorem dL_isWhole_421 : decode cL_isWhole 421 = .ok (.bipush 9, 2) := by decide +kernel
theorem dL_isWhole_423 : decode cL_isWhole 423 = .ok (.invokestatic 121, 3) := by decide +kernel
theorem dL_isWhole_426 : decode cL_isWhole 426 = .ok (.iload 5, 2) := by decide +kernel
theorem dL_isWhole_428 : decode cL_isWhole 428 = .ok (.ifCond .ge 10, 3) := by decide +kernel
theorem dL_isWhole_431 : decode cL_isWhole 431 = .ok (.iconst 1, 1) := by decide +kernel
theorem dL_isWhole_432 : decode cL_isWhole 432 = .ok (.iload 5, 2) := by decide +kernel
theorem dL_isWhole_434 : decode cL_isWhole 434 = .ok (.isub, 1) := by decide +kernel
theorem dL_isWhole_435 : decode cL_isWhole 435 = .ok (.goto 7, 3) := by decide +kernel
theorem dL_isWhole_438 : decode cL_isWhole 438 = .ok (.iconst 1, 1) := by decide +kernel
theorem dL_isWhole_439 : decode cL_isWhole 439 = .ok (.iload 5, 2) := by decide +kernel
theorem dL_isWhole_441 : decode cL_isWhole 441 = .ok (.iadd, 1) := by decide +kernel
theorem dL_isWhole_442 : decode cL_isWhole 442 = .ok (.if_icmp .ne 87, 3) := by decide +kernel
theorem dL_isWhole_445 : decode cL_isWhole 445 = .ok (.aload_n 0, 1) := by decide +kernel
theorem dL_isWhole_446 : decode cL_isWhole 446 = .ok (.iload_n 3, 1) := by decide +kernel
theorem dL_isWhole_447 : decode cL_isWhole 447 = .ok (.bipush 7, 2) := by decide +kernel
theorem dL_isWhole_449 : decode cL_isWhole 449 = .ok (.invokestatic 121, 3) := by decide +kernel
theorem dL_isWhole_452 : decode cL_isWhole 452 = .ok (.iconst 1, 1) := by decide +kernel
theorem dL_isWhole_453 : decode cL_isWhole 453 = .ok (.if_icmp .lt 76, 3) := by decide +kernel
theorem dL_isWhole_456 : decode cL_isWhole 456 = .ok (.aload_n 0, 1) := by decide +kernel
theorem dL_isWhole_457 : decode cL_isWhole 457 = .ok (.iload_n 3, 1) := by decide +kernel
theorem dL_isWhole_458 : decode cL_isWhole 458 = .ok (.bipush 7, 2) := by decide +kernel
theorem dL_isWhole_460 : decode cL_isWhole 460 = .ok (.invokestatic 121, 3) := by decide +kernel
theorem dL_isWhole_463 : decode cL_isWhole 463 = .ok (.aload_n 0, 1) := by decide +kernel
theorem dL_isWhole_464 : decode cL_isWhole 464 = .ok (.invokevirtual 88, 3) := by decide +kernel
theorem dL_isWhole_467 : decode cL_isWhole 467 = .ok (.if_icmp .gt 62, 3) := by decide +kernel
theorem dL_isWhole_470 : decode cL_isWhole 470 = .ok (.aload_n 0, 1) := by decide +kernel
theorem dL_isWhole_471 : decode cL_isWhole 471 = .ok (.iload_n 3, 1) := by decide +kernel
theorem dL_isWhole_472 : decode cL_isWhole 472 = .ok (.bipush 6, 2) := by decide +kernel
theorem dL_isWhole_474 : decode cL_isWhole 474 = .ok (.invokestatic 121, 3) := by decide +kernel
theorem dL_isWhole_477 : decode cL_isWhole 477 = .ok (.iconst 4, 1) := by decide +kernel
theorem dL_isWhole_478 : decode cL_isWhole 478 = .ok (.if_icmp .eq 38, 3) := by decide +kernel
theorem dL_isWhole_481 : decode cL_isWhole 481 = .ok (.aload_n 0, 1) := by decide +kernel
theorem dL_isWhole_482 : decode cL_isWhole 482 = .ok (.aload_n 0, 1) := by decide +kernel
theorem dL_isWhole_483 : decode cL_isWhole 483 = .ok (.iload_n 3, 1) := by decide +kernel
theorem dL_isWhole_484 : decode cL_isWhole 484 = .ok (.iconst 1, 1) := by decide +kernel
theorem dL_isWhole_485 : decode cL_isWhole 485 = .ok (.invokestatic 121, 3) := by decide +kernel
theorem dL_isWhole_488 : decode cL_isWhole 488 = .ok (.aload_n 0, 1) := by decide +kernel
theorem dL_isWhole_489 : decode cL_isWhole 489 = .ok (.iload_n 3, 1) := by decide +kernel
theorem dL_isWhole_490 : decode cL_isWhole 490 = .ok (.iconst 2, 1) := by decide +kernel
theorem dL_isWhole_491 : decode cL_isWhole 491 = .ok (.invokestatic 121, 3) := by decide +kernel
theorem dL_isWhole_494 : decode cL_isWhole 494 = .ok (.aload_n 0, 1) := by decide +kernel
theorem dL_isWhole_495 : decode cL_isWhole 495 = .ok (.iload_n 3, 1) := by decide +kernel
theorem dL_isWhole_496 : decode cL_isWhole 496 = .ok (.iconst 3, 1) := by decide +kernel
theorem dL_isWhole_497 : decode cL_isWhole 497 = .ok (.invokestatic 121, 3) := by decide +kernel
theorem dL_isWhole_500 : decode cL_isWhole 500 = .ok (.invokestatic 136, 3) := by decide +kernel
theorem dL_isWhole_503 : decode cL_isWhole 503 = .ok (.aload_n 0, 1) := by decide +kernel
theorem dL_isWhole_504 : decode cL_isWhole 504 = .ok (.iload_n 3, 1) := by decide +kernel
theorem dL_isWhole_505 : decode cL_isWhole 505 = .ok (.iconst 0, 1) := by decide +kernel
theorem dL_isWhole_506 : decode cL_isWhole 506 = .ok (.invokestatic 121, 3) := by decide +kernel
theorem dL_isWhole_509 : decode cL_isWhole 509 = .ok (.ishr, 1) := by decide +kernel
theorem dL_isWhole_510 : decode cL_isWhole 510 = .ok (.iconst 1, 1) := by decide +kernel
theorem dL_isWhole_511 : decode cL_isWhole 511 = .ok (.iand, 1) := by decide +kernel
theorem dL_isWhole_512 : decode cL_isWhole 512 = .ok (.iconst 1, 1) := by decide +kernel
theorem dL_isWhole_513 : decode cL_isWhole 513 = .ok (.if_icmp .ne 16, 3) := by decide +kernel
theorem dL_isWhole_516 : decode cL_isWhole 516 = .ok (.aload_n 0, 1) := by decide +kernel
theorem dL_isWhole_517 : decode cL_isWhole 517 = .ok (.iload_n 3, 1) := by decide +kernel
theorem dL_isWhole_518 : decode cL_isWhole 518 = .ok (.iload_n 3, 1) := by decide +kernel
theorem dL_isWhole_519 : decode cL_isWhole 519 = .ok (.invokestatic 123, 3) := by decide +kernel
theorem dL_isWhole_522 : decode cL_isWhole 522 = .ok (.ifCond .ne 7, 3) := by decide +kernel
theorem dL_isWhole_525 : decode cL_isWhole 525 = .ok (.iconst 1, 1) := by decide +kernel
theorem dL_isWhole_526 : decode cL_isWhole 526 = .ok (.goto 4, 3) := by decide +kernel
theorem dL_isWhole_529 : decode cL_isWhole 529 = .ok (.iconst 0, 1) := by decide +kernel
theorem dL_isWhole_530 : decode cL_isWhole 530 = .ok (.istore_n 2, 1) := by decide +kernel
theorem dL_isWhole_531 : decode cL_isWhole 531 = .ok (.iinc 3 1, 3) := by decide +kernel
theorem dL_isWhole_534 : decode cL_isWhole 534 = .ok (.goto (-202), 3) := by decide +kernel
theorem dL_isWhole_537 : decode cL_isWhole 537 = .ok (.iload_n 2, 1) := by decide +kernel
theorem dL_isWhole_538 : decode cL_isWhole 538 = .ok (.ireturn, 1) := by decide +kernel
set_option maxRecDepth 20000 in
theorem ggL_law_X1_init : GoodIn wsL_law wsX1_init := goodIn_r _ [6, 7, 8, 9, 10, 11, 12, 13, 14, 15, 16, 17, 18, 19, 20, 337, 338, 339, 340, 341, 342, 343, 344] (by decide +kernel) (by decide +kernel)
set_option maxRecDepth 20000 in
theorem gL_law_X1_init : GoodIn wsL_law (wsX1_init) := ggL_law_X1_init
set_option maxRecDepth 20000 in
theorem ggL_law_L_drawn : GoodIn wsL_law wsL_drawn := goodIn_r _ [24, 25, 26] (by decide +kernel) (by decide +kernel)
set_option maxRecDepth 20000 in
theorem gL_law_L_drawn : GoodIn wsL_law (va_wsS RL 144 yL_drawn wsL_drawn) := goodIn_app (goodIn_of _ (by decide +kernel)) ggL_law_L_drawn
set_option maxRecDepth 20000 in
theorem ggL_law_L_act : GoodIn wsL_law wsL_act := goodIn_ca (goodIn_ca (goodIn_ca (hp_gc (c := .code yL_act cL_act 10 (some .int)) (List.mem_of_getElem? (i := 29) rfl) (by decide +kernel) (goodIn_r _ [30, 31, 32, 2, 33, 19, 34, 35, 23, 36, 37, 38, 39, 40, 41, 42, 43, 44, 45, 46, 47, 48, 49, 50, 51, 52, 18, 12, 11, 10, 53, 54, 55, 56, 57, 58, 59, 60, 61, 62, 63, 64, 65, 66, 67, 68, 69, 70, 8, 9, 71, 72, 73, 74, 75, 76, 77, 78, 79, 80, 81, 82, 83, 84, 85, 86, 87, 88, 89, 90, 91, 92, 93, 94, 95, 96, 97, 98, 99, 100, 101, 102, 103, 104, 105, 106, 107, 108, 109, 110, 111, 112, 113, 114, 115, 116, 117, 118, 119, 120, 121, 122, 123, 124, 125, 126, 127, 128, 129, 130, 14, 131, 132, 133, 134, 135, 136, 137, 15, 138, 139, 140, 141, 142, 143, 144, 16, 145, 146, 147, 148, 149, 150, 151, 20, 152, 153, 154, 155, 156, 157, 158, 159, 160, 161, 162, 163, 164, 165, 166, 167, 168, 169, 170, 171, 172, 173, 174, 175, 176, 177, 178, 179, 180, 181, 182, 183, 184, 185, 186, 187, 188, 189, 190, 191, 192, 193, 194, 195, 196, 197, 198, 199, 200, 201, 202, 203, 204, 205, 206, 207, 208, 209, 210, 211, 212, 213, 214, 215, 216, 217, 218, 219, 220, 221, 222, 223, 224, 225, 226, 227, 228, 229, 230, 231, 232, 233, 234, 235, 337, 338, 339, 340, 341, 342, 343, 344, 345, 346, 347, 348, 349, 350, 351, 352, 353, 354] (by decide +kernel) (by decide +kernel))) (goodIn_sub (fun _ h => List.mem_append_left _ (List.mem_append_left _ (List.mem_append_right _ h))) (by decide +kernel))) (goodIn_sub (fun _ h => List.mem_append_left _ (List.mem_append_right _ h)) (by decide +kernel))) (goodIn_sub (fun _ h => List.mem_append_right _ h) (by decide +kernel))
set_option maxRecDepth 20000 in
theorem gL_law_L_act : GoodIn wsL_law (va_wsS RL 149 yL_act wsL_act) := goodIn_app (goodIn_of _ (by decide +kernel)) ggL_law_L_act
set_option maxRecDepth 20000 in
theorem ggL_law_L_refuses : GoodIn wsL_law wsL_refuses := goodIn_ca (goodIn_ca (goodIn_ca (hp_gc (c := .code yL_refuses cL_refuses 12 (some .boolean)) (List.mem_of_getElem? (i := 238) rfl) (by decide +kernel) (goodIn_r _ [40, 41, 42, 30, 31, 32, 2, 33, 19, 34, 35, 23, 36, 37, 38, 39, 43, 44, 45, 46, 47, 48, 49, 50, 51, 52, 18, 12, 11, 10, 53, 54, 55, 56, 57, 58, 59, 60, 61, 62, 63, 64, 65, 66, 67, 68, 69, 70, 8, 9, 71, 72, 73, 74, 75, 76, 77, 78, 79, 80, 81, 82, 83, 84, 85, 86, 87, 88, 89, 90, 91, 92, 93, 94, 95, 96, 97, 98, 99, 100, 101, 102, 103, 104, 105, 106, 107, 108, 109, 110, 111, 112, 113, 114, 115, 116, 117, 118, 119, 120, 121, 122, 123, 124, 125, 126, 127, 128, 129, 130, 14, 131, 132, 133, 134, 135, 136, 137, 15, 138, 139, 140, 141, 142, 143, 144, 16, 145, 146, 147, 148, 149, 150, 151, 20, 152, 153, 154, 155, 156, 157, 158, 159, 160, 161, 162, 163, 164, 165, 166, 167, 168, 169, 170, 171, 172, 173, 174, 175, 176, 177, 178, 179, 180, 181, 182, 183, 184, 185, 186, 187, 188, 189, 190, 191, 192, 193, 194, 195, 196, 197, 198, 199, 200, 201, 202, 203, 204, 205, 206, 207, 208, 209, 210, 211, 212, 213, 214, 215, 216, 217, 218, 219, 220, 221, 222, 223, 224, 225, 226, 227, 228, 229, 230, 231, 232, 233, 234, 235, 239, 240, 241, 242, 243, 244, 245, 246, 247, 248, 249, 250, 251, 252, 253, 254, 255, 256, 257, 258, 259, 260, 261, 262, 263, 264, 265, 266, 267, 268, 269, 270, 271, 272, 273, 274, 275, 276, 277, 278, 279, 280, 281, 282, 283, 284, 285, 286, 287, 288, 289, 290, 291, 292, 293, 294, 295, 296, 297, 298, 299, 300, 301, 302, 303, 304, 305, 306, 307, 308, 309, 310, 311, 312, 313, 314, 315, 316, 317, 318, 319, 320, 321, 322, 323, 324, 325, 326, 337, 338, 339, 340, 341, 342, 343, 344, 345, 346, 347, 348, 349, 350, 351, 352, 353, 354] (by decide +kernel) (by decide +kernel))) (goodIn_sub (fun _ h => List.mem_append_left _ (List.mem_append_left _ (List.mem_append_right _ h))) (by decide +kernel))) (goodIn_sub (fun _ h => List.mem_append_left _ (List.mem_append_right _ h)) (by decide +kernel))) (goodIn_sub (fun _ h => List.mem_append_right _ h) (by decide +kernel))
set_option maxRecDepth 20000 in
theorem gL_law_L_refuses : GoodIn wsL_law (va_wsS RL 152 yL_refuses wsL_refuses) := goodIn_app (goodIn_of _ (by decide +kernel)) ggL_law_L_refuses
set_option maxRecDepth 20000 in
theorem ggL_law_L_isAlike : GoodIn wsL_law wsL_isAlike := goodIn_ca (goodIn_ca (hp_gc (c := .code yL_isAlike cL_isAlike 7 (some .boolean)) (List.mem_of_getElem? (i := 329) rfl) (by decide +kernel) (goodIn_r _ [330, 331, 332, 2, 333, 20, 30, 31, 32, 33, 19, 250, 251, 23, 252, 37, 40, 253, 254, 255, 256, 47, 48, 89, 90, 91, 92, 11, 58, 59, 60, 192, 193, 194, 195, 196, 152, 197, 198, 199, 54, 200, 71, 201, 202, 203, 204, 75, 77, 76, 78, 205, 206, 172, 207, 208, 209, 210, 211, 212, 213, 214, 215, 216, 217, 14, 55, 56, 57, 257, 258, 259, 260, 261, 262, 263, 12, 61, 62, 63, 264, 265, 266, 267, 268, 269, 270, 271, 272, 273, 274, 275, 276, 277, 278, 188, 189, 190, 191, 279, 280, 281, 282, 283, 284, 285, 286, 287, 288, 289, 88, 162, 163, 164, 165, 15, 166, 167, 168, 169, 170, 171, 173, 305, 306, 307, 308, 309, 310, 311, 320, 321, 322, 323, 324, 325, 326, 18, 239, 240, 241, 38, 41, 242, 243, 244, 245, 49, 50, 246, 247, 248, 249, 107, 108, 312, 313, 314, 315, 316, 317, 318, 64, 65, 66, 319, 302, 303, 304, 337, 338, 339, 340, 341, 342, 343, 344, 345, 346, 347, 348, 349, 350, 351, 352, 353, 354] (by decide +kernel) (by decide +kernel))) (goodIn_sub (fun _ h => List.mem_append_left _ (List.mem_append_left _ (List.mem_append_right _ h))) (by decide +kernel))) (goodIn_sub (fun _ h => List.mem_append_left _ (List.mem_append_right _ h)) (by decide +kernel))
set_option maxRecDepth 20000 in
theorem gL_law_L_isAlike : GoodIn wsL_law (va_wsS RL 156 yL_isAlike wsL_isAlike) := goodIn_app (goodIn_of _ (by decide +kernel)) ggL_law_L_isAlike
set_option maxRecDepth 20000 in
theorem ggL_law_L_isWhole : GoodIn wsL_law wsL_isWhole := goodIn_ca (goodIn_ca (hp_gc (c := .code yL_isWhole cL_isWhole 8 (some .boolean)) (List.mem_of_getElem? (i := 336) rfl) (by decide +kernel) (goodIn_r _ [239, 240, 23, 241, 37, 38, 40, 41, 242, 243, 244, 2, 245, 47, 48, 49, 50, 152, 196, 246, 247, 248, 249, 88, 107, 108, 89, 90, 91, 92, 11, 58, 59, 60, 166, 167, 168, 54, 169, 77, 75, 170, 171, 172, 173, 78, 76, 290, 291, 292, 293, 294, 295, 296, 12, 15, 55, 56, 57, 197, 198, 199, 200, 71, 297, 298, 299, 300, 301, 302, 303, 304, 211, 212, 213, 205, 206, 207, 279, 280, 281, 282, 283, 284, 285, 286, 287, 288, 289, 162, 163, 164, 165, 305, 306, 307, 308, 309, 310, 311, 320, 321, 322, 323, 324, 325, 326, 18, 61, 62, 63, 250, 251, 252, 253, 254, 255, 256, 192, 193, 194, 195, 201, 202, 203, 204, 208, 209, 210, 214, 215, 216, 217, 14, 272, 273, 274, 275, 276, 277, 278, 188, 189, 190, 191, 257, 258, 259, 260, 261, 262, 263, 264, 265, 266, 267, 268, 269, 270, 271, 30, 31, 32, 33, 19, 312, 313, 314, 315, 316, 317, 318, 64, 65, 66, 319, 345, 346, 347, 348, 349, 350, 351, 352, 353, 354, 337, 338, 339, 340, 341, 342, 343, 344] (by decide +kernel) (by decide +kernel))) (goodIn_sub (fun _ h => List.mem_append_left _ (List.mem_append_left _ (List.mem_append_right _ h))) (by decide +kernel))) (goodIn_sub (fun _ h => List.mem_append_left _ (List.mem_append_right _ h)) (by decide +kernel))
set_option maxRecDepth 20000 in
theorem gL_law_L_isWhole : GoodIn wsL_law (va_wsS RL 160 yL_isWhole wsL_isWhole) := goodIn_app (goodIn_of _ (by decide +kernel)) ggL_law_L_isWhole
theorem dL_law_0 : decode cL_law 0 = .ok (.new 8, 3) := by decide +kernel
theorem dL_law_3 : decode cL_law 3 = .ok (.dup, 1) := by decide +kernel
theorem dL_law_4 : decode cL_law 4 = .ok (.invokespecial 143, 3) := by decide +kernel
theorem dL_law_7 : decode cL_law 7 = .ok (.astore_n 1, 1) := by decide +kernel
theorem dL_law_8 : decode cL_law 8 = .ok (.new 8, 3) := by decide +kernel
theorem dL_law_11 : decode cL_law 11 = .ok (.dup, 1) := by decide +kernel
theorem dL_law_12 : decode cL_law 12 = .ok (.invokespecial 143, 3) := by decide +kernel
theorem dL_law_15 : decode cL_law 15 = .ok (.astore_n 2, 1) := by decide +kernel
theorem dL_law_16 : decode cL_law 16 = .ok (.iconst 0, 1) := by decide +kernel
theorem dL_law_17 : decode cL_law 17 = .ok (.istore_n 3, 1) := by decide +kernel
theorem dL_law_18 : decode cL_law 18 = .ok (.bipush 34, 2) := by decide +kernel
theorem dL_law_20 : decode cL_law 20 = .ok (.aload_n 0, 1) := by decide +kernel
theorem dL_law_21 : decode cL_law 21 = .ok (.iconst 0, 1) := by decide +kernel
theorem dL_law_22 : decode cL_law 22 = .ok (.invokestatic 144, 3) := by decide +kernel
theorem dL_law_25 : decode cL_law 25 = .ok (.bipush 27, 2) := by decide +kernel
theorem dL_law_27 : decode cL_law 27 = .ok (.irem, 1) := by decide +kernel
theorem dL_law_28 : decode cL_law 28 = .ok (.iadd, 1) := by decide +kernel
theorem dL_law_29 : decode cL_law 29 = .ok (.istore 4, 2) := by decide +kernel
theorem dL_law_31 : decode cL_law 31 = .ok (.iconst 1, 1) := by decide +kernel
theorem dL_law_32 : decode cL_law 32 = .ok (.istore 5, 2) := by decide +kernel
theorem dL_law_34 : decode cL_law 34 = .ok (.iconst 0, 1) := by decide +kernel
theorem dL_law_35 : decode cL_law 35 = .ok (.istore 6, 2) := by decide +kernel
theorem dL_law_37 : decode cL_law 37 = .ok (.iload 6, 2) := by decide +kernel
theorem dL_law_39 : decode cL_law 39 = .ok (.iload 4, 2) := by decide +kernel
theorem dL_law_41 : decode cL_law 41 = .ok (.if_icmp .ge 187, 3) := by decide +kernel
theorem dL_law_44 : decode cL_law 44 = .ok (.iload 5, 2) := by decide +kernel
theorem dL_law_46 : decode cL_law 46 = .ok (.ifCond .eq 182, 3) := by decide +kernel
theorem dL_law_49 : decode cL_law 49 = .ok (.aload_n 0, 1) := by decide +kernel
theorem dL_law_50 : decode cL_law 50 = .ok (.iconst 1, 1) := by decide +kernel
theorem dL_law_51 : decode cL_law 51 = .ok (.iload 6, 2) := by decide +kernel
theorem dL_law_53 : decode cL_law 53 = .ok (.iadd, 1) := by decide +kernel
theorem dL_law_54 : decode cL_law 54 = .ok (.invokestatic 144, 3) := by decide +kernel
theorem dL_law_57 : decode cL_law 57 = .ok (.ldc 148, 2) := by decide +kernel
theorem dL_law_59 : decode cL_law 59 = .ok (.irem, 1) := by decide +kernel
theorem dL_law_60 : decode cL_law 60 = .ok (.istore 7, 2) := by decide +kernel
theorem dL_law_62 : decode cL_law 62 = .ok (.iload 6, 2) := by decide +kernel
theorem dL_law_64 : decode cL_law 64 = .ok (.iconst 5, 1) := by decide +kernel
theorem dL_law_65 : decode cL_law 65 = .ok (.if_icmp .ge 14, 3) := by decide +kernel
theorem dL_law_68 : decode cL_law 68 = .ok (.bipush 20, 2) := by decide +kernel
theorem dL_law_70 : decode cL_law 70 = .ok (.iload 7, 2) := by decide +kernel
theorem dL_law_72 : decode cL_law 72 = .ok (.bipush 20, 2) := by decide +kernel
theorem dL_law_74 : decode cL_law 74 = .ok (.idiv, 1) := by decide +kernel
theorem dL_law_75 : decode cL_law 75 = .ok (.imul, 1) := by decide +kernel
theorem dL_law_76 : decode cL_law 76 = .ok (.goto 26, 3) := by decide +kernel
theorem dL_law_79 : decode cL_law 79 = .ok (.iload 6, 2) := by decide +kernel
theorem dL_law_81 : decode cL_law 81 = .ok (.bipush 7, 2) := by decide +kernel
theorem dL_law_83 : decode cL_law 83 = .ok (.if_icmp .ge 17, 3) := by decide +kernel
theorem dL_law_86 : decode cL_law 86 = .ok (.bipush 20, 2) := by decide +kernel
theorem dL_law_88 : decode cL_law 88 = .ok (.iload 7, 2) := by decide +kernel
theorem dL_law_90 : decode cL_law 90 = .ok (.bipush 20, 2) := by decide +kernel
theorem dL_law_92 : decode cL_law 92 = .ok (.idiv, 1) := by decide +kernel
theorem dL_law_93 : decode cL_law 93 = .ok (.imul, 1) := by decide +kernel
theorem dL_law_94 : decode cL_law 94 = .ok (.bipush 9, 2) := by decide +kernel
theorem dL_law_96 : decode cL_law 96 = .ok (.iadd, 1) := by decide +kernel
theorem dL_law_97 : decode cL_law 97 = .ok (.goto 5, 3) := by decide +kernel
theorem dL_law_100 : decode cL_law 100 = .ok (.iload 7, 2) := by decide +kernel
theorem dL_law_102 : decode cL_law 102 = .ok (.istore 7, 2) := by decide +kernel
theorem dL_law_104 : decode cL_law 104 = .ok (.aload_n 1, 1) := by decide +kernel
theorem dL_law_105 : decode cL_law 105 = .ok (.iload_n 3, 1) := by decide +kernel
theorem dL_law_106 : decode cL_law 106 = .ok (.iload 7, 2) := by decide +kernel
theorem dL_law_108 : decode cL_law 108 = .ok (.invokestatic 149, 3) := by decide +kernel
theorem dL_law_111 : decode cL_law 111 = .ok (.istore 8, 2) := by decide +kernel
theorem dL_law_113 : decode cL_law 113 = .ok (.aload_n 2, 1) := by decide +kernel
theorem dL_law_114 : decode cL_law 114 = .ok (.iload_n 3, 1) := by decide +kernel
theorem dL_law_115 : decode cL_law 115 = .ok (.iload 7, 2) := by decide +kernel
theorem dL_law_117 : decode cL_law 117 = .ok (.sipush 9973, 3) := by decide +kernel
theorem dL_law_120 : decode cL_law 120 = .ok (.irem, 1) := by decide +kernel
theorem dL_law_121 : decode cL_law 121 = .ok (.invokestatic 152, 3) := by decide +kernel
theorem dL_law_124 : decode cL_law 124 = .ok (.ifCond .eq 19, 3) := by decide +kernel
theorem dL_law_127 : decode cL_law 127 = .ok (.aload_n 2, 1) := by decide +kernel
theorem dL_law_128 : decode cL_law 128 = .ok (.iload_n 3, 1) := by decide +kernel
theorem dL_law_129 : decode cL_law 129 = .ok (.iload 7, 2) := by decide +kernel
theorem dL_law_131 : decode cL_law 131 = .ok (.invokestatic 149, 3) := by decide +kernel
theorem dL_law_134 : decode cL_law 134 = .ok (.iload 8, 2) := by decide +kernel
theorem dL_law_136 : decode cL_law 136 = .ok (.if_icmp .ne 7, 3) := by decide +kernel
theorem dL_law_139 : decode cL_law 139 = .ok (.iconst 1, 1) := by decide +kernel
theorem dL_law_140 : decode cL_law 140 = .ok (.goto 4, 3) := by decide +kernel
theorem dL_law_143 : decode cL_law 143 = .ok (.iconst 0, 1) := by decide +kernel
theorem dL_law_144 : decode cL_law 144 = .ok (.istore 5, 2) := by decide +kernel
theorem dL_law_146 : decode cL_law 146 = .ok (.iload_n 3, 1) := by decide +kernel
theorem dL_law_147 : decode cL_law 147 = .ok (.iload 7, 2) := by decide +kernel
theorem dL_law_149 : decode cL_law 149 = .ok (.bipush 20, 2) := by decide +kernel
theorem dL_law_151 : decode cL_law 151 = .ok (.irem, 1) := by decide +kernel
theorem dL_law_152 : decode cL_law 152 = .ok (.iconst 4, 1) := by decide +kernel
theorem dL_law_153 : decode cL_law 153 = .ok (.if_icmp .ge 12, 3) := by decide +kernel
theorem dL_law_156 : decode cL_law 156 = .ok (.iload 8, 2) := by decide +kernel
theorem dL_law_158 : decode cL_law 158 = .ok (.ifCond .lt 7, 3) := by decide +kernel
theorem dL_law_161 : decode cL_law 161 = .ok (.iconst 1, 1) := by decide +kernel
theorem dL_law_162 : decode cL_law 162 = .ok (.goto 4, 3) := by decide +kernel
theorem dL_law_165 : decode cL_law 165 = .ok (.iconst 0, 1) := by decide +kernel
theorem dL_law_166 : decode cL_law 166 = .ok (.iadd, 1) := by decide +kernel
theorem dL_law_167 : decode cL_law 167 = .ok (.istore_n 3, 1) := by decide +kernel
theorem dL_law_168 : decode cL_law 168 = .ok (.iload 5, 2) := by decide +kernel
theorem dL_law_170 : decode cL_law 170 = .ok (.ifCond .eq 49, 3) := by decide +kernel
theorem dL_law_173 : decode cL_law 173 = .ok (.aload_n 2, 1) := by decide +kernel
theorem dL_law_174 : decode cL_law 174 = .ok (.iload_n 3, 1) := by decide +kernel
theorem dL_law_175 : decode cL_law 175 = .ok (.iload 7, 2) := by decide +kernel
theorem dL_law_177 : decode cL_law 177 = .ok (.sipush 499, 3) := by decide +kernel
theorem dL_law_180 : decode cL_law 180 = .ok (.irem, 1) := by decide +kernel
theorem dL_law_181 : decode cL_law 181 = .ok (.invokestatic 152, 3) := by decide +kernel
theorem dL_law_184 : decode cL_law 184 = .ok (.ifCond .eq 35, 3) := by decide +kernel
theorem dL_law_187 : decode cL_law 187 = .ok (.aload_n 1, 1) := by decide +kernel
theorem dL_law_188 : decode cL_law 188 = .ok (.aload_n 2, 1) := by decide +kernel
theorem dL_law_189 : decode cL_law 189 = .ok (.iload_n 3, 1) := by decide +kernel
theorem dL_law_190 : decode cL_law 190 = .ok (.iload 7, 2) := by decide +kernel
theorem dL_law_192 : decode cL_law 192 = .ok (.iconst 3, 1) := by decide +kernel
theorem dL_law_193 : decode cL_law 193 = .ok (.idiv, 1) := by decide +kernel
theorem dL_law_194 : decode cL_law 194 = .ok (.invokestatic 156, 3) := by decide +kernel
theorem dL_law_197 : decode cL_law 197 = .ok (.ifCond .eq 22, 3) := by decide +kernel
theorem dL_law_200 : decode cL_law 200 = .ok (.iload 6, 2) := by decide +kernel
theorem dL_law_202 : decode cL_law 202 = .ok (.iconst 5, 1) := by decide +kernel
theorem dL_law_203 : decode cL_law 203 = .ok (.irem, 1) := by decide +kernel
theorem dL_law_204 : decode cL_law 204 = .ok (.ifCond .gt 11, 3) := by decide +kernel
theorem dL_law_207 : decode cL_law 207 = .ok (.aload_n 2, 1) := by decide +kernel
theorem dL_law_208 : decode cL_law 208 = .ok (.iload_n 3, 1) := by decide +kernel
theorem dL_law_209 : decode cL_law 209 = .ok (.invokestatic 160, 3) := by decide +kernel
theorem dL_law_212 : decode cL_law 212 = .ok (.ifCond .eq 7, 3) := by decide +kernel
theorem dL_law_215 : decode cL_law 215 = .ok (.iconst 1, 1) := by decide +kernel
theorem dL_law_216 : decode cL_law 216 = .ok (.goto 4, 3) := by decide +kernel
theorem dL_law_219 : decode cL_law 219 = .ok (.iconst 0, 1) := by decide +kernel
theorem dL_law_220 : decode cL_law 220 = .ok (.istore 5, 2) := by decide +kernel
theorem dL_law_222 : decode cL_law 222 = .ok (.iinc 6 1, 3) := by decide +kernel
theorem dL_law_225 : decode cL_law 225 = .ok (.goto (-188), 3) := by decide +kernel
theorem dL_law_228 : decode cL_law 228 = .ok (.iload 5, 2) := by decide +kernel
theorem dL_law_230 : decode cL_law 230 = .ok (.ifCond .eq 40, 3) := by decide +kernel
theorem dL_law_233 : decode cL_law 233 = .ok (.aload_n 1, 1) := by decide +kernel
theorem dL_law_234 : decode cL_law 234 = .ok (.iload_n 3, 1) := by decide +kernel
theorem dL_law_235 : decode cL_law 235 = .ok (.invokestatic 160, 3) := by decide +kernel
theorem dL_law_238 : decode cL_law 238 = .ok (.ifCond .eq 32, 3) := by decide +kernel
theorem dL_law_241 : decode cL_law 241 = .ok (.aload_n 2, 1) := by decide +kernel
theorem dL_law_242 : decode cL_law 242 = .ok (.iload_n 3, 1) := by decide +kernel
theorem dL_law_243 : decode cL_law 243 = .ok (.invokestatic 160, 3) := by decide +kernel
theorem dL_law_246 : decode cL_law 246 = .ok (.ifCond .eq 24, 3) := by decide +kernel
theorem dL_law_249 : decode cL_law 249 = .ok (.aload_n 1, 1) := by decide +kernel
theorem dL_law_250 : decode cL_law 250 = .ok (.aload_n 2, 1) := by decide +kernel
theorem dL_law_251 : decode cL_law 251 = .ok (.iload_n 3, 1) := by decide +kernel
theorem dL_law_252 : decode cL_law 252 = .ok (.aload_n 0, 1) := by decide +kernel
theorem dL_law_253 : decode cL_law 253 = .ok (.iconst 0, 1) := by decide +kernel
theorem dL_law_254 : decode cL_law 254 = .ok (.invokestatic 144, 3) := by decide +kernel
theorem dL_law_257 : decode cL_law 257 = .ok (.bipush 37, 2) := by decide +kernel
theorem dL_law_259 : decode cL_law 259 = .ok (.idiv, 1) := by decide +kernel
theorem dL_law_260 : decode cL_law 260 = .ok (.invokestatic 156, 3) := by decide +kernel
theorem dL_law_263 : decode cL_law 263 = .ok (.ifCond .eq 7, 3) := by decide +kernel
theorem dL_law_266 : decode cL_law 266 = .ok (.iconst 1, 1) := by decide +kernel
theorem dL_law_267 : decode cL_law 267 = .ok (.goto 4, 3) := by decide +kernel
theorem dL_law_270 : decode cL_law 270 = .ok (.iconst 0, 1) := by decide +kernel
theorem dL_law_271 : decode cL_law 271 = .ok (.ireturn, 1) := by decide +kernel
abbrev vwCl : List vw_C := [(RX0, TX0, 10), (RX1, TX1, 8)]
