theorem dL_list_165 : decode cL_list 165 = .ok (.invokevirtual 37, 3) := by decide +kernel
theorem dL_list_168 : decode cL_list 168 = .ok (.iload 4, 2) := by decide +kernel
theorem dL_list_170 : decode cL_list 170 = .ok (.invokevirtual 41, 3) := by decide +kernel
theorem dL_list_173 : decode cL_list 173 = .ok (.ldc 95, 2) := by decide +kernel
theorem dL_list_175 : decode cL_list 175 = .ok (.invokevirtual 37, 3) := by decide +kernel
theorem dL_list_178 : decode cL_list 178 = .ok (.aload_n 2, 1) := by decide +kernel
theorem dL_list_179 : decode cL_list 179 = .ok (.getfield 89, 3) := by decide +kernel
theorem dL_list_182 : decode cL_list 182 = .ok (.iload 4, 2) := by decide +kernel
theorem dL_list_184 : decode cL_list 184 = .ok (.aaload, 1) := by decide +kernel
theorem dL_list_185 : decode cL_list 185 = .ok (.iconst 0, 1) := by decide +kernel
theorem dL_list_186 : decode cL_list 186 = .ok (.iaload, 1) := by decide +kernel
theorem dL_list_187 : decode cL_list 187 = .ok (.invokevirtual 41, 3) := by decide +kernel
theorem dL_list_190 : decode cL_list 190 = .ok (.ldc 97, 2) := by decide +kernel
theorem dL_list_192 : decode cL_list 192 = .ok (.invokevirtual 37, 3) := by decide +kernel
theorem dL_list_195 : decode cL_list 195 = .ok (.aload_n 2, 1) := by decide +kernel
theorem dL_list_196 : decode cL_list 196 = .ok (.getfield 89, 3) := by decide +kernel
theorem dL_list_199 : decode cL_list 199 = .ok (.iload 4, 2) := by decide +kernel
theorem dL_list_201 : decode cL_list 201 = .ok (.aaload, 1) := by decide +kernel
theorem dL_list_202 : decode cL_list 202 = .ok (.iconst 1, 1) := by decide +kernel
theorem dL_list_203 : decode cL_list 203 = .ok (.iaload, 1) := by decide +kernel
theorem dL_list_204 : decode cL_list 204 = .ok (.invokevirtual 41, 3) := by decide +kernel
theorem dL_list_207 : decode cL_list 207 = .ok (.ldc 99, 2) := by decide +kernel
theorem dL_list_209 : decode cL_list 209 = .ok (.invokevirtual 37, 3) := by decide +kernel
theorem dL_list_212 : decode cL_list 212 = .ok (.aload_n 2, 1) := by decide +kernel
theorem dL_list_213 : decode cL_list 213 = .ok (.getfield 89, 3) := by decide +kernel
theorem dL_list_216 : decode cL_list 216 = .ok (.iload 4, 2) := by decide +kernel
theorem dL_list_218 : decode cL_list 218 = .ok (.aaload, 1) := by decide +kernel
theorem dL_list_219 : decode cL_list 219 = .ok (.iconst 2, 1) := by decide +kernel
theorem dL_list_220 : decode cL_list 220 = .ok (.iaload, 1) := by decide +kernel
theorem dL_list_221 : decode cL_list 221 = .ok (.invokevirtual 41, 3) := by decide +kernel
theorem dL_list_224 : decode cL_list 224 = .ok (.ldc 101, 2) := by decide +kernel
theorem dL_list_226 : decode cL_list 226 = .ok (.invokevirtual 37, 3) := by decide +kernel
theorem dL_list_229 : decode cL_list 229 = .ok (.pop, 1) := by decide +kernel
theorem dL_list_230 : decode cL_list 230 = .ok (.iinc 4 1, 3) := by decide +kernel
theorem dL_list_233 : decode cL_list 233 = .ok (.goto (-202), 3) := by decide +kernel
theorem dL_list_236 : decode cL_list 236 = .ok (.aload_n 2, 1) := by decide +kernel
theorem dL_list_237 : decode cL_list 237 = .ok (.iconst 2, 1) := by decide +kernel
theorem dL_list_238 : decode cL_list 238 = .ok (.aload_n 0, 1) := by decide +kernel
theorem dL_list_239 : decode cL_list 239 = .ok (.iconst 2, 1) := by decide +kernel
theorem dL_list_240 : decode cL_list 240 = .ok (.invokestatic 77, 3) := by decide +kernel
theorem dL_list_243 : decode cL_list 243 = .ok (.bipush 8, 2) := by decide +kernel
theorem dL_list_245 : decode cL_list 245 = .ok (.invokestatic 83, 3) := by decide +kernel
theorem dL_list_248 : decode cL_list 248 = .ok (.iadd, 1) := by decide +kernel
theorem dL_list_249 : decode cL_list 249 = .ok (.anewarray 87, 3) := by decide +kernel
theorem dL_list_252 : decode cL_list 252 = .ok (.putfield 103, 3) := by decide +kernel
theorem dL_list_255 : decode cL_list 255 = .ok (.iconst 0, 1) := by decide +kernel
theorem dL_list_256 : decode cL_list 256 = .ok (.istore 4, 2) := by decide +kernel
theorem dL_list_258 : decode cL_list 258 = .ok (.iload 4, 2) := by decide +kernel
theorem dL_list_260 : decode cL_list 260 = .ok (.aload_n 2, 1) := by decide +kernel
theorem dL_list_261 : decode cL_list 261 = .ok (.getfield 103, 3) := by decide +kernel
theorem dL_list_264 : decode cL_list 264 = .ok (.arraylength, 1) := by decide +kernel
theorem dL_list_265 : decode cL_list 265 = .ok (.if_icmp .ge 197, 3) := by decide +kernel
theorem dL_list_268 : decode cL_list 268 = .ok (.aload_n 0, 1) := by decide +kernel
theorem dL_list_269 : decode cL_list 269 = .ok (.iconst 3, 1) := by decide +kernel
theorem dL_list_270 : decode cL_list 270 = .ok (.iload 4, 2) := by decide +kernel
theorem dL_list_272 : decode cL_list 272 = .ok (.iconst 2, 1) := by decide +kernel
theorem dL_list_273 : decode cL_list 273 = .ok (.irem, 1) := by decide +kernel
theorem dL_list_274 : decode cL_list 274 = .ok (.iadd, 1) := by decide +kernel
theorem dL_list_275 : decode cL_list 275 = .ok (.invokestatic 77, 3) := by decide +kernel
theorem dL_list_278 : decode cL_list 278 = .ok (.iconst 3, 1) := by decide +kernel
theorem dL_list_279 : decode cL_list 279 = .ok (.iload 4, 2) := by decide +kernel
theorem dL_list_281 : decode cL_list 281 = .ok (.iconst 2, 1) := by decide +kernel
theorem dL_list_282 : decode cL_list 282 = .ok (.idiv, 1) := by decide +kernel
theorem dL_list_283 : decode cL_list 283 = .ok (.imul, 1) := by decide +kernel
theorem dL_list_284 : decode cL_list 284 = .ok (.ishr, 1) := by decide +kernel
theorem dL_list_285 : decode cL_list 285 = .ok (.istore 5, 2) := by decide +kernel
theorem dL_list_287 : decode cL_list 287 = .ok (.iload 4, 2) := by decide +kernel
theorem dL_list_289 : decode cL_list 289 = .ok (.iload_n 3, 1) := by decide +kernel
theorem dL_list_290 : decode cL_list 290 = .ok (.if_icmp .ge 8, 3) := by decide +kernel
theorem dL_list_293 : decode cL_list 293 = .ok (.iload 4, 2) := by decide +kernel
theorem dL_list_295 : decode cL_list 295 = .ok (.goto 9, 3) := by decide +kernel
theorem dL_list_298 : decode cL_list 298 = .ok (.iload 5, 2) := by decide +kernel
theorem dL_list_300 : decode cL_list 300 = .ok (.iload_n 3, 1) := by decide +kernel
theorem dL_list_301 : decode cL_list 301 = .ok (.invokestatic 83, 3) := by decide +kernel
theorem dL_list_304 : decode cL_list 304 = .ok (.istore 6, 2) := by decide +kernel
theorem dL_list_306 : decode cL_list 306 = .ok (.iload 6, 2) := by decide +kernel
theorem dL_list_308 : decode cL_list 308 = .ok (.iconst 1, 1) := by decide +kernel
theorem dL_list_309 : decode cL_list 309 = .ok (.iadd, 1) := by decide +kernel
theorem dL_list_310 : decode cL_list 310 = .ok (.iload 5, 2) := by decide +kernel
theorem dL_list_312 : decode cL_list 312 = .ok (.iconst 4, 1) := by decide +kernel
theorem dL_list_313 : decode cL_list 313 = .ok (.ishr, 1) := by decide +kernel
theorem dL_list_314 : decode cL_list 314 = .ok (.iload 4, 2) := by decide +kernel
theorem dL_list_316 : decode cL_list 316 = .ok (.iload_n 3, 1) := by decide +kernel
theorem dL_list_317 : decode cL_list 317 = .ok (.if_icmp .ge 7, 3) := by decide +kernel
theorem dL_list_320 : decode cL_list 320 = .ok (.iconst 2, 1) := by decide +kernel
theorem dL_list_321 : decode cL_list 321 = .ok (.goto 6, 3) := by decide +kernel
theorem dL_list_324 : decode cL_list 324 = .ok (.iload_n 3, 1) := by decide +kernel
theorem dL_list_325 : decode cL_list 325 = .ok (.iconst 1, 1) := by decide +kernel
theorem dL_list_326 : decode cL_list 326 = .ok (.isub, 1) := by decide +kernel
theorem dL_list_327 : decode cL_list 327 = .ok (.invokestatic 83, 3) := by decide +kernel
theorem dL_list_330 : decode cL_list 330 = .ok (.iadd, 1) := by decide +kernel
theorem dL_list_331 : decode cL_list 331 = .ok (.iload_n 3, 1) := by decide +kernel
theorem dL_list_332 : decode cL_list 332 = .ok (.irem, 1) := by decide +kernel
theorem dL_list_333 : decode cL_list 333 = .ok (.istore 7, 2) := by decide +kernel
theorem dL_list_335 : decode cL_list 335 = .ok (.aload_n 2, 1) := by decide +kernel
theorem dL_list_336 : decode cL_list 336 = .ok (.getfield 103, 3) := by decide +kernel
theorem dL_list_339 : decode cL_list 339 = .ok (.iload 4, 2) := by decide +kernel
theorem dL_list_341 : decode cL_list 341 = .ok (.iconst 4, 1) := by decide +kernel
theorem dL_list_342 : decode cL_list 342 = .ok (.newarray .int, 2) := by decide +kernel
theorem dL_list_344 : decode cL_list 344 = .ok (.dup, 1) := by decide +kernel
theorem dL_list_345 : decode cL_list 345 = .ok (.iconst 0, 1) := by decide +kernel
theorem dL_list_346 : decode cL_list 346 = .ok (.iload 6, 2) := by decide +kernel
theorem dL_list_348 : decode cL_list 348 = .ok (.iastore, 1) := by decide +kernel
theorem dL_list_349 : decode cL_list 349 = .ok (.dup, 1) := by decide +kernel
theorem dL_list_350 : decode cL_list 350 = .ok (.iconst 1, 1) := by decide +kernel
theorem dL_list_351 : decode cL_list 351 = .ok (.iload 7, 2) := by decide +kernel
theorem dL_list_353 : decode cL_list 353 = .ok (.iastore, 1) := by decide +kernel
theorem dL_list_354 : decode cL_list 354 = .ok (.dup, 1) := by decide +kernel
theorem dL_list_355 : decode cL_list 355 = .ok (.iconst 2, 1) := by decide +kernel
theorem dL_list_356 : decode cL_list 356 = .ok (.iconst 1, 1) := by decide +kernel
theorem dL_list_357 : decode cL_list 357 = .ok (.iload 5, 2) := by decide +kernel
theorem dL_list_359 : decode cL_list 359 = .ok (.iconst 2, 1) := by decide +kernel
theorem dL_list_360 : decode cL_list 360 = .ok (.ishr, 1) := by decide +kernel
theorem dL_list_361 : decode cL_list 361 = .ok (.iload 5, 2) := by decide +kernel
theorem dL_list_363 : decode cL_list 363 = .ok (.bipush 6, 2) := by decide +kernel
theorem dL_list_365 : decode cL_list 365 = .ok (.ishr, 1) := by decide +kernel
theorem dL_list_366 : decode cL_list 366 = .ok (.iconst 2, 1) := by decide +kernel
theorem dL_list_367 : decode cL_list 367 = .ok (.invokestatic 83, 3) := by decide +kernel
theorem dL_list_370 : decode cL_list 370 = .ok (.ifCond .ne 8, 3) := by decide +kernel
theorem dL_list_373 : decode cL_list 373 = .ok (.bipush 20, 2) := by decide +kernel
theorem dL_list_375 : decode cL_list 375 = .ok (.goto 5, 3) := by decide +kernel
theorem dL_list_378 : decode cL_list 378 = .ok (.bipush 6, 2) := by decide +kernel
theorem dL_list_380 : decode cL_list 380 = .ok (.invokestatic 83, 3) := by decide +kernel
theorem dL_list_383 : decode cL_list 383 = .ok (.iadd, 1) := by decide +kernel
theorem dL_list_384 : decode cL_list 384 = .ok (.iastore, 1) := by decide +kernel
theorem dL_list_385 : decode cL_list 385 = .ok (.dup, 1) := by decide +kernel
theorem dL_list_386 : decode cL_list 386 = .ok (.iconst 3, 1) := by decide +kernel
theorem dL_list_387 : decode cL_list 387 = .ok (.iconst 0, 1) := by decide +kernel
theorem dL_list_388 : decode cL_list 388 = .ok (.iastore, 1) := by decide +kernel
theorem dL_list_389 : decode cL_list 389 = .ok (.aastore, 1) := by decide +kernel
theorem dL_list_390 : decode cL_list 390 = .ok (.aload_n 1, 1) := by decide +kernel
theorem dL_list_391 : decode cL_list 391 = .ok (.ldc 106, 2) := by decide +kernel
theorem dL_list_393 : decode cL_list 393 = .ok (.invokevirtual 37, 3) := by decide +kernel
theorem dL_list_396 : decode cL_list 396 = .ok (.iload 4, 2) := by decide +kernel
theorem dL_list_398 : decode cL_list 398 = .ok (.invokevirtual 41, 3) := by decide +kernel
theorem dL_list_401 : decode cL_list 401 = .ok (.ldc 108, 2) := by decide +kernel
theorem dL_list_403 : decode cL_list 403 = .ok (.invokevirtual 37, 3) := by decide +kernel
theorem dL_list_406 : decode cL_list 406 = .ok (.iload 6, 2) := by decide +kernel
theorem dL_list_408 : decode cL_list 408 = .ok (.invokevirtual 41, 3) := by decide +kernel
theorem dL_list_411 : decode cL_list 411 = .ok (.ldc 110, 2) := by decide +kernel
theorem dL_list_413 : decode cL_list 413 = .ok (.invokevirtual 37, 3) := by decide +kernel
theorem dL_list_416 : decode cL_list 416 = .ok (.iload 7, 2) := by decide +kernel
theorem dL_list_418 : decode cL_list 418 = .ok (.invokevirtual 41, 3) := by decide +kernel
theorem dL_list_421 : decode cL_list 421 = .ok (.ldc 112, 2) := by decide +kernel
theorem dL_list_423 : decode cL_list 423 = .ok (.invokevirtual 37, 3) := by decide +kernel
theorem dL_list_426 : decode cL_list 426 = .ok (.aload_n 2, 1) := by decide +kernel
theorem dL_list_427 : decode cL_list 427 = .ok (.getfield 103, 3) := by decide +kernel
theorem dL_list_430 : decode cL_list 430 = .ok (.iload 4, 2) := by decide +kernel
theorem dL_list_432 : decode cL_list 432 = .ok (.aaload, 1) := by decide +kernel
theorem dL_list_433 : decode cL_list 433 = .ok (.iconst 2, 1) := by decide +kernel
theorem dL_list_434 : decode cL_list 434 = .ok (.iaload, 1) := by decide +kernel
theorem dL_list_435 : decode cL_list 435 = .ok (.invokevirtual 41, 3) := by decide +kernel
theorem dL_list_438 : decode cL_list 438 = .ok (.iload 4, 2) := by decide +kernel
theorem dL_list_440 : decode cL_list 440 = .ok (.iconst 2, 1) := by decide +kernel
theorem dL_list_441 : decode cL_list 441 = .ok (.irem, 1) := by decide +kernel
theorem dL_list_442 : decode cL_list 442 = .ok (.ifCond .ne 8, 3) := by decide +kernel
theorem dL_list_445 : decode cL_list 445 = .ok (.ldc 101, 2) := by decide +kernel
theorem dL_list_447 : decode cL_list 447 = .ok (.goto 5, 3) := by decide +kernel
theorem dL_list_450 : decode cL_list 450 = .ok (.ldc 114, 2) := by decide +kernel
theorem dL_list_452 : decode cL_list 452 = .ok (.invokevirtual 37, 3) := by decide +kernel
theorem dL_list_455 : decode cL_list 455 = .ok (.pop, 1) := by decide +kernel
theorem dL_list_456 : decode cL_list 456 = .ok (.iinc 4 1, 3) := by decide +kernel
theorem dL_list_459 : decode cL_list 459 = .ok (.goto (-201), 3) := by decide +kernel
theorem dL_list_462 : decode cL_list 462 = .ok (.aload_n 2, 1) := by decide +kernel
theorem dL_list_463 : decode cL_list 463 = .ok (.aload_n 0, 1) := by decide +kernel
theorem dL_list_464 : decode cL_list 464 = .ok (.iconst 5, 1) := by decide +kernel
theorem dL_list_465 : decode cL_list 465 = .ok (.invokestatic 77, 3) := by decide +kernel
theorem dL_list_468 : decode cL_list 468 = .ok (.iconst 5, 1) := by decide +kernel
theorem dL_list_469 : decode cL_list 469 = .ok (.invokestatic 83, 3) := by decide +kernel
theorem dL_list_472 : decode cL_list 472 = .ok (.anewarray 87, 3) := by decide +kernel
theorem dL_list_475 : decode cL_list 475 = .ok (.putfield 116, 3) := by decide +kernel
theorem dL_list_478 : decode cL_list 478 = .ok (.iconst 0, 1) := by decide +kernel
theorem dL_list_479 : decode cL_list 479 = .ok (.istore 4, 2) := by decide +kernel
theorem dL_list_481 : decode cL_list 481 = .ok (.iload 4, 2) := by decide +kernel
theorem dL_list_483 : decode cL_list 483 = .ok (.aload_n 2, 1) := by decide +kernel
theorem dL_list_484 : decode cL_list 484 = .ok (.getfield 116, 3) := by decide +kernel
theorem dL_list_487 : decode cL_list 487 = .ok (.arraylength, 1) := by decide +kernel
theorem dL_list_488 : decode cL_list 488 = .ok (.if_icmp .ge 175, 3) := by decide +kernel
theorem dL_list_491 : decode cL_list 491 = .ok (.aload_n 0, 1) := by decide +kernel
theorem dL_list_492 : decode cL_list 492 = .ok (.bipush 6, 2) := by decide +kernel
theorem dL_list_494 : decode cL_list 494 = .ok (.invokestatic 77, 3) := by decide +kernel
theorem dL_list_497 : decode cL_list 497 = .ok (.iconst 4, 1) := by decide +kernel
theorem dL_list_498 : decode cL_list 498 = .ok (.iload 4, 2) := by decide +kernel
theorem dL_list_500 : decode cL_list 500 = .ok (.imul, 1) := by decide +kernel
theorem dL_list_501 : decode cL_list 501 = .ok (.ishr, 1) := by decide +kernel
theorem dL_list_502 : decode cL_list 502 = .ok (.istore 5, 2) := by decide +kernel
theorem dL_list_504 : decode cL_list 504 = .ok (.iconst 2, 1) := by decide +kernel
theorem dL_list_505 : decode cL_list 505 = .ok (.iload 5, 2) := by decide +kernel
theorem dL_list_507 : decode cL_list 507 = .ok (.iload 5, 2) := by decide +kernel
theorem dL_list_509 : decode cL_list 509 = .ok (.iconst 5, 1) := by decide +kernel
theorem dL_list_510 : decode cL_list 510 = .ok (.ishr, 1) := by decide +kernel
theorem dL_list_511 : decode cL_list 511 = .ok (.iconst 2, 1) := by decide +kernel
theorem dL_list_512 : decode cL_list 512 = .ok (.invokestatic 83, 3) := by decide +kernel
theorem dL_list_515 : decode cL_list 515 = .ok (.ifCond .ne 8, 3) := by decide +kernel
theorem dL_list_518 : decode cL_list 518 = .ok (.bipush 59, 2) := by decide +kernel
theorem dL_list_520 : decode cL_list 520 = .ok (.goto 5, 3) := by decide +kernel
theorem dL_list_523 : decode cL_list 523 = .ok (.bipush 12, 2) := by decide +kernel
theorem dL_list_525 : decode cL_list 525 = .ok (.invokestatic 83, 3) := by decide +kernel
theorem dL_list_528 : decode cL_list 528 = .ok (.iadd, 1) := by decide +kernel
theorem dL_list_529 : decode cL_list 529 = .ok (.istore 6, 2) := by decide +kernel
theorem dL_list_531 : decode cL_list 531 = .ok (.aload_n 2, 1) := by decide +kernel
theorem dL_list_532 : decode cL_list 532 = .ok (.getfield 116, 3) := by decide +kernel
theorem dL_list_535 : decode cL_list 535 = .ok (.iload 4, 2) := by decide +kernel
theorem dL_list_537 : decode cL_list 537 = .ok (.iconst 4, 1) := by decide +kernel
theorem dL_list_538 : decode cL_list 538 = .ok (.newarray .int, 2) := by decide +kernel
theorem dL_list_540 : decode cL_list 540 = .ok (.dup, 1) := by decide +kernel
theorem dL_list_541 : decode cL_list 541 = .ok (.iconst 0, 1) := by decide +kernel
theorem dL_list_542 : decode cL_list 542 = .ok (.iload 5, 2) := by decide +kernel
theorem dL_list_544 : decode cL_list 544 = .ok (.iconst 2, 1) := by decide +kernel
theorem dL_list_545 : decode cL_list 545 = .ok (.ishr, 1) := by decide +kernel
theorem dL_list_546 : decode cL_list 546 = .ok (.aload_n 2, 1) := by decide +kernel
theorem dL_list_547 : decode cL_list 547 = .ok (.getfield 103, 3) := by decide +kernel
theorem dL_list_550 : decode cL_list 550 = .ok (.arraylength, 1) := by decide +kernel
theorem dL_list_551 : decode cL_list 551 = .ok (.invokestatic 83, 3) := by decide +kernel
theorem dL_list_554 : decode cL_list 554 = .ok (.iastore, 1) := by decide +kernel
theorem dL_list_555 : decode cL_list 555 = .ok (.dup, 1) := by decide +kernel
theorem dL_list_556 : decode cL_list 556 = .ok (.iconst 1, 1) := by decide +kernel
theorem dL_list_557 : decode cL_list 557 = .ok (.iload 6, 2) := by decide +kernel
theorem dL_list_559 : decode cL_list 559 = .ok (.iastore, 1) := by decide +kernel
theorem dL_list_560 : decode cL_list 560 = .ok (.dup, 1) := by decide +kernel
theorem dL_list_561 : decode cL_list 561 = .ok (.iconst 2, 1) := by decide +kernel
theorem dL_list_562 : decode cL_list 562 = .ok (.iconst 1, 1) := by decide +kernel
theorem dL_list_563 : decode cL_list 563 = .ok (.iload 5, 2) := by decide +kernel
theorem dL_list_565 : decode cL_list 565 = .ok (.iconst 3, 1) := by decide +kernel
theorem dL_list_566 : decode cL_list 566 = .ok (.ishr, 1) := by decide +kernel
theorem dL_list_567 : decode cL_list 567 = .ok (.iload 6, 2) := by decide +kernel
theorem dL_list_569 : decode cL_list 569 = .ok (.iconst 1, 1) := by decide +kernel
theorem dL_list_570 : decode cL_list 570 = .ok (.isub, 1) := by decide +kernel
theorem dL_list_571 : decode cL_list 571 = .ok (.invokestatic 83, 3) := by decide +kernel
theorem dL_list_574 : decode cL_list 574 = .ok (.iadd, 1) := by decide +kernel
theorem dL_list_575 : decode cL_list 575 = .ok (.iastore, 1) := by decide +kernel
theorem dL_list_576 : decode cL_list 576 = .ok (.dup, 1) := by decide +kernel
theorem dL_list_577 : decode cL_list 577 = .ok (.iconst 3, 1) := by decide +kernel
theorem dL_list_578 : decode cL_list 578 = .ok (.iload 5, 2) := by decide +kernel
theorem dL_list_580 : decode cL_list 580 = .ok (.iconst 4, 1) := by decide +kernel
theorem dL_list_581 : decode cL_list 581 = .ok (.ishr, 1) := by decide +kernel
theorem dL_list_582 : decode cL_list 582 = .ok (.bipush 60, 2) := by decide +kernel
theorem dL_list_584 : decode cL_list 584 = .ok (.invokestatic 83, 3) := by decide +kernel
theorem dL_list_587 : decode cL_list 587 = .ok (.iastore, 1) := by decide +kernel
theorem dL_list_588 : decode cL_list 588 = .ok (.aastore, 1) := by decide +kernel
theorem dL_list_589 : decode cL_list 589 = .ok (.aload_n 1, 1) := by decide +kernel
theorem dL_list_590 : decode cL_list 590 = .ok (.ldc 119, 2) := by decide +kernel
theorem dL_list_592 : decode cL_list 592 = .ok (.invokevirtual 37, 3) := by decide +kernel
theorem dL_list_595 : decode cL_list 595 = .ok (.aload_n 2, 1) := by decide +kernel
theorem dL_list_596 : decode cL_list 596 = .ok (.getfield 116, 3) := by decide +kernel
theorem dL_list_599 : decode cL_list 599 = .ok (.iload 4, 2) := by decide +kernel
theorem dL_list_601 : decode cL_list 601 = .ok (.aaload, 1) := by decide +kernel
theorem dL_list_602 : decode cL_list 602 = .ok (.iconst 0, 1) := by decide +kernel
theorem dL_list_603 : decode cL_list 603 = .ok (.iaload, 1) := by decide +kernel
theorem dL_list_604 : decode cL_list 604 = .ok (.invokevirtual 41, 3) := by decide +kernel
theorem dL_list_607 : decode cL_list 607 = .ok (.ldc 121, 2) := by decide +kernel
theorem dL_list_609 : decode cL_list 609 = .ok (.invokevirtual 37, 3) := by decide +kernel
theorem dL_list_612 : decode cL_list 612 = .ok (.iload 6, 2) := by decide +kernel
theorem dL_list_614 : decode cL_list 614 = .ok (.invokevirtual 41, 3) := by decide +kernel
theorem dL_list_617 : decode cL_list 617 = .ok (.ldc 123, 2) := by decide +kernel
theorem dL_list_619 : decode cL_list 619 = .ok (.invokevirtual 37, 3) := by decide +kernel
theorem dL_list_622 : decode cL_list 622 = .ok (.aload_n 2, 1) := by decide +kernel
theorem dL_list_623 : decode cL_list 623 = .ok (.getfield 116, 3) := by decide +kernel
theorem dL_list_626 : decode cL_list 626 = .ok (.iload 4, 2) := by decide +kernel
theorem dL_list_628 : decode cL_list 628 = .ok (.aaload, 1) := by decide +kernel
theorem dL_list_629 : decode cL_list 629 = .ok (.iconst 2, 1) := by decide +kernel
theorem dL_list_630 : decode cL_list 630 = .ok (.iaload, 1) := by decide +kernel
theorem dL_list_631 : decode cL_list 631 = .ok (.invokevirtual 41, 3) := by decide +kernel
theorem dL_list_634 : decode cL_list 634 = .ok (.ldc 125, 2) := by decide +kernel
theorem dL_list_636 : decode cL_list 636 = .ok (.invokevirtual 37, 3) := by decide +kernel
theorem dL_list_639 : decode cL_list 639 = .ok (.aload_n 2, 1) := by decide +kernel
theorem dL_list_640 : decode cL_list 640 = .ok (.getfield 116, 3) := by decide +kernel
theorem dL_list_643 : decode cL_list 643 = .ok (.iload 4, 2) := by decide +kernel
theorem dL_list_645 : decode cL_list 645 = .ok (.aaload, 1) := by decide +kernel
theorem dL_list_646 : decode cL_list 646 = .ok (.iconst 3, 1) := by decide +kernel
theorem dL_list_647 : decode cL_list 647 = .ok (.iaload, 1) := by decide +kernel
theorem dL_list_648 : decode cL_list 648 = .ok (.invokevirtual 41, 3) := by decide +kernel
theorem dL_list_651 : decode cL_list 651 = .ok (.ldc 101, 2) := by decide +kernel
theorem dL_list_653 : decode cL_list 653 = .ok (.invokevirtual 37, 3) := by decide +kernel
theorem dL_list_656 : decode cL_list 656 = .ok (.pop, 1) := by decide +kernel
theorem dL_list_657 : decode cL_list 657 = .ok (.iinc 4 1, 3) := by decide +kernel
theorem dL_list_660 : decode cL_list 660 = .ok (.goto (-179), 3) := by decide +kernel
theorem dL_list_663 : decode cL_list 663 = .ok (.aload_n 2, 1) := by decide +kernel
theorem dL_list_664 : decode cL_list 664 = .ok (.iconst 1, 1) := by decide +kernel
theorem dL_list_665 : decode cL_list 665 = .ok (.aload_n 0, 1) := by decide +kernel
theorem dL_list_666 : decode cL_list 666 = .ok (.bipush 7, 2) := by decide +kernel
theorem dL_list_668 : decode cL_list 668 = .ok (.invokestatic 77, 3) := by decide +kernel
theorem dL_list_671 : decode cL_list 671 = .ok (.bipush 6, 2) := by decide +kernel
theorem dL_list_673 : decode cL_list 673 = .ok (.invokestatic 83, 3) := by decide +kernel
theorem dL_list_676 : decode cL_list 676 = .ok (.iadd, 1) := by decide +kernel
theorem dL_list_677 : decode cL_list 677 = .ok (.anewarray 87, 3) := by decide +kernel
theorem dL_list_680 : decode cL_list 680 = .ok (.putfield 127, 3) := by decide +kernel
theorem dL_list_683 : decode cL_list 683 = .ok (.iconst 0, 1) := by decide +kernel
theorem dL_list_684 : decode cL_list 684 = .ok (.istore 4, 2) := by decide +kernel
theorem dL_list_686 : decode cL_list 686 = .ok (.iload 4, 2) := by decide +kernel
theorem dL_list_688 : decode cL_list 688 = .ok (.aload_n 2, 1) := by decide +kernel
theorem dL_list_689 : decode cL_list 689 = .ok (.getfield 127, 3) := by decide +kernel
theorem dL_list_692 : decode cL_list 692 = .ok (.arraylength, 1) := by decide +kernel
theorem dL_list_693 : decode cL_list 693 = .ok (.if_icmp .ge 217, 3) := by decide +kernel
theorem dL_list_696 : decode cL_list 696 = .ok (.aload_n 0, 1) := by decide +kernel
theorem dL_list_697 : decode cL_list 697 = .ok (.bipush 8, 2) := by decide +kernel
theorem dL_list_699 : decode cL_list 699 = .ok (.iload 4, 2) := by decide +kernel
theorem dL_list_701 : decode cL_list 701 = .ok (.iconst 2, 1) := by decide +kernel
theorem dL_list_702 : decode cL_list 702 = .ok (.irem, 1) := by decide +kernel
theorem dL_list_703 : decode cL_list 703 = .ok (.iadd, 1) := by decide +kernel
theorem dL_list_704 : decode cL_list 704 = .ok (.invokestatic 77, 3) := by decide +kernel
theorem dL_list_707 : decode cL_list 707 = .ok (.iconst 4, 1) := by decide +kernel
theorem dL_list_708 : decode cL_list 708 = .ok (.iload 4, 2) := by decide +kernel
theorem dL_list_710 : decode cL_list 710 = .ok (.iconst 2, 1) := by decide +kernel
theorem dL_list_711 : decode cL_list 711 = .ok (.idiv, 1) := by decide +kernel
theorem dL_list_712 : decode cL_list 712 = .ok (.imul, 1) := by decide +kernel
theorem dL_list_713 : decode cL_list 713 = .ok (.ishr, 1) := by decide +kernel
theorem dL_list_714 : decode cL_list 714 = .ok (.istore 5, 2) := by decide +kernel
theorem dL_list_716 : decode cL_list 716 = .ok (.iconst 1, 1) := by decide +kernel
theorem dL_list_717 : decode cL_list 717 = .ok (.iload 5, 2) := by decide +kernel
theorem dL_list_719 : decode cL_list 719 = .ok (.iload 5, 2) := by decide +kernel
theorem dL_list_721 : decode cL_list 721 = .ok (.bipush 6, 2) := by decide +kernel
theorem dL_list_723 : decode cL_list 723 = .ok (.ishr, 1) := by decide +kernel
theorem dL_list_724 : decode cL_list 724 = .ok (.iconst 3, 1) := by decide +kernel
theorem dL_list_725 : decode cL_list 725 = .ok (.invokestatic 83, 3) := by decide +kernel
theorem dL_list_728 : decode cL_list 728 = .ok (.ifCond .ne 8, 3) := by decide +kernel
theorem dL_list_731 : decode cL_list 731 = .ok (.bipush 40, 2) := by decide +kernel
theorem dL_list_733 : decode cL_list 733 = .ok (.goto 5, 3) := by decide +kernel
theorem dL_list_736 : decode cL_list 736 = .ok (.bipush 9, 2) := by decide +kernel
theorem dL_list_738 : decode cL_list 738 = .ok (.invokestatic 83, 3) := by decide +kernel
theorem dL_list_741 : decode cL_list 741 = .ok (.iadd, 1) := by decide +kernel
theorem dL_list_742 : decode cL_list 742 = .ok (.istore 6, 2) := by decide +kernel
theorem dL_list_744 : decode cL_list 744 = .ok (.iload 5, 2) := by decide +kernel
theorem dL_list_746 : decode cL_list 746 = .ok (.iconst 2, 1) := by decide +kernel
theorem dL_list_747 : decode cL_list 747 = .ok (.ishr, 1) := by decide +kernel
theorem dL_list_748 : decode cL_list 748 = .ok (.iload_n 3, 1) := by decide +kernel
theorem dL_list_749 : decode cL_list 749 = .ok (.invokestatic 83, 3) := by decide +kernel
theorem dL_list_752 : decode cL_list 752 = .ok (.istore 7, 2) := by decide +kernel
theorem dL_list_754 : decode cL_list 754 = .ok (.iload 7, 2) := by decide +kernel
theorem dL_list_756 : decode cL_list 756 = .ok (.iconst 1, 1) := by decide +kernel
theorem dL_list_757 : decode cL_list 757 = .ok (.iadd, 1) := by decide +kernel
theorem dL_list_758 : decode cL_list 758 = .ok (.iload 5, 2) := by decide +kernel
theorem dL_list_760 : decode cL_list 760 = .ok (.iconst 5, 1) := by decide +kernel
theorem dL_list_761 : decode cL_list 761 = .ok (.ishr, 1) := by decide +kernel
theorem dL_list_762 : decode cL_list 762 = .ok (.iload_n 3, 1) := by decide +kernel
theorem dL_list_763 : decode cL_list 763 = .ok (.iconst 1, 1) := by decide +kernel
theorem dL_list_764 : decode cL_list 764 = .ok (.isub, 1) := by decide +kernel
theorem dL_list_765 : decode cL_list 765 = .ok (.invokestatic 83, 3) := by decide +kernel
theorem dL_list_768 : decode cL_list 768 = .ok (.iadd, 1) := by decide +kernel
theorem dL_list_769 : decode cL_list 769 = .ok (.iload_n 3, 1) := by decide +kernel
theorem dL_list_770 : decode cL_list 770 = .ok (.irem, 1) := by decide +kernel
theorem dL_list_771 : decode cL_list 771 = .ok (.istore 8, 2) := by decide +kernel
theorem dL_list_773 : decode cL_list 773 = .ok (.aload_n 2, 1) := by decide +kernel
theorem dL_list_774 : decode cL_list 774 = .ok (.getfield 127, 3) := by decide +kernel
theorem dL_list_777 : decode cL_list 777 = .ok (.iload 4, 2) := by decide +kernel
theorem dL_list_779 : decode cL_list 779 = .ok (.bipush 10, 2) := by decide +kernel
theorem dL_list_781 : decode cL_list 781 = .ok (.newarray .int, 2) := by decide +kernel
theorem dL_list_783 : decode cL_list 783 = .ok (.dup, 1) := by decide +kernel
theorem dL_list_784 : decode cL_list 784 = .ok (.iconst 0, 1) := by decide +kernel
theorem dL_list_785 : decode cL_list 785 = .ok (.iload 6, 2) := by decide +kernel
theorem dL_list_787 : decode cL_list 787 = .ok (.iastore, 1) := by decide +kernel
theorem dL_list_788 : decode cL_list 788 = .ok (.dup, 1) := by decide +kernel
theorem dL_list_789 : decode cL_list 789 = .ok (.iconst 1, 1) := by decide +kernel
theorem dL_list_790 : decode cL_list 790 = .ok (.iload 7, 2) := by decide +kernel
theorem dL_list_792 : decode cL_list 792 = .ok (.iastore, 1) := by decide +kernel
theorem dL_list_793 : decode cL_list 793 = .ok (.dup, 1) := by decide +kernel
theorem dL_list_794 : decode cL_list 794 = .ok (.iconst 2, 1) := by decide +kernel
theorem dL_list_795 : decode cL_list 795 = .ok (.iload 8, 2) := by decide +kernel
theorem dL_list_797 : decode cL_list 797 = .ok (.iastore, 1) := by decide +kernel
theorem dL_list_798 : decode cL_list 798 = .ok (.dup, 1) := by decide +kernel
theorem dL_list_799 : decode cL_list 799 = .ok (.iconst 3, 1) := by decide +kernel
theorem dL_list_800 : decode cL_list 800 = .ok (.iload 5, 2) := by decide +kernel
theorem dL_list_802 : decode cL_list 802 = .ok (.iconst 3, 1) := by decide +kernel
theorem dL_list_803 : decode cL_list 803 = .ok (.ishr, 1) := by decide +kernel
theorem dL_list_804 : decode cL_list 804 = .ok (.bipush 30, 2) := by decide +kernel
theorem dL_list_806 : decode cL_list 806 = .ok (.invokestatic 83, 3) := by decide +kernel
theorem dL_list_809 : decode cL_list 809 = .ok (.iastore, 1) := by decide +kernel
theorem dL_list_810 : decode cL_list 810 = .ok (.dup, 1) := by decide +kernel
theorem dL_list_811 : decode cL_list 811 = .ok (.iconst 4, 1) := by decide +kernel
theorem dL_list_812 : decode cL_list 812 = .ok (.iconst 0, 1) := by decide +kernel
theorem dL_list_813 : decode cL_list 813 = .ok (.iastore, 1) := by decide +kernel
theorem dL_list_814 : decode cL_list 814 = .ok (.dup, 1) := by decide +kernel
theorem dL_list_815 : decode cL_list 815 = .ok (.iconst 5, 1) := by decide +kernel
theorem dL_list_816 : decode cL_list 816 = .ok (.iconst (-1), 1) := by decide +kernel
theorem dL_list_817 : decode cL_list 817 = .ok (.iastore, 1) := by decide +kernel
theorem dL_list_818 : decode cL_list 818 = .ok (.dup, 1) := by decide +kernel
theorem dL_list_819 : decode cL_list 819 = .ok (.bipush 6, 2) := by decide +kernel
theorem dL_list_821 : decode cL_list 821 = .ok (.iload 6, 2) := by decide +kernel
theorem dL_list_823 : decode cL_list 823 = .ok (.iastore, 1) := by decide +kernel
theorem dL_list_824 : decode cL_list 824 = .ok (.dup, 1) := by decide +kernel
theorem dL_list_825 : decode cL_list 825 = .ok (.bipush 7, 2) := by decide +kernel
theorem dL_list_827 : decode cL_list 827 = .ok (.iconst 0, 1) := by decide +kernel
theorem dL_list_828 : decode cL_list 828 = .ok (.iastore, 1) := by decide +kernel
theorem dL_list_829 : decode cL_list 829 = .ok (.dup, 1) := by decide +kernel
theorem dL_list_830 : decode cL_list 830 = .ok (.bipush 8, 2) := by decide +kernel
theorem dL_list_832 : decode cL_list 832 = .ok (.iconst (-1), 1) := by decide +kernel
theorem dL_list_833 : decode cL_list 833 = .ok (.iastore, 1) := by decide +kernel
theorem dL_list_834 : decode cL_list 834 = .ok (.dup, 1) := by decide +kernel
theorem dL_list_835 : decode cL_list 835 = .ok (.bipush 9, 2) := by decide +kernel
theorem dL_list_837 : decode cL_list 837 = .ok (.iconst 0, 1) := by decide +kernel
theorem dL_list_838 : decode cL_list 838 = .ok (.iastore, 1) := by decide +kernel
theorem dL_list_839 : decode cL_list 839 = .ok (.aastore, 1) := by decide +kernel
theorem dL_list_840 : decode cL_list 840 = .ok (.aload_n 1, 1) := by decide +kernel
theorem dL_list_841 : decode cL_list 841 = .ok (.ldc 130, 2) := by decide +kernel
theorem dL_list_843 : decode cL_list 843 = .ok (.invokevirtual 37, 3) := by decide +kernel
theorem dL_list_846 : decode cL_list 846 = .ok (.iload 4, 2) := by decide +kernel
theorem dL_list_848 : decode cL_list 848 = .ok (.invokevirtual 41, 3) := by decide +kernel
theorem dL_list_851 : decode cL_list 851 = .ok (.ldc 132, 2) := by decide +kernel
theorem dL_list_853 : decode cL_list 853 = .ok (.invokevirtual 37, 3) := by decide +kernel
theorem dL_list_856 : decode cL_list 856 = .ok (.iload 6, 2) := by decide +kernel
theorem dL_list_858 : decode cL_list 858 = .ok (.invokevirtual 41, 3) := by decide +kernel
theorem dL_list_861 : decode cL_list 861 = .ok (.ldc 134, 2) := by decide +kernel
theorem dL_list_863 : decode cL_list 863 = .ok (.invokevirtual 37, 3) := by decide +kernel
theorem dL_list_866 : decode cL_list 866 = .ok (.iload 7, 2) := by decide +kernel
theorem dL_list_868 : decode cL_list 868 = .ok (.invokevirtual 41, 3) := by decide +kernel
theorem dL_list_871 : decode cL_list 871 = .ok (.ldc 136, 2) := by decide +kernel
theorem dL_list_873 : decode cL_list 873 = .ok (.invokevirtual 37, 3) := by decide +kernel
theorem dL_list_876 : decode cL_list 876 = .ok (.iload 8, 2) := by decide +kernel
theorem dL_list_878 : decode cL_list 878 = .ok (.invokevirtual 41, 3) := by decide +kernel
theorem dL_list_881 : decode cL_list 881 = .ok (.ldc 138, 2) := by decide +kernel
theorem dL_list_883 : decode cL_list 883 = .ok (.invokevirtual 37, 3) := by decide +kernel
theorem dL_list_886 : decode cL_list 886 = .ok (.aload_n 2, 1) := by decide +kernel
theorem dL_list_887 : decode cL_list 887 = .ok (.getfield 127, 3) := by decide +kernel
theorem dL_list_890 : decode cL_list 890 = .ok (.iload 4, 2) := by decide +kernel
theorem dL_list_892 : decode cL_list 892 = .ok (.aaload, 1) := by decide +kernel
theorem dL_list_893 : decode cL_list 893 = .ok (.iconst 3, 1) := by decide +kernel
theorem dL_list_894 : decode cL_list 894 = .ok (.iaload, 1) := by decide +kernel
theorem dL_list_895 : decode cL_list 895 = .ok (.invokevirtual 41, 3) := by decide +kernel
theorem dL_list_898 : decode cL_list 898 = .ok (.ldc 101, 2) := by decide +kernel
theorem dL_list_900 : decode cL_list 900 = .ok (.invokevirtual 37, 3) := by decide +kernel
theorem dL_list_903 : decode cL_list 903 = .ok (.pop, 1) := by decide +kernel
theorem dL_list_904 : decode cL_list 904 = .ok (.iinc 4 1, 3) := by decide +kernel
theorem dL_list_907 : decode cL_list 907 = .ok (.goto (-221), 3) := by decide +kernel
theorem dL_list_910 : decode cL_list 910 = .ok (.aload_n 2, 1) := by decide +kernel
theorem dL_list_911 : decode cL_list 911 = .ok (.aload_n 0, 1) := by decide +kernel
theorem dL_list_912 : decode cL_list 912 = .ok (.bipush 10, 2) := by decide +kernel
theorem dL_list_914 : decode cL_list 914 = .ok (.invokestatic 77, 3) := by decide +kernel
theorem dL_list_917 : decode cL_list 917 = .ok (.iconst 5, 1) := by decide +kernel
theorem dL_list_918 : decode cL_list 918 = .ok (.invokestatic 83, 3) := by decide +kernel
theorem dL_list_921 : decode cL_list 921 = .ok (.anewarray 87, 3) := by decide +kernel
theorem dL_list_924 : decode cL_list 924 = .ok (.putfield 140, 3) := by decide +kernel
theorem dL_list_927 : decode cL_list 927 = .ok (.iconst 0, 1) := by decide +kernel
theorem dL_list_928 : decode cL_list 928 = .ok (.istore 4, 2) := by decide +kernel
theorem dL_list_930 : decode cL_list 930 = .ok (.iload 4, 2) := by decide +kernel
theorem dL_list_932 : decode cL_list 932 = .ok (.aload_n 2, 1) := by decide +kernel
theorem dL_list_933 : decode cL_list 933 = .ok (.getfield 140, 3) := by decide +kernel
theorem dL_list_936 : decode cL_list 936 = .ok (.arraylength, 1) := by decide +kernel
theorem dL_list_937 : decode cL_list 937 = .ok (.if_icmp .ge 146, 3) := by decide +kernel
theorem dL_list_940 : decode cL_list 940 = .ok (.aload_n 0, 1) := by decide +kernel
theorem dL_list_941 : decode cL_list 941 = .ok (.bipush 11, 2) := by decide +kernel
theorem dL_list_943 : decode cL_list 943 = .ok (.iload 4, 2) := by decide +kernel
theorem dL_list_945 : decode cL_list 945 = .ok (.iadd, 1) := by decide +kernel
theorem dL_list_946 : decode cL_list 946 = .ok (.invokestatic 77, 3) := by decide +kernel
theorem dL_list_949 : decode cL_list 949 = .ok (.istore 5, 2) := by decide +kernel
theorem dL_list_951 : decode cL_list 951 = .ok (.bipush 6, 2) := by decide +kernel
theorem dL_list_953 : decode cL_list 953 = .ok (.newarray .int, 2) := by decide +kernel
theorem dL_list_955 : decode cL_list 955 = .ok (.dup, 1) := by decide +kernel
theorem dL_list_956 : decode cL_list 956 = .ok (.iconst 0, 1) := by decide +kernel
theorem dL_list_957 : decode cL_list 957 = .ok (.iload 5, 2) := by decide +kernel
theorem dL_list_959 : decode cL_list 959 = .ok (.aload_n 2, 1) := by decide +kernel
theorem dL_list_960 : decode cL_list 960 = .ok (.getfield 127, 3) := by decide +kernel
theorem dL_list_963 : decode cL_list 963 = .ok (.arraylength, 1) := by decide +kernel
theorem dL_list_964 : decode cL_list 964 = .ok (.invokestatic 83, 3) := by decide +kernel
theorem dL_list_967 : decode cL_list 967 = .ok (.iastore, 1) := by decide +kernel
theorem dL_list_968 : decode cL_list 968 = .ok (.dup, 1) := by decide +kernel
theorem dL_list_969 : decode cL_list 969 = .ok (.iconst 1, 1) := by decide +kernel
theorem dL_list_970 : decode cL_list 970 = .ok (.iload 5, 2) := by decide +kernel
theorem dL_list_972 : decode cL_list 972 = .ok (.iconst 3, 1) := by decide +kernel
theorem dL_list_973 : decode cL_list 973 = .ok (.ishr, 1) := by decide +kernel
theorem dL_list_974 : decode cL_list 974 = .ok (.bipush 8, 2) := by decide +kernel
theorem dL_list_976 : decode cL_list 976 = .ok (.invokestatic 83, 3) := by decide +kernel
theorem dL_list_979 : decode cL_list 979 = .ok (.iastore, 1) := by decide +kernel
theorem dL_list_980 : decode cL_list 980 = .ok (.dup, 1) := by decide +kernel
theorem dL_list_981 : decode cL_list 981 = .ok (.iconst 2, 1) := by decide +kernel
theorem dL_list_982 : decode cL_list 982 = .ok (.iload 5, 2) := by decide +kernel
theorem dL_list_984 : decode cL_list 984 = .ok (.bipush 6, 2) := by decide +kernel
theorem dL_list_986 : decode cL_list 986 = .ok (.ishr, 1) := by decide +kernel
theorem dL_list_987 : decode cL_list 987 = .ok (.bipush 120, 2) := by decide +kernel
theorem dL_list_989 : decode cL_list 989 = .ok (.invokestatic 83, 3) := by decide +kernel
theorem dL_list_992 : decode cL_list 992 = .ok (.iastore, 1) := by decide +kernel
theorem dL_list_993 : decode cL_list 993 = .ok (.dup, 1) := by decide +kernel
theorem dL_list_994 : decode cL_list 994 = .ok (.iconst 3, 1) := by decide +kernel
theorem dL_list_995 : decode cL_list 995 = .ok (.iload 5, 2) := by decide +kernel
theorem dL_list_997 : decode cL_list 997 = .ok (.iconst 2, 1) := by decide +kernel
theorem dL_list_998 : decode cL_list 998 = .ok (.ishr, 1) := by decide +kernel
theorem dL_list_999 : decode cL_list 999 = .ok (.iload_n 3, 1) := by decide +kernel
theorem dL_list_1000 : decode cL_list 1000 = .ok (.invokestatic 83, 3) := by decide +kernel
theorem dL_list_1003 : decode cL_list 1003 = .ok (.iastore, 1) := by decide +kernel
theorem dL_list_1004 : decode cL_list 1004 = .ok (.dup, 1) := by decide +kernel
theorem dL_list_1005 : decode cL_list 1005 = .ok (.iconst 4, 1) := by decide +kernel
theorem dL_list_1006 : decode cL_list 1006 = .ok (.iload 5, 2) := by decide +kernel
theorem dL_list_1008 : decode cL_list 1008 = .ok (.iconst 4, 1) := by decide +kernel
theorem dL_list_1009 : decode cL_list 1009 = .ok (.ishr, 1) := by decide +kernel
theorem dL_list_1010 : decode cL_list 1010 = .ok (.aload_n 2, 1) := by decide +kernel
theorem dL_list_1011 : decode cL_list 1011 = .ok (.getfield 103, 3) := by decide +kernel
theorem dL_list_1014 : decode cL_list 1014 = .ok (.arraylength, 1) := by decide +kernel
theorem dL_list_1015 : decode cL_list 1015 = .ok (.invokestatic 83, 3) := by decide +kernel
theorem dL_list_1018 : decode cL_list 1018 = .ok (.iastore, 1) := by decide +kernel
theorem dL_list_1019 : decode cL_list 1019 = .ok (.dup, 1) := by decide +kernel
theorem dL_list_1020 : decode cL_list 1020 = .ok (.iconst 5, 1) := by decide +kernel
theorem dL_list_1021 : decode cL_list 1021 = .ok (.iload 5, 2) := by decide +kernel
theorem dL_list_1023 : decode cL_list 1023 = .ok (.iconst 5, 1) := by decide +kernel
theorem dL_list_1024 : decode cL_list 1024 = .ok (.ishr, 1) := by decide +kernel
theorem dL_list_1025 : decode cL_list 1025 = .ok (.aload_n 2, 1) := by decide +kernel
theorem dL_list_1026 : decode cL_list 1026 = .ok (.getfield 127, 3) := by decide +kernel
theorem dL_list_1029 : decode cL_list 1029 = .ok (.arraylength, 1) := by decide +kernel
theorem dL_list_1030 : decode cL_list 1030 = .ok (.invokestatic 83, 3) := by decide +kernel
theorem dL_list_1033 : decode cL_list 1033 = .ok (.iastore, 1) := by decide +kernel
theorem dL_list_1034 : decode cL_list 1034 = .ok (.astore 6, 2) := by decide +kernel
theorem dL_list_1036 : decode cL_list 1036 = .ok (.aload_n 2, 1) := by decide +kernel
theorem dL_list_1037 : decode cL_list 1037 = .ok (.getfield 140, 3) := by decide +kernel
theorem dL_list_1040 : decode cL_list 1040 = .ok (.iload 4, 2) := by decide +kernel
theorem dL_list_1042 : decode cL_list 1042 = .ok (.aload 6, 2) := by decide +kernel
theorem dL_list_1044 : decode cL_list 1044 = .ok (.aastore, 1) := by decide +kernel
theorem dL_list_1045 : decode cL_list 1045 = .ok (.aload_n 1, 1) := by decide +kernel
theorem dL_list_1046 : decode cL_list 1046 = .ok (.ldc 143, 2) := by decide +kernel
theorem dL_list_1048 : decode cL_list 1048 = .ok (.invokevirtual 37, 3) := by decide +kernel
theorem dL_list_1051 : decode cL_list 1051 = .ok (.aload 6, 2) := by decide +kernel
theorem dL_list_1053 : decode cL_list 1053 = .ok (.iconst 0, 1) := by decide +kernel
theorem dL_list_1054 : decode cL_list 1054 = .ok (.iaload, 1) := by decide +kernel
theorem dL_list_1055 : decode cL_list 1055 = .ok (.invokevirtual 41, 3) := by decide +kernel
theorem dL_list_1058 : decode cL_list 1058 = .ok (.ldc 145, 2) := by decide +kernel
theorem dL_list_1060 : decode cL_list 1060 = .ok (.invokevirtual 37, 3) := by decide +kernel
theorem dL_list_1063 : decode cL_list 1063 = .ok (.aload 6, 2) := by decide +kernel
theorem dL_list_1065 : decode cL_list 1065 = .ok (.invokestatic 147, 3) := by decide +kernel
theorem dL_list_1068 : decode cL_list 1068 = .ok (.invokevirtual 37, 3) := by decide +kernel
theorem dL_list_1071 : decode cL_list 1071 = .ok (.ldc 101, 2) := by decide +kernel
theorem dL_list_1073 : decode cL_list 1073 = .ok (.invokevirtual 37, 3) := by decide +kernel
theorem dL_list_1076 : decode cL_list 1076 = .ok (.pop, 1) := by decide +kernel
theorem dL_list_1077 : decode cL_list 1077 = .ok (.iinc 4 1, 3) := by decide +kernel
theorem dL_list_1080 : decode cL_list 1080 = .ok (.goto (-150), 3) := by decide +kernel
theorem dL_list_1083 : decode cL_list 1083 = .ok (.aload_n 2, 1) := by decide +kernel
theorem dL_list_1084 : decode cL_list 1084 = .ok (.areturn, 1) := by decide +kernel
theorem dL_gone_0 : decode cL_gone 0 = .ok (.aload_n 0, 1) := by decide +kernel
theorem dL_gone_1 : decode cL_gone 1 = .ok (.iload_n 2, 1) := by decide +kernel
theorem dL_gone_2 : decode cL_gone 2 = .ok (.invokevirtual 151, 3) := by decide +kernel
theorem dL_gone_5 : decode cL_gone 5 = .ok (.aload_n 1, 1) := by decide +kernel
theorem dL_gone_6 : decode cL_gone 6 = .ok (.iload_n 2, 1) := by decide +kernel
theorem dL_gone_7 : decode cL_gone 7 = .ok (.invokevirtual 154, 3) := by decide +kernel
theorem dL_gone_10 : decode cL_gone 10 = .ok (.if_icmp .ne 7, 3) := by decide +kernel
theorem dL_gone_13 : decode cL_gone 13 = .ok (.iconst 1, 1) := by decide +kernel
theorem dL_gone_14 : decode cL_gone 14 = .ok (.goto 4, 3) := by decide +kernel
theorem dL_gone_17 : decode cL_gone 17 = .ok (.iconst 0, 1) := by decide +kernel
theorem dL_gone_18 : decode cL_gone 18 = .ok (.ireturn, 1) := by decide +kernel
theorem dL_act_0 : decode cL_act 0 = .ok (.iload_n 2, 1) := by decide +kernel
theorem dL_act_1 : decode cL_act 1 = .ok (.iconst 3, 1) := by decide +kernel
theorem dL_act_2 : decode cL_act 2 = .ok (.ishr, 1) := by decide +kernel
theorem dL_act_3 : decode cL_act 3 = .ok (.aload_n 1, 1) := by decide +kernel
theorem dL_act_4 : decode cL_act 4 = .ok (.getfield 89, 3) := by decide +kernel
theorem dL_act_7 : decode cL_act 7 = .ok (.arraylength, 1) := by decide +kernel
theorem dL_act_8 : decode cL_act 8 = .ok (.invokestatic 83, 3) := by decide +kernel
theorem dL_act_11 : decode cL_act 11 = .ok (.istore_n 3, 1) := by decide +kernel
theorem dL_act_12 : decode cL_act 12 = .ok (.iload_n 2, 1) := by decide +kernel
theorem dL_act_13 : decode cL_act 13 = .ok (.iconst 4, 1) := by decide +kernel
theorem dL_act_14 : decode cL_act 14 = .ok (.ishr, 1) := by decide +kernel
theorem dL_act_15 : decode cL_act 15 = .ok (.aload_n 1, 1) := by decide +kernel
theorem dL_act_16 : decode cL_act 16 = .ok (.getfield 127, 3) := by decide +kernel
theorem dL_act_19 : decode cL_act 19 = .ok (.arraylength, 1) := by decide +kernel
theorem dL_act_20 : decode cL_act 20 = .ok (.invokestatic 83, 3) := by decide +kernel
theorem dL_act_23 : decode cL_act 23 = .ok (.istore 4, 2) := by decide +kernel
theorem dL_act_25 : decode cL_act 25 = .ok (.aload_n 1, 1) := by decide +kernel
theorem dL_act_26 : decode cL_act 26 = .ok (.getfield 127, 3) := by decide +kernel
theorem dL_act_29 : decode cL_act 29 = .ok (.iload 4, 2) := by decide +kernel
theorem dL_act_31 : decode cL_act 31 = .ok (.aaload, 1) := by decide +kernel
theorem dL_act_32 : decode cL_act 32 = .ok (.astore 5, 2) := by decide +kernel
theorem dL_act_34 : decode cL_act 34 = .ok (.iload_n 2, 1) := by decide +kernel
theorem dL_act_35 : decode cL_act 35 = .ok (.bipush 9, 2) := by decide +kernel
theorem dL_act_37 : decode cL_act 37 = .ok (.invokestatic 83, 3) := by decide +kernel
theorem dL_act_40 : decode cL_act 40 = .ok (.tableswitch 339 0 3 #[32, 170, 242, 242], 32) := by decide +kernel
theorem dL_act_72 : decode cL_act 72 = .ok (.iload_n 2, 1) := by decide +kernel
theorem dL_act_73 : decode cL_act 73 = .ok (.bipush 6, 2) := by decide +kernel
theorem dL_act_75 : decode cL_act 75 = .ok (.ishr, 1) := by decide +kernel
theorem dL_act_76 : decode cL_act 76 = .ok (.iconst 2, 1) := by decide +kernel
theorem dL_act_77 : decode cL_act 77 = .ok (.invokestatic 83, 3) := by decide +kernel
theorem dL_act_80 : decode cL_act 80 = .ok (.ifCond .ne 7, 3) := by decide +kernel
theorem dL_act_83 : decode cL_act 83 = .ok (.iconst 1, 1) := by decide +kernel
theorem dL_act_84 : decode cL_act 84 = .ok (.goto 4, 3) := by decide +kernel
theorem dL_act_87 : decode cL_act 87 = .ok (.iconst 0, 1) := by decide +kernel
theorem dL_act_88 : decode cL_act 88 = .ok (.istore 6, 2) := by decide +kernel
theorem dL_act_90 : decode cL_act 90 = .ok (.iload 6, 2) := by decide +kernel
theorem dL_act_92 : decode cL_act 92 = .ok (.ifCond .eq 23, 3) := by decide +kernel
theorem dL_act_95 : decode cL_act 95 = .ok (.aload_n 1, 1) := by decide +kernel
theorem dL_act_96 : decode cL_act 96 = .ok (.getfield 89, 3) := by decide +kernel
theorem dL_act_99 : decode cL_act 99 = .ok (.iload_n 3, 1) := by decide +kernel
theorem dL_act_100 : decode cL_act 100 = .ok (.aaload, 1) := by decide +kernel
theorem dL_act_101 : decode cL_act 101 = .ok (.iconst 2, 1) := by decide +kernel
theorem dL_act_102 : decode cL_act 102 = .ok (.iaload, 1) := by decide +kernel
theorem dL_act_103 : decode cL_act 103 = .ok (.iconst 4, 1) := by decide +kernel
theorem dL_act_104 : decode cL_act 104 = .ok (.if_icmp .ge 7, 3) := by decide +kernel
theorem dL_act_107 : decode cL_act 107 = .ok (.iconst 1, 1) := by decide +kernel
theorem dL_act_108 : decode cL_act 108 = .ok (.goto 28, 3) := by decide +kernel
theorem dL_act_111 : decode cL_act 111 = .ok (.iconst 0, 1) := by decide +kernel
theorem dL_act_112 : decode cL_act 112 = .ok (.goto 24, 3) := by decide +kernel
theorem dL_act_115 : decode cL_act 115 = .ok (.aload_n 1, 1) := by decide +kernel
theorem dL_act_116 : decode cL_act 116 = .ok (.getfield 89, 3) := by decide +kernel
theorem dL_act_119 : decode cL_act 119 = .ok (.iload_n 3, 1) := by decide +kernel
theorem dL_act_120 : decode cL_act 120 = .ok (.aaload, 1) := by decide +kernel
theorem dL_act_121 : decode cL_act 121 = .ok (.iconst 2, 1) := by decide +kernel
theorem dL_act_122 : decode cL_act 122 = .ok (.iaload, 1) := by decide +kernel
theorem dL_act_123 : decode cL_act 123 = .ok (.aload_n 1, 1) := by decide +kernel
theorem dL_act_124 : decode cL_act 124 = .ok (.iload_n 3, 1) := by decide +kernel
theorem dL_act_125 : decode cL_act 125 = .ok (.invokevirtual 155, 3) := by decide +kernel
theorem dL_act_128 : decode cL_act 128 = .ok (.if_icmp .le 7, 3) := by decide +kernel
theorem dL_act_131 : decode cL_act 131 = .ok (.iconst 1, 1) := by decide +kernel
theorem dL_act_132 : decode cL_act 132 = .ok (.goto 4, 3) := by decide +kernel
theorem dL_act_135 : decode cL_act 135 = .ok (.iconst 0, 1) := by decide +kernel
theorem dL_act_136 : decode cL_act 136 = .ok (.istore 7, 2) := by decide +kernel
theorem dL_act_138 : decode cL_act 138 = .ok (.iload 7, 2) := by decide +kernel
theorem dL_act_140 : decode cL_act 140 = .ok (.ifCond .eq 24, 3) := by decide +kernel
theorem dL_act_143 : decode cL_act 143 = .ok (.aload_n 1, 1) := by decide +kernel
theorem dL_act_144 : decode cL_act 144 = .ok (.getfield 89, 3) := by decide +kernel
theorem dL_act_147 : decode cL_act 147 = .ok (.iload_n 3, 1) := by decide +kernel
theorem dL_act_148 : decode cL_act 148 = .ok (.aaload, 1) := by decide +kernel
theorem dL_act_149 : decode cL_act 149 = .ok (.iconst 2, 1) := by decide +kernel
theorem dL_act_150 : decode cL_act 150 = .ok (.dup2, 1) := by decide +kernel
theorem dL_act_151 : decode cL_act 151 = .ok (.iaload, 1) := by decide +kernel
theorem dL_act_152 : decode cL_act 152 = .ok (.iload 6, 2) := by decide +kernel
theorem dL_act_154 : decode cL_act 154 = .ok (.ifCond .eq 7, 3) := by decide +kernel
theorem dL_act_157 : decode cL_act 157 = .ok (.iconst 1, 1) := by decide +kernel
theorem dL_act_158 : decode cL_act 158 = .ok (.goto 4, 3) := by decide +kernel
theorem dL_act_161 : decode cL_act 161 = .ok (.iconst (-1), 1) := by decide +kernel
theorem dL_act_162 : decode cL_act 162 = .ok (.iadd, 1) := by decide +kernel
theorem dL_act_163 : decode cL_act 163 = .ok (.iastore, 1) := by decide +kernel
theorem dL_act_164 : decode cL_act 164 = .ok (.aload_n 0, 1) := by decide +kernel
theorem dL_act_165 : decode cL_act 165 = .ok (.iload_n 3, 1) := by decide +kernel
theorem dL_act_166 : decode cL_act 166 = .ok (.iload 6, 2) := by decide +kernel
theorem dL_act_168 : decode cL_act 168 = .ok (.invokevirtual 158, 3) := by decide +kernel
theorem dL_act_171 : decode cL_act 171 = .ok (.istore 8, 2) := by decide +kernel
theorem dL_act_173 : decode cL_act 173 = .ok (.iload 7, 2) := by decide +kernel
theorem dL_act_175 : decode cL_act 175 = .ok (.ifCond .eq 20, 3) := by decide +kernel
theorem dL_act_178 : decode cL_act 178 = .ok (.iload 8, 2) := by decide +kernel
theorem dL_act_180 : decode cL_act 180 = .ok (.aload_n 1, 1) := by decide +kernel
theorem dL_act_181 : decode cL_act 181 = .ok (.getfield 89, 3) := by decide +kernel
theorem dL_act_184 : decode cL_act 184 = .ok (.iload_n 3, 1) := by decide +kernel
theorem dL_act_185 : decode cL_act 185 = .ok (.aaload, 1) := by decide +kernel
theorem dL_act_186 : decode cL_act 186 = .ok (.iconst 2, 1) := by decide +kernel
theorem dL_act_187 : decode cL_act 187 = .ok (.iaload, 1) := by decide +kernel
theorem dL_act_188 : decode cL_act 188 = .ok (.if_icmp .ne 7, 3) := by decide +kernel
theorem dL_act_191 : decode cL_act 191 = .ok (.iconst 1, 1) := by decide +kernel
theorem dL_act_192 : decode cL_act 192 = .ok (.goto 4, 3) := by decide +kernel
theorem dL_act_195 : decode cL_act 195 = .ok (.iconst 0, 1) := by decide +kernel
theorem dL_act_196 : decode cL_act 196 = .ok (.ireturn, 1) := by decide +kernel
theorem dL_act_197 : decode cL_act 197 = .ok (.astore 8, 2) := by decide +kernel
theorem dL_act_199 : decode cL_act 199 = .ok (.iload 7, 2) := by decide +kernel
theorem dL_act_201 : decode cL_act 201 = .ok (.ifCond .ne 7, 3) := by decide +kernel
theorem dL_act_204 : decode cL_act 204 = .ok (.iconst 1, 1) := by decide +kernel
theorem dL_act_205 : decode cL_act 205 = .ok (.goto 4, 3) := by decide +kernel
theorem dL_act_208 : decode cL_act 208 = .ok (.iconst 0, 1) := by decide +kernel
theorem dL_act_209 : decode cL_act 209 = .ok (.ireturn, 1) := by decide +kernel
theorem dL_act_210 : decode cL_act 210 = .ok (.aload 5, 2) := by decide +kernel
theorem dL_act_212 : decode cL_act 212 = .ok (.iconst 4, 1) := by decide +kernel
theorem dL_act_213 : decode cL_act 213 = .ok (.iaload, 1) := by decide +kernel
theorem dL_act_214 : decode cL_act 214 = .ok (.iconst 1, 1) := by decide +kernel
theorem dL_act_215 : decode cL_act 215 = .ok (.if_icmp .ne 7, 3) := by decide +kernel
theorem dL_act_218 : decode cL_act 218 = .ok (.iconst 1, 1) := by decide +kernel
theorem dL_act_219 : decode cL_act 219 = .ok (.goto 4, 3) := by decide +kernel
theorem dL_act_222 : decode cL_act 222 = .ok (.iconst 0, 1) := by decide +kernel
theorem dL_act_223 : decode cL_act 223 = .ok (.istore 6, 2) := by decide +kernel
theorem dL_act_225 : decode cL_act 225 = .ok (.aload 5, 2) := by decide +kernel
theorem dL_act_227 : decode cL_act 227 = .ok (.bipush 6, 2) := by decide +kernel
theorem dL_act_229 : decode cL_act 229 = .ok (.iaload, 1) := by decide +kernel
theorem dL_act_230 : decode cL_act 230 = .ok (.istore 7, 2) := by decide +kernel
theorem dL_act_232 : decode cL_act 232 = .ok (.iload 6, 2) := by decide +kernel
theorem dL_act_234 : decode cL_act 234 = .ok (.ifCond .eq 9, 3) := by decide +kernel
theorem dL_act_237 : decode cL_act 237 = .ok (.aload_n 1, 1) := by decide +kernel
theorem dL_act_238 : decode cL_act 238 = .ok (.aload 5, 2) := by decide +kernel
theorem dL_act_240 : decode cL_act 240 = .ok (.invokevirtual 164, 3) := by decide +kernel
theorem dL_act_243 : decode cL_act 243 = .ok (.aload_n 0, 1) := by decide +kernel
theorem dL_act_244 : decode cL_act 244 = .ok (.iload 4, 2) := by decide +kernel
theorem dL_act_246 : decode cL_act 246 = .ok (.invokevirtual 168, 3) := by decide +kernel
theorem dL_act_249 : decode cL_act 249 = .ok (.istore 8, 2) := by decide +kernel
theorem dL_act_251 : decode cL_act 251 = .ok (.iload 6, 2) := by decide +kernel
theorem dL_act_253 : decode cL_act 253 = .ok (.ifCond .eq 14, 3) := by decide +kernel
theorem dL_act_256 : decode cL_act 256 = .ok (.iload 8, 2) := by decide +kernel
theorem dL_act_258 : decode cL_act 258 = .ok (.iload 7, 2) := by decide +kernel
theorem dL_act_260 : decode cL_act 260 = .ok (.if_icmp .ne 7, 3) := by decide +kernel
theorem dL_act_263 : decode cL_act 263 = .ok (.iconst 1, 1) := by decide +kernel
theorem dL_act_264 : decode cL_act 264 = .ok (.goto 4, 3) := by decide +kernel
theorem dL_act_267 : decode cL_act 267 = .ok (.iconst 0, 1) := by decide +kernel
theorem dL_act_268 : decode cL_act 268 = .ok (.ireturn, 1) := by decide +kernel
theorem dL_act_269 : decode cL_act 269 = .ok (.astore 8, 2) := by decide +kernel
theorem dL_act_271 : decode cL_act 271 = .ok (.iload 6, 2) := by decide +kernel
theorem dL_act_273 : decode cL_act 273 = .ok (.ifCond .ne 7, 3) := by decide +kernel
theorem dL_act_276 : decode cL_act 276 = .ok (.iconst 1, 1) := by decide +kernel
theorem dL_act_277 : decode cL_act 277 = .ok (.goto 4, 3) := by decide +kernel
theorem dL_act_280 : decode cL_act 280 = .ok (.iconst 0, 1) := by decide +kernel
theorem dL_act_281 : decode cL_act 281 = .ok (.ireturn, 1) := by decide +kernel
theorem dL_act_282 : decode cL_act 282 = .ok (.aload 5, 2) := by decide +kernel
theorem dL_act_284 : decode cL_act 284 = .ok (.iconst 4, 1) := by decide +kernel
theorem dL_act_285 : decode cL_act 285 = .ok (.iaload, 1) := by decide +kernel
theorem dL_act_286 : decode cL_act 286 = .ok (.iconst 2, 1) := by decide +kernel
theorem dL_act_287 : decode cL_act 287 = .ok (.if_icmp .ne 7, 3) := by decide +kernel
theorem dL_act_290 : decode cL_act 290 = .ok (.iconst 1, 1) := by decide +kernel
theorem dL_act_291 : decode cL_act 291 = .ok (.goto 4, 3) := by decide +kernel
theorem dL_act_294 : decode cL_act 294 = .ok (.iconst 0, 1) := by decide +kernel
theorem dL_act_295 : decode cL_act 295 = .ok (.istore 6, 2) := by decide +kernel
theorem dL_act_297 : decode cL_act 297 = .ok (.aload 5, 2) := by decide +kernel
theorem dL_act_299 : decode cL_act 299 = .ok (.iconst 1, 1) := by decide +kernel
theorem dL_act_300 : decode cL_act 300 = .ok (.iaload, 1) := by decide +kernel
theorem dL_act_301 : decode cL_act 301 = .ok (.iload_n 3, 1) := by decide +kernel
theorem dL_act_302 : decode cL_act 302 = .ok (.if_icmp .ne 5, 3) := by decide +kernel
theorem dL_act_305 : decode cL_act 305 = .ok (.iconst 1, 1) := by decide +kernel
theorem dL_act_306 : decode cL_act 306 = .ok (.ireturn, 1) := by decide +kernel
theorem dL_act_307 : decode cL_act 307 = .ok (.iload 6, 2) := by decide +kernel
theorem dL_act_309 : decode cL_act 309 = .ok (.ifCond .eq 28, 3) := by decide +kernel
theorem dL_act_312 : decode cL_act 312 = .ok (.aload 5, 2) := by decide +kernel
theorem dL_act_314 : decode cL_act 314 = .ok (.iconst 2, 1) := by decide +kernel
theorem dL_act_315 : decode cL_act 315 = .ok (.iload_n 3, 1) := by decide +kernel
theorem dL_act_316 : decode cL_act 316 = .ok (.iastore, 1) := by decide +kernel
theorem dL_act_317 : decode cL_act 317 = .ok (.aload 5, 2) := by decide +kernel
theorem dL_act_319 : decode cL_act 319 = .ok (.iconst 4, 1) := by decide +kernel
theorem dL_act_320 : decode cL_act 320 = .ok (.iconst 0, 1) := by decide +kernel
theorem dL_act_321 : decode cL_act 321 = .ok (.iastore, 1) := by decide +kernel
theorem dL_act_322 : decode cL_act 322 = .ok (.aload 5, 2) := by decide +kernel
theorem dL_act_324 : decode cL_act 324 = .ok (.bipush 6, 2) := by decide +kernel
theorem dL_act_326 : decode cL_act 326 = .ok (.aload 5, 2) := by decide +kernel
theorem dL_act_328 : decode cL_act 328 = .ok (.iconst 0, 1) := by decide +kernel
theorem dL_act_329 : decode cL_act 329 = .ok (.iaload, 1) := by decide +kernel
theorem dL_act_330 : decode cL_act 330 = .ok (.iastore, 1) := by decide +kernel
theorem dL_act_331 : decode cL_act 331 = .ok (.aload 5, 2) := by decide +kernel
theorem dL_act_333 : decode cL_act 333 = .ok (.bipush 8, 2) := by decide +kernel
theorem dL_act_335 : decode cL_act 335 = .ok (.iconst (-1), 1) := by decide +kernel
theorem dL_act_336 : decode cL_act 336 = .ok (.iastore, 1) := by decide +kernel
theorem dL_act_337 : decode cL_act 337 = .ok (.aload_n 0, 1) := by decide +kernel
theorem dL_act_338 : decode cL_act 338 = .ok (.iload 4, 2) := by decide +kernel
theorem dL_act_340 : decode cL_act 340 = .ok (.iload_n 3, 1) := by decide +kernel
theorem dL_act_341 : decode cL_act 341 = .ok (.invokevirtual 171, 3) := by decide +kernel
theorem dL_act_344 : decode cL_act 344 = .ok (.istore 7, 2) := by decide +kernel
theorem dL_act_346 : decode cL_act 346 = .ok (.iload 6, 2) := by decide +kernel
theorem dL_act_348 : decode cL_act 348 = .ok (.ifCond .eq 16, 3) := by decide +kernel
theorem dL_act_351 : decode cL_act 351 = .ok (.iload 7, 2) := by decide +kernel
theorem dL_act_353 : decode cL_act 353 = .ok (.aload 5, 2) := by decide +kernel
theorem dL_act_355 : decode cL_act 355 = .ok (.iconst 1, 1) := by decide +kernel
theorem dL_act_356 : decode cL_act 356 = .ok (.iaload, 1) := by decide +kernel
theorem dL_act_357 : decode cL_act 357 = .ok (.if_icmp .ne 7, 3) := by decide +kernel
theorem dL_act_360 : decode cL_act 360 = .ok (.iconst 1, 1) := by decide +kernel
theorem dL_act_361 : decode cL_act 361 = .ok (.goto 4, 3) := by decide +kernel
theorem dL_act_364 : decode cL_act 364 = .ok (.iconst 0, 1) := by decide +kernel
theorem dL_act_365 : decode cL_act 365 = .ok (.ireturn, 1) := by decide +kernel
theorem dL_act_366 : decode cL_act 366 = .ok (.astore 7, 2) := by decide +kernel
theorem dL_act_368 : decode cL_act 368 = .ok (.iload 6, 2) := by decide +kernel
theorem dL_act_370 : decode cL_act 370 = .ok (.ifCond .ne 7, 3) := by decide +kernel
theorem dL_act_373 : decode cL_act 373 = .ok (.iconst 1, 1) := by decide +kernel
theorem dL_act_374 : decode cL_act 374 = .ok (.goto 4, 3) := by decide +kernel
theorem dL_act_377 : decode cL_act 377 = .ok (.iconst 0, 1) := by decide +kernel
theorem dL_act_378 : decode cL_act 378 = .ok (.ireturn, 1) := by decide +kernel
theorem dL_act_379 : decode cL_act 379 = .ok (.aload_n 0, 1) := by decide +kernel
theorem dL_act_380 : decode cL_act 380 = .ok (.aload_n 1, 1) := by decide +kernel
theorem dL_act_381 : decode cL_act 381 = .ok (.iconst 1, 1) := by decide +kernel
theorem dL_act_382 : decode cL_act 382 = .ok (.iload_n 2, 1) := by decide +kernel
theorem dL_act_383 : decode cL_act 383 = .ok (.iconst 4, 1) := by decide +kernel
theorem dL_act_384 : decode cL_act 384 = .ok (.ishr, 1) := by decide +kernel
theorem dL_act_385 : decode cL_act 385 = .ok (.iload_n 2, 1) := by decide +kernel
theorem dL_act_386 : decode cL_act 386 = .ok (.bipush 8, 2) := by decide +kernel
theorem dL_act_388 : decode cL_act 388 = .ok (.ishr, 1) := by decide +kernel
theorem dL_act_389 : decode cL_act 389 = .ok (.iconst 4, 1) := by decide +kernel
theorem dL_act_390 : decode cL_act 390 = .ok (.invokestatic 83, 3) := by decide +kernel
theorem dL_act_393 : decode cL_act 393 = .ok (.ifCond .ne 8, 3) := by decide +kernel
theorem dL_act_396 : decode cL_act 396 = .ok (.bipush 60, 2) := by decide +kernel
theorem dL_act_398 : decode cL_act 398 = .ok (.goto 5, 3) := by decide +kernel
theorem dL_act_401 : decode cL_act 401 = .ok (.bipush 6, 2) := by decide +kernel
theorem dL_act_403 : decode cL_act 403 = .ok (.invokestatic 83, 3) := by decide +kernel
theorem dL_act_406 : decode cL_act 406 = .ok (.iadd, 1) := by decide +kernel
theorem dL_act_407 : decode cL_act 407 = .ok (.invokestatic 174, 3) := by decide +kernel
theorem dL_act_410 : decode cL_act 410 = .ok (.ireturn, 1) := by decide +kernel
theorem dL_law_0 : decode cL_law 0 = .ok (.new 32, 3) := by decide +kernel
theorem dL_law_3 : decode cL_law 3 = .ok (.dup, 1) := by decide +kernel
theorem dL_law_4 : decode cL_law 4 = .ok (.invokespecial 34, 3) := by decide +kernel
theorem dL_law_7 : decode cL_law 7 = .ok (.astore_n 1, 1) := by decide +kernel
theorem dL_law_8 : decode cL_law 8 = .ok (.aload_n 0, 1) := by decide +kernel
theorem dL_law_9 : decode cL_law 9 = .ok (.aload_n 1, 1) := by decide +kernel
theorem dL_law_10 : decode cL_law 10 = .ok (.invokestatic 178, 3) := by decide +kernel
theorem dL_law_13 : decode cL_law 13 = .ok (.astore_n 2, 1) := by decide +kernel
theorem dL_law_14 : decode cL_law 14 = .ok (.new 10, 3) := by decide +kernel
theorem dL_law_17 : decode cL_law 17 = .ok (.dup, 1) := by decide +kernel
theorem dL_law_18 : decode cL_law 18 = .ok (.invokespecial 182, 3) := by decide +kernel
theorem dL_law_21 : decode cL_law 21 = .ok (.astore_n 3, 1) := by decide +kernel
theorem dL_law_22 : decode cL_law 22 = .ok (.aload_n 3, 1) := by decide +kernel
theorem dL_law_23 : decode cL_law 23 = .ok (.aload_n 1, 1) := by decide +kernel
theorem dL_law_24 : decode cL_law 24 = .ok (.invokevirtual 44, 3) := by decide +kernel
theorem dL_law_27 : decode cL_law 27 = .ok (.invokestatic 183, 3) := by decide +kernel
theorem dL_law_30 : decode cL_law 30 = .ok (.ifCond .eq 5, 3) := by decide +kernel
theorem dL_law_33 : decode cL_law 33 = .ok (.iconst 0, 1) := by decide +kernel
theorem dL_law_34 : decode cL_law 34 = .ok (.ireturn, 1) := by decide +kernel
theorem dL_law_35 : decode cL_law 35 = .ok (.aload_n 3, 1) := by decide +kernel
theorem dL_law_36 : decode cL_law 36 = .ok (.iconst 1, 1) := by decide +kernel
theorem dL_law_37 : decode cL_law 37 = .ok (.invokevirtual 187, 3) := by decide +kernel
theorem dL_law_40 : decode cL_law 40 = .ok (.istore 4, 2) := by decide +kernel
theorem dL_law_42 : decode cL_law 42 = .ok (.aload_n 3, 1) := by decide +kernel
theorem dL_law_43 : decode cL_law 43 = .ok (.iconst 2, 1) := by decide +kernel
theorem dL_law_44 : decode cL_law 44 = .ok (.invokevirtual 187, 3) := by decide +kernel
theorem dL_law_47 : decode cL_law 47 = .ok (.istore 5, 2) := by decide +kernel
theorem dL_law_49 : decode cL_law 49 = .ok (.aload_n 3, 1) := by decide +kernel
theorem dL_law_50 : decode cL_law 50 = .ok (.iconst 4, 1) := by decide +kernel
theorem dL_law_51 : decode cL_law 51 = .ok (.invokevirtual 187, 3) := by decide +kernel
theorem dL_law_54 : decode cL_law 54 = .ok (.istore 6, 2) := by decide +kernel
theorem dL_law_56 : decode cL_law 56 = .ok (.iconst 0, 1) := by decide +kernel
theorem dL_law_57 : decode cL_law 57 = .ok (.istore 7, 2) := by decide +kernel
theorem dL_law_59 : decode cL_law 59 = .ok (.iload 7, 2) := by decide +kernel
theorem dL_law_61 : decode cL_law 61 = .ok (.bipush 40, 2) := by decide +kernel
theorem dL_law_63 : decode cL_law 63 = .ok (.if_icmp .ge 1330, 3) := by decide +kernel
theorem dL_law_66 : decode cL_law 66 = .ok (.aload_n 0, 1) := by decide +kernel
theorem dL_law_67 : decode cL_law 67 = .ok (.iload 7, 2) := by decide +kernel
theorem dL_law_69 : decode cL_law 69 = .ok (.bipush 16, 2) := by decide +kernel
theorem dL_law_71 : decode cL_law 71 = .ok (.irem, 1) := by decide +kernel
theorem dL_law_72 : decode cL_law 72 = .ok (.invokestatic 77, 3) := by decide +kernel
theorem dL_law_75 : decode cL_law 75 = .ok (.iload 7, 2) := by decide +kernel
theorem dL_law_77 : decode cL_law 77 = .ok (.bipush 16, 2) := by decide +kernel
theorem dL_law_79 : decode cL_law 79 = .ok (.idiv, 1) := by decide +kernel
theorem dL_law_80 : decode cL_law 80 = .ok (.bipush 6, 2) := by decide +kernel
theorem dL_law_82 : decode cL_law 82 = .ok (.imul, 1) := by decide +kernel
theorem dL_law_83 : decode cL_law 83 = .ok (.ishr, 1) := by decide +kernel
theorem dL_law_84 : decode cL_law 84 = .ok (.bipush 47, 2) := by decide +kernel
theorem dL_law_86 : decode cL_law 86 = .ok (.iload 7, 2) := by decide +kernel
theorem dL_law_88 : decode cL_law 88 = .ok (.imul, 1) := by decide +kernel
theorem dL_law_89 : decode cL_law 89 = .ok (.iadd, 1) := by decide +kernel
theorem dL_law_90 : decode cL_law 90 = .ok (.istore 8, 2) := by decide +kernel
theorem dL_law_92 : decode cL_law 92 = .ok (.aload_n 3, 1) := by decide +kernel
theorem dL_law_93 : decode cL_law 93 = .ok (.aload_n 2, 1) := by decide +kernel
theorem dL_law_94 : decode cL_law 94 = .ok (.iload 8, 2) := by decide +kernel
theorem dL_law_96 : decode cL_law 96 = .ok (.invokestatic 190, 3) := by decide +kernel
theorem dL_law_99 : decode cL_law 99 = .ok (.ifCond .ne 5, 3) := by decide +kernel
theorem dL_law_102 : decode cL_law 102 = .ok (.iconst 0, 1) := by decide +kernel
theorem dL_law_103 : decode cL_law 103 = .ok (.ireturn, 1) := by decide +kernel
theorem dL_law_104 : decode cL_law 104 = .ok (.aload_n 3, 1) := by decide +kernel
theorem dL_law_105 : decode cL_law 105 = .ok (.iconst 0, 1) := by decide +kernel
theorem dL_law_106 : decode cL_law 106 = .ok (.invokevirtual 187, 3) := by decide +kernel
theorem dL_law_109 : decode cL_law 109 = .ok (.istore 9, 2) := by decide +kernel
theorem dL_law_111 : decode cL_law 111 = .ok (.iconst 3, 1) := by decide +kernel
theorem dL_law_112 : decode cL_law 112 = .ok (.newarray .int, 2) := by decide +kernel
theorem dL_law_114 : decode cL_law 114 = .ok (.astore 10, 2) := by decide +kernel
theorem dL_law_116 : decode cL_law 116 = .ok (.iload 4, 2) := by decide +kernel
theorem dL_law_118 : decode cL_law 118 = .ok (.newarray .int, 2) := by decide +kernel
theorem dL_law_120 : decode cL_law 120 = .ok (.astore 11, 2) := by decide +kernel
theorem dL_law_122 : decode cL_law 122 = .ok (.iload 4, 2) := by decide +kernel
theorem dL_law_124 : decode cL_law 124 = .ok (.newarray .int, 2) := by decide +kernel
theorem dL_law_126 : decode cL_law 126 = .ok (.astore 12, 2) := by decide +kernel
theorem dL_law_128 : decode cL_law 128 = .ok (.iconst 0, 1) := by decide +kernel
theorem dL_law_129 : decode cL_law 129 = .ok (.istore 13, 2) := by decide +kernel
theorem dL_law_131 : decode cL_law 131 = .ok (.iconst 0, 1) := by decide +kernel
theorem dL_law_132 : decode cL_law 132 = .ok (.istore 14, 2) := by decide +kernel
theorem dL_law_134 : decode cL_law 134 = .ok (.iconst 0, 1) := by decide +kernel
theorem dL_law_135 : decode cL_law 135 = .ok (.istore 15, 2) := by decide +kernel
theorem dL_law_137 : decode cL_law 137 = .ok (.iload 15, 2) := by decide +kernel
theorem dL_law_139 : decode cL_law 139 = .ok (.iload 6, 2) := by decide +kernel
theorem dL_law_141 : decode cL_law 141 = .ok (.if_icmp .ge 298, 3) := by decide +kernel
theorem dL_law_144 : decode cL_law 144 = .ok (.aload_n 3, 1) := by decide +kernel
theorem dL_law_145 : decode cL_law 145 = .ok (.iload 15, 2) := by decide +kernel
theorem dL_law_147 : decode cL_law 147 = .ok (.iconst 3, 1) := by decide +kernel
theorem dL_law_148 : decode cL_law 148 = .ok (.invokevirtual 193, 3) := by decide +kernel
theorem dL_law_151 : decode cL_law 151 = .ok (.istore 16, 2) := by decide +kernel
theorem dL_law_153 : decode cL_law 153 = .ok (.aload_n 3, 1) := by decide +kernel
theorem dL_law_154 : decode cL_law 154 = .ok (.iload 15, 2) := by decide +kernel
theorem dL_law_156 : decode cL_law 156 = .ok (.iconst 1, 1) := by decide +kernel
theorem dL_law_157 : decode cL_law 157 = .ok (.invokevirtual 193, 3) := by decide +kernel
theorem dL_law_160 : decode cL_law 160 = .ok (.istore 17, 2) := by decide +kernel
theorem dL_law_162 : decode cL_law 162 = .ok (.aload_n 3, 1) := by decide +kernel
theorem dL_law_163 : decode cL_law 163 = .ok (.iload 15, 2) := by decide +kernel
theorem dL_law_165 : decode cL_law 165 = .ok (.iconst 4, 1) := by decide +kernel
theorem dL_law_166 : decode cL_law 166 = .ok (.invokevirtual 193, 3) := by decide +kernel
theorem dL_law_169 : decode cL_law 169 = .ok (.istore 18, 2) := by decide +kernel
theorem dL_law_171 : decode cL_law 171 = .ok (.aload_n 3, 1) := by decide +kernel
theorem dL_law_172 : decode cL_law 172 = .ok (.iload 15, 2) := by decide +kernel
theorem dL_law_174 : decode cL_law 174 = .ok (.iconst 5, 1) := by decide +kernel
theorem dL_law_175 : decode cL_law 175 = .ok (.invokevirtual 193, 3) := by decide +kernel
theorem dL_law_178 : decode cL_law 178 = .ok (.istore 19, 2) := by decide +kernel
theorem dL_law_180 : decode cL_law 180 = .ok (.aload 10, 2) := by decide +kernel
theorem dL_law_182 : decode cL_law 182 = .ok (.iload 16, 2) := by decide +kernel
theorem dL_law_184 : decode cL_law 184 = .ok (.dup2, 1) := by decide +kernel
theorem dL_law_185 : decode cL_law 185 = .ok (.iaload, 1) := by decide +kernel
theorem dL_law_186 : decode cL_law 186 = .ok (.iconst 1, 1) := by decide +kernel
theorem dL_law_187 : decode cL_law 187 = .ok (.iadd, 1) := by decide +kernel
theorem dL_law_188 : decode cL_law 188 = .ok (.iastore, 1) := by decide +kernel
theorem dL_law_189 : decode cL_law 189 = .ok (.iload 13, 2) := by decide +kernel
theorem dL_law_191 : decode cL_law 191 = .ok (.aload_n 3, 1) := by decide +kernel
theorem dL_law_192 : decode cL_law 192 = .ok (.iload 15, 2) := by decide +kernel
theorem dL_law_194 : decode cL_law 194 = .ok (.bipush 6, 2) := by decide +kernel
theorem dL_law_196 : decode cL_law 196 = .ok (.invokevirtual 193, 3) := by decide +kernel
theorem dL_law_199 : decode cL_law 199 = .ok (.iadd, 1) := by decide +kernel
theorem dL_law_200 : decode cL_law 200 = .ok (.istore 13, 2) := by decide +kernel
theorem dL_law_202 : decode cL_law 202 = .ok (.iload 14, 2) := by decide +kernel
theorem dL_law_204 : decode cL_law 204 = .ok (.iload 19, 2) := by decide +kernel
theorem dL_law_206 : decode cL_law 206 = .ok (.iadd, 1) := by decide +kernel
theorem dL_law_207 : decode cL_law 207 = .ok (.istore 14, 2) := by decide +kernel
theorem dL_law_209 : decode cL_law 209 = .ok (.iload 16, 2) := by decide +kernel
theorem dL_law_211 : decode cL_law 211 = .ok (.ifCond .ne 12, 3) := by decide +kernel
theorem dL_law_214 : decode cL_law 214 = .ok (.aload 12, 2) := by decide +kernel
theorem dL_law_216 : decode cL_law 216 = .ok (.iload 17, 2) := by decide +kernel
theorem dL_law_218 : decode cL_law 218 = .ok (.dup2, 1) := by decide +kernel
theorem dL_law_219 : decode cL_law 219 = .ok (.iaload, 1) := by decide +kernel
theorem dL_law_220 : decode cL_law 220 = .ok (.iconst 1, 1) := by decide +kernel
theorem dL_law_221 : decode cL_law 221 = .ok (.iadd, 1) := by decide +kernel
theorem dL_law_222 : decode cL_law 222 = .ok (.iastore, 1) := by decide +kernel
theorem dL_law_223 : decode cL_law 223 = .ok (.iload 16, 2) := by decide +kernel
theorem dL_law_225 : decode cL_law 225 = .ok (.iconst 1, 1) := by decide +kernel
theorem dL_law_226 : decode cL_law 226 = .ok (.if_icmp .ne 12, 3) := by decide +kernel
theorem dL_law_229 : decode cL_law 229 = .ok (.aload 11, 2) := by decide +kernel
theorem dL_law_231 : decode cL_law 231 = .ok (.iload 17, 2) := by decide +kernel
theorem dL_law_233 : decode cL_law 233 = .ok (.dup2, 1) := by decide +kernel
theorem dL_law_234 : decode cL_law 234 = .ok (.iaload, 1) := by decide +kernel
theorem dL_law_235 : decode cL_law 235 = .ok (.iconst 1, 1) := by decide +kernel
theorem dL_law_236 : decode cL_law 236 = .ok (.iadd, 1) := by decide +kernel
theorem dL_law_237 : decode cL_law 237 = .ok (.iastore, 1) := by decide +kernel
theorem dL_law_238 : decode cL_law 238 = .ok (.iload 16, 2) := by decide +kernel
theorem dL_law_240 : decode cL_law 240 = .ok (.ifCond .ne 15, 3) := by decide +kernel
theorem dL_law_243 : decode cL_law 243 = .ok (.iload 19, 2) := by decide +kernel
theorem dL_law_245 : decode cL_law 245 = .ok (.aload_n 3, 1) := by decide +kernel
theorem dL_law_246 : decode cL_law 246 = .ok (.iload 15, 2) := by decide +kernel
theorem dL_law_248 : decode cL_law 248 = .ok (.iconst 0, 1) := by decide +kernel
theorem dL_law_249 : decode cL_law 249 = .ok (.invokevirtual 193, 3) := by decide +kernel
