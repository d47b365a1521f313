theorem dL_law_252 : decode cL_law 252 = .ok (.if_icmp .ne 136, 3) := by decide +kernel
theorem dL_law_255 : decode cL_law 255 = .ok (.iload 16, 2) := by decide +kernel
theorem dL_law_257 : decode cL_law 257 = .ok (.iconst 1, 1) := by decide +kernel
theorem dL_law_258 : decode cL_law 258 = .ok (.if_icmp .ne 21, 3) := by decide +kernel
theorem dL_law_261 : decode cL_law 261 = .ok (.iload 19, 2) := by decide +kernel
theorem dL_law_263 : decode cL_law 263 = .ok (.iconst 1, 1) := by decide +kernel
theorem dL_law_264 : decode cL_law 264 = .ok (.if_icmp .lt 124, 3) := by decide +kernel
theorem dL_law_267 : decode cL_law 267 = .ok (.iload 19, 2) := by decide +kernel
theorem dL_law_269 : decode cL_law 269 = .ok (.aload_n 3, 1) := by decide +kernel
theorem dL_law_270 : decode cL_law 270 = .ok (.iload 15, 2) := by decide +kernel
theorem dL_law_272 : decode cL_law 272 = .ok (.iconst 0, 1) := by decide +kernel
theorem dL_law_273 : decode cL_law 273 = .ok (.invokevirtual 193, 3) := by decide +kernel
theorem dL_law_276 : decode cL_law 276 = .ok (.if_icmp .gt 112, 3) := by decide +kernel
theorem dL_law_279 : decode cL_law 279 = .ok (.iload 16, 2) := by decide +kernel
theorem dL_law_281 : decode cL_law 281 = .ok (.iconst 2, 1) := by decide +kernel
theorem dL_law_282 : decode cL_law 282 = .ok (.if_icmp .ne 8, 3) := by decide +kernel
theorem dL_law_285 : decode cL_law 285 = .ok (.iload 19, 2) := by decide +kernel
theorem dL_law_287 : decode cL_law 287 = .ok (.ifCond .ne 101, 3) := by decide +kernel
theorem dL_law_290 : decode cL_law 290 = .ok (.iload 16, 2) := by decide +kernel
theorem dL_law_292 : decode cL_law 292 = .ok (.iconst 1, 1) := by decide +kernel
theorem dL_law_293 : decode cL_law 293 = .ok (.if_icmp .ne 7, 3) := by decide +kernel
theorem dL_law_296 : decode cL_law 296 = .ok (.iconst 1, 1) := by decide +kernel
theorem dL_law_297 : decode cL_law 297 = .ok (.goto 4, 3) := by decide +kernel
theorem dL_law_300 : decode cL_law 300 = .ok (.iconst 0, 1) := by decide +kernel
theorem dL_law_301 : decode cL_law 301 = .ok (.iload 18, 2) := by decide +kernel
theorem dL_law_303 : decode cL_law 303 = .ok (.ifCond .lt 7, 3) := by decide +kernel
theorem dL_law_306 : decode cL_law 306 = .ok (.iconst 1, 1) := by decide +kernel
theorem dL_law_307 : decode cL_law 307 = .ok (.goto 4, 3) := by decide +kernel
theorem dL_law_310 : decode cL_law 310 = .ok (.iconst 0, 1) := by decide +kernel
theorem dL_law_311 : decode cL_law 311 = .ok (.if_icmp .ne 77, 3) := by decide +kernel
theorem dL_law_314 : decode cL_law 314 = .ok (.iload 16, 2) := by decide +kernel
theorem dL_law_316 : decode cL_law 316 = .ok (.iconst 2, 1) := by decide +kernel
theorem dL_law_317 : decode cL_law 317 = .ok (.if_icmp .ne 7, 3) := by decide +kernel
theorem dL_law_320 : decode cL_law 320 = .ok (.iconst 1, 1) := by decide +kernel
theorem dL_law_321 : decode cL_law 321 = .ok (.goto 4, 3) := by decide +kernel
theorem dL_law_324 : decode cL_law 324 = .ok (.iconst 0, 1) := by decide +kernel
theorem dL_law_325 : decode cL_law 325 = .ok (.iload 17, 2) := by decide +kernel
theorem dL_law_327 : decode cL_law 327 = .ok (.aload_n 3, 1) := by decide +kernel
theorem dL_law_328 : decode cL_law 328 = .ok (.iload 15, 2) := by decide +kernel
theorem dL_law_330 : decode cL_law 330 = .ok (.iconst 2, 1) := by decide +kernel
theorem dL_law_331 : decode cL_law 331 = .ok (.invokevirtual 193, 3) := by decide +kernel
theorem dL_law_334 : decode cL_law 334 = .ok (.if_icmp .ne 7, 3) := by decide +kernel
theorem dL_law_337 : decode cL_law 337 = .ok (.iconst 1, 1) := by decide +kernel
theorem dL_law_338 : decode cL_law 338 = .ok (.goto 4, 3) := by decide +kernel
theorem dL_law_341 : decode cL_law 341 = .ok (.iconst 0, 1) := by decide +kernel
theorem dL_law_342 : decode cL_law 342 = .ok (.if_icmp .ne 46, 3) := by decide +kernel
theorem dL_law_345 : decode cL_law 345 = .ok (.iload 16, 2) := by decide +kernel
theorem dL_law_347 : decode cL_law 347 = .ok (.iconst 2, 1) := by decide +kernel
theorem dL_law_348 : decode cL_law 348 = .ok (.if_icmp .ne 7, 3) := by decide +kernel
theorem dL_law_351 : decode cL_law 351 = .ok (.iconst 1, 1) := by decide +kernel
theorem dL_law_352 : decode cL_law 352 = .ok (.goto 4, 3) := by decide +kernel
theorem dL_law_355 : decode cL_law 355 = .ok (.iconst 0, 1) := by decide +kernel
theorem dL_law_356 : decode cL_law 356 = .ok (.aload_n 3, 1) := by decide +kernel
theorem dL_law_357 : decode cL_law 357 = .ok (.iload 15, 2) := by decide +kernel
theorem dL_law_359 : decode cL_law 359 = .ok (.bipush 7, 2) := by decide +kernel
theorem dL_law_361 : decode cL_law 361 = .ok (.invokevirtual 193, 3) := by decide +kernel
theorem dL_law_364 : decode cL_law 364 = .ok (.ifCond .lt 7, 3) := by decide +kernel
theorem dL_law_367 : decode cL_law 367 = .ok (.iconst 1, 1) := by decide +kernel
theorem dL_law_368 : decode cL_law 368 = .ok (.goto 4, 3) := by decide +kernel
theorem dL_law_371 : decode cL_law 371 = .ok (.iconst 0, 1) := by decide +kernel
theorem dL_law_372 : decode cL_law 372 = .ok (.if_icmp .ne 16, 3) := by decide +kernel
theorem dL_law_375 : decode cL_law 375 = .ok (.aload_n 3, 1) := by decide +kernel
theorem dL_law_376 : decode cL_law 376 = .ok (.iload 15, 2) := by decide +kernel
theorem dL_law_378 : decode cL_law 378 = .ok (.bipush 7, 2) := by decide +kernel
theorem dL_law_380 : decode cL_law 380 = .ok (.invokevirtual 193, 3) := by decide +kernel
theorem dL_law_383 : decode cL_law 383 = .ok (.iload 9, 2) := by decide +kernel
theorem dL_law_385 : decode cL_law 385 = .ok (.if_icmp .lt 5, 3) := by decide +kernel
theorem dL_law_388 : decode cL_law 388 = .ok (.iconst 0, 1) := by decide +kernel
theorem dL_law_389 : decode cL_law 389 = .ok (.ireturn, 1) := by decide +kernel
theorem dL_law_390 : decode cL_law 390 = .ok (.iload 18, 2) := by decide +kernel
theorem dL_law_392 : decode cL_law 392 = .ok (.ifCond .lt 41, 3) := by decide +kernel
theorem dL_law_395 : decode cL_law 395 = .ok (.aload_n 3, 1) := by decide +kernel
theorem dL_law_396 : decode cL_law 396 = .ok (.iload 18, 2) := by decide +kernel
theorem dL_law_398 : decode cL_law 398 = .ok (.iconst 4, 1) := by decide +kernel
theorem dL_law_399 : decode cL_law 399 = .ok (.invokevirtual 196, 3) := by decide +kernel
theorem dL_law_402 : decode cL_law 402 = .ok (.iload 15, 2) := by decide +kernel
theorem dL_law_404 : decode cL_law 404 = .ok (.if_icmp .ne 27, 3) := by decide +kernel
theorem dL_law_407 : decode cL_law 407 = .ok (.aload_n 3, 1) := by decide +kernel
theorem dL_law_408 : decode cL_law 408 = .ok (.iload 18, 2) := by decide +kernel
theorem dL_law_410 : decode cL_law 410 = .ok (.iconst 0, 1) := by decide +kernel
theorem dL_law_411 : decode cL_law 411 = .ok (.invokevirtual 196, 3) := by decide +kernel
theorem dL_law_414 : decode cL_law 414 = .ok (.iload 17, 2) := by decide +kernel
theorem dL_law_416 : decode cL_law 416 = .ok (.if_icmp .eq 17, 3) := by decide +kernel
theorem dL_law_419 : decode cL_law 419 = .ok (.aload_n 3, 1) := by decide +kernel
theorem dL_law_420 : decode cL_law 420 = .ok (.iload 18, 2) := by decide +kernel
theorem dL_law_422 : decode cL_law 422 = .ok (.iconst 1, 1) := by decide +kernel
theorem dL_law_423 : decode cL_law 423 = .ok (.invokevirtual 196, 3) := by decide +kernel
theorem dL_law_426 : decode cL_law 426 = .ok (.iload 17, 2) := by decide +kernel
theorem dL_law_428 : decode cL_law 428 = .ok (.if_icmp .eq 5, 3) := by decide +kernel
theorem dL_law_431 : decode cL_law 431 = .ok (.iconst 0, 1) := by decide +kernel
theorem dL_law_432 : decode cL_law 432 = .ok (.ireturn, 1) := by decide +kernel
theorem dL_law_433 : decode cL_law 433 = .ok (.iinc 15 1, 3) := by decide +kernel
theorem dL_law_436 : decode cL_law 436 = .ok (.goto (-299), 3) := by decide +kernel
theorem dL_law_439 : decode cL_law 439 = .ok (.aload 10, 2) := by decide +kernel
theorem dL_law_441 : decode cL_law 441 = .ok (.iconst 0, 1) := by decide +kernel
theorem dL_law_442 : decode cL_law 442 = .ok (.iaload, 1) := by decide +kernel
theorem dL_law_443 : decode cL_law 443 = .ok (.aload_n 3, 1) := by decide +kernel
theorem dL_law_444 : decode cL_law 444 = .ok (.bipush 8, 2) := by decide +kernel
theorem dL_law_446 : decode cL_law 446 = .ok (.invokevirtual 187, 3) := by decide +kernel
theorem dL_law_449 : decode cL_law 449 = .ok (.if_icmp .ne 55, 3) := by decide +kernel
theorem dL_law_452 : decode cL_law 452 = .ok (.aload 10, 2) := by decide +kernel
theorem dL_law_454 : decode cL_law 454 = .ok (.iconst 1, 1) := by decide +kernel
theorem dL_law_455 : decode cL_law 455 = .ok (.iaload, 1) := by decide +kernel
theorem dL_law_456 : decode cL_law 456 = .ok (.aload_n 3, 1) := by decide +kernel
theorem dL_law_457 : decode cL_law 457 = .ok (.bipush 9, 2) := by decide +kernel
theorem dL_law_459 : decode cL_law 459 = .ok (.invokevirtual 187, 3) := by decide +kernel
theorem dL_law_462 : decode cL_law 462 = .ok (.if_icmp .ne 42, 3) := by decide +kernel
theorem dL_law_465 : decode cL_law 465 = .ok (.aload 10, 2) := by decide +kernel
theorem dL_law_467 : decode cL_law 467 = .ok (.iconst 2, 1) := by decide +kernel
theorem dL_law_468 : decode cL_law 468 = .ok (.iaload, 1) := by decide +kernel
theorem dL_law_469 : decode cL_law 469 = .ok (.aload_n 3, 1) := by decide +kernel
theorem dL_law_470 : decode cL_law 470 = .ok (.bipush 10, 2) := by decide +kernel
theorem dL_law_472 : decode cL_law 472 = .ok (.invokevirtual 187, 3) := by decide +kernel
theorem dL_law_475 : decode cL_law 475 = .ok (.if_icmp .ne 29, 3) := by decide +kernel
theorem dL_law_478 : decode cL_law 478 = .ok (.iload 13, 2) := by decide +kernel
theorem dL_law_480 : decode cL_law 480 = .ok (.aload_n 3, 1) := by decide +kernel
theorem dL_law_481 : decode cL_law 481 = .ok (.bipush 11, 2) := by decide +kernel
theorem dL_law_483 : decode cL_law 483 = .ok (.invokevirtual 187, 3) := by decide +kernel
theorem dL_law_486 : decode cL_law 486 = .ok (.if_icmp .ne 18, 3) := by decide +kernel
theorem dL_law_489 : decode cL_law 489 = .ok (.aload_n 3, 1) := by decide +kernel
theorem dL_law_490 : decode cL_law 490 = .ok (.invokevirtual 199, 3) := by decide +kernel
theorem dL_law_493 : decode cL_law 493 = .ok (.iload 14, 2) := by decide +kernel
theorem dL_law_495 : decode cL_law 495 = .ok (.i2d, 1) := by decide +kernel
theorem dL_law_496 : decode cL_law 496 = .ok (.iload 6, 2) := by decide +kernel
theorem dL_law_498 : decode cL_law 498 = .ok (.i2d, 1) := by decide +kernel
theorem dL_law_499 : decode cL_law 499 = .ok (.ddiv, 1) := by decide +kernel
theorem dL_law_500 : decode cL_law 500 = .ok (.dcmp .l, 1) := by decide +kernel
theorem dL_law_501 : decode cL_law 501 = .ok (.ifCond .eq 5, 3) := by decide +kernel
theorem dL_law_504 : decode cL_law 504 = .ok (.iconst 0, 1) := by decide +kernel
theorem dL_law_505 : decode cL_law 505 = .ok (.ireturn, 1) := by decide +kernel
theorem dL_law_506 : decode cL_law 506 = .ok (.iconst 0, 1) := by decide +kernel
theorem dL_law_507 : decode cL_law 507 = .ok (.istore 15, 2) := by decide +kernel
theorem dL_law_509 : decode cL_law 509 = .ok (.iconst 0, 1) := by decide +kernel
theorem dL_law_510 : decode cL_law 510 = .ok (.istore 16, 2) := by decide +kernel
theorem dL_law_512 : decode cL_law 512 = .ok (.iconst 0, 1) := by decide +kernel
theorem dL_law_513 : decode cL_law 513 = .ok (.istore 17, 2) := by decide +kernel
theorem dL_law_515 : decode cL_law 515 = .ok (.iload 17, 2) := by decide +kernel
theorem dL_law_517 : decode cL_law 517 = .ok (.iload 5, 2) := by decide +kernel
theorem dL_law_519 : decode cL_law 519 = .ok (.if_icmp .ge 217, 3) := by decide +kernel
theorem dL_law_522 : decode cL_law 522 = .ok (.aload_n 3, 1) := by decide +kernel
theorem dL_law_523 : decode cL_law 523 = .ok (.iload 17, 2) := by decide +kernel
theorem dL_law_525 : decode cL_law 525 = .ok (.iconst 0, 1) := by decide +kernel
theorem dL_law_526 : decode cL_law 526 = .ok (.invokevirtual 196, 3) := by decide +kernel
theorem dL_law_529 : decode cL_law 529 = .ok (.istore 18, 2) := by decide +kernel
theorem dL_law_531 : decode cL_law 531 = .ok (.aload_n 3, 1) := by decide +kernel
theorem dL_law_532 : decode cL_law 532 = .ok (.iload 17, 2) := by decide +kernel
theorem dL_law_534 : decode cL_law 534 = .ok (.iconst 1, 1) := by decide +kernel
theorem dL_law_535 : decode cL_law 535 = .ok (.invokevirtual 196, 3) := by decide +kernel
theorem dL_law_538 : decode cL_law 538 = .ok (.istore 19, 2) := by decide +kernel
theorem dL_law_540 : decode cL_law 540 = .ok (.aload_n 3, 1) := by decide +kernel
theorem dL_law_541 : decode cL_law 541 = .ok (.iload 17, 2) := by decide +kernel
theorem dL_law_543 : decode cL_law 543 = .ok (.invokevirtual 203, 3) := by decide +kernel
theorem dL_law_546 : decode cL_law 546 = .ok (.istore 20, 2) := by decide +kernel
theorem dL_law_548 : decode cL_law 548 = .ok (.iload 15, 2) := by decide +kernel
theorem dL_law_550 : decode cL_law 550 = .ok (.aload_n 3, 1) := by decide +kernel
theorem dL_law_551 : decode cL_law 551 = .ok (.iload 17, 2) := by decide +kernel
theorem dL_law_553 : decode cL_law 553 = .ok (.iconst 5, 1) := by decide +kernel
theorem dL_law_554 : decode cL_law 554 = .ok (.invokevirtual 196, 3) := by decide +kernel
theorem dL_law_557 : decode cL_law 557 = .ok (.iadd, 1) := by decide +kernel
theorem dL_law_558 : decode cL_law 558 = .ok (.istore 15, 2) := by decide +kernel
theorem dL_law_560 : decode cL_law 560 = .ok (.iload 16, 2) := by decide +kernel
theorem dL_law_562 : decode cL_law 562 = .ok (.aload_n 3, 1) := by decide +kernel
theorem dL_law_563 : decode cL_law 563 = .ok (.iload 17, 2) := by decide +kernel
theorem dL_law_565 : decode cL_law 565 = .ok (.iconst 4, 1) := by decide +kernel
theorem dL_law_566 : decode cL_law 566 = .ok (.invokevirtual 196, 3) := by decide +kernel
theorem dL_law_569 : decode cL_law 569 = .ok (.ifCond .lt 7, 3) := by decide +kernel
theorem dL_law_572 : decode cL_law 572 = .ok (.iconst 1, 1) := by decide +kernel
theorem dL_law_573 : decode cL_law 573 = .ok (.goto 4, 3) := by decide +kernel
theorem dL_law_576 : decode cL_law 576 = .ok (.iconst 0, 1) := by decide +kernel
theorem dL_law_577 : decode cL_law 577 = .ok (.iadd, 1) := by decide +kernel
theorem dL_law_578 : decode cL_law 578 = .ok (.istore 16, 2) := by decide +kernel
theorem dL_law_580 : decode cL_law 580 = .ok (.aload_n 3, 1) := by decide +kernel
theorem dL_law_581 : decode cL_law 581 = .ok (.iload 17, 2) := by decide +kernel
theorem dL_law_583 : decode cL_law 583 = .ok (.iload 9, 2) := by decide +kernel
theorem dL_law_585 : decode cL_law 585 = .ok (.invokevirtual 206, 3) := by decide +kernel
theorem dL_law_588 : decode cL_law 588 = .ok (.ifCond .eq 25, 3) := by decide +kernel
theorem dL_law_591 : decode cL_law 591 = .ok (.aload_n 3, 1) := by decide +kernel
theorem dL_law_592 : decode cL_law 592 = .ok (.iload 18, 2) := by decide +kernel
theorem dL_law_594 : decode cL_law 594 = .ok (.iload 9, 2) := by decide +kernel
theorem dL_law_596 : decode cL_law 596 = .ok (.invokevirtual 210, 3) := by decide +kernel
theorem dL_law_599 : decode cL_law 599 = .ok (.ifCond .eq 84, 3) := by decide +kernel
theorem dL_law_602 : decode cL_law 602 = .ok (.aload_n 3, 1) := by decide +kernel
theorem dL_law_603 : decode cL_law 603 = .ok (.iload 19, 2) := by decide +kernel
theorem dL_law_605 : decode cL_law 605 = .ok (.iload 9, 2) := by decide +kernel
theorem dL_law_607 : decode cL_law 607 = .ok (.invokevirtual 210, 3) := by decide +kernel
theorem dL_law_610 : decode cL_law 610 = .ok (.ifCond .eq 73, 3) := by decide +kernel
theorem dL_law_613 : decode cL_law 613 = .ok (.iload 20, 2) := by decide +kernel
theorem dL_law_615 : decode cL_law 615 = .ok (.ifCond .ne 7, 3) := by decide +kernel
theorem dL_law_618 : decode cL_law 618 = .ok (.iconst 1, 1) := by decide +kernel
theorem dL_law_619 : decode cL_law 619 = .ok (.goto 4, 3) := by decide +kernel
theorem dL_law_622 : decode cL_law 622 = .ok (.iconst 0, 1) := by decide +kernel
theorem dL_law_623 : decode cL_law 623 = .ok (.aload_n 3, 1) := by decide +kernel
theorem dL_law_624 : decode cL_law 624 = .ok (.iload 17, 2) := by decide +kernel
theorem dL_law_626 : decode cL_law 626 = .ok (.iload 9, 2) := by decide +kernel
theorem dL_law_628 : decode cL_law 628 = .ok (.invokevirtual 206, 3) := by decide +kernel
theorem dL_law_631 : decode cL_law 631 = .ok (.if_icmp .ne 52, 3) := by decide +kernel
theorem dL_law_634 : decode cL_law 634 = .ok (.iload 20, 2) := by decide +kernel
theorem dL_law_636 : decode cL_law 636 = .ok (.ifCond .le 33, 3) := by decide +kernel
theorem dL_law_639 : decode cL_law 639 = .ok (.aload_n 3, 1) := by decide +kernel
theorem dL_law_640 : decode cL_law 640 = .ok (.iload 17, 2) := by decide +kernel
theorem dL_law_642 : decode cL_law 642 = .ok (.iload 9, 2) := by decide +kernel
theorem dL_law_644 : decode cL_law 644 = .ok (.iload 20, 2) := by decide +kernel
theorem dL_law_646 : decode cL_law 646 = .ok (.iadd, 1) := by decide +kernel
theorem dL_law_647 : decode cL_law 647 = .ok (.invokevirtual 206, 3) := by decide +kernel
theorem dL_law_650 : decode cL_law 650 = .ok (.ifCond .eq 33, 3) := by decide +kernel
theorem dL_law_653 : decode cL_law 653 = .ok (.aload_n 3, 1) := by decide +kernel
theorem dL_law_654 : decode cL_law 654 = .ok (.iload 17, 2) := by decide +kernel
theorem dL_law_656 : decode cL_law 656 = .ok (.iload 9, 2) := by decide +kernel
theorem dL_law_658 : decode cL_law 658 = .ok (.iload 20, 2) := by decide +kernel
theorem dL_law_660 : decode cL_law 660 = .ok (.iadd, 1) := by decide +kernel
theorem dL_law_661 : decode cL_law 661 = .ok (.iconst 1, 1) := by decide +kernel
theorem dL_law_662 : decode cL_law 662 = .ok (.isub, 1) := by decide +kernel
theorem dL_law_663 : decode cL_law 663 = .ok (.invokevirtual 206, 3) := by decide +kernel
theorem dL_law_666 : decode cL_law 666 = .ok (.ifCond .ne 17, 3) := by decide +kernel
theorem dL_law_669 : decode cL_law 669 = .ok (.iload 20, 2) := by decide +kernel
theorem dL_law_671 : decode cL_law 671 = .ok (.iconst (-1), 1) := by decide +kernel
theorem dL_law_672 : decode cL_law 672 = .ok (.if_icmp .lt 11, 3) := by decide +kernel
theorem dL_law_675 : decode cL_law 675 = .ok (.iload 20, 2) := by decide +kernel
theorem dL_law_677 : decode cL_law 677 = .ok (.sipush 240, 3) := by decide +kernel
theorem dL_law_680 : decode cL_law 680 = .ok (.if_icmp .le 5, 3) := by decide +kernel
theorem dL_law_683 : decode cL_law 683 = .ok (.iconst 0, 1) := by decide +kernel
theorem dL_law_684 : decode cL_law 684 = .ok (.ireturn, 1) := by decide +kernel
theorem dL_law_685 : decode cL_law 685 = .ok (.aload_n 3, 1) := by decide +kernel
theorem dL_law_686 : decode cL_law 686 = .ok (.iload 17, 2) := by decide +kernel
theorem dL_law_688 : decode cL_law 688 = .ok (.iconst 3, 1) := by decide +kernel
theorem dL_law_689 : decode cL_law 689 = .ok (.invokevirtual 196, 3) := by decide +kernel
theorem dL_law_692 : decode cL_law 692 = .ok (.ifCond .ne 38, 3) := by decide +kernel
theorem dL_law_695 : decode cL_law 695 = .ok (.aload_n 3, 1) := by decide +kernel
theorem dL_law_696 : decode cL_law 696 = .ok (.iload 18, 2) := by decide +kernel
theorem dL_law_698 : decode cL_law 698 = .ok (.iload 9, 2) := by decide +kernel
theorem dL_law_700 : decode cL_law 700 = .ok (.invokevirtual 210, 3) := by decide +kernel
theorem dL_law_703 : decode cL_law 703 = .ok (.ifCond .eq 27, 3) := by decide +kernel
theorem dL_law_706 : decode cL_law 706 = .ok (.aload_n 3, 1) := by decide +kernel
theorem dL_law_707 : decode cL_law 707 = .ok (.iload 19, 2) := by decide +kernel
theorem dL_law_709 : decode cL_law 709 = .ok (.iload 9, 2) := by decide +kernel
theorem dL_law_711 : decode cL_law 711 = .ok (.invokevirtual 210, 3) := by decide +kernel
theorem dL_law_714 : decode cL_law 714 = .ok (.ifCond .eq 16, 3) := by decide +kernel
theorem dL_law_717 : decode cL_law 717 = .ok (.aload_n 3, 1) := by decide +kernel
theorem dL_law_718 : decode cL_law 718 = .ok (.iload 17, 2) := by decide +kernel
theorem dL_law_720 : decode cL_law 720 = .ok (.iload 9, 2) := by decide +kernel
theorem dL_law_722 : decode cL_law 722 = .ok (.invokevirtual 206, 3) := by decide +kernel
theorem dL_law_725 : decode cL_law 725 = .ok (.ifCond .ne 5, 3) := by decide +kernel
theorem dL_law_728 : decode cL_law 728 = .ok (.iconst 0, 1) := by decide +kernel
theorem dL_law_729 : decode cL_law 729 = .ok (.ireturn, 1) := by decide +kernel
theorem dL_law_730 : decode cL_law 730 = .ok (.iinc 17 1, 3) := by decide +kernel
theorem dL_law_733 : decode cL_law 733 = .ok (.goto (-218), 3) := by decide +kernel
theorem dL_law_736 : decode cL_law 736 = .ok (.iload 16, 2) := by decide +kernel
theorem dL_law_738 : decode cL_law 738 = .ok (.aload 10, 2) := by decide +kernel
theorem dL_law_740 : decode cL_law 740 = .ok (.iconst 1, 1) := by decide +kernel
theorem dL_law_741 : decode cL_law 741 = .ok (.iaload, 1) := by decide +kernel
theorem dL_law_742 : decode cL_law 742 = .ok (.if_icmp .eq 5, 3) := by decide +kernel
theorem dL_law_745 : decode cL_law 745 = .ok (.iconst 0, 1) := by decide +kernel
theorem dL_law_746 : decode cL_law 746 = .ok (.ireturn, 1) := by decide +kernel
theorem dL_law_747 : decode cL_law 747 = .ok (.iconst 0, 1) := by decide +kernel
theorem dL_law_748 : decode cL_law 748 = .ok (.istore 17, 2) := by decide +kernel
theorem dL_law_750 : decode cL_law 750 = .ok (.iload 17, 2) := by decide +kernel
theorem dL_law_752 : decode cL_law 752 = .ok (.iload 4, 2) := by decide +kernel
theorem dL_law_754 : decode cL_law 754 = .ok (.if_icmp .ge 274, 3) := by decide +kernel
theorem dL_law_757 : decode cL_law 757 = .ok (.aload_n 3, 1) := by decide +kernel
theorem dL_law_758 : decode cL_law 758 = .ok (.iload 17, 2) := by decide +kernel
theorem dL_law_760 : decode cL_law 760 = .ok (.iconst 3, 1) := by decide +kernel
theorem dL_law_761 : decode cL_law 761 = .ok (.invokevirtual 213, 3) := by decide +kernel
theorem dL_law_764 : decode cL_law 764 = .ok (.aload_n 3, 1) := by decide +kernel
theorem dL_law_765 : decode cL_law 765 = .ok (.iload 17, 2) := by decide +kernel
theorem dL_law_767 : decode cL_law 767 = .ok (.iconst 2, 1) := by decide +kernel
theorem dL_law_768 : decode cL_law 768 = .ok (.invokevirtual 213, 3) := by decide +kernel
theorem dL_law_771 : decode cL_law 771 = .ok (.aload 11, 2) := by decide +kernel
theorem dL_law_773 : decode cL_law 773 = .ok (.iload 17, 2) := by decide +kernel
theorem dL_law_775 : decode cL_law 775 = .ok (.iaload, 1) := by decide +kernel
theorem dL_law_776 : decode cL_law 776 = .ok (.isub, 1) := by decide +kernel
theorem dL_law_777 : decode cL_law 777 = .ok (.if_icmp .ne 46, 3) := by decide +kernel
theorem dL_law_780 : decode cL_law 780 = .ok (.aload_n 3, 1) := by decide +kernel
theorem dL_law_781 : decode cL_law 781 = .ok (.iload 17, 2) := by decide +kernel
theorem dL_law_783 : decode cL_law 783 = .ok (.iconst 3, 1) := by decide +kernel
theorem dL_law_784 : decode cL_law 784 = .ok (.invokevirtual 213, 3) := by decide +kernel
theorem dL_law_787 : decode cL_law 787 = .ok (.ifCond .lt 36, 3) := by decide +kernel
theorem dL_law_790 : decode cL_law 790 = .ok (.aload_n 3, 1) := by decide +kernel
theorem dL_law_791 : decode cL_law 791 = .ok (.iload 17, 2) := by decide +kernel
theorem dL_law_793 : decode cL_law 793 = .ok (.iconst 4, 1) := by decide +kernel
theorem dL_law_794 : decode cL_law 794 = .ok (.invokevirtual 213, 3) := by decide +kernel
theorem dL_law_797 : decode cL_law 797 = .ok (.aload 12, 2) := by decide +kernel
theorem dL_law_799 : decode cL_law 799 = .ok (.iload 17, 2) := by decide +kernel
theorem dL_law_801 : decode cL_law 801 = .ok (.iaload, 1) := by decide +kernel
theorem dL_law_802 : decode cL_law 802 = .ok (.if_icmp .ne 21, 3) := by decide +kernel
theorem dL_law_805 : decode cL_law 805 = .ok (.aload_n 3, 1) := by decide +kernel
theorem dL_law_806 : decode cL_law 806 = .ok (.iload 17, 2) := by decide +kernel
theorem dL_law_808 : decode cL_law 808 = .ok (.bipush 6, 2) := by decide +kernel
theorem dL_law_810 : decode cL_law 810 = .ok (.invokevirtual 213, 3) := by decide +kernel
theorem dL_law_813 : decode cL_law 813 = .ok (.aload_n 3, 1) := by decide +kernel
theorem dL_law_814 : decode cL_law 814 = .ok (.iload 17, 2) := by decide +kernel
theorem dL_law_816 : decode cL_law 816 = .ok (.iconst 5, 1) := by decide +kernel
theorem dL_law_817 : decode cL_law 817 = .ok (.invokevirtual 213, 3) := by decide +kernel
theorem dL_law_820 : decode cL_law 820 = .ok (.if_icmp .le 5, 3) := by decide +kernel
theorem dL_law_823 : decode cL_law 823 = .ok (.iconst 0, 1) := by decide +kernel
theorem dL_law_824 : decode cL_law 824 = .ok (.ireturn, 1) := by decide +kernel
theorem dL_law_825 : decode cL_law 825 = .ok (.iconst 0, 1) := by decide +kernel
theorem dL_law_826 : decode cL_law 826 = .ok (.istore 18, 2) := by decide +kernel
theorem dL_law_828 : decode cL_law 828 = .ok (.iload 18, 2) := by decide +kernel
theorem dL_law_830 : decode cL_law 830 = .ok (.iload 4, 2) := by decide +kernel
theorem dL_law_832 : decode cL_law 832 = .ok (.if_icmp .ge 190, 3) := by decide +kernel
theorem dL_law_835 : decode cL_law 835 = .ok (.aload_n 3, 1) := by decide +kernel
theorem dL_law_836 : decode cL_law 836 = .ok (.iload 17, 2) := by decide +kernel
theorem dL_law_838 : decode cL_law 838 = .ok (.iload 18, 2) := by decide +kernel
theorem dL_law_840 : decode cL_law 840 = .ok (.invokevirtual 216, 3) := by decide +kernel
theorem dL_law_843 : decode cL_law 843 = .ok (.istore 19, 2) := by decide +kernel
theorem dL_law_845 : decode cL_law 845 = .ok (.aload_n 3, 1) := by decide +kernel
theorem dL_law_846 : decode cL_law 846 = .ok (.iload 17, 2) := by decide +kernel
theorem dL_law_848 : decode cL_law 848 = .ok (.iload 18, 2) := by decide +kernel
theorem dL_law_850 : decode cL_law 850 = .ok (.invokevirtual 219, 3) := by decide +kernel
theorem dL_law_853 : decode cL_law 853 = .ok (.istore 20, 2) := by decide +kernel
theorem dL_law_855 : decode cL_law 855 = .ok (.iload 19, 2) := by decide +kernel
theorem dL_law_857 : decode cL_law 857 = .ok (.aload_n 3, 1) := by decide +kernel
theorem dL_law_858 : decode cL_law 858 = .ok (.iload 18, 2) := by decide +kernel
theorem dL_law_860 : decode cL_law 860 = .ok (.iload 17, 2) := by decide +kernel
theorem dL_law_862 : decode cL_law 862 = .ok (.invokevirtual 216, 3) := by decide +kernel
theorem dL_law_865 : decode cL_law 865 = .ok (.if_icmp .ne 52, 3) := by decide +kernel
theorem dL_law_868 : decode cL_law 868 = .ok (.iload 19, 2) := by decide +kernel
theorem dL_law_870 : decode cL_law 870 = .ok (.iconst 1, 1) := by decide +kernel
theorem dL_law_871 : decode cL_law 871 = .ok (.if_icmp .ge 7, 3) := by decide +kernel
theorem dL_law_874 : decode cL_law 874 = .ok (.iconst 1, 1) := by decide +kernel
theorem dL_law_875 : decode cL_law 875 = .ok (.goto 4, 3) := by decide +kernel
theorem dL_law_878 : decode cL_law 878 = .ok (.iconst 0, 1) := by decide +kernel
theorem dL_law_879 : decode cL_law 879 = .ok (.iload 20, 2) := by decide +kernel
theorem dL_law_881 : decode cL_law 881 = .ok (.ifCond .ge 7, 3) := by decide +kernel
theorem dL_law_884 : decode cL_law 884 = .ok (.iconst 1, 1) := by decide +kernel
theorem dL_law_885 : decode cL_law 885 = .ok (.goto 4, 3) := by decide +kernel
theorem dL_law_888 : decode cL_law 888 = .ok (.iconst 0, 1) := by decide +kernel
theorem dL_law_889 : decode cL_law 889 = .ok (.if_icmp .ne 28, 3) := by decide +kernel
theorem dL_law_892 : decode cL_law 892 = .ok (.iload 19, 2) := by decide +kernel
theorem dL_law_894 : decode cL_law 894 = .ok (.ifCond .ne 7, 3) := by decide +kernel
theorem dL_law_897 : decode cL_law 897 = .ok (.iconst 1, 1) := by decide +kernel
theorem dL_law_898 : decode cL_law 898 = .ok (.goto 4, 3) := by decide +kernel
theorem dL_law_901 : decode cL_law 901 = .ok (.iconst 0, 1) := by decide +kernel
theorem dL_law_902 : decode cL_law 902 = .ok (.iload 17, 2) := by decide +kernel
theorem dL_law_904 : decode cL_law 904 = .ok (.iload 18, 2) := by decide +kernel
theorem dL_law_906 : decode cL_law 906 = .ok (.if_icmp .ne 7, 3) := by decide +kernel
theorem dL_law_909 : decode cL_law 909 = .ok (.iconst 1, 1) := by decide +kernel
theorem dL_law_910 : decode cL_law 910 = .ok (.goto 4, 3) := by decide +kernel
theorem dL_law_913 : decode cL_law 913 = .ok (.iconst 0, 1) := by decide +kernel
theorem dL_law_914 : decode cL_law 914 = .ok (.if_icmp .eq 5, 3) := by decide +kernel
theorem dL_law_917 : decode cL_law 917 = .ok (.iconst 0, 1) := by decide +kernel
theorem dL_law_918 : decode cL_law 918 = .ok (.ireturn, 1) := by decide +kernel
theorem dL_law_919 : decode cL_law 919 = .ok (.iload 20, 2) := by decide +kernel
theorem dL_law_921 : decode cL_law 921 = .ok (.ifCond .ge 6, 3) := by decide +kernel
theorem dL_law_924 : decode cL_law 924 = .ok (.goto 92, 3) := by decide +kernel
theorem dL_law_927 : decode cL_law 927 = .ok (.aload_n 3, 1) := by decide +kernel
theorem dL_law_928 : decode cL_law 928 = .ok (.iload 20, 2) := by decide +kernel
theorem dL_law_930 : decode cL_law 930 = .ok (.iconst 0, 1) := by decide +kernel
theorem dL_law_931 : decode cL_law 931 = .ok (.invokevirtual 196, 3) := by decide +kernel
theorem dL_law_934 : decode cL_law 934 = .ok (.iload 17, 2) := by decide +kernel
theorem dL_law_936 : decode cL_law 936 = .ok (.if_icmp .ne 13, 3) := by decide +kernel
theorem dL_law_939 : decode cL_law 939 = .ok (.aload_n 3, 1) := by decide +kernel
theorem dL_law_940 : decode cL_law 940 = .ok (.iload 20, 2) := by decide +kernel
theorem dL_law_942 : decode cL_law 942 = .ok (.iconst 1, 1) := by decide +kernel
theorem dL_law_943 : decode cL_law 943 = .ok (.invokevirtual 196, 3) := by decide +kernel
theorem dL_law_946 : decode cL_law 946 = .ok (.goto 10, 3) := by decide +kernel
theorem dL_law_949 : decode cL_law 949 = .ok (.aload_n 3, 1) := by decide +kernel
theorem dL_law_950 : decode cL_law 950 = .ok (.iload 20, 2) := by decide +kernel
theorem dL_law_952 : decode cL_law 952 = .ok (.iconst 0, 1) := by decide +kernel
theorem dL_law_953 : decode cL_law 953 = .ok (.invokevirtual 196, 3) := by decide +kernel
theorem dL_law_956 : decode cL_law 956 = .ok (.istore 21, 2) := by decide +kernel
theorem dL_law_958 : decode cL_law 958 = .ok (.aload_n 3, 1) := by decide +kernel
theorem dL_law_959 : decode cL_law 959 = .ok (.iload 20, 2) := by decide +kernel
theorem dL_law_961 : decode cL_law 961 = .ok (.iload 9, 2) := by decide +kernel
theorem dL_law_963 : decode cL_law 963 = .ok (.invokevirtual 206, 3) := by decide +kernel
theorem dL_law_966 : decode cL_law 966 = .ok (.ifCond .eq 48, 3) := by decide +kernel
theorem dL_law_969 : decode cL_law 969 = .ok (.aload_n 3, 1) := by decide +kernel
theorem dL_law_970 : decode cL_law 970 = .ok (.iload 20, 2) := by decide +kernel
theorem dL_law_972 : decode cL_law 972 = .ok (.iconst 0, 1) := by decide +kernel
theorem dL_law_973 : decode cL_law 973 = .ok (.invokevirtual 196, 3) := by decide +kernel
theorem dL_law_976 : decode cL_law 976 = .ok (.iload 17, 2) := by decide +kernel
theorem dL_law_978 : decode cL_law 978 = .ok (.if_icmp .eq 15, 3) := by decide +kernel
theorem dL_law_981 : decode cL_law 981 = .ok (.aload_n 3, 1) := by decide +kernel
theorem dL_law_982 : decode cL_law 982 = .ok (.iload 20, 2) := by decide +kernel
theorem dL_law_984 : decode cL_law 984 = .ok (.iconst 1, 1) := by decide +kernel
theorem dL_law_985 : decode cL_law 985 = .ok (.invokevirtual 196, 3) := by decide +kernel
theorem dL_law_988 : decode cL_law 988 = .ok (.iload 17, 2) := by decide +kernel
theorem dL_law_990 : decode cL_law 990 = .ok (.if_icmp .ne 24, 3) := by decide +kernel
theorem dL_law_993 : decode cL_law 993 = .ok (.aload_n 3, 1) := by decide +kernel
theorem dL_law_994 : decode cL_law 994 = .ok (.iload 21, 2) := by decide +kernel
theorem dL_law_996 : decode cL_law 996 = .ok (.iload 18, 2) := by decide +kernel
theorem dL_law_998 : decode cL_law 998 = .ok (.invokevirtual 216, 3) := by decide +kernel
theorem dL_law_1001 : decode cL_law 1001 = .ok (.iload 19, 2) := by decide +kernel
theorem dL_law_1003 : decode cL_law 1003 = .ok (.aload_n 3, 1) := by decide +kernel
theorem dL_law_1004 : decode cL_law 1004 = .ok (.iload 20, 2) := by decide +kernel
theorem dL_law_1006 : decode cL_law 1006 = .ok (.iconst 2, 1) := by decide +kernel
theorem dL_law_1007 : decode cL_law 1007 = .ok (.invokevirtual 196, 3) := by decide +kernel
theorem dL_law_1010 : decode cL_law 1010 = .ok (.isub, 1) := by decide +kernel
theorem dL_law_1011 : decode cL_law 1011 = .ok (.if_icmp .eq 5, 3) := by decide +kernel
theorem dL_law_1014 : decode cL_law 1014 = .ok (.iconst 0, 1) := by decide +kernel
theorem dL_law_1015 : decode cL_law 1015 = .ok (.ireturn, 1) := by decide +kernel
theorem dL_law_1016 : decode cL_law 1016 = .ok (.iinc 18 1, 3) := by decide +kernel
theorem dL_law_1019 : decode cL_law 1019 = .ok (.goto (-191), 3) := by decide +kernel
theorem dL_law_1022 : decode cL_law 1022 = .ok (.iinc 17 1, 3) := by decide +kernel
theorem dL_law_1025 : decode cL_law 1025 = .ok (.goto (-275), 3) := by decide +kernel
theorem dL_law_1028 : decode cL_law 1028 = .ok (.aload_n 3, 1) := by decide +kernel
theorem dL_law_1029 : decode cL_law 1029 = .ok (.invokevirtual 222, 3) := by decide +kernel
theorem dL_law_1032 : decode cL_law 1032 = .ok (.lstore 17, 2) := by decide +kernel
theorem dL_law_1034 : decode cL_law 1034 = .ok (.bipush 13, 2) := by decide +kernel
theorem dL_law_1036 : decode cL_law 1036 = .ok (.newarray .int, 2) := by decide +kernel
theorem dL_law_1038 : decode cL_law 1038 = .ok (.astore 19, 2) := by decide +kernel
theorem dL_law_1040 : decode cL_law 1040 = .ok (.bipush 8, 2) := by decide +kernel
theorem dL_law_1042 : decode cL_law 1042 = .ok (.istore 20, 2) := by decide +kernel
theorem dL_law_1044 : decode cL_law 1044 = .ok (.iload 20, 2) := by decide +kernel
theorem dL_law_1046 : decode cL_law 1046 = .ok (.bipush 13, 2) := by decide +kernel
theorem dL_law_1048 : decode cL_law 1048 = .ok (.if_icmp .ge 21, 3) := by decide +kernel
theorem dL_law_1051 : decode cL_law 1051 = .ok (.aload 19, 2) := by decide +kernel
theorem dL_law_1053 : decode cL_law 1053 = .ok (.iload 20, 2) := by decide +kernel
theorem dL_law_1055 : decode cL_law 1055 = .ok (.aload_n 3, 1) := by decide +kernel
theorem dL_law_1056 : decode cL_law 1056 = .ok (.iconst 1, 1) := by decide +kernel
theorem dL_law_1057 : decode cL_law 1057 = .ok (.iload 20, 2) := by decide +kernel
theorem dL_law_1059 : decode cL_law 1059 = .ok (.invokevirtual 226, 3) := by decide +kernel
theorem dL_law_1062 : decode cL_law 1062 = .ok (.iastore, 1) := by decide +kernel
theorem dL_law_1063 : decode cL_law 1063 = .ok (.iinc 20 1, 3) := by decide +kernel
theorem dL_law_1066 : decode cL_law 1066 = .ok (.goto (-22), 3) := by decide +kernel
theorem dL_law_1069 : decode cL_law 1069 = .ok (.iload 8, 2) := by decide +kernel
theorem dL_law_1071 : decode cL_law 1071 = .ok (.iconst 5, 1) := by decide +kernel
theorem dL_law_1072 : decode cL_law 1072 = .ok (.ishr, 1) := by decide +kernel
theorem dL_law_1073 : decode cL_law 1073 = .ok (.iload 6, 2) := by decide +kernel
theorem dL_law_1075 : decode cL_law 1075 = .ok (.invokestatic 83, 3) := by decide +kernel
theorem dL_law_1078 : decode cL_law 1078 = .ok (.istore 20, 2) := by decide +kernel
theorem dL_law_1080 : decode cL_law 1080 = .ok (.aload_n 3, 1) := by decide +kernel
theorem dL_law_1081 : decode cL_law 1081 = .ok (.iload 20, 2) := by decide +kernel
theorem dL_law_1083 : decode cL_law 1083 = .ok (.invokevirtual 229, 3) := by decide +kernel
theorem dL_law_1086 : decode cL_law 1086 = .ok (.istore 21, 2) := by decide +kernel
theorem dL_law_1088 : decode cL_law 1088 = .ok (.aload_n 3, 1) := by decide +kernel
theorem dL_law_1089 : decode cL_law 1089 = .ok (.iconst 1, 1) := by decide +kernel
theorem dL_law_1090 : decode cL_law 1090 = .ok (.iload 8, 2) := by decide +kernel
theorem dL_law_1092 : decode cL_law 1092 = .ok (.iconst 4, 1) := by decide +kernel
theorem dL_law_1093 : decode cL_law 1093 = .ok (.ishr, 1) := by decide +kernel
theorem dL_law_1094 : decode cL_law 1094 = .ok (.bipush 20, 2) := by decide +kernel
theorem dL_law_1096 : decode cL_law 1096 = .ok (.invokestatic 83, 3) := by decide +kernel
theorem dL_law_1099 : decode cL_law 1099 = .ok (.iadd, 1) := by decide +kernel
theorem dL_law_1100 : decode cL_law 1100 = .ok (.invokevirtual 232, 3) := by decide +kernel
theorem dL_law_1103 : decode cL_law 1103 = .ok (.istore 22, 2) := by decide +kernel
theorem dL_law_1105 : decode cL_law 1105 = .ok (.aload_n 3, 1) := by decide +kernel
theorem dL_law_1106 : decode cL_law 1106 = .ok (.iconst 1, 1) := by decide +kernel
theorem dL_law_1107 : decode cL_law 1107 = .ok (.iload 8, 2) := by decide +kernel
theorem dL_law_1109 : decode cL_law 1109 = .ok (.bipush 6, 2) := by decide +kernel
theorem dL_law_1111 : decode cL_law 1111 = .ok (.ishr, 1) := by decide +kernel
theorem dL_law_1112 : decode cL_law 1112 = .ok (.bipush 20, 2) := by decide +kernel
theorem dL_law_1114 : decode cL_law 1114 = .ok (.invokestatic 83, 3) := by decide +kernel
theorem dL_law_1117 : decode cL_law 1117 = .ok (.iadd, 1) := by decide +kernel
theorem dL_law_1118 : decode cL_law 1118 = .ok (.invokevirtual 235, 3) := by decide +kernel
theorem dL_law_1121 : decode cL_law 1121 = .ok (.istore 23, 2) := by decide +kernel
theorem dL_law_1123 : decode cL_law 1123 = .ok (.aload_n 3, 1) := by decide +kernel
theorem dL_law_1124 : decode cL_law 1124 = .ok (.invokevirtual 222, 3) := by decide +kernel
theorem dL_law_1127 : decode cL_law 1127 = .ok (.lload 17, 2) := by decide +kernel
theorem dL_law_1129 : decode cL_law 1129 = .ok (.lcmp, 1) := by decide +kernel
theorem dL_law_1130 : decode cL_law 1130 = .ok (.ifCond .ne 71, 3) := by decide +kernel
theorem dL_law_1133 : decode cL_law 1133 = .ok (.iload 21, 2) := by decide +kernel
theorem dL_law_1135 : decode cL_law 1135 = .ok (.ifCond .ne 7, 3) := by decide +kernel
theorem dL_law_1138 : decode cL_law 1138 = .ok (.iconst 1, 1) := by decide +kernel
theorem dL_law_1139 : decode cL_law 1139 = .ok (.goto 4, 3) := by decide +kernel
theorem dL_law_1142 : decode cL_law 1142 = .ok (.iconst 0, 1) := by decide +kernel
theorem dL_law_1143 : decode cL_law 1143 = .ok (.aload_n 3, 1) := by decide +kernel
theorem dL_law_1144 : decode cL_law 1144 = .ok (.iload 20, 2) := by decide +kernel
theorem dL_law_1146 : decode cL_law 1146 = .ok (.iconst 3, 1) := by decide +kernel
theorem dL_law_1147 : decode cL_law 1147 = .ok (.invokevirtual 193, 3) := by decide +kernel
theorem dL_law_1150 : decode cL_law 1150 = .ok (.iconst 2, 1) := by decide +kernel
theorem dL_law_1151 : decode cL_law 1151 = .ok (.if_icmp .ne 7, 3) := by decide +kernel
theorem dL_law_1154 : decode cL_law 1154 = .ok (.iconst 1, 1) := by decide +kernel
theorem dL_law_1155 : decode cL_law 1155 = .ok (.goto 4, 3) := by decide +kernel
theorem dL_law_1158 : decode cL_law 1158 = .ok (.iconst 0, 1) := by decide +kernel
theorem dL_law_1159 : decode cL_law 1159 = .ok (.if_icmp .ne 42, 3) := by decide +kernel
theorem dL_law_1162 : decode cL_law 1162 = .ok (.iload 21, 2) := by decide +kernel
theorem dL_law_1164 : decode cL_law 1164 = .ok (.iconst (-1), 1) := by decide +kernel
theorem dL_law_1165 : decode cL_law 1165 = .ok (.if_icmp .lt 36, 3) := by decide +kernel
theorem dL_law_1168 : decode cL_law 1168 = .ok (.iload 21, 2) := by decide +kernel
theorem dL_law_1170 : decode cL_law 1170 = .ok (.sipush 360, 3) := by decide +kernel
theorem dL_law_1173 : decode cL_law 1173 = .ok (.if_icmp .gt 28, 3) := by decide +kernel
theorem dL_law_1176 : decode cL_law 1176 = .ok (.iload 22, 2) := by decide +kernel
theorem dL_law_1178 : decode cL_law 1178 = .ok (.ifCond .lt 23, 3) := by decide +kernel
theorem dL_law_1181 : decode cL_law 1181 = .ok (.iload 22, 2) := by decide +kernel
theorem dL_law_1183 : decode cL_law 1183 = .ok (.iload 5, 2) := by decide +kernel
theorem dL_law_1185 : decode cL_law 1185 = .ok (.if_icmp .ge 16, 3) := by decide +kernel
theorem dL_law_1188 : decode cL_law 1188 = .ok (.iload 23, 2) := by decide +kernel
theorem dL_law_1190 : decode cL_law 1190 = .ok (.iconst (-1), 1) := by decide +kernel
theorem dL_law_1191 : decode cL_law 1191 = .ok (.if_icmp .lt 10, 3) := by decide +kernel
theorem dL_law_1194 : decode cL_law 1194 = .ok (.iload 23, 2) := by decide +kernel
theorem dL_law_1196 : decode cL_law 1196 = .ok (.iload 4, 2) := by decide +kernel
theorem dL_law_1198 : decode cL_law 1198 = .ok (.if_icmp .lt 5, 3) := by decide +kernel
theorem dL_law_1201 : decode cL_law 1201 = .ok (.iconst 0, 1) := by decide +kernel
theorem dL_law_1202 : decode cL_law 1202 = .ok (.ireturn, 1) := by decide +kernel
theorem dL_law_1203 : decode cL_law 1203 = .ok (.aload_n 3, 1) := by decide +kernel
theorem dL_law_1204 : decode cL_law 1204 = .ok (.bipush 12, 2) := by decide +kernel
theorem dL_law_1206 : decode cL_law 1206 = .ok (.invokevirtual 187, 3) := by decide +kernel
theorem dL_law_1209 : decode cL_law 1209 = .ok (.istore 24, 2) := by decide +kernel
theorem dL_law_1211 : decode cL_law 1211 = .ok (.aload_n 3, 1) := by decide +kernel
theorem dL_law_1212 : decode cL_law 1212 = .ok (.iconst 1, 1) := by decide +kernel
theorem dL_law_1213 : decode cL_law 1213 = .ok (.invokevirtual 151, 3) := by decide +kernel
theorem dL_law_1216 : decode cL_law 1216 = .ok (.istore 25, 2) := by decide +kernel
theorem dL_law_1218 : decode cL_law 1218 = .ok (.aload_n 2, 1) := by decide +kernel
theorem dL_law_1219 : decode cL_law 1219 = .ok (.invokevirtual 238, 3) := by decide +kernel
theorem dL_law_1222 : decode cL_law 1222 = .ok (.iload 25, 2) := by decide +kernel
theorem dL_law_1224 : decode cL_law 1224 = .ok (.if_icmp .ne 49, 3) := by decide +kernel
theorem dL_law_1227 : decode cL_law 1227 = .ok (.aload_n 3, 1) := by decide +kernel
theorem dL_law_1228 : decode cL_law 1228 = .ok (.iconst 0, 1) := by decide +kernel
theorem dL_law_1229 : decode cL_law 1229 = .ok (.invokevirtual 187, 3) := by decide +kernel
theorem dL_law_1232 : decode cL_law 1232 = .ok (.iload 9, 2) := by decide +kernel
theorem dL_law_1234 : decode cL_law 1234 = .ok (.iconst 1, 1) := by decide +kernel
theorem dL_law_1235 : decode cL_law 1235 = .ok (.iadd, 1) := by decide +kernel
theorem dL_law_1236 : decode cL_law 1236 = .ok (.if_icmp .ne 37, 3) := by decide +kernel
theorem dL_law_1239 : decode cL_law 1239 = .ok (.aload_n 3, 1) := by decide +kernel
theorem dL_law_1240 : decode cL_law 1240 = .ok (.bipush 10, 2) := by decide +kernel
theorem dL_law_1242 : decode cL_law 1242 = .ok (.invokevirtual 187, 3) := by decide +kernel
theorem dL_law_1245 : decode cL_law 1245 = .ok (.aload 10, 2) := by decide +kernel
theorem dL_law_1247 : decode cL_law 1247 = .ok (.iconst 2, 1) := by decide +kernel
theorem dL_law_1248 : decode cL_law 1248 = .ok (.iaload, 1) := by decide +kernel
theorem dL_law_1249 : decode cL_law 1249 = .ok (.iload 25, 2) := by decide +kernel
theorem dL_law_1251 : decode cL_law 1251 = .ok (.iadd, 1) := by decide +kernel
theorem dL_law_1252 : decode cL_law 1252 = .ok (.if_icmp .ne 21, 3) := by decide +kernel
theorem dL_law_1255 : decode cL_law 1255 = .ok (.iload 21, 2) := by decide +kernel
theorem dL_law_1257 : decode cL_law 1257 = .ok (.ifCond .le 18, 3) := by decide +kernel
theorem dL_law_1260 : decode cL_law 1260 = .ok (.aload_n 3, 1) := by decide +kernel
theorem dL_law_1261 : decode cL_law 1261 = .ok (.iload 20, 2) := by decide +kernel
theorem dL_law_1263 : decode cL_law 1263 = .ok (.invokevirtual 229, 3) := by decide +kernel
theorem dL_law_1266 : decode cL_law 1266 = .ok (.iload 21, 2) := by decide +kernel
theorem dL_law_1268 : decode cL_law 1268 = .ok (.iconst 1, 1) := by decide +kernel
theorem dL_law_1269 : decode cL_law 1269 = .ok (.isub, 1) := by decide +kernel
theorem dL_law_1270 : decode cL_law 1270 = .ok (.if_icmp .eq 5, 3) := by decide +kernel
theorem dL_law_1273 : decode cL_law 1273 = .ok (.iconst 0, 1) := by decide +kernel
theorem dL_law_1274 : decode cL_law 1274 = .ok (.ireturn, 1) := by decide +kernel
theorem dL_law_1275 : decode cL_law 1275 = .ok (.bipush 8, 2) := by decide +kernel
theorem dL_law_1277 : decode cL_law 1277 = .ok (.istore 26, 2) := by decide +kernel
theorem dL_law_1279 : decode cL_law 1279 = .ok (.iload 26, 2) := by decide +kernel
theorem dL_law_1281 : decode cL_law 1281 = .ok (.bipush 13, 2) := by decide +kernel
theorem dL_law_1283 : decode cL_law 1283 = .ok (.if_icmp .ge 25, 3) := by decide +kernel
theorem dL_law_1286 : decode cL_law 1286 = .ok (.aload_n 3, 1) := by decide +kernel
theorem dL_law_1287 : decode cL_law 1287 = .ok (.iload 26, 2) := by decide +kernel
theorem dL_law_1289 : decode cL_law 1289 = .ok (.invokevirtual 187, 3) := by decide +kernel
theorem dL_law_1292 : decode cL_law 1292 = .ok (.aload 19, 2) := by decide +kernel
theorem dL_law_1294 : decode cL_law 1294 = .ok (.iload 26, 2) := by decide +kernel
theorem dL_law_1296 : decode cL_law 1296 = .ok (.iaload, 1) := by decide +kernel
theorem dL_law_1297 : decode cL_law 1297 = .ok (.if_icmp .eq 5, 3) := by decide +kernel
theorem dL_law_1300 : decode cL_law 1300 = .ok (.iconst 0, 1) := by decide +kernel
theorem dL_law_1301 : decode cL_law 1301 = .ok (.ireturn, 1) := by decide +kernel
theorem dL_law_1302 : decode cL_law 1302 = .ok (.iinc 26 1, 3) := by decide +kernel
theorem dL_law_1305 : decode cL_law 1305 = .ok (.goto (-26), 3) := by decide +kernel
theorem dL_law_1308 : decode cL_law 1308 = .ok (.iload 15, 2) := by decide +kernel
theorem dL_law_1310 : decode cL_law 1310 = .ok (.ineg, 1) := by decide +kernel
theorem dL_law_1311 : decode cL_law 1311 = .ok (.istore 26, 2) := by decide +kernel
theorem dL_law_1313 : decode cL_law 1313 = .ok (.iconst 0, 1) := by decide +kernel
theorem dL_law_1314 : decode cL_law 1314 = .ok (.istore 27, 2) := by decide +kernel
theorem dL_law_1316 : decode cL_law 1316 = .ok (.iload 27, 2) := by decide +kernel
theorem dL_law_1318 : decode cL_law 1318 = .ok (.iload 5, 2) := by decide +kernel
theorem dL_law_1320 : decode cL_law 1320 = .ok (.if_icmp .ge 21, 3) := by decide +kernel
theorem dL_law_1323 : decode cL_law 1323 = .ok (.iload 26, 2) := by decide +kernel
theorem dL_law_1325 : decode cL_law 1325 = .ok (.aload_n 3, 1) := by decide +kernel
theorem dL_law_1326 : decode cL_law 1326 = .ok (.iload 27, 2) := by decide +kernel
theorem dL_law_1328 : decode cL_law 1328 = .ok (.iconst 5, 1) := by decide +kernel
theorem dL_law_1329 : decode cL_law 1329 = .ok (.invokevirtual 196, 3) := by decide +kernel
theorem dL_law_1332 : decode cL_law 1332 = .ok (.iadd, 1) := by decide +kernel
theorem dL_law_1333 : decode cL_law 1333 = .ok (.istore 26, 2) := by decide +kernel
theorem dL_law_1335 : decode cL_law 1335 = .ok (.iinc 27 1, 3) := by decide +kernel
theorem dL_law_1338 : decode cL_law 1338 = .ok (.goto (-22), 3) := by decide +kernel
theorem dL_law_1341 : decode cL_law 1341 = .ok (.iload 26, 2) := by decide +kernel
theorem dL_law_1343 : decode cL_law 1343 = .ok (.aload_n 3, 1) := by decide +kernel
theorem dL_law_1344 : decode cL_law 1344 = .ok (.bipush 11, 2) := by decide +kernel
theorem dL_law_1346 : decode cL_law 1346 = .ok (.invokevirtual 187, 3) := by decide +kernel
theorem dL_law_1349 : decode cL_law 1349 = .ok (.iadd, 1) := by decide +kernel
theorem dL_law_1350 : decode cL_law 1350 = .ok (.iload 13, 2) := by decide +kernel
theorem dL_law_1352 : decode cL_law 1352 = .ok (.isub, 1) := by decide +kernel
theorem dL_law_1353 : decode cL_law 1353 = .ok (.aload 10, 2) := by decide +kernel
theorem dL_law_1355 : decode cL_law 1355 = .ok (.iconst 1, 1) := by decide +kernel
theorem dL_law_1356 : decode cL_law 1356 = .ok (.iaload, 1) := by decide +kernel
theorem dL_law_1357 : decode cL_law 1357 = .ok (.if_icmp .ne 28, 3) := by decide +kernel
theorem dL_law_1360 : decode cL_law 1360 = .ok (.aload_n 3, 1) := by decide +kernel
theorem dL_law_1361 : decode cL_law 1361 = .ok (.bipush 12, 2) := by decide +kernel
theorem dL_law_1363 : decode cL_law 1363 = .ok (.invokevirtual 187, 3) := by decide +kernel
theorem dL_law_1366 : decode cL_law 1366 = .ok (.iload 24, 2) := by decide +kernel
theorem dL_law_1368 : decode cL_law 1368 = .ok (.if_icmp .lt 17, 3) := by decide +kernel
theorem dL_law_1371 : decode cL_law 1371 = .ok (.aload_n 3, 1) := by decide +kernel
theorem dL_law_1372 : decode cL_law 1372 = .ok (.bipush 12, 2) := by decide +kernel
theorem dL_law_1374 : decode cL_law 1374 = .ok (.invokevirtual 187, 3) := by decide +kernel
theorem dL_law_1377 : decode cL_law 1377 = .ok (.iload 24, 2) := by decide +kernel
theorem dL_law_1379 : decode cL_law 1379 = .ok (.isub, 1) := by decide +kernel
theorem dL_law_1380 : decode cL_law 1380 = .ok (.iload 26, 2) := by decide +kernel
theorem dL_law_1382 : decode cL_law 1382 = .ok (.if_icmp .le 5, 3) := by decide +kernel
theorem dL_law_1385 : decode cL_law 1385 = .ok (.iconst 0, 1) := by decide +kernel
theorem dL_law_1386 : decode cL_law 1386 = .ok (.ireturn, 1) := by decide +kernel
theorem dL_law_1387 : decode cL_law 1387 = .ok (.iinc 7 1, 3) := by decide +kernel
theorem dL_law_1390 : decode cL_law 1390 = .ok (.goto (-1331), 3) := by decide +kernel
theorem dL_law_1393 : decode cL_law 1393 = .ok (.aload_n 2, 1) := by decide +kernel
theorem dL_law_1394 : decode cL_law 1394 = .ok (.aload_n 3, 1) := by decide +kernel
theorem dL_law_1395 : decode cL_law 1395 = .ok (.invokevirtual 240, 3) := by decide +kernel
theorem dL_law_1398 : decode cL_law 1398 = .ok (.ireturn, 1) := by decide +kernel
