theorem d_CDLaw_law_I_670 : decode code 670 = .ok (.iinc 4 6, 3) := by decide +kernel
theorem d_CDLaw_law_I_673 : decode code 673 = .ok (.goto (-650), 3) := by decide +kernel
theorem d_CDLaw_law_I_23 : decode code 23 = .ok (.iload 4, 2) := by decide +kernel
theorem d_CDLaw_law_I_25 : decode code 25 = .ok (.aload_n 0, 1) := by decide +kernel
theorem d_CDLaw_law_I_26 : decode code 26 = .ok (.arraylength, 1) := by decide +kernel
theorem d_CDLaw_law_I_27 : decode code 27 = .ok (.bipush 6, 2) := by decide +kernel
theorem d_CDLaw_law_I_29 : decode code 29 = .ok (.isub, 1) := by decide +kernel
theorem d_CDLaw_law_I_30 : decode code 30 = .ok (.if_icmp .gt 646, 3) := by decide +kernel
theorem d_CDLaw_law_I_676 : decode code 676 = .ok (.iconst 1, 1) := by decide +kernel
theorem d_CDLaw_law_I_677 : decode code 677 = .ok (.ireturn, 1) := by decide +kernel
theorem d_CDLaw_law_I_40 : decode code 40 = .ok (.tableswitch 630 0 15 #[80, 184, 220, 233, 246, 259, 320, 333, 370, 383, 396, 433, 482, 519, 568, 605], 80) := by decide +kernel
theorem d_CDLaw_law_I_33 : decode code 33 = .ok (.aload_n 0, 1) := by decide +kernel
theorem d_CDLaw_law_I_34 : decode code 34 = .ok (.iload 4, 2) := by decide +kernel
theorem d_CDLaw_law_I_36 : decode code 36 = .ok (.iaload, 1) := by decide +kernel
theorem d_CDLaw_law_I_37 : decode code 37 = .ok (.bipush 15, 2) := by decide +kernel
theorem d_CDLaw_law_I_39 : decode code 39 = .ok (.iand, 1) := by decide +kernel
theorem d_CDLaw_law_I_0 : decode code 0 = .ok (.new 8, 3) := by decide +kernel
theorem d_CDLaw_law_I_3 : decode code 3 = .ok (.dup, 1) := by decide +kernel
theorem d_CDLaw_law_I_4 : decode code 4 = .ok (.invokespecial 21, 3) := by decide +kernel
theorem d_CDLaw_law_I_7 : decode code 7 = .ok (.astore_n 1, 1) := by decide +kernel
theorem d_CDLaw_law_I_8 : decode code 8 = .ok (.new 22, 3) := by decide +kernel
theorem d_CDLaw_law_I_11 : decode code 11 = .ok (.dup, 1) := by decide +kernel
theorem d_CDLaw_law_I_12 : decode code 12 = .ok (.invokespecial 24, 3) := by decide +kernel
theorem d_CDLaw_law_I_15 : decode code 15 = .ok (.astore_n 2, 1) := by decide +kernel
theorem d_CDLaw_law_I_16 : decode code 16 = .ok (.iconst 1, 1) := by decide +kernel
theorem d_CDLaw_law_I_17 : decode code 17 = .ok (.newarray .long, 2) := by decide +kernel
theorem d_CDLaw_law_I_19 : decode code 19 = .ok (.astore_n 3, 1) := by decide +kernel
theorem d_CDLaw_law_I_20 : decode code 20 = .ok (.iconst 0, 1) := by decide +kernel
theorem d_CDLaw_law_I_21 : decode code 21 = .ok (.istore 4, 2) := by decide +kernel
theorem d_CDLaw_law_I_273 : decode code 273 = .ok (.aload_n 1, 1) := by decide +kernel
theorem d_CDLaw_law_I_274 : decode code 274 = .ok (.invokevirtual 43, 3) := by decide +kernel
theorem d_CDLaw_law_I_277 : decode code 277 = .ok (.aload_n 2, 1) := by decide +kernel
theorem d_CDLaw_law_I_278 : decode code 278 = .ok (.invokevirtual 46, 3) := by decide +kernel
theorem d_CDLaw_law_I_281 : decode code 281 = .ok (.if_icmp .eq 389, 3) := by decide +kernel
theorem d_CDLaw_law_I_286 : decode code 286 = .ok (.aload_n 1, 1) := by decide +kernel
theorem d_CDLaw_law_I_287 : decode code 287 = .ok (.invokevirtual 47, 3) := by decide +kernel
theorem d_CDLaw_law_I_290 : decode code 290 = .ok (.aload_n 2, 1) := by decide +kernel
theorem d_CDLaw_law_I_291 : decode code 291 = .ok (.invokevirtual 50, 3) := by decide +kernel
theorem d_CDLaw_law_I_294 : decode code 294 = .ok (.if_icmp .eq 376, 3) := by decide +kernel
theorem d_CDLaw_law_I_299 : decode code 299 = .ok (.aload_n 1, 1) := by decide +kernel
theorem d_CDLaw_law_I_300 : decode code 300 = .ok (.aload_n 0, 1) := by decide +kernel
theorem d_CDLaw_law_I_301 : decode code 301 = .ok (.iload 4, 2) := by decide +kernel
theorem d_CDLaw_law_I_303 : decode code 303 = .ok (.iconst 1, 1) := by decide +kernel
theorem d_CDLaw_law_I_304 : decode code 304 = .ok (.iadd, 1) := by decide +kernel
theorem d_CDLaw_law_I_305 : decode code 305 = .ok (.iaload, 1) := by decide +kernel
theorem d_CDLaw_law_I_306 : decode code 306 = .ok (.aload_n 0, 1) := by decide +kernel
theorem d_CDLaw_law_I_307 : decode code 307 = .ok (.iload 4, 2) := by decide +kernel
theorem d_CDLaw_law_I_309 : decode code 309 = .ok (.iconst 2, 1) := by decide +kernel
theorem d_CDLaw_law_I_310 : decode code 310 = .ok (.iadd, 1) := by decide +kernel
theorem d_CDLaw_law_I_311 : decode code 311 = .ok (.iaload, 1) := by decide +kernel
theorem d_CDLaw_law_I_312 : decode code 312 = .ok (.aload_n 0, 1) := by decide +kernel
theorem d_CDLaw_law_I_313 : decode code 313 = .ok (.iload 4, 2) := by decide +kernel
theorem d_CDLaw_law_I_315 : decode code 315 = .ok (.iconst 3, 1) := by decide +kernel
theorem d_CDLaw_law_I_316 : decode code 316 = .ok (.iadd, 1) := by decide +kernel
theorem d_CDLaw_law_I_317 : decode code 317 = .ok (.iaload, 1) := by decide +kernel
theorem d_CDLaw_law_I_318 : decode code 318 = .ok (.aload_n 0, 1) := by decide +kernel
theorem d_CDLaw_law_I_319 : decode code 319 = .ok (.iload 4, 2) := by decide +kernel
theorem d_CDLaw_law_I_321 : decode code 321 = .ok (.iconst 4, 1) := by decide +kernel
theorem d_CDLaw_law_I_322 : decode code 322 = .ok (.iadd, 1) := by decide +kernel
theorem d_CDLaw_law_I_323 : decode code 323 = .ok (.iaload, 1) := by decide +kernel
theorem d_CDLaw_law_I_324 : decode code 324 = .ok (.invokevirtual 51, 3) := by decide +kernel
theorem d_CDLaw_law_I_327 : decode code 327 = .ok (.aload_n 2, 1) := by decide +kernel
theorem d_CDLaw_law_I_328 : decode code 328 = .ok (.aload_n 0, 1) := by decide +kernel
theorem d_CDLaw_law_I_329 : decode code 329 = .ok (.iload 4, 2) := by decide +kernel
theorem d_CDLaw_law_I_331 : decode code 331 = .ok (.iconst 1, 1) := by decide +kernel
theorem d_CDLaw_law_I_332 : decode code 332 = .ok (.iadd, 1) := by decide +kernel
theorem d_CDLaw_law_I_333 : decode code 333 = .ok (.iaload, 1) := by decide +kernel
theorem d_CDLaw_law_I_334 : decode code 334 = .ok (.aload_n 0, 1) := by decide +kernel
theorem d_CDLaw_law_I_335 : decode code 335 = .ok (.iload 4, 2) := by decide +kernel
theorem d_CDLaw_law_I_337 : decode code 337 = .ok (.iconst 2, 1) := by decide +kernel
theorem d_CDLaw_law_I_338 : decode code 338 = .ok (.iadd, 1) := by decide +kernel
theorem d_CDLaw_law_I_339 : decode code 339 = .ok (.iaload, 1) := by decide +kernel
theorem d_CDLaw_law_I_340 : decode code 340 = .ok (.aload_n 0, 1) := by decide +kernel
theorem d_CDLaw_law_I_341 : decode code 341 = .ok (.iload 4, 2) := by decide +kernel
theorem d_CDLaw_law_I_343 : decode code 343 = .ok (.iconst 3, 1) := by decide +kernel
theorem d_CDLaw_law_I_344 : decode code 344 = .ok (.iadd, 1) := by decide +kernel
theorem d_CDLaw_law_I_345 : decode code 345 = .ok (.iaload, 1) := by decide +kernel
theorem d_CDLaw_law_I_346 : decode code 346 = .ok (.aload_n 0, 1) := by decide +kernel
theorem d_CDLaw_law_I_347 : decode code 347 = .ok (.iload 4, 2) := by decide +kernel
theorem d_CDLaw_law_I_349 : decode code 349 = .ok (.iconst 4, 1) := by decide +kernel
theorem d_CDLaw_law_I_350 : decode code 350 = .ok (.iadd, 1) := by decide +kernel
theorem d_CDLaw_law_I_351 : decode code 351 = .ok (.iaload, 1) := by decide +kernel
theorem d_CDLaw_law_I_352 : decode code 352 = .ok (.invokevirtual 55, 3) := by decide +kernel
theorem d_CDLaw_law_I_355 : decode code 355 = .ok (.if_icmp .eq 315, 3) := by decide +kernel
theorem d_CDLaw_law_I_360 : decode code 360 = .ok (.aload_n 1, 1) := by decide +kernel
theorem d_CDLaw_law_I_361 : decode code 361 = .ok (.invokevirtual 56, 3) := by decide +kernel
theorem d_CDLaw_law_I_364 : decode code 364 = .ok (.aload_n 2, 1) := by decide +kernel
theorem d_CDLaw_law_I_365 : decode code 365 = .ok (.invokevirtual 59, 3) := by decide +kernel
theorem d_CDLaw_law_I_368 : decode code 368 = .ok (.if_icmp .eq 302, 3) := by decide +kernel
theorem d_CDLaw_law_I_373 : decode code 373 = .ok (.aload_n 1, 1) := by decide +kernel
theorem d_CDLaw_law_I_374 : decode code 374 = .ok (.aload_n 0, 1) := by decide +kernel
theorem d_CDLaw_law_I_375 : decode code 375 = .ok (.iload 4, 2) := by decide +kernel
theorem d_CDLaw_law_I_377 : decode code 377 = .ok (.iconst 1, 1) := by decide +kernel
theorem d_CDLaw_law_I_378 : decode code 378 = .ok (.iadd, 1) := by decide +kernel
theorem d_CDLaw_law_I_379 : decode code 379 = .ok (.iaload, 1) := by decide +kernel
theorem d_CDLaw_law_I_380 : decode code 380 = .ok (.aload_n 0, 1) := by decide +kernel
theorem d_CDLaw_law_I_381 : decode code 381 = .ok (.iload 4, 2) := by decide +kernel
theorem d_CDLaw_law_I_383 : decode code 383 = .ok (.iconst 2, 1) := by decide +kernel
theorem d_CDLaw_law_I_384 : decode code 384 = .ok (.iadd, 1) := by decide +kernel
theorem d_CDLaw_law_I_385 : decode code 385 = .ok (.iaload, 1) := by decide +kernel
theorem d_CDLaw_law_I_386 : decode code 386 = .ok (.invokevirtual 60, 3) := by decide +kernel
theorem d_CDLaw_law_I_389 : decode code 389 = .ok (.aload_n 2, 1) := by decide +kernel
theorem d_CDLaw_law_I_390 : decode code 390 = .ok (.aload_n 0, 1) := by decide +kernel
theorem d_CDLaw_law_I_391 : decode code 391 = .ok (.iload 4, 2) := by decide +kernel
theorem d_CDLaw_law_I_393 : decode code 393 = .ok (.iconst 1, 1) := by decide +kernel
theorem d_CDLaw_law_I_394 : decode code 394 = .ok (.iadd, 1) := by decide +kernel
theorem d_CDLaw_law_I_395 : decode code 395 = .ok (.iaload, 1) := by decide +kernel
theorem d_CDLaw_law_I_396 : decode code 396 = .ok (.aload_n 0, 1) := by decide +kernel
theorem d_CDLaw_law_I_397 : decode code 397 = .ok (.iload 4, 2) := by decide +kernel
theorem d_CDLaw_law_I_399 : decode code 399 = .ok (.iconst 2, 1) := by decide +kernel
theorem d_CDLaw_law_I_400 : decode code 400 = .ok (.iadd, 1) := by decide +kernel
theorem d_CDLaw_law_I_401 : decode code 401 = .ok (.iaload, 1) := by decide +kernel
theorem d_CDLaw_law_I_402 : decode code 402 = .ok (.invokevirtual 64, 3) := by decide +kernel
theorem d_CDLaw_law_I_405 : decode code 405 = .ok (.if_icmp .eq 265, 3) := by decide +kernel
theorem d_CDLaw_law_I_410 : decode code 410 = .ok (.aload_n 1, 1) := by decide +kernel
theorem d_CDLaw_law_I_411 : decode code 411 = .ok (.invokevirtual 65, 3) := by decide +kernel
theorem d_CDLaw_law_I_414 : decode code 414 = .ok (.aload_n 2, 1) := by decide +kernel
theorem d_CDLaw_law_I_415 : decode code 415 = .ok (.invokevirtual 68, 3) := by decide +kernel
theorem d_CDLaw_law_I_418 : decode code 418 = .ok (.if_icmp .eq 252, 3) := by decide +kernel
theorem d_CDLaw_law_I_436 : decode code 436 = .ok (.aload_n 1, 1) := by decide +kernel
theorem d_CDLaw_law_I_437 : decode code 437 = .ok (.aload_n 0, 1) := by decide +kernel
theorem d_CDLaw_law_I_438 : decode code 438 = .ok (.iload 4, 2) := by decide +kernel
theorem d_CDLaw_law_I_440 : decode code 440 = .ok (.iconst 1, 1) := by decide +kernel
theorem d_CDLaw_law_I_441 : decode code 441 = .ok (.iadd, 1) := by decide +kernel
theorem d_CDLaw_law_I_442 : decode code 442 = .ok (.iaload, 1) := by decide +kernel
theorem d_CDLaw_law_I_443 : decode code 443 = .ok (.aload_n 0, 1) := by decide +kernel
theorem d_CDLaw_law_I_444 : decode code 444 = .ok (.iload 4, 2) := by decide +kernel
theorem d_CDLaw_law_I_446 : decode code 446 = .ok (.iconst 2, 1) := by decide +kernel
theorem d_CDLaw_law_I_447 : decode code 447 = .ok (.iadd, 1) := by decide +kernel
theorem d_CDLaw_law_I_448 : decode code 448 = .ok (.iaload, 1) := by decide +kernel
theorem d_CDLaw_law_I_449 : decode code 449 = .ok (.invokevirtual 73, 3) := by decide +kernel
theorem d_CDLaw_law_I_452 : decode code 452 = .ok (.aload_n 2, 1) := by decide +kernel
theorem d_CDLaw_law_I_453 : decode code 453 = .ok (.aload_n 0, 1) := by decide +kernel
theorem d_CDLaw_law_I_454 : decode code 454 = .ok (.iload 4, 2) := by decide +kernel
theorem d_CDLaw_law_I_456 : decode code 456 = .ok (.iconst 1, 1) := by decide +kernel
theorem d_CDLaw_law_I_457 : decode code 457 = .ok (.iadd, 1) := by decide +kernel
theorem d_CDLaw_law_I_458 : decode code 458 = .ok (.iaload, 1) := by decide +kernel
theorem d_CDLaw_law_I_459 : decode code 459 = .ok (.aload_n 0, 1) := by decide +kernel
theorem d_CDLaw_law_I_460 : decode code 460 = .ok (.iload 4, 2) := by decide +kernel
theorem d_CDLaw_law_I_462 : decode code 462 = .ok (.iconst 2, 1) := by decide +kernel
theorem d_CDLaw_law_I_463 : decode code 463 = .ok (.iadd, 1) := by decide +kernel
theorem d_CDLaw_law_I_464 : decode code 464 = .ok (.iaload, 1) := by decide +kernel
theorem d_CDLaw_law_I_465 : decode code 465 = .ok (.invokevirtual 76, 3) := by decide +kernel
theorem d_CDLaw_law_I_468 : decode code 468 = .ok (.if_icmp .eq 202, 3) := by decide +kernel
theorem d_CDLaw_law_I_473 : decode code 473 = .ok (.aload_n 1, 1) := by decide +kernel
theorem d_CDLaw_law_I_474 : decode code 474 = .ok (.aload_n 0, 1) := by decide +kernel
theorem d_CDLaw_law_I_475 : decode code 475 = .ok (.iload 4, 2) := by decide +kernel
theorem d_CDLaw_law_I_477 : decode code 477 = .ok (.iconst 1, 1) := by decide +kernel
theorem d_CDLaw_law_I_478 : decode code 478 = .ok (.iadd, 1) := by decide +kernel
theorem d_CDLaw_law_I_479 : decode code 479 = .ok (.iaload, 1) := by decide +kernel
theorem d_CDLaw_law_I_480 : decode code 480 = .ok (.aload_n 0, 1) := by decide +kernel
theorem d_CDLaw_law_I_481 : decode code 481 = .ok (.iload 4, 2) := by decide +kernel
theorem d_CDLaw_law_I_483 : decode code 483 = .ok (.iconst 2, 1) := by decide +kernel
theorem d_CDLaw_law_I_484 : decode code 484 = .ok (.iadd, 1) := by decide +kernel
theorem d_CDLaw_law_I_485 : decode code 485 = .ok (.iaload, 1) := by decide +kernel
theorem d_CDLaw_law_I_486 : decode code 486 = .ok (.aload_n 0, 1) := by decide +kernel
theorem d_CDLaw_law_I_487 : decode code 487 = .ok (.iload 4, 2) := by decide +kernel
theorem d_CDLaw_law_I_489 : decode code 489 = .ok (.iconst 3, 1) := by decide +kernel
theorem d_CDLaw_law_I_490 : decode code 490 = .ok (.iadd, 1) := by decide +kernel
theorem d_CDLaw_law_I_491 : decode code 491 = .ok (.iaload, 1) := by decide +kernel
theorem d_CDLaw_law_I_492 : decode code 492 = .ok (.invokevirtual 77, 3) := by decide +kernel
theorem d_CDLaw_law_I_495 : decode code 495 = .ok (.aload_n 2, 1) := by decide +kernel
theorem d_CDLaw_law_I_496 : decode code 496 = .ok (.aload_n 0, 1) := by decide +kernel
theorem d_CDLaw_law_I_497 : decode code 497 = .ok (.iload 4, 2) := by decide +kernel
theorem d_CDLaw_law_I_499 : decode code 499 = .ok (.iconst 1, 1) := by decide +kernel
theorem d_CDLaw_law_I_500 : decode code 500 = .ok (.iadd, 1) := by decide +kernel
theorem d_CDLaw_law_I_501 : decode code 501 = .ok (.iaload, 1) := by decide +kernel
theorem d_CDLaw_law_I_502 : decode code 502 = .ok (.aload_n 0, 1) := by decide +kernel
theorem d_CDLaw_law_I_503 : decode code 503 = .ok (.iload 4, 2) := by decide +kernel
theorem d_CDLaw_law_I_505 : decode code 505 = .ok (.iconst 2, 1) := by decide +kernel
theorem d_CDLaw_law_I_506 : decode code 506 = .ok (.iadd, 1) := by decide +kernel
theorem d_CDLaw_law_I_507 : decode code 507 = .ok (.iaload, 1) := by decide +kernel
theorem d_CDLaw_law_I_508 : decode code 508 = .ok (.aload_n 0, 1) := by decide +kernel
theorem d_CDLaw_law_I_509 : decode code 509 = .ok (.iload 4, 2) := by decide +kernel
theorem d_CDLaw_law_I_511 : decode code 511 = .ok (.iconst 3, 1) := by decide +kernel
theorem d_CDLaw_law_I_512 : decode code 512 = .ok (.iadd, 1) := by decide +kernel
theorem d_CDLaw_law_I_513 : decode code 513 = .ok (.iaload, 1) := by decide +kernel
theorem d_CDLaw_law_I_514 : decode code 514 = .ok (.invokevirtual 81, 3) := by decide +kernel
theorem d_CDLaw_law_I_517 : decode code 517 = .ok (.if_icmp .eq 153, 3) := by decide +kernel
theorem d_CDLaw_law_I_522 : decode code 522 = .ok (.aload_n 1, 1) := by decide +kernel
theorem d_CDLaw_law_I_523 : decode code 523 = .ok (.aload_n 0, 1) := by decide +kernel
theorem d_CDLaw_law_I_524 : decode code 524 = .ok (.iload 4, 2) := by decide +kernel
theorem d_CDLaw_law_I_526 : decode code 526 = .ok (.iconst 1, 1) := by decide +kernel
theorem d_CDLaw_law_I_527 : decode code 527 = .ok (.iadd, 1) := by decide +kernel
theorem d_CDLaw_law_I_528 : decode code 528 = .ok (.iaload, 1) := by decide +kernel
theorem d_CDLaw_law_I_529 : decode code 529 = .ok (.aload_n 0, 1) := by decide +kernel
theorem d_CDLaw_law_I_530 : decode code 530 = .ok (.iload 4, 2) := by decide +kernel
theorem d_CDLaw_law_I_532 : decode code 532 = .ok (.iconst 2, 1) := by decide +kernel
theorem d_CDLaw_law_I_533 : decode code 533 = .ok (.iadd, 1) := by decide +kernel
theorem d_CDLaw_law_I_534 : decode code 534 = .ok (.iaload, 1) := by decide +kernel
theorem d_CDLaw_law_I_535 : decode code 535 = .ok (.invokevirtual 82, 3) := by decide +kernel
theorem d_CDLaw_law_I_538 : decode code 538 = .ok (.aload_n 2, 1) := by decide +kernel
theorem d_CDLaw_law_I_539 : decode code 539 = .ok (.aload_n 0, 1) := by decide +kernel
theorem d_CDLaw_law_I_540 : decode code 540 = .ok (.iload 4, 2) := by decide +kernel
theorem d_CDLaw_law_I_542 : decode code 542 = .ok (.iconst 1, 1) := by decide +kernel
theorem d_CDLaw_law_I_543 : decode code 543 = .ok (.iadd, 1) := by decide +kernel
theorem d_CDLaw_law_I_544 : decode code 544 = .ok (.iaload, 1) := by decide +kernel
theorem d_CDLaw_law_I_545 : decode code 545 = .ok (.aload_n 0, 1) := by decide +kernel
theorem d_CDLaw_law_I_546 : decode code 546 = .ok (.iload 4, 2) := by decide +kernel
theorem d_CDLaw_law_I_548 : decode code 548 = .ok (.iconst 2, 1) := by decide +kernel
theorem d_CDLaw_law_I_549 : decode code 549 = .ok (.iadd, 1) := by decide +kernel
theorem d_CDLaw_law_I_550 : decode code 550 = .ok (.iaload, 1) := by decide +kernel
theorem d_CDLaw_law_I_551 : decode code 551 = .ok (.invokevirtual 85, 3) := by decide +kernel
theorem d_CDLaw_law_I_554 : decode code 554 = .ok (.if_icmp .eq 116, 3) := by decide +kernel
theorem d_CDLaw_law_I_559 : decode code 559 = .ok (.aload_n 1, 1) := by decide +kernel
theorem d_CDLaw_law_I_560 : decode code 560 = .ok (.aload_n 0, 1) := by decide +kernel
theorem d_CDLaw_law_I_561 : decode code 561 = .ok (.iload 4, 2) := by decide +kernel
theorem d_CDLaw_law_I_563 : decode code 563 = .ok (.iconst 1, 1) := by decide +kernel
theorem d_CDLaw_law_I_564 : decode code 564 = .ok (.iadd, 1) := by decide +kernel
theorem d_CDLaw_law_I_565 : decode code 565 = .ok (.iaload, 1) := by decide +kernel
theorem d_CDLaw_law_I_566 : decode code 566 = .ok (.aload_n 0, 1) := by decide +kernel
theorem d_CDLaw_law_I_567 : decode code 567 = .ok (.iload 4, 2) := by decide +kernel
theorem d_CDLaw_law_I_569 : decode code 569 = .ok (.iconst 2, 1) := by decide +kernel
theorem d_CDLaw_law_I_570 : decode code 570 = .ok (.iadd, 1) := by decide +kernel
theorem d_CDLaw_law_I_571 : decode code 571 = .ok (.iaload, 1) := by decide +kernel
theorem d_CDLaw_law_I_572 : decode code 572 = .ok (.aload_n 0, 1) := by decide +kernel
theorem d_CDLaw_law_I_573 : decode code 573 = .ok (.iload 4, 2) := by decide +kernel
theorem d_CDLaw_law_I_575 : decode code 575 = .ok (.iconst 3, 1) := by decide +kernel
theorem d_CDLaw_law_I_576 : decode code 576 = .ok (.iadd, 1) := by decide +kernel
theorem d_CDLaw_law_I_577 : decode code 577 = .ok (.iaload, 1) := by decide +kernel
theorem d_CDLaw_law_I_578 : decode code 578 = .ok (.invokevirtual 86, 3) := by decide +kernel
theorem d_CDLaw_law_I_581 : decode code 581 = .ok (.aload_n 2, 1) := by decide +kernel
theorem d_CDLaw_law_I_582 : decode code 582 = .ok (.aload_n 0, 1) := by decide +kernel
theorem d_CDLaw_law_I_583 : decode code 583 = .ok (.iload 4, 2) := by decide +kernel
theorem d_CDLaw_law_I_585 : decode code 585 = .ok (.iconst 1, 1) := by decide +kernel
theorem d_CDLaw_law_I_586 : decode code 586 = .ok (.iadd, 1) := by decide +kernel
theorem d_CDLaw_law_I_587 : decode code 587 = .ok (.iaload, 1) := by decide +kernel
theorem d_CDLaw_law_I_588 : decode code 588 = .ok (.aload_n 0, 1) := by decide +kernel
theorem d_CDLaw_law_I_589 : decode code 589 = .ok (.iload 4, 2) := by decide +kernel
theorem d_CDLaw_law_I_591 : decode code 591 = .ok (.iconst 2, 1) := by decide +kernel
theorem d_CDLaw_law_I_592 : decode code 592 = .ok (.iadd, 1) := by decide +kernel
theorem d_CDLaw_law_I_593 : decode code 593 = .ok (.iaload, 1) := by decide +kernel
theorem d_CDLaw_law_I_594 : decode code 594 = .ok (.aload_n 0, 1) := by decide +kernel
theorem d_CDLaw_law_I_595 : decode code 595 = .ok (.iload 4, 2) := by decide +kernel
theorem d_CDLaw_law_I_597 : decode code 597 = .ok (.iconst 3, 1) := by decide +kernel
theorem d_CDLaw_law_I_598 : decode code 598 = .ok (.iadd, 1) := by decide +kernel
theorem d_CDLaw_law_I_599 : decode code 599 = .ok (.iaload, 1) := by decide +kernel
theorem d_CDLaw_law_I_600 : decode code 600 = .ok (.invokevirtual 89, 3) := by decide +kernel
theorem d_CDLaw_law_I_603 : decode code 603 = .ok (.if_icmp .eq 67, 3) := by decide +kernel
theorem d_CDLaw_law_I_608 : decode code 608 = .ok (.aload_n 1, 1) := by decide +kernel
theorem d_CDLaw_law_I_609 : decode code 609 = .ok (.aload_n 0, 1) := by decide +kernel
theorem d_CDLaw_law_I_610 : decode code 610 = .ok (.iload 4, 2) := by decide +kernel
theorem d_CDLaw_law_I_612 : decode code 612 = .ok (.iconst 1, 1) := by decide +kernel
theorem d_CDLaw_law_I_613 : decode code 613 = .ok (.iadd, 1) := by decide +kernel
theorem d_CDLaw_law_I_614 : decode code 614 = .ok (.iaload, 1) := by decide +kernel
theorem d_CDLaw_law_I_615 : decode code 615 = .ok (.aload_n 0, 1) := by decide +kernel
theorem d_CDLaw_law_I_616 : decode code 616 = .ok (.iload 4, 2) := by decide +kernel
theorem d_CDLaw_law_I_618 : decode code 618 = .ok (.iconst 2, 1) := by decide +kernel
theorem d_CDLaw_law_I_619 : decode code 619 = .ok (.iadd, 1) := by decide +kernel
theorem d_CDLaw_law_I_620 : decode code 620 = .ok (.iaload, 1) := by decide +kernel
theorem d_CDLaw_law_I_621 : decode code 621 = .ok (.invokevirtual 90, 3) := by decide +kernel
theorem d_CDLaw_law_I_624 : decode code 624 = .ok (.aload_n 2, 1) := by decide +kernel
theorem d_CDLaw_law_I_625 : decode code 625 = .ok (.aload_n 0, 1) := by decide +kernel
theorem d_CDLaw_law_I_626 : decode code 626 = .ok (.iload 4, 2) := by decide +kernel
theorem d_CDLaw_law_I_628 : decode code 628 = .ok (.iconst 1, 1) := by decide +kernel
theorem d_CDLaw_law_I_629 : decode code 629 = .ok (.iadd, 1) := by decide +kernel
theorem d_CDLaw_law_I_630 : decode code 630 = .ok (.iaload, 1) := by decide +kernel
theorem d_CDLaw_law_I_631 : decode code 631 = .ok (.aload_n 0, 1) := by decide +kernel
theorem d_CDLaw_law_I_632 : decode code 632 = .ok (.iload 4, 2) := by decide +kernel
theorem d_CDLaw_law_I_634 : decode code 634 = .ok (.iconst 2, 1) := by decide +kernel
theorem d_CDLaw_law_I_635 : decode code 635 = .ok (.iadd, 1) := by decide +kernel
theorem d_CDLaw_law_I_636 : decode code 636 = .ok (.iaload, 1) := by decide +kernel
theorem d_CDLaw_law_I_637 : decode code 637 = .ok (.invokevirtual 93, 3) := by decide +kernel
theorem d_CDLaw_law_I_640 : decode code 640 = .ok (.if_icmp .eq 30, 3) := by decide +kernel
theorem d_CDLaw_law_I_260 : decode code 260 = .ok (.aload_n 1, 1) := by decide +kernel
theorem d_CDLaw_law_I_261 : decode code 261 = .ok (.invokevirtual 39, 3) := by decide +kernel
theorem d_CDLaw_law_I_264 : decode code 264 = .ok (.aload_n 2, 1) := by decide +kernel
theorem d_CDLaw_law_I_265 : decode code 265 = .ok (.invokevirtual 42, 3) := by decide +kernel
theorem d_CDLaw_law_I_268 : decode code 268 = .ok (.if_icmp .eq 402, 3) := by decide +kernel
theorem d_CDLaw_law_I_423 : decode code 423 = .ok (.aload_n 1, 1) := by decide +kernel
theorem d_CDLaw_law_I_424 : decode code 424 = .ok (.invokevirtual 69, 3) := by decide +kernel
theorem d_CDLaw_law_I_427 : decode code 427 = .ok (.aload_n 2, 1) := by decide +kernel
theorem d_CDLaw_law_I_428 : decode code 428 = .ok (.invokevirtual 72, 3) := by decide +kernel
theorem d_CDLaw_law_I_431 : decode code 431 = .ok (.if_icmp .eq 239, 3) := by decide +kernel
theorem d_CDLaw_law_I_120 : decode code 120 = .ok (.aload_n 1, 1) := by decide +kernel
theorem d_CDLaw_law_I_121 : decode code 121 = .ok (.aload_n 0, 1) := by decide +kernel
theorem d_CDLaw_law_I_122 : decode code 122 = .ok (.iload 4, 2) := by decide +kernel
theorem d_CDLaw_law_I_124 : decode code 124 = .ok (.iconst 1, 1) := by decide +kernel
theorem d_CDLaw_law_I_125 : decode code 125 = .ok (.iadd, 1) := by decide +kernel
theorem d_CDLaw_law_I_126 : decode code 126 = .ok (.iaload, 1) := by decide +kernel
theorem d_CDLaw_law_I_127 : decode code 127 = .ok (.aload_n 0, 1) := by decide +kernel
theorem d_CDLaw_law_I_128 : decode code 128 = .ok (.iload 4, 2) := by decide +kernel
theorem d_CDLaw_law_I_130 : decode code 130 = .ok (.iconst 2, 1) := by decide +kernel
theorem d_CDLaw_law_I_131 : decode code 131 = .ok (.iadd, 1) := by decide +kernel
theorem d_CDLaw_law_I_132 : decode code 132 = .ok (.iaload, 1) := by decide +kernel
theorem d_CDLaw_law_I_133 : decode code 133 = .ok (.aload_n 0, 1) := by decide +kernel
theorem d_CDLaw_law_I_134 : decode code 134 = .ok (.iload 4, 2) := by decide +kernel
theorem d_CDLaw_law_I_136 : decode code 136 = .ok (.iconst 3, 1) := by decide +kernel
theorem d_CDLaw_law_I_137 : decode code 137 = .ok (.iadd, 1) := by decide +kernel
theorem d_CDLaw_law_I_138 : decode code 138 = .ok (.iaload, 1) := by decide +kernel
theorem d_CDLaw_law_I_139 : decode code 139 = .ok (.aload_n 0, 1) := by decide +kernel
theorem d_CDLaw_law_I_140 : decode code 140 = .ok (.iload 4, 2) := by decide +kernel
theorem d_CDLaw_law_I_142 : decode code 142 = .ok (.iconst 4, 1) := by decide +kernel
theorem d_CDLaw_law_I_143 : decode code 143 = .ok (.iadd, 1) := by decide +kernel
theorem d_CDLaw_law_I_144 : decode code 144 = .ok (.iaload, 1) := by decide +kernel
theorem d_CDLaw_law_I_145 : decode code 145 = .ok (.aload_n 0, 1) := by decide +kernel
theorem d_CDLaw_law_I_146 : decode code 146 = .ok (.iload 4, 2) := by decide +kernel
theorem d_CDLaw_law_I_148 : decode code 148 = .ok (.iconst 5, 1) := by decide +kernel
theorem d_CDLaw_law_I_149 : decode code 149 = .ok (.iadd, 1) := by decide +kernel
theorem d_CDLaw_law_I_150 : decode code 150 = .ok (.iaload, 1) := by decide +kernel
theorem d_CDLaw_law_I_151 : decode code 151 = .ok (.aload_n 3, 1) := by decide +kernel
theorem d_CDLaw_law_I_152 : decode code 152 = .ok (.invokestatic 25, 3) := by decide +kernel
theorem d_CDLaw_law_I_155 : decode code 155 = .ok (.istore 5, 2) := by decide +kernel
theorem d_CDLaw_law_I_157 : decode code 157 = .ok (.aload_n 2, 1) := by decide +kernel
theorem d_CDLaw_law_I_158 : decode code 158 = .ok (.aload_n 0, 1) := by decide +kernel
theorem d_CDLaw_law_I_159 : decode code 159 = .ok (.iload 4, 2) := by decide +kernel
theorem d_CDLaw_law_I_161 : decode code 161 = .ok (.iconst 1, 1) := by decide +kernel
theorem d_CDLaw_law_I_162 : decode code 162 = .ok (.iadd, 1) := by decide +kernel
theorem d_CDLaw_law_I_163 : decode code 163 = .ok (.iaload, 1) := by decide +kernel
theorem d_CDLaw_law_I_164 : decode code 164 = .ok (.aload_n 0, 1) := by decide +kernel
theorem d_CDLaw_law_I_165 : decode code 165 = .ok (.iload 4, 2) := by decide +kernel
theorem d_CDLaw_law_I_167 : decode code 167 = .ok (.iconst 2, 1) := by decide +kernel
theorem d_CDLaw_law_I_168 : decode code 168 = .ok (.iadd, 1) := by decide +kernel
theorem d_CDLaw_law_I_169 : decode code 169 = .ok (.iaload, 1) := by decide +kernel
theorem d_CDLaw_law_I_170 : decode code 170 = .ok (.aload_n 0, 1) := by decide +kernel
theorem d_CDLaw_law_I_171 : decode code 171 = .ok (.iload 4, 2) := by decide +kernel
theorem d_CDLaw_law_I_173 : decode code 173 = .ok (.iconst 3, 1) := by decide +kernel
theorem d_CDLaw_law_I_174 : decode code 174 = .ok (.iadd, 1) := by decide +kernel
theorem d_CDLaw_law_I_175 : decode code 175 = .ok (.iaload, 1) := by decide +kernel
theorem d_CDLaw_law_I_176 : decode code 176 = .ok (.aload_n 0, 1) := by decide +kernel
theorem d_CDLaw_law_I_177 : decode code 177 = .ok (.iload 4, 2) := by decide +kernel
theorem d_CDLaw_law_I_179 : decode code 179 = .ok (.iconst 4, 1) := by decide +kernel
theorem d_CDLaw_law_I_180 : decode code 180 = .ok (.iadd, 1) := by decide +kernel
theorem d_CDLaw_law_I_181 : decode code 181 = .ok (.iaload, 1) := by decide +kernel
theorem d_CDLaw_law_I_182 : decode code 182 = .ok (.aload_n 0, 1) := by decide +kernel
theorem d_CDLaw_law_I_183 : decode code 183 = .ok (.iload 4, 2) := by decide +kernel
theorem d_CDLaw_law_I_185 : decode code 185 = .ok (.iconst 5, 1) := by decide +kernel
theorem d_CDLaw_law_I_186 : decode code 186 = .ok (.iadd, 1) := by decide +kernel
theorem d_CDLaw_law_I_187 : decode code 187 = .ok (.iaload, 1) := by decide +kernel
theorem d_CDLaw_law_I_188 : decode code 188 = .ok (.invokevirtual 30, 3) := by decide +kernel
theorem d_CDLaw_law_I_191 : decode code 191 = .ok (.istore 6, 2) := by decide +kernel
theorem d_CDLaw_law_I_193 : decode code 193 = .ok (.aload_n 2, 1) := by decide +kernel
theorem d_CDLaw_law_I_194 : decode code 194 = .ok (.invokevirtual 31, 3) := by decide +kernel
theorem d_CDLaw_law_I_197 : decode code 197 = .ok (.iload 5, 2) := by decide +kernel
theorem d_CDLaw_law_I_199 : decode code 199 = .ok (.if_icmp .eq 5, 3) := by decide +kernel
theorem d_CDLaw_law_I_204 : decode code 204 = .ok (.iload 5, 2) := by decide +kernel
theorem d_CDLaw_law_I_206 : decode code 206 = .ok (.ifCond .ne 15, 3) := by decide +kernel
theorem d_CDLaw_law_I_209 : decode code 209 = .ok (.aload_n 3, 1) := by decide +kernel
theorem d_CDLaw_law_I_210 : decode code 210 = .ok (.iconst 0, 1) := by decide +kernel
theorem d_CDLaw_law_I_211 : decode code 211 = .ok (.laload, 1) := by decide +kernel
theorem d_CDLaw_law_I_212 : decode code 212 = .ok (.iload 6, 2) := by decide +kernel
theorem d_CDLaw_law_I_214 : decode code 214 = .ok (.i2l, 1) := by decide +kernel
theorem d_CDLaw_law_I_215 : decode code 215 = .ok (.lcmp, 1) := by decide +kernel
theorem d_CDLaw_law_I_216 : decode code 216 = .ok (.ifCond .eq 5, 3) := by decide +kernel
theorem d_CDLaw_law_I_221 : decode code 221 = .ok (.goto 449, 3) := by decide +kernel
theorem d_CDLaw_law_I_224 : decode code 224 = .ok (.aload_n 1, 1) := by decide +kernel
theorem d_CDLaw_law_I_225 : decode code 225 = .ok (.aload_n 0, 1) := by decide +kernel
theorem d_CDLaw_law_I_226 : decode code 226 = .ok (.iload 4, 2) := by decide +kernel
theorem d_CDLaw_law_I_228 : decode code 228 = .ok (.iconst 1, 1) := by decide +kernel
theorem d_CDLaw_law_I_229 : decode code 229 = .ok (.iadd, 1) := by decide +kernel
theorem d_CDLaw_law_I_230 : decode code 230 = .ok (.iaload, 1) := by decide +kernel
theorem d_CDLaw_law_I_231 : decode code 231 = .ok (.invokestatic 35, 3) := by decide +kernel
theorem d_CDLaw_law_I_234 : decode code 234 = .ok (.istore 5, 2) := by decide +kernel
theorem d_CDLaw_law_I_236 : decode code 236 = .ok (.aload_n 2, 1) := by decide +kernel
theorem d_CDLaw_law_I_237 : decode code 237 = .ok (.aload_n 0, 1) := by decide +kernel
theorem d_CDLaw_law_I_238 : decode code 238 = .ok (.iload 4, 2) := by decide +kernel
theorem d_CDLaw_law_I_240 : decode code 240 = .ok (.iconst 1, 1) := by decide +kernel
theorem d_CDLaw_law_I_241 : decode code 241 = .ok (.iadd, 1) := by decide +kernel
theorem d_CDLaw_law_I_242 : decode code 242 = .ok (.iaload, 1) := by decide +kernel
theorem d_CDLaw_law_I_243 : decode code 243 = .ok (.invokevirtual 38, 3) := by decide +kernel
theorem d_CDLaw_law_I_246 : decode code 246 = .ok (.aload_n 2, 1) := by decide +kernel
theorem d_CDLaw_law_I_247 : decode code 247 = .ok (.invokevirtual 31, 3) := by decide +kernel
theorem d_CDLaw_law_I_250 : decode code 250 = .ok (.iload 5, 2) := by decide +kernel
theorem d_CDLaw_law_I_252 : decode code 252 = .ok (.if_icmp .eq 5, 3) := by decide +kernel
theorem d_CDLaw_law_I_257 : decode code 257 = .ok (.goto 413, 3) := by decide +kernel
theorem d_CDLaw_law_I_645 : decode code 645 = .ok (.aload_n 1, 1) := by decide +kernel
theorem d_CDLaw_law_I_646 : decode code 646 = .ok (.aload_n 0, 1) := by decide +kernel
theorem d_CDLaw_law_I_647 : decode code 647 = .ok (.iload 4, 2) := by decide +kernel
theorem d_CDLaw_law_I_649 : decode code 649 = .ok (.iconst 1, 1) := by decide +kernel
theorem d_CDLaw_law_I_650 : decode code 650 = .ok (.iadd, 1) := by decide +kernel
theorem d_CDLaw_law_I_651 : decode code 651 = .ok (.iaload, 1) := by decide +kernel
theorem d_CDLaw_law_I_652 : decode code 652 = .ok (.invokevirtual 94, 3) := by decide +kernel
theorem d_CDLaw_law_I_655 : decode code 655 = .ok (.aload_n 2, 1) := by decide +kernel
theorem d_CDLaw_law_I_656 : decode code 656 = .ok (.aload_n 0, 1) := by decide +kernel
theorem d_CDLaw_law_I_657 : decode code 657 = .ok (.iload 4, 2) := by decide +kernel
theorem d_CDLaw_law_I_659 : decode code 659 = .ok (.iconst 1, 1) := by decide +kernel
theorem d_CDLaw_law_I_660 : decode code 660 = .ok (.iadd, 1) := by decide +kernel
theorem d_CDLaw_law_I_661 : decode code 661 = .ok (.iaload, 1) := by decide +kernel
theorem d_CDLaw_law_I_662 : decode code 662 = .ok (.invokevirtual 98, 3) := by decide +kernel
theorem d_CDLaw_law_I_665 : decode code 665 = .ok (.if_icmp .eq 5, 3) := by decide +kernel
