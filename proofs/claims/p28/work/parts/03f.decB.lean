theorem dL_isSo_270 : decode cL_isSo 270 = .ok (.iconst 1, 1) := by decide +kernel
theorem dL_isSo_271 : decode cL_isSo 271 = .ok (.invokevirtual 95, 3) := by decide +kernel
theorem dL_isSo_274 : decode cL_isSo 274 = .ok (.aload 5, 2) := by decide +kernel
theorem dL_isSo_276 : decode cL_isSo 276 = .ok (.iconst 2, 1) := by decide +kernel
theorem dL_isSo_277 : decode cL_isSo 277 = .ok (.iload 10, 2) := by decide +kernel
theorem dL_isSo_279 : decode cL_isSo 279 = .ok (.imul, 1) := by decide +kernel
theorem dL_isSo_280 : decode cL_isSo 280 = .ok (.iconst 1, 1) := by decide +kernel
theorem dL_isSo_281 : decode cL_isSo 281 = .ok (.iadd, 1) := by decide +kernel
theorem dL_isSo_282 : decode cL_isSo 282 = .ok (.iaload, 1) := by decide +kernel
theorem dL_isSo_283 : decode cL_isSo 283 = .ok (.if_icmp .ne 19, 3) := by decide +kernel
theorem dL_isSo_286 : decode cL_isSo 286 = .ok (.aload_n 0, 1) := by decide +kernel
theorem dL_isSo_287 : decode cL_isSo 287 = .ok (.iload 10, 2) := by decide +kernel
theorem dL_isSo_289 : decode cL_isSo 289 = .ok (.iconst 5, 1) := by decide +kernel
theorem dL_isSo_290 : decode cL_isSo 290 = .ok (.invokevirtual 95, 3) := by decide +kernel
theorem dL_isSo_293 : decode cL_isSo 293 = .ok (.ldc 62, 2) := by decide +kernel
theorem dL_isSo_295 : decode cL_isSo 295 = .ok (.if_icmp .ne 7, 3) := by decide +kernel
theorem dL_isSo_298 : decode cL_isSo 298 = .ok (.iconst 1, 1) := by decide +kernel
theorem dL_isSo_299 : decode cL_isSo 299 = .ok (.goto 4, 3) := by decide +kernel
theorem dL_isSo_302 : decode cL_isSo 302 = .ok (.iconst 0, 1) := by decide +kernel
theorem dL_isSo_303 : decode cL_isSo 303 = .ok (.istore 6, 2) := by decide +kernel
theorem dL_isSo_305 : decode cL_isSo 305 = .ok (.iinc 10 1, 3) := by decide +kernel
theorem dL_isSo_308 : decode cL_isSo 308 = .ok (.goto (-86), 3) := by decide +kernel
theorem dL_isSo_311 : decode cL_isSo 311 = .ok (.iconst 0, 1) := by decide +kernel
theorem dL_isSo_312 : decode cL_isSo 312 = .ok (.istore 10, 2) := by decide +kernel
theorem dL_isSo_314 : decode cL_isSo 314 = .ok (.iload 10, 2) := by decide +kernel
theorem dL_isSo_316 : decode cL_isSo 316 = .ok (.iconst 3, 1) := by decide +kernel
theorem dL_isSo_317 : decode cL_isSo 317 = .ok (.if_icmp .ge 53, 3) := by decide +kernel
theorem dL_isSo_320 : decode cL_isSo 320 = .ok (.iload 6, 2) := by decide +kernel
theorem dL_isSo_322 : decode cL_isSo 322 = .ok (.ifCond .eq 48, 3) := by decide +kernel
theorem dL_isSo_325 : decode cL_isSo 325 = .ok (.aload_n 0, 1) := by decide +kernel
theorem dL_isSo_326 : decode cL_isSo 326 = .ok (.bipush 20, 2) := by decide +kernel
theorem dL_isSo_328 : decode cL_isSo 328 = .ok (.iload 10, 2) := by decide +kernel
theorem dL_isSo_330 : decode cL_isSo 330 = .ok (.iadd, 1) := by decide +kernel
theorem dL_isSo_331 : decode cL_isSo 331 = .ok (.invokevirtual 98, 3) := by decide +kernel
theorem dL_isSo_334 : decode cL_isSo 334 = .ok (.aload_n 1, 1) := by decide +kernel
theorem dL_isSo_335 : decode cL_isSo 335 = .ok (.bipush 18, 2) := by decide +kernel
theorem dL_isSo_337 : decode cL_isSo 337 = .ok (.iload 10, 2) := by decide +kernel
theorem dL_isSo_339 : decode cL_isSo 339 = .ok (.iadd, 1) := by decide +kernel
theorem dL_isSo_340 : decode cL_isSo 340 = .ok (.iaload, 1) := by decide +kernel
theorem dL_isSo_341 : decode cL_isSo 341 = .ok (.iload 10, 2) := by decide +kernel
theorem dL_isSo_343 : decode cL_isSo 343 = .ok (.iconst 2, 1) := by decide +kernel
theorem dL_isSo_344 : decode cL_isSo 344 = .ok (.if_icmp .ne 8, 3) := by decide +kernel
theorem dL_isSo_347 : decode cL_isSo 347 = .ok (.bipush 10, 2) := by decide +kernel
theorem dL_isSo_349 : decode cL_isSo 349 = .ok (.goto 4, 3) := by decide +kernel
theorem dL_isSo_352 : decode cL_isSo 352 = .ok (.iconst 0, 1) := by decide +kernel
theorem dL_isSo_353 : decode cL_isSo 353 = .ok (.iadd, 1) := by decide +kernel
theorem dL_isSo_354 : decode cL_isSo 354 = .ok (.if_icmp .ne 7, 3) := by decide +kernel
theorem dL_isSo_357 : decode cL_isSo 357 = .ok (.iconst 1, 1) := by decide +kernel
theorem dL_isSo_358 : decode cL_isSo 358 = .ok (.goto 4, 3) := by decide +kernel
theorem dL_isSo_361 : decode cL_isSo 361 = .ok (.iconst 0, 1) := by decide +kernel
theorem dL_isSo_362 : decode cL_isSo 362 = .ok (.istore 6, 2) := by decide +kernel
theorem dL_isSo_364 : decode cL_isSo 364 = .ok (.iinc 10 1, 3) := by decide +kernel
theorem dL_isSo_367 : decode cL_isSo 367 = .ok (.goto (-53), 3) := by decide +kernel
theorem dL_isSo_370 : decode cL_isSo 370 = .ok (.iconst 0, 1) := by decide +kernel
theorem dL_isSo_371 : decode cL_isSo 371 = .ok (.istore 10, 2) := by decide +kernel
theorem dL_isSo_373 : decode cL_isSo 373 = .ok (.iload 10, 2) := by decide +kernel
theorem dL_isSo_375 : decode cL_isSo 375 = .ok (.iconst 4, 1) := by decide +kernel
theorem dL_isSo_376 : decode cL_isSo 376 = .ok (.if_icmp .ge 41, 3) := by decide +kernel
theorem dL_isSo_379 : decode cL_isSo 379 = .ok (.iload 6, 2) := by decide +kernel
theorem dL_isSo_381 : decode cL_isSo 381 = .ok (.ifCond .eq 36, 3) := by decide +kernel
theorem dL_isSo_384 : decode cL_isSo 384 = .ok (.aload_n 0, 1) := by decide +kernel
theorem dL_isSo_385 : decode cL_isSo 385 = .ok (.bipush 30, 2) := by decide +kernel
theorem dL_isSo_387 : decode cL_isSo 387 = .ok (.iload 10, 2) := by decide +kernel
theorem dL_isSo_389 : decode cL_isSo 389 = .ok (.iadd, 1) := by decide +kernel
theorem dL_isSo_390 : decode cL_isSo 390 = .ok (.invokevirtual 98, 3) := by decide +kernel
theorem dL_isSo_393 : decode cL_isSo 393 = .ok (.aload 5, 2) := by decide +kernel
theorem dL_isSo_395 : decode cL_isSo 395 = .ok (.bipush 16, 2) := by decide +kernel
theorem dL_isSo_397 : decode cL_isSo 397 = .ok (.iload 10, 2) := by decide +kernel
theorem dL_isSo_399 : decode cL_isSo 399 = .ok (.iadd, 1) := by decide +kernel
theorem dL_isSo_400 : decode cL_isSo 400 = .ok (.iaload, 1) := by decide +kernel
theorem dL_isSo_401 : decode cL_isSo 401 = .ok (.if_icmp .ne 7, 3) := by decide +kernel
theorem dL_isSo_404 : decode cL_isSo 404 = .ok (.iconst 1, 1) := by decide +kernel
theorem dL_isSo_405 : decode cL_isSo 405 = .ok (.goto 4, 3) := by decide +kernel
theorem dL_isSo_408 : decode cL_isSo 408 = .ok (.iconst 0, 1) := by decide +kernel
theorem dL_isSo_409 : decode cL_isSo 409 = .ok (.istore 6, 2) := by decide +kernel
theorem dL_isSo_411 : decode cL_isSo 411 = .ok (.iinc 10 1, 3) := by decide +kernel
theorem dL_isSo_414 : decode cL_isSo 414 = .ok (.goto (-41), 3) := by decide +kernel
theorem dL_isSo_417 : decode cL_isSo 417 = .ok (.iload 6, 2) := by decide +kernel
theorem dL_isSo_419 : decode cL_isSo 419 = .ok (.ifCond .eq 217, 3) := by decide +kernel
theorem dL_isSo_422 : decode cL_isSo 422 = .ok (.aload_n 0, 1) := by decide +kernel
theorem dL_isSo_423 : decode cL_isSo 423 = .ok (.iconst 0, 1) := by decide +kernel
theorem dL_isSo_424 : decode cL_isSo 424 = .ok (.invokevirtual 98, 3) := by decide +kernel
theorem dL_isSo_427 : decode cL_isSo 427 = .ok (.aload_n 1, 1) := by decide +kernel
theorem dL_isSo_428 : decode cL_isSo 428 = .ok (.bipush 13, 2) := by decide +kernel
theorem dL_isSo_430 : decode cL_isSo 430 = .ok (.iaload, 1) := by decide +kernel
theorem dL_isSo_431 : decode cL_isSo 431 = .ok (.if_icmp .ne 205, 3) := by decide +kernel
theorem dL_isSo_434 : decode cL_isSo 434 = .ok (.aload_n 0, 1) := by decide +kernel
theorem dL_isSo_435 : decode cL_isSo 435 = .ok (.iconst 1, 1) := by decide +kernel
theorem dL_isSo_436 : decode cL_isSo 436 = .ok (.invokevirtual 98, 3) := by decide +kernel
theorem dL_isSo_439 : decode cL_isSo 439 = .ok (.aload_n 1, 1) := by decide +kernel
theorem dL_isSo_440 : decode cL_isSo 440 = .ok (.iconst 0, 1) := by decide +kernel
theorem dL_isSo_441 : decode cL_isSo 441 = .ok (.iaload, 1) := by decide +kernel
theorem dL_isSo_442 : decode cL_isSo 442 = .ok (.if_icmp .ne 194, 3) := by decide +kernel
theorem dL_isSo_445 : decode cL_isSo 445 = .ok (.aload_n 0, 1) := by decide +kernel
theorem dL_isSo_446 : decode cL_isSo 446 = .ok (.iconst 2, 1) := by decide +kernel
theorem dL_isSo_447 : decode cL_isSo 447 = .ok (.invokevirtual 98, 3) := by decide +kernel
theorem dL_isSo_450 : decode cL_isSo 450 = .ok (.aload_n 1, 1) := by decide +kernel
theorem dL_isSo_451 : decode cL_isSo 451 = .ok (.iconst 1, 1) := by decide +kernel
theorem dL_isSo_452 : decode cL_isSo 452 = .ok (.iaload, 1) := by decide +kernel
theorem dL_isSo_453 : decode cL_isSo 453 = .ok (.if_icmp .ne 183, 3) := by decide +kernel
theorem dL_isSo_456 : decode cL_isSo 456 = .ok (.aload_n 0, 1) := by decide +kernel
theorem dL_isSo_457 : decode cL_isSo 457 = .ok (.iconst 3, 1) := by decide +kernel
theorem dL_isSo_458 : decode cL_isSo 458 = .ok (.invokevirtual 98, 3) := by decide +kernel
theorem dL_isSo_461 : decode cL_isSo 461 = .ok (.aload_n 1, 1) := by decide +kernel
theorem dL_isSo_462 : decode cL_isSo 462 = .ok (.bipush 12, 2) := by decide +kernel
theorem dL_isSo_464 : decode cL_isSo 464 = .ok (.iaload, 1) := by decide +kernel
theorem dL_isSo_465 : decode cL_isSo 465 = .ok (.if_icmp .ne 171, 3) := by decide +kernel
theorem dL_isSo_468 : decode cL_isSo 468 = .ok (.aload_n 0, 1) := by decide +kernel
theorem dL_isSo_469 : decode cL_isSo 469 = .ok (.iconst 4, 1) := by decide +kernel
theorem dL_isSo_470 : decode cL_isSo 470 = .ok (.invokevirtual 98, 3) := by decide +kernel
theorem dL_isSo_473 : decode cL_isSo 473 = .ok (.aload_n 1, 1) := by decide +kernel
theorem dL_isSo_474 : decode cL_isSo 474 = .ok (.bipush 12, 2) := by decide +kernel
theorem dL_isSo_476 : decode cL_isSo 476 = .ok (.iaload, 1) := by decide +kernel
theorem dL_isSo_477 : decode cL_isSo 477 = .ok (.ifCond .ne 8, 3) := by decide +kernel
theorem dL_isSo_480 : decode cL_isSo 480 = .ok (.ldc 94, 2) := by decide +kernel
theorem dL_isSo_482 : decode cL_isSo 482 = .ok (.goto 9, 3) := by decide +kernel
theorem dL_isSo_485 : decode cL_isSo 485 = .ok (.aload_n 1, 1) := by decide +kernel
theorem dL_isSo_486 : decode cL_isSo 486 = .ok (.bipush 12, 2) := by decide +kernel
theorem dL_isSo_488 : decode cL_isSo 488 = .ok (.iaload, 1) := by decide +kernel
theorem dL_isSo_489 : decode cL_isSo 489 = .ok (.iconst 1, 1) := by decide +kernel
theorem dL_isSo_490 : decode cL_isSo 490 = .ok (.isub, 1) := by decide +kernel
theorem dL_isSo_491 : decode cL_isSo 491 = .ok (.if_icmp .ne 145, 3) := by decide +kernel
theorem dL_isSo_494 : decode cL_isSo 494 = .ok (.aload_n 0, 1) := by decide +kernel
theorem dL_isSo_495 : decode cL_isSo 495 = .ok (.iconst 5, 1) := by decide +kernel
theorem dL_isSo_496 : decode cL_isSo 496 = .ok (.invokevirtual 98, 3) := by decide +kernel
theorem dL_isSo_499 : decode cL_isSo 499 = .ok (.aload_n 1, 1) := by decide +kernel
theorem dL_isSo_500 : decode cL_isSo 500 = .ok (.bipush 15, 2) := by decide +kernel
theorem dL_isSo_502 : decode cL_isSo 502 = .ok (.iaload, 1) := by decide +kernel
theorem dL_isSo_503 : decode cL_isSo 503 = .ok (.ifCond .ne 8, 3) := by decide +kernel
theorem dL_isSo_506 : decode cL_isSo 506 = .ok (.ldc 94, 2) := by decide +kernel
theorem dL_isSo_508 : decode cL_isSo 508 = .ok (.goto 7, 3) := by decide +kernel
theorem dL_isSo_511 : decode cL_isSo 511 = .ok (.aload_n 1, 1) := by decide +kernel
theorem dL_isSo_512 : decode cL_isSo 512 = .ok (.bipush 15, 2) := by decide +kernel
theorem dL_isSo_514 : decode cL_isSo 514 = .ok (.iaload, 1) := by decide +kernel
theorem dL_isSo_515 : decode cL_isSo 515 = .ok (.if_icmp .ne 121, 3) := by decide +kernel
theorem dL_isSo_518 : decode cL_isSo 518 = .ok (.aload_n 0, 1) := by decide +kernel
theorem dL_isSo_519 : decode cL_isSo 519 = .ok (.bipush 6, 2) := by decide +kernel
theorem dL_isSo_521 : decode cL_isSo 521 = .ok (.invokevirtual 98, 3) := by decide +kernel
theorem dL_isSo_524 : decode cL_isSo 524 = .ok (.aload_n 1, 1) := by decide +kernel
theorem dL_isSo_525 : decode cL_isSo 525 = .ok (.bipush 15, 2) := by decide +kernel
theorem dL_isSo_527 : decode cL_isSo 527 = .ok (.iaload, 1) := by decide +kernel
theorem dL_isSo_528 : decode cL_isSo 528 = .ok (.ifCond .ne 8, 3) := by decide +kernel
theorem dL_isSo_531 : decode cL_isSo 531 = .ok (.ldc 94, 2) := by decide +kernel
theorem dL_isSo_533 : decode cL_isSo 533 = .ok (.goto 7, 3) := by decide +kernel
theorem dL_isSo_536 : decode cL_isSo 536 = .ok (.aload_n 1, 1) := by decide +kernel
theorem dL_isSo_537 : decode cL_isSo 537 = .ok (.bipush 16, 2) := by decide +kernel
theorem dL_isSo_539 : decode cL_isSo 539 = .ok (.iaload, 1) := by decide +kernel
theorem dL_isSo_540 : decode cL_isSo 540 = .ok (.if_icmp .ne 96, 3) := by decide +kernel
theorem dL_isSo_543 : decode cL_isSo 543 = .ok (.aload_n 0, 1) := by decide +kernel
theorem dL_isSo_544 : decode cL_isSo 544 = .ok (.bipush 7, 2) := by decide +kernel
theorem dL_isSo_546 : decode cL_isSo 546 = .ok (.invokevirtual 98, 3) := by decide +kernel
theorem dL_isSo_549 : decode cL_isSo 549 = .ok (.aload_n 1, 1) := by decide +kernel
theorem dL_isSo_550 : decode cL_isSo 550 = .ok (.iconst 2, 1) := by decide +kernel
theorem dL_isSo_551 : decode cL_isSo 551 = .ok (.iaload, 1) := by decide +kernel
theorem dL_isSo_552 : decode cL_isSo 552 = .ok (.if_icmp .ne 84, 3) := by decide +kernel
theorem dL_isSo_555 : decode cL_isSo 555 = .ok (.aload_n 0, 1) := by decide +kernel
theorem dL_isSo_556 : decode cL_isSo 556 = .ok (.bipush 8, 2) := by decide +kernel
theorem dL_isSo_558 : decode cL_isSo 558 = .ok (.invokevirtual 98, 3) := by decide +kernel
theorem dL_isSo_561 : decode cL_isSo 561 = .ok (.aload_n 2, 1) := by decide +kernel
theorem dL_isSo_562 : decode cL_isSo 562 = .ok (.iconst 0, 1) := by decide +kernel
theorem dL_isSo_563 : decode cL_isSo 563 = .ok (.bipush 11, 2) := by decide +kernel
theorem dL_isSo_565 : decode cL_isSo 565 = .ok (.invokestatic 9, 3) := by decide +kernel
theorem dL_isSo_568 : decode cL_isSo 568 = .ok (.if_icmp .ne 68, 3) := by decide +kernel
theorem dL_isSo_571 : decode cL_isSo 571 = .ok (.aload_n 0, 1) := by decide +kernel
theorem dL_isSo_572 : decode cL_isSo 572 = .ok (.bipush 9, 2) := by decide +kernel
theorem dL_isSo_574 : decode cL_isSo 574 = .ok (.invokevirtual 98, 3) := by decide +kernel
theorem dL_isSo_577 : decode cL_isSo 577 = .ok (.iload 7, 2) := by decide +kernel
theorem dL_isSo_579 : decode cL_isSo 579 = .ok (.if_icmp .ne 57, 3) := by decide +kernel
theorem dL_isSo_582 : decode cL_isSo 582 = .ok (.aload_n 0, 1) := by decide +kernel
theorem dL_isSo_583 : decode cL_isSo 583 = .ok (.bipush 10, 2) := by decide +kernel
theorem dL_isSo_585 : decode cL_isSo 585 = .ok (.invokevirtual 98, 3) := by decide +kernel
theorem dL_isSo_588 : decode cL_isSo 588 = .ok (.aload_n 1, 1) := by decide +kernel
theorem dL_isSo_589 : decode cL_isSo 589 = .ok (.bipush 9, 2) := by decide +kernel
theorem dL_isSo_591 : decode cL_isSo 591 = .ok (.iaload, 1) := by decide +kernel
theorem dL_isSo_592 : decode cL_isSo 592 = .ok (.if_icmp .ne 44, 3) := by decide +kernel
theorem dL_isSo_595 : decode cL_isSo 595 = .ok (.aload_n 0, 1) := by decide +kernel
theorem dL_isSo_596 : decode cL_isSo 596 = .ok (.bipush 11, 2) := by decide +kernel
theorem dL_isSo_598 : decode cL_isSo 598 = .ok (.invokevirtual 98, 3) := by decide +kernel
theorem dL_isSo_601 : decode cL_isSo 601 = .ok (.iload 8, 2) := by decide +kernel
theorem dL_isSo_603 : decode cL_isSo 603 = .ok (.if_icmp .ne 33, 3) := by decide +kernel
theorem dL_isSo_606 : decode cL_isSo 606 = .ok (.aload_n 0, 1) := by decide +kernel
theorem dL_isSo_607 : decode cL_isSo 607 = .ok (.bipush 12, 2) := by decide +kernel
theorem dL_isSo_609 : decode cL_isSo 609 = .ok (.invokevirtual 98, 3) := by decide +kernel
theorem dL_isSo_612 : decode cL_isSo 612 = .ok (.aload_n 1, 1) := by decide +kernel
theorem dL_isSo_613 : decode cL_isSo 613 = .ok (.bipush 10, 2) := by decide +kernel
theorem dL_isSo_615 : decode cL_isSo 615 = .ok (.iaload, 1) := by decide +kernel
theorem dL_isSo_616 : decode cL_isSo 616 = .ok (.if_icmp .ne 20, 3) := by decide +kernel
theorem dL_isSo_619 : decode cL_isSo 619 = .ok (.aload_n 0, 1) := by decide +kernel
theorem dL_isSo_620 : decode cL_isSo 620 = .ok (.bipush 13, 2) := by decide +kernel
theorem dL_isSo_622 : decode cL_isSo 622 = .ok (.invokevirtual 98, 3) := by decide +kernel
theorem dL_isSo_625 : decode cL_isSo 625 = .ok (.aload_n 1, 1) := by decide +kernel
theorem dL_isSo_626 : decode cL_isSo 626 = .ok (.bipush 14, 2) := by decide +kernel
theorem dL_isSo_628 : decode cL_isSo 628 = .ok (.iaload, 1) := by decide +kernel
theorem dL_isSo_629 : decode cL_isSo 629 = .ok (.if_icmp .ne 7, 3) := by decide +kernel
theorem dL_isSo_632 : decode cL_isSo 632 = .ok (.iconst 1, 1) := by decide +kernel
theorem dL_isSo_633 : decode cL_isSo 633 = .ok (.goto 4, 3) := by decide +kernel
theorem dL_isSo_636 : decode cL_isSo 636 = .ok (.iconst 0, 1) := by decide +kernel
theorem dL_isSo_637 : decode cL_isSo 637 = .ok (.istore 6, 2) := by decide +kernel
theorem dL_isSo_639 : decode cL_isSo 639 = .ok (.iload 6, 2) := by decide +kernel
theorem dL_isSo_641 : decode cL_isSo 641 = .ok (.ifCond .eq 50, 3) := by decide +kernel
