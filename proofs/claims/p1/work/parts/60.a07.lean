theorem dX21_init_441 : decode cX21_init 441 = .ok (.aload_n 0, 1) := by decide +kernel
theorem dX21_init_442 : decode cX21_init 442 = .ok (.sipush 402, 3) := by decide +kernel
theorem dX21_init_445 : decode cX21_init 445 = .ok (.newarray .int, 2) := by decide +kernel
theorem dX21_init_447 : decode cX21_init 447 = .ok (.putfield 162, 3) := by decide +kernel
theorem dX21_init_450 : decode cX21_init 450 = .ok (.aload_n 0, 1) := by decide +kernel
theorem dX21_init_451 : decode cX21_init 451 = .ok (.sipush 402, 3) := by decide +kernel
theorem dX21_init_454 : decode cX21_init 454 = .ok (.newarray .long, 2) := by decide +kernel
theorem dX21_init_456 : decode cX21_init 456 = .ok (.putfield 165, 3) := by decide +kernel
theorem dX21_init_459 : decode cX21_init 459 = .ok (.aload_n 0, 1) := by decide +kernel
theorem dX21_init_460 : decode cX21_init 460 = .ok (.sipush 402, 3) := by decide +kernel
theorem dX21_init_463 : decode cX21_init 463 = .ok (.newarray .long, 2) := by decide +kernel
theorem dX21_init_465 : decode cX21_init 465 = .ok (.putfield 168, 3) := by decide +kernel
theorem dX21_init_468 : decode cX21_init 468 = .ok (.aload_n 0, 1) := by decide +kernel
theorem dX21_init_469 : decode cX21_init 469 = .ok (.iconst 3, 1) := by decide +kernel
theorem dX21_init_470 : decode cX21_init 470 = .ok (.iconst 3, 1) := by decide +kernel
theorem dX21_init_471 : decode cX21_init 471 = .ok (.multianewarray 32 2, 4) := by decide +kernel
theorem dX21_init_475 : decode cX21_init 475 = .ok (.putfield 171, 3) := by decide +kernel
theorem dX21_init_478 : decode cX21_init 478 = .ok (.aload_n 0, 1) := by decide +kernel
theorem dX21_init_479 : decode cX21_init 479 = .ok (.iconst 3, 1) := by decide +kernel
theorem dX21_init_480 : decode cX21_init 480 = .ok (.sipush 6003, 3) := by decide +kernel
theorem dX21_init_483 : decode cX21_init 483 = .ok (.multianewarray 32 2, 4) := by decide +kernel
theorem dX21_init_487 : decode cX21_init 487 = .ok (.putfield 174, 3) := by decide +kernel
theorem dX21_init_490 : decode cX21_init 490 = .ok (.aload_n 0, 1) := by decide +kernel
theorem dX21_init_491 : decode cX21_init 491 = .ok (.iconst 3, 1) := by decide +kernel
theorem dX21_init_492 : decode cX21_init 492 = .ok (.newarray .int, 2) := by decide +kernel
theorem dX21_init_494 : decode cX21_init 494 = .ok (.putfield 177, 3) := by decide +kernel
theorem dX21_init_497 : decode cX21_init 497 = .ok (.aload_n 0, 1) := by decide +kernel
theorem dX21_init_498 : decode cX21_init 498 = .ok (.iconst 3, 1) := by decide +kernel
theorem dX21_init_499 : decode cX21_init 499 = .ok (.sipush 2001, 3) := by decide +kernel
theorem dX21_init_502 : decode cX21_init 502 = .ok (.multianewarray 32 2, 4) := by decide +kernel
theorem dX21_init_506 : decode cX21_init 506 = .ok (.putfield 180, 3) := by decide +kernel
theorem dX21_init_509 : decode cX21_init 509 = .ok (.aload_n 0, 1) := by decide +kernel
theorem dX21_init_510 : decode cX21_init 510 = .ok (.iconst 3, 1) := by decide +kernel
theorem dX21_init_511 : decode cX21_init 511 = .ok (.sipush 2001, 3) := by decide +kernel
theorem dX21_init_514 : decode cX21_init 514 = .ok (.multianewarray 32 2, 4) := by decide +kernel
theorem dX21_init_518 : decode cX21_init 518 = .ok (.putfield 183, 3) := by decide +kernel
theorem dX21_init_521 : decode cX21_init 521 = .ok (.aload_n 0, 1) := by decide +kernel
theorem dX21_init_522 : decode cX21_init 522 = .ok (.iconst 3, 1) := by decide +kernel
theorem dX21_init_523 : decode cX21_init 523 = .ok (.newarray .int, 2) := by decide +kernel
theorem dX21_init_525 : decode cX21_init 525 = .ok (.putfield 186, 3) := by decide +kernel
