theorem mw_756 : (Cond.methodLink RL 61 yX11_flow) ∈ gx_G := gx_mem 756 (by decide +kernel) (by decide +kernel)
theorem mw_757 : (Cond.instanceMethod yX11_flow) ∈ gx_G := gx_mem 757 (by decide +kernel) (by decide +kernel)
theorem mw_758 : (Cond.selects RX11 yX11_flow yX11_flow) ∈ gx_G := gx_mem 758 (by decide +kernel) (by decide +kernel)
theorem mw_759 : (Cond.code yX11_flow cX11_flow 2 (some .int)) ∈ gx_G := gx_mem 759 (by decide +kernel) (by decide +kernel)
theorem mw_764 : (Cond.methodLink RL 65 yX11_plank) ∈ gx_G := gx_mem 764 (by decide +kernel) (by decide +kernel)
theorem mw_765 : (Cond.instanceMethod yX11_plank) ∈ gx_G := gx_mem 765 (by decide +kernel) (by decide +kernel)
theorem mw_766 : (Cond.selects RX11 yX11_plank yX11_plank) ∈ gx_G := gx_mem 766 (by decide +kernel) (by decide +kernel)
theorem mw_767 : (Cond.code yX11_plank cX11_plank 3 (some .boolean)) ∈ gx_G := gx_mem 767 (by decide +kernel) (by decide +kernel)
theorem mw_781 : (Cond.methodLink RL 70 yX11_sheet) ∈ gx_G := gx_mem 781 (by decide +kernel) (by decide +kernel)
theorem mw_782 : (Cond.instanceMethod yX11_sheet) ∈ gx_G := gx_mem 782 (by decide +kernel) (by decide +kernel)
theorem mw_783 : (Cond.selects RX11 yX11_sheet yX11_sheet) ∈ gx_G := gx_mem 783 (by decide +kernel) (by decide +kernel)
theorem mw_784 : (Cond.code yX11_sheet cX11_sheet 9 (some .int)) ∈ gx_G := gx_mem 784 (by decide +kernel) (by decide +kernel)
theorem mw_1378 : (Cond.methodLink RL 58 yL_of) ∈ gx_G := gx_mem 1378 (by decide +kernel) (by decide +kernel)
theorem mw_1379 : (Cond.static yL_of) ∈ gx_G := gx_mem 1379 (by decide +kernel) (by decide +kernel)
theorem mw_1380 : (Cond.codeWith yL_of cL_of 5 (some .int) [(0, 10, 13, 13)]) ∈ gx_G := gx_mem 1380 (by decide +kernel) (by decide +kernel)
theorem mw_1798 : (Cond.methodLink RL 60 yX12_of) ∈ gx_G := gx_mem 1798 (by decide +kernel) (by decide +kernel)
theorem mw_1799 : (Cond.instanceMethod yX12_of) ∈ gx_G := gx_mem 1799 (by decide +kernel) (by decide +kernel)
theorem mw_1800 : (Cond.selects RX12 yX12_of yX12_of) ∈ gx_G := gx_mem 1800 (by decide +kernel) (by decide +kernel)
theorem mw_1801 : (Cond.code yX12_of cX12_of 4 (some .int)) ∈ gx_G := gx_mem 1801 (by decide +kernel) (by decide +kernel)
theorem mw_1808 : (Cond.methodLink RL 64 yX12_flow) ∈ gx_G := gx_mem 1808 (by decide +kernel) (by decide +kernel)
theorem mw_1809 : (Cond.instanceMethod yX12_flow) ∈ gx_G := gx_mem 1809 (by decide +kernel) (by decide +kernel)
theorem mw_1810 : (Cond.selects RX12 yX12_flow yX12_flow) ∈ gx_G := gx_mem 1810 (by decide +kernel) (by decide +kernel)
theorem mw_1811 : (Cond.code yX12_flow cX12_flow 2 (some .int)) ∈ gx_G := gx_mem 1811 (by decide +kernel) (by decide +kernel)
theorem mw_1824 : (Cond.methodLink RL 69 yX12_plank) ∈ gx_G := gx_mem 1824 (by decide +kernel) (by decide +kernel)
theorem mw_1825 : (Cond.instanceMethod yX12_plank) ∈ gx_G := gx_mem 1825 (by decide +kernel) (by decide +kernel)
theorem mw_1826 : (Cond.selects RX12 yX12_plank yX12_plank) ∈ gx_G := gx_mem 1826 (by decide +kernel) (by decide +kernel)
theorem mw_1827 : (Cond.code yX12_plank cX12_plank 3 (some .boolean)) ∈ gx_G := gx_mem 1827 (by decide +kernel) (by decide +kernel)
theorem mw_1840 : (Cond.methodLink RL 74 yX12_sheet) ∈ gx_G := gx_mem 1840 (by decide +kernel) (by decide +kernel)
theorem mw_1841 : (Cond.instanceMethod yX12_sheet) ∈ gx_G := gx_mem 1841 (by decide +kernel) (by decide +kernel)
theorem mw_1842 : (Cond.selects RX12 yX12_sheet yX12_sheet) ∈ gx_G := gx_mem 1842 (by decide +kernel) (by decide +kernel)
theorem mw_1843 : (Cond.code yX12_sheet cX12_sheet 9 (some .int)) ∈ gx_G := gx_mem 1843 (by decide +kernel) (by decide +kernel)
theorem cw_L_58 : gx_Wsw RL 58 yL_of cL_of 5 [(0, 10, 13, 13)] 4 := ⟨⟨mw_1378, mw_1379, mw_88, mw_1380⟩, by decide +kernel⟩
theorem cw_L_60 : gx_Wv RL 60 yX12_of cX12_of 4 (some .int) 2 := ⟨⟨mw_1798, mw_1799, mw_1800, mw_101, mw_1801⟩, by decide +kernel⟩
theorem cw_L_61 : gx_Wv RL 61 yX11_flow cX11_flow 2 (some .int) 1 := ⟨⟨mw_756, mw_757, mw_758, mw_89, mw_759⟩, by decide +kernel⟩
theorem cw_L_64 : gx_Wv RL 64 yX12_flow cX12_flow 2 (some .int) 1 := ⟨⟨mw_1808, mw_1809, mw_1810, mw_101, mw_1811⟩, by decide +kernel⟩
theorem cw_L_65 : gx_Wv RL 65 yX11_plank cX11_plank 3 (some .boolean) 2 := ⟨⟨mw_764, mw_765, mw_766, mw_89, mw_767⟩, by decide +kernel⟩
theorem cw_L_69 : gx_Wv RL 69 yX12_plank cX12_plank 3 (some .boolean) 2 := ⟨⟨mw_1824, mw_1825, mw_1826, mw_101, mw_1827⟩, by decide +kernel⟩
theorem cw_L_70 : gx_Wv RL 70 yX11_sheet cX11_sheet 9 (some .int) 4 := ⟨⟨mw_781, mw_782, mw_783, mw_89, mw_784⟩, by decide +kernel⟩
theorem cw_L_74 : gx_Wv RL 74 yX12_sheet cX12_sheet 9 (some .int) 4 := ⟨⟨mw_1840, mw_1841, mw_1842, mw_101, mw_1843⟩, by decide +kernel⟩
theorem dL_law_377 : decode cL_law 377 = .ok (.aload_n 1, 1) := by decide +kernel
theorem dL_law_378 : decode cL_law 378 = .ok (.aload_n 0, 1) := by decide +kernel
theorem dL_law_379 : decode cL_law 379 = .ok (.iload 4, 2) := by decide +kernel
theorem dL_law_381 : decode cL_law 381 = .ok (.iconst 1, 1) := by decide +kernel
theorem dL_law_382 : decode cL_law 382 = .ok (.iadd, 1) := by decide +kernel
theorem dL_law_383 : decode cL_law 383 = .ok (.iaload, 1) := by decide +kernel
theorem dL_law_384 : decode cL_law 384 = .ok (.aload_n 0, 1) := by decide +kernel
theorem dL_law_385 : decode cL_law 385 = .ok (.iload 4, 2) := by decide +kernel
theorem dL_law_387 : decode cL_law 387 = .ok (.iconst 2, 1) := by decide +kernel
theorem dL_law_388 : decode cL_law 388 = .ok (.iadd, 1) := by decide +kernel
theorem dL_law_389 : decode cL_law 389 = .ok (.iaload, 1) := by decide +kernel
theorem dL_law_390 : decode cL_law 390 = .ok (.aload_n 3, 1) := by decide +kernel
theorem dL_law_391 : decode cL_law 391 = .ok (.invokestatic 58, 3) := by decide +kernel
theorem dL_law_394 : decode cL_law 394 = .ok (.istore 5, 2) := by decide +kernel
theorem dL_law_396 : decode cL_law 396 = .ok (.aload_n 2, 1) := by decide +kernel
theorem dL_law_397 : decode cL_law 397 = .ok (.aload_n 0, 1) := by decide +kernel
theorem dL_law_398 : decode cL_law 398 = .ok (.iload 4, 2) := by decide +kernel
theorem dL_law_400 : decode cL_law 400 = .ok (.iconst 1, 1) := by decide +kernel
theorem dL_law_401 : decode cL_law 401 = .ok (.iadd, 1) := by decide +kernel
theorem dL_law_402 : decode cL_law 402 = .ok (.iaload, 1) := by decide +kernel
theorem dL_law_403 : decode cL_law 403 = .ok (.aload_n 0, 1) := by decide +kernel
theorem dL_law_404 : decode cL_law 404 = .ok (.iload 4, 2) := by decide +kernel
theorem dL_law_406 : decode cL_law 406 = .ok (.iconst 2, 1) := by decide +kernel
theorem dL_law_407 : decode cL_law 407 = .ok (.iadd, 1) := by decide +kernel
theorem dL_law_408 : decode cL_law 408 = .ok (.iaload, 1) := by decide +kernel
theorem dL_law_409 : decode cL_law 409 = .ok (.invokevirtual 60, 3) := by decide +kernel
theorem dL_law_412 : decode cL_law 412 = .ok (.istore 6, 2) := by decide +kernel
theorem dL_law_414 : decode cL_law 414 = .ok (.aload_n 2, 1) := by decide +kernel
theorem dL_law_415 : decode cL_law 415 = .ok (.invokevirtual 55, 3) := by decide +kernel
theorem dL_law_418 : decode cL_law 418 = .ok (.iload 5, 2) := by decide +kernel
theorem dL_law_420 : decode cL_law 420 = .ok (.if_icmp .eq 5, 3) := by decide +kernel
theorem dL_law_425 : decode cL_law 425 = .ok (.iload 5, 2) := by decide +kernel
theorem dL_law_427 : decode cL_law 427 = .ok (.ifCond .ne 15, 3) := by decide +kernel
theorem dL_law_442 : decode cL_law 442 = .ok (.goto 1303, 3) := by decide +kernel
theorem dL_law_445 : decode cL_law 445 = .ok (.aload_n 1, 1) := by decide +kernel
theorem dL_law_446 : decode cL_law 446 = .ok (.aload_n 0, 1) := by decide +kernel
theorem dL_law_447 : decode cL_law 447 = .ok (.iload 4, 2) := by decide +kernel
theorem dL_law_449 : decode cL_law 449 = .ok (.iconst 1, 1) := by decide +kernel
theorem dL_law_450 : decode cL_law 450 = .ok (.iadd, 1) := by decide +kernel
theorem dL_law_451 : decode cL_law 451 = .ok (.iaload, 1) := by decide +kernel
theorem dL_law_452 : decode cL_law 452 = .ok (.invokevirtual 61, 3) := by decide +kernel
theorem dL_law_455 : decode cL_law 455 = .ok (.aload_n 2, 1) := by decide +kernel
theorem dL_law_456 : decode cL_law 456 = .ok (.aload_n 0, 1) := by decide +kernel
theorem dL_law_457 : decode cL_law 457 = .ok (.iload 4, 2) := by decide +kernel
theorem dL_law_459 : decode cL_law 459 = .ok (.iconst 1, 1) := by decide +kernel
theorem dL_law_460 : decode cL_law 460 = .ok (.iadd, 1) := by decide +kernel
theorem dL_law_461 : decode cL_law 461 = .ok (.iaload, 1) := by decide +kernel
theorem dL_law_462 : decode cL_law 462 = .ok (.invokevirtual 64, 3) := by decide +kernel
theorem dL_law_465 : decode cL_law 465 = .ok (.if_icmp .eq 1280, 3) := by decide +kernel
theorem dL_law_470 : decode cL_law 470 = .ok (.aload_n 1, 1) := by decide +kernel
theorem dL_law_471 : decode cL_law 471 = .ok (.aload_n 0, 1) := by decide +kernel
theorem dL_law_472 : decode cL_law 472 = .ok (.iload 4, 2) := by decide +kernel
theorem dL_law_474 : decode cL_law 474 = .ok (.iconst 1, 1) := by decide +kernel
theorem dL_law_475 : decode cL_law 475 = .ok (.iadd, 1) := by decide +kernel
theorem dL_law_476 : decode cL_law 476 = .ok (.iaload, 1) := by decide +kernel
theorem dL_law_477 : decode cL_law 477 = .ok (.aload_n 0, 1) := by decide +kernel
theorem dL_law_478 : decode cL_law 478 = .ok (.iload 4, 2) := by decide +kernel
theorem dL_law_480 : decode cL_law 480 = .ok (.iconst 2, 1) := by decide +kernel
theorem dL_law_481 : decode cL_law 481 = .ok (.iadd, 1) := by decide +kernel
theorem dL_law_482 : decode cL_law 482 = .ok (.iaload, 1) := by decide +kernel
theorem dL_law_483 : decode cL_law 483 = .ok (.invokevirtual 65, 3) := by decide +kernel
theorem dL_law_486 : decode cL_law 486 = .ok (.aload_n 2, 1) := by decide +kernel
theorem dL_law_487 : decode cL_law 487 = .ok (.aload_n 0, 1) := by decide +kernel
theorem dL_law_488 : decode cL_law 488 = .ok (.iload 4, 2) := by decide +kernel
theorem dL_law_490 : decode cL_law 490 = .ok (.iconst 1, 1) := by decide +kernel
theorem dL_law_491 : decode cL_law 491 = .ok (.iadd, 1) := by decide +kernel
theorem dL_law_492 : decode cL_law 492 = .ok (.iaload, 1) := by decide +kernel
theorem dL_law_493 : decode cL_law 493 = .ok (.aload_n 0, 1) := by decide +kernel
theorem dL_law_494 : decode cL_law 494 = .ok (.iload 4, 2) := by decide +kernel
theorem dL_law_496 : decode cL_law 496 = .ok (.iconst 2, 1) := by decide +kernel
theorem dL_law_497 : decode cL_law 497 = .ok (.iadd, 1) := by decide +kernel
theorem dL_law_498 : decode cL_law 498 = .ok (.iaload, 1) := by decide +kernel
theorem dL_law_499 : decode cL_law 499 = .ok (.invokevirtual 69, 3) := by decide +kernel
theorem dL_law_502 : decode cL_law 502 = .ok (.if_icmp .eq 1243, 3) := by decide +kernel
theorem dL_law_507 : decode cL_law 507 = .ok (.aload_n 1, 1) := by decide +kernel
theorem dL_law_508 : decode cL_law 508 = .ok (.aload_n 0, 1) := by decide +kernel
theorem dL_law_509 : decode cL_law 509 = .ok (.iload 4, 2) := by decide +kernel
theorem dL_law_511 : decode cL_law 511 = .ok (.iconst 1, 1) := by decide +kernel
theorem dL_law_512 : decode cL_law 512 = .ok (.iadd, 1) := by decide +kernel
theorem dL_law_513 : decode cL_law 513 = .ok (.iaload, 1) := by decide +kernel
theorem dL_law_514 : decode cL_law 514 = .ok (.aload_n 0, 1) := by decide +kernel
theorem dL_law_515 : decode cL_law 515 = .ok (.iload 4, 2) := by decide +kernel
theorem dL_law_517 : decode cL_law 517 = .ok (.iconst 2, 1) := by decide +kernel
theorem dL_law_518 : decode cL_law 518 = .ok (.iadd, 1) := by decide +kernel
theorem dL_law_519 : decode cL_law 519 = .ok (.iaload, 1) := by decide +kernel
theorem dL_law_520 : decode cL_law 520 = .ok (.aload_n 0, 1) := by decide +kernel
theorem dL_law_521 : decode cL_law 521 = .ok (.iload 4, 2) := by decide +kernel
theorem dL_law_523 : decode cL_law 523 = .ok (.iconst 3, 1) := by decide +kernel
theorem dL_law_524 : decode cL_law 524 = .ok (.iadd, 1) := by decide +kernel
theorem dL_law_525 : decode cL_law 525 = .ok (.iaload, 1) := by decide +kernel
theorem dL_law_526 : decode cL_law 526 = .ok (.aload_n 0, 1) := by decide +kernel
theorem dL_law_527 : decode cL_law 527 = .ok (.iload 4, 2) := by decide +kernel
theorem dL_law_529 : decode cL_law 529 = .ok (.iconst 4, 1) := by decide +kernel
theorem dL_law_530 : decode cL_law 530 = .ok (.iadd, 1) := by decide +kernel
theorem dL_law_531 : decode cL_law 531 = .ok (.iaload, 1) := by decide +kernel
theorem dL_law_532 : decode cL_law 532 = .ok (.invokevirtual 70, 3) := by decide +kernel
theorem dL_law_535 : decode cL_law 535 = .ok (.aload_n 2, 1) := by decide +kernel
theorem dL_law_536 : decode cL_law 536 = .ok (.aload_n 0, 1) := by decide +kernel
theorem dL_law_537 : decode cL_law 537 = .ok (.iload 4, 2) := by decide +kernel
theorem dL_law_539 : decode cL_law 539 = .ok (.iconst 1, 1) := by decide +kernel
theorem dL_law_540 : decode cL_law 540 = .ok (.iadd, 1) := by decide +kernel
theorem dL_law_541 : decode cL_law 541 = .ok (.iaload, 1) := by decide +kernel
theorem dL_law_542 : decode cL_law 542 = .ok (.aload_n 0, 1) := by decide +kernel
theorem dL_law_543 : decode cL_law 543 = .ok (.iload 4, 2) := by decide +kernel
theorem dL_law_545 : decode cL_law 545 = .ok (.iconst 2, 1) := by decide +kernel
theorem dL_law_546 : decode cL_law 546 = .ok (.iadd, 1) := by decide +kernel
theorem dL_law_547 : decode cL_law 547 = .ok (.iaload, 1) := by decide +kernel
theorem dL_law_548 : decode cL_law 548 = .ok (.aload_n 0, 1) := by decide +kernel
theorem dL_law_549 : decode cL_law 549 = .ok (.iload 4, 2) := by decide +kernel
theorem dL_law_551 : decode cL_law 551 = .ok (.iconst 3, 1) := by decide +kernel
theorem dL_law_552 : decode cL_law 552 = .ok (.iadd, 1) := by decide +kernel
theorem dL_law_553 : decode cL_law 553 = .ok (.iaload, 1) := by decide +kernel
theorem dL_law_554 : decode cL_law 554 = .ok (.aload_n 0, 1) := by decide +kernel
theorem dL_law_555 : decode cL_law 555 = .ok (.iload 4, 2) := by decide +kernel
theorem dL_law_557 : decode cL_law 557 = .ok (.iconst 4, 1) := by decide +kernel
theorem dL_law_558 : decode cL_law 558 = .ok (.iadd, 1) := by decide +kernel
theorem dL_law_559 : decode cL_law 559 = .ok (.iaload, 1) := by decide +kernel
theorem dL_law_560 : decode cL_law 560 = .ok (.invokevirtual 74, 3) := by decide +kernel
theorem dL_law_563 : decode cL_law 563 = .ok (.if_icmp .eq 1182, 3) := by decide +kernel
