/-! decode rows -/
theorem d_Mod_init_442 : decode b_Mod_init 442 = .ok (.dup, 1) := by decide +kernel
theorem d_Mod_init_443 : decode b_Mod_init 443 = .ok (.iconst 1, 1) := by decide +kernel
theorem d_Mod_init_444 : decode b_Mod_init 444 = .ok (.bipush 32, 2) := by decide +kernel
theorem d_Mod_init_446 : decode b_Mod_init 446 = .ok (.castore, 1) := by decide +kernel
theorem d_Mod_init_447 : decode b_Mod_init 447 = .ok (.dup, 1) := by decide +kernel
theorem d_Mod_init_448 : decode b_Mod_init 448 = .ok (.iconst 2, 1) := by decide +kernel
theorem d_Mod_init_449 : decode b_Mod_init 449 = .ok (.bipush 68, 2) := by decide +kernel
theorem d_Mod_init_451 : decode b_Mod_init 451 = .ok (.castore, 1) := by decide +kernel
theorem d_Mod_init_452 : decode b_Mod_init 452 = .ok (.dup, 1) := by decide +kernel
theorem d_Mod_init_453 : decode b_Mod_init 453 = .ok (.iconst 3, 1) := by decide +kernel
theorem d_Mod_init_454 : decode b_Mod_init 454 = .ok (.bipush 32, 2) := by decide +kernel
theorem d_Mod_init_456 : decode b_Mod_init 456 = .ok (.castore, 1) := by decide +kernel
theorem d_Mod_init_457 : decode b_Mod_init 457 = .ok (.dup, 1) := by decide +kernel
theorem d_Mod_init_458 : decode b_Mod_init 458 = .ok (.iconst 4, 1) := by decide +kernel
theorem d_Mod_init_459 : decode b_Mod_init 459 = .ok (.bipush 77, 2) := by decide +kernel
theorem d_Mod_init_461 : decode b_Mod_init 461 = .ok (.castore, 1) := by decide +kernel
theorem d_Mod_init_462 : decode b_Mod_init 462 = .ok (.dup, 1) := by decide +kernel
theorem d_Mod_init_463 : decode b_Mod_init 463 = .ok (.iconst 5, 1) := by decide +kernel
theorem d_Mod_init_464 : decode b_Mod_init 464 = .ok (.bipush 68, 2) := by decide +kernel
theorem d_Mod_init_466 : decode b_Mod_init 466 = .ok (.castore, 1) := by decide +kernel
theorem d_Mod_init_467 : decode b_Mod_init 467 = .ok (.dup, 1) := by decide +kernel
theorem d_Mod_init_468 : decode b_Mod_init 468 = .ok (.bipush 6, 2) := by decide +kernel
theorem d_Mod_init_470 : decode b_Mod_init 470 = .ok (.bipush 32, 2) := by decide +kernel
theorem d_Mod_init_472 : decode b_Mod_init 472 = .ok (.castore, 1) := by decide +kernel
theorem d_Mod_init_473 : decode b_Mod_init 473 = .ok (.dup, 1) := by decide +kernel
theorem d_Mod_init_474 : decode b_Mod_init 474 = .ok (.bipush 7, 2) := by decide +kernel
theorem d_Mod_init_476 : decode b_Mod_init 476 = .ok (.bipush 65, 2) := by decide +kernel
theorem d_Mod_init_478 : decode b_Mod_init 478 = .ok (.castore, 1) := by decide +kernel
theorem d_Mod_init_479 : decode b_Mod_init 479 = .ok (.dup, 1) := by decide +kernel
theorem d_Mod_init_480 : decode b_Mod_init 480 = .ok (.bipush 8, 2) := by decide +kernel
theorem d_Mod_init_482 : decode b_Mod_init 482 = .ok (.bipush 32, 2) := by decide +kernel
theorem d_Mod_init_484 : decode b_Mod_init 484 = .ok (.castore, 1) := by decide +kernel
theorem d_Mod_init_485 : decode b_Mod_init 485 = .ok (.dup, 1) := by decide +kernel
theorem d_Mod_init_486 : decode b_Mod_init 486 = .ok (.bipush 9, 2) := by decide +kernel
theorem d_Mod_init_488 : decode b_Mod_init 488 = .ok (.bipush 65, 2) := by decide +kernel
theorem d_Mod_init_490 : decode b_Mod_init 490 = .ok (.castore, 1) := by decide +kernel
theorem d_Mod_init_491 : decode b_Mod_init 491 = .ok (.dup, 1) := by decide +kernel
theorem d_Mod_init_492 : decode b_Mod_init 492 = .ok (.bipush 10, 2) := by decide +kernel
theorem d_Mod_init_494 : decode b_Mod_init 494 = .ok (.bipush 77, 2) := by decide +kernel
theorem d_Mod_init_496 : decode b_Mod_init 496 = .ok (.castore, 1) := by decide +kernel
theorem d_Mod_init_497 : decode b_Mod_init 497 = .ok (.dup, 1) := by decide +kernel
theorem d_Mod_init_498 : decode b_Mod_init 498 = .ok (.bipush 11, 2) := by decide +kernel
theorem d_Mod_init_500 : decode b_Mod_init 500 = .ok (.bipush 32, 2) := by decide +kernel
theorem d_Mod_init_502 : decode b_Mod_init 502 = .ok (.castore, 1) := by decide +kernel
theorem d_Mod_init_503 : decode b_Mod_init 503 = .ok (.dup, 1) := by decide +kernel
theorem d_Mod_init_504 : decode b_Mod_init 504 = .ok (.bipush 12, 2) := by decide +kernel
theorem d_Mod_init_506 : decode b_Mod_init 506 = .ok (.bipush 65, 2) := by decide +kernel
theorem d_Mod_init_508 : decode b_Mod_init 508 = .ok (.castore, 1) := by decide +kernel
theorem d_Mod_init_509 : decode b_Mod_init 509 = .ok (.dup, 1) := by decide +kernel
theorem d_Mod_init_510 : decode b_Mod_init 510 = .ok (.bipush 13, 2) := by decide +kernel
theorem d_Mod_init_512 : decode b_Mod_init 512 = .ok (.bipush 68, 2) := by decide +kernel
theorem d_Mod_init_514 : decode b_Mod_init 514 = .ok (.castore, 1) := by decide +kernel
theorem d_Mod_init_515 : decode b_Mod_init 515 = .ok (.dup, 1) := by decide +kernel
theorem d_Mod_init_516 : decode b_Mod_init 516 = .ok (.bipush 14, 2) := by decide +kernel
theorem d_Mod_init_518 : decode b_Mod_init 518 = .ok (.bipush 32, 2) := by decide +kernel
theorem d_Mod_init_520 : decode b_Mod_init 520 = .ok (.castore, 1) := by decide +kernel
theorem d_Mod_init_521 : decode b_Mod_init 521 = .ok (.dup, 1) := by decide +kernel
theorem d_Mod_init_522 : decode b_Mod_init 522 = .ok (.bipush 15, 2) := by decide +kernel
theorem d_Mod_init_524 : decode b_Mod_init 524 = .ok (.bipush 65, 2) := by decide +kernel
theorem d_Mod_init_526 : decode b_Mod_init 526 = .ok (.castore, 1) := by decide +kernel
theorem d_Mod_init_527 : decode b_Mod_init 527 = .ok (.dup, 1) := by decide +kernel
theorem d_Mod_init_528 : decode b_Mod_init 528 = .ok (.bipush 16, 2) := by decide +kernel
theorem d_Mod_init_530 : decode b_Mod_init 530 = .ok (.bipush 77, 2) := by decide +kernel
theorem d_Mod_init_532 : decode b_Mod_init 532 = .ok (.castore, 1) := by decide +kernel
theorem d_Mod_init_533 : decode b_Mod_init 533 = .ok (.dup, 1) := by decide +kernel
theorem d_Mod_init_534 : decode b_Mod_init 534 = .ok (.bipush 17, 2) := by decide +kernel
theorem d_Mod_init_536 : decode b_Mod_init 536 = .ok (.bipush 68, 2) := by decide +kernel
theorem d_Mod_init_538 : decode b_Mod_init 538 = .ok (.castore, 1) := by decide +kernel
theorem d_Mod_init_539 : decode b_Mod_init 539 = .ok (.dup, 1) := by decide +kernel
theorem d_Mod_init_540 : decode b_Mod_init 540 = .ok (.bipush 18, 2) := by decide +kernel
theorem d_Mod_init_542 : decode b_Mod_init 542 = .ok (.bipush 32, 2) := by decide +kernel
theorem d_Mod_init_544 : decode b_Mod_init 544 = .ok (.castore, 1) := by decide +kernel
theorem d_Mod_init_545 : decode b_Mod_init 545 = .ok (.putfield 43, 3) := by decide +kernel
theorem d_Mod_init_548 : decode b_Mod_init 548 = .ok (.return_, 1) := by decide +kernel
theorem d_Mod_put_0 : decode b_Mod_put 0 = .ok (.iload_n 3, 1) := by decide +kernel
theorem d_Mod_put_1 : decode b_Mod_put 1 = .ok (.iconst 1, 1) := by decide +kernel
theorem d_Mod_put_2 : decode b_Mod_put 2 = .ok (.if_icmp .lt 21, 3) := by decide +kernel
theorem d_Mod_put_5 : decode b_Mod_put 5 = .ok (.iload_n 3, 1) := by decide +kernel
theorem d_Mod_put_6 : decode b_Mod_put 6 = .ok (.bipush 8, 2) := by decide +kernel
theorem d_Mod_put_8 : decode b_Mod_put 8 = .ok (.if_icmp .gt 15, 3) := by decide +kernel
theorem d_Mod_put_11 : decode b_Mod_put 11 = .ok (.aload_n 0, 1) := by decide +kernel
theorem d_Mod_put_12 : decode b_Mod_put 12 = .ok (.getfield 46, 3) := by decide +kernel
theorem d_Mod_put_15 : decode b_Mod_put 15 = .ok (.iload_n 3, 1) := by decide +kernel
theorem d_Mod_put_16 : decode b_Mod_put 16 = .ok (.iadd, 1) := by decide +kernel
theorem d_Mod_put_17 : decode b_Mod_put 17 = .ok (.sipush 2000, 3) := by decide +kernel
theorem d_Mod_put_20 : decode b_Mod_put 20 = .ok (.if_icmp .le 5, 3) := by decide +kernel
theorem d_Mod_put_23 : decode b_Mod_put 23 = .ok (.iconst 0, 1) := by decide +kernel
theorem d_Mod_put_24 : decode b_Mod_put 24 = .ok (.ireturn, 1) := by decide +kernel
theorem d_Mod_put_25 : decode b_Mod_put 25 = .ok (.iload_n 3, 1) := by decide +kernel
theorem d_Mod_put_26 : decode b_Mod_put 26 = .ok (.iconst 1, 1) := by decide +kernel
theorem d_Mod_put_27 : decode b_Mod_put 27 = .ok (.isub, 1) := by decide +kernel
theorem d_Mod_put_28 : decode b_Mod_put 28 = .ok (.istore 4, 2) := by decide +kernel
theorem d_Mod_put_30 : decode b_Mod_put 30 = .ok (.iload 4, 2) := by decide +kernel
theorem d_Mod_put_32 : decode b_Mod_put 32 = .ok (.ifCond .lt 40, 3) := by decide +kernel
theorem d_Mod_put_35 : decode b_Mod_put 35 = .ok (.aload_n 0, 1) := by decide +kernel
theorem d_Mod_put_36 : decode b_Mod_put 36 = .ok (.getfield 7, 3) := by decide +kernel
theorem d_Mod_put_39 : decode b_Mod_put 39 = .ok (.aload_n 0, 1) := by decide +kernel
theorem d_Mod_put_40 : decode b_Mod_put 40 = .ok (.getfield 46, 3) := by decide +kernel
theorem d_Mod_put_43 : decode b_Mod_put 43 = .ok (.lload_n 1, 1) := by decide +kernel
theorem d_Mod_put_44 : decode b_Mod_put 44 = .ok (.bipush 8, 2) := by decide +kernel
theorem d_Mod_put_46 : decode b_Mod_put 46 = .ok (.iload 4, 2) := by decide +kernel
theorem d_Mod_put_48 : decode b_Mod_put 48 = .ok (.imul, 1) := by decide +kernel
theorem d_Mod_put_49 : decode b_Mod_put 49 = .ok (.lshr, 1) := by decide +kernel
theorem d_Mod_put_50 : decode b_Mod_put 50 = .ok (.l2i, 1) := by decide +kernel
theorem d_Mod_put_51 : decode b_Mod_put 51 = .ok (.sipush 255, 3) := by decide +kernel
theorem d_Mod_put_54 : decode b_Mod_put 54 = .ok (.iand, 1) := by decide +kernel
theorem d_Mod_put_55 : decode b_Mod_put 55 = .ok (.iastore, 1) := by decide +kernel
theorem d_Mod_put_56 : decode b_Mod_put 56 = .ok (.aload_n 0, 1) := by decide +kernel
theorem d_Mod_put_57 : decode b_Mod_put 57 = .ok (.aload_n 0, 1) := by decide +kernel
theorem d_Mod_put_58 : decode b_Mod_put 58 = .ok (.getfield 46, 3) := by decide +kernel
theorem d_Mod_put_61 : decode b_Mod_put 61 = .ok (.iconst 1, 1) := by decide +kernel
theorem d_Mod_put_62 : decode b_Mod_put 62 = .ok (.iadd, 1) := by decide +kernel
theorem d_Mod_put_63 : decode b_Mod_put 63 = .ok (.putfield 46, 3) := by decide +kernel
theorem d_Mod_put_66 : decode b_Mod_put 66 = .ok (.iinc 4 (-1), 3) := by decide +kernel
theorem d_Mod_put_69 : decode b_Mod_put 69 = .ok (.goto (-39), 3) := by decide +kernel
theorem d_Mod_put_72 : decode b_Mod_put 72 = .ok (.iconst 1, 1) := by decide +kernel
theorem d_Mod_put_73 : decode b_Mod_put 73 = .ok (.ireturn, 1) := by decide +kernel
theorem d_Mod_place_0 : decode b_Mod_place 0 = .ok (.aload_n 0, 1) := by decide +kernel
theorem d_Mod_place_1 : decode b_Mod_place 1 = .ok (.getfield 13, 3) := by decide +kernel
theorem d_Mod_place_4 : decode b_Mod_place 4 = .ok (.ireturn, 1) := by decide +kernel
theorem d_Mod_read_0 : decode b_Mod_read 0 = .ok (.aload_n 0, 1) := by decide +kernel
theorem d_Mod_read_1 : decode b_Mod_read 1 = .ok (.aload_n 0, 1) := by decide +kernel
theorem d_Mod_read_2 : decode b_Mod_read 2 = .ok (.getfield 46, 3) := by decide +kernel
theorem d_Mod_read_5 : decode b_Mod_read 5 = .ok (.putfield 49, 3) := by decide +kernel
theorem d_Mod_read_8 : decode b_Mod_read 8 = .ok (.aload_n 0, 1) := by decide +kernel
theorem d_Mod_read_9 : decode b_Mod_read 9 = .ok (.iconst 0, 1) := by decide +kernel
theorem d_Mod_read_10 : decode b_Mod_read 10 = .ok (.putfield 46, 3) := by decide +kernel
theorem d_Mod_read_13 : decode b_Mod_read 13 = .ok (.aload_n 0, 1) := by decide +kernel
theorem d_Mod_read_14 : decode b_Mod_read 14 = .ok (.invokevirtual 114, 3) := by decide +kernel
theorem d_Mod_read_17 : decode b_Mod_read 17 = .ok (.aload_n 0, 1) := by decide +kernel
theorem d_Mod_read_18 : decode b_Mod_read 18 = .ok (.iconst (-1), 1) := by decide +kernel
theorem d_Mod_read_19 : decode b_Mod_read 19 = .ok (.putfield 13, 3) := by decide +kernel
theorem d_Mod_read_22 : decode b_Mod_read 22 = .ok (.iconst 0, 1) := by decide +kernel
theorem d_Mod_read_23 : decode b_Mod_read 23 = .ok (.istore_n 1, 1) := by decide +kernel
theorem d_Mod_read_24 : decode b_Mod_read 24 = .ok (.iconst 0, 1) := by decide +kernel
theorem d_Mod_read_25 : decode b_Mod_read 25 = .ok (.istore_n 2, 1) := by decide +kernel
theorem d_Mod_read_26 : decode b_Mod_read 26 = .ok (.iload_n 2, 1) := by decide +kernel
theorem d_Mod_read_27 : decode b_Mod_read 27 = .ok (.aload_n 0, 1) := by decide +kernel
theorem d_Mod_read_28 : decode b_Mod_read 28 = .ok (.getfield 49, 3) := by decide +kernel
theorem d_Mod_read_31 : decode b_Mod_read 31 = .ok (.if_icmp .ge 184, 3) := by decide +kernel
theorem d_Mod_read_34 : decode b_Mod_read 34 = .ok (.aload_n 0, 1) := by decide +kernel
theorem d_Mod_read_35 : decode b_Mod_read 35 = .ok (.getfield 7, 3) := by decide +kernel
theorem d_Mod_read_38 : decode b_Mod_read 38 = .ok (.iload_n 2, 1) := by decide +kernel
theorem d_Mod_read_39 : decode b_Mod_read 39 = .ok (.iaload, 1) := by decide +kernel
theorem d_Mod_read_40 : decode b_Mod_read 40 = .ok (.istore_n 3, 1) := by decide +kernel
theorem d_Mod_read_41 : decode b_Mod_read 41 = .ok (.iload_n 3, 1) := by decide +kernel
theorem d_Mod_read_42 : decode b_Mod_read 42 = .ok (.bipush 10, 2) := by decide +kernel
theorem d_Mod_read_44 : decode b_Mod_read 44 = .ok (.if_icmp .ne 5, 3) := by decide +kernel
theorem d_Mod_read_47 : decode b_Mod_read 47 = .ok (.iconst 0, 1) := by decide +kernel
theorem d_Mod_read_48 : decode b_Mod_read 48 = .ok (.istore_n 1, 1) := by decide +kernel
theorem d_Mod_read_49 : decode b_Mod_read 49 = .ok (.iload_n 3, 1) := by decide +kernel
theorem d_Mod_read_50 : decode b_Mod_read 50 = .ok (.bipush 10, 2) := by decide +kernel
theorem d_Mod_read_52 : decode b_Mod_read 52 = .ok (.if_icmp .eq 10, 3) := by decide +kernel
theorem d_Mod_read_55 : decode b_Mod_read 55 = .ok (.iload_n 3, 1) := by decide +kernel
theorem d_Mod_read_56 : decode b_Mod_read 56 = .ok (.invokestatic 117, 3) := by decide +kernel
theorem d_Mod_read_59 : decode b_Mod_read 59 = .ok (.ifCond .eq 10, 3) := by decide +kernel
theorem d_Mod_read_62 : decode b_Mod_read 62 = .ok (.iload_n 2, 1) := by decide +kernel
theorem d_Mod_read_63 : decode b_Mod_read 63 = .ok (.iconst 1, 1) := by decide +kernel
theorem d_Mod_read_64 : decode b_Mod_read 64 = .ok (.iadd, 1) := by decide +kernel
theorem d_Mod_read_65 : decode b_Mod_read 65 = .ok (.istore_n 2, 1) := by decide +kernel
theorem d_Mod_read_66 : decode b_Mod_read 66 = .ok (.goto (-40), 3) := by decide +kernel
theorem d_Mod_read_69 : decode b_Mod_read 69 = .ok (.iload_n 2, 1) := by decide +kernel
theorem d_Mod_read_70 : decode b_Mod_read 70 = .ok (.istore 4, 2) := by decide +kernel
theorem d_Mod_read_72 : decode b_Mod_read 72 = .ok (.iload 4, 2) := by decide +kernel
theorem d_Mod_read_74 : decode b_Mod_read 74 = .ok (.aload_n 0, 1) := by decide +kernel
theorem d_Mod_read_75 : decode b_Mod_read 75 = .ok (.getfield 49, 3) := by decide +kernel
theorem d_Mod_read_78 : decode b_Mod_read 78 = .ok (.if_icmp .ge 62, 3) := by decide +kernel
theorem d_Mod_read_81 : decode b_Mod_read 81 = .ok (.aload_n 0, 1) := by decide +kernel
theorem d_Mod_read_82 : decode b_Mod_read 82 = .ok (.getfield 7, 3) := by decide +kernel
theorem d_Mod_read_85 : decode b_Mod_read 85 = .ok (.iload 4, 2) := by decide +kernel
theorem d_Mod_read_87 : decode b_Mod_read 87 = .ok (.iaload, 1) := by decide +kernel
theorem d_Mod_read_88 : decode b_Mod_read 88 = .ok (.bipush 10, 2) := by decide +kernel
theorem d_Mod_read_90 : decode b_Mod_read 90 = .ok (.if_icmp .eq 50, 3) := by decide +kernel
theorem d_Mod_read_93 : decode b_Mod_read 93 = .ok (.aload_n 0, 1) := by decide +kernel
theorem d_Mod_read_94 : decode b_Mod_read 94 = .ok (.getfield 7, 3) := by decide +kernel
theorem d_Mod_read_97 : decode b_Mod_read 97 = .ok (.iload 4, 2) := by decide +kernel
theorem d_Mod_read_99 : decode b_Mod_read 99 = .ok (.iaload, 1) := by decide +kernel
theorem d_Mod_read_100 : decode b_Mod_read 100 = .ok (.invokestatic 117, 3) := by decide +kernel
theorem d_Mod_read_103 : decode b_Mod_read 103 = .ok (.ifCond .ne 37, 3) := by decide +kernel
theorem d_Mod_read_106 : decode b_Mod_read 106 = .ok (.aload_n 0, 1) := by decide +kernel
theorem d_Mod_read_107 : decode b_Mod_read 107 = .ok (.getfield 7, 3) := by decide +kernel
theorem d_Mod_read_110 : decode b_Mod_read 110 = .ok (.iload 4, 2) := by decide +kernel
theorem d_Mod_read_112 : decode b_Mod_read 112 = .ok (.iaload, 1) := by decide +kernel
theorem d_Mod_read_113 : decode b_Mod_read 113 = .ok (.bipush 47, 2) := by decide +kernel
theorem d_Mod_read_115 : decode b_Mod_read 115 = .ok (.if_icmp .ne 16, 3) := by decide +kernel
theorem d_Mod_read_118 : decode b_Mod_read 118 = .ok (.aload_n 0, 1) := by decide +kernel
theorem d_Mod_read_119 : decode b_Mod_read 119 = .ok (.iload 4, 2) := by decide +kernel
theorem d_Mod_read_121 : decode b_Mod_read 121 = .ok (.iconst 1, 1) := by decide +kernel
theorem d_Mod_read_122 : decode b_Mod_read 122 = .ok (.iadd, 1) := by decide +kernel
theorem d_Mod_read_123 : decode b_Mod_read 123 = .ok (.invokevirtual 120, 3) := by decide +kernel
theorem d_Mod_read_126 : decode b_Mod_read 126 = .ok (.bipush 47, 2) := by decide +kernel
theorem d_Mod_read_128 : decode b_Mod_read 128 = .ok (.if_icmp .eq 12, 3) := by decide +kernel
theorem d_Mod_read_131 : decode b_Mod_read 131 = .ok (.iload 4, 2) := by decide +kernel
theorem d_Mod_read_133 : decode b_Mod_read 133 = .ok (.iconst 1, 1) := by decide +kernel
theorem d_Mod_read_134 : decode b_Mod_read 134 = .ok (.iadd, 1) := by decide +kernel
theorem d_Mod_read_135 : decode b_Mod_read 135 = .ok (.istore 4, 2) := by decide +kernel
theorem d_Mod_read_137 : decode b_Mod_read 137 = .ok (.goto (-65), 3) := by decide +kernel
theorem d_Mod_read_140 : decode b_Mod_read 140 = .ok (.iload 4, 2) := by decide +kernel
theorem d_Mod_read_142 : decode b_Mod_read 142 = .ok (.iload_n 2, 1) := by decide +kernel
theorem d_Mod_read_143 : decode b_Mod_read 143 = .ok (.if_icmp .ne 29, 3) := by decide +kernel
theorem d_Mod_read_146 : decode b_Mod_read 146 = .ok (.iload_n 2, 1) := by decide +kernel
theorem d_Mod_read_147 : decode b_Mod_read 147 = .ok (.aload_n 0, 1) := by decide +kernel
theorem d_Mod_read_148 : decode b_Mod_read 148 = .ok (.getfield 49, 3) := by decide +kernel
theorem d_Mod_read_151 : decode b_Mod_read 151 = .ok (.if_icmp .ge (-125), 3) := by decide +kernel
theorem d_Mod_read_154 : decode b_Mod_read 154 = .ok (.aload_n 0, 1) := by decide +kernel
theorem d_Mod_read_155 : decode b_Mod_read 155 = .ok (.getfield 7, 3) := by decide +kernel
theorem d_Mod_read_158 : decode b_Mod_read 158 = .ok (.iload_n 2, 1) := by decide +kernel
theorem d_Mod_read_159 : decode b_Mod_read 159 = .ok (.iaload, 1) := by decide +kernel
theorem d_Mod_read_160 : decode b_Mod_read 160 = .ok (.bipush 10, 2) := by decide +kernel
theorem d_Mod_read_162 : decode b_Mod_read 162 = .ok (.if_icmp .eq (-136), 3) := by decide +kernel
theorem d_Mod_read_165 : decode b_Mod_read 165 = .ok (.iload_n 2, 1) := by decide +kernel
theorem d_Mod_read_166 : decode b_Mod_read 166 = .ok (.iconst 1, 1) := by decide +kernel
theorem d_Mod_read_167 : decode b_Mod_read 167 = .ok (.iadd, 1) := by decide +kernel
theorem d_Mod_read_168 : decode b_Mod_read 168 = .ok (.istore_n 2, 1) := by decide +kernel
theorem d_Mod_read_169 : decode b_Mod_read 169 = .ok (.goto (-23), 3) := by decide +kernel
theorem d_Mod_read_172 : decode b_Mod_read 172 = .ok (.aload_n 0, 1) := by decide +kernel
theorem d_Mod_read_173 : decode b_Mod_read 173 = .ok (.iload_n 2, 1) := by decide +kernel
theorem d_Mod_read_174 : decode b_Mod_read 174 = .ok (.iload 4, 2) := by decide +kernel
theorem d_Mod_read_176 : decode b_Mod_read 176 = .ok (.iload_n 2, 1) := by decide +kernel
theorem d_Mod_read_177 : decode b_Mod_read 177 = .ok (.isub, 1) := by decide +kernel
theorem d_Mod_read_178 : decode b_Mod_read 178 = .ok (.iload_n 1, 1) := by decide +kernel
theorem d_Mod_read_179 : decode b_Mod_read 179 = .ok (.invokevirtual 124, 3) := by decide +kernel
theorem d_Mod_read_182 : decode b_Mod_read 182 = .ok (.istore 5, 2) := by decide +kernel
theorem d_Mod_read_184 : decode b_Mod_read 184 = .ok (.iload 5, 2) := by decide +kernel
theorem d_Mod_read_186 : decode b_Mod_read 186 = .ok (.ifCond .le 21, 3) := by decide +kernel
theorem d_Mod_read_189 : decode b_Mod_read 189 = .ok (.aload_n 0, 1) := by decide +kernel
theorem d_Mod_read_190 : decode b_Mod_read 190 = .ok (.iload_n 2, 1) := by decide +kernel
theorem d_Mod_read_191 : decode b_Mod_read 191 = .ok (.putfield 13, 3) := by decide +kernel
theorem d_Mod_read_194 : decode b_Mod_read 194 = .ok (.aload_n 0, 1) := by decide +kernel
theorem d_Mod_read_195 : decode b_Mod_read 195 = .ok (.iconst 0, 1) := by decide +kernel
theorem d_Mod_read_196 : decode b_Mod_read 196 = .ok (.putfield 83, 3) := by decide +kernel
theorem d_Mod_read_199 : decode b_Mod_read 199 = .ok (.aload_n 0, 1) := by decide +kernel
theorem d_Mod_read_200 : decode b_Mod_read 200 = .ok (.iconst 0, 1) := by decide +kernel
theorem d_Mod_read_201 : decode b_Mod_read 201 = .ok (.putfield 69, 3) := by decide +kernel
theorem d_Mod_read_204 : decode b_Mod_read 204 = .ok (.iload 5, 2) := by decide +kernel
theorem d_Mod_read_206 : decode b_Mod_read 206 = .ok (.ireturn, 1) := by decide +kernel
theorem d_Mod_read_207 : decode b_Mod_read 207 = .ok (.iconst 1, 1) := by decide +kernel
theorem d_Mod_read_208 : decode b_Mod_read 208 = .ok (.istore_n 1, 1) := by decide +kernel
theorem d_Mod_read_209 : decode b_Mod_read 209 = .ok (.iload 4, 2) := by decide +kernel
theorem d_Mod_read_211 : decode b_Mod_read 211 = .ok (.istore_n 2, 1) := by decide +kernel
theorem d_Mod_read_212 : decode b_Mod_read 212 = .ok (.goto (-186), 3) := by decide +kernel
theorem d_Mod_read_215 : decode b_Mod_read 215 = .ok (.bipush 16, 2) := by decide +kernel
theorem d_Mod_read_217 : decode b_Mod_read 217 = .ok (.istore_n 3, 1) := by decide +kernel
theorem d_Mod_read_218 : decode b_Mod_read 218 = .ok (.iconst 0, 1) := by decide +kernel
theorem d_Mod_read_219 : decode b_Mod_read 219 = .ok (.istore 4, 2) := by decide +kernel
theorem d_Mod_read_221 : decode b_Mod_read 221 = .ok (.iload 4, 2) := by decide +kernel
theorem d_Mod_read_223 : decode b_Mod_read 223 = .ok (.aload_n 0, 1) := by decide +kernel
theorem d_Mod_read_224 : decode b_Mod_read 224 = .ok (.getfield 69, 3) := by decide +kernel
theorem d_Mod_read_227 : decode b_Mod_read 227 = .ok (.if_icmp .ge 35, 3) := by decide +kernel
theorem d_Mod_read_230 : decode b_Mod_read 230 = .ok (.aload_n 0, 1) := by decide +kernel
theorem d_Mod_read_231 : decode b_Mod_read 231 = .ok (.getfield 26, 3) := by decide +kernel
theorem d_Mod_read_234 : decode b_Mod_read 234 = .ok (.iload 4, 2) := by decide +kernel
theorem d_Mod_read_236 : decode b_Mod_read 236 = .ok (.iaload, 1) := by decide +kernel
theorem d_Mod_read_237 : decode b_Mod_read 237 = .ok (.iconst (-1), 1) := by decide +kernel
theorem d_Mod_read_238 : decode b_Mod_read 238 = .ok (.if_icmp .eq 6, 3) := by decide +kernel
theorem d_Mod_read_241 : decode b_Mod_read 241 = .ok (.goto 15, 3) := by decide +kernel
theorem d_Mod_read_244 : decode b_Mod_read 244 = .ok (.aload_n 0, 1) := by decide +kernel
theorem d_Mod_read_245 : decode b_Mod_read 245 = .ok (.getfield 26, 3) := by decide +kernel
theorem d_Mod_read_248 : decode b_Mod_read 248 = .ok (.iload 4, 2) := by decide +kernel
theorem d_Mod_read_250 : decode b_Mod_read 250 = .ok (.iload_n 3, 1) := by decide +kernel
theorem d_Mod_read_251 : decode b_Mod_read 251 = .ok (.iastore, 1) := by decide +kernel
theorem d_Mod_read_252 : decode b_Mod_read 252 = .ok (.iload_n 3, 1) := by decide +kernel
theorem d_Mod_read_253 : decode b_Mod_read 253 = .ok (.iconst 1, 1) := by decide +kernel
theorem d_Mod_read_254 : decode b_Mod_read 254 = .ok (.iadd, 1) := by decide +kernel
theorem d_Mod_read_255 : decode b_Mod_read 255 = .ok (.istore_n 3, 1) := by decide +kernel
theorem d_Mod_read_256 : decode b_Mod_read 256 = .ok (.iinc 4 1, 3) := by decide +kernel
theorem d_Mod_read_259 : decode b_Mod_read 259 = .ok (.goto (-38), 3) := by decide +kernel
theorem d_Mod_read_262 : decode b_Mod_read 262 = .ok (.iconst 0, 1) := by decide +kernel
theorem d_Mod_read_263 : decode b_Mod_read 263 = .ok (.istore 4, 2) := by decide +kernel
theorem d_Mod_read_265 : decode b_Mod_read 265 = .ok (.iload 4, 2) := by decide +kernel
theorem d_Mod_read_267 : decode b_Mod_read 267 = .ok (.aload_n 0, 1) := by decide +kernel
theorem d_Mod_read_268 : decode b_Mod_read 268 = .ok (.getfield 83, 3) := by decide +kernel
theorem d_Mod_read_271 : decode b_Mod_read 271 = .ok (.if_icmp .ge 49, 3) := by decide +kernel
theorem d_Mod_read_274 : decode b_Mod_read 274 = .ok (.aload_n 0, 1) := by decide +kernel
theorem d_Mod_read_275 : decode b_Mod_read 275 = .ok (.getfield 17, 3) := by decide +kernel
theorem d_Mod_read_278 : decode b_Mod_read 278 = .ok (.iload 4, 2) := by decide +kernel
theorem d_Mod_read_280 : decode b_Mod_read 280 = .ok (.aload_n 0, 1) := by decide +kernel
theorem d_Mod_read_281 : decode b_Mod_read 281 = .ok (.getfield 29, 3) := by decide +kernel
theorem d_Mod_read_284 : decode b_Mod_read 284 = .ok (.iload 4, 2) := by decide +kernel
theorem d_Mod_read_286 : decode b_Mod_read 286 = .ok (.iaload, 1) := by decide +kernel
theorem d_Mod_read_287 : decode b_Mod_read 287 = .ok (.iconst (-1), 1) := by decide +kernel
theorem d_Mod_read_288 : decode b_Mod_read 288 = .ok (.if_icmp .ne 13, 3) := by decide +kernel
theorem d_Mod_read_291 : decode b_Mod_read 291 = .ok (.aload_n 0, 1) := by decide +kernel
theorem d_Mod_read_292 : decode b_Mod_read 292 = .ok (.getfield 17, 3) := by decide +kernel
theorem d_Mod_read_295 : decode b_Mod_read 295 = .ok (.iload 4, 2) := by decide +kernel
theorem d_Mod_read_297 : decode b_Mod_read 297 = .ok (.iaload, 1) := by decide +kernel
theorem d_Mod_read_298 : decode b_Mod_read 298 = .ok (.goto 15, 3) := by decide +kernel
theorem d_Mod_read_301 : decode b_Mod_read 301 = .ok (.aload_n 0, 1) := by decide +kernel
theorem d_Mod_read_302 : decode b_Mod_read 302 = .ok (.getfield 26, 3) := by decide +kernel
theorem d_Mod_read_305 : decode b_Mod_read 305 = .ok (.aload_n 0, 1) := by decide +kernel
theorem d_Mod_read_306 : decode b_Mod_read 306 = .ok (.getfield 29, 3) := by decide +kernel
theorem d_Mod_read_309 : decode b_Mod_read 309 = .ok (.iload 4, 2) := by decide +kernel
theorem d_Mod_read_311 : decode b_Mod_read 311 = .ok (.iaload, 1) := by decide +kernel
theorem d_Mod_read_312 : decode b_Mod_read 312 = .ok (.iaload, 1) := by decide +kernel
theorem d_Mod_read_313 : decode b_Mod_read 313 = .ok (.iastore, 1) := by decide +kernel
theorem d_Mod_read_314 : decode b_Mod_read 314 = .ok (.iinc 4 1, 3) := by decide +kernel
theorem d_Mod_read_317 : decode b_Mod_read 317 = .ok (.goto (-52), 3) := by decide +kernel
theorem d_Mod_read_320 : decode b_Mod_read 320 = .ok (.iconst 0, 1) := by decide +kernel
theorem d_Mod_read_321 : decode b_Mod_read 321 = .ok (.ireturn, 1) := by decide +kernel
theorem d_Mod_resetProcessor_0 : decode b_Mod_resetProcessor 0 = .ok (.iconst 0, 1) := by decide +kernel
theorem d_Mod_resetProcessor_1 : decode b_Mod_resetProcessor 1 = .ok (.istore_n 1, 1) := by decide +kernel
theorem d_Mod_resetProcessor_2 : decode b_Mod_resetProcessor 2 = .ok (.iload_n 1, 1) := by decide +kernel
theorem d_Mod_resetProcessor_3 : decode b_Mod_resetProcessor 3 = .ok (.ldc 32, 2) := by decide +kernel
theorem d_Mod_resetProcessor_5 : decode b_Mod_resetProcessor 5 = .ok (.if_icmp .ge 16, 3) := by decide +kernel
theorem d_Mod_resetProcessor_8 : decode b_Mod_resetProcessor 8 = .ok (.aload_n 0, 1) := by decide +kernel
theorem d_Mod_resetProcessor_9 : decode b_Mod_resetProcessor 9 = .ok (.getfield 33, 3) := by decide +kernel
theorem d_Mod_resetProcessor_12 : decode b_Mod_resetProcessor 12 = .ok (.iload_n 1, 1) := by decide +kernel
theorem d_Mod_resetProcessor_13 : decode b_Mod_resetProcessor 13 = .ok (.iconst 0, 1) := by decide +kernel
theorem d_Mod_resetProcessor_14 : decode b_Mod_resetProcessor 14 = .ok (.iastore, 1) := by decide +kernel
theorem d_Mod_resetProcessor_15 : decode b_Mod_resetProcessor 15 = .ok (.iinc 1 1, 3) := by decide +kernel
theorem d_Mod_resetProcessor_18 : decode b_Mod_resetProcessor 18 = .ok (.goto (-16), 3) := by decide +kernel
theorem d_Mod_resetProcessor_21 : decode b_Mod_resetProcessor 21 = .ok (.aload_n 0, 1) := by decide +kernel
theorem d_Mod_resetProcessor_22 : decode b_Mod_resetProcessor 22 = .ok (.iconst 0, 1) := by decide +kernel
theorem d_Mod_resetProcessor_23 : decode b_Mod_resetProcessor 23 = .ok (.putfield 102, 3) := by decide +kernel
theorem d_Mod_resetProcessor_26 : decode b_Mod_resetProcessor 26 = .ok (.aload_n 0, 1) := by decide +kernel
theorem d_Mod_resetProcessor_27 : decode b_Mod_resetProcessor 27 = .ok (.iconst 0, 1) := by decide +kernel
theorem d_Mod_resetProcessor_28 : decode b_Mod_resetProcessor 28 = .ok (.putfield 105, 3) := by decide +kernel
theorem d_Mod_resetProcessor_31 : decode b_Mod_resetProcessor 31 = .ok (.aload_n 0, 1) := by decide +kernel
theorem d_Mod_resetProcessor_32 : decode b_Mod_resetProcessor 32 = .ok (.iconst 0, 1) := by decide +kernel
theorem d_Mod_resetProcessor_33 : decode b_Mod_resetProcessor 33 = .ok (.putfield 108, 3) := by decide +kernel
theorem d_Mod_resetProcessor_36 : decode b_Mod_resetProcessor 36 = .ok (.aload_n 0, 1) := by decide +kernel
theorem d_Mod_resetProcessor_37 : decode b_Mod_resetProcessor 37 = .ok (.iconst 0, 1) := by decide +kernel
theorem d_Mod_resetProcessor_38 : decode b_Mod_resetProcessor 38 = .ok (.putfield 111, 3) := by decide +kernel
theorem d_Mod_resetProcessor_41 : decode b_Mod_resetProcessor 41 = .ok (.aload_n 0, 1) := by decide +kernel
theorem d_Mod_resetProcessor_42 : decode b_Mod_resetProcessor 42 = .ok (.iconst 0, 1) := by decide +kernel
theorem d_Mod_resetProcessor_43 : decode b_Mod_resetProcessor 43 = .ok (.putfield 83, 3) := by decide +kernel
theorem d_Mod_resetProcessor_46 : decode b_Mod_resetProcessor 46 = .ok (.aload_n 0, 1) := by decide +kernel
theorem d_Mod_resetProcessor_47 : decode b_Mod_resetProcessor 47 = .ok (.iconst 0, 1) := by decide +kernel
theorem d_Mod_resetProcessor_48 : decode b_Mod_resetProcessor 48 = .ok (.putfield 69, 3) := by decide +kernel
theorem d_Mod_resetProcessor_51 : decode b_Mod_resetProcessor 51 = .ok (.return_, 1) := by decide +kernel
theorem d_Mod_isBlank_0 : decode b_Mod_isBlank 0 = .ok (.iload_n 0, 1) := by decide +kernel
theorem d_Mod_isBlank_1 : decode b_Mod_isBlank 1 = .ok (.bipush 9, 2) := by decide +kernel
theorem d_Mod_isBlank_3 : decode b_Mod_isBlank 3 = .ok (.if_icmp .eq 15, 3) := by decide +kernel
theorem d_Mod_isBlank_6 : decode b_Mod_isBlank 6 = .ok (.iload_n 0, 1) := by decide +kernel
theorem d_Mod_isBlank_7 : decode b_Mod_isBlank 7 = .ok (.bipush 13, 2) := by decide +kernel
theorem d_Mod_isBlank_9 : decode b_Mod_isBlank 9 = .ok (.if_icmp .eq 9, 3) := by decide +kernel
theorem d_Mod_isBlank_12 : decode b_Mod_isBlank 12 = .ok (.iload_n 0, 1) := by decide +kernel
theorem d_Mod_isBlank_13 : decode b_Mod_isBlank 13 = .ok (.bipush 32, 2) := by decide +kernel
theorem d_Mod_isBlank_15 : decode b_Mod_isBlank 15 = .ok (.if_icmp .ne 7, 3) := by decide +kernel
theorem d_Mod_isBlank_18 : decode b_Mod_isBlank 18 = .ok (.iconst 1, 1) := by decide +kernel
theorem d_Mod_isBlank_19 : decode b_Mod_isBlank 19 = .ok (.goto 4, 3) := by decide +kernel
theorem d_Mod_isBlank_22 : decode b_Mod_isBlank 22 = .ok (.iconst 0, 1) := by decide +kernel
theorem d_Mod_isBlank_23 : decode b_Mod_isBlank 23 = .ok (.ireturn, 1) := by decide +kernel
theorem d_Mod_at_0 : decode b_Mod_at 0 = .ok (.iload_n 1, 1) := by decide +kernel
theorem d_Mod_at_1 : decode b_Mod_at 1 = .ok (.aload_n 0, 1) := by decide +kernel
theorem d_Mod_at_2 : decode b_Mod_at 2 = .ok (.getfield 49, 3) := by decide +kernel
theorem d_Mod_at_5 : decode b_Mod_at 5 = .ok (.if_icmp .ge 12, 3) := by decide +kernel
theorem d_Mod_at_8 : decode b_Mod_at 8 = .ok (.aload_n 0, 1) := by decide +kernel
theorem d_Mod_at_9 : decode b_Mod_at 9 = .ok (.getfield 7, 3) := by decide +kernel
theorem d_Mod_at_12 : decode b_Mod_at 12 = .ok (.iload_n 1, 1) := by decide +kernel
theorem d_Mod_at_13 : decode b_Mod_at 13 = .ok (.iaload, 1) := by decide +kernel
theorem d_Mod_at_14 : decode b_Mod_at 14 = .ok (.goto 4, 3) := by decide +kernel
theorem d_Mod_at_17 : decode b_Mod_at 17 = .ok (.iconst (-1), 1) := by decide +kernel
theorem d_Mod_at_18 : decode b_Mod_at 18 = .ok (.ireturn, 1) := by decide +kernel
theorem d_Mod_instruction_0 : decode b_Mod_instruction 0 = .ok (.iload_n 3, 1) := by decide +kernel
theorem d_Mod_instruction_1 : decode b_Mod_instruction 1 = .ok (.ifCond .eq 5, 3) := by decide +kernel
theorem d_Mod_instruction_4 : decode b_Mod_instruction 4 = .ok (.iconst 1, 1) := by decide +kernel
theorem d_Mod_instruction_5 : decode b_Mod_instruction 5 = .ok (.ireturn, 1) := by decide +kernel
theorem d_Mod_instruction_6 : decode b_Mod_instruction 6 = .ok (.aload_n 0, 1) := by decide +kernel
theorem d_Mod_instruction_7 : decode b_Mod_instruction 7 = .ok (.getfield 7, 3) := by decide +kernel
theorem d_Mod_instruction_10 : decode b_Mod_instruction 10 = .ok (.iload_n 1, 1) := by decide +kernel
theorem d_Mod_instruction_11 : decode b_Mod_instruction 11 = .ok (.iaload, 1) := by decide +kernel
theorem d_Mod_instruction_12 : decode b_Mod_instruction 12 = .ok (.bipush 40, 2) := by decide +kernel
theorem d_Mod_instruction_14 : decode b_Mod_instruction 14 = .ok (.if_icmp .ne 10, 3) := by decide +kernel
theorem d_Mod_instruction_17 : decode b_Mod_instruction 17 = .ok (.aload_n 0, 1) := by decide +kernel
theorem d_Mod_instruction_18 : decode b_Mod_instruction 18 = .ok (.iload_n 1, 1) := by decide +kernel
theorem d_Mod_instruction_19 : decode b_Mod_instruction 19 = .ok (.iload_n 2, 1) := by decide +kernel
theorem d_Mod_instruction_20 : decode b_Mod_instruction 20 = .ok (.invokevirtual 93, 3) := by decide +kernel
theorem d_Mod_instruction_23 : decode b_Mod_instruction 23 = .ok (.ireturn, 1) := by decide +kernel
theorem d_Mod_instruction_24 : decode b_Mod_instruction 24 = .ok (.aload_n 0, 1) := by decide +kernel
theorem d_Mod_instruction_25 : decode b_Mod_instruction 25 = .ok (.getfield 7, 3) := by decide +kernel
theorem d_Mod_instruction_28 : decode b_Mod_instruction 28 = .ok (.iload_n 1, 1) := by decide +kernel
theorem d_Mod_instruction_29 : decode b_Mod_instruction 29 = .ok (.iaload, 1) := by decide +kernel
theorem d_Mod_instruction_30 : decode b_Mod_instruction 30 = .ok (.bipush 64, 2) := by decide +kernel
theorem d_Mod_instruction_32 : decode b_Mod_instruction 32 = .ok (.if_icmp .ne 16, 3) := by decide +kernel
theorem d_Mod_instruction_35 : decode b_Mod_instruction 35 = .ok (.aload_n 0, 1) := by decide +kernel
theorem d_Mod_instruction_36 : decode b_Mod_instruction 36 = .ok (.iload_n 1, 1) := by decide +kernel
theorem d_Mod_instruction_37 : decode b_Mod_instruction 37 = .ok (.iconst 1, 1) := by decide +kernel
theorem d_Mod_instruction_38 : decode b_Mod_instruction 38 = .ok (.iadd, 1) := by decide +kernel
theorem d_Mod_instruction_39 : decode b_Mod_instruction 39 = .ok (.iload_n 2, 1) := by decide +kernel
theorem d_Mod_instruction_40 : decode b_Mod_instruction 40 = .ok (.iconst 1, 1) := by decide +kernel
theorem d_Mod_instruction_41 : decode b_Mod_instruction 41 = .ok (.isub, 1) := by decide +kernel
theorem d_Mod_instruction_42 : decode b_Mod_instruction 42 = .ok (.invokevirtual 96, 3) := by decide +kernel
theorem d_Mod_instruction_45 : decode b_Mod_instruction 45 = .ok (.goto 9, 3) := by decide +kernel
theorem d_Mod_instruction_48 : decode b_Mod_instruction 48 = .ok (.aload_n 0, 1) := by decide +kernel
theorem d_Mod_instruction_49 : decode b_Mod_instruction 49 = .ok (.iload_n 1, 1) := by decide +kernel
theorem d_Mod_instruction_50 : decode b_Mod_instruction 50 = .ok (.iload_n 2, 1) := by decide +kernel
theorem d_Mod_instruction_51 : decode b_Mod_instruction 51 = .ok (.invokevirtual 99, 3) := by decide +kernel
theorem d_Mod_instruction_54 : decode b_Mod_instruction 54 = .ok (.ireturn, 1) := by decide +kernel
theorem d_Mod_label_0 : decode b_Mod_label 0 = .ok (.iload_n 2, 1) := by decide +kernel
theorem d_Mod_label_1 : decode b_Mod_label 1 = .ok (.iconst 3, 1) := by decide +kernel
theorem d_Mod_label_2 : decode b_Mod_label 2 = .ok (.if_icmp .lt 31, 3) := by decide +kernel
theorem d_Mod_label_5 : decode b_Mod_label 5 = .ok (.aload_n 0, 1) := by decide +kernel
theorem d_Mod_label_6 : decode b_Mod_label 6 = .ok (.getfield 7, 3) := by decide +kernel
theorem d_Mod_label_9 : decode b_Mod_label 9 = .ok (.iload_n 1, 1) := by decide +kernel
theorem d_Mod_label_10 : decode b_Mod_label 10 = .ok (.iload_n 2, 1) := by decide +kernel
theorem d_Mod_label_11 : decode b_Mod_label 11 = .ok (.iadd, 1) := by decide +kernel
theorem d_Mod_label_12 : decode b_Mod_label 12 = .ok (.iconst 1, 1) := by decide +kernel
theorem d_Mod_label_13 : decode b_Mod_label 13 = .ok (.isub, 1) := by decide +kernel
theorem d_Mod_label_14 : decode b_Mod_label 14 = .ok (.iaload, 1) := by decide +kernel
theorem d_Mod_label_15 : decode b_Mod_label 15 = .ok (.bipush 41, 2) := by decide +kernel
theorem d_Mod_label_17 : decode b_Mod_label 17 = .ok (.if_icmp .ne 16, 3) := by decide +kernel
theorem d_Mod_label_20 : decode b_Mod_label 20 = .ok (.aload_n 0, 1) := by decide +kernel
theorem d_Mod_label_21 : decode b_Mod_label 21 = .ok (.iload_n 1, 1) := by decide +kernel
theorem d_Mod_label_22 : decode b_Mod_label 22 = .ok (.iconst 1, 1) := by decide +kernel
theorem d_Mod_label_23 : decode b_Mod_label 23 = .ok (.iadd, 1) := by decide +kernel
theorem d_Mod_label_24 : decode b_Mod_label 24 = .ok (.iload_n 2, 1) := by decide +kernel
theorem d_Mod_label_25 : decode b_Mod_label 25 = .ok (.iconst 2, 1) := by decide +kernel
theorem d_Mod_label_26 : decode b_Mod_label 26 = .ok (.isub, 1) := by decide +kernel
theorem d_Mod_label_27 : decode b_Mod_label 27 = .ok (.invokevirtual 72, 3) := by decide +kernel
theorem d_Mod_label_30 : decode b_Mod_label 30 = .ok (.ifCond .ne 5, 3) := by decide +kernel
theorem d_Mod_label_33 : decode b_Mod_label 33 = .ok (.iconst 1, 1) := by decide +kernel
theorem d_Mod_label_34 : decode b_Mod_label 34 = .ok (.ireturn, 1) := by decide +kernel
theorem d_Mod_label_35 : decode b_Mod_label 35 = .ok (.aload_n 0, 1) := by decide +kernel
theorem d_Mod_label_36 : decode b_Mod_label 36 = .ok (.iload_n 1, 1) := by decide +kernel
theorem d_Mod_label_37 : decode b_Mod_label 37 = .ok (.iconst 1, 1) := by decide +kernel
theorem d_Mod_label_38 : decode b_Mod_label 38 = .ok (.iadd, 1) := by decide +kernel
theorem d_Mod_label_39 : decode b_Mod_label 39 = .ok (.iload_n 2, 1) := by decide +kernel
theorem d_Mod_label_40 : decode b_Mod_label 40 = .ok (.iconst 2, 1) := by decide +kernel
theorem d_Mod_label_41 : decode b_Mod_label 41 = .ok (.isub, 1) := by decide +kernel
theorem d_Mod_label_42 : decode b_Mod_label 42 = .ok (.invokevirtual 76, 3) := by decide +kernel
theorem d_Mod_label_45 : decode b_Mod_label 45 = .ok (.iconst (-1), 1) := by decide +kernel
theorem d_Mod_label_46 : decode b_Mod_label 46 = .ok (.if_icmp .eq 5, 3) := by decide +kernel
theorem d_Mod_label_49 : decode b_Mod_label 49 = .ok (.iconst 3, 1) := by decide +kernel
theorem d_Mod_label_50 : decode b_Mod_label 50 = .ok (.ireturn, 1) := by decide +kernel
theorem d_Mod_label_51 : decode b_Mod_label 51 = .ok (.aload_n 0, 1) := by decide +kernel
theorem d_Mod_label_52 : decode b_Mod_label 52 = .ok (.iload_n 1, 1) := by decide +kernel
theorem d_Mod_label_53 : decode b_Mod_label 53 = .ok (.iconst 1, 1) := by decide +kernel
theorem d_Mod_label_54 : decode b_Mod_label 54 = .ok (.iadd, 1) := by decide +kernel
theorem d_Mod_label_55 : decode b_Mod_label 55 = .ok (.iload_n 2, 1) := by decide +kernel
theorem d_Mod_label_56 : decode b_Mod_label 56 = .ok (.iconst 2, 1) := by decide +kernel
theorem d_Mod_label_57 : decode b_Mod_label 57 = .ok (.isub, 1) := by decide +kernel
theorem d_Mod_label_58 : decode b_Mod_label 58 = .ok (.invokevirtual 80, 3) := by decide +kernel
theorem d_Mod_label_61 : decode b_Mod_label 61 = .ok (.istore_n 3, 1) := by decide +kernel
theorem d_Mod_label_62 : decode b_Mod_label 62 = .ok (.iload_n 3, 1) := by decide +kernel
theorem d_Mod_label_63 : decode b_Mod_label 63 = .ok (.iconst (-1), 1) := by decide +kernel
theorem d_Mod_label_64 : decode b_Mod_label 64 = .ok (.if_icmp .ne 5, 3) := by decide +kernel
theorem d_Mod_label_67 : decode b_Mod_label 67 = .ok (.iconst 2, 1) := by decide +kernel
theorem d_Mod_label_68 : decode b_Mod_label 68 = .ok (.ireturn, 1) := by decide +kernel
theorem d_Mod_label_69 : decode b_Mod_label 69 = .ok (.aload_n 0, 1) := by decide +kernel
theorem d_Mod_label_70 : decode b_Mod_label 70 = .ok (.getfield 26, 3) := by decide +kernel
theorem d_Mod_label_73 : decode b_Mod_label 73 = .ok (.iload_n 3, 1) := by decide +kernel
theorem d_Mod_label_74 : decode b_Mod_label 74 = .ok (.iaload, 1) := by decide +kernel
theorem d_Mod_label_75 : decode b_Mod_label 75 = .ok (.iconst (-1), 1) := by decide +kernel
theorem d_Mod_label_76 : decode b_Mod_label 76 = .ok (.if_icmp .eq 5, 3) := by decide +kernel
theorem d_Mod_label_79 : decode b_Mod_label 79 = .ok (.iconst 3, 1) := by decide +kernel
theorem d_Mod_label_80 : decode b_Mod_label 80 = .ok (.ireturn, 1) := by decide +kernel
theorem d_Mod_label_81 : decode b_Mod_label 81 = .ok (.aload_n 0, 1) := by decide +kernel
theorem d_Mod_label_82 : decode b_Mod_label 82 = .ok (.getfield 26, 3) := by decide +kernel
theorem d_Mod_label_85 : decode b_Mod_label 85 = .ok (.iload_n 3, 1) := by decide +kernel
