theorem dX10_act_461 : decode cX10_act 461 = .ok (.getfield 156, 3) := by decide +kernel
theorem dX10_act_464 : decode cX10_act 464 = .ok (.iaload, 1) := by decide +kernel
theorem dX10_act_465 : decode cX10_act 465 = .ok (.iastore, 1) := by decide +kernel
theorem dX10_act_466 : decode cX10_act 466 = .ok (.aload_n 0, 1) := by decide +kernel
theorem dX10_act_467 : decode cX10_act 467 = .ok (.dup, 1) := by decide +kernel
theorem dX10_act_468 : decode cX10_act 468 = .ok (.getfield 156, 3) := by decide +kernel
theorem dX10_act_471 : decode cX10_act 471 = .ok (.iconst 1, 1) := by decide +kernel
theorem dX10_act_472 : decode cX10_act 472 = .ok (.iadd, 1) := by decide +kernel
theorem dX10_act_473 : decode cX10_act 473 = .ok (.putfield 156, 3) := by decide +kernel
theorem dX10_act_476 : decode cX10_act 476 = .ok (.goto 72, 3) := by decide +kernel
theorem dX10_act_479 : decode cX10_act 479 = .ok (.aload_n 0, 1) := by decide +kernel
theorem dX10_act_480 : decode cX10_act 480 = .ok (.aload_n 0, 1) := by decide +kernel
theorem dX10_act_481 : decode cX10_act 481 = .ok (.getfield 7, 3) := by decide +kernel
theorem dX10_act_484 : decode cX10_act 484 = .ok (.iload 5, 2) := by decide +kernel
theorem dX10_act_486 : decode cX10_act 486 = .ok (.iaload, 1) := by decide +kernel
theorem dX10_act_487 : decode cX10_act 487 = .ok (.bipush 12, 2) := by decide +kernel
theorem dX10_act_489 : decode cX10_act 489 = .ok (.ishr, 1) := by decide +kernel
theorem dX10_act_490 : decode cX10_act 490 = .ok (.invokevirtual 219, 3) := by decide +kernel
theorem dX10_act_493 : decode cX10_act 493 = .ok (.goto 55, 3) := by decide +kernel
theorem dX10_act_496 : decode cX10_act 496 = .ok (.aload_n 0, 1) := by decide +kernel
theorem dX10_act_497 : decode cX10_act 497 = .ok (.getfield 7, 3) := by decide +kernel
theorem dX10_act_500 : decode cX10_act 500 = .ok (.iload 5, 2) := by decide +kernel
theorem dX10_act_502 : decode cX10_act 502 = .ok (.aload_n 0, 1) := by decide +kernel
theorem dX10_act_503 : decode cX10_act 503 = .ok (.getfield 7, 3) := by decide +kernel
theorem dX10_act_506 : decode cX10_act 506 = .ok (.iload 5, 2) := by decide +kernel
theorem dX10_act_508 : decode cX10_act 508 = .ok (.iaload, 1) := by decide +kernel
theorem dX10_act_509 : decode cX10_act 509 = .ok (.sipush 4095, 3) := by decide +kernel
theorem dX10_act_512 : decode cX10_act 512 = .ok (.iand, 1) := by decide +kernel
theorem dX10_act_513 : decode cX10_act 513 = .ok (.aload_n 0, 1) := by decide +kernel
theorem dX10_act_514 : decode cX10_act 514 = .ok (.getfield 22, 3) := by decide +kernel
theorem dX10_act_517 : decode cX10_act 517 = .ok (.iconst (-1), 1) := by decide +kernel
theorem dX10_act_518 : decode cX10_act 518 = .ok (.if_icmp .ne 7, 3) := by decide +kernel
theorem dX10_act_521 : decode cX10_act 521 = .ok (.iconst 0, 1) := by decide +kernel
theorem dX10_act_522 : decode cX10_act 522 = .ok (.goto 7, 3) := by decide +kernel
theorem dX10_act_525 : decode cX10_act 525 = .ok (.aload_n 0, 1) := by decide +kernel
theorem dX10_act_526 : decode cX10_act 526 = .ok (.getfield 22, 3) := by decide +kernel
theorem dX10_act_529 : decode cX10_act 529 = .ok (.bipush 12, 2) := by decide +kernel
theorem dX10_act_531 : decode cX10_act 531 = .ok (.ishl, 1) := by decide +kernel
theorem dX10_act_532 : decode cX10_act 532 = .ok (.ior, 1) := by decide +kernel
theorem dX10_act_533 : decode cX10_act 533 = .ok (.iastore, 1) := by decide +kernel
theorem dX10_act_534 : decode cX10_act 534 = .ok (.goto 14, 3) := by decide +kernel
theorem dX10_act_537 : decode cX10_act 537 = .ok (.aload_n 0, 1) := by decide +kernel
theorem dX10_act_538 : decode cX10_act 538 = .ok (.lconst 0, 1) := by decide +kernel
theorem dX10_act_539 : decode cX10_act 539 = .ok (.ldc2_w 222, 3) := by decide +kernel
theorem dX10_act_542 : decode cX10_act 542 = .ok (.invokevirtual 178, 3) := by decide +kernel
theorem dX10_act_545 : decode cX10_act 545 = .ok (.goto 3, 3) := by decide +kernel
theorem dX10_act_548 : decode cX10_act 548 = .ok (.return_, 1) := by decide +kernel
set_option maxRecDepth 20000 in
theorem ggX10_run_X10_in : GoodIn wsX10_run wsX10_in := goodIn_r _ [12] rfl (by decide +kernel)
set_option maxRecDepth 20000 in
theorem gX10_run_X10_in : GoodIn wsX10_run (va_wsS RX10 102 yX10_in wsX10_in) := goodIn_app (goodIn_of _ (by decide +kernel)) ggX10_run_X10_in
set_option maxRecDepth 20000 in
theorem ggX10_run_X10_isFunction : GoodIn wsX10_run wsX10_isFunction := goodIn_r _ [15, 16, 17, 18, 19, 9, 10, 11, 12] rfl (by decide +kernel)
set_option maxRecDepth 20000 in
theorem gX10_run_X10_isFunction : GoodIn wsX10_run (va_wsS RX10 226 yX10_isFunction wsX10_isFunction) := goodIn_app (goodIn_of _ (by decide +kernel)) ggX10_run_X10_isFunction
set_option maxRecDepth 20000 in
theorem ggX10_run_X10_act : GoodIn wsX10_run wsX10_act := goodIn_r _ [23, 24, 4, 25, 26, 27, 28, 3, 29, 30, 31, 6, 32, 33, 34, 35, 36, 11, 37, 38, 39, 40, 41, 42, 43, 44, 8, 45, 46, 47, 48, 49, 50, 51, 52, 53, 54, 55, 56, 57, 58, 59, 60, 61, 62, 63, 64, 65, 66, 67, 68, 69, 70, 71, 72, 73, 74, 75, 76, 77, 78, 79, 80, 81, 82, 83, 84, 85, 86, 87, 88, 89, 90, 91, 92, 93, 94, 95, 96, 97, 98, 99, 100, 101, 102, 103, 104, 105, 106, 107, 108, 109, 110, 111, 112, 113, 114, 115, 116, 117, 118, 119, 120, 121, 122, 123, 124, 125, 126, 127, 128, 129, 130, 131, 132, 133, 134, 135, 136, 137, 138, 139, 140, 141, 142, 143, 144, 145, 146, 147, 148, 149, 150, 151] rfl (by decide +kernel)
set_option maxRecDepth 20000 in
theorem gX10_run_X10_act : GoodIn wsX10_run (wsV RX10 229 RX10 yX10_act wsX10_act) := goodIn_app (goodIn_of _ (by decide +kernel)) ggX10_run_X10_act
theorem dX10_run_0 : decode cX10_run 0 = .ok (.iload_n 1, 1) := by decide +kernel
theorem dX10_run_1 : decode cX10_run 1 = .ok (.i2l, 1) := by decide +kernel
theorem dX10_run_2 : decode cX10_run 2 = .ok (.lconst 0, 1) := by decide +kernel
theorem dX10_run_3 : decode cX10_run 3 = .ok (.ldc2_w 224, 3) := by decide +kernel
theorem dX10_run_6 : decode cX10_run 6 = .ok (.invokestatic 102, 3) := by decide +kernel
theorem dX10_run_9 : decode cX10_run 9 = .ok (.ifCond .ne 6, 3) := by decide +kernel
theorem dX10_run_12 : decode cX10_run 12 = .ok (.bipush (-3), 2) := by decide +kernel
theorem dX10_run_14 : decode cX10_run 14 = .ok (.ireturn, 1) := by decide +kernel
theorem dX10_run_15 : decode cX10_run 15 = .ok (.iconst 0, 1) := by decide +kernel
theorem dX10_run_16 : decode cX10_run 16 = .ok (.istore_n 2, 1) := by decide +kernel
theorem dX10_run_17 : decode cX10_run 17 = .ok (.aload_n 0, 1) := by decide +kernel
theorem dX10_run_18 : decode cX10_run 18 = .ok (.iconst (-1), 1) := by decide +kernel
theorem dX10_run_19 : decode cX10_run 19 = .ok (.putfield 33, 3) := by decide +kernel
theorem dX10_run_22 : decode cX10_run 22 = .ok (.aload_n 0, 1) := by decide +kernel
theorem dX10_run_23 : decode cX10_run 23 = .ok (.getfield 33, 3) := by decide +kernel
theorem dX10_run_26 : decode cX10_run 26 = .ok (.iconst (-1), 1) := by decide +kernel
theorem dX10_run_27 : decode cX10_run 27 = .ok (.if_icmp .ne 150, 3) := by decide +kernel
theorem dX10_run_30 : decode cX10_run 30 = .ok (.aload_n 0, 1) := by decide +kernel
theorem dX10_run_31 : decode cX10_run 31 = .ok (.getfield 7, 3) := by decide +kernel
theorem dX10_run_34 : decode cX10_run 34 = .ok (.aload_n 0, 1) := by decide +kernel
theorem dX10_run_35 : decode cX10_run 35 = .ok (.getfield 163, 3) := by decide +kernel
theorem dX10_run_38 : decode cX10_run 38 = .ok (.iaload, 1) := by decide +kernel
theorem dX10_run_39 : decode cX10_run 39 = .ok (.istore_n 3, 1) := by decide +kernel
theorem dX10_run_40 : decode cX10_run 40 = .ok (.iload_n 3, 1) := by decide +kernel
theorem dX10_run_41 : decode cX10_run 41 = .ok (.bipush 12, 2) := by decide +kernel
theorem dX10_run_43 : decode cX10_run 43 = .ok (.ishr, 1) := by decide +kernel
theorem dX10_run_44 : decode cX10_run 44 = .ok (.istore 4, 2) := by decide +kernel
theorem dX10_run_46 : decode cX10_run 46 = .ok (.iload_n 2, 1) := by decide +kernel
theorem dX10_run_47 : decode cX10_run 47 = .ok (.iload_n 1, 1) := by decide +kernel
theorem dX10_run_48 : decode cX10_run 48 = .ok (.if_icmp .ne 11, 3) := by decide +kernel
theorem dX10_run_51 : decode cX10_run 51 = .ok (.aload_n 0, 1) := by decide +kernel
theorem dX10_run_52 : decode cX10_run 52 = .ok (.iconst 0, 1) := by decide +kernel
theorem dX10_run_53 : decode cX10_run 53 = .ok (.putfield 33, 3) := by decide +kernel
theorem dX10_run_56 : decode cX10_run 56 = .ok (.goto 118, 3) := by decide +kernel
theorem dX10_run_59 : decode cX10_run 59 = .ok (.iload_n 2, 1) := by decide +kernel
theorem dX10_run_60 : decode cX10_run 60 = .ok (.ifCond .le 23, 3) := by decide +kernel
theorem dX10_run_63 : decode cX10_run 63 = .ok (.aload_n 0, 1) := by decide +kernel
theorem dX10_run_64 : decode cX10_run 64 = .ok (.getfield 29, 3) := by decide +kernel
theorem dX10_run_67 : decode cX10_run 67 = .ok (.aload_n 0, 1) := by decide +kernel
theorem dX10_run_68 : decode cX10_run 68 = .ok (.getfield 163, 3) := by decide +kernel
theorem dX10_run_71 : decode cX10_run 71 = .ok (.baload, 1) := by decide +kernel
theorem dX10_run_72 : decode cX10_run 72 = .ok (.ifCond .eq 11, 3) := by decide +kernel
theorem dX10_run_75 : decode cX10_run 75 = .ok (.aload_n 0, 1) := by decide +kernel
theorem dX10_run_76 : decode cX10_run 76 = .ok (.iconst 5, 1) := by decide +kernel
theorem dX10_run_77 : decode cX10_run 77 = .ok (.putfield 33, 3) := by decide +kernel
theorem dX10_run_80 : decode cX10_run 80 = .ok (.goto 94, 3) := by decide +kernel
theorem dX10_run_83 : decode cX10_run 83 = .ok (.iload 4, 2) := by decide +kernel
theorem dX10_run_85 : decode cX10_run 85 = .ok (.invokestatic 226, 3) := by decide +kernel
theorem dX10_run_88 : decode cX10_run 88 = .ok (.ifCond .ne 11, 3) := by decide +kernel
theorem dX10_run_91 : decode cX10_run 91 = .ok (.aload_n 0, 1) := by decide +kernel
theorem dX10_run_92 : decode cX10_run 92 = .ok (.iconst 2, 1) := by decide +kernel
theorem dX10_run_93 : decode cX10_run 93 = .ok (.putfield 33, 3) := by decide +kernel
theorem dX10_run_96 : decode cX10_run 96 = .ok (.goto 78, 3) := by decide +kernel
theorem dX10_run_99 : decode cX10_run 99 = .ok (.iload 4, 2) := by decide +kernel
theorem dX10_run_101 : decode cX10_run 101 = .ok (.bipush 8, 2) := by decide +kernel
theorem dX10_run_103 : decode cX10_run 103 = .ok (.if_icmp .ne 22, 3) := by decide +kernel
theorem dX10_run_106 : decode cX10_run 106 = .ok (.aload_n 0, 1) := by decide +kernel
theorem dX10_run_107 : decode cX10_run 107 = .ok (.getfield 156, 3) := by decide +kernel
theorem dX10_run_110 : decode cX10_run 110 = .ok (.aload_n 0, 1) := by decide +kernel
theorem dX10_run_111 : decode cX10_run 111 = .ok (.getfield 153, 3) := by decide +kernel
theorem dX10_run_114 : decode cX10_run 114 = .ok (.if_icmp .ne 11, 3) := by decide +kernel
theorem dX10_run_117 : decode cX10_run 117 = .ok (.aload_n 0, 1) := by decide +kernel
theorem dX10_run_118 : decode cX10_run 118 = .ok (.iconst 3, 1) := by decide +kernel
theorem dX10_run_119 : decode cX10_run 119 = .ok (.putfield 33, 3) := by decide +kernel
theorem dX10_run_122 : decode cX10_run 122 = .ok (.goto 52, 3) := by decide +kernel
theorem dX10_run_125 : decode cX10_run 125 = .ok (.iload 4, 2) := by decide +kernel
theorem dX10_run_127 : decode cX10_run 127 = .ok (.bipush 9, 2) := by decide +kernel
theorem dX10_run_129 : decode cX10_run 129 = .ok (.if_icmp .ne 21, 3) := by decide +kernel
theorem dX10_run_132 : decode cX10_run 132 = .ok (.aload_n 0, 1) := by decide +kernel
theorem dX10_run_133 : decode cX10_run 133 = .ok (.getfield 159, 3) := by decide +kernel
theorem dX10_run_136 : decode cX10_run 136 = .ok (.sipush 400, 3) := by decide +kernel
theorem dX10_run_139 : decode cX10_run 139 = .ok (.if_icmp .ne 11, 3) := by decide +kernel
theorem dX10_run_142 : decode cX10_run 142 = .ok (.aload_n 0, 1) := by decide +kernel
theorem dX10_run_143 : decode cX10_run 143 = .ok (.iconst 4, 1) := by decide +kernel
theorem dX10_run_144 : decode cX10_run 144 = .ok (.putfield 33, 3) := by decide +kernel
theorem dX10_run_147 : decode cX10_run 147 = .ok (.goto 27, 3) := by decide +kernel
theorem dX10_run_150 : decode cX10_run 150 = .ok (.aload_n 0, 1) := by decide +kernel
theorem dX10_run_151 : decode cX10_run 151 = .ok (.iload_n 3, 1) := by decide +kernel
theorem dX10_run_152 : decode cX10_run 152 = .ok (.invokevirtual 229, 3) := by decide +kernel
theorem dX10_run_155 : decode cX10_run 155 = .ok (.iinc 2 1, 3) := by decide +kernel
theorem dX10_run_158 : decode cX10_run 158 = .ok (.aload_n 0, 1) := by decide +kernel
theorem dX10_run_159 : decode cX10_run 159 = .ok (.iload 4, 2) := by decide +kernel
theorem dX10_run_161 : decode cX10_run 161 = .ok (.bipush 13, 2) := by decide +kernel
theorem dX10_run_163 : decode cX10_run 163 = .ok (.if_icmp .ne 7, 3) := by decide +kernel
theorem dX10_run_166 : decode cX10_run 166 = .ok (.iconst 1, 1) := by decide +kernel
theorem dX10_run_167 : decode cX10_run 167 = .ok (.goto 4, 3) := by decide +kernel
theorem dX10_run_170 : decode cX10_run 170 = .ok (.iconst (-1), 1) := by decide +kernel
theorem dX10_run_171 : decode cX10_run 171 = .ok (.putfield 33, 3) := by decide +kernel
theorem dX10_run_174 : decode cX10_run 174 = .ok (.goto (-152), 3) := by decide +kernel
theorem dX10_run_177 : decode cX10_run 177 = .ok (.iload_n 2, 1) := by decide +kernel
theorem dX10_run_178 : decode cX10_run 178 = .ok (.ireturn, 1) := by decide +kernel
theorem dX10_why_0 : decode cX10_why 0 = .ok (.aload_n 0, 1) := by decide +kernel
theorem dX10_why_1 : decode cX10_why 1 = .ok (.getfield 33, 3) := by decide +kernel
theorem dX10_why_4 : decode cX10_why 4 = .ok (.ireturn, 1) := by decide +kernel
set_option maxRecDepth 20000 in
theorem ggX10_mark_X10_isAddress : GoodIn wsX10_mark wsX10_isAddress := goodIn_r _ [6, 7, 8, 9, 5, 10] rfl (by decide +kernel)
set_option maxRecDepth 20000 in
theorem gX10_mark_X10_isAddress : GoodIn wsX10_mark (va_wsS RX10 108 yX10_isAddress wsX10_isAddress) := goodIn_app (goodIn_of _ (by decide +kernel)) ggX10_mark_X10_isAddress
theorem dX10_mark_0 : decode cX10_mark 0 = .ok (.iload_n 1, 1) := by decide +kernel
theorem dX10_mark_1 : decode cX10_mark 1 = .ok (.invokestatic 108, 3) := by decide +kernel
theorem dX10_mark_4 : decode cX10_mark 4 = .ok (.ifCond .ne 6, 3) := by decide +kernel
theorem dX10_mark_7 : decode cX10_mark 7 = .ok (.bipush (-2), 2) := by decide +kernel
theorem dX10_mark_9 : decode cX10_mark 9 = .ok (.ireturn, 1) := by decide +kernel
theorem dX10_mark_10 : decode cX10_mark 10 = .ok (.aload_n 0, 1) := by decide +kernel
theorem dX10_mark_11 : decode cX10_mark 11 = .ok (.getfield 29, 3) := by decide +kernel
theorem dX10_mark_14 : decode cX10_mark 14 = .ok (.iload_n 1, 1) := by decide +kernel
theorem dX10_mark_15 : decode cX10_mark 15 = .ok (.baload, 1) := by decide +kernel
theorem dX10_mark_16 : decode cX10_mark 16 = .ok (.istore_n 3, 1) := by decide +kernel
theorem dX10_mark_17 : decode cX10_mark 17 = .ok (.iload_n 2, 1) := by decide +kernel
theorem dX10_mark_18 : decode cX10_mark 18 = .ok (.ifCond .eq 19, 3) := by decide +kernel
theorem dX10_mark_21 : decode cX10_mark 21 = .ok (.iload_n 3, 1) := by decide +kernel
