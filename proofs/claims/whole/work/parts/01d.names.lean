theorem dX5_layLong_1 : decode cX5_layLong 1 = .ok (.iload_n 1, 1) := by decide +kernel
theorem dX5_layLong_2 : decode cX5_layLong 2 = .ok (.iconst 1, 1) := by decide +kernel
theorem dX5_layLong_3 : decode cX5_layLong 3 = .ok (.ior, 1) := by decide +kernel
theorem dX5_layLong_4 : decode cX5_layLong 4 = .ok (.lload_n 2, 1) := by decide +kernel
theorem dX5_layLong_5 : decode cX5_layLong 5 = .ok (.bipush 18, 2) := by decide +kernel
theorem dX5_layLong_7 : decode cX5_layLong 7 = .ok (.lshr, 1) := by decide +kernel
theorem dX5_layLong_8 : decode cX5_layLong 8 = .ok (.l2i, 1) := by decide +kernel
theorem dX5_layLong_9 : decode cX5_layLong 9 = .ok (.invokevirtual 23, 3) := by decide +kernel
theorem dX5_layLong_12 : decode cX5_layLong 12 = .ok (.aload_n 0, 1) := by decide +kernel
theorem dX5_layLong_13 : decode cX5_layLong 13 = .ok (.getfield 15, 3) := by decide +kernel
theorem dX5_layLong_16 : decode cX5_layLong 16 = .ok (.iload_n 1, 1) := by decide +kernel
theorem dX5_layLong_17 : decode cX5_layLong 17 = .ok (.sipush 255, 3) := by decide +kernel
theorem dX5_layLong_20 : decode cX5_layLong 20 = .ok (.iand, 1) := by decide +kernel
theorem dX5_layLong_21 : decode cX5_layLong 21 = .ok (.iconst 1, 1) := by decide +kernel
theorem dX5_layLong_22 : decode cX5_layLong 22 = .ok (.ishr, 1) := by decide +kernel
theorem dX5_layLong_23 : decode cX5_layLong 23 = .ok (.lload_n 2, 1) := by decide +kernel
theorem dX5_layLong_24 : decode cX5_layLong 24 = .ok (.bipush 17, 2) := by decide +kernel
theorem dX5_layLong_26 : decode cX5_layLong 26 = .ok (.lshr, 1) := by decide +kernel
theorem dX5_layLong_27 : decode cX5_layLong 27 = .ok (.l2i, 1) := by decide +kernel
theorem dX5_layLong_28 : decode cX5_layLong 28 = .ok (.iconst 1, 1) := by decide +kernel
theorem dX5_layLong_29 : decode cX5_layLong 29 = .ok (.iand, 1) := by decide +kernel
theorem dX5_layLong_30 : decode cX5_layLong 30 = .ok (.iastore, 1) := by decide +kernel
theorem dX5_layLong_31 : decode cX5_layLong 31 = .ok (.aload_n 0, 1) := by decide +kernel
theorem dX5_layLong_32 : decode cX5_layLong 32 = .ok (.iload_n 1, 1) := by decide +kernel
theorem dX5_layLong_33 : decode cX5_layLong 33 = .ok (.bipush (-2), 2) := by decide +kernel
theorem dX5_layLong_35 : decode cX5_layLong 35 = .ok (.iand, 1) := by decide +kernel
theorem dX5_layLong_36 : decode cX5_layLong 36 = .ok (.lload_n 2, 1) := by decide +kernel
theorem dX5_layLong_37 : decode cX5_layLong 37 = .ok (.l2i, 1) := by decide +kernel
theorem dX5_layLong_38 : decode cX5_layLong 38 = .ok (.invokevirtual 23, 3) := by decide +kernel
theorem dX5_layLong_41 : decode cX5_layLong 41 = .ok (.return_, 1) := by decide +kernel
theorem dX5_copyFrom_0 : decode cX5_copyFrom 0 = .ok (.aload_n 1, 1) := by decide +kernel
theorem dX5_copyFrom_1 : decode cX5_copyFrom 1 = .ok (.getfield 9, 3) := by decide +kernel
theorem dX5_copyFrom_4 : decode cX5_copyFrom 4 = .ok (.iconst 0, 1) := by decide +kernel
theorem dX5_copyFrom_5 : decode cX5_copyFrom 5 = .ok (.aload_n 0, 1) := by decide +kernel
theorem dX5_copyFrom_6 : decode cX5_copyFrom 6 = .ok (.getfield 9, 3) := by decide +kernel
theorem dX5_copyFrom_9 : decode cX5_copyFrom 9 = .ok (.iconst 0, 1) := by decide +kernel
theorem dX5_copyFrom_10 : decode cX5_copyFrom 10 = .ok (.sipush 256, 3) := by decide +kernel
theorem dX5_copyFrom_13 : decode cX5_copyFrom 13 = .ok (.invokestatic 27, 3) := by decide +kernel
theorem dX5_copyFrom_16 : decode cX5_copyFrom 16 = .ok (.aload_n 1, 1) := by decide +kernel
theorem dX5_copyFrom_17 : decode cX5_copyFrom 17 = .ok (.getfield 15, 3) := by decide +kernel
theorem dX5_copyFrom_20 : decode cX5_copyFrom 20 = .ok (.iconst 0, 1) := by decide +kernel
theorem dX5_copyFrom_21 : decode cX5_copyFrom 21 = .ok (.aload_n 0, 1) := by decide +kernel
theorem dX5_copyFrom_22 : decode cX5_copyFrom 22 = .ok (.getfield 15, 3) := by decide +kernel
theorem dX5_copyFrom_25 : decode cX5_copyFrom 25 = .ok (.iconst 0, 1) := by decide +kernel
theorem dX5_copyFrom_26 : decode cX5_copyFrom 26 = .ok (.sipush 128, 3) := by decide +kernel
theorem dX5_copyFrom_29 : decode cX5_copyFrom 29 = .ok (.invokestatic 27, 3) := by decide +kernel
theorem dX5_copyFrom_32 : decode cX5_copyFrom 32 = .ok (.return_, 1) := by decide +kernel
theorem dX6_init_0 : decode cX6_init 0 = .ok (.aload_n 0, 1) := by decide +kernel
theorem dX6_init_1 : decode cX6_init 1 = .ok (.invokespecial 3, 3) := by decide +kernel
theorem dX6_init_4 : decode cX6_init 4 = .ok (.aload_n 0, 1) := by decide +kernel
theorem dX6_init_5 : decode cX6_init 5 = .ok (.sipush 400, 3) := by decide +kernel
theorem dX6_init_8 : decode cX6_init 8 = .ok (.newarray .byte, 2) := by decide +kernel
theorem dX6_init_10 : decode cX6_init 10 = .ok (.putfield 9, 3) := by decide +kernel
theorem dX6_init_13 : decode cX6_init 13 = .ok (.aload_n 0, 1) := by decide +kernel
theorem dX6_init_14 : decode cX6_init 14 = .ok (.iconst 0, 1) := by decide +kernel
theorem dX6_init_15 : decode cX6_init 15 = .ok (.putfield 15, 3) := by decide +kernel
theorem dX6_init_18 : decode cX6_init 18 = .ok (.aload_n 0, 1) := by decide +kernel
theorem dX6_init_19 : decode cX6_init 19 = .ok (.iconst 0, 1) := by decide +kernel
theorem dX6_init_20 : decode cX6_init 20 = .ok (.putfield 19, 3) := by decide +kernel
theorem dX6_init_23 : decode cX6_init 23 = .ok (.aload_n 0, 1) := by decide +kernel
theorem dX6_init_24 : decode cX6_init 24 = .ok (.iconst (-1), 1) := by decide +kernel
theorem dX6_init_25 : decode cX6_init 25 = .ok (.putfield 23, 3) := by decide +kernel
theorem dX6_init_28 : decode cX6_init 28 = .ok (.return_, 1) := by decide +kernel
theorem dX6_isFull_0 : decode cX6_isFull 0 = .ok (.aload_n 0, 1) := by decide +kernel
theorem dX6_isFull_1 : decode cX6_isFull 1 = .ok (.getfield 15, 3) := by decide +kernel
theorem dX6_isFull_4 : decode cX6_isFull 4 = .ok (.sipush 400, 3) := by decide +kernel
theorem dX6_isFull_7 : decode cX6_isFull 7 = .ok (.if_icmp .lt 7, 3) := by decide +kernel
theorem dX6_isFull_10 : decode cX6_isFull 10 = .ok (.iconst 1, 1) := by decide +kernel
theorem dX6_isFull_11 : decode cX6_isFull 11 = .ok (.goto 4, 3) := by decide +kernel
theorem dX6_isFull_14 : decode cX6_isFull 14 = .ok (.iconst 0, 1) := by decide +kernel
theorem dX6_isFull_15 : decode cX6_isFull 15 = .ok (.ireturn, 1) := by decide +kernel
theorem dX6_byteAt_0 : decode cX6_byteAt 0 = .ok (.iload_n 1, 1) := by decide +kernel
theorem dX6_byteAt_1 : decode cX6_byteAt 1 = .ok (.ifCond .lt 19, 3) := by decide +kernel
theorem dX6_byteAt_4 : decode cX6_byteAt 4 = .ok (.iload_n 1, 1) := by decide +kernel
theorem dX6_byteAt_5 : decode cX6_byteAt 5 = .ok (.sipush 400, 3) := by decide +kernel
theorem dX6_byteAt_8 : decode cX6_byteAt 8 = .ok (.if_icmp .ge 12, 3) := by decide +kernel
theorem dX6_byteAt_11 : decode cX6_byteAt 11 = .ok (.aload_n 0, 1) := by decide +kernel
theorem dX6_byteAt_12 : decode cX6_byteAt 12 = .ok (.getfield 9, 3) := by decide +kernel
theorem dX6_byteAt_15 : decode cX6_byteAt 15 = .ok (.iload_n 1, 1) := by decide +kernel
theorem dX6_byteAt_16 : decode cX6_byteAt 16 = .ok (.baload, 1) := by decide +kernel
theorem dX6_byteAt_17 : decode cX6_byteAt 17 = .ok (.goto 5, 3) := by decide +kernel
theorem dX6_byteAt_20 : decode cX6_byteAt 20 = .ok (.bipush (-2), 2) := by decide +kernel
theorem dX6_byteAt_22 : decode cX6_byteAt 22 = .ok (.ireturn, 1) := by decide +kernel
set_option maxRecDepth 20000 in
theorem ggX6_print_X6_write : GoodIn wsX6_print wsX6_write := goodIn_r _ [7, 8, 9, 51, 52, 53, 54] (by decide +kernel) (by decide +kernel)
set_option maxRecDepth 20000 in
theorem gX6_print_X6_write : GoodIn wsX6_print (wsV RX6 26 RX6 yX6_write wsX6_write) := goodIn_app (goodIn_of _ (by decide +kernel)) ggX6_print_X6_write
set_option maxRecDepth 20000 in
theorem ggX6_print_J0_charAt_5068e : GoodIn wsX6_print wsJ0_charAt_5068e := goodIn_r _ [14, 15, 16, 17, 18, 13, 19, 20, 21, 22, 23, 24, 25, 26, 27, 28, 29, 30, 31, 32, 33, 34, 35, 36, 37, 38, 39, 40, 41, 42, 43, 44, 45, 46, 47, 48, 49, 50] (by decide +kernel) (by decide +kernel)
set_option maxRecDepth 20000 in
theorem gX6_print_J0_charAt_5068e : GoodIn wsX6_print (wsV RX6 32 RJ0 yJ0_charAt_5068e wsJ0_charAt_5068e) := goodIn_app (goodIn_of _ (by decide +kernel)) ggX6_print_J0_charAt_5068e
theorem dX6_print_0 : decode cX6_print 0 = .ok (.iload_n 1, 1) := by decide +kernel
theorem dX6_print_1 : decode cX6_print 1 = .ok (.ifCond .lt 9, 3) := by decide +kernel
theorem dX6_print_4 : decode cX6_print 4 = .ok (.iload_n 1, 1) := by decide +kernel
theorem dX6_print_5 : decode cX6_print 5 = .ok (.bipush 32, 2) := by decide +kernel
theorem dX6_print_7 : decode cX6_print 7 = .ok (.if_icmp .lt 4, 3) := by decide +kernel
theorem dX6_print_10 : decode cX6_print 10 = .ok (.return_, 1) := by decide +kernel
theorem dX6_print_11 : decode cX6_print 11 = .ok (.aload_n 0, 1) := by decide +kernel
theorem dX6_print_12 : decode cX6_print 12 = .ok (.iload_n 1, 1) := by decide +kernel
theorem dX6_print_13 : decode cX6_print 13 = .ok (.putfield 23, 3) := by decide +kernel
theorem dX6_print_16 : decode cX6_print 16 = .ok (.iload_n 1, 1) := by decide +kernel
theorem dX6_print_17 : decode cX6_print 17 = .ok (.tableswitch 117 11 24 #[79, 117, 117, 117, 71, 87, 117, 90, 117, 108, 117, 117, 117, 99], 71) := by decide +kernel
theorem dX6_print_88 : decode cX6_print 88 = .ok (.aload_n 0, 1) := by decide +kernel
theorem dX6_print_89 : decode cX6_print 89 = .ok (.iconst 0, 1) := by decide +kernel
theorem dX6_print_90 : decode cX6_print 90 = .ok (.putfield 19, 3) := by decide +kernel
theorem dX6_print_93 : decode cX6_print 93 = .ok (.goto 67, 3) := by decide +kernel
theorem dX6_print_96 : decode cX6_print 96 = .ok (.aload_n 0, 1) := by decide +kernel
theorem dX6_print_97 : decode cX6_print 97 = .ok (.iconst 1, 1) := by decide +kernel
theorem dX6_print_98 : decode cX6_print 98 = .ok (.putfield 19, 3) := by decide +kernel
theorem dX6_print_101 : decode cX6_print 101 = .ok (.goto 59, 3) := by decide +kernel
theorem dX6_print_104 : decode cX6_print 104 = .ok (.goto 56, 3) := by decide +kernel
theorem dX6_print_107 : decode cX6_print 107 = .ok (.aload_n 0, 1) := by decide +kernel
theorem dX6_print_108 : decode cX6_print 108 = .ok (.bipush 13, 2) := by decide +kernel
theorem dX6_print_110 : decode cX6_print 110 = .ok (.invokevirtual 26, 3) := by decide +kernel
theorem dX6_print_113 : decode cX6_print 113 = .ok (.goto 47, 3) := by decide +kernel
theorem dX6_print_116 : decode cX6_print 116 = .ok (.aload_n 0, 1) := by decide +kernel
theorem dX6_print_117 : decode cX6_print 117 = .ok (.bipush 10, 2) := by decide +kernel
theorem dX6_print_119 : decode cX6_print 119 = .ok (.invokevirtual 26, 3) := by decide +kernel
theorem dX6_print_122 : decode cX6_print 122 = .ok (.goto 38, 3) := by decide +kernel
theorem dX6_print_125 : decode cX6_print 125 = .ok (.aload_n 0, 1) := by decide +kernel
theorem dX6_print_126 : decode cX6_print 126 = .ok (.bipush 32, 2) := by decide +kernel
theorem dX6_print_128 : decode cX6_print 128 = .ok (.invokevirtual 26, 3) := by decide +kernel
theorem dX6_print_131 : decode cX6_print 131 = .ok (.goto 29, 3) := by decide +kernel
theorem dX6_print_134 : decode cX6_print 134 = .ok (.aload_n 0, 1) := by decide +kernel
theorem dX6_print_135 : decode cX6_print 135 = .ok (.aload_n 0, 1) := by decide +kernel
theorem dX6_print_136 : decode cX6_print 136 = .ok (.getfield 19, 3) := by decide +kernel
theorem dX6_print_139 : decode cX6_print 139 = .ok (.ifCond .eq 12, 3) := by decide +kernel
theorem dX6_print_142 : decode cX6_print 142 = .ok (.ldc 30, 2) := by decide +kernel
theorem dX6_print_144 : decode cX6_print 144 = .ok (.iload_n 1, 1) := by decide +kernel
theorem dX6_print_145 : decode cX6_print 145 = .ok (.invokevirtual 32, 3) := by decide +kernel
theorem dX6_print_148 : decode cX6_print 148 = .ok (.goto 9, 3) := by decide +kernel
theorem dX6_print_151 : decode cX6_print 151 = .ok (.ldc 38, 2) := by decide +kernel
theorem dX6_print_153 : decode cX6_print 153 = .ok (.iload_n 1, 1) := by decide +kernel
theorem dX6_print_154 : decode cX6_print 154 = .ok (.invokevirtual 32, 3) := by decide +kernel
theorem dX6_print_157 : decode cX6_print 157 = .ok (.invokevirtual 26, 3) := by decide +kernel
theorem dX6_print_160 : decode cX6_print 160 = .ok (.return_, 1) := by decide +kernel
theorem dX6_write_0 : decode cX6_write 0 = .ok (.aload_n 0, 1) := by decide +kernel
theorem dX6_write_1 : decode cX6_write 1 = .ok (.getfield 15, 3) := by decide +kernel
theorem dX6_write_4 : decode cX6_write 4 = .ok (.ifCond .lt 34, 3) := by decide +kernel
theorem dX6_write_7 : decode cX6_write 7 = .ok (.aload_n 0, 1) := by decide +kernel
theorem dX6_write_8 : decode cX6_write 8 = .ok (.getfield 15, 3) := by decide +kernel
theorem dX6_write_11 : decode cX6_write 11 = .ok (.sipush 400, 3) := by decide +kernel
theorem dX6_write_14 : decode cX6_write 14 = .ok (.if_icmp .ge 24, 3) := by decide +kernel
theorem dX6_write_17 : decode cX6_write 17 = .ok (.aload_n 0, 1) := by decide +kernel
theorem dX6_write_18 : decode cX6_write 18 = .ok (.getfield 9, 3) := by decide +kernel
theorem dX6_write_21 : decode cX6_write 21 = .ok (.aload_n 0, 1) := by decide +kernel
theorem dX6_write_22 : decode cX6_write 22 = .ok (.getfield 15, 3) := by decide +kernel
theorem dX6_write_25 : decode cX6_write 25 = .ok (.iload_n 1, 1) := by decide +kernel
theorem dX6_write_26 : decode cX6_write 26 = .ok (.i2b, 1) := by decide +kernel
theorem dX6_write_27 : decode cX6_write 27 = .ok (.bastore, 1) := by decide +kernel
theorem dX6_write_28 : decode cX6_write 28 = .ok (.aload_n 0, 1) := by decide +kernel
theorem dX6_write_29 : decode cX6_write 29 = .ok (.dup, 1) := by decide +kernel
theorem dX6_write_30 : decode cX6_write 30 = .ok (.getfield 15, 3) := by decide +kernel
theorem dX6_write_33 : decode cX6_write 33 = .ok (.iconst 1, 1) := by decide +kernel
theorem dX6_write_34 : decode cX6_write 34 = .ok (.iadd, 1) := by decide +kernel
theorem dX6_write_35 : decode cX6_write 35 = .ok (.putfield 15, 3) := by decide +kernel
theorem dX6_write_38 : decode cX6_write 38 = .ok (.return_, 1) := by decide +kernel
theorem dX6_copyFrom_0 : decode cX6_copyFrom 0 = .ok (.aload_n 1, 1) := by decide +kernel
theorem dX6_copyFrom_1 : decode cX6_copyFrom 1 = .ok (.getfield 9, 3) := by decide +kernel
theorem dX6_copyFrom_4 : decode cX6_copyFrom 4 = .ok (.iconst 0, 1) := by decide +kernel
theorem dX6_copyFrom_5 : decode cX6_copyFrom 5 = .ok (.aload_n 0, 1) := by decide +kernel
theorem dX6_copyFrom_6 : decode cX6_copyFrom 6 = .ok (.getfield 9, 3) := by decide +kernel
theorem dX6_copyFrom_9 : decode cX6_copyFrom 9 = .ok (.iconst 0, 1) := by decide +kernel
theorem dX6_copyFrom_10 : decode cX6_copyFrom 10 = .ok (.sipush 400, 3) := by decide +kernel
theorem dX6_copyFrom_13 : decode cX6_copyFrom 13 = .ok (.invokestatic 40, 3) := by decide +kernel
theorem dX6_copyFrom_16 : decode cX6_copyFrom 16 = .ok (.aload_n 0, 1) := by decide +kernel
theorem dX6_copyFrom_17 : decode cX6_copyFrom 17 = .ok (.aload_n 1, 1) := by decide +kernel
theorem dX6_copyFrom_18 : decode cX6_copyFrom 18 = .ok (.getfield 15, 3) := by decide +kernel
theorem dX6_copyFrom_21 : decode cX6_copyFrom 21 = .ok (.putfield 15, 3) := by decide +kernel
theorem dX6_copyFrom_24 : decode cX6_copyFrom 24 = .ok (.aload_n 0, 1) := by decide +kernel
theorem dX6_copyFrom_25 : decode cX6_copyFrom 25 = .ok (.aload_n 1, 1) := by decide +kernel
theorem dX6_copyFrom_26 : decode cX6_copyFrom 26 = .ok (.getfield 19, 3) := by decide +kernel
theorem dX6_copyFrom_29 : decode cX6_copyFrom 29 = .ok (.putfield 19, 3) := by decide +kernel
theorem dX6_copyFrom_32 : decode cX6_copyFrom 32 = .ok (.aload_n 0, 1) := by decide +kernel
theorem dX6_copyFrom_33 : decode cX6_copyFrom 33 = .ok (.aload_n 1, 1) := by decide +kernel
theorem dX6_copyFrom_34 : decode cX6_copyFrom 34 = .ok (.getfield 23, 3) := by decide +kernel
theorem dX6_copyFrom_37 : decode cX6_copyFrom 37 = .ok (.putfield 23, 3) := by decide +kernel
theorem dX6_copyFrom_40 : decode cX6_copyFrom 40 = .ok (.return_, 1) := by decide +kernel
theorem dX7_init_0 : decode cX7_init 0 = .ok (.aload_n 0, 1) := by decide +kernel
theorem dX7_init_1 : decode cX7_init 1 = .ok (.invokespecial 3, 3) := by decide +kernel
theorem dX7_init_4 : decode cX7_init 4 = .ok (.aload_n 0, 1) := by decide +kernel
theorem dX7_init_5 : decode cX7_init 5 = .ok (.sipush 1000, 3) := by decide +kernel
theorem dX7_init_8 : decode cX7_init 8 = .ok (.newarray .byte, 2) := by decide +kernel
theorem dX7_init_10 : decode cX7_init 10 = .ok (.putfield 9, 3) := by decide +kernel
theorem dX7_init_13 : decode cX7_init 13 = .ok (.aload_n 0, 1) := by decide +kernel
theorem dX7_init_14 : decode cX7_init 14 = .ok (.iconst 0, 1) := by decide +kernel
theorem dX7_init_15 : decode cX7_init 15 = .ok (.putfield 15, 3) := by decide +kernel
theorem dX7_init_18 : decode cX7_init 18 = .ok (.aload_n 0, 1) := by decide +kernel
theorem dX7_init_19 : decode cX7_init 19 = .ok (.iconst 0, 1) := by decide +kernel
theorem dX7_init_20 : decode cX7_init 20 = .ok (.putfield 19, 3) := by decide +kernel
theorem dX7_init_23 : decode cX7_init 23 = .ok (.return_, 1) := by decide +kernel
theorem dX7_append_0 : decode cX7_append 0 = .ok (.aload_n 0, 1) := by decide +kernel
theorem dX7_append_1 : decode cX7_append 1 = .ok (.getfield 15, 3) := by decide +kernel
theorem dX7_append_4 : decode cX7_append 4 = .ok (.ifCond .lt 34, 3) := by decide +kernel
theorem dX7_append_7 : decode cX7_append 7 = .ok (.aload_n 0, 1) := by decide +kernel
theorem dX7_append_8 : decode cX7_append 8 = .ok (.getfield 15, 3) := by decide +kernel
theorem dX7_append_11 : decode cX7_append 11 = .ok (.sipush 1000, 3) := by decide +kernel
theorem dX7_append_14 : decode cX7_append 14 = .ok (.if_icmp .ge 24, 3) := by decide +kernel
theorem dX7_append_17 : decode cX7_append 17 = .ok (.aload_n 0, 1) := by decide +kernel
theorem dX7_append_18 : decode cX7_append 18 = .ok (.getfield 9, 3) := by decide +kernel
theorem dX7_append_21 : decode cX7_append 21 = .ok (.aload_n 0, 1) := by decide +kernel
theorem dX7_append_22 : decode cX7_append 22 = .ok (.getfield 15, 3) := by decide +kernel
theorem dX7_append_25 : decode cX7_append 25 = .ok (.iload_n 1, 1) := by decide +kernel
theorem dX7_append_26 : decode cX7_append 26 = .ok (.i2b, 1) := by decide +kernel
theorem dX7_append_27 : decode cX7_append 27 = .ok (.bastore, 1) := by decide +kernel
theorem dX7_append_28 : decode cX7_append 28 = .ok (.aload_n 0, 1) := by decide +kernel
theorem dX7_append_29 : decode cX7_append 29 = .ok (.dup, 1) := by decide +kernel
theorem dX7_append_30 : decode cX7_append 30 = .ok (.getfield 15, 3) := by decide +kernel
theorem dX7_append_33 : decode cX7_append 33 = .ok (.iconst 1, 1) := by decide +kernel
theorem dX7_append_34 : decode cX7_append 34 = .ok (.iadd, 1) := by decide +kernel
theorem dX7_append_35 : decode cX7_append 35 = .ok (.putfield 15, 3) := by decide +kernel
theorem dX7_append_38 : decode cX7_append 38 = .ok (.return_, 1) := by decide +kernel
theorem dX7_isAtEnd_0 : decode cX7_isAtEnd 0 = .ok (.aload_n 0, 1) := by decide +kernel
theorem dX7_isAtEnd_1 : decode cX7_isAtEnd 1 = .ok (.getfield 19, 3) := by decide +kernel
theorem dX7_isAtEnd_4 : decode cX7_isAtEnd 4 = .ok (.aload_n 0, 1) := by decide +kernel
theorem dX7_isAtEnd_5 : decode cX7_isAtEnd 5 = .ok (.getfield 15, 3) := by decide +kernel
theorem dX7_isAtEnd_8 : decode cX7_isAtEnd 8 = .ok (.if_icmp .lt 7, 3) := by decide +kernel
theorem dX7_isAtEnd_11 : decode cX7_isAtEnd 11 = .ok (.iconst 1, 1) := by decide +kernel
theorem dX7_isAtEnd_12 : decode cX7_isAtEnd 12 = .ok (.goto 4, 3) := by decide +kernel
theorem dX7_isAtEnd_15 : decode cX7_isAtEnd 15 = .ok (.iconst 0, 1) := by decide +kernel
theorem dX7_isAtEnd_16 : decode cX7_isAtEnd 16 = .ok (.ireturn, 1) := by decide +kernel
set_option maxRecDepth 20000 in
theorem ggX7_take_X7_isAtEnd : GoodIn wsX7_take wsX7_isAtEnd := goodIn_r _ [7, 1, 8, 9, 10, 11] (by decide +kernel) (by decide +kernel)
set_option maxRecDepth 20000 in
theorem gX7_take_X7_isAtEnd : GoodIn wsX7_take (wsV RX7 22 RX7 yX7_isAtEnd wsX7_isAtEnd) := goodIn_app (goodIn_of _ (by decide +kernel)) ggX7_take_X7_isAtEnd
theorem dX7_take_0 : decode cX7_take 0 = .ok (.aload_n 0, 1) := by decide +kernel
theorem dX7_take_1 : decode cX7_take 1 = .ok (.invokevirtual 22, 3) := by decide +kernel
theorem dX7_take_4 : decode cX7_take 4 = .ok (.ifCond .ne 20, 3) := by decide +kernel
theorem dX7_take_7 : decode cX7_take 7 = .ok (.aload_n 0, 1) := by decide +kernel
theorem dX7_take_8 : decode cX7_take 8 = .ok (.getfield 19, 3) := by decide +kernel
theorem dX7_take_11 : decode cX7_take 11 = .ok (.ifCond .lt 13, 3) := by decide +kernel
theorem dX7_take_14 : decode cX7_take 14 = .ok (.aload_n 0, 1) := by decide +kernel
theorem dX7_take_15 : decode cX7_take 15 = .ok (.getfield 19, 3) := by decide +kernel
theorem dX7_take_18 : decode cX7_take 18 = .ok (.sipush 1000, 3) := by decide +kernel
theorem dX7_take_21 : decode cX7_take 21 = .ok (.if_icmp .lt 5, 3) := by decide +kernel
theorem dX7_take_24 : decode cX7_take 24 = .ok (.iconst (-1), 1) := by decide +kernel
theorem dX7_take_25 : decode cX7_take 25 = .ok (.ireturn, 1) := by decide +kernel
theorem dX7_take_26 : decode cX7_take 26 = .ok (.aload_n 0, 1) := by decide +kernel
theorem dX7_take_27 : decode cX7_take 27 = .ok (.getfield 9, 3) := by decide +kernel
theorem dX7_take_30 : decode cX7_take 30 = .ok (.aload_n 0, 1) := by decide +kernel
theorem dX7_take_31 : decode cX7_take 31 = .ok (.getfield 19, 3) := by decide +kernel
theorem dX7_take_34 : decode cX7_take 34 = .ok (.baload, 1) := by decide +kernel
theorem dX7_take_35 : decode cX7_take 35 = .ok (.istore_n 1, 1) := by decide +kernel
theorem dX7_take_36 : decode cX7_take 36 = .ok (.aload_n 0, 1) := by decide +kernel
theorem dX7_take_37 : decode cX7_take 37 = .ok (.dup, 1) := by decide +kernel
theorem dX7_take_38 : decode cX7_take 38 = .ok (.getfield 19, 3) := by decide +kernel
theorem dX7_take_41 : decode cX7_take 41 = .ok (.iconst 1, 1) := by decide +kernel
theorem dX7_take_42 : decode cX7_take 42 = .ok (.iadd, 1) := by decide +kernel
theorem dX7_take_43 : decode cX7_take 43 = .ok (.putfield 19, 3) := by decide +kernel
theorem dX7_take_46 : decode cX7_take 46 = .ok (.iload_n 1, 1) := by decide +kernel
theorem dX7_take_47 : decode cX7_take 47 = .ok (.ireturn, 1) := by decide +kernel
theorem dX7_copyFrom_0 : decode cX7_copyFrom 0 = .ok (.aload_n 1, 1) := by decide +kernel
theorem dX7_copyFrom_1 : decode cX7_copyFrom 1 = .ok (.getfield 9, 3) := by decide +kernel
theorem dX7_copyFrom_4 : decode cX7_copyFrom 4 = .ok (.iconst 0, 1) := by decide +kernel
theorem dX7_copyFrom_5 : decode cX7_copyFrom 5 = .ok (.aload_n 0, 1) := by decide +kernel
theorem dX7_copyFrom_6 : decode cX7_copyFrom 6 = .ok (.getfield 9, 3) := by decide +kernel
theorem dX7_copyFrom_9 : decode cX7_copyFrom 9 = .ok (.iconst 0, 1) := by decide +kernel
theorem dX7_copyFrom_10 : decode cX7_copyFrom 10 = .ok (.sipush 1000, 3) := by decide +kernel
theorem dX7_copyFrom_13 : decode cX7_copyFrom 13 = .ok (.invokestatic 26, 3) := by decide +kernel
theorem dX7_copyFrom_16 : decode cX7_copyFrom 16 = .ok (.aload_n 0, 1) := by decide +kernel
theorem dX7_copyFrom_17 : decode cX7_copyFrom 17 = .ok (.aload_n 1, 1) := by decide +kernel
theorem dX7_copyFrom_18 : decode cX7_copyFrom 18 = .ok (.getfield 15, 3) := by decide +kernel
theorem dX7_copyFrom_21 : decode cX7_copyFrom 21 = .ok (.putfield 15, 3) := by decide +kernel
theorem dX7_copyFrom_24 : decode cX7_copyFrom 24 = .ok (.aload_n 0, 1) := by decide +kernel
theorem dX7_copyFrom_25 : decode cX7_copyFrom 25 = .ok (.aload_n 1, 1) := by decide +kernel
theorem dX7_copyFrom_26 : decode cX7_copyFrom 26 = .ok (.getfield 19, 3) := by decide +kernel
theorem dX7_copyFrom_29 : decode cX7_copyFrom 29 = .ok (.putfield 19, 3) := by decide +kernel
theorem dX7_copyFrom_32 : decode cX7_copyFrom 32 = .ok (.return_, 1) := by decide +kernel
theorem dX8_init_0 : decode cX8_init 0 = .ok (.aload_n 0, 1) := by decide +kernel
theorem dX8_init_1 : decode cX8_init 1 = .ok (.invokespecial 3, 3) := by decide +kernel
theorem dX8_init_4 : decode cX8_init 4 = .ok (.aload_n 0, 1) := by decide +kernel
theorem dX8_init_5 : decode cX8_init 5 = .ok (.bipush 100, 2) := by decide +kernel
theorem dX8_init_7 : decode cX8_init 7 = .ok (.newarray .int, 2) := by decide +kernel
theorem dX8_init_9 : decode cX8_init 9 = .ok (.putfield 9, 3) := by decide +kernel
theorem dX8_init_12 : decode cX8_init 12 = .ok (.aload_n 0, 1) := by decide +kernel
theorem dX8_init_13 : decode cX8_init 13 = .ok (.bipush 100, 2) := by decide +kernel
theorem dX8_init_15 : decode cX8_init 15 = .ok (.newarray .int, 2) := by decide +kernel
theorem dX8_init_17 : decode cX8_init 17 = .ok (.putfield 15, 3) := by decide +kernel
theorem dX8_init_20 : decode cX8_init 20 = .ok (.aload_n 0, 1) := by decide +kernel
theorem dX8_init_21 : decode cX8_init 21 = .ok (.bipush 100, 2) := by decide +kernel
theorem dX8_init_23 : decode cX8_init 23 = .ok (.newarray .long, 2) := by decide +kernel
theorem dX8_init_25 : decode cX8_init 25 = .ok (.putfield 18, 3) := by decide +kernel
theorem dX8_init_28 : decode cX8_init 28 = .ok (.aload_n 0, 1) := by decide +kernel
theorem dX8_init_29 : decode cX8_init 29 = .ok (.bipush 100, 2) := by decide +kernel
theorem dX8_init_31 : decode cX8_init 31 = .ok (.newarray .long, 2) := by decide +kernel
theorem dX8_init_33 : decode cX8_init 33 = .ok (.putfield 22, 3) := by decide +kernel
theorem dX8_init_36 : decode cX8_init 36 = .ok (.aload_n 0, 1) := by decide +kernel
theorem dX8_init_37 : decode cX8_init 37 = .ok (.bipush 100, 2) := by decide +kernel
theorem dX8_init_39 : decode cX8_init 39 = .ok (.newarray .long, 2) := by decide +kernel
theorem dX8_init_41 : decode cX8_init 41 = .ok (.putfield 25, 3) := by decide +kernel
theorem dX8_init_44 : decode cX8_init 44 = .ok (.aload_n 0, 1) := by decide +kernel
theorem dX8_init_45 : decode cX8_init 45 = .ok (.bipush 100, 2) := by decide +kernel
theorem dX8_init_47 : decode cX8_init 47 = .ok (.newarray .long, 2) := by decide +kernel
theorem dX8_init_49 : decode cX8_init 49 = .ok (.putfield 28, 3) := by decide +kernel
theorem dX8_init_52 : decode cX8_init 52 = .ok (.aload_n 0, 1) := by decide +kernel
theorem dX8_init_53 : decode cX8_init 53 = .ok (.bipush 100, 2) := by decide +kernel
theorem dX8_init_55 : decode cX8_init 55 = .ok (.newarray .int, 2) := by decide +kernel
theorem dX8_init_57 : decode cX8_init 57 = .ok (.putfield 31, 3) := by decide +kernel
theorem dX8_init_60 : decode cX8_init 60 = .ok (.aload_n 0, 1) := by decide +kernel
theorem dX8_init_61 : decode cX8_init 61 = .ok (.bipush 100, 2) := by decide +kernel
theorem dX8_init_63 : decode cX8_init 63 = .ok (.newarray .int, 2) := by decide +kernel
theorem dX8_init_65 : decode cX8_init 65 = .ok (.putfield 34, 3) := by decide +kernel
theorem dX8_init_68 : decode cX8_init 68 = .ok (.aload_n 0, 1) := by decide +kernel
theorem dX8_init_69 : decode cX8_init 69 = .ok (.bipush 100, 2) := by decide +kernel
theorem dX8_init_71 : decode cX8_init 71 = .ok (.newarray .boolean, 2) := by decide +kernel
theorem dX8_init_73 : decode cX8_init 73 = .ok (.putfield 37, 3) := by decide +kernel
theorem dX8_init_76 : decode cX8_init 76 = .ok (.aload_n 0, 1) := by decide +kernel
theorem dX8_init_77 : decode cX8_init 77 = .ok (.bipush 100, 2) := by decide +kernel
theorem dX8_init_79 : decode cX8_init 79 = .ok (.newarray .int, 2) := by decide +kernel
theorem dX8_init_81 : decode cX8_init 81 = .ok (.putfield 41, 3) := by decide +kernel
theorem dX8_init_84 : decode cX8_init 84 = .ok (.aload_n 0, 1) := by decide +kernel
theorem dX8_init_85 : decode cX8_init 85 = .ok (.iconst 0, 1) := by decide +kernel
theorem dX8_init_86 : decode cX8_init 86 = .ok (.putfield 44, 3) := by decide +kernel
theorem dX8_init_89 : decode cX8_init 89 = .ok (.aload_n 0, 1) := by decide +kernel
theorem dX8_init_90 : decode cX8_init 90 = .ok (.iconst 0, 1) := by decide +kernel
theorem dX8_init_91 : decode cX8_init 91 = .ok (.putfield 48, 3) := by decide +kernel
theorem dX8_init_94 : decode cX8_init 94 = .ok (.return_, 1) := by decide +kernel
theorem dX8_forget_0 : decode cX8_forget 0 = .ok (.aload_n 0, 1) := by decide +kernel
theorem dX8_forget_1 : decode cX8_forget 1 = .ok (.iconst 0, 1) := by decide +kernel
theorem dX8_forget_2 : decode cX8_forget 2 = .ok (.putfield 48, 3) := by decide +kernel
theorem dX8_forget_5 : decode cX8_forget 5 = .ok (.return_, 1) := by decide +kernel
set_option maxRecDepth 20000 in
theorem ggX8_note_X3_orderAhead : GoodIn wsX8_note wsX3_orderAhead := goodIn_r _ [21, 22, 23, 24, 25, 26, 27, 28, 29, 51, 52, 53, 54, 55, 56, 57, 67, 68] (by decide +kernel) (by decide +kernel)
set_option maxRecDepth 20000 in
theorem gX8_note_X3_orderAhead : GoodIn wsX8_note (wsV RX8 57 RX3 yX3_orderAhead wsX3_orderAhead) := goodIn_app (goodIn_of _ (by decide +kernel)) ggX8_note_X3_orderAhead
set_option maxRecDepth 20000 in
theorem ggX8_note_X9_addressOf : GoodIn wsX8_note wsX9_addressOf := goodIn_r _ [32] (by decide +kernel) (by decide +kernel)
set_option maxRecDepth 20000 in
theorem gX8_note_X9_addressOf_n70 : GoodIn wsX8_note (wsX9_addressOf) := ggX8_note_X9_addressOf
set_option maxRecDepth 20000 in
theorem ggX8_note_X5_longAt : GoodIn wsX8_note wsX5_longAt := goodIn_r _ [36, 37, 38, 25, 26, 27, 28, 29, 67, 68] (by decide +kernel) (by decide +kernel)
set_option maxRecDepth 20000 in
theorem gX8_note_X5_longAt : GoodIn wsX8_note (wsV RX8 74 RX5 yX5_longAt wsX5_longAt) := goodIn_app (goodIn_of _ (by decide +kernel)) ggX8_note_X5_longAt
theorem dX8_note_0 : decode cX8_note 0 = .ok (.aload_n 0, 1) := by decide +kernel
theorem dX8_note_1 : decode cX8_note 1 = .ok (.aload_n 0, 1) := by decide +kernel
theorem dX8_note_2 : decode cX8_note 2 = .ok (.getfield 44, 3) := by decide +kernel
theorem dX8_note_5 : decode cX8_note 5 = .ok (.ifCond .lt 23, 3) := by decide +kernel
theorem dX8_note_8 : decode cX8_note 8 = .ok (.aload_n 0, 1) := by decide +kernel
theorem dX8_note_9 : decode cX8_note 9 = .ok (.getfield 44, 3) := by decide +kernel
theorem dX8_note_12 : decode cX8_note 12 = .ok (.iconst 1, 1) := by decide +kernel
theorem dX8_note_13 : decode cX8_note 13 = .ok (.iadd, 1) := by decide +kernel
theorem dX8_note_14 : decode cX8_note 14 = .ok (.bipush 100, 2) := by decide +kernel
theorem dX8_note_16 : decode cX8_note 16 = .ok (.if_icmp .ge 12, 3) := by decide +kernel
theorem dX8_note_19 : decode cX8_note 19 = .ok (.aload_n 0, 1) := by decide +kernel
theorem dX8_note_20 : decode cX8_note 20 = .ok (.getfield 44, 3) := by decide +kernel
theorem dX8_note_23 : decode cX8_note 23 = .ok (.iconst 1, 1) := by decide +kernel
theorem dX8_note_24 : decode cX8_note 24 = .ok (.iadd, 1) := by decide +kernel
theorem dX8_note_25 : decode cX8_note 25 = .ok (.goto 4, 3) := by decide +kernel
theorem dX8_note_28 : decode cX8_note 28 = .ok (.iconst 0, 1) := by decide +kernel
theorem dX8_note_29 : decode cX8_note 29 = .ok (.putfield 44, 3) := by decide +kernel
theorem dX8_note_32 : decode cX8_note 32 = .ok (.aload_n 0, 1) := by decide +kernel
theorem dX8_note_33 : decode cX8_note 33 = .ok (.aload_n 0, 1) := by decide +kernel
theorem dX8_note_34 : decode cX8_note 34 = .ok (.getfield 48, 3) := by decide +kernel
theorem dX8_note_37 : decode cX8_note 37 = .ok (.iconst 1, 1) := by decide +kernel
theorem dX8_note_38 : decode cX8_note 38 = .ok (.iadd, 1) := by decide +kernel
theorem dX8_note_39 : decode cX8_note 39 = .ok (.bipush 100, 2) := by decide +kernel
theorem dX8_note_41 : decode cX8_note 41 = .ok (.invokestatic 51, 3) := by decide +kernel
theorem dX8_note_44 : decode cX8_note 44 = .ok (.putfield 48, 3) := by decide +kernel
theorem dX8_note_47 : decode cX8_note 47 = .ok (.aload_n 1, 1) := by decide +kernel
theorem dX8_note_48 : decode cX8_note 48 = .ok (.invokevirtual 57, 3) := by decide +kernel
theorem dX8_note_51 : decode cX8_note 51 = .ok (.istore_n 2, 1) := by decide +kernel
theorem dX8_note_52 : decode cX8_note 52 = .ok (.aload_n 0, 1) := by decide +kernel
theorem dX8_note_53 : decode cX8_note 53 = .ok (.getfield 9, 3) := by decide +kernel
theorem dX8_note_56 : decode cX8_note 56 = .ok (.aload_n 0, 1) := by decide +kernel
theorem dX8_note_57 : decode cX8_note 57 = .ok (.getfield 44, 3) := by decide +kernel
theorem dX8_note_60 : decode cX8_note 60 = .ok (.aload_n 1, 1) := by decide +kernel
theorem dX8_note_61 : decode cX8_note 61 = .ok (.getfield 63, 3) := by decide +kernel
theorem dX8_note_64 : decode cX8_note 64 = .ok (.iastore, 1) := by decide +kernel
theorem dX8_note_65 : decode cX8_note 65 = .ok (.aload_n 0, 1) := by decide +kernel
theorem dX8_note_66 : decode cX8_note 66 = .ok (.getfield 15, 3) := by decide +kernel
theorem dX8_note_69 : decode cX8_note 69 = .ok (.aload_n 0, 1) := by decide +kernel
theorem dX8_note_70 : decode cX8_note 70 = .ok (.getfield 44, 3) := by decide +kernel
theorem dX8_note_73 : decode cX8_note 73 = .ok (.iload_n 2, 1) := by decide +kernel
theorem dX8_note_74 : decode cX8_note 74 = .ok (.iastore, 1) := by decide +kernel
theorem dX8_note_75 : decode cX8_note 75 = .ok (.aload_n 0, 1) := by decide +kernel
theorem dX8_note_76 : decode cX8_note 76 = .ok (.getfield 18, 3) := by decide +kernel
theorem dX8_note_79 : decode cX8_note 79 = .ok (.aload_n 0, 1) := by decide +kernel
theorem dX8_note_80 : decode cX8_note 80 = .ok (.getfield 44, 3) := by decide +kernel
theorem dX8_note_83 : decode cX8_note 83 = .ok (.aload_n 1, 1) := by decide +kernel
theorem dX8_note_84 : decode cX8_note 84 = .ok (.getfield 66, 3) := by decide +kernel
theorem dX8_note_87 : decode cX8_note 87 = .ok (.iload_n 2, 1) := by decide +kernel
theorem dX8_note_88 : decode cX8_note 88 = .ok (.invokestatic 70, 3) := by decide +kernel
theorem dX8_note_91 : decode cX8_note 91 = .ok (.invokevirtual 74, 3) := by decide +kernel
theorem dX8_note_94 : decode cX8_note 94 = .ok (.lastore, 1) := by decide +kernel
theorem dX8_note_95 : decode cX8_note 95 = .ok (.aload_n 0, 1) := by decide +kernel
theorem dX8_note_96 : decode cX8_note 96 = .ok (.getfield 22, 3) := by decide +kernel
theorem dX8_note_99 : decode cX8_note 99 = .ok (.aload_n 0, 1) := by decide +kernel
theorem dX8_note_100 : decode cX8_note 100 = .ok (.getfield 44, 3) := by decide +kernel
theorem dX8_note_103 : decode cX8_note 103 = .ok (.aload_n 1, 1) := by decide +kernel
theorem dX8_note_104 : decode cX8_note 104 = .ok (.getfield 80, 3) := by decide +kernel
theorem dX8_note_107 : decode cX8_note 107 = .ok (.getfield 84, 3) := by decide +kernel
theorem dX8_note_110 : decode cX8_note 110 = .ok (.lastore, 1) := by decide +kernel
theorem dX8_note_111 : decode cX8_note 111 = .ok (.aload_n 0, 1) := by decide +kernel
theorem dX8_note_112 : decode cX8_note 112 = .ok (.getfield 25, 3) := by decide +kernel
theorem dX8_note_115 : decode cX8_note 115 = .ok (.aload_n 0, 1) := by decide +kernel
theorem dX8_note_116 : decode cX8_note 116 = .ok (.getfield 44, 3) := by decide +kernel
theorem dX8_note_119 : decode cX8_note 119 = .ok (.aload_n 1, 1) := by decide +kernel
theorem dX8_note_120 : decode cX8_note 120 = .ok (.getfield 80, 3) := by decide +kernel
theorem dX8_note_123 : decode cX8_note 123 = .ok (.getfield 90, 3) := by decide +kernel
theorem dX8_note_126 : decode cX8_note 126 = .ok (.lastore, 1) := by decide +kernel
theorem dX8_note_127 : decode cX8_note 127 = .ok (.aload_n 0, 1) := by decide +kernel
theorem dX8_note_128 : decode cX8_note 128 = .ok (.getfield 28, 3) := by decide +kernel
theorem dX8_note_131 : decode cX8_note 131 = .ok (.aload_n 0, 1) := by decide +kernel
theorem dX8_note_132 : decode cX8_note 132 = .ok (.getfield 44, 3) := by decide +kernel
theorem dX8_note_135 : decode cX8_note 135 = .ok (.aload_n 1, 1) := by decide +kernel
theorem dX8_note_136 : decode cX8_note 136 = .ok (.getfield 93, 3) := by decide +kernel
theorem dX8_note_139 : decode cX8_note 139 = .ok (.lastore, 1) := by decide +kernel
theorem dX8_note_140 : decode cX8_note 140 = .ok (.aload_n 0, 1) := by decide +kernel
theorem dX8_note_141 : decode cX8_note 141 = .ok (.getfield 31, 3) := by decide +kernel
theorem dX8_note_144 : decode cX8_note 144 = .ok (.aload_n 0, 1) := by decide +kernel
theorem dX8_note_145 : decode cX8_note 145 = .ok (.getfield 44, 3) := by decide +kernel
theorem dX8_note_148 : decode cX8_note 148 = .ok (.aload_n 1, 1) := by decide +kernel
theorem dX8_note_149 : decode cX8_note 149 = .ok (.getfield 96, 3) := by decide +kernel
theorem dX8_note_152 : decode cX8_note 152 = .ok (.getfield 100, 3) := by decide +kernel
theorem dX8_note_155 : decode cX8_note 155 = .ok (.iastore, 1) := by decide +kernel
theorem dX8_note_156 : decode cX8_note 156 = .ok (.aload_n 0, 1) := by decide +kernel
theorem dX8_note_157 : decode cX8_note 157 = .ok (.getfield 34, 3) := by decide +kernel
theorem dX8_note_160 : decode cX8_note 160 = .ok (.aload_n 0, 1) := by decide +kernel
theorem dX8_note_161 : decode cX8_note 161 = .ok (.getfield 44, 3) := by decide +kernel
theorem dX8_note_164 : decode cX8_note 164 = .ok (.aload_n 1, 1) := by decide +kernel
theorem dX8_note_165 : decode cX8_note 165 = .ok (.getfield 105, 3) := by decide +kernel
theorem dX8_note_168 : decode cX8_note 168 = .ok (.getfield 109, 3) := by decide +kernel
theorem dX8_note_171 : decode cX8_note 171 = .ok (.iastore, 1) := by decide +kernel
theorem dX8_note_172 : decode cX8_note 172 = .ok (.aload_n 0, 1) := by decide +kernel
theorem dX8_note_173 : decode cX8_note 173 = .ok (.getfield 37, 3) := by decide +kernel
theorem dX8_note_176 : decode cX8_note 176 = .ok (.aload_n 0, 1) := by decide +kernel
theorem dX8_note_177 : decode cX8_note 177 = .ok (.getfield 44, 3) := by decide +kernel
theorem dX8_note_180 : decode cX8_note 180 = .ok (.aload_n 1, 1) := by decide +kernel
theorem dX8_note_181 : decode cX8_note 181 = .ok (.getfield 105, 3) := by decide +kernel
theorem dX8_note_184 : decode cX8_note 184 = .ok (.getfield 114, 3) := by decide +kernel
theorem dX8_note_187 : decode cX8_note 187 = .ok (.bastore, 1) := by decide +kernel
theorem dX8_note_188 : decode cX8_note 188 = .ok (.aload_n 0, 1) := by decide +kernel
theorem dX8_note_189 : decode cX8_note 189 = .ok (.getfield 41, 3) := by decide +kernel
theorem dX8_note_192 : decode cX8_note 192 = .ok (.aload_n 0, 1) := by decide +kernel
theorem dX8_note_193 : decode cX8_note 193 = .ok (.getfield 44, 3) := by decide +kernel
theorem dX8_note_196 : decode cX8_note 196 = .ok (.aload_n 1, 1) := by decide +kernel
theorem dX8_note_197 : decode cX8_note 197 = .ok (.getfield 105, 3) := by decide +kernel
theorem dX8_note_200 : decode cX8_note 200 = .ok (.getfield 118, 3) := by decide +kernel
theorem dX8_note_203 : decode cX8_note 203 = .ok (.iastore, 1) := by decide +kernel
theorem dX8_note_204 : decode cX8_note 204 = .ok (.return_, 1) := by decide +kernel
set_option maxRecDepth 20000 in
theorem ggX8_takeBack_X9_addressOf : GoodIn wsX8_takeBack wsX9_addressOf := goodIn_r _ [15] (by decide +kernel) (by decide +kernel)
set_option maxRecDepth 20000 in
theorem gX8_takeBack_X9_addressOf_n70 : GoodIn wsX8_takeBack (wsX9_addressOf) := ggX8_takeBack_X9_addressOf
set_option maxRecDepth 20000 in
theorem ggX8_takeBack_X5_layLong : GoodIn wsX8_takeBack wsX5_layLong := goodIn_r _ [20, 21, 22, 23, 24, 19, 25, 26, 27, 63, 64] (by decide +kernel) (by decide +kernel)
set_option maxRecDepth 20000 in
theorem gX8_takeBack_X5_layLong : GoodIn wsX8_takeBack (wsV RX8 121 RX5 yX5_layLong wsX5_layLong) := goodIn_app (goodIn_of _ (by decide +kernel)) ggX8_takeBack_X5_layLong
set_option maxRecDepth 20000 in
theorem ggX8_takeBack_X0_become : GoodIn wsX8_takeBack wsX0_become := goodIn_r _ [32, 33, 34, 65, 66] (by decide +kernel) (by decide +kernel)
set_option maxRecDepth 20000 in
theorem gX8_takeBack_X0_become : GoodIn wsX8_takeBack (wsV RX8 125 RX0 yX0_become wsX0_become) := goodIn_app (goodIn_of _ (by decide +kernel)) ggX8_takeBack_X0_become
set_option maxRecDepth 20000 in
theorem ggX8_takeBack_X9_functionOf : GoodIn wsX8_takeBack wsX9_functionOf := goodIn_r _ [36] (by decide +kernel) (by decide +kernel)
set_option maxRecDepth 20000 in
theorem gX8_takeBack_X9_functionOf_n132 : GoodIn wsX8_takeBack (wsX9_functionOf) := ggX8_takeBack_X9_functionOf
theorem dX8_takeBack_0 : decode cX8_takeBack 0 = .ok (.aload_n 0, 1) := by decide +kernel
theorem dX8_takeBack_1 : decode cX8_takeBack 1 = .ok (.getfield 48, 3) := by decide +kernel
theorem dX8_takeBack_4 : decode cX8_takeBack 4 = .ok (.ifCond .le 19, 3) := by decide +kernel
theorem dX8_takeBack_7 : decode cX8_takeBack 7 = .ok (.aload_n 0, 1) := by decide +kernel
theorem dX8_takeBack_8 : decode cX8_takeBack 8 = .ok (.getfield 44, 3) := by decide +kernel
theorem dX8_takeBack_11 : decode cX8_takeBack 11 = .ok (.ifCond .lt 12, 3) := by decide +kernel
theorem dX8_takeBack_14 : decode cX8_takeBack 14 = .ok (.aload_n 0, 1) := by decide +kernel
theorem dX8_takeBack_15 : decode cX8_takeBack 15 = .ok (.getfield 44, 3) := by decide +kernel
theorem dX8_takeBack_18 : decode cX8_takeBack 18 = .ok (.bipush 100, 2) := by decide +kernel
theorem dX8_takeBack_20 : decode cX8_takeBack 20 = .ok (.if_icmp .lt 4, 3) := by decide +kernel
theorem dX8_takeBack_23 : decode cX8_takeBack 23 = .ok (.return_, 1) := by decide +kernel
theorem dX8_takeBack_24 : decode cX8_takeBack 24 = .ok (.aload_n 0, 1) := by decide +kernel
theorem dX8_takeBack_25 : decode cX8_takeBack 25 = .ok (.getfield 15, 3) := by decide +kernel
theorem dX8_takeBack_28 : decode cX8_takeBack 28 = .ok (.aload_n 0, 1) := by decide +kernel
theorem dX8_takeBack_29 : decode cX8_takeBack 29 = .ok (.getfield 44, 3) := by decide +kernel
theorem dX8_takeBack_32 : decode cX8_takeBack 32 = .ok (.iaload, 1) := by decide +kernel
theorem dX8_takeBack_33 : decode cX8_takeBack 33 = .ok (.istore_n 2, 1) := by decide +kernel
theorem dX8_takeBack_34 : decode cX8_takeBack 34 = .ok (.aload_n 1, 1) := by decide +kernel
theorem dX8_takeBack_35 : decode cX8_takeBack 35 = .ok (.aload_n 0, 1) := by decide +kernel
theorem dX8_takeBack_36 : decode cX8_takeBack 36 = .ok (.getfield 9, 3) := by decide +kernel
theorem dX8_takeBack_39 : decode cX8_takeBack 39 = .ok (.aload_n 0, 1) := by decide +kernel
theorem dX8_takeBack_40 : decode cX8_takeBack 40 = .ok (.getfield 44, 3) := by decide +kernel
theorem dX8_takeBack_43 : decode cX8_takeBack 43 = .ok (.iaload, 1) := by decide +kernel
theorem dX8_takeBack_44 : decode cX8_takeBack 44 = .ok (.putfield 63, 3) := by decide +kernel
theorem dX8_takeBack_47 : decode cX8_takeBack 47 = .ok (.aload_n 1, 1) := by decide +kernel
theorem dX8_takeBack_48 : decode cX8_takeBack 48 = .ok (.getfield 66, 3) := by decide +kernel
theorem dX8_takeBack_51 : decode cX8_takeBack 51 = .ok (.iload_n 2, 1) := by decide +kernel
theorem dX8_takeBack_52 : decode cX8_takeBack 52 = .ok (.invokestatic 70, 3) := by decide +kernel
theorem dX8_takeBack_55 : decode cX8_takeBack 55 = .ok (.aload_n 0, 1) := by decide +kernel
theorem dX8_takeBack_56 : decode cX8_takeBack 56 = .ok (.getfield 18, 3) := by decide +kernel
theorem dX8_takeBack_59 : decode cX8_takeBack 59 = .ok (.aload_n 0, 1) := by decide +kernel
theorem dX8_takeBack_60 : decode cX8_takeBack 60 = .ok (.getfield 44, 3) := by decide +kernel
theorem dX8_takeBack_63 : decode cX8_takeBack 63 = .ok (.laload, 1) := by decide +kernel
theorem dX8_takeBack_64 : decode cX8_takeBack 64 = .ok (.invokevirtual 121, 3) := by decide +kernel
theorem dX8_takeBack_67 : decode cX8_takeBack 67 = .ok (.aload_n 1, 1) := by decide +kernel
theorem dX8_takeBack_68 : decode cX8_takeBack 68 = .ok (.getfield 80, 3) := by decide +kernel
theorem dX8_takeBack_71 : decode cX8_takeBack 71 = .ok (.aload_n 0, 1) := by decide +kernel
theorem dX8_takeBack_72 : decode cX8_takeBack 72 = .ok (.getfield 22, 3) := by decide +kernel
theorem dX8_takeBack_75 : decode cX8_takeBack 75 = .ok (.aload_n 0, 1) := by decide +kernel
theorem dX8_takeBack_76 : decode cX8_takeBack 76 = .ok (.getfield 44, 3) := by decide +kernel
theorem dX8_takeBack_79 : decode cX8_takeBack 79 = .ok (.laload, 1) := by decide +kernel
theorem dX8_takeBack_80 : decode cX8_takeBack 80 = .ok (.aload_n 0, 1) := by decide +kernel
theorem dX8_takeBack_81 : decode cX8_takeBack 81 = .ok (.getfield 25, 3) := by decide +kernel
theorem dX8_takeBack_84 : decode cX8_takeBack 84 = .ok (.aload_n 0, 1) := by decide +kernel
theorem dX8_takeBack_85 : decode cX8_takeBack 85 = .ok (.getfield 44, 3) := by decide +kernel
theorem dX8_takeBack_88 : decode cX8_takeBack 88 = .ok (.laload, 1) := by decide +kernel
theorem dX8_takeBack_89 : decode cX8_takeBack 89 = .ok (.invokevirtual 125, 3) := by decide +kernel
theorem dX8_takeBack_92 : decode cX8_takeBack 92 = .ok (.aload_n 1, 1) := by decide +kernel
theorem dX8_takeBack_93 : decode cX8_takeBack 93 = .ok (.aload_n 0, 1) := by decide +kernel
theorem dX8_takeBack_94 : decode cX8_takeBack 94 = .ok (.getfield 28, 3) := by decide +kernel
theorem dX8_takeBack_97 : decode cX8_takeBack 97 = .ok (.aload_n 0, 1) := by decide +kernel
theorem dX8_takeBack_98 : decode cX8_takeBack 98 = .ok (.getfield 44, 3) := by decide +kernel
theorem dX8_takeBack_101 : decode cX8_takeBack 101 = .ok (.laload, 1) := by decide +kernel
theorem dX8_takeBack_102 : decode cX8_takeBack 102 = .ok (.putfield 93, 3) := by decide +kernel
theorem dX8_takeBack_105 : decode cX8_takeBack 105 = .ok (.aload_n 1, 1) := by decide +kernel
theorem dX8_takeBack_106 : decode cX8_takeBack 106 = .ok (.getfield 96, 3) := by decide +kernel
theorem dX8_takeBack_109 : decode cX8_takeBack 109 = .ok (.aload_n 0, 1) := by decide +kernel
theorem dX8_takeBack_110 : decode cX8_takeBack 110 = .ok (.getfield 31, 3) := by decide +kernel
theorem dX8_takeBack_113 : decode cX8_takeBack 113 = .ok (.aload_n 0, 1) := by decide +kernel
theorem dX8_takeBack_114 : decode cX8_takeBack 114 = .ok (.getfield 44, 3) := by decide +kernel
theorem dX8_takeBack_117 : decode cX8_takeBack 117 = .ok (.iaload, 1) := by decide +kernel
theorem dX8_takeBack_118 : decode cX8_takeBack 118 = .ok (.putfield 100, 3) := by decide +kernel
theorem dX8_takeBack_121 : decode cX8_takeBack 121 = .ok (.aload_n 1, 1) := by decide +kernel
theorem dX8_takeBack_122 : decode cX8_takeBack 122 = .ok (.getfield 105, 3) := by decide +kernel
theorem dX8_takeBack_125 : decode cX8_takeBack 125 = .ok (.aload_n 0, 1) := by decide +kernel
theorem dX8_takeBack_126 : decode cX8_takeBack 126 = .ok (.getfield 34, 3) := by decide +kernel
theorem dX8_takeBack_129 : decode cX8_takeBack 129 = .ok (.aload_n 0, 1) := by decide +kernel
theorem dX8_takeBack_130 : decode cX8_takeBack 130 = .ok (.getfield 44, 3) := by decide +kernel
theorem dX8_takeBack_133 : decode cX8_takeBack 133 = .ok (.iaload, 1) := by decide +kernel
theorem dX8_takeBack_134 : decode cX8_takeBack 134 = .ok (.putfield 109, 3) := by decide +kernel
theorem dX8_takeBack_137 : decode cX8_takeBack 137 = .ok (.aload_n 1, 1) := by decide +kernel
theorem dX8_takeBack_138 : decode cX8_takeBack 138 = .ok (.getfield 105, 3) := by decide +kernel
theorem dX8_takeBack_141 : decode cX8_takeBack 141 = .ok (.aload_n 0, 1) := by decide +kernel
theorem dX8_takeBack_142 : decode cX8_takeBack 142 = .ok (.getfield 37, 3) := by decide +kernel
theorem dX8_takeBack_145 : decode cX8_takeBack 145 = .ok (.aload_n 0, 1) := by decide +kernel
theorem dX8_takeBack_146 : decode cX8_takeBack 146 = .ok (.getfield 44, 3) := by decide +kernel
theorem dX8_takeBack_149 : decode cX8_takeBack 149 = .ok (.baload, 1) := by decide +kernel
theorem dX8_takeBack_150 : decode cX8_takeBack 150 = .ok (.putfield 114, 3) := by decide +kernel
theorem dX8_takeBack_153 : decode cX8_takeBack 153 = .ok (.aload_n 1, 1) := by decide +kernel
theorem dX8_takeBack_154 : decode cX8_takeBack 154 = .ok (.getfield 105, 3) := by decide +kernel
theorem dX8_takeBack_157 : decode cX8_takeBack 157 = .ok (.aload_n 0, 1) := by decide +kernel
theorem dX8_takeBack_158 : decode cX8_takeBack 158 = .ok (.getfield 41, 3) := by decide +kernel
theorem dX8_takeBack_161 : decode cX8_takeBack 161 = .ok (.aload_n 0, 1) := by decide +kernel
theorem dX8_takeBack_162 : decode cX8_takeBack 162 = .ok (.getfield 44, 3) := by decide +kernel
theorem dX8_takeBack_165 : decode cX8_takeBack 165 = .ok (.iaload, 1) := by decide +kernel
theorem dX8_takeBack_166 : decode cX8_takeBack 166 = .ok (.putfield 118, 3) := by decide +kernel
theorem dX8_takeBack_169 : decode cX8_takeBack 169 = .ok (.aload_n 1, 1) := by decide +kernel
theorem dX8_takeBack_170 : decode cX8_takeBack 170 = .ok (.getfield 129, 3) := by decide +kernel
theorem dX8_takeBack_173 : decode cX8_takeBack 173 = .ok (.iload_n 2, 1) := by decide +kernel
theorem dX8_takeBack_174 : decode cX8_takeBack 174 = .ok (.invokestatic 132, 3) := by decide +kernel
theorem dX8_takeBack_177 : decode cX8_takeBack 177 = .ok (.dup2, 1) := by decide +kernel
theorem dX8_takeBack_178 : decode cX8_takeBack 178 = .ok (.iaload, 1) := by decide +kernel
theorem dX8_takeBack_179 : decode cX8_takeBack 179 = .ok (.iconst 1, 1) := by decide +kernel
theorem dX8_takeBack_180 : decode cX8_takeBack 180 = .ok (.isub, 1) := by decide +kernel
theorem dX8_takeBack_181 : decode cX8_takeBack 181 = .ok (.iastore, 1) := by decide +kernel
theorem dX8_takeBack_182 : decode cX8_takeBack 182 = .ok (.aload_n 0, 1) := by decide +kernel
theorem dX8_takeBack_183 : decode cX8_takeBack 183 = .ok (.aload_n 0, 1) := by decide +kernel
theorem dX8_takeBack_184 : decode cX8_takeBack 184 = .ok (.getfield 44, 3) := by decide +kernel
theorem dX8_takeBack_187 : decode cX8_takeBack 187 = .ok (.ifCond .le 12, 3) := by decide +kernel
theorem dX8_takeBack_190 : decode cX8_takeBack 190 = .ok (.aload_n 0, 1) := by decide +kernel
theorem dX8_takeBack_191 : decode cX8_takeBack 191 = .ok (.getfield 44, 3) := by decide +kernel
theorem dX8_takeBack_194 : decode cX8_takeBack 194 = .ok (.iconst 1, 1) := by decide +kernel
theorem dX8_takeBack_195 : decode cX8_takeBack 195 = .ok (.isub, 1) := by decide +kernel
theorem dX8_takeBack_196 : decode cX8_takeBack 196 = .ok (.goto 5, 3) := by decide +kernel
theorem dX8_takeBack_199 : decode cX8_takeBack 199 = .ok (.bipush 99, 2) := by decide +kernel
theorem dX8_takeBack_201 : decode cX8_takeBack 201 = .ok (.putfield 44, 3) := by decide +kernel
theorem dX8_takeBack_204 : decode cX8_takeBack 204 = .ok (.aload_n 0, 1) := by decide +kernel
theorem dX8_takeBack_205 : decode cX8_takeBack 205 = .ok (.dup, 1) := by decide +kernel
theorem dX8_takeBack_206 : decode cX8_takeBack 206 = .ok (.getfield 48, 3) := by decide +kernel
theorem dX8_takeBack_209 : decode cX8_takeBack 209 = .ok (.iconst 1, 1) := by decide +kernel
theorem dX8_takeBack_210 : decode cX8_takeBack 210 = .ok (.isub, 1) := by decide +kernel
theorem dX8_takeBack_211 : decode cX8_takeBack 211 = .ok (.putfield 48, 3) := by decide +kernel
theorem dX8_takeBack_214 : decode cX8_takeBack 214 = .ok (.return_, 1) := by decide +kernel
set_option maxRecDepth 20000 in
theorem ggX9_init_X3_init : GoodIn wsX9_init wsX3_init := goodIn_r _ [28, 29, 2, 3, 30, 31, 32, 33, 34, 35, 36, 37, 38, 39, 40, 41, 42, 43, 44, 45, 46, 47, 48, 49, 50, 51, 52, 53, 54, 55, 56, 57, 58, 59, 60, 61, 62, 63, 64, 65, 66, 67, 68, 69, 70, 71, 72, 73, 143, 144, 108, 109, 110, 111, 112, 113, 114, 145, 146, 147, 148, 149, 150, 151, 152, 153] (by decide +kernel) (by decide +kernel)
set_option maxRecDepth 20000 in
theorem gX9_init_X3_init_n9 : GoodIn wsX9_init (wsX3_init) := ggX9_init_X3_init
set_option maxRecDepth 20000 in
theorem ggX9_init_X8_init : GoodIn wsX9_init wsX8_init := goodIn_r _ [75, 76, 2, 3, 46, 77, 78, 79, 80, 81, 82, 83, 84, 85, 86, 87, 88, 89, 90, 123, 124, 125, 126, 127, 128, 129, 130, 131, 132, 133, 134] (by decide +kernel) (by decide +kernel)
set_option maxRecDepth 20000 in
theorem gX9_init_X8_init_n21 : GoodIn wsX9_init (wsX8_init) := ggX9_init_X8_init
set_option maxRecDepth 20000 in
theorem ggX9_init_X2_init : GoodIn wsX9_init wsX2_init := goodIn_r _ [92, 93, 2, 3, 94, 95, 96, 135, 136, 137] (by decide +kernel) (by decide +kernel)
set_option maxRecDepth 20000 in
theorem gX9_init_X2_init_n28 : GoodIn wsX9_init (wsX2_init) := ggX9_init_X2_init
set_option maxRecDepth 20000 in
theorem ggX9_init_X4_init : GoodIn wsX9_init wsX4_init := goodIn_r _ [98, 99, 2, 3, 86, 100, 101, 138, 139] (by decide +kernel) (by decide +kernel)
set_option maxRecDepth 20000 in
theorem gX9_init_X4_init_n35 : GoodIn wsX9_init (wsX4_init) := ggX9_init_X4_init
set_option maxRecDepth 20000 in
theorem ggX9_init_X1_init : GoodIn wsX9_init wsX1_init := goodIn_r _ [103, 104, 2, 3, 86, 105, 46, 106, 107, 140, 141, 142] (by decide +kernel) (by decide +kernel)
set_option maxRecDepth 20000 in
theorem gX9_init_X1_init_n42 : GoodIn wsX9_init (wsX1_init) := ggX9_init_X1_init
theorem dX9_init_0 : decode cX9_init 0 = .ok (.aload_n 0, 1) := by decide +kernel
theorem dX9_init_1 : decode cX9_init 1 = .ok (.invokespecial 1, 3) := by decide +kernel
theorem dX9_init_4 : decode cX9_init 4 = .ok (.aload_n 0, 1) := by decide +kernel
theorem dX9_init_5 : decode cX9_init 5 = .ok (.new 7, 3) := by decide +kernel
theorem dX9_init_8 : decode cX9_init 8 = .ok (.dup, 1) := by decide +kernel
theorem dX9_init_9 : decode cX9_init 9 = .ok (.invokespecial 9, 3) := by decide +kernel
theorem dX9_init_12 : decode cX9_init 12 = .ok (.putfield 10, 3) := by decide +kernel
theorem dX9_init_15 : decode cX9_init 15 = .ok (.aload_n 0, 1) := by decide +kernel
theorem dX9_init_16 : decode cX9_init 16 = .ok (.new 7, 3) := by decide +kernel
theorem dX9_init_19 : decode cX9_init 19 = .ok (.dup, 1) := by decide +kernel
theorem dX9_init_20 : decode cX9_init 20 = .ok (.invokespecial 9, 3) := by decide +kernel
theorem dX9_init_23 : decode cX9_init 23 = .ok (.putfield 16, 3) := by decide +kernel
theorem dX9_init_26 : decode cX9_init 26 = .ok (.aload_n 0, 1) := by decide +kernel
theorem dX9_init_27 : decode cX9_init 27 = .ok (.new 19, 3) := by decide +kernel
theorem dX9_init_30 : decode cX9_init 30 = .ok (.dup, 1) := by decide +kernel
theorem dX9_init_31 : decode cX9_init 31 = .ok (.invokespecial 21, 3) := by decide +kernel
theorem dX9_init_34 : decode cX9_init 34 = .ok (.putfield 22, 3) := by decide +kernel
theorem dX9_init_37 : decode cX9_init 37 = .ok (.aload_n 0, 1) := by decide +kernel
theorem dX9_init_38 : decode cX9_init 38 = .ok (.new 26, 3) := by decide +kernel
theorem dX9_init_41 : decode cX9_init 41 = .ok (.dup, 1) := by decide +kernel
theorem dX9_init_42 : decode cX9_init 42 = .ok (.invokespecial 28, 3) := by decide +kernel
theorem dX9_init_45 : decode cX9_init 45 = .ok (.putfield 29, 3) := by decide +kernel
theorem dX9_init_48 : decode cX9_init 48 = .ok (.aload_n 0, 1) := by decide +kernel
theorem dX9_init_49 : decode cX9_init 49 = .ok (.new 33, 3) := by decide +kernel
theorem dX9_init_52 : decode cX9_init 52 = .ok (.dup, 1) := by decide +kernel
theorem dX9_init_53 : decode cX9_init 53 = .ok (.invokespecial 35, 3) := by decide +kernel
theorem dX9_init_56 : decode cX9_init 56 = .ok (.putfield 36, 3) := by decide +kernel
theorem dX9_init_59 : decode cX9_init 59 = .ok (.aload_n 0, 1) := by decide +kernel
theorem dX9_init_60 : decode cX9_init 60 = .ok (.new 40, 3) := by decide +kernel
theorem dX9_init_63 : decode cX9_init 63 = .ok (.dup, 1) := by decide +kernel
theorem dX9_init_64 : decode cX9_init 64 = .ok (.invokespecial 42, 3) := by decide +kernel
theorem dX9_init_67 : decode cX9_init 67 = .ok (.putfield 43, 3) := by decide +kernel
theorem dX9_init_70 : decode cX9_init 70 = .ok (.aload_n 0, 1) := by decide +kernel
theorem dX9_init_71 : decode cX9_init 71 = .ok (.iconst 0, 1) := by decide +kernel
theorem dX9_init_72 : decode cX9_init 72 = .ok (.putfield 47, 3) := by decide +kernel
theorem dX9_init_75 : decode cX9_init 75 = .ok (.aload_n 0, 1) := by decide +kernel
theorem dX9_init_76 : decode cX9_init 76 = .ok (.iconst (-1), 1) := by decide +kernel
theorem dX9_init_77 : decode cX9_init 77 = .ok (.putfield 51, 3) := by decide +kernel
theorem dX9_init_80 : decode cX9_init 80 = .ok (.return_, 1) := by decide +kernel
set_option maxRecDepth 20000 in
theorem ggX9_store_X9_isAddress : GoodIn wsX9_store wsX9_isAddress := goodIn_r _ [7] (by decide +kernel) (by decide +kernel)
set_option maxRecDepth 20000 in
theorem gX9_store_X9_isAddress : GoodIn wsX9_store (va_wsS RX9 55 yX9_isAddress wsX9_isAddress) := goodIn_app (goodIn_of _ (by decide +kernel)) ggX9_store_X9_isAddress
set_option maxRecDepth 20000 in
theorem ggX9_store_X5_layShort : GoodIn wsX9_store wsX5_layShort := goodIn_r _ [12, 13, 14, 36, 37] (by decide +kernel) (by decide +kernel)
set_option maxRecDepth 20000 in
theorem gX9_store_X5_layShort : GoodIn wsX9_store (wsV RX9 64 RX5 yX5_layShort wsX5_layShort) := goodIn_app (goodIn_of _ (by decide +kernel)) ggX9_store_X5_layShort
set_option maxRecDepth 20000 in
theorem ggX9_store_X8_forget : GoodIn wsX9_store wsX8_forget := goodIn_r _ [19, 20, 38, 39, 40, 41, 42, 43, 44, 45, 46, 47, 48, 49] (by decide +kernel) (by decide +kernel)
set_option maxRecDepth 20000 in
theorem gX9_store_X8_forget : GoodIn wsX9_store (wsV RX9 70 RX8 yX8_forget wsX8_forget) := goodIn_app (goodIn_of _ (by decide +kernel)) ggX9_store_X8_forget
theorem dX9_store_0 : decode cX9_store 0 = .ok (.iload_n 1, 1) := by decide +kernel
theorem dX9_store_1 : decode cX9_store 1 = .ok (.invokestatic 55, 3) := by decide +kernel
theorem dX9_store_4 : decode cX9_store 4 = .ok (.ifCond .ne 6, 3) := by decide +kernel
theorem dX9_store_7 : decode cX9_store 7 = .ok (.bipush (-2), 2) := by decide +kernel
theorem dX9_store_9 : decode cX9_store 9 = .ok (.ireturn, 1) := by decide +kernel
theorem dX9_store_10 : decode cX9_store 10 = .ok (.iload_n 2, 1) := by decide +kernel
theorem dX9_store_11 : decode cX9_store 11 = .ok (.ifCond .lt 9, 3) := by decide +kernel
theorem dX9_store_14 : decode cX9_store 14 = .ok (.iload_n 2, 1) := by decide +kernel
theorem dX9_store_15 : decode cX9_store 15 = .ok (.ldc 59, 2) := by decide +kernel
theorem dX9_store_17 : decode cX9_store 17 = .ok (.if_icmp .le 6, 3) := by decide +kernel
