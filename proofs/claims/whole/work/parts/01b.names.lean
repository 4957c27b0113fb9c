theorem dX0_init_0 : decode cX0_init 0 = .ok (.aload_n 0, 1) := by decide +kernel
theorem dX0_init_1 : decode cX0_init 1 = .ok (.invokespecial 3, 3) := by decide +kernel
theorem dX0_init_4 : decode cX0_init 4 = .ok (.aload_n 0, 1) := by decide +kernel
theorem dX0_init_5 : decode cX0_init 5 = .ok (.lconst 0, 1) := by decide +kernel
theorem dX0_init_6 : decode cX0_init 6 = .ok (.putfield 9, 3) := by decide +kernel
theorem dX0_init_9 : decode cX0_init 9 = .ok (.aload_n 0, 1) := by decide +kernel
theorem dX0_init_10 : decode cX0_init 10 = .ok (.lconst 0, 1) := by decide +kernel
theorem dX0_init_11 : decode cX0_init 11 = .ok (.putfield 15, 3) := by decide +kernel
theorem dX0_init_14 : decode cX0_init 14 = .ok (.return_, 1) := by decide +kernel
theorem dX0_become_0 : decode cX0_become 0 = .ok (.aload_n 0, 1) := by decide +kernel
theorem dX0_become_1 : decode cX0_become 1 = .ok (.lload_n 1, 1) := by decide +kernel
theorem dX0_become_2 : decode cX0_become 2 = .ok (.putfield 9, 3) := by decide +kernel
theorem dX0_become_5 : decode cX0_become 5 = .ok (.aload_n 0, 1) := by decide +kernel
theorem dX0_become_6 : decode cX0_become 6 = .ok (.lload_n 3, 1) := by decide +kernel
theorem dX0_become_7 : decode cX0_become 7 = .ok (.putfield 15, 3) := by decide +kernel
theorem dX0_become_10 : decode cX0_become 10 = .ok (.return_, 1) := by decide +kernel
set_option maxRecDepth 20000 in
theorem ggX0_plus_X9_signedLong : GoodIn wsX0_plus wsX9_signedLong := goodIn_r _ [6] (by decide +kernel) (by decide +kernel)
set_option maxRecDepth 20000 in
theorem gX0_plus_X9_signedLong_n18 : GoodIn wsX0_plus (wsX9_signedLong) := ggX0_plus_X9_signedLong
theorem dX0_plus_0 : decode cX0_plus 0 = .ok (.aload_n 0, 1) := by decide +kernel
theorem dX0_plus_1 : decode cX0_plus 1 = .ok (.getfield 15, 3) := by decide +kernel
theorem dX0_plus_4 : decode cX0_plus 4 = .ok (.lload_n 3, 1) := by decide +kernel
theorem dX0_plus_5 : decode cX0_plus 5 = .ok (.ladd, 1) := by decide +kernel
theorem dX0_plus_6 : decode cX0_plus 6 = .ok (.lstore 5, 2) := by decide +kernel
theorem dX0_plus_8 : decode cX0_plus 8 = .ok (.aload_n 0, 1) := by decide +kernel
theorem dX0_plus_9 : decode cX0_plus 9 = .ok (.aload_n 0, 1) := by decide +kernel
theorem dX0_plus_10 : decode cX0_plus 10 = .ok (.getfield 9, 3) := by decide +kernel
theorem dX0_plus_13 : decode cX0_plus 13 = .ok (.lload_n 1, 1) := by decide +kernel
theorem dX0_plus_14 : decode cX0_plus 14 = .ok (.ladd, 1) := by decide +kernel
theorem dX0_plus_15 : decode cX0_plus 15 = .ok (.lload 5, 2) := by decide +kernel
theorem dX0_plus_17 : decode cX0_plus 17 = .ok (.bipush 36, 2) := by decide +kernel
theorem dX0_plus_19 : decode cX0_plus 19 = .ok (.lshr, 1) := by decide +kernel
theorem dX0_plus_20 : decode cX0_plus 20 = .ok (.ladd, 1) := by decide +kernel
theorem dX0_plus_21 : decode cX0_plus 21 = .ok (.invokestatic 18, 3) := by decide +kernel
theorem dX0_plus_24 : decode cX0_plus 24 = .ok (.putfield 9, 3) := by decide +kernel
theorem dX0_plus_27 : decode cX0_plus 27 = .ok (.aload_n 0, 1) := by decide +kernel
theorem dX0_plus_28 : decode cX0_plus 28 = .ok (.lload 5, 2) := by decide +kernel
theorem dX0_plus_30 : decode cX0_plus 30 = .ok (.ldc2_w 22, 3) := by decide +kernel
theorem dX0_plus_33 : decode cX0_plus 33 = .ok (.land, 1) := by decide +kernel
theorem dX0_plus_34 : decode cX0_plus 34 = .ok (.putfield 15, 3) := by decide +kernel
theorem dX0_plus_37 : decode cX0_plus 37 = .ok (.return_, 1) := by decide +kernel
set_option maxRecDepth 20000 in
theorem ggX0_plusProduct_X0_plus : GoodIn wsX0_plusProduct wsX0_plus := goodIn_r _ [9, 10, 11, 4, 12, 13, 14, 15, 16] (by decide +kernel) (by decide +kernel)
set_option maxRecDepth 20000 in
theorem gX0_plusProduct_X0_plus : GoodIn wsX0_plusProduct (wsV RX0 30 RX0 yX0_plus wsX0_plus) := goodIn_app (goodIn_of _ (by decide +kernel)) ggX0_plusProduct_X0_plus
theorem dX0_plusProduct_0 : decode cX0_plusProduct 0 = .ok (.lload_n 1, 1) := by decide +kernel
theorem dX0_plusProduct_1 : decode cX0_plusProduct 1 = .ok (.lload_n 3, 1) := by decide +kernel
theorem dX0_plusProduct_2 : decode cX0_plusProduct 2 = .ok (.bipush 18, 2) := by decide +kernel
theorem dX0_plusProduct_4 : decode cX0_plusProduct 4 = .ok (.lshr, 1) := by decide +kernel
theorem dX0_plusProduct_5 : decode cX0_plusProduct 5 = .ok (.lmul, 1) := by decide +kernel
theorem dX0_plusProduct_6 : decode cX0_plusProduct 6 = .ok (.lstore 6, 2) := by decide +kernel
theorem dX0_plusProduct_8 : decode cX0_plusProduct 8 = .ok (.ldc2_w 24, 3) := by decide +kernel
theorem dX0_plusProduct_11 : decode cX0_plusProduct 11 = .ok (.lload_n 1, 1) := by decide +kernel
theorem dX0_plusProduct_12 : decode cX0_plusProduct 12 = .ok (.lmul, 1) := by decide +kernel
theorem dX0_plusProduct_13 : decode cX0_plusProduct 13 = .ok (.lload_n 3, 1) := by decide +kernel
theorem dX0_plusProduct_14 : decode cX0_plusProduct 14 = .ok (.ldc2_w 26, 3) := by decide +kernel
theorem dX0_plusProduct_17 : decode cX0_plusProduct 17 = .ok (.land, 1) := by decide +kernel
theorem dX0_plusProduct_18 : decode cX0_plusProduct 18 = .ok (.lmul, 1) := by decide +kernel
theorem dX0_plusProduct_19 : decode cX0_plusProduct 19 = .ok (.lstore 8, 2) := by decide +kernel
theorem dX0_plusProduct_21 : decode cX0_plusProduct 21 = .ok (.aload_n 0, 1) := by decide +kernel
theorem dX0_plusProduct_22 : decode cX0_plusProduct 22 = .ok (.iload 5, 2) := by decide +kernel
theorem dX0_plusProduct_24 : decode cX0_plusProduct 24 = .ok (.i2l, 1) := by decide +kernel
theorem dX0_plusProduct_25 : decode cX0_plusProduct 25 = .ok (.lload 6, 2) := by decide +kernel
theorem dX0_plusProduct_27 : decode cX0_plusProduct 27 = .ok (.bipush 16, 2) := by decide +kernel
theorem dX0_plusProduct_29 : decode cX0_plusProduct 29 = .ok (.lshr, 1) := by decide +kernel
theorem dX0_plusProduct_30 : decode cX0_plusProduct 30 = .ok (.lmul, 1) := by decide +kernel
theorem dX0_plusProduct_31 : decode cX0_plusProduct 31 = .ok (.iload 5, 2) := by decide +kernel
theorem dX0_plusProduct_33 : decode cX0_plusProduct 33 = .ok (.i2l, 1) := by decide +kernel
theorem dX0_plusProduct_34 : decode cX0_plusProduct 34 = .ok (.lload 6, 2) := by decide +kernel
theorem dX0_plusProduct_36 : decode cX0_plusProduct 36 = .ok (.ldc2_w 28, 3) := by decide +kernel
theorem dX0_plusProduct_39 : decode cX0_plusProduct 39 = .ok (.land, 1) := by decide +kernel
theorem dX0_plusProduct_40 : decode cX0_plusProduct 40 = .ok (.bipush 20, 2) := by decide +kernel
theorem dX0_plusProduct_42 : decode cX0_plusProduct 42 = .ok (.lshl, 1) := by decide +kernel
theorem dX0_plusProduct_43 : decode cX0_plusProduct 43 = .ok (.lmul, 1) := by decide +kernel
theorem dX0_plusProduct_44 : decode cX0_plusProduct 44 = .ok (.invokevirtual 30, 3) := by decide +kernel
theorem dX0_plusProduct_47 : decode cX0_plusProduct 47 = .ok (.aload_n 0, 1) := by decide +kernel
theorem dX0_plusProduct_48 : decode cX0_plusProduct 48 = .ok (.iload 5, 2) := by decide +kernel
theorem dX0_plusProduct_50 : decode cX0_plusProduct 50 = .ok (.i2l, 1) := by decide +kernel
theorem dX0_plusProduct_51 : decode cX0_plusProduct 51 = .ok (.lload 8, 2) := by decide +kernel
theorem dX0_plusProduct_53 : decode cX0_plusProduct 53 = .ok (.bipush 36, 2) := by decide +kernel
theorem dX0_plusProduct_55 : decode cX0_plusProduct 55 = .ok (.lshr, 1) := by decide +kernel
theorem dX0_plusProduct_56 : decode cX0_plusProduct 56 = .ok (.lmul, 1) := by decide +kernel
theorem dX0_plusProduct_57 : decode cX0_plusProduct 57 = .ok (.iload 5, 2) := by decide +kernel
theorem dX0_plusProduct_59 : decode cX0_plusProduct 59 = .ok (.i2l, 1) := by decide +kernel
theorem dX0_plusProduct_60 : decode cX0_plusProduct 60 = .ok (.lload 8, 2) := by decide +kernel
theorem dX0_plusProduct_62 : decode cX0_plusProduct 62 = .ok (.ldc2_w 22, 3) := by decide +kernel
theorem dX0_plusProduct_65 : decode cX0_plusProduct 65 = .ok (.land, 1) := by decide +kernel
theorem dX0_plusProduct_66 : decode cX0_plusProduct 66 = .ok (.lmul, 1) := by decide +kernel
theorem dX0_plusProduct_67 : decode cX0_plusProduct 67 = .ok (.invokevirtual 30, 3) := by decide +kernel
theorem dX0_plusProduct_70 : decode cX0_plusProduct 70 = .ok (.return_, 1) := by decide +kernel
set_option maxRecDepth 20000 in
theorem ggX0_shiftRight_X0_become : GoodIn wsX0_shiftRight wsX0_become := goodIn_r _ [7, 1, 2, 8, 9] (by decide +kernel) (by decide +kernel)
set_option maxRecDepth 20000 in
theorem gX0_shiftRight_X0_become : GoodIn wsX0_shiftRight (wsV RX0 34 RX0 yX0_become wsX0_become) := goodIn_app (goodIn_of _ (by decide +kernel)) ggX0_shiftRight_X0_become
theorem dX0_shiftRight_0 : decode cX0_shiftRight 0 = .ok (.aload_n 0, 1) := by decide +kernel
theorem dX0_shiftRight_1 : decode cX0_shiftRight 1 = .ok (.getfield 9, 3) := by decide +kernel
theorem dX0_shiftRight_4 : decode cX0_shiftRight 4 = .ok (.lconst 1, 1) := by decide +kernel
theorem dX0_shiftRight_5 : decode cX0_shiftRight 5 = .ok (.iload_n 1, 1) := by decide +kernel
theorem dX0_shiftRight_6 : decode cX0_shiftRight 6 = .ok (.lshl, 1) := by decide +kernel
theorem dX0_shiftRight_7 : decode cX0_shiftRight 7 = .ok (.lconst 1, 1) := by decide +kernel
theorem dX0_shiftRight_8 : decode cX0_shiftRight 8 = .ok (.lsub, 1) := by decide +kernel
theorem dX0_shiftRight_9 : decode cX0_shiftRight 9 = .ok (.land, 1) := by decide +kernel
theorem dX0_shiftRight_10 : decode cX0_shiftRight 10 = .ok (.lstore_n 2, 1) := by decide +kernel
theorem dX0_shiftRight_11 : decode cX0_shiftRight 11 = .ok (.aload_n 0, 1) := by decide +kernel
theorem dX0_shiftRight_12 : decode cX0_shiftRight 12 = .ok (.aload_n 0, 1) := by decide +kernel
theorem dX0_shiftRight_13 : decode cX0_shiftRight 13 = .ok (.getfield 9, 3) := by decide +kernel
theorem dX0_shiftRight_16 : decode cX0_shiftRight 16 = .ok (.iload_n 1, 1) := by decide +kernel
theorem dX0_shiftRight_17 : decode cX0_shiftRight 17 = .ok (.lshr, 1) := by decide +kernel
theorem dX0_shiftRight_18 : decode cX0_shiftRight 18 = .ok (.aload_n 0, 1) := by decide +kernel
theorem dX0_shiftRight_19 : decode cX0_shiftRight 19 = .ok (.getfield 15, 3) := by decide +kernel
theorem dX0_shiftRight_22 : decode cX0_shiftRight 22 = .ok (.iload_n 1, 1) := by decide +kernel
theorem dX0_shiftRight_23 : decode cX0_shiftRight 23 = .ok (.lshr, 1) := by decide +kernel
theorem dX0_shiftRight_24 : decode cX0_shiftRight 24 = .ok (.lload_n 2, 1) := by decide +kernel
theorem dX0_shiftRight_25 : decode cX0_shiftRight 25 = .ok (.bipush 36, 2) := by decide +kernel
theorem dX0_shiftRight_27 : decode cX0_shiftRight 27 = .ok (.iload_n 1, 1) := by decide +kernel
theorem dX0_shiftRight_28 : decode cX0_shiftRight 28 = .ok (.isub, 1) := by decide +kernel
theorem dX0_shiftRight_29 : decode cX0_shiftRight 29 = .ok (.lshl, 1) := by decide +kernel
theorem dX0_shiftRight_30 : decode cX0_shiftRight 30 = .ok (.lor, 1) := by decide +kernel
theorem dX0_shiftRight_31 : decode cX0_shiftRight 31 = .ok (.invokevirtual 34, 3) := by decide +kernel
theorem dX0_shiftRight_34 : decode cX0_shiftRight 34 = .ok (.return_, 1) := by decide +kernel
set_option maxRecDepth 20000 in
theorem ggX0_shiftLeft_X9_signedLong : GoodIn wsX0_shiftLeft wsX9_signedLong := goodIn_r _ [6] (by decide +kernel) (by decide +kernel)
set_option maxRecDepth 20000 in
theorem gX0_shiftLeft_X9_signedLong_n18 : GoodIn wsX0_shiftLeft (wsX9_signedLong) := ggX0_shiftLeft_X9_signedLong
set_option maxRecDepth 20000 in
theorem ggX0_shiftLeft_X0_become : GoodIn wsX0_shiftLeft wsX0_become := goodIn_r _ [11, 1, 2, 12, 13] (by decide +kernel) (by decide +kernel)
set_option maxRecDepth 20000 in
theorem gX0_shiftLeft_X0_become : GoodIn wsX0_shiftLeft (wsV RX0 34 RX0 yX0_become wsX0_become) := goodIn_app (goodIn_of _ (by decide +kernel)) ggX0_shiftLeft_X0_become
theorem dX0_shiftLeft_0 : decode cX0_shiftLeft 0 = .ok (.aload_n 0, 1) := by decide +kernel
theorem dX0_shiftLeft_1 : decode cX0_shiftLeft 1 = .ok (.aload_n 0, 1) := by decide +kernel
theorem dX0_shiftLeft_2 : decode cX0_shiftLeft 2 = .ok (.getfield 9, 3) := by decide +kernel
theorem dX0_shiftLeft_5 : decode cX0_shiftLeft 5 = .ok (.iload_n 1, 1) := by decide +kernel
theorem dX0_shiftLeft_6 : decode cX0_shiftLeft 6 = .ok (.lshl, 1) := by decide +kernel
theorem dX0_shiftLeft_7 : decode cX0_shiftLeft 7 = .ok (.aload_n 0, 1) := by decide +kernel
theorem dX0_shiftLeft_8 : decode cX0_shiftLeft 8 = .ok (.getfield 15, 3) := by decide +kernel
theorem dX0_shiftLeft_11 : decode cX0_shiftLeft 11 = .ok (.bipush 36, 2) := by decide +kernel
theorem dX0_shiftLeft_13 : decode cX0_shiftLeft 13 = .ok (.iload_n 1, 1) := by decide +kernel
theorem dX0_shiftLeft_14 : decode cX0_shiftLeft 14 = .ok (.isub, 1) := by decide +kernel
theorem dX0_shiftLeft_15 : decode cX0_shiftLeft 15 = .ok (.lshr, 1) := by decide +kernel
theorem dX0_shiftLeft_16 : decode cX0_shiftLeft 16 = .ok (.lor, 1) := by decide +kernel
theorem dX0_shiftLeft_17 : decode cX0_shiftLeft 17 = .ok (.invokestatic 18, 3) := by decide +kernel
theorem dX0_shiftLeft_20 : decode cX0_shiftLeft 20 = .ok (.aload_n 0, 1) := by decide +kernel
theorem dX0_shiftLeft_21 : decode cX0_shiftLeft 21 = .ok (.getfield 15, 3) := by decide +kernel
theorem dX0_shiftLeft_24 : decode cX0_shiftLeft 24 = .ok (.iload_n 1, 1) := by decide +kernel
theorem dX0_shiftLeft_25 : decode cX0_shiftLeft 25 = .ok (.lshl, 1) := by decide +kernel
theorem dX0_shiftLeft_26 : decode cX0_shiftLeft 26 = .ok (.ldc2_w 22, 3) := by decide +kernel
theorem dX0_shiftLeft_29 : decode cX0_shiftLeft 29 = .ok (.land, 1) := by decide +kernel
theorem dX0_shiftLeft_30 : decode cX0_shiftLeft 30 = .ok (.invokevirtual 34, 3) := by decide +kernel
theorem dX0_shiftLeft_33 : decode cX0_shiftLeft 33 = .ok (.return_, 1) := by decide +kernel
theorem dX1_init_0 : decode cX1_init 0 = .ok (.aload_n 0, 1) := by decide +kernel
theorem dX1_init_1 : decode cX1_init 1 = .ok (.invokespecial 3, 3) := by decide +kernel
theorem dX1_init_4 : decode cX1_init 4 = .ok (.aload_n 0, 1) := by decide +kernel
theorem dX1_init_5 : decode cX1_init 5 = .ok (.sipush 256, 3) := by decide +kernel
theorem dX1_init_8 : decode cX1_init 8 = .ok (.newarray .boolean, 2) := by decide +kernel
theorem dX1_init_10 : decode cX1_init 10 = .ok (.putfield 9, 3) := by decide +kernel
theorem dX1_init_13 : decode cX1_init 13 = .ok (.aload_n 0, 1) := by decide +kernel
theorem dX1_init_14 : decode cX1_init 14 = .ok (.sipush 256, 3) := by decide +kernel
theorem dX1_init_17 : decode cX1_init 17 = .ok (.newarray .int, 2) := by decide +kernel
theorem dX1_init_19 : decode cX1_init 19 = .ok (.putfield 15, 3) := by decide +kernel
theorem dX1_init_22 : decode cX1_init 22 = .ok (.aload_n 0, 1) := by decide +kernel
theorem dX1_init_23 : decode cX1_init 23 = .ok (.iconst 0, 1) := by decide +kernel
theorem dX1_init_24 : decode cX1_init 24 = .ok (.putfield 19, 3) := by decide +kernel
theorem dX1_init_27 : decode cX1_init 27 = .ok (.return_, 1) := by decide +kernel
theorem dX1_isComeTo_0 : decode cX1_isComeTo 0 = .ok (.aload_n 0, 1) := by decide +kernel
theorem dX1_isComeTo_1 : decode cX1_isComeTo 1 = .ok (.getfield 9, 3) := by decide +kernel
theorem dX1_isComeTo_4 : decode cX1_isComeTo 4 = .ok (.iload_n 1, 1) := by decide +kernel
theorem dX1_isComeTo_5 : decode cX1_isComeTo 5 = .ok (.sipush 255, 3) := by decide +kernel
theorem dX1_isComeTo_8 : decode cX1_isComeTo 8 = .ok (.iand, 1) := by decide +kernel
theorem dX1_isComeTo_9 : decode cX1_isComeTo 9 = .ok (.baload, 1) := by decide +kernel
theorem dX1_isComeTo_10 : decode cX1_isComeTo 10 = .ok (.ireturn, 1) := by decide +kernel
set_option maxRecDepth 20000 in
theorem ggX1_follow_X1_find : GoodIn wsX1_follow wsX1_find := goodIn_r _ [8, 2, 1, 3, 9, 10, 11, 7, 12, 32, 33, 34] (by decide +kernel) (by decide +kernel)
set_option maxRecDepth 20000 in
theorem gX1_follow_X1_find : GoodIn wsX1_follow (wsV RX1 23 RX1 yX1_find wsX1_find) := goodIn_app (goodIn_of _ (by decide +kernel)) ggX1_follow_X1_find
set_option maxRecDepth 20000 in
theorem ggX1_follow_X1_findFrom : GoodIn wsX1_follow wsX1_findFrom := goodIn_r _ [16, 17, 18, 19, 20, 21, 22, 23, 24, 25, 26, 27, 28, 29, 4, 5, 6, 7, 8, 2, 1, 3, 9, 10, 11, 12, 30, 31, 35, 36, 32, 33, 34] (by decide +kernel) (by decide +kernel)
set_option maxRecDepth 20000 in
theorem gX1_follow_X1_findFrom : GoodIn wsX1_follow (wsV RX1 27 RX1 yX1_findFrom wsX1_findFrom) := goodIn_app (goodIn_of _ (by decide +kernel)) ggX1_follow_X1_findFrom
theorem dX1_follow_0 : decode cX1_follow 0 = .ok (.iconst 0, 1) := by decide +kernel
theorem dX1_follow_1 : decode cX1_follow 1 = .ok (.istore_n 3, 1) := by decide +kernel
theorem dX1_follow_2 : decode cX1_follow 2 = .ok (.iload_n 3, 1) := by decide +kernel
theorem dX1_follow_3 : decode cX1_follow 3 = .ok (.sipush 256, 3) := by decide +kernel
theorem dX1_follow_6 : decode cX1_follow 6 = .ok (.if_icmp .ge 16, 3) := by decide +kernel
theorem dX1_follow_9 : decode cX1_follow 9 = .ok (.aload_n 0, 1) := by decide +kernel
theorem dX1_follow_10 : decode cX1_follow 10 = .ok (.getfield 9, 3) := by decide +kernel
theorem dX1_follow_13 : decode cX1_follow 13 = .ok (.iload_n 3, 1) := by decide +kernel
theorem dX1_follow_14 : decode cX1_follow 14 = .ok (.iconst 0, 1) := by decide +kernel
theorem dX1_follow_15 : decode cX1_follow 15 = .ok (.bastore, 1) := by decide +kernel
theorem dX1_follow_16 : decode cX1_follow 16 = .ok (.iinc 3 1, 3) := by decide +kernel
theorem dX1_follow_19 : decode cX1_follow 19 = .ok (.goto (-17), 3) := by decide +kernel
theorem dX1_follow_22 : decode cX1_follow 22 = .ok (.aload_n 0, 1) := by decide +kernel
theorem dX1_follow_23 : decode cX1_follow 23 = .ok (.iconst 0, 1) := by decide +kernel
theorem dX1_follow_24 : decode cX1_follow 24 = .ok (.putfield 19, 3) := by decide +kernel
theorem dX1_follow_27 : decode cX1_follow 27 = .ok (.aload_n 0, 1) := by decide +kernel
theorem dX1_follow_28 : decode cX1_follow 28 = .ok (.iload_n 2, 1) := by decide +kernel
theorem dX1_follow_29 : decode cX1_follow 29 = .ok (.invokevirtual 23, 3) := by decide +kernel
theorem dX1_follow_32 : decode cX1_follow 32 = .ok (.iconst 0, 1) := by decide +kernel
theorem dX1_follow_33 : decode cX1_follow 33 = .ok (.istore_n 3, 1) := by decide +kernel
theorem dX1_follow_34 : decode cX1_follow 34 = .ok (.iload_n 3, 1) := by decide +kernel
theorem dX1_follow_35 : decode cX1_follow 35 = .ok (.aload_n 0, 1) := by decide +kernel
theorem dX1_follow_36 : decode cX1_follow 36 = .ok (.getfield 19, 3) := by decide +kernel
theorem dX1_follow_39 : decode cX1_follow 39 = .ok (.if_icmp .ge 27, 3) := by decide +kernel
theorem dX1_follow_42 : decode cX1_follow 42 = .ok (.iload_n 3, 1) := by decide +kernel
theorem dX1_follow_43 : decode cX1_follow 43 = .ok (.sipush 256, 3) := by decide +kernel
theorem dX1_follow_46 : decode cX1_follow 46 = .ok (.if_icmp .ge 20, 3) := by decide +kernel
theorem dX1_follow_49 : decode cX1_follow 49 = .ok (.aload_n 0, 1) := by decide +kernel
theorem dX1_follow_50 : decode cX1_follow 50 = .ok (.aload_n 1, 1) := by decide +kernel
theorem dX1_follow_51 : decode cX1_follow 51 = .ok (.aload_n 0, 1) := by decide +kernel
theorem dX1_follow_52 : decode cX1_follow 52 = .ok (.getfield 15, 3) := by decide +kernel
theorem dX1_follow_55 : decode cX1_follow 55 = .ok (.iload_n 3, 1) := by decide +kernel
theorem dX1_follow_56 : decode cX1_follow 56 = .ok (.iaload, 1) := by decide +kernel
theorem dX1_follow_57 : decode cX1_follow 57 = .ok (.invokevirtual 27, 3) := by decide +kernel
theorem dX1_follow_60 : decode cX1_follow 60 = .ok (.iinc 3 1, 3) := by decide +kernel
theorem dX1_follow_63 : decode cX1_follow 63 = .ok (.goto (-29), 3) := by decide +kernel
theorem dX1_follow_66 : decode cX1_follow 66 = .ok (.aload_n 0, 1) := by decide +kernel
theorem dX1_follow_67 : decode cX1_follow 67 = .ok (.getfield 19, 3) := by decide +kernel
theorem dX1_follow_70 : decode cX1_follow 70 = .ok (.ireturn, 1) := by decide +kernel
set_option maxRecDepth 20000 in
theorem ggX1_findFrom_X5_shortAt : GoodIn wsX1_findFrom wsX5_shortAt := goodIn_r _ [5, 6, 28, 29] (by decide +kernel) (by decide +kernel)
set_option maxRecDepth 20000 in
theorem gX1_findFrom_X5_shortAt : GoodIn wsX1_findFrom (wsV RX1 31 RX5 yX5_shortAt wsX5_shortAt) := goodIn_app (goodIn_of _ (by decide +kernel)) ggX1_findFrom_X5_shortAt
set_option maxRecDepth 20000 in
theorem ggX1_findFrom_X9_functionOf : GoodIn wsX1_findFrom wsX9_functionOf := goodIn_r _ [9] (by decide +kernel) (by decide +kernel)
set_option maxRecDepth 20000 in
theorem gX1_findFrom_X9_functionOf_n37 : GoodIn wsX1_findFrom (wsX9_functionOf) := ggX1_findFrom_X9_functionOf
set_option maxRecDepth 20000 in
theorem ggX1_findFrom_X9_isLegal : GoodIn wsX1_findFrom wsX9_isLegal := goodIn_r _ [11] (by decide +kernel) (by decide +kernel)
set_option maxRecDepth 20000 in
theorem gX1_findFrom_X9_isLegal_n40 : GoodIn wsX1_findFrom (wsX9_isLegal) := ggX1_findFrom_X9_isLegal
set_option maxRecDepth 20000 in
theorem ggX1_findFrom_X9_behind : GoodIn wsX1_findFrom wsX9_behind := goodIn_r _ [13] (by decide +kernel) (by decide +kernel)
set_option maxRecDepth 20000 in
theorem gX1_findFrom_X9_behind_n44 : GoodIn wsX1_findFrom (wsX9_behind) := ggX1_findFrom_X9_behind
set_option maxRecDepth 20000 in
theorem ggX1_findFrom_X1_find : GoodIn wsX1_findFrom wsX1_find := goodIn_r _ [18, 19, 20, 21, 22, 23, 24, 17, 25, 30, 31, 32] (by decide +kernel) (by decide +kernel)
set_option maxRecDepth 20000 in
theorem gX1_findFrom_X1_find : GoodIn wsX1_findFrom (wsV RX1 23 RX1 yX1_find wsX1_find) := goodIn_app (goodIn_of _ (by decide +kernel)) ggX1_findFrom_X1_find
set_option maxRecDepth 20000 in
theorem ggX1_findFrom_X9_addressOf : GoodIn wsX1_findFrom wsX9_addressOf := goodIn_r _ [27] (by decide +kernel) (by decide +kernel)
set_option maxRecDepth 20000 in
theorem gX1_findFrom_X9_addressOf_n47 : GoodIn wsX1_findFrom (wsX9_addressOf) := ggX1_findFrom_X9_addressOf
theorem dX1_findFrom_0 : decode cX1_findFrom 0 = .ok (.aload_n 1, 1) := by decide +kernel
theorem dX1_findFrom_1 : decode cX1_findFrom 1 = .ok (.iload_n 2, 1) := by decide +kernel
theorem dX1_findFrom_2 : decode cX1_findFrom 2 = .ok (.invokevirtual 31, 3) := by decide +kernel
theorem dX1_findFrom_5 : decode cX1_findFrom 5 = .ok (.istore_n 3, 1) := by decide +kernel
theorem dX1_findFrom_6 : decode cX1_findFrom 6 = .ok (.iload_n 3, 1) := by decide +kernel
theorem dX1_findFrom_7 : decode cX1_findFrom 7 = .ok (.invokestatic 37, 3) := by decide +kernel
theorem dX1_findFrom_10 : decode cX1_findFrom 10 = .ok (.istore 4, 2) := by decide +kernel
theorem dX1_findFrom_12 : decode cX1_findFrom 12 = .ok (.iload 4, 2) := by decide +kernel
theorem dX1_findFrom_14 : decode cX1_findFrom 14 = .ok (.bipush 13, 2) := by decide +kernel
theorem dX1_findFrom_16 : decode cX1_findFrom 16 = .ok (.if_icmp .eq 11, 3) := by decide +kernel
theorem dX1_findFrom_19 : decode cX1_findFrom 19 = .ok (.iload 4, 2) := by decide +kernel
theorem dX1_findFrom_21 : decode cX1_findFrom 21 = .ok (.invokestatic 40, 3) := by decide +kernel
theorem dX1_findFrom_24 : decode cX1_findFrom 24 = .ok (.ifCond .ne 4, 3) := by decide +kernel
theorem dX1_findFrom_27 : decode cX1_findFrom 27 = .ok (.return_, 1) := by decide +kernel
theorem dX1_findFrom_28 : decode cX1_findFrom 28 = .ok (.aload_n 0, 1) := by decide +kernel
theorem dX1_findFrom_29 : decode cX1_findFrom 29 = .ok (.iload_n 2, 1) := by decide +kernel
theorem dX1_findFrom_30 : decode cX1_findFrom 30 = .ok (.invokestatic 44, 3) := by decide +kernel
theorem dX1_findFrom_33 : decode cX1_findFrom 33 = .ok (.invokevirtual 23, 3) := by decide +kernel
theorem dX1_findFrom_36 : decode cX1_findFrom 36 = .ok (.iload 4, 2) := by decide +kernel
theorem dX1_findFrom_38 : decode cX1_findFrom 38 = .ok (.iconst 3, 1) := by decide +kernel
theorem dX1_findFrom_39 : decode cX1_findFrom 39 = .ok (.if_icmp .eq 10, 3) := by decide +kernel
theorem dX1_findFrom_42 : decode cX1_findFrom 42 = .ok (.iload 4, 2) := by decide +kernel
theorem dX1_findFrom_44 : decode cX1_findFrom 44 = .ok (.bipush 27, 2) := by decide +kernel
theorem dX1_findFrom_46 : decode cX1_findFrom 46 = .ok (.if_icmp .ne 11, 3) := by decide +kernel
theorem dX1_findFrom_49 : decode cX1_findFrom 49 = .ok (.aload_n 0, 1) := by decide +kernel
theorem dX1_findFrom_50 : decode cX1_findFrom 50 = .ok (.iload_n 3, 1) := by decide +kernel
theorem dX1_findFrom_51 : decode cX1_findFrom 51 = .ok (.invokestatic 47, 3) := by decide +kernel
theorem dX1_findFrom_54 : decode cX1_findFrom 54 = .ok (.invokevirtual 23, 3) := by decide +kernel
theorem dX1_findFrom_57 : decode cX1_findFrom 57 = .ok (.return_, 1) := by decide +kernel
set_option maxRecDepth 20000 in
theorem ggX1_find_X1_isComeTo : GoodIn wsX1_find wsX1_isComeTo := goodIn_r _ [8, 2, 9, 10, 11] (by decide +kernel) (by decide +kernel)
set_option maxRecDepth 20000 in
theorem gX1_find_X1_isComeTo : GoodIn wsX1_find (wsV RX1 50 RX1 yX1_isComeTo wsX1_isComeTo) := goodIn_app (goodIn_of _ (by decide +kernel)) ggX1_find_X1_isComeTo
theorem dX1_find_0 : decode cX1_find 0 = .ok (.aload_n 0, 1) := by decide +kernel
theorem dX1_find_1 : decode cX1_find 1 = .ok (.iload_n 1, 1) := by decide +kernel
theorem dX1_find_2 : decode cX1_find 2 = .ok (.invokevirtual 50, 3) := by decide +kernel
theorem dX1_find_5 : decode cX1_find 5 = .ok (.ifCond .ne 51, 3) := by decide +kernel
theorem dX1_find_8 : decode cX1_find 8 = .ok (.aload_n 0, 1) := by decide +kernel
theorem dX1_find_9 : decode cX1_find 9 = .ok (.getfield 19, 3) := by decide +kernel
theorem dX1_find_12 : decode cX1_find 12 = .ok (.ifCond .lt 44, 3) := by decide +kernel
theorem dX1_find_15 : decode cX1_find 15 = .ok (.aload_n 0, 1) := by decide +kernel
theorem dX1_find_16 : decode cX1_find 16 = .ok (.getfield 19, 3) := by decide +kernel
theorem dX1_find_19 : decode cX1_find 19 = .ok (.sipush 256, 3) := by decide +kernel
theorem dX1_find_22 : decode cX1_find 22 = .ok (.if_icmp .ge 34, 3) := by decide +kernel
theorem dX1_find_25 : decode cX1_find 25 = .ok (.aload_n 0, 1) := by decide +kernel
theorem dX1_find_26 : decode cX1_find 26 = .ok (.getfield 9, 3) := by decide +kernel
theorem dX1_find_29 : decode cX1_find 29 = .ok (.iload_n 1, 1) := by decide +kernel
theorem dX1_find_30 : decode cX1_find 30 = .ok (.sipush 255, 3) := by decide +kernel
theorem dX1_find_33 : decode cX1_find 33 = .ok (.iand, 1) := by decide +kernel
theorem dX1_find_34 : decode cX1_find 34 = .ok (.iconst 1, 1) := by decide +kernel
theorem dX1_find_35 : decode cX1_find 35 = .ok (.bastore, 1) := by decide +kernel
theorem dX1_find_36 : decode cX1_find 36 = .ok (.aload_n 0, 1) := by decide +kernel
theorem dX1_find_37 : decode cX1_find 37 = .ok (.getfield 15, 3) := by decide +kernel
theorem dX1_find_40 : decode cX1_find 40 = .ok (.aload_n 0, 1) := by decide +kernel
theorem dX1_find_41 : decode cX1_find 41 = .ok (.getfield 19, 3) := by decide +kernel
theorem dX1_find_44 : decode cX1_find 44 = .ok (.iload_n 1, 1) := by decide +kernel
theorem dX1_find_45 : decode cX1_find 45 = .ok (.iastore, 1) := by decide +kernel
theorem dX1_find_46 : decode cX1_find 46 = .ok (.aload_n 0, 1) := by decide +kernel
theorem dX1_find_47 : decode cX1_find 47 = .ok (.dup, 1) := by decide +kernel
theorem dX1_find_48 : decode cX1_find 48 = .ok (.getfield 19, 3) := by decide +kernel
theorem dX1_find_51 : decode cX1_find 51 = .ok (.iconst 1, 1) := by decide +kernel
theorem dX1_find_52 : decode cX1_find 52 = .ok (.iadd, 1) := by decide +kernel
theorem dX1_find_53 : decode cX1_find 53 = .ok (.putfield 19, 3) := by decide +kernel
theorem dX1_find_56 : decode cX1_find 56 = .ok (.return_, 1) := by decide +kernel
set_option maxRecDepth 20000 in
theorem ggX1_leastThatAlters_X5_shortAt : GoodIn wsX1_leastThatAlters wsX5_shortAt := goodIn_r _ [6, 7, 27, 28] (by decide +kernel) (by decide +kernel)
set_option maxRecDepth 20000 in
theorem gX1_leastThatAlters_X5_shortAt : GoodIn wsX1_leastThatAlters (wsV RX1 31 RX5 yX5_shortAt wsX5_shortAt) := goodIn_app (goodIn_of _ (by decide +kernel)) ggX1_leastThatAlters_X5_shortAt
set_option maxRecDepth 20000 in
theorem ggX1_leastThatAlters_X1_altersWhatIsComeTo : GoodIn wsX1_leastThatAlters wsX1_altersWhatIsComeTo := goodIn_r _ [12, 13, 14, 15, 16, 17, 18, 19, 20, 21, 22, 11, 23, 1, 24, 25, 26] (by decide +kernel) (by decide +kernel)
set_option maxRecDepth 20000 in
theorem gX1_leastThatAlters_X1_altersWhatIsComeTo : GoodIn wsX1_leastThatAlters (wsV RX1 53 RX1 yX1_altersWhatIsComeTo wsX1_altersWhatIsComeTo) := goodIn_app (goodIn_of _ (by decide +kernel)) ggX1_leastThatAlters_X1_altersWhatIsComeTo
theorem dX1_leastThatAlters_0 : decode cX1_leastThatAlters 0 = .ok (.iconst 0, 1) := by decide +kernel
theorem dX1_leastThatAlters_1 : decode cX1_leastThatAlters 1 = .ok (.istore_n 2, 1) := by decide +kernel
theorem dX1_leastThatAlters_2 : decode cX1_leastThatAlters 2 = .ok (.iload_n 2, 1) := by decide +kernel
theorem dX1_leastThatAlters_3 : decode cX1_leastThatAlters 3 = .ok (.sipush 256, 3) := by decide +kernel
theorem dX1_leastThatAlters_6 : decode cX1_leastThatAlters 6 = .ok (.if_icmp .ge 32, 3) := by decide +kernel
theorem dX1_leastThatAlters_9 : decode cX1_leastThatAlters 9 = .ok (.aload_n 0, 1) := by decide +kernel
theorem dX1_leastThatAlters_10 : decode cX1_leastThatAlters 10 = .ok (.getfield 9, 3) := by decide +kernel
theorem dX1_leastThatAlters_13 : decode cX1_leastThatAlters 13 = .ok (.iload_n 2, 1) := by decide +kernel
theorem dX1_leastThatAlters_14 : decode cX1_leastThatAlters 14 = .ok (.baload, 1) := by decide +kernel
theorem dX1_leastThatAlters_15 : decode cX1_leastThatAlters 15 = .ok (.ifCond .eq 17, 3) := by decide +kernel
theorem dX1_leastThatAlters_18 : decode cX1_leastThatAlters 18 = .ok (.aload_n 0, 1) := by decide +kernel
theorem dX1_leastThatAlters_19 : decode cX1_leastThatAlters 19 = .ok (.aload_n 1, 1) := by decide +kernel
theorem dX1_leastThatAlters_20 : decode cX1_leastThatAlters 20 = .ok (.iload_n 2, 1) := by decide +kernel
theorem dX1_leastThatAlters_21 : decode cX1_leastThatAlters 21 = .ok (.invokevirtual 31, 3) := by decide +kernel
theorem dX1_leastThatAlters_24 : decode cX1_leastThatAlters 24 = .ok (.invokevirtual 53, 3) := by decide +kernel
theorem dX1_leastThatAlters_27 : decode cX1_leastThatAlters 27 = .ok (.ifCond .eq 5, 3) := by decide +kernel
theorem dX1_leastThatAlters_30 : decode cX1_leastThatAlters 30 = .ok (.iload_n 2, 1) := by decide +kernel
theorem dX1_leastThatAlters_31 : decode cX1_leastThatAlters 31 = .ok (.ireturn, 1) := by decide +kernel
theorem dX1_leastThatAlters_32 : decode cX1_leastThatAlters 32 = .ok (.iinc 2 1, 3) := by decide +kernel
theorem dX1_leastThatAlters_35 : decode cX1_leastThatAlters 35 = .ok (.goto (-33), 3) := by decide +kernel
theorem dX1_leastThatAlters_38 : decode cX1_leastThatAlters 38 = .ok (.iconst (-1), 1) := by decide +kernel
theorem dX1_leastThatAlters_39 : decode cX1_leastThatAlters 39 = .ok (.ireturn, 1) := by decide +kernel
set_option maxRecDepth 20000 in
theorem ggX1_altersWhatIsComeTo_X9_addressOf : GoodIn wsX1_altersWhatIsComeTo wsX9_addressOf := goodIn_r _ [3] (by decide +kernel) (by decide +kernel)
set_option maxRecDepth 20000 in
theorem gX1_altersWhatIsComeTo_X9_addressOf_n47 : GoodIn wsX1_altersWhatIsComeTo (wsX9_addressOf) := ggX1_altersWhatIsComeTo_X9_addressOf
set_option maxRecDepth 20000 in
theorem ggX1_altersWhatIsComeTo_X9_functionOf : GoodIn wsX1_altersWhatIsComeTo wsX9_functionOf := goodIn_r _ [5] (by decide +kernel) (by decide +kernel)
set_option maxRecDepth 20000 in
theorem gX1_altersWhatIsComeTo_X9_functionOf_n37 : GoodIn wsX1_altersWhatIsComeTo (wsX9_functionOf) := ggX1_altersWhatIsComeTo_X9_functionOf
set_option maxRecDepth 20000 in
theorem ggX1_altersWhatIsComeTo_X9_isLongOrder : GoodIn wsX1_altersWhatIsComeTo wsX9_isLongOrder := goodIn_r _ [7] (by decide +kernel) (by decide +kernel)
set_option maxRecDepth 20000 in
theorem gX1_altersWhatIsComeTo_X9_isLongOrder_n56 : GoodIn wsX1_altersWhatIsComeTo (wsX9_isLongOrder) := ggX1_altersWhatIsComeTo_X9_isLongOrder
set_option maxRecDepth 20000 in
theorem ggX1_altersWhatIsComeTo_X1_isComeTo : GoodIn wsX1_altersWhatIsComeTo wsX1_isComeTo := goodIn_r _ [12, 13, 14, 15, 16] (by decide +kernel) (by decide +kernel)
set_option maxRecDepth 20000 in
theorem gX1_altersWhatIsComeTo_X1_isComeTo : GoodIn wsX1_altersWhatIsComeTo (wsV RX1 50 RX1 yX1_isComeTo wsX1_isComeTo) := goodIn_app (goodIn_of _ (by decide +kernel)) ggX1_altersWhatIsComeTo_X1_isComeTo
theorem dX1_altersWhatIsComeTo_0 : decode cX1_altersWhatIsComeTo 0 = .ok (.iload_n 1, 1) := by decide +kernel
theorem dX1_altersWhatIsComeTo_1 : decode cX1_altersWhatIsComeTo 1 = .ok (.invokestatic 47, 3) := by decide +kernel
theorem dX1_altersWhatIsComeTo_4 : decode cX1_altersWhatIsComeTo 4 = .ok (.istore_n 2, 1) := by decide +kernel
theorem dX1_altersWhatIsComeTo_5 : decode cX1_altersWhatIsComeTo 5 = .ok (.iload_n 1, 1) := by decide +kernel
theorem dX1_altersWhatIsComeTo_6 : decode cX1_altersWhatIsComeTo 6 = .ok (.invokestatic 37, 3) := by decide +kernel
theorem dX1_altersWhatIsComeTo_9 : decode cX1_altersWhatIsComeTo 9 = .ok (.lookupswitch 85 #[(5, 43), (7, 43), (8, 43), (17, 43)], 43) := by decide +kernel
theorem dX1_altersWhatIsComeTo_52 : decode cX1_altersWhatIsComeTo 52 = .ok (.iload_n 1, 1) := by decide +kernel
theorem dX1_altersWhatIsComeTo_53 : decode cX1_altersWhatIsComeTo 53 = .ok (.invokestatic 56, 3) := by decide +kernel
theorem dX1_altersWhatIsComeTo_56 : decode cX1_altersWhatIsComeTo 56 = .ok (.ifCond .eq 32, 3) := by decide +kernel
theorem dX1_altersWhatIsComeTo_59 : decode cX1_altersWhatIsComeTo 59 = .ok (.aload_n 0, 1) := by decide +kernel
theorem dX1_altersWhatIsComeTo_60 : decode cX1_altersWhatIsComeTo 60 = .ok (.iload_n 2, 1) := by decide +kernel
theorem dX1_altersWhatIsComeTo_61 : decode cX1_altersWhatIsComeTo 61 = .ok (.bipush (-2), 2) := by decide +kernel
theorem dX1_altersWhatIsComeTo_63 : decode cX1_altersWhatIsComeTo 63 = .ok (.iand, 1) := by decide +kernel
theorem dX1_altersWhatIsComeTo_64 : decode cX1_altersWhatIsComeTo 64 = .ok (.invokevirtual 50, 3) := by decide +kernel
theorem dX1_altersWhatIsComeTo_67 : decode cX1_altersWhatIsComeTo 67 = .ok (.ifCond .ne 13, 3) := by decide +kernel
theorem dX1_altersWhatIsComeTo_70 : decode cX1_altersWhatIsComeTo 70 = .ok (.aload_n 0, 1) := by decide +kernel
theorem dX1_altersWhatIsComeTo_71 : decode cX1_altersWhatIsComeTo 71 = .ok (.iload_n 2, 1) := by decide +kernel
theorem dX1_altersWhatIsComeTo_72 : decode cX1_altersWhatIsComeTo 72 = .ok (.iconst 1, 1) := by decide +kernel
theorem dX1_altersWhatIsComeTo_73 : decode cX1_altersWhatIsComeTo 73 = .ok (.ior, 1) := by decide +kernel
theorem dX1_altersWhatIsComeTo_74 : decode cX1_altersWhatIsComeTo 74 = .ok (.invokevirtual 50, 3) := by decide +kernel
theorem dX1_altersWhatIsComeTo_77 : decode cX1_altersWhatIsComeTo 77 = .ok (.ifCond .eq 7, 3) := by decide +kernel
theorem dX1_altersWhatIsComeTo_80 : decode cX1_altersWhatIsComeTo 80 = .ok (.iconst 1, 1) := by decide +kernel
theorem dX1_altersWhatIsComeTo_81 : decode cX1_altersWhatIsComeTo 81 = .ok (.goto 12, 3) := by decide +kernel
theorem dX1_altersWhatIsComeTo_84 : decode cX1_altersWhatIsComeTo 84 = .ok (.iconst 0, 1) := by decide +kernel
theorem dX1_altersWhatIsComeTo_85 : decode cX1_altersWhatIsComeTo 85 = .ok (.goto 8, 3) := by decide +kernel
theorem dX1_altersWhatIsComeTo_88 : decode cX1_altersWhatIsComeTo 88 = .ok (.aload_n 0, 1) := by decide +kernel
theorem dX1_altersWhatIsComeTo_89 : decode cX1_altersWhatIsComeTo 89 = .ok (.iload_n 2, 1) := by decide +kernel
theorem dX1_altersWhatIsComeTo_90 : decode cX1_altersWhatIsComeTo 90 = .ok (.invokevirtual 50, 3) := by decide +kernel
theorem dX1_altersWhatIsComeTo_93 : decode cX1_altersWhatIsComeTo 93 = .ok (.ireturn, 1) := by decide +kernel
theorem dX1_altersWhatIsComeTo_94 : decode cX1_altersWhatIsComeTo 94 = .ok (.iconst 0, 1) := by decide +kernel
theorem dX1_altersWhatIsComeTo_95 : decode cX1_altersWhatIsComeTo 95 = .ok (.ireturn, 1) := by decide +kernel
theorem dX2_init_0 : decode cX2_init 0 = .ok (.aload_n 0, 1) := by decide +kernel
theorem dX2_init_1 : decode cX2_init 1 = .ok (.invokespecial 3, 3) := by decide +kernel
theorem dX2_init_4 : decode cX2_init 4 = .ok (.aload_n 0, 1) := by decide +kernel
theorem dX2_init_5 : decode cX2_init 5 = .ok (.iconst (-1), 1) := by decide +kernel
theorem dX2_init_6 : decode cX2_init 6 = .ok (.putfield 9, 3) := by decide +kernel
theorem dX2_init_9 : decode cX2_init 9 = .ok (.aload_n 0, 1) := by decide +kernel
theorem dX2_init_10 : decode cX2_init 10 = .ok (.iconst (-1), 1) := by decide +kernel
theorem dX2_init_11 : decode cX2_init 11 = .ok (.putfield 15, 3) := by decide +kernel
theorem dX2_init_14 : decode cX2_init 14 = .ok (.aload_n 0, 1) := by decide +kernel
theorem dX2_init_15 : decode cX2_init 15 = .ok (.iconst 0, 1) := by decide +kernel
theorem dX2_init_16 : decode cX2_init 16 = .ok (.putfield 18, 3) := by decide +kernel
theorem dX2_init_19 : decode cX2_init 19 = .ok (.return_, 1) := by decide +kernel
set_option maxRecDepth 20000 in
theorem ggX2_takeTape_X5_layShort : GoodIn wsX2_takeTape wsX5_layShort := goodIn_r _ [8, 9, 10, 53, 54] (by decide +kernel) (by decide +kernel)
set_option maxRecDepth 20000 in
theorem gX2_takeTape_X5_layShort : GoodIn wsX2_takeTape (wsV RX2 27 RX5 yX5_layShort wsX5_layShort) := goodIn_app (goodIn_of _ (by decide +kernel)) ggX2_takeTape_X5_layShort
set_option maxRecDepth 20000 in
theorem ggX2_takeTape_X2_takeItem : GoodIn wsX2_takeTape wsX2_takeItem := goodIn_r _ [15, 16, 17, 18, 19, 20, 21, 22, 23, 24, 25, 26, 27, 28, 29, 30, 7, 31, 9, 32, 33, 34, 14, 35, 1, 2, 4, 5, 6, 8, 10, 36, 37, 38, 39, 40, 41, 42, 46, 47, 48, 49, 50, 51, 52, 55, 56, 57, 53, 54, 43, 44, 45] (by decide +kernel) (by decide +kernel)
set_option maxRecDepth 20000 in
theorem gX2_takeTape_X2_takeItem : GoodIn wsX2_takeTape (wsV RX2 33 RX2 yX2_takeItem wsX2_takeItem) := goodIn_app (goodIn_of _ (by decide +kernel)) ggX2_takeTape_X2_takeItem
theorem dX2_takeTape_0 : decode cX2_takeTape 0 = .ok (.aload_n 0, 1) := by decide +kernel
theorem dX2_takeTape_1 : decode cX2_takeTape 1 = .ok (.bipush 64, 2) := by decide +kernel
theorem dX2_takeTape_3 : decode cX2_takeTape 3 = .ok (.putfield 9, 3) := by decide +kernel
theorem dX2_takeTape_6 : decode cX2_takeTape 6 = .ok (.aload_n 0, 1) := by decide +kernel
theorem dX2_takeTape_7 : decode cX2_takeTape 7 = .ok (.iconst 0, 1) := by decide +kernel
theorem dX2_takeTape_8 : decode cX2_takeTape 8 = .ok (.putfield 18, 3) := by decide +kernel
theorem dX2_takeTape_11 : decode cX2_takeTape 11 = .ok (.aload_n 1, 1) := by decide +kernel
theorem dX2_takeTape_12 : decode cX2_takeTape 12 = .ok (.getfield 21, 3) := by decide +kernel
theorem dX2_takeTape_15 : decode cX2_takeTape 15 = .ok (.bipush 41, 2) := by decide +kernel
theorem dX2_takeTape_17 : decode cX2_takeTape 17 = .ok (.iconst 0, 1) := by decide +kernel
theorem dX2_takeTape_18 : decode cX2_takeTape 18 = .ok (.invokevirtual 27, 3) := by decide +kernel
theorem dX2_takeTape_21 : decode cX2_takeTape 21 = .ok (.aload_n 1, 1) := by decide +kernel
theorem dX2_takeTape_22 : decode cX2_takeTape 22 = .ok (.getfield 21, 3) := by decide +kernel
theorem dX2_takeTape_25 : decode cX2_takeTape 25 = .ok (.bipush 43, 2) := by decide +kernel
theorem dX2_takeTape_27 : decode cX2_takeTape 27 = .ok (.iconst 1, 1) := by decide +kernel
theorem dX2_takeTape_28 : decode cX2_takeTape 28 = .ok (.invokevirtual 27, 3) := by decide +kernel
theorem dX2_takeTape_31 : decode cX2_takeTape 31 = .ok (.aload_n 0, 1) := by decide +kernel
theorem dX2_takeTape_32 : decode cX2_takeTape 32 = .ok (.iconst (-1), 1) := by decide +kernel
theorem dX2_takeTape_33 : decode cX2_takeTape 33 = .ok (.putfield 15, 3) := by decide +kernel
theorem dX2_takeTape_36 : decode cX2_takeTape 36 = .ok (.iconst 0, 1) := by decide +kernel
theorem dX2_takeTape_37 : decode cX2_takeTape 37 = .ok (.istore_n 2, 1) := by decide +kernel
theorem dX2_takeTape_38 : decode cX2_takeTape 38 = .ok (.iload_n 2, 1) := by decide +kernel
theorem dX2_takeTape_39 : decode cX2_takeTape 39 = .ok (.sipush 1000, 3) := by decide +kernel
theorem dX2_takeTape_42 : decode cX2_takeTape 42 = .ok (.if_icmp .gt 26, 3) := by decide +kernel
theorem dX2_takeTape_45 : decode cX2_takeTape 45 = .ok (.aload_n 0, 1) := by decide +kernel
theorem dX2_takeTape_46 : decode cX2_takeTape 46 = .ok (.getfield 15, 3) := by decide +kernel
theorem dX2_takeTape_49 : decode cX2_takeTape 49 = .ok (.iconst (-1), 1) := by decide +kernel
theorem dX2_takeTape_50 : decode cX2_takeTape 50 = .ok (.if_icmp .ne 18, 3) := by decide +kernel
theorem dX2_takeTape_53 : decode cX2_takeTape 53 = .ok (.aload_n 0, 1) := by decide +kernel
theorem dX2_takeTape_54 : decode cX2_takeTape 54 = .ok (.aload_n 0, 1) := by decide +kernel
theorem dX2_takeTape_55 : decode cX2_takeTape 55 = .ok (.aload_n 1, 1) := by decide +kernel
theorem dX2_takeTape_56 : decode cX2_takeTape 56 = .ok (.invokevirtual 33, 3) := by decide +kernel
theorem dX2_takeTape_59 : decode cX2_takeTape 59 = .ok (.putfield 15, 3) := by decide +kernel
theorem dX2_takeTape_62 : decode cX2_takeTape 62 = .ok (.iinc 2 1, 3) := by decide +kernel
theorem dX2_takeTape_65 : decode cX2_takeTape 65 = .ok (.goto (-27), 3) := by decide +kernel
theorem dX2_takeTape_68 : decode cX2_takeTape 68 = .ok (.aload_n 0, 1) := by decide +kernel
theorem dX2_takeTape_69 : decode cX2_takeTape 69 = .ok (.getfield 18, 3) := by decide +kernel
theorem dX2_takeTape_72 : decode cX2_takeTape 72 = .ok (.ireturn, 1) := by decide +kernel
set_option maxRecDepth 20000 in
theorem ggX2_takeItem_X7_take : GoodIn wsX2_takeItem wsX7_take := goodIn_r _ [5, 6, 7, 8, 9, 10, 4, 11, 12, 45, 46, 47] (by decide +kernel) (by decide +kernel)
set_option maxRecDepth 20000 in
theorem gX2_takeItem_X7_take : GoodIn wsX2_takeItem (wsV RX2 41 RX7 yX7_take wsX7_take) := goodIn_app (goodIn_of _ (by decide +kernel)) ggX2_takeItem_X7_take
set_option maxRecDepth 20000 in
theorem ggX2_takeItem_X5_shortAt : GoodIn wsX2_takeItem wsX5_shortAt := goodIn_r _ [17, 18, 48, 49] (by decide +kernel) (by decide +kernel)
set_option maxRecDepth 20000 in
theorem gX2_takeItem_X5_shortAt : GoodIn wsX2_takeItem (wsV RX2 47 RX5 yX5_shortAt wsX5_shortAt) := goodIn_app (goodIn_of _ (by decide +kernel)) ggX2_takeItem_X5_shortAt
set_option maxRecDepth 20000 in
theorem ggX2_takeItem_X2_layAtPlace : GoodIn wsX2_takeItem wsX2_layAtPlace := goodIn_r _ [23, 24, 25, 26, 27, 28, 16, 29, 18, 30, 31, 32, 33, 38, 39, 40, 41, 42, 43, 44, 50, 51, 52, 48, 49] (by decide +kernel) (by decide +kernel)
set_option maxRecDepth 20000 in
theorem gX2_takeItem_X2_layAtPlace : GoodIn wsX2_takeItem (wsV RX2 51 RX2 yX2_layAtPlace wsX2_layAtPlace) := goodIn_app (goodIn_of _ (by decide +kernel)) ggX2_takeItem_X2_layAtPlace
set_option maxRecDepth 20000 in
theorem ggX2_takeItem_X2_control : GoodIn wsX2_takeItem wsX2_control := goodIn_r _ [37, 24, 26, 27, 28, 16, 29, 18, 30, 50, 51, 52, 38, 39, 40, 41, 42, 43, 44, 48, 49] (by decide +kernel) (by decide +kernel)
set_option maxRecDepth 20000 in
theorem gX2_takeItem_X2_control : GoodIn wsX2_takeItem (wsV RX2 55 RX2 yX2_control wsX2_control) := goodIn_app (goodIn_of _ (by decide +kernel)) ggX2_takeItem_X2_control
theorem dX2_takeItem_0 : decode cX2_takeItem 0 = .ok (.aload_n 1, 1) := by decide +kernel
theorem dX2_takeItem_1 : decode cX2_takeItem 1 = .ok (.getfield 37, 3) := by decide +kernel
theorem dX2_takeItem_4 : decode cX2_takeItem 4 = .ok (.invokevirtual 41, 3) := by decide +kernel
theorem dX2_takeItem_7 : decode cX2_takeItem 7 = .ok (.istore_n 2, 1) := by decide +kernel
theorem dX2_takeItem_8 : decode cX2_takeItem 8 = .ok (.iload_n 2, 1) := by decide +kernel
theorem dX2_takeItem_9 : decode cX2_takeItem 9 = .ok (.iconst (-1), 1) := by decide +kernel
theorem dX2_takeItem_10 : decode cX2_takeItem 10 = .ok (.if_icmp .ne 5, 3) := by decide +kernel
theorem dX2_takeItem_13 : decode cX2_takeItem 13 = .ok (.iconst 1, 1) := by decide +kernel
theorem dX2_takeItem_14 : decode cX2_takeItem 14 = .ok (.ireturn, 1) := by decide +kernel
theorem dX2_takeItem_15 : decode cX2_takeItem 15 = .ok (.iload_n 2, 1) := by decide +kernel
theorem dX2_takeItem_16 : decode cX2_takeItem 16 = .ok (.bipush 16, 2) := by decide +kernel
theorem dX2_takeItem_18 : decode cX2_takeItem 18 = .ok (.if_icmp .ne 5, 3) := by decide +kernel
theorem dX2_takeItem_21 : decode cX2_takeItem 21 = .ok (.iconst (-1), 1) := by decide +kernel
theorem dX2_takeItem_22 : decode cX2_takeItem 22 = .ok (.ireturn, 1) := by decide +kernel
theorem dX2_takeItem_23 : decode cX2_takeItem 23 = .ok (.iconst 0, 1) := by decide +kernel
theorem dX2_takeItem_24 : decode cX2_takeItem 24 = .ok (.istore_n 3, 1) := by decide +kernel
theorem dX2_takeItem_25 : decode cX2_takeItem 25 = .ok (.aload_n 1, 1) := by decide +kernel
theorem dX2_takeItem_26 : decode cX2_takeItem 26 = .ok (.getfield 37, 3) := by decide +kernel
theorem dX2_takeItem_29 : decode cX2_takeItem 29 = .ok (.invokevirtual 41, 3) := by decide +kernel
theorem dX2_takeItem_32 : decode cX2_takeItem 32 = .ok (.istore 4, 2) := by decide +kernel
theorem dX2_takeItem_34 : decode cX2_takeItem 34 = .ok (.iconst 0, 1) := by decide +kernel
theorem dX2_takeItem_35 : decode cX2_takeItem 35 = .ok (.istore 5, 2) := by decide +kernel
theorem dX2_takeItem_37 : decode cX2_takeItem 37 = .ok (.iload 5, 2) := by decide +kernel
theorem dX2_takeItem_39 : decode cX2_takeItem 39 = .ok (.sipush 1000, 3) := by decide +kernel
theorem dX2_takeItem_42 : decode cX2_takeItem 42 = .ok (.if_icmp .ge 42, 3) := by decide +kernel
theorem dX2_takeItem_45 : decode cX2_takeItem 45 = .ok (.iload 4, 2) := by decide +kernel
theorem dX2_takeItem_47 : decode cX2_takeItem 47 = .ok (.ifCond .lt 37, 3) := by decide +kernel
theorem dX2_takeItem_50 : decode cX2_takeItem 50 = .ok (.iload 4, 2) := by decide +kernel
theorem dX2_takeItem_52 : decode cX2_takeItem 52 = .ok (.bipush 9, 2) := by decide +kernel
theorem dX2_takeItem_54 : decode cX2_takeItem 54 = .ok (.if_icmp .gt 30, 3) := by decide +kernel
theorem dX2_takeItem_57 : decode cX2_takeItem 57 = .ok (.bipush 10, 2) := by decide +kernel
theorem dX2_takeItem_59 : decode cX2_takeItem 59 = .ok (.iload_n 3, 1) := by decide +kernel
theorem dX2_takeItem_60 : decode cX2_takeItem 60 = .ok (.imul, 1) := by decide +kernel
theorem dX2_takeItem_61 : decode cX2_takeItem 61 = .ok (.iload 4, 2) := by decide +kernel
theorem dX2_takeItem_63 : decode cX2_takeItem 63 = .ok (.iadd, 1) := by decide +kernel
theorem dX2_takeItem_64 : decode cX2_takeItem 64 = .ok (.sipush 1023, 3) := by decide +kernel
theorem dX2_takeItem_67 : decode cX2_takeItem 67 = .ok (.iand, 1) := by decide +kernel
theorem dX2_takeItem_68 : decode cX2_takeItem 68 = .ok (.istore_n 3, 1) := by decide +kernel
theorem dX2_takeItem_69 : decode cX2_takeItem 69 = .ok (.aload_n 1, 1) := by decide +kernel
theorem dX2_takeItem_70 : decode cX2_takeItem 70 = .ok (.getfield 37, 3) := by decide +kernel
theorem dX2_takeItem_73 : decode cX2_takeItem 73 = .ok (.invokevirtual 41, 3) := by decide +kernel
theorem dX2_takeItem_76 : decode cX2_takeItem 76 = .ok (.istore 4, 2) := by decide +kernel
theorem dX2_takeItem_78 : decode cX2_takeItem 78 = .ok (.iinc 5 1, 3) := by decide +kernel
theorem dX2_takeItem_81 : decode cX2_takeItem 81 = .ok (.goto (-44), 3) := by decide +kernel
theorem dX2_takeItem_84 : decode cX2_takeItem 84 = .ok (.iload 4, 2) := by decide +kernel
theorem dX2_takeItem_86 : decode cX2_takeItem 86 = .ok (.iconst (-1), 1) := by decide +kernel
theorem dX2_takeItem_87 : decode cX2_takeItem 87 = .ok (.if_icmp .ne 5, 3) := by decide +kernel
theorem dX2_takeItem_90 : decode cX2_takeItem 90 = .ok (.iconst 2, 1) := by decide +kernel
theorem dX2_takeItem_91 : decode cX2_takeItem 91 = .ok (.ireturn, 1) := by decide +kernel
theorem dX2_takeItem_92 : decode cX2_takeItem 92 = .ok (.iload 4, 2) := by decide +kernel
theorem dX2_takeItem_94 : decode cX2_takeItem 94 = .ok (.bipush 17, 2) := by decide +kernel
theorem dX2_takeItem_96 : decode cX2_takeItem 96 = .ok (.if_icmp .lt 32, 3) := by decide +kernel
theorem dX2_takeItem_99 : decode cX2_takeItem 99 = .ok (.aload_n 0, 1) := by decide +kernel
theorem dX2_takeItem_100 : decode cX2_takeItem 100 = .ok (.aload_n 1, 1) := by decide +kernel
theorem dX2_takeItem_101 : decode cX2_takeItem 101 = .ok (.sipush 4096, 3) := by decide +kernel
theorem dX2_takeItem_104 : decode cX2_takeItem 104 = .ok (.iload_n 2, 1) := by decide +kernel
theorem dX2_takeItem_105 : decode cX2_takeItem 105 = .ok (.imul, 1) := by decide +kernel
theorem dX2_takeItem_106 : decode cX2_takeItem 106 = .ok (.iconst 2, 1) := by decide +kernel
theorem dX2_takeItem_107 : decode cX2_takeItem 107 = .ok (.iload_n 3, 1) := by decide +kernel
theorem dX2_takeItem_108 : decode cX2_takeItem 108 = .ok (.imul, 1) := by decide +kernel
theorem dX2_takeItem_109 : decode cX2_takeItem 109 = .ok (.iadd, 1) := by decide +kernel
theorem dX2_takeItem_110 : decode cX2_takeItem 110 = .ok (.aload_n 1, 1) := by decide +kernel
theorem dX2_takeItem_111 : decode cX2_takeItem 111 = .ok (.getfield 21, 3) := by decide +kernel
theorem dX2_takeItem_114 : decode cX2_takeItem 114 = .ok (.bipush 24, 2) := by decide +kernel
theorem dX2_takeItem_116 : decode cX2_takeItem 116 = .ok (.iload 4, 2) := by decide +kernel
theorem dX2_takeItem_118 : decode cX2_takeItem 118 = .ok (.iadd, 1) := by decide +kernel
theorem dX2_takeItem_119 : decode cX2_takeItem 119 = .ok (.invokevirtual 47, 3) := by decide +kernel
theorem dX2_takeItem_122 : decode cX2_takeItem 122 = .ok (.iadd, 1) := by decide +kernel
theorem dX2_takeItem_123 : decode cX2_takeItem 123 = .ok (.invokevirtual 51, 3) := by decide +kernel
theorem dX2_takeItem_126 : decode cX2_takeItem 126 = .ok (.iconst (-1), 1) := by decide +kernel
theorem dX2_takeItem_127 : decode cX2_takeItem 127 = .ok (.ireturn, 1) := by decide +kernel
theorem dX2_takeItem_128 : decode cX2_takeItem 128 = .ok (.iload 4, 2) := by decide +kernel
theorem dX2_takeItem_130 : decode cX2_takeItem 130 = .ok (.bipush 14, 2) := by decide +kernel
theorem dX2_takeItem_132 : decode cX2_takeItem 132 = .ok (.if_icmp .ne 13, 3) := by decide +kernel
theorem dX2_takeItem_135 : decode cX2_takeItem 135 = .ok (.aload_n 0, 1) := by decide +kernel
theorem dX2_takeItem_136 : decode cX2_takeItem 136 = .ok (.aload_n 1, 1) := by decide +kernel
theorem dX2_takeItem_137 : decode cX2_takeItem 137 = .ok (.iload_n 2, 1) := by decide +kernel
theorem dX2_takeItem_138 : decode cX2_takeItem 138 = .ok (.iload_n 3, 1) := by decide +kernel
theorem dX2_takeItem_139 : decode cX2_takeItem 139 = .ok (.invokevirtual 55, 3) := by decide +kernel
theorem dX2_takeItem_142 : decode cX2_takeItem 142 = .ok (.goto 4, 3) := by decide +kernel
theorem dX2_takeItem_145 : decode cX2_takeItem 145 = .ok (.iconst 3, 1) := by decide +kernel
theorem dX2_takeItem_146 : decode cX2_takeItem 146 = .ok (.ireturn, 1) := by decide +kernel
set_option maxRecDepth 20000 in
theorem ggX2_layAtPlace_X5_layShort : GoodIn wsX2_layAtPlace wsX5_layShort := goodIn_r _ [7, 8, 9, 23, 24] (by decide +kernel) (by decide +kernel)
set_option maxRecDepth 20000 in
theorem gX2_layAtPlace_X5_layShort : GoodIn wsX2_layAtPlace (wsV RX2 27 RX5 yX5_layShort wsX5_layShort) := goodIn_app (goodIn_of _ (by decide +kernel)) ggX2_layAtPlace_X5_layShort
set_option maxRecDepth 20000 in
theorem ggX2_layAtPlace_X9_behind : GoodIn wsX2_layAtPlace wsX9_behind := goodIn_r _ [12] (by decide +kernel) (by decide +kernel)
set_option maxRecDepth 20000 in
theorem gX2_layAtPlace_X9_behind_n59 : GoodIn wsX2_layAtPlace (wsX9_behind) := ggX2_layAtPlace_X9_behind
theorem dX2_layAtPlace_0 : decode cX2_layAtPlace 0 = .ok (.aload_n 1, 1) := by decide +kernel
theorem dX2_layAtPlace_1 : decode cX2_layAtPlace 1 = .ok (.getfield 21, 3) := by decide +kernel
theorem dX2_layAtPlace_4 : decode cX2_layAtPlace 4 = .ok (.aload_n 0, 1) := by decide +kernel
theorem dX2_layAtPlace_5 : decode cX2_layAtPlace 5 = .ok (.getfield 9, 3) := by decide +kernel
theorem dX2_layAtPlace_8 : decode cX2_layAtPlace 8 = .ok (.iload_n 2, 1) := by decide +kernel
theorem dX2_layAtPlace_9 : decode cX2_layAtPlace 9 = .ok (.invokevirtual 27, 3) := by decide +kernel
theorem dX2_layAtPlace_12 : decode cX2_layAtPlace 12 = .ok (.aload_n 0, 1) := by decide +kernel
theorem dX2_layAtPlace_13 : decode cX2_layAtPlace 13 = .ok (.aload_n 0, 1) := by decide +kernel
theorem dX2_layAtPlace_14 : decode cX2_layAtPlace 14 = .ok (.getfield 9, 3) := by decide +kernel
theorem dX2_layAtPlace_17 : decode cX2_layAtPlace 17 = .ok (.invokestatic 59, 3) := by decide +kernel
theorem dX2_layAtPlace_20 : decode cX2_layAtPlace 20 = .ok (.putfield 9, 3) := by decide +kernel
theorem dX2_layAtPlace_23 : decode cX2_layAtPlace 23 = .ok (.aload_n 0, 1) := by decide +kernel
theorem dX2_layAtPlace_24 : decode cX2_layAtPlace 24 = .ok (.dup, 1) := by decide +kernel
theorem dX2_layAtPlace_25 : decode cX2_layAtPlace 25 = .ok (.getfield 18, 3) := by decide +kernel
theorem dX2_layAtPlace_28 : decode cX2_layAtPlace 28 = .ok (.iconst 1, 1) := by decide +kernel
theorem dX2_layAtPlace_29 : decode cX2_layAtPlace 29 = .ok (.iadd, 1) := by decide +kernel
theorem dX2_layAtPlace_30 : decode cX2_layAtPlace 30 = .ok (.putfield 18, 3) := by decide +kernel
theorem dX2_layAtPlace_33 : decode cX2_layAtPlace 33 = .ok (.return_, 1) := by decide +kernel
set_option maxRecDepth 20000 in
theorem ggX2_control_X5_layShort : GoodIn wsX2_control wsX5_layShort := goodIn_r _ [6, 7, 8, 19, 20] (by decide +kernel) (by decide +kernel)
set_option maxRecDepth 20000 in
theorem gX2_control_X5_layShort : GoodIn wsX2_control (wsV RX2 27 RX5 yX5_layShort wsX5_layShort) := goodIn_app (goodIn_of _ (by decide +kernel)) ggX2_control_X5_layShort
theorem dX2_control_0 : decode cX2_control 0 = .ok (.iload_n 2, 1) := by decide +kernel
theorem dX2_control_1 : decode cX2_control 1 = .ok (.lookupswitch 74 #[(3, 63), (5, 35), (27, 46)], 35) := by decide +kernel
theorem dX2_control_36 : decode cX2_control 36 = .ok (.aload_n 0, 1) := by decide +kernel
theorem dX2_control_37 : decode cX2_control 37 = .ok (.iload_n 3, 1) := by decide +kernel
theorem dX2_control_38 : decode cX2_control 38 = .ok (.sipush 255, 3) := by decide +kernel
theorem dX2_control_41 : decode cX2_control 41 = .ok (.iand, 1) := by decide +kernel
theorem dX2_control_42 : decode cX2_control 42 = .ok (.putfield 9, 3) := by decide +kernel
theorem dX2_control_45 : decode cX2_control 45 = .ok (.iconst (-1), 1) := by decide +kernel
theorem dX2_control_46 : decode cX2_control 46 = .ok (.ireturn, 1) := by decide +kernel
theorem dX2_control_47 : decode cX2_control 47 = .ok (.aload_n 1, 1) := by decide +kernel
theorem dX2_control_48 : decode cX2_control 48 = .ok (.getfield 21, 3) := by decide +kernel
theorem dX2_control_51 : decode cX2_control 51 = .ok (.bipush 42, 2) := by decide +kernel
theorem dX2_control_53 : decode cX2_control 53 = .ok (.iconst 2, 1) := by decide +kernel
theorem dX2_control_54 : decode cX2_control 54 = .ok (.aload_n 0, 1) := by decide +kernel
theorem dX2_control_55 : decode cX2_control 55 = .ok (.getfield 9, 3) := by decide +kernel
theorem dX2_control_58 : decode cX2_control 58 = .ok (.imul, 1) := by decide +kernel
theorem dX2_control_59 : decode cX2_control 59 = .ok (.invokevirtual 27, 3) := by decide +kernel
theorem dX2_control_62 : decode cX2_control 62 = .ok (.iconst (-1), 1) := by decide +kernel
theorem dX2_control_63 : decode cX2_control 63 = .ok (.ireturn, 1) := by decide +kernel
theorem dX2_control_64 : decode cX2_control 64 = .ok (.aload_n 1, 1) := by decide +kernel
theorem dX2_control_65 : decode cX2_control 65 = .ok (.iload_n 3, 1) := by decide +kernel
theorem dX2_control_66 : decode cX2_control 66 = .ok (.sipush 255, 3) := by decide +kernel
theorem dX2_control_69 : decode cX2_control 69 = .ok (.iand, 1) := by decide +kernel
theorem dX2_control_70 : decode cX2_control 70 = .ok (.putfield 62, 3) := by decide +kernel
theorem dX2_control_73 : decode cX2_control 73 = .ok (.iconst 0, 1) := by decide +kernel
theorem dX2_control_74 : decode cX2_control 74 = .ok (.ireturn, 1) := by decide +kernel
theorem dX2_control_75 : decode cX2_control 75 = .ok (.iconst 3, 1) := by decide +kernel
theorem dX2_control_76 : decode cX2_control 76 = .ok (.ireturn, 1) := by decide +kernel
set_option maxRecDepth 20000 in
theorem ggX3_init_X5_init : GoodIn wsX3_init wsX5_init := goodIn_r _ [25, 26, 2, 3, 20, 27, 28, 48, 49] (by decide +kernel) (by decide +kernel)
set_option maxRecDepth 20000 in
theorem gX3_init_X5_init_n11 : GoodIn wsX3_init (wsX5_init) := ggX3_init_X5_init
set_option maxRecDepth 20000 in
theorem ggX3_init_X0_init : GoodIn wsX3_init wsX0_init := goodIn_r _ [30, 31, 2, 3, 32, 33, 57, 58] (by decide +kernel) (by decide +kernel)
set_option maxRecDepth 20000 in
theorem gX3_init_X0_init_n20 : GoodIn wsX3_init (wsX0_init) := ggX3_init_X0_init
set_option maxRecDepth 20000 in
theorem ggX3_init_X7_init : GoodIn wsX3_init wsX7_init := goodIn_r _ [35, 36, 2, 3, 37, 38, 39, 40, 59, 60, 61] (by decide +kernel) (by decide +kernel)
set_option maxRecDepth 20000 in
theorem gX3_init_X7_init_n27 : GoodIn wsX3_init (wsX7_init) := ggX3_init_X7_init
set_option maxRecDepth 20000 in
theorem ggX3_init_X6_init : GoodIn wsX3_init wsX6_init := goodIn_r _ [42, 43, 2, 3, 37, 44, 45, 46, 47, 62, 63, 64, 65] (by decide +kernel) (by decide +kernel)
set_option maxRecDepth 20000 in
theorem gX3_init_X6_init_n34 : GoodIn wsX3_init (wsX6_init) := ggX3_init_X6_init
theorem dX3_init_0 : decode cX3_init 0 = .ok (.aload_n 0, 1) := by decide +kernel
theorem dX3_init_1 : decode cX3_init 1 = .ok (.invokespecial 3, 3) := by decide +kernel
theorem dX3_init_4 : decode cX3_init 4 = .ok (.aload_n 0, 1) := by decide +kernel
theorem dX3_init_5 : decode cX3_init 5 = .ok (.new 9, 3) := by decide +kernel
theorem dX3_init_8 : decode cX3_init 8 = .ok (.dup, 1) := by decide +kernel
theorem dX3_init_9 : decode cX3_init 9 = .ok (.invokespecial 11, 3) := by decide +kernel
theorem dX3_init_12 : decode cX3_init 12 = .ok (.putfield 12, 3) := by decide +kernel
theorem dX3_init_15 : decode cX3_init 15 = .ok (.aload_n 0, 1) := by decide +kernel
theorem dX3_init_16 : decode cX3_init 16 = .ok (.new 18, 3) := by decide +kernel
theorem dX3_init_19 : decode cX3_init 19 = .ok (.dup, 1) := by decide +kernel
theorem dX3_init_20 : decode cX3_init 20 = .ok (.invokespecial 20, 3) := by decide +kernel
theorem dX3_init_23 : decode cX3_init 23 = .ok (.putfield 21, 3) := by decide +kernel
theorem dX3_init_26 : decode cX3_init 26 = .ok (.aload_n 0, 1) := by decide +kernel
theorem dX3_init_27 : decode cX3_init 27 = .ok (.new 25, 3) := by decide +kernel
theorem dX3_init_30 : decode cX3_init 30 = .ok (.dup, 1) := by decide +kernel
theorem dX3_init_31 : decode cX3_init 31 = .ok (.invokespecial 27, 3) := by decide +kernel
theorem dX3_init_34 : decode cX3_init 34 = .ok (.putfield 28, 3) := by decide +kernel
theorem dX3_init_37 : decode cX3_init 37 = .ok (.aload_n 0, 1) := by decide +kernel
theorem dX3_init_38 : decode cX3_init 38 = .ok (.new 32, 3) := by decide +kernel
theorem dX3_init_41 : decode cX3_init 41 = .ok (.dup, 1) := by decide +kernel
theorem dX3_init_42 : decode cX3_init 42 = .ok (.invokespecial 34, 3) := by decide +kernel
theorem dX3_init_45 : decode cX3_init 45 = .ok (.putfield 35, 3) := by decide +kernel
theorem dX3_init_48 : decode cX3_init 48 = .ok (.aload_n 0, 1) := by decide +kernel
theorem dX3_init_49 : decode cX3_init 49 = .ok (.bipush 32, 2) := by decide +kernel
theorem dX3_init_51 : decode cX3_init 51 = .ok (.newarray .int, 2) := by decide +kernel
theorem dX3_init_53 : decode cX3_init 53 = .ok (.putfield 39, 3) := by decide +kernel
theorem dX3_init_56 : decode cX3_init 56 = .ok (.aload_n 0, 1) := by decide +kernel
theorem dX3_init_57 : decode cX3_init 57 = .ok (.lconst 0, 1) := by decide +kernel
theorem dX3_init_58 : decode cX3_init 58 = .ok (.putfield 43, 3) := by decide +kernel
theorem dX3_init_61 : decode cX3_init 61 = .ok (.aload_n 0, 1) := by decide +kernel
theorem dX3_init_62 : decode cX3_init 62 = .ok (.iconst 0, 1) := by decide +kernel
theorem dX3_init_63 : decode cX3_init 63 = .ok (.putfield 47, 3) := by decide +kernel
theorem dX3_init_66 : decode cX3_init 66 = .ok (.return_, 1) := by decide +kernel
set_option maxRecDepth 20000 in
theorem ggX3_orderAhead_X5_shortAt : GoodIn wsX3_orderAhead wsX5_shortAt := goodIn_r _ [7, 8, 16, 17] (by decide +kernel) (by decide +kernel)
set_option maxRecDepth 20000 in
theorem gX3_orderAhead_X5_shortAt : GoodIn wsX3_orderAhead (wsV RX3 51 RX5 yX5_shortAt wsX5_shortAt) := goodIn_app (goodIn_of _ (by decide +kernel)) ggX3_orderAhead_X5_shortAt
