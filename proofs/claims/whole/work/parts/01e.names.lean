theorem dX9_store_20 : decode cX9_store 20 = .ok (.bipush (-3), 2) := by decide +kernel
theorem dX9_store_22 : decode cX9_store 22 = .ok (.ireturn, 1) := by decide +kernel
theorem dX9_store_23 : decode cX9_store 23 = .ok (.aload_n 0, 1) := by decide +kernel
theorem dX9_store_24 : decode cX9_store 24 = .ok (.getfield 10, 3) := by decide +kernel
theorem dX9_store_27 : decode cX9_store 27 = .ok (.getfield 60, 3) := by decide +kernel
theorem dX9_store_30 : decode cX9_store 30 = .ok (.iload_n 1, 1) := by decide +kernel
theorem dX9_store_31 : decode cX9_store 31 = .ok (.iload_n 2, 1) := by decide +kernel
theorem dX9_store_32 : decode cX9_store 32 = .ok (.invokevirtual 64, 3) := by decide +kernel
theorem dX9_store_35 : decode cX9_store 35 = .ok (.aload_n 0, 1) := by decide +kernel
theorem dX9_store_36 : decode cX9_store 36 = .ok (.getfield 22, 3) := by decide +kernel
theorem dX9_store_39 : decode cX9_store 39 = .ok (.invokevirtual 70, 3) := by decide +kernel
theorem dX9_store_42 : decode cX9_store 42 = .ok (.iconst 1, 1) := by decide +kernel
theorem dX9_store_43 : decode cX9_store 43 = .ok (.ireturn, 1) := by decide +kernel
set_option maxRecDepth 20000 in
theorem ggX9_storeLong_X9_isAddress : GoodIn wsX9_storeLong wsX9_isAddress := goodIn_r _ [7] (by decide +kernel) (by decide +kernel)
set_option maxRecDepth 20000 in
theorem gX9_storeLong_X9_isAddress : GoodIn wsX9_storeLong (va_wsS RX9 55 yX9_isAddress wsX9_isAddress) := goodIn_app (goodIn_of _ (by decide +kernel)) ggX9_storeLong_X9_isAddress
set_option maxRecDepth 20000 in
theorem ggX9_storeLong_X5_layLong : GoodIn wsX9_storeLong wsX5_layLong := goodIn_r _ [12, 13, 14, 15, 16, 11, 17, 18, 19, 41, 42] (by decide +kernel) (by decide +kernel)
set_option maxRecDepth 20000 in
theorem gX9_storeLong_X5_layLong : GoodIn wsX9_storeLong (wsV RX9 75 RX5 yX5_layLong wsX5_layLong) := goodIn_app (goodIn_of _ (by decide +kernel)) ggX9_storeLong_X5_layLong
set_option maxRecDepth 20000 in
theorem ggX9_storeLong_X8_forget : GoodIn wsX9_storeLong wsX8_forget := goodIn_r _ [24, 25, 43, 44, 45, 46, 47, 48, 49, 50, 51, 52, 53, 54] (by decide +kernel) (by decide +kernel)
set_option maxRecDepth 20000 in
theorem gX9_storeLong_X8_forget : GoodIn wsX9_storeLong (wsV RX9 70 RX8 yX8_forget wsX8_forget) := goodIn_app (goodIn_of _ (by decide +kernel)) ggX9_storeLong_X8_forget
theorem dX9_storeLong_0 : decode cX9_storeLong 0 = .ok (.iload_n 1, 1) := by decide +kernel
theorem dX9_storeLong_1 : decode cX9_storeLong 1 = .ok (.invokestatic 55, 3) := by decide +kernel
theorem dX9_storeLong_4 : decode cX9_storeLong 4 = .ok (.ifCond .ne 6, 3) := by decide +kernel
theorem dX9_storeLong_7 : decode cX9_storeLong 7 = .ok (.bipush (-2), 2) := by decide +kernel
theorem dX9_storeLong_9 : decode cX9_storeLong 9 = .ok (.ireturn, 1) := by decide +kernel
theorem dX9_storeLong_10 : decode cX9_storeLong 10 = .ok (.lload_n 2, 1) := by decide +kernel
theorem dX9_storeLong_11 : decode cX9_storeLong 11 = .ok (.lconst 0, 1) := by decide +kernel
theorem dX9_storeLong_12 : decode cX9_storeLong 12 = .ok (.lcmp, 1) := by decide +kernel
theorem dX9_storeLong_13 : decode cX9_storeLong 13 = .ok (.ifCond .lt 11, 3) := by decide +kernel
theorem dX9_storeLong_16 : decode cX9_storeLong 16 = .ok (.lload_n 2, 1) := by decide +kernel
theorem dX9_storeLong_17 : decode cX9_storeLong 17 = .ok (.ldc2_w 73, 3) := by decide +kernel
theorem dX9_storeLong_20 : decode cX9_storeLong 20 = .ok (.lcmp, 1) := by decide +kernel
theorem dX9_storeLong_21 : decode cX9_storeLong 21 = .ok (.ifCond .le 6, 3) := by decide +kernel
theorem dX9_storeLong_24 : decode cX9_storeLong 24 = .ok (.bipush (-3), 2) := by decide +kernel
theorem dX9_storeLong_26 : decode cX9_storeLong 26 = .ok (.ireturn, 1) := by decide +kernel
theorem dX9_storeLong_27 : decode cX9_storeLong 27 = .ok (.aload_n 0, 1) := by decide +kernel
theorem dX9_storeLong_28 : decode cX9_storeLong 28 = .ok (.getfield 10, 3) := by decide +kernel
theorem dX9_storeLong_31 : decode cX9_storeLong 31 = .ok (.getfield 60, 3) := by decide +kernel
theorem dX9_storeLong_34 : decode cX9_storeLong 34 = .ok (.iload_n 1, 1) := by decide +kernel
theorem dX9_storeLong_35 : decode cX9_storeLong 35 = .ok (.lload_n 2, 1) := by decide +kernel
theorem dX9_storeLong_36 : decode cX9_storeLong 36 = .ok (.invokevirtual 75, 3) := by decide +kernel
theorem dX9_storeLong_39 : decode cX9_storeLong 39 = .ok (.aload_n 0, 1) := by decide +kernel
theorem dX9_storeLong_40 : decode cX9_storeLong 40 = .ok (.getfield 22, 3) := by decide +kernel
theorem dX9_storeLong_43 : decode cX9_storeLong 43 = .ok (.invokevirtual 70, 3) := by decide +kernel
theorem dX9_storeLong_46 : decode cX9_storeLong 46 = .ok (.iconst 1, 1) := by decide +kernel
theorem dX9_storeLong_47 : decode cX9_storeLong 47 = .ok (.ireturn, 1) := by decide +kernel
set_option maxRecDepth 20000 in
theorem ggX9_word_X9_isAddress : GoodIn wsX9_word wsX9_isAddress := goodIn_r _ [5] (by decide +kernel) (by decide +kernel)
set_option maxRecDepth 20000 in
theorem gX9_word_X9_isAddress : GoodIn wsX9_word (va_wsS RX9 55 yX9_isAddress wsX9_isAddress) := goodIn_app (goodIn_of _ (by decide +kernel)) ggX9_word_X9_isAddress
set_option maxRecDepth 20000 in
theorem ggX9_word_X5_shortAt : GoodIn wsX9_word wsX5_shortAt := goodIn_r _ [10, 11, 27, 28] (by decide +kernel) (by decide +kernel)
set_option maxRecDepth 20000 in
theorem gX9_word_X5_shortAt : GoodIn wsX9_word (wsV RX9 79 RX5 yX5_shortAt wsX5_shortAt) := goodIn_app (goodIn_of _ (by decide +kernel)) ggX9_word_X5_shortAt
theorem dX9_word_0 : decode cX9_word 0 = .ok (.iload_n 1, 1) := by decide +kernel
theorem dX9_word_1 : decode cX9_word 1 = .ok (.invokestatic 55, 3) := by decide +kernel
theorem dX9_word_4 : decode cX9_word 4 = .ok (.ifCond .eq 17, 3) := by decide +kernel
theorem dX9_word_7 : decode cX9_word 7 = .ok (.aload_n 0, 1) := by decide +kernel
theorem dX9_word_8 : decode cX9_word 8 = .ok (.getfield 10, 3) := by decide +kernel
theorem dX9_word_11 : decode cX9_word 11 = .ok (.getfield 60, 3) := by decide +kernel
theorem dX9_word_14 : decode cX9_word 14 = .ok (.iload_n 1, 1) := by decide +kernel
theorem dX9_word_15 : decode cX9_word 15 = .ok (.invokevirtual 79, 3) := by decide +kernel
theorem dX9_word_18 : decode cX9_word 18 = .ok (.goto 5, 3) := by decide +kernel
theorem dX9_word_21 : decode cX9_word 21 = .ok (.bipush (-2), 2) := by decide +kernel
theorem dX9_word_23 : decode cX9_word 23 = .ok (.ireturn, 1) := by decide +kernel
set_option maxRecDepth 20000 in
theorem ggX9_wordLong_X9_isAddress : GoodIn wsX9_wordLong wsX9_isAddress := goodIn_r _ [6] (by decide +kernel) (by decide +kernel)
set_option maxRecDepth 20000 in
theorem gX9_wordLong_X9_isAddress : GoodIn wsX9_wordLong (va_wsS RX9 55 yX9_isAddress wsX9_isAddress) := goodIn_app (goodIn_of _ (by decide +kernel)) ggX9_wordLong_X9_isAddress
set_option maxRecDepth 20000 in
theorem ggX9_wordLong_X5_longAt : GoodIn wsX9_wordLong wsX5_longAt := goodIn_r _ [11, 12, 13, 14, 15, 10, 16, 17, 36, 37] (by decide +kernel) (by decide +kernel)
set_option maxRecDepth 20000 in
theorem gX9_wordLong_X5_longAt : GoodIn wsX9_wordLong (wsV RX9 83 RX5 yX5_longAt wsX5_longAt) := goodIn_app (goodIn_of _ (by decide +kernel)) ggX9_wordLong_X5_longAt
set_option maxRecDepth 20000 in
theorem ggX9_wordLong_X9_signedLong : GoodIn wsX9_wordLong wsX9_signedLong := goodIn_r _ [20] (by decide +kernel) (by decide +kernel)
set_option maxRecDepth 20000 in
theorem gX9_wordLong_X9_signedLong : GoodIn wsX9_wordLong (va_wsS RX9 87 yX9_signedLong wsX9_signedLong) := goodIn_app (goodIn_of _ (by decide +kernel)) ggX9_wordLong_X9_signedLong
theorem dX9_wordLong_0 : decode cX9_wordLong 0 = .ok (.iload_n 1, 1) := by decide +kernel
theorem dX9_wordLong_1 : decode cX9_wordLong 1 = .ok (.invokestatic 55, 3) := by decide +kernel
theorem dX9_wordLong_4 : decode cX9_wordLong 4 = .ok (.ifCond .eq 20, 3) := by decide +kernel
theorem dX9_wordLong_7 : decode cX9_wordLong 7 = .ok (.aload_n 0, 1) := by decide +kernel
theorem dX9_wordLong_8 : decode cX9_wordLong 8 = .ok (.getfield 10, 3) := by decide +kernel
theorem dX9_wordLong_11 : decode cX9_wordLong 11 = .ok (.getfield 60, 3) := by decide +kernel
theorem dX9_wordLong_14 : decode cX9_wordLong 14 = .ok (.iload_n 1, 1) := by decide +kernel
theorem dX9_wordLong_15 : decode cX9_wordLong 15 = .ok (.invokevirtual 83, 3) := by decide +kernel
theorem dX9_wordLong_18 : decode cX9_wordLong 18 = .ok (.invokestatic 87, 3) := by decide +kernel
theorem dX9_wordLong_21 : decode cX9_wordLong 21 = .ok (.goto 6, 3) := by decide +kernel
theorem dX9_wordLong_24 : decode cX9_wordLong 24 = .ok (.ldc2_w 91, 3) := by decide +kernel
theorem dX9_wordLong_27 : decode cX9_wordLong 27 = .ok (.lreturn, 1) := by decide +kernel
set_option maxRecDepth 20000 in
theorem ggX9_order_X9_isAddress : GoodIn wsX9_order wsX9_isAddress := goodIn_r _ [6] (by decide +kernel) (by decide +kernel)
set_option maxRecDepth 20000 in
theorem gX9_order_X9_isAddress : GoodIn wsX9_order (va_wsS RX9 55 yX9_isAddress wsX9_isAddress) := goodIn_app (goodIn_of _ (by decide +kernel)) ggX9_order_X9_isAddress
set_option maxRecDepth 20000 in
theorem ggX9_order_X9_isSymbol : GoodIn wsX9_order wsX9_isSymbol := goodIn_r _ [9] (by decide +kernel) (by decide +kernel)
set_option maxRecDepth 20000 in
theorem gX9_order_X9_isSymbol : GoodIn wsX9_order (va_wsS RX9 93 yX9_isSymbol wsX9_isSymbol) := goodIn_app (goodIn_of _ (by decide +kernel)) ggX9_order_X9_isSymbol
set_option maxRecDepth 20000 in
theorem ggX9_order_X5_layShort : GoodIn wsX9_order wsX5_layShort := goodIn_r _ [14, 15, 16, 38, 39] (by decide +kernel) (by decide +kernel)
set_option maxRecDepth 20000 in
theorem gX9_order_X5_layShort : GoodIn wsX9_order (wsV RX9 64 RX5 yX5_layShort wsX5_layShort) := goodIn_app (goodIn_of _ (by decide +kernel)) ggX9_order_X5_layShort
set_option maxRecDepth 20000 in
theorem ggX9_order_X8_forget : GoodIn wsX9_order wsX8_forget := goodIn_r _ [21, 22, 40, 41, 42, 43, 44, 45, 46, 47, 48, 49, 50, 51] (by decide +kernel) (by decide +kernel)
set_option maxRecDepth 20000 in
theorem gX9_order_X8_forget : GoodIn wsX9_order (wsV RX9 70 RX8 yX8_forget wsX8_forget) := goodIn_app (goodIn_of _ (by decide +kernel)) ggX9_order_X8_forget
theorem dX9_order_0 : decode cX9_order 0 = .ok (.iload_n 1, 1) := by decide +kernel
theorem dX9_order_1 : decode cX9_order 1 = .ok (.invokestatic 55, 3) := by decide +kernel
theorem dX9_order_4 : decode cX9_order 4 = .ok (.ifCond .eq 10, 3) := by decide +kernel
theorem dX9_order_7 : decode cX9_order 7 = .ok (.iload_n 2, 1) := by decide +kernel
theorem dX9_order_8 : decode cX9_order 8 = .ok (.invokestatic 93, 3) := by decide +kernel
theorem dX9_order_11 : decode cX9_order 11 = .ok (.ifCond .ne 6, 3) := by decide +kernel
theorem dX9_order_14 : decode cX9_order 14 = .ok (.bipush (-2), 2) := by decide +kernel
theorem dX9_order_16 : decode cX9_order 16 = .ok (.ireturn, 1) := by decide +kernel
theorem dX9_order_17 : decode cX9_order 17 = .ok (.iload_n 3, 1) := by decide +kernel
theorem dX9_order_18 : decode cX9_order 18 = .ok (.ifCond .lt 10, 3) := by decide +kernel
theorem dX9_order_21 : decode cX9_order 21 = .ok (.iload_n 3, 1) := by decide +kernel
theorem dX9_order_22 : decode cX9_order 22 = .ok (.sipush 1023, 3) := by decide +kernel
theorem dX9_order_25 : decode cX9_order 25 = .ok (.if_icmp .le 6, 3) := by decide +kernel
theorem dX9_order_28 : decode cX9_order 28 = .ok (.bipush (-3), 2) := by decide +kernel
theorem dX9_order_30 : decode cX9_order 30 = .ok (.ireturn, 1) := by decide +kernel
theorem dX9_order_31 : decode cX9_order 31 = .ok (.aload_n 0, 1) := by decide +kernel
theorem dX9_order_32 : decode cX9_order 32 = .ok (.getfield 10, 3) := by decide +kernel
theorem dX9_order_35 : decode cX9_order 35 = .ok (.getfield 60, 3) := by decide +kernel
theorem dX9_order_38 : decode cX9_order 38 = .ok (.iload_n 1, 1) := by decide +kernel
theorem dX9_order_39 : decode cX9_order 39 = .ok (.iload_n 2, 1) := by decide +kernel
theorem dX9_order_40 : decode cX9_order 40 = .ok (.bipush 12, 2) := by decide +kernel
theorem dX9_order_42 : decode cX9_order 42 = .ok (.ishl, 1) := by decide +kernel
theorem dX9_order_43 : decode cX9_order 43 = .ok (.iload_n 3, 1) := by decide +kernel
theorem dX9_order_44 : decode cX9_order 44 = .ok (.iconst 1, 1) := by decide +kernel
theorem dX9_order_45 : decode cX9_order 45 = .ok (.ishl, 1) := by decide +kernel
theorem dX9_order_46 : decode cX9_order 46 = .ok (.ior, 1) := by decide +kernel
theorem dX9_order_47 : decode cX9_order 47 = .ok (.iload 4, 2) := by decide +kernel
theorem dX9_order_49 : decode cX9_order 49 = .ok (.ifCond .eq 7, 3) := by decide +kernel
theorem dX9_order_52 : decode cX9_order 52 = .ok (.iconst 1, 1) := by decide +kernel
theorem dX9_order_53 : decode cX9_order 53 = .ok (.goto 4, 3) := by decide +kernel
theorem dX9_order_56 : decode cX9_order 56 = .ok (.iconst 0, 1) := by decide +kernel
theorem dX9_order_57 : decode cX9_order 57 = .ok (.ior, 1) := by decide +kernel
theorem dX9_order_58 : decode cX9_order 58 = .ok (.invokevirtual 64, 3) := by decide +kernel
theorem dX9_order_61 : decode cX9_order 61 = .ok (.aload_n 0, 1) := by decide +kernel
theorem dX9_order_62 : decode cX9_order 62 = .ok (.getfield 22, 3) := by decide +kernel
theorem dX9_order_65 : decode cX9_order 65 = .ok (.invokevirtual 70, 3) := by decide +kernel
theorem dX9_order_68 : decode cX9_order 68 = .ok (.iconst 1, 1) := by decide +kernel
theorem dX9_order_69 : decode cX9_order 69 = .ok (.ireturn, 1) := by decide +kernel
theorem dX9_top_0 : decode cX9_top 0 = .ok (.aload_n 0, 1) := by decide +kernel
theorem dX9_top_1 : decode cX9_top 1 = .ok (.getfield 10, 3) := by decide +kernel
theorem dX9_top_4 : decode cX9_top 4 = .ok (.getfield 96, 3) := by decide +kernel
theorem dX9_top_7 : decode cX9_top 7 = .ok (.getfield 100, 3) := by decide +kernel
theorem dX9_top_10 : decode cX9_top 10 = .ok (.lreturn, 1) := by decide +kernel
theorem dX9_rest_0 : decode cX9_rest 0 = .ok (.aload_n 0, 1) := by decide +kernel
theorem dX9_rest_1 : decode cX9_rest 1 = .ok (.getfield 10, 3) := by decide +kernel
theorem dX9_rest_4 : decode cX9_rest 4 = .ok (.getfield 96, 3) := by decide +kernel
theorem dX9_rest_7 : decode cX9_rest 7 = .ok (.getfield 106, 3) := by decide +kernel
theorem dX9_rest_10 : decode cX9_rest 10 = .ok (.lreturn, 1) := by decide +kernel
set_option maxRecDepth 20000 in
theorem ggX9_set_X0_become : GoodIn wsX9_set wsX0_become := goodIn_r _ [10, 11, 12, 34, 35] (by decide +kernel) (by decide +kernel)
set_option maxRecDepth 20000 in
theorem gX9_set_X0_become : GoodIn wsX9_set (wsV RX9 115 RX0 yX0_become wsX0_become) := goodIn_app (goodIn_of _ (by decide +kernel)) ggX9_set_X0_become
set_option maxRecDepth 20000 in
theorem ggX9_set_X8_forget : GoodIn wsX9_set wsX8_forget := goodIn_r _ [17, 18, 36, 37, 38, 39, 40, 41, 42, 43, 44, 45, 46, 47] (by decide +kernel) (by decide +kernel)
set_option maxRecDepth 20000 in
theorem gX9_set_X8_forget : GoodIn wsX9_set (wsV RX9 70 RX8 yX8_forget wsX8_forget) := goodIn_app (goodIn_of _ (by decide +kernel)) ggX9_set_X8_forget
theorem dX9_set_0 : decode cX9_set 0 = .ok (.lload_n 1, 1) := by decide +kernel
theorem dX9_set_1 : decode cX9_set 1 = .ok (.ldc2_w 109, 3) := by decide +kernel
theorem dX9_set_4 : decode cX9_set 4 = .ok (.lcmp, 1) := by decide +kernel
theorem dX9_set_5 : decode cX9_set 5 = .ok (.ifCond .lt 25, 3) := by decide +kernel
theorem dX9_set_8 : decode cX9_set 8 = .ok (.lload_n 1, 1) := by decide +kernel
theorem dX9_set_9 : decode cX9_set 9 = .ok (.ldc2_w 111, 3) := by decide +kernel
theorem dX9_set_12 : decode cX9_set 12 = .ok (.lcmp, 1) := by decide +kernel
theorem dX9_set_13 : decode cX9_set 13 = .ok (.ifCond .ge 17, 3) := by decide +kernel
theorem dX9_set_16 : decode cX9_set 16 = .ok (.lload_n 3, 1) := by decide +kernel
theorem dX9_set_17 : decode cX9_set 17 = .ok (.lconst 0, 1) := by decide +kernel
theorem dX9_set_18 : decode cX9_set 18 = .ok (.lcmp, 1) := by decide +kernel
theorem dX9_set_19 : decode cX9_set 19 = .ok (.ifCond .lt 11, 3) := by decide +kernel
theorem dX9_set_22 : decode cX9_set 22 = .ok (.lload_n 3, 1) := by decide +kernel
theorem dX9_set_23 : decode cX9_set 23 = .ok (.ldc2_w 113, 3) := by decide +kernel
theorem dX9_set_26 : decode cX9_set 26 = .ok (.lcmp, 1) := by decide +kernel
theorem dX9_set_27 : decode cX9_set 27 = .ok (.ifCond .le 6, 3) := by decide +kernel
theorem dX9_set_30 : decode cX9_set 30 = .ok (.bipush (-3), 2) := by decide +kernel
theorem dX9_set_32 : decode cX9_set 32 = .ok (.ireturn, 1) := by decide +kernel
theorem dX9_set_33 : decode cX9_set 33 = .ok (.aload_n 0, 1) := by decide +kernel
theorem dX9_set_34 : decode cX9_set 34 = .ok (.getfield 10, 3) := by decide +kernel
theorem dX9_set_37 : decode cX9_set 37 = .ok (.getfield 96, 3) := by decide +kernel
theorem dX9_set_40 : decode cX9_set 40 = .ok (.lload_n 1, 1) := by decide +kernel
theorem dX9_set_41 : decode cX9_set 41 = .ok (.lload_n 3, 1) := by decide +kernel
theorem dX9_set_42 : decode cX9_set 42 = .ok (.invokevirtual 115, 3) := by decide +kernel
theorem dX9_set_45 : decode cX9_set 45 = .ok (.aload_n 0, 1) := by decide +kernel
theorem dX9_set_46 : decode cX9_set 46 = .ok (.getfield 22, 3) := by decide +kernel
theorem dX9_set_49 : decode cX9_set 49 = .ok (.invokevirtual 70, 3) := by decide +kernel
theorem dX9_set_52 : decode cX9_set 52 = .ok (.iconst 1, 1) := by decide +kernel
theorem dX9_set_53 : decode cX9_set 53 = .ok (.ireturn, 1) := by decide +kernel
theorem dX9_multiplier_0 : decode cX9_multiplier 0 = .ok (.aload_n 0, 1) := by decide +kernel
theorem dX9_multiplier_1 : decode cX9_multiplier 1 = .ok (.getfield 10, 3) := by decide +kernel
theorem dX9_multiplier_4 : decode cX9_multiplier 4 = .ok (.getfield 119, 3) := by decide +kernel
theorem dX9_multiplier_7 : decode cX9_multiplier 7 = .ok (.lreturn, 1) := by decide +kernel
set_option maxRecDepth 20000 in
theorem ggX9_punch_X7_append : GoodIn wsX9_punch wsX7_append := goodIn_r _ [7, 8, 9, 31, 32, 33] (by decide +kernel) (by decide +kernel)
set_option maxRecDepth 20000 in
theorem gX9_punch_X7_append : GoodIn wsX9_punch (wsV RX9 131 RX7 yX7_append wsX7_append) := goodIn_app (goodIn_of _ (by decide +kernel)) ggX9_punch_X7_append
set_option maxRecDepth 20000 in
theorem ggX9_punch_X8_forget : GoodIn wsX9_punch wsX8_forget := goodIn_r _ [14, 15, 34, 35, 36, 37, 38, 39, 40, 41, 42, 43, 44, 45] (by decide +kernel) (by decide +kernel)
set_option maxRecDepth 20000 in
theorem gX9_punch_X8_forget : GoodIn wsX9_punch (wsV RX9 70 RX8 yX8_forget wsX8_forget) := goodIn_app (goodIn_of _ (by decide +kernel)) ggX9_punch_X8_forget
theorem dX9_punch_0 : decode cX9_punch 0 = .ok (.iload_n 3, 1) := by decide +kernel
theorem dX9_punch_1 : decode cX9_punch 1 = .ok (.iconst 1, 1) := by decide +kernel
theorem dX9_punch_2 : decode cX9_punch 2 = .ok (.if_icmp .lt 9, 3) := by decide +kernel
theorem dX9_punch_5 : decode cX9_punch 5 = .ok (.iload_n 3, 1) := by decide +kernel
theorem dX9_punch_6 : decode cX9_punch 6 = .ok (.bipush 12, 2) := by decide +kernel
theorem dX9_punch_8 : decode cX9_punch 8 = .ok (.if_icmp .le 6, 3) := by decide +kernel
theorem dX9_punch_11 : decode cX9_punch 11 = .ok (.bipush (-3), 2) := by decide +kernel
theorem dX9_punch_13 : decode cX9_punch 13 = .ok (.ireturn, 1) := by decide +kernel
theorem dX9_punch_14 : decode cX9_punch 14 = .ok (.aload_n 0, 1) := by decide +kernel
theorem dX9_punch_15 : decode cX9_punch 15 = .ok (.getfield 10, 3) := by decide +kernel
theorem dX9_punch_18 : decode cX9_punch 18 = .ok (.getfield 122, 3) := by decide +kernel
theorem dX9_punch_21 : decode cX9_punch 21 = .ok (.getfield 126, 3) := by decide +kernel
theorem dX9_punch_24 : decode cX9_punch 24 = .ok (.iload_n 3, 1) := by decide +kernel
theorem dX9_punch_25 : decode cX9_punch 25 = .ok (.iadd, 1) := by decide +kernel
theorem dX9_punch_26 : decode cX9_punch 26 = .ok (.sipush 1000, 3) := by decide +kernel
theorem dX9_punch_29 : decode cX9_punch 29 = .ok (.if_icmp .le 6, 3) := by decide +kernel
theorem dX9_punch_32 : decode cX9_punch 32 = .ok (.bipush (-5), 2) := by decide +kernel
theorem dX9_punch_34 : decode cX9_punch 34 = .ok (.ireturn, 1) := by decide +kernel
theorem dX9_punch_35 : decode cX9_punch 35 = .ok (.iload_n 3, 1) := by decide +kernel
theorem dX9_punch_36 : decode cX9_punch 36 = .ok (.iconst 1, 1) := by decide +kernel
theorem dX9_punch_37 : decode cX9_punch 37 = .ok (.isub, 1) := by decide +kernel
theorem dX9_punch_38 : decode cX9_punch 38 = .ok (.istore 4, 2) := by decide +kernel
theorem dX9_punch_40 : decode cX9_punch 40 = .ok (.iload 4, 2) := by decide +kernel
theorem dX9_punch_42 : decode cX9_punch 42 = .ok (.ifCond .lt 29, 3) := by decide +kernel
theorem dX9_punch_45 : decode cX9_punch 45 = .ok (.aload_n 0, 1) := by decide +kernel
theorem dX9_punch_46 : decode cX9_punch 46 = .ok (.getfield 10, 3) := by decide +kernel
theorem dX9_punch_49 : decode cX9_punch 49 = .ok (.getfield 122, 3) := by decide +kernel
theorem dX9_punch_52 : decode cX9_punch 52 = .ok (.lload_n 1, 1) := by decide +kernel
theorem dX9_punch_53 : decode cX9_punch 53 = .ok (.iconst 5, 1) := by decide +kernel
theorem dX9_punch_54 : decode cX9_punch 54 = .ok (.iload 4, 2) := by decide +kernel
theorem dX9_punch_56 : decode cX9_punch 56 = .ok (.imul, 1) := by decide +kernel
theorem dX9_punch_57 : decode cX9_punch 57 = .ok (.lshr, 1) := by decide +kernel
theorem dX9_punch_58 : decode cX9_punch 58 = .ok (.l2i, 1) := by decide +kernel
theorem dX9_punch_59 : decode cX9_punch 59 = .ok (.bipush 31, 2) := by decide +kernel
theorem dX9_punch_61 : decode cX9_punch 61 = .ok (.iand, 1) := by decide +kernel
theorem dX9_punch_62 : decode cX9_punch 62 = .ok (.invokevirtual 131, 3) := by decide +kernel
theorem dX9_punch_65 : decode cX9_punch 65 = .ok (.iinc 4 (-1), 3) := by decide +kernel
theorem dX9_punch_68 : decode cX9_punch 68 = .ok (.goto (-28), 3) := by decide +kernel
theorem dX9_punch_71 : decode cX9_punch 71 = .ok (.aload_n 0, 1) := by decide +kernel
theorem dX9_punch_72 : decode cX9_punch 72 = .ok (.getfield 22, 3) := by decide +kernel
theorem dX9_punch_75 : decode cX9_punch 75 = .ok (.invokevirtual 70, 3) := by decide +kernel
theorem dX9_punch_78 : decode cX9_punch 78 = .ok (.aload_n 0, 1) := by decide +kernel
theorem dX9_punch_79 : decode cX9_punch 79 = .ok (.getfield 10, 3) := by decide +kernel
theorem dX9_punch_82 : decode cX9_punch 82 = .ok (.getfield 122, 3) := by decide +kernel
theorem dX9_punch_85 : decode cX9_punch 85 = .ok (.getfield 126, 3) := by decide +kernel
theorem dX9_punch_88 : decode cX9_punch 88 = .ok (.ireturn, 1) := by decide +kernel
set_option maxRecDepth 20000 in
theorem ggX9_rewind_X8_forget : GoodIn wsX9_rewind wsX8_forget := goodIn_r _ [7, 8, 27, 28, 29, 30, 31, 32, 33, 34, 35, 36, 37, 38] (by decide +kernel) (by decide +kernel)
set_option maxRecDepth 20000 in
theorem gX9_rewind_X8_forget : GoodIn wsX9_rewind (wsV RX9 70 RX8 yX8_forget wsX8_forget) := goodIn_app (goodIn_of _ (by decide +kernel)) ggX9_rewind_X8_forget
theorem dX9_rewind_0 : decode cX9_rewind 0 = .ok (.aload_n 0, 1) := by decide +kernel
theorem dX9_rewind_1 : decode cX9_rewind 1 = .ok (.getfield 10, 3) := by decide +kernel
theorem dX9_rewind_4 : decode cX9_rewind 4 = .ok (.getfield 122, 3) := by decide +kernel
theorem dX9_rewind_7 : decode cX9_rewind 7 = .ok (.getfield 135, 3) := by decide +kernel
theorem dX9_rewind_10 : decode cX9_rewind 10 = .ok (.istore_n 1, 1) := by decide +kernel
theorem dX9_rewind_11 : decode cX9_rewind 11 = .ok (.aload_n 0, 1) := by decide +kernel
theorem dX9_rewind_12 : decode cX9_rewind 12 = .ok (.getfield 10, 3) := by decide +kernel
theorem dX9_rewind_15 : decode cX9_rewind 15 = .ok (.getfield 122, 3) := by decide +kernel
theorem dX9_rewind_18 : decode cX9_rewind 18 = .ok (.iconst 0, 1) := by decide +kernel
theorem dX9_rewind_19 : decode cX9_rewind 19 = .ok (.putfield 135, 3) := by decide +kernel
theorem dX9_rewind_22 : decode cX9_rewind 22 = .ok (.aload_n 0, 1) := by decide +kernel
theorem dX9_rewind_23 : decode cX9_rewind 23 = .ok (.getfield 22, 3) := by decide +kernel
theorem dX9_rewind_26 : decode cX9_rewind 26 = .ok (.invokevirtual 70, 3) := by decide +kernel
theorem dX9_rewind_29 : decode cX9_rewind 29 = .ok (.iload_n 1, 1) := by decide +kernel
theorem dX9_rewind_30 : decode cX9_rewind 30 = .ok (.ireturn, 1) := by decide +kernel
set_option maxRecDepth 20000 in
theorem ggX9_text_X6_byteAt : GoodIn wsX9_text wsX6_byteAt := goodIn_r _ [6, 7, 23, 24, 25, 26] (by decide +kernel) (by decide +kernel)
set_option maxRecDepth 20000 in
theorem gX9_text_X6_byteAt : GoodIn wsX9_text (wsV RX9 145 RX6 yX6_byteAt wsX6_byteAt) := goodIn_app (goodIn_of _ (by decide +kernel)) ggX9_text_X6_byteAt
theorem dX9_text_0 : decode cX9_text 0 = .ok (.iload_n 1, 1) := by decide +kernel
theorem dX9_text_1 : decode cX9_text 1 = .ok (.ifCond .lt 31, 3) := by decide +kernel
theorem dX9_text_4 : decode cX9_text 4 = .ok (.iload_n 1, 1) := by decide +kernel
theorem dX9_text_5 : decode cX9_text 5 = .ok (.aload_n 0, 1) := by decide +kernel
theorem dX9_text_6 : decode cX9_text 6 = .ok (.getfield 10, 3) := by decide +kernel
theorem dX9_text_9 : decode cX9_text 9 = .ok (.getfield 138, 3) := by decide +kernel
theorem dX9_text_12 : decode cX9_text 12 = .ok (.getfield 142, 3) := by decide +kernel
theorem dX9_text_15 : decode cX9_text 15 = .ok (.if_icmp .ge 17, 3) := by decide +kernel
theorem dX9_text_18 : decode cX9_text 18 = .ok (.aload_n 0, 1) := by decide +kernel
theorem dX9_text_19 : decode cX9_text 19 = .ok (.getfield 10, 3) := by decide +kernel
theorem dX9_text_22 : decode cX9_text 22 = .ok (.getfield 138, 3) := by decide +kernel
theorem dX9_text_25 : decode cX9_text 25 = .ok (.iload_n 1, 1) := by decide +kernel
theorem dX9_text_26 : decode cX9_text 26 = .ok (.invokevirtual 145, 3) := by decide +kernel
theorem dX9_text_29 : decode cX9_text 29 = .ok (.goto 5, 3) := by decide +kernel
theorem dX9_text_32 : decode cX9_text 32 = .ok (.bipush (-2), 2) := by decide +kernel
theorem dX9_text_34 : decode cX9_text 34 = .ok (.ireturn, 1) := by decide +kernel
set_option maxRecDepth 20000 in
theorem ggX9_tear_X8_forget : GoodIn wsX9_tear wsX8_forget := goodIn_r _ [7, 8, 28, 29, 30, 31, 32, 33, 34, 35, 36, 37, 38, 39] (by decide +kernel) (by decide +kernel)
set_option maxRecDepth 20000 in
theorem gX9_tear_X8_forget : GoodIn wsX9_tear (wsV RX9 70 RX8 yX8_forget wsX8_forget) := goodIn_app (goodIn_of _ (by decide +kernel)) ggX9_tear_X8_forget
theorem dX9_tear_0 : decode cX9_tear 0 = .ok (.aload_n 0, 1) := by decide +kernel
theorem dX9_tear_1 : decode cX9_tear 1 = .ok (.getfield 10, 3) := by decide +kernel
theorem dX9_tear_4 : decode cX9_tear 4 = .ok (.getfield 138, 3) := by decide +kernel
theorem dX9_tear_7 : decode cX9_tear 7 = .ok (.getfield 142, 3) := by decide +kernel
theorem dX9_tear_10 : decode cX9_tear 10 = .ok (.istore_n 1, 1) := by decide +kernel
theorem dX9_tear_11 : decode cX9_tear 11 = .ok (.aload_n 0, 1) := by decide +kernel
theorem dX9_tear_12 : decode cX9_tear 12 = .ok (.getfield 10, 3) := by decide +kernel
theorem dX9_tear_15 : decode cX9_tear 15 = .ok (.getfield 138, 3) := by decide +kernel
theorem dX9_tear_18 : decode cX9_tear 18 = .ok (.iconst 0, 1) := by decide +kernel
theorem dX9_tear_19 : decode cX9_tear 19 = .ok (.putfield 142, 3) := by decide +kernel
theorem dX9_tear_22 : decode cX9_tear 22 = .ok (.aload_n 0, 1) := by decide +kernel
theorem dX9_tear_23 : decode cX9_tear 23 = .ok (.getfield 22, 3) := by decide +kernel
theorem dX9_tear_26 : decode cX9_tear 26 = .ok (.invokevirtual 70, 3) := by decide +kernel
theorem dX9_tear_29 : decode cX9_tear 29 = .ok (.iload_n 1, 1) := by decide +kernel
theorem dX9_tear_30 : decode cX9_tear 30 = .ok (.ireturn, 1) := by decide +kernel
set_option maxRecDepth 20000 in
theorem ggX9_load_X8_forget : GoodIn wsX9_load wsX8_forget := goodIn_r _ [8, 9, 64, 65, 66, 67, 68, 69, 70, 71, 72, 73, 74, 75] (by decide +kernel) (by decide +kernel)
set_option maxRecDepth 20000 in
theorem gX9_load_X8_forget : GoodIn wsX9_load (wsV RX9 70 RX8 yX8_forget wsX8_forget) := goodIn_app (goodIn_of _ (by decide +kernel)) ggX9_load_X8_forget
set_option maxRecDepth 20000 in
theorem ggX9_load_X2_takeTape : GoodIn wsX9_load wsX2_takeTape := goodIn_r _ [14, 15, 16, 17, 18, 19, 20, 21, 22, 23, 24, 25, 26, 27, 13, 28, 29, 30, 31, 32, 33, 34, 35, 36, 37, 38, 39, 40, 41, 42, 43, 44, 45, 46, 47, 48, 49, 50, 51, 52, 53, 54, 55, 76, 77, 78, 79, 80, 81, 82, 83, 84, 85, 86, 87, 88, 89, 90] (by decide +kernel) (by decide +kernel)
set_option maxRecDepth 20000 in
theorem gX9_load_X2_takeTape : GoodIn wsX9_load (wsV RX9 148 RX2 yX2_takeTape wsX2_takeTape) := goodIn_app (goodIn_of _ (by decide +kernel)) ggX9_load_X2_takeTape
theorem dX9_load_0 : decode cX9_load 0 = .ok (.aload_n 0, 1) := by decide +kernel
theorem dX9_load_1 : decode cX9_load 1 = .ok (.getfield 22, 3) := by decide +kernel
theorem dX9_load_4 : decode cX9_load 4 = .ok (.invokevirtual 70, 3) := by decide +kernel
theorem dX9_load_7 : decode cX9_load 7 = .ok (.aload_n 0, 1) := by decide +kernel
theorem dX9_load_8 : decode cX9_load 8 = .ok (.getfield 29, 3) := by decide +kernel
theorem dX9_load_11 : decode cX9_load 11 = .ok (.aload_n 0, 1) := by decide +kernel
theorem dX9_load_12 : decode cX9_load 12 = .ok (.getfield 10, 3) := by decide +kernel
theorem dX9_load_15 : decode cX9_load 15 = .ok (.invokevirtual 148, 3) := by decide +kernel
theorem dX9_load_18 : decode cX9_load 18 = .ok (.ireturn, 1) := by decide +kernel
theorem dX9_loaded_0 : decode cX9_loaded 0 = .ok (.aload_n 0, 1) := by decide +kernel
theorem dX9_loaded_1 : decode cX9_loaded 1 = .ok (.getfield 29, 3) := by decide +kernel
theorem dX9_loaded_4 : decode cX9_loaded 4 = .ok (.getfield 152, 3) := by decide +kernel
theorem dX9_loaded_7 : decode cX9_loaded 7 = .ok (.ireturn, 1) := by decide +kernel
set_option maxRecDepth 20000 in
theorem ggX9_start_X9_isAddress : GoodIn wsX9_start wsX9_isAddress := goodIn_r _ [6] (by decide +kernel) (by decide +kernel)
set_option maxRecDepth 20000 in
theorem gX9_start_X9_isAddress : GoodIn wsX9_start (va_wsS RX9 55 yX9_isAddress wsX9_isAddress) := goodIn_app (goodIn_of _ (by decide +kernel)) ggX9_start_X9_isAddress
set_option maxRecDepth 20000 in
theorem ggX9_start_X8_forget : GoodIn wsX9_start wsX8_forget := goodIn_r _ [11, 12, 28, 29, 30, 31, 32, 33, 34, 35, 36, 37, 38, 39] (by decide +kernel) (by decide +kernel)
set_option maxRecDepth 20000 in
theorem gX9_start_X8_forget : GoodIn wsX9_start (wsV RX9 70 RX8 yX8_forget wsX8_forget) := goodIn_app (goodIn_of _ (by decide +kernel)) ggX9_start_X8_forget
theorem dX9_start_0 : decode cX9_start 0 = .ok (.iload_n 1, 1) := by decide +kernel
theorem dX9_start_1 : decode cX9_start 1 = .ok (.invokestatic 55, 3) := by decide +kernel
theorem dX9_start_4 : decode cX9_start 4 = .ok (.ifCond .ne 6, 3) := by decide +kernel
theorem dX9_start_7 : decode cX9_start 7 = .ok (.bipush (-2), 2) := by decide +kernel
theorem dX9_start_9 : decode cX9_start 9 = .ok (.ireturn, 1) := by decide +kernel
theorem dX9_start_10 : decode cX9_start 10 = .ok (.aload_n 0, 1) := by decide +kernel
theorem dX9_start_11 : decode cX9_start 11 = .ok (.getfield 10, 3) := by decide +kernel
theorem dX9_start_14 : decode cX9_start 14 = .ok (.iload_n 1, 1) := by decide +kernel
theorem dX9_start_15 : decode cX9_start 15 = .ok (.putfield 155, 3) := by decide +kernel
theorem dX9_start_18 : decode cX9_start 18 = .ok (.aload_n 0, 1) := by decide +kernel
theorem dX9_start_19 : decode cX9_start 19 = .ok (.getfield 22, 3) := by decide +kernel
theorem dX9_start_22 : decode cX9_start 22 = .ok (.invokevirtual 70, 3) := by decide +kernel
theorem dX9_start_25 : decode cX9_start 25 = .ok (.iconst 1, 1) := by decide +kernel
theorem dX9_start_26 : decode cX9_start 26 = .ok (.ireturn, 1) := by decide +kernel
set_option maxRecDepth 20000 in
theorem ggX9_run_X4_isAt : GoodIn wsX9_run wsX4_isAt := goodIn_r _ [9, 10, 234, 235] (by decide +kernel) (by decide +kernel)
set_option maxRecDepth 20000 in
theorem gX9_run_X4_isAt : GoodIn wsX9_run (wsV RX9 158 RX4 yX4_isAt wsX4_isAt) := goodIn_app (goodIn_of _ (by decide +kernel)) ggX9_run_X4_isAt
set_option maxRecDepth 20000 in
theorem ggX9_run_X3_haltAhead : GoodIn wsX9_run wsX3_haltAhead := goodIn_r _ [15, 16, 17, 18, 19, 20, 14, 21, 22, 23, 24, 25, 26, 27, 28, 29, 30, 31, 32, 33, 34, 35, 36, 37, 38, 39, 40, 41, 42, 43, 44, 45, 46, 47, 227, 228, 229, 230, 231, 232, 233, 236, 237, 238, 239, 240, 241, 242, 243, 244] (by decide +kernel) (by decide +kernel)
set_option maxRecDepth 20000 in
theorem gX9_run_X3_haltAhead : GoodIn wsX9_run (wsV RX9 161 RX3 yX3_haltAhead wsX3_haltAhead) := goodIn_app (goodIn_of _ (by decide +kernel)) ggX9_run_X3_haltAhead
set_option maxRecDepth 20000 in
theorem ggX9_run_X8_note : GoodIn wsX9_run wsX8_note := goodIn_r _ [52, 53, 54, 55, 56, 57, 58, 59, 60, 61, 62, 63, 64, 65, 66, 67, 68, 69, 19, 20, 14, 21, 22, 23, 24, 25, 26, 27, 28, 29, 70, 31, 71, 72, 73, 74, 75, 76, 77, 245, 246, 247, 248, 249, 250, 251, 252, 253, 254, 255, 256, 227, 228, 229, 230, 231, 232, 233, 257, 258, 238, 239, 240, 241, 242, 243, 244, 236, 237] (by decide +kernel) (by decide +kernel)
set_option maxRecDepth 20000 in
theorem gX9_run_X8_note : GoodIn wsX9_run (wsV RX9 165 RX8 yX8_note wsX8_note) := goodIn_app (goodIn_of _ (by decide +kernel)) ggX9_run_X8_note
set_option maxRecDepth 20000 in
theorem ggX9_run_X3_doNext : GoodIn wsX9_run wsX3_doNext := goodIn_r _ [81, 23, 82, 16, 17, 22, 83, 18, 19, 20, 14, 21, 24, 25, 26, 27, 28, 29, 30, 31, 32, 84, 85, 70, 71, 86, 87, 88, 89, 90, 91, 92, 93, 94, 95, 96, 97, 98, 99, 100, 76, 101, 102, 103, 104, 105, 106, 107, 108, 109, 110, 111, 112, 113, 114, 115, 116, 38, 117, 40, 118, 119, 36, 37, 39, 41, 120, 121, 122, 123, 124, 125, 126, 45, 127, 128, 129, 130, 131, 132, 133, 47, 134, 135, 136, 137, 138, 139, 140, 141, 142, 143, 144, 145, 146, 147, 148, 149, 150, 151, 152, 153, 154, 155, 156, 157, 158, 159, 160, 161, 162, 163, 164, 165, 166, 167, 168, 169, 170, 171, 172, 173, 174, 175, 176, 177, 178, 179, 180, 181, 182, 183, 184, 185, 186, 187, 188, 189, 190, 73, 74, 75, 77, 191, 192, 193, 194, 195, 196, 197, 198, 199, 200, 201, 202, 203, 204, 205, 206, 207, 208, 209, 210, 211, 212, 213, 214, 215, 216, 217, 218, 227, 228, 229, 230, 231, 232, 233, 257, 258, 236, 237, 238, 239, 240, 241, 242, 243, 244] (by decide +kernel) (by decide +kernel)
set_option maxRecDepth 20000 in
theorem gX9_run_X3_doNext : GoodIn wsX9_run (wsV RX9 169 RX3 yX3_doNext wsX3_doNext) := goodIn_app (goodIn_of _ (by decide +kernel)) ggX9_run_X3_doNext
theorem dX9_run_0 : decode cX9_run 0 = .ok (.iload_n 1, 1) := by decide +kernel
theorem dX9_run_1 : decode cX9_run 1 = .ok (.ifCond .lt 10, 3) := by decide +kernel
theorem dX9_run_4 : decode cX9_run 4 = .ok (.iload_n 1, 1) := by decide +kernel
theorem dX9_run_5 : decode cX9_run 5 = .ok (.sipush 3000, 3) := by decide +kernel
theorem dX9_run_8 : decode cX9_run 8 = .ok (.if_icmp .le 6, 3) := by decide +kernel
theorem dX9_run_11 : decode cX9_run 11 = .ok (.bipush (-3), 2) := by decide +kernel
theorem dX9_run_13 : decode cX9_run 13 = .ok (.ireturn, 1) := by decide +kernel
theorem dX9_run_14 : decode cX9_run 14 = .ok (.aload_n 0, 1) := by decide +kernel
theorem dX9_run_15 : decode cX9_run 15 = .ok (.iconst 0, 1) := by decide +kernel
theorem dX9_run_16 : decode cX9_run 16 = .ok (.putfield 51, 3) := by decide +kernel
theorem dX9_run_19 : decode cX9_run 19 = .ok (.iconst 0, 1) := by decide +kernel
theorem dX9_run_20 : decode cX9_run 20 = .ok (.istore_n 2, 1) := by decide +kernel
theorem dX9_run_21 : decode cX9_run 21 = .ok (.iload_n 2, 1) := by decide +kernel
theorem dX9_run_22 : decode cX9_run 22 = .ok (.iload_n 1, 1) := by decide +kernel
theorem dX9_run_23 : decode cX9_run 23 = .ok (.if_icmp .ge 81, 3) := by decide +kernel
theorem dX9_run_26 : decode cX9_run 26 = .ok (.aload_n 0, 1) := by decide +kernel
theorem dX9_run_27 : decode cX9_run 27 = .ok (.getfield 51, 3) := by decide +kernel
theorem dX9_run_30 : decode cX9_run 30 = .ok (.ifCond .ne 74, 3) := by decide +kernel
theorem dX9_run_33 : decode cX9_run 33 = .ok (.aload_n 0, 1) := by decide +kernel
theorem dX9_run_34 : decode cX9_run 34 = .ok (.iload_n 2, 1) := by decide +kernel
theorem dX9_run_35 : decode cX9_run 35 = .ok (.ifCond .le 24, 3) := by decide +kernel
theorem dX9_run_38 : decode cX9_run 38 = .ok (.aload_n 0, 1) := by decide +kernel
theorem dX9_run_39 : decode cX9_run 39 = .ok (.getfield 36, 3) := by decide +kernel
theorem dX9_run_42 : decode cX9_run 42 = .ok (.aload_n 0, 1) := by decide +kernel
theorem dX9_run_43 : decode cX9_run 43 = .ok (.getfield 10, 3) := by decide +kernel
theorem dX9_run_46 : decode cX9_run 46 = .ok (.getfield 155, 3) := by decide +kernel
theorem dX9_run_49 : decode cX9_run 49 = .ok (.invokevirtual 158, 3) := by decide +kernel
theorem dX9_run_52 : decode cX9_run 52 = .ok (.ifCond .eq 7, 3) := by decide +kernel
theorem dX9_run_55 : decode cX9_run 55 = .ok (.iconst 5, 1) := by decide +kernel
theorem dX9_run_56 : decode cX9_run 56 = .ok (.goto 10, 3) := by decide +kernel
theorem dX9_run_59 : decode cX9_run 59 = .ok (.aload_n 0, 1) := by decide +kernel
theorem dX9_run_60 : decode cX9_run 60 = .ok (.getfield 10, 3) := by decide +kernel
theorem dX9_run_63 : decode cX9_run 63 = .ok (.invokevirtual 161, 3) := by decide +kernel
theorem dX9_run_66 : decode cX9_run 66 = .ok (.putfield 51, 3) := by decide +kernel
theorem dX9_run_69 : decode cX9_run 69 = .ok (.aload_n 0, 1) := by decide +kernel
theorem dX9_run_70 : decode cX9_run 70 = .ok (.getfield 51, 3) := by decide +kernel
theorem dX9_run_73 : decode cX9_run 73 = .ok (.ifCond .ne (-52), 3) := by decide +kernel
theorem dX9_run_76 : decode cX9_run 76 = .ok (.aload_n 0, 1) := by decide +kernel
theorem dX9_run_77 : decode cX9_run 77 = .ok (.getfield 22, 3) := by decide +kernel
theorem dX9_run_80 : decode cX9_run 80 = .ok (.aload_n 0, 1) := by decide +kernel
theorem dX9_run_81 : decode cX9_run 81 = .ok (.getfield 10, 3) := by decide +kernel
theorem dX9_run_84 : decode cX9_run 84 = .ok (.invokevirtual 165, 3) := by decide +kernel
theorem dX9_run_87 : decode cX9_run 87 = .ok (.aload_n 0, 1) := by decide +kernel
theorem dX9_run_88 : decode cX9_run 88 = .ok (.aload_n 0, 1) := by decide +kernel
theorem dX9_run_89 : decode cX9_run 89 = .ok (.getfield 10, 3) := by decide +kernel
theorem dX9_run_92 : decode cX9_run 92 = .ok (.invokevirtual 169, 3) := by decide +kernel
theorem dX9_run_95 : decode cX9_run 95 = .ok (.putfield 51, 3) := by decide +kernel
theorem dX9_run_98 : decode cX9_run 98 = .ok (.iinc 2 1, 3) := by decide +kernel
theorem dX9_run_101 : decode cX9_run 101 = .ok (.goto (-80), 3) := by decide +kernel
theorem dX9_run_104 : decode cX9_run 104 = .ok (.iload_n 2, 1) := by decide +kernel
theorem dX9_run_105 : decode cX9_run 105 = .ok (.ireturn, 1) := by decide +kernel
theorem dX9_why_0 : decode cX9_why 0 = .ok (.aload_n 0, 1) := by decide +kernel
theorem dX9_why_1 : decode cX9_why 1 = .ok (.getfield 51, 3) := by decide +kernel
theorem dX9_why_4 : decode cX9_why 4 = .ok (.ireturn, 1) := by decide +kernel
set_option maxRecDepth 20000 in
theorem ggX9_mark_X9_isAddress : GoodIn wsX9_mark wsX9_isAddress := goodIn_r _ [5] (by decide +kernel) (by decide +kernel)
set_option maxRecDepth 20000 in
theorem gX9_mark_X9_isAddress : GoodIn wsX9_mark (va_wsS RX9 55 yX9_isAddress wsX9_isAddress) := goodIn_app (goodIn_of _ (by decide +kernel)) ggX9_mark_X9_isAddress
set_option maxRecDepth 20000 in
theorem ggX9_mark_X4_isAt : GoodIn wsX9_mark wsX4_isAt := goodIn_r _ [10, 11, 26, 27] (by decide +kernel) (by decide +kernel)
set_option maxRecDepth 20000 in
theorem gX9_mark_X4_isAt : GoodIn wsX9_mark (wsV RX9 158 RX4 yX4_isAt wsX4_isAt) := goodIn_app (goodIn_of _ (by decide +kernel)) ggX9_mark_X4_isAt
set_option maxRecDepth 20000 in
theorem ggX9_mark_X4_put : GoodIn wsX9_mark wsX4_put := goodIn_r _ [15, 16, 11, 17, 7, 8, 9, 10, 26, 27] (by decide +kernel) (by decide +kernel)
set_option maxRecDepth 20000 in
theorem gX9_mark_X4_put : GoodIn wsX9_mark (wsV RX9 175 RX4 yX4_put wsX4_put) := goodIn_app (goodIn_of _ (by decide +kernel)) ggX9_mark_X4_put
theorem dX9_mark_0 : decode cX9_mark 0 = .ok (.iload_n 1, 1) := by decide +kernel
theorem dX9_mark_1 : decode cX9_mark 1 = .ok (.invokestatic 55, 3) := by decide +kernel
theorem dX9_mark_4 : decode cX9_mark 4 = .ok (.ifCond .ne 6, 3) := by decide +kernel
theorem dX9_mark_7 : decode cX9_mark 7 = .ok (.bipush (-2), 2) := by decide +kernel
theorem dX9_mark_9 : decode cX9_mark 9 = .ok (.ireturn, 1) := by decide +kernel
theorem dX9_mark_10 : decode cX9_mark 10 = .ok (.aload_n 0, 1) := by decide +kernel
theorem dX9_mark_11 : decode cX9_mark 11 = .ok (.getfield 36, 3) := by decide +kernel
theorem dX9_mark_14 : decode cX9_mark 14 = .ok (.iload_n 1, 1) := by decide +kernel
theorem dX9_mark_15 : decode cX9_mark 15 = .ok (.invokevirtual 158, 3) := by decide +kernel
theorem dX9_mark_18 : decode cX9_mark 18 = .ok (.istore_n 3, 1) := by decide +kernel
theorem dX9_mark_19 : decode cX9_mark 19 = .ok (.iload_n 2, 1) := by decide +kernel
theorem dX9_mark_20 : decode cX9_mark 20 = .ok (.ifCond .eq 22, 3) := by decide +kernel
theorem dX9_mark_23 : decode cX9_mark 23 = .ok (.iload_n 3, 1) := by decide +kernel
theorem dX9_mark_24 : decode cX9_mark 24 = .ok (.ifCond .ne 18, 3) := by decide +kernel
theorem dX9_mark_27 : decode cX9_mark 27 = .ok (.aload_n 0, 1) := by decide +kernel
theorem dX9_mark_28 : decode cX9_mark 28 = .ok (.getfield 36, 3) := by decide +kernel
theorem dX9_mark_31 : decode cX9_mark 31 = .ok (.getfield 172, 3) := by decide +kernel
theorem dX9_mark_34 : decode cX9_mark 34 = .ok (.bipush 8, 2) := by decide +kernel
theorem dX9_mark_36 : decode cX9_mark 36 = .ok (.if_icmp .lt 6, 3) := by decide +kernel
theorem dX9_mark_39 : decode cX9_mark 39 = .ok (.bipush (-5), 2) := by decide +kernel
theorem dX9_mark_41 : decode cX9_mark 41 = .ok (.ireturn, 1) := by decide +kernel
theorem dX9_mark_42 : decode cX9_mark 42 = .ok (.aload_n 0, 1) := by decide +kernel
theorem dX9_mark_43 : decode cX9_mark 43 = .ok (.getfield 36, 3) := by decide +kernel
theorem dX9_mark_46 : decode cX9_mark 46 = .ok (.iload_n 1, 1) := by decide +kernel
theorem dX9_mark_47 : decode cX9_mark 47 = .ok (.iload_n 2, 1) := by decide +kernel
theorem dX9_mark_48 : decode cX9_mark 48 = .ok (.invokevirtual 175, 3) := by decide +kernel
theorem dX9_mark_51 : decode cX9_mark 51 = .ok (.iload_n 3, 1) := by decide +kernel
theorem dX9_mark_52 : decode cX9_mark 52 = .ok (.ifCond .eq 7, 3) := by decide +kernel
theorem dX9_mark_55 : decode cX9_mark 55 = .ok (.iconst 1, 1) := by decide +kernel
theorem dX9_mark_56 : decode cX9_mark 56 = .ok (.goto 4, 3) := by decide +kernel
theorem dX9_mark_59 : decode cX9_mark 59 = .ok (.iconst 0, 1) := by decide +kernel
theorem dX9_mark_60 : decode cX9_mark 60 = .ok (.ireturn, 1) := by decide +kernel
set_option maxRecDepth 20000 in
theorem ggX9_back_X8_takeBack : GoodIn wsX9_back wsX8_takeBack := goodIn_r _ [7, 8, 9, 10, 11, 12, 13, 14, 15, 16, 17, 18, 19, 20, 21, 22, 23, 24, 25, 26, 27, 28, 29, 30, 31, 32, 33, 34, 35, 36, 37, 38, 39, 40, 41, 42, 43, 52, 53, 54, 55, 56, 57, 58, 59, 60, 61, 62, 63, 64, 65, 66, 67, 68, 69, 70, 71, 72, 73, 74, 75, 76, 77, 78, 79, 80, 81] (by decide +kernel) (by decide +kernel)
set_option maxRecDepth 20000 in
theorem gX9_back_X8_takeBack : GoodIn wsX9_back (wsV RX9 180 RX8 yX8_takeBack wsX8_takeBack) := goodIn_app (goodIn_of _ (by decide +kernel)) ggX9_back_X8_takeBack
theorem dX9_back_0 : decode cX9_back 0 = .ok (.aload_n 0, 1) := by decide +kernel
theorem dX9_back_1 : decode cX9_back 1 = .ok (.getfield 22, 3) := by decide +kernel
theorem dX9_back_4 : decode cX9_back 4 = .ok (.getfield 179, 3) := by decide +kernel
theorem dX9_back_7 : decode cX9_back 7 = .ok (.ifCond .ne 6, 3) := by decide +kernel
theorem dX9_back_10 : decode cX9_back 10 = .ok (.bipush (-4), 2) := by decide +kernel
theorem dX9_back_12 : decode cX9_back 12 = .ok (.ireturn, 1) := by decide +kernel
theorem dX9_back_13 : decode cX9_back 13 = .ok (.aload_n 0, 1) := by decide +kernel
theorem dX9_back_14 : decode cX9_back 14 = .ok (.getfield 22, 3) := by decide +kernel
theorem dX9_back_17 : decode cX9_back 17 = .ok (.aload_n 0, 1) := by decide +kernel
theorem dX9_back_18 : decode cX9_back 18 = .ok (.getfield 10, 3) := by decide +kernel
theorem dX9_back_21 : decode cX9_back 21 = .ok (.invokevirtual 180, 3) := by decide +kernel
theorem dX9_back_24 : decode cX9_back 24 = .ok (.aload_n 0, 1) := by decide +kernel
theorem dX9_back_25 : decode cX9_back 25 = .ok (.getfield 22, 3) := by decide +kernel
theorem dX9_back_28 : decode cX9_back 28 = .ok (.getfield 179, 3) := by decide +kernel
theorem dX9_back_31 : decode cX9_back 31 = .ok (.ireturn, 1) := by decide +kernel
set_option maxRecDepth 20000 in
theorem ggX9_done_X9_isSymbol : GoodIn wsX9_done wsX9_isSymbol := goodIn_r _ [5] (by decide +kernel) (by decide +kernel)
set_option maxRecDepth 20000 in
theorem gX9_done_X9_isSymbol : GoodIn wsX9_done (va_wsS RX9 93 yX9_isSymbol wsX9_isSymbol) := goodIn_app (goodIn_of _ (by decide +kernel)) ggX9_done_X9_isSymbol
theorem dX9_done_0 : decode cX9_done 0 = .ok (.iload_n 1, 1) := by decide +kernel
theorem dX9_done_1 : decode cX9_done 1 = .ok (.invokestatic 93, 3) := by decide +kernel
theorem dX9_done_4 : decode cX9_done 4 = .ok (.ifCond .eq 15, 3) := by decide +kernel
theorem dX9_done_7 : decode cX9_done 7 = .ok (.aload_n 0, 1) := by decide +kernel
theorem dX9_done_8 : decode cX9_done 8 = .ok (.getfield 10, 3) := by decide +kernel
theorem dX9_done_11 : decode cX9_done 11 = .ok (.getfield 183, 3) := by decide +kernel
theorem dX9_done_14 : decode cX9_done 14 = .ok (.iload_n 1, 1) := by decide +kernel
theorem dX9_done_15 : decode cX9_done 15 = .ok (.iaload, 1) := by decide +kernel
theorem dX9_done_16 : decode cX9_done 16 = .ok (.goto 5, 3) := by decide +kernel
theorem dX9_done_19 : decode cX9_done 19 = .ok (.bipush (-2), 2) := by decide +kernel
theorem dX9_done_21 : decode cX9_done 21 = .ok (.ireturn, 1) := by decide +kernel
set_option maxRecDepth 20000 in
theorem ggX9_reach_X9_isAddress : GoodIn wsX9_reach wsX9_isAddress := goodIn_r _ [6] (by decide +kernel) (by decide +kernel)
set_option maxRecDepth 20000 in
theorem gX9_reach_X9_isAddress : GoodIn wsX9_reach (va_wsS RX9 55 yX9_isAddress wsX9_isAddress) := goodIn_app (goodIn_of _ (by decide +kernel)) ggX9_reach_X9_isAddress
set_option maxRecDepth 20000 in
theorem ggX9_reach_X1_follow : GoodIn wsX9_reach wsX1_follow := goodIn_r _ [11, 12, 13, 14, 15, 16, 17, 10, 18, 19, 20, 21, 22, 23, 24, 25, 26, 27, 28, 29, 30, 31, 32, 33, 5, 34, 35, 36, 37, 38, 39, 40, 56, 57, 58, 59, 60] (by decide +kernel) (by decide +kernel)
set_option maxRecDepth 20000 in
theorem gX9_reach_X1_follow : GoodIn wsX9_reach (wsV RX9 187 RX1 yX1_follow wsX1_follow) := goodIn_app (goodIn_of _ (by decide +kernel)) ggX9_reach_X1_follow
theorem dX9_reach_0 : decode cX9_reach 0 = .ok (.iload_n 1, 1) := by decide +kernel
theorem dX9_reach_1 : decode cX9_reach 1 = .ok (.invokestatic 55, 3) := by decide +kernel
theorem dX9_reach_4 : decode cX9_reach 4 = .ok (.ifCond .eq 21, 3) := by decide +kernel
theorem dX9_reach_7 : decode cX9_reach 7 = .ok (.aload_n 0, 1) := by decide +kernel
theorem dX9_reach_8 : decode cX9_reach 8 = .ok (.getfield 43, 3) := by decide +kernel
theorem dX9_reach_11 : decode cX9_reach 11 = .ok (.aload_n 0, 1) := by decide +kernel
theorem dX9_reach_12 : decode cX9_reach 12 = .ok (.getfield 10, 3) := by decide +kernel
theorem dX9_reach_15 : decode cX9_reach 15 = .ok (.getfield 60, 3) := by decide +kernel
theorem dX9_reach_18 : decode cX9_reach 18 = .ok (.iload_n 1, 1) := by decide +kernel
theorem dX9_reach_19 : decode cX9_reach 19 = .ok (.invokevirtual 187, 3) := by decide +kernel
theorem dX9_reach_22 : decode cX9_reach 22 = .ok (.goto 5, 3) := by decide +kernel
theorem dX9_reach_25 : decode cX9_reach 25 = .ok (.bipush (-2), 2) := by decide +kernel
theorem dX9_reach_27 : decode cX9_reach 27 = .ok (.ireturn, 1) := by decide +kernel
set_option maxRecDepth 20000 in
theorem ggX9_reached_X9_isAddress : GoodIn wsX9_reached wsX9_isAddress := goodIn_r _ [5] (by decide +kernel) (by decide +kernel)
set_option maxRecDepth 20000 in
theorem gX9_reached_X9_isAddress : GoodIn wsX9_reached (va_wsS RX9 55 yX9_isAddress wsX9_isAddress) := goodIn_app (goodIn_of _ (by decide +kernel)) ggX9_reached_X9_isAddress
set_option maxRecDepth 20000 in
theorem ggX9_reached_X1_isComeTo : GoodIn wsX9_reached wsX1_isComeTo := goodIn_r _ [10, 11, 20, 21, 22] (by decide +kernel) (by decide +kernel)
set_option maxRecDepth 20000 in
theorem gX9_reached_X1_isComeTo : GoodIn wsX9_reached (wsV RX9 191 RX1 yX1_isComeTo wsX1_isComeTo) := goodIn_app (goodIn_of _ (by decide +kernel)) ggX9_reached_X1_isComeTo
theorem dX9_reached_0 : decode cX9_reached 0 = .ok (.iload_n 1, 1) := by decide +kernel
theorem dX9_reached_1 : decode cX9_reached 1 = .ok (.invokestatic 55, 3) := by decide +kernel
theorem dX9_reached_4 : decode cX9_reached 4 = .ok (.ifCond .ne 6, 3) := by decide +kernel
theorem dX9_reached_7 : decode cX9_reached 7 = .ok (.bipush (-2), 2) := by decide +kernel
theorem dX9_reached_9 : decode cX9_reached 9 = .ok (.ireturn, 1) := by decide +kernel
theorem dX9_reached_10 : decode cX9_reached 10 = .ok (.aload_n 0, 1) := by decide +kernel
theorem dX9_reached_11 : decode cX9_reached 11 = .ok (.getfield 43, 3) := by decide +kernel
theorem dX9_reached_14 : decode cX9_reached 14 = .ok (.iload_n 1, 1) := by decide +kernel
theorem dX9_reached_15 : decode cX9_reached 15 = .ok (.invokevirtual 191, 3) := by decide +kernel
theorem dX9_reached_18 : decode cX9_reached 18 = .ok (.ifCond .eq 7, 3) := by decide +kernel
theorem dX9_reached_21 : decode cX9_reached 21 = .ok (.iconst 1, 1) := by decide +kernel
theorem dX9_reached_22 : decode cX9_reached 22 = .ok (.goto 4, 3) := by decide +kernel
theorem dX9_reached_25 : decode cX9_reached 25 = .ok (.iconst 0, 1) := by decide +kernel
theorem dX9_reached_26 : decode cX9_reached 26 = .ok (.ireturn, 1) := by decide +kernel
set_option maxRecDepth 20000 in
theorem ggX9_alters_X1_leastThatAlters : GoodIn wsX9_alters wsX1_leastThatAlters := goodIn_r _ [7, 8, 9, 10, 11, 12, 13, 14, 15, 16, 17, 6, 18, 19, 20, 21, 22, 23, 24, 25, 26, 27, 28, 29, 45, 46, 47, 48, 49] (by decide +kernel) (by decide +kernel)
set_option maxRecDepth 20000 in
theorem gX9_alters_X1_leastThatAlters : GoodIn wsX9_alters (wsV RX9 194 RX1 yX1_leastThatAlters wsX1_leastThatAlters) := goodIn_app (goodIn_of _ (by decide +kernel)) ggX9_alters_X1_leastThatAlters
theorem dX9_alters_0 : decode cX9_alters 0 = .ok (.aload_n 0, 1) := by decide +kernel
theorem dX9_alters_1 : decode cX9_alters 1 = .ok (.getfield 43, 3) := by decide +kernel
theorem dX9_alters_4 : decode cX9_alters 4 = .ok (.aload_n 0, 1) := by decide +kernel
theorem dX9_alters_5 : decode cX9_alters 5 = .ok (.getfield 10, 3) := by decide +kernel
theorem dX9_alters_8 : decode cX9_alters 8 = .ok (.getfield 60, 3) := by decide +kernel
theorem dX9_alters_11 : decode cX9_alters 11 = .ok (.invokevirtual 194, 3) := by decide +kernel
theorem dX9_alters_14 : decode cX9_alters 14 = .ok (.ireturn, 1) := by decide +kernel
set_option maxRecDepth 20000 in
theorem ggX9_image_X3_copyFrom : GoodIn wsX9_image wsX3_copyFrom := goodIn_r _ [8, 9, 10, 11, 12, 13, 14, 15, 16, 17, 18, 19, 20, 21, 22, 23, 24, 25, 26, 27, 28, 29, 30, 31, 32, 33, 34, 35, 36, 37, 38, 39, 40, 41, 42, 43, 44, 45, 46, 47, 48, 49, 50, 51, 52, 53, 62, 63, 64, 65, 66, 67, 68, 69, 70, 71, 72, 73, 74, 75, 76, 77, 78, 79] (by decide +kernel) (by decide +kernel)
set_option maxRecDepth 20000 in
theorem gX9_image_X3_copyFrom : GoodIn wsX9_image (wsV RX9 198 RX3 yX3_copyFrom wsX3_copyFrom) := goodIn_app (goodIn_of _ (by decide +kernel)) ggX9_image_X3_copyFrom
theorem dX9_image_0 : decode cX9_image 0 = .ok (.aload_n 0, 1) := by decide +kernel
theorem dX9_image_1 : decode cX9_image 1 = .ok (.getfield 16, 3) := by decide +kernel
theorem dX9_image_4 : decode cX9_image 4 = .ok (.aload_n 0, 1) := by decide +kernel
theorem dX9_image_5 : decode cX9_image 5 = .ok (.getfield 10, 3) := by decide +kernel
theorem dX9_image_8 : decode cX9_image 8 = .ok (.invokevirtual 198, 3) := by decide +kernel
theorem dX9_image_11 : decode cX9_image 11 = .ok (.aload_n 0, 1) := by decide +kernel
theorem dX9_image_12 : decode cX9_image 12 = .ok (.iconst 1, 1) := by decide +kernel
theorem dX9_image_13 : decode cX9_image 13 = .ok (.putfield 47, 3) := by decide +kernel
theorem dX9_image_16 : decode cX9_image 16 = .ok (.iconst 1, 1) := by decide +kernel
theorem dX9_image_17 : decode cX9_image 17 = .ok (.ireturn, 1) := by decide +kernel
set_option maxRecDepth 20000 in
theorem ggX9_recall_X3_copyFrom : GoodIn wsX9_recall wsX3_copyFrom := goodIn_r _ [9, 10, 11, 12, 13, 14, 15, 16, 17, 18, 19, 20, 21, 22, 23, 24, 25, 26, 27, 28, 29, 30, 31, 32, 33, 34, 35, 36, 37, 38, 39, 40, 41, 42, 43, 44, 45, 46, 47, 48, 49, 50, 51, 52, 53, 54, 69, 70, 71, 72, 73, 74, 75, 76, 77, 78, 79, 80, 81, 82, 83, 84, 85, 86] (by decide +kernel) (by decide +kernel)
set_option maxRecDepth 20000 in
theorem gX9_recall_X3_copyFrom : GoodIn wsX9_recall (wsV RX9 198 RX3 yX3_copyFrom wsX3_copyFrom) := goodIn_app (goodIn_of _ (by decide +kernel)) ggX9_recall_X3_copyFrom
set_option maxRecDepth 20000 in
theorem ggX9_recall_X8_forget : GoodIn wsX9_recall wsX8_forget := goodIn_r _ [59, 60, 87, 88, 89, 90, 91, 92, 93, 94, 95, 96, 97, 98] (by decide +kernel) (by decide +kernel)
set_option maxRecDepth 20000 in
theorem gX9_recall_X8_forget : GoodIn wsX9_recall (wsV RX9 70 RX8 yX8_forget wsX8_forget) := goodIn_app (goodIn_of _ (by decide +kernel)) ggX9_recall_X8_forget
theorem dX9_recall_0 : decode cX9_recall 0 = .ok (.aload_n 0, 1) := by decide +kernel
theorem dX9_recall_1 : decode cX9_recall 1 = .ok (.getfield 47, 3) := by decide +kernel
theorem dX9_recall_4 : decode cX9_recall 4 = .ok (.ifCond .ne 6, 3) := by decide +kernel
theorem dX9_recall_7 : decode cX9_recall 7 = .ok (.bipush (-4), 2) := by decide +kernel
theorem dX9_recall_9 : decode cX9_recall 9 = .ok (.ireturn, 1) := by decide +kernel
theorem dX9_recall_10 : decode cX9_recall 10 = .ok (.aload_n 0, 1) := by decide +kernel
theorem dX9_recall_11 : decode cX9_recall 11 = .ok (.getfield 10, 3) := by decide +kernel
theorem dX9_recall_14 : decode cX9_recall 14 = .ok (.aload_n 0, 1) := by decide +kernel
theorem dX9_recall_15 : decode cX9_recall 15 = .ok (.getfield 16, 3) := by decide +kernel
theorem dX9_recall_18 : decode cX9_recall 18 = .ok (.invokevirtual 198, 3) := by decide +kernel
theorem dX9_recall_21 : decode cX9_recall 21 = .ok (.aload_n 0, 1) := by decide +kernel
theorem dX9_recall_22 : decode cX9_recall 22 = .ok (.getfield 22, 3) := by decide +kernel
theorem dX9_recall_25 : decode cX9_recall 25 = .ok (.invokevirtual 70, 3) := by decide +kernel
theorem dX9_recall_28 : decode cX9_recall 28 = .ok (.iconst 1, 1) := by decide +kernel
theorem dX9_recall_29 : decode cX9_recall 29 = .ok (.ireturn, 1) := by decide +kernel
theorem dX9_count_0 : decode cX9_count 0 = .ok (.iload_n 1, 1) := by decide +kernel
theorem dX9_count_1 : decode cX9_count 1 = .ok (.tableswitch 146 0 8 #[51, 59, 70, 81, 92, 111, 122, 130, 138], 51) := by decide +kernel
theorem dX9_count_52 : decode cX9_count 52 = .ok (.aload_n 0, 1) := by decide +kernel
theorem dX9_count_53 : decode cX9_count 53 = .ok (.getfield 10, 3) := by decide +kernel
theorem dX9_count_56 : decode cX9_count 56 = .ok (.getfield 155, 3) := by decide +kernel
theorem dX9_count_59 : decode cX9_count 59 = .ok (.ireturn, 1) := by decide +kernel
theorem dX9_count_60 : decode cX9_count 60 = .ok (.aload_n 0, 1) := by decide +kernel
theorem dX9_count_61 : decode cX9_count 61 = .ok (.getfield 10, 3) := by decide +kernel
theorem dX9_count_64 : decode cX9_count 64 = .ok (.getfield 122, 3) := by decide +kernel
theorem dX9_count_67 : decode cX9_count 67 = .ok (.getfield 126, 3) := by decide +kernel
theorem dX9_count_70 : decode cX9_count 70 = .ok (.ireturn, 1) := by decide +kernel
theorem dX9_count_71 : decode cX9_count 71 = .ok (.aload_n 0, 1) := by decide +kernel
theorem dX9_count_72 : decode cX9_count 72 = .ok (.getfield 10, 3) := by decide +kernel
theorem dX9_count_75 : decode cX9_count 75 = .ok (.getfield 122, 3) := by decide +kernel
theorem dX9_count_78 : decode cX9_count 78 = .ok (.getfield 135, 3) := by decide +kernel
theorem dX9_count_81 : decode cX9_count 81 = .ok (.ireturn, 1) := by decide +kernel
theorem dX9_count_82 : decode cX9_count 82 = .ok (.aload_n 0, 1) := by decide +kernel
theorem dX9_count_83 : decode cX9_count 83 = .ok (.getfield 10, 3) := by decide +kernel
theorem dX9_count_86 : decode cX9_count 86 = .ok (.getfield 138, 3) := by decide +kernel
theorem dX9_count_89 : decode cX9_count 89 = .ok (.getfield 142, 3) := by decide +kernel
theorem dX9_count_92 : decode cX9_count 92 = .ok (.ireturn, 1) := by decide +kernel
theorem dX9_count_93 : decode cX9_count 93 = .ok (.aload_n 0, 1) := by decide +kernel
theorem dX9_count_94 : decode cX9_count 94 = .ok (.getfield 10, 3) := by decide +kernel
theorem dX9_count_97 : decode cX9_count 97 = .ok (.getfield 138, 3) := by decide +kernel
theorem dX9_count_100 : decode cX9_count 100 = .ok (.getfield 201, 3) := by decide +kernel
theorem dX9_count_103 : decode cX9_count 103 = .ok (.ifCond .eq 7, 3) := by decide +kernel
theorem dX9_count_106 : decode cX9_count 106 = .ok (.iconst 1, 1) := by decide +kernel
theorem dX9_count_107 : decode cX9_count 107 = .ok (.goto 4, 3) := by decide +kernel
theorem dX9_count_110 : decode cX9_count 110 = .ok (.iconst 0, 1) := by decide +kernel
theorem dX9_count_111 : decode cX9_count 111 = .ok (.ireturn, 1) := by decide +kernel
theorem dX9_count_112 : decode cX9_count 112 = .ok (.aload_n 0, 1) := by decide +kernel
theorem dX9_count_113 : decode cX9_count 113 = .ok (.getfield 10, 3) := by decide +kernel
theorem dX9_count_116 : decode cX9_count 116 = .ok (.getfield 138, 3) := by decide +kernel
theorem dX9_count_119 : decode cX9_count 119 = .ok (.getfield 204, 3) := by decide +kernel
theorem dX9_count_122 : decode cX9_count 122 = .ok (.ireturn, 1) := by decide +kernel
theorem dX9_count_123 : decode cX9_count 123 = .ok (.aload_n 0, 1) := by decide +kernel
theorem dX9_count_124 : decode cX9_count 124 = .ok (.getfield 36, 3) := by decide +kernel
theorem dX9_count_127 : decode cX9_count 127 = .ok (.getfield 172, 3) := by decide +kernel
theorem dX9_count_130 : decode cX9_count 130 = .ok (.ireturn, 1) := by decide +kernel
theorem dX9_count_131 : decode cX9_count 131 = .ok (.aload_n 0, 1) := by decide +kernel
theorem dX9_count_132 : decode cX9_count 132 = .ok (.getfield 22, 3) := by decide +kernel
theorem dX9_count_135 : decode cX9_count 135 = .ok (.getfield 179, 3) := by decide +kernel
theorem dX9_count_138 : decode cX9_count 138 = .ok (.ireturn, 1) := by decide +kernel
theorem dX9_count_139 : decode cX9_count 139 = .ok (.aload_n 0, 1) := by decide +kernel
theorem dX9_count_140 : decode cX9_count 140 = .ok (.getfield 29, 3) := by decide +kernel
theorem dX9_count_143 : decode cX9_count 143 = .ok (.getfield 207, 3) := by decide +kernel
theorem dX9_count_146 : decode cX9_count 146 = .ok (.ireturn, 1) := by decide +kernel
theorem dX9_count_147 : decode cX9_count 147 = .ok (.bipush (-3), 2) := by decide +kernel
theorem dX9_count_149 : decode cX9_count 149 = .ok (.ireturn, 1) := by decide +kernel
theorem dX9_isAddress_0 : decode cX9_isAddress 0 = .ok (.iload_n 0, 1) := by decide +kernel
theorem dX9_isAddress_1 : decode cX9_isAddress 1 = .ok (.ifCond .lt 14, 3) := by decide +kernel
theorem dX9_isAddress_4 : decode cX9_isAddress 4 = .ok (.iload_n 0, 1) := by decide +kernel
theorem dX9_isAddress_5 : decode cX9_isAddress 5 = .ok (.sipush 256, 3) := by decide +kernel
theorem dX9_isAddress_8 : decode cX9_isAddress 8 = .ok (.if_icmp .ge 7, 3) := by decide +kernel
theorem dX9_isAddress_11 : decode cX9_isAddress 11 = .ok (.iconst 1, 1) := by decide +kernel
theorem dX9_isAddress_12 : decode cX9_isAddress 12 = .ok (.goto 4, 3) := by decide +kernel
theorem dX9_isAddress_15 : decode cX9_isAddress 15 = .ok (.iconst 0, 1) := by decide +kernel
