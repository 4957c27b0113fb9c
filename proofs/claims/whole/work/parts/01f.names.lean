theorem dX9_isAddress_16 : decode cX9_isAddress 16 = .ok (.ireturn, 1) := by decide +kernel
theorem dX9_isSymbol_0 : decode cX9_isSymbol 0 = .ok (.iload_n 0, 1) := by decide +kernel
theorem dX9_isSymbol_1 : decode cX9_isSymbol 1 = .ok (.ifCond .lt 13, 3) := by decide +kernel
theorem dX9_isSymbol_4 : decode cX9_isSymbol 4 = .ok (.iload_n 0, 1) := by decide +kernel
theorem dX9_isSymbol_5 : decode cX9_isSymbol 5 = .ok (.bipush 32, 2) := by decide +kernel
theorem dX9_isSymbol_7 : decode cX9_isSymbol 7 = .ok (.if_icmp .ge 7, 3) := by decide +kernel
theorem dX9_isSymbol_10 : decode cX9_isSymbol 10 = .ok (.iconst 1, 1) := by decide +kernel
theorem dX9_isSymbol_11 : decode cX9_isSymbol 11 = .ok (.goto 4, 3) := by decide +kernel
theorem dX9_isSymbol_14 : decode cX9_isSymbol 14 = .ok (.iconst 0, 1) := by decide +kernel
theorem dX9_isSymbol_15 : decode cX9_isSymbol 15 = .ok (.ireturn, 1) := by decide +kernel
theorem dX9_behind_0 : decode cX9_behind 0 = .ok (.iload_n 0, 1) := by decide +kernel
theorem dX9_behind_1 : decode cX9_behind 1 = .ok (.iconst 1, 1) := by decide +kernel
theorem dX9_behind_2 : decode cX9_behind 2 = .ok (.iadd, 1) := by decide +kernel
theorem dX9_behind_3 : decode cX9_behind 3 = .ok (.sipush 255, 3) := by decide +kernel
theorem dX9_behind_6 : decode cX9_behind 6 = .ok (.iand, 1) := by decide +kernel
theorem dX9_behind_7 : decode cX9_behind 7 = .ok (.ireturn, 1) := by decide +kernel
theorem dX9_functionOf_0 : decode cX9_functionOf 0 = .ok (.iload_n 0, 1) := by decide +kernel
theorem dX9_functionOf_1 : decode cX9_functionOf 1 = .ok (.bipush 12, 2) := by decide +kernel
theorem dX9_functionOf_3 : decode cX9_functionOf 3 = .ok (.ishr, 1) := by decide +kernel
theorem dX9_functionOf_4 : decode cX9_functionOf 4 = .ok (.bipush 31, 2) := by decide +kernel
theorem dX9_functionOf_6 : decode cX9_functionOf 6 = .ok (.iand, 1) := by decide +kernel
theorem dX9_functionOf_7 : decode cX9_functionOf 7 = .ok (.ireturn, 1) := by decide +kernel
theorem dX9_addressOf_0 : decode cX9_addressOf 0 = .ok (.iload_n 0, 1) := by decide +kernel
theorem dX9_addressOf_1 : decode cX9_addressOf 1 = .ok (.iconst 1, 1) := by decide +kernel
theorem dX9_addressOf_2 : decode cX9_addressOf 2 = .ok (.ishr, 1) := by decide +kernel
theorem dX9_addressOf_3 : decode cX9_addressOf 3 = .ok (.sipush 255, 3) := by decide +kernel
theorem dX9_addressOf_6 : decode cX9_addressOf 6 = .ok (.iand, 1) := by decide +kernel
theorem dX9_addressOf_7 : decode cX9_addressOf 7 = .ok (.ireturn, 1) := by decide +kernel
theorem dX9_isLongOrder_0 : decode cX9_isLongOrder 0 = .ok (.iload_n 0, 1) := by decide +kernel
theorem dX9_isLongOrder_1 : decode cX9_isLongOrder 1 = .ok (.iconst 1, 1) := by decide +kernel
theorem dX9_isLongOrder_2 : decode cX9_isLongOrder 2 = .ok (.iand, 1) := by decide +kernel
theorem dX9_isLongOrder_3 : decode cX9_isLongOrder 3 = .ok (.iconst 1, 1) := by decide +kernel
theorem dX9_isLongOrder_4 : decode cX9_isLongOrder 4 = .ok (.if_icmp .ne 7, 3) := by decide +kernel
theorem dX9_isLongOrder_7 : decode cX9_isLongOrder 7 = .ok (.iconst 1, 1) := by decide +kernel
theorem dX9_isLongOrder_8 : decode cX9_isLongOrder 8 = .ok (.goto 4, 3) := by decide +kernel
theorem dX9_isLongOrder_11 : decode cX9_isLongOrder 11 = .ok (.iconst 0, 1) := by decide +kernel
theorem dX9_isLongOrder_12 : decode cX9_isLongOrder 12 = .ok (.ireturn, 1) := by decide +kernel
theorem dX9_signedLong_0 : decode cX9_signedLong 0 = .ok (.lload_n 0, 1) := by decide +kernel
theorem dX9_signedLong_1 : decode cX9_signedLong 1 = .ok (.bipush 29, 2) := by decide +kernel
theorem dX9_signedLong_3 : decode cX9_signedLong 3 = .ok (.lshl, 1) := by decide +kernel
theorem dX9_signedLong_4 : decode cX9_signedLong 4 = .ok (.bipush 29, 2) := by decide +kernel
theorem dX9_signedLong_6 : decode cX9_signedLong 6 = .ok (.lshr, 1) := by decide +kernel
theorem dX9_signedLong_7 : decode cX9_signedLong 7 = .ok (.lreturn, 1) := by decide +kernel
theorem dX9_isLegal_0 : decode cX9_isLegal 0 = .ok (.iload_n 0, 1) := by decide +kernel
theorem dX9_isLegal_1 : decode cX9_isLegal 1 = .ok (.tableswitch 133 3 31 #[131, 131, 131, 131, 131, 131, 131, 133, 133, 131, 131, 133, 133, 133, 131, 133, 133, 133, 131, 131, 133, 133, 131, 131, 131, 131, 133, 131, 131], 131) := by decide +kernel
theorem dX9_isLegal_132 : decode cX9_isLegal 132 = .ok (.iconst 1, 1) := by decide +kernel
theorem dX9_isLegal_133 : decode cX9_isLegal 133 = .ok (.ireturn, 1) := by decide +kernel
theorem dX9_isLegal_134 : decode cX9_isLegal 134 = .ok (.iconst 0, 1) := by decide +kernel
theorem dX9_isLegal_135 : decode cX9_isLegal 135 = .ok (.ireturn, 1) := by decide +kernel
theorem dX10_init_0 : decode cX10_init 0 = .ok (.aload_n 0, 1) := by decide +kernel
theorem dX10_init_1 : decode cX10_init 1 = .ok (.invokespecial 1, 3) := by decide +kernel
theorem dX10_init_4 : decode cX10_init 4 = .ok (.aload_n 0, 1) := by decide +kernel
theorem dX10_init_5 : decode cX10_init 5 = .ok (.sipush 256, 3) := by decide +kernel
theorem dX10_init_8 : decode cX10_init 8 = .ok (.newarray .int, 2) := by decide +kernel
theorem dX10_init_10 : decode cX10_init 10 = .ok (.putfield 7, 3) := by decide +kernel
theorem dX10_init_13 : decode cX10_init 13 = .ok (.aload_n 0, 1) := by decide +kernel
theorem dX10_init_14 : decode cX10_init 14 = .ok (.sipush 128, 3) := by decide +kernel
theorem dX10_init_17 : decode cX10_init 17 = .ok (.newarray .int, 2) := by decide +kernel
theorem dX10_init_19 : decode cX10_init 19 = .ok (.putfield 13, 3) := by decide +kernel
theorem dX10_init_22 : decode cX10_init 22 = .ok (.aload_n 0, 1) := by decide +kernel
theorem dX10_init_23 : decode cX10_init 23 = .ok (.sipush 1000, 3) := by decide +kernel
theorem dX10_init_26 : decode cX10_init 26 = .ok (.newarray .int, 2) := by decide +kernel
theorem dX10_init_28 : decode cX10_init 28 = .ok (.putfield 16, 3) := by decide +kernel
theorem dX10_init_31 : decode cX10_init 31 = .ok (.aload_n 0, 1) := by decide +kernel
theorem dX10_init_32 : decode cX10_init 32 = .ok (.sipush 400, 3) := by decide +kernel
theorem dX10_init_35 : decode cX10_init 35 = .ok (.newarray .int, 2) := by decide +kernel
theorem dX10_init_37 : decode cX10_init 37 = .ok (.putfield 19, 3) := by decide +kernel
theorem dX10_init_40 : decode cX10_init 40 = .ok (.aload_n 0, 1) := by decide +kernel
theorem dX10_init_41 : decode cX10_init 41 = .ok (.iconst (-1), 1) := by decide +kernel
theorem dX10_init_42 : decode cX10_init 42 = .ok (.putfield 22, 3) := by decide +kernel
theorem dX10_init_45 : decode cX10_init 45 = .ok (.aload_n 0, 1) := by decide +kernel
theorem dX10_init_46 : decode cX10_init 46 = .ok (.bipush 32, 2) := by decide +kernel
theorem dX10_init_48 : decode cX10_init 48 = .ok (.newarray .int, 2) := by decide +kernel
theorem dX10_init_50 : decode cX10_init 50 = .ok (.putfield 26, 3) := by decide +kernel
theorem dX10_init_53 : decode cX10_init 53 = .ok (.aload_n 0, 1) := by decide +kernel
theorem dX10_init_54 : decode cX10_init 54 = .ok (.sipush 256, 3) := by decide +kernel
theorem dX10_init_57 : decode cX10_init 57 = .ok (.newarray .boolean, 2) := by decide +kernel
theorem dX10_init_59 : decode cX10_init 59 = .ok (.putfield 29, 3) := by decide +kernel
theorem dX10_init_62 : decode cX10_init 62 = .ok (.aload_n 0, 1) := by decide +kernel
theorem dX10_init_63 : decode cX10_init 63 = .ok (.iconst (-1), 1) := by decide +kernel
theorem dX10_init_64 : decode cX10_init 64 = .ok (.putfield 33, 3) := by decide +kernel
theorem dX10_init_67 : decode cX10_init 67 = .ok (.aload_n 0, 1) := by decide +kernel
theorem dX10_init_68 : decode cX10_init 68 = .ok (.iconst (-1), 1) := by decide +kernel
theorem dX10_init_69 : decode cX10_init 69 = .ok (.putfield 36, 3) := by decide +kernel
theorem dX10_init_72 : decode cX10_init 72 = .ok (.aload_n 0, 1) := by decide +kernel
theorem dX10_init_73 : decode cX10_init 73 = .ok (.iconst (-1), 1) := by decide +kernel
theorem dX10_init_74 : decode cX10_init 74 = .ok (.putfield 39, 3) := by decide +kernel
theorem dX10_init_77 : decode cX10_init 77 = .ok (.aload_n 0, 1) := by decide +kernel
theorem dX10_init_78 : decode cX10_init 78 = .ok (.bipush 100, 2) := by decide +kernel
theorem dX10_init_80 : decode cX10_init 80 = .ok (.newarray .long, 2) := by decide +kernel
theorem dX10_init_82 : decode cX10_init 82 = .ok (.putfield 42, 3) := by decide +kernel
theorem dX10_init_85 : decode cX10_init 85 = .ok (.aload_n 0, 1) := by decide +kernel
theorem dX10_init_86 : decode cX10_init 86 = .ok (.bipush 100, 2) := by decide +kernel
theorem dX10_init_88 : decode cX10_init 88 = .ok (.newarray .long, 2) := by decide +kernel
theorem dX10_init_90 : decode cX10_init 90 = .ok (.putfield 46, 3) := by decide +kernel
theorem dX10_init_93 : decode cX10_init 93 = .ok (.aload_n 0, 1) := by decide +kernel
theorem dX10_init_94 : decode cX10_init 94 = .ok (.bipush 100, 2) := by decide +kernel
theorem dX10_init_96 : decode cX10_init 96 = .ok (.newarray .long, 2) := by decide +kernel
theorem dX10_init_98 : decode cX10_init 98 = .ok (.putfield 49, 3) := by decide +kernel
theorem dX10_init_101 : decode cX10_init 101 = .ok (.aload_n 0, 1) := by decide +kernel
theorem dX10_init_102 : decode cX10_init 102 = .ok (.bipush 100, 2) := by decide +kernel
theorem dX10_init_104 : decode cX10_init 104 = .ok (.newarray .int, 2) := by decide +kernel
theorem dX10_init_106 : decode cX10_init 106 = .ok (.putfield 52, 3) := by decide +kernel
theorem dX10_init_109 : decode cX10_init 109 = .ok (.aload_n 0, 1) := by decide +kernel
theorem dX10_init_110 : decode cX10_init 110 = .ok (.bipush 100, 2) := by decide +kernel
theorem dX10_init_112 : decode cX10_init 112 = .ok (.newarray .int, 2) := by decide +kernel
theorem dX10_init_114 : decode cX10_init 114 = .ok (.putfield 55, 3) := by decide +kernel
theorem dX10_init_117 : decode cX10_init 117 = .ok (.aload_n 0, 1) := by decide +kernel
theorem dX10_init_118 : decode cX10_init 118 = .ok (.bipush 100, 2) := by decide +kernel
theorem dX10_init_120 : decode cX10_init 120 = .ok (.newarray .int, 2) := by decide +kernel
theorem dX10_init_122 : decode cX10_init 122 = .ok (.putfield 58, 3) := by decide +kernel
theorem dX10_init_125 : decode cX10_init 125 = .ok (.aload_n 0, 1) := by decide +kernel
theorem dX10_init_126 : decode cX10_init 126 = .ok (.bipush 100, 2) := by decide +kernel
theorem dX10_init_128 : decode cX10_init 128 = .ok (.newarray .boolean, 2) := by decide +kernel
theorem dX10_init_130 : decode cX10_init 130 = .ok (.putfield 61, 3) := by decide +kernel
theorem dX10_init_133 : decode cX10_init 133 = .ok (.aload_n 0, 1) := by decide +kernel
theorem dX10_init_134 : decode cX10_init 134 = .ok (.bipush 100, 2) := by decide +kernel
theorem dX10_init_136 : decode cX10_init 136 = .ok (.newarray .int, 2) := by decide +kernel
theorem dX10_init_138 : decode cX10_init 138 = .ok (.putfield 64, 3) := by decide +kernel
theorem dX10_init_141 : decode cX10_init 141 = .ok (.aload_n 0, 1) := by decide +kernel
theorem dX10_init_142 : decode cX10_init 142 = .ok (.bipush 100, 2) := by decide +kernel
theorem dX10_init_144 : decode cX10_init 144 = .ok (.newarray .int, 2) := by decide +kernel
theorem dX10_init_146 : decode cX10_init 146 = .ok (.putfield 67, 3) := by decide +kernel
theorem dX10_init_149 : decode cX10_init 149 = .ok (.aload_n 0, 1) := by decide +kernel
theorem dX10_init_150 : decode cX10_init 150 = .ok (.bipush 100, 2) := by decide +kernel
theorem dX10_init_152 : decode cX10_init 152 = .ok (.newarray .int, 2) := by decide +kernel
theorem dX10_init_154 : decode cX10_init 154 = .ok (.putfield 70, 3) := by decide +kernel
theorem dX10_init_157 : decode cX10_init 157 = .ok (.aload_n 0, 1) := by decide +kernel
theorem dX10_init_158 : decode cX10_init 158 = .ok (.bipush 100, 2) := by decide +kernel
theorem dX10_init_160 : decode cX10_init 160 = .ok (.newarray .int, 2) := by decide +kernel
theorem dX10_init_162 : decode cX10_init 162 = .ok (.putfield 73, 3) := by decide +kernel
theorem dX10_init_165 : decode cX10_init 165 = .ok (.aload_n 0, 1) := by decide +kernel
theorem dX10_init_166 : decode cX10_init 166 = .ok (.bipush 100, 2) := by decide +kernel
theorem dX10_init_168 : decode cX10_init 168 = .ok (.newarray .int, 2) := by decide +kernel
theorem dX10_init_170 : decode cX10_init 170 = .ok (.putfield 76, 3) := by decide +kernel
theorem dX10_init_173 : decode cX10_init 173 = .ok (.aload_n 0, 1) := by decide +kernel
theorem dX10_init_174 : decode cX10_init 174 = .ok (.bipush 100, 2) := by decide +kernel
theorem dX10_init_176 : decode cX10_init 176 = .ok (.newarray .int, 2) := by decide +kernel
theorem dX10_init_178 : decode cX10_init 178 = .ok (.putfield 79, 3) := by decide +kernel
theorem dX10_init_181 : decode cX10_init 181 = .ok (.aload_n 0, 1) := by decide +kernel
theorem dX10_init_182 : decode cX10_init 182 = .ok (.sipush 256, 3) := by decide +kernel
theorem dX10_init_185 : decode cX10_init 185 = .ok (.newarray .boolean, 2) := by decide +kernel
theorem dX10_init_187 : decode cX10_init 187 = .ok (.putfield 82, 3) := by decide +kernel
theorem dX10_init_190 : decode cX10_init 190 = .ok (.aload_n 0, 1) := by decide +kernel
theorem dX10_init_191 : decode cX10_init 191 = .ok (.sipush 256, 3) := by decide +kernel
theorem dX10_init_194 : decode cX10_init 194 = .ok (.newarray .int, 2) := by decide +kernel
theorem dX10_init_196 : decode cX10_init 196 = .ok (.putfield 85, 3) := by decide +kernel
theorem dX10_init_199 : decode cX10_init 199 = .ok (.aload_n 0, 1) := by decide +kernel
theorem dX10_init_200 : decode cX10_init 200 = .ok (.sipush 128, 3) := by decide +kernel
theorem dX10_init_203 : decode cX10_init 203 = .ok (.newarray .int, 2) := by decide +kernel
theorem dX10_init_205 : decode cX10_init 205 = .ok (.putfield 88, 3) := by decide +kernel
theorem dX10_init_208 : decode cX10_init 208 = .ok (.aload_n 0, 1) := by decide +kernel
theorem dX10_init_209 : decode cX10_init 209 = .ok (.sipush 1000, 3) := by decide +kernel
theorem dX10_init_212 : decode cX10_init 212 = .ok (.newarray .int, 2) := by decide +kernel
theorem dX10_init_214 : decode cX10_init 214 = .ok (.putfield 91, 3) := by decide +kernel
theorem dX10_init_217 : decode cX10_init 217 = .ok (.aload_n 0, 1) := by decide +kernel
theorem dX10_init_218 : decode cX10_init 218 = .ok (.sipush 400, 3) := by decide +kernel
theorem dX10_init_221 : decode cX10_init 221 = .ok (.newarray .int, 2) := by decide +kernel
theorem dX10_init_223 : decode cX10_init 223 = .ok (.putfield 94, 3) := by decide +kernel
theorem dX10_init_226 : decode cX10_init 226 = .ok (.aload_n 0, 1) := by decide +kernel
theorem dX10_init_227 : decode cX10_init 227 = .ok (.bipush 32, 2) := by decide +kernel
theorem dX10_init_229 : decode cX10_init 229 = .ok (.newarray .int, 2) := by decide +kernel
theorem dX10_init_231 : decode cX10_init 231 = .ok (.putfield 97, 3) := by decide +kernel
theorem dX10_init_234 : decode cX10_init 234 = .ok (.return_, 1) := by decide +kernel
theorem dX10_in_0 : decode cX10_in 0 = .ok (.lload_n 0, 1) := by decide +kernel
theorem dX10_in_1 : decode cX10_in 1 = .ok (.lload_n 2, 1) := by decide +kernel
theorem dX10_in_2 : decode cX10_in 2 = .ok (.lcmp, 1) := by decide +kernel
theorem dX10_in_3 : decode cX10_in 3 = .ok (.ifCond .lt 14, 3) := by decide +kernel
theorem dX10_in_6 : decode cX10_in 6 = .ok (.lload_n 0, 1) := by decide +kernel
theorem dX10_in_7 : decode cX10_in 7 = .ok (.lload 4, 2) := by decide +kernel
theorem dX10_in_9 : decode cX10_in 9 = .ok (.lcmp, 1) := by decide +kernel
theorem dX10_in_10 : decode cX10_in 10 = .ok (.ifCond .gt 7, 3) := by decide +kernel
theorem dX10_in_13 : decode cX10_in 13 = .ok (.iconst 1, 1) := by decide +kernel
theorem dX10_in_14 : decode cX10_in 14 = .ok (.goto 4, 3) := by decide +kernel
theorem dX10_in_17 : decode cX10_in 17 = .ok (.iconst 0, 1) := by decide +kernel
theorem dX10_in_18 : decode cX10_in 18 = .ok (.ireturn, 1) := by decide +kernel
set_option maxRecDepth 20000 in
theorem ggX10_isAddress_X10_in : GoodIn wsX10_isAddress wsX10_in := goodIn_r _ [5] (by decide +kernel) (by decide +kernel)
set_option maxRecDepth 20000 in
theorem gX10_isAddress_X10_in : GoodIn wsX10_isAddress (va_wsS RX10 102 yX10_in wsX10_in) := goodIn_app (goodIn_of _ (by decide +kernel)) ggX10_isAddress_X10_in
theorem dX10_isAddress_0 : decode cX10_isAddress 0 = .ok (.iload_n 0, 1) := by decide +kernel
theorem dX10_isAddress_1 : decode cX10_isAddress 1 = .ok (.i2l, 1) := by decide +kernel
theorem dX10_isAddress_2 : decode cX10_isAddress 2 = .ok (.lconst 0, 1) := by decide +kernel
theorem dX10_isAddress_3 : decode cX10_isAddress 3 = .ok (.ldc2_w 100, 3) := by decide +kernel
theorem dX10_isAddress_6 : decode cX10_isAddress 6 = .ok (.invokestatic 102, 3) := by decide +kernel
theorem dX10_isAddress_9 : decode cX10_isAddress 9 = .ok (.ireturn, 1) := by decide +kernel
theorem dX10_signed_0 : decode cX10_signed 0 = .ok (.lload_n 0, 1) := by decide +kernel
theorem dX10_signed_1 : decode cX10_signed 1 = .ok (.bipush 64, 2) := by decide +kernel
theorem dX10_signed_3 : decode cX10_signed 3 = .ok (.iload_n 2, 1) := by decide +kernel
theorem dX10_signed_4 : decode cX10_signed 4 = .ok (.isub, 1) := by decide +kernel
theorem dX10_signed_5 : decode cX10_signed 5 = .ok (.lshl, 1) := by decide +kernel
theorem dX10_signed_6 : decode cX10_signed 6 = .ok (.bipush 64, 2) := by decide +kernel
theorem dX10_signed_8 : decode cX10_signed 8 = .ok (.iload_n 2, 1) := by decide +kernel
theorem dX10_signed_9 : decode cX10_signed 9 = .ok (.isub, 1) := by decide +kernel
theorem dX10_signed_10 : decode cX10_signed 10 = .ok (.lshr, 1) := by decide +kernel
theorem dX10_signed_11 : decode cX10_signed 11 = .ok (.lreturn, 1) := by decide +kernel
theorem dX10_longBits_0 : decode cX10_longBits 0 = .ok (.iload_n 1, 1) := by decide +kernel
theorem dX10_longBits_1 : decode cX10_longBits 1 = .ok (.sipush 254, 3) := by decide +kernel
theorem dX10_longBits_4 : decode cX10_longBits 4 = .ok (.iand, 1) := by decide +kernel
theorem dX10_longBits_5 : decode cX10_longBits 5 = .ok (.istore_n 2, 1) := by decide +kernel
theorem dX10_longBits_6 : decode cX10_longBits 6 = .ok (.aload_n 0, 1) := by decide +kernel
theorem dX10_longBits_7 : decode cX10_longBits 7 = .ok (.getfield 7, 3) := by decide +kernel
theorem dX10_longBits_10 : decode cX10_longBits 10 = .ok (.iload_n 2, 1) := by decide +kernel
theorem dX10_longBits_11 : decode cX10_longBits 11 = .ok (.iconst 1, 1) := by decide +kernel
theorem dX10_longBits_12 : decode cX10_longBits 12 = .ok (.iadd, 1) := by decide +kernel
theorem dX10_longBits_13 : decode cX10_longBits 13 = .ok (.iaload, 1) := by decide +kernel
theorem dX10_longBits_14 : decode cX10_longBits 14 = .ok (.i2l, 1) := by decide +kernel
theorem dX10_longBits_15 : decode cX10_longBits 15 = .ok (.bipush 18, 2) := by decide +kernel
theorem dX10_longBits_17 : decode cX10_longBits 17 = .ok (.lshl, 1) := by decide +kernel
theorem dX10_longBits_18 : decode cX10_longBits 18 = .ok (.aload_n 0, 1) := by decide +kernel
theorem dX10_longBits_19 : decode cX10_longBits 19 = .ok (.getfield 13, 3) := by decide +kernel
theorem dX10_longBits_22 : decode cX10_longBits 22 = .ok (.iload_n 2, 1) := by decide +kernel
theorem dX10_longBits_23 : decode cX10_longBits 23 = .ok (.iconst 2, 1) := by decide +kernel
theorem dX10_longBits_24 : decode cX10_longBits 24 = .ok (.idiv, 1) := by decide +kernel
theorem dX10_longBits_25 : decode cX10_longBits 25 = .ok (.iaload, 1) := by decide +kernel
theorem dX10_longBits_26 : decode cX10_longBits 26 = .ok (.i2l, 1) := by decide +kernel
theorem dX10_longBits_27 : decode cX10_longBits 27 = .ok (.bipush 17, 2) := by decide +kernel
theorem dX10_longBits_29 : decode cX10_longBits 29 = .ok (.lshl, 1) := by decide +kernel
theorem dX10_longBits_30 : decode cX10_longBits 30 = .ok (.lor, 1) := by decide +kernel
theorem dX10_longBits_31 : decode cX10_longBits 31 = .ok (.aload_n 0, 1) := by decide +kernel
theorem dX10_longBits_32 : decode cX10_longBits 32 = .ok (.getfield 7, 3) := by decide +kernel
theorem dX10_longBits_35 : decode cX10_longBits 35 = .ok (.iload_n 2, 1) := by decide +kernel
theorem dX10_longBits_36 : decode cX10_longBits 36 = .ok (.iaload, 1) := by decide +kernel
theorem dX10_longBits_37 : decode cX10_longBits 37 = .ok (.i2l, 1) := by decide +kernel
theorem dX10_longBits_38 : decode cX10_longBits 38 = .ok (.lor, 1) := by decide +kernel
theorem dX10_longBits_39 : decode cX10_longBits 39 = .ok (.lreturn, 1) := by decide +kernel
theorem dX10_layLong_0 : decode cX10_layLong 0 = .ok (.iload_n 1, 1) := by decide +kernel
theorem dX10_layLong_1 : decode cX10_layLong 1 = .ok (.sipush 254, 3) := by decide +kernel
theorem dX10_layLong_4 : decode cX10_layLong 4 = .ok (.iand, 1) := by decide +kernel
theorem dX10_layLong_5 : decode cX10_layLong 5 = .ok (.istore 4, 2) := by decide +kernel
theorem dX10_layLong_7 : decode cX10_layLong 7 = .ok (.aload_n 0, 1) := by decide +kernel
theorem dX10_layLong_8 : decode cX10_layLong 8 = .ok (.getfield 7, 3) := by decide +kernel
theorem dX10_layLong_11 : decode cX10_layLong 11 = .ok (.iload 4, 2) := by decide +kernel
theorem dX10_layLong_13 : decode cX10_layLong 13 = .ok (.iconst 1, 1) := by decide +kernel
theorem dX10_layLong_14 : decode cX10_layLong 14 = .ok (.iadd, 1) := by decide +kernel
theorem dX10_layLong_15 : decode cX10_layLong 15 = .ok (.lload_n 2, 1) := by decide +kernel
theorem dX10_layLong_16 : decode cX10_layLong 16 = .ok (.bipush 18, 2) := by decide +kernel
theorem dX10_layLong_18 : decode cX10_layLong 18 = .ok (.lshr, 1) := by decide +kernel
theorem dX10_layLong_19 : decode cX10_layLong 19 = .ok (.ldc2_w 106, 3) := by decide +kernel
theorem dX10_layLong_22 : decode cX10_layLong 22 = .ok (.land, 1) := by decide +kernel
theorem dX10_layLong_23 : decode cX10_layLong 23 = .ok (.l2i, 1) := by decide +kernel
theorem dX10_layLong_24 : decode cX10_layLong 24 = .ok (.iastore, 1) := by decide +kernel
theorem dX10_layLong_25 : decode cX10_layLong 25 = .ok (.aload_n 0, 1) := by decide +kernel
theorem dX10_layLong_26 : decode cX10_layLong 26 = .ok (.getfield 13, 3) := by decide +kernel
theorem dX10_layLong_29 : decode cX10_layLong 29 = .ok (.iload 4, 2) := by decide +kernel
theorem dX10_layLong_31 : decode cX10_layLong 31 = .ok (.iconst 2, 1) := by decide +kernel
theorem dX10_layLong_32 : decode cX10_layLong 32 = .ok (.idiv, 1) := by decide +kernel
theorem dX10_layLong_33 : decode cX10_layLong 33 = .ok (.lload_n 2, 1) := by decide +kernel
theorem dX10_layLong_34 : decode cX10_layLong 34 = .ok (.bipush 17, 2) := by decide +kernel
theorem dX10_layLong_36 : decode cX10_layLong 36 = .ok (.lshr, 1) := by decide +kernel
theorem dX10_layLong_37 : decode cX10_layLong 37 = .ok (.lconst 1, 1) := by decide +kernel
theorem dX10_layLong_38 : decode cX10_layLong 38 = .ok (.land, 1) := by decide +kernel
theorem dX10_layLong_39 : decode cX10_layLong 39 = .ok (.l2i, 1) := by decide +kernel
theorem dX10_layLong_40 : decode cX10_layLong 40 = .ok (.iastore, 1) := by decide +kernel
theorem dX10_layLong_41 : decode cX10_layLong 41 = .ok (.aload_n 0, 1) := by decide +kernel
theorem dX10_layLong_42 : decode cX10_layLong 42 = .ok (.getfield 7, 3) := by decide +kernel
theorem dX10_layLong_45 : decode cX10_layLong 45 = .ok (.iload 4, 2) := by decide +kernel
theorem dX10_layLong_47 : decode cX10_layLong 47 = .ok (.lload_n 2, 1) := by decide +kernel
theorem dX10_layLong_48 : decode cX10_layLong 48 = .ok (.ldc2_w 106, 3) := by decide +kernel
theorem dX10_layLong_51 : decode cX10_layLong 51 = .ok (.land, 1) := by decide +kernel
theorem dX10_layLong_52 : decode cX10_layLong 52 = .ok (.l2i, 1) := by decide +kernel
theorem dX10_layLong_53 : decode cX10_layLong 53 = .ok (.iastore, 1) := by decide +kernel
theorem dX10_layLong_54 : decode cX10_layLong 54 = .ok (.return_, 1) := by decide +kernel
set_option maxRecDepth 20000 in
theorem ggX10_store_X10_isAddress : GoodIn wsX10_store wsX10_isAddress := goodIn_r _ [7, 8, 9, 10, 6, 11] (by decide +kernel) (by decide +kernel)
set_option maxRecDepth 20000 in
theorem gX10_store_X10_isAddress : GoodIn wsX10_store (va_wsS RX10 108 yX10_isAddress wsX10_isAddress) := goodIn_app (goodIn_of _ (by decide +kernel)) ggX10_store_X10_isAddress
set_option maxRecDepth 20000 in
theorem ggX10_store_X10_in : GoodIn wsX10_store wsX10_in := goodIn_r _ [11] (by decide +kernel) (by decide +kernel)
set_option maxRecDepth 20000 in
theorem gX10_store_X10_in : GoodIn wsX10_store (va_wsS RX10 102 yX10_in wsX10_in) := goodIn_app (goodIn_of _ (by decide +kernel)) ggX10_store_X10_in
theorem dX10_store_0 : decode cX10_store 0 = .ok (.iload_n 1, 1) := by decide +kernel
theorem dX10_store_1 : decode cX10_store 1 = .ok (.invokestatic 108, 3) := by decide +kernel
theorem dX10_store_4 : decode cX10_store 4 = .ok (.ifCond .ne 6, 3) := by decide +kernel
theorem dX10_store_7 : decode cX10_store 7 = .ok (.bipush (-2), 2) := by decide +kernel
theorem dX10_store_9 : decode cX10_store 9 = .ok (.ireturn, 1) := by decide +kernel
theorem dX10_store_10 : decode cX10_store 10 = .ok (.iload_n 2, 1) := by decide +kernel
theorem dX10_store_11 : decode cX10_store 11 = .ok (.i2l, 1) := by decide +kernel
theorem dX10_store_12 : decode cX10_store 12 = .ok (.lconst 0, 1) := by decide +kernel
theorem dX10_store_13 : decode cX10_store 13 = .ok (.ldc2_w 106, 3) := by decide +kernel
theorem dX10_store_16 : decode cX10_store 16 = .ok (.invokestatic 102, 3) := by decide +kernel
theorem dX10_store_19 : decode cX10_store 19 = .ok (.ifCond .ne 6, 3) := by decide +kernel
theorem dX10_store_22 : decode cX10_store 22 = .ok (.bipush (-3), 2) := by decide +kernel
theorem dX10_store_24 : decode cX10_store 24 = .ok (.ireturn, 1) := by decide +kernel
theorem dX10_store_25 : decode cX10_store 25 = .ok (.aload_n 0, 1) := by decide +kernel
theorem dX10_store_26 : decode cX10_store 26 = .ok (.getfield 7, 3) := by decide +kernel
theorem dX10_store_29 : decode cX10_store 29 = .ok (.iload_n 1, 1) := by decide +kernel
theorem dX10_store_30 : decode cX10_store 30 = .ok (.iload_n 2, 1) := by decide +kernel
theorem dX10_store_31 : decode cX10_store 31 = .ok (.iastore, 1) := by decide +kernel
theorem dX10_store_32 : decode cX10_store 32 = .ok (.aload_n 0, 1) := by decide +kernel
theorem dX10_store_33 : decode cX10_store 33 = .ok (.iconst 0, 1) := by decide +kernel
theorem dX10_store_34 : decode cX10_store 34 = .ok (.putfield 112, 3) := by decide +kernel
theorem dX10_store_37 : decode cX10_store 37 = .ok (.iconst 1, 1) := by decide +kernel
theorem dX10_store_38 : decode cX10_store 38 = .ok (.ireturn, 1) := by decide +kernel
set_option maxRecDepth 20000 in
theorem ggX10_storeLong_X10_isAddress : GoodIn wsX10_storeLong wsX10_isAddress := goodIn_r _ [6, 7, 8, 9, 5, 10] (by decide +kernel) (by decide +kernel)
set_option maxRecDepth 20000 in
theorem gX10_storeLong_X10_isAddress : GoodIn wsX10_storeLong (va_wsS RX10 108 yX10_isAddress wsX10_isAddress) := goodIn_app (goodIn_of _ (by decide +kernel)) ggX10_storeLong_X10_isAddress
set_option maxRecDepth 20000 in
theorem ggX10_storeLong_X10_in : GoodIn wsX10_storeLong wsX10_in := goodIn_r _ [10] (by decide +kernel) (by decide +kernel)
set_option maxRecDepth 20000 in
theorem gX10_storeLong_X10_in : GoodIn wsX10_storeLong (va_wsS RX10 102 yX10_in wsX10_in) := goodIn_app (goodIn_of _ (by decide +kernel)) ggX10_storeLong_X10_in
set_option maxRecDepth 20000 in
theorem ggX10_storeLong_X10_layLong : GoodIn wsX10_storeLong wsX10_layLong := goodIn_r _ [14, 15, 16, 17, 18, 19, 20, 21, 22, 23, 24, 25, 26, 27, 28, 29, 30, 31, 32, 33, 34, 35, 36, 37, 38, 39, 40, 41, 42, 43, 44, 45, 46, 47, 48, 49, 50, 51, 52, 53, 54, 55, 56, 57, 58, 59, 60, 61, 62, 63, 64, 65, 66, 67, 68] (by decide +kernel) (by decide +kernel)
set_option maxRecDepth 20000 in
theorem gX10_storeLong_X10_layLong : GoodIn wsX10_storeLong (wsV RX10 117 RX10 yX10_layLong wsX10_layLong) := goodIn_app (goodIn_of _ (by decide +kernel)) ggX10_storeLong_X10_layLong
theorem dX10_storeLong_0 : decode cX10_storeLong 0 = .ok (.iload_n 1, 1) := by decide +kernel
theorem dX10_storeLong_1 : decode cX10_storeLong 1 = .ok (.invokestatic 108, 3) := by decide +kernel
theorem dX10_storeLong_4 : decode cX10_storeLong 4 = .ok (.ifCond .ne 6, 3) := by decide +kernel
theorem dX10_storeLong_7 : decode cX10_storeLong 7 = .ok (.bipush (-2), 2) := by decide +kernel
theorem dX10_storeLong_9 : decode cX10_storeLong 9 = .ok (.ireturn, 1) := by decide +kernel
theorem dX10_storeLong_10 : decode cX10_storeLong 10 = .ok (.lload_n 2, 1) := by decide +kernel
theorem dX10_storeLong_11 : decode cX10_storeLong 11 = .ok (.lconst 0, 1) := by decide +kernel
theorem dX10_storeLong_12 : decode cX10_storeLong 12 = .ok (.ldc2_w 115, 3) := by decide +kernel
theorem dX10_storeLong_15 : decode cX10_storeLong 15 = .ok (.invokestatic 102, 3) := by decide +kernel
theorem dX10_storeLong_18 : decode cX10_storeLong 18 = .ok (.ifCond .ne 6, 3) := by decide +kernel
theorem dX10_storeLong_21 : decode cX10_storeLong 21 = .ok (.bipush (-3), 2) := by decide +kernel
theorem dX10_storeLong_23 : decode cX10_storeLong 23 = .ok (.ireturn, 1) := by decide +kernel
theorem dX10_storeLong_24 : decode cX10_storeLong 24 = .ok (.aload_n 0, 1) := by decide +kernel
theorem dX10_storeLong_25 : decode cX10_storeLong 25 = .ok (.iload_n 1, 1) := by decide +kernel
theorem dX10_storeLong_26 : decode cX10_storeLong 26 = .ok (.lload_n 2, 1) := by decide +kernel
theorem dX10_storeLong_27 : decode cX10_storeLong 27 = .ok (.invokevirtual 117, 3) := by decide +kernel
theorem dX10_storeLong_30 : decode cX10_storeLong 30 = .ok (.aload_n 0, 1) := by decide +kernel
theorem dX10_storeLong_31 : decode cX10_storeLong 31 = .ok (.iconst 0, 1) := by decide +kernel
theorem dX10_storeLong_32 : decode cX10_storeLong 32 = .ok (.putfield 112, 3) := by decide +kernel
theorem dX10_storeLong_35 : decode cX10_storeLong 35 = .ok (.iconst 1, 1) := by decide +kernel
theorem dX10_storeLong_36 : decode cX10_storeLong 36 = .ok (.ireturn, 1) := by decide +kernel
set_option maxRecDepth 20000 in
theorem ggX10_word_X10_isAddress : GoodIn wsX10_word wsX10_isAddress := goodIn_r _ [5, 6, 7, 8, 4, 9] (by decide +kernel) (by decide +kernel)
set_option maxRecDepth 20000 in
theorem gX10_word_X10_isAddress : GoodIn wsX10_word (va_wsS RX10 108 yX10_isAddress wsX10_isAddress) := goodIn_app (goodIn_of _ (by decide +kernel)) ggX10_word_X10_isAddress
theorem dX10_word_0 : decode cX10_word 0 = .ok (.iload_n 1, 1) := by decide +kernel
theorem dX10_word_1 : decode cX10_word 1 = .ok (.invokestatic 108, 3) := by decide +kernel
theorem dX10_word_4 : decode cX10_word 4 = .ok (.ifCond .eq 12, 3) := by decide +kernel
theorem dX10_word_7 : decode cX10_word 7 = .ok (.aload_n 0, 1) := by decide +kernel
theorem dX10_word_8 : decode cX10_word 8 = .ok (.getfield 7, 3) := by decide +kernel
theorem dX10_word_11 : decode cX10_word 11 = .ok (.iload_n 1, 1) := by decide +kernel
theorem dX10_word_12 : decode cX10_word 12 = .ok (.iaload, 1) := by decide +kernel
theorem dX10_word_13 : decode cX10_word 13 = .ok (.goto 5, 3) := by decide +kernel
theorem dX10_word_16 : decode cX10_word 16 = .ok (.bipush (-2), 2) := by decide +kernel
theorem dX10_word_18 : decode cX10_word 18 = .ok (.ireturn, 1) := by decide +kernel
set_option maxRecDepth 20000 in
theorem ggX10_wordLong_X10_isAddress : GoodIn wsX10_wordLong wsX10_isAddress := goodIn_r _ [5, 6, 7, 8, 4, 9] (by decide +kernel) (by decide +kernel)
set_option maxRecDepth 20000 in
theorem gX10_wordLong_X10_isAddress : GoodIn wsX10_wordLong (va_wsS RX10 108 yX10_isAddress wsX10_isAddress) := goodIn_app (goodIn_of _ (by decide +kernel)) ggX10_wordLong_X10_isAddress
set_option maxRecDepth 20000 in
theorem ggX10_wordLong_X10_longBits : GoodIn wsX10_wordLong wsX10_longBits := goodIn_r _ [13, 14, 15, 19, 20, 21, 22, 23, 24, 25, 26, 27, 28, 29, 30, 31, 32, 33, 34, 35, 36, 37, 38, 39, 40, 41, 42, 43, 44, 45, 46, 47, 48, 49, 50, 51, 52, 53, 54, 55, 56, 57, 58, 59, 60, 61, 62, 63, 64, 65, 66, 67, 68, 69] (by decide +kernel) (by decide +kernel)
set_option maxRecDepth 20000 in
theorem gX10_wordLong_X10_longBits : GoodIn wsX10_wordLong (wsV RX10 121 RX10 yX10_longBits wsX10_longBits) := goodIn_app (goodIn_of _ (by decide +kernel)) ggX10_wordLong_X10_longBits
set_option maxRecDepth 20000 in
theorem ggX10_wordLong_X10_signed : GoodIn wsX10_wordLong wsX10_signed := goodIn_r _ [18] (by decide +kernel) (by decide +kernel)
set_option maxRecDepth 20000 in
theorem gX10_wordLong_X10_signed : GoodIn wsX10_wordLong (va_wsS RX10 125 yX10_signed wsX10_signed) := goodIn_app (goodIn_of _ (by decide +kernel)) ggX10_wordLong_X10_signed
theorem dX10_wordLong_0 : decode cX10_wordLong 0 = .ok (.iload_n 1, 1) := by decide +kernel
theorem dX10_wordLong_1 : decode cX10_wordLong 1 = .ok (.invokestatic 108, 3) := by decide +kernel
theorem dX10_wordLong_4 : decode cX10_wordLong 4 = .ok (.ifCond .eq 16, 3) := by decide +kernel
theorem dX10_wordLong_7 : decode cX10_wordLong 7 = .ok (.aload_n 0, 1) := by decide +kernel
theorem dX10_wordLong_8 : decode cX10_wordLong 8 = .ok (.iload_n 1, 1) := by decide +kernel
theorem dX10_wordLong_9 : decode cX10_wordLong 9 = .ok (.invokevirtual 121, 3) := by decide +kernel
theorem dX10_wordLong_12 : decode cX10_wordLong 12 = .ok (.bipush 35, 2) := by decide +kernel
theorem dX10_wordLong_14 : decode cX10_wordLong 14 = .ok (.invokestatic 125, 3) := by decide +kernel
theorem dX10_wordLong_17 : decode cX10_wordLong 17 = .ok (.goto 6, 3) := by decide +kernel
theorem dX10_wordLong_20 : decode cX10_wordLong 20 = .ok (.ldc2_w 129, 3) := by decide +kernel
theorem dX10_wordLong_23 : decode cX10_wordLong 23 = .ok (.lreturn, 1) := by decide +kernel
set_option maxRecDepth 20000 in
theorem ggX10_order_X10_isAddress : GoodIn wsX10_order wsX10_isAddress := goodIn_r _ [8, 9, 10, 11, 7, 12] (by decide +kernel) (by decide +kernel)
set_option maxRecDepth 20000 in
theorem gX10_order_X10_isAddress : GoodIn wsX10_order (va_wsS RX10 108 yX10_isAddress wsX10_isAddress) := goodIn_app (goodIn_of _ (by decide +kernel)) ggX10_order_X10_isAddress
set_option maxRecDepth 20000 in
theorem ggX10_order_X10_in : GoodIn wsX10_order wsX10_in := goodIn_r _ [12] (by decide +kernel) (by decide +kernel)
set_option maxRecDepth 20000 in
theorem gX10_order_X10_in : GoodIn wsX10_order (va_wsS RX10 102 yX10_in wsX10_in) := goodIn_app (goodIn_of _ (by decide +kernel)) ggX10_order_X10_in
theorem dX10_order_0 : decode cX10_order 0 = .ok (.iload_n 1, 1) := by decide +kernel
theorem dX10_order_1 : decode cX10_order 1 = .ok (.invokestatic 108, 3) := by decide +kernel
theorem dX10_order_4 : decode cX10_order 4 = .ok (.ifCond .eq 15, 3) := by decide +kernel
theorem dX10_order_7 : decode cX10_order 7 = .ok (.iload_n 2, 1) := by decide +kernel
theorem dX10_order_8 : decode cX10_order 8 = .ok (.i2l, 1) := by decide +kernel
theorem dX10_order_9 : decode cX10_order 9 = .ok (.lconst 0, 1) := by decide +kernel
theorem dX10_order_10 : decode cX10_order 10 = .ok (.ldc2_w 131, 3) := by decide +kernel
theorem dX10_order_13 : decode cX10_order 13 = .ok (.invokestatic 102, 3) := by decide +kernel
theorem dX10_order_16 : decode cX10_order 16 = .ok (.ifCond .ne 6, 3) := by decide +kernel
theorem dX10_order_19 : decode cX10_order 19 = .ok (.bipush (-2), 2) := by decide +kernel
theorem dX10_order_21 : decode cX10_order 21 = .ok (.ireturn, 1) := by decide +kernel
theorem dX10_order_22 : decode cX10_order 22 = .ok (.iload_n 3, 1) := by decide +kernel
theorem dX10_order_23 : decode cX10_order 23 = .ok (.i2l, 1) := by decide +kernel
theorem dX10_order_24 : decode cX10_order 24 = .ok (.lconst 0, 1) := by decide +kernel
theorem dX10_order_25 : decode cX10_order 25 = .ok (.ldc2_w 133, 3) := by decide +kernel
theorem dX10_order_28 : decode cX10_order 28 = .ok (.invokestatic 102, 3) := by decide +kernel
theorem dX10_order_31 : decode cX10_order 31 = .ok (.ifCond .ne 6, 3) := by decide +kernel
theorem dX10_order_34 : decode cX10_order 34 = .ok (.bipush (-3), 2) := by decide +kernel
theorem dX10_order_36 : decode cX10_order 36 = .ok (.ireturn, 1) := by decide +kernel
theorem dX10_order_37 : decode cX10_order 37 = .ok (.aload_n 0, 1) := by decide +kernel
theorem dX10_order_38 : decode cX10_order 38 = .ok (.getfield 7, 3) := by decide +kernel
theorem dX10_order_41 : decode cX10_order 41 = .ok (.iload_n 1, 1) := by decide +kernel
theorem dX10_order_42 : decode cX10_order 42 = .ok (.iload_n 2, 1) := by decide +kernel
theorem dX10_order_43 : decode cX10_order 43 = .ok (.bipush 12, 2) := by decide +kernel
theorem dX10_order_45 : decode cX10_order 45 = .ok (.ishl, 1) := by decide +kernel
theorem dX10_order_46 : decode cX10_order 46 = .ok (.iload_n 3, 1) := by decide +kernel
theorem dX10_order_47 : decode cX10_order 47 = .ok (.iconst 1, 1) := by decide +kernel
theorem dX10_order_48 : decode cX10_order 48 = .ok (.ishl, 1) := by decide +kernel
theorem dX10_order_49 : decode cX10_order 49 = .ok (.ior, 1) := by decide +kernel
theorem dX10_order_50 : decode cX10_order 50 = .ok (.iload 4, 2) := by decide +kernel
theorem dX10_order_52 : decode cX10_order 52 = .ok (.ifCond .eq 7, 3) := by decide +kernel
theorem dX10_order_55 : decode cX10_order 55 = .ok (.iconst 1, 1) := by decide +kernel
theorem dX10_order_56 : decode cX10_order 56 = .ok (.goto 4, 3) := by decide +kernel
theorem dX10_order_59 : decode cX10_order 59 = .ok (.iconst 0, 1) := by decide +kernel
theorem dX10_order_60 : decode cX10_order 60 = .ok (.ior, 1) := by decide +kernel
theorem dX10_order_61 : decode cX10_order 61 = .ok (.iastore, 1) := by decide +kernel
theorem dX10_order_62 : decode cX10_order 62 = .ok (.aload_n 0, 1) := by decide +kernel
theorem dX10_order_63 : decode cX10_order 63 = .ok (.iconst 0, 1) := by decide +kernel
theorem dX10_order_64 : decode cX10_order 64 = .ok (.putfield 112, 3) := by decide +kernel
theorem dX10_order_67 : decode cX10_order 67 = .ok (.iconst 1, 1) := by decide +kernel
theorem dX10_order_68 : decode cX10_order 68 = .ok (.ireturn, 1) := by decide +kernel
theorem dX10_top_0 : decode cX10_top 0 = .ok (.aload_n 0, 1) := by decide +kernel
theorem dX10_top_1 : decode cX10_top 1 = .ok (.getfield 135, 3) := by decide +kernel
theorem dX10_top_4 : decode cX10_top 4 = .ok (.lreturn, 1) := by decide +kernel
theorem dX10_rest_0 : decode cX10_rest 0 = .ok (.aload_n 0, 1) := by decide +kernel
theorem dX10_rest_1 : decode cX10_rest 1 = .ok (.getfield 139, 3) := by decide +kernel
theorem dX10_rest_4 : decode cX10_rest 4 = .ok (.lreturn, 1) := by decide +kernel
set_option maxRecDepth 20000 in
theorem ggX10_set_X10_in : GoodIn wsX10_set wsX10_in := goodIn_r _ [10] (by decide +kernel) (by decide +kernel)
set_option maxRecDepth 20000 in
theorem gX10_set_X10_in : GoodIn wsX10_set (va_wsS RX10 102 yX10_in wsX10_in) := goodIn_app (goodIn_of _ (by decide +kernel)) ggX10_set_X10_in
theorem dX10_set_0 : decode cX10_set 0 = .ok (.lload_n 1, 1) := by decide +kernel
theorem dX10_set_1 : decode cX10_set 1 = .ok (.ldc2_w 142, 3) := by decide +kernel
theorem dX10_set_4 : decode cX10_set 4 = .ok (.ldc2_w 144, 3) := by decide +kernel
theorem dX10_set_7 : decode cX10_set 7 = .ok (.invokestatic 102, 3) := by decide +kernel
theorem dX10_set_10 : decode cX10_set 10 = .ok (.ifCond .eq 14, 3) := by decide +kernel
theorem dX10_set_13 : decode cX10_set 13 = .ok (.lload_n 3, 1) := by decide +kernel
theorem dX10_set_14 : decode cX10_set 14 = .ok (.lconst 0, 1) := by decide +kernel
theorem dX10_set_15 : decode cX10_set 15 = .ok (.ldc2_w 146, 3) := by decide +kernel
theorem dX10_set_18 : decode cX10_set 18 = .ok (.invokestatic 102, 3) := by decide +kernel
theorem dX10_set_21 : decode cX10_set 21 = .ok (.ifCond .ne 6, 3) := by decide +kernel
theorem dX10_set_24 : decode cX10_set 24 = .ok (.bipush (-3), 2) := by decide +kernel
theorem dX10_set_26 : decode cX10_set 26 = .ok (.ireturn, 1) := by decide +kernel
theorem dX10_set_27 : decode cX10_set 27 = .ok (.aload_n 0, 1) := by decide +kernel
theorem dX10_set_28 : decode cX10_set 28 = .ok (.lload_n 1, 1) := by decide +kernel
theorem dX10_set_29 : decode cX10_set 29 = .ok (.putfield 135, 3) := by decide +kernel
theorem dX10_set_32 : decode cX10_set 32 = .ok (.aload_n 0, 1) := by decide +kernel
theorem dX10_set_33 : decode cX10_set 33 = .ok (.lload_n 3, 1) := by decide +kernel
theorem dX10_set_34 : decode cX10_set 34 = .ok (.putfield 139, 3) := by decide +kernel
theorem dX10_set_37 : decode cX10_set 37 = .ok (.aload_n 0, 1) := by decide +kernel
theorem dX10_set_38 : decode cX10_set 38 = .ok (.iconst 0, 1) := by decide +kernel
theorem dX10_set_39 : decode cX10_set 39 = .ok (.putfield 112, 3) := by decide +kernel
theorem dX10_set_42 : decode cX10_set 42 = .ok (.iconst 1, 1) := by decide +kernel
theorem dX10_set_43 : decode cX10_set 43 = .ok (.ireturn, 1) := by decide +kernel
theorem dX10_multiplier_0 : decode cX10_multiplier 0 = .ok (.aload_n 0, 1) := by decide +kernel
theorem dX10_multiplier_1 : decode cX10_multiplier 1 = .ok (.getfield 148, 3) := by decide +kernel
theorem dX10_multiplier_4 : decode cX10_multiplier 4 = .ok (.lreturn, 1) := by decide +kernel
set_option maxRecDepth 20000 in
theorem ggX10_punch_X10_in : GoodIn wsX10_punch wsX10_in := goodIn_r _ [9] (by decide +kernel) (by decide +kernel)
set_option maxRecDepth 20000 in
theorem gX10_punch_X10_in : GoodIn wsX10_punch (va_wsS RX10 102 yX10_in wsX10_in) := goodIn_app (goodIn_of _ (by decide +kernel)) ggX10_punch_X10_in
theorem dX10_punch_0 : decode cX10_punch 0 = .ok (.iload_n 3, 1) := by decide +kernel
theorem dX10_punch_1 : decode cX10_punch 1 = .ok (.i2l, 1) := by decide +kernel
theorem dX10_punch_2 : decode cX10_punch 2 = .ok (.lconst 1, 1) := by decide +kernel
theorem dX10_punch_3 : decode cX10_punch 3 = .ok (.ldc2_w 151, 3) := by decide +kernel
theorem dX10_punch_6 : decode cX10_punch 6 = .ok (.invokestatic 102, 3) := by decide +kernel
theorem dX10_punch_9 : decode cX10_punch 9 = .ok (.ifCond .ne 6, 3) := by decide +kernel
theorem dX10_punch_12 : decode cX10_punch 12 = .ok (.bipush (-3), 2) := by decide +kernel
theorem dX10_punch_14 : decode cX10_punch 14 = .ok (.ireturn, 1) := by decide +kernel
theorem dX10_punch_15 : decode cX10_punch 15 = .ok (.aload_n 0, 1) := by decide +kernel
theorem dX10_punch_16 : decode cX10_punch 16 = .ok (.getfield 153, 3) := by decide +kernel
theorem dX10_punch_19 : decode cX10_punch 19 = .ok (.iload_n 3, 1) := by decide +kernel
theorem dX10_punch_20 : decode cX10_punch 20 = .ok (.iadd, 1) := by decide +kernel
theorem dX10_punch_21 : decode cX10_punch 21 = .ok (.sipush 1000, 3) := by decide +kernel
theorem dX10_punch_24 : decode cX10_punch 24 = .ok (.if_icmp .le 6, 3) := by decide +kernel
theorem dX10_punch_27 : decode cX10_punch 27 = .ok (.bipush (-5), 2) := by decide +kernel
theorem dX10_punch_29 : decode cX10_punch 29 = .ok (.ireturn, 1) := by decide +kernel
theorem dX10_punch_30 : decode cX10_punch 30 = .ok (.iload_n 3, 1) := by decide +kernel
theorem dX10_punch_31 : decode cX10_punch 31 = .ok (.iconst 1, 1) := by decide +kernel
theorem dX10_punch_32 : decode cX10_punch 32 = .ok (.isub, 1) := by decide +kernel
theorem dX10_punch_33 : decode cX10_punch 33 = .ok (.istore 4, 2) := by decide +kernel
theorem dX10_punch_35 : decode cX10_punch 35 = .ok (.iload 4, 2) := by decide +kernel
theorem dX10_punch_37 : decode cX10_punch 37 = .ok (.ifCond .lt 39, 3) := by decide +kernel
theorem dX10_punch_40 : decode cX10_punch 40 = .ok (.aload_n 0, 1) := by decide +kernel
theorem dX10_punch_41 : decode cX10_punch 41 = .ok (.getfield 16, 3) := by decide +kernel
theorem dX10_punch_44 : decode cX10_punch 44 = .ok (.aload_n 0, 1) := by decide +kernel
theorem dX10_punch_45 : decode cX10_punch 45 = .ok (.getfield 153, 3) := by decide +kernel
theorem dX10_punch_48 : decode cX10_punch 48 = .ok (.lload_n 1, 1) := by decide +kernel
theorem dX10_punch_49 : decode cX10_punch 49 = .ok (.iconst 5, 1) := by decide +kernel
theorem dX10_punch_50 : decode cX10_punch 50 = .ok (.iload 4, 2) := by decide +kernel
theorem dX10_punch_52 : decode cX10_punch 52 = .ok (.imul, 1) := by decide +kernel
theorem dX10_punch_53 : decode cX10_punch 53 = .ok (.lshr, 1) := by decide +kernel
theorem dX10_punch_54 : decode cX10_punch 54 = .ok (.ldc2_w 131, 3) := by decide +kernel
theorem dX10_punch_57 : decode cX10_punch 57 = .ok (.land, 1) := by decide +kernel
theorem dX10_punch_58 : decode cX10_punch 58 = .ok (.l2i, 1) := by decide +kernel
theorem dX10_punch_59 : decode cX10_punch 59 = .ok (.iastore, 1) := by decide +kernel
theorem dX10_punch_60 : decode cX10_punch 60 = .ok (.aload_n 0, 1) := by decide +kernel
theorem dX10_punch_61 : decode cX10_punch 61 = .ok (.dup, 1) := by decide +kernel
theorem dX10_punch_62 : decode cX10_punch 62 = .ok (.getfield 153, 3) := by decide +kernel
theorem dX10_punch_65 : decode cX10_punch 65 = .ok (.iconst 1, 1) := by decide +kernel
theorem dX10_punch_66 : decode cX10_punch 66 = .ok (.iadd, 1) := by decide +kernel
theorem dX10_punch_67 : decode cX10_punch 67 = .ok (.putfield 153, 3) := by decide +kernel
theorem dX10_punch_70 : decode cX10_punch 70 = .ok (.iinc 4 (-1), 3) := by decide +kernel
theorem dX10_punch_73 : decode cX10_punch 73 = .ok (.goto (-38), 3) := by decide +kernel
theorem dX10_punch_76 : decode cX10_punch 76 = .ok (.aload_n 0, 1) := by decide +kernel
theorem dX10_punch_77 : decode cX10_punch 77 = .ok (.iconst 0, 1) := by decide +kernel
theorem dX10_punch_78 : decode cX10_punch 78 = .ok (.putfield 112, 3) := by decide +kernel
theorem dX10_punch_81 : decode cX10_punch 81 = .ok (.aload_n 0, 1) := by decide +kernel
theorem dX10_punch_82 : decode cX10_punch 82 = .ok (.getfield 153, 3) := by decide +kernel
theorem dX10_punch_85 : decode cX10_punch 85 = .ok (.ireturn, 1) := by decide +kernel
theorem dX10_rewind_0 : decode cX10_rewind 0 = .ok (.aload_n 0, 1) := by decide +kernel
theorem dX10_rewind_1 : decode cX10_rewind 1 = .ok (.getfield 156, 3) := by decide +kernel
theorem dX10_rewind_4 : decode cX10_rewind 4 = .ok (.istore_n 1, 1) := by decide +kernel
theorem dX10_rewind_5 : decode cX10_rewind 5 = .ok (.aload_n 0, 1) := by decide +kernel
theorem dX10_rewind_6 : decode cX10_rewind 6 = .ok (.iconst 0, 1) := by decide +kernel
theorem dX10_rewind_7 : decode cX10_rewind 7 = .ok (.putfield 156, 3) := by decide +kernel
theorem dX10_rewind_10 : decode cX10_rewind 10 = .ok (.aload_n 0, 1) := by decide +kernel
theorem dX10_rewind_11 : decode cX10_rewind 11 = .ok (.iconst 0, 1) := by decide +kernel
theorem dX10_rewind_12 : decode cX10_rewind 12 = .ok (.putfield 112, 3) := by decide +kernel
theorem dX10_rewind_15 : decode cX10_rewind 15 = .ok (.iload_n 1, 1) := by decide +kernel
theorem dX10_rewind_16 : decode cX10_rewind 16 = .ok (.ireturn, 1) := by decide +kernel
set_option maxRecDepth 20000 in
theorem ggX10_text_X10_in : GoodIn wsX10_text wsX10_in := goodIn_r _ [6] (by decide +kernel) (by decide +kernel)
set_option maxRecDepth 20000 in
theorem gX10_text_X10_in : GoodIn wsX10_text (va_wsS RX10 102 yX10_in wsX10_in) := goodIn_app (goodIn_of _ (by decide +kernel)) ggX10_text_X10_in
theorem dX10_text_0 : decode cX10_text 0 = .ok (.iload_n 1, 1) := by decide +kernel
theorem dX10_text_1 : decode cX10_text 1 = .ok (.i2l, 1) := by decide +kernel
theorem dX10_text_2 : decode cX10_text 2 = .ok (.lconst 0, 1) := by decide +kernel
theorem dX10_text_3 : decode cX10_text 3 = .ok (.aload_n 0, 1) := by decide +kernel
theorem dX10_text_4 : decode cX10_text 4 = .ok (.getfield 159, 3) := by decide +kernel
theorem dX10_text_7 : decode cX10_text 7 = .ok (.iconst 1, 1) := by decide +kernel
theorem dX10_text_8 : decode cX10_text 8 = .ok (.isub, 1) := by decide +kernel
theorem dX10_text_9 : decode cX10_text 9 = .ok (.i2l, 1) := by decide +kernel
theorem dX10_text_10 : decode cX10_text 10 = .ok (.invokestatic 102, 3) := by decide +kernel
theorem dX10_text_13 : decode cX10_text 13 = .ok (.ifCond .eq 12, 3) := by decide +kernel
theorem dX10_text_16 : decode cX10_text 16 = .ok (.aload_n 0, 1) := by decide +kernel
theorem dX10_text_17 : decode cX10_text 17 = .ok (.getfield 19, 3) := by decide +kernel
theorem dX10_text_20 : decode cX10_text 20 = .ok (.iload_n 1, 1) := by decide +kernel
theorem dX10_text_21 : decode cX10_text 21 = .ok (.iaload, 1) := by decide +kernel
theorem dX10_text_22 : decode cX10_text 22 = .ok (.goto 5, 3) := by decide +kernel
theorem dX10_text_25 : decode cX10_text 25 = .ok (.bipush (-2), 2) := by decide +kernel
theorem dX10_text_27 : decode cX10_text 27 = .ok (.ireturn, 1) := by decide +kernel
theorem dX10_tear_0 : decode cX10_tear 0 = .ok (.aload_n 0, 1) := by decide +kernel
theorem dX10_tear_1 : decode cX10_tear 1 = .ok (.getfield 159, 3) := by decide +kernel
theorem dX10_tear_4 : decode cX10_tear 4 = .ok (.istore_n 1, 1) := by decide +kernel
theorem dX10_tear_5 : decode cX10_tear 5 = .ok (.aload_n 0, 1) := by decide +kernel
theorem dX10_tear_6 : decode cX10_tear 6 = .ok (.iconst 0, 1) := by decide +kernel
theorem dX10_tear_7 : decode cX10_tear 7 = .ok (.putfield 159, 3) := by decide +kernel
theorem dX10_tear_10 : decode cX10_tear 10 = .ok (.aload_n 0, 1) := by decide +kernel
theorem dX10_tear_11 : decode cX10_tear 11 = .ok (.iconst 0, 1) := by decide +kernel
theorem dX10_tear_12 : decode cX10_tear 12 = .ok (.putfield 112, 3) := by decide +kernel
theorem dX10_tear_15 : decode cX10_tear 15 = .ok (.iload_n 1, 1) := by decide +kernel
theorem dX10_tear_16 : decode cX10_tear 16 = .ok (.ireturn, 1) := by decide +kernel
theorem dX10_load_0 : decode cX10_load 0 = .ok (.aload_n 0, 1) := by decide +kernel
theorem dX10_load_1 : decode cX10_load 1 = .ok (.iconst 0, 1) := by decide +kernel
theorem dX10_load_2 : decode cX10_load 2 = .ok (.putfield 112, 3) := by decide +kernel
theorem dX10_load_5 : decode cX10_load 5 = .ok (.aload_n 0, 1) := by decide +kernel
theorem dX10_load_6 : decode cX10_load 6 = .ok (.getfield 7, 3) := by decide +kernel
theorem dX10_load_9 : decode cX10_load 9 = .ok (.bipush 41, 2) := by decide +kernel
theorem dX10_load_11 : decode cX10_load 11 = .ok (.iconst 0, 1) := by decide +kernel
theorem dX10_load_12 : decode cX10_load 12 = .ok (.iastore, 1) := by decide +kernel
theorem dX10_load_13 : decode cX10_load 13 = .ok (.aload_n 0, 1) := by decide +kernel
theorem dX10_load_14 : decode cX10_load 14 = .ok (.getfield 7, 3) := by decide +kernel
theorem dX10_load_17 : decode cX10_load 17 = .ok (.bipush 43, 2) := by decide +kernel
theorem dX10_load_19 : decode cX10_load 19 = .ok (.iconst 1, 1) := by decide +kernel
theorem dX10_load_20 : decode cX10_load 20 = .ok (.iastore, 1) := by decide +kernel
theorem dX10_load_21 : decode cX10_load 21 = .ok (.aload_n 0, 1) := by decide +kernel
theorem dX10_load_22 : decode cX10_load 22 = .ok (.bipush 64, 2) := by decide +kernel
theorem dX10_load_24 : decode cX10_load 24 = .ok (.putfield 39, 3) := by decide +kernel
theorem dX10_load_27 : decode cX10_load 27 = .ok (.iconst 0, 1) := by decide +kernel
theorem dX10_load_28 : decode cX10_load 28 = .ok (.istore_n 1, 1) := by decide +kernel
theorem dX10_load_29 : decode cX10_load 29 = .ok (.iconst (-1), 1) := by decide +kernel
theorem dX10_load_30 : decode cX10_load 30 = .ok (.istore_n 2, 1) := by decide +kernel
theorem dX10_load_31 : decode cX10_load 31 = .ok (.iload_n 2, 1) := by decide +kernel
theorem dX10_load_32 : decode cX10_load 32 = .ok (.iconst (-1), 1) := by decide +kernel
theorem dX10_load_33 : decode cX10_load 33 = .ok (.if_icmp .ne 322, 3) := by decide +kernel
theorem dX10_load_36 : decode cX10_load 36 = .ok (.aload_n 0, 1) := by decide +kernel
theorem dX10_load_37 : decode cX10_load 37 = .ok (.getfield 156, 3) := by decide +kernel
theorem dX10_load_40 : decode cX10_load 40 = .ok (.aload_n 0, 1) := by decide +kernel
theorem dX10_load_41 : decode cX10_load 41 = .ok (.getfield 153, 3) := by decide +kernel
theorem dX10_load_44 : decode cX10_load 44 = .ok (.if_icmp .ge 30, 3) := by decide +kernel
theorem dX10_load_47 : decode cX10_load 47 = .ok (.aload_n 0, 1) := by decide +kernel
theorem dX10_load_48 : decode cX10_load 48 = .ok (.getfield 16, 3) := by decide +kernel
theorem dX10_load_51 : decode cX10_load 51 = .ok (.aload_n 0, 1) := by decide +kernel
theorem dX10_load_52 : decode cX10_load 52 = .ok (.getfield 156, 3) := by decide +kernel
theorem dX10_load_55 : decode cX10_load 55 = .ok (.iaload, 1) := by decide +kernel
theorem dX10_load_56 : decode cX10_load 56 = .ok (.bipush 16, 2) := by decide +kernel
theorem dX10_load_58 : decode cX10_load 58 = .ok (.if_icmp .ne 16, 3) := by decide +kernel
theorem dX10_load_61 : decode cX10_load 61 = .ok (.aload_n 0, 1) := by decide +kernel
theorem dX10_load_62 : decode cX10_load 62 = .ok (.dup, 1) := by decide +kernel
theorem dX10_load_63 : decode cX10_load 63 = .ok (.getfield 156, 3) := by decide +kernel
theorem dX10_load_66 : decode cX10_load 66 = .ok (.iconst 1, 1) := by decide +kernel
theorem dX10_load_67 : decode cX10_load 67 = .ok (.iadd, 1) := by decide +kernel
theorem dX10_load_68 : decode cX10_load 68 = .ok (.putfield 156, 3) := by decide +kernel
theorem dX10_load_71 : decode cX10_load 71 = .ok (.goto (-35), 3) := by decide +kernel
theorem dX10_load_74 : decode cX10_load 74 = .ok (.aload_n 0, 1) := by decide +kernel
theorem dX10_load_75 : decode cX10_load 75 = .ok (.getfield 156, 3) := by decide +kernel
theorem dX10_load_78 : decode cX10_load 78 = .ok (.aload_n 0, 1) := by decide +kernel
theorem dX10_load_79 : decode cX10_load 79 = .ok (.getfield 153, 3) := by decide +kernel
theorem dX10_load_82 : decode cX10_load 82 = .ok (.if_icmp .ne 8, 3) := by decide +kernel
theorem dX10_load_85 : decode cX10_load 85 = .ok (.iconst 1, 1) := by decide +kernel
theorem dX10_load_86 : decode cX10_load 86 = .ok (.istore_n 2, 1) := by decide +kernel
theorem dX10_load_87 : decode cX10_load 87 = .ok (.goto (-56), 3) := by decide +kernel
theorem dX10_load_90 : decode cX10_load 90 = .ok (.aload_n 0, 1) := by decide +kernel
theorem dX10_load_91 : decode cX10_load 91 = .ok (.getfield 16, 3) := by decide +kernel
theorem dX10_load_94 : decode cX10_load 94 = .ok (.aload_n 0, 1) := by decide +kernel
theorem dX10_load_95 : decode cX10_load 95 = .ok (.getfield 156, 3) := by decide +kernel
theorem dX10_load_98 : decode cX10_load 98 = .ok (.iaload, 1) := by decide +kernel
theorem dX10_load_99 : decode cX10_load 99 = .ok (.istore_n 3, 1) := by decide +kernel
theorem dX10_load_100 : decode cX10_load 100 = .ok (.aload_n 0, 1) := by decide +kernel
theorem dX10_load_101 : decode cX10_load 101 = .ok (.dup, 1) := by decide +kernel
theorem dX10_load_102 : decode cX10_load 102 = .ok (.getfield 156, 3) := by decide +kernel
theorem dX10_load_105 : decode cX10_load 105 = .ok (.iconst 1, 1) := by decide +kernel
theorem dX10_load_106 : decode cX10_load 106 = .ok (.iadd, 1) := by decide +kernel
theorem dX10_load_107 : decode cX10_load 107 = .ok (.putfield 156, 3) := by decide +kernel
theorem dX10_load_110 : decode cX10_load 110 = .ok (.iconst 0, 1) := by decide +kernel
theorem dX10_load_111 : decode cX10_load 111 = .ok (.istore 4, 2) := by decide +kernel
theorem dX10_load_113 : decode cX10_load 113 = .ok (.aload_n 0, 1) := by decide +kernel
theorem dX10_load_114 : decode cX10_load 114 = .ok (.getfield 156, 3) := by decide +kernel
theorem dX10_load_117 : decode cX10_load 117 = .ok (.aload_n 0, 1) := by decide +kernel
theorem dX10_load_118 : decode cX10_load 118 = .ok (.getfield 153, 3) := by decide +kernel
theorem dX10_load_121 : decode cX10_load 121 = .ok (.if_icmp .ge 51, 3) := by decide +kernel
theorem dX10_load_124 : decode cX10_load 124 = .ok (.aload_n 0, 1) := by decide +kernel
theorem dX10_load_125 : decode cX10_load 125 = .ok (.getfield 16, 3) := by decide +kernel
theorem dX10_load_128 : decode cX10_load 128 = .ok (.aload_n 0, 1) := by decide +kernel
theorem dX10_load_129 : decode cX10_load 129 = .ok (.getfield 156, 3) := by decide +kernel
theorem dX10_load_132 : decode cX10_load 132 = .ok (.iaload, 1) := by decide +kernel
theorem dX10_load_133 : decode cX10_load 133 = .ok (.bipush 10, 2) := by decide +kernel
theorem dX10_load_135 : decode cX10_load 135 = .ok (.if_icmp .ge 37, 3) := by decide +kernel
theorem dX10_load_138 : decode cX10_load 138 = .ok (.bipush 10, 2) := by decide +kernel
theorem dX10_load_140 : decode cX10_load 140 = .ok (.iload 4, 2) := by decide +kernel
theorem dX10_load_142 : decode cX10_load 142 = .ok (.imul, 1) := by decide +kernel
theorem dX10_load_143 : decode cX10_load 143 = .ok (.aload_n 0, 1) := by decide +kernel
theorem dX10_load_144 : decode cX10_load 144 = .ok (.getfield 16, 3) := by decide +kernel
theorem dX10_load_147 : decode cX10_load 147 = .ok (.aload_n 0, 1) := by decide +kernel
theorem dX10_load_148 : decode cX10_load 148 = .ok (.getfield 156, 3) := by decide +kernel
theorem dX10_load_151 : decode cX10_load 151 = .ok (.iaload, 1) := by decide +kernel
theorem dX10_load_152 : decode cX10_load 152 = .ok (.iadd, 1) := by decide +kernel
theorem dX10_load_153 : decode cX10_load 153 = .ok (.sipush 1024, 3) := by decide +kernel
theorem dX10_load_156 : decode cX10_load 156 = .ok (.irem, 1) := by decide +kernel
theorem dX10_load_157 : decode cX10_load 157 = .ok (.istore 4, 2) := by decide +kernel
theorem dX10_load_159 : decode cX10_load 159 = .ok (.aload_n 0, 1) := by decide +kernel
theorem dX10_load_160 : decode cX10_load 160 = .ok (.dup, 1) := by decide +kernel
theorem dX10_load_161 : decode cX10_load 161 = .ok (.getfield 156, 3) := by decide +kernel
theorem dX10_load_164 : decode cX10_load 164 = .ok (.iconst 1, 1) := by decide +kernel
theorem dX10_load_165 : decode cX10_load 165 = .ok (.iadd, 1) := by decide +kernel
theorem dX10_load_166 : decode cX10_load 166 = .ok (.putfield 156, 3) := by decide +kernel
theorem dX10_load_169 : decode cX10_load 169 = .ok (.goto (-56), 3) := by decide +kernel
theorem dX10_load_172 : decode cX10_load 172 = .ok (.aload_n 0, 1) := by decide +kernel
theorem dX10_load_173 : decode cX10_load 173 = .ok (.getfield 156, 3) := by decide +kernel
theorem dX10_load_176 : decode cX10_load 176 = .ok (.aload_n 0, 1) := by decide +kernel
theorem dX10_load_177 : decode cX10_load 177 = .ok (.getfield 153, 3) := by decide +kernel
theorem dX10_load_180 : decode cX10_load 180 = .ok (.if_icmp .ne 8, 3) := by decide +kernel
theorem dX10_load_183 : decode cX10_load 183 = .ok (.iconst 2, 1) := by decide +kernel
theorem dX10_load_184 : decode cX10_load 184 = .ok (.istore_n 2, 1) := by decide +kernel
theorem dX10_load_185 : decode cX10_load 185 = .ok (.goto 167, 3) := by decide +kernel
theorem dX10_load_188 : decode cX10_load 188 = .ok (.aload_n 0, 1) := by decide +kernel
theorem dX10_load_189 : decode cX10_load 189 = .ok (.getfield 16, 3) := by decide +kernel
