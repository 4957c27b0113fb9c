theorem dX3_orderAhead_0 : decode cX3_orderAhead 0 = .ok (.aload_n 0, 1) := by decide +kernel
theorem dX3_orderAhead_1 : decode cX3_orderAhead 1 = .ok (.getfield 12, 3) := by decide +kernel
theorem dX3_orderAhead_4 : decode cX3_orderAhead 4 = .ok (.aload_n 0, 1) := by decide +kernel
theorem dX3_orderAhead_5 : decode cX3_orderAhead 5 = .ok (.getfield 47, 3) := by decide +kernel
theorem dX3_orderAhead_8 : decode cX3_orderAhead 8 = .ok (.invokevirtual 51, 3) := by decide +kernel
theorem dX3_orderAhead_11 : decode cX3_orderAhead 11 = .ok (.ireturn, 1) := by decide +kernel
set_option maxRecDepth 20000 in
theorem ggX3_haltAhead_X3_orderAhead : GoodIn wsX3_haltAhead wsX3_orderAhead := goodIn_r _ [7, 8, 9, 10, 11, 12, 13, 14, 15, 34, 35, 36, 37, 38, 39, 40, 41, 42] (by decide +kernel) (by decide +kernel)
set_option maxRecDepth 20000 in
theorem gX3_haltAhead_X3_orderAhead : GoodIn wsX3_haltAhead (wsV RX3 55 RX3 yX3_orderAhead wsX3_orderAhead) := goodIn_app (goodIn_of _ (by decide +kernel)) ggX3_haltAhead_X3_orderAhead
set_option maxRecDepth 20000 in
theorem ggX3_haltAhead_X9_functionOf : GoodIn wsX3_haltAhead wsX9_functionOf := goodIn_r _ [18] (by decide +kernel) (by decide +kernel)
set_option maxRecDepth 20000 in
theorem gX3_haltAhead_X9_functionOf_n59 : GoodIn wsX3_haltAhead (wsX9_functionOf) := ggX3_haltAhead_X9_functionOf
set_option maxRecDepth 20000 in
theorem ggX3_haltAhead_X9_isLegal : GoodIn wsX3_haltAhead wsX9_isLegal := goodIn_r _ [20] (by decide +kernel) (by decide +kernel)
set_option maxRecDepth 20000 in
theorem gX3_haltAhead_X9_isLegal_n62 : GoodIn wsX3_haltAhead (wsX9_isLegal) := ggX3_haltAhead_X9_isLegal
set_option maxRecDepth 20000 in
theorem ggX3_haltAhead_X7_isAtEnd : GoodIn wsX3_haltAhead wsX7_isAtEnd := goodIn_r _ [25, 26, 27, 43, 44, 45] (by decide +kernel) (by decide +kernel)
set_option maxRecDepth 20000 in
theorem gX3_haltAhead_X7_isAtEnd : GoodIn wsX3_haltAhead (wsV RX3 66 RX7 yX7_isAtEnd wsX7_isAtEnd) := goodIn_app (goodIn_of _ (by decide +kernel)) ggX3_haltAhead_X7_isAtEnd
set_option maxRecDepth 20000 in
theorem ggX3_haltAhead_X6_isFull : GoodIn wsX3_haltAhead wsX6_isFull := goodIn_r _ [32, 33, 46, 47, 48, 49] (by decide +kernel) (by decide +kernel)
set_option maxRecDepth 20000 in
theorem gX3_haltAhead_X6_isFull : GoodIn wsX3_haltAhead (wsV RX3 70 RX6 yX6_isFull wsX6_isFull) := goodIn_app (goodIn_of _ (by decide +kernel)) ggX3_haltAhead_X6_isFull
theorem dX3_haltAhead_0 : decode cX3_haltAhead 0 = .ok (.aload_n 0, 1) := by decide +kernel
theorem dX3_haltAhead_1 : decode cX3_haltAhead 1 = .ok (.invokevirtual 55, 3) := by decide +kernel
theorem dX3_haltAhead_4 : decode cX3_haltAhead 4 = .ok (.invokestatic 59, 3) := by decide +kernel
theorem dX3_haltAhead_7 : decode cX3_haltAhead 7 = .ok (.istore_n 1, 1) := by decide +kernel
theorem dX3_haltAhead_8 : decode cX3_haltAhead 8 = .ok (.iload_n 1, 1) := by decide +kernel
theorem dX3_haltAhead_9 : decode cX3_haltAhead 9 = .ok (.invokestatic 62, 3) := by decide +kernel
theorem dX3_haltAhead_12 : decode cX3_haltAhead 12 = .ok (.ifCond .ne 5, 3) := by decide +kernel
theorem dX3_haltAhead_15 : decode cX3_haltAhead 15 = .ok (.iconst 2, 1) := by decide +kernel
theorem dX3_haltAhead_16 : decode cX3_haltAhead 16 = .ok (.ireturn, 1) := by decide +kernel
theorem dX3_haltAhead_17 : decode cX3_haltAhead 17 = .ok (.iload_n 1, 1) := by decide +kernel
theorem dX3_haltAhead_18 : decode cX3_haltAhead 18 = .ok (.bipush 8, 2) := by decide +kernel
theorem dX3_haltAhead_20 : decode cX3_haltAhead 20 = .ok (.if_icmp .ne 15, 3) := by decide +kernel
theorem dX3_haltAhead_23 : decode cX3_haltAhead 23 = .ok (.aload_n 0, 1) := by decide +kernel
theorem dX3_haltAhead_24 : decode cX3_haltAhead 24 = .ok (.getfield 28, 3) := by decide +kernel
theorem dX3_haltAhead_27 : decode cX3_haltAhead 27 = .ok (.invokevirtual 66, 3) := by decide +kernel
theorem dX3_haltAhead_30 : decode cX3_haltAhead 30 = .ok (.ifCond .eq 5, 3) := by decide +kernel
theorem dX3_haltAhead_33 : decode cX3_haltAhead 33 = .ok (.iconst 3, 1) := by decide +kernel
theorem dX3_haltAhead_34 : decode cX3_haltAhead 34 = .ok (.ireturn, 1) := by decide +kernel
theorem dX3_haltAhead_35 : decode cX3_haltAhead 35 = .ok (.iload_n 1, 1) := by decide +kernel
theorem dX3_haltAhead_36 : decode cX3_haltAhead 36 = .ok (.bipush 9, 2) := by decide +kernel
theorem dX3_haltAhead_38 : decode cX3_haltAhead 38 = .ok (.if_icmp .ne 15, 3) := by decide +kernel
theorem dX3_haltAhead_41 : decode cX3_haltAhead 41 = .ok (.aload_n 0, 1) := by decide +kernel
theorem dX3_haltAhead_42 : decode cX3_haltAhead 42 = .ok (.getfield 35, 3) := by decide +kernel
theorem dX3_haltAhead_45 : decode cX3_haltAhead 45 = .ok (.invokevirtual 70, 3) := by decide +kernel
theorem dX3_haltAhead_48 : decode cX3_haltAhead 48 = .ok (.ifCond .eq 5, 3) := by decide +kernel
theorem dX3_haltAhead_51 : decode cX3_haltAhead 51 = .ok (.iconst 4, 1) := by decide +kernel
theorem dX3_haltAhead_52 : decode cX3_haltAhead 52 = .ok (.ireturn, 1) := by decide +kernel
theorem dX3_haltAhead_53 : decode cX3_haltAhead 53 = .ok (.iconst 0, 1) := by decide +kernel
theorem dX3_haltAhead_54 : decode cX3_haltAhead 54 = .ok (.ireturn, 1) := by decide +kernel
set_option maxRecDepth 20000 in
theorem ggX3_doNext_X3_orderAhead : GoodIn wsX3_doNext wsX3_orderAhead := goodIn_r _ [11, 5, 1, 12, 13, 14, 15, 16, 17, 171, 172, 173, 174, 175, 176, 177, 180, 181] (by decide +kernel) (by decide +kernel)
set_option maxRecDepth 20000 in
theorem gX3_doNext_X3_orderAhead : GoodIn wsX3_doNext (wsV RX3 55 RX3 yX3_orderAhead wsX3_orderAhead) := goodIn_app (goodIn_of _ (by decide +kernel)) ggX3_doNext_X3_orderAhead
set_option maxRecDepth 20000 in
theorem ggX3_doNext_X9_functionOf : GoodIn wsX3_doNext wsX9_functionOf := goodIn_r _ [20] (by decide +kernel) (by decide +kernel)
set_option maxRecDepth 20000 in
theorem gX3_doNext_X9_functionOf_n59 : GoodIn wsX3_doNext (wsX9_functionOf) := ggX3_doNext_X9_functionOf
set_option maxRecDepth 20000 in
theorem ggX3_doNext_X9_behind : GoodIn wsX3_doNext wsX9_behind := goodIn_r _ [22] (by decide +kernel) (by decide +kernel)
set_option maxRecDepth 20000 in
theorem gX3_doNext_X9_behind_n73 : GoodIn wsX3_doNext (wsX9_behind) := ggX3_doNext_X9_behind
set_option maxRecDepth 20000 in
theorem ggX3_doNext_X9_addressOf : GoodIn wsX3_doNext wsX9_addressOf := goodIn_r _ [24] (by decide +kernel) (by decide +kernel)
set_option maxRecDepth 20000 in
theorem gX3_doNext_X9_addressOf_n79 : GoodIn wsX3_doNext (wsX9_addressOf) := ggX3_doNext_X9_addressOf
set_option maxRecDepth 20000 in
theorem ggX3_doNext_X3_layHighest : GoodIn wsX3_doNext wsX3_layHighest := goodIn_r _ [28, 2, 29, 30, 19, 31, 32, 33, 34, 10, 35, 5, 23, 24, 36, 37, 38, 15, 39, 40, 41, 42, 43, 44, 17, 45, 46, 171, 172, 173, 174, 175, 176, 177, 178, 179, 180, 181] (by decide +kernel) (by decide +kernel)
set_option maxRecDepth 20000 in
theorem gX3_doNext_X3_layHighest : GoodIn wsX3_doNext (wsV RX3 82 RX3 yX3_layHighest wsX3_layHighest) := goodIn_app (goodIn_of _ (by decide +kernel)) ggX3_doNext_X3_layHighest
set_option maxRecDepth 20000 in
theorem ggX3_doNext_X0_become : GoodIn wsX3_doNext wsX0_become := goodIn_r _ [51, 52, 53, 178, 179] (by decide +kernel) (by decide +kernel)
set_option maxRecDepth 20000 in
theorem gX3_doNext_X0_become : GoodIn wsX3_doNext (wsV RX3 86 RX0 yX0_become wsX0_become) := goodIn_app (goodIn_of _ (by decide +kernel)) ggX3_doNext_X0_become
set_option maxRecDepth 20000 in
theorem ggX3_doNext_X7_take : GoodIn wsX3_doNext wsX7_take := goodIn_r _ [58, 59, 60, 61, 62, 63, 57, 64, 65, 182, 183, 184] (by decide +kernel) (by decide +kernel)
set_option maxRecDepth 20000 in
theorem gX3_doNext_X7_take : GoodIn wsX3_doNext (wsV RX3 90 RX7 yX7_take wsX7_take) := goodIn_app (goodIn_of _ (by decide +kernel)) ggX3_doNext_X7_take
set_option maxRecDepth 20000 in
theorem ggX3_doNext_X3_layWord : GoodIn wsX3_doNext wsX3_layWord := goodIn_r _ [35, 5, 30, 19, 31, 23, 24, 36, 37, 38, 15, 39, 40, 41, 42, 43, 44, 17, 45, 46, 171, 172, 173, 174, 175, 176, 177, 180, 181] (by decide +kernel) (by decide +kernel)
set_option maxRecDepth 20000 in
theorem gX3_doNext_X3_layWord : GoodIn wsX3_doNext (wsV RX3 93 RX3 yX3_layWord wsX3_layWord) := goodIn_app (goodIn_of _ (by decide +kernel)) ggX3_doNext_X3_layWord
set_option maxRecDepth 20000 in
theorem ggX3_doNext_X3_highAddress : GoodIn wsX3_doNext wsX3_highAddress := goodIn_r _ [69, 30, 19, 31, 23, 24] (by decide +kernel) (by decide +kernel)
set_option maxRecDepth 20000 in
theorem gX3_doNext_X3_highAddress : GoodIn wsX3_doNext (wsV RX3 97 RX3 yX3_highAddress wsX3_highAddress) := goodIn_app (goodIn_of _ (by decide +kernel)) ggX3_doNext_X3_highAddress
set_option maxRecDepth 20000 in
theorem ggX3_doNext_X5_shortAt : GoodIn wsX3_doNext wsX5_shortAt := goodIn_r _ [16, 17, 180, 181] (by decide +kernel) (by decide +kernel)
set_option maxRecDepth 20000 in
theorem gX3_doNext_X5_shortAt : GoodIn wsX3_doNext (wsV RX3 51 RX5 yX5_shortAt wsX5_shortAt) := goodIn_app (goodIn_of _ (by decide +kernel)) ggX3_doNext_X5_shortAt
set_option maxRecDepth 20000 in
theorem ggX3_doNext_X6_print : GoodIn wsX3_doNext wsX6_print := goodIn_r _ [74, 75, 76, 77, 78, 79, 73, 80, 81, 82, 83, 84, 85, 86, 87, 88, 89, 90, 91, 92, 93, 94, 95, 96, 97, 98, 99, 100, 101, 102, 103, 104, 105, 106, 107, 108, 109, 110, 111, 112, 113, 114, 115, 116, 117, 118, 119, 120, 121, 122, 123, 185, 186, 187, 188] (by decide +kernel) (by decide +kernel)
set_option maxRecDepth 20000 in
theorem gX3_doNext_X6_print : GoodIn wsX3_doNext (wsV RX3 100 RX6 yX6_print wsX6_print) := goodIn_app (goodIn_of _ (by decide +kernel)) ggX3_doNext_X6_print
set_option maxRecDepth 20000 in
theorem ggX3_doNext_X3_layPrinted : GoodIn wsX3_doNext wsX3_layPrinted := goodIn_r _ [127, 4, 5, 12, 13, 14, 15, 16, 17, 46, 42, 43, 44, 45, 171, 172, 173, 174, 175, 176, 177, 185, 186, 187, 188, 180, 181] (by decide +kernel) (by decide +kernel)
set_option maxRecDepth 20000 in
theorem gX3_doNext_X3_layPrinted : GoodIn wsX3_doNext (wsV RX3 103 RX3 yX3_layPrinted wsX3_layPrinted) := goodIn_app (goodIn_of _ (by decide +kernel)) ggX3_doNext_X3_layPrinted
set_option maxRecDepth 20000 in
theorem ggX3_doNext_X3_reckon : GoodIn wsX3_doNext wsX3_reckon := goodIn_r _ [131, 2, 132, 133, 18, 19, 20, 134, 135, 136, 10, 137, 5, 23, 24, 30, 31, 138, 139, 140, 15, 141, 40, 142, 13, 14, 16, 17, 12, 143, 144, 145, 146, 147, 50, 148, 53, 52, 149, 150, 151, 152, 153, 154, 155, 156, 157, 158, 159, 160, 161, 162, 163, 164, 165, 166, 48, 49, 51, 167, 168, 169, 170, 171, 172, 173, 174, 175, 176, 177, 180, 181, 178, 179] (by decide +kernel) (by decide +kernel)
set_option maxRecDepth 20000 in
theorem gX3_doNext_X3_reckon : GoodIn wsX3_doNext (wsV RX3 106 RX3 yX3_reckon wsX3_reckon) := goodIn_app (goodIn_of _ (by decide +kernel)) ggX3_doNext_X3_reckon
theorem dX3_doNext_0 : decode cX3_doNext 0 = .ok (.aload_n 0, 1) := by decide +kernel
theorem dX3_doNext_1 : decode cX3_doNext 1 = .ok (.invokevirtual 55, 3) := by decide +kernel
theorem dX3_doNext_4 : decode cX3_doNext 4 = .ok (.istore_n 1, 1) := by decide +kernel
theorem dX3_doNext_5 : decode cX3_doNext 5 = .ok (.iload_n 1, 1) := by decide +kernel
theorem dX3_doNext_6 : decode cX3_doNext 6 = .ok (.invokestatic 59, 3) := by decide +kernel
theorem dX3_doNext_9 : decode cX3_doNext 9 = .ok (.istore_n 2, 1) := by decide +kernel
theorem dX3_doNext_10 : decode cX3_doNext 10 = .ok (.aload_n 0, 1) := by decide +kernel
theorem dX3_doNext_11 : decode cX3_doNext 11 = .ok (.aload_n 0, 1) := by decide +kernel
theorem dX3_doNext_12 : decode cX3_doNext 12 = .ok (.getfield 47, 3) := by decide +kernel
theorem dX3_doNext_15 : decode cX3_doNext 15 = .ok (.invokestatic 73, 3) := by decide +kernel
theorem dX3_doNext_18 : decode cX3_doNext 18 = .ok (.putfield 47, 3) := by decide +kernel
theorem dX3_doNext_21 : decode cX3_doNext 21 = .ok (.iload_n 2, 1) := by decide +kernel
theorem dX3_doNext_22 : decode cX3_doNext 22 = .ok (.tableswitch 252 3 27 #[114, 252, 174, 252, 191, 199, 215, 252, 252, 252, 252, 252, 252, 252, 240, 252, 252, 252, 252, 252, 252, 252, 252, 252, 144], 114) := by decide +kernel
theorem dX3_doNext_136 : decode cX3_doNext 136 = .ok (.aload_n 0, 1) := by decide +kernel
theorem dX3_doNext_137 : decode cX3_doNext 137 = .ok (.aload_n 0, 1) := by decide +kernel
theorem dX3_doNext_138 : decode cX3_doNext 138 = .ok (.getfield 21, 3) := by decide +kernel
theorem dX3_doNext_141 : decode cX3_doNext 141 = .ok (.getfield 76, 3) := by decide +kernel
theorem dX3_doNext_144 : decode cX3_doNext 144 = .ok (.lconst 0, 1) := by decide +kernel
theorem dX3_doNext_145 : decode cX3_doNext 145 = .ok (.lcmp, 1) := by decide +kernel
theorem dX3_doNext_146 : decode cX3_doNext 146 = .ok (.ifCond .lt 10, 3) := by decide +kernel
theorem dX3_doNext_149 : decode cX3_doNext 149 = .ok (.iload_n 1, 1) := by decide +kernel
theorem dX3_doNext_150 : decode cX3_doNext 150 = .ok (.invokestatic 79, 3) := by decide +kernel
theorem dX3_doNext_153 : decode cX3_doNext 153 = .ok (.goto 7, 3) := by decide +kernel
theorem dX3_doNext_156 : decode cX3_doNext 156 = .ok (.aload_n 0, 1) := by decide +kernel
theorem dX3_doNext_157 : decode cX3_doNext 157 = .ok (.getfield 47, 3) := by decide +kernel
theorem dX3_doNext_160 : decode cX3_doNext 160 = .ok (.putfield 47, 3) := by decide +kernel
theorem dX3_doNext_163 : decode cX3_doNext 163 = .ok (.goto 116, 3) := by decide +kernel
theorem dX3_doNext_166 : decode cX3_doNext 166 = .ok (.aload_n 0, 1) := by decide +kernel
theorem dX3_doNext_167 : decode cX3_doNext 167 = .ok (.aload_n 0, 1) := by decide +kernel
theorem dX3_doNext_168 : decode cX3_doNext 168 = .ok (.getfield 21, 3) := by decide +kernel
theorem dX3_doNext_171 : decode cX3_doNext 171 = .ok (.getfield 76, 3) := by decide +kernel
theorem dX3_doNext_174 : decode cX3_doNext 174 = .ok (.lconst 0, 1) := by decide +kernel
theorem dX3_doNext_175 : decode cX3_doNext 175 = .ok (.lcmp, 1) := by decide +kernel
theorem dX3_doNext_176 : decode cX3_doNext 176 = .ok (.ifCond .ge 10, 3) := by decide +kernel
theorem dX3_doNext_179 : decode cX3_doNext 179 = .ok (.iload_n 1, 1) := by decide +kernel
theorem dX3_doNext_180 : decode cX3_doNext 180 = .ok (.invokestatic 79, 3) := by decide +kernel
theorem dX3_doNext_183 : decode cX3_doNext 183 = .ok (.goto 7, 3) := by decide +kernel
theorem dX3_doNext_186 : decode cX3_doNext 186 = .ok (.aload_n 0, 1) := by decide +kernel
theorem dX3_doNext_187 : decode cX3_doNext 187 = .ok (.getfield 47, 3) := by decide +kernel
theorem dX3_doNext_190 : decode cX3_doNext 190 = .ok (.putfield 47, 3) := by decide +kernel
theorem dX3_doNext_193 : decode cX3_doNext 193 = .ok (.goto 86, 3) := by decide +kernel
theorem dX3_doNext_196 : decode cX3_doNext 196 = .ok (.aload_n 0, 1) := by decide +kernel
theorem dX3_doNext_197 : decode cX3_doNext 197 = .ok (.iload_n 1, 1) := by decide +kernel
theorem dX3_doNext_198 : decode cX3_doNext 198 = .ok (.invokevirtual 82, 3) := by decide +kernel
theorem dX3_doNext_201 : decode cX3_doNext 201 = .ok (.aload_n 0, 1) := by decide +kernel
theorem dX3_doNext_202 : decode cX3_doNext 202 = .ok (.getfield 21, 3) := by decide +kernel
theorem dX3_doNext_205 : decode cX3_doNext 205 = .ok (.lconst 0, 1) := by decide +kernel
theorem dX3_doNext_206 : decode cX3_doNext 206 = .ok (.lconst 0, 1) := by decide +kernel
theorem dX3_doNext_207 : decode cX3_doNext 207 = .ok (.invokevirtual 86, 3) := by decide +kernel
theorem dX3_doNext_210 : decode cX3_doNext 210 = .ok (.goto 69, 3) := by decide +kernel
theorem dX3_doNext_213 : decode cX3_doNext 213 = .ok (.aload_n 0, 1) := by decide +kernel
theorem dX3_doNext_214 : decode cX3_doNext 214 = .ok (.iload_n 1, 1) := by decide +kernel
theorem dX3_doNext_215 : decode cX3_doNext 215 = .ok (.invokevirtual 82, 3) := by decide +kernel
theorem dX3_doNext_218 : decode cX3_doNext 218 = .ok (.goto 61, 3) := by decide +kernel
theorem dX3_doNext_221 : decode cX3_doNext 221 = .ok (.aload_n 0, 1) := by decide +kernel
theorem dX3_doNext_222 : decode cX3_doNext 222 = .ok (.iload_n 1, 1) := by decide +kernel
theorem dX3_doNext_223 : decode cX3_doNext 223 = .ok (.aload_n 0, 1) := by decide +kernel
theorem dX3_doNext_224 : decode cX3_doNext 224 = .ok (.getfield 28, 3) := by decide +kernel
theorem dX3_doNext_227 : decode cX3_doNext 227 = .ok (.invokevirtual 90, 3) := by decide +kernel
theorem dX3_doNext_230 : decode cX3_doNext 230 = .ok (.i2l, 1) := by decide +kernel
theorem dX3_doNext_231 : decode cX3_doNext 231 = .ok (.invokevirtual 93, 3) := by decide +kernel
theorem dX3_doNext_234 : decode cX3_doNext 234 = .ok (.goto 45, 3) := by decide +kernel
theorem dX3_doNext_237 : decode cX3_doNext 237 = .ok (.aload_n 0, 1) := by decide +kernel
theorem dX3_doNext_238 : decode cX3_doNext 238 = .ok (.getfield 35, 3) := by decide +kernel
theorem dX3_doNext_241 : decode cX3_doNext 241 = .ok (.aload_n 0, 1) := by decide +kernel
theorem dX3_doNext_242 : decode cX3_doNext 242 = .ok (.getfield 12, 3) := by decide +kernel
theorem dX3_doNext_245 : decode cX3_doNext 245 = .ok (.aload_n 0, 1) := by decide +kernel
theorem dX3_doNext_246 : decode cX3_doNext 246 = .ok (.iload_n 1, 1) := by decide +kernel
theorem dX3_doNext_247 : decode cX3_doNext 247 = .ok (.invokevirtual 97, 3) := by decide +kernel
theorem dX3_doNext_250 : decode cX3_doNext 250 = .ok (.invokevirtual 51, 3) := by decide +kernel
theorem dX3_doNext_253 : decode cX3_doNext 253 = .ok (.invokestatic 59, 3) := by decide +kernel
theorem dX3_doNext_256 : decode cX3_doNext 256 = .ok (.invokevirtual 100, 3) := by decide +kernel
theorem dX3_doNext_259 : decode cX3_doNext 259 = .ok (.goto 20, 3) := by decide +kernel
theorem dX3_doNext_262 : decode cX3_doNext 262 = .ok (.aload_n 0, 1) := by decide +kernel
theorem dX3_doNext_263 : decode cX3_doNext 263 = .ok (.aload_n 0, 1) := by decide +kernel
theorem dX3_doNext_264 : decode cX3_doNext 264 = .ok (.iload_n 1, 1) := by decide +kernel
theorem dX3_doNext_265 : decode cX3_doNext 265 = .ok (.invokevirtual 97, 3) := by decide +kernel
theorem dX3_doNext_268 : decode cX3_doNext 268 = .ok (.invokevirtual 103, 3) := by decide +kernel
theorem dX3_doNext_271 : decode cX3_doNext 271 = .ok (.goto 8, 3) := by decide +kernel
theorem dX3_doNext_274 : decode cX3_doNext 274 = .ok (.aload_n 0, 1) := by decide +kernel
theorem dX3_doNext_275 : decode cX3_doNext 275 = .ok (.iload_n 1, 1) := by decide +kernel
theorem dX3_doNext_276 : decode cX3_doNext 276 = .ok (.invokevirtual 106, 3) := by decide +kernel
theorem dX3_doNext_279 : decode cX3_doNext 279 = .ok (.aload_n 0, 1) := by decide +kernel
theorem dX3_doNext_280 : decode cX3_doNext 280 = .ok (.getfield 39, 3) := by decide +kernel
theorem dX3_doNext_283 : decode cX3_doNext 283 = .ok (.iload_n 2, 1) := by decide +kernel
theorem dX3_doNext_284 : decode cX3_doNext 284 = .ok (.dup2, 1) := by decide +kernel
theorem dX3_doNext_285 : decode cX3_doNext 285 = .ok (.iaload, 1) := by decide +kernel
theorem dX3_doNext_286 : decode cX3_doNext 286 = .ok (.iconst 1, 1) := by decide +kernel
theorem dX3_doNext_287 : decode cX3_doNext 287 = .ok (.iadd, 1) := by decide +kernel
theorem dX3_doNext_288 : decode cX3_doNext 288 = .ok (.iastore, 1) := by decide +kernel
theorem dX3_doNext_289 : decode cX3_doNext 289 = .ok (.iload_n 2, 1) := by decide +kernel
theorem dX3_doNext_290 : decode cX3_doNext 290 = .ok (.bipush 13, 2) := by decide +kernel
theorem dX3_doNext_292 : decode cX3_doNext 292 = .ok (.if_icmp .ne 7, 3) := by decide +kernel
theorem dX3_doNext_295 : decode cX3_doNext 295 = .ok (.iconst 1, 1) := by decide +kernel
theorem dX3_doNext_296 : decode cX3_doNext 296 = .ok (.goto 4, 3) := by decide +kernel
theorem dX3_doNext_299 : decode cX3_doNext 299 = .ok (.iconst 0, 1) := by decide +kernel
theorem dX3_doNext_300 : decode cX3_doNext 300 = .ok (.ireturn, 1) := by decide +kernel
set_option maxRecDepth 20000 in
theorem ggX3_reckon_X9_functionOf : GoodIn wsX3_reckon wsX9_functionOf := goodIn_r _ [6] (by decide +kernel) (by decide +kernel)
set_option maxRecDepth 20000 in
theorem gX3_reckon_X9_functionOf_n59 : GoodIn wsX3_reckon (wsX9_functionOf) := ggX3_reckon_X9_functionOf
set_option maxRecDepth 20000 in
theorem ggX3_reckon_X3_operand : GoodIn wsX3_reckon wsX3_operand := goodIn_r _ [11, 12, 13, 5, 14, 15, 16, 17, 18, 19, 20, 21, 22, 23, 24, 25, 26, 27, 28, 29, 30, 63, 64, 65, 66, 67, 68, 69, 70, 71] (by decide +kernel) (by decide +kernel)
set_option maxRecDepth 20000 in
theorem gX3_reckon_X3_operand : GoodIn wsX3_reckon (wsV RX3 109 RX3 yX3_operand wsX3_operand) := goodIn_app (goodIn_of _ (by decide +kernel)) ggX3_reckon_X3_operand
set_option maxRecDepth 20000 in
theorem ggX3_reckon_X0_plus : GoodIn wsX3_reckon wsX0_plus := goodIn_r _ [35, 36, 37, 38, 29, 5, 30, 72, 73] (by decide +kernel) (by decide +kernel)
set_option maxRecDepth 20000 in
theorem gX3_reckon_X0_plus : GoodIn wsX3_reckon (wsV RX3 113 RX0 yX0_plus wsX0_plus) := goodIn_app (goodIn_of _ (by decide +kernel)) ggX3_reckon_X0_plus
set_option maxRecDepth 20000 in
theorem ggX3_reckon_X0_plusProduct : GoodIn wsX3_reckon wsX0_plusProduct := goodIn_r _ [42, 43, 44, 45, 38, 46, 32, 33, 34, 35, 36, 37, 29, 5, 30, 72, 73] (by decide +kernel) (by decide +kernel)
set_option maxRecDepth 20000 in
theorem gX3_reckon_X0_plusProduct : GoodIn wsX3_reckon (wsV RX3 116 RX0 yX0_plusProduct wsX0_plusProduct) := goodIn_app (goodIn_of _ (by decide +kernel)) ggX3_reckon_X0_plusProduct
set_option maxRecDepth 20000 in
theorem ggX3_reckon_X3_shiftOf : GoodIn wsX3_reckon wsX3_shiftOf := goodIn_r _ [50] (by decide +kernel) (by decide +kernel)
set_option maxRecDepth 20000 in
theorem gX3_reckon_X3_shiftOf : GoodIn wsX3_reckon (wsV RX3 120 RX3 yX3_shiftOf wsX3_shiftOf) := goodIn_app (goodIn_of _ (by decide +kernel)) ggX3_reckon_X3_shiftOf
set_option maxRecDepth 20000 in
theorem ggX3_reckon_X0_shiftRight : GoodIn wsX3_reckon wsX0_shiftRight := goodIn_r _ [54, 37, 36, 55, 56, 57, 34, 58, 72, 73] (by decide +kernel) (by decide +kernel)
set_option maxRecDepth 20000 in
theorem gX3_reckon_X0_shiftRight : GoodIn wsX3_reckon (wsV RX3 123 RX0 yX0_shiftRight wsX0_shiftRight) := goodIn_app (goodIn_of _ (by decide +kernel)) ggX3_reckon_X0_shiftRight
set_option maxRecDepth 20000 in
theorem ggX3_reckon_X0_shiftLeft : GoodIn wsX3_reckon wsX0_shiftLeft := goodIn_r _ [62, 37, 36, 38, 29, 5, 30, 55, 56, 57, 34, 58, 72, 73] (by decide +kernel) (by decide +kernel)
set_option maxRecDepth 20000 in
theorem gX3_reckon_X0_shiftLeft : GoodIn wsX3_reckon (wsV RX3 126 RX0 yX0_shiftLeft wsX0_shiftLeft) := goodIn_app (goodIn_of _ (by decide +kernel)) ggX3_reckon_X0_shiftLeft
theorem dX3_reckon_0 : decode cX3_reckon 0 = .ok (.iload_n 1, 1) := by decide +kernel
theorem dX3_reckon_1 : decode cX3_reckon 1 = .ok (.invokestatic 59, 3) := by decide +kernel
theorem dX3_reckon_4 : decode cX3_reckon 4 = .ok (.tableswitch 278 4 31 #[234, 278, 264, 278, 278, 278, 278, 278, 144, 278, 278, 278, 278, 278, 278, 278, 278, 161, 193, 278, 278, 249, 278, 278, 128, 278, 213, 173], 128) := by decide +kernel
theorem dX3_reckon_132 : decode cX3_reckon 132 = .ok (.aload_n 0, 1) := by decide +kernel
theorem dX3_reckon_133 : decode cX3_reckon 133 = .ok (.getfield 21, 3) := by decide +kernel
theorem dX3_reckon_136 : decode cX3_reckon 136 = .ok (.aload_n 0, 1) := by decide +kernel
theorem dX3_reckon_137 : decode cX3_reckon 137 = .ok (.iload_n 1, 1) := by decide +kernel
theorem dX3_reckon_138 : decode cX3_reckon 138 = .ok (.invokevirtual 109, 3) := by decide +kernel
theorem dX3_reckon_141 : decode cX3_reckon 141 = .ok (.lconst 0, 1) := by decide +kernel
theorem dX3_reckon_142 : decode cX3_reckon 142 = .ok (.invokevirtual 113, 3) := by decide +kernel
theorem dX3_reckon_145 : decode cX3_reckon 145 = .ok (.goto 137, 3) := by decide +kernel
theorem dX3_reckon_148 : decode cX3_reckon 148 = .ok (.aload_n 0, 1) := by decide +kernel
theorem dX3_reckon_149 : decode cX3_reckon 149 = .ok (.getfield 21, 3) := by decide +kernel
theorem dX3_reckon_152 : decode cX3_reckon 152 = .ok (.aload_n 0, 1) := by decide +kernel
theorem dX3_reckon_153 : decode cX3_reckon 153 = .ok (.iload_n 1, 1) := by decide +kernel
theorem dX3_reckon_154 : decode cX3_reckon 154 = .ok (.invokevirtual 109, 3) := by decide +kernel
theorem dX3_reckon_157 : decode cX3_reckon 157 = .ok (.lneg, 1) := by decide +kernel
theorem dX3_reckon_158 : decode cX3_reckon 158 = .ok (.lconst 0, 1) := by decide +kernel
theorem dX3_reckon_159 : decode cX3_reckon 159 = .ok (.invokevirtual 113, 3) := by decide +kernel
theorem dX3_reckon_162 : decode cX3_reckon 162 = .ok (.goto 120, 3) := by decide +kernel
theorem dX3_reckon_165 : decode cX3_reckon 165 = .ok (.aload_n 0, 1) := by decide +kernel
theorem dX3_reckon_166 : decode cX3_reckon 166 = .ok (.aload_n 0, 1) := by decide +kernel
theorem dX3_reckon_167 : decode cX3_reckon 167 = .ok (.iload_n 1, 1) := by decide +kernel
theorem dX3_reckon_168 : decode cX3_reckon 168 = .ok (.invokevirtual 109, 3) := by decide +kernel
theorem dX3_reckon_171 : decode cX3_reckon 171 = .ok (.putfield 43, 3) := by decide +kernel
theorem dX3_reckon_174 : decode cX3_reckon 174 = .ok (.goto 108, 3) := by decide +kernel
theorem dX3_reckon_177 : decode cX3_reckon 177 = .ok (.aload_n 0, 1) := by decide +kernel
theorem dX3_reckon_178 : decode cX3_reckon 178 = .ok (.getfield 21, 3) := by decide +kernel
theorem dX3_reckon_181 : decode cX3_reckon 181 = .ok (.aload_n 0, 1) := by decide +kernel
theorem dX3_reckon_182 : decode cX3_reckon 182 = .ok (.getfield 43, 3) := by decide +kernel
theorem dX3_reckon_185 : decode cX3_reckon 185 = .ok (.aload_n 0, 1) := by decide +kernel
theorem dX3_reckon_186 : decode cX3_reckon 186 = .ok (.iload_n 1, 1) := by decide +kernel
theorem dX3_reckon_187 : decode cX3_reckon 187 = .ok (.invokevirtual 109, 3) := by decide +kernel
theorem dX3_reckon_190 : decode cX3_reckon 190 = .ok (.iconst 1, 1) := by decide +kernel
theorem dX3_reckon_191 : decode cX3_reckon 191 = .ok (.invokevirtual 116, 3) := by decide +kernel
theorem dX3_reckon_194 : decode cX3_reckon 194 = .ok (.goto 88, 3) := by decide +kernel
theorem dX3_reckon_197 : decode cX3_reckon 197 = .ok (.aload_n 0, 1) := by decide +kernel
theorem dX3_reckon_198 : decode cX3_reckon 198 = .ok (.getfield 21, 3) := by decide +kernel
theorem dX3_reckon_201 : decode cX3_reckon 201 = .ok (.aload_n 0, 1) := by decide +kernel
theorem dX3_reckon_202 : decode cX3_reckon 202 = .ok (.getfield 43, 3) := by decide +kernel
theorem dX3_reckon_205 : decode cX3_reckon 205 = .ok (.aload_n 0, 1) := by decide +kernel
theorem dX3_reckon_206 : decode cX3_reckon 206 = .ok (.iload_n 1, 1) := by decide +kernel
theorem dX3_reckon_207 : decode cX3_reckon 207 = .ok (.invokevirtual 109, 3) := by decide +kernel
theorem dX3_reckon_210 : decode cX3_reckon 210 = .ok (.iconst (-1), 1) := by decide +kernel
theorem dX3_reckon_211 : decode cX3_reckon 211 = .ok (.invokevirtual 116, 3) := by decide +kernel
theorem dX3_reckon_214 : decode cX3_reckon 214 = .ok (.goto 68, 3) := by decide +kernel
theorem dX3_reckon_217 : decode cX3_reckon 217 = .ok (.aload_n 0, 1) := by decide +kernel
theorem dX3_reckon_218 : decode cX3_reckon 218 = .ok (.getfield 21, 3) := by decide +kernel
theorem dX3_reckon_221 : decode cX3_reckon 221 = .ok (.aload_n 0, 1) := by decide +kernel
theorem dX3_reckon_222 : decode cX3_reckon 222 = .ok (.getfield 43, 3) := by decide +kernel
theorem dX3_reckon_225 : decode cX3_reckon 225 = .ok (.aload_n 0, 1) := by decide +kernel
theorem dX3_reckon_226 : decode cX3_reckon 226 = .ok (.iload_n 1, 1) := by decide +kernel
theorem dX3_reckon_227 : decode cX3_reckon 227 = .ok (.invokevirtual 109, 3) := by decide +kernel
theorem dX3_reckon_230 : decode cX3_reckon 230 = .ok (.land, 1) := by decide +kernel
theorem dX3_reckon_231 : decode cX3_reckon 231 = .ok (.lconst 0, 1) := by decide +kernel
theorem dX3_reckon_232 : decode cX3_reckon 232 = .ok (.invokevirtual 113, 3) := by decide +kernel
theorem dX3_reckon_235 : decode cX3_reckon 235 = .ok (.goto 47, 3) := by decide +kernel
theorem dX3_reckon_238 : decode cX3_reckon 238 = .ok (.aload_n 0, 1) := by decide +kernel
theorem dX3_reckon_239 : decode cX3_reckon 239 = .ok (.getfield 21, 3) := by decide +kernel
theorem dX3_reckon_242 : decode cX3_reckon 242 = .ok (.aload_n 0, 1) := by decide +kernel
theorem dX3_reckon_243 : decode cX3_reckon 243 = .ok (.iload_n 1, 1) := by decide +kernel
theorem dX3_reckon_244 : decode cX3_reckon 244 = .ok (.invokevirtual 120, 3) := by decide +kernel
theorem dX3_reckon_247 : decode cX3_reckon 247 = .ok (.invokevirtual 123, 3) := by decide +kernel
theorem dX3_reckon_250 : decode cX3_reckon 250 = .ok (.goto 32, 3) := by decide +kernel
theorem dX3_reckon_253 : decode cX3_reckon 253 = .ok (.aload_n 0, 1) := by decide +kernel
theorem dX3_reckon_254 : decode cX3_reckon 254 = .ok (.getfield 21, 3) := by decide +kernel
theorem dX3_reckon_257 : decode cX3_reckon 257 = .ok (.aload_n 0, 1) := by decide +kernel
theorem dX3_reckon_258 : decode cX3_reckon 258 = .ok (.iload_n 1, 1) := by decide +kernel
theorem dX3_reckon_259 : decode cX3_reckon 259 = .ok (.invokevirtual 120, 3) := by decide +kernel
theorem dX3_reckon_262 : decode cX3_reckon 262 = .ok (.invokevirtual 126, 3) := by decide +kernel
theorem dX3_reckon_265 : decode cX3_reckon 265 = .ok (.goto 17, 3) := by decide +kernel
theorem dX3_reckon_268 : decode cX3_reckon 268 = .ok (.aload_n 0, 1) := by decide +kernel
theorem dX3_reckon_269 : decode cX3_reckon 269 = .ok (.getfield 21, 3) := by decide +kernel
theorem dX3_reckon_272 : decode cX3_reckon 272 = .ok (.lconst 0, 1) := by decide +kernel
theorem dX3_reckon_273 : decode cX3_reckon 273 = .ok (.ldc2_w 129, 3) := by decide +kernel
theorem dX3_reckon_276 : decode cX3_reckon 276 = .ok (.invokevirtual 113, 3) := by decide +kernel
theorem dX3_reckon_279 : decode cX3_reckon 279 = .ok (.goto 3, 3) := by decide +kernel
theorem dX3_reckon_282 : decode cX3_reckon 282 = .ok (.return_, 1) := by decide +kernel
set_option maxRecDepth 20000 in
theorem ggX3_operand_X9_addressOf : GoodIn wsX3_operand wsX9_addressOf := goodIn_r _ [4] (by decide +kernel) (by decide +kernel)
set_option maxRecDepth 20000 in
theorem gX3_operand_X9_addressOf_n79 : GoodIn wsX3_operand (wsX9_addressOf) := ggX3_operand_X9_addressOf
set_option maxRecDepth 20000 in
theorem ggX3_operand_X9_isLongOrder : GoodIn wsX3_operand wsX9_isLongOrder := goodIn_r _ [6] (by decide +kernel) (by decide +kernel)
set_option maxRecDepth 20000 in
theorem gX3_operand_X9_isLongOrder_n131 : GoodIn wsX3_operand (wsX9_isLongOrder) := ggX3_operand_X9_isLongOrder
set_option maxRecDepth 20000 in
theorem ggX3_operand_X5_longAt : GoodIn wsX3_operand wsX5_longAt := goodIn_r _ [11, 12, 13, 14, 15, 10, 16, 17, 28, 29] (by decide +kernel) (by decide +kernel)
set_option maxRecDepth 20000 in
theorem gX3_operand_X5_longAt : GoodIn wsX3_operand (wsV RX3 134 RX5 yX5_longAt wsX5_longAt) := goodIn_app (goodIn_of _ (by decide +kernel)) ggX3_operand_X5_longAt
set_option maxRecDepth 20000 in
theorem ggX3_operand_X5_shortAt : GoodIn wsX3_operand wsX5_shortAt := goodIn_r _ [16, 17, 28, 29] (by decide +kernel) (by decide +kernel)
set_option maxRecDepth 20000 in
theorem gX3_operand_X5_shortAt : GoodIn wsX3_operand (wsV RX3 51 RX5 yX5_shortAt wsX5_shortAt) := goodIn_app (goodIn_of _ (by decide +kernel)) ggX3_operand_X5_shortAt
set_option maxRecDepth 20000 in
theorem ggX3_operand_X9_signedLong : GoodIn wsX3_operand wsX9_signedLong := goodIn_r _ [20] (by decide +kernel) (by decide +kernel)
set_option maxRecDepth 20000 in
theorem gX3_operand_X9_signedLong_n137 : GoodIn wsX3_operand (wsX9_signedLong) := ggX3_operand_X9_signedLong
theorem dX3_operand_0 : decode cX3_operand 0 = .ok (.iload_n 1, 1) := by decide +kernel
theorem dX3_operand_1 : decode cX3_operand 1 = .ok (.invokestatic 79, 3) := by decide +kernel
theorem dX3_operand_4 : decode cX3_operand 4 = .ok (.istore_n 2, 1) := by decide +kernel
theorem dX3_operand_5 : decode cX3_operand 5 = .ok (.iload_n 1, 1) := by decide +kernel
theorem dX3_operand_6 : decode cX3_operand 6 = .ok (.invokestatic 131, 3) := by decide +kernel
theorem dX3_operand_9 : decode cX3_operand 9 = .ok (.ifCond .eq 14, 3) := by decide +kernel
theorem dX3_operand_12 : decode cX3_operand 12 = .ok (.aload_n 0, 1) := by decide +kernel
theorem dX3_operand_13 : decode cX3_operand 13 = .ok (.getfield 12, 3) := by decide +kernel
theorem dX3_operand_16 : decode cX3_operand 16 = .ok (.iload_n 2, 1) := by decide +kernel
theorem dX3_operand_17 : decode cX3_operand 17 = .ok (.invokevirtual 134, 3) := by decide +kernel
theorem dX3_operand_20 : decode cX3_operand 20 = .ok (.goto 15, 3) := by decide +kernel
theorem dX3_operand_23 : decode cX3_operand 23 = .ok (.aload_n 0, 1) := by decide +kernel
theorem dX3_operand_24 : decode cX3_operand 24 = .ok (.getfield 12, 3) := by decide +kernel
theorem dX3_operand_27 : decode cX3_operand 27 = .ok (.iload_n 2, 1) := by decide +kernel
theorem dX3_operand_28 : decode cX3_operand 28 = .ok (.invokevirtual 51, 3) := by decide +kernel
theorem dX3_operand_31 : decode cX3_operand 31 = .ok (.i2l, 1) := by decide +kernel
theorem dX3_operand_32 : decode cX3_operand 32 = .ok (.bipush 18, 2) := by decide +kernel
theorem dX3_operand_34 : decode cX3_operand 34 = .ok (.lshl, 1) := by decide +kernel
theorem dX3_operand_35 : decode cX3_operand 35 = .ok (.invokestatic 137, 3) := by decide +kernel
theorem dX3_operand_38 : decode cX3_operand 38 = .ok (.lreturn, 1) := by decide +kernel
set_option maxRecDepth 20000 in
theorem ggX3_highAddress_X9_isLongOrder : GoodIn wsX3_highAddress wsX9_isLongOrder := goodIn_r _ [3] (by decide +kernel) (by decide +kernel)
set_option maxRecDepth 20000 in
theorem gX3_highAddress_X9_isLongOrder_n131 : GoodIn wsX3_highAddress (wsX9_isLongOrder) := ggX3_highAddress_X9_isLongOrder
set_option maxRecDepth 20000 in
theorem ggX3_highAddress_X9_addressOf : GoodIn wsX3_highAddress wsX9_addressOf := goodIn_r _ [5] (by decide +kernel) (by decide +kernel)
set_option maxRecDepth 20000 in
theorem gX3_highAddress_X9_addressOf_n79 : GoodIn wsX3_highAddress (wsX9_addressOf) := ggX3_highAddress_X9_addressOf
theorem dX3_highAddress_0 : decode cX3_highAddress 0 = .ok (.iload_n 1, 1) := by decide +kernel
theorem dX3_highAddress_1 : decode cX3_highAddress 1 = .ok (.invokestatic 131, 3) := by decide +kernel
theorem dX3_highAddress_4 : decode cX3_highAddress 4 = .ok (.ifCond .eq 12, 3) := by decide +kernel
theorem dX3_highAddress_7 : decode cX3_highAddress 7 = .ok (.iload_n 1, 1) := by decide +kernel
theorem dX3_highAddress_8 : decode cX3_highAddress 8 = .ok (.invokestatic 79, 3) := by decide +kernel
theorem dX3_highAddress_11 : decode cX3_highAddress 11 = .ok (.iconst 1, 1) := by decide +kernel
theorem dX3_highAddress_12 : decode cX3_highAddress 12 = .ok (.ior, 1) := by decide +kernel
theorem dX3_highAddress_13 : decode cX3_highAddress 13 = .ok (.goto 7, 3) := by decide +kernel
theorem dX3_highAddress_16 : decode cX3_highAddress 16 = .ok (.iload_n 1, 1) := by decide +kernel
theorem dX3_highAddress_17 : decode cX3_highAddress 17 = .ok (.invokestatic 79, 3) := by decide +kernel
theorem dX3_highAddress_20 : decode cX3_highAddress 20 = .ok (.ireturn, 1) := by decide +kernel
theorem dX3_shiftOf_0 : decode cX3_shiftOf 0 = .ok (.iconst 0, 1) := by decide +kernel
theorem dX3_shiftOf_1 : decode cX3_shiftOf 1 = .ok (.istore_n 2, 1) := by decide +kernel
theorem dX3_shiftOf_2 : decode cX3_shiftOf 2 = .ok (.iload_n 2, 1) := by decide +kernel
theorem dX3_shiftOf_3 : decode cX3_shiftOf 3 = .ok (.bipush 16, 2) := by decide +kernel
theorem dX3_shiftOf_5 : decode cX3_shiftOf 5 = .ok (.if_icmp .ge 17, 3) := by decide +kernel
theorem dX3_shiftOf_8 : decode cX3_shiftOf 8 = .ok (.iload_n 1, 1) := by decide +kernel
theorem dX3_shiftOf_9 : decode cX3_shiftOf 9 = .ok (.iload_n 2, 1) := by decide +kernel
theorem dX3_shiftOf_10 : decode cX3_shiftOf 10 = .ok (.ishr, 1) := by decide +kernel
theorem dX3_shiftOf_11 : decode cX3_shiftOf 11 = .ok (.iconst 1, 1) := by decide +kernel
theorem dX3_shiftOf_12 : decode cX3_shiftOf 12 = .ok (.iand, 1) := by decide +kernel
theorem dX3_shiftOf_13 : decode cX3_shiftOf 13 = .ok (.ifCond .ne 9, 3) := by decide +kernel
theorem dX3_shiftOf_16 : decode cX3_shiftOf 16 = .ok (.iinc 2 1, 3) := by decide +kernel
theorem dX3_shiftOf_19 : decode cX3_shiftOf 19 = .ok (.goto (-17), 3) := by decide +kernel
theorem dX3_shiftOf_22 : decode cX3_shiftOf 22 = .ok (.iload_n 2, 1) := by decide +kernel
theorem dX3_shiftOf_23 : decode cX3_shiftOf 23 = .ok (.iconst 1, 1) := by decide +kernel
theorem dX3_shiftOf_24 : decode cX3_shiftOf 24 = .ok (.iadd, 1) := by decide +kernel
theorem dX3_shiftOf_25 : decode cX3_shiftOf 25 = .ok (.ireturn, 1) := by decide +kernel
set_option maxRecDepth 20000 in
theorem ggX3_layWord_X9_isLongOrder : GoodIn wsX3_layWord wsX9_isLongOrder := goodIn_r _ [4] (by decide +kernel) (by decide +kernel)
set_option maxRecDepth 20000 in
theorem gX3_layWord_X9_isLongOrder_n131 : GoodIn wsX3_layWord (wsX9_isLongOrder) := ggX3_layWord_X9_isLongOrder
set_option maxRecDepth 20000 in
theorem ggX3_layWord_X9_addressOf : GoodIn wsX3_layWord wsX9_addressOf := goodIn_r _ [6] (by decide +kernel) (by decide +kernel)
set_option maxRecDepth 20000 in
theorem gX3_layWord_X9_addressOf_n79 : GoodIn wsX3_layWord (wsX9_addressOf) := ggX3_layWord_X9_addressOf
set_option maxRecDepth 20000 in
theorem ggX3_layWord_X5_layLong : GoodIn wsX3_layWord wsX5_layLong := goodIn_r _ [11, 12, 13, 14, 15, 10, 16, 17, 18, 27, 28] (by decide +kernel) (by decide +kernel)
set_option maxRecDepth 20000 in
theorem gX3_layWord_X5_layLong : GoodIn wsX3_layWord (wsV RX3 141 RX5 yX5_layLong wsX5_layLong) := goodIn_app (goodIn_of _ (by decide +kernel)) ggX3_layWord_X5_layLong
set_option maxRecDepth 20000 in
theorem ggX3_layWord_X5_layShort : GoodIn wsX3_layWord wsX5_layShort := goodIn_r _ [16, 17, 18, 27, 28] (by decide +kernel) (by decide +kernel)
set_option maxRecDepth 20000 in
theorem gX3_layWord_X5_layShort : GoodIn wsX3_layWord (wsV RX3 144 RX5 yX5_layShort wsX5_layShort) := goodIn_app (goodIn_of _ (by decide +kernel)) ggX3_layWord_X5_layShort
theorem dX3_layWord_0 : decode cX3_layWord 0 = .ok (.iload_n 1, 1) := by decide +kernel
theorem dX3_layWord_1 : decode cX3_layWord 1 = .ok (.invokestatic 131, 3) := by decide +kernel
theorem dX3_layWord_4 : decode cX3_layWord 4 = .ok (.ifCond .eq 18, 3) := by decide +kernel
theorem dX3_layWord_7 : decode cX3_layWord 7 = .ok (.aload_n 0, 1) := by decide +kernel
theorem dX3_layWord_8 : decode cX3_layWord 8 = .ok (.getfield 12, 3) := by decide +kernel
theorem dX3_layWord_11 : decode cX3_layWord 11 = .ok (.iload_n 1, 1) := by decide +kernel
theorem dX3_layWord_12 : decode cX3_layWord 12 = .ok (.invokestatic 79, 3) := by decide +kernel
theorem dX3_layWord_15 : decode cX3_layWord 15 = .ok (.lload_n 2, 1) := by decide +kernel
theorem dX3_layWord_16 : decode cX3_layWord 16 = .ok (.invokevirtual 141, 3) := by decide +kernel
theorem dX3_layWord_19 : decode cX3_layWord 19 = .ok (.goto 16, 3) := by decide +kernel
theorem dX3_layWord_22 : decode cX3_layWord 22 = .ok (.aload_n 0, 1) := by decide +kernel
theorem dX3_layWord_23 : decode cX3_layWord 23 = .ok (.getfield 12, 3) := by decide +kernel
theorem dX3_layWord_26 : decode cX3_layWord 26 = .ok (.iload_n 1, 1) := by decide +kernel
theorem dX3_layWord_27 : decode cX3_layWord 27 = .ok (.invokestatic 79, 3) := by decide +kernel
theorem dX3_layWord_30 : decode cX3_layWord 30 = .ok (.lload_n 2, 1) := by decide +kernel
theorem dX3_layWord_31 : decode cX3_layWord 31 = .ok (.l2i, 1) := by decide +kernel
theorem dX3_layWord_32 : decode cX3_layWord 32 = .ok (.invokevirtual 144, 3) := by decide +kernel
theorem dX3_layWord_35 : decode cX3_layWord 35 = .ok (.return_, 1) := by decide +kernel
set_option maxRecDepth 20000 in
theorem ggX3_layHighest_X9_isLongOrder : GoodIn wsX3_layHighest wsX9_isLongOrder := goodIn_r _ [5] (by decide +kernel) (by decide +kernel)
set_option maxRecDepth 20000 in
theorem gX3_layHighest_X9_isLongOrder_n131 : GoodIn wsX3_layHighest (wsX9_isLongOrder) := ggX3_layHighest_X9_isLongOrder
set_option maxRecDepth 20000 in
theorem ggX3_layHighest_X3_layWord : GoodIn wsX3_layHighest wsX3_layWord := goodIn_r _ [10, 11, 3, 4, 5, 12, 13, 14, 15, 16, 17, 18, 19, 20, 21, 22, 23, 24, 25, 26, 27, 28, 29, 30, 31, 32, 33, 36, 37] (by decide +kernel) (by decide +kernel)
set_option maxRecDepth 20000 in
theorem gX3_layHighest_X3_layWord : GoodIn wsX3_layHighest (wsV RX3 93 RX3 yX3_layWord wsX3_layWord) := goodIn_app (goodIn_of _ (by decide +kernel)) ggX3_layHighest_X3_layWord
theorem dX3_layHighest_0 : decode cX3_layHighest 0 = .ok (.aload_n 0, 1) := by decide +kernel
theorem dX3_layHighest_1 : decode cX3_layHighest 1 = .ok (.iload_n 1, 1) := by decide +kernel
theorem dX3_layHighest_2 : decode cX3_layHighest 2 = .ok (.iload_n 1, 1) := by decide +kernel
theorem dX3_layHighest_3 : decode cX3_layHighest 3 = .ok (.invokestatic 131, 3) := by decide +kernel
theorem dX3_layHighest_6 : decode cX3_layHighest 6 = .ok (.ifCond .eq 17, 3) := by decide +kernel
theorem dX3_layHighest_9 : decode cX3_layHighest 9 = .ok (.aload_n 0, 1) := by decide +kernel
theorem dX3_layHighest_10 : decode cX3_layHighest 10 = .ok (.getfield 21, 3) := by decide +kernel
theorem dX3_layHighest_13 : decode cX3_layHighest 13 = .ok (.getfield 76, 3) := by decide +kernel
theorem dX3_layHighest_16 : decode cX3_layHighest 16 = .ok (.ldc2_w 148, 3) := by decide +kernel
theorem dX3_layHighest_19 : decode cX3_layHighest 19 = .ok (.land, 1) := by decide +kernel
theorem dX3_layHighest_20 : decode cX3_layHighest 20 = .ok (.goto 13, 3) := by decide +kernel
theorem dX3_layHighest_23 : decode cX3_layHighest 23 = .ok (.aload_n 0, 1) := by decide +kernel
theorem dX3_layHighest_24 : decode cX3_layHighest 24 = .ok (.getfield 21, 3) := by decide +kernel
theorem dX3_layHighest_27 : decode cX3_layHighest 27 = .ok (.getfield 76, 3) := by decide +kernel
theorem dX3_layHighest_30 : decode cX3_layHighest 30 = .ok (.bipush 18, 2) := by decide +kernel
theorem dX3_layHighest_32 : decode cX3_layHighest 32 = .ok (.lshr, 1) := by decide +kernel
theorem dX3_layHighest_33 : decode cX3_layHighest 33 = .ok (.invokevirtual 93, 3) := by decide +kernel
theorem dX3_layHighest_36 : decode cX3_layHighest 36 = .ok (.return_, 1) := by decide +kernel
set_option maxRecDepth 20000 in
theorem ggX3_layPrinted_X5_shortAt : GoodIn wsX3_layPrinted wsX5_shortAt := goodIn_r _ [7, 8, 25, 26] (by decide +kernel) (by decide +kernel)
set_option maxRecDepth 20000 in
theorem gX3_layPrinted_X5_shortAt : GoodIn wsX3_layPrinted (wsV RX3 51 RX5 yX5_shortAt wsX5_shortAt) := goodIn_app (goodIn_of _ (by decide +kernel)) ggX3_layPrinted_X5_shortAt
set_option maxRecDepth 20000 in
theorem ggX3_layPrinted_X5_layShort : GoodIn wsX3_layPrinted wsX5_layShort := goodIn_r _ [12, 8, 13, 25, 26] (by decide +kernel) (by decide +kernel)
set_option maxRecDepth 20000 in
theorem gX3_layPrinted_X5_layShort : GoodIn wsX3_layPrinted (wsV RX3 144 RX5 yX5_layShort wsX5_layShort) := goodIn_app (goodIn_of _ (by decide +kernel)) ggX3_layPrinted_X5_layShort
theorem dX3_layPrinted_0 : decode cX3_layPrinted 0 = .ok (.aload_n 0, 1) := by decide +kernel
theorem dX3_layPrinted_1 : decode cX3_layPrinted 1 = .ok (.getfield 35, 3) := by decide +kernel
theorem dX3_layPrinted_4 : decode cX3_layPrinted 4 = .ok (.getfield 150, 3) := by decide +kernel
theorem dX3_layPrinted_7 : decode cX3_layPrinted 7 = .ok (.iconst (-1), 1) := by decide +kernel
theorem dX3_layPrinted_8 : decode cX3_layPrinted 8 = .ok (.if_icmp .ne 7, 3) := by decide +kernel
theorem dX3_layPrinted_11 : decode cX3_layPrinted 11 = .ok (.iconst 0, 1) := by decide +kernel
theorem dX3_layPrinted_12 : decode cX3_layPrinted 12 = .ok (.goto 10, 3) := by decide +kernel
theorem dX3_layPrinted_15 : decode cX3_layPrinted 15 = .ok (.aload_n 0, 1) := by decide +kernel
theorem dX3_layPrinted_16 : decode cX3_layPrinted 16 = .ok (.getfield 35, 3) := by decide +kernel
theorem dX3_layPrinted_19 : decode cX3_layPrinted 19 = .ok (.getfield 150, 3) := by decide +kernel
theorem dX3_layPrinted_22 : decode cX3_layPrinted 22 = .ok (.istore_n 2, 1) := by decide +kernel
theorem dX3_layPrinted_23 : decode cX3_layPrinted 23 = .ok (.aload_n 0, 1) := by decide +kernel
theorem dX3_layPrinted_24 : decode cX3_layPrinted 24 = .ok (.getfield 12, 3) := by decide +kernel
theorem dX3_layPrinted_27 : decode cX3_layPrinted 27 = .ok (.iload_n 1, 1) := by decide +kernel
theorem dX3_layPrinted_28 : decode cX3_layPrinted 28 = .ok (.iload_n 2, 1) := by decide +kernel
theorem dX3_layPrinted_29 : decode cX3_layPrinted 29 = .ok (.bipush 12, 2) := by decide +kernel
theorem dX3_layPrinted_31 : decode cX3_layPrinted 31 = .ok (.ishl, 1) := by decide +kernel
theorem dX3_layPrinted_32 : decode cX3_layPrinted 32 = .ok (.aload_n 0, 1) := by decide +kernel
theorem dX3_layPrinted_33 : decode cX3_layPrinted 33 = .ok (.getfield 12, 3) := by decide +kernel
theorem dX3_layPrinted_36 : decode cX3_layPrinted 36 = .ok (.iload_n 1, 1) := by decide +kernel
theorem dX3_layPrinted_37 : decode cX3_layPrinted 37 = .ok (.invokevirtual 51, 3) := by decide +kernel
theorem dX3_layPrinted_40 : decode cX3_layPrinted 40 = .ok (.sipush 4095, 3) := by decide +kernel
theorem dX3_layPrinted_43 : decode cX3_layPrinted 43 = .ok (.iand, 1) := by decide +kernel
theorem dX3_layPrinted_44 : decode cX3_layPrinted 44 = .ok (.ior, 1) := by decide +kernel
theorem dX3_layPrinted_45 : decode cX3_layPrinted 45 = .ok (.invokevirtual 144, 3) := by decide +kernel
theorem dX3_layPrinted_48 : decode cX3_layPrinted 48 = .ok (.return_, 1) := by decide +kernel
set_option maxRecDepth 20000 in
theorem ggX3_copyFrom_X5_copyFrom : GoodIn wsX3_copyFrom wsX5_copyFrom := goodIn_r _ [16, 17, 18, 7, 8, 9, 19, 55, 56] (by decide +kernel) (by decide +kernel)
set_option maxRecDepth 20000 in
theorem gX3_copyFrom_X5_copyFrom : GoodIn wsX3_copyFrom (wsV RX3 153 RX5 yX5_copyFrom wsX5_copyFrom) := goodIn_app (goodIn_of _ (by decide +kernel)) ggX3_copyFrom_X5_copyFrom
set_option maxRecDepth 20000 in
theorem ggX3_copyFrom_X0_become : GoodIn wsX3_copyFrom wsX0_become := goodIn_r _ [24, 25, 26, 53, 54] (by decide +kernel) (by decide +kernel)
set_option maxRecDepth 20000 in
theorem gX3_copyFrom_X0_become : GoodIn wsX3_copyFrom (wsV RX3 86 RX0 yX0_become wsX0_become) := goodIn_app (goodIn_of _ (by decide +kernel)) ggX3_copyFrom_X0_become
set_option maxRecDepth 20000 in
theorem ggX3_copyFrom_X7_copyFrom : GoodIn wsX3_copyFrom wsX7_copyFrom := goodIn_r _ [31, 32, 33, 7, 8, 9, 34, 35, 57, 58, 59] (by decide +kernel) (by decide +kernel)
set_option maxRecDepth 20000 in
theorem gX3_copyFrom_X7_copyFrom : GoodIn wsX3_copyFrom (wsV RX3 160 RX7 yX7_copyFrom wsX7_copyFrom) := goodIn_app (goodIn_of _ (by decide +kernel)) ggX3_copyFrom_X7_copyFrom
set_option maxRecDepth 20000 in
theorem ggX3_copyFrom_X6_copyFrom : GoodIn wsX3_copyFrom wsX6_copyFrom := goodIn_r _ [40, 41, 42, 7, 8, 9, 43, 44, 45, 60, 61, 62, 63] (by decide +kernel) (by decide +kernel)
set_option maxRecDepth 20000 in
theorem gX3_copyFrom_X6_copyFrom : GoodIn wsX3_copyFrom (wsV RX3 163 RX6 yX6_copyFrom wsX6_copyFrom) := goodIn_app (goodIn_of _ (by decide +kernel)) ggX3_copyFrom_X6_copyFrom
theorem dX3_copyFrom_0 : decode cX3_copyFrom 0 = .ok (.aload_n 0, 1) := by decide +kernel
theorem dX3_copyFrom_1 : decode cX3_copyFrom 1 = .ok (.getfield 12, 3) := by decide +kernel
theorem dX3_copyFrom_4 : decode cX3_copyFrom 4 = .ok (.aload_n 1, 1) := by decide +kernel
theorem dX3_copyFrom_5 : decode cX3_copyFrom 5 = .ok (.getfield 12, 3) := by decide +kernel
theorem dX3_copyFrom_8 : decode cX3_copyFrom 8 = .ok (.invokevirtual 153, 3) := by decide +kernel
theorem dX3_copyFrom_11 : decode cX3_copyFrom 11 = .ok (.aload_n 0, 1) := by decide +kernel
theorem dX3_copyFrom_12 : decode cX3_copyFrom 12 = .ok (.getfield 21, 3) := by decide +kernel
theorem dX3_copyFrom_15 : decode cX3_copyFrom 15 = .ok (.aload_n 1, 1) := by decide +kernel
theorem dX3_copyFrom_16 : decode cX3_copyFrom 16 = .ok (.getfield 21, 3) := by decide +kernel
theorem dX3_copyFrom_19 : decode cX3_copyFrom 19 = .ok (.getfield 76, 3) := by decide +kernel
theorem dX3_copyFrom_22 : decode cX3_copyFrom 22 = .ok (.aload_n 1, 1) := by decide +kernel
theorem dX3_copyFrom_23 : decode cX3_copyFrom 23 = .ok (.getfield 21, 3) := by decide +kernel
theorem dX3_copyFrom_26 : decode cX3_copyFrom 26 = .ok (.getfield 157, 3) := by decide +kernel
theorem dX3_copyFrom_29 : decode cX3_copyFrom 29 = .ok (.invokevirtual 86, 3) := by decide +kernel
theorem dX3_copyFrom_32 : decode cX3_copyFrom 32 = .ok (.aload_n 0, 1) := by decide +kernel
theorem dX3_copyFrom_33 : decode cX3_copyFrom 33 = .ok (.getfield 28, 3) := by decide +kernel
theorem dX3_copyFrom_36 : decode cX3_copyFrom 36 = .ok (.aload_n 1, 1) := by decide +kernel
theorem dX3_copyFrom_37 : decode cX3_copyFrom 37 = .ok (.getfield 28, 3) := by decide +kernel
theorem dX3_copyFrom_40 : decode cX3_copyFrom 40 = .ok (.invokevirtual 160, 3) := by decide +kernel
theorem dX3_copyFrom_43 : decode cX3_copyFrom 43 = .ok (.aload_n 0, 1) := by decide +kernel
theorem dX3_copyFrom_44 : decode cX3_copyFrom 44 = .ok (.getfield 35, 3) := by decide +kernel
theorem dX3_copyFrom_47 : decode cX3_copyFrom 47 = .ok (.aload_n 1, 1) := by decide +kernel
theorem dX3_copyFrom_48 : decode cX3_copyFrom 48 = .ok (.getfield 35, 3) := by decide +kernel
theorem dX3_copyFrom_51 : decode cX3_copyFrom 51 = .ok (.invokevirtual 163, 3) := by decide +kernel
theorem dX3_copyFrom_54 : decode cX3_copyFrom 54 = .ok (.aload_n 1, 1) := by decide +kernel
theorem dX3_copyFrom_55 : decode cX3_copyFrom 55 = .ok (.getfield 39, 3) := by decide +kernel
theorem dX3_copyFrom_58 : decode cX3_copyFrom 58 = .ok (.iconst 0, 1) := by decide +kernel
theorem dX3_copyFrom_59 : decode cX3_copyFrom 59 = .ok (.aload_n 0, 1) := by decide +kernel
theorem dX3_copyFrom_60 : decode cX3_copyFrom 60 = .ok (.getfield 39, 3) := by decide +kernel
theorem dX3_copyFrom_63 : decode cX3_copyFrom 63 = .ok (.iconst 0, 1) := by decide +kernel
theorem dX3_copyFrom_64 : decode cX3_copyFrom 64 = .ok (.bipush 32, 2) := by decide +kernel
theorem dX3_copyFrom_66 : decode cX3_copyFrom 66 = .ok (.invokestatic 166, 3) := by decide +kernel
theorem dX3_copyFrom_69 : decode cX3_copyFrom 69 = .ok (.aload_n 0, 1) := by decide +kernel
theorem dX3_copyFrom_70 : decode cX3_copyFrom 70 = .ok (.aload_n 1, 1) := by decide +kernel
theorem dX3_copyFrom_71 : decode cX3_copyFrom 71 = .ok (.getfield 43, 3) := by decide +kernel
theorem dX3_copyFrom_74 : decode cX3_copyFrom 74 = .ok (.putfield 43, 3) := by decide +kernel
theorem dX3_copyFrom_77 : decode cX3_copyFrom 77 = .ok (.aload_n 0, 1) := by decide +kernel
theorem dX3_copyFrom_78 : decode cX3_copyFrom 78 = .ok (.aload_n 1, 1) := by decide +kernel
theorem dX3_copyFrom_79 : decode cX3_copyFrom 79 = .ok (.getfield 47, 3) := by decide +kernel
theorem dX3_copyFrom_82 : decode cX3_copyFrom 82 = .ok (.putfield 47, 3) := by decide +kernel
theorem dX3_copyFrom_85 : decode cX3_copyFrom 85 = .ok (.return_, 1) := by decide +kernel
theorem dX4_init_0 : decode cX4_init 0 = .ok (.aload_n 0, 1) := by decide +kernel
theorem dX4_init_1 : decode cX4_init 1 = .ok (.invokespecial 3, 3) := by decide +kernel
theorem dX4_init_4 : decode cX4_init 4 = .ok (.aload_n 0, 1) := by decide +kernel
theorem dX4_init_5 : decode cX4_init 5 = .ok (.sipush 256, 3) := by decide +kernel
theorem dX4_init_8 : decode cX4_init 8 = .ok (.newarray .boolean, 2) := by decide +kernel
theorem dX4_init_10 : decode cX4_init 10 = .ok (.putfield 9, 3) := by decide +kernel
theorem dX4_init_13 : decode cX4_init 13 = .ok (.aload_n 0, 1) := by decide +kernel
theorem dX4_init_14 : decode cX4_init 14 = .ok (.iconst 0, 1) := by decide +kernel
theorem dX4_init_15 : decode cX4_init 15 = .ok (.putfield 15, 3) := by decide +kernel
theorem dX4_init_18 : decode cX4_init 18 = .ok (.return_, 1) := by decide +kernel
theorem dX4_isAt_0 : decode cX4_isAt 0 = .ok (.aload_n 0, 1) := by decide +kernel
theorem dX4_isAt_1 : decode cX4_isAt 1 = .ok (.getfield 9, 3) := by decide +kernel
theorem dX4_isAt_4 : decode cX4_isAt 4 = .ok (.iload_n 1, 1) := by decide +kernel
theorem dX4_isAt_5 : decode cX4_isAt 5 = .ok (.sipush 255, 3) := by decide +kernel
theorem dX4_isAt_8 : decode cX4_isAt 8 = .ok (.iand, 1) := by decide +kernel
theorem dX4_isAt_9 : decode cX4_isAt 9 = .ok (.baload, 1) := by decide +kernel
theorem dX4_isAt_10 : decode cX4_isAt 10 = .ok (.ireturn, 1) := by decide +kernel
set_option maxRecDepth 20000 in
theorem ggX4_put_X4_isAt : GoodIn wsX4_put wsX4_isAt := goodIn_r _ [7, 2, 8, 9] (by decide +kernel) (by decide +kernel)
set_option maxRecDepth 20000 in
theorem gX4_put_X4_isAt : GoodIn wsX4_put (wsV RX4 19 RX4 yX4_isAt wsX4_isAt) := goodIn_app (goodIn_of _ (by decide +kernel)) ggX4_put_X4_isAt
theorem dX4_put_0 : decode cX4_put 0 = .ok (.aload_n 0, 1) := by decide +kernel
theorem dX4_put_1 : decode cX4_put 1 = .ok (.iload_n 1, 1) := by decide +kernel
theorem dX4_put_2 : decode cX4_put 2 = .ok (.invokevirtual 19, 3) := by decide +kernel
theorem dX4_put_5 : decode cX4_put 5 = .ok (.iload_n 2, 1) := by decide +kernel
theorem dX4_put_6 : decode cX4_put 6 = .ok (.if_icmp .eq 32, 3) := by decide +kernel
theorem dX4_put_9 : decode cX4_put 9 = .ok (.aload_n 0, 1) := by decide +kernel
theorem dX4_put_10 : decode cX4_put 10 = .ok (.dup, 1) := by decide +kernel
theorem dX4_put_11 : decode cX4_put 11 = .ok (.getfield 15, 3) := by decide +kernel
theorem dX4_put_14 : decode cX4_put 14 = .ok (.iload_n 2, 1) := by decide +kernel
theorem dX4_put_15 : decode cX4_put 15 = .ok (.ifCond .eq 7, 3) := by decide +kernel
theorem dX4_put_18 : decode cX4_put 18 = .ok (.iconst 1, 1) := by decide +kernel
theorem dX4_put_19 : decode cX4_put 19 = .ok (.goto 4, 3) := by decide +kernel
theorem dX4_put_22 : decode cX4_put 22 = .ok (.iconst (-1), 1) := by decide +kernel
theorem dX4_put_23 : decode cX4_put 23 = .ok (.iadd, 1) := by decide +kernel
theorem dX4_put_24 : decode cX4_put 24 = .ok (.putfield 15, 3) := by decide +kernel
theorem dX4_put_27 : decode cX4_put 27 = .ok (.aload_n 0, 1) := by decide +kernel
theorem dX4_put_28 : decode cX4_put 28 = .ok (.getfield 9, 3) := by decide +kernel
theorem dX4_put_31 : decode cX4_put 31 = .ok (.iload_n 1, 1) := by decide +kernel
theorem dX4_put_32 : decode cX4_put 32 = .ok (.sipush 255, 3) := by decide +kernel
theorem dX4_put_35 : decode cX4_put 35 = .ok (.iand, 1) := by decide +kernel
theorem dX4_put_36 : decode cX4_put 36 = .ok (.iload_n 2, 1) := by decide +kernel
theorem dX4_put_37 : decode cX4_put 37 = .ok (.bastore, 1) := by decide +kernel
theorem dX4_put_38 : decode cX4_put 38 = .ok (.return_, 1) := by decide +kernel
theorem dX5_init_0 : decode cX5_init 0 = .ok (.aload_n 0, 1) := by decide +kernel
theorem dX5_init_1 : decode cX5_init 1 = .ok (.invokespecial 3, 3) := by decide +kernel
theorem dX5_init_4 : decode cX5_init 4 = .ok (.aload_n 0, 1) := by decide +kernel
theorem dX5_init_5 : decode cX5_init 5 = .ok (.sipush 256, 3) := by decide +kernel
theorem dX5_init_8 : decode cX5_init 8 = .ok (.newarray .int, 2) := by decide +kernel
theorem dX5_init_10 : decode cX5_init 10 = .ok (.putfield 9, 3) := by decide +kernel
theorem dX5_init_13 : decode cX5_init 13 = .ok (.aload_n 0, 1) := by decide +kernel
theorem dX5_init_14 : decode cX5_init 14 = .ok (.sipush 128, 3) := by decide +kernel
theorem dX5_init_17 : decode cX5_init 17 = .ok (.newarray .int, 2) := by decide +kernel
theorem dX5_init_19 : decode cX5_init 19 = .ok (.putfield 15, 3) := by decide +kernel
theorem dX5_init_22 : decode cX5_init 22 = .ok (.return_, 1) := by decide +kernel
theorem dX5_shortAt_0 : decode cX5_shortAt 0 = .ok (.aload_n 0, 1) := by decide +kernel
theorem dX5_shortAt_1 : decode cX5_shortAt 1 = .ok (.getfield 9, 3) := by decide +kernel
theorem dX5_shortAt_4 : decode cX5_shortAt 4 = .ok (.iload_n 1, 1) := by decide +kernel
theorem dX5_shortAt_5 : decode cX5_shortAt 5 = .ok (.sipush 255, 3) := by decide +kernel
theorem dX5_shortAt_8 : decode cX5_shortAt 8 = .ok (.iand, 1) := by decide +kernel
theorem dX5_shortAt_9 : decode cX5_shortAt 9 = .ok (.iaload, 1) := by decide +kernel
theorem dX5_shortAt_10 : decode cX5_shortAt 10 = .ok (.ireturn, 1) := by decide +kernel
theorem dX5_layShort_0 : decode cX5_layShort 0 = .ok (.aload_n 0, 1) := by decide +kernel
theorem dX5_layShort_1 : decode cX5_layShort 1 = .ok (.getfield 9, 3) := by decide +kernel
theorem dX5_layShort_4 : decode cX5_layShort 4 = .ok (.iload_n 1, 1) := by decide +kernel
theorem dX5_layShort_5 : decode cX5_layShort 5 = .ok (.sipush 255, 3) := by decide +kernel
theorem dX5_layShort_8 : decode cX5_layShort 8 = .ok (.iand, 1) := by decide +kernel
theorem dX5_layShort_9 : decode cX5_layShort 9 = .ok (.iload_n 2, 1) := by decide +kernel
theorem dX5_layShort_10 : decode cX5_layShort 10 = .ok (.ldc 18, 2) := by decide +kernel
theorem dX5_layShort_12 : decode cX5_layShort 12 = .ok (.iand, 1) := by decide +kernel
theorem dX5_layShort_13 : decode cX5_layShort 13 = .ok (.iastore, 1) := by decide +kernel
theorem dX5_layShort_14 : decode cX5_layShort 14 = .ok (.return_, 1) := by decide +kernel
set_option maxRecDepth 20000 in
theorem ggX5_longAt_X5_shortAt : GoodIn wsX5_longAt wsX5_shortAt := goodIn_r _ [6, 7, 8, 9] (by decide +kernel) (by decide +kernel)
set_option maxRecDepth 20000 in
theorem gX5_longAt_X5_shortAt : GoodIn wsX5_longAt (wsV RX5 19 RX5 yX5_shortAt wsX5_shortAt) := goodIn_app (goodIn_of _ (by decide +kernel)) ggX5_longAt_X5_shortAt
theorem dX5_longAt_0 : decode cX5_longAt 0 = .ok (.aload_n 0, 1) := by decide +kernel
theorem dX5_longAt_1 : decode cX5_longAt 1 = .ok (.iload_n 1, 1) := by decide +kernel
theorem dX5_longAt_2 : decode cX5_longAt 2 = .ok (.iconst 1, 1) := by decide +kernel
theorem dX5_longAt_3 : decode cX5_longAt 3 = .ok (.ior, 1) := by decide +kernel
theorem dX5_longAt_4 : decode cX5_longAt 4 = .ok (.invokevirtual 19, 3) := by decide +kernel
theorem dX5_longAt_7 : decode cX5_longAt 7 = .ok (.i2l, 1) := by decide +kernel
theorem dX5_longAt_8 : decode cX5_longAt 8 = .ok (.lstore_n 2, 1) := by decide +kernel
theorem dX5_longAt_9 : decode cX5_longAt 9 = .ok (.aload_n 0, 1) := by decide +kernel
theorem dX5_longAt_10 : decode cX5_longAt 10 = .ok (.getfield 15, 3) := by decide +kernel
theorem dX5_longAt_13 : decode cX5_longAt 13 = .ok (.iload_n 1, 1) := by decide +kernel
theorem dX5_longAt_14 : decode cX5_longAt 14 = .ok (.sipush 255, 3) := by decide +kernel
theorem dX5_longAt_17 : decode cX5_longAt 17 = .ok (.iand, 1) := by decide +kernel
theorem dX5_longAt_18 : decode cX5_longAt 18 = .ok (.iconst 1, 1) := by decide +kernel
theorem dX5_longAt_19 : decode cX5_longAt 19 = .ok (.ishr, 1) := by decide +kernel
theorem dX5_longAt_20 : decode cX5_longAt 20 = .ok (.iaload, 1) := by decide +kernel
theorem dX5_longAt_21 : decode cX5_longAt 21 = .ok (.i2l, 1) := by decide +kernel
theorem dX5_longAt_22 : decode cX5_longAt 22 = .ok (.lstore 4, 2) := by decide +kernel
theorem dX5_longAt_24 : decode cX5_longAt 24 = .ok (.lload_n 2, 1) := by decide +kernel
theorem dX5_longAt_25 : decode cX5_longAt 25 = .ok (.bipush 18, 2) := by decide +kernel
theorem dX5_longAt_27 : decode cX5_longAt 27 = .ok (.lshl, 1) := by decide +kernel
theorem dX5_longAt_28 : decode cX5_longAt 28 = .ok (.lload 4, 2) := by decide +kernel
theorem dX5_longAt_30 : decode cX5_longAt 30 = .ok (.bipush 17, 2) := by decide +kernel
theorem dX5_longAt_32 : decode cX5_longAt 32 = .ok (.lshl, 1) := by decide +kernel
theorem dX5_longAt_33 : decode cX5_longAt 33 = .ok (.lor, 1) := by decide +kernel
theorem dX5_longAt_34 : decode cX5_longAt 34 = .ok (.aload_n 0, 1) := by decide +kernel
theorem dX5_longAt_35 : decode cX5_longAt 35 = .ok (.iload_n 1, 1) := by decide +kernel
theorem dX5_longAt_36 : decode cX5_longAt 36 = .ok (.bipush (-2), 2) := by decide +kernel
theorem dX5_longAt_38 : decode cX5_longAt 38 = .ok (.iand, 1) := by decide +kernel
theorem dX5_longAt_39 : decode cX5_longAt 39 = .ok (.invokevirtual 19, 3) := by decide +kernel
theorem dX5_longAt_42 : decode cX5_longAt 42 = .ok (.i2l, 1) := by decide +kernel
theorem dX5_longAt_43 : decode cX5_longAt 43 = .ok (.lor, 1) := by decide +kernel
theorem dX5_longAt_44 : decode cX5_longAt 44 = .ok (.lreturn, 1) := by decide +kernel
set_option maxRecDepth 20000 in
theorem ggX5_layLong_X5_layShort : GoodIn wsX5_layLong wsX5_layShort := goodIn_r _ [6, 7, 8, 9, 10] (by decide +kernel) (by decide +kernel)
set_option maxRecDepth 20000 in
theorem gX5_layLong_X5_layShort : GoodIn wsX5_layLong (wsV RX5 23 RX5 yX5_layShort wsX5_layShort) := goodIn_app (goodIn_of _ (by decide +kernel)) ggX5_layLong_X5_layShort
theorem dX5_layLong_0 : decode cX5_layLong 0 = .ok (.aload_n 0, 1) := by decide +kernel
