theorem dX10_load_192 : decode cX10_load 192 = .ok (.aload_n 0, 1) := by decide +kernel
theorem dX10_load_193 : decode cX10_load 193 = .ok (.getfield 156, 3) := by decide +kernel
theorem dX10_load_196 : decode cX10_load 196 = .ok (.iaload, 1) := by decide +kernel
theorem dX10_load_197 : decode cX10_load 197 = .ok (.istore 5, 2) := by decide +kernel
theorem dX10_load_199 : decode cX10_load 199 = .ok (.aload_n 0, 1) := by decide +kernel
theorem dX10_load_200 : decode cX10_load 200 = .ok (.dup, 1) := by decide +kernel
theorem dX10_load_201 : decode cX10_load 201 = .ok (.getfield 156, 3) := by decide +kernel
theorem dX10_load_204 : decode cX10_load 204 = .ok (.iconst 1, 1) := by decide +kernel
theorem dX10_load_205 : decode cX10_load 205 = .ok (.iadd, 1) := by decide +kernel
theorem dX10_load_206 : decode cX10_load 206 = .ok (.putfield 156, 3) := by decide +kernel
theorem dX10_load_209 : decode cX10_load 209 = .ok (.iload 5, 2) := by decide +kernel
theorem dX10_load_211 : decode cX10_load 211 = .ok (.bipush 16, 2) := by decide +kernel
theorem dX10_load_213 : decode cX10_load 213 = .ok (.if_icmp .le 56, 3) := by decide +kernel
theorem dX10_load_216 : decode cX10_load 216 = .ok (.aload_n 0, 1) := by decide +kernel
theorem dX10_load_217 : decode cX10_load 217 = .ok (.getfield 7, 3) := by decide +kernel
theorem dX10_load_220 : decode cX10_load 220 = .ok (.aload_n 0, 1) := by decide +kernel
theorem dX10_load_221 : decode cX10_load 221 = .ok (.getfield 39, 3) := by decide +kernel
theorem dX10_load_224 : decode cX10_load 224 = .ok (.sipush 4096, 3) := by decide +kernel
theorem dX10_load_227 : decode cX10_load 227 = .ok (.iload_n 3, 1) := by decide +kernel
theorem dX10_load_228 : decode cX10_load 228 = .ok (.imul, 1) := by decide +kernel
theorem dX10_load_229 : decode cX10_load 229 = .ok (.iconst 2, 1) := by decide +kernel
theorem dX10_load_230 : decode cX10_load 230 = .ok (.iload 4, 2) := by decide +kernel
theorem dX10_load_232 : decode cX10_load 232 = .ok (.imul, 1) := by decide +kernel
theorem dX10_load_233 : decode cX10_load 233 = .ok (.iadd, 1) := by decide +kernel
theorem dX10_load_234 : decode cX10_load 234 = .ok (.aload_n 0, 1) := by decide +kernel
theorem dX10_load_235 : decode cX10_load 235 = .ok (.getfield 7, 3) := by decide +kernel
theorem dX10_load_238 : decode cX10_load 238 = .ok (.bipush 24, 2) := by decide +kernel
theorem dX10_load_240 : decode cX10_load 240 = .ok (.iload 5, 2) := by decide +kernel
theorem dX10_load_242 : decode cX10_load 242 = .ok (.iadd, 1) := by decide +kernel
theorem dX10_load_243 : decode cX10_load 243 = .ok (.iaload, 1) := by decide +kernel
theorem dX10_load_244 : decode cX10_load 244 = .ok (.iadd, 1) := by decide +kernel
theorem dX10_load_245 : decode cX10_load 245 = .ok (.ldc 162, 2) := by decide +kernel
theorem dX10_load_247 : decode cX10_load 247 = .ok (.iand, 1) := by decide +kernel
theorem dX10_load_248 : decode cX10_load 248 = .ok (.iastore, 1) := by decide +kernel
theorem dX10_load_249 : decode cX10_load 249 = .ok (.aload_n 0, 1) := by decide +kernel
theorem dX10_load_250 : decode cX10_load 250 = .ok (.aload_n 0, 1) := by decide +kernel
theorem dX10_load_251 : decode cX10_load 251 = .ok (.getfield 39, 3) := by decide +kernel
theorem dX10_load_254 : decode cX10_load 254 = .ok (.iconst 1, 1) := by decide +kernel
theorem dX10_load_255 : decode cX10_load 255 = .ok (.iadd, 1) := by decide +kernel
theorem dX10_load_256 : decode cX10_load 256 = .ok (.sipush 256, 3) := by decide +kernel
theorem dX10_load_259 : decode cX10_load 259 = .ok (.irem, 1) := by decide +kernel
theorem dX10_load_260 : decode cX10_load 260 = .ok (.putfield 39, 3) := by decide +kernel
theorem dX10_load_263 : decode cX10_load 263 = .ok (.iinc 1 1, 3) := by decide +kernel
theorem dX10_load_266 : decode cX10_load 266 = .ok (.goto 86, 3) := by decide +kernel
theorem dX10_load_269 : decode cX10_load 269 = .ok (.iload 5, 2) := by decide +kernel
theorem dX10_load_271 : decode cX10_load 271 = .ok (.bipush 14, 2) := by decide +kernel
theorem dX10_load_273 : decode cX10_load 273 = .ok (.if_icmp .ne 21, 3) := by decide +kernel
theorem dX10_load_276 : decode cX10_load 276 = .ok (.iload_n 3, 1) := by decide +kernel
theorem dX10_load_277 : decode cX10_load 277 = .ok (.iconst 5, 1) := by decide +kernel
theorem dX10_load_278 : decode cX10_load 278 = .ok (.if_icmp .ne 16, 3) := by decide +kernel
theorem dX10_load_281 : decode cX10_load 281 = .ok (.aload_n 0, 1) := by decide +kernel
theorem dX10_load_282 : decode cX10_load 282 = .ok (.iload 4, 2) := by decide +kernel
theorem dX10_load_284 : decode cX10_load 284 = .ok (.sipush 256, 3) := by decide +kernel
theorem dX10_load_287 : decode cX10_load 287 = .ok (.irem, 1) := by decide +kernel
theorem dX10_load_288 : decode cX10_load 288 = .ok (.putfield 39, 3) := by decide +kernel
theorem dX10_load_291 : decode cX10_load 291 = .ok (.goto 61, 3) := by decide +kernel
theorem dX10_load_294 : decode cX10_load 294 = .ok (.iload 5, 2) := by decide +kernel
theorem dX10_load_296 : decode cX10_load 296 = .ok (.bipush 14, 2) := by decide +kernel
theorem dX10_load_298 : decode cX10_load 298 = .ok (.if_icmp .ne 25, 3) := by decide +kernel
theorem dX10_load_301 : decode cX10_load 301 = .ok (.iload_n 3, 1) := by decide +kernel
theorem dX10_load_302 : decode cX10_load 302 = .ok (.bipush 27, 2) := by decide +kernel
theorem dX10_load_304 : decode cX10_load 304 = .ok (.if_icmp .ne 19, 3) := by decide +kernel
theorem dX10_load_307 : decode cX10_load 307 = .ok (.aload_n 0, 1) := by decide +kernel
theorem dX10_load_308 : decode cX10_load 308 = .ok (.getfield 7, 3) := by decide +kernel
theorem dX10_load_311 : decode cX10_load 311 = .ok (.bipush 42, 2) := by decide +kernel
theorem dX10_load_313 : decode cX10_load 313 = .ok (.iconst 2, 1) := by decide +kernel
theorem dX10_load_314 : decode cX10_load 314 = .ok (.aload_n 0, 1) := by decide +kernel
theorem dX10_load_315 : decode cX10_load 315 = .ok (.getfield 39, 3) := by decide +kernel
theorem dX10_load_318 : decode cX10_load 318 = .ok (.imul, 1) := by decide +kernel
theorem dX10_load_319 : decode cX10_load 319 = .ok (.iastore, 1) := by decide +kernel
theorem dX10_load_320 : decode cX10_load 320 = .ok (.goto 32, 3) := by decide +kernel
theorem dX10_load_323 : decode cX10_load 323 = .ok (.iload 5, 2) := by decide +kernel
theorem dX10_load_325 : decode cX10_load 325 = .ok (.bipush 14, 2) := by decide +kernel
theorem dX10_load_327 : decode cX10_load 327 = .ok (.if_icmp .ne 23, 3) := by decide +kernel
theorem dX10_load_330 : decode cX10_load 330 = .ok (.iload_n 3, 1) := by decide +kernel
theorem dX10_load_331 : decode cX10_load 331 = .ok (.iconst 3, 1) := by decide +kernel
theorem dX10_load_332 : decode cX10_load 332 = .ok (.if_icmp .ne 18, 3) := by decide +kernel
theorem dX10_load_335 : decode cX10_load 335 = .ok (.aload_n 0, 1) := by decide +kernel
theorem dX10_load_336 : decode cX10_load 336 = .ok (.iload 4, 2) := by decide +kernel
theorem dX10_load_338 : decode cX10_load 338 = .ok (.sipush 256, 3) := by decide +kernel
theorem dX10_load_341 : decode cX10_load 341 = .ok (.irem, 1) := by decide +kernel
theorem dX10_load_342 : decode cX10_load 342 = .ok (.putfield 163, 3) := by decide +kernel
theorem dX10_load_345 : decode cX10_load 345 = .ok (.iconst 0, 1) := by decide +kernel
theorem dX10_load_346 : decode cX10_load 346 = .ok (.istore_n 2, 1) := by decide +kernel
theorem dX10_load_347 : decode cX10_load 347 = .ok (.goto 5, 3) := by decide +kernel
theorem dX10_load_350 : decode cX10_load 350 = .ok (.iconst 3, 1) := by decide +kernel
theorem dX10_load_351 : decode cX10_load 351 = .ok (.istore_n 2, 1) := by decide +kernel
theorem dX10_load_352 : decode cX10_load 352 = .ok (.goto (-321), 3) := by decide +kernel
theorem dX10_load_355 : decode cX10_load 355 = .ok (.aload_n 0, 1) := by decide +kernel
theorem dX10_load_356 : decode cX10_load 356 = .ok (.iload_n 2, 1) := by decide +kernel
theorem dX10_load_357 : decode cX10_load 357 = .ok (.putfield 36, 3) := by decide +kernel
theorem dX10_load_360 : decode cX10_load 360 = .ok (.iload_n 1, 1) := by decide +kernel
theorem dX10_load_361 : decode cX10_load 361 = .ok (.ireturn, 1) := by decide +kernel
theorem dX10_loaded_0 : decode cX10_loaded 0 = .ok (.aload_n 0, 1) := by decide +kernel
theorem dX10_loaded_1 : decode cX10_loaded 1 = .ok (.getfield 36, 3) := by decide +kernel
theorem dX10_loaded_4 : decode cX10_loaded 4 = .ok (.ireturn, 1) := by decide +kernel
set_option maxRecDepth 20000 in
theorem ggX10_start_X10_isAddress : GoodIn wsX10_start wsX10_isAddress := goodIn_r _ [6, 7, 8, 9, 5, 10] (by decide +kernel) (by decide +kernel)
set_option maxRecDepth 20000 in
theorem gX10_start_X10_isAddress : GoodIn wsX10_start (va_wsS RX10 108 yX10_isAddress wsX10_isAddress) := goodIn_app (goodIn_of _ (by decide +kernel)) ggX10_start_X10_isAddress
theorem dX10_start_0 : decode cX10_start 0 = .ok (.iload_n 1, 1) := by decide +kernel
theorem dX10_start_1 : decode cX10_start 1 = .ok (.invokestatic 108, 3) := by decide +kernel
theorem dX10_start_4 : decode cX10_start 4 = .ok (.ifCond .ne 6, 3) := by decide +kernel
theorem dX10_start_7 : decode cX10_start 7 = .ok (.bipush (-2), 2) := by decide +kernel
theorem dX10_start_9 : decode cX10_start 9 = .ok (.ireturn, 1) := by decide +kernel
theorem dX10_start_10 : decode cX10_start 10 = .ok (.aload_n 0, 1) := by decide +kernel
theorem dX10_start_11 : decode cX10_start 11 = .ok (.iload_n 1, 1) := by decide +kernel
theorem dX10_start_12 : decode cX10_start 12 = .ok (.putfield 163, 3) := by decide +kernel
theorem dX10_start_15 : decode cX10_start 15 = .ok (.aload_n 0, 1) := by decide +kernel
theorem dX10_start_16 : decode cX10_start 16 = .ok (.iconst 0, 1) := by decide +kernel
theorem dX10_start_17 : decode cX10_start 17 = .ok (.putfield 112, 3) := by decide +kernel
theorem dX10_start_20 : decode cX10_start 20 = .ok (.iconst 1, 1) := by decide +kernel
theorem dX10_start_21 : decode cX10_start 21 = .ok (.ireturn, 1) := by decide +kernel
set_option maxRecDepth 20000 in
theorem ggX10_isFunction_X10_in : GoodIn wsX10_isFunction wsX10_in := goodIn_r _ [8] (by decide +kernel) (by decide +kernel)
set_option maxRecDepth 20000 in
theorem gX10_isFunction_X10_in : GoodIn wsX10_isFunction (va_wsS RX10 102 yX10_in wsX10_in) := goodIn_app (goodIn_of _ (by decide +kernel)) ggX10_isFunction_X10_in
theorem dX10_isFunction_0 : decode cX10_isFunction 0 = .ok (.iload_n 0, 1) := by decide +kernel
theorem dX10_isFunction_1 : decode cX10_isFunction 1 = .ok (.i2l, 1) := by decide +kernel
theorem dX10_isFunction_2 : decode cX10_isFunction 2 = .ok (.ldc2_w 166, 3) := by decide +kernel
theorem dX10_isFunction_5 : decode cX10_isFunction 5 = .ok (.ldc2_w 168, 3) := by decide +kernel
theorem dX10_isFunction_8 : decode cX10_isFunction 8 = .ok (.invokestatic 102, 3) := by decide +kernel
theorem dX10_isFunction_11 : decode cX10_isFunction 11 = .ok (.ifCond .ne 59, 3) := by decide +kernel
theorem dX10_isFunction_14 : decode cX10_isFunction 14 = .ok (.iload_n 0, 1) := by decide +kernel
theorem dX10_isFunction_15 : decode cX10_isFunction 15 = .ok (.bipush 12, 2) := by decide +kernel
theorem dX10_isFunction_17 : decode cX10_isFunction 17 = .ok (.if_icmp .eq 53, 3) := by decide +kernel
theorem dX10_isFunction_20 : decode cX10_isFunction 20 = .ok (.iload_n 0, 1) := by decide +kernel
theorem dX10_isFunction_21 : decode cX10_isFunction 21 = .ok (.bipush 13, 2) := by decide +kernel
theorem dX10_isFunction_23 : decode cX10_isFunction 23 = .ok (.if_icmp .eq 47, 3) := by decide +kernel
theorem dX10_isFunction_26 : decode cX10_isFunction 26 = .ok (.iload_n 0, 1) := by decide +kernel
theorem dX10_isFunction_27 : decode cX10_isFunction 27 = .ok (.bipush 17, 2) := by decide +kernel
theorem dX10_isFunction_29 : decode cX10_isFunction 29 = .ok (.if_icmp .eq 41, 3) := by decide +kernel
theorem dX10_isFunction_32 : decode cX10_isFunction 32 = .ok (.iload_n 0, 1) := by decide +kernel
theorem dX10_isFunction_33 : decode cX10_isFunction 33 = .ok (.bipush 21, 2) := by decide +kernel
theorem dX10_isFunction_35 : decode cX10_isFunction 35 = .ok (.if_icmp .eq 35, 3) := by decide +kernel
theorem dX10_isFunction_38 : decode cX10_isFunction 38 = .ok (.iload_n 0, 1) := by decide +kernel
theorem dX10_isFunction_39 : decode cX10_isFunction 39 = .ok (.bipush 22, 2) := by decide +kernel
theorem dX10_isFunction_41 : decode cX10_isFunction 41 = .ok (.if_icmp .eq 29, 3) := by decide +kernel
theorem dX10_isFunction_44 : decode cX10_isFunction 44 = .ok (.iload_n 0, 1) := by decide +kernel
theorem dX10_isFunction_45 : decode cX10_isFunction 45 = .ok (.i2l, 1) := by decide +kernel
theorem dX10_isFunction_46 : decode cX10_isFunction 46 = .ok (.ldc2_w 170, 3) := by decide +kernel
theorem dX10_isFunction_49 : decode cX10_isFunction 49 = .ok (.ldc2_w 172, 3) := by decide +kernel
theorem dX10_isFunction_52 : decode cX10_isFunction 52 = .ok (.invokestatic 102, 3) := by decide +kernel
theorem dX10_isFunction_55 : decode cX10_isFunction 55 = .ok (.ifCond .ne 15, 3) := by decide +kernel
theorem dX10_isFunction_58 : decode cX10_isFunction 58 = .ok (.iload_n 0, 1) := by decide +kernel
theorem dX10_isFunction_59 : decode cX10_isFunction 59 = .ok (.bipush 30, 2) := by decide +kernel
theorem dX10_isFunction_61 : decode cX10_isFunction 61 = .ok (.if_icmp .eq 9, 3) := by decide +kernel
theorem dX10_isFunction_64 : decode cX10_isFunction 64 = .ok (.iload_n 0, 1) := by decide +kernel
theorem dX10_isFunction_65 : decode cX10_isFunction 65 = .ok (.bipush 31, 2) := by decide +kernel
theorem dX10_isFunction_67 : decode cX10_isFunction 67 = .ok (.if_icmp .ne 7, 3) := by decide +kernel
theorem dX10_isFunction_70 : decode cX10_isFunction 70 = .ok (.iconst 1, 1) := by decide +kernel
theorem dX10_isFunction_71 : decode cX10_isFunction 71 = .ok (.goto 4, 3) := by decide +kernel
theorem dX10_isFunction_74 : decode cX10_isFunction 74 = .ok (.iconst 0, 1) := by decide +kernel
theorem dX10_isFunction_75 : decode cX10_isFunction 75 = .ok (.ireturn, 1) := by decide +kernel
set_option maxRecDepth 20000 in
theorem ggX10_grow_X10_signed : GoodIn wsX10_grow wsX10_signed := goodIn_r _ [7] (by decide +kernel) (by decide +kernel)
set_option maxRecDepth 20000 in
theorem gX10_grow_X10_signed : GoodIn wsX10_grow (va_wsS RX10 125 yX10_signed wsX10_signed) := goodIn_app (goodIn_of _ (by decide +kernel)) ggX10_grow_X10_signed
theorem dX10_grow_0 : decode cX10_grow 0 = .ok (.aload_n 0, 1) := by decide +kernel
theorem dX10_grow_1 : decode cX10_grow 1 = .ok (.getfield 139, 3) := by decide +kernel
theorem dX10_grow_4 : decode cX10_grow 4 = .ok (.lload_n 3, 1) := by decide +kernel
theorem dX10_grow_5 : decode cX10_grow 5 = .ok (.ladd, 1) := by decide +kernel
theorem dX10_grow_6 : decode cX10_grow 6 = .ok (.lstore 5, 2) := by decide +kernel
theorem dX10_grow_8 : decode cX10_grow 8 = .ok (.aload_n 0, 1) := by decide +kernel
theorem dX10_grow_9 : decode cX10_grow 9 = .ok (.aload_n 0, 1) := by decide +kernel
theorem dX10_grow_10 : decode cX10_grow 10 = .ok (.getfield 135, 3) := by decide +kernel
theorem dX10_grow_13 : decode cX10_grow 13 = .ok (.lload_n 1, 1) := by decide +kernel
theorem dX10_grow_14 : decode cX10_grow 14 = .ok (.ladd, 1) := by decide +kernel
theorem dX10_grow_15 : decode cX10_grow 15 = .ok (.lload 5, 2) := by decide +kernel
theorem dX10_grow_17 : decode cX10_grow 17 = .ok (.bipush 36, 2) := by decide +kernel
theorem dX10_grow_19 : decode cX10_grow 19 = .ok (.lshr, 1) := by decide +kernel
theorem dX10_grow_20 : decode cX10_grow 20 = .ok (.ladd, 1) := by decide +kernel
theorem dX10_grow_21 : decode cX10_grow 21 = .ok (.bipush 35, 2) := by decide +kernel
theorem dX10_grow_23 : decode cX10_grow 23 = .ok (.invokestatic 125, 3) := by decide +kernel
theorem dX10_grow_26 : decode cX10_grow 26 = .ok (.putfield 135, 3) := by decide +kernel
theorem dX10_grow_29 : decode cX10_grow 29 = .ok (.aload_n 0, 1) := by decide +kernel
theorem dX10_grow_30 : decode cX10_grow 30 = .ok (.lload 5, 2) := by decide +kernel
theorem dX10_grow_32 : decode cX10_grow 32 = .ok (.ldc2_w 146, 3) := by decide +kernel
theorem dX10_grow_35 : decode cX10_grow 35 = .ok (.land, 1) := by decide +kernel
theorem dX10_grow_36 : decode cX10_grow 36 = .ok (.putfield 139, 3) := by decide +kernel
theorem dX10_grow_39 : decode cX10_grow 39 = .ok (.return_, 1) := by decide +kernel
set_option maxRecDepth 20000 in
theorem ggX10_operand_X10_longBits : GoodIn wsX10_operand wsX10_longBits := goodIn_r _ [6, 1, 7, 11, 12, 13, 14, 15, 16, 17, 18, 19, 20, 21, 22, 23, 24, 25, 26, 27, 28, 29, 30, 31, 32, 33, 34, 35, 36, 37, 38, 39, 40, 41, 42, 43, 44, 45, 46, 47, 48, 49, 50, 51, 52, 53, 54, 55, 56, 57, 58, 59, 60, 61] (by decide +kernel) (by decide +kernel)
set_option maxRecDepth 20000 in
theorem gX10_operand_X10_longBits : GoodIn wsX10_operand (wsV RX10 121 RX10 yX10_longBits wsX10_longBits) := goodIn_app (goodIn_of _ (by decide +kernel)) ggX10_operand_X10_longBits
set_option maxRecDepth 20000 in
theorem ggX10_operand_X10_signed : GoodIn wsX10_operand wsX10_signed := goodIn_r _ [10] (by decide +kernel) (by decide +kernel)
set_option maxRecDepth 20000 in
theorem gX10_operand_X10_signed : GoodIn wsX10_operand (va_wsS RX10 125 yX10_signed wsX10_signed) := goodIn_app (goodIn_of _ (by decide +kernel)) ggX10_operand_X10_signed
theorem dX10_operand_0 : decode cX10_operand 0 = .ok (.iload_n 2, 1) := by decide +kernel
theorem dX10_operand_1 : decode cX10_operand 1 = .ok (.ifCond .eq 16, 3) := by decide +kernel
theorem dX10_operand_4 : decode cX10_operand 4 = .ok (.aload_n 0, 1) := by decide +kernel
theorem dX10_operand_5 : decode cX10_operand 5 = .ok (.iload_n 1, 1) := by decide +kernel
theorem dX10_operand_6 : decode cX10_operand 6 = .ok (.invokevirtual 121, 3) := by decide +kernel
theorem dX10_operand_9 : decode cX10_operand 9 = .ok (.bipush 35, 2) := by decide +kernel
theorem dX10_operand_11 : decode cX10_operand 11 = .ok (.invokestatic 125, 3) := by decide +kernel
theorem dX10_operand_14 : decode cX10_operand 14 = .ok (.goto 18, 3) := by decide +kernel
theorem dX10_operand_17 : decode cX10_operand 17 = .ok (.aload_n 0, 1) := by decide +kernel
theorem dX10_operand_18 : decode cX10_operand 18 = .ok (.getfield 7, 3) := by decide +kernel
theorem dX10_operand_21 : decode cX10_operand 21 = .ok (.iload_n 1, 1) := by decide +kernel
theorem dX10_operand_22 : decode cX10_operand 22 = .ok (.iaload, 1) := by decide +kernel
theorem dX10_operand_23 : decode cX10_operand 23 = .ok (.i2l, 1) := by decide +kernel
theorem dX10_operand_24 : decode cX10_operand 24 = .ok (.bipush 17, 2) := by decide +kernel
theorem dX10_operand_26 : decode cX10_operand 26 = .ok (.invokestatic 125, 3) := by decide +kernel
theorem dX10_operand_29 : decode cX10_operand 29 = .ok (.bipush 18, 2) := by decide +kernel
theorem dX10_operand_31 : decode cX10_operand 31 = .ok (.lshl, 1) := by decide +kernel
theorem dX10_operand_32 : decode cX10_operand 32 = .ok (.lreturn, 1) := by decide +kernel
set_option maxRecDepth 20000 in
theorem ggX10_multiply_X10_grow : GoodIn wsX10_multiply wsX10_grow := goodIn_r _ [10, 11, 12, 4, 13, 14, 9, 15, 16, 17, 18, 19, 20, 21, 22, 23, 24, 25, 26, 27, 28, 29, 30, 31, 32, 33, 34, 35, 36, 37, 38, 39, 40, 41, 42, 43, 44, 45, 46, 47, 48, 49, 50, 51, 52, 53, 54, 55, 56, 57, 58, 59, 60, 61, 62, 63, 64, 65, 66] (by decide +kernel) (by decide +kernel)
set_option maxRecDepth 20000 in
theorem gX10_multiply_X10_grow : GoodIn wsX10_multiply (wsV RX10 178 RX10 yX10_grow wsX10_grow) := goodIn_app (goodIn_of _ (by decide +kernel)) ggX10_multiply_X10_grow
theorem dX10_multiply_0 : decode cX10_multiply 0 = .ok (.lload_n 1, 1) := by decide +kernel
theorem dX10_multiply_1 : decode cX10_multiply 1 = .ok (.bipush 18, 2) := by decide +kernel
theorem dX10_multiply_3 : decode cX10_multiply 3 = .ok (.lshr, 1) := by decide +kernel
theorem dX10_multiply_4 : decode cX10_multiply 4 = .ok (.lstore 5, 2) := by decide +kernel
theorem dX10_multiply_6 : decode cX10_multiply 6 = .ok (.lload_n 1, 1) := by decide +kernel
theorem dX10_multiply_7 : decode cX10_multiply 7 = .ok (.ldc2_w 174, 3) := by decide +kernel
theorem dX10_multiply_10 : decode cX10_multiply 10 = .ok (.land, 1) := by decide +kernel
theorem dX10_multiply_11 : decode cX10_multiply 11 = .ok (.lstore 7, 2) := by decide +kernel
theorem dX10_multiply_13 : decode cX10_multiply 13 = .ok (.aload_n 0, 1) := by decide +kernel
theorem dX10_multiply_14 : decode cX10_multiply 14 = .ok (.getfield 148, 3) := by decide +kernel
theorem dX10_multiply_17 : decode cX10_multiply 17 = .ok (.lload 7, 2) := by decide +kernel
theorem dX10_multiply_19 : decode cX10_multiply 19 = .ok (.lmul, 1) := by decide +kernel
theorem dX10_multiply_20 : decode cX10_multiply 20 = .ok (.ldc2_w 176, 3) := by decide +kernel
theorem dX10_multiply_23 : decode cX10_multiply 23 = .ok (.lmul, 1) := by decide +kernel
theorem dX10_multiply_24 : decode cX10_multiply 24 = .ok (.lload_n 3, 1) := by decide +kernel
theorem dX10_multiply_25 : decode cX10_multiply 25 = .ok (.lmul, 1) := by decide +kernel
theorem dX10_multiply_26 : decode cX10_multiply 26 = .ok (.lstore 9, 2) := by decide +kernel
theorem dX10_multiply_28 : decode cX10_multiply 28 = .ok (.aload_n 0, 1) := by decide +kernel
theorem dX10_multiply_29 : decode cX10_multiply 29 = .ok (.lload 9, 2) := by decide +kernel
theorem dX10_multiply_31 : decode cX10_multiply 31 = .ok (.bipush 36, 2) := by decide +kernel
theorem dX10_multiply_33 : decode cX10_multiply 33 = .ok (.lshr, 1) := by decide +kernel
theorem dX10_multiply_34 : decode cX10_multiply 34 = .ok (.lload 9, 2) := by decide +kernel
theorem dX10_multiply_36 : decode cX10_multiply 36 = .ok (.ldc2_w 146, 3) := by decide +kernel
theorem dX10_multiply_39 : decode cX10_multiply 39 = .ok (.land, 1) := by decide +kernel
theorem dX10_multiply_40 : decode cX10_multiply 40 = .ok (.invokevirtual 178, 3) := by decide +kernel
theorem dX10_multiply_43 : decode cX10_multiply 43 = .ok (.aload_n 0, 1) := by decide +kernel
theorem dX10_multiply_44 : decode cX10_multiply 44 = .ok (.getfield 148, 3) := by decide +kernel
theorem dX10_multiply_47 : decode cX10_multiply 47 = .ok (.lload 5, 2) := by decide +kernel
theorem dX10_multiply_49 : decode cX10_multiply 49 = .ok (.lmul, 1) := by decide +kernel
theorem dX10_multiply_50 : decode cX10_multiply 50 = .ok (.lload_n 3, 1) := by decide +kernel
theorem dX10_multiply_51 : decode cX10_multiply 51 = .ok (.lmul, 1) := by decide +kernel
theorem dX10_multiply_52 : decode cX10_multiply 52 = .ok (.lstore 11, 2) := by decide +kernel
theorem dX10_multiply_54 : decode cX10_multiply 54 = .ok (.aload_n 0, 1) := by decide +kernel
theorem dX10_multiply_55 : decode cX10_multiply 55 = .ok (.lload 11, 2) := by decide +kernel
theorem dX10_multiply_57 : decode cX10_multiply 57 = .ok (.bipush 16, 2) := by decide +kernel
theorem dX10_multiply_59 : decode cX10_multiply 59 = .ok (.lshr, 1) := by decide +kernel
theorem dX10_multiply_60 : decode cX10_multiply 60 = .ok (.lload 11, 2) := by decide +kernel
theorem dX10_multiply_62 : decode cX10_multiply 62 = .ok (.ldc2_w 182, 3) := by decide +kernel
theorem dX10_multiply_65 : decode cX10_multiply 65 = .ok (.land, 1) := by decide +kernel
theorem dX10_multiply_66 : decode cX10_multiply 66 = .ok (.bipush 20, 2) := by decide +kernel
theorem dX10_multiply_68 : decode cX10_multiply 68 = .ok (.lshl, 1) := by decide +kernel
theorem dX10_multiply_69 : decode cX10_multiply 69 = .ok (.invokevirtual 178, 3) := by decide +kernel
theorem dX10_multiply_72 : decode cX10_multiply 72 = .ok (.return_, 1) := by decide +kernel
set_option maxRecDepth 20000 in
theorem ggX10_shift_X10_signed : GoodIn wsX10_shift wsX10_signed := goodIn_r _ [7] (by decide +kernel) (by decide +kernel)
set_option maxRecDepth 20000 in
theorem gX10_shift_X10_signed : GoodIn wsX10_shift (va_wsS RX10 125 yX10_signed wsX10_signed) := goodIn_app (goodIn_of _ (by decide +kernel)) ggX10_shift_X10_signed
theorem dX10_shift_0 : decode cX10_shift 0 = .ok (.iconst 1, 1) := by decide +kernel
theorem dX10_shift_1 : decode cX10_shift 1 = .ok (.istore_n 3, 1) := by decide +kernel
theorem dX10_shift_2 : decode cX10_shift 2 = .ok (.iload_n 1, 1) := by decide +kernel
theorem dX10_shift_3 : decode cX10_shift 3 = .ok (.iload_n 3, 1) := by decide +kernel
theorem dX10_shift_4 : decode cX10_shift 4 = .ok (.iconst 1, 1) := by decide +kernel
theorem dX10_shift_5 : decode cX10_shift 5 = .ok (.isub, 1) := by decide +kernel
theorem dX10_shift_6 : decode cX10_shift 6 = .ok (.ishr, 1) := by decide +kernel
theorem dX10_shift_7 : decode cX10_shift 7 = .ok (.iconst 1, 1) := by decide +kernel
theorem dX10_shift_8 : decode cX10_shift 8 = .ok (.iand, 1) := by decide +kernel
theorem dX10_shift_9 : decode cX10_shift 9 = .ok (.ifCond .ne 9, 3) := by decide +kernel
theorem dX10_shift_12 : decode cX10_shift 12 = .ok (.iinc 3 1, 3) := by decide +kernel
theorem dX10_shift_15 : decode cX10_shift 15 = .ok (.goto (-13), 3) := by decide +kernel
theorem dX10_shift_18 : decode cX10_shift 18 = .ok (.iload_n 2, 1) := by decide +kernel
theorem dX10_shift_19 : decode cX10_shift 19 = .ok (.ifCond .eq 45, 3) := by decide +kernel
theorem dX10_shift_22 : decode cX10_shift 22 = .ok (.aload_n 0, 1) := by decide +kernel
theorem dX10_shift_23 : decode cX10_shift 23 = .ok (.aload_n 0, 1) := by decide +kernel
theorem dX10_shift_24 : decode cX10_shift 24 = .ok (.getfield 135, 3) := by decide +kernel
theorem dX10_shift_27 : decode cX10_shift 27 = .ok (.iload_n 3, 1) := by decide +kernel
theorem dX10_shift_28 : decode cX10_shift 28 = .ok (.lshl, 1) := by decide +kernel
theorem dX10_shift_29 : decode cX10_shift 29 = .ok (.aload_n 0, 1) := by decide +kernel
theorem dX10_shift_30 : decode cX10_shift 30 = .ok (.getfield 139, 3) := by decide +kernel
theorem dX10_shift_33 : decode cX10_shift 33 = .ok (.bipush 36, 2) := by decide +kernel
theorem dX10_shift_35 : decode cX10_shift 35 = .ok (.iload_n 3, 1) := by decide +kernel
theorem dX10_shift_36 : decode cX10_shift 36 = .ok (.isub, 1) := by decide +kernel
theorem dX10_shift_37 : decode cX10_shift 37 = .ok (.lshr, 1) := by decide +kernel
theorem dX10_shift_38 : decode cX10_shift 38 = .ok (.lor, 1) := by decide +kernel
theorem dX10_shift_39 : decode cX10_shift 39 = .ok (.bipush 35, 2) := by decide +kernel
theorem dX10_shift_41 : decode cX10_shift 41 = .ok (.invokestatic 125, 3) := by decide +kernel
theorem dX10_shift_44 : decode cX10_shift 44 = .ok (.putfield 135, 3) := by decide +kernel
theorem dX10_shift_47 : decode cX10_shift 47 = .ok (.aload_n 0, 1) := by decide +kernel
theorem dX10_shift_48 : decode cX10_shift 48 = .ok (.aload_n 0, 1) := by decide +kernel
theorem dX10_shift_49 : decode cX10_shift 49 = .ok (.getfield 139, 3) := by decide +kernel
theorem dX10_shift_52 : decode cX10_shift 52 = .ok (.iload_n 3, 1) := by decide +kernel
theorem dX10_shift_53 : decode cX10_shift 53 = .ok (.lshl, 1) := by decide +kernel
theorem dX10_shift_54 : decode cX10_shift 54 = .ok (.ldc2_w 146, 3) := by decide +kernel
theorem dX10_shift_57 : decode cX10_shift 57 = .ok (.land, 1) := by decide +kernel
theorem dX10_shift_58 : decode cX10_shift 58 = .ok (.putfield 139, 3) := by decide +kernel
theorem dX10_shift_61 : decode cX10_shift 61 = .ok (.goto 39, 3) := by decide +kernel
theorem dX10_shift_64 : decode cX10_shift 64 = .ok (.aload_n 0, 1) := by decide +kernel
theorem dX10_shift_65 : decode cX10_shift 65 = .ok (.aload_n 0, 1) := by decide +kernel
theorem dX10_shift_66 : decode cX10_shift 66 = .ok (.getfield 139, 3) := by decide +kernel
theorem dX10_shift_69 : decode cX10_shift 69 = .ok (.iload_n 3, 1) := by decide +kernel
theorem dX10_shift_70 : decode cX10_shift 70 = .ok (.lshr, 1) := by decide +kernel
theorem dX10_shift_71 : decode cX10_shift 71 = .ok (.aload_n 0, 1) := by decide +kernel
theorem dX10_shift_72 : decode cX10_shift 72 = .ok (.getfield 135, 3) := by decide +kernel
theorem dX10_shift_75 : decode cX10_shift 75 = .ok (.lconst 1, 1) := by decide +kernel
theorem dX10_shift_76 : decode cX10_shift 76 = .ok (.iload_n 3, 1) := by decide +kernel
theorem dX10_shift_77 : decode cX10_shift 77 = .ok (.lshl, 1) := by decide +kernel
theorem dX10_shift_78 : decode cX10_shift 78 = .ok (.lconst 1, 1) := by decide +kernel
theorem dX10_shift_79 : decode cX10_shift 79 = .ok (.lsub, 1) := by decide +kernel
theorem dX10_shift_80 : decode cX10_shift 80 = .ok (.land, 1) := by decide +kernel
theorem dX10_shift_81 : decode cX10_shift 81 = .ok (.bipush 36, 2) := by decide +kernel
theorem dX10_shift_83 : decode cX10_shift 83 = .ok (.iload_n 3, 1) := by decide +kernel
theorem dX10_shift_84 : decode cX10_shift 84 = .ok (.isub, 1) := by decide +kernel
theorem dX10_shift_85 : decode cX10_shift 85 = .ok (.lshl, 1) := by decide +kernel
theorem dX10_shift_86 : decode cX10_shift 86 = .ok (.lor, 1) := by decide +kernel
theorem dX10_shift_87 : decode cX10_shift 87 = .ok (.putfield 139, 3) := by decide +kernel
theorem dX10_shift_90 : decode cX10_shift 90 = .ok (.aload_n 0, 1) := by decide +kernel
theorem dX10_shift_91 : decode cX10_shift 91 = .ok (.aload_n 0, 1) := by decide +kernel
theorem dX10_shift_92 : decode cX10_shift 92 = .ok (.getfield 135, 3) := by decide +kernel
theorem dX10_shift_95 : decode cX10_shift 95 = .ok (.iload_n 3, 1) := by decide +kernel
theorem dX10_shift_96 : decode cX10_shift 96 = .ok (.lshr, 1) := by decide +kernel
theorem dX10_shift_97 : decode cX10_shift 97 = .ok (.putfield 135, 3) := by decide +kernel
theorem dX10_shift_100 : decode cX10_shift 100 = .ok (.return_, 1) := by decide +kernel
theorem dX10_write_0 : decode cX10_write 0 = .ok (.aload_n 0, 1) := by decide +kernel
theorem dX10_write_1 : decode cX10_write 1 = .ok (.getfield 19, 3) := by decide +kernel
theorem dX10_write_4 : decode cX10_write 4 = .ok (.aload_n 0, 1) := by decide +kernel
theorem dX10_write_5 : decode cX10_write 5 = .ok (.getfield 159, 3) := by decide +kernel
theorem dX10_write_8 : decode cX10_write 8 = .ok (.iload_n 1, 1) := by decide +kernel
theorem dX10_write_9 : decode cX10_write 9 = .ok (.iastore, 1) := by decide +kernel
theorem dX10_write_10 : decode cX10_write 10 = .ok (.aload_n 0, 1) := by decide +kernel
theorem dX10_write_11 : decode cX10_write 11 = .ok (.dup, 1) := by decide +kernel
theorem dX10_write_12 : decode cX10_write 12 = .ok (.getfield 159, 3) := by decide +kernel
theorem dX10_write_15 : decode cX10_write 15 = .ok (.iconst 1, 1) := by decide +kernel
theorem dX10_write_16 : decode cX10_write 16 = .ok (.iadd, 1) := by decide +kernel
theorem dX10_write_17 : decode cX10_write 17 = .ok (.putfield 159, 3) := by decide +kernel
theorem dX10_write_20 : decode cX10_write 20 = .ok (.return_, 1) := by decide +kernel
theorem dX10_letterOf_0 : decode cX10_letterOf 0 = .ok (.iload_n 0, 1) := by decide +kernel
theorem dX10_letterOf_1 : decode cX10_letterOf 1 = .ok (.tableswitch 214 0 30 #[139, 142, 145, 148, 151, 154, 157, 160, 163, 166, 169, 214, 172, 175, 178, 214, 214, 181, 214, 184, 214, 187, 190, 193, 214, 196, 199, 202, 205, 208, 211], 139) := by decide +kernel
theorem dX10_letterOf_140 : decode cX10_letterOf 140 = .ok (.bipush 80, 2) := by decide +kernel
theorem dX10_letterOf_142 : decode cX10_letterOf 142 = .ok (.ireturn, 1) := by decide +kernel
theorem dX10_letterOf_143 : decode cX10_letterOf 143 = .ok (.bipush 81, 2) := by decide +kernel
theorem dX10_letterOf_145 : decode cX10_letterOf 145 = .ok (.ireturn, 1) := by decide +kernel
theorem dX10_letterOf_146 : decode cX10_letterOf 146 = .ok (.bipush 87, 2) := by decide +kernel
theorem dX10_letterOf_148 : decode cX10_letterOf 148 = .ok (.ireturn, 1) := by decide +kernel
theorem dX10_letterOf_149 : decode cX10_letterOf 149 = .ok (.bipush 69, 2) := by decide +kernel
theorem dX10_letterOf_151 : decode cX10_letterOf 151 = .ok (.ireturn, 1) := by decide +kernel
theorem dX10_letterOf_152 : decode cX10_letterOf 152 = .ok (.bipush 82, 2) := by decide +kernel
theorem dX10_letterOf_154 : decode cX10_letterOf 154 = .ok (.ireturn, 1) := by decide +kernel
theorem dX10_letterOf_155 : decode cX10_letterOf 155 = .ok (.bipush 84, 2) := by decide +kernel
theorem dX10_letterOf_157 : decode cX10_letterOf 157 = .ok (.ireturn, 1) := by decide +kernel
theorem dX10_letterOf_158 : decode cX10_letterOf 158 = .ok (.bipush 89, 2) := by decide +kernel
theorem dX10_letterOf_160 : decode cX10_letterOf 160 = .ok (.ireturn, 1) := by decide +kernel
theorem dX10_letterOf_161 : decode cX10_letterOf 161 = .ok (.bipush 85, 2) := by decide +kernel
theorem dX10_letterOf_163 : decode cX10_letterOf 163 = .ok (.ireturn, 1) := by decide +kernel
theorem dX10_letterOf_164 : decode cX10_letterOf 164 = .ok (.bipush 73, 2) := by decide +kernel
theorem dX10_letterOf_166 : decode cX10_letterOf 166 = .ok (.ireturn, 1) := by decide +kernel
theorem dX10_letterOf_167 : decode cX10_letterOf 167 = .ok (.bipush 79, 2) := by decide +kernel
theorem dX10_letterOf_169 : decode cX10_letterOf 169 = .ok (.ireturn, 1) := by decide +kernel
theorem dX10_letterOf_170 : decode cX10_letterOf 170 = .ok (.bipush 74, 2) := by decide +kernel
theorem dX10_letterOf_172 : decode cX10_letterOf 172 = .ok (.ireturn, 1) := by decide +kernel
theorem dX10_letterOf_173 : decode cX10_letterOf 173 = .ok (.bipush 83, 2) := by decide +kernel
theorem dX10_letterOf_175 : decode cX10_letterOf 175 = .ok (.ireturn, 1) := by decide +kernel
theorem dX10_letterOf_176 : decode cX10_letterOf 176 = .ok (.bipush 90, 2) := by decide +kernel
theorem dX10_letterOf_178 : decode cX10_letterOf 178 = .ok (.ireturn, 1) := by decide +kernel
theorem dX10_letterOf_179 : decode cX10_letterOf 179 = .ok (.bipush 75, 2) := by decide +kernel
theorem dX10_letterOf_181 : decode cX10_letterOf 181 = .ok (.ireturn, 1) := by decide +kernel
theorem dX10_letterOf_182 : decode cX10_letterOf 182 = .ok (.bipush 70, 2) := by decide +kernel
theorem dX10_letterOf_184 : decode cX10_letterOf 184 = .ok (.ireturn, 1) := by decide +kernel
theorem dX10_letterOf_185 : decode cX10_letterOf 185 = .ok (.bipush 68, 2) := by decide +kernel
theorem dX10_letterOf_187 : decode cX10_letterOf 187 = .ok (.ireturn, 1) := by decide +kernel
theorem dX10_letterOf_188 : decode cX10_letterOf 188 = .ok (.bipush 72, 2) := by decide +kernel
theorem dX10_letterOf_190 : decode cX10_letterOf 190 = .ok (.ireturn, 1) := by decide +kernel
theorem dX10_letterOf_191 : decode cX10_letterOf 191 = .ok (.bipush 78, 2) := by decide +kernel
theorem dX10_letterOf_193 : decode cX10_letterOf 193 = .ok (.ireturn, 1) := by decide +kernel
theorem dX10_letterOf_194 : decode cX10_letterOf 194 = .ok (.bipush 77, 2) := by decide +kernel
theorem dX10_letterOf_196 : decode cX10_letterOf 196 = .ok (.ireturn, 1) := by decide +kernel
theorem dX10_letterOf_197 : decode cX10_letterOf 197 = .ok (.bipush 76, 2) := by decide +kernel
theorem dX10_letterOf_199 : decode cX10_letterOf 199 = .ok (.ireturn, 1) := by decide +kernel
theorem dX10_letterOf_200 : decode cX10_letterOf 200 = .ok (.bipush 88, 2) := by decide +kernel
theorem dX10_letterOf_202 : decode cX10_letterOf 202 = .ok (.ireturn, 1) := by decide +kernel
theorem dX10_letterOf_203 : decode cX10_letterOf 203 = .ok (.bipush 71, 2) := by decide +kernel
theorem dX10_letterOf_205 : decode cX10_letterOf 205 = .ok (.ireturn, 1) := by decide +kernel
theorem dX10_letterOf_206 : decode cX10_letterOf 206 = .ok (.bipush 65, 2) := by decide +kernel
theorem dX10_letterOf_208 : decode cX10_letterOf 208 = .ok (.ireturn, 1) := by decide +kernel
theorem dX10_letterOf_209 : decode cX10_letterOf 209 = .ok (.bipush 66, 2) := by decide +kernel
theorem dX10_letterOf_211 : decode cX10_letterOf 211 = .ok (.ireturn, 1) := by decide +kernel
theorem dX10_letterOf_212 : decode cX10_letterOf 212 = .ok (.bipush 67, 2) := by decide +kernel
theorem dX10_letterOf_214 : decode cX10_letterOf 214 = .ok (.ireturn, 1) := by decide +kernel
theorem dX10_letterOf_215 : decode cX10_letterOf 215 = .ok (.bipush 86, 2) := by decide +kernel
theorem dX10_letterOf_217 : decode cX10_letterOf 217 = .ok (.ireturn, 1) := by decide +kernel
theorem dX10_figureOf_0 : decode cX10_figureOf 0 = .ok (.iload_n 0, 1) := by decide +kernel
theorem dX10_figureOf_1 : decode cX10_figureOf 1 = .ok (.tableswitch 151 10 31 #[103, 151, 106, 109, 112, 151, 151, 115, 151, 118, 151, 121, 124, 127, 151, 130, 133, 136, 139, 142, 145, 148], 103) := by decide +kernel
theorem dX10_figureOf_104 : decode cX10_figureOf 104 = .ok (.bipush 39, 2) := by decide +kernel
theorem dX10_figureOf_106 : decode cX10_figureOf 106 = .ok (.ireturn, 1) := by decide +kernel
theorem dX10_figureOf_107 : decode cX10_figureOf 107 = .ok (.bipush 34, 2) := by decide +kernel
theorem dX10_figureOf_109 : decode cX10_figureOf 109 = .ok (.ireturn, 1) := by decide +kernel
theorem dX10_figureOf_110 : decode cX10_figureOf 110 = .ok (.bipush 43, 2) := by decide +kernel
theorem dX10_figureOf_112 : decode cX10_figureOf 112 = .ok (.ireturn, 1) := by decide +kernel
theorem dX10_figureOf_113 : decode cX10_figureOf 113 = .ok (.bipush 40, 2) := by decide +kernel
theorem dX10_figureOf_115 : decode cX10_figureOf 115 = .ok (.ireturn, 1) := by decide +kernel
theorem dX10_figureOf_116 : decode cX10_figureOf 116 = .ok (.bipush 36, 2) := by decide +kernel
theorem dX10_figureOf_118 : decode cX10_figureOf 118 = .ok (.ireturn, 1) := by decide +kernel
theorem dX10_figureOf_119 : decode cX10_figureOf 119 = .ok (.bipush 59, 2) := by decide +kernel
theorem dX10_figureOf_121 : decode cX10_figureOf 121 = .ok (.ireturn, 1) := by decide +kernel
theorem dX10_figureOf_122 : decode cX10_figureOf 122 = .ok (.bipush 37, 2) := by decide +kernel
theorem dX10_figureOf_124 : decode cX10_figureOf 124 = .ok (.ireturn, 1) := by decide +kernel
theorem dX10_figureOf_125 : decode cX10_figureOf 125 = .ok (.bipush 44, 2) := by decide +kernel
theorem dX10_figureOf_127 : decode cX10_figureOf 127 = .ok (.ireturn, 1) := by decide +kernel
theorem dX10_figureOf_128 : decode cX10_figureOf 128 = .ok (.bipush 46, 2) := by decide +kernel
theorem dX10_figureOf_130 : decode cX10_figureOf 130 = .ok (.ireturn, 1) := by decide +kernel
theorem dX10_figureOf_131 : decode cX10_figureOf 131 = .ok (.bipush 41, 2) := by decide +kernel
theorem dX10_figureOf_133 : decode cX10_figureOf 133 = .ok (.ireturn, 1) := by decide +kernel
theorem dX10_figureOf_134 : decode cX10_figureOf 134 = .ok (.bipush 47, 2) := by decide +kernel
theorem dX10_figureOf_136 : decode cX10_figureOf 136 = .ok (.ireturn, 1) := by decide +kernel
theorem dX10_figureOf_137 : decode cX10_figureOf 137 = .ok (.bipush 60, 2) := by decide +kernel
theorem dX10_figureOf_139 : decode cX10_figureOf 139 = .ok (.ireturn, 1) := by decide +kernel
theorem dX10_figureOf_140 : decode cX10_figureOf 140 = .ok (.bipush 45, 2) := by decide +kernel
theorem dX10_figureOf_142 : decode cX10_figureOf 142 = .ok (.ireturn, 1) := by decide +kernel
theorem dX10_figureOf_143 : decode cX10_figureOf 143 = .ok (.bipush 63, 2) := by decide +kernel
theorem dX10_figureOf_145 : decode cX10_figureOf 145 = .ok (.ireturn, 1) := by decide +kernel
theorem dX10_figureOf_146 : decode cX10_figureOf 146 = .ok (.bipush 58, 2) := by decide +kernel
theorem dX10_figureOf_148 : decode cX10_figureOf 148 = .ok (.ireturn, 1) := by decide +kernel
theorem dX10_figureOf_149 : decode cX10_figureOf 149 = .ok (.bipush 61, 2) := by decide +kernel
theorem dX10_figureOf_151 : decode cX10_figureOf 151 = .ok (.ireturn, 1) := by decide +kernel
theorem dX10_figureOf_152 : decode cX10_figureOf 152 = .ok (.bipush 48, 2) := by decide +kernel
theorem dX10_figureOf_154 : decode cX10_figureOf 154 = .ok (.iload_n 0, 1) := by decide +kernel
theorem dX10_figureOf_155 : decode cX10_figureOf 155 = .ok (.iadd, 1) := by decide +kernel
theorem dX10_figureOf_156 : decode cX10_figureOf 156 = .ok (.ireturn, 1) := by decide +kernel
set_option maxRecDepth 20000 in
theorem ggX10_print_X10_write : GoodIn wsX10_print wsX10_write := goodIn_r _ [7, 8, 9, 16, 17, 18, 19, 20, 21, 22, 23, 24, 25, 26, 27, 28, 29, 30, 31, 32, 33, 34, 35, 36, 37, 38, 39, 40, 41, 42, 43, 44, 45, 46, 47, 48, 49, 50, 51, 52, 53, 54, 55, 56, 57, 58, 59, 60, 61, 62, 63, 64, 65, 66] (by decide +kernel) (by decide +kernel)
set_option maxRecDepth 20000 in
theorem gX10_print_X10_write : GoodIn wsX10_print (wsV RX10 188 RX10 yX10_write wsX10_write) := goodIn_app (goodIn_of _ (by decide +kernel)) ggX10_print_X10_write
set_option maxRecDepth 20000 in
theorem ggX10_print_X10_figureOf : GoodIn wsX10_print wsX10_figureOf := goodIn_r _ [12] (by decide +kernel) (by decide +kernel)
set_option maxRecDepth 20000 in
theorem gX10_print_X10_figureOf : GoodIn wsX10_print (va_wsS RX10 192 yX10_figureOf wsX10_figureOf) := goodIn_app (goodIn_of _ (by decide +kernel)) ggX10_print_X10_figureOf
set_option maxRecDepth 20000 in
theorem ggX10_print_X10_letterOf : GoodIn wsX10_print wsX10_letterOf := goodIn_r _ [15] (by decide +kernel) (by decide +kernel)
set_option maxRecDepth 20000 in
theorem gX10_print_X10_letterOf : GoodIn wsX10_print (va_wsS RX10 196 yX10_letterOf wsX10_letterOf) := goodIn_app (goodIn_of _ (by decide +kernel)) ggX10_print_X10_letterOf
theorem dX10_print_0 : decode cX10_print 0 = .ok (.aload_n 0, 1) := by decide +kernel
theorem dX10_print_1 : decode cX10_print 1 = .ok (.iload_n 1, 1) := by decide +kernel
theorem dX10_print_2 : decode cX10_print 2 = .ok (.putfield 22, 3) := by decide +kernel
theorem dX10_print_5 : decode cX10_print 5 = .ok (.iload_n 1, 1) := by decide +kernel
theorem dX10_print_6 : decode cX10_print 6 = .ok (.bipush 15, 2) := by decide +kernel
theorem dX10_print_8 : decode cX10_print 8 = .ok (.if_icmp .ne 11, 3) := by decide +kernel
theorem dX10_print_11 : decode cX10_print 11 = .ok (.aload_n 0, 1) := by decide +kernel
theorem dX10_print_12 : decode cX10_print 12 = .ok (.iconst 0, 1) := by decide +kernel
theorem dX10_print_13 : decode cX10_print 13 = .ok (.putfield 184, 3) := by decide +kernel
theorem dX10_print_16 : decode cX10_print 16 = .ok (.goto 90, 3) := by decide +kernel
theorem dX10_print_19 : decode cX10_print 19 = .ok (.iload_n 1, 1) := by decide +kernel
theorem dX10_print_20 : decode cX10_print 20 = .ok (.bipush 11, 2) := by decide +kernel
theorem dX10_print_22 : decode cX10_print 22 = .ok (.if_icmp .ne 11, 3) := by decide +kernel
theorem dX10_print_25 : decode cX10_print 25 = .ok (.aload_n 0, 1) := by decide +kernel
theorem dX10_print_26 : decode cX10_print 26 = .ok (.iconst 1, 1) := by decide +kernel
theorem dX10_print_27 : decode cX10_print 27 = .ok (.putfield 184, 3) := by decide +kernel
theorem dX10_print_30 : decode cX10_print 30 = .ok (.goto 76, 3) := by decide +kernel
theorem dX10_print_33 : decode cX10_print 33 = .ok (.iload_n 1, 1) := by decide +kernel
theorem dX10_print_34 : decode cX10_print 34 = .ok (.bipush 18, 2) := by decide +kernel
theorem dX10_print_36 : decode cX10_print 36 = .ok (.if_icmp .ne 12, 3) := by decide +kernel
theorem dX10_print_39 : decode cX10_print 39 = .ok (.aload_n 0, 1) := by decide +kernel
theorem dX10_print_40 : decode cX10_print 40 = .ok (.bipush 13, 2) := by decide +kernel
theorem dX10_print_42 : decode cX10_print 42 = .ok (.invokevirtual 188, 3) := by decide +kernel
theorem dX10_print_45 : decode cX10_print 45 = .ok (.goto 61, 3) := by decide +kernel
theorem dX10_print_48 : decode cX10_print 48 = .ok (.iload_n 1, 1) := by decide +kernel
theorem dX10_print_49 : decode cX10_print 49 = .ok (.bipush 24, 2) := by decide +kernel
theorem dX10_print_51 : decode cX10_print 51 = .ok (.if_icmp .ne 12, 3) := by decide +kernel
theorem dX10_print_54 : decode cX10_print 54 = .ok (.aload_n 0, 1) := by decide +kernel
theorem dX10_print_55 : decode cX10_print 55 = .ok (.bipush 10, 2) := by decide +kernel
theorem dX10_print_57 : decode cX10_print 57 = .ok (.invokevirtual 188, 3) := by decide +kernel
theorem dX10_print_60 : decode cX10_print 60 = .ok (.goto 46, 3) := by decide +kernel
theorem dX10_print_63 : decode cX10_print 63 = .ok (.iload_n 1, 1) := by decide +kernel
theorem dX10_print_64 : decode cX10_print 64 = .ok (.bipush 20, 2) := by decide +kernel
theorem dX10_print_66 : decode cX10_print 66 = .ok (.if_icmp .ne 12, 3) := by decide +kernel
theorem dX10_print_69 : decode cX10_print 69 = .ok (.aload_n 0, 1) := by decide +kernel
theorem dX10_print_70 : decode cX10_print 70 = .ok (.bipush 32, 2) := by decide +kernel
theorem dX10_print_72 : decode cX10_print 72 = .ok (.invokevirtual 188, 3) := by decide +kernel
theorem dX10_print_75 : decode cX10_print 75 = .ok (.goto 31, 3) := by decide +kernel
theorem dX10_print_78 : decode cX10_print 78 = .ok (.iload_n 1, 1) := by decide +kernel
theorem dX10_print_79 : decode cX10_print 79 = .ok (.bipush 16, 2) := by decide +kernel
theorem dX10_print_81 : decode cX10_print 81 = .ok (.if_icmp .eq 25, 3) := by decide +kernel
theorem dX10_print_84 : decode cX10_print 84 = .ok (.aload_n 0, 1) := by decide +kernel
theorem dX10_print_85 : decode cX10_print 85 = .ok (.aload_n 0, 1) := by decide +kernel
theorem dX10_print_86 : decode cX10_print 86 = .ok (.getfield 184, 3) := by decide +kernel
theorem dX10_print_89 : decode cX10_print 89 = .ok (.ifCond .eq 10, 3) := by decide +kernel
theorem dX10_print_92 : decode cX10_print 92 = .ok (.iload_n 1, 1) := by decide +kernel
theorem dX10_print_93 : decode cX10_print 93 = .ok (.invokestatic 192, 3) := by decide +kernel
theorem dX10_print_96 : decode cX10_print 96 = .ok (.goto 7, 3) := by decide +kernel
theorem dX10_print_99 : decode cX10_print 99 = .ok (.iload_n 1, 1) := by decide +kernel
theorem dX10_print_100 : decode cX10_print 100 = .ok (.invokestatic 196, 3) := by decide +kernel
theorem dX10_print_103 : decode cX10_print 103 = .ok (.invokevirtual 188, 3) := by decide +kernel
theorem dX10_print_106 : decode cX10_print 106 = .ok (.return_, 1) := by decide +kernel
theorem dX10_keep_0 : decode cX10_keep 0 = .ok (.aload_n 0, 1) := by decide +kernel
theorem dX10_keep_1 : decode cX10_keep 1 = .ok (.getfield 199, 3) := by decide +kernel
theorem dX10_keep_4 : decode cX10_keep 4 = .ok (.istore_n 3, 1) := by decide +kernel
theorem dX10_keep_5 : decode cX10_keep 5 = .ok (.aload_n 0, 1) := by decide +kernel
theorem dX10_keep_6 : decode cX10_keep 6 = .ok (.getfield 42, 3) := by decide +kernel
theorem dX10_keep_9 : decode cX10_keep 9 = .ok (.iload_n 3, 1) := by decide +kernel
theorem dX10_keep_10 : decode cX10_keep 10 = .ok (.aload_n 0, 1) := by decide +kernel
theorem dX10_keep_11 : decode cX10_keep 11 = .ok (.getfield 135, 3) := by decide +kernel
theorem dX10_keep_14 : decode cX10_keep 14 = .ok (.lastore, 1) := by decide +kernel
theorem dX10_keep_15 : decode cX10_keep 15 = .ok (.aload_n 0, 1) := by decide +kernel
theorem dX10_keep_16 : decode cX10_keep 16 = .ok (.getfield 46, 3) := by decide +kernel
theorem dX10_keep_19 : decode cX10_keep 19 = .ok (.iload_n 3, 1) := by decide +kernel
theorem dX10_keep_20 : decode cX10_keep 20 = .ok (.aload_n 0, 1) := by decide +kernel
theorem dX10_keep_21 : decode cX10_keep 21 = .ok (.getfield 139, 3) := by decide +kernel
theorem dX10_keep_24 : decode cX10_keep 24 = .ok (.lastore, 1) := by decide +kernel
theorem dX10_keep_25 : decode cX10_keep 25 = .ok (.aload_n 0, 1) := by decide +kernel
theorem dX10_keep_26 : decode cX10_keep 26 = .ok (.getfield 49, 3) := by decide +kernel
theorem dX10_keep_29 : decode cX10_keep 29 = .ok (.iload_n 3, 1) := by decide +kernel
theorem dX10_keep_30 : decode cX10_keep 30 = .ok (.aload_n 0, 1) := by decide +kernel
theorem dX10_keep_31 : decode cX10_keep 31 = .ok (.getfield 148, 3) := by decide +kernel
theorem dX10_keep_34 : decode cX10_keep 34 = .ok (.lastore, 1) := by decide +kernel
theorem dX10_keep_35 : decode cX10_keep 35 = .ok (.aload_n 0, 1) := by decide +kernel
theorem dX10_keep_36 : decode cX10_keep 36 = .ok (.getfield 52, 3) := by decide +kernel
theorem dX10_keep_39 : decode cX10_keep 39 = .ok (.iload_n 3, 1) := by decide +kernel
theorem dX10_keep_40 : decode cX10_keep 40 = .ok (.aload_n 0, 1) := by decide +kernel
theorem dX10_keep_41 : decode cX10_keep 41 = .ok (.getfield 163, 3) := by decide +kernel
theorem dX10_keep_44 : decode cX10_keep 44 = .ok (.iastore, 1) := by decide +kernel
theorem dX10_keep_45 : decode cX10_keep 45 = .ok (.aload_n 0, 1) := by decide +kernel
theorem dX10_keep_46 : decode cX10_keep 46 = .ok (.getfield 55, 3) := by decide +kernel
theorem dX10_keep_49 : decode cX10_keep 49 = .ok (.iload_n 3, 1) := by decide +kernel
theorem dX10_keep_50 : decode cX10_keep 50 = .ok (.aload_n 0, 1) := by decide +kernel
theorem dX10_keep_51 : decode cX10_keep 51 = .ok (.getfield 156, 3) := by decide +kernel
theorem dX10_keep_54 : decode cX10_keep 54 = .ok (.iastore, 1) := by decide +kernel
theorem dX10_keep_55 : decode cX10_keep 55 = .ok (.aload_n 0, 1) := by decide +kernel
theorem dX10_keep_56 : decode cX10_keep 56 = .ok (.getfield 58, 3) := by decide +kernel
theorem dX10_keep_59 : decode cX10_keep 59 = .ok (.iload_n 3, 1) := by decide +kernel
theorem dX10_keep_60 : decode cX10_keep 60 = .ok (.aload_n 0, 1) := by decide +kernel
theorem dX10_keep_61 : decode cX10_keep 61 = .ok (.getfield 159, 3) := by decide +kernel
theorem dX10_keep_64 : decode cX10_keep 64 = .ok (.iastore, 1) := by decide +kernel
theorem dX10_keep_65 : decode cX10_keep 65 = .ok (.aload_n 0, 1) := by decide +kernel
theorem dX10_keep_66 : decode cX10_keep 66 = .ok (.getfield 61, 3) := by decide +kernel
theorem dX10_keep_69 : decode cX10_keep 69 = .ok (.iload_n 3, 1) := by decide +kernel
theorem dX10_keep_70 : decode cX10_keep 70 = .ok (.aload_n 0, 1) := by decide +kernel
theorem dX10_keep_71 : decode cX10_keep 71 = .ok (.getfield 184, 3) := by decide +kernel
theorem dX10_keep_74 : decode cX10_keep 74 = .ok (.bastore, 1) := by decide +kernel
theorem dX10_keep_75 : decode cX10_keep 75 = .ok (.aload_n 0, 1) := by decide +kernel
theorem dX10_keep_76 : decode cX10_keep 76 = .ok (.getfield 64, 3) := by decide +kernel
theorem dX10_keep_79 : decode cX10_keep 79 = .ok (.iload_n 3, 1) := by decide +kernel
theorem dX10_keep_80 : decode cX10_keep 80 = .ok (.aload_n 0, 1) := by decide +kernel
theorem dX10_keep_81 : decode cX10_keep 81 = .ok (.getfield 22, 3) := by decide +kernel
theorem dX10_keep_84 : decode cX10_keep 84 = .ok (.iastore, 1) := by decide +kernel
theorem dX10_keep_85 : decode cX10_keep 85 = .ok (.aload_n 0, 1) := by decide +kernel
theorem dX10_keep_86 : decode cX10_keep 86 = .ok (.getfield 67, 3) := by decide +kernel
theorem dX10_keep_89 : decode cX10_keep 89 = .ok (.iload_n 3, 1) := by decide +kernel
theorem dX10_keep_90 : decode cX10_keep 90 = .ok (.iload_n 1, 1) := by decide +kernel
theorem dX10_keep_91 : decode cX10_keep 91 = .ok (.iastore, 1) := by decide +kernel
theorem dX10_keep_92 : decode cX10_keep 92 = .ok (.aload_n 0, 1) := by decide +kernel
theorem dX10_keep_93 : decode cX10_keep 93 = .ok (.getfield 70, 3) := by decide +kernel
theorem dX10_keep_96 : decode cX10_keep 96 = .ok (.iload_n 3, 1) := by decide +kernel
theorem dX10_keep_97 : decode cX10_keep 97 = .ok (.iload_n 2, 1) := by decide +kernel
theorem dX10_keep_98 : decode cX10_keep 98 = .ok (.sipush 254, 3) := by decide +kernel
theorem dX10_keep_101 : decode cX10_keep 101 = .ok (.iand, 1) := by decide +kernel
theorem dX10_keep_102 : decode cX10_keep 102 = .ok (.iastore, 1) := by decide +kernel
theorem dX10_keep_103 : decode cX10_keep 103 = .ok (.aload_n 0, 1) := by decide +kernel
theorem dX10_keep_104 : decode cX10_keep 104 = .ok (.getfield 73, 3) := by decide +kernel
theorem dX10_keep_107 : decode cX10_keep 107 = .ok (.iload_n 3, 1) := by decide +kernel
theorem dX10_keep_108 : decode cX10_keep 108 = .ok (.aload_n 0, 1) := by decide +kernel
theorem dX10_keep_109 : decode cX10_keep 109 = .ok (.getfield 7, 3) := by decide +kernel
theorem dX10_keep_112 : decode cX10_keep 112 = .ok (.iload_n 2, 1) := by decide +kernel
theorem dX10_keep_113 : decode cX10_keep 113 = .ok (.sipush 254, 3) := by decide +kernel
theorem dX10_keep_116 : decode cX10_keep 116 = .ok (.iand, 1) := by decide +kernel
theorem dX10_keep_117 : decode cX10_keep 117 = .ok (.iaload, 1) := by decide +kernel
theorem dX10_keep_118 : decode cX10_keep 118 = .ok (.iastore, 1) := by decide +kernel
theorem dX10_keep_119 : decode cX10_keep 119 = .ok (.aload_n 0, 1) := by decide +kernel
theorem dX10_keep_120 : decode cX10_keep 120 = .ok (.getfield 76, 3) := by decide +kernel
theorem dX10_keep_123 : decode cX10_keep 123 = .ok (.iload_n 3, 1) := by decide +kernel
theorem dX10_keep_124 : decode cX10_keep 124 = .ok (.aload_n 0, 1) := by decide +kernel
theorem dX10_keep_125 : decode cX10_keep 125 = .ok (.getfield 7, 3) := by decide +kernel
theorem dX10_keep_128 : decode cX10_keep 128 = .ok (.iload_n 2, 1) := by decide +kernel
theorem dX10_keep_129 : decode cX10_keep 129 = .ok (.sipush 254, 3) := by decide +kernel
theorem dX10_keep_132 : decode cX10_keep 132 = .ok (.iand, 1) := by decide +kernel
theorem dX10_keep_133 : decode cX10_keep 133 = .ok (.iconst 1, 1) := by decide +kernel
theorem dX10_keep_134 : decode cX10_keep 134 = .ok (.iadd, 1) := by decide +kernel
theorem dX10_keep_135 : decode cX10_keep 135 = .ok (.iaload, 1) := by decide +kernel
theorem dX10_keep_136 : decode cX10_keep 136 = .ok (.iastore, 1) := by decide +kernel
theorem dX10_keep_137 : decode cX10_keep 137 = .ok (.aload_n 0, 1) := by decide +kernel
theorem dX10_keep_138 : decode cX10_keep 138 = .ok (.getfield 79, 3) := by decide +kernel
theorem dX10_keep_141 : decode cX10_keep 141 = .ok (.iload_n 3, 1) := by decide +kernel
theorem dX10_keep_142 : decode cX10_keep 142 = .ok (.aload_n 0, 1) := by decide +kernel
theorem dX10_keep_143 : decode cX10_keep 143 = .ok (.getfield 13, 3) := by decide +kernel
theorem dX10_keep_146 : decode cX10_keep 146 = .ok (.iload_n 2, 1) := by decide +kernel
theorem dX10_keep_147 : decode cX10_keep 147 = .ok (.iconst 2, 1) := by decide +kernel
theorem dX10_keep_148 : decode cX10_keep 148 = .ok (.idiv, 1) := by decide +kernel
theorem dX10_keep_149 : decode cX10_keep 149 = .ok (.iaload, 1) := by decide +kernel
theorem dX10_keep_150 : decode cX10_keep 150 = .ok (.iastore, 1) := by decide +kernel
theorem dX10_keep_151 : decode cX10_keep 151 = .ok (.aload_n 0, 1) := by decide +kernel
theorem dX10_keep_152 : decode cX10_keep 152 = .ok (.aload_n 0, 1) := by decide +kernel
theorem dX10_keep_153 : decode cX10_keep 153 = .ok (.getfield 199, 3) := by decide +kernel
theorem dX10_keep_156 : decode cX10_keep 156 = .ok (.iconst 1, 1) := by decide +kernel
theorem dX10_keep_157 : decode cX10_keep 157 = .ok (.iadd, 1) := by decide +kernel
theorem dX10_keep_158 : decode cX10_keep 158 = .ok (.bipush 100, 2) := by decide +kernel
theorem dX10_keep_160 : decode cX10_keep 160 = .ok (.irem, 1) := by decide +kernel
theorem dX10_keep_161 : decode cX10_keep 161 = .ok (.putfield 199, 3) := by decide +kernel
theorem dX10_keep_164 : decode cX10_keep 164 = .ok (.aload_n 0, 1) := by decide +kernel
theorem dX10_keep_165 : decode cX10_keep 165 = .ok (.aload_n 0, 1) := by decide +kernel
theorem dX10_keep_166 : decode cX10_keep 166 = .ok (.getfield 112, 3) := by decide +kernel
theorem dX10_keep_169 : decode cX10_keep 169 = .ok (.bipush 100, 2) := by decide +kernel
theorem dX10_keep_171 : decode cX10_keep 171 = .ok (.if_icmp .ge 12, 3) := by decide +kernel
theorem dX10_keep_174 : decode cX10_keep 174 = .ok (.aload_n 0, 1) := by decide +kernel
theorem dX10_keep_175 : decode cX10_keep 175 = .ok (.getfield 112, 3) := by decide +kernel
theorem dX10_keep_178 : decode cX10_keep 178 = .ok (.iconst 1, 1) := by decide +kernel
theorem dX10_keep_179 : decode cX10_keep 179 = .ok (.iadd, 1) := by decide +kernel
theorem dX10_keep_180 : decode cX10_keep 180 = .ok (.goto 5, 3) := by decide +kernel
theorem dX10_keep_183 : decode cX10_keep 183 = .ok (.bipush 100, 2) := by decide +kernel
theorem dX10_keep_185 : decode cX10_keep 185 = .ok (.putfield 112, 3) := by decide +kernel
theorem dX10_keep_188 : decode cX10_keep 188 = .ok (.return_, 1) := by decide +kernel
set_option maxRecDepth 20000 in
theorem ggX10_act_X10_keep : GoodIn wsX10_act wsX10_keep := goodIn_r _ [18, 19, 20, 5, 21, 9, 22, 3, 23, 2, 24, 11, 25, 26, 27, 28, 29, 12, 30, 31, 32, 7, 33, 34, 35, 36, 83, 84, 85, 86, 87, 88, 89, 90, 91, 92, 93, 94, 95, 96, 97, 98, 99, 100, 101, 102, 103, 104, 105, 106, 107, 108, 109, 110, 111, 112, 113, 114, 115, 116, 117, 118, 119, 120, 121, 122, 123, 124, 125, 126, 127, 128, 129, 130, 131, 132, 133] (by decide +kernel) (by decide +kernel)
set_option maxRecDepth 20000 in
theorem gX10_act_X10_keep : GoodIn wsX10_act (wsV RX10 202 RX10 yX10_keep wsX10_keep) := goodIn_app (goodIn_of _ (by decide +kernel)) ggX10_act_X10_keep
set_option maxRecDepth 20000 in
theorem ggX10_act_X10_operand : GoodIn wsX10_act wsX10_operand := goodIn_r _ [40, 7, 41, 42, 43, 17, 44, 35, 45, 46, 47, 83, 84, 85, 86, 87, 88, 89, 90, 91, 92, 93, 94, 95, 96, 97, 98, 99, 100, 101, 102, 103, 104, 105, 106, 107, 108, 109, 110, 111, 112, 113, 114, 115, 116, 117, 118, 119, 120, 121, 122, 123, 124, 125, 126, 127, 128, 129, 130, 131, 132, 133] (by decide +kernel) (by decide +kernel)
set_option maxRecDepth 20000 in
theorem gX10_act_X10_operand : GoodIn wsX10_act (wsV RX10 206 RX10 yX10_operand wsX10_operand) := goodIn_app (goodIn_of _ (by decide +kernel)) ggX10_act_X10_operand
set_option maxRecDepth 20000 in
theorem ggX10_act_X10_grow : GoodIn wsX10_act wsX10_grow := goodIn_r _ [51, 9, 5, 52, 45, 46, 17, 47, 83, 84, 85, 86, 87, 88, 89, 90, 91, 92, 93, 94, 95, 96, 97, 98, 99, 100, 101, 102, 103, 104, 105, 106, 107, 108, 109, 110, 111, 112, 113, 114, 115, 116, 117, 118, 119, 120, 121, 122, 123, 124, 125, 126, 127, 128, 129, 130, 131, 132, 133] (by decide +kernel) (by decide +kernel)
set_option maxRecDepth 20000 in
theorem gX10_act_X10_grow : GoodIn wsX10_act (wsV RX10 178 RX10 yX10_grow wsX10_grow) := goodIn_app (goodIn_of _ (by decide +kernel)) ggX10_act_X10_grow
set_option maxRecDepth 20000 in
theorem ggX10_act_X10_multiply : GoodIn wsX10_act wsX10_multiply := goodIn_r _ [56, 57, 3, 58, 52, 59, 48, 49, 50, 17, 51, 9, 5, 45, 46, 47, 83, 84, 85, 86, 87, 88, 89, 90, 91, 92, 93, 94, 95, 96, 97, 98, 99, 100, 101, 102, 103, 104, 105, 106, 107, 108, 109, 110, 111, 112, 113, 114, 115, 116, 117, 118, 119, 120, 121, 122, 123, 124, 125, 126, 127, 128, 129, 130, 131, 132, 133] (by decide +kernel) (by decide +kernel)
set_option maxRecDepth 20000 in
theorem gX10_act_X10_multiply : GoodIn wsX10_act (wsV RX10 210 RX10 yX10_multiply wsX10_multiply) := goodIn_app (goodIn_of _ (by decide +kernel)) ggX10_act_X10_multiply
set_option maxRecDepth 20000 in
theorem ggX10_act_X10_layLong : GoodIn wsX10_act wsX10_layLong := goodIn_r _ [63, 7, 8, 35, 83, 84, 85, 86, 87, 88, 89, 90, 91, 92, 93, 94, 95, 96, 97, 98, 99, 100, 101, 102, 103, 104, 105, 106, 107, 108, 109, 110, 111, 112, 113, 114, 115, 116, 117, 118, 119, 120, 121, 122, 123, 124, 125, 126, 127, 128, 129, 130, 131, 132, 133] (by decide +kernel) (by decide +kernel)
set_option maxRecDepth 20000 in
theorem gX10_act_X10_layLong : GoodIn wsX10_act (wsV RX10 117 RX10 yX10_layLong wsX10_layLong) := goodIn_app (goodIn_of _ (by decide +kernel)) ggX10_act_X10_layLong
set_option maxRecDepth 20000 in
theorem ggX10_act_X10_shift : GoodIn wsX10_act wsX10_shift := goodIn_r _ [67, 5, 9, 52, 45, 46, 17, 47, 83, 84, 85, 86, 87, 88, 89, 90, 91, 92, 93, 94, 95, 96, 97, 98, 99, 100, 101, 102, 103, 104, 105, 106, 107, 108, 109, 110, 111, 112, 113, 114, 115, 116, 117, 118, 119, 120, 121, 122, 123, 124, 125, 126, 127, 128, 129, 130, 131, 132, 133] (by decide +kernel) (by decide +kernel)
set_option maxRecDepth 20000 in
theorem gX10_act_X10_shift : GoodIn wsX10_act (wsV RX10 215 RX10 yX10_shift wsX10_shift) := goodIn_app (goodIn_of _ (by decide +kernel)) ggX10_act_X10_shift
set_option maxRecDepth 20000 in
theorem ggX10_act_X10_print : GoodIn wsX10_act wsX10_print := goodIn_r _ [71, 12, 28, 72, 73, 74, 17, 75, 76, 26, 77, 78, 79, 80, 81, 82, 83, 84, 85, 86, 87, 88, 89, 90, 91, 92, 93, 94, 95, 96, 97, 98, 99, 100, 101, 102, 103, 104, 105, 106, 107, 108, 109, 110, 111, 112, 113, 114, 115, 116, 117, 118, 119, 120, 121, 122, 123, 124, 125, 126, 127, 128, 129, 130, 131, 132, 133] (by decide +kernel) (by decide +kernel)
set_option maxRecDepth 20000 in
theorem gX10_act_X10_print : GoodIn wsX10_act (wsV RX10 219 RX10 yX10_print wsX10_print) := goodIn_app (goodIn_of _ (by decide +kernel)) ggX10_act_X10_print
theorem dX10_act_0 : decode cX10_act 0 = .ok (.iload_n 1, 1) := by decide +kernel
theorem dX10_act_1 : decode cX10_act 1 = .ok (.bipush 12, 2) := by decide +kernel
theorem dX10_act_3 : decode cX10_act 3 = .ok (.ishr, 1) := by decide +kernel
theorem dX10_act_4 : decode cX10_act 4 = .ok (.istore_n 2, 1) := by decide +kernel
theorem dX10_act_5 : decode cX10_act 5 = .ok (.iload_n 1, 1) := by decide +kernel
theorem dX10_act_6 : decode cX10_act 6 = .ok (.iconst 1, 1) := by decide +kernel
theorem dX10_act_7 : decode cX10_act 7 = .ok (.ishr, 1) := by decide +kernel
theorem dX10_act_8 : decode cX10_act 8 = .ok (.sipush 255, 3) := by decide +kernel
theorem dX10_act_11 : decode cX10_act 11 = .ok (.iand, 1) := by decide +kernel
theorem dX10_act_12 : decode cX10_act 12 = .ok (.istore_n 3, 1) := by decide +kernel
theorem dX10_act_13 : decode cX10_act 13 = .ok (.iload_n 1, 1) := by decide +kernel
theorem dX10_act_14 : decode cX10_act 14 = .ok (.iconst 1, 1) := by decide +kernel
theorem dX10_act_15 : decode cX10_act 15 = .ok (.iand, 1) := by decide +kernel
theorem dX10_act_16 : decode cX10_act 16 = .ok (.iconst 1, 1) := by decide +kernel
theorem dX10_act_17 : decode cX10_act 17 = .ok (.if_icmp .ne 7, 3) := by decide +kernel
