theorem dX10_done_23 : decode cX10_done 23 = .ok (.ireturn, 1) := by decide +kernel
set_option maxRecDepth 20000 in
theorem ggX10_reach_X10_isAddress : GoodIn wsX10_reach wsX10_isAddress := goodIn_r _ [7, 8, 9, 10, 6, 11] rfl (by decide +kernel)
set_option maxRecDepth 20000 in
theorem gX10_reach_X10_isAddress : GoodIn wsX10_reach (va_wsS RX10 108 yX10_isAddress wsX10_isAddress) := goodIn_app (goodIn_of _ (by decide +kernel)) ggX10_reach_X10_isAddress
set_option maxRecDepth 20000 in
theorem ggX10_reach_X10_isFunction : GoodIn wsX10_reach wsX10_isFunction := goodIn_r _ [14, 15, 16, 17, 18, 9, 10, 6, 11] rfl (by decide +kernel)
set_option maxRecDepth 20000 in
theorem gX10_reach_X10_isFunction : GoodIn wsX10_reach (va_wsS RX10 226 yX10_isFunction wsX10_isFunction) := goodIn_app (goodIn_of _ (by decide +kernel)) ggX10_reach_X10_isFunction
theorem dX10_reach_0 : decode cX10_reach 0 = .ok (.iload_n 1, 1) := by decide +kernel
theorem dX10_reach_1 : decode cX10_reach 1 = .ok (.invokestatic 108, 3) := by decide +kernel
theorem dX10_reach_4 : decode cX10_reach 4 = .ok (.ifCond .ne 6, 3) := by decide +kernel
theorem dX10_reach_7 : decode cX10_reach 7 = .ok (.bipush (-2), 2) := by decide +kernel
theorem dX10_reach_9 : decode cX10_reach 9 = .ok (.ireturn, 1) := by decide +kernel
theorem dX10_reach_10 : decode cX10_reach 10 = .ok (.aload_n 0, 1) := by decide +kernel
theorem dX10_reach_11 : decode cX10_reach 11 = .ok (.iconst 1, 1) := by decide +kernel
theorem dX10_reach_12 : decode cX10_reach 12 = .ok (.putfield 235, 3) := by decide +kernel
theorem dX10_reach_15 : decode cX10_reach 15 = .ok (.iconst 0, 1) := by decide +kernel
theorem dX10_reach_16 : decode cX10_reach 16 = .ok (.istore_n 2, 1) := by decide +kernel
theorem dX10_reach_17 : decode cX10_reach 17 = .ok (.iload_n 2, 1) := by decide +kernel
theorem dX10_reach_18 : decode cX10_reach 18 = .ok (.sipush 256, 3) := by decide +kernel
theorem dX10_reach_21 : decode cX10_reach 21 = .ok (.if_icmp .ge 25, 3) := by decide +kernel
theorem dX10_reach_24 : decode cX10_reach 24 = .ok (.aload_n 0, 1) := by decide +kernel
theorem dX10_reach_25 : decode cX10_reach 25 = .ok (.getfield 82, 3) := by decide +kernel
theorem dX10_reach_28 : decode cX10_reach 28 = .ok (.iload_n 2, 1) := by decide +kernel
theorem dX10_reach_29 : decode cX10_reach 29 = .ok (.iload_n 2, 1) := by decide +kernel
theorem dX10_reach_30 : decode cX10_reach 30 = .ok (.iload_n 1, 1) := by decide +kernel
theorem dX10_reach_31 : decode cX10_reach 31 = .ok (.if_icmp .ne 7, 3) := by decide +kernel
theorem dX10_reach_34 : decode cX10_reach 34 = .ok (.iconst 1, 1) := by decide +kernel
theorem dX10_reach_35 : decode cX10_reach 35 = .ok (.goto 4, 3) := by decide +kernel
theorem dX10_reach_38 : decode cX10_reach 38 = .ok (.iconst 0, 1) := by decide +kernel
theorem dX10_reach_39 : decode cX10_reach 39 = .ok (.bastore, 1) := by decide +kernel
theorem dX10_reach_40 : decode cX10_reach 40 = .ok (.iinc 2 1, 3) := by decide +kernel
theorem dX10_reach_43 : decode cX10_reach 43 = .ok (.goto (-26), 3) := by decide +kernel
theorem dX10_reach_46 : decode cX10_reach 46 = .ok (.iconst 1, 1) := by decide +kernel
theorem dX10_reach_47 : decode cX10_reach 47 = .ok (.istore_n 2, 1) := by decide +kernel
theorem dX10_reach_48 : decode cX10_reach 48 = .ok (.iload_n 2, 1) := by decide +kernel
theorem dX10_reach_49 : decode cX10_reach 49 = .ok (.ifCond .eq 145, 3) := by decide +kernel
theorem dX10_reach_52 : decode cX10_reach 52 = .ok (.iconst 0, 1) := by decide +kernel
theorem dX10_reach_53 : decode cX10_reach 53 = .ok (.istore_n 2, 1) := by decide +kernel
theorem dX10_reach_54 : decode cX10_reach 54 = .ok (.iconst 0, 1) := by decide +kernel
theorem dX10_reach_55 : decode cX10_reach 55 = .ok (.istore_n 3, 1) := by decide +kernel
theorem dX10_reach_56 : decode cX10_reach 56 = .ok (.iload_n 3, 1) := by decide +kernel
theorem dX10_reach_57 : decode cX10_reach 57 = .ok (.sipush 256, 3) := by decide +kernel
theorem dX10_reach_60 : decode cX10_reach 60 = .ok (.if_icmp .ge 131, 3) := by decide +kernel
theorem dX10_reach_63 : decode cX10_reach 63 = .ok (.aload_n 0, 1) := by decide +kernel
theorem dX10_reach_64 : decode cX10_reach 64 = .ok (.getfield 7, 3) := by decide +kernel
theorem dX10_reach_67 : decode cX10_reach 67 = .ok (.iload_n 3, 1) := by decide +kernel
theorem dX10_reach_68 : decode cX10_reach 68 = .ok (.iaload, 1) := by decide +kernel
theorem dX10_reach_69 : decode cX10_reach 69 = .ok (.bipush 12, 2) := by decide +kernel
theorem dX10_reach_71 : decode cX10_reach 71 = .ok (.ishr, 1) := by decide +kernel
theorem dX10_reach_72 : decode cX10_reach 72 = .ok (.istore 4, 2) := by decide +kernel
theorem dX10_reach_74 : decode cX10_reach 74 = .ok (.aload_n 0, 1) := by decide +kernel
theorem dX10_reach_75 : decode cX10_reach 75 = .ok (.getfield 82, 3) := by decide +kernel
theorem dX10_reach_78 : decode cX10_reach 78 = .ok (.iload_n 3, 1) := by decide +kernel
theorem dX10_reach_79 : decode cX10_reach 79 = .ok (.baload, 1) := by decide +kernel
theorem dX10_reach_80 : decode cX10_reach 80 = .ok (.ifCond .eq 105, 3) := by decide +kernel
theorem dX10_reach_83 : decode cX10_reach 83 = .ok (.iload 4, 2) := by decide +kernel
theorem dX10_reach_85 : decode cX10_reach 85 = .ok (.invokestatic 226, 3) := by decide +kernel
theorem dX10_reach_88 : decode cX10_reach 88 = .ok (.ifCond .eq 97, 3) := by decide +kernel
theorem dX10_reach_91 : decode cX10_reach 91 = .ok (.iload 4, 2) := by decide +kernel
theorem dX10_reach_93 : decode cX10_reach 93 = .ok (.bipush 13, 2) := by decide +kernel
theorem dX10_reach_95 : decode cX10_reach 95 = .ok (.if_icmp .eq 90, 3) := by decide +kernel
theorem dX10_reach_98 : decode cX10_reach 98 = .ok (.iload_n 3, 1) := by decide +kernel
theorem dX10_reach_99 : decode cX10_reach 99 = .ok (.iconst 1, 1) := by decide +kernel
theorem dX10_reach_100 : decode cX10_reach 100 = .ok (.iadd, 1) := by decide +kernel
theorem dX10_reach_101 : decode cX10_reach 101 = .ok (.sipush 256, 3) := by decide +kernel
theorem dX10_reach_104 : decode cX10_reach 104 = .ok (.irem, 1) := by decide +kernel
theorem dX10_reach_105 : decode cX10_reach 105 = .ok (.istore 5, 2) := by decide +kernel
theorem dX10_reach_107 : decode cX10_reach 107 = .ok (.iload 4, 2) := by decide +kernel
theorem dX10_reach_109 : decode cX10_reach 109 = .ok (.iconst 3, 1) := by decide +kernel
theorem dX10_reach_110 : decode cX10_reach 110 = .ok (.if_icmp .eq 10, 3) := by decide +kernel
theorem dX10_reach_113 : decode cX10_reach 113 = .ok (.iload 4, 2) := by decide +kernel
theorem dX10_reach_115 : decode cX10_reach 115 = .ok (.bipush 27, 2) := by decide +kernel
theorem dX10_reach_117 : decode cX10_reach 117 = .ok (.if_icmp .ne 18, 3) := by decide +kernel
theorem dX10_reach_120 : decode cX10_reach 120 = .ok (.aload_n 0, 1) := by decide +kernel
theorem dX10_reach_121 : decode cX10_reach 121 = .ok (.getfield 7, 3) := by decide +kernel
theorem dX10_reach_124 : decode cX10_reach 124 = .ok (.iload_n 3, 1) := by decide +kernel
theorem dX10_reach_125 : decode cX10_reach 125 = .ok (.iaload, 1) := by decide +kernel
theorem dX10_reach_126 : decode cX10_reach 126 = .ok (.iconst 1, 1) := by decide +kernel
theorem dX10_reach_127 : decode cX10_reach 127 = .ok (.ishr, 1) := by decide +kernel
theorem dX10_reach_128 : decode cX10_reach 128 = .ok (.sipush 255, 3) := by decide +kernel
theorem dX10_reach_131 : decode cX10_reach 131 = .ok (.iand, 1) := by decide +kernel
theorem dX10_reach_132 : decode cX10_reach 132 = .ok (.goto 5, 3) := by decide +kernel
theorem dX10_reach_135 : decode cX10_reach 135 = .ok (.iload 5, 2) := by decide +kernel
theorem dX10_reach_137 : decode cX10_reach 137 = .ok (.istore 6, 2) := by decide +kernel
theorem dX10_reach_139 : decode cX10_reach 139 = .ok (.iload_n 2, 1) := by decide +kernel
theorem dX10_reach_140 : decode cX10_reach 140 = .ok (.ifCond .ne 23, 3) := by decide +kernel
theorem dX10_reach_143 : decode cX10_reach 143 = .ok (.aload_n 0, 1) := by decide +kernel
theorem dX10_reach_144 : decode cX10_reach 144 = .ok (.getfield 82, 3) := by decide +kernel
theorem dX10_reach_147 : decode cX10_reach 147 = .ok (.iload 5, 2) := by decide +kernel
theorem dX10_reach_149 : decode cX10_reach 149 = .ok (.baload, 1) := by decide +kernel
theorem dX10_reach_150 : decode cX10_reach 150 = .ok (.ifCond .eq 13, 3) := by decide +kernel
theorem dX10_reach_153 : decode cX10_reach 153 = .ok (.aload_n 0, 1) := by decide +kernel
theorem dX10_reach_154 : decode cX10_reach 154 = .ok (.getfield 82, 3) := by decide +kernel
theorem dX10_reach_157 : decode cX10_reach 157 = .ok (.iload 6, 2) := by decide +kernel
theorem dX10_reach_159 : decode cX10_reach 159 = .ok (.baload, 1) := by decide +kernel
theorem dX10_reach_160 : decode cX10_reach 160 = .ok (.ifCond .ne 7, 3) := by decide +kernel
theorem dX10_reach_163 : decode cX10_reach 163 = .ok (.iconst 1, 1) := by decide +kernel
theorem dX10_reach_164 : decode cX10_reach 164 = .ok (.goto 4, 3) := by decide +kernel
theorem dX10_reach_167 : decode cX10_reach 167 = .ok (.iconst 0, 1) := by decide +kernel
theorem dX10_reach_168 : decode cX10_reach 168 = .ok (.istore_n 2, 1) := by decide +kernel
theorem dX10_reach_169 : decode cX10_reach 169 = .ok (.aload_n 0, 1) := by decide +kernel
theorem dX10_reach_170 : decode cX10_reach 170 = .ok (.getfield 82, 3) := by decide +kernel
theorem dX10_reach_173 : decode cX10_reach 173 = .ok (.iload 5, 2) := by decide +kernel
theorem dX10_reach_175 : decode cX10_reach 175 = .ok (.iconst 1, 1) := by decide +kernel
theorem dX10_reach_176 : decode cX10_reach 176 = .ok (.bastore, 1) := by decide +kernel
theorem dX10_reach_177 : decode cX10_reach 177 = .ok (.aload_n 0, 1) := by decide +kernel
theorem dX10_reach_178 : decode cX10_reach 178 = .ok (.getfield 82, 3) := by decide +kernel
theorem dX10_reach_181 : decode cX10_reach 181 = .ok (.iload 6, 2) := by decide +kernel
theorem dX10_reach_183 : decode cX10_reach 183 = .ok (.iconst 1, 1) := by decide +kernel
theorem dX10_reach_184 : decode cX10_reach 184 = .ok (.bastore, 1) := by decide +kernel
theorem dX10_reach_185 : decode cX10_reach 185 = .ok (.iinc 3 1, 3) := by decide +kernel
theorem dX10_reach_188 : decode cX10_reach 188 = .ok (.goto (-132), 3) := by decide +kernel
theorem dX10_reach_191 : decode cX10_reach 191 = .ok (.goto (-143), 3) := by decide +kernel
theorem dX10_reach_194 : decode cX10_reach 194 = .ok (.iconst 0, 1) := by decide +kernel
theorem dX10_reach_195 : decode cX10_reach 195 = .ok (.istore_n 3, 1) := by decide +kernel
theorem dX10_reach_196 : decode cX10_reach 196 = .ok (.iconst 0, 1) := by decide +kernel
theorem dX10_reach_197 : decode cX10_reach 197 = .ok (.istore 4, 2) := by decide +kernel
theorem dX10_reach_199 : decode cX10_reach 199 = .ok (.iload 4, 2) := by decide +kernel
theorem dX10_reach_201 : decode cX10_reach 201 = .ok (.sipush 256, 3) := by decide +kernel
theorem dX10_reach_204 : decode cX10_reach 204 = .ok (.if_icmp .ge 27, 3) := by decide +kernel
theorem dX10_reach_207 : decode cX10_reach 207 = .ok (.iload_n 3, 1) := by decide +kernel
theorem dX10_reach_208 : decode cX10_reach 208 = .ok (.aload_n 0, 1) := by decide +kernel
theorem dX10_reach_209 : decode cX10_reach 209 = .ok (.getfield 82, 3) := by decide +kernel
theorem dX10_reach_212 : decode cX10_reach 212 = .ok (.iload 4, 2) := by decide +kernel
theorem dX10_reach_214 : decode cX10_reach 214 = .ok (.baload, 1) := by decide +kernel
theorem dX10_reach_215 : decode cX10_reach 215 = .ok (.ifCond .eq 7, 3) := by decide +kernel
theorem dX10_reach_218 : decode cX10_reach 218 = .ok (.iconst 1, 1) := by decide +kernel
theorem dX10_reach_219 : decode cX10_reach 219 = .ok (.goto 4, 3) := by decide +kernel
theorem dX10_reach_222 : decode cX10_reach 222 = .ok (.iconst 0, 1) := by decide +kernel
theorem dX10_reach_223 : decode cX10_reach 223 = .ok (.iadd, 1) := by decide +kernel
theorem dX10_reach_224 : decode cX10_reach 224 = .ok (.istore_n 3, 1) := by decide +kernel
theorem dX10_reach_225 : decode cX10_reach 225 = .ok (.iinc 4 1, 3) := by decide +kernel
theorem dX10_reach_228 : decode cX10_reach 228 = .ok (.goto (-29), 3) := by decide +kernel
theorem dX10_reach_231 : decode cX10_reach 231 = .ok (.iload_n 3, 1) := by decide +kernel
theorem dX10_reach_232 : decode cX10_reach 232 = .ok (.ireturn, 1) := by decide +kernel
set_option maxRecDepth 20000 in
theorem ggX10_reached_X10_isAddress : GoodIn wsX10_reached wsX10_isAddress := goodIn_r _ [5, 6, 7, 8, 4, 9] rfl (by decide +kernel)
set_option maxRecDepth 20000 in
theorem gX10_reached_X10_isAddress : GoodIn wsX10_reached (va_wsS RX10 108 yX10_isAddress wsX10_isAddress) := goodIn_app (goodIn_of _ (by decide +kernel)) ggX10_reached_X10_isAddress
