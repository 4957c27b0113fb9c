theorem dX10_mark_22 : decode cX10_mark 22 = .ok (.ifCond .ne 15, 3) := by decide +kernel
theorem dX10_mark_25 : decode cX10_mark 25 = .ok (.aload_n 0, 1) := by decide +kernel
theorem dX10_mark_26 : decode cX10_mark 26 = .ok (.getfield 232, 3) := by decide +kernel
theorem dX10_mark_29 : decode cX10_mark 29 = .ok (.bipush 8, 2) := by decide +kernel
theorem dX10_mark_31 : decode cX10_mark 31 = .ok (.if_icmp .ne 6, 3) := by decide +kernel
theorem dX10_mark_34 : decode cX10_mark 34 = .ok (.bipush (-5), 2) := by decide +kernel
theorem dX10_mark_36 : decode cX10_mark 36 = .ok (.ireturn, 1) := by decide +kernel
theorem dX10_mark_37 : decode cX10_mark 37 = .ok (.aload_n 0, 1) := by decide +kernel
theorem dX10_mark_38 : decode cX10_mark 38 = .ok (.dup, 1) := by decide +kernel
theorem dX10_mark_39 : decode cX10_mark 39 = .ok (.getfield 232, 3) := by decide +kernel
theorem dX10_mark_42 : decode cX10_mark 42 = .ok (.iload_n 2, 1) := by decide +kernel
theorem dX10_mark_43 : decode cX10_mark 43 = .ok (.iload_n 3, 1) := by decide +kernel
theorem dX10_mark_44 : decode cX10_mark 44 = .ok (.if_icmp .ne 7, 3) := by decide +kernel
theorem dX10_mark_47 : decode cX10_mark 47 = .ok (.iconst 0, 1) := by decide +kernel
theorem dX10_mark_48 : decode cX10_mark 48 = .ok (.goto 12, 3) := by decide +kernel
theorem dX10_mark_51 : decode cX10_mark 51 = .ok (.iload_n 2, 1) := by decide +kernel
theorem dX10_mark_52 : decode cX10_mark 52 = .ok (.ifCond .eq 7, 3) := by decide +kernel
theorem dX10_mark_55 : decode cX10_mark 55 = .ok (.iconst 1, 1) := by decide +kernel
theorem dX10_mark_56 : decode cX10_mark 56 = .ok (.goto 4, 3) := by decide +kernel
theorem dX10_mark_59 : decode cX10_mark 59 = .ok (.iconst (-1), 1) := by decide +kernel
theorem dX10_mark_60 : decode cX10_mark 60 = .ok (.iadd, 1) := by decide +kernel
theorem dX10_mark_61 : decode cX10_mark 61 = .ok (.putfield 232, 3) := by decide +kernel
theorem dX10_mark_64 : decode cX10_mark 64 = .ok (.aload_n 0, 1) := by decide +kernel
theorem dX10_mark_65 : decode cX10_mark 65 = .ok (.getfield 29, 3) := by decide +kernel
theorem dX10_mark_68 : decode cX10_mark 68 = .ok (.iload_n 1, 1) := by decide +kernel
theorem dX10_mark_69 : decode cX10_mark 69 = .ok (.iload_n 2, 1) := by decide +kernel
theorem dX10_mark_70 : decode cX10_mark 70 = .ok (.bastore, 1) := by decide +kernel
theorem dX10_mark_71 : decode cX10_mark 71 = .ok (.iload_n 3, 1) := by decide +kernel
theorem dX10_mark_72 : decode cX10_mark 72 = .ok (.ifCond .eq 7, 3) := by decide +kernel
theorem dX10_mark_75 : decode cX10_mark 75 = .ok (.iconst 1, 1) := by decide +kernel
theorem dX10_mark_76 : decode cX10_mark 76 = .ok (.goto 4, 3) := by decide +kernel
theorem dX10_mark_79 : decode cX10_mark 79 = .ok (.iconst 0, 1) := by decide +kernel
theorem dX10_mark_80 : decode cX10_mark 80 = .ok (.ireturn, 1) := by decide +kernel
theorem dX10_back_0 : decode cX10_back 0 = .ok (.aload_n 0, 1) := by decide +kernel
theorem dX10_back_1 : decode cX10_back 1 = .ok (.getfield 112, 3) := by decide +kernel
theorem dX10_back_4 : decode cX10_back 4 = .ok (.ifCond .ne 6, 3) := by decide +kernel
theorem dX10_back_7 : decode cX10_back 7 = .ok (.bipush (-4), 2) := by decide +kernel
theorem dX10_back_9 : decode cX10_back 9 = .ok (.ireturn, 1) := by decide +kernel
theorem dX10_back_10 : decode cX10_back 10 = .ok (.aload_n 0, 1) := by decide +kernel
theorem dX10_back_11 : decode cX10_back 11 = .ok (.dup, 1) := by decide +kernel
theorem dX10_back_12 : decode cX10_back 12 = .ok (.getfield 112, 3) := by decide +kernel
theorem dX10_back_15 : decode cX10_back 15 = .ok (.iconst 1, 1) := by decide +kernel
theorem dX10_back_16 : decode cX10_back 16 = .ok (.isub, 1) := by decide +kernel
theorem dX10_back_17 : decode cX10_back 17 = .ok (.putfield 112, 3) := by decide +kernel
theorem dX10_back_20 : decode cX10_back 20 = .ok (.aload_n 0, 1) := by decide +kernel
theorem dX10_back_21 : decode cX10_back 21 = .ok (.aload_n 0, 1) := by decide +kernel
theorem dX10_back_22 : decode cX10_back 22 = .ok (.getfield 199, 3) := by decide +kernel
theorem dX10_back_25 : decode cX10_back 25 = .ok (.bipush 99, 2) := by decide +kernel
theorem dX10_back_27 : decode cX10_back 27 = .ok (.iadd, 1) := by decide +kernel
theorem dX10_back_28 : decode cX10_back 28 = .ok (.bipush 100, 2) := by decide +kernel
theorem dX10_back_30 : decode cX10_back 30 = .ok (.irem, 1) := by decide +kernel
theorem dX10_back_31 : decode cX10_back 31 = .ok (.putfield 199, 3) := by decide +kernel
theorem dX10_back_34 : decode cX10_back 34 = .ok (.aload_n 0, 1) := by decide +kernel
theorem dX10_back_35 : decode cX10_back 35 = .ok (.getfield 199, 3) := by decide +kernel
theorem dX10_back_38 : decode cX10_back 38 = .ok (.istore_n 1, 1) := by decide +kernel
theorem dX10_back_39 : decode cX10_back 39 = .ok (.aload_n 0, 1) := by decide +kernel
theorem dX10_back_40 : decode cX10_back 40 = .ok (.aload_n 0, 1) := by decide +kernel
theorem dX10_back_41 : decode cX10_back 41 = .ok (.getfield 42, 3) := by decide +kernel
theorem dX10_back_44 : decode cX10_back 44 = .ok (.iload_n 1, 1) := by decide +kernel
theorem dX10_back_45 : decode cX10_back 45 = .ok (.laload, 1) := by decide +kernel
theorem dX10_back_46 : decode cX10_back 46 = .ok (.putfield 135, 3) := by decide +kernel
theorem dX10_back_49 : decode cX10_back 49 = .ok (.aload_n 0, 1) := by decide +kernel
theorem dX10_back_50 : decode cX10_back 50 = .ok (.aload_n 0, 1) := by decide +kernel
theorem dX10_back_51 : decode cX10_back 51 = .ok (.getfield 46, 3) := by decide +kernel
theorem dX10_back_54 : decode cX10_back 54 = .ok (.iload_n 1, 1) := by decide +kernel
theorem dX10_back_55 : decode cX10_back 55 = .ok (.laload, 1) := by decide +kernel
theorem dX10_back_56 : decode cX10_back 56 = .ok (.putfield 139, 3) := by decide +kernel
theorem dX10_back_59 : decode cX10_back 59 = .ok (.aload_n 0, 1) := by decide +kernel
theorem dX10_back_60 : decode cX10_back 60 = .ok (.aload_n 0, 1) := by decide +kernel
theorem dX10_back_61 : decode cX10_back 61 = .ok (.getfield 49, 3) := by decide +kernel
theorem dX10_back_64 : decode cX10_back 64 = .ok (.iload_n 1, 1) := by decide +kernel
theorem dX10_back_65 : decode cX10_back 65 = .ok (.laload, 1) := by decide +kernel
theorem dX10_back_66 : decode cX10_back 66 = .ok (.putfield 148, 3) := by decide +kernel
theorem dX10_back_69 : decode cX10_back 69 = .ok (.aload_n 0, 1) := by decide +kernel
theorem dX10_back_70 : decode cX10_back 70 = .ok (.aload_n 0, 1) := by decide +kernel
theorem dX10_back_71 : decode cX10_back 71 = .ok (.getfield 52, 3) := by decide +kernel
theorem dX10_back_74 : decode cX10_back 74 = .ok (.iload_n 1, 1) := by decide +kernel
theorem dX10_back_75 : decode cX10_back 75 = .ok (.iaload, 1) := by decide +kernel
theorem dX10_back_76 : decode cX10_back 76 = .ok (.putfield 163, 3) := by decide +kernel
theorem dX10_back_79 : decode cX10_back 79 = .ok (.aload_n 0, 1) := by decide +kernel
theorem dX10_back_80 : decode cX10_back 80 = .ok (.aload_n 0, 1) := by decide +kernel
theorem dX10_back_81 : decode cX10_back 81 = .ok (.getfield 55, 3) := by decide +kernel
theorem dX10_back_84 : decode cX10_back 84 = .ok (.iload_n 1, 1) := by decide +kernel
theorem dX10_back_85 : decode cX10_back 85 = .ok (.iaload, 1) := by decide +kernel
theorem dX10_back_86 : decode cX10_back 86 = .ok (.putfield 156, 3) := by decide +kernel
theorem dX10_back_89 : decode cX10_back 89 = .ok (.aload_n 0, 1) := by decide +kernel
theorem dX10_back_90 : decode cX10_back 90 = .ok (.aload_n 0, 1) := by decide +kernel
theorem dX10_back_91 : decode cX10_back 91 = .ok (.getfield 58, 3) := by decide +kernel
theorem dX10_back_94 : decode cX10_back 94 = .ok (.iload_n 1, 1) := by decide +kernel
theorem dX10_back_95 : decode cX10_back 95 = .ok (.iaload, 1) := by decide +kernel
theorem dX10_back_96 : decode cX10_back 96 = .ok (.putfield 159, 3) := by decide +kernel
theorem dX10_back_99 : decode cX10_back 99 = .ok (.aload_n 0, 1) := by decide +kernel
theorem dX10_back_100 : decode cX10_back 100 = .ok (.aload_n 0, 1) := by decide +kernel
theorem dX10_back_101 : decode cX10_back 101 = .ok (.getfield 61, 3) := by decide +kernel
theorem dX10_back_104 : decode cX10_back 104 = .ok (.iload_n 1, 1) := by decide +kernel
theorem dX10_back_105 : decode cX10_back 105 = .ok (.baload, 1) := by decide +kernel
theorem dX10_back_106 : decode cX10_back 106 = .ok (.putfield 184, 3) := by decide +kernel
theorem dX10_back_109 : decode cX10_back 109 = .ok (.aload_n 0, 1) := by decide +kernel
theorem dX10_back_110 : decode cX10_back 110 = .ok (.aload_n 0, 1) := by decide +kernel
theorem dX10_back_111 : decode cX10_back 111 = .ok (.getfield 64, 3) := by decide +kernel
theorem dX10_back_114 : decode cX10_back 114 = .ok (.iload_n 1, 1) := by decide +kernel
theorem dX10_back_115 : decode cX10_back 115 = .ok (.iaload, 1) := by decide +kernel
theorem dX10_back_116 : decode cX10_back 116 = .ok (.putfield 22, 3) := by decide +kernel
theorem dX10_back_119 : decode cX10_back 119 = .ok (.aload_n 0, 1) := by decide +kernel
theorem dX10_back_120 : decode cX10_back 120 = .ok (.getfield 26, 3) := by decide +kernel
theorem dX10_back_123 : decode cX10_back 123 = .ok (.aload_n 0, 1) := by decide +kernel
theorem dX10_back_124 : decode cX10_back 124 = .ok (.getfield 67, 3) := by decide +kernel
theorem dX10_back_127 : decode cX10_back 127 = .ok (.iload_n 1, 1) := by decide +kernel
theorem dX10_back_128 : decode cX10_back 128 = .ok (.iaload, 1) := by decide +kernel
theorem dX10_back_129 : decode cX10_back 129 = .ok (.dup2, 1) := by decide +kernel
theorem dX10_back_130 : decode cX10_back 130 = .ok (.iaload, 1) := by decide +kernel
theorem dX10_back_131 : decode cX10_back 131 = .ok (.iconst 1, 1) := by decide +kernel
theorem dX10_back_132 : decode cX10_back 132 = .ok (.isub, 1) := by decide +kernel
theorem dX10_back_133 : decode cX10_back 133 = .ok (.iastore, 1) := by decide +kernel
theorem dX10_back_134 : decode cX10_back 134 = .ok (.aload_n 0, 1) := by decide +kernel
theorem dX10_back_135 : decode cX10_back 135 = .ok (.getfield 7, 3) := by decide +kernel
theorem dX10_back_138 : decode cX10_back 138 = .ok (.aload_n 0, 1) := by decide +kernel
theorem dX10_back_139 : decode cX10_back 139 = .ok (.getfield 70, 3) := by decide +kernel
theorem dX10_back_142 : decode cX10_back 142 = .ok (.iload_n 1, 1) := by decide +kernel
theorem dX10_back_143 : decode cX10_back 143 = .ok (.iaload, 1) := by decide +kernel
theorem dX10_back_144 : decode cX10_back 144 = .ok (.aload_n 0, 1) := by decide +kernel
theorem dX10_back_145 : decode cX10_back 145 = .ok (.getfield 73, 3) := by decide +kernel
theorem dX10_back_148 : decode cX10_back 148 = .ok (.iload_n 1, 1) := by decide +kernel
theorem dX10_back_149 : decode cX10_back 149 = .ok (.iaload, 1) := by decide +kernel
theorem dX10_back_150 : decode cX10_back 150 = .ok (.iastore, 1) := by decide +kernel
theorem dX10_back_151 : decode cX10_back 151 = .ok (.aload_n 0, 1) := by decide +kernel
theorem dX10_back_152 : decode cX10_back 152 = .ok (.getfield 7, 3) := by decide +kernel
theorem dX10_back_155 : decode cX10_back 155 = .ok (.aload_n 0, 1) := by decide +kernel
theorem dX10_back_156 : decode cX10_back 156 = .ok (.getfield 70, 3) := by decide +kernel
theorem dX10_back_159 : decode cX10_back 159 = .ok (.iload_n 1, 1) := by decide +kernel
theorem dX10_back_160 : decode cX10_back 160 = .ok (.iaload, 1) := by decide +kernel
theorem dX10_back_161 : decode cX10_back 161 = .ok (.iconst 1, 1) := by decide +kernel
theorem dX10_back_162 : decode cX10_back 162 = .ok (.iadd, 1) := by decide +kernel
theorem dX10_back_163 : decode cX10_back 163 = .ok (.aload_n 0, 1) := by decide +kernel
theorem dX10_back_164 : decode cX10_back 164 = .ok (.getfield 76, 3) := by decide +kernel
theorem dX10_back_167 : decode cX10_back 167 = .ok (.iload_n 1, 1) := by decide +kernel
theorem dX10_back_168 : decode cX10_back 168 = .ok (.iaload, 1) := by decide +kernel
theorem dX10_back_169 : decode cX10_back 169 = .ok (.iastore, 1) := by decide +kernel
theorem dX10_back_170 : decode cX10_back 170 = .ok (.aload_n 0, 1) := by decide +kernel
theorem dX10_back_171 : decode cX10_back 171 = .ok (.getfield 13, 3) := by decide +kernel
theorem dX10_back_174 : decode cX10_back 174 = .ok (.aload_n 0, 1) := by decide +kernel
theorem dX10_back_175 : decode cX10_back 175 = .ok (.getfield 70, 3) := by decide +kernel
theorem dX10_back_178 : decode cX10_back 178 = .ok (.iload_n 1, 1) := by decide +kernel
theorem dX10_back_179 : decode cX10_back 179 = .ok (.iaload, 1) := by decide +kernel
theorem dX10_back_180 : decode cX10_back 180 = .ok (.iconst 2, 1) := by decide +kernel
theorem dX10_back_181 : decode cX10_back 181 = .ok (.idiv, 1) := by decide +kernel
theorem dX10_back_182 : decode cX10_back 182 = .ok (.aload_n 0, 1) := by decide +kernel
theorem dX10_back_183 : decode cX10_back 183 = .ok (.getfield 79, 3) := by decide +kernel
theorem dX10_back_186 : decode cX10_back 186 = .ok (.iload_n 1, 1) := by decide +kernel
theorem dX10_back_187 : decode cX10_back 187 = .ok (.iaload, 1) := by decide +kernel
theorem dX10_back_188 : decode cX10_back 188 = .ok (.iastore, 1) := by decide +kernel
theorem dX10_back_189 : decode cX10_back 189 = .ok (.aload_n 0, 1) := by decide +kernel
theorem dX10_back_190 : decode cX10_back 190 = .ok (.getfield 112, 3) := by decide +kernel
theorem dX10_back_193 : decode cX10_back 193 = .ok (.ireturn, 1) := by decide +kernel
set_option maxRecDepth 20000 in
theorem ggX10_done_X10_in : GoodIn wsX10_done wsX10_in := goodIn_r _ [6] rfl (by decide +kernel)
set_option maxRecDepth 20000 in
theorem gX10_done_X10_in : GoodIn wsX10_done (va_wsS RX10 102 yX10_in wsX10_in) := goodIn_app (goodIn_of _ (by decide +kernel)) ggX10_done_X10_in
theorem dX10_done_0 : decode cX10_done 0 = .ok (.iload_n 1, 1) := by decide +kernel
theorem dX10_done_1 : decode cX10_done 1 = .ok (.i2l, 1) := by decide +kernel
theorem dX10_done_2 : decode cX10_done 2 = .ok (.lconst 0, 1) := by decide +kernel
theorem dX10_done_3 : decode cX10_done 3 = .ok (.ldc2_w 131, 3) := by decide +kernel
theorem dX10_done_6 : decode cX10_done 6 = .ok (.invokestatic 102, 3) := by decide +kernel
theorem dX10_done_9 : decode cX10_done 9 = .ok (.ifCond .eq 12, 3) := by decide +kernel
theorem dX10_done_12 : decode cX10_done 12 = .ok (.aload_n 0, 1) := by decide +kernel
theorem dX10_done_13 : decode cX10_done 13 = .ok (.getfield 26, 3) := by decide +kernel
theorem dX10_done_16 : decode cX10_done 16 = .ok (.iload_n 1, 1) := by decide +kernel
theorem dX10_done_17 : decode cX10_done 17 = .ok (.iaload, 1) := by decide +kernel
theorem dX10_done_18 : decode cX10_done 18 = .ok (.goto 5, 3) := by decide +kernel
theorem dX10_done_21 : decode cX10_done 21 = .ok (.bipush (-2), 2) := by decide +kernel
