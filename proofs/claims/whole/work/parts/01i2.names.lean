theorem dX10_image_120 : decode cX10_image 120 = .ok (.goto (-22), 3) := by decide +kernel
theorem dX10_image_123 : decode cX10_image 123 = .ok (.aload_n 0, 1) := by decide +kernel
theorem dX10_image_124 : decode cX10_image 124 = .ok (.aload_n 0, 1) := by decide +kernel
theorem dX10_image_125 : decode cX10_image 125 = .ok (.getfield 159, 3) := by decide +kernel
theorem dX10_image_128 : decode cX10_image 128 = .ok (.putfield 259, 3) := by decide +kernel
theorem dX10_image_131 : decode cX10_image 131 = .ok (.iconst 0, 1) := by decide +kernel
theorem dX10_image_132 : decode cX10_image 132 = .ok (.istore_n 1, 1) := by decide +kernel
theorem dX10_image_133 : decode cX10_image 133 = .ok (.iload_n 1, 1) := by decide +kernel
theorem dX10_image_134 : decode cX10_image 134 = .ok (.sipush 400, 3) := by decide +kernel
theorem dX10_image_137 : decode cX10_image 137 = .ok (.if_icmp .ge 21, 3) := by decide +kernel
theorem dX10_image_140 : decode cX10_image 140 = .ok (.aload_n 0, 1) := by decide +kernel
theorem dX10_image_141 : decode cX10_image 141 = .ok (.getfield 94, 3) := by decide +kernel
theorem dX10_image_144 : decode cX10_image 144 = .ok (.iload_n 1, 1) := by decide +kernel
theorem dX10_image_145 : decode cX10_image 145 = .ok (.aload_n 0, 1) := by decide +kernel
theorem dX10_image_146 : decode cX10_image 146 = .ok (.getfield 19, 3) := by decide +kernel
theorem dX10_image_149 : decode cX10_image 149 = .ok (.iload_n 1, 1) := by decide +kernel
theorem dX10_image_150 : decode cX10_image 150 = .ok (.iaload, 1) := by decide +kernel
theorem dX10_image_151 : decode cX10_image 151 = .ok (.iastore, 1) := by decide +kernel
theorem dX10_image_152 : decode cX10_image 152 = .ok (.iinc 1 1, 3) := by decide +kernel
theorem dX10_image_155 : decode cX10_image 155 = .ok (.goto (-22), 3) := by decide +kernel
theorem dX10_image_158 : decode cX10_image 158 = .ok (.aload_n 0, 1) := by decide +kernel
theorem dX10_image_159 : decode cX10_image 159 = .ok (.aload_n 0, 1) := by decide +kernel
theorem dX10_image_160 : decode cX10_image 160 = .ok (.getfield 184, 3) := by decide +kernel
theorem dX10_image_163 : decode cX10_image 163 = .ok (.putfield 262, 3) := by decide +kernel
theorem dX10_image_166 : decode cX10_image 166 = .ok (.aload_n 0, 1) := by decide +kernel
theorem dX10_image_167 : decode cX10_image 167 = .ok (.aload_n 0, 1) := by decide +kernel
theorem dX10_image_168 : decode cX10_image 168 = .ok (.getfield 22, 3) := by decide +kernel
theorem dX10_image_171 : decode cX10_image 171 = .ok (.putfield 265, 3) := by decide +kernel
theorem dX10_image_174 : decode cX10_image 174 = .ok (.iconst 0, 1) := by decide +kernel
theorem dX10_image_175 : decode cX10_image 175 = .ok (.istore_n 1, 1) := by decide +kernel
theorem dX10_image_176 : decode cX10_image 176 = .ok (.iload_n 1, 1) := by decide +kernel
theorem dX10_image_177 : decode cX10_image 177 = .ok (.bipush 32, 2) := by decide +kernel
theorem dX10_image_179 : decode cX10_image 179 = .ok (.if_icmp .ge 21, 3) := by decide +kernel
theorem dX10_image_182 : decode cX10_image 182 = .ok (.aload_n 0, 1) := by decide +kernel
theorem dX10_image_183 : decode cX10_image 183 = .ok (.getfield 97, 3) := by decide +kernel
theorem dX10_image_186 : decode cX10_image 186 = .ok (.iload_n 1, 1) := by decide +kernel
theorem dX10_image_187 : decode cX10_image 187 = .ok (.aload_n 0, 1) := by decide +kernel
theorem dX10_image_188 : decode cX10_image 188 = .ok (.getfield 26, 3) := by decide +kernel
theorem dX10_image_191 : decode cX10_image 191 = .ok (.iload_n 1, 1) := by decide +kernel
theorem dX10_image_192 : decode cX10_image 192 = .ok (.iaload, 1) := by decide +kernel
theorem dX10_image_193 : decode cX10_image 193 = .ok (.iastore, 1) := by decide +kernel
theorem dX10_image_194 : decode cX10_image 194 = .ok (.iinc 1 1, 3) := by decide +kernel
theorem dX10_image_197 : decode cX10_image 197 = .ok (.goto (-21), 3) := by decide +kernel
theorem dX10_image_200 : decode cX10_image 200 = .ok (.iconst 1, 1) := by decide +kernel
theorem dX10_image_201 : decode cX10_image 201 = .ok (.ireturn, 1) := by decide +kernel
theorem dX10_recall_0 : decode cX10_recall 0 = .ok (.aload_n 0, 1) := by decide +kernel
theorem dX10_recall_1 : decode cX10_recall 1 = .ok (.getfield 238, 3) := by decide +kernel
theorem dX10_recall_4 : decode cX10_recall 4 = .ok (.ifCond .ne 6, 3) := by decide +kernel
theorem dX10_recall_7 : decode cX10_recall 7 = .ok (.bipush (-4), 2) := by decide +kernel
theorem dX10_recall_9 : decode cX10_recall 9 = .ok (.ireturn, 1) := by decide +kernel
theorem dX10_recall_10 : decode cX10_recall 10 = .ok (.iconst 0, 1) := by decide +kernel
theorem dX10_recall_11 : decode cX10_recall 11 = .ok (.istore_n 1, 1) := by decide +kernel
theorem dX10_recall_12 : decode cX10_recall 12 = .ok (.iload_n 1, 1) := by decide +kernel
theorem dX10_recall_13 : decode cX10_recall 13 = .ok (.sipush 256, 3) := by decide +kernel
theorem dX10_recall_16 : decode cX10_recall 16 = .ok (.if_icmp .ge 37, 3) := by decide +kernel
theorem dX10_recall_19 : decode cX10_recall 19 = .ok (.aload_n 0, 1) := by decide +kernel
theorem dX10_recall_20 : decode cX10_recall 20 = .ok (.getfield 7, 3) := by decide +kernel
theorem dX10_recall_23 : decode cX10_recall 23 = .ok (.iload_n 1, 1) := by decide +kernel
theorem dX10_recall_24 : decode cX10_recall 24 = .ok (.aload_n 0, 1) := by decide +kernel
theorem dX10_recall_25 : decode cX10_recall 25 = .ok (.getfield 85, 3) := by decide +kernel
theorem dX10_recall_28 : decode cX10_recall 28 = .ok (.iload_n 1, 1) := by decide +kernel
theorem dX10_recall_29 : decode cX10_recall 29 = .ok (.iaload, 1) := by decide +kernel
theorem dX10_recall_30 : decode cX10_recall 30 = .ok (.iastore, 1) := by decide +kernel
theorem dX10_recall_31 : decode cX10_recall 31 = .ok (.aload_n 0, 1) := by decide +kernel
theorem dX10_recall_32 : decode cX10_recall 32 = .ok (.getfield 13, 3) := by decide +kernel
theorem dX10_recall_35 : decode cX10_recall 35 = .ok (.iload_n 1, 1) := by decide +kernel
theorem dX10_recall_36 : decode cX10_recall 36 = .ok (.iconst 2, 1) := by decide +kernel
theorem dX10_recall_37 : decode cX10_recall 37 = .ok (.idiv, 1) := by decide +kernel
theorem dX10_recall_38 : decode cX10_recall 38 = .ok (.aload_n 0, 1) := by decide +kernel
theorem dX10_recall_39 : decode cX10_recall 39 = .ok (.getfield 88, 3) := by decide +kernel
theorem dX10_recall_42 : decode cX10_recall 42 = .ok (.iload_n 1, 1) := by decide +kernel
theorem dX10_recall_43 : decode cX10_recall 43 = .ok (.iconst 2, 1) := by decide +kernel
theorem dX10_recall_44 : decode cX10_recall 44 = .ok (.idiv, 1) := by decide +kernel
theorem dX10_recall_45 : decode cX10_recall 45 = .ok (.iaload, 1) := by decide +kernel
theorem dX10_recall_46 : decode cX10_recall 46 = .ok (.iastore, 1) := by decide +kernel
theorem dX10_recall_47 : decode cX10_recall 47 = .ok (.iinc 1 1, 3) := by decide +kernel
theorem dX10_recall_50 : decode cX10_recall 50 = .ok (.goto (-38), 3) := by decide +kernel
theorem dX10_recall_53 : decode cX10_recall 53 = .ok (.aload_n 0, 1) := by decide +kernel
theorem dX10_recall_54 : decode cX10_recall 54 = .ok (.aload_n 0, 1) := by decide +kernel
theorem dX10_recall_55 : decode cX10_recall 55 = .ok (.getfield 241, 3) := by decide +kernel
theorem dX10_recall_58 : decode cX10_recall 58 = .ok (.putfield 135, 3) := by decide +kernel
theorem dX10_recall_61 : decode cX10_recall 61 = .ok (.aload_n 0, 1) := by decide +kernel
theorem dX10_recall_62 : decode cX10_recall 62 = .ok (.aload_n 0, 1) := by decide +kernel
theorem dX10_recall_63 : decode cX10_recall 63 = .ok (.getfield 244, 3) := by decide +kernel
theorem dX10_recall_66 : decode cX10_recall 66 = .ok (.putfield 139, 3) := by decide +kernel
theorem dX10_recall_69 : decode cX10_recall 69 = .ok (.aload_n 0, 1) := by decide +kernel
theorem dX10_recall_70 : decode cX10_recall 70 = .ok (.aload_n 0, 1) := by decide +kernel
theorem dX10_recall_71 : decode cX10_recall 71 = .ok (.getfield 247, 3) := by decide +kernel
theorem dX10_recall_74 : decode cX10_recall 74 = .ok (.putfield 148, 3) := by decide +kernel
theorem dX10_recall_77 : decode cX10_recall 77 = .ok (.aload_n 0, 1) := by decide +kernel
theorem dX10_recall_78 : decode cX10_recall 78 = .ok (.aload_n 0, 1) := by decide +kernel
theorem dX10_recall_79 : decode cX10_recall 79 = .ok (.getfield 250, 3) := by decide +kernel
theorem dX10_recall_82 : decode cX10_recall 82 = .ok (.putfield 163, 3) := by decide +kernel
theorem dX10_recall_85 : decode cX10_recall 85 = .ok (.aload_n 0, 1) := by decide +kernel
theorem dX10_recall_86 : decode cX10_recall 86 = .ok (.aload_n 0, 1) := by decide +kernel
theorem dX10_recall_87 : decode cX10_recall 87 = .ok (.getfield 253, 3) := by decide +kernel
theorem dX10_recall_90 : decode cX10_recall 90 = .ok (.putfield 153, 3) := by decide +kernel
theorem dX10_recall_93 : decode cX10_recall 93 = .ok (.aload_n 0, 1) := by decide +kernel
theorem dX10_recall_94 : decode cX10_recall 94 = .ok (.aload_n 0, 1) := by decide +kernel
theorem dX10_recall_95 : decode cX10_recall 95 = .ok (.getfield 256, 3) := by decide +kernel
theorem dX10_recall_98 : decode cX10_recall 98 = .ok (.putfield 156, 3) := by decide +kernel
theorem dX10_recall_101 : decode cX10_recall 101 = .ok (.iconst 0, 1) := by decide +kernel
theorem dX10_recall_102 : decode cX10_recall 102 = .ok (.istore_n 1, 1) := by decide +kernel
theorem dX10_recall_103 : decode cX10_recall 103 = .ok (.iload_n 1, 1) := by decide +kernel
theorem dX10_recall_104 : decode cX10_recall 104 = .ok (.sipush 1000, 3) := by decide +kernel
theorem dX10_recall_107 : decode cX10_recall 107 = .ok (.if_icmp .ge 21, 3) := by decide +kernel
theorem dX10_recall_110 : decode cX10_recall 110 = .ok (.aload_n 0, 1) := by decide +kernel
theorem dX10_recall_111 : decode cX10_recall 111 = .ok (.getfield 16, 3) := by decide +kernel
theorem dX10_recall_114 : decode cX10_recall 114 = .ok (.iload_n 1, 1) := by decide +kernel
theorem dX10_recall_115 : decode cX10_recall 115 = .ok (.aload_n 0, 1) := by decide +kernel
theorem dX10_recall_116 : decode cX10_recall 116 = .ok (.getfield 91, 3) := by decide +kernel
theorem dX10_recall_119 : decode cX10_recall 119 = .ok (.iload_n 1, 1) := by decide +kernel
theorem dX10_recall_120 : decode cX10_recall 120 = .ok (.iaload, 1) := by decide +kernel
theorem dX10_recall_121 : decode cX10_recall 121 = .ok (.iastore, 1) := by decide +kernel
theorem dX10_recall_122 : decode cX10_recall 122 = .ok (.iinc 1 1, 3) := by decide +kernel
theorem dX10_recall_125 : decode cX10_recall 125 = .ok (.goto (-22), 3) := by decide +kernel
theorem dX10_recall_128 : decode cX10_recall 128 = .ok (.aload_n 0, 1) := by decide +kernel
theorem dX10_recall_129 : decode cX10_recall 129 = .ok (.aload_n 0, 1) := by decide +kernel
theorem dX10_recall_130 : decode cX10_recall 130 = .ok (.getfield 259, 3) := by decide +kernel
theorem dX10_recall_133 : decode cX10_recall 133 = .ok (.putfield 159, 3) := by decide +kernel
theorem dX10_recall_136 : decode cX10_recall 136 = .ok (.iconst 0, 1) := by decide +kernel
theorem dX10_recall_137 : decode cX10_recall 137 = .ok (.istore_n 1, 1) := by decide +kernel
theorem dX10_recall_138 : decode cX10_recall 138 = .ok (.iload_n 1, 1) := by decide +kernel
theorem dX10_recall_139 : decode cX10_recall 139 = .ok (.sipush 400, 3) := by decide +kernel
theorem dX10_recall_142 : decode cX10_recall 142 = .ok (.if_icmp .ge 21, 3) := by decide +kernel
theorem dX10_recall_145 : decode cX10_recall 145 = .ok (.aload_n 0, 1) := by decide +kernel
theorem dX10_recall_146 : decode cX10_recall 146 = .ok (.getfield 19, 3) := by decide +kernel
theorem dX10_recall_149 : decode cX10_recall 149 = .ok (.iload_n 1, 1) := by decide +kernel
theorem dX10_recall_150 : decode cX10_recall 150 = .ok (.aload_n 0, 1) := by decide +kernel
theorem dX10_recall_151 : decode cX10_recall 151 = .ok (.getfield 94, 3) := by decide +kernel
theorem dX10_recall_154 : decode cX10_recall 154 = .ok (.iload_n 1, 1) := by decide +kernel
theorem dX10_recall_155 : decode cX10_recall 155 = .ok (.iaload, 1) := by decide +kernel
theorem dX10_recall_156 : decode cX10_recall 156 = .ok (.iastore, 1) := by decide +kernel
theorem dX10_recall_157 : decode cX10_recall 157 = .ok (.iinc 1 1, 3) := by decide +kernel
theorem dX10_recall_160 : decode cX10_recall 160 = .ok (.goto (-22), 3) := by decide +kernel
theorem dX10_recall_163 : decode cX10_recall 163 = .ok (.aload_n 0, 1) := by decide +kernel
theorem dX10_recall_164 : decode cX10_recall 164 = .ok (.aload_n 0, 1) := by decide +kernel
theorem dX10_recall_165 : decode cX10_recall 165 = .ok (.getfield 262, 3) := by decide +kernel
theorem dX10_recall_168 : decode cX10_recall 168 = .ok (.putfield 184, 3) := by decide +kernel
theorem dX10_recall_171 : decode cX10_recall 171 = .ok (.aload_n 0, 1) := by decide +kernel
theorem dX10_recall_172 : decode cX10_recall 172 = .ok (.aload_n 0, 1) := by decide +kernel
theorem dX10_recall_173 : decode cX10_recall 173 = .ok (.getfield 265, 3) := by decide +kernel
theorem dX10_recall_176 : decode cX10_recall 176 = .ok (.putfield 22, 3) := by decide +kernel
theorem dX10_recall_179 : decode cX10_recall 179 = .ok (.iconst 0, 1) := by decide +kernel
theorem dX10_recall_180 : decode cX10_recall 180 = .ok (.istore_n 1, 1) := by decide +kernel
theorem dX10_recall_181 : decode cX10_recall 181 = .ok (.iload_n 1, 1) := by decide +kernel
theorem dX10_recall_182 : decode cX10_recall 182 = .ok (.bipush 32, 2) := by decide +kernel
theorem dX10_recall_184 : decode cX10_recall 184 = .ok (.if_icmp .ge 21, 3) := by decide +kernel
theorem dX10_recall_187 : decode cX10_recall 187 = .ok (.aload_n 0, 1) := by decide +kernel
theorem dX10_recall_188 : decode cX10_recall 188 = .ok (.getfield 26, 3) := by decide +kernel
theorem dX10_recall_191 : decode cX10_recall 191 = .ok (.iload_n 1, 1) := by decide +kernel
theorem dX10_recall_192 : decode cX10_recall 192 = .ok (.aload_n 0, 1) := by decide +kernel
theorem dX10_recall_193 : decode cX10_recall 193 = .ok (.getfield 97, 3) := by decide +kernel
theorem dX10_recall_196 : decode cX10_recall 196 = .ok (.iload_n 1, 1) := by decide +kernel
theorem dX10_recall_197 : decode cX10_recall 197 = .ok (.iaload, 1) := by decide +kernel
theorem dX10_recall_198 : decode cX10_recall 198 = .ok (.iastore, 1) := by decide +kernel
theorem dX10_recall_199 : decode cX10_recall 199 = .ok (.iinc 1 1, 3) := by decide +kernel
theorem dX10_recall_202 : decode cX10_recall 202 = .ok (.goto (-21), 3) := by decide +kernel
theorem dX10_recall_205 : decode cX10_recall 205 = .ok (.aload_n 0, 1) := by decide +kernel
theorem dX10_recall_206 : decode cX10_recall 206 = .ok (.iconst 0, 1) := by decide +kernel
theorem dX10_recall_207 : decode cX10_recall 207 = .ok (.putfield 112, 3) := by decide +kernel
theorem dX10_recall_210 : decode cX10_recall 210 = .ok (.iconst 1, 1) := by decide +kernel
theorem dX10_recall_211 : decode cX10_recall 211 = .ok (.ireturn, 1) := by decide +kernel
theorem dX10_count_0 : decode cX10_count 0 = .ok (.iload_n 1, 1) := by decide +kernel
theorem dX10_count_1 : decode cX10_count 1 = .ok (.tableswitch 104 0 8 #[51, 56, 61, 66, 71, 84, 89, 94, 99], 51) := by decide +kernel
theorem dX10_count_52 : decode cX10_count 52 = .ok (.aload_n 0, 1) := by decide +kernel
theorem dX10_count_53 : decode cX10_count 53 = .ok (.getfield 163, 3) := by decide +kernel
theorem dX10_count_56 : decode cX10_count 56 = .ok (.ireturn, 1) := by decide +kernel
theorem dX10_count_57 : decode cX10_count 57 = .ok (.aload_n 0, 1) := by decide +kernel
theorem dX10_count_58 : decode cX10_count 58 = .ok (.getfield 153, 3) := by decide +kernel
