theorem dX10_reached_0 : decode cX10_reached 0 = .ok (.iload_n 1, 1) := by decide +kernel
theorem dX10_reached_1 : decode cX10_reached 1 = .ok (.invokestatic 108, 3) := by decide +kernel
theorem dX10_reached_4 : decode cX10_reached 4 = .ok (.ifCond .ne 8, 3) := by decide +kernel
theorem dX10_reached_7 : decode cX10_reached 7 = .ok (.bipush (-2), 2) := by decide +kernel
theorem dX10_reached_9 : decode cX10_reached 9 = .ok (.goto 17, 3) := by decide +kernel
theorem dX10_reached_12 : decode cX10_reached 12 = .ok (.aload_n 0, 1) := by decide +kernel
theorem dX10_reached_13 : decode cX10_reached 13 = .ok (.getfield 82, 3) := by decide +kernel
theorem dX10_reached_16 : decode cX10_reached 16 = .ok (.iload_n 1, 1) := by decide +kernel
theorem dX10_reached_17 : decode cX10_reached 17 = .ok (.baload, 1) := by decide +kernel
theorem dX10_reached_18 : decode cX10_reached 18 = .ok (.ifCond .eq 7, 3) := by decide +kernel
theorem dX10_reached_21 : decode cX10_reached 21 = .ok (.iconst 1, 1) := by decide +kernel
theorem dX10_reached_22 : decode cX10_reached 22 = .ok (.goto 4, 3) := by decide +kernel
theorem dX10_reached_25 : decode cX10_reached 25 = .ok (.iconst 0, 1) := by decide +kernel
theorem dX10_reached_26 : decode cX10_reached 26 = .ok (.ireturn, 1) := by decide +kernel
theorem dX10_alters_0 : decode cX10_alters 0 = .ok (.iconst 0, 1) := by decide +kernel
theorem dX10_alters_1 : decode cX10_alters 1 = .ok (.istore_n 1, 1) := by decide +kernel
theorem dX10_alters_2 : decode cX10_alters 2 = .ok (.iload_n 1, 1) := by decide +kernel
theorem dX10_alters_3 : decode cX10_alters 3 = .ok (.sipush 256, 3) := by decide +kernel
theorem dX10_alters_6 : decode cX10_alters 6 = .ok (.if_icmp .ge 146, 3) := by decide +kernel
theorem dX10_alters_9 : decode cX10_alters 9 = .ok (.aload_n 0, 1) := by decide +kernel
theorem dX10_alters_10 : decode cX10_alters 10 = .ok (.getfield 235, 3) := by decide +kernel
theorem dX10_alters_13 : decode cX10_alters 13 = .ok (.ifCond .eq 139, 3) := by decide +kernel
theorem dX10_alters_16 : decode cX10_alters 16 = .ok (.aload_n 0, 1) := by decide +kernel
theorem dX10_alters_17 : decode cX10_alters 17 = .ok (.getfield 7, 3) := by decide +kernel
theorem dX10_alters_20 : decode cX10_alters 20 = .ok (.iload_n 1, 1) := by decide +kernel
theorem dX10_alters_21 : decode cX10_alters 21 = .ok (.iaload, 1) := by decide +kernel
theorem dX10_alters_22 : decode cX10_alters 22 = .ok (.bipush 12, 2) := by decide +kernel
theorem dX10_alters_24 : decode cX10_alters 24 = .ok (.ishr, 1) := by decide +kernel
theorem dX10_alters_25 : decode cX10_alters 25 = .ok (.istore_n 2, 1) := by decide +kernel
theorem dX10_alters_26 : decode cX10_alters 26 = .ok (.aload_n 0, 1) := by decide +kernel
theorem dX10_alters_27 : decode cX10_alters 27 = .ok (.getfield 7, 3) := by decide +kernel
theorem dX10_alters_30 : decode cX10_alters 30 = .ok (.iload_n 1, 1) := by decide +kernel
theorem dX10_alters_31 : decode cX10_alters 31 = .ok (.iaload, 1) := by decide +kernel
theorem dX10_alters_32 : decode cX10_alters 32 = .ok (.iconst 1, 1) := by decide +kernel
theorem dX10_alters_33 : decode cX10_alters 33 = .ok (.ishr, 1) := by decide +kernel
theorem dX10_alters_34 : decode cX10_alters 34 = .ok (.sipush 255, 3) := by decide +kernel
theorem dX10_alters_37 : decode cX10_alters 37 = .ok (.iand, 1) := by decide +kernel
theorem dX10_alters_38 : decode cX10_alters 38 = .ok (.istore_n 3, 1) := by decide +kernel
theorem dX10_alters_39 : decode cX10_alters 39 = .ok (.iload_n 2, 1) := by decide +kernel
theorem dX10_alters_40 : decode cX10_alters 40 = .ok (.iconst 5, 1) := by decide +kernel
theorem dX10_alters_41 : decode cX10_alters 41 = .ok (.if_icmp .eq 21, 3) := by decide +kernel
theorem dX10_alters_44 : decode cX10_alters 44 = .ok (.iload_n 2, 1) := by decide +kernel
theorem dX10_alters_45 : decode cX10_alters 45 = .ok (.bipush 7, 2) := by decide +kernel
theorem dX10_alters_47 : decode cX10_alters 47 = .ok (.if_icmp .eq 15, 3) := by decide +kernel
theorem dX10_alters_50 : decode cX10_alters 50 = .ok (.iload_n 2, 1) := by decide +kernel
theorem dX10_alters_51 : decode cX10_alters 51 = .ok (.bipush 8, 2) := by decide +kernel
theorem dX10_alters_53 : decode cX10_alters 53 = .ok (.if_icmp .eq 9, 3) := by decide +kernel
theorem dX10_alters_56 : decode cX10_alters 56 = .ok (.iload_n 2, 1) := by decide +kernel
theorem dX10_alters_57 : decode cX10_alters 57 = .ok (.bipush 17, 2) := by decide +kernel
theorem dX10_alters_59 : decode cX10_alters 59 = .ok (.if_icmp .ne 7, 3) := by decide +kernel
theorem dX10_alters_62 : decode cX10_alters 62 = .ok (.iconst 1, 1) := by decide +kernel
theorem dX10_alters_63 : decode cX10_alters 63 = .ok (.goto 4, 3) := by decide +kernel
theorem dX10_alters_66 : decode cX10_alters 66 = .ok (.iconst 0, 1) := by decide +kernel
theorem dX10_alters_67 : decode cX10_alters 67 = .ok (.istore 4, 2) := by decide +kernel
theorem dX10_alters_69 : decode cX10_alters 69 = .ok (.aload_n 0, 1) := by decide +kernel
theorem dX10_alters_70 : decode cX10_alters 70 = .ok (.getfield 7, 3) := by decide +kernel
theorem dX10_alters_73 : decode cX10_alters 73 = .ok (.iload_n 1, 1) := by decide +kernel
theorem dX10_alters_74 : decode cX10_alters 74 = .ok (.iaload, 1) := by decide +kernel
theorem dX10_alters_75 : decode cX10_alters 75 = .ok (.iconst 1, 1) := by decide +kernel
theorem dX10_alters_76 : decode cX10_alters 76 = .ok (.iand, 1) := by decide +kernel
theorem dX10_alters_77 : decode cX10_alters 77 = .ok (.iconst 1, 1) := by decide +kernel
theorem dX10_alters_78 : decode cX10_alters 78 = .ok (.if_icmp .ne 39, 3) := by decide +kernel
theorem dX10_alters_81 : decode cX10_alters 81 = .ok (.aload_n 0, 1) := by decide +kernel
theorem dX10_alters_82 : decode cX10_alters 82 = .ok (.getfield 82, 3) := by decide +kernel
theorem dX10_alters_85 : decode cX10_alters 85 = .ok (.iload_n 3, 1) := by decide +kernel
theorem dX10_alters_86 : decode cX10_alters 86 = .ok (.sipush 254, 3) := by decide +kernel
theorem dX10_alters_89 : decode cX10_alters 89 = .ok (.iand, 1) := by decide +kernel
theorem dX10_alters_90 : decode cX10_alters 90 = .ok (.baload, 1) := by decide +kernel
theorem dX10_alters_91 : decode cX10_alters 91 = .ok (.ifCond .ne 18, 3) := by decide +kernel
theorem dX10_alters_94 : decode cX10_alters 94 = .ok (.aload_n 0, 1) := by decide +kernel
theorem dX10_alters_95 : decode cX10_alters 95 = .ok (.getfield 82, 3) := by decide +kernel
theorem dX10_alters_98 : decode cX10_alters 98 = .ok (.iload_n 3, 1) := by decide +kernel
theorem dX10_alters_99 : decode cX10_alters 99 = .ok (.sipush 254, 3) := by decide +kernel
theorem dX10_alters_102 : decode cX10_alters 102 = .ok (.iand, 1) := by decide +kernel
theorem dX10_alters_103 : decode cX10_alters 103 = .ok (.iconst 1, 1) := by decide +kernel
theorem dX10_alters_104 : decode cX10_alters 104 = .ok (.iadd, 1) := by decide +kernel
theorem dX10_alters_105 : decode cX10_alters 105 = .ok (.baload, 1) := by decide +kernel
theorem dX10_alters_106 : decode cX10_alters 106 = .ok (.ifCond .eq 7, 3) := by decide +kernel
theorem dX10_alters_109 : decode cX10_alters 109 = .ok (.iconst 1, 1) := by decide +kernel
theorem dX10_alters_110 : decode cX10_alters 110 = .ok (.goto 13, 3) := by decide +kernel
theorem dX10_alters_113 : decode cX10_alters 113 = .ok (.iconst 0, 1) := by decide +kernel
theorem dX10_alters_114 : decode cX10_alters 114 = .ok (.goto 9, 3) := by decide +kernel
theorem dX10_alters_117 : decode cX10_alters 117 = .ok (.aload_n 0, 1) := by decide +kernel
theorem dX10_alters_118 : decode cX10_alters 118 = .ok (.getfield 82, 3) := by decide +kernel
theorem dX10_alters_121 : decode cX10_alters 121 = .ok (.iload_n 3, 1) := by decide +kernel
theorem dX10_alters_122 : decode cX10_alters 122 = .ok (.baload, 1) := by decide +kernel
theorem dX10_alters_123 : decode cX10_alters 123 = .ok (.istore 5, 2) := by decide +kernel
theorem dX10_alters_125 : decode cX10_alters 125 = .ok (.aload_n 0, 1) := by decide +kernel
theorem dX10_alters_126 : decode cX10_alters 126 = .ok (.getfield 82, 3) := by decide +kernel
theorem dX10_alters_129 : decode cX10_alters 129 = .ok (.iload_n 1, 1) := by decide +kernel
theorem dX10_alters_130 : decode cX10_alters 130 = .ok (.baload, 1) := by decide +kernel
theorem dX10_alters_131 : decode cX10_alters 131 = .ok (.ifCond .eq 15, 3) := by decide +kernel
theorem dX10_alters_134 : decode cX10_alters 134 = .ok (.iload 4, 2) := by decide +kernel
theorem dX10_alters_136 : decode cX10_alters 136 = .ok (.ifCond .eq 10, 3) := by decide +kernel
theorem dX10_alters_139 : decode cX10_alters 139 = .ok (.iload 5, 2) := by decide +kernel
theorem dX10_alters_141 : decode cX10_alters 141 = .ok (.ifCond .eq 5, 3) := by decide +kernel
theorem dX10_alters_144 : decode cX10_alters 144 = .ok (.iload_n 1, 1) := by decide +kernel
theorem dX10_alters_145 : decode cX10_alters 145 = .ok (.ireturn, 1) := by decide +kernel
theorem dX10_alters_146 : decode cX10_alters 146 = .ok (.iinc 1 1, 3) := by decide +kernel
theorem dX10_alters_149 : decode cX10_alters 149 = .ok (.goto (-147), 3) := by decide +kernel
theorem dX10_alters_152 : decode cX10_alters 152 = .ok (.iconst (-1), 1) := by decide +kernel
theorem dX10_alters_153 : decode cX10_alters 153 = .ok (.ireturn, 1) := by decide +kernel
theorem dX10_image_0 : decode cX10_image 0 = .ok (.aload_n 0, 1) := by decide +kernel
theorem dX10_image_1 : decode cX10_image 1 = .ok (.iconst 1, 1) := by decide +kernel
theorem dX10_image_2 : decode cX10_image 2 = .ok (.putfield 238, 3) := by decide +kernel
theorem dX10_image_5 : decode cX10_image 5 = .ok (.iconst 0, 1) := by decide +kernel
theorem dX10_image_6 : decode cX10_image 6 = .ok (.istore_n 1, 1) := by decide +kernel
theorem dX10_image_7 : decode cX10_image 7 = .ok (.iload_n 1, 1) := by decide +kernel
theorem dX10_image_8 : decode cX10_image 8 = .ok (.sipush 256, 3) := by decide +kernel
theorem dX10_image_11 : decode cX10_image 11 = .ok (.if_icmp .ge 37, 3) := by decide +kernel
theorem dX10_image_14 : decode cX10_image 14 = .ok (.aload_n 0, 1) := by decide +kernel
theorem dX10_image_15 : decode cX10_image 15 = .ok (.getfield 85, 3) := by decide +kernel
theorem dX10_image_18 : decode cX10_image 18 = .ok (.iload_n 1, 1) := by decide +kernel
theorem dX10_image_19 : decode cX10_image 19 = .ok (.aload_n 0, 1) := by decide +kernel
theorem dX10_image_20 : decode cX10_image 20 = .ok (.getfield 7, 3) := by decide +kernel
theorem dX10_image_23 : decode cX10_image 23 = .ok (.iload_n 1, 1) := by decide +kernel
theorem dX10_image_24 : decode cX10_image 24 = .ok (.iaload, 1) := by decide +kernel
theorem dX10_image_25 : decode cX10_image 25 = .ok (.iastore, 1) := by decide +kernel
theorem dX10_image_26 : decode cX10_image 26 = .ok (.aload_n 0, 1) := by decide +kernel
theorem dX10_image_27 : decode cX10_image 27 = .ok (.getfield 88, 3) := by decide +kernel
theorem dX10_image_30 : decode cX10_image 30 = .ok (.iload_n 1, 1) := by decide +kernel
theorem dX10_image_31 : decode cX10_image 31 = .ok (.iconst 2, 1) := by decide +kernel
theorem dX10_image_32 : decode cX10_image 32 = .ok (.idiv, 1) := by decide +kernel
theorem dX10_image_33 : decode cX10_image 33 = .ok (.aload_n 0, 1) := by decide +kernel
theorem dX10_image_34 : decode cX10_image 34 = .ok (.getfield 13, 3) := by decide +kernel
theorem dX10_image_37 : decode cX10_image 37 = .ok (.iload_n 1, 1) := by decide +kernel
theorem dX10_image_38 : decode cX10_image 38 = .ok (.iconst 2, 1) := by decide +kernel
theorem dX10_image_39 : decode cX10_image 39 = .ok (.idiv, 1) := by decide +kernel
theorem dX10_image_40 : decode cX10_image 40 = .ok (.iaload, 1) := by decide +kernel
theorem dX10_image_41 : decode cX10_image 41 = .ok (.iastore, 1) := by decide +kernel
theorem dX10_image_42 : decode cX10_image 42 = .ok (.iinc 1 1, 3) := by decide +kernel
theorem dX10_image_45 : decode cX10_image 45 = .ok (.goto (-38), 3) := by decide +kernel
theorem dX10_image_48 : decode cX10_image 48 = .ok (.aload_n 0, 1) := by decide +kernel
theorem dX10_image_49 : decode cX10_image 49 = .ok (.aload_n 0, 1) := by decide +kernel
theorem dX10_image_50 : decode cX10_image 50 = .ok (.getfield 135, 3) := by decide +kernel
theorem dX10_image_53 : decode cX10_image 53 = .ok (.putfield 241, 3) := by decide +kernel
theorem dX10_image_56 : decode cX10_image 56 = .ok (.aload_n 0, 1) := by decide +kernel
theorem dX10_image_57 : decode cX10_image 57 = .ok (.aload_n 0, 1) := by decide +kernel
theorem dX10_image_58 : decode cX10_image 58 = .ok (.getfield 139, 3) := by decide +kernel
theorem dX10_image_61 : decode cX10_image 61 = .ok (.putfield 244, 3) := by decide +kernel
theorem dX10_image_64 : decode cX10_image 64 = .ok (.aload_n 0, 1) := by decide +kernel
theorem dX10_image_65 : decode cX10_image 65 = .ok (.aload_n 0, 1) := by decide +kernel
theorem dX10_image_66 : decode cX10_image 66 = .ok (.getfield 148, 3) := by decide +kernel
theorem dX10_image_69 : decode cX10_image 69 = .ok (.putfield 247, 3) := by decide +kernel
theorem dX10_image_72 : decode cX10_image 72 = .ok (.aload_n 0, 1) := by decide +kernel
theorem dX10_image_73 : decode cX10_image 73 = .ok (.aload_n 0, 1) := by decide +kernel
theorem dX10_image_74 : decode cX10_image 74 = .ok (.getfield 163, 3) := by decide +kernel
theorem dX10_image_77 : decode cX10_image 77 = .ok (.putfield 250, 3) := by decide +kernel
theorem dX10_image_80 : decode cX10_image 80 = .ok (.aload_n 0, 1) := by decide +kernel
theorem dX10_image_81 : decode cX10_image 81 = .ok (.aload_n 0, 1) := by decide +kernel
theorem dX10_image_82 : decode cX10_image 82 = .ok (.getfield 153, 3) := by decide +kernel
theorem dX10_image_85 : decode cX10_image 85 = .ok (.putfield 253, 3) := by decide +kernel
theorem dX10_image_88 : decode cX10_image 88 = .ok (.aload_n 0, 1) := by decide +kernel
theorem dX10_image_89 : decode cX10_image 89 = .ok (.aload_n 0, 1) := by decide +kernel
theorem dX10_image_90 : decode cX10_image 90 = .ok (.getfield 156, 3) := by decide +kernel
theorem dX10_image_93 : decode cX10_image 93 = .ok (.putfield 256, 3) := by decide +kernel
theorem dX10_image_96 : decode cX10_image 96 = .ok (.iconst 0, 1) := by decide +kernel
theorem dX10_image_97 : decode cX10_image 97 = .ok (.istore_n 1, 1) := by decide +kernel
theorem dX10_image_98 : decode cX10_image 98 = .ok (.iload_n 1, 1) := by decide +kernel
theorem dX10_image_99 : decode cX10_image 99 = .ok (.sipush 1000, 3) := by decide +kernel
theorem dX10_image_102 : decode cX10_image 102 = .ok (.if_icmp .ge 21, 3) := by decide +kernel
theorem dX10_image_105 : decode cX10_image 105 = .ok (.aload_n 0, 1) := by decide +kernel
theorem dX10_image_106 : decode cX10_image 106 = .ok (.getfield 91, 3) := by decide +kernel
theorem dX10_image_109 : decode cX10_image 109 = .ok (.iload_n 1, 1) := by decide +kernel
theorem dX10_image_110 : decode cX10_image 110 = .ok (.aload_n 0, 1) := by decide +kernel
theorem dX10_image_111 : decode cX10_image 111 = .ok (.getfield 16, 3) := by decide +kernel
theorem dX10_image_114 : decode cX10_image 114 = .ok (.iload_n 1, 1) := by decide +kernel
theorem dX10_image_115 : decode cX10_image 115 = .ok (.iaload, 1) := by decide +kernel
theorem dX10_image_116 : decode cX10_image 116 = .ok (.iastore, 1) := by decide +kernel
theorem dX10_image_117 : decode cX10_image 117 = .ok (.iinc 1 1, 3) := by decide +kernel
theorem dX10_image_120 : decode cX10_image 120 = .ok (.goto (-22), 3) := by decide +kernel
theorem dX10_image_123 : decode cX10_image 123 = .ok (.aload_n 0, 1) := by decide +kernel
theorem dX10_image_124 : decode cX10_image 124 = .ok (.aload_n 0, 1) := by decide +kernel
theorem dX10_image_125 : decode cX10_image 125 = .ok (.getfield 159, 3) := by decide +kernel
theorem dX10_image_128 : decode cX10_image 128 = .ok (.putfield 259, 3) := by decide +kernel
theorem dX10_image_131 : decode cX10_image 131 = .ok (.iconst 0, 1) := by decide +kernel
theorem dX10_image_132 : decode cX10_image 132 = .ok (.istore_n 1, 1) := by decide +kernel
theorem dX10_image_133 : decode cX10_image 133 = .ok (.iload_n 1, 1) := by decide +kernel
theorem dX10_image_134 : decode cX10_image 134 = .ok (.sipush 400, 3) := by decide +kernel
theorem dX10_image_137 : decode cX10_image 137 = .ok (.if_icmp .ge 21, 3) := by decide +kernel
theorem dX10_image_140 : decode cX10_image 140 = .ok (.aload_n 0, 1) := by decide +kernel
theorem dX10_image_141 : decode cX10_image 141 = .ok (.getfield 94, 3) := by decide +kernel
theorem dX10_image_144 : decode cX10_image 144 = .ok (.iload_n 1, 1) := by decide +kernel
theorem dX10_image_145 : decode cX10_image 145 = .ok (.aload_n 0, 1) := by decide +kernel
theorem dX10_image_146 : decode cX10_image 146 = .ok (.getfield 19, 3) := by decide +kernel
theorem dX10_image_149 : decode cX10_image 149 = .ok (.iload_n 1, 1) := by decide +kernel
theorem dX10_image_150 : decode cX10_image 150 = .ok (.iaload, 1) := by decide +kernel
theorem dX10_image_151 : decode cX10_image 151 = .ok (.iastore, 1) := by decide +kernel
theorem dX10_image_152 : decode cX10_image 152 = .ok (.iinc 1 1, 3) := by decide +kernel
theorem dX10_image_155 : decode cX10_image 155 = .ok (.goto (-22), 3) := by decide +kernel
theorem dX10_image_158 : decode cX10_image 158 = .ok (.aload_n 0, 1) := by decide +kernel
theorem dX10_image_159 : decode cX10_image 159 = .ok (.aload_n 0, 1) := by decide +kernel
theorem dX10_image_160 : decode cX10_image 160 = .ok (.getfield 184, 3) := by decide +kernel
theorem dX10_image_163 : decode cX10_image 163 = .ok (.putfield 262, 3) := by decide +kernel
theorem dX10_image_166 : decode cX10_image 166 = .ok (.aload_n 0, 1) := by decide +kernel
theorem dX10_image_167 : decode cX10_image 167 = .ok (.aload_n 0, 1) := by decide +kernel
theorem dX10_image_168 : decode cX10_image 168 = .ok (.getfield 22, 3) := by decide +kernel
theorem dX10_image_171 : decode cX10_image 171 = .ok (.putfield 265, 3) := by decide +kernel
theorem dX10_image_174 : decode cX10_image 174 = .ok (.iconst 0, 1) := by decide +kernel
theorem dX10_image_175 : decode cX10_image 175 = .ok (.istore_n 1, 1) := by decide +kernel
theorem dX10_image_176 : decode cX10_image 176 = .ok (.iload_n 1, 1) := by decide +kernel
theorem dX10_image_177 : decode cX10_image 177 = .ok (.bipush 32, 2) := by decide +kernel
theorem dX10_image_179 : decode cX10_image 179 = .ok (.if_icmp .ge 21, 3) := by decide +kernel
theorem dX10_image_182 : decode cX10_image 182 = .ok (.aload_n 0, 1) := by decide +kernel
theorem dX10_image_183 : decode cX10_image 183 = .ok (.getfield 97, 3) := by decide +kernel
theorem dX10_image_186 : decode cX10_image 186 = .ok (.iload_n 1, 1) := by decide +kernel
theorem dX10_image_187 : decode cX10_image 187 = .ok (.aload_n 0, 1) := by decide +kernel
theorem dX10_image_188 : decode cX10_image 188 = .ok (.getfield 26, 3) := by decide +kernel
theorem dX10_image_191 : decode cX10_image 191 = .ok (.iload_n 1, 1) := by decide +kernel
theorem dX10_image_192 : decode cX10_image 192 = .ok (.iaload, 1) := by decide +kernel
theorem dX10_image_193 : decode cX10_image 193 = .ok (.iastore, 1) := by decide +kernel
theorem dX10_image_194 : decode cX10_image 194 = .ok (.iinc 1 1, 3) := by decide +kernel
theorem dX10_image_197 : decode cX10_image 197 = .ok (.goto (-21), 3) := by decide +kernel
theorem dX10_image_200 : decode cX10_image 200 = .ok (.iconst 1, 1) := by decide +kernel
theorem dX10_image_201 : decode cX10_image 201 = .ok (.ireturn, 1) := by decide +kernel
theorem dX10_recall_0 : decode cX10_recall 0 = .ok (.aload_n 0, 1) := by decide +kernel
theorem dX10_recall_1 : decode cX10_recall 1 = .ok (.getfield 238, 3) := by decide +kernel
theorem dX10_recall_4 : decode cX10_recall 4 = .ok (.ifCond .ne 6, 3) := by decide +kernel
theorem dX10_recall_7 : decode cX10_recall 7 = .ok (.bipush (-4), 2) := by decide +kernel
theorem dX10_recall_9 : decode cX10_recall 9 = .ok (.ireturn, 1) := by decide +kernel
theorem dX10_recall_10 : decode cX10_recall 10 = .ok (.iconst 0, 1) := by decide +kernel
theorem dX10_recall_11 : decode cX10_recall 11 = .ok (.istore_n 1, 1) := by decide +kernel
theorem dX10_recall_12 : decode cX10_recall 12 = .ok (.iload_n 1, 1) := by decide +kernel
theorem dX10_recall_13 : decode cX10_recall 13 = .ok (.sipush 256, 3) := by decide +kernel
theorem dX10_recall_16 : decode cX10_recall 16 = .ok (.if_icmp .ge 37, 3) := by decide +kernel
theorem dX10_recall_19 : decode cX10_recall 19 = .ok (.aload_n 0, 1) := by decide +kernel
theorem dX10_recall_20 : decode cX10_recall 20 = .ok (.getfield 7, 3) := by decide +kernel
theorem dX10_recall_23 : decode cX10_recall 23 = .ok (.iload_n 1, 1) := by decide +kernel
theorem dX10_recall_24 : decode cX10_recall 24 = .ok (.aload_n 0, 1) := by decide +kernel
theorem dX10_recall_25 : decode cX10_recall 25 = .ok (.getfield 85, 3) := by decide +kernel
theorem dX10_recall_28 : decode cX10_recall 28 = .ok (.iload_n 1, 1) := by decide +kernel
theorem dX10_recall_29 : decode cX10_recall 29 = .ok (.iaload, 1) := by decide +kernel
theorem dX10_recall_30 : decode cX10_recall 30 = .ok (.iastore, 1) := by decide +kernel
theorem dX10_recall_31 : decode cX10_recall 31 = .ok (.aload_n 0, 1) := by decide +kernel
theorem dX10_recall_32 : decode cX10_recall 32 = .ok (.getfield 13, 3) := by decide +kernel
theorem dX10_recall_35 : decode cX10_recall 35 = .ok (.iload_n 1, 1) := by decide +kernel
theorem dX10_recall_36 : decode cX10_recall 36 = .ok (.iconst 2, 1) := by decide +kernel
theorem dX10_recall_37 : decode cX10_recall 37 = .ok (.idiv, 1) := by decide +kernel
theorem dX10_recall_38 : decode cX10_recall 38 = .ok (.aload_n 0, 1) := by decide +kernel
theorem dX10_recall_39 : decode cX10_recall 39 = .ok (.getfield 88, 3) := by decide +kernel
theorem dX10_recall_42 : decode cX10_recall 42 = .ok (.iload_n 1, 1) := by decide +kernel
theorem dX10_recall_43 : decode cX10_recall 43 = .ok (.iconst 2, 1) := by decide +kernel
theorem dX10_recall_44 : decode cX10_recall 44 = .ok (.idiv, 1) := by decide +kernel
theorem dX10_recall_45 : decode cX10_recall 45 = .ok (.iaload, 1) := by decide +kernel
theorem dX10_recall_46 : decode cX10_recall 46 = .ok (.iastore, 1) := by decide +kernel
theorem dX10_recall_47 : decode cX10_recall 47 = .ok (.iinc 1 1, 3) := by decide +kernel
theorem dX10_recall_50 : decode cX10_recall 50 = .ok (.goto (-38), 3) := by decide +kernel
theorem dX10_recall_53 : decode cX10_recall 53 = .ok (.aload_n 0, 1) := by decide +kernel
theorem dX10_recall_54 : decode cX10_recall 54 = .ok (.aload_n 0, 1) := by decide +kernel
theorem dX10_recall_55 : decode cX10_recall 55 = .ok (.getfield 241, 3) := by decide +kernel
theorem dX10_recall_58 : decode cX10_recall 58 = .ok (.putfield 135, 3) := by decide +kernel
theorem dX10_recall_61 : decode cX10_recall 61 = .ok (.aload_n 0, 1) := by decide +kernel
theorem dX10_recall_62 : decode cX10_recall 62 = .ok (.aload_n 0, 1) := by decide +kernel
theorem dX10_recall_63 : decode cX10_recall 63 = .ok (.getfield 244, 3) := by decide +kernel
theorem dX10_recall_66 : decode cX10_recall 66 = .ok (.putfield 139, 3) := by decide +kernel
theorem dX10_recall_69 : decode cX10_recall 69 = .ok (.aload_n 0, 1) := by decide +kernel
theorem dX10_recall_70 : decode cX10_recall 70 = .ok (.aload_n 0, 1) := by decide +kernel
theorem dX10_recall_71 : decode cX10_recall 71 = .ok (.getfield 247, 3) := by decide +kernel
theorem dX10_recall_74 : decode cX10_recall 74 = .ok (.putfield 148, 3) := by decide +kernel
theorem dX10_recall_77 : decode cX10_recall 77 = .ok (.aload_n 0, 1) := by decide +kernel
theorem dX10_recall_78 : decode cX10_recall 78 = .ok (.aload_n 0, 1) := by decide +kernel
theorem dX10_recall_79 : decode cX10_recall 79 = .ok (.getfield 250, 3) := by decide +kernel
theorem dX10_recall_82 : decode cX10_recall 82 = .ok (.putfield 163, 3) := by decide +kernel
theorem dX10_recall_85 : decode cX10_recall 85 = .ok (.aload_n 0, 1) := by decide +kernel
theorem dX10_recall_86 : decode cX10_recall 86 = .ok (.aload_n 0, 1) := by decide +kernel
theorem dX10_recall_87 : decode cX10_recall 87 = .ok (.getfield 253, 3) := by decide +kernel
theorem dX10_recall_90 : decode cX10_recall 90 = .ok (.putfield 153, 3) := by decide +kernel
theorem dX10_recall_93 : decode cX10_recall 93 = .ok (.aload_n 0, 1) := by decide +kernel
theorem dX10_recall_94 : decode cX10_recall 94 = .ok (.aload_n 0, 1) := by decide +kernel
theorem dX10_recall_95 : decode cX10_recall 95 = .ok (.getfield 256, 3) := by decide +kernel
theorem dX10_recall_98 : decode cX10_recall 98 = .ok (.putfield 156, 3) := by decide +kernel
theorem dX10_recall_101 : decode cX10_recall 101 = .ok (.iconst 0, 1) := by decide +kernel
theorem dX10_recall_102 : decode cX10_recall 102 = .ok (.istore_n 1, 1) := by decide +kernel
theorem dX10_recall_103 : decode cX10_recall 103 = .ok (.iload_n 1, 1) := by decide +kernel
theorem dX10_recall_104 : decode cX10_recall 104 = .ok (.sipush 1000, 3) := by decide +kernel
theorem dX10_recall_107 : decode cX10_recall 107 = .ok (.if_icmp .ge 21, 3) := by decide +kernel
theorem dX10_recall_110 : decode cX10_recall 110 = .ok (.aload_n 0, 1) := by decide +kernel
theorem dX10_recall_111 : decode cX10_recall 111 = .ok (.getfield 16, 3) := by decide +kernel
theorem dX10_recall_114 : decode cX10_recall 114 = .ok (.iload_n 1, 1) := by decide +kernel
theorem dX10_recall_115 : decode cX10_recall 115 = .ok (.aload_n 0, 1) := by decide +kernel
theorem dX10_recall_116 : decode cX10_recall 116 = .ok (.getfield 91, 3) := by decide +kernel
theorem dX10_recall_119 : decode cX10_recall 119 = .ok (.iload_n 1, 1) := by decide +kernel
theorem dX10_recall_120 : decode cX10_recall 120 = .ok (.iaload, 1) := by decide +kernel
theorem dX10_recall_121 : decode cX10_recall 121 = .ok (.iastore, 1) := by decide +kernel
theorem dX10_recall_122 : decode cX10_recall 122 = .ok (.iinc 1 1, 3) := by decide +kernel
theorem dX10_recall_125 : decode cX10_recall 125 = .ok (.goto (-22), 3) := by decide +kernel
theorem dX10_recall_128 : decode cX10_recall 128 = .ok (.aload_n 0, 1) := by decide +kernel
theorem dX10_recall_129 : decode cX10_recall 129 = .ok (.aload_n 0, 1) := by decide +kernel
theorem dX10_recall_130 : decode cX10_recall 130 = .ok (.getfield 259, 3) := by decide +kernel
theorem dX10_recall_133 : decode cX10_recall 133 = .ok (.putfield 159, 3) := by decide +kernel
theorem dX10_recall_136 : decode cX10_recall 136 = .ok (.iconst 0, 1) := by decide +kernel
theorem dX10_recall_137 : decode cX10_recall 137 = .ok (.istore_n 1, 1) := by decide +kernel
theorem dX10_recall_138 : decode cX10_recall 138 = .ok (.iload_n 1, 1) := by decide +kernel
theorem dX10_recall_139 : decode cX10_recall 139 = .ok (.sipush 400, 3) := by decide +kernel
theorem dX10_recall_142 : decode cX10_recall 142 = .ok (.if_icmp .ge 21, 3) := by decide +kernel
theorem dX10_recall_145 : decode cX10_recall 145 = .ok (.aload_n 0, 1) := by decide +kernel
theorem dX10_recall_146 : decode cX10_recall 146 = .ok (.getfield 19, 3) := by decide +kernel
theorem dX10_recall_149 : decode cX10_recall 149 = .ok (.iload_n 1, 1) := by decide +kernel
theorem dX10_recall_150 : decode cX10_recall 150 = .ok (.aload_n 0, 1) := by decide +kernel
theorem dX10_recall_151 : decode cX10_recall 151 = .ok (.getfield 94, 3) := by decide +kernel
theorem dX10_recall_154 : decode cX10_recall 154 = .ok (.iload_n 1, 1) := by decide +kernel
theorem dX10_recall_155 : decode cX10_recall 155 = .ok (.iaload, 1) := by decide +kernel
theorem dX10_recall_156 : decode cX10_recall 156 = .ok (.iastore, 1) := by decide +kernel
theorem dX10_recall_157 : decode cX10_recall 157 = .ok (.iinc 1 1, 3) := by decide +kernel
theorem dX10_recall_160 : decode cX10_recall 160 = .ok (.goto (-22), 3) := by decide +kernel
theorem dX10_recall_163 : decode cX10_recall 163 = .ok (.aload_n 0, 1) := by decide +kernel
theorem dX10_recall_164 : decode cX10_recall 164 = .ok (.aload_n 0, 1) := by decide +kernel
theorem dX10_recall_165 : decode cX10_recall 165 = .ok (.getfield 262, 3) := by decide +kernel
theorem dX10_recall_168 : decode cX10_recall 168 = .ok (.putfield 184, 3) := by decide +kernel
theorem dX10_recall_171 : decode cX10_recall 171 = .ok (.aload_n 0, 1) := by decide +kernel
theorem dX10_recall_172 : decode cX10_recall 172 = .ok (.aload_n 0, 1) := by decide +kernel
theorem dX10_recall_173 : decode cX10_recall 173 = .ok (.getfield 265, 3) := by decide +kernel
theorem dX10_recall_176 : decode cX10_recall 176 = .ok (.putfield 22, 3) := by decide +kernel
theorem dX10_recall_179 : decode cX10_recall 179 = .ok (.iconst 0, 1) := by decide +kernel
theorem dX10_recall_180 : decode cX10_recall 180 = .ok (.istore_n 1, 1) := by decide +kernel
theorem dX10_recall_181 : decode cX10_recall 181 = .ok (.iload_n 1, 1) := by decide +kernel
theorem dX10_recall_182 : decode cX10_recall 182 = .ok (.bipush 32, 2) := by decide +kernel
theorem dX10_recall_184 : decode cX10_recall 184 = .ok (.if_icmp .ge 21, 3) := by decide +kernel
theorem dX10_recall_187 : decode cX10_recall 187 = .ok (.aload_n 0, 1) := by decide +kernel
theorem dX10_recall_188 : decode cX10_recall 188 = .ok (.getfield 26, 3) := by decide +kernel
theorem dX10_recall_191 : decode cX10_recall 191 = .ok (.iload_n 1, 1) := by decide +kernel
theorem dX10_recall_192 : decode cX10_recall 192 = .ok (.aload_n 0, 1) := by decide +kernel
theorem dX10_recall_193 : decode cX10_recall 193 = .ok (.getfield 97, 3) := by decide +kernel
theorem dX10_recall_196 : decode cX10_recall 196 = .ok (.iload_n 1, 1) := by decide +kernel
theorem dX10_recall_197 : decode cX10_recall 197 = .ok (.iaload, 1) := by decide +kernel
theorem dX10_recall_198 : decode cX10_recall 198 = .ok (.iastore, 1) := by decide +kernel
theorem dX10_recall_199 : decode cX10_recall 199 = .ok (.iinc 1 1, 3) := by decide +kernel
theorem dX10_recall_202 : decode cX10_recall 202 = .ok (.goto (-21), 3) := by decide +kernel
theorem dX10_recall_205 : decode cX10_recall 205 = .ok (.aload_n 0, 1) := by decide +kernel
theorem dX10_recall_206 : decode cX10_recall 206 = .ok (.iconst 0, 1) := by decide +kernel
theorem dX10_recall_207 : decode cX10_recall 207 = .ok (.putfield 112, 3) := by decide +kernel
theorem dX10_recall_210 : decode cX10_recall 210 = .ok (.iconst 1, 1) := by decide +kernel
theorem dX10_recall_211 : decode cX10_recall 211 = .ok (.ireturn, 1) := by decide +kernel
theorem dX10_count_0 : decode cX10_count 0 = .ok (.iload_n 1, 1) := by decide +kernel
theorem dX10_count_1 : decode cX10_count 1 = .ok (.tableswitch 104 0 8 #[51, 56, 61, 66, 71, 84, 89, 94, 99], 51) := by decide +kernel
theorem dX10_count_52 : decode cX10_count 52 = .ok (.aload_n 0, 1) := by decide +kernel
theorem dX10_count_53 : decode cX10_count 53 = .ok (.getfield 163, 3) := by decide +kernel
theorem dX10_count_56 : decode cX10_count 56 = .ok (.ireturn, 1) := by decide +kernel
theorem dX10_count_57 : decode cX10_count 57 = .ok (.aload_n 0, 1) := by decide +kernel
theorem dX10_count_58 : decode cX10_count 58 = .ok (.getfield 153, 3) := by decide +kernel
theorem dX10_count_61 : decode cX10_count 61 = .ok (.ireturn, 1) := by decide +kernel
theorem dX10_count_62 : decode cX10_count 62 = .ok (.aload_n 0, 1) := by decide +kernel
theorem dX10_count_63 : decode cX10_count 63 = .ok (.getfield 156, 3) := by decide +kernel
theorem dX10_count_66 : decode cX10_count 66 = .ok (.ireturn, 1) := by decide +kernel
theorem dX10_count_67 : decode cX10_count 67 = .ok (.aload_n 0, 1) := by decide +kernel
theorem dX10_count_68 : decode cX10_count 68 = .ok (.getfield 159, 3) := by decide +kernel
theorem dX10_count_71 : decode cX10_count 71 = .ok (.ireturn, 1) := by decide +kernel
theorem dX10_count_72 : decode cX10_count 72 = .ok (.aload_n 0, 1) := by decide +kernel
theorem dX10_count_73 : decode cX10_count 73 = .ok (.getfield 184, 3) := by decide +kernel
theorem dX10_count_76 : decode cX10_count 76 = .ok (.ifCond .eq 7, 3) := by decide +kernel
theorem dX10_count_79 : decode cX10_count 79 = .ok (.iconst 1, 1) := by decide +kernel
theorem dX10_count_80 : decode cX10_count 80 = .ok (.goto 4, 3) := by decide +kernel
theorem dX10_count_83 : decode cX10_count 83 = .ok (.iconst 0, 1) := by decide +kernel
theorem dX10_count_84 : decode cX10_count 84 = .ok (.ireturn, 1) := by decide +kernel
theorem dX10_count_85 : decode cX10_count 85 = .ok (.aload_n 0, 1) := by decide +kernel
theorem dX10_count_86 : decode cX10_count 86 = .ok (.getfield 22, 3) := by decide +kernel
theorem dX10_count_89 : decode cX10_count 89 = .ok (.ireturn, 1) := by decide +kernel
theorem dX10_count_90 : decode cX10_count 90 = .ok (.aload_n 0, 1) := by decide +kernel
theorem dX10_count_91 : decode cX10_count 91 = .ok (.getfield 232, 3) := by decide +kernel
theorem dX10_count_94 : decode cX10_count 94 = .ok (.ireturn, 1) := by decide +kernel
theorem dX10_count_95 : decode cX10_count 95 = .ok (.aload_n 0, 1) := by decide +kernel
theorem dX10_count_96 : decode cX10_count 96 = .ok (.getfield 112, 3) := by decide +kernel
theorem dX10_count_99 : decode cX10_count 99 = .ok (.ireturn, 1) := by decide +kernel
theorem dX10_count_100 : decode cX10_count 100 = .ok (.aload_n 0, 1) := by decide +kernel
theorem dX10_count_101 : decode cX10_count 101 = .ok (.getfield 39, 3) := by decide +kernel
theorem dX10_count_104 : decode cX10_count 104 = .ok (.ireturn, 1) := by decide +kernel
theorem dX10_count_105 : decode cX10_count 105 = .ok (.bipush (-3), 2) := by decide +kernel
theorem dX10_count_107 : decode cX10_count 107 = .ok (.ireturn, 1) := by decide +kernel
theorem dJ9_min_7cf53_0 : decode cJ9_min_7cf53 0 = .ok (.iload_n 0, 1) := by decide +kernel
theorem dJ9_min_7cf53_1 : decode cJ9_min_7cf53 1 = .ok (.iload_n 1, 1) := by decide +kernel
theorem dJ9_min_7cf53_2 : decode cJ9_min_7cf53 2 = .ok (.if_icmp .gt 7, 3) := by decide +kernel
theorem dJ9_min_7cf53_5 : decode cJ9_min_7cf53 5 = .ok (.iload_n 0, 1) := by decide +kernel
theorem dJ9_min_7cf53_6 : decode cJ9_min_7cf53 6 = .ok (.goto 4, 3) := by decide +kernel
theorem dJ9_min_7cf53_9 : decode cJ9_min_7cf53 9 = .ok (.iload_n 1, 1) := by decide +kernel
theorem dJ9_min_7cf53_10 : decode cJ9_min_7cf53 10 = .ok (.ireturn, 1) := by decide +kernel
set_option maxRecDepth 20000 in
theorem ggJ0_charAt_5068e_J0_isLatin1_aae02 : GoodIn wsJ0_charAt_5068e wsJ0_isLatin1_aae02 := goodIn_r _ [6, 7, 8] (by decide +kernel) (by decide +kernel)
set_option maxRecDepth 20000 in
theorem gJ0_charAt_5068e_J0_isLatin1_aae02 : GoodIn wsJ0_charAt_5068e (wsV RJ0 492 RJ0 yJ0_isLatin1_aae02 wsJ0_isLatin1_aae02) := goodIn_app (goodIn_of _ (by decide +kernel)) ggJ0_charAt_5068e_J0_isLatin1_aae02
set_option maxRecDepth 20000 in
theorem ggJ0_charAt_5068e_J1_charAt_3b067 : GoodIn wsJ0_charAt_5068e wsJ1_charAt_3b067 := goodIn_r _ [12, 13, 14, 5, 15, 16, 17, 18, 19, 20] (by decide +kernel) (by decide +kernel)
set_option maxRecDepth 20000 in
theorem gJ0_charAt_5068e_J1_charAt_3b067 : GoodIn wsJ0_charAt_5068e (va_wsS RJ0 495 yJ1_charAt_3b067 wsJ1_charAt_3b067) := goodIn_app (goodIn_of _ (by decide +kernel)) ggJ0_charAt_5068e_J1_charAt_3b067
set_option maxRecDepth 20000 in
theorem ggJ0_charAt_5068e_J2_charAt_3b067 : GoodIn wsJ0_charAt_5068e wsJ2_charAt_3b067 := goodIn_r _ [24, 25, 26, 23, 27, 28, 29, 30, 31, 14, 5, 15, 16, 17, 18, 19, 20, 32, 33, 34, 35, 36, 37] (by decide +kernel) (by decide +kernel)
set_option maxRecDepth 20000 in
theorem gJ0_charAt_5068e_J2_charAt_3b067 : GoodIn wsJ0_charAt_5068e (va_wsS RJ0 498 yJ2_charAt_3b067 wsJ2_charAt_3b067) := goodIn_app (goodIn_of _ (by decide +kernel)) ggJ0_charAt_5068e_J2_charAt_3b067
theorem dJ0_charAt_5068e_0 : decode cJ0_charAt_5068e 0 = .ok (.aload_n 0, 1) := by decide +kernel
theorem dJ0_charAt_5068e_1 : decode cJ0_charAt_5068e 1 = .ok (.invokevirtual 492, 3) := by decide +kernel
theorem dJ0_charAt_5068e_4 : decode cJ0_charAt_5068e 4 = .ok (.ifCond .eq 12, 3) := by decide +kernel
theorem dJ0_charAt_5068e_7 : decode cJ0_charAt_5068e 7 = .ok (.aload_n 0, 1) := by decide +kernel
theorem dJ0_charAt_5068e_8 : decode cJ0_charAt_5068e 8 = .ok (.getfield 9, 3) := by decide +kernel
theorem dJ0_charAt_5068e_11 : decode cJ0_charAt_5068e 11 = .ok (.iload_n 1, 1) := by decide +kernel
theorem dJ0_charAt_5068e_12 : decode cJ0_charAt_5068e 12 = .ok (.invokestatic 495, 3) := by decide +kernel
theorem dJ0_charAt_5068e_15 : decode cJ0_charAt_5068e 15 = .ok (.ireturn, 1) := by decide +kernel
theorem dJ0_charAt_5068e_16 : decode cJ0_charAt_5068e 16 = .ok (.aload_n 0, 1) := by decide +kernel
theorem dJ0_charAt_5068e_17 : decode cJ0_charAt_5068e 17 = .ok (.getfield 9, 3) := by decide +kernel
theorem dJ0_charAt_5068e_20 : decode cJ0_charAt_5068e 20 = .ok (.iload_n 1, 1) := by decide +kernel
theorem dJ0_charAt_5068e_21 : decode cJ0_charAt_5068e 21 = .ok (.invokestatic 498, 3) := by decide +kernel
theorem dJ0_charAt_5068e_24 : decode cJ0_charAt_5068e 24 = .ok (.ireturn, 1) := by decide +kernel
theorem dJ0_isLatin1_aae02_0 : decode cJ0_isLatin1_aae02 0 = .ok (.getstatic 38, 3) := by decide +kernel
theorem dJ0_isLatin1_aae02_3 : decode cJ0_isLatin1_aae02 3 = .ok (.ifCond .eq 14, 3) := by decide +kernel
theorem dJ0_isLatin1_aae02_6 : decode cJ0_isLatin1_aae02 6 = .ok (.aload_n 0, 1) := by decide +kernel
theorem dJ0_isLatin1_aae02_7 : decode cJ0_isLatin1_aae02 7 = .ok (.getfield 15, 3) := by decide +kernel
theorem dJ0_isLatin1_aae02_10 : decode cJ0_isLatin1_aae02 10 = .ok (.ifCond .ne 7, 3) := by decide +kernel
theorem dJ0_isLatin1_aae02_13 : decode cJ0_isLatin1_aae02 13 = .ok (.iconst 1, 1) := by decide +kernel
theorem dJ0_isLatin1_aae02_14 : decode cJ0_isLatin1_aae02 14 = .ok (.goto 4, 3) := by decide +kernel
theorem dJ0_isLatin1_aae02_17 : decode cJ0_isLatin1_aae02 17 = .ok (.iconst 0, 1) := by decide +kernel
theorem dJ0_isLatin1_aae02_18 : decode cJ0_isLatin1_aae02 18 = .ok (.ireturn, 1) := by decide +kernel
set_option maxRecDepth 20000 in
theorem ggJ0_checkIndex_df160_J3_checkIndex_8e157 : GoodIn wsJ0_checkIndex_df160 wsJ3_checkIndex_8e157 := goodIn_r _ [5] (by decide +kernel) (by decide +kernel)
set_option maxRecDepth 20000 in
theorem gJ0_checkIndex_df160_J3_checkIndex_8e157 : GoodIn wsJ0_checkIndex_df160 (va_wsS RJ0 1059 yJ3_checkIndex_8e157 wsJ3_checkIndex_8e157) := goodIn_app (goodIn_of _ (by decide +kernel)) ggJ0_checkIndex_df160_J3_checkIndex_8e157
theorem dJ0_checkIndex_df160_0 : decode cJ0_checkIndex_df160 0 = .ok (.iload_n 0, 1) := by decide +kernel
theorem dJ0_checkIndex_df160_1 : decode cJ0_checkIndex_df160 1 = .ok (.iload_n 1, 1) := by decide +kernel
theorem dJ0_checkIndex_df160_2 : decode cJ0_checkIndex_df160 2 = .ok (.getstatic 1053, 3) := by decide +kernel
theorem dJ0_checkIndex_df160_5 : decode cJ0_checkIndex_df160 5 = .ok (.invokestatic 1059, 3) := by decide +kernel
theorem dJ0_checkIndex_df160_8 : decode cJ0_checkIndex_df160 8 = .ok (.pop, 1) := by decide +kernel
theorem dJ0_checkIndex_df160_9 : decode cJ0_checkIndex_df160 9 = .ok (.return_, 1) := by decide +kernel
set_option maxRecDepth 20000 in
theorem ggJ1_charAt_3b067_J0_checkIndex_df160 : GoodIn wsJ1_charAt_3b067 wsJ0_checkIndex_df160 := goodIn_r _ [4, 5, 6, 7, 8, 9] (by decide +kernel) (by decide +kernel)
set_option maxRecDepth 20000 in
theorem gJ1_charAt_3b067_J0_checkIndex_df160 : GoodIn wsJ1_charAt_3b067 (va_wsS RJ1 9 yJ0_checkIndex_df160 wsJ0_checkIndex_df160) := goodIn_app (goodIn_of _ (by decide +kernel)) ggJ1_charAt_3b067_J0_checkIndex_df160
theorem dJ1_charAt_3b067_0 : decode cJ1_charAt_3b067 0 = .ok (.iload_n 1, 1) := by decide +kernel
theorem dJ1_charAt_3b067_1 : decode cJ1_charAt_3b067 1 = .ok (.aload_n 0, 1) := by decide +kernel
theorem dJ1_charAt_3b067_2 : decode cJ1_charAt_3b067 2 = .ok (.arraylength, 1) := by decide +kernel
theorem dJ1_charAt_3b067_3 : decode cJ1_charAt_3b067 3 = .ok (.invokestatic 9, 3) := by decide +kernel
theorem dJ1_charAt_3b067_6 : decode cJ1_charAt_3b067 6 = .ok (.aload_n 0, 1) := by decide +kernel
theorem dJ1_charAt_3b067_7 : decode cJ1_charAt_3b067 7 = .ok (.iload_n 1, 1) := by decide +kernel
theorem dJ1_charAt_3b067_8 : decode cJ1_charAt_3b067 8 = .ok (.baload, 1) := by decide +kernel
theorem dJ1_charAt_3b067_9 : decode cJ1_charAt_3b067 9 = .ok (.sipush 255, 3) := by decide +kernel
theorem dJ1_charAt_3b067_12 : decode cJ1_charAt_3b067 12 = .ok (.iand, 1) := by decide +kernel
theorem dJ1_charAt_3b067_13 : decode cJ1_charAt_3b067 13 = .ok (.i2c, 1) := by decide +kernel
theorem dJ1_charAt_3b067_14 : decode cJ1_charAt_3b067 14 = .ok (.ireturn, 1) := by decide +kernel
set_option maxRecDepth 20000 in
theorem ggJ2_getChar_3b067_J2_length_9d52b : GoodIn wsJ2_getChar_3b067 wsJ2_length_9d52b := goodIn_r _ [7] (by decide +kernel) (by decide +kernel)
set_option maxRecDepth 20000 in
theorem gJ2_getChar_3b067_J2_length_9d52b : GoodIn wsJ2_getChar_3b067 (va_wsS RJ2 48 yJ2_length_9d52b wsJ2_length_9d52b) := goodIn_app (goodIn_of _ (by decide +kernel)) ggJ2_getChar_3b067_J2_length_9d52b
theorem dJ2_getChar_3b067_0 : decode cJ2_getChar_3b067 0 = .ok (.getstatic 44, 3) := by decide +kernel
theorem dJ2_getChar_3b067_3 : decode cJ2_getChar_3b067 3 = .ok (.ifCond .ne 25, 3) := by decide +kernel
theorem dJ2_getChar_3b067_6 : decode cJ2_getChar_3b067 6 = .ok (.iload_n 1, 1) := by decide +kernel
theorem dJ2_getChar_3b067_7 : decode cJ2_getChar_3b067 7 = .ok (.ifCond .lt 11, 3) := by decide +kernel
theorem dJ2_getChar_3b067_10 : decode cJ2_getChar_3b067 10 = .ok (.iload_n 1, 1) := by decide +kernel
theorem dJ2_getChar_3b067_11 : decode cJ2_getChar_3b067 11 = .ok (.aload_n 0, 1) := by decide +kernel
theorem dJ2_getChar_3b067_12 : decode cJ2_getChar_3b067 12 = .ok (.invokestatic 48, 3) := by decide +kernel
theorem dJ2_getChar_3b067_15 : decode cJ2_getChar_3b067 15 = .ok (.if_icmp .lt 13, 3) := by decide +kernel
theorem dJ2_getChar_3b067_18 : decode cJ2_getChar_3b067 18 = .ok (.new 52, 3) := by decide +kernel
theorem dJ2_getChar_3b067_21 : decode cJ2_getChar_3b067 21 = .ok (.dup, 1) := by decide +kernel
theorem dJ2_getChar_3b067_22 : decode cJ2_getChar_3b067 22 = .ok (.ldc 54, 2) := by decide +kernel
theorem dJ2_getChar_3b067_24 : decode cJ2_getChar_3b067 24 = .ok (.invokespecial 56, 3) := by decide +kernel
theorem dJ2_getChar_3b067_27 : decode cJ2_getChar_3b067 27 = .ok (.athrow, 1) := by decide +kernel
theorem dJ2_getChar_3b067_28 : decode cJ2_getChar_3b067 28 = .ok (.iload_n 1, 1) := by decide +kernel
theorem dJ2_getChar_3b067_29 : decode cJ2_getChar_3b067 29 = .ok (.iconst 1, 1) := by decide +kernel
theorem dJ2_getChar_3b067_30 : decode cJ2_getChar_3b067 30 = .ok (.ishl, 1) := by decide +kernel
theorem dJ2_getChar_3b067_31 : decode cJ2_getChar_3b067 31 = .ok (.istore_n 1, 1) := by decide +kernel
theorem dJ2_getChar_3b067_32 : decode cJ2_getChar_3b067 32 = .ok (.aload_n 0, 1) := by decide +kernel
theorem dJ2_getChar_3b067_33 : decode cJ2_getChar_3b067 33 = .ok (.iload_n 1, 1) := by decide +kernel
theorem dJ2_getChar_3b067_34 : decode cJ2_getChar_3b067 34 = .ok (.iinc 1 1, 3) := by decide +kernel
theorem dJ2_getChar_3b067_37 : decode cJ2_getChar_3b067 37 = .ok (.baload, 1) := by decide +kernel
theorem dJ2_getChar_3b067_38 : decode cJ2_getChar_3b067 38 = .ok (.sipush 255, 3) := by decide +kernel
theorem dJ2_getChar_3b067_41 : decode cJ2_getChar_3b067 41 = .ok (.iand, 1) := by decide +kernel
theorem dJ2_getChar_3b067_42 : decode cJ2_getChar_3b067 42 = .ok (.getstatic 59, 3) := by decide +kernel
theorem dJ2_getChar_3b067_45 : decode cJ2_getChar_3b067 45 = .ok (.ishl, 1) := by decide +kernel
theorem dJ2_getChar_3b067_46 : decode cJ2_getChar_3b067 46 = .ok (.aload_n 0, 1) := by decide +kernel
theorem dJ2_getChar_3b067_47 : decode cJ2_getChar_3b067 47 = .ok (.iload_n 1, 1) := by decide +kernel
theorem dJ2_getChar_3b067_48 : decode cJ2_getChar_3b067 48 = .ok (.baload, 1) := by decide +kernel
theorem dJ2_getChar_3b067_49 : decode cJ2_getChar_3b067 49 = .ok (.sipush 255, 3) := by decide +kernel
theorem dJ2_getChar_3b067_52 : decode cJ2_getChar_3b067 52 = .ok (.iand, 1) := by decide +kernel
theorem dJ2_getChar_3b067_53 : decode cJ2_getChar_3b067 53 = .ok (.getstatic 63, 3) := by decide +kernel
theorem dJ2_getChar_3b067_56 : decode cJ2_getChar_3b067 56 = .ok (.ishl, 1) := by decide +kernel
theorem dJ2_getChar_3b067_57 : decode cJ2_getChar_3b067 57 = .ok (.ior, 1) := by decide +kernel
theorem dJ2_getChar_3b067_58 : decode cJ2_getChar_3b067 58 = .ok (.i2c, 1) := by decide +kernel
theorem dJ2_getChar_3b067_59 : decode cJ2_getChar_3b067 59 = .ok (.ireturn, 1) := by decide +kernel
theorem dJ2_length_9d52b_0 : decode cJ2_length_9d52b 0 = .ok (.aload_n 0, 1) := by decide +kernel
theorem dJ2_length_9d52b_1 : decode cJ2_length_9d52b 1 = .ok (.arraylength, 1) := by decide +kernel
theorem dJ2_length_9d52b_2 : decode cJ2_length_9d52b 2 = .ok (.iconst 1, 1) := by decide +kernel
theorem dJ2_length_9d52b_3 : decode cJ2_length_9d52b 3 = .ok (.ishr, 1) := by decide +kernel
theorem dJ2_length_9d52b_4 : decode cJ2_length_9d52b 4 = .ok (.ireturn, 1) := by decide +kernel
set_option maxRecDepth 20000 in
theorem ggJ2_charAt_3b067_J2_checkIndex_2214a : GoodIn wsJ2_charAt_3b067 wsJ2_checkIndex_2214a := goodIn_r _ [4, 5, 6, 3, 7, 8, 9, 10, 11, 12, 13, 14, 15, 16] (by decide +kernel) (by decide +kernel)
set_option maxRecDepth 20000 in
theorem gJ2_charAt_3b067_J2_checkIndex_2214a : GoodIn wsJ2_charAt_3b067 (va_wsS RJ2 67 yJ2_checkIndex_2214a wsJ2_checkIndex_2214a) := goodIn_app (goodIn_of _ (by decide +kernel)) ggJ2_charAt_3b067_J2_checkIndex_2214a
set_option maxRecDepth 20000 in
theorem ggJ2_charAt_3b067_J2_getChar_3b067 : GoodIn wsJ2_charAt_3b067 wsJ2_getChar_3b067 := goodIn_r _ [19, 20, 21, 22, 5, 6, 3, 7] (by decide +kernel) (by decide +kernel)
set_option maxRecDepth 20000 in
theorem gJ2_charAt_3b067_J2_getChar_3b067 : GoodIn wsJ2_charAt_3b067 (va_wsS RJ2 71 yJ2_getChar_3b067 wsJ2_getChar_3b067) := goodIn_app (goodIn_of _ (by decide +kernel)) ggJ2_charAt_3b067_J2_getChar_3b067
theorem dJ2_charAt_3b067_0 : decode cJ2_charAt_3b067 0 = .ok (.iload_n 1, 1) := by decide +kernel
theorem dJ2_charAt_3b067_1 : decode cJ2_charAt_3b067 1 = .ok (.aload_n 0, 1) := by decide +kernel
theorem dJ2_charAt_3b067_2 : decode cJ2_charAt_3b067 2 = .ok (.invokestatic 67, 3) := by decide +kernel
theorem dJ2_charAt_3b067_5 : decode cJ2_charAt_3b067 5 = .ok (.aload_n 0, 1) := by decide +kernel
theorem dJ2_charAt_3b067_6 : decode cJ2_charAt_3b067 6 = .ok (.iload_n 1, 1) := by decide +kernel
theorem dJ2_charAt_3b067_7 : decode cJ2_charAt_3b067 7 = .ok (.invokestatic 71, 3) := by decide +kernel
theorem dJ2_charAt_3b067_10 : decode cJ2_charAt_3b067 10 = .ok (.ireturn, 1) := by decide +kernel
set_option maxRecDepth 20000 in
theorem ggJ2_checkIndex_2214a_J2_length_9d52b : GoodIn wsJ2_checkIndex_2214a wsJ2_length_9d52b := goodIn_r _ [4] (by decide +kernel) (by decide +kernel)
set_option maxRecDepth 20000 in
theorem gJ2_checkIndex_2214a_J2_length_9d52b : GoodIn wsJ2_checkIndex_2214a (va_wsS RJ2 48 yJ2_length_9d52b wsJ2_length_9d52b) := goodIn_app (goodIn_of _ (by decide +kernel)) ggJ2_checkIndex_2214a_J2_length_9d52b
set_option maxRecDepth 20000 in
theorem ggJ2_checkIndex_2214a_J0_checkIndex_df160 : GoodIn wsJ2_checkIndex_2214a wsJ0_checkIndex_df160 := goodIn_r _ [8, 9, 10, 11, 12, 13] (by decide +kernel) (by decide +kernel)
set_option maxRecDepth 20000 in
theorem gJ2_checkIndex_2214a_J0_checkIndex_df160 : GoodIn wsJ2_checkIndex_2214a (va_wsS RJ2 414 yJ0_checkIndex_df160 wsJ0_checkIndex_df160) := goodIn_app (goodIn_of _ (by decide +kernel)) ggJ2_checkIndex_2214a_J0_checkIndex_df160
theorem dJ2_checkIndex_2214a_0 : decode cJ2_checkIndex_2214a 0 = .ok (.iload_n 0, 1) := by decide +kernel
theorem dJ2_checkIndex_2214a_1 : decode cJ2_checkIndex_2214a 1 = .ok (.aload_n 1, 1) := by decide +kernel
theorem dJ2_checkIndex_2214a_2 : decode cJ2_checkIndex_2214a 2 = .ok (.invokestatic 48, 3) := by decide +kernel
theorem dJ2_checkIndex_2214a_5 : decode cJ2_checkIndex_2214a 5 = .ok (.invokestatic 414, 3) := by decide +kernel
theorem dJ2_checkIndex_2214a_8 : decode cJ2_checkIndex_2214a 8 = .ok (.return_, 1) := by decide +kernel
theorem dJ3_checkIndex_8e157_0 : decode cJ3_checkIndex_8e157 0 = .ok (.iload_n 0, 1) := by decide +kernel
theorem dJ3_checkIndex_8e157_1 : decode cJ3_checkIndex_8e157 1 = .ok (.ifCond .lt 8, 3) := by decide +kernel
theorem dJ3_checkIndex_8e157_4 : decode cJ3_checkIndex_8e157 4 = .ok (.iload_n 0, 1) := by decide +kernel
theorem dJ3_checkIndex_8e157_5 : decode cJ3_checkIndex_8e157 5 = .ok (.iload_n 1, 1) := by decide +kernel
theorem dJ3_checkIndex_8e157_6 : decode cJ3_checkIndex_8e157 6 = .ok (.if_icmp .lt 10, 3) := by decide +kernel
theorem dJ3_checkIndex_8e157_9 : decode cJ3_checkIndex_8e157 9 = .ok (.aload_n 2, 1) := by decide +kernel
theorem dJ3_checkIndex_8e157_10 : decode cJ3_checkIndex_8e157 10 = .ok (.iload_n 0, 1) := by decide +kernel
theorem dJ3_checkIndex_8e157_11 : decode cJ3_checkIndex_8e157 11 = .ok (.iload_n 1, 1) := by decide +kernel
theorem dJ3_checkIndex_8e157_12 : decode cJ3_checkIndex_8e157 12 = .ok (.invokestatic 95, 3) := by decide +kernel
theorem dJ3_checkIndex_8e157_15 : decode cJ3_checkIndex_8e157 15 = .ok (.athrow, 1) := by decide +kernel
theorem dJ3_checkIndex_8e157_16 : decode cJ3_checkIndex_8e157 16 = .ok (.iload_n 0, 1) := by decide +kernel
theorem dJ3_checkIndex_8e157_17 : decode cJ3_checkIndex_8e157 17 = .ok (.ireturn, 1) := by decide +kernel
set_option maxRecDepth 20000 in
theorem ggL_law_X9_init : GoodIn wsL_law wsX9_init := goodIn_r _ [9, 10, 11, 12, 13, 14, 15, 16, 17, 18, 19, 20, 21, 22, 23, 24, 25, 26, 27, 28, 29, 30, 31, 32, 33, 34, 35, 36, 37, 38, 39, 40, 41, 42, 43, 44, 45, 46, 47, 48, 49, 50, 51, 52, 53, 54, 55, 56, 57, 58, 59, 60, 61, 62, 63, 64, 65, 66, 67, 68, 69, 70, 71, 72, 73, 74, 75, 76, 77, 78, 79, 80, 81, 82, 83, 84, 85, 86, 87, 88, 89, 90, 91, 92, 93, 94, 95, 96, 97, 98, 99, 100, 101, 102, 103, 104, 105, 106, 107, 108, 109, 110, 111, 112, 113, 114, 115, 116, 810, 811, 812, 813, 814, 815, 816, 751, 752, 753, 754, 755, 756, 757, 758, 817, 818, 819, 820, 821, 822, 823, 824, 825, 826, 827, 828, 829, 830, 831, 832, 833, 834, 835, 836, 837, 838, 839, 840, 841, 842, 843, 844, 845, 846, 847] (by decide +kernel) (by decide +kernel)
set_option maxRecDepth 20000 in
theorem gL_law_X9_init : GoodIn wsL_law (wsX9_init) := ggL_law_X9_init
set_option maxRecDepth 20000 in
theorem ggL_law_X10_init : GoodIn wsL_law wsX10_init := goodIn_r _ [119, 120, 11, 12, 55, 121, 122, 123, 124, 125, 126, 95, 127, 128, 129, 130, 88, 131, 132, 133, 134, 135, 136, 137, 138, 139, 140, 141, 142, 143, 144, 145, 146, 147, 148, 149, 759, 760, 761, 762, 763, 764, 765, 766, 767, 768, 769, 770, 771, 772, 773, 774, 775, 776, 777, 778, 779, 780, 781, 782, 783, 784, 785, 786, 787, 788, 789, 790, 791, 792, 793, 794, 795, 796, 797, 798, 799, 800, 801, 802, 803, 804, 805, 806, 807, 808, 809] (by decide +kernel) (by decide +kernel)
set_option maxRecDepth 20000 in
theorem gL_law_X10_init : GoodIn wsL_law (wsX10_init) := ggL_law_X10_init
set_option maxRecDepth 20000 in
theorem ggL_law_X9_store : GoodIn wsL_law wsX9_store := goodIn_r _ [153, 154, 16, 21, 155, 156, 2, 157, 158, 159, 160, 41, 161, 62, 162, 163, 164, 165, 20, 166, 99, 751, 752, 753, 754, 755, 756, 757, 758, 810, 811, 812, 813, 814, 815, 816, 837, 838, 817, 818, 819, 820, 821, 822, 823, 824, 825, 826, 827, 828] (by decide +kernel) (by decide +kernel)
set_option maxRecDepth 20000 in
theorem gL_law_X9_store : GoodIn wsL_law (wsV RL 13 RX9 yX9_store wsX9_store) := goodIn_app (goodIn_of _ (by decide +kernel)) ggL_law_X9_store
set_option maxRecDepth 20000 in
theorem ggL_law_X10_store : GoodIn wsL_law wsX10_store := goodIn_r _ [170, 171, 121, 172, 173, 174, 5, 175, 176, 177, 178, 179, 759, 760, 761, 762, 763, 764, 765, 766, 767, 768, 769, 770, 771, 772, 773, 774, 775, 776, 777, 778, 779, 780, 781, 782, 783, 784, 785, 786, 787, 788, 789, 790, 791, 792, 793, 794, 795, 796, 797, 798, 799, 800, 801, 802, 803, 804, 805, 806, 807, 808, 809] (by decide +kernel) (by decide +kernel)
set_option maxRecDepth 20000 in
theorem gL_law_X10_store : GoodIn wsL_law (wsV RL 17 RX10 yX10_store wsX10_store) := goodIn_app (goodIn_of _ (by decide +kernel)) ggL_law_X10_store
set_option maxRecDepth 20000 in
theorem ggL_law_X9_storeLong : GoodIn wsL_law wsX9_storeLong := goodIn_r _ [183, 184, 16, 21, 155, 156, 2, 157, 185, 186, 187, 41, 188, 63, 189, 159, 160, 161, 62, 162, 163, 164, 165, 20, 166, 99, 751, 752, 753, 754, 755, 756, 757, 758, 810, 811, 812, 813, 814, 815, 816, 837, 838, 817, 818, 819, 820, 821, 822, 823, 824, 825, 826, 827, 828] (by decide +kernel) (by decide +kernel)
set_option maxRecDepth 20000 in
theorem gL_law_X9_storeLong : GoodIn wsL_law (wsV RL 20 RX9 yX9_storeLong wsX9_storeLong) := goodIn_app (goodIn_of _ (by decide +kernel)) ggL_law_X9_storeLong
set_option maxRecDepth 20000 in
theorem ggL_law_X10_storeLong : GoodIn wsL_law wsX10_storeLong := goodIn_r _ [193, 194, 172, 173, 174, 5, 175, 176, 177, 178, 179, 195, 196, 197, 198, 121, 171, 122, 759, 760, 761, 762, 763, 764, 765, 766, 767, 768, 769, 770, 771, 772, 773, 774, 775, 776, 777, 778, 779, 780, 781, 782, 783, 784, 785, 786, 787, 788, 789, 790, 791, 792, 793, 794, 795, 796, 797, 798, 799, 800, 801, 802, 803, 804, 805, 806, 807, 808, 809] (by decide +kernel) (by decide +kernel)
set_option maxRecDepth 20000 in
theorem gL_law_X10_storeLong : GoodIn wsL_law (wsV RL 24 RX10 yX10_storeLong wsX10_storeLong) := goodIn_app (goodIn_of _ (by decide +kernel)) ggL_law_X10_storeLong
set_option maxRecDepth 20000 in
theorem ggL_law_X9_word : GoodIn wsL_law wsX9_word := goodIn_r _ [202, 16, 155, 156, 2, 157, 203, 204, 205, 41, 206, 62, 751, 752, 753, 754, 755, 756, 757, 758, 810, 811, 812, 813, 814, 815, 816, 837, 838] (by decide +kernel) (by decide +kernel)
set_option maxRecDepth 20000 in
theorem gL_law_X9_word : GoodIn wsL_law (wsV RL 25 RX9 yX9_word wsX9_word) := goodIn_app (goodIn_of _ (by decide +kernel)) ggL_law_X9_word
set_option maxRecDepth 20000 in
theorem ggL_law_X10_word : GoodIn wsL_law wsX10_word := goodIn_r _ [210, 121, 173, 174, 5, 175, 176, 177, 178, 179, 759, 760, 761, 762, 763, 764, 765, 766, 767, 768, 769, 770, 771, 772, 773, 774, 775, 776, 777, 778, 779, 780, 781, 782, 783, 784, 785, 786, 787, 788, 789, 790, 791, 792, 793, 794, 795, 796, 797, 798, 799, 800, 801, 802, 803, 804, 805, 806, 807, 808, 809] (by decide +kernel) (by decide +kernel)
set_option maxRecDepth 20000 in
theorem gL_law_X10_word : GoodIn wsL_law (wsV RL 29 RX10 yX10_word wsX10_word) := goodIn_app (goodIn_of _ (by decide +kernel)) ggL_law_X10_word
set_option maxRecDepth 20000 in
theorem ggL_law_X9_wordLong : GoodIn wsL_law wsX9_wordLong := goodIn_r _ [214, 16, 215, 155, 156, 2, 157, 216, 217, 218, 41, 219, 63, 220, 204, 205, 206, 62, 221, 222, 223, 751, 752, 753, 754, 755, 756, 757, 758, 810, 811, 812, 813, 814, 815, 816, 837, 838] (by decide +kernel) (by decide +kernel)
set_option maxRecDepth 20000 in
theorem gL_law_X9_wordLong : GoodIn wsL_law (wsV RL 30 RX9 yX9_wordLong wsX9_wordLong) := goodIn_app (goodIn_of _ (by decide +kernel)) ggL_law_X9_wordLong
set_option maxRecDepth 20000 in
theorem ggL_law_X10_wordLong : GoodIn wsL_law wsX10_wordLong := goodIn_r _ [227, 228, 173, 174, 5, 175, 176, 177, 178, 179, 229, 230, 231, 232, 121, 122, 233, 234, 235, 759, 760, 761, 762, 763, 764, 765, 766, 767, 768, 769, 770, 771, 772, 773, 774, 775, 776, 777, 778, 779, 780, 781, 782, 783, 784, 785, 786, 787, 788, 789, 790, 791, 792, 793, 794, 795, 796, 797, 798, 799, 800, 801, 802, 803, 804, 805, 806, 807, 808, 809] (by decide +kernel) (by decide +kernel)
set_option maxRecDepth 20000 in
theorem gL_law_X10_wordLong : GoodIn wsL_law (wsV RL 34 RX10 yX10_wordLong wsX10_wordLong) := goodIn_app (goodIn_of _ (by decide +kernel)) ggL_law_X10_wordLong
set_option maxRecDepth 20000 in
theorem ggL_law_X9_order : GoodIn wsL_law wsX9_order := goodIn_r _ [239, 16, 21, 155, 156, 2, 157, 240, 241, 242, 158, 159, 160, 41, 161, 62, 162, 163, 164, 165, 20, 166, 99, 751, 752, 753, 754, 755, 756, 757, 758, 810, 811, 812, 813, 814, 815, 816, 837, 838, 817, 818, 819, 820, 821, 822, 823, 824, 825, 826, 827, 828] (by decide +kernel) (by decide +kernel)
set_option maxRecDepth 20000 in
theorem gL_law_X9_order : GoodIn wsL_law (wsV RL 35 RX9 yX9_order wsX9_order) := goodIn_app (goodIn_of _ (by decide +kernel)) ggL_law_X9_order
set_option maxRecDepth 20000 in
theorem ggL_law_X10_order : GoodIn wsL_law wsX10_order := goodIn_r _ [246, 247, 248, 121, 172, 173, 174, 5, 175, 176, 177, 178, 179, 759, 760, 761, 762, 763, 764, 765, 766, 767, 768, 769, 770, 771, 772, 773, 774, 775, 776, 777, 778, 779, 780, 781, 782, 783, 784, 785, 786, 787, 788, 789, 790, 791, 792, 793, 794, 795, 796, 797, 798, 799, 800, 801, 802, 803, 804, 805, 806, 807, 808, 809] (by decide +kernel) (by decide +kernel)
set_option maxRecDepth 20000 in
theorem gL_law_X10_order : GoodIn wsL_law (wsV RL 39 RX10 yX10_order wsX10_order) := goodIn_app (goodIn_of _ (by decide +kernel)) ggL_law_X10_order
set_option maxRecDepth 20000 in
theorem ggL_law_X9_top : GoodIn wsL_law wsX9_top := goodIn_r _ [252, 16, 751, 752, 753, 754, 755, 756, 757, 758, 810, 811, 812, 813, 814, 815, 816, 839, 840] (by decide +kernel) (by decide +kernel)
set_option maxRecDepth 20000 in
theorem gL_law_X9_top : GoodIn wsL_law (wsV RL 40 RX9 yX9_top wsX9_top) := goodIn_app (goodIn_of _ (by decide +kernel)) ggL_law_X9_top
set_option maxRecDepth 20000 in
theorem ggL_law_X10_top : GoodIn wsL_law wsX10_top := goodIn_r _ [256, 257, 759, 760, 761, 762, 763, 764, 765, 766, 767, 768, 769, 770, 771, 772, 773, 774, 775, 776, 777, 778, 779, 780, 781, 782, 783, 784, 785, 786, 787, 788, 789, 790, 791, 792, 793, 794, 795, 796, 797, 798, 799, 800, 801, 802, 803, 804, 805, 806, 807, 808, 809] (by decide +kernel) (by decide +kernel)
set_option maxRecDepth 20000 in
theorem gL_law_X10_top : GoodIn wsL_law (wsV RL 44 RX10 yX10_top wsX10_top) := goodIn_app (goodIn_of _ (by decide +kernel)) ggL_law_X10_top
set_option maxRecDepth 20000 in
theorem ggL_law_X9_rest : GoodIn wsL_law wsX9_rest := goodIn_r _ [261, 16, 751, 752, 753, 754, 755, 756, 757, 758, 810, 811, 812, 813, 814, 815, 816, 839, 840] (by decide +kernel) (by decide +kernel)
set_option maxRecDepth 20000 in
theorem gL_law_X9_rest : GoodIn wsL_law (wsV RL 45 RX9 yX9_rest wsX9_rest) := goodIn_app (goodIn_of _ (by decide +kernel)) ggL_law_X9_rest
set_option maxRecDepth 20000 in
theorem ggL_law_X10_rest : GoodIn wsL_law wsX10_rest := goodIn_r _ [265, 266, 759, 760, 761, 762, 763, 764, 765, 766, 767, 768, 769, 770, 771, 772, 773, 774, 775, 776, 777, 778, 779, 780, 781, 782, 783, 784, 785, 786, 787, 788, 789, 790, 791, 792, 793, 794, 795, 796, 797, 798, 799, 800, 801, 802, 803, 804, 805, 806, 807, 808, 809] (by decide +kernel) (by decide +kernel)
set_option maxRecDepth 20000 in
theorem gL_law_X10_rest : GoodIn wsL_law (wsV RL 48 RX10 yX10_rest wsX10_rest) := goodIn_app (goodIn_of _ (by decide +kernel)) ggL_law_X10_rest
set_option maxRecDepth 20000 in
theorem ggL_law_X9_set : GoodIn wsL_law wsX9_set := goodIn_r _ [270, 271, 272, 273, 16, 21, 274, 275, 276, 45, 277, 67, 68, 163, 164, 165, 20, 166, 99, 751, 752, 753, 754, 755, 756, 757, 758, 810, 811, 812, 813, 814, 815, 816, 839, 840, 817, 818, 819, 820, 821, 822, 823, 824, 825, 826, 827, 828] (by decide +kernel) (by decide +kernel)
set_option maxRecDepth 20000 in
theorem gL_law_X9_set : GoodIn wsL_law (wsV RL 49 RX9 yX9_set wsX9_set) := goodIn_app (goodIn_of _ (by decide +kernel)) ggL_law_X9_set
set_option maxRecDepth 20000 in
theorem ggL_law_X10_set : GoodIn wsL_law wsX10_set := goodIn_r _ [281, 282, 283, 284, 257, 266, 172, 177, 178, 5, 179, 759, 760, 761, 762, 763, 764, 765, 766, 767, 768, 769, 770, 771, 772, 773, 774, 775, 776, 777, 778, 779, 780, 781, 782, 783, 784, 785, 786, 787, 788, 789, 790, 791, 792, 793, 794, 795, 796, 797, 798, 799, 800, 801, 802, 803, 804, 805, 806, 807, 808, 809] (by decide +kernel) (by decide +kernel)
set_option maxRecDepth 20000 in
theorem gL_law_X10_set : GoodIn wsL_law (wsV RL 53 RX10 yX10_set wsX10_set) := goodIn_app (goodIn_of _ (by decide +kernel)) ggL_law_X10_set
set_option maxRecDepth 20000 in
theorem ggL_law_X9_multiplier : GoodIn wsL_law wsX9_multiplier := goodIn_r _ [288, 16, 751, 752, 753, 754, 755, 756, 757, 758, 810, 811, 812, 813, 814, 815, 816] (by decide +kernel) (by decide +kernel)
set_option maxRecDepth 20000 in
theorem gL_law_X9_multiplier : GoodIn wsL_law (wsV RL 54 RX9 yX9_multiplier wsX9_multiplier) := goodIn_app (goodIn_of _ (by decide +kernel)) ggL_law_X9_multiplier
set_option maxRecDepth 20000 in
theorem ggL_law_X10_multiplier : GoodIn wsL_law wsX10_multiplier := goodIn_r _ [292, 293, 759, 760, 761, 762, 763, 764, 765, 766, 767, 768, 769, 770, 771, 772, 773, 774, 775, 776, 777, 778, 779, 780, 781, 782, 783, 784, 785, 786, 787, 788, 789, 790, 791, 792, 793, 794, 795, 796, 797, 798, 799, 800, 801, 802, 803, 804, 805, 806, 807, 808, 809] (by decide +kernel) (by decide +kernel)
set_option maxRecDepth 20000 in
theorem gL_law_X10_multiplier : GoodIn wsL_law (wsV RL 57 RX10 yX10_multiplier wsX10_multiplier) := goodIn_app (goodIn_of _ (by decide +kernel)) ggL_law_X10_multiplier
set_option maxRecDepth 20000 in
theorem ggL_law_X9_punch : GoodIn wsL_law wsX9_punch := goodIn_r _ [297, 16, 21, 298, 299, 300, 49, 301, 74, 73, 163, 164, 165, 20, 166, 99, 751, 752, 753, 754, 755, 756, 757, 758, 810, 811, 812, 813, 814, 815, 816, 841, 842, 843, 817, 818, 819, 820, 821, 822, 823, 824, 825, 826, 827, 828] (by decide +kernel) (by decide +kernel)
set_option maxRecDepth 20000 in
theorem gL_law_X9_punch : GoodIn wsL_law (wsV RL 58 RX9 yX9_punch wsX9_punch) := goodIn_app (goodIn_of _ (by decide +kernel)) ggL_law_X9_punch
set_option maxRecDepth 20000 in
theorem ggL_law_X10_punch : GoodIn wsL_law wsX10_punch := goodIn_r _ [305, 306, 307, 123, 247, 172, 177, 178, 5, 179, 759, 760, 761, 762, 763, 764, 765, 766, 767, 768, 769, 770, 771, 772, 773, 774, 775, 776, 777, 778, 779, 780, 781, 782, 783, 784, 785, 786, 787, 788, 789, 790, 791, 792, 793, 794, 795, 796, 797, 798, 799, 800, 801, 802, 803, 804, 805, 806, 807, 808, 809] (by decide +kernel) (by decide +kernel)
set_option maxRecDepth 20000 in
theorem gL_law_X10_punch : GoodIn wsL_law (wsV RL 62 RX10 yX10_punch wsX10_punch) := goodIn_app (goodIn_of _ (by decide +kernel)) ggL_law_X10_punch
set_option maxRecDepth 20000 in
theorem ggL_law_X9_rewind : GoodIn wsL_law wsX9_rewind := goodIn_r _ [311, 16, 21, 163, 164, 165, 20, 166, 99, 751, 752, 753, 754, 755, 756, 757, 758, 810, 811, 812, 813, 814, 815, 816, 841, 842, 843, 817, 818, 819, 820, 821, 822, 823, 824, 825, 826, 827, 828] (by decide +kernel) (by decide +kernel)
set_option maxRecDepth 20000 in
theorem gL_law_X9_rewind : GoodIn wsL_law (wsV RL 63 RX9 yX9_rewind wsX9_rewind) := goodIn_app (goodIn_of _ (by decide +kernel)) ggL_law_X9_rewind
set_option maxRecDepth 20000 in
theorem ggL_law_X10_rewind : GoodIn wsL_law wsX10_rewind := goodIn_r _ [315, 316, 172, 759, 760, 761, 762, 763, 764, 765, 766, 767, 768, 769, 770, 771, 772, 773, 774, 775, 776, 777, 778, 779, 780, 781, 782, 783, 784, 785, 786, 787, 788, 789, 790, 791, 792, 793, 794, 795, 796, 797, 798, 799, 800, 801, 802, 803, 804, 805, 806, 807, 808, 809] (by decide +kernel) (by decide +kernel)
set_option maxRecDepth 20000 in
theorem gL_law_X10_rewind : GoodIn wsL_law (wsV RL 67 RX10 yX10_rewind wsX10_rewind) := goodIn_app (goodIn_of _ (by decide +kernel)) ggL_law_X10_rewind
set_option maxRecDepth 20000 in
theorem ggL_law_X9_text : GoodIn wsL_law wsX9_text := goodIn_r _ [320, 16, 321, 322, 323, 53, 324, 79, 751, 752, 753, 754, 755, 756, 757, 758, 810, 811, 812, 813, 814, 815, 816, 844, 845, 846, 847] (by decide +kernel) (by decide +kernel)
set_option maxRecDepth 20000 in
theorem gL_law_X9_text : GoodIn wsL_law (wsV RL 68 RX9 yX9_text wsX9_text) := goodIn_app (goodIn_of _ (by decide +kernel)) ggL_law_X9_text
set_option maxRecDepth 20000 in
theorem ggL_law_X10_text : GoodIn wsL_law wsX10_text := goodIn_r _ [328, 329, 124, 177, 178, 5, 179, 759, 760, 761, 762, 763, 764, 765, 766, 767, 768, 769, 770, 771, 772, 773, 774, 775, 776, 777, 778, 779, 780, 781, 782, 783, 784, 785, 786, 787, 788, 789, 790, 791, 792, 793, 794, 795, 796, 797, 798, 799, 800, 801, 802, 803, 804, 805, 806, 807, 808, 809] (by decide +kernel) (by decide +kernel)
set_option maxRecDepth 20000 in
theorem gL_law_X10_text : GoodIn wsL_law (wsV RL 71 RX10 yX10_text wsX10_text) := goodIn_app (goodIn_of _ (by decide +kernel)) ggL_law_X10_text
set_option maxRecDepth 20000 in
theorem ggL_law_X9_tear : GoodIn wsL_law wsX9_tear := goodIn_r _ [333, 16, 21, 163, 164, 165, 20, 166, 99, 751, 752, 753, 754, 755, 756, 757, 758, 810, 811, 812, 813, 814, 815, 816, 844, 845, 846, 847, 817, 818, 819, 820, 821, 822, 823, 824, 825, 826, 827, 828] (by decide +kernel) (by decide +kernel)
set_option maxRecDepth 20000 in
theorem gL_law_X9_tear : GoodIn wsL_law (wsV RL 72 RX9 yX9_tear wsX9_tear) := goodIn_app (goodIn_of _ (by decide +kernel)) ggL_law_X9_tear
set_option maxRecDepth 20000 in
theorem ggL_law_X10_tear : GoodIn wsL_law wsX10_tear := goodIn_r _ [337, 329, 172, 759, 760, 761, 762, 763, 764, 765, 766, 767, 768, 769, 770, 771, 772, 773, 774, 775, 776, 777, 778, 779, 780, 781, 782, 783, 784, 785, 786, 787, 788, 789, 790, 791, 792, 793, 794, 795, 796, 797, 798, 799, 800, 801, 802, 803, 804, 805, 806, 807, 808, 809] (by decide +kernel) (by decide +kernel)
set_option maxRecDepth 20000 in
theorem gL_law_X10_tear : GoodIn wsL_law (wsV RL 75 RX10 yX10_tear wsX10_tear) := goodIn_app (goodIn_of _ (by decide +kernel)) ggL_law_X10_tear
set_option maxRecDepth 20000 in
theorem ggL_law_X9_load : GoodIn wsL_law wsX9_load := goodIn_r _ [341, 21, 25, 16, 163, 164, 165, 20, 166, 99, 342, 343, 344, 24, 345, 103, 105, 104, 346, 159, 160, 41, 161, 62, 162, 347, 348, 349, 350, 351, 352, 353, 49, 354, 75, 73, 355, 356, 357, 358, 74, 359, 204, 205, 206, 360, 361, 362, 363, 364, 2, 365, 366, 367, 368, 369, 751, 752, 753, 754, 755, 756, 757, 758, 817, 818, 819, 820, 821, 822, 823, 824, 825, 826, 827, 828, 829, 830, 831, 810, 811, 812, 813, 814, 815, 816, 837, 838, 841, 842, 843] (by decide +kernel) (by decide +kernel)
set_option maxRecDepth 20000 in
theorem gL_law_X9_load : GoodIn wsL_law (wsV RL 76 RX9 yX9_load wsX9_load) := goodIn_app (goodIn_of _ (by decide +kernel)) ggL_law_X9_load
set_option maxRecDepth 20000 in
theorem ggL_law_X10_load : GoodIn wsL_law wsX10_load := goodIn_r _ [373, 172, 121, 130, 316, 307, 123, 374, 375, 129, 759, 760, 761, 762, 763, 764, 765, 766, 767, 768, 769, 770, 771, 772, 773, 774, 775, 776, 777, 778, 779, 780, 781, 782, 783, 784, 785, 786, 787, 788, 789, 790, 791, 792, 793, 794, 795, 796, 797, 798, 799, 800, 801, 802, 803, 804, 805, 806, 807, 808, 809] (by decide +kernel) (by decide +kernel)
set_option maxRecDepth 20000 in
theorem gL_law_X10_load : GoodIn wsL_law (wsV RL 79 RX10 yX10_load wsX10_load) := goodIn_app (goodIn_of _ (by decide +kernel)) ggL_law_X10_load
set_option maxRecDepth 20000 in
theorem ggL_law_X9_loaded : GoodIn wsL_law wsX9_loaded := goodIn_r _ [379, 25, 751, 752, 753, 754, 755, 756, 757, 758, 829, 830, 831] (by decide +kernel) (by decide +kernel)
set_option maxRecDepth 20000 in
theorem gL_law_X9_loaded : GoodIn wsL_law (wsV RL 80 RX9 yX9_loaded wsX9_loaded) := goodIn_app (goodIn_of _ (by decide +kernel)) ggL_law_X9_loaded
set_option maxRecDepth 20000 in
theorem ggL_law_X10_loaded : GoodIn wsL_law wsX10_loaded := goodIn_r _ [383, 129, 759, 760, 761, 762, 763, 764, 765, 766, 767, 768, 769, 770, 771, 772, 773, 774, 775, 776, 777, 778, 779, 780, 781, 782, 783, 784, 785, 786, 787, 788, 789, 790, 791, 792, 793, 794, 795, 796, 797, 798, 799, 800, 801, 802, 803, 804, 805, 806, 807, 808, 809] (by decide +kernel) (by decide +kernel)
set_option maxRecDepth 20000 in
theorem gL_law_X10_loaded : GoodIn wsL_law (wsV RL 83 RX10 yX10_loaded wsX10_loaded) := goodIn_app (goodIn_of _ (by decide +kernel)) ggL_law_X10_loaded
set_option maxRecDepth 20000 in
theorem ggL_law_X9_start : GoodIn wsL_law wsX9_start := goodIn_r _ [387, 16, 21, 155, 156, 2, 157, 163, 164, 165, 20, 166, 99, 751, 752, 753, 754, 755, 756, 757, 758, 810, 811, 812, 813, 814, 815, 816, 817, 818, 819, 820, 821, 822, 823, 824, 825, 826, 827, 828] (by decide +kernel) (by decide +kernel)
set_option maxRecDepth 20000 in
theorem gL_law_X9_start : GoodIn wsL_law (wsV RL 84 RX9 yX9_start wsX9_start) := goodIn_app (goodIn_of _ (by decide +kernel)) ggL_law_X9_start
