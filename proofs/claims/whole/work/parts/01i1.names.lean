theorem dX10_reached_0 : decode cX10_reached 0 = .ok (.iload_n 1, 1) := by decide +kernel
theorem dX10_reached_1 : decode cX10_reached 1 = .ok (.invokestatic 108, 3) := by decide +kernel
theorem dX10_reached_4 : decode cX10_reached 4 = .ok (.ifCond .ne 8, 3) := by decide +kernel
theorem dX10_reached_7 : decode cX10_reached 7 = .ok (.bipush (-2), 2) := by decide +kernel
theorem dX10_reached_9 : decode cX10_reached 9 = .ok (.goto 17, 3) := by decide +kernel
theorem dX10_reached_12 : decode cX10_reached 12 = .ok (.aload_n 0, 1) := by decide +kernel
theorem dX10_reached_13 : decode cX10_reached 13 = .ok (.getfield 82, 3) := by decide +kernel
theorem dX10_reached_16 : decode cX10_reached 16 = .ok (.iload_n 1, 1) := by decide +kernel
theorem dX10_reached_17 : decode cX10_reached 17 = .ok (.baload, 1) := by decide +kernel
theorem dX10_reached_18 : decode cX10_reached 18 = .ok (.ifCond .eq 7, 3) := by decide +kernel
theorem dX10_reached_21 : decode cX10_reached 21 = .ok (.iconst 1, 1) := by decide +kernel
theorem dX10_reached_22 : decode cX10_reached 22 = .ok (.goto 4, 3) := by decide +kernel
theorem dX10_reached_25 : decode cX10_reached 25 = .ok (.iconst 0, 1) := by decide +kernel
theorem dX10_reached_26 : decode cX10_reached 26 = .ok (.ireturn, 1) := by decide +kernel
theorem dX10_alters_0 : decode cX10_alters 0 = .ok (.iconst 0, 1) := by decide +kernel
theorem dX10_alters_1 : decode cX10_alters 1 = .ok (.istore_n 1, 1) := by decide +kernel
theorem dX10_alters_2 : decode cX10_alters 2 = .ok (.iload_n 1, 1) := by decide +kernel
theorem dX10_alters_3 : decode cX10_alters 3 = .ok (.sipush 256, 3) := by decide +kernel
theorem dX10_alters_6 : decode cX10_alters 6 = .ok (.if_icmp .ge 146, 3) := by decide +kernel
theorem dX10_alters_9 : decode cX10_alters 9 = .ok (.aload_n 0, 1) := by decide +kernel
theorem dX10_alters_10 : decode cX10_alters 10 = .ok (.getfield 235, 3) := by decide +kernel
theorem dX10_alters_13 : decode cX10_alters 13 = .ok (.ifCond .eq 139, 3) := by decide +kernel
theorem dX10_alters_16 : decode cX10_alters 16 = .ok (.aload_n 0, 1) := by decide +kernel
theorem dX10_alters_17 : decode cX10_alters 17 = .ok (.getfield 7, 3) := by decide +kernel
theorem dX10_alters_20 : decode cX10_alters 20 = .ok (.iload_n 1, 1) := by decide +kernel
theorem dX10_alters_21 : decode cX10_alters 21 = .ok (.iaload, 1) := by decide +kernel
theorem dX10_alters_22 : decode cX10_alters 22 = .ok (.bipush 12, 2) := by decide +kernel
theorem dX10_alters_24 : decode cX10_alters 24 = .ok (.ishr, 1) := by decide +kernel
theorem dX10_alters_25 : decode cX10_alters 25 = .ok (.istore_n 2, 1) := by decide +kernel
theorem dX10_alters_26 : decode cX10_alters 26 = .ok (.aload_n 0, 1) := by decide +kernel
theorem dX10_alters_27 : decode cX10_alters 27 = .ok (.getfield 7, 3) := by decide +kernel
theorem dX10_alters_30 : decode cX10_alters 30 = .ok (.iload_n 1, 1) := by decide +kernel
theorem dX10_alters_31 : decode cX10_alters 31 = .ok (.iaload, 1) := by decide +kernel
theorem dX10_alters_32 : decode cX10_alters 32 = .ok (.iconst 1, 1) := by decide +kernel
theorem dX10_alters_33 : decode cX10_alters 33 = .ok (.ishr, 1) := by decide +kernel
theorem dX10_alters_34 : decode cX10_alters 34 = .ok (.sipush 255, 3) := by decide +kernel
theorem dX10_alters_37 : decode cX10_alters 37 = .ok (.iand, 1) := by decide +kernel
theorem dX10_alters_38 : decode cX10_alters 38 = .ok (.istore_n 3, 1) := by decide +kernel
theorem dX10_alters_39 : decode cX10_alters 39 = .ok (.iload_n 2, 1) := by decide +kernel
theorem dX10_alters_40 : decode cX10_alters 40 = .ok (.iconst 5, 1) := by decide +kernel
theorem dX10_alters_41 : decode cX10_alters 41 = .ok (.if_icmp .eq 21, 3) := by decide +kernel
theorem dX10_alters_44 : decode cX10_alters 44 = .ok (.iload_n 2, 1) := by decide +kernel
theorem dX10_alters_45 : decode cX10_alters 45 = .ok (.bipush 7, 2) := by decide +kernel
theorem dX10_alters_47 : decode cX10_alters 47 = .ok (.if_icmp .eq 15, 3) := by decide +kernel
theorem dX10_alters_50 : decode cX10_alters 50 = .ok (.iload_n 2, 1) := by decide +kernel
theorem dX10_alters_51 : decode cX10_alters 51 = .ok (.bipush 8, 2) := by decide +kernel
theorem dX10_alters_53 : decode cX10_alters 53 = .ok (.if_icmp .eq 9, 3) := by decide +kernel
theorem dX10_alters_56 : decode cX10_alters 56 = .ok (.iload_n 2, 1) := by decide +kernel
theorem dX10_alters_57 : decode cX10_alters 57 = .ok (.bipush 17, 2) := by decide +kernel
theorem dX10_alters_59 : decode cX10_alters 59 = .ok (.if_icmp .ne 7, 3) := by decide +kernel
theorem dX10_alters_62 : decode cX10_alters 62 = .ok (.iconst 1, 1) := by decide +kernel
theorem dX10_alters_63 : decode cX10_alters 63 = .ok (.goto 4, 3) := by decide +kernel
theorem dX10_alters_66 : decode cX10_alters 66 = .ok (.iconst 0, 1) := by decide +kernel
theorem dX10_alters_67 : decode cX10_alters 67 = .ok (.istore 4, 2) := by decide +kernel
theorem dX10_alters_69 : decode cX10_alters 69 = .ok (.aload_n 0, 1) := by decide +kernel
theorem dX10_alters_70 : decode cX10_alters 70 = .ok (.getfield 7, 3) := by decide +kernel
theorem dX10_alters_73 : decode cX10_alters 73 = .ok (.iload_n 1, 1) := by decide +kernel
theorem dX10_alters_74 : decode cX10_alters 74 = .ok (.iaload, 1) := by decide +kernel
theorem dX10_alters_75 : decode cX10_alters 75 = .ok (.iconst 1, 1) := by decide +kernel
theorem dX10_alters_76 : decode cX10_alters 76 = .ok (.iand, 1) := by decide +kernel
theorem dX10_alters_77 : decode cX10_alters 77 = .ok (.iconst 1, 1) := by decide +kernel
theorem dX10_alters_78 : decode cX10_alters 78 = .ok (.if_icmp .ne 39, 3) := by decide +kernel
theorem dX10_alters_81 : decode cX10_alters 81 = .ok (.aload_n 0, 1) := by decide +kernel
theorem dX10_alters_82 : decode cX10_alters 82 = .ok (.getfield 82, 3) := by decide +kernel
theorem dX10_alters_85 : decode cX10_alters 85 = .ok (.iload_n 3, 1) := by decide +kernel
theorem dX10_alters_86 : decode cX10_alters 86 = .ok (.sipush 254, 3) := by decide +kernel
theorem dX10_alters_89 : decode cX10_alters 89 = .ok (.iand, 1) := by decide +kernel
theorem dX10_alters_90 : decode cX10_alters 90 = .ok (.baload, 1) := by decide +kernel
theorem dX10_alters_91 : decode cX10_alters 91 = .ok (.ifCond .ne 18, 3) := by decide +kernel
theorem dX10_alters_94 : decode cX10_alters 94 = .ok (.aload_n 0, 1) := by decide +kernel
theorem dX10_alters_95 : decode cX10_alters 95 = .ok (.getfield 82, 3) := by decide +kernel
theorem dX10_alters_98 : decode cX10_alters 98 = .ok (.iload_n 3, 1) := by decide +kernel
theorem dX10_alters_99 : decode cX10_alters 99 = .ok (.sipush 254, 3) := by decide +kernel
theorem dX10_alters_102 : decode cX10_alters 102 = .ok (.iand, 1) := by decide +kernel
theorem dX10_alters_103 : decode cX10_alters 103 = .ok (.iconst 1, 1) := by decide +kernel
theorem dX10_alters_104 : decode cX10_alters 104 = .ok (.iadd, 1) := by decide +kernel
theorem dX10_alters_105 : decode cX10_alters 105 = .ok (.baload, 1) := by decide +kernel
theorem dX10_alters_106 : decode cX10_alters 106 = .ok (.ifCond .eq 7, 3) := by decide +kernel
theorem dX10_alters_109 : decode cX10_alters 109 = .ok (.iconst 1, 1) := by decide +kernel
theorem dX10_alters_110 : decode cX10_alters 110 = .ok (.goto 13, 3) := by decide +kernel
theorem dX10_alters_113 : decode cX10_alters 113 = .ok (.iconst 0, 1) := by decide +kernel
theorem dX10_alters_114 : decode cX10_alters 114 = .ok (.goto 9, 3) := by decide +kernel
theorem dX10_alters_117 : decode cX10_alters 117 = .ok (.aload_n 0, 1) := by decide +kernel
theorem dX10_alters_118 : decode cX10_alters 118 = .ok (.getfield 82, 3) := by decide +kernel
theorem dX10_alters_121 : decode cX10_alters 121 = .ok (.iload_n 3, 1) := by decide +kernel
theorem dX10_alters_122 : decode cX10_alters 122 = .ok (.baload, 1) := by decide +kernel
theorem dX10_alters_123 : decode cX10_alters 123 = .ok (.istore 5, 2) := by decide +kernel
theorem dX10_alters_125 : decode cX10_alters 125 = .ok (.aload_n 0, 1) := by decide +kernel
theorem dX10_alters_126 : decode cX10_alters 126 = .ok (.getfield 82, 3) := by decide +kernel
theorem dX10_alters_129 : decode cX10_alters 129 = .ok (.iload_n 1, 1) := by decide +kernel
theorem dX10_alters_130 : decode cX10_alters 130 = .ok (.baload, 1) := by decide +kernel
theorem dX10_alters_131 : decode cX10_alters 131 = .ok (.ifCond .eq 15, 3) := by decide +kernel
theorem dX10_alters_134 : decode cX10_alters 134 = .ok (.iload 4, 2) := by decide +kernel
theorem dX10_alters_136 : decode cX10_alters 136 = .ok (.ifCond .eq 10, 3) := by decide +kernel
theorem dX10_alters_139 : decode cX10_alters 139 = .ok (.iload 5, 2) := by decide +kernel
theorem dX10_alters_141 : decode cX10_alters 141 = .ok (.ifCond .eq 5, 3) := by decide +kernel
theorem dX10_alters_144 : decode cX10_alters 144 = .ok (.iload_n 1, 1) := by decide +kernel
theorem dX10_alters_145 : decode cX10_alters 145 = .ok (.ireturn, 1) := by decide +kernel
theorem dX10_alters_146 : decode cX10_alters 146 = .ok (.iinc 1 1, 3) := by decide +kernel
theorem dX10_alters_149 : decode cX10_alters 149 = .ok (.goto (-147), 3) := by decide +kernel
theorem dX10_alters_152 : decode cX10_alters 152 = .ok (.iconst (-1), 1) := by decide +kernel
theorem dX10_alters_153 : decode cX10_alters 153 = .ok (.ireturn, 1) := by decide +kernel
theorem dX10_image_0 : decode cX10_image 0 = .ok (.aload_n 0, 1) := by decide +kernel
theorem dX10_image_1 : decode cX10_image 1 = .ok (.iconst 1, 1) := by decide +kernel
theorem dX10_image_2 : decode cX10_image 2 = .ok (.putfield 238, 3) := by decide +kernel
theorem dX10_image_5 : decode cX10_image 5 = .ok (.iconst 0, 1) := by decide +kernel
theorem dX10_image_6 : decode cX10_image 6 = .ok (.istore_n 1, 1) := by decide +kernel
theorem dX10_image_7 : decode cX10_image 7 = .ok (.iload_n 1, 1) := by decide +kernel
theorem dX10_image_8 : decode cX10_image 8 = .ok (.sipush 256, 3) := by decide +kernel
theorem dX10_image_11 : decode cX10_image 11 = .ok (.if_icmp .ge 37, 3) := by decide +kernel
theorem dX10_image_14 : decode cX10_image 14 = .ok (.aload_n 0, 1) := by decide +kernel
theorem dX10_image_15 : decode cX10_image 15 = .ok (.getfield 85, 3) := by decide +kernel
theorem dX10_image_18 : decode cX10_image 18 = .ok (.iload_n 1, 1) := by decide +kernel
theorem dX10_image_19 : decode cX10_image 19 = .ok (.aload_n 0, 1) := by decide +kernel
theorem dX10_image_20 : decode cX10_image 20 = .ok (.getfield 7, 3) := by decide +kernel
theorem dX10_image_23 : decode cX10_image 23 = .ok (.iload_n 1, 1) := by decide +kernel
theorem dX10_image_24 : decode cX10_image 24 = .ok (.iaload, 1) := by decide +kernel
theorem dX10_image_25 : decode cX10_image 25 = .ok (.iastore, 1) := by decide +kernel
theorem dX10_image_26 : decode cX10_image 26 = .ok (.aload_n 0, 1) := by decide +kernel
theorem dX10_image_27 : decode cX10_image 27 = .ok (.getfield 88, 3) := by decide +kernel
theorem dX10_image_30 : decode cX10_image 30 = .ok (.iload_n 1, 1) := by decide +kernel
theorem dX10_image_31 : decode cX10_image 31 = .ok (.iconst 2, 1) := by decide +kernel
theorem dX10_image_32 : decode cX10_image 32 = .ok (.idiv, 1) := by decide +kernel
theorem dX10_image_33 : decode cX10_image 33 = .ok (.aload_n 0, 1) := by decide +kernel
theorem dX10_image_34 : decode cX10_image 34 = .ok (.getfield 13, 3) := by decide +kernel
theorem dX10_image_37 : decode cX10_image 37 = .ok (.iload_n 1, 1) := by decide +kernel
theorem dX10_image_38 : decode cX10_image 38 = .ok (.iconst 2, 1) := by decide +kernel
theorem dX10_image_39 : decode cX10_image 39 = .ok (.idiv, 1) := by decide +kernel
theorem dX10_image_40 : decode cX10_image 40 = .ok (.iaload, 1) := by decide +kernel
theorem dX10_image_41 : decode cX10_image 41 = .ok (.iastore, 1) := by decide +kernel
theorem dX10_image_42 : decode cX10_image 42 = .ok (.iinc 1 1, 3) := by decide +kernel
theorem dX10_image_45 : decode cX10_image 45 = .ok (.goto (-38), 3) := by decide +kernel
theorem dX10_image_48 : decode cX10_image 48 = .ok (.aload_n 0, 1) := by decide +kernel
theorem dX10_image_49 : decode cX10_image 49 = .ok (.aload_n 0, 1) := by decide +kernel
theorem dX10_image_50 : decode cX10_image 50 = .ok (.getfield 135, 3) := by decide +kernel
theorem dX10_image_53 : decode cX10_image 53 = .ok (.putfield 241, 3) := by decide +kernel
theorem dX10_image_56 : decode cX10_image 56 = .ok (.aload_n 0, 1) := by decide +kernel
theorem dX10_image_57 : decode cX10_image 57 = .ok (.aload_n 0, 1) := by decide +kernel
theorem dX10_image_58 : decode cX10_image 58 = .ok (.getfield 139, 3) := by decide +kernel
theorem dX10_image_61 : decode cX10_image 61 = .ok (.putfield 244, 3) := by decide +kernel
theorem dX10_image_64 : decode cX10_image 64 = .ok (.aload_n 0, 1) := by decide +kernel
theorem dX10_image_65 : decode cX10_image 65 = .ok (.aload_n 0, 1) := by decide +kernel
theorem dX10_image_66 : decode cX10_image 66 = .ok (.getfield 148, 3) := by decide +kernel
theorem dX10_image_69 : decode cX10_image 69 = .ok (.putfield 247, 3) := by decide +kernel
theorem dX10_image_72 : decode cX10_image 72 = .ok (.aload_n 0, 1) := by decide +kernel
theorem dX10_image_73 : decode cX10_image 73 = .ok (.aload_n 0, 1) := by decide +kernel
theorem dX10_image_74 : decode cX10_image 74 = .ok (.getfield 163, 3) := by decide +kernel
theorem dX10_image_77 : decode cX10_image 77 = .ok (.putfield 250, 3) := by decide +kernel
theorem dX10_image_80 : decode cX10_image 80 = .ok (.aload_n 0, 1) := by decide +kernel
theorem dX10_image_81 : decode cX10_image 81 = .ok (.aload_n 0, 1) := by decide +kernel
theorem dX10_image_82 : decode cX10_image 82 = .ok (.getfield 153, 3) := by decide +kernel
theorem dX10_image_85 : decode cX10_image 85 = .ok (.putfield 253, 3) := by decide +kernel
theorem dX10_image_88 : decode cX10_image 88 = .ok (.aload_n 0, 1) := by decide +kernel
theorem dX10_image_89 : decode cX10_image 89 = .ok (.aload_n 0, 1) := by decide +kernel
theorem dX10_image_90 : decode cX10_image 90 = .ok (.getfield 156, 3) := by decide +kernel
theorem dX10_image_93 : decode cX10_image 93 = .ok (.putfield 256, 3) := by decide +kernel
theorem dX10_image_96 : decode cX10_image 96 = .ok (.iconst 0, 1) := by decide +kernel
theorem dX10_image_97 : decode cX10_image 97 = .ok (.istore_n 1, 1) := by decide +kernel
theorem dX10_image_98 : decode cX10_image 98 = .ok (.iload_n 1, 1) := by decide +kernel
theorem dX10_image_99 : decode cX10_image 99 = .ok (.sipush 1000, 3) := by decide +kernel
theorem dX10_image_102 : decode cX10_image 102 = .ok (.if_icmp .ge 21, 3) := by decide +kernel
theorem dX10_image_105 : decode cX10_image 105 = .ok (.aload_n 0, 1) := by decide +kernel
theorem dX10_image_106 : decode cX10_image 106 = .ok (.getfield 91, 3) := by decide +kernel
theorem dX10_image_109 : decode cX10_image 109 = .ok (.iload_n 1, 1) := by decide +kernel
theorem dX10_image_110 : decode cX10_image 110 = .ok (.aload_n 0, 1) := by decide +kernel
theorem dX10_image_111 : decode cX10_image 111 = .ok (.getfield 16, 3) := by decide +kernel
theorem dX10_image_114 : decode cX10_image 114 = .ok (.iload_n 1, 1) := by decide +kernel
theorem dX10_image_115 : decode cX10_image 115 = .ok (.iaload, 1) := by decide +kernel
theorem dX10_image_116 : decode cX10_image 116 = .ok (.iastore, 1) := by decide +kernel
theorem dX10_image_117 : decode cX10_image 117 = .ok (.iinc 1 1, 3) := by decide +kernel
