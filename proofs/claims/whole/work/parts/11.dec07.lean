theorem dX6_followDrawn_107 : decode cX6_followDrawn 107 = .ok (.iload 7, 2) := by decide +kernel
theorem dX6_followDrawn_109 : decode cX6_followDrawn 109 = .ok (.invokevirtual 86, 3) := by decide +kernel
theorem dX6_followDrawn_112 : decode cX6_followDrawn 112 = .ok (.ifCond .eq 30, 3) := by decide +kernel
theorem dX6_followDrawn_115 : decode cX6_followDrawn 115 = .ok (.aload_n 0, 1) := by decide +kernel
theorem dX6_followDrawn_116 : decode cX6_followDrawn 116 = .ok (.iload 8, 2) := by decide +kernel
theorem dX6_followDrawn_118 : decode cX6_followDrawn 118 = .ok (.invokevirtual 82, 3) := by decide +kernel
theorem dX6_followDrawn_121 : decode cX6_followDrawn 121 = .ok (.ifCond .eq 21, 3) := by decide +kernel
theorem dX6_followDrawn_124 : decode cX6_followDrawn 124 = .ok (.aload_n 0, 1) := by decide +kernel
theorem dX6_followDrawn_125 : decode cX6_followDrawn 125 = .ok (.iload 7, 2) := by decide +kernel
theorem dX6_followDrawn_127 : decode cX6_followDrawn 127 = .ok (.invokevirtual 130, 3) := by decide +kernel
theorem dX6_followDrawn_130 : decode cX6_followDrawn 130 = .ok (.ifCond .eq 12, 3) := by decide +kernel
theorem dX6_followDrawn_133 : decode cX6_followDrawn 133 = .ok (.aload_n 0, 1) := by decide +kernel
theorem dX6_followDrawn_134 : decode cX6_followDrawn 134 = .ok (.iload 7, 2) := by decide +kernel
theorem dX6_followDrawn_136 : decode cX6_followDrawn 136 = .ok (.iload 8, 2) := by decide +kernel
theorem dX6_followDrawn_138 : decode cX6_followDrawn 138 = .ok (.invokevirtual 371, 3) := by decide +kernel
theorem dX6_followDrawn_141 : decode cX6_followDrawn 141 = .ok (.pop, 1) := by decide +kernel
theorem dX6_followDrawn_142 : decode cX6_followDrawn 142 = .ok (.iinc 6 1, 3) := by decide +kernel
theorem dX6_followDrawn_145 : decode cX6_followDrawn 145 = .ok (.goto (-98), 3) := by decide +kernel
theorem dX6_followDrawn_148 : decode cX6_followDrawn 148 = .ok (.aload_n 0, 1) := by decide +kernel
theorem dX6_followDrawn_149 : decode cX6_followDrawn 149 = .ok (.aload_n 0, 1) := by decide +kernel
theorem dX6_followDrawn_150 : decode cX6_followDrawn 150 = .ok (.getfield 110, 3) := by decide +kernel
theorem dX6_followDrawn_153 : decode cX6_followDrawn 153 = .ok (.iconst (-1), 1) := by decide +kernel
theorem dX6_followDrawn_154 : decode cX6_followDrawn 154 = .ok (.invokevirtual 377, 3) := by decide +kernel
theorem dX6_followDrawn_157 : decode cX6_followDrawn 157 = .ok (.invokestatic 341, 3) := by decide +kernel
theorem dX6_followDrawn_160 : decode cX6_followDrawn 160 = .ok (.istore 6, 2) := by decide +kernel
theorem dX6_followDrawn_162 : decode cX6_followDrawn 162 = .ok (.aload_n 0, 1) := by decide +kernel
theorem dX6_followDrawn_163 : decode cX6_followDrawn 163 = .ok (.iload_n 3, 1) := by decide +kernel
theorem dX6_followDrawn_164 : decode cX6_followDrawn 164 = .ok (.putfield 113, 3) := by decide +kernel
theorem dX6_followDrawn_167 : decode cX6_followDrawn 167 = .ok (.aload_n 0, 1) := by decide +kernel
theorem dX6_followDrawn_168 : decode cX6_followDrawn 168 = .ok (.iload 4, 2) := by decide +kernel
theorem dX6_followDrawn_170 : decode cX6_followDrawn 170 = .ok (.putfield 89, 3) := by decide +kernel
theorem dX6_followDrawn_173 : decode cX6_followDrawn 173 = .ok (.iconst 0, 1) := by decide +kernel
theorem dX6_followDrawn_174 : decode cX6_followDrawn 174 = .ok (.istore 7, 2) := by decide +kernel
theorem dX6_followDrawn_176 : decode cX6_followDrawn 176 = .ok (.iload 7, 2) := by decide +kernel
theorem dX6_followDrawn_178 : decode cX6_followDrawn 178 = .ok (.bipush 10, 2) := by decide +kernel
theorem dX6_followDrawn_180 : decode cX6_followDrawn 180 = .ok (.if_icmp .ge 23, 3) := by decide +kernel
theorem dX6_followDrawn_183 : decode cX6_followDrawn 183 = .ok (.aload_n 0, 1) := by decide +kernel
theorem dX6_followDrawn_184 : decode cX6_followDrawn 184 = .ok (.getfield 32, 3) := by decide +kernel
theorem dX6_followDrawn_187 : decode cX6_followDrawn 187 = .ok (.iload 7, 2) := by decide +kernel
theorem dX6_followDrawn_189 : decode cX6_followDrawn 189 = .ok (.aload_n 0, 1) := by decide +kernel
theorem dX6_followDrawn_190 : decode cX6_followDrawn 190 = .ok (.getfield 35, 3) := by decide +kernel
theorem dX6_followDrawn_193 : decode cX6_followDrawn 193 = .ok (.iload 7, 2) := by decide +kernel
theorem dX6_followDrawn_195 : decode cX6_followDrawn 195 = .ok (.iaload, 1) := by decide +kernel
theorem dX6_followDrawn_196 : decode cX6_followDrawn 196 = .ok (.iastore, 1) := by decide +kernel
theorem dX6_followDrawn_197 : decode cX6_followDrawn 197 = .ok (.iinc 7 1, 3) := by decide +kernel
theorem dX6_followDrawn_200 : decode cX6_followDrawn 200 = .ok (.goto (-24), 3) := by decide +kernel
theorem dX6_followDrawn_203 : decode cX6_followDrawn 203 = .ok (.iload 6, 2) := by decide +kernel
theorem dX6_followDrawn_205 : decode cX6_followDrawn 205 = .ok (.ireturn, 1) := by decide +kernel
theorem dX6_drawn_0 : decode cX6_drawn 0 = .ok (.iload_n 2, 1) := by decide +kernel
theorem dX6_drawn_1 : decode cX6_drawn 1 = .ok (.i2l, 1) := by decide +kernel
theorem dX6_drawn_2 : decode cX6_drawn 2 = .ok (.lconst 0, 1) := by decide +kernel
theorem dX6_drawn_3 : decode cX6_drawn 3 = .ok (.ldc2_w 404, 3) := by decide +kernel
theorem dX6_drawn_6 : decode cX6_drawn 6 = .ok (.invokestatic 73, 3) := by decide +kernel
theorem dX6_drawn_9 : decode cX6_drawn 9 = .ok (.ifCond .eq 12, 3) := by decide +kernel
theorem dX6_drawn_12 : decode cX6_drawn 12 = .ok (.aload_n 0, 1) := by decide +kernel
theorem dX6_drawn_13 : decode cX6_drawn 13 = .ok (.iload_n 1, 1) := by decide +kernel
theorem dX6_drawn_14 : decode cX6_drawn 14 = .ok (.iload_n 2, 1) := by decide +kernel
theorem dX6_drawn_15 : decode cX6_drawn 15 = .ok (.invokevirtual 427, 3) := by decide +kernel
theorem dX6_drawn_18 : decode cX6_drawn 18 = .ok (.goto 5, 3) := by decide +kernel
theorem dX6_drawn_21 : decode cX6_drawn 21 = .ok (.bipush (-2), 2) := by decide +kernel
theorem dX6_drawn_23 : decode cX6_drawn 23 = .ok (.ireturn, 1) := by decide +kernel
theorem dX6_chance_0 : decode cX6_chance 0 = .ok (.iload_n 2, 1) := by decide +kernel
theorem dX6_chance_1 : decode cX6_chance 1 = .ok (.i2l, 1) := by decide +kernel
theorem dX6_chance_2 : decode cX6_chance 2 = .ok (.lconst 1, 1) := by decide +kernel
theorem dX6_chance_3 : decode cX6_chance 3 = .ok (.ldc2_w 168, 3) := by decide +kernel
theorem dX6_chance_6 : decode cX6_chance 6 = .ok (.invokestatic 73, 3) := by decide +kernel
theorem dX6_chance_9 : decode cX6_chance 9 = .ok (.ifCond .eq 26, 3) := by decide +kernel
theorem dX6_chance_12 : decode cX6_chance 12 = .ok (.iload_n 3, 1) := by decide +kernel
theorem dX6_chance_13 : decode cX6_chance 13 = .ok (.i2l, 1) := by decide +kernel
theorem dX6_chance_14 : decode cX6_chance 14 = .ok (.lconst 0, 1) := by decide +kernel
theorem dX6_chance_15 : decode cX6_chance 15 = .ok (.ldc2_w 404, 3) := by decide +kernel
theorem dX6_chance_18 : decode cX6_chance 18 = .ok (.invokestatic 73, 3) := by decide +kernel
theorem dX6_chance_21 : decode cX6_chance 21 = .ok (.ifCond .eq 14, 3) := by decide +kernel
theorem dX6_chance_24 : decode cX6_chance 24 = .ok (.iload 4, 2) := by decide +kernel
theorem dX6_chance_26 : decode cX6_chance 26 = .ok (.i2l, 1) := by decide +kernel
theorem dX6_chance_27 : decode cX6_chance 27 = .ok (.lconst 0, 1) := by decide +kernel
theorem dX6_chance_28 : decode cX6_chance 28 = .ok (.lconst 1, 1) := by decide +kernel
theorem dX6_chance_29 : decode cX6_chance 29 = .ok (.invokestatic 73, 3) := by decide +kernel
theorem dX6_chance_32 : decode cX6_chance 32 = .ok (.ifCond .ne 7, 3) := by decide +kernel
theorem dX6_chance_35 : decode cX6_chance 35 = .ok (.ldc2_w 410, 3) := by decide +kernel
theorem dX6_chance_38 : decode cX6_chance 38 = .ok (.lreturn, 1) := by decide +kernel
theorem dX6_chance_39 : decode cX6_chance 39 = .ok (.lconst 0, 1) := by decide +kernel
theorem dX6_chance_40 : decode cX6_chance 40 = .ok (.lstore 5, 2) := by decide +kernel
theorem dX6_chance_42 : decode cX6_chance 42 = .ok (.iconst 0, 1) := by decide +kernel
theorem dX6_chance_43 : decode cX6_chance 43 = .ok (.istore 7, 2) := by decide +kernel
theorem dX6_chance_45 : decode cX6_chance 45 = .ok (.iload 7, 2) := by decide +kernel
theorem dX6_chance_47 : decode cX6_chance 47 = .ok (.iload_n 2, 1) := by decide +kernel
theorem dX6_chance_48 : decode cX6_chance 48 = .ok (.if_icmp .ge 33, 3) := by decide +kernel
theorem dX6_chance_51 : decode cX6_chance 51 = .ok (.lload 5, 2) := by decide +kernel
theorem dX6_chance_53 : decode cX6_chance 53 = .ok (.aload_n 0, 1) := by decide +kernel
theorem dX6_chance_54 : decode cX6_chance 54 = .ok (.iload_n 1, 1) := by decide +kernel
theorem dX6_chance_55 : decode cX6_chance 55 = .ok (.iload 7, 2) := by decide +kernel
theorem dX6_chance_57 : decode cX6_chance 57 = .ok (.iadd, 1) := by decide +kernel
theorem dX6_chance_58 : decode cX6_chance 58 = .ok (.bipush 6, 2) := by decide +kernel
theorem dX6_chance_60 : decode cX6_chance 60 = .ok (.invokevirtual 427, 3) := by decide +kernel
theorem dX6_chance_63 : decode cX6_chance 63 = .ok (.iload_n 3, 1) := by decide +kernel
theorem dX6_chance_64 : decode cX6_chance 64 = .ok (.if_icmp .lt 7, 3) := by decide +kernel
theorem dX6_chance_67 : decode cX6_chance 67 = .ok (.lconst 1, 1) := by decide +kernel
theorem dX6_chance_68 : decode cX6_chance 68 = .ok (.goto 4, 3) := by decide +kernel
theorem dX6_chance_71 : decode cX6_chance 71 = .ok (.lconst 0, 1) := by decide +kernel
theorem dX6_chance_72 : decode cX6_chance 72 = .ok (.ladd, 1) := by decide +kernel
theorem dX6_chance_73 : decode cX6_chance 73 = .ok (.lstore 5, 2) := by decide +kernel
theorem dX6_chance_75 : decode cX6_chance 75 = .ok (.iinc 7 1, 3) := by decide +kernel
theorem dX6_chance_78 : decode cX6_chance 78 = .ok (.goto (-33), 3) := by decide +kernel
theorem dX6_chance_81 : decode cX6_chance 81 = .ok (.lload 5, 2) := by decide +kernel
theorem dX6_chance_83 : decode cX6_chance 83 = .ok (.iload_n 2, 1) := by decide +kernel
theorem dX6_chance_84 : decode cX6_chance 84 = .ok (.i2l, 1) := by decide +kernel
theorem dX6_chance_85 : decode cX6_chance 85 = .ok (.iload 4, 2) := by decide +kernel
theorem dX6_chance_87 : decode cX6_chance 87 = .ok (.invokestatic 406, 3) := by decide +kernel
theorem dX6_chance_90 : decode cX6_chance 90 = .ok (.lreturn, 1) := by decide +kernel
theorem dX6_image_0 : decode cX6_image 0 = .ok (.iconst 0, 1) := by decide +kernel
theorem dX6_image_1 : decode cX6_image 1 = .ok (.istore_n 1, 1) := by decide +kernel
theorem dX6_image_2 : decode cX6_image 2 = .ok (.iload_n 1, 1) := by decide +kernel
theorem dX6_image_3 : decode cX6_image 3 = .ok (.bipush 12, 2) := by decide +kernel
theorem dX6_image_5 : decode cX6_image 5 = .ok (.if_icmp .ge 21, 3) := by decide +kernel
theorem dX6_image_8 : decode cX6_image 8 = .ok (.aload_n 0, 1) := by decide +kernel
theorem dX6_image_9 : decode cX6_image 9 = .ok (.getfield 38, 3) := by decide +kernel
theorem dX6_image_12 : decode cX6_image 12 = .ok (.iload_n 1, 1) := by decide +kernel
theorem dX6_image_13 : decode cX6_image 13 = .ok (.aload_n 0, 1) := by decide +kernel
theorem dX6_image_14 : decode cX6_image 14 = .ok (.getfield 23, 3) := by decide +kernel
theorem dX6_image_17 : decode cX6_image 17 = .ok (.iload_n 1, 1) := by decide +kernel
theorem dX6_image_18 : decode cX6_image 18 = .ok (.iaload, 1) := by decide +kernel
theorem dX6_image_19 : decode cX6_image 19 = .ok (.iastore, 1) := by decide +kernel
theorem dX6_image_20 : decode cX6_image 20 = .ok (.iinc 1 1, 3) := by decide +kernel
theorem dX6_image_23 : decode cX6_image 23 = .ok (.goto (-21), 3) := by decide +kernel
theorem dX6_image_26 : decode cX6_image 26 = .ok (.iconst 0, 1) := by decide +kernel
theorem dX6_image_27 : decode cX6_image 27 = .ok (.istore_n 1, 1) := by decide +kernel
theorem dX6_image_28 : decode cX6_image 28 = .ok (.iload_n 1, 1) := by decide +kernel
theorem dX6_image_29 : decode cX6_image 29 = .ok (.bipush 26, 2) := by decide +kernel
theorem dX6_image_31 : decode cX6_image 31 = .ok (.if_icmp .ge 21, 3) := by decide +kernel
theorem dX6_image_34 : decode cX6_image 34 = .ok (.aload_n 0, 1) := by decide +kernel
theorem dX6_image_35 : decode cX6_image 35 = .ok (.getfield 41, 3) := by decide +kernel
theorem dX6_image_38 : decode cX6_image 38 = .ok (.iload_n 1, 1) := by decide +kernel
theorem dX6_image_39 : decode cX6_image 39 = .ok (.aload_n 0, 1) := by decide +kernel
theorem dX6_image_40 : decode cX6_image 40 = .ok (.getfield 26, 3) := by decide +kernel
theorem dX6_image_43 : decode cX6_image 43 = .ok (.iload_n 1, 1) := by decide +kernel
theorem dX6_image_44 : decode cX6_image 44 = .ok (.iaload, 1) := by decide +kernel
theorem dX6_image_45 : decode cX6_image 45 = .ok (.iastore, 1) := by decide +kernel
theorem dX6_image_46 : decode cX6_image 46 = .ok (.iinc 1 1, 3) := by decide +kernel
theorem dX6_image_49 : decode cX6_image 49 = .ok (.goto (-21), 3) := by decide +kernel
theorem dX6_image_52 : decode cX6_image 52 = .ok (.iconst 0, 1) := by decide +kernel
theorem dX6_image_53 : decode cX6_image 53 = .ok (.istore_n 1, 1) := by decide +kernel
theorem dX6_image_54 : decode cX6_image 54 = .ok (.iload_n 1, 1) := by decide +kernel
theorem dX6_image_55 : decode cX6_image 55 = .ok (.bipush 10, 2) := by decide +kernel
theorem dX6_image_57 : decode cX6_image 57 = .ok (.if_icmp .ge 21, 3) := by decide +kernel
theorem dX6_image_60 : decode cX6_image 60 = .ok (.aload_n 0, 1) := by decide +kernel
theorem dX6_image_61 : decode cX6_image 61 = .ok (.getfield 44, 3) := by decide +kernel
theorem dX6_image_64 : decode cX6_image 64 = .ok (.iload_n 1, 1) := by decide +kernel
theorem dX6_image_65 : decode cX6_image 65 = .ok (.aload_n 0, 1) := by decide +kernel
theorem dX6_image_66 : decode cX6_image 66 = .ok (.getfield 32, 3) := by decide +kernel
theorem dX6_image_69 : decode cX6_image 69 = .ok (.iload_n 1, 1) := by decide +kernel
theorem dX6_image_70 : decode cX6_image 70 = .ok (.iaload, 1) := by decide +kernel
theorem dX6_image_71 : decode cX6_image 71 = .ok (.iastore, 1) := by decide +kernel
theorem dX6_image_72 : decode cX6_image 72 = .ok (.iinc 1 1, 3) := by decide +kernel
theorem dX6_image_75 : decode cX6_image 75 = .ok (.goto (-21), 3) := by decide +kernel
theorem dX6_image_78 : decode cX6_image 78 = .ok (.aload_n 0, 1) := by decide +kernel
theorem dX6_image_79 : decode cX6_image 79 = .ok (.aload_n 0, 1) := by decide +kernel
theorem dX6_image_80 : decode cX6_image 80 = .ok (.getfield 70, 3) := by decide +kernel
theorem dX6_image_83 : decode cX6_image 83 = .ok (.putfield 47, 3) := by decide +kernel
theorem dX6_image_86 : decode cX6_image 86 = .ok (.aload_n 0, 1) := by decide +kernel
theorem dX6_image_87 : decode cX6_image 87 = .ok (.aload_n 0, 1) := by decide +kernel
theorem dX6_image_88 : decode cX6_image 88 = .ok (.getfield 77, 3) := by decide +kernel
theorem dX6_image_91 : decode cX6_image 91 = .ok (.putfield 430, 3) := by decide +kernel
theorem dX6_image_94 : decode cX6_image 94 = .ok (.aload_n 0, 1) := by decide +kernel
theorem dX6_image_95 : decode cX6_image 95 = .ok (.aload_n 0, 1) := by decide +kernel
theorem dX6_image_96 : decode cX6_image 96 = .ok (.getfield 89, 3) := by decide +kernel
theorem dX6_image_99 : decode cX6_image 99 = .ok (.putfield 433, 3) := by decide +kernel
theorem dX6_image_102 : decode cX6_image 102 = .ok (.aload_n 0, 1) := by decide +kernel
theorem dX6_image_103 : decode cX6_image 103 = .ok (.aload_n 0, 1) := by decide +kernel
theorem dX6_image_104 : decode cX6_image 104 = .ok (.getfield 110, 3) := by decide +kernel
theorem dX6_image_107 : decode cX6_image 107 = .ok (.putfield 436, 3) := by decide +kernel
theorem dX6_image_110 : decode cX6_image 110 = .ok (.aload_n 0, 1) := by decide +kernel
theorem dX6_image_111 : decode cX6_image 111 = .ok (.aload_n 0, 1) := by decide +kernel
theorem dX6_image_112 : decode cX6_image 112 = .ok (.getfield 113, 3) := by decide +kernel
theorem dX6_image_115 : decode cX6_image 115 = .ok (.putfield 439, 3) := by decide +kernel
theorem dX6_image_118 : decode cX6_image 118 = .ok (.aload_n 0, 1) := by decide +kernel
theorem dX6_image_119 : decode cX6_image 119 = .ok (.aload_n 0, 1) := by decide +kernel
theorem dX6_image_120 : decode cX6_image 120 = .ok (.getfield 116, 3) := by decide +kernel
theorem dX6_image_123 : decode cX6_image 123 = .ok (.putfield 442, 3) := by decide +kernel
theorem dX6_image_126 : decode cX6_image 126 = .ok (.aload_n 0, 1) := by decide +kernel
theorem dX6_image_127 : decode cX6_image 127 = .ok (.getfield 70, 3) := by decide +kernel
theorem dX6_image_130 : decode cX6_image 130 = .ok (.ireturn, 1) := by decide +kernel
theorem dX6_back_0 : decode cX6_back 0 = .ok (.aload_n 0, 1) := by decide +kernel
theorem dX6_back_1 : decode cX6_back 1 = .ok (.getfield 47, 3) := by decide +kernel
theorem dX6_back_4 : decode cX6_back 4 = .ok (.iconst (-1), 1) := by decide +kernel
theorem dX6_back_5 : decode cX6_back 5 = .ok (.if_icmp .ne 6, 3) := by decide +kernel
theorem dX6_back_8 : decode cX6_back 8 = .ok (.bipush (-3), 2) := by decide +kernel
theorem dX6_back_10 : decode cX6_back 10 = .ok (.ireturn, 1) := by decide +kernel
theorem dX6_back_11 : decode cX6_back 11 = .ok (.iconst 0, 1) := by decide +kernel
theorem dX6_back_12 : decode cX6_back 12 = .ok (.istore_n 1, 1) := by decide +kernel
theorem dX6_back_13 : decode cX6_back 13 = .ok (.iload_n 1, 1) := by decide +kernel
theorem dX6_back_14 : decode cX6_back 14 = .ok (.bipush 12, 2) := by decide +kernel
theorem dX6_back_16 : decode cX6_back 16 = .ok (.if_icmp .ge 21, 3) := by decide +kernel
theorem dX6_back_19 : decode cX6_back 19 = .ok (.aload_n 0, 1) := by decide +kernel
theorem dX6_back_20 : decode cX6_back 20 = .ok (.getfield 23, 3) := by decide +kernel
theorem dX6_back_23 : decode cX6_back 23 = .ok (.iload_n 1, 1) := by decide +kernel
theorem dX6_back_24 : decode cX6_back 24 = .ok (.aload_n 0, 1) := by decide +kernel
theorem dX6_back_25 : decode cX6_back 25 = .ok (.getfield 38, 3) := by decide +kernel
theorem dX6_back_28 : decode cX6_back 28 = .ok (.iload_n 1, 1) := by decide +kernel
theorem dX6_back_29 : decode cX6_back 29 = .ok (.iaload, 1) := by decide +kernel
theorem dX6_back_30 : decode cX6_back 30 = .ok (.iastore, 1) := by decide +kernel
theorem dX6_back_31 : decode cX6_back 31 = .ok (.iinc 1 1, 3) := by decide +kernel
theorem dX6_back_34 : decode cX6_back 34 = .ok (.goto (-21), 3) := by decide +kernel
theorem dX6_back_37 : decode cX6_back 37 = .ok (.iconst 0, 1) := by decide +kernel
theorem dX6_back_38 : decode cX6_back 38 = .ok (.istore_n 1, 1) := by decide +kernel
theorem dX6_back_39 : decode cX6_back 39 = .ok (.iload_n 1, 1) := by decide +kernel
theorem dX6_back_40 : decode cX6_back 40 = .ok (.bipush 26, 2) := by decide +kernel
theorem dX6_back_42 : decode cX6_back 42 = .ok (.if_icmp .ge 21, 3) := by decide +kernel
theorem dX6_back_45 : decode cX6_back 45 = .ok (.aload_n 0, 1) := by decide +kernel
theorem dX6_back_46 : decode cX6_back 46 = .ok (.getfield 26, 3) := by decide +kernel
theorem dX6_back_49 : decode cX6_back 49 = .ok (.iload_n 1, 1) := by decide +kernel
theorem dX6_back_50 : decode cX6_back 50 = .ok (.aload_n 0, 1) := by decide +kernel
theorem dX6_back_51 : decode cX6_back 51 = .ok (.getfield 41, 3) := by decide +kernel
theorem dX6_back_54 : decode cX6_back 54 = .ok (.iload_n 1, 1) := by decide +kernel
theorem dX6_back_55 : decode cX6_back 55 = .ok (.iaload, 1) := by decide +kernel
theorem dX6_back_56 : decode cX6_back 56 = .ok (.iastore, 1) := by decide +kernel
theorem dX6_back_57 : decode cX6_back 57 = .ok (.iinc 1 1, 3) := by decide +kernel
theorem dX6_back_60 : decode cX6_back 60 = .ok (.goto (-21), 3) := by decide +kernel
theorem dX6_back_63 : decode cX6_back 63 = .ok (.iconst 0, 1) := by decide +kernel
theorem dX6_back_64 : decode cX6_back 64 = .ok (.istore_n 1, 1) := by decide +kernel
theorem dX6_back_65 : decode cX6_back 65 = .ok (.iload_n 1, 1) := by decide +kernel
theorem dX6_back_66 : decode cX6_back 66 = .ok (.bipush 10, 2) := by decide +kernel
theorem dX6_back_68 : decode cX6_back 68 = .ok (.if_icmp .ge 21, 3) := by decide +kernel
theorem dX6_back_71 : decode cX6_back 71 = .ok (.aload_n 0, 1) := by decide +kernel
theorem dX6_back_72 : decode cX6_back 72 = .ok (.getfield 32, 3) := by decide +kernel
theorem dX6_back_75 : decode cX6_back 75 = .ok (.iload_n 1, 1) := by decide +kernel
theorem dX6_back_76 : decode cX6_back 76 = .ok (.aload_n 0, 1) := by decide +kernel
theorem dX6_back_77 : decode cX6_back 77 = .ok (.getfield 44, 3) := by decide +kernel
theorem dX6_back_80 : decode cX6_back 80 = .ok (.iload_n 1, 1) := by decide +kernel
theorem dX6_back_81 : decode cX6_back 81 = .ok (.iaload, 1) := by decide +kernel
theorem dX6_back_82 : decode cX6_back 82 = .ok (.iastore, 1) := by decide +kernel
theorem dX6_back_83 : decode cX6_back 83 = .ok (.iinc 1 1, 3) := by decide +kernel
theorem dX6_back_86 : decode cX6_back 86 = .ok (.goto (-21), 3) := by decide +kernel
theorem dX6_back_89 : decode cX6_back 89 = .ok (.aload_n 0, 1) := by decide +kernel
theorem dX6_back_90 : decode cX6_back 90 = .ok (.aload_n 0, 1) := by decide +kernel
theorem dX6_back_91 : decode cX6_back 91 = .ok (.getfield 47, 3) := by decide +kernel
theorem dX6_back_94 : decode cX6_back 94 = .ok (.putfield 70, 3) := by decide +kernel
theorem dX6_back_97 : decode cX6_back 97 = .ok (.aload_n 0, 1) := by decide +kernel
theorem dX6_back_98 : decode cX6_back 98 = .ok (.aload_n 0, 1) := by decide +kernel
theorem dX6_back_99 : decode cX6_back 99 = .ok (.getfield 430, 3) := by decide +kernel
theorem dX6_back_102 : decode cX6_back 102 = .ok (.putfield 77, 3) := by decide +kernel
theorem dX6_back_105 : decode cX6_back 105 = .ok (.aload_n 0, 1) := by decide +kernel
theorem dX6_back_106 : decode cX6_back 106 = .ok (.aload_n 0, 1) := by decide +kernel
theorem dX6_back_107 : decode cX6_back 107 = .ok (.getfield 433, 3) := by decide +kernel
theorem dX6_back_110 : decode cX6_back 110 = .ok (.putfield 89, 3) := by decide +kernel
theorem dX6_back_113 : decode cX6_back 113 = .ok (.aload_n 0, 1) := by decide +kernel
theorem dX6_back_114 : decode cX6_back 114 = .ok (.aload_n 0, 1) := by decide +kernel
theorem dX6_back_115 : decode cX6_back 115 = .ok (.getfield 436, 3) := by decide +kernel
theorem dX6_back_118 : decode cX6_back 118 = .ok (.putfield 110, 3) := by decide +kernel
theorem dX6_back_121 : decode cX6_back 121 = .ok (.aload_n 0, 1) := by decide +kernel
theorem dX6_back_122 : decode cX6_back 122 = .ok (.aload_n 0, 1) := by decide +kernel
theorem dX6_back_123 : decode cX6_back 123 = .ok (.getfield 439, 3) := by decide +kernel
theorem dX6_back_126 : decode cX6_back 126 = .ok (.putfield 113, 3) := by decide +kernel
theorem dX6_back_129 : decode cX6_back 129 = .ok (.aload_n 0, 1) := by decide +kernel
theorem dX6_back_130 : decode cX6_back 130 = .ok (.aload_n 0, 1) := by decide +kernel
theorem dX6_back_131 : decode cX6_back 131 = .ok (.getfield 442, 3) := by decide +kernel
theorem dX6_back_134 : decode cX6_back 134 = .ok (.putfield 116, 3) := by decide +kernel
theorem dX6_back_137 : decode cX6_back 137 = .ok (.aload_n 0, 1) := by decide +kernel
theorem dX6_back_138 : decode cX6_back 138 = .ok (.getfield 70, 3) := by decide +kernel
theorem dX6_back_141 : decode cX6_back 141 = .ok (.ireturn, 1) := by decide +kernel
theorem dX6_count_0 : decode cX6_count 0 = .ok (.iload_n 1, 1) := by decide +kernel
theorem dX6_count_1 : decode cX6_count 1 = .ok (.i2l, 1) := by decide +kernel
theorem dX6_count_2 : decode cX6_count 2 = .ok (.lconst 0, 1) := by decide +kernel
theorem dX6_count_3 : decode cX6_count 3 = .ok (.ldc2_w 92, 3) := by decide +kernel
theorem dX6_count_6 : decode cX6_count 6 = .ok (.invokestatic 73, 3) := by decide +kernel
theorem dX6_count_9 : decode cX6_count 9 = .ok (.ifCond .ne 6, 3) := by decide +kernel
theorem dX6_count_12 : decode cX6_count 12 = .ok (.bipush (-2), 2) := by decide +kernel
theorem dX6_count_14 : decode cX6_count 14 = .ok (.ireturn, 1) := by decide +kernel
theorem dX6_count_15 : decode cX6_count 15 = .ok (.iload_n 1, 1) := by decide +kernel
theorem dX6_count_16 : decode cX6_count 16 = .ok (.ifCond .ne 10, 3) := by decide +kernel
theorem dX6_count_19 : decode cX6_count 19 = .ok (.aload_n 0, 1) := by decide +kernel
theorem dX6_count_20 : decode cX6_count 20 = .ok (.getfield 70, 3) := by decide +kernel
theorem dX6_count_23 : decode cX6_count 23 = .ok (.goto 55, 3) := by decide +kernel
theorem dX6_count_26 : decode cX6_count 26 = .ok (.iload_n 1, 1) := by decide +kernel
theorem dX6_count_27 : decode cX6_count 27 = .ok (.iconst 1, 1) := by decide +kernel
theorem dX6_count_28 : decode cX6_count 28 = .ok (.if_icmp .ne 10, 3) := by decide +kernel
theorem dX6_count_31 : decode cX6_count 31 = .ok (.aload_n 0, 1) := by decide +kernel
theorem dX6_count_32 : decode cX6_count 32 = .ok (.getfield 77, 3) := by decide +kernel
theorem dX6_count_35 : decode cX6_count 35 = .ok (.goto 43, 3) := by decide +kernel
theorem dX6_count_38 : decode cX6_count 38 = .ok (.iload_n 1, 1) := by decide +kernel
theorem dX6_count_39 : decode cX6_count 39 = .ok (.iconst 2, 1) := by decide +kernel
theorem dX6_count_40 : decode cX6_count 40 = .ok (.if_icmp .ne 10, 3) := by decide +kernel
theorem dX6_count_43 : decode cX6_count 43 = .ok (.aload_n 0, 1) := by decide +kernel
theorem dX6_count_44 : decode cX6_count 44 = .ok (.getfield 89, 3) := by decide +kernel
theorem dX6_count_47 : decode cX6_count 47 = .ok (.goto 31, 3) := by decide +kernel
theorem dX6_count_50 : decode cX6_count 50 = .ok (.iload_n 1, 1) := by decide +kernel
theorem dX6_count_51 : decode cX6_count 51 = .ok (.iconst 3, 1) := by decide +kernel
theorem dX6_count_52 : decode cX6_count 52 = .ok (.if_icmp .ne 10, 3) := by decide +kernel
theorem dX6_count_55 : decode cX6_count 55 = .ok (.aload_n 0, 1) := by decide +kernel
theorem dX6_count_56 : decode cX6_count 56 = .ok (.getfield 67, 3) := by decide +kernel
theorem dX6_count_59 : decode cX6_count 59 = .ok (.goto 19, 3) := by decide +kernel
theorem dX6_count_62 : decode cX6_count 62 = .ok (.iload_n 1, 1) := by decide +kernel
theorem dX6_count_63 : decode cX6_count 63 = .ok (.iconst 4, 1) := by decide +kernel
theorem dX6_count_64 : decode cX6_count 64 = .ok (.if_icmp .ne 10, 3) := by decide +kernel
theorem dX6_count_67 : decode cX6_count 67 = .ok (.aload_n 0, 1) := by decide +kernel
theorem dX6_count_68 : decode cX6_count 68 = .ok (.getfield 135, 3) := by decide +kernel
theorem dX6_count_71 : decode cX6_count 71 = .ok (.goto 7, 3) := by decide +kernel
theorem dX6_count_74 : decode cX6_count 74 = .ok (.aload_n 0, 1) := by decide +kernel
theorem dX6_count_75 : decode cX6_count 75 = .ok (.getfield 116, 3) := by decide +kernel
theorem dX6_count_78 : decode cX6_count 78 = .ok (.ireturn, 1) := by decide +kernel
theorem dX6_isSheet_0 : decode cX6_isSheet 0 = .ok (.iload_n 0, 1) := by decide +kernel
theorem dX6_isSheet_1 : decode cX6_isSheet 1 = .ok (.i2l, 1) := by decide +kernel
theorem dX6_isSheet_2 : decode cX6_isSheet 2 = .ok (.lconst 0, 1) := by decide +kernel
theorem dX6_isSheet_3 : decode cX6_isSheet 3 = .ok (.ldc2_w 445, 3) := by decide +kernel
theorem dX6_isSheet_6 : decode cX6_isSheet 6 = .ok (.invokestatic 73, 3) := by decide +kernel
theorem dX6_isSheet_9 : decode cX6_isSheet 9 = .ok (.ireturn, 1) := by decide +kernel
theorem dX6_sheet_0 : decode cX6_sheet 0 = .ok (.iload_n 1, 1) := by decide +kernel
theorem dX6_sheet_1 : decode cX6_sheet 1 = .ok (.invokestatic 415, 3) := by decide +kernel
theorem dX6_sheet_4 : decode cX6_sheet 4 = .ok (.ifCond .eq 27, 3) := by decide +kernel
theorem dX6_sheet_7 : decode cX6_sheet 7 = .ok (.iload_n 2, 1) := by decide +kernel
theorem dX6_sheet_8 : decode cX6_sheet 8 = .ok (.i2l, 1) := by decide +kernel
theorem dX6_sheet_9 : decode cX6_sheet 9 = .ok (.ldc2_w 447, 3) := by decide +kernel
theorem dX6_sheet_12 : decode cX6_sheet 12 = .ok (.ldc2_w 366, 3) := by decide +kernel
theorem dX6_sheet_15 : decode cX6_sheet 15 = .ok (.invokestatic 73, 3) := by decide +kernel
theorem dX6_sheet_18 : decode cX6_sheet 18 = .ok (.ifCond .eq 13, 3) := by decide +kernel
theorem dX6_sheet_21 : decode cX6_sheet 21 = .ok (.iload_n 2, 1) := by decide +kernel
theorem dX6_sheet_22 : decode cX6_sheet 22 = .ok (.ifCond .lt 12, 3) := by decide +kernel
theorem dX6_sheet_25 : decode cX6_sheet 25 = .ok (.iload_n 3, 1) := by decide +kernel
theorem dX6_sheet_26 : decode cX6_sheet 26 = .ok (.bipush 40, 2) := by decide +kernel
theorem dX6_sheet_28 : decode cX6_sheet 28 = .ok (.if_icmp .le 6, 3) := by decide +kernel
theorem dX6_sheet_31 : decode cX6_sheet 31 = .ok (.bipush (-2), 2) := by decide +kernel
theorem dX6_sheet_33 : decode cX6_sheet 33 = .ok (.ireturn, 1) := by decide +kernel
theorem dX6_sheet_34 : decode cX6_sheet 34 = .ok (.iload_n 2, 1) := by decide +kernel
theorem dX6_sheet_35 : decode cX6_sheet 35 = .ok (.ifCond .lt 10, 3) := by decide +kernel
theorem dX6_sheet_38 : decode cX6_sheet 38 = .ok (.iload_n 3, 1) := by decide +kernel
theorem dX6_sheet_39 : decode cX6_sheet 39 = .ok (.ifCond .ge 6, 3) := by decide +kernel
theorem dX6_sheet_42 : decode cX6_sheet 42 = .ok (.bipush (-14), 2) := by decide +kernel
theorem dX6_sheet_44 : decode cX6_sheet 44 = .ok (.ireturn, 1) := by decide +kernel
theorem dX6_sheet_45 : decode cX6_sheet 45 = .ok (.aload_n 0, 1) := by decide +kernel
theorem dX6_sheet_46 : decode cX6_sheet 46 = .ok (.getfield 50, 3) := by decide +kernel
theorem dX6_sheet_49 : decode cX6_sheet 49 = .ok (.iload_n 1, 1) := by decide +kernel
theorem dX6_sheet_50 : decode cX6_sheet 50 = .ok (.iload_n 2, 1) := by decide +kernel
theorem dX6_sheet_51 : decode cX6_sheet 51 = .ok (.ifCond .lt 7, 3) := by decide +kernel
theorem dX6_sheet_54 : decode cX6_sheet 54 = .ok (.iconst 1, 1) := by decide +kernel
theorem dX6_sheet_55 : decode cX6_sheet 55 = .ok (.goto 4, 3) := by decide +kernel
theorem dX6_sheet_58 : decode cX6_sheet 58 = .ok (.iconst 0, 1) := by decide +kernel
theorem dX6_sheet_59 : decode cX6_sheet 59 = .ok (.bastore, 1) := by decide +kernel
theorem dX6_sheet_60 : decode cX6_sheet 60 = .ok (.aload_n 0, 1) := by decide +kernel
theorem dX6_sheet_61 : decode cX6_sheet 61 = .ok (.getfield 54, 3) := by decide +kernel
theorem dX6_sheet_64 : decode cX6_sheet 64 = .ok (.iload_n 1, 1) := by decide +kernel
theorem dX6_sheet_65 : decode cX6_sheet 65 = .ok (.iload_n 2, 1) := by decide +kernel
theorem dX6_sheet_66 : decode cX6_sheet 66 = .ok (.iastore, 1) := by decide +kernel
theorem dX6_sheet_67 : decode cX6_sheet 67 = .ok (.aload_n 0, 1) := by decide +kernel
theorem dX6_sheet_68 : decode cX6_sheet 68 = .ok (.getfield 57, 3) := by decide +kernel
theorem dX6_sheet_71 : decode cX6_sheet 71 = .ok (.iload_n 1, 1) := by decide +kernel
theorem dX6_sheet_72 : decode cX6_sheet 72 = .ok (.iload_n 3, 1) := by decide +kernel
theorem dX6_sheet_73 : decode cX6_sheet 73 = .ok (.iastore, 1) := by decide +kernel
theorem dX6_sheet_74 : decode cX6_sheet 74 = .ok (.iconst 0, 1) := by decide +kernel
theorem dX6_sheet_75 : decode cX6_sheet 75 = .ok (.istore 4, 2) := by decide +kernel
theorem dX6_sheet_77 : decode cX6_sheet 77 = .ok (.iload 4, 2) := by decide +kernel
theorem dX6_sheet_79 : decode cX6_sheet 79 = .ok (.iload_n 3, 1) := by decide +kernel
theorem dX6_sheet_80 : decode cX6_sheet 80 = .ok (.if_icmp .ge 26, 3) := by decide +kernel
theorem dX6_sheet_83 : decode cX6_sheet 83 = .ok (.iload_n 2, 1) := by decide +kernel
theorem dX6_sheet_84 : decode cX6_sheet 84 = .ok (.ifCond .lt 22, 3) := by decide +kernel
theorem dX6_sheet_87 : decode cX6_sheet 87 = .ok (.aload_n 0, 1) := by decide +kernel
theorem dX6_sheet_88 : decode cX6_sheet 88 = .ok (.getfield 60, 3) := by decide +kernel
theorem dX6_sheet_91 : decode cX6_sheet 91 = .ok (.bipush 40, 2) := by decide +kernel
theorem dX6_sheet_93 : decode cX6_sheet 93 = .ok (.iload_n 1, 1) := by decide +kernel
theorem dX6_sheet_94 : decode cX6_sheet 94 = .ok (.imul, 1) := by decide +kernel
theorem dX6_sheet_95 : decode cX6_sheet 95 = .ok (.iload 4, 2) := by decide +kernel
theorem dX6_sheet_97 : decode cX6_sheet 97 = .ok (.iadd, 1) := by decide +kernel
theorem dX6_sheet_98 : decode cX6_sheet 98 = .ok (.iconst 0, 1) := by decide +kernel
theorem dX6_sheet_99 : decode cX6_sheet 99 = .ok (.iastore, 1) := by decide +kernel
theorem dX6_sheet_100 : decode cX6_sheet 100 = .ok (.iinc 4 1, 3) := by decide +kernel
theorem dX6_sheet_103 : decode cX6_sheet 103 = .ok (.goto (-26), 3) := by decide +kernel
theorem dX6_sheet_106 : decode cX6_sheet 106 = .ok (.iconst 1, 1) := by decide +kernel
theorem dX6_sheet_107 : decode cX6_sheet 107 = .ok (.ireturn, 1) := by decide +kernel
theorem dX6_cell_0 : decode cX6_cell 0 = .ok (.iload_n 1, 1) := by decide +kernel
theorem dX6_cell_1 : decode cX6_cell 1 = .ok (.invokestatic 415, 3) := by decide +kernel
theorem dX6_cell_4 : decode cX6_cell 4 = .ok (.ifCond .ne 6, 3) := by decide +kernel
theorem dX6_cell_7 : decode cX6_cell 7 = .ok (.bipush (-2), 2) := by decide +kernel
theorem dX6_cell_9 : decode cX6_cell 9 = .ok (.ireturn, 1) := by decide +kernel
theorem dX6_cell_10 : decode cX6_cell 10 = .ok (.aload_n 0, 1) := by decide +kernel
theorem dX6_cell_11 : decode cX6_cell 11 = .ok (.getfield 50, 3) := by decide +kernel
theorem dX6_cell_14 : decode cX6_cell 14 = .ok (.iload_n 1, 1) := by decide +kernel
theorem dX6_cell_15 : decode cX6_cell 15 = .ok (.baload, 1) := by decide +kernel
theorem dX6_cell_16 : decode cX6_cell 16 = .ok (.ifCond .ne 6, 3) := by decide +kernel
theorem dX6_cell_19 : decode cX6_cell 19 = .ok (.bipush (-11), 2) := by decide +kernel
theorem dX6_cell_21 : decode cX6_cell 21 = .ok (.ireturn, 1) := by decide +kernel
theorem dX6_cell_22 : decode cX6_cell 22 = .ok (.iload_n 2, 1) := by decide +kernel
theorem dX6_cell_23 : decode cX6_cell 23 = .ok (.i2l, 1) := by decide +kernel
theorem dX6_cell_24 : decode cX6_cell 24 = .ok (.lconst 0, 1) := by decide +kernel
theorem dX6_cell_25 : decode cX6_cell 25 = .ok (.aload_n 0, 1) := by decide +kernel
theorem dX6_cell_26 : decode cX6_cell 26 = .ok (.getfield 57, 3) := by decide +kernel
theorem dX6_cell_29 : decode cX6_cell 29 = .ok (.iload_n 1, 1) := by decide +kernel
theorem dX6_cell_30 : decode cX6_cell 30 = .ok (.iaload, 1) := by decide +kernel
theorem dX6_cell_31 : decode cX6_cell 31 = .ok (.iconst 1, 1) := by decide +kernel
theorem dX6_cell_32 : decode cX6_cell 32 = .ok (.isub, 1) := by decide +kernel
theorem dX6_cell_33 : decode cX6_cell 33 = .ok (.i2l, 1) := by decide +kernel
theorem dX6_cell_34 : decode cX6_cell 34 = .ok (.invokestatic 73, 3) := by decide +kernel
theorem dX6_cell_37 : decode cX6_cell 37 = .ok (.ifCond .ne 6, 3) := by decide +kernel
theorem dX6_cell_40 : decode cX6_cell 40 = .ok (.bipush (-12), 2) := by decide +kernel
theorem dX6_cell_42 : decode cX6_cell 42 = .ok (.ireturn, 1) := by decide +kernel
theorem dX6_cell_43 : decode cX6_cell 43 = .ok (.aload_n 0, 1) := by decide +kernel
theorem dX6_cell_44 : decode cX6_cell 44 = .ok (.getfield 60, 3) := by decide +kernel
theorem dX6_cell_47 : decode cX6_cell 47 = .ok (.bipush 40, 2) := by decide +kernel
theorem dX6_cell_49 : decode cX6_cell 49 = .ok (.iload_n 1, 1) := by decide +kernel
theorem dX6_cell_50 : decode cX6_cell 50 = .ok (.imul, 1) := by decide +kernel
theorem dX6_cell_51 : decode cX6_cell 51 = .ok (.iload_n 2, 1) := by decide +kernel
theorem dX6_cell_52 : decode cX6_cell 52 = .ok (.iadd, 1) := by decide +kernel
theorem dX6_cell_53 : decode cX6_cell 53 = .ok (.aload_n 0, 1) := by decide +kernel
theorem dX6_cell_54 : decode cX6_cell 54 = .ok (.getfield 54, 3) := by decide +kernel
theorem dX6_cell_57 : decode cX6_cell 57 = .ok (.iload_n 1, 1) := by decide +kernel
theorem dX6_cell_58 : decode cX6_cell 58 = .ok (.iaload, 1) := by decide +kernel
theorem dX6_cell_59 : decode cX6_cell 59 = .ok (.ifCond .ne 8, 3) := by decide +kernel
theorem dX6_cell_62 : decode cX6_cell 62 = .ok (.iload_n 3, 1) := by decide +kernel
theorem dX6_cell_63 : decode cX6_cell 63 = .ok (.i2b, 1) := by decide +kernel
theorem dX6_cell_64 : decode cX6_cell 64 = .ok (.goto 19, 3) := by decide +kernel
theorem dX6_cell_67 : decode cX6_cell 67 = .ok (.aload_n 0, 1) := by decide +kernel
theorem dX6_cell_68 : decode cX6_cell 68 = .ok (.getfield 54, 3) := by decide +kernel
theorem dX6_cell_71 : decode cX6_cell 71 = .ok (.iload_n 1, 1) := by decide +kernel
theorem dX6_cell_72 : decode cX6_cell 72 = .ok (.iaload, 1) := by decide +kernel
theorem dX6_cell_73 : decode cX6_cell 73 = .ok (.iconst 1, 1) := by decide +kernel
theorem dX6_cell_74 : decode cX6_cell 74 = .ok (.if_icmp .ne 8, 3) := by decide +kernel
theorem dX6_cell_77 : decode cX6_cell 77 = .ok (.iload_n 3, 1) := by decide +kernel
theorem dX6_cell_78 : decode cX6_cell 78 = .ok (.i2s, 1) := by decide +kernel
theorem dX6_cell_79 : decode cX6_cell 79 = .ok (.goto 4, 3) := by decide +kernel
theorem dX6_cell_82 : decode cX6_cell 82 = .ok (.iload_n 3, 1) := by decide +kernel
theorem dX6_cell_83 : decode cX6_cell 83 = .ok (.iastore, 1) := by decide +kernel
theorem dX6_cell_84 : decode cX6_cell 84 = .ok (.iconst 1, 1) := by decide +kernel
theorem dX6_cell_85 : decode cX6_cell 85 = .ok (.ireturn, 1) := by decide +kernel
theorem dX6_copy_0 : decode cX6_copy 0 = .ok (.iload_n 1, 1) := by decide +kernel
theorem dX6_copy_1 : decode cX6_copy 1 = .ok (.invokestatic 415, 3) := by decide +kernel
theorem dX6_copy_4 : decode cX6_copy 4 = .ok (.ifCond .eq 10, 3) := by decide +kernel
theorem dX6_copy_7 : decode cX6_copy 7 = .ok (.iload_n 3, 1) := by decide +kernel
theorem dX6_copy_8 : decode cX6_copy 8 = .ok (.invokestatic 415, 3) := by decide +kernel
theorem dX6_copy_11 : decode cX6_copy 11 = .ok (.ifCond .ne 6, 3) := by decide +kernel
theorem dX6_copy_14 : decode cX6_copy 14 = .ok (.bipush (-2), 2) := by decide +kernel
theorem dX6_copy_16 : decode cX6_copy 16 = .ok (.ireturn, 1) := by decide +kernel
theorem dX6_copy_17 : decode cX6_copy 17 = .ok (.aload_n 0, 1) := by decide +kernel
theorem dX6_copy_18 : decode cX6_copy 18 = .ok (.getfield 50, 3) := by decide +kernel
theorem dX6_copy_21 : decode cX6_copy 21 = .ok (.iload_n 1, 1) := by decide +kernel
theorem dX6_copy_22 : decode cX6_copy 22 = .ok (.baload, 1) := by decide +kernel
theorem dX6_copy_23 : decode cX6_copy 23 = .ok (.ifCond .eq 12, 3) := by decide +kernel
theorem dX6_copy_26 : decode cX6_copy 26 = .ok (.aload_n 0, 1) := by decide +kernel
theorem dX6_copy_27 : decode cX6_copy 27 = .ok (.getfield 50, 3) := by decide +kernel
theorem dX6_copy_30 : decode cX6_copy 30 = .ok (.iload_n 3, 1) := by decide +kernel
theorem dX6_copy_31 : decode cX6_copy 31 = .ok (.baload, 1) := by decide +kernel
theorem dX6_copy_32 : decode cX6_copy 32 = .ok (.ifCond .ne 6, 3) := by decide +kernel
theorem dX6_copy_35 : decode cX6_copy 35 = .ok (.bipush (-11), 2) := by decide +kernel
theorem dX6_copy_37 : decode cX6_copy 37 = .ok (.ireturn, 1) := by decide +kernel
theorem dX6_copy_38 : decode cX6_copy 38 = .ok (.aload_n 0, 1) := by decide +kernel
theorem dX6_copy_39 : decode cX6_copy 39 = .ok (.getfield 54, 3) := by decide +kernel
theorem dX6_copy_42 : decode cX6_copy 42 = .ok (.iload_n 1, 1) := by decide +kernel
theorem dX6_copy_43 : decode cX6_copy 43 = .ok (.iaload, 1) := by decide +kernel
theorem dX6_copy_44 : decode cX6_copy 44 = .ok (.aload_n 0, 1) := by decide +kernel
theorem dX6_copy_45 : decode cX6_copy 45 = .ok (.getfield 54, 3) := by decide +kernel
theorem dX6_copy_48 : decode cX6_copy 48 = .ok (.iload_n 3, 1) := by decide +kernel
theorem dX6_copy_49 : decode cX6_copy 49 = .ok (.iaload, 1) := by decide +kernel
theorem dX6_copy_50 : decode cX6_copy 50 = .ok (.if_icmp .eq 6, 3) := by decide +kernel
theorem dX6_copy_53 : decode cX6_copy 53 = .ok (.bipush (-13), 2) := by decide +kernel
theorem dX6_copy_55 : decode cX6_copy 55 = .ok (.ireturn, 1) := by decide +kernel
theorem dX6_copy_56 : decode cX6_copy 56 = .ok (.iload 5, 2) := by decide +kernel
theorem dX6_copy_58 : decode cX6_copy 58 = .ok (.ifCond .lt 39, 3) := by decide +kernel
theorem dX6_copy_61 : decode cX6_copy 61 = .ok (.iload_n 2, 1) := by decide +kernel
theorem dX6_copy_62 : decode cX6_copy 62 = .ok (.ifCond .lt 35, 3) := by decide +kernel
theorem dX6_copy_65 : decode cX6_copy 65 = .ok (.iload 4, 2) := by decide +kernel
theorem dX6_copy_67 : decode cX6_copy 67 = .ok (.ifCond .lt 30, 3) := by decide +kernel
theorem dX6_copy_70 : decode cX6_copy 70 = .ok (.iload_n 2, 1) := by decide +kernel
theorem dX6_copy_71 : decode cX6_copy 71 = .ok (.aload_n 0, 1) := by decide +kernel
theorem dX6_copy_72 : decode cX6_copy 72 = .ok (.getfield 57, 3) := by decide +kernel
theorem dX6_copy_75 : decode cX6_copy 75 = .ok (.iload_n 1, 1) := by decide +kernel
theorem dX6_copy_76 : decode cX6_copy 76 = .ok (.iaload, 1) := by decide +kernel
theorem dX6_copy_77 : decode cX6_copy 77 = .ok (.iload 5, 2) := by decide +kernel
theorem dX6_copy_79 : decode cX6_copy 79 = .ok (.isub, 1) := by decide +kernel
theorem dX6_copy_80 : decode cX6_copy 80 = .ok (.if_icmp .gt 17, 3) := by decide +kernel
theorem dX6_copy_83 : decode cX6_copy 83 = .ok (.iload 4, 2) := by decide +kernel
theorem dX6_copy_85 : decode cX6_copy 85 = .ok (.aload_n 0, 1) := by decide +kernel
theorem dX6_copy_86 : decode cX6_copy 86 = .ok (.getfield 57, 3) := by decide +kernel
theorem dX6_copy_89 : decode cX6_copy 89 = .ok (.iload_n 3, 1) := by decide +kernel
theorem dX6_copy_90 : decode cX6_copy 90 = .ok (.iaload, 1) := by decide +kernel
theorem dX6_copy_91 : decode cX6_copy 91 = .ok (.iload 5, 2) := by decide +kernel
theorem dX6_copy_93 : decode cX6_copy 93 = .ok (.isub, 1) := by decide +kernel
theorem dX6_copy_94 : decode cX6_copy 94 = .ok (.if_icmp .le 6, 3) := by decide +kernel
theorem dX6_copy_97 : decode cX6_copy 97 = .ok (.bipush (-12), 2) := by decide +kernel
theorem dX6_copy_99 : decode cX6_copy 99 = .ok (.ireturn, 1) := by decide +kernel
theorem dX6_copy_100 : decode cX6_copy 100 = .ok (.iload_n 1, 1) := by decide +kernel
theorem dX6_copy_101 : decode cX6_copy 101 = .ok (.iload_n 3, 1) := by decide +kernel
theorem dX6_copy_102 : decode cX6_copy 102 = .ok (.if_icmp .ne 13, 3) := by decide +kernel
theorem dX6_copy_105 : decode cX6_copy 105 = .ok (.iload_n 2, 1) := by decide +kernel
theorem dX6_copy_106 : decode cX6_copy 106 = .ok (.iload 4, 2) := by decide +kernel
theorem dX6_copy_108 : decode cX6_copy 108 = .ok (.if_icmp .ge 7, 3) := by decide +kernel
theorem dX6_copy_111 : decode cX6_copy 111 = .ok (.iconst 1, 1) := by decide +kernel
theorem dX6_copy_112 : decode cX6_copy 112 = .ok (.goto 4, 3) := by decide +kernel
theorem dX6_copy_115 : decode cX6_copy 115 = .ok (.iconst 0, 1) := by decide +kernel
theorem dX6_copy_116 : decode cX6_copy 116 = .ok (.istore 6, 2) := by decide +kernel
theorem dX6_copy_118 : decode cX6_copy 118 = .ok (.iconst 0, 1) := by decide +kernel
theorem dX6_copy_119 : decode cX6_copy 119 = .ok (.istore 7, 2) := by decide +kernel
theorem dX6_copy_121 : decode cX6_copy 121 = .ok (.iload 7, 2) := by decide +kernel
theorem dX6_copy_123 : decode cX6_copy 123 = .ok (.iload 5, 2) := by decide +kernel
theorem dX6_copy_125 : decode cX6_copy 125 = .ok (.if_icmp .ge 57, 3) := by decide +kernel
theorem dX6_copy_128 : decode cX6_copy 128 = .ok (.iload 6, 2) := by decide +kernel
theorem dX6_copy_130 : decode cX6_copy 130 = .ok (.ifCond .eq 13, 3) := by decide +kernel
theorem dX6_copy_133 : decode cX6_copy 133 = .ok (.iload 5, 2) := by decide +kernel
theorem dX6_copy_135 : decode cX6_copy 135 = .ok (.iconst 1, 1) := by decide +kernel
theorem dX6_copy_136 : decode cX6_copy 136 = .ok (.isub, 1) := by decide +kernel
theorem dX6_copy_137 : decode cX6_copy 137 = .ok (.iload 7, 2) := by decide +kernel
theorem dX6_copy_139 : decode cX6_copy 139 = .ok (.isub, 1) := by decide +kernel
theorem dX6_copy_140 : decode cX6_copy 140 = .ok (.goto 5, 3) := by decide +kernel
theorem dX6_copy_143 : decode cX6_copy 143 = .ok (.iload 7, 2) := by decide +kernel
theorem dX6_copy_145 : decode cX6_copy 145 = .ok (.istore 8, 2) := by decide +kernel
theorem dX6_copy_147 : decode cX6_copy 147 = .ok (.aload_n 0, 1) := by decide +kernel
theorem dX6_copy_148 : decode cX6_copy 148 = .ok (.getfield 60, 3) := by decide +kernel
theorem dX6_copy_151 : decode cX6_copy 151 = .ok (.bipush 40, 2) := by decide +kernel
theorem dX6_copy_153 : decode cX6_copy 153 = .ok (.iload_n 3, 1) := by decide +kernel
theorem dX6_copy_154 : decode cX6_copy 154 = .ok (.imul, 1) := by decide +kernel
theorem dX6_copy_155 : decode cX6_copy 155 = .ok (.iload 4, 2) := by decide +kernel
theorem dX6_copy_157 : decode cX6_copy 157 = .ok (.iadd, 1) := by decide +kernel
theorem dX6_copy_158 : decode cX6_copy 158 = .ok (.iload 8, 2) := by decide +kernel
theorem dX6_copy_160 : decode cX6_copy 160 = .ok (.iadd, 1) := by decide +kernel
theorem dX6_copy_161 : decode cX6_copy 161 = .ok (.aload_n 0, 1) := by decide +kernel
theorem dX6_copy_162 : decode cX6_copy 162 = .ok (.getfield 60, 3) := by decide +kernel
theorem dX6_copy_165 : decode cX6_copy 165 = .ok (.bipush 40, 2) := by decide +kernel
theorem dX6_copy_167 : decode cX6_copy 167 = .ok (.iload_n 1, 1) := by decide +kernel
theorem dX6_copy_168 : decode cX6_copy 168 = .ok (.imul, 1) := by decide +kernel
theorem dX6_copy_169 : decode cX6_copy 169 = .ok (.iload_n 2, 1) := by decide +kernel
theorem dX6_copy_170 : decode cX6_copy 170 = .ok (.iadd, 1) := by decide +kernel
theorem dX6_copy_171 : decode cX6_copy 171 = .ok (.iload 8, 2) := by decide +kernel
theorem dX6_copy_173 : decode cX6_copy 173 = .ok (.iadd, 1) := by decide +kernel
theorem dX6_copy_174 : decode cX6_copy 174 = .ok (.iaload, 1) := by decide +kernel
theorem dX6_copy_175 : decode cX6_copy 175 = .ok (.iastore, 1) := by decide +kernel
theorem dX6_copy_176 : decode cX6_copy 176 = .ok (.iinc 7 1, 3) := by decide +kernel
theorem dX6_copy_179 : decode cX6_copy 179 = .ok (.goto (-58), 3) := by decide +kernel
theorem dX6_copy_182 : decode cX6_copy 182 = .ok (.iload 5, 2) := by decide +kernel
theorem dX6_copy_184 : decode cX6_copy 184 = .ok (.ireturn, 1) := by decide +kernel
theorem dX6_house_0 : decode cX6_house 0 = .ok (.iload_n 1, 1) := by decide +kernel
theorem dX6_house_1 : decode cX6_house 1 = .ok (.invokestatic 415, 3) := by decide +kernel
theorem dX6_house_4 : decode cX6_house 4 = .ok (.ifCond .eq 28, 3) := by decide +kernel
theorem dX6_house_7 : decode cX6_house 7 = .ok (.iload_n 2, 1) := by decide +kernel
theorem dX6_house_8 : decode cX6_house 8 = .ok (.i2l, 1) := by decide +kernel
theorem dX6_house_9 : decode cX6_house 9 = .ok (.lconst 0, 1) := by decide +kernel
theorem dX6_house_10 : decode cX6_house 10 = .ok (.ldc2_w 366, 3) := by decide +kernel
theorem dX6_house_13 : decode cX6_house 13 = .ok (.invokestatic 73, 3) := by decide +kernel
theorem dX6_house_16 : decode cX6_house 16 = .ok (.ifCond .eq 16, 3) := by decide +kernel
theorem dX6_house_19 : decode cX6_house 19 = .ok (.iload 4, 2) := by decide +kernel
theorem dX6_house_21 : decode cX6_house 21 = .ok (.i2l, 1) := by decide +kernel
theorem dX6_house_22 : decode cX6_house 22 = .ok (.lconst 0, 1) := by decide +kernel
theorem dX6_house_23 : decode cX6_house 23 = .ok (.ldc2_w 92, 3) := by decide +kernel
theorem dX6_house_26 : decode cX6_house 26 = .ok (.invokestatic 73, 3) := by decide +kernel
theorem dX6_house_29 : decode cX6_house 29 = .ok (.ifCond .ne 6, 3) := by decide +kernel
theorem dX6_house_32 : decode cX6_house 32 = .ok (.bipush (-2), 2) := by decide +kernel
theorem dX6_house_34 : decode cX6_house 34 = .ok (.ireturn, 1) := by decide +kernel
theorem dX6_house_35 : decode cX6_house 35 = .ok (.aload_n 0, 1) := by decide +kernel
theorem dX6_house_36 : decode cX6_house 36 = .ok (.getfield 50, 3) := by decide +kernel
theorem dX6_house_39 : decode cX6_house 39 = .ok (.iload_n 1, 1) := by decide +kernel
theorem dX6_house_40 : decode cX6_house 40 = .ok (.baload, 1) := by decide +kernel
theorem dX6_house_41 : decode cX6_house 41 = .ok (.ifCond .eq 16, 3) := by decide +kernel
theorem dX6_house_44 : decode cX6_house 44 = .ok (.aload_n 0, 1) := by decide +kernel
theorem dX6_house_45 : decode cX6_house 45 = .ok (.getfield 54, 3) := by decide +kernel
theorem dX6_house_48 : decode cX6_house 48 = .ok (.iload_n 1, 1) := by decide +kernel
theorem dX6_house_49 : decode cX6_house 49 = .ok (.iaload, 1) := by decide +kernel
theorem dX6_house_50 : decode cX6_house 50 = .ok (.iload_n 2, 1) := by decide +kernel
theorem dX6_house_51 : decode cX6_house 51 = .ok (.if_icmp .eq 6, 3) := by decide +kernel
theorem dX6_house_54 : decode cX6_house 54 = .ok (.bipush (-13), 2) := by decide +kernel
theorem dX6_house_56 : decode cX6_house 56 = .ok (.ireturn, 1) := by decide +kernel
theorem dX6_house_57 : decode cX6_house 57 = .ok (.aload_n 0, 1) := by decide +kernel
theorem dX6_house_58 : decode cX6_house 58 = .ok (.getfield 50, 3) := by decide +kernel
theorem dX6_house_61 : decode cX6_house 61 = .ok (.iload_n 1, 1) := by decide +kernel
theorem dX6_house_62 : decode cX6_house 62 = .ok (.baload, 1) := by decide +kernel
theorem dX6_house_63 : decode cX6_house 63 = .ok (.ifCond .ne 6, 3) := by decide +kernel
theorem dX6_house_66 : decode cX6_house 66 = .ok (.bipush (-11), 2) := by decide +kernel
theorem dX6_house_68 : decode cX6_house 68 = .ok (.ireturn, 1) := by decide +kernel
theorem dX6_house_69 : decode cX6_house 69 = .ok (.iconst 0, 1) := by decide +kernel
theorem dX6_house_70 : decode cX6_house 70 = .ok (.istore 5, 2) := by decide +kernel
theorem dX6_house_72 : decode cX6_house 72 = .ok (.iconst 0, 1) := by decide +kernel
theorem dX6_house_73 : decode cX6_house 73 = .ok (.istore 6, 2) := by decide +kernel
theorem dX6_house_75 : decode cX6_house 75 = .ok (.iload 6, 2) := by decide +kernel
theorem dX6_house_77 : decode cX6_house 77 = .ok (.iload 4, 2) := by decide +kernel
theorem dX6_house_79 : decode cX6_house 79 = .ok (.if_icmp .ge 79, 3) := by decide +kernel
theorem dX6_house_82 : decode cX6_house 82 = .ok (.iload_n 3, 1) := by decide +kernel
theorem dX6_house_83 : decode cX6_house 83 = .ok (.ifCond .lt 20, 3) := by decide +kernel
theorem dX6_house_86 : decode cX6_house 86 = .ok (.iload_n 3, 1) := by decide +kernel
theorem dX6_house_87 : decode cX6_house 87 = .ok (.aload_n 0, 1) := by decide +kernel
theorem dX6_house_88 : decode cX6_house 88 = .ok (.getfield 57, 3) := by decide +kernel
theorem dX6_house_91 : decode cX6_house 91 = .ok (.iload_n 1, 1) := by decide +kernel
theorem dX6_house_92 : decode cX6_house 92 = .ok (.iaload, 1) := by decide +kernel
theorem dX6_house_93 : decode cX6_house 93 = .ok (.iconst 2, 1) := by decide +kernel
theorem dX6_house_94 : decode cX6_house 94 = .ok (.iload 6, 2) := by decide +kernel
theorem dX6_house_96 : decode cX6_house 96 = .ok (.imul, 1) := by decide +kernel
theorem dX6_house_97 : decode cX6_house 97 = .ok (.isub, 1) := by decide +kernel
theorem dX6_house_98 : decode cX6_house 98 = .ok (.iconst 2, 1) := by decide +kernel
theorem dX6_house_99 : decode cX6_house 99 = .ok (.isub, 1) := by decide +kernel
theorem dX6_house_100 : decode cX6_house 100 = .ok (.if_icmp .le 6, 3) := by decide +kernel
theorem dX6_house_103 : decode cX6_house 103 = .ok (.bipush (-12), 2) := by decide +kernel
theorem dX6_house_105 : decode cX6_house 105 = .ok (.ireturn, 1) := by decide +kernel
theorem dX6_house_106 : decode cX6_house 106 = .ok (.bipush 40, 2) := by decide +kernel
theorem dX6_house_108 : decode cX6_house 108 = .ok (.iload_n 1, 1) := by decide +kernel
theorem dX6_house_109 : decode cX6_house 109 = .ok (.imul, 1) := by decide +kernel
theorem dX6_house_110 : decode cX6_house 110 = .ok (.iload_n 3, 1) := by decide +kernel
theorem dX6_house_111 : decode cX6_house 111 = .ok (.iadd, 1) := by decide +kernel
theorem dX6_house_112 : decode cX6_house 112 = .ok (.iconst 2, 1) := by decide +kernel
theorem dX6_house_113 : decode cX6_house 113 = .ok (.iload 6, 2) := by decide +kernel
theorem dX6_house_115 : decode cX6_house 115 = .ok (.imul, 1) := by decide +kernel
theorem dX6_house_116 : decode cX6_house 116 = .ok (.iadd, 1) := by decide +kernel
theorem dX6_house_117 : decode cX6_house 117 = .ok (.istore 7, 2) := by decide +kernel
theorem dX6_house_119 : decode cX6_house 119 = .ok (.iload 5, 2) := by decide +kernel
theorem dX6_house_121 : decode cX6_house 121 = .ok (.aload_n 0, 1) := by decide +kernel
theorem dX6_house_122 : decode cX6_house 122 = .ok (.aload_n 0, 1) := by decide +kernel
theorem dX6_house_123 : decode cX6_house 123 = .ok (.getfield 60, 3) := by decide +kernel
theorem dX6_house_126 : decode cX6_house 126 = .ok (.iload 7, 2) := by decide +kernel
theorem dX6_house_128 : decode cX6_house 128 = .ok (.iaload, 1) := by decide +kernel
theorem dX6_house_129 : decode cX6_house 129 = .ok (.aload_n 0, 1) := by decide +kernel
theorem dX6_house_130 : decode cX6_house 130 = .ok (.getfield 60, 3) := by decide +kernel
theorem dX6_house_133 : decode cX6_house 133 = .ok (.iload 7, 2) := by decide +kernel
theorem dX6_house_135 : decode cX6_house 135 = .ok (.iconst 1, 1) := by decide +kernel
theorem dX6_house_136 : decode cX6_house 136 = .ok (.iadd, 1) := by decide +kernel
theorem dX6_house_137 : decode cX6_house 137 = .ok (.iaload, 1) := by decide +kernel
theorem dX6_house_138 : decode cX6_house 138 = .ok (.invokevirtual 449, 3) := by decide +kernel
theorem dX6_house_141 : decode cX6_house 141 = .ok (.ifCond .lt 7, 3) := by decide +kernel
theorem dX6_house_144 : decode cX6_house 144 = .ok (.iconst 1, 1) := by decide +kernel
theorem dX6_house_145 : decode cX6_house 145 = .ok (.goto 4, 3) := by decide +kernel
theorem dX6_house_148 : decode cX6_house 148 = .ok (.iconst 0, 1) := by decide +kernel
theorem dX6_house_149 : decode cX6_house 149 = .ok (.iadd, 1) := by decide +kernel
theorem dX6_house_150 : decode cX6_house 150 = .ok (.istore 5, 2) := by decide +kernel
theorem dX6_house_152 : decode cX6_house 152 = .ok (.iinc 6 1, 3) := by decide +kernel
theorem dX6_house_155 : decode cX6_house 155 = .ok (.goto (-80), 3) := by decide +kernel
theorem dX6_house_158 : decode cX6_house 158 = .ok (.iload 5, 2) := by decide +kernel
theorem dX6_house_160 : decode cX6_house 160 = .ok (.ireturn, 1) := by decide +kernel
theorem dX6_over_0 : decode cX6_over 0 = .ok (.iload_n 0, 1) := by decide +kernel
theorem dX6_over_1 : decode cX6_over 1 = .ok (.ifCond .ne 7, 3) := by decide +kernel
theorem dX6_over_4 : decode cX6_over 4 = .ok (.iconst (-1), 1) := by decide +kernel
theorem dX6_over_5 : decode cX6_over 5 = .ok (.goto 22, 3) := by decide +kernel
theorem dX6_over_8 : decode cX6_over 8 = .ok (.iload_n 0, 1) := by decide +kernel
theorem dX6_over_9 : decode cX6_over 9 = .ok (.iconst 3, 1) := by decide +kernel
theorem dX6_over_10 : decode cX6_over 10 = .ok (.if_icmp .ne 7, 3) := by decide +kernel
theorem dX6_over_13 : decode cX6_over 13 = .ok (.iconst 1, 1) := by decide +kernel
theorem dX6_over_14 : decode cX6_over 14 = .ok (.goto 13, 3) := by decide +kernel
theorem dX6_over_17 : decode cX6_over 17 = .ok (.iload_n 0, 1) := by decide +kernel
theorem dX6_over_18 : decode cX6_over 18 = .ok (.iconst 4, 1) := by decide +kernel
theorem dX6_over_19 : decode cX6_over 19 = .ok (.if_icmp .ne 7, 3) := by decide +kernel
theorem dX6_over_22 : decode cX6_over 22 = .ok (.iconst 2, 1) := by decide +kernel
theorem dX6_over_23 : decode cX6_over 23 = .ok (.goto 4, 3) := by decide +kernel
theorem dX6_over_26 : decode cX6_over 26 = .ok (.iconst 0, 1) := by decide +kernel
theorem dX6_over_27 : decode cX6_over 27 = .ok (.ireturn, 1) := by decide +kernel
theorem dX6_taken_0 : decode cX6_taken 0 = .ok (.iload_n 2, 1) := by decide +kernel
theorem dX6_taken_1 : decode cX6_taken 1 = .ok (.i2l, 1) := by decide +kernel
theorem dX6_taken_2 : decode cX6_taken 2 = .ok (.lconst 0, 1) := by decide +kernel
theorem dX6_taken_3 : decode cX6_taken 3 = .ok (.ldc2_w 92, 3) := by decide +kernel
theorem dX6_taken_6 : decode cX6_taken 6 = .ok (.invokestatic 73, 3) := by decide +kernel
theorem dX6_taken_9 : decode cX6_taken 9 = .ok (.ifCond .ne 6, 3) := by decide +kernel
theorem dX6_taken_12 : decode cX6_taken 12 = .ok (.bipush (-2), 2) := by decide +kernel
theorem dX6_taken_14 : decode cX6_taken 14 = .ok (.ireturn, 1) := by decide +kernel
theorem dX6_taken_15 : decode cX6_taken 15 = .ok (.aload_n 0, 1) := by decide +kernel
theorem dX6_taken_16 : decode cX6_taken 16 = .ok (.iload_n 1, 1) := by decide +kernel
theorem dX6_taken_17 : decode cX6_taken 17 = .ok (.invokevirtual 86, 3) := by decide +kernel
theorem dX6_taken_20 : decode cX6_taken 20 = .ok (.ifCond .ne 6, 3) := by decide +kernel
theorem dX6_taken_23 : decode cX6_taken 23 = .ok (.bipush (-11), 2) := by decide +kernel
theorem dX6_taken_25 : decode cX6_taken 25 = .ok (.ireturn, 1) := by decide +kernel
theorem dX6_taken_26 : decode cX6_taken 26 = .ok (.aload_n 0, 1) := by decide +kernel
theorem dX6_taken_27 : decode cX6_taken 27 = .ok (.getfield 29, 3) := by decide +kernel
theorem dX6_taken_30 : decode cX6_taken 30 = .ok (.iload_n 1, 1) := by decide +kernel
theorem dX6_taken_31 : decode cX6_taken 31 = .ok (.iaload, 1) := by decide +kernel
theorem dX6_taken_32 : decode cX6_taken 32 = .ok (.istore_n 3, 1) := by decide +kernel
theorem dX6_taken_33 : decode cX6_taken 33 = .ok (.iload_n 3, 1) := by decide +kernel
theorem dX6_taken_34 : decode cX6_taken 34 = .ok (.iconst (-1), 1) := by decide +kernel
theorem dX6_taken_35 : decode cX6_taken 35 = .ok (.if_icmp .eq 16, 3) := by decide +kernel
theorem dX6_taken_38 : decode cX6_taken 38 = .ok (.iload_n 3, 1) := by decide +kernel
theorem dX6_taken_39 : decode cX6_taken 39 = .ok (.iload_n 2, 1) := by decide +kernel
theorem dX6_taken_40 : decode cX6_taken 40 = .ok (.if_icmp .eq 11, 3) := by decide +kernel
theorem dX6_taken_43 : decode cX6_taken 43 = .ok (.iload_n 3, 1) := by decide +kernel
theorem dX6_taken_44 : decode cX6_taken 44 = .ok (.invokestatic 452, 3) := by decide +kernel
theorem dX6_taken_47 : decode cX6_taken 47 = .ok (.istore_n 3, 1) := by decide +kernel
theorem dX6_taken_48 : decode cX6_taken 48 = .ok (.goto (-15), 3) := by decide +kernel
theorem dX6_taken_51 : decode cX6_taken 51 = .ok (.iload_n 3, 1) := by decide +kernel
theorem dX6_taken_52 : decode cX6_taken 52 = .ok (.iload_n 2, 1) := by decide +kernel
theorem dX6_taken_53 : decode cX6_taken 53 = .ok (.if_icmp .ne 14, 3) := by decide +kernel
theorem dX6_taken_56 : decode cX6_taken 56 = .ok (.aload_n 0, 1) := by decide +kernel
theorem dX6_taken_57 : decode cX6_taken 57 = .ok (.getfield 32, 3) := by decide +kernel
theorem dX6_taken_60 : decode cX6_taken 60 = .ok (.iconst 2, 1) := by decide +kernel
theorem dX6_taken_61 : decode cX6_taken 61 = .ok (.iload_n 1, 1) := by decide +kernel
theorem dX6_taken_62 : decode cX6_taken 62 = .ok (.imul, 1) := by decide +kernel
theorem dX6_taken_63 : decode cX6_taken 63 = .ok (.iaload, 1) := by decide +kernel
theorem dX6_taken_64 : decode cX6_taken 64 = .ok (.goto 5, 3) := by decide +kernel
theorem dX6_taken_67 : decode cX6_taken 67 = .ok (.bipush (-13), 2) := by decide +kernel
theorem dX6_taken_69 : decode cX6_taken 69 = .ok (.ireturn, 1) := by decide +kernel
theorem dJ6_bitCount_0f7a4_0 : decode cJ6_bitCount_0f7a4 0 = .ok (.iload_n 0, 1) := by decide +kernel
theorem dJ6_bitCount_0f7a4_1 : decode cJ6_bitCount_0f7a4 1 = .ok (.iload_n 0, 1) := by decide +kernel
theorem dJ6_bitCount_0f7a4_2 : decode cJ6_bitCount_0f7a4 2 = .ok (.iconst 1, 1) := by decide +kernel
theorem dJ6_bitCount_0f7a4_3 : decode cJ6_bitCount_0f7a4 3 = .ok (.iushr, 1) := by decide +kernel
theorem dJ6_bitCount_0f7a4_4 : decode cJ6_bitCount_0f7a4 4 = .ok (.ldc_w 265, 3) := by decide +kernel
theorem dJ6_bitCount_0f7a4_7 : decode cJ6_bitCount_0f7a4 7 = .ok (.iand, 1) := by decide +kernel
theorem dJ6_bitCount_0f7a4_8 : decode cJ6_bitCount_0f7a4 8 = .ok (.isub, 1) := by decide +kernel
theorem dJ6_bitCount_0f7a4_9 : decode cJ6_bitCount_0f7a4 9 = .ok (.istore_n 0, 1) := by decide +kernel
theorem dJ6_bitCount_0f7a4_10 : decode cJ6_bitCount_0f7a4 10 = .ok (.iload_n 0, 1) := by decide +kernel
theorem dJ6_bitCount_0f7a4_11 : decode cJ6_bitCount_0f7a4 11 = .ok (.ldc_w 266, 3) := by decide +kernel
theorem dJ6_bitCount_0f7a4_14 : decode cJ6_bitCount_0f7a4 14 = .ok (.iand, 1) := by decide +kernel
theorem dJ6_bitCount_0f7a4_15 : decode cJ6_bitCount_0f7a4 15 = .ok (.iload_n 0, 1) := by decide +kernel
theorem dJ6_bitCount_0f7a4_16 : decode cJ6_bitCount_0f7a4 16 = .ok (.iconst 2, 1) := by decide +kernel
theorem dJ6_bitCount_0f7a4_17 : decode cJ6_bitCount_0f7a4 17 = .ok (.iushr, 1) := by decide +kernel
theorem dJ6_bitCount_0f7a4_18 : decode cJ6_bitCount_0f7a4 18 = .ok (.ldc_w 266, 3) := by decide +kernel
theorem dJ6_bitCount_0f7a4_21 : decode cJ6_bitCount_0f7a4 21 = .ok (.iand, 1) := by decide +kernel
theorem dJ6_bitCount_0f7a4_22 : decode cJ6_bitCount_0f7a4 22 = .ok (.iadd, 1) := by decide +kernel
theorem dJ6_bitCount_0f7a4_23 : decode cJ6_bitCount_0f7a4 23 = .ok (.istore_n 0, 1) := by decide +kernel
theorem dJ6_bitCount_0f7a4_24 : decode cJ6_bitCount_0f7a4 24 = .ok (.iload_n 0, 1) := by decide +kernel
theorem dJ6_bitCount_0f7a4_25 : decode cJ6_bitCount_0f7a4 25 = .ok (.iload_n 0, 1) := by decide +kernel
theorem dJ6_bitCount_0f7a4_26 : decode cJ6_bitCount_0f7a4 26 = .ok (.iconst 4, 1) := by decide +kernel
theorem dJ6_bitCount_0f7a4_27 : decode cJ6_bitCount_0f7a4 27 = .ok (.iushr, 1) := by decide +kernel
theorem dJ6_bitCount_0f7a4_28 : decode cJ6_bitCount_0f7a4 28 = .ok (.iadd, 1) := by decide +kernel
theorem dJ6_bitCount_0f7a4_29 : decode cJ6_bitCount_0f7a4 29 = .ok (.ldc_w 267, 3) := by decide +kernel
theorem dJ6_bitCount_0f7a4_32 : decode cJ6_bitCount_0f7a4 32 = .ok (.iand, 1) := by decide +kernel
theorem dJ6_bitCount_0f7a4_33 : decode cJ6_bitCount_0f7a4 33 = .ok (.istore_n 0, 1) := by decide +kernel
theorem dJ6_bitCount_0f7a4_34 : decode cJ6_bitCount_0f7a4 34 = .ok (.iload_n 0, 1) := by decide +kernel
theorem dJ6_bitCount_0f7a4_35 : decode cJ6_bitCount_0f7a4 35 = .ok (.iload_n 0, 1) := by decide +kernel
theorem dJ6_bitCount_0f7a4_36 : decode cJ6_bitCount_0f7a4 36 = .ok (.bipush 8, 2) := by decide +kernel
theorem dJ6_bitCount_0f7a4_38 : decode cJ6_bitCount_0f7a4 38 = .ok (.iushr, 1) := by decide +kernel
theorem dJ6_bitCount_0f7a4_39 : decode cJ6_bitCount_0f7a4 39 = .ok (.iadd, 1) := by decide +kernel
theorem dJ6_bitCount_0f7a4_40 : decode cJ6_bitCount_0f7a4 40 = .ok (.istore_n 0, 1) := by decide +kernel
theorem dJ6_bitCount_0f7a4_41 : decode cJ6_bitCount_0f7a4 41 = .ok (.iload_n 0, 1) := by decide +kernel
theorem dJ6_bitCount_0f7a4_42 : decode cJ6_bitCount_0f7a4 42 = .ok (.iload_n 0, 1) := by decide +kernel
theorem dJ6_bitCount_0f7a4_43 : decode cJ6_bitCount_0f7a4 43 = .ok (.bipush 16, 2) := by decide +kernel
theorem dJ6_bitCount_0f7a4_45 : decode cJ6_bitCount_0f7a4 45 = .ok (.iushr, 1) := by decide +kernel
theorem dJ6_bitCount_0f7a4_46 : decode cJ6_bitCount_0f7a4 46 = .ok (.iadd, 1) := by decide +kernel
theorem dJ6_bitCount_0f7a4_47 : decode cJ6_bitCount_0f7a4 47 = .ok (.istore_n 0, 1) := by decide +kernel
theorem dJ6_bitCount_0f7a4_48 : decode cJ6_bitCount_0f7a4 48 = .ok (.iload_n 0, 1) := by decide +kernel
theorem dJ6_bitCount_0f7a4_49 : decode cJ6_bitCount_0f7a4 49 = .ok (.bipush 63, 2) := by decide +kernel
theorem dJ6_bitCount_0f7a4_51 : decode cJ6_bitCount_0f7a4 51 = .ok (.iand, 1) := by decide +kernel
theorem dJ6_bitCount_0f7a4_52 : decode cJ6_bitCount_0f7a4 52 = .ok (.ireturn, 1) := by decide +kernel
theorem dJ9_floorMod_7cf53_0 : decode cJ9_floorMod_7cf53 0 = .ok (.iload_n 0, 1) := by decide +kernel
theorem dJ9_floorMod_7cf53_1 : decode cJ9_floorMod_7cf53 1 = .ok (.iload_n 1, 1) := by decide +kernel
theorem dJ9_floorMod_7cf53_2 : decode cJ9_floorMod_7cf53 2 = .ok (.irem, 1) := by decide +kernel
theorem dJ9_floorMod_7cf53_3 : decode cJ9_floorMod_7cf53 3 = .ok (.istore_n 2, 1) := by decide +kernel
theorem dJ9_floorMod_7cf53_4 : decode cJ9_floorMod_7cf53 4 = .ok (.iload_n 0, 1) := by decide +kernel
theorem dJ9_floorMod_7cf53_5 : decode cJ9_floorMod_7cf53 5 = .ok (.iload_n 1, 1) := by decide +kernel
theorem dJ9_floorMod_7cf53_6 : decode cJ9_floorMod_7cf53 6 = .ok (.ixor, 1) := by decide +kernel
theorem dJ9_floorMod_7cf53_7 : decode cJ9_floorMod_7cf53 7 = .ok (.ifCond .ge 11, 3) := by decide +kernel
theorem dJ9_floorMod_7cf53_10 : decode cJ9_floorMod_7cf53 10 = .ok (.iload_n 2, 1) := by decide +kernel
theorem dJ9_floorMod_7cf53_11 : decode cJ9_floorMod_7cf53 11 = .ok (.ifCond .eq 7, 3) := by decide +kernel
theorem dJ9_floorMod_7cf53_14 : decode cJ9_floorMod_7cf53 14 = .ok (.iload_n 2, 1) := by decide +kernel
theorem dJ9_floorMod_7cf53_15 : decode cJ9_floorMod_7cf53 15 = .ok (.iload_n 1, 1) := by decide +kernel
theorem dJ9_floorMod_7cf53_16 : decode cJ9_floorMod_7cf53 16 = .ok (.iadd, 1) := by decide +kernel
theorem dJ9_floorMod_7cf53_17 : decode cJ9_floorMod_7cf53 17 = .ok (.ireturn, 1) := by decide +kernel
theorem dJ9_floorMod_7cf53_18 : decode cJ9_floorMod_7cf53 18 = .ok (.iload_n 2, 1) := by decide +kernel
theorem dJ9_floorMod_7cf53_19 : decode cJ9_floorMod_7cf53 19 = .ok (.ireturn, 1) := by decide +kernel
theorem dJ9_max_7cf53_0 : decode cJ9_max_7cf53 0 = .ok (.iload_n 0, 1) := by decide +kernel
theorem dJ9_max_7cf53_1 : decode cJ9_max_7cf53 1 = .ok (.iload_n 1, 1) := by decide +kernel
theorem dJ9_max_7cf53_2 : decode cJ9_max_7cf53 2 = .ok (.if_icmp .lt 7, 3) := by decide +kernel
theorem dJ9_max_7cf53_5 : decode cJ9_max_7cf53 5 = .ok (.iload_n 0, 1) := by decide +kernel
theorem dJ9_max_7cf53_6 : decode cJ9_max_7cf53 6 = .ok (.goto 4, 3) := by decide +kernel
theorem dJ9_max_7cf53_9 : decode cJ9_max_7cf53 9 = .ok (.iload_n 1, 1) := by decide +kernel
theorem dJ9_max_7cf53_10 : decode cJ9_max_7cf53 10 = .ok (.ireturn, 1) := by decide +kernel
theorem dJ9_min_7cf53_0 : decode cJ9_min_7cf53 0 = .ok (.iload_n 0, 1) := by decide +kernel
theorem dJ9_min_7cf53_1 : decode cJ9_min_7cf53 1 = .ok (.iload_n 1, 1) := by decide +kernel
theorem dJ9_min_7cf53_2 : decode cJ9_min_7cf53 2 = .ok (.if_icmp .gt 7, 3) := by decide +kernel
theorem dJ9_min_7cf53_5 : decode cJ9_min_7cf53 5 = .ok (.iload_n 0, 1) := by decide +kernel
theorem dJ9_min_7cf53_6 : decode cJ9_min_7cf53 6 = .ok (.goto 4, 3) := by decide +kernel
theorem dJ9_min_7cf53_9 : decode cJ9_min_7cf53 9 = .ok (.iload_n 1, 1) := by decide +kernel
theorem dJ9_min_7cf53_10 : decode cJ9_min_7cf53 10 = .ok (.ireturn, 1) := by decide +kernel
theorem dJ0_length_8abf5_0 : decode cJ0_length_8abf5 0 = .ok (.aload_n 0, 1) := by decide +kernel
theorem dJ0_length_8abf5_1 : decode cJ0_length_8abf5 1 = .ok (.getfield 9, 3) := by decide +kernel
theorem dJ0_length_8abf5_4 : decode cJ0_length_8abf5 4 = .ok (.arraylength, 1) := by decide +kernel
theorem dJ0_length_8abf5_5 : decode cJ0_length_8abf5 5 = .ok (.aload_n 0, 1) := by decide +kernel
theorem dJ0_length_8abf5_6 : decode cJ0_length_8abf5 6 = .ok (.invokevirtual 335, 3) := by decide +kernel
theorem dJ0_length_8abf5_9 : decode cJ0_length_8abf5 9 = .ok (.ishr, 1) := by decide +kernel
theorem dJ0_length_8abf5_10 : decode cJ0_length_8abf5 10 = .ok (.ireturn, 1) := by decide +kernel
theorem dJ0_charAt_5068e_0 : decode cJ0_charAt_5068e 0 = .ok (.aload_n 0, 1) := by decide +kernel
theorem dJ0_charAt_5068e_1 : decode cJ0_charAt_5068e 1 = .ok (.invokevirtual 492, 3) := by decide +kernel
theorem dJ0_charAt_5068e_4 : decode cJ0_charAt_5068e 4 = .ok (.ifCond .eq 12, 3) := by decide +kernel
theorem dJ0_charAt_5068e_7 : decode cJ0_charAt_5068e 7 = .ok (.aload_n 0, 1) := by decide +kernel
theorem dJ0_charAt_5068e_8 : decode cJ0_charAt_5068e 8 = .ok (.getfield 9, 3) := by decide +kernel
theorem dJ0_charAt_5068e_11 : decode cJ0_charAt_5068e 11 = .ok (.iload_n 1, 1) := by decide +kernel
theorem dJ0_charAt_5068e_12 : decode cJ0_charAt_5068e 12 = .ok (.invokestatic 495, 3) := by decide +kernel
theorem dJ0_charAt_5068e_15 : decode cJ0_charAt_5068e 15 = .ok (.ireturn, 1) := by decide +kernel
theorem dJ0_charAt_5068e_16 : decode cJ0_charAt_5068e 16 = .ok (.aload_n 0, 1) := by decide +kernel
theorem dJ0_charAt_5068e_17 : decode cJ0_charAt_5068e 17 = .ok (.getfield 9, 3) := by decide +kernel
theorem dJ0_charAt_5068e_20 : decode cJ0_charAt_5068e 20 = .ok (.iload_n 1, 1) := by decide +kernel
theorem dJ0_charAt_5068e_21 : decode cJ0_charAt_5068e 21 = .ok (.invokestatic 498, 3) := by decide +kernel
theorem dJ0_charAt_5068e_24 : decode cJ0_charAt_5068e 24 = .ok (.ireturn, 1) := by decide +kernel
theorem dJ0_coder_7d493_0 : decode cJ0_coder_7d493 0 = .ok (.getstatic 38, 3) := by decide +kernel
theorem dJ0_coder_7d493_3 : decode cJ0_coder_7d493 3 = .ok (.ifCond .eq 10, 3) := by decide +kernel
theorem dJ0_coder_7d493_6 : decode cJ0_coder_7d493 6 = .ok (.aload_n 0, 1) := by decide +kernel
theorem dJ0_coder_7d493_7 : decode cJ0_coder_7d493 7 = .ok (.getfield 15, 3) := by decide +kernel
theorem dJ0_coder_7d493_10 : decode cJ0_coder_7d493 10 = .ok (.goto 4, 3) := by decide +kernel
theorem dJ0_coder_7d493_13 : decode cJ0_coder_7d493 13 = .ok (.iconst 1, 1) := by decide +kernel
theorem dJ0_coder_7d493_14 : decode cJ0_coder_7d493 14 = .ok (.ireturn, 1) := by decide +kernel
theorem dJ0_isLatin1_aae02_0 : decode cJ0_isLatin1_aae02 0 = .ok (.getstatic 38, 3) := by decide +kernel
theorem dJ0_isLatin1_aae02_3 : decode cJ0_isLatin1_aae02 3 = .ok (.ifCond .eq 14, 3) := by decide +kernel
theorem dJ0_isLatin1_aae02_6 : decode cJ0_isLatin1_aae02 6 = .ok (.aload_n 0, 1) := by decide +kernel
theorem dJ0_isLatin1_aae02_7 : decode cJ0_isLatin1_aae02 7 = .ok (.getfield 15, 3) := by decide +kernel
theorem dJ0_isLatin1_aae02_10 : decode cJ0_isLatin1_aae02 10 = .ok (.ifCond .ne 7, 3) := by decide +kernel
theorem dJ0_isLatin1_aae02_13 : decode cJ0_isLatin1_aae02 13 = .ok (.iconst 1, 1) := by decide +kernel
theorem dJ0_isLatin1_aae02_14 : decode cJ0_isLatin1_aae02 14 = .ok (.goto 4, 3) := by decide +kernel
theorem dJ0_isLatin1_aae02_17 : decode cJ0_isLatin1_aae02 17 = .ok (.iconst 0, 1) := by decide +kernel
theorem dJ0_isLatin1_aae02_18 : decode cJ0_isLatin1_aae02 18 = .ok (.ireturn, 1) := by decide +kernel
theorem dJ0_checkIndex_df160_0 : decode cJ0_checkIndex_df160 0 = .ok (.iload_n 0, 1) := by decide +kernel
theorem dJ0_checkIndex_df160_1 : decode cJ0_checkIndex_df160 1 = .ok (.iload_n 1, 1) := by decide +kernel
theorem dJ0_checkIndex_df160_2 : decode cJ0_checkIndex_df160 2 = .ok (.getstatic 1053, 3) := by decide +kernel
theorem dJ0_checkIndex_df160_5 : decode cJ0_checkIndex_df160 5 = .ok (.invokestatic 1059, 3) := by decide +kernel
theorem dJ0_checkIndex_df160_8 : decode cJ0_checkIndex_df160 8 = .ok (.pop, 1) := by decide +kernel
theorem dJ0_checkIndex_df160_9 : decode cJ0_checkIndex_df160 9 = .ok (.return_, 1) := by decide +kernel
theorem dJ1_charAt_3b067_0 : decode cJ1_charAt_3b067 0 = .ok (.iload_n 1, 1) := by decide +kernel
theorem dJ1_charAt_3b067_1 : decode cJ1_charAt_3b067 1 = .ok (.aload_n 0, 1) := by decide +kernel
theorem dJ1_charAt_3b067_2 : decode cJ1_charAt_3b067 2 = .ok (.arraylength, 1) := by decide +kernel
theorem dJ1_charAt_3b067_3 : decode cJ1_charAt_3b067 3 = .ok (.invokestatic 9, 3) := by decide +kernel
theorem dJ1_charAt_3b067_6 : decode cJ1_charAt_3b067 6 = .ok (.aload_n 0, 1) := by decide +kernel
theorem dJ1_charAt_3b067_7 : decode cJ1_charAt_3b067 7 = .ok (.iload_n 1, 1) := by decide +kernel
theorem dJ1_charAt_3b067_8 : decode cJ1_charAt_3b067 8 = .ok (.baload, 1) := by decide +kernel
theorem dJ1_charAt_3b067_9 : decode cJ1_charAt_3b067 9 = .ok (.sipush 255, 3) := by decide +kernel
theorem dJ1_charAt_3b067_12 : decode cJ1_charAt_3b067 12 = .ok (.iand, 1) := by decide +kernel
theorem dJ1_charAt_3b067_13 : decode cJ1_charAt_3b067 13 = .ok (.i2c, 1) := by decide +kernel
theorem dJ1_charAt_3b067_14 : decode cJ1_charAt_3b067 14 = .ok (.ireturn, 1) := by decide +kernel
theorem dJ2_getChar_3b067_0 : decode cJ2_getChar_3b067 0 = .ok (.getstatic 44, 3) := by decide +kernel
theorem dJ2_getChar_3b067_3 : decode cJ2_getChar_3b067 3 = .ok (.ifCond .ne 25, 3) := by decide +kernel
theorem dJ2_getChar_3b067_6 : decode cJ2_getChar_3b067 6 = .ok (.iload_n 1, 1) := by decide +kernel
theorem dJ2_getChar_3b067_7 : decode cJ2_getChar_3b067 7 = .ok (.ifCond .lt 11, 3) := by decide +kernel
theorem dJ2_getChar_3b067_10 : decode cJ2_getChar_3b067 10 = .ok (.iload_n 1, 1) := by decide +kernel
theorem dJ2_getChar_3b067_11 : decode cJ2_getChar_3b067 11 = .ok (.aload_n 0, 1) := by decide +kernel
theorem dJ2_getChar_3b067_12 : decode cJ2_getChar_3b067 12 = .ok (.invokestatic 48, 3) := by decide +kernel
theorem dJ2_getChar_3b067_15 : decode cJ2_getChar_3b067 15 = .ok (.if_icmp .lt 13, 3) := by decide +kernel
theorem dJ2_getChar_3b067_18 : decode cJ2_getChar_3b067 18 = .ok (.new 52, 3) := by decide +kernel
theorem dJ2_getChar_3b067_21 : decode cJ2_getChar_3b067 21 = .ok (.dup, 1) := by decide +kernel
theorem dJ2_getChar_3b067_22 : decode cJ2_getChar_3b067 22 = .ok (.ldc 54, 2) := by decide +kernel
theorem dJ2_getChar_3b067_24 : decode cJ2_getChar_3b067 24 = .ok (.invokespecial 56, 3) := by decide +kernel
theorem dJ2_getChar_3b067_27 : decode cJ2_getChar_3b067 27 = .ok (.athrow, 1) := by decide +kernel
theorem dJ2_getChar_3b067_28 : decode cJ2_getChar_3b067 28 = .ok (.iload_n 1, 1) := by decide +kernel
theorem dJ2_getChar_3b067_29 : decode cJ2_getChar_3b067 29 = .ok (.iconst 1, 1) := by decide +kernel
theorem dJ2_getChar_3b067_30 : decode cJ2_getChar_3b067 30 = .ok (.ishl, 1) := by decide +kernel
theorem dJ2_getChar_3b067_31 : decode cJ2_getChar_3b067 31 = .ok (.istore_n 1, 1) := by decide +kernel
theorem dJ2_getChar_3b067_32 : decode cJ2_getChar_3b067 32 = .ok (.aload_n 0, 1) := by decide +kernel
theorem dJ2_getChar_3b067_33 : decode cJ2_getChar_3b067 33 = .ok (.iload_n 1, 1) := by decide +kernel
theorem dJ2_getChar_3b067_34 : decode cJ2_getChar_3b067 34 = .ok (.iinc 1 1, 3) := by decide +kernel
theorem dJ2_getChar_3b067_37 : decode cJ2_getChar_3b067 37 = .ok (.baload, 1) := by decide +kernel
theorem dJ2_getChar_3b067_38 : decode cJ2_getChar_3b067 38 = .ok (.sipush 255, 3) := by decide +kernel
theorem dJ2_getChar_3b067_41 : decode cJ2_getChar_3b067 41 = .ok (.iand, 1) := by decide +kernel
theorem dJ2_getChar_3b067_42 : decode cJ2_getChar_3b067 42 = .ok (.getstatic 59, 3) := by decide +kernel
theorem dJ2_getChar_3b067_45 : decode cJ2_getChar_3b067 45 = .ok (.ishl, 1) := by decide +kernel
theorem dJ2_getChar_3b067_46 : decode cJ2_getChar_3b067 46 = .ok (.aload_n 0, 1) := by decide +kernel
theorem dJ2_getChar_3b067_47 : decode cJ2_getChar_3b067 47 = .ok (.iload_n 1, 1) := by decide +kernel
theorem dJ2_getChar_3b067_48 : decode cJ2_getChar_3b067 48 = .ok (.baload, 1) := by decide +kernel
theorem dJ2_getChar_3b067_49 : decode cJ2_getChar_3b067 49 = .ok (.sipush 255, 3) := by decide +kernel
theorem dJ2_getChar_3b067_52 : decode cJ2_getChar_3b067 52 = .ok (.iand, 1) := by decide +kernel
theorem dJ2_getChar_3b067_53 : decode cJ2_getChar_3b067 53 = .ok (.getstatic 63, 3) := by decide +kernel
theorem dJ2_getChar_3b067_56 : decode cJ2_getChar_3b067 56 = .ok (.ishl, 1) := by decide +kernel
theorem dJ2_getChar_3b067_57 : decode cJ2_getChar_3b067 57 = .ok (.ior, 1) := by decide +kernel
theorem dJ2_getChar_3b067_58 : decode cJ2_getChar_3b067 58 = .ok (.i2c, 1) := by decide +kernel
theorem dJ2_getChar_3b067_59 : decode cJ2_getChar_3b067 59 = .ok (.ireturn, 1) := by decide +kernel
theorem dJ2_length_9d52b_0 : decode cJ2_length_9d52b 0 = .ok (.aload_n 0, 1) := by decide +kernel
theorem dJ2_length_9d52b_1 : decode cJ2_length_9d52b 1 = .ok (.arraylength, 1) := by decide +kernel
theorem dJ2_length_9d52b_2 : decode cJ2_length_9d52b 2 = .ok (.iconst 1, 1) := by decide +kernel
theorem dJ2_length_9d52b_3 : decode cJ2_length_9d52b 3 = .ok (.ishr, 1) := by decide +kernel
theorem dJ2_length_9d52b_4 : decode cJ2_length_9d52b 4 = .ok (.ireturn, 1) := by decide +kernel
theorem dJ2_charAt_3b067_0 : decode cJ2_charAt_3b067 0 = .ok (.iload_n 1, 1) := by decide +kernel
theorem dJ2_charAt_3b067_1 : decode cJ2_charAt_3b067 1 = .ok (.aload_n 0, 1) := by decide +kernel
theorem dJ2_charAt_3b067_2 : decode cJ2_charAt_3b067 2 = .ok (.invokestatic 67, 3) := by decide +kernel
theorem dJ2_charAt_3b067_5 : decode cJ2_charAt_3b067 5 = .ok (.aload_n 0, 1) := by decide +kernel
theorem dJ2_charAt_3b067_6 : decode cJ2_charAt_3b067 6 = .ok (.iload_n 1, 1) := by decide +kernel
theorem dJ2_charAt_3b067_7 : decode cJ2_charAt_3b067 7 = .ok (.invokestatic 71, 3) := by decide +kernel
theorem dJ2_charAt_3b067_10 : decode cJ2_charAt_3b067 10 = .ok (.ireturn, 1) := by decide +kernel
theorem dJ2_checkIndex_2214a_0 : decode cJ2_checkIndex_2214a 0 = .ok (.iload_n 0, 1) := by decide +kernel
theorem dJ2_checkIndex_2214a_1 : decode cJ2_checkIndex_2214a 1 = .ok (.aload_n 1, 1) := by decide +kernel
theorem dJ2_checkIndex_2214a_2 : decode cJ2_checkIndex_2214a 2 = .ok (.invokestatic 48, 3) := by decide +kernel
theorem dJ2_checkIndex_2214a_5 : decode cJ2_checkIndex_2214a 5 = .ok (.invokestatic 414, 3) := by decide +kernel
theorem dJ2_checkIndex_2214a_8 : decode cJ2_checkIndex_2214a 8 = .ok (.return_, 1) := by decide +kernel
theorem dJ7_fill_53178_0 : decode cJ7_fill_53178 0 = .ok (.iconst 0, 1) := by decide +kernel
theorem dJ7_fill_53178_1 : decode cJ7_fill_53178 1 = .ok (.istore_n 2, 1) := by decide +kernel
theorem dJ7_fill_53178_2 : decode cJ7_fill_53178 2 = .ok (.aload_n 0, 1) := by decide +kernel
theorem dJ7_fill_53178_3 : decode cJ7_fill_53178 3 = .ok (.arraylength, 1) := by decide +kernel
theorem dJ7_fill_53178_4 : decode cJ7_fill_53178 4 = .ok (.istore_n 3, 1) := by decide +kernel
theorem dJ7_fill_53178_5 : decode cJ7_fill_53178 5 = .ok (.iload_n 2, 1) := by decide +kernel
theorem dJ7_fill_53178_6 : decode cJ7_fill_53178 6 = .ok (.iload_n 3, 1) := by decide +kernel
theorem dJ7_fill_53178_7 : decode cJ7_fill_53178 7 = .ok (.if_icmp .ge 13, 3) := by decide +kernel
theorem dJ7_fill_53178_10 : decode cJ7_fill_53178 10 = .ok (.aload_n 0, 1) := by decide +kernel
theorem dJ7_fill_53178_11 : decode cJ7_fill_53178 11 = .ok (.iload_n 2, 1) := by decide +kernel
theorem dJ7_fill_53178_12 : decode cJ7_fill_53178 12 = .ok (.iload_n 1, 1) := by decide +kernel
theorem dJ7_fill_53178_13 : decode cJ7_fill_53178 13 = .ok (.iastore, 1) := by decide +kernel
theorem dJ7_fill_53178_14 : decode cJ7_fill_53178 14 = .ok (.iinc 2 1, 3) := by decide +kernel
theorem dJ7_fill_53178_17 : decode cJ7_fill_53178 17 = .ok (.goto (-12), 3) := by decide +kernel
theorem dJ7_fill_53178_20 : decode cJ7_fill_53178 20 = .ok (.return_, 1) := by decide +kernel
theorem dJ7_copyOf_59c91_0 : decode cJ7_copyOf_59c91 0 = .ok (.iload_n 1, 1) := by decide +kernel
theorem dJ7_copyOf_59c91_1 : decode cJ7_copyOf_59c91 1 = .ok (.aload_n 0, 1) := by decide +kernel
theorem dJ7_copyOf_59c91_2 : decode cJ7_copyOf_59c91 2 = .ok (.arraylength, 1) := by decide +kernel
theorem dJ7_copyOf_59c91_3 : decode cJ7_copyOf_59c91 3 = .ok (.if_icmp .ne 11, 3) := by decide +kernel
theorem dJ7_copyOf_59c91_6 : decode cJ7_copyOf_59c91 6 = .ok (.aload_n 0, 1) := by decide +kernel
theorem dJ7_copyOf_59c91_7 : decode cJ7_copyOf_59c91 7 = .ok (.invokevirtual 316, 3) := by decide +kernel
theorem dJ7_copyOf_59c91_10 : decode cJ7_copyOf_59c91 10 = .ok (.checkcast 317, 3) := by decide +kernel
theorem dJ7_copyOf_59c91_13 : decode cJ7_copyOf_59c91 13 = .ok (.areturn, 1) := by decide +kernel
theorem dJ7_copyOf_59c91_14 : decode cJ7_copyOf_59c91 14 = .ok (.iload_n 1, 1) := by decide +kernel
theorem dJ7_copyOf_59c91_15 : decode cJ7_copyOf_59c91 15 = .ok (.newarray .int, 2) := by decide +kernel
theorem dJ7_copyOf_59c91_17 : decode cJ7_copyOf_59c91 17 = .ok (.astore_n 2, 1) := by decide +kernel
theorem dJ7_copyOf_59c91_18 : decode cJ7_copyOf_59c91 18 = .ok (.aload_n 0, 1) := by decide +kernel
theorem dJ7_copyOf_59c91_19 : decode cJ7_copyOf_59c91 19 = .ok (.iconst 0, 1) := by decide +kernel
theorem dJ7_copyOf_59c91_20 : decode cJ7_copyOf_59c91 20 = .ok (.aload_n 2, 1) := by decide +kernel
theorem dJ7_copyOf_59c91_21 : decode cJ7_copyOf_59c91 21 = .ok (.iconst 0, 1) := by decide +kernel
theorem dJ7_copyOf_59c91_22 : decode cJ7_copyOf_59c91 22 = .ok (.aload_n 0, 1) := by decide +kernel
theorem dJ7_copyOf_59c91_23 : decode cJ7_copyOf_59c91 23 = .ok (.arraylength, 1) := by decide +kernel
theorem dJ7_copyOf_59c91_24 : decode cJ7_copyOf_59c91 24 = .ok (.iload_n 1, 1) := by decide +kernel
theorem dJ7_copyOf_59c91_25 : decode cJ7_copyOf_59c91 25 = .ok (.invokestatic 304, 3) := by decide +kernel
theorem dJ7_copyOf_59c91_28 : decode cJ7_copyOf_59c91 28 = .ok (.invokestatic 150, 3) := by decide +kernel
theorem dJ7_copyOf_59c91_31 : decode cJ7_copyOf_59c91 31 = .ok (.aload_n 2, 1) := by decide +kernel
theorem dJ7_copyOf_59c91_32 : decode cJ7_copyOf_59c91 32 = .ok (.areturn, 1) := by decide +kernel
theorem dJ3_checkIndex_8e157_0 : decode cJ3_checkIndex_8e157 0 = .ok (.iload_n 0, 1) := by decide +kernel
theorem dJ3_checkIndex_8e157_1 : decode cJ3_checkIndex_8e157 1 = .ok (.ifCond .lt 8, 3) := by decide +kernel
theorem dJ3_checkIndex_8e157_4 : decode cJ3_checkIndex_8e157 4 = .ok (.iload_n 0, 1) := by decide +kernel
theorem dJ3_checkIndex_8e157_5 : decode cJ3_checkIndex_8e157 5 = .ok (.iload_n 1, 1) := by decide +kernel
theorem dJ3_checkIndex_8e157_6 : decode cJ3_checkIndex_8e157 6 = .ok (.if_icmp .lt 10, 3) := by decide +kernel
theorem dJ3_checkIndex_8e157_9 : decode cJ3_checkIndex_8e157 9 = .ok (.aload_n 2, 1) := by decide +kernel
theorem dJ3_checkIndex_8e157_10 : decode cJ3_checkIndex_8e157 10 = .ok (.iload_n 0, 1) := by decide +kernel
theorem dJ3_checkIndex_8e157_11 : decode cJ3_checkIndex_8e157 11 = .ok (.iload_n 1, 1) := by decide +kernel
theorem dJ3_checkIndex_8e157_12 : decode cJ3_checkIndex_8e157 12 = .ok (.invokestatic 95, 3) := by decide +kernel
theorem dJ3_checkIndex_8e157_15 : decode cJ3_checkIndex_8e157 15 = .ok (.athrow, 1) := by decide +kernel
theorem dJ3_checkIndex_8e157_16 : decode cJ3_checkIndex_8e157 16 = .ok (.iload_n 0, 1) := by decide +kernel
theorem dJ3_checkIndex_8e157_17 : decode cJ3_checkIndex_8e157 17 = .ok (.ireturn, 1) := by decide +kernel
theorem dL_law_0 : decode cL_law 0 = .ok (.new 7, 3) := by decide +kernel
theorem dL_law_3 : decode cL_law 3 = .ok (.dup, 1) := by decide +kernel
theorem dL_law_4 : decode cL_law 4 = .ok (.invokespecial 9, 3) := by decide +kernel
theorem dL_law_7 : decode cL_law 7 = .ok (.astore_n 1, 1) := by decide +kernel
theorem dL_law_8 : decode cL_law 8 = .ok (.new 10, 3) := by decide +kernel
theorem dL_law_11 : decode cL_law 11 = .ok (.dup, 1) := by decide +kernel
theorem dL_law_12 : decode cL_law 12 = .ok (.invokespecial 12, 3) := by decide +kernel
theorem dL_law_15 : decode cL_law 15 = .ok (.astore_n 2, 1) := by decide +kernel
theorem dL_law_16 : decode cL_law 16 = .ok (.iconst 0, 1) := by decide +kernel
theorem dL_law_17 : decode cL_law 17 = .ok (.istore_n 3, 1) := by decide +kernel
theorem dL_law_18 : decode cL_law 18 = .ok (.iload_n 3, 1) := by decide +kernel
theorem dL_law_19 : decode cL_law 19 = .ok (.aload_n 0, 1) := by decide +kernel
theorem dL_law_20 : decode cL_law 20 = .ok (.arraylength, 1) := by decide +kernel
theorem dL_law_21 : decode cL_law 21 = .ok (.bipush 6, 2) := by decide +kernel
theorem dL_law_23 : decode cL_law 23 = .ok (.isub, 1) := by decide +kernel
theorem dL_law_24 : decode cL_law 24 = .ok (.if_icmp .gt 1095, 3) := by decide +kernel
theorem dL_law_27 : decode cL_law 27 = .ok (.aload_n 0, 1) := by decide +kernel
theorem dL_law_28 : decode cL_law 28 = .ok (.iload_n 3, 1) := by decide +kernel
theorem dL_law_29 : decode cL_law 29 = .ok (.iaload, 1) := by decide +kernel
theorem dL_law_30 : decode cL_law 30 = .ok (.bipush 31, 2) := by decide +kernel
theorem dL_law_32 : decode cL_law 32 = .ok (.iand, 1) := by decide +kernel
theorem dL_law_33 : decode cL_law 33 = .ok (.tableswitch 1080 0 28 #[131, 174, 207, 240, 253, 286, 319, 362, 385, 398, 421, 454, 487, 510, 543, 576, 609, 633, 676, 709, 742, 796, 809, 822, 845, 888, 931, 994, 1047], 131) := by decide +kernel
theorem dL_law_164 : decode cL_law 164 = .ok (.aload_n 1, 1) := by decide +kernel
theorem dL_law_165 : decode cL_law 165 = .ok (.aload_n 0, 1) := by decide +kernel
theorem dL_law_166 : decode cL_law 166 = .ok (.iload_n 3, 1) := by decide +kernel
theorem dL_law_167 : decode cL_law 167 = .ok (.iconst 1, 1) := by decide +kernel
theorem dL_law_168 : decode cL_law 168 = .ok (.iadd, 1) := by decide +kernel
theorem dL_law_169 : decode cL_law 169 = .ok (.iaload, 1) := by decide +kernel
theorem dL_law_170 : decode cL_law 170 = .ok (.aload_n 0, 1) := by decide +kernel
theorem dL_law_171 : decode cL_law 171 = .ok (.iload_n 3, 1) := by decide +kernel
theorem dL_law_172 : decode cL_law 172 = .ok (.iconst 2, 1) := by decide +kernel
theorem dL_law_173 : decode cL_law 173 = .ok (.iadd, 1) := by decide +kernel
theorem dL_law_174 : decode cL_law 174 = .ok (.iaload, 1) := by decide +kernel
theorem dL_law_175 : decode cL_law 175 = .ok (.aload_n 0, 1) := by decide +kernel
theorem dL_law_176 : decode cL_law 176 = .ok (.iload_n 3, 1) := by decide +kernel
theorem dL_law_177 : decode cL_law 177 = .ok (.iconst 3, 1) := by decide +kernel
theorem dL_law_178 : decode cL_law 178 = .ok (.iadd, 1) := by decide +kernel
theorem dL_law_179 : decode cL_law 179 = .ok (.iaload, 1) := by decide +kernel
theorem dL_law_180 : decode cL_law 180 = .ok (.invokevirtual 13, 3) := by decide +kernel
theorem dL_law_183 : decode cL_law 183 = .ok (.aload_n 2, 1) := by decide +kernel
theorem dL_law_184 : decode cL_law 184 = .ok (.aload_n 0, 1) := by decide +kernel
theorem dL_law_185 : decode cL_law 185 = .ok (.iload_n 3, 1) := by decide +kernel
theorem dL_law_186 : decode cL_law 186 = .ok (.iconst 1, 1) := by decide +kernel
theorem dL_law_187 : decode cL_law 187 = .ok (.iadd, 1) := by decide +kernel
theorem dL_law_188 : decode cL_law 188 = .ok (.iaload, 1) := by decide +kernel
theorem dL_law_189 : decode cL_law 189 = .ok (.aload_n 0, 1) := by decide +kernel
theorem dL_law_190 : decode cL_law 190 = .ok (.iload_n 3, 1) := by decide +kernel
theorem dL_law_191 : decode cL_law 191 = .ok (.iconst 2, 1) := by decide +kernel
theorem dL_law_192 : decode cL_law 192 = .ok (.iadd, 1) := by decide +kernel
theorem dL_law_193 : decode cL_law 193 = .ok (.iaload, 1) := by decide +kernel
theorem dL_law_194 : decode cL_law 194 = .ok (.aload_n 0, 1) := by decide +kernel
theorem dL_law_195 : decode cL_law 195 = .ok (.iload_n 3, 1) := by decide +kernel
theorem dL_law_196 : decode cL_law 196 = .ok (.iconst 3, 1) := by decide +kernel
theorem dL_law_197 : decode cL_law 197 = .ok (.iadd, 1) := by decide +kernel
theorem dL_law_198 : decode cL_law 198 = .ok (.iaload, 1) := by decide +kernel
theorem dL_law_199 : decode cL_law 199 = .ok (.invokevirtual 17, 3) := by decide +kernel
theorem dL_law_202 : decode cL_law 202 = .ok (.if_icmp .eq 911, 3) := by decide +kernel
theorem dL_law_205 : decode cL_law 205 = .ok (.iconst 0, 1) := by decide +kernel
theorem dL_law_206 : decode cL_law 206 = .ok (.ireturn, 1) := by decide +kernel
theorem dL_law_207 : decode cL_law 207 = .ok (.aload_n 1, 1) := by decide +kernel
theorem dL_law_208 : decode cL_law 208 = .ok (.aload_n 0, 1) := by decide +kernel
theorem dL_law_209 : decode cL_law 209 = .ok (.iload_n 3, 1) := by decide +kernel
theorem dL_law_210 : decode cL_law 210 = .ok (.iconst 1, 1) := by decide +kernel
theorem dL_law_211 : decode cL_law 211 = .ok (.iadd, 1) := by decide +kernel
theorem dL_law_212 : decode cL_law 212 = .ok (.iaload, 1) := by decide +kernel
theorem dL_law_213 : decode cL_law 213 = .ok (.aload_n 0, 1) := by decide +kernel
theorem dL_law_214 : decode cL_law 214 = .ok (.iload_n 3, 1) := by decide +kernel
theorem dL_law_215 : decode cL_law 215 = .ok (.iconst 2, 1) := by decide +kernel
theorem dL_law_216 : decode cL_law 216 = .ok (.iadd, 1) := by decide +kernel
theorem dL_law_217 : decode cL_law 217 = .ok (.iaload, 1) := by decide +kernel
theorem dL_law_218 : decode cL_law 218 = .ok (.invokevirtual 18, 3) := by decide +kernel
theorem dL_law_221 : decode cL_law 221 = .ok (.aload_n 2, 1) := by decide +kernel
theorem dL_law_222 : decode cL_law 222 = .ok (.aload_n 0, 1) := by decide +kernel
theorem dL_law_223 : decode cL_law 223 = .ok (.iload_n 3, 1) := by decide +kernel
theorem dL_law_224 : decode cL_law 224 = .ok (.iconst 1, 1) := by decide +kernel
theorem dL_law_225 : decode cL_law 225 = .ok (.iadd, 1) := by decide +kernel
theorem dL_law_226 : decode cL_law 226 = .ok (.iaload, 1) := by decide +kernel
theorem dL_law_227 : decode cL_law 227 = .ok (.aload_n 0, 1) := by decide +kernel
theorem dL_law_228 : decode cL_law 228 = .ok (.iload_n 3, 1) := by decide +kernel
theorem dL_law_229 : decode cL_law 229 = .ok (.iconst 2, 1) := by decide +kernel
theorem dL_law_230 : decode cL_law 230 = .ok (.iadd, 1) := by decide +kernel
theorem dL_law_231 : decode cL_law 231 = .ok (.iaload, 1) := by decide +kernel
theorem dL_law_232 : decode cL_law 232 = .ok (.invokevirtual 22, 3) := by decide +kernel
theorem dL_law_235 : decode cL_law 235 = .ok (.if_icmp .eq 878, 3) := by decide +kernel
theorem dL_law_238 : decode cL_law 238 = .ok (.iconst 0, 1) := by decide +kernel
theorem dL_law_239 : decode cL_law 239 = .ok (.ireturn, 1) := by decide +kernel
theorem dL_law_240 : decode cL_law 240 = .ok (.aload_n 1, 1) := by decide +kernel
theorem dL_law_241 : decode cL_law 241 = .ok (.aload_n 0, 1) := by decide +kernel
theorem dL_law_242 : decode cL_law 242 = .ok (.iload_n 3, 1) := by decide +kernel
theorem dL_law_243 : decode cL_law 243 = .ok (.iconst 1, 1) := by decide +kernel
theorem dL_law_244 : decode cL_law 244 = .ok (.iadd, 1) := by decide +kernel
theorem dL_law_245 : decode cL_law 245 = .ok (.iaload, 1) := by decide +kernel
theorem dL_law_246 : decode cL_law 246 = .ok (.aload_n 0, 1) := by decide +kernel
theorem dL_law_247 : decode cL_law 247 = .ok (.iload_n 3, 1) := by decide +kernel
theorem dL_law_248 : decode cL_law 248 = .ok (.iconst 2, 1) := by decide +kernel
theorem dL_law_249 : decode cL_law 249 = .ok (.iadd, 1) := by decide +kernel
theorem dL_law_250 : decode cL_law 250 = .ok (.iaload, 1) := by decide +kernel
theorem dL_law_251 : decode cL_law 251 = .ok (.invokevirtual 23, 3) := by decide +kernel
theorem dL_law_254 : decode cL_law 254 = .ok (.aload_n 2, 1) := by decide +kernel
theorem dL_law_255 : decode cL_law 255 = .ok (.aload_n 0, 1) := by decide +kernel
theorem dL_law_256 : decode cL_law 256 = .ok (.iload_n 3, 1) := by decide +kernel
theorem dL_law_257 : decode cL_law 257 = .ok (.iconst 1, 1) := by decide +kernel
theorem dL_law_258 : decode cL_law 258 = .ok (.iadd, 1) := by decide +kernel
theorem dL_law_259 : decode cL_law 259 = .ok (.iaload, 1) := by decide +kernel
theorem dL_law_260 : decode cL_law 260 = .ok (.aload_n 0, 1) := by decide +kernel
theorem dL_law_261 : decode cL_law 261 = .ok (.iload_n 3, 1) := by decide +kernel
theorem dL_law_262 : decode cL_law 262 = .ok (.iconst 2, 1) := by decide +kernel
theorem dL_law_263 : decode cL_law 263 = .ok (.iadd, 1) := by decide +kernel
theorem dL_law_264 : decode cL_law 264 = .ok (.iaload, 1) := by decide +kernel
theorem dL_law_265 : decode cL_law 265 = .ok (.invokevirtual 26, 3) := by decide +kernel
theorem dL_law_268 : decode cL_law 268 = .ok (.if_icmp .eq 845, 3) := by decide +kernel
theorem dL_law_271 : decode cL_law 271 = .ok (.iconst 0, 1) := by decide +kernel
theorem dL_law_272 : decode cL_law 272 = .ok (.ireturn, 1) := by decide +kernel
theorem dL_law_273 : decode cL_law 273 = .ok (.aload_n 1, 1) := by decide +kernel
theorem dL_law_274 : decode cL_law 274 = .ok (.invokevirtual 27, 3) := by decide +kernel
theorem dL_law_277 : decode cL_law 277 = .ok (.aload_n 2, 1) := by decide +kernel
theorem dL_law_278 : decode cL_law 278 = .ok (.invokevirtual 31, 3) := by decide +kernel
theorem dL_law_281 : decode cL_law 281 = .ok (.if_icmp .eq 832, 3) := by decide +kernel
theorem dL_law_284 : decode cL_law 284 = .ok (.iconst 0, 1) := by decide +kernel
theorem dL_law_285 : decode cL_law 285 = .ok (.ireturn, 1) := by decide +kernel
theorem dL_law_286 : decode cL_law 286 = .ok (.aload_n 1, 1) := by decide +kernel
theorem dL_law_287 : decode cL_law 287 = .ok (.aload_n 0, 1) := by decide +kernel
theorem dL_law_288 : decode cL_law 288 = .ok (.iload_n 3, 1) := by decide +kernel
theorem dL_law_289 : decode cL_law 289 = .ok (.iconst 1, 1) := by decide +kernel
theorem dL_law_290 : decode cL_law 290 = .ok (.iadd, 1) := by decide +kernel
theorem dL_law_291 : decode cL_law 291 = .ok (.iaload, 1) := by decide +kernel
theorem dL_law_292 : decode cL_law 292 = .ok (.aload_n 0, 1) := by decide +kernel
theorem dL_law_293 : decode cL_law 293 = .ok (.iload_n 3, 1) := by decide +kernel
theorem dL_law_294 : decode cL_law 294 = .ok (.iconst 2, 1) := by decide +kernel
theorem dL_law_295 : decode cL_law 295 = .ok (.iadd, 1) := by decide +kernel
theorem dL_law_296 : decode cL_law 296 = .ok (.iaload, 1) := by decide +kernel
theorem dL_law_297 : decode cL_law 297 = .ok (.invokevirtual 32, 3) := by decide +kernel
theorem dL_law_300 : decode cL_law 300 = .ok (.aload_n 2, 1) := by decide +kernel
theorem dL_law_301 : decode cL_law 301 = .ok (.aload_n 0, 1) := by decide +kernel
theorem dL_law_302 : decode cL_law 302 = .ok (.iload_n 3, 1) := by decide +kernel
theorem dL_law_303 : decode cL_law 303 = .ok (.iconst 1, 1) := by decide +kernel
theorem dL_law_304 : decode cL_law 304 = .ok (.iadd, 1) := by decide +kernel
theorem dL_law_305 : decode cL_law 305 = .ok (.iaload, 1) := by decide +kernel
theorem dL_law_306 : decode cL_law 306 = .ok (.aload_n 0, 1) := by decide +kernel
theorem dL_law_307 : decode cL_law 307 = .ok (.iload_n 3, 1) := by decide +kernel
theorem dL_law_308 : decode cL_law 308 = .ok (.iconst 2, 1) := by decide +kernel
theorem dL_law_309 : decode cL_law 309 = .ok (.iadd, 1) := by decide +kernel
theorem dL_law_310 : decode cL_law 310 = .ok (.iaload, 1) := by decide +kernel
theorem dL_law_311 : decode cL_law 311 = .ok (.invokevirtual 35, 3) := by decide +kernel
theorem dL_law_314 : decode cL_law 314 = .ok (.if_icmp .eq 799, 3) := by decide +kernel
theorem dL_law_317 : decode cL_law 317 = .ok (.iconst 0, 1) := by decide +kernel
theorem dL_law_318 : decode cL_law 318 = .ok (.ireturn, 1) := by decide +kernel
theorem dL_law_319 : decode cL_law 319 = .ok (.aload_n 1, 1) := by decide +kernel
theorem dL_law_320 : decode cL_law 320 = .ok (.aload_n 0, 1) := by decide +kernel
theorem dL_law_321 : decode cL_law 321 = .ok (.iload_n 3, 1) := by decide +kernel
theorem dL_law_322 : decode cL_law 322 = .ok (.iconst 1, 1) := by decide +kernel
theorem dL_law_323 : decode cL_law 323 = .ok (.iadd, 1) := by decide +kernel
theorem dL_law_324 : decode cL_law 324 = .ok (.iaload, 1) := by decide +kernel
theorem dL_law_325 : decode cL_law 325 = .ok (.aload_n 0, 1) := by decide +kernel
theorem dL_law_326 : decode cL_law 326 = .ok (.iload_n 3, 1) := by decide +kernel
theorem dL_law_327 : decode cL_law 327 = .ok (.iconst 2, 1) := by decide +kernel
theorem dL_law_328 : decode cL_law 328 = .ok (.iadd, 1) := by decide +kernel
theorem dL_law_329 : decode cL_law 329 = .ok (.iaload, 1) := by decide +kernel
theorem dL_law_330 : decode cL_law 330 = .ok (.invokevirtual 36, 3) := by decide +kernel
theorem dL_law_333 : decode cL_law 333 = .ok (.aload_n 2, 1) := by decide +kernel
theorem dL_law_334 : decode cL_law 334 = .ok (.aload_n 0, 1) := by decide +kernel
theorem dL_law_335 : decode cL_law 335 = .ok (.iload_n 3, 1) := by decide +kernel
theorem dL_law_336 : decode cL_law 336 = .ok (.iconst 1, 1) := by decide +kernel
theorem dL_law_337 : decode cL_law 337 = .ok (.iadd, 1) := by decide +kernel
theorem dL_law_338 : decode cL_law 338 = .ok (.iaload, 1) := by decide +kernel
theorem dL_law_339 : decode cL_law 339 = .ok (.aload_n 0, 1) := by decide +kernel
theorem dL_law_340 : decode cL_law 340 = .ok (.iload_n 3, 1) := by decide +kernel
theorem dL_law_341 : decode cL_law 341 = .ok (.iconst 2, 1) := by decide +kernel
theorem dL_law_342 : decode cL_law 342 = .ok (.iadd, 1) := by decide +kernel
theorem dL_law_343 : decode cL_law 343 = .ok (.iaload, 1) := by decide +kernel
theorem dL_law_344 : decode cL_law 344 = .ok (.invokevirtual 39, 3) := by decide +kernel
theorem dL_law_347 : decode cL_law 347 = .ok (.if_icmp .eq 766, 3) := by decide +kernel
theorem dL_law_350 : decode cL_law 350 = .ok (.iconst 0, 1) := by decide +kernel
theorem dL_law_351 : decode cL_law 351 = .ok (.ireturn, 1) := by decide +kernel
theorem dL_law_352 : decode cL_law 352 = .ok (.aload_n 1, 1) := by decide +kernel
theorem dL_law_353 : decode cL_law 353 = .ok (.aload_n 0, 1) := by decide +kernel
theorem dL_law_354 : decode cL_law 354 = .ok (.iload_n 3, 1) := by decide +kernel
theorem dL_law_355 : decode cL_law 355 = .ok (.iconst 1, 1) := by decide +kernel
theorem dL_law_356 : decode cL_law 356 = .ok (.iadd, 1) := by decide +kernel
theorem dL_law_357 : decode cL_law 357 = .ok (.iaload, 1) := by decide +kernel
theorem dL_law_358 : decode cL_law 358 = .ok (.aload_n 0, 1) := by decide +kernel
theorem dL_law_359 : decode cL_law 359 = .ok (.iload_n 3, 1) := by decide +kernel
theorem dL_law_360 : decode cL_law 360 = .ok (.iconst 2, 1) := by decide +kernel
theorem dL_law_361 : decode cL_law 361 = .ok (.iadd, 1) := by decide +kernel
theorem dL_law_362 : decode cL_law 362 = .ok (.iaload, 1) := by decide +kernel
theorem dL_law_363 : decode cL_law 363 = .ok (.aload_n 0, 1) := by decide +kernel
theorem dL_law_364 : decode cL_law 364 = .ok (.iload_n 3, 1) := by decide +kernel
theorem dL_law_365 : decode cL_law 365 = .ok (.iconst 3, 1) := by decide +kernel
theorem dL_law_366 : decode cL_law 366 = .ok (.iadd, 1) := by decide +kernel
theorem dL_law_367 : decode cL_law 367 = .ok (.iaload, 1) := by decide +kernel
theorem dL_law_368 : decode cL_law 368 = .ok (.invokevirtual 40, 3) := by decide +kernel
theorem dL_law_371 : decode cL_law 371 = .ok (.aload_n 2, 1) := by decide +kernel
theorem dL_law_372 : decode cL_law 372 = .ok (.aload_n 0, 1) := by decide +kernel
theorem dL_law_373 : decode cL_law 373 = .ok (.iload_n 3, 1) := by decide +kernel
theorem dL_law_374 : decode cL_law 374 = .ok (.iconst 1, 1) := by decide +kernel
theorem dL_law_375 : decode cL_law 375 = .ok (.iadd, 1) := by decide +kernel
theorem dL_law_376 : decode cL_law 376 = .ok (.iaload, 1) := by decide +kernel
theorem dL_law_377 : decode cL_law 377 = .ok (.aload_n 0, 1) := by decide +kernel
theorem dL_law_378 : decode cL_law 378 = .ok (.iload_n 3, 1) := by decide +kernel
