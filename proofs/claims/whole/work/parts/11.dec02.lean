theorem dX4_worth_233 : decode cX4_worth 233 = .ok (.iinc 6 (-1), 3) := by decide +kernel
theorem dX4_worth_236 : decode cX4_worth 236 = .ok (.aload_n 3, 1) := by decide +kernel
theorem dX4_worth_237 : decode cX4_worth 237 = .ok (.iload 6, 2) := by decide +kernel
theorem dX4_worth_239 : decode cX4_worth 239 = .ok (.iconst 1, 1) := by decide +kernel
theorem dX4_worth_240 : decode cX4_worth 240 = .ok (.isub, 1) := by decide +kernel
theorem dX4_worth_241 : decode cX4_worth 241 = .ok (.iload 8, 2) := by decide +kernel
theorem dX4_worth_243 : decode cX4_worth 243 = .ok (.aload_n 3, 1) := by decide +kernel
theorem dX4_worth_244 : decode cX4_worth 244 = .ok (.iload 6, 2) := by decide +kernel
theorem dX4_worth_246 : decode cX4_worth 246 = .ok (.iconst 1, 1) := by decide +kernel
theorem dX4_worth_247 : decode cX4_worth 247 = .ok (.isub, 1) := by decide +kernel
theorem dX4_worth_248 : decode cX4_worth 248 = .ok (.iaload, 1) := by decide +kernel
theorem dX4_worth_249 : decode cX4_worth 249 = .ok (.aload_n 3, 1) := by decide +kernel
theorem dX4_worth_250 : decode cX4_worth 250 = .ok (.iload 6, 2) := by decide +kernel
theorem dX4_worth_252 : decode cX4_worth 252 = .ok (.iaload, 1) := by decide +kernel
theorem dX4_worth_253 : decode cX4_worth 253 = .ok (.invokestatic 25, 3) := by decide +kernel
theorem dX4_worth_256 : decode cX4_worth 256 = .ok (.iastore, 1) := by decide +kernel
theorem dX4_worth_257 : decode cX4_worth 257 = .ok (.iinc 7 1, 3) := by decide +kernel
theorem dX4_worth_260 : decode cX4_worth 260 = .ok (.goto (-197), 3) := by decide +kernel
theorem dX4_worth_263 : decode cX4_worth 263 = .ok (.iload 6, 2) := by decide +kernel
theorem dX4_worth_265 : decode cX4_worth 265 = .ok (.iconst 1, 1) := by decide +kernel
theorem dX4_worth_266 : decode cX4_worth 266 = .ok (.if_icmp .ne 9, 3) := by decide +kernel
theorem dX4_worth_269 : decode cX4_worth 269 = .ok (.aload_n 3, 1) := by decide +kernel
theorem dX4_worth_270 : decode cX4_worth 270 = .ok (.iconst 0, 1) := by decide +kernel
theorem dX4_worth_271 : decode cX4_worth 271 = .ok (.iaload, 1) := by decide +kernel
theorem dX4_worth_272 : decode cX4_worth 272 = .ok (.goto 4, 3) := by decide +kernel
theorem dX4_worth_275 : decode cX4_worth 275 = .ok (.iconst 0, 1) := by decide +kernel
theorem dX4_worth_276 : decode cX4_worth 276 = .ok (.ireturn, 1) := by decide +kernel
theorem dX4_joined_0 : decode cX4_joined 0 = .ok (.iload_n 0, 1) := by decide +kernel
theorem dX4_joined_1 : decode cX4_joined 1 = .ok (.tableswitch 117 7 17 #[59, 73, 117, 117, 117, 117, 109, 113, 117, 87, 98], 59) := by decide +kernel
theorem dX4_joined_60 : decode cX4_joined 60 = .ok (.iload_n 1, 1) := by decide +kernel
theorem dX4_joined_61 : decode cX4_joined 61 = .ok (.ifCond .ne 7, 3) := by decide +kernel
theorem dX4_joined_64 : decode cX4_joined 64 = .ok (.iload_n 2, 1) := by decide +kernel
theorem dX4_joined_65 : decode cX4_joined 65 = .ok (.ifCond .eq 7, 3) := by decide +kernel
theorem dX4_joined_68 : decode cX4_joined 68 = .ok (.iconst 1, 1) := by decide +kernel
theorem dX4_joined_69 : decode cX4_joined 69 = .ok (.goto 4, 3) := by decide +kernel
theorem dX4_joined_72 : decode cX4_joined 72 = .ok (.iconst 0, 1) := by decide +kernel
theorem dX4_joined_73 : decode cX4_joined 73 = .ok (.ireturn, 1) := by decide +kernel
theorem dX4_joined_74 : decode cX4_joined 74 = .ok (.iload_n 1, 1) := by decide +kernel
theorem dX4_joined_75 : decode cX4_joined 75 = .ok (.ifCond .eq 11, 3) := by decide +kernel
theorem dX4_joined_78 : decode cX4_joined 78 = .ok (.iload_n 2, 1) := by decide +kernel
theorem dX4_joined_79 : decode cX4_joined 79 = .ok (.ifCond .eq 7, 3) := by decide +kernel
theorem dX4_joined_82 : decode cX4_joined 82 = .ok (.iconst 1, 1) := by decide +kernel
theorem dX4_joined_83 : decode cX4_joined 83 = .ok (.goto 4, 3) := by decide +kernel
theorem dX4_joined_86 : decode cX4_joined 86 = .ok (.iconst 0, 1) := by decide +kernel
theorem dX4_joined_87 : decode cX4_joined 87 = .ok (.ireturn, 1) := by decide +kernel
theorem dX4_joined_88 : decode cX4_joined 88 = .ok (.iload_n 1, 1) := by decide +kernel
theorem dX4_joined_89 : decode cX4_joined 89 = .ok (.iload_n 2, 1) := by decide +kernel
theorem dX4_joined_90 : decode cX4_joined 90 = .ok (.if_icmp .ge 7, 3) := by decide +kernel
theorem dX4_joined_93 : decode cX4_joined 93 = .ok (.iconst 1, 1) := by decide +kernel
theorem dX4_joined_94 : decode cX4_joined 94 = .ok (.goto 4, 3) := by decide +kernel
theorem dX4_joined_97 : decode cX4_joined 97 = .ok (.iconst 0, 1) := by decide +kernel
theorem dX4_joined_98 : decode cX4_joined 98 = .ok (.ireturn, 1) := by decide +kernel
theorem dX4_joined_99 : decode cX4_joined 99 = .ok (.iload_n 1, 1) := by decide +kernel
theorem dX4_joined_100 : decode cX4_joined 100 = .ok (.iload_n 2, 1) := by decide +kernel
theorem dX4_joined_101 : decode cX4_joined 101 = .ok (.if_icmp .ne 7, 3) := by decide +kernel
theorem dX4_joined_104 : decode cX4_joined 104 = .ok (.iconst 1, 1) := by decide +kernel
theorem dX4_joined_105 : decode cX4_joined 105 = .ok (.goto 4, 3) := by decide +kernel
theorem dX4_joined_108 : decode cX4_joined 108 = .ok (.iconst 0, 1) := by decide +kernel
theorem dX4_joined_109 : decode cX4_joined 109 = .ok (.ireturn, 1) := by decide +kernel
theorem dX4_joined_110 : decode cX4_joined 110 = .ok (.iload_n 1, 1) := by decide +kernel
theorem dX4_joined_111 : decode cX4_joined 111 = .ok (.iload_n 2, 1) := by decide +kernel
theorem dX4_joined_112 : decode cX4_joined 112 = .ok (.iadd, 1) := by decide +kernel
theorem dX4_joined_113 : decode cX4_joined 113 = .ok (.ireturn, 1) := by decide +kernel
theorem dX4_joined_114 : decode cX4_joined 114 = .ok (.iload_n 1, 1) := by decide +kernel
theorem dX4_joined_115 : decode cX4_joined 115 = .ok (.iload_n 2, 1) := by decide +kernel
theorem dX4_joined_116 : decode cX4_joined 116 = .ok (.isub, 1) := by decide +kernel
theorem dX4_joined_117 : decode cX4_joined 117 = .ok (.ireturn, 1) := by decide +kernel
theorem dX4_joined_118 : decode cX4_joined 118 = .ok (.iload_n 1, 1) := by decide +kernel
theorem dX4_joined_119 : decode cX4_joined 119 = .ok (.iload_n 2, 1) := by decide +kernel
theorem dX4_joined_120 : decode cX4_joined 120 = .ok (.imul, 1) := by decide +kernel
theorem dX4_joined_121 : decode cX4_joined 121 = .ok (.ireturn, 1) := by decide +kernel
theorem dX5_init_0 : decode cX5_init 0 = .ok (.aload_n 0, 1) := by decide +kernel
theorem dX5_init_1 : decode cX5_init 1 = .ok (.invokespecial 1, 3) := by decide +kernel
theorem dX5_init_4 : decode cX5_init 4 = .ok (.aload_n 0, 1) := by decide +kernel
theorem dX5_init_5 : decode cX5_init 5 = .ok (.new 7, 3) := by decide +kernel
theorem dX5_init_8 : decode cX5_init 8 = .ok (.dup, 1) := by decide +kernel
theorem dX5_init_9 : decode cX5_init 9 = .ok (.invokespecial 9, 3) := by decide +kernel
theorem dX5_init_12 : decode cX5_init 12 = .ok (.putfield 10, 3) := by decide +kernel
theorem dX5_init_15 : decode cX5_init 15 = .ok (.aload_n 0, 1) := by decide +kernel
theorem dX5_init_16 : decode cX5_init 16 = .ok (.new 16, 3) := by decide +kernel
theorem dX5_init_19 : decode cX5_init 19 = .ok (.dup, 1) := by decide +kernel
theorem dX5_init_20 : decode cX5_init 20 = .ok (.invokespecial 18, 3) := by decide +kernel
theorem dX5_init_23 : decode cX5_init 23 = .ok (.putfield 19, 3) := by decide +kernel
theorem dX5_init_26 : decode cX5_init 26 = .ok (.aload_n 0, 1) := by decide +kernel
theorem dX5_init_27 : decode cX5_init 27 = .ok (.new 23, 3) := by decide +kernel
theorem dX5_init_30 : decode cX5_init 30 = .ok (.dup, 1) := by decide +kernel
theorem dX5_init_31 : decode cX5_init 31 = .ok (.aload_n 0, 1) := by decide +kernel
theorem dX5_init_32 : decode cX5_init 32 = .ok (.getfield 10, 3) := by decide +kernel
theorem dX5_init_35 : decode cX5_init 35 = .ok (.invokespecial 25, 3) := by decide +kernel
theorem dX5_init_38 : decode cX5_init 38 = .ok (.putfield 28, 3) := by decide +kernel
theorem dX5_init_41 : decode cX5_init 41 = .ok (.aload_n 0, 1) := by decide +kernel
theorem dX5_init_42 : decode cX5_init 42 = .ok (.new 23, 3) := by decide +kernel
theorem dX5_init_45 : decode cX5_init 45 = .ok (.dup, 1) := by decide +kernel
theorem dX5_init_46 : decode cX5_init 46 = .ok (.aload_n 0, 1) := by decide +kernel
theorem dX5_init_47 : decode cX5_init 47 = .ok (.getfield 10, 3) := by decide +kernel
theorem dX5_init_50 : decode cX5_init 50 = .ok (.invokespecial 25, 3) := by decide +kernel
theorem dX5_init_53 : decode cX5_init 53 = .ok (.putfield 32, 3) := by decide +kernel
theorem dX5_init_56 : decode cX5_init 56 = .ok (.aload_n 0, 1) := by decide +kernel
theorem dX5_init_57 : decode cX5_init 57 = .ok (.new 23, 3) := by decide +kernel
theorem dX5_init_60 : decode cX5_init 60 = .ok (.dup, 1) := by decide +kernel
theorem dX5_init_61 : decode cX5_init 61 = .ok (.aload_n 0, 1) := by decide +kernel
theorem dX5_init_62 : decode cX5_init 62 = .ok (.getfield 10, 3) := by decide +kernel
theorem dX5_init_65 : decode cX5_init 65 = .ok (.invokespecial 25, 3) := by decide +kernel
theorem dX5_init_68 : decode cX5_init 68 = .ok (.putfield 35, 3) := by decide +kernel
theorem dX5_init_71 : decode cX5_init 71 = .ok (.aload_n 0, 1) := by decide +kernel
theorem dX5_init_72 : decode cX5_init 72 = .ok (.iconst 4, 1) := by decide +kernel
theorem dX5_init_73 : decode cX5_init 73 = .ok (.anewarray 38, 3) := by decide +kernel
theorem dX5_init_76 : decode cX5_init 76 = .ok (.putfield 40, 3) := by decide +kernel
theorem dX5_init_79 : decode cX5_init 79 = .ok (.iconst 0, 1) := by decide +kernel
theorem dX5_init_80 : decode cX5_init 80 = .ok (.istore_n 1, 1) := by decide +kernel
theorem dX5_init_81 : decode cX5_init 81 = .ok (.iload_n 1, 1) := by decide +kernel
theorem dX5_init_82 : decode cX5_init 82 = .ok (.iconst 4, 1) := by decide +kernel
theorem dX5_init_83 : decode cX5_init 83 = .ok (.if_icmp .ge 22, 3) := by decide +kernel
theorem dX5_init_86 : decode cX5_init 86 = .ok (.aload_n 0, 1) := by decide +kernel
theorem dX5_init_87 : decode cX5_init 87 = .ok (.getfield 40, 3) := by decide +kernel
theorem dX5_init_90 : decode cX5_init 90 = .ok (.iload_n 1, 1) := by decide +kernel
theorem dX5_init_91 : decode cX5_init 91 = .ok (.new 38, 3) := by decide +kernel
theorem dX5_init_94 : decode cX5_init 94 = .ok (.dup, 1) := by decide +kernel
theorem dX5_init_95 : decode cX5_init 95 = .ok (.invokespecial 44, 3) := by decide +kernel
theorem dX5_init_98 : decode cX5_init 98 = .ok (.aastore, 1) := by decide +kernel
theorem dX5_init_99 : decode cX5_init 99 = .ok (.iinc 1 1, 3) := by decide +kernel
theorem dX5_init_102 : decode cX5_init 102 = .ok (.goto (-21), 3) := by decide +kernel
theorem dX5_init_105 : decode cX5_init 105 = .ok (.iconst 0, 1) := by decide +kernel
theorem dX5_init_106 : decode cX5_init 106 = .ok (.istore_n 1, 1) := by decide +kernel
theorem dX5_init_107 : decode cX5_init 107 = .ok (.iload_n 1, 1) := by decide +kernel
theorem dX5_init_108 : decode cX5_init 108 = .ok (.ldc 45, 2) := by decide +kernel
theorem dX5_init_110 : decode cX5_init 110 = .ok (.invokevirtual 47, 3) := by decide +kernel
theorem dX5_init_113 : decode cX5_init 113 = .ok (.if_icmp .ge 23, 3) := by decide +kernel
theorem dX5_init_116 : decode cX5_init 116 = .ok (.aload_n 0, 1) := by decide +kernel
theorem dX5_init_117 : decode cX5_init 117 = .ok (.getfield 19, 3) := by decide +kernel
theorem dX5_init_120 : decode cX5_init 120 = .ok (.ldc 45, 2) := by decide +kernel
theorem dX5_init_122 : decode cX5_init 122 = .ok (.iload_n 1, 1) := by decide +kernel
theorem dX5_init_123 : decode cX5_init 123 = .ok (.invokevirtual 53, 3) := by decide +kernel
theorem dX5_init_126 : decode cX5_init 126 = .ok (.invokevirtual 57, 3) := by decide +kernel
theorem dX5_init_129 : decode cX5_init 129 = .ok (.pop, 1) := by decide +kernel
theorem dX5_init_130 : decode cX5_init 130 = .ok (.iinc 1 1, 3) := by decide +kernel
theorem dX5_init_133 : decode cX5_init 133 = .ok (.goto (-26), 3) := by decide +kernel
theorem dX5_init_136 : decode cX5_init 136 = .ok (.aload_n 0, 1) := by decide +kernel
theorem dX5_init_137 : decode cX5_init 137 = .ok (.getfield 10, 3) := by decide +kernel
theorem dX5_init_140 : decode cX5_init 140 = .ok (.aload_n 0, 1) := by decide +kernel
theorem dX5_init_141 : decode cX5_init 141 = .ok (.getfield 19, 3) := by decide +kernel
theorem dX5_init_144 : decode cX5_init 144 = .ok (.invokevirtual 61, 3) := by decide +kernel
theorem dX5_init_147 : decode cX5_init 147 = .ok (.invokevirtual 65, 3) := by decide +kernel
theorem dX5_init_150 : decode cX5_init 150 = .ok (.pop, 1) := by decide +kernel
theorem dX5_init_151 : decode cX5_init 151 = .ok (.aload_n 0, 1) := by decide +kernel
theorem dX5_init_152 : decode cX5_init 152 = .ok (.getfield 19, 3) := by decide +kernel
theorem dX5_init_155 : decode cX5_init 155 = .ok (.invokevirtual 69, 3) := by decide +kernel
theorem dX5_init_158 : decode cX5_init 158 = .ok (.return_, 1) := by decide +kernel
theorem dX5_set_0 : decode cX5_set 0 = .ok (.iload_n 1, 1) := by decide +kernel
theorem dX5_set_1 : decode cX5_set 1 = .ok (.iconst 0, 1) := by decide +kernel
theorem dX5_set_2 : decode cX5_set 2 = .ok (.iconst 5, 1) := by decide +kernel
theorem dX5_set_3 : decode cX5_set 3 = .ok (.invokestatic 72, 3) := by decide +kernel
theorem dX5_set_6 : decode cX5_set 6 = .ok (.ifCond .eq 27, 3) := by decide +kernel
theorem dX5_set_9 : decode cX5_set 9 = .ok (.iload_n 3, 1) := by decide +kernel
theorem dX5_set_10 : decode cX5_set 10 = .ok (.iconst 0, 1) := by decide +kernel
theorem dX5_set_11 : decode cX5_set 11 = .ok (.iload_n 1, 1) := by decide +kernel
theorem dX5_set_12 : decode cX5_set 12 = .ok (.invokestatic 76, 3) := by decide +kernel
theorem dX5_set_15 : decode cX5_set 15 = .ok (.invokestatic 72, 3) := by decide +kernel
theorem dX5_set_18 : decode cX5_set 18 = .ok (.ifCond .eq 15, 3) := by decide +kernel
theorem dX5_set_21 : decode cX5_set 21 = .ok (.aload_n 0, 1) := by decide +kernel
theorem dX5_set_22 : decode cX5_set 22 = .ok (.getfield 28, 3) := by decide +kernel
theorem dX5_set_25 : decode cX5_set 25 = .ok (.iload_n 1, 1) := by decide +kernel
theorem dX5_set_26 : decode cX5_set 26 = .ok (.iload_n 2, 1) := by decide +kernel
theorem dX5_set_27 : decode cX5_set 27 = .ok (.invokevirtual 79, 3) := by decide +kernel
theorem dX5_set_30 : decode cX5_set 30 = .ok (.ifCond .ne 6, 3) := by decide +kernel
theorem dX5_set_33 : decode cX5_set 33 = .ok (.bipush (-2), 2) := by decide +kernel
theorem dX5_set_35 : decode cX5_set 35 = .ok (.ireturn, 1) := by decide +kernel
theorem dX5_set_36 : decode cX5_set 36 = .ok (.aload_n 0, 1) := by decide +kernel
theorem dX5_set_37 : decode cX5_set 37 = .ok (.getfield 28, 3) := by decide +kernel
theorem dX5_set_40 : decode cX5_set 40 = .ok (.iload_n 1, 1) := by decide +kernel
theorem dX5_set_41 : decode cX5_set 41 = .ok (.iload_n 2, 1) := by decide +kernel
theorem dX5_set_42 : decode cX5_set 42 = .ok (.invokevirtual 83, 3) := by decide +kernel
theorem dX5_set_45 : decode cX5_set 45 = .ok (.istore 4, 2) := by decide +kernel
theorem dX5_set_47 : decode cX5_set 47 = .ok (.aload_n 0, 1) := by decide +kernel
theorem dX5_set_48 : decode cX5_set 48 = .ok (.getfield 28, 3) := by decide +kernel
theorem dX5_set_51 : decode cX5_set 51 = .ok (.iload_n 1, 1) := by decide +kernel
theorem dX5_set_52 : decode cX5_set 52 = .ok (.iload_n 2, 1) := by decide +kernel
theorem dX5_set_53 : decode cX5_set 53 = .ok (.iload_n 3, 1) := by decide +kernel
theorem dX5_set_54 : decode cX5_set 54 = .ok (.invokevirtual 87, 3) := by decide +kernel
theorem dX5_set_57 : decode cX5_set 57 = .ok (.iload 4, 2) := by decide +kernel
theorem dX5_set_59 : decode cX5_set 59 = .ok (.ireturn, 1) := by decide +kernel
theorem dX5_cup_0 : decode cX5_cup 0 = .ok (.iload_n 1, 1) := by decide +kernel
theorem dX5_cup_1 : decode cX5_cup 1 = .ok (.invokestatic 91, 3) := by decide +kernel
theorem dX5_cup_4 : decode cX5_cup 4 = .ok (.ifCond .eq 10, 3) := by decide +kernel
theorem dX5_cup_7 : decode cX5_cup 7 = .ok (.iload_n 2, 1) := by decide +kernel
theorem dX5_cup_8 : decode cX5_cup 8 = .ok (.invokestatic 95, 3) := by decide +kernel
theorem dX5_cup_11 : decode cX5_cup 11 = .ok (.ifCond .ne 6, 3) := by decide +kernel
theorem dX5_cup_14 : decode cX5_cup 14 = .ok (.bipush (-2), 2) := by decide +kernel
theorem dX5_cup_16 : decode cX5_cup 16 = .ok (.ireturn, 1) := by decide +kernel
theorem dX5_cup_17 : decode cX5_cup 17 = .ok (.aload_n 0, 1) := by decide +kernel
theorem dX5_cup_18 : decode cX5_cup 18 = .ok (.getfield 28, 3) := by decide +kernel
theorem dX5_cup_21 : decode cX5_cup 21 = .ok (.iload_n 1, 1) := by decide +kernel
theorem dX5_cup_22 : decode cX5_cup 22 = .ok (.iload_n 2, 1) := by decide +kernel
theorem dX5_cup_23 : decode cX5_cup 23 = .ok (.invokevirtual 98, 3) := by decide +kernel
theorem dX5_cup_26 : decode cX5_cup 26 = .ok (.ireturn, 1) := by decide +kernel
theorem dX5_reason_0 : decode cX5_reason 0 = .ok (.iload_n 1, 1) := by decide +kernel
theorem dX5_reason_1 : decode cX5_reason 1 = .ok (.invokestatic 91, 3) := by decide +kernel
theorem dX5_reason_4 : decode cX5_reason 4 = .ok (.ifCond .eq 18, 3) := by decide +kernel
theorem dX5_reason_7 : decode cX5_reason 7 = .ok (.iload_n 2, 1) := by decide +kernel
theorem dX5_reason_8 : decode cX5_reason 8 = .ok (.invokestatic 95, 3) := by decide +kernel
theorem dX5_reason_11 : decode cX5_reason 11 = .ok (.ifCond .eq 11, 3) := by decide +kernel
theorem dX5_reason_14 : decode cX5_reason 14 = .ok (.iload_n 1, 1) := by decide +kernel
theorem dX5_reason_15 : decode cX5_reason 15 = .ok (.iconst 1, 1) := by decide +kernel
theorem dX5_reason_16 : decode cX5_reason 16 = .ok (.iload_n 2, 1) := by decide +kernel
theorem dX5_reason_17 : decode cX5_reason 17 = .ok (.ishl, 1) := by decide +kernel
theorem dX5_reason_18 : decode cX5_reason 18 = .ok (.iand, 1) := by decide +kernel
theorem dX5_reason_19 : decode cX5_reason 19 = .ok (.ifCond .eq 6, 3) := by decide +kernel
theorem dX5_reason_22 : decode cX5_reason 22 = .ok (.bipush (-2), 2) := by decide +kernel
theorem dX5_reason_24 : decode cX5_reason 24 = .ok (.ireturn, 1) := by decide +kernel
theorem dX5_reason_25 : decode cX5_reason 25 = .ok (.aload_n 0, 1) := by decide +kernel
theorem dX5_reason_26 : decode cX5_reason 26 = .ok (.getfield 28, 3) := by decide +kernel
theorem dX5_reason_29 : decode cX5_reason 29 = .ok (.iload_n 1, 1) := by decide +kernel
theorem dX5_reason_30 : decode cX5_reason 30 = .ok (.iload_n 2, 1) := by decide +kernel
theorem dX5_reason_31 : decode cX5_reason 31 = .ok (.invokevirtual 101, 3) := by decide +kernel
theorem dX5_reason_34 : decode cX5_reason 34 = .ok (.ireturn, 1) := by decide +kernel
theorem dX5_unsay_0 : decode cX5_unsay 0 = .ok (.aload_n 0, 1) := by decide +kernel
theorem dX5_unsay_1 : decode cX5_unsay 1 = .ok (.getfield 28, 3) := by decide +kernel
theorem dX5_unsay_4 : decode cX5_unsay 4 = .ok (.getfield 104, 3) := by decide +kernel
theorem dX5_unsay_7 : decode cX5_unsay 7 = .ok (.ifCond .ne 6, 3) := by decide +kernel
theorem dX5_unsay_10 : decode cX5_unsay 10 = .ok (.bipush (-3), 2) := by decide +kernel
theorem dX5_unsay_12 : decode cX5_unsay 12 = .ok (.ireturn, 1) := by decide +kernel
theorem dX5_unsay_13 : decode cX5_unsay 13 = .ok (.aload_n 0, 1) := by decide +kernel
theorem dX5_unsay_14 : decode cX5_unsay 14 = .ok (.getfield 28, 3) := by decide +kernel
theorem dX5_unsay_17 : decode cX5_unsay 17 = .ok (.invokevirtual 108, 3) := by decide +kernel
theorem dX5_unsay_20 : decode cX5_unsay 20 = .ok (.aload_n 0, 1) := by decide +kernel
theorem dX5_unsay_21 : decode cX5_unsay 21 = .ok (.getfield 28, 3) := by decide +kernel
theorem dX5_unsay_24 : decode cX5_unsay 24 = .ok (.getfield 104, 3) := by decide +kernel
theorem dX5_unsay_27 : decode cX5_unsay 27 = .ok (.ireturn, 1) := by decide +kernel
theorem dX5_reader_0 : decode cX5_reader 0 = .ok (.iload_n 1, 1) := by decide +kernel
theorem dX5_reader_1 : decode cX5_reader 1 = .ok (.invokestatic 111, 3) := by decide +kernel
theorem dX5_reader_4 : decode cX5_reader 4 = .ok (.ifCond .eq 13, 3) := by decide +kernel
theorem dX5_reader_7 : decode cX5_reader 7 = .ok (.iload_n 2, 1) := by decide +kernel
theorem dX5_reader_8 : decode cX5_reader 8 = .ok (.iconst 0, 1) := by decide +kernel
theorem dX5_reader_9 : decode cX5_reader 9 = .ok (.bipush 9, 2) := by decide +kernel
theorem dX5_reader_11 : decode cX5_reader 11 = .ok (.invokestatic 72, 3) := by decide +kernel
theorem dX5_reader_14 : decode cX5_reader 14 = .ok (.ifCond .ne 6, 3) := by decide +kernel
theorem dX5_reader_17 : decode cX5_reader 17 = .ok (.bipush (-2), 2) := by decide +kernel
theorem dX5_reader_19 : decode cX5_reader 19 = .ok (.ireturn, 1) := by decide +kernel
theorem dX5_reader_20 : decode cX5_reader 20 = .ok (.aload_n 0, 1) := by decide +kernel
theorem dX5_reader_21 : decode cX5_reader 21 = .ok (.getfield 28, 3) := by decide +kernel
theorem dX5_reader_24 : decode cX5_reader 24 = .ok (.iload_n 1, 1) := by decide +kernel
theorem dX5_reader_25 : decode cX5_reader 25 = .ok (.iload_n 2, 1) := by decide +kernel
theorem dX5_reader_26 : decode cX5_reader 26 = .ok (.invokevirtual 114, 3) := by decide +kernel
theorem dX5_reader_29 : decode cX5_reader 29 = .ok (.ireturn, 1) := by decide +kernel
theorem dX5_told_0 : decode cX5_told 0 = .ok (.iload_n 2, 1) := by decide +kernel
theorem dX5_told_1 : decode cX5_told 1 = .ok (.iconst 0, 1) := by decide +kernel
theorem dX5_told_2 : decode cX5_told 2 = .ok (.bipush 9, 2) := by decide +kernel
theorem dX5_told_4 : decode cX5_told 4 = .ok (.invokestatic 72, 3) := by decide +kernel
theorem dX5_told_7 : decode cX5_told 7 = .ok (.ifCond .eq 15, 3) := by decide +kernel
theorem dX5_told_10 : decode cX5_told 10 = .ok (.aload_n 0, 1) := by decide +kernel
theorem dX5_told_11 : decode cX5_told 11 = .ok (.getfield 28, 3) := by decide +kernel
theorem dX5_told_14 : decode cX5_told 14 = .ok (.iload_n 2, 1) := by decide +kernel
theorem dX5_told_15 : decode cX5_told 15 = .ok (.iload_n 1, 1) := by decide +kernel
theorem dX5_told_16 : decode cX5_told 16 = .ok (.invokevirtual 79, 3) := by decide +kernel
theorem dX5_told_19 : decode cX5_told 19 = .ok (.ifCond .ne 6, 3) := by decide +kernel
theorem dX5_told_22 : decode cX5_told 22 = .ok (.bipush (-2), 2) := by decide +kernel
theorem dX5_told_24 : decode cX5_told 24 = .ok (.ireturn, 1) := by decide +kernel
theorem dX5_told_25 : decode cX5_told 25 = .ok (.aload_n 0, 1) := by decide +kernel
theorem dX5_told_26 : decode cX5_told 26 = .ok (.getfield 28, 3) := by decide +kernel
theorem dX5_told_29 : decode cX5_told 29 = .ok (.iload_n 2, 1) := by decide +kernel
theorem dX5_told_30 : decode cX5_told 30 = .ok (.iload_n 1, 1) := by decide +kernel
theorem dX5_told_31 : decode cX5_told 31 = .ok (.invokevirtual 83, 3) := by decide +kernel
theorem dX5_told_34 : decode cX5_told 34 = .ok (.ireturn, 1) := by decide +kernel
theorem dX5_sees_0 : decode cX5_sees 0 = .ok (.aload_n 0, 1) := by decide +kernel
theorem dX5_sees_1 : decode cX5_sees 1 = .ok (.getfield 28, 3) := by decide +kernel
theorem dX5_sees_4 : decode cX5_sees 4 = .ok (.iload_n 1, 1) := by decide +kernel
theorem dX5_sees_5 : decode cX5_sees 5 = .ok (.invokevirtual 117, 3) := by decide +kernel
theorem dX5_sees_8 : decode cX5_sees 8 = .ok (.ifCond .eq 23, 3) := by decide +kernel
theorem dX5_sees_11 : decode cX5_sees 11 = .ok (.aload_n 0, 1) := by decide +kernel
theorem dX5_sees_12 : decode cX5_sees 12 = .ok (.getfield 28, 3) := by decide +kernel
theorem dX5_sees_15 : decode cX5_sees 15 = .ok (.iload_n 2, 1) := by decide +kernel
theorem dX5_sees_16 : decode cX5_sees 16 = .ok (.invokevirtual 120, 3) := by decide +kernel
theorem dX5_sees_19 : decode cX5_sees 19 = .ok (.ifCond .eq 12, 3) := by decide +kernel
theorem dX5_sees_22 : decode cX5_sees 22 = .ok (.iload_n 3, 1) := by decide +kernel
theorem dX5_sees_23 : decode cX5_sees 23 = .ok (.iconst 0, 1) := by decide +kernel
theorem dX5_sees_24 : decode cX5_sees 24 = .ok (.iconst 2, 1) := by decide +kernel
theorem dX5_sees_25 : decode cX5_sees 25 = .ok (.invokestatic 72, 3) := by decide +kernel
theorem dX5_sees_28 : decode cX5_sees 28 = .ok (.ifCond .ne 6, 3) := by decide +kernel
theorem dX5_sees_31 : decode cX5_sees 31 = .ok (.bipush (-2), 2) := by decide +kernel
theorem dX5_sees_33 : decode cX5_sees 33 = .ok (.ireturn, 1) := by decide +kernel
theorem dX5_sees_34 : decode cX5_sees 34 = .ok (.iload_n 3, 1) := by decide +kernel
theorem dX5_sees_35 : decode cX5_sees 35 = .ok (.ifCond .ne 31, 3) := by decide +kernel
theorem dX5_sees_38 : decode cX5_sees 38 = .ok (.aload_n 0, 1) := by decide +kernel
theorem dX5_sees_39 : decode cX5_sees 39 = .ok (.getfield 28, 3) := by decide +kernel
theorem dX5_sees_42 : decode cX5_sees 42 = .ok (.iload_n 1, 1) := by decide +kernel
theorem dX5_sees_43 : decode cX5_sees 43 = .ok (.aload_n 0, 1) := by decide +kernel
theorem dX5_sees_44 : decode cX5_sees 44 = .ok (.getfield 28, 3) := by decide +kernel
theorem dX5_sees_47 : decode cX5_sees 47 = .ok (.getfield 123, 3) := by decide +kernel
theorem dX5_sees_50 : decode cX5_sees 50 = .ok (.iload_n 2, 1) := by decide +kernel
theorem dX5_sees_51 : decode cX5_sees 51 = .ok (.iaload, 1) := by decide +kernel
theorem dX5_sees_52 : decode cX5_sees 52 = .ok (.aload_n 0, 1) := by decide +kernel
theorem dX5_sees_53 : decode cX5_sees 53 = .ok (.getfield 28, 3) := by decide +kernel
theorem dX5_sees_56 : decode cX5_sees 56 = .ok (.iconst 0, 1) := by decide +kernel
theorem dX5_sees_57 : decode cX5_sees 57 = .ok (.iload_n 1, 1) := by decide +kernel
theorem dX5_sees_58 : decode cX5_sees 58 = .ok (.iload_n 2, 1) := by decide +kernel
theorem dX5_sees_59 : decode cX5_sees 59 = .ok (.invokevirtual 127, 3) := by decide +kernel
theorem dX5_sees_62 : decode cX5_sees 62 = .ok (.invokevirtual 131, 3) := by decide +kernel
theorem dX5_sees_65 : decode cX5_sees 65 = .ok (.ireturn, 1) := by decide +kernel
theorem dX5_sees_66 : decode cX5_sees 66 = .ok (.iload_n 3, 1) := by decide +kernel
theorem dX5_sees_67 : decode cX5_sees 67 = .ok (.iconst 1, 1) := by decide +kernel
theorem dX5_sees_68 : decode cX5_sees 68 = .ok (.if_icmp .ne 24, 3) := by decide +kernel
theorem dX5_sees_71 : decode cX5_sees 71 = .ok (.aload_n 0, 1) := by decide +kernel
theorem dX5_sees_72 : decode cX5_sees 72 = .ok (.getfield 28, 3) := by decide +kernel
theorem dX5_sees_75 : decode cX5_sees 75 = .ok (.iload_n 1, 1) := by decide +kernel
theorem dX5_sees_76 : decode cX5_sees 76 = .ok (.aload_n 0, 1) := by decide +kernel
theorem dX5_sees_77 : decode cX5_sees 77 = .ok (.getfield 28, 3) := by decide +kernel
theorem dX5_sees_80 : decode cX5_sees 80 = .ok (.iconst 1, 1) := by decide +kernel
theorem dX5_sees_81 : decode cX5_sees 81 = .ok (.iload_n 1, 1) := by decide +kernel
theorem dX5_sees_82 : decode cX5_sees 82 = .ok (.iload_n 2, 1) := by decide +kernel
theorem dX5_sees_83 : decode cX5_sees 83 = .ok (.invokevirtual 127, 3) := by decide +kernel
theorem dX5_sees_86 : decode cX5_sees 86 = .ok (.invokevirtual 134, 3) := by decide +kernel
theorem dX5_sees_89 : decode cX5_sees 89 = .ok (.goto 12, 3) := by decide +kernel
theorem dX5_sees_92 : decode cX5_sees 92 = .ok (.aload_n 0, 1) := by decide +kernel
theorem dX5_sees_93 : decode cX5_sees 93 = .ok (.getfield 28, 3) := by decide +kernel
theorem dX5_sees_96 : decode cX5_sees 96 = .ok (.iload_n 1, 1) := by decide +kernel
theorem dX5_sees_97 : decode cX5_sees 97 = .ok (.iload_n 2, 1) := by decide +kernel
theorem dX5_sees_98 : decode cX5_sees 98 = .ok (.invokevirtual 137, 3) := by decide +kernel
theorem dX5_sees_101 : decode cX5_sees 101 = .ok (.ireturn, 1) := by decide +kernel
theorem dX5_feed_0 : decode cX5_feed 0 = .ok (.iload_n 1, 1) := by decide +kernel
theorem dX5_feed_1 : decode cX5_feed 1 = .ok (.iconst 0, 1) := by decide +kernel
theorem dX5_feed_2 : decode cX5_feed 2 = .ok (.sipush 255, 3) := by decide +kernel
theorem dX5_feed_5 : decode cX5_feed 5 = .ok (.invokestatic 72, 3) := by decide +kernel
theorem dX5_feed_8 : decode cX5_feed 8 = .ok (.ifCond .ne 6, 3) := by decide +kernel
theorem dX5_feed_11 : decode cX5_feed 11 = .ok (.bipush (-2), 2) := by decide +kernel
theorem dX5_feed_13 : decode cX5_feed 13 = .ok (.ireturn, 1) := by decide +kernel
theorem dX5_feed_14 : decode cX5_feed 14 = .ok (.aload_n 0, 1) := by decide +kernel
theorem dX5_feed_15 : decode cX5_feed 15 = .ok (.getfield 19, 3) := by decide +kernel
theorem dX5_feed_18 : decode cX5_feed 18 = .ok (.iload_n 1, 1) := by decide +kernel
theorem dX5_feed_19 : decode cX5_feed 19 = .ok (.invokevirtual 57, 3) := by decide +kernel
theorem dX5_feed_22 : decode cX5_feed 22 = .ok (.ireturn, 1) := by decide +kernel
theorem dX5_text_0 : decode cX5_text 0 = .ok (.aload_n 0, 1) := by decide +kernel
theorem dX5_text_1 : decode cX5_text 1 = .ok (.getfield 10, 3) := by decide +kernel
theorem dX5_text_4 : decode cX5_text 4 = .ok (.invokevirtual 140, 3) := by decide +kernel
theorem dX5_text_7 : decode cX5_text 7 = .ok (.ifCond .eq 6, 3) := by decide +kernel
theorem dX5_text_10 : decode cX5_text 10 = .ok (.bipush (-4), 2) := by decide +kernel
theorem dX5_text_12 : decode cX5_text 12 = .ok (.ireturn, 1) := by decide +kernel
theorem dX5_text_13 : decode cX5_text 13 = .ok (.aload_n 0, 1) := by decide +kernel
theorem dX5_text_14 : decode cX5_text 14 = .ok (.getfield 19, 3) := by decide +kernel
theorem dX5_text_17 : decode cX5_text 17 = .ok (.invokevirtual 61, 3) := by decide +kernel
theorem dX5_text_20 : decode cX5_text 20 = .ok (.astore_n 1, 1) := by decide +kernel
theorem dX5_text_21 : decode cX5_text 21 = .ok (.aload_n 0, 1) := by decide +kernel
theorem dX5_text_22 : decode cX5_text 22 = .ok (.getfield 19, 3) := by decide +kernel
theorem dX5_text_25 : decode cX5_text 25 = .ok (.invokevirtual 69, 3) := by decide +kernel
theorem dX5_text_28 : decode cX5_text 28 = .ok (.aload_n 1, 1) := by decide +kernel
theorem dX5_text_29 : decode cX5_text 29 = .ok (.ifnonnull 14, 3) := by decide +kernel
theorem dX5_text_32 : decode cX5_text 32 = .ok (.bipush (-100), 2) := by decide +kernel
theorem dX5_text_34 : decode cX5_text 34 = .ok (.aload_n 0, 1) := by decide +kernel
theorem dX5_text_35 : decode cX5_text 35 = .ok (.getfield 19, 3) := by decide +kernel
theorem dX5_text_38 : decode cX5_text 38 = .ok (.getfield 144, 3) := by decide +kernel
theorem dX5_text_41 : decode cX5_text 41 = .ok (.isub, 1) := by decide +kernel
theorem dX5_text_42 : decode cX5_text 42 = .ok (.ireturn, 1) := by decide +kernel
theorem dX5_text_43 : decode cX5_text 43 = .ok (.aload_n 0, 1) := by decide +kernel
theorem dX5_text_44 : decode cX5_text 44 = .ok (.getfield 10, 3) := by decide +kernel
theorem dX5_text_47 : decode cX5_text 47 = .ok (.aload_n 1, 1) := by decide +kernel
theorem dX5_text_48 : decode cX5_text 48 = .ok (.invokevirtual 65, 3) := by decide +kernel
theorem dX5_text_51 : decode cX5_text 51 = .ok (.ireturn, 1) := by decide +kernel
theorem dX5_force_0 : decode cX5_force 0 = .ok (.iload_n 1, 1) := by decide +kernel
theorem dX5_force_1 : decode cX5_force 1 = .ok (.iconst 0, 1) := by decide +kernel
theorem dX5_force_2 : decode cX5_force 2 = .ok (.aload_n 0, 1) := by decide +kernel
theorem dX5_force_3 : decode cX5_force 3 = .ok (.getfield 10, 3) := by decide +kernel
theorem dX5_force_6 : decode cX5_force 6 = .ok (.getfield 147, 3) := by decide +kernel
theorem dX5_force_9 : decode cX5_force 9 = .ok (.iconst 1, 1) := by decide +kernel
theorem dX5_force_10 : decode cX5_force 10 = .ok (.isub, 1) := by decide +kernel
theorem dX5_force_11 : decode cX5_force 11 = .ok (.invokestatic 72, 3) := by decide +kernel
theorem dX5_force_14 : decode cX5_force 14 = .ok (.ifCond .ne 6, 3) := by decide +kernel
theorem dX5_force_17 : decode cX5_force 17 = .ok (.bipush (-2), 2) := by decide +kernel
theorem dX5_force_19 : decode cX5_force 19 = .ok (.ireturn, 1) := by decide +kernel
theorem dX5_force_20 : decode cX5_force 20 = .ok (.aload_n 0, 1) := by decide +kernel
theorem dX5_force_21 : decode cX5_force 21 = .ok (.getfield 28, 3) := by decide +kernel
theorem dX5_force_24 : decode cX5_force 24 = .ok (.getfield 150, 3) := by decide +kernel
theorem dX5_force_27 : decode cX5_force 27 = .ok (.istore_n 2, 1) := by decide +kernel
theorem dX5_force_28 : decode cX5_force 28 = .ok (.aload_n 0, 1) := by decide +kernel
theorem dX5_force_29 : decode cX5_force 29 = .ok (.getfield 28, 3) := by decide +kernel
theorem dX5_force_32 : decode cX5_force 32 = .ok (.iload_n 1, 1) := by decide +kernel
theorem dX5_force_33 : decode cX5_force 33 = .ok (.putfield 150, 3) := by decide +kernel
theorem dX5_force_36 : decode cX5_force 36 = .ok (.iload_n 2, 1) := by decide +kernel
theorem dX5_force_37 : decode cX5_force 37 = .ok (.ireturn, 1) := by decide +kernel
theorem dX5_read_0 : decode cX5_read 0 = .ok (.aload_n 0, 1) := by decide +kernel
theorem dX5_read_1 : decode cX5_read 1 = .ok (.getfield 28, 3) := by decide +kernel
theorem dX5_read_4 : decode cX5_read 4 = .ok (.iload_n 1, 1) := by decide +kernel
theorem dX5_read_5 : decode cX5_read 5 = .ok (.invokevirtual 117, 3) := by decide +kernel
theorem dX5_read_8 : decode cX5_read 8 = .ok (.ifCond .eq 14, 3) := by decide +kernel
theorem dX5_read_11 : decode cX5_read 11 = .ok (.aload_n 0, 1) := by decide +kernel
theorem dX5_read_12 : decode cX5_read 12 = .ok (.getfield 28, 3) := by decide +kernel
theorem dX5_read_15 : decode cX5_read 15 = .ok (.iload_n 2, 1) := by decide +kernel
theorem dX5_read_16 : decode cX5_read 16 = .ok (.invokevirtual 120, 3) := by decide +kernel
theorem dX5_read_19 : decode cX5_read 19 = .ok (.ifCond .ne 6, 3) := by decide +kernel
theorem dX5_read_22 : decode cX5_read 22 = .ok (.bipush (-2), 2) := by decide +kernel
theorem dX5_read_24 : decode cX5_read 24 = .ok (.ireturn, 1) := by decide +kernel
theorem dX5_read_25 : decode cX5_read 25 = .ok (.aload_n 0, 1) := by decide +kernel
theorem dX5_read_26 : decode cX5_read 26 = .ok (.getfield 28, 3) := by decide +kernel
theorem dX5_read_29 : decode cX5_read 29 = .ok (.iload_n 1, 1) := by decide +kernel
theorem dX5_read_30 : decode cX5_read 30 = .ok (.invokevirtual 153, 3) := by decide +kernel
theorem dX5_read_33 : decode cX5_read 33 = .ok (.ifCond .eq 16, 3) := by decide +kernel
theorem dX5_read_36 : decode cX5_read 36 = .ok (.aload_n 0, 1) := by decide +kernel
theorem dX5_read_37 : decode cX5_read 37 = .ok (.getfield 28, 3) := by decide +kernel
theorem dX5_read_40 : decode cX5_read 40 = .ok (.getfield 156, 3) := by decide +kernel
theorem dX5_read_43 : decode cX5_read 43 = .ok (.sipush 999, 3) := by decide +kernel
theorem dX5_read_46 : decode cX5_read 46 = .ok (.if_icmp .ne 6, 3) := by decide +kernel
theorem dX5_read_49 : decode cX5_read 49 = .ok (.bipush (-3), 2) := by decide +kernel
theorem dX5_read_51 : decode cX5_read 51 = .ok (.ireturn, 1) := by decide +kernel
theorem dX5_read_52 : decode cX5_read 52 = .ok (.aload_n 0, 1) := by decide +kernel
theorem dX5_read_53 : decode cX5_read 53 = .ok (.getfield 28, 3) := by decide +kernel
theorem dX5_read_56 : decode cX5_read 56 = .ok (.getfield 104, 3) := by decide +kernel
theorem dX5_read_59 : decode cX5_read 59 = .ok (.bipush 12, 2) := by decide +kernel
theorem dX5_read_61 : decode cX5_read 61 = .ok (.if_icmp .ne 8, 3) := by decide +kernel
theorem dX5_read_64 : decode cX5_read 64 = .ok (.bipush (-4), 2) := by decide +kernel
theorem dX5_read_66 : decode cX5_read 66 = .ok (.goto 12, 3) := by decide +kernel
theorem dX5_read_69 : decode cX5_read 69 = .ok (.aload_n 0, 1) := by decide +kernel
theorem dX5_read_70 : decode cX5_read 70 = .ok (.getfield 28, 3) := by decide +kernel
theorem dX5_read_73 : decode cX5_read 73 = .ok (.iload_n 1, 1) := by decide +kernel
theorem dX5_read_74 : decode cX5_read 74 = .ok (.iload_n 2, 1) := by decide +kernel
theorem dX5_read_75 : decode cX5_read 75 = .ok (.invokevirtual 159, 3) := by decide +kernel
theorem dX5_read_78 : decode cX5_read 78 = .ok (.ireturn, 1) := by decide +kernel
theorem dX5_follows_0 : decode cX5_follows 0 = .ok (.iload_n 1, 1) := by decide +kernel
theorem dX5_follows_1 : decode cX5_follows 1 = .ok (.invokestatic 91, 3) := by decide +kernel
theorem dX5_follows_4 : decode cX5_follows 4 = .ok (.ifCond .eq 12, 3) := by decide +kernel
theorem dX5_follows_7 : decode cX5_follows 7 = .ok (.iload_n 2, 1) := by decide +kernel
theorem dX5_follows_8 : decode cX5_follows 8 = .ok (.iconst 0, 1) := by decide +kernel
theorem dX5_follows_9 : decode cX5_follows 9 = .ok (.iconst 2, 1) := by decide +kernel
theorem dX5_follows_10 : decode cX5_follows 10 = .ok (.invokestatic 72, 3) := by decide +kernel
theorem dX5_follows_13 : decode cX5_follows 13 = .ok (.ifCond .ne 6, 3) := by decide +kernel
theorem dX5_follows_16 : decode cX5_follows 16 = .ok (.bipush (-2), 2) := by decide +kernel
theorem dX5_follows_18 : decode cX5_follows 18 = .ok (.ireturn, 1) := by decide +kernel
theorem dX5_follows_19 : decode cX5_follows 19 = .ok (.iload_n 2, 1) := by decide +kernel
theorem dX5_follows_20 : decode cX5_follows 20 = .ok (.iconst 1, 1) := by decide +kernel
theorem dX5_follows_21 : decode cX5_follows 21 = .ok (.if_icmp .ne 12, 3) := by decide +kernel
theorem dX5_follows_24 : decode cX5_follows 24 = .ok (.aload_n 0, 1) := by decide +kernel
theorem dX5_follows_25 : decode cX5_follows 25 = .ok (.getfield 28, 3) := by decide +kernel
theorem dX5_follows_28 : decode cX5_follows 28 = .ok (.iload_n 1, 1) := by decide +kernel
theorem dX5_follows_29 : decode cX5_follows 29 = .ok (.invokevirtual 162, 3) := by decide +kernel
theorem dX5_follows_32 : decode cX5_follows 32 = .ok (.ireturn, 1) := by decide +kernel
theorem dX5_follows_33 : decode cX5_follows 33 = .ok (.aload_n 0, 1) := by decide +kernel
theorem dX5_follows_34 : decode cX5_follows 34 = .ok (.getfield 28, 3) := by decide +kernel
theorem dX5_follows_37 : decode cX5_follows 37 = .ok (.iload_n 1, 1) := by decide +kernel
theorem dX5_follows_38 : decode cX5_follows 38 = .ok (.iconst (-1), 1) := by decide +kernel
theorem dX5_follows_39 : decode cX5_follows 39 = .ok (.invokevirtual 165, 3) := by decide +kernel
theorem dX5_follows_42 : decode cX5_follows 42 = .ok (.istore_n 3, 1) := by decide +kernel
theorem dX5_follows_43 : decode cX5_follows 43 = .ok (.iload_n 2, 1) := by decide +kernel
theorem dX5_follows_44 : decode cX5_follows 44 = .ok (.ifCond .ne 7, 3) := by decide +kernel
theorem dX5_follows_47 : decode cX5_follows 47 = .ok (.iload_n 3, 1) := by decide +kernel
theorem dX5_follows_48 : decode cX5_follows 48 = .ok (.goto 10, 3) := by decide +kernel
theorem dX5_follows_51 : decode cX5_follows 51 = .ok (.iload_n 3, 1) := by decide +kernel
theorem dX5_follows_52 : decode cX5_follows 52 = .ok (.invokestatic 168, 3) := by decide +kernel
theorem dX5_follows_55 : decode cX5_follows 55 = .ok (.invokestatic 171, 3) := by decide +kernel
theorem dX5_follows_58 : decode cX5_follows 58 = .ok (.ireturn, 1) := by decide +kernel
theorem dX5_best_0 : decode cX5_best 0 = .ok (.iload_n 1, 1) := by decide +kernel
theorem dX5_best_1 : decode cX5_best 1 = .ok (.tableswitch 95 0 5 #[39, 47, 58, 67, 79, 87], 39) := by decide +kernel
theorem dX5_best_40 : decode cX5_best 40 = .ok (.aload_n 0, 1) := by decide +kernel
theorem dX5_best_41 : decode cX5_best 41 = .ok (.getfield 28, 3) := by decide +kernel
theorem dX5_best_44 : decode cX5_best 44 = .ok (.invokevirtual 175, 3) := by decide +kernel
theorem dX5_best_47 : decode cX5_best 47 = .ok (.ireturn, 1) := by decide +kernel
theorem dX5_best_48 : decode cX5_best 48 = .ok (.aload_n 0, 1) := by decide +kernel
theorem dX5_best_49 : decode cX5_best 49 = .ok (.getfield 28, 3) := by decide +kernel
theorem dX5_best_52 : decode cX5_best 52 = .ok (.invokevirtual 175, 3) := by decide +kernel
theorem dX5_best_55 : decode cX5_best 55 = .ok (.invokestatic 178, 3) := by decide +kernel
theorem dX5_best_58 : decode cX5_best 58 = .ok (.ireturn, 1) := by decide +kernel
theorem dX5_best_59 : decode cX5_best 59 = .ok (.aload_n 0, 1) := by decide +kernel
theorem dX5_best_60 : decode cX5_best 60 = .ok (.getfield 28, 3) := by decide +kernel
theorem dX5_best_63 : decode cX5_best 63 = .ok (.iconst (-1), 1) := by decide +kernel
theorem dX5_best_64 : decode cX5_best 64 = .ok (.invokevirtual 181, 3) := by decide +kernel
theorem dX5_best_67 : decode cX5_best 67 = .ok (.ireturn, 1) := by decide +kernel
theorem dX5_best_68 : decode cX5_best 68 = .ok (.aload_n 0, 1) := by decide +kernel
theorem dX5_best_69 : decode cX5_best 69 = .ok (.getfield 28, 3) := by decide +kernel
theorem dX5_best_72 : decode cX5_best 72 = .ok (.iconst (-1), 1) := by decide +kernel
theorem dX5_best_73 : decode cX5_best 73 = .ok (.invokevirtual 181, 3) := by decide +kernel
theorem dX5_best_76 : decode cX5_best 76 = .ok (.invokestatic 178, 3) := by decide +kernel
theorem dX5_best_79 : decode cX5_best 79 = .ok (.ireturn, 1) := by decide +kernel
theorem dX5_best_80 : decode cX5_best 80 = .ok (.aload_n 0, 1) := by decide +kernel
theorem dX5_best_81 : decode cX5_best 81 = .ok (.getfield 28, 3) := by decide +kernel
theorem dX5_best_84 : decode cX5_best 84 = .ok (.invokevirtual 184, 3) := by decide +kernel
theorem dX5_best_87 : decode cX5_best 87 = .ok (.ireturn, 1) := by decide +kernel
theorem dX5_best_88 : decode cX5_best 88 = .ok (.aload_n 0, 1) := by decide +kernel
theorem dX5_best_89 : decode cX5_best 89 = .ok (.getfield 28, 3) := by decide +kernel
theorem dX5_best_92 : decode cX5_best 92 = .ok (.invokevirtual 187, 3) := by decide +kernel
theorem dX5_best_95 : decode cX5_best 95 = .ok (.ireturn, 1) := by decide +kernel
theorem dX5_best_96 : decode cX5_best 96 = .ok (.bipush (-2), 2) := by decide +kernel
theorem dX5_best_98 : decode cX5_best 98 = .ok (.ireturn, 1) := by decide +kernel
theorem dX5_why_0 : decode cX5_why 0 = .ok (.iload_n 1, 1) := by decide +kernel
theorem dX5_why_1 : decode cX5_why 1 = .ok (.invokestatic 95, 3) := by decide +kernel
theorem dX5_why_4 : decode cX5_why 4 = .ok (.ifCond .eq 12, 3) := by decide +kernel
theorem dX5_why_7 : decode cX5_why 7 = .ok (.iload_n 2, 1) := by decide +kernel
theorem dX5_why_8 : decode cX5_why 8 = .ok (.iconst 0, 1) := by decide +kernel
theorem dX5_why_9 : decode cX5_why 9 = .ok (.iconst 1, 1) := by decide +kernel
theorem dX5_why_10 : decode cX5_why 10 = .ok (.invokestatic 72, 3) := by decide +kernel
theorem dX5_why_13 : decode cX5_why 13 = .ok (.ifCond .ne 6, 3) := by decide +kernel
theorem dX5_why_16 : decode cX5_why 16 = .ok (.bipush (-2), 2) := by decide +kernel
theorem dX5_why_18 : decode cX5_why 18 = .ok (.ireturn, 1) := by decide +kernel
theorem dX5_why_19 : decode cX5_why 19 = .ok (.aload_n 0, 1) := by decide +kernel
theorem dX5_why_20 : decode cX5_why 20 = .ok (.getfield 28, 3) := by decide +kernel
theorem dX5_why_23 : decode cX5_why 23 = .ok (.iload_n 1, 1) := by decide +kernel
theorem dX5_why_24 : decode cX5_why 24 = .ok (.invokevirtual 190, 3) := by decide +kernel
theorem dX5_why_27 : decode cX5_why 27 = .ok (.istore_n 3, 1) := by decide +kernel
theorem dX5_why_28 : decode cX5_why 28 = .ok (.iload_n 2, 1) := by decide +kernel
theorem dX5_why_29 : decode cX5_why 29 = .ok (.ifCond .ne 7, 3) := by decide +kernel
theorem dX5_why_32 : decode cX5_why 32 = .ok (.iload_n 3, 1) := by decide +kernel
theorem dX5_why_33 : decode cX5_why 33 = .ok (.goto 7, 3) := by decide +kernel
theorem dX5_why_36 : decode cX5_why 36 = .ok (.iload_n 3, 1) := by decide +kernel
theorem dX5_why_37 : decode cX5_why 37 = .ok (.invokestatic 178, 3) := by decide +kernel
theorem dX5_why_40 : decode cX5_why 40 = .ok (.ireturn, 1) := by decide +kernel
theorem dX5_next_0 : decode cX5_next 0 = .ok (.aload_n 0, 1) := by decide +kernel
theorem dX5_next_1 : decode cX5_next 1 = .ok (.getfield 28, 3) := by decide +kernel
theorem dX5_next_4 : decode cX5_next 4 = .ok (.iload_n 1, 1) := by decide +kernel
theorem dX5_next_5 : decode cX5_next 5 = .ok (.invokevirtual 117, 3) := by decide +kernel
theorem dX5_next_8 : decode cX5_next 8 = .ok (.ifCond .eq 12, 3) := by decide +kernel
theorem dX5_next_11 : decode cX5_next 11 = .ok (.iload_n 2, 1) := by decide +kernel
theorem dX5_next_12 : decode cX5_next 12 = .ok (.iconst 0, 1) := by decide +kernel
theorem dX5_next_13 : decode cX5_next 13 = .ok (.iconst 2, 1) := by decide +kernel
theorem dX5_next_14 : decode cX5_next 14 = .ok (.invokestatic 72, 3) := by decide +kernel
theorem dX5_next_17 : decode cX5_next 17 = .ok (.ifCond .ne 6, 3) := by decide +kernel
theorem dX5_next_20 : decode cX5_next 20 = .ok (.bipush (-2), 2) := by decide +kernel
theorem dX5_next_22 : decode cX5_next 22 = .ok (.ireturn, 1) := by decide +kernel
theorem dX5_next_23 : decode cX5_next 23 = .ok (.iload_n 2, 1) := by decide +kernel
theorem dX5_next_24 : decode cX5_next 24 = .ok (.iconst 2, 1) := by decide +kernel
theorem dX5_next_25 : decode cX5_next 25 = .ok (.if_icmp .ne 12, 3) := by decide +kernel
theorem dX5_next_28 : decode cX5_next 28 = .ok (.aload_n 0, 1) := by decide +kernel
theorem dX5_next_29 : decode cX5_next 29 = .ok (.getfield 28, 3) := by decide +kernel
theorem dX5_next_32 : decode cX5_next 32 = .ok (.iload_n 1, 1) := by decide +kernel
theorem dX5_next_33 : decode cX5_next 33 = .ok (.invokevirtual 193, 3) := by decide +kernel
theorem dX5_next_36 : decode cX5_next 36 = .ok (.ireturn, 1) := by decide +kernel
theorem dX5_next_37 : decode cX5_next 37 = .ok (.aload_n 0, 1) := by decide +kernel
theorem dX5_next_38 : decode cX5_next 38 = .ok (.getfield 28, 3) := by decide +kernel
theorem dX5_next_41 : decode cX5_next 41 = .ok (.iload_n 1, 1) := by decide +kernel
theorem dX5_next_42 : decode cX5_next 42 = .ok (.invokevirtual 196, 3) := by decide +kernel
theorem dX5_next_45 : decode cX5_next 45 = .ok (.istore_n 3, 1) := by decide +kernel
theorem dX5_next_46 : decode cX5_next 46 = .ok (.iload_n 2, 1) := by decide +kernel
theorem dX5_next_47 : decode cX5_next 47 = .ok (.ifCond .ne 5, 3) := by decide +kernel
theorem dX5_next_50 : decode cX5_next 50 = .ok (.iload_n 3, 1) := by decide +kernel
theorem dX5_next_51 : decode cX5_next 51 = .ok (.ireturn, 1) := by decide +kernel
theorem dX5_next_52 : decode cX5_next 52 = .ok (.iload_n 3, 1) := by decide +kernel
theorem dX5_next_53 : decode cX5_next 53 = .ok (.iconst (-1), 1) := by decide +kernel
theorem dX5_next_54 : decode cX5_next 54 = .ok (.if_icmp .ne 13, 3) := by decide +kernel
theorem dX5_next_57 : decode cX5_next 57 = .ok (.aload_n 0, 1) := by decide +kernel
theorem dX5_next_58 : decode cX5_next 58 = .ok (.getfield 28, 3) := by decide +kernel
theorem dX5_next_61 : decode cX5_next 61 = .ok (.invokevirtual 199, 3) := by decide +kernel
theorem dX5_next_64 : decode cX5_next 64 = .ok (.goto 12, 3) := by decide +kernel
theorem dX5_next_67 : decode cX5_next 67 = .ok (.aload_n 0, 1) := by decide +kernel
theorem dX5_next_68 : decode cX5_next 68 = .ok (.getfield 28, 3) := by decide +kernel
theorem dX5_next_71 : decode cX5_next 71 = .ok (.iload_n 1, 1) := by decide +kernel
theorem dX5_next_72 : decode cX5_next 72 = .ok (.iload_n 3, 1) := by decide +kernel
theorem dX5_next_73 : decode cX5_next 73 = .ok (.invokevirtual 202, 3) := by decide +kernel
theorem dX5_next_76 : decode cX5_next 76 = .ok (.ireturn, 1) := by decide +kernel
theorem dX5_alike_0 : decode cX5_alike 0 = .ok (.aload_n 0, 1) := by decide +kernel
theorem dX5_alike_1 : decode cX5_alike 1 = .ok (.getfield 28, 3) := by decide +kernel
theorem dX5_alike_4 : decode cX5_alike 4 = .ok (.iload_n 1, 1) := by decide +kernel
theorem dX5_alike_5 : decode cX5_alike 5 = .ok (.invokevirtual 117, 3) := by decide +kernel
theorem dX5_alike_8 : decode cX5_alike 8 = .ok (.ifCond .eq 19, 3) := by decide +kernel
theorem dX5_alike_11 : decode cX5_alike 11 = .ok (.aload_n 0, 1) := by decide +kernel
theorem dX5_alike_12 : decode cX5_alike 12 = .ok (.getfield 28, 3) := by decide +kernel
theorem dX5_alike_15 : decode cX5_alike 15 = .ok (.iload_n 2, 1) := by decide +kernel
theorem dX5_alike_16 : decode cX5_alike 16 = .ok (.invokevirtual 117, 3) := by decide +kernel
theorem dX5_alike_19 : decode cX5_alike 19 = .ok (.ifCond .eq 8, 3) := by decide +kernel
theorem dX5_alike_22 : decode cX5_alike 22 = .ok (.iload_n 1, 1) := by decide +kernel
theorem dX5_alike_23 : decode cX5_alike 23 = .ok (.iload_n 2, 1) := by decide +kernel
theorem dX5_alike_24 : decode cX5_alike 24 = .ok (.if_icmp .ne 6, 3) := by decide +kernel
theorem dX5_alike_27 : decode cX5_alike 27 = .ok (.bipush (-2), 2) := by decide +kernel
theorem dX5_alike_29 : decode cX5_alike 29 = .ok (.ireturn, 1) := by decide +kernel
theorem dX5_alike_30 : decode cX5_alike 30 = .ok (.iconst 0, 1) := by decide +kernel
theorem dX5_alike_31 : decode cX5_alike 31 = .ok (.istore_n 3, 1) := by decide +kernel
theorem dX5_alike_32 : decode cX5_alike 32 = .ok (.iconst 0, 1) := by decide +kernel
theorem dX5_alike_33 : decode cX5_alike 33 = .ok (.istore 4, 2) := by decide +kernel
theorem dX5_alike_35 : decode cX5_alike 35 = .ok (.iload 4, 2) := by decide +kernel
theorem dX5_alike_37 : decode cX5_alike 37 = .ok (.aload_n 0, 1) := by decide +kernel
theorem dX5_alike_38 : decode cX5_alike 38 = .ok (.getfield 28, 3) := by decide +kernel
theorem dX5_alike_41 : decode cX5_alike 41 = .ok (.getfield 205, 3) := by decide +kernel
theorem dX5_alike_44 : decode cX5_alike 44 = .ok (.if_icmp .ge 39, 3) := by decide +kernel
theorem dX5_alike_47 : decode cX5_alike 47 = .ok (.aload_n 0, 1) := by decide +kernel
theorem dX5_alike_48 : decode cX5_alike 48 = .ok (.getfield 28, 3) := by decide +kernel
theorem dX5_alike_51 : decode cX5_alike 51 = .ok (.iload_n 1, 1) := by decide +kernel
theorem dX5_alike_52 : decode cX5_alike 52 = .ok (.iload 4, 2) := by decide +kernel
theorem dX5_alike_54 : decode cX5_alike 54 = .ok (.invokevirtual 137, 3) := by decide +kernel
theorem dX5_alike_57 : decode cX5_alike 57 = .ok (.aload_n 0, 1) := by decide +kernel
theorem dX5_alike_58 : decode cX5_alike 58 = .ok (.getfield 28, 3) := by decide +kernel
theorem dX5_alike_61 : decode cX5_alike 61 = .ok (.iload_n 2, 1) := by decide +kernel
theorem dX5_alike_62 : decode cX5_alike 62 = .ok (.iload 4, 2) := by decide +kernel
theorem dX5_alike_64 : decode cX5_alike 64 = .ok (.invokevirtual 137, 3) := by decide +kernel
theorem dX5_alike_67 : decode cX5_alike 67 = .ok (.if_icmp .ne 10, 3) := by decide +kernel
theorem dX5_alike_70 : decode cX5_alike 70 = .ok (.iload_n 3, 1) := by decide +kernel
theorem dX5_alike_71 : decode cX5_alike 71 = .ok (.iconst 1, 1) := by decide +kernel
theorem dX5_alike_72 : decode cX5_alike 72 = .ok (.iload 4, 2) := by decide +kernel
theorem dX5_alike_74 : decode cX5_alike 74 = .ok (.ishl, 1) := by decide +kernel
theorem dX5_alike_75 : decode cX5_alike 75 = .ok (.ior, 1) := by decide +kernel
theorem dX5_alike_76 : decode cX5_alike 76 = .ok (.istore_n 3, 1) := by decide +kernel
theorem dX5_alike_77 : decode cX5_alike 77 = .ok (.iinc 4 1, 3) := by decide +kernel
theorem dX5_alike_80 : decode cX5_alike 80 = .ok (.goto (-45), 3) := by decide +kernel
theorem dX5_alike_83 : decode cX5_alike 83 = .ok (.iload_n 3, 1) := by decide +kernel
theorem dX5_alike_84 : decode cX5_alike 84 = .ok (.ireturn, 1) := by decide +kernel
theorem dX5_share_0 : decode cX5_share 0 = .ok (.iload_n 1, 1) := by decide +kernel
theorem dX5_share_1 : decode cX5_share 1 = .ok (.iconst 0, 1) := by decide +kernel
theorem dX5_share_2 : decode cX5_share 2 = .ok (.iconst 1, 1) := by decide +kernel
theorem dX5_share_3 : decode cX5_share 3 = .ok (.invokestatic 72, 3) := by decide +kernel
theorem dX5_share_6 : decode cX5_share 6 = .ok (.ifCond .ne 7, 3) := by decide +kernel
theorem dX5_share_9 : decode cX5_share 9 = .ok (.ldc2_w 208, 3) := by decide +kernel
theorem dX5_share_12 : decode cX5_share 12 = .ok (.lreturn, 1) := by decide +kernel
theorem dX5_share_13 : decode cX5_share 13 = .ok (.aload_n 0, 1) := by decide +kernel
theorem dX5_share_14 : decode cX5_share 14 = .ok (.getfield 28, 3) := by decide +kernel
theorem dX5_share_17 : decode cX5_share 17 = .ok (.invokevirtual 199, 3) := by decide +kernel
theorem dX5_share_20 : decode cX5_share 20 = .ok (.bipush 12, 2) := by decide +kernel
theorem dX5_share_22 : decode cX5_share 22 = .ok (.iload_n 1, 1) := by decide +kernel
theorem dX5_share_23 : decode cX5_share 23 = .ok (.invokestatic 210, 3) := by decide +kernel
theorem dX5_share_26 : decode cX5_share 26 = .ok (.lreturn, 1) := by decide +kernel
theorem dX5_tells_0 : decode cX5_tells 0 = .ok (.iload_n 1, 1) := by decide +kernel
theorem dX5_tells_1 : decode cX5_tells 1 = .ok (.invokestatic 214, 3) := by decide +kernel
theorem dX5_tells_4 : decode cX5_tells 4 = .ok (.ifCond .eq 24, 3) := by decide +kernel
theorem dX5_tells_7 : decode cX5_tells 7 = .ok (.aload_n 0, 1) := by decide +kernel
theorem dX5_tells_8 : decode cX5_tells 8 = .ok (.getfield 28, 3) := by decide +kernel
theorem dX5_tells_11 : decode cX5_tells 11 = .ok (.iload_n 2, 1) := by decide +kernel
theorem dX5_tells_12 : decode cX5_tells 12 = .ok (.invokevirtual 117, 3) := by decide +kernel
theorem dX5_tells_15 : decode cX5_tells 15 = .ok (.ifCond .eq 13, 3) := by decide +kernel
theorem dX5_tells_18 : decode cX5_tells 18 = .ok (.iload_n 3, 1) := by decide +kernel
theorem dX5_tells_19 : decode cX5_tells 19 = .ok (.iconst 0, 1) := by decide +kernel
theorem dX5_tells_20 : decode cX5_tells 20 = .ok (.bipush 6, 2) := by decide +kernel
theorem dX5_tells_22 : decode cX5_tells 22 = .ok (.invokestatic 72, 3) := by decide +kernel
theorem dX5_tells_25 : decode cX5_tells 25 = .ok (.ifCond .ne 6, 3) := by decide +kernel
theorem dX5_tells_28 : decode cX5_tells 28 = .ok (.bipush (-2), 2) := by decide +kernel
theorem dX5_tells_30 : decode cX5_tells 30 = .ok (.ireturn, 1) := by decide +kernel
theorem dX5_tells_31 : decode cX5_tells 31 = .ok (.aload_n 0, 1) := by decide +kernel
theorem dX5_tells_32 : decode cX5_tells 32 = .ok (.getfield 40, 3) := by decide +kernel
theorem dX5_tells_35 : decode cX5_tells 35 = .ok (.iload_n 1, 1) := by decide +kernel
theorem dX5_tells_36 : decode cX5_tells 36 = .ok (.aaload, 1) := by decide +kernel
theorem dX5_tells_37 : decode cX5_tells 37 = .ok (.astore 4, 2) := by decide +kernel
theorem dX5_tells_39 : decode cX5_tells 39 = .ok (.aload 4, 2) := by decide +kernel
theorem dX5_tells_41 : decode cX5_tells 41 = .ok (.invokevirtual 217, 3) := by decide +kernel
theorem dX5_tells_44 : decode cX5_tells 44 = .ok (.ifCond .eq 6, 3) := by decide +kernel
theorem dX5_tells_47 : decode cX5_tells 47 = .ok (.bipush (-11), 2) := by decide +kernel
theorem dX5_tells_49 : decode cX5_tells 49 = .ok (.ireturn, 1) := by decide +kernel
theorem dX5_tells_50 : decode cX5_tells 50 = .ok (.aload 4, 2) := by decide +kernel
theorem dX5_tells_52 : decode cX5_tells 52 = .ok (.getfield 220, 3) := by decide +kernel
theorem dX5_tells_55 : decode cX5_tells 55 = .ok (.aload_n 0, 1) := by decide +kernel
theorem dX5_tells_56 : decode cX5_tells 56 = .ok (.getfield 28, 3) := by decide +kernel
theorem dX5_tells_59 : decode cX5_tells 59 = .ok (.getfield 205, 3) := by decide +kernel
theorem dX5_tells_62 : decode cX5_tells 62 = .ok (.if_icmp .le 6, 3) := by decide +kernel
theorem dX5_tells_65 : decode cX5_tells 65 = .ok (.bipush (-2), 2) := by decide +kernel
theorem dX5_tells_67 : decode cX5_tells 67 = .ok (.ireturn, 1) := by decide +kernel
theorem dX5_tells_68 : decode cX5_tells 68 = .ok (.iload_n 3, 1) := by decide +kernel
theorem dX5_tells_69 : decode cX5_tells 69 = .ok (.tableswitch 108 0 5 #[39, 50, 62, 73, 82, 91], 39) := by decide +kernel
theorem dX5_tells_108 : decode cX5_tells 108 = .ok (.aload_n 0, 1) := by decide +kernel
theorem dX5_tells_109 : decode cX5_tells 109 = .ok (.getfield 28, 3) := by decide +kernel
theorem dX5_tells_112 : decode cX5_tells 112 = .ok (.aload 4, 2) := by decide +kernel
theorem dX5_tells_114 : decode cX5_tells 114 = .ok (.iload_n 2, 1) := by decide +kernel
theorem dX5_tells_115 : decode cX5_tells 115 = .ok (.invokevirtual 223, 3) := by decide +kernel
theorem dX5_tells_118 : decode cX5_tells 118 = .ok (.ireturn, 1) := by decide +kernel
theorem dX5_tells_119 : decode cX5_tells 119 = .ok (.aload_n 0, 1) := by decide +kernel
theorem dX5_tells_120 : decode cX5_tells 120 = .ok (.aload 4, 2) := by decide +kernel
theorem dX5_tells_122 : decode cX5_tells 122 = .ok (.iload_n 2, 1) := by decide +kernel
theorem dX5_tells_123 : decode cX5_tells 123 = .ok (.bipush 6, 2) := by decide +kernel
theorem dX5_tells_125 : decode cX5_tells 125 = .ok (.bipush 6, 2) := by decide +kernel
theorem dX5_tells_127 : decode cX5_tells 127 = .ok (.invokevirtual 227, 3) := by decide +kernel
theorem dX5_tells_130 : decode cX5_tells 130 = .ok (.ireturn, 1) := by decide +kernel
theorem dX5_tells_131 : decode cX5_tells 131 = .ok (.aload_n 0, 1) := by decide +kernel
theorem dX5_tells_132 : decode cX5_tells 132 = .ok (.aload 4, 2) := by decide +kernel
theorem dX5_tells_134 : decode cX5_tells 134 = .ok (.iload_n 2, 1) := by decide +kernel
theorem dX5_tells_135 : decode cX5_tells 135 = .ok (.iconst 4, 1) := by decide +kernel
theorem dX5_tells_136 : decode cX5_tells 136 = .ok (.bipush 10, 2) := by decide +kernel
theorem dX5_tells_138 : decode cX5_tells 138 = .ok (.invokevirtual 227, 3) := by decide +kernel
theorem dX5_tells_141 : decode cX5_tells 141 = .ok (.ireturn, 1) := by decide +kernel
theorem dX5_tells_142 : decode cX5_tells 142 = .ok (.aload_n 0, 1) := by decide +kernel
theorem dX5_tells_143 : decode cX5_tells 143 = .ok (.aload 4, 2) := by decide +kernel
theorem dX5_tells_145 : decode cX5_tells 145 = .ok (.iload_n 2, 1) := by decide +kernel
theorem dX5_tells_146 : decode cX5_tells 146 = .ok (.iconst 0, 1) := by decide +kernel
theorem dX5_tells_147 : decode cX5_tells 147 = .ok (.invokevirtual 231, 3) := by decide +kernel
theorem dX5_tells_150 : decode cX5_tells 150 = .ok (.ireturn, 1) := by decide +kernel
theorem dX5_tells_151 : decode cX5_tells 151 = .ok (.aload_n 0, 1) := by decide +kernel
theorem dX5_tells_152 : decode cX5_tells 152 = .ok (.aload 4, 2) := by decide +kernel
theorem dX5_tells_154 : decode cX5_tells 154 = .ok (.iload_n 2, 1) := by decide +kernel
theorem dX5_tells_155 : decode cX5_tells 155 = .ok (.iconst 1, 1) := by decide +kernel
theorem dX5_tells_156 : decode cX5_tells 156 = .ok (.invokevirtual 231, 3) := by decide +kernel
theorem dX5_tells_159 : decode cX5_tells 159 = .ok (.ireturn, 1) := by decide +kernel
theorem dX5_tells_160 : decode cX5_tells 160 = .ok (.aload_n 0, 1) := by decide +kernel
theorem dX5_tells_161 : decode cX5_tells 161 = .ok (.aload 4, 2) := by decide +kernel
theorem dX5_tells_163 : decode cX5_tells 163 = .ok (.iload_n 2, 1) := by decide +kernel
theorem dX5_tells_164 : decode cX5_tells 164 = .ok (.bipush 10, 2) := by decide +kernel
theorem dX5_tells_166 : decode cX5_tells 166 = .ok (.aload_n 0, 1) := by decide +kernel
theorem dX5_tells_167 : decode cX5_tells 167 = .ok (.getfield 10, 3) := by decide +kernel
theorem dX5_tells_170 : decode cX5_tells 170 = .ok (.getfield 147, 3) := by decide +kernel
theorem dX5_tells_173 : decode cX5_tells 173 = .ok (.invokevirtual 227, 3) := by decide +kernel
theorem dX5_tells_176 : decode cX5_tells 176 = .ok (.ireturn, 1) := by decide +kernel
theorem dX5_tells_177 : decode cX5_tells 177 = .ok (.aload_n 0, 1) := by decide +kernel
theorem dX5_tells_178 : decode cX5_tells 178 = .ok (.aload 4, 2) := by decide +kernel
theorem dX5_tells_180 : decode cX5_tells 180 = .ok (.invokevirtual 235, 3) := by decide +kernel
theorem dX5_tells_183 : decode cX5_tells 183 = .ok (.ireturn, 1) := by decide +kernel
theorem dX5_film_0 : decode cX5_film 0 = .ok (.iload_n 1, 1) := by decide +kernel
theorem dX5_film_1 : decode cX5_film 1 = .ok (.invokestatic 214, 3) := by decide +kernel
theorem dX5_film_4 : decode cX5_film 4 = .ok (.ifCond .eq 14, 3) := by decide +kernel
theorem dX5_film_7 : decode cX5_film 7 = .ok (.aload_n 0, 1) := by decide +kernel
theorem dX5_film_8 : decode cX5_film 8 = .ok (.getfield 28, 3) := by decide +kernel
theorem dX5_film_11 : decode cX5_film 11 = .ok (.iload_n 2, 1) := by decide +kernel
theorem dX5_film_12 : decode cX5_film 12 = .ok (.invokevirtual 117, 3) := by decide +kernel
theorem dX5_film_15 : decode cX5_film 15 = .ok (.ifCond .ne 6, 3) := by decide +kernel
theorem dX5_film_18 : decode cX5_film 18 = .ok (.bipush (-2), 2) := by decide +kernel
theorem dX5_film_20 : decode cX5_film 20 = .ok (.ireturn, 1) := by decide +kernel
theorem dX5_film_21 : decode cX5_film 21 = .ok (.aload_n 0, 1) := by decide +kernel
theorem dX5_film_22 : decode cX5_film 22 = .ok (.getfield 40, 3) := by decide +kernel
theorem dX5_film_25 : decode cX5_film 25 = .ok (.iload_n 1, 1) := by decide +kernel
theorem dX5_film_26 : decode cX5_film 26 = .ok (.aaload, 1) := by decide +kernel
theorem dX5_film_27 : decode cX5_film 27 = .ok (.astore_n 3, 1) := by decide +kernel
theorem dX5_film_28 : decode cX5_film 28 = .ok (.aload_n 3, 1) := by decide +kernel
theorem dX5_film_29 : decode cX5_film 29 = .ok (.iconst 1, 1) := by decide +kernel
theorem dX5_film_30 : decode cX5_film 30 = .ok (.aload_n 0, 1) := by decide +kernel
theorem dX5_film_31 : decode cX5_film 31 = .ok (.getfield 28, 3) := by decide +kernel
theorem dX5_film_34 : decode cX5_film 34 = .ok (.getfield 205, 3) := by decide +kernel
theorem dX5_film_37 : decode cX5_film 37 = .ok (.invokevirtual 239, 3) := by decide +kernel
theorem dX5_film_40 : decode cX5_film 40 = .ok (.iconst 0, 1) := by decide +kernel
theorem dX5_film_41 : decode cX5_film 41 = .ok (.istore 4, 2) := by decide +kernel
theorem dX5_film_43 : decode cX5_film 43 = .ok (.iload 4, 2) := by decide +kernel
theorem dX5_film_45 : decode cX5_film 45 = .ok (.aload_n 0, 1) := by decide +kernel
theorem dX5_film_46 : decode cX5_film 46 = .ok (.getfield 28, 3) := by decide +kernel
theorem dX5_film_49 : decode cX5_film 49 = .ok (.getfield 205, 3) := by decide +kernel
theorem dX5_film_52 : decode cX5_film 52 = .ok (.if_icmp .ge 25, 3) := by decide +kernel
theorem dX5_film_55 : decode cX5_film 55 = .ok (.aload_n 3, 1) := by decide +kernel
theorem dX5_film_56 : decode cX5_film 56 = .ok (.iload 4, 2) := by decide +kernel
theorem dX5_film_58 : decode cX5_film 58 = .ok (.aload_n 0, 1) := by decide +kernel
theorem dX5_film_59 : decode cX5_film 59 = .ok (.getfield 28, 3) := by decide +kernel
theorem dX5_film_62 : decode cX5_film 62 = .ok (.iload_n 2, 1) := by decide +kernel
theorem dX5_film_63 : decode cX5_film 63 = .ok (.iload 4, 2) := by decide +kernel
theorem dX5_film_65 : decode cX5_film 65 = .ok (.invokevirtual 137, 3) := by decide +kernel
theorem dX5_film_68 : decode cX5_film 68 = .ok (.invokevirtual 243, 3) := by decide +kernel
theorem dX5_film_71 : decode cX5_film 71 = .ok (.iinc 4 1, 3) := by decide +kernel
theorem dX5_film_74 : decode cX5_film 74 = .ok (.goto (-31), 3) := by decide +kernel
theorem dX5_film_77 : decode cX5_film 77 = .ok (.aload_n 0, 1) := by decide +kernel
theorem dX5_film_78 : decode cX5_film 78 = .ok (.getfield 28, 3) := by decide +kernel
theorem dX5_film_81 : decode cX5_film 81 = .ok (.getfield 205, 3) := by decide +kernel
theorem dX5_film_84 : decode cX5_film 84 = .ok (.ireturn, 1) := by decide +kernel
theorem dX5_drawn_0 : decode cX5_drawn 0 = .ok (.iload_n 2, 1) := by decide +kernel
theorem dX5_drawn_1 : decode cX5_drawn 1 = .ok (.iconst 0, 1) := by decide +kernel
theorem dX5_drawn_2 : decode cX5_drawn 2 = .ok (.bipush 12, 2) := by decide +kernel
theorem dX5_drawn_4 : decode cX5_drawn 4 = .ok (.invokestatic 72, 3) := by decide +kernel
theorem dX5_drawn_7 : decode cX5_drawn 7 = .ok (.ifCond .ne 6, 3) := by decide +kernel
theorem dX5_drawn_10 : decode cX5_drawn 10 = .ok (.bipush (-2), 2) := by decide +kernel
theorem dX5_drawn_12 : decode cX5_drawn 12 = .ok (.ireturn, 1) := by decide +kernel
theorem dX5_drawn_13 : decode cX5_drawn 13 = .ok (.aload_n 0, 1) := by decide +kernel
theorem dX5_drawn_14 : decode cX5_drawn 14 = .ok (.iload_n 1, 1) := by decide +kernel
theorem dX5_drawn_15 : decode cX5_drawn 15 = .ok (.iload_n 2, 1) := by decide +kernel
theorem dX5_drawn_16 : decode cX5_drawn 16 = .ok (.invokevirtual 245, 3) := by decide +kernel
theorem dX5_drawn_19 : decode cX5_drawn 19 = .ok (.ireturn, 1) := by decide +kernel
theorem dX5_chance_0 : decode cX5_chance 0 = .ok (.iload_n 2, 1) := by decide +kernel
theorem dX5_chance_1 : decode cX5_chance 1 = .ok (.iconst 1, 1) := by decide +kernel
theorem dX5_chance_2 : decode cX5_chance 2 = .ok (.bipush 10, 2) := by decide +kernel
theorem dX5_chance_4 : decode cX5_chance 4 = .ok (.invokestatic 72, 3) := by decide +kernel
theorem dX5_chance_7 : decode cX5_chance 7 = .ok (.ifCond .eq 23, 3) := by decide +kernel
theorem dX5_chance_10 : decode cX5_chance 10 = .ok (.iload_n 3, 1) := by decide +kernel
theorem dX5_chance_11 : decode cX5_chance 11 = .ok (.iconst 0, 1) := by decide +kernel
theorem dX5_chance_12 : decode cX5_chance 12 = .ok (.bipush 12, 2) := by decide +kernel
theorem dX5_chance_14 : decode cX5_chance 14 = .ok (.invokestatic 72, 3) := by decide +kernel
theorem dX5_chance_17 : decode cX5_chance 17 = .ok (.ifCond .eq 13, 3) := by decide +kernel
theorem dX5_chance_20 : decode cX5_chance 20 = .ok (.iload 4, 2) := by decide +kernel
theorem dX5_chance_22 : decode cX5_chance 22 = .ok (.iconst 0, 1) := by decide +kernel
theorem dX5_chance_23 : decode cX5_chance 23 = .ok (.iconst 1, 1) := by decide +kernel
theorem dX5_chance_24 : decode cX5_chance 24 = .ok (.invokestatic 72, 3) := by decide +kernel
theorem dX5_chance_27 : decode cX5_chance 27 = .ok (.ifCond .ne 7, 3) := by decide +kernel
theorem dX5_chance_30 : decode cX5_chance 30 = .ok (.ldc2_w 208, 3) := by decide +kernel
theorem dX5_chance_33 : decode cX5_chance 33 = .ok (.lreturn, 1) := by decide +kernel
theorem dX5_chance_34 : decode cX5_chance 34 = .ok (.iconst 0, 1) := by decide +kernel
theorem dX5_chance_35 : decode cX5_chance 35 = .ok (.istore 5, 2) := by decide +kernel
theorem dX5_chance_37 : decode cX5_chance 37 = .ok (.iconst 0, 1) := by decide +kernel
theorem dX5_chance_38 : decode cX5_chance 38 = .ok (.istore 6, 2) := by decide +kernel
theorem dX5_chance_40 : decode cX5_chance 40 = .ok (.iload 6, 2) := by decide +kernel
theorem dX5_chance_42 : decode cX5_chance 42 = .ok (.iload_n 2, 1) := by decide +kernel
theorem dX5_chance_43 : decode cX5_chance 43 = .ok (.if_icmp .ge 26, 3) := by decide +kernel
theorem dX5_chance_46 : decode cX5_chance 46 = .ok (.aload_n 0, 1) := by decide +kernel
theorem dX5_chance_47 : decode cX5_chance 47 = .ok (.iload_n 1, 1) := by decide +kernel
theorem dX5_chance_48 : decode cX5_chance 48 = .ok (.iload 6, 2) := by decide +kernel
theorem dX5_chance_50 : decode cX5_chance 50 = .ok (.iadd, 1) := by decide +kernel
theorem dX5_chance_51 : decode cX5_chance 51 = .ok (.bipush 6, 2) := by decide +kernel
theorem dX5_chance_53 : decode cX5_chance 53 = .ok (.invokevirtual 245, 3) := by decide +kernel
theorem dX5_chance_56 : decode cX5_chance 56 = .ok (.iload_n 3, 1) := by decide +kernel
theorem dX5_chance_57 : decode cX5_chance 57 = .ok (.if_icmp .lt 6, 3) := by decide +kernel
theorem dX5_chance_60 : decode cX5_chance 60 = .ok (.iinc 5 1, 3) := by decide +kernel
theorem dX5_chance_63 : decode cX5_chance 63 = .ok (.iinc 6 1, 3) := by decide +kernel
theorem dX5_chance_66 : decode cX5_chance 66 = .ok (.goto (-26), 3) := by decide +kernel
theorem dX5_chance_69 : decode cX5_chance 69 = .ok (.iload 5, 2) := by decide +kernel
theorem dX5_chance_71 : decode cX5_chance 71 = .ok (.iload_n 2, 1) := by decide +kernel
theorem dX5_chance_72 : decode cX5_chance 72 = .ok (.iload 4, 2) := by decide +kernel
theorem dX5_chance_74 : decode cX5_chance 74 = .ok (.invokestatic 210, 3) := by decide +kernel
theorem dX5_chance_77 : decode cX5_chance 77 = .ok (.lreturn, 1) := by decide +kernel
theorem dX5_image_0 : decode cX5_image 0 = .ok (.aload_n 0, 1) := by decide +kernel
theorem dX5_image_1 : decode cX5_image 1 = .ok (.getfield 32, 3) := by decide +kernel
theorem dX5_image_4 : decode cX5_image 4 = .ok (.aload_n 0, 1) := by decide +kernel
theorem dX5_image_5 : decode cX5_image 5 = .ok (.getfield 28, 3) := by decide +kernel
theorem dX5_image_8 : decode cX5_image 8 = .ok (.invokevirtual 248, 3) := by decide +kernel
theorem dX5_image_11 : decode cX5_image 11 = .ok (.aload_n 0, 1) := by decide +kernel
theorem dX5_image_12 : decode cX5_image 12 = .ok (.iconst 1, 1) := by decide +kernel
theorem dX5_image_13 : decode cX5_image 13 = .ok (.putfield 252, 3) := by decide +kernel
theorem dX5_image_16 : decode cX5_image 16 = .ok (.aload_n 0, 1) := by decide +kernel
theorem dX5_image_17 : decode cX5_image 17 = .ok (.getfield 28, 3) := by decide +kernel
theorem dX5_image_20 : decode cX5_image 20 = .ok (.getfield 256, 3) := by decide +kernel
theorem dX5_image_23 : decode cX5_image 23 = .ok (.ireturn, 1) := by decide +kernel
theorem dX5_back_0 : decode cX5_back 0 = .ok (.aload_n 0, 1) := by decide +kernel
theorem dX5_back_1 : decode cX5_back 1 = .ok (.getfield 252, 3) := by decide +kernel
theorem dX5_back_4 : decode cX5_back 4 = .ok (.ifCond .ne 6, 3) := by decide +kernel
theorem dX5_back_7 : decode cX5_back 7 = .ok (.bipush (-3), 2) := by decide +kernel
theorem dX5_back_9 : decode cX5_back 9 = .ok (.ireturn, 1) := by decide +kernel
theorem dX5_back_10 : decode cX5_back 10 = .ok (.aload_n 0, 1) := by decide +kernel
theorem dX5_back_11 : decode cX5_back 11 = .ok (.getfield 28, 3) := by decide +kernel
theorem dX5_back_14 : decode cX5_back 14 = .ok (.aload_n 0, 1) := by decide +kernel
theorem dX5_back_15 : decode cX5_back 15 = .ok (.getfield 32, 3) := by decide +kernel
theorem dX5_back_18 : decode cX5_back 18 = .ok (.invokevirtual 248, 3) := by decide +kernel
theorem dX5_back_21 : decode cX5_back 21 = .ok (.aload_n 0, 1) := by decide +kernel
theorem dX5_back_22 : decode cX5_back 22 = .ok (.getfield 28, 3) := by decide +kernel
theorem dX5_back_25 : decode cX5_back 25 = .ok (.getfield 256, 3) := by decide +kernel
theorem dX5_back_28 : decode cX5_back 28 = .ok (.ireturn, 1) := by decide +kernel
theorem dX5_count_0 : decode cX5_count 0 = .ok (.iload_n 1, 1) := by decide +kernel
theorem dX5_count_1 : decode cX5_count 1 = .ok (.tableswitch 87 0 5 #[39, 47, 55, 63, 71, 79], 39) := by decide +kernel
theorem dX5_count_40 : decode cX5_count 40 = .ok (.aload_n 0, 1) := by decide +kernel
theorem dX5_count_41 : decode cX5_count 41 = .ok (.getfield 28, 3) := by decide +kernel
theorem dX5_count_44 : decode cX5_count 44 = .ok (.getfield 256, 3) := by decide +kernel
theorem dX5_count_47 : decode cX5_count 47 = .ok (.ireturn, 1) := by decide +kernel
theorem dX5_count_48 : decode cX5_count 48 = .ok (.aload_n 0, 1) := by decide +kernel
theorem dX5_count_49 : decode cX5_count 49 = .ok (.getfield 28, 3) := by decide +kernel
theorem dX5_count_52 : decode cX5_count 52 = .ok (.getfield 205, 3) := by decide +kernel
theorem dX5_count_55 : decode cX5_count 55 = .ok (.ireturn, 1) := by decide +kernel
theorem dX5_count_56 : decode cX5_count 56 = .ok (.aload_n 0, 1) := by decide +kernel
theorem dX5_count_57 : decode cX5_count 57 = .ok (.getfield 28, 3) := by decide +kernel
theorem dX5_count_60 : decode cX5_count 60 = .ok (.getfield 104, 3) := by decide +kernel
theorem dX5_count_63 : decode cX5_count 63 = .ok (.ireturn, 1) := by decide +kernel
theorem dX5_count_64 : decode cX5_count 64 = .ok (.aload_n 0, 1) := by decide +kernel
theorem dX5_count_65 : decode cX5_count 65 = .ok (.getfield 10, 3) := by decide +kernel
theorem dX5_count_68 : decode cX5_count 68 = .ok (.getfield 147, 3) := by decide +kernel
theorem dX5_count_71 : decode cX5_count 71 = .ok (.ireturn, 1) := by decide +kernel
theorem dX5_count_72 : decode cX5_count 72 = .ok (.aload_n 0, 1) := by decide +kernel
theorem dX5_count_73 : decode cX5_count 73 = .ok (.getfield 19, 3) := by decide +kernel
theorem dX5_count_76 : decode cX5_count 76 = .ok (.getfield 259, 3) := by decide +kernel
theorem dX5_count_79 : decode cX5_count 79 = .ok (.ireturn, 1) := by decide +kernel
theorem dX5_count_80 : decode cX5_count 80 = .ok (.aload_n 0, 1) := by decide +kernel
theorem dX5_count_81 : decode cX5_count 81 = .ok (.getfield 28, 3) := by decide +kernel
theorem dX5_count_84 : decode cX5_count 84 = .ok (.getfield 150, 3) := by decide +kernel
theorem dX5_count_87 : decode cX5_count 87 = .ok (.ireturn, 1) := by decide +kernel
theorem dX5_count_88 : decode cX5_count 88 = .ok (.bipush (-2), 2) := by decide +kernel
theorem dX5_count_90 : decode cX5_count 90 = .ok (.ireturn, 1) := by decide +kernel
theorem dX5_sheet_0 : decode cX5_sheet 0 = .ok (.iload_n 1, 1) := by decide +kernel
theorem dX5_sheet_1 : decode cX5_sheet 1 = .ok (.invokestatic 214, 3) := by decide +kernel
theorem dX5_sheet_4 : decode cX5_sheet 4 = .ok (.ifCond .eq 12, 3) := by decide +kernel
theorem dX5_sheet_7 : decode cX5_sheet 7 = .ok (.iload_n 2, 1) := by decide +kernel
theorem dX5_sheet_8 : decode cX5_sheet 8 = .ok (.iconst (-1), 1) := by decide +kernel
theorem dX5_sheet_9 : decode cX5_sheet 9 = .ok (.iconst 2, 1) := by decide +kernel
theorem dX5_sheet_10 : decode cX5_sheet 10 = .ok (.invokestatic 72, 3) := by decide +kernel
theorem dX5_sheet_13 : decode cX5_sheet 13 = .ok (.ifCond .ne 6, 3) := by decide +kernel
theorem dX5_sheet_16 : decode cX5_sheet 16 = .ok (.bipush (-2), 2) := by decide +kernel
theorem dX5_sheet_18 : decode cX5_sheet 18 = .ok (.ireturn, 1) := by decide +kernel
theorem dX5_sheet_19 : decode cX5_sheet 19 = .ok (.iload_n 2, 1) := by decide +kernel
theorem dX5_sheet_20 : decode cX5_sheet 20 = .ok (.iconst (-1), 1) := by decide +kernel
theorem dX5_sheet_21 : decode cX5_sheet 21 = .ok (.if_icmp .ne 16, 3) := by decide +kernel
theorem dX5_sheet_24 : decode cX5_sheet 24 = .ok (.aload_n 0, 1) := by decide +kernel
theorem dX5_sheet_25 : decode cX5_sheet 25 = .ok (.getfield 40, 3) := by decide +kernel
theorem dX5_sheet_28 : decode cX5_sheet 28 = .ok (.iload_n 1, 1) := by decide +kernel
theorem dX5_sheet_29 : decode cX5_sheet 29 = .ok (.aaload, 1) := by decide +kernel
theorem dX5_sheet_30 : decode cX5_sheet 30 = .ok (.iconst (-1), 1) := by decide +kernel
theorem dX5_sheet_31 : decode cX5_sheet 31 = .ok (.iconst 0, 1) := by decide +kernel
theorem dX5_sheet_32 : decode cX5_sheet 32 = .ok (.invokevirtual 239, 3) := by decide +kernel
theorem dX5_sheet_35 : decode cX5_sheet 35 = .ok (.iconst 1, 1) := by decide +kernel
theorem dX5_sheet_36 : decode cX5_sheet 36 = .ok (.ireturn, 1) := by decide +kernel
theorem dX5_sheet_37 : decode cX5_sheet 37 = .ok (.iload_n 3, 1) := by decide +kernel
theorem dX5_sheet_38 : decode cX5_sheet 38 = .ok (.bipush 40, 2) := by decide +kernel
theorem dX5_sheet_40 : decode cX5_sheet 40 = .ok (.if_icmp .le 6, 3) := by decide +kernel
theorem dX5_sheet_43 : decode cX5_sheet 43 = .ok (.bipush (-2), 2) := by decide +kernel
theorem dX5_sheet_45 : decode cX5_sheet 45 = .ok (.ireturn, 1) := by decide +kernel
theorem dX5_sheet_46 : decode cX5_sheet 46 = .ok (.iload_n 3, 1) := by decide +kernel
theorem dX5_sheet_47 : decode cX5_sheet 47 = .ok (.ifCond .ge 6, 3) := by decide +kernel
theorem dX5_sheet_50 : decode cX5_sheet 50 = .ok (.bipush (-14), 2) := by decide +kernel
theorem dX5_sheet_52 : decode cX5_sheet 52 = .ok (.ireturn, 1) := by decide +kernel
theorem dX5_sheet_53 : decode cX5_sheet 53 = .ok (.aload_n 0, 1) := by decide +kernel
theorem dX5_sheet_54 : decode cX5_sheet 54 = .ok (.getfield 40, 3) := by decide +kernel
theorem dX5_sheet_57 : decode cX5_sheet 57 = .ok (.iload_n 1, 1) := by decide +kernel
theorem dX5_sheet_58 : decode cX5_sheet 58 = .ok (.aaload, 1) := by decide +kernel
theorem dX5_sheet_59 : decode cX5_sheet 59 = .ok (.iload_n 2, 1) := by decide +kernel
theorem dX5_sheet_60 : decode cX5_sheet 60 = .ok (.iload_n 3, 1) := by decide +kernel
theorem dX5_sheet_61 : decode cX5_sheet 61 = .ok (.invokevirtual 239, 3) := by decide +kernel
theorem dX5_sheet_64 : decode cX5_sheet 64 = .ok (.iconst 1, 1) := by decide +kernel
theorem dX5_sheet_65 : decode cX5_sheet 65 = .ok (.ireturn, 1) := by decide +kernel
theorem dX5_cell_0 : decode cX5_cell 0 = .ok (.iload_n 1, 1) := by decide +kernel
theorem dX5_cell_1 : decode cX5_cell 1 = .ok (.invokestatic 214, 3) := by decide +kernel
theorem dX5_cell_4 : decode cX5_cell 4 = .ok (.ifCond .ne 6, 3) := by decide +kernel
theorem dX5_cell_7 : decode cX5_cell 7 = .ok (.bipush (-2), 2) := by decide +kernel
theorem dX5_cell_9 : decode cX5_cell 9 = .ok (.ireturn, 1) := by decide +kernel
theorem dX5_cell_10 : decode cX5_cell 10 = .ok (.aload_n 0, 1) := by decide +kernel
theorem dX5_cell_11 : decode cX5_cell 11 = .ok (.getfield 40, 3) := by decide +kernel
theorem dX5_cell_14 : decode cX5_cell 14 = .ok (.iload_n 1, 1) := by decide +kernel
theorem dX5_cell_15 : decode cX5_cell 15 = .ok (.aaload, 1) := by decide +kernel
theorem dX5_cell_16 : decode cX5_cell 16 = .ok (.astore 4, 2) := by decide +kernel
theorem dX5_cell_18 : decode cX5_cell 18 = .ok (.aload 4, 2) := by decide +kernel
theorem dX5_cell_20 : decode cX5_cell 20 = .ok (.invokevirtual 217, 3) := by decide +kernel
theorem dX5_cell_23 : decode cX5_cell 23 = .ok (.ifCond .eq 6, 3) := by decide +kernel
theorem dX5_cell_26 : decode cX5_cell 26 = .ok (.bipush (-11), 2) := by decide +kernel
theorem dX5_cell_28 : decode cX5_cell 28 = .ok (.ireturn, 1) := by decide +kernel
theorem dX5_cell_29 : decode cX5_cell 29 = .ok (.aload 4, 2) := by decide +kernel
theorem dX5_cell_31 : decode cX5_cell 31 = .ok (.iload_n 2, 1) := by decide +kernel
theorem dX5_cell_32 : decode cX5_cell 32 = .ok (.invokevirtual 260, 3) := by decide +kernel
theorem dX5_cell_35 : decode cX5_cell 35 = .ok (.ifCond .ne 6, 3) := by decide +kernel
theorem dX5_cell_38 : decode cX5_cell 38 = .ok (.bipush (-12), 2) := by decide +kernel
theorem dX5_cell_40 : decode cX5_cell 40 = .ok (.ireturn, 1) := by decide +kernel
theorem dX5_cell_41 : decode cX5_cell 41 = .ok (.aload 4, 2) := by decide +kernel
theorem dX5_cell_43 : decode cX5_cell 43 = .ok (.iload_n 2, 1) := by decide +kernel
theorem dX5_cell_44 : decode cX5_cell 44 = .ok (.iload_n 3, 1) := by decide +kernel
theorem dX5_cell_45 : decode cX5_cell 45 = .ok (.invokevirtual 243, 3) := by decide +kernel
theorem dX5_cell_48 : decode cX5_cell 48 = .ok (.iconst 1, 1) := by decide +kernel
theorem dX5_cell_49 : decode cX5_cell 49 = .ok (.ireturn, 1) := by decide +kernel
theorem dX5_copy_0 : decode cX5_copy 0 = .ok (.iload_n 1, 1) := by decide +kernel
theorem dX5_copy_1 : decode cX5_copy 1 = .ok (.invokestatic 214, 3) := by decide +kernel
theorem dX5_copy_4 : decode cX5_copy 4 = .ok (.ifCond .eq 10, 3) := by decide +kernel
theorem dX5_copy_7 : decode cX5_copy 7 = .ok (.iload_n 3, 1) := by decide +kernel
theorem dX5_copy_8 : decode cX5_copy 8 = .ok (.invokestatic 214, 3) := by decide +kernel
theorem dX5_copy_11 : decode cX5_copy 11 = .ok (.ifCond .ne 6, 3) := by decide +kernel
theorem dX5_copy_14 : decode cX5_copy 14 = .ok (.bipush (-2), 2) := by decide +kernel
theorem dX5_copy_16 : decode cX5_copy 16 = .ok (.ireturn, 1) := by decide +kernel
theorem dX5_copy_17 : decode cX5_copy 17 = .ok (.aload_n 0, 1) := by decide +kernel
theorem dX5_copy_18 : decode cX5_copy 18 = .ok (.getfield 40, 3) := by decide +kernel
theorem dX5_copy_21 : decode cX5_copy 21 = .ok (.iload_n 1, 1) := by decide +kernel
theorem dX5_copy_22 : decode cX5_copy 22 = .ok (.aaload, 1) := by decide +kernel
theorem dX5_copy_23 : decode cX5_copy 23 = .ok (.astore 6, 2) := by decide +kernel
theorem dX5_copy_25 : decode cX5_copy 25 = .ok (.aload_n 0, 1) := by decide +kernel
theorem dX5_copy_26 : decode cX5_copy 26 = .ok (.getfield 40, 3) := by decide +kernel
theorem dX5_copy_29 : decode cX5_copy 29 = .ok (.iload_n 3, 1) := by decide +kernel
theorem dX5_copy_30 : decode cX5_copy 30 = .ok (.aaload, 1) := by decide +kernel
theorem dX5_copy_31 : decode cX5_copy 31 = .ok (.astore 7, 2) := by decide +kernel
theorem dX5_copy_33 : decode cX5_copy 33 = .ok (.aload 6, 2) := by decide +kernel
theorem dX5_copy_35 : decode cX5_copy 35 = .ok (.invokevirtual 217, 3) := by decide +kernel
theorem dX5_copy_38 : decode cX5_copy 38 = .ok (.ifCond .ne 11, 3) := by decide +kernel
theorem dX5_copy_41 : decode cX5_copy 41 = .ok (.aload 7, 2) := by decide +kernel
theorem dX5_copy_43 : decode cX5_copy 43 = .ok (.invokevirtual 217, 3) := by decide +kernel
theorem dX5_copy_46 : decode cX5_copy 46 = .ok (.ifCond .eq 6, 3) := by decide +kernel
theorem dX5_copy_49 : decode cX5_copy 49 = .ok (.bipush (-11), 2) := by decide +kernel
theorem dX5_copy_51 : decode cX5_copy 51 = .ok (.ireturn, 1) := by decide +kernel
theorem dX5_copy_52 : decode cX5_copy 52 = .ok (.aload 6, 2) := by decide +kernel
theorem dX5_copy_54 : decode cX5_copy 54 = .ok (.getfield 263, 3) := by decide +kernel
theorem dX5_copy_57 : decode cX5_copy 57 = .ok (.aload 7, 2) := by decide +kernel
theorem dX5_copy_59 : decode cX5_copy 59 = .ok (.getfield 263, 3) := by decide +kernel
theorem dX5_copy_62 : decode cX5_copy 62 = .ok (.if_icmp .eq 6, 3) := by decide +kernel
theorem dX5_copy_65 : decode cX5_copy 65 = .ok (.bipush (-13), 2) := by decide +kernel
theorem dX5_copy_67 : decode cX5_copy 67 = .ok (.ireturn, 1) := by decide +kernel
theorem dX5_copy_68 : decode cX5_copy 68 = .ok (.aload 6, 2) := by decide +kernel
theorem dX5_copy_70 : decode cX5_copy 70 = .ok (.iload_n 2, 1) := by decide +kernel
theorem dX5_copy_71 : decode cX5_copy 71 = .ok (.iload 5, 2) := by decide +kernel
theorem dX5_copy_73 : decode cX5_copy 73 = .ok (.invokevirtual 266, 3) := by decide +kernel
theorem dX5_copy_76 : decode cX5_copy 76 = .ok (.ifCond .eq 15, 3) := by decide +kernel
theorem dX5_copy_79 : decode cX5_copy 79 = .ok (.aload 7, 2) := by decide +kernel
theorem dX5_copy_81 : decode cX5_copy 81 = .ok (.iload 4, 2) := by decide +kernel
theorem dX5_copy_83 : decode cX5_copy 83 = .ok (.iload 5, 2) := by decide +kernel
theorem dX5_copy_85 : decode cX5_copy 85 = .ok (.invokevirtual 266, 3) := by decide +kernel
theorem dX5_copy_88 : decode cX5_copy 88 = .ok (.ifCond .ne 6, 3) := by decide +kernel
theorem dX5_copy_91 : decode cX5_copy 91 = .ok (.bipush (-12), 2) := by decide +kernel
theorem dX5_copy_93 : decode cX5_copy 93 = .ok (.ireturn, 1) := by decide +kernel
theorem dX5_copy_94 : decode cX5_copy 94 = .ok (.aload 6, 2) := by decide +kernel
theorem dX5_copy_96 : decode cX5_copy 96 = .ok (.getfield 269, 3) := by decide +kernel
theorem dX5_copy_99 : decode cX5_copy 99 = .ok (.iload_n 2, 1) := by decide +kernel
theorem dX5_copy_100 : decode cX5_copy 100 = .ok (.aload 7, 2) := by decide +kernel
theorem dX5_copy_102 : decode cX5_copy 102 = .ok (.getfield 269, 3) := by decide +kernel
theorem dX5_copy_105 : decode cX5_copy 105 = .ok (.iload 4, 2) := by decide +kernel
theorem dX5_copy_107 : decode cX5_copy 107 = .ok (.iload 5, 2) := by decide +kernel
theorem dX5_copy_109 : decode cX5_copy 109 = .ok (.invokestatic 272, 3) := by decide +kernel
theorem dX5_copy_112 : decode cX5_copy 112 = .ok (.iload 5, 2) := by decide +kernel
theorem dX5_copy_114 : decode cX5_copy 114 = .ok (.ireturn, 1) := by decide +kernel
theorem dX5_house_0 : decode cX5_house 0 = .ok (.iload_n 1, 1) := by decide +kernel
theorem dX5_house_1 : decode cX5_house 1 = .ok (.invokestatic 214, 3) := by decide +kernel
theorem dX5_house_4 : decode cX5_house 4 = .ok (.ifCond .eq 22, 3) := by decide +kernel
theorem dX5_house_7 : decode cX5_house 7 = .ok (.iload_n 2, 1) := by decide +kernel
theorem dX5_house_8 : decode cX5_house 8 = .ok (.iconst 0, 1) := by decide +kernel
theorem dX5_house_9 : decode cX5_house 9 = .ok (.iconst 2, 1) := by decide +kernel
theorem dX5_house_10 : decode cX5_house 10 = .ok (.invokestatic 72, 3) := by decide +kernel
theorem dX5_house_13 : decode cX5_house 13 = .ok (.ifCond .eq 13, 3) := by decide +kernel
theorem dX5_house_16 : decode cX5_house 16 = .ok (.iload 4, 2) := by decide +kernel
theorem dX5_house_18 : decode cX5_house 18 = .ok (.iconst 0, 1) := by decide +kernel
theorem dX5_house_19 : decode cX5_house 19 = .ok (.iconst 5, 1) := by decide +kernel
theorem dX5_house_20 : decode cX5_house 20 = .ok (.invokestatic 72, 3) := by decide +kernel
theorem dX5_house_23 : decode cX5_house 23 = .ok (.ifCond .ne 6, 3) := by decide +kernel
theorem dX5_house_26 : decode cX5_house 26 = .ok (.bipush (-2), 2) := by decide +kernel
theorem dX5_house_28 : decode cX5_house 28 = .ok (.ireturn, 1) := by decide +kernel
theorem dX5_house_29 : decode cX5_house 29 = .ok (.aload_n 0, 1) := by decide +kernel
theorem dX5_house_30 : decode cX5_house 30 = .ok (.getfield 40, 3) := by decide +kernel
theorem dX5_house_33 : decode cX5_house 33 = .ok (.iload_n 1, 1) := by decide +kernel
theorem dX5_house_34 : decode cX5_house 34 = .ok (.aaload, 1) := by decide +kernel
theorem dX5_house_35 : decode cX5_house 35 = .ok (.astore 5, 2) := by decide +kernel
theorem dX5_house_37 : decode cX5_house 37 = .ok (.aload 5, 2) := by decide +kernel
theorem dX5_house_39 : decode cX5_house 39 = .ok (.invokevirtual 217, 3) := by decide +kernel
theorem dX5_house_42 : decode cX5_house 42 = .ok (.ifCond .eq 6, 3) := by decide +kernel
theorem dX5_house_45 : decode cX5_house 45 = .ok (.bipush (-11), 2) := by decide +kernel
theorem dX5_house_47 : decode cX5_house 47 = .ok (.ireturn, 1) := by decide +kernel
theorem dX5_house_48 : decode cX5_house 48 = .ok (.aload 5, 2) := by decide +kernel
theorem dX5_house_50 : decode cX5_house 50 = .ok (.getfield 263, 3) := by decide +kernel
theorem dX5_house_53 : decode cX5_house 53 = .ok (.iload_n 2, 1) := by decide +kernel
theorem dX5_house_54 : decode cX5_house 54 = .ok (.if_icmp .eq 6, 3) := by decide +kernel
theorem dX5_house_57 : decode cX5_house 57 = .ok (.bipush (-13), 2) := by decide +kernel
theorem dX5_house_59 : decode cX5_house 59 = .ok (.ireturn, 1) := by decide +kernel
theorem dX5_house_60 : decode cX5_house 60 = .ok (.iconst 0, 1) := by decide +kernel
theorem dX5_house_61 : decode cX5_house 61 = .ok (.istore 6, 2) := by decide +kernel
theorem dX5_house_63 : decode cX5_house 63 = .ok (.iconst 0, 1) := by decide +kernel
theorem dX5_house_64 : decode cX5_house 64 = .ok (.istore 7, 2) := by decide +kernel
theorem dX5_house_66 : decode cX5_house 66 = .ok (.iload 7, 2) := by decide +kernel
theorem dX5_house_68 : decode cX5_house 68 = .ok (.iload 4, 2) := by decide +kernel
theorem dX5_house_70 : decode cX5_house 70 = .ok (.if_icmp .ge 59, 3) := by decide +kernel
theorem dX5_house_73 : decode cX5_house 73 = .ok (.iload_n 3, 1) := by decide +kernel
theorem dX5_house_74 : decode cX5_house 74 = .ok (.iconst 2, 1) := by decide +kernel
theorem dX5_house_75 : decode cX5_house 75 = .ok (.iload 7, 2) := by decide +kernel
theorem dX5_house_77 : decode cX5_house 77 = .ok (.imul, 1) := by decide +kernel
theorem dX5_house_78 : decode cX5_house 78 = .ok (.iadd, 1) := by decide +kernel
theorem dX5_house_79 : decode cX5_house 79 = .ok (.istore 8, 2) := by decide +kernel
theorem dX5_house_81 : decode cX5_house 81 = .ok (.aload 5, 2) := by decide +kernel
theorem dX5_house_83 : decode cX5_house 83 = .ok (.iload 8, 2) := by decide +kernel
theorem dX5_house_85 : decode cX5_house 85 = .ok (.iconst 2, 1) := by decide +kernel
theorem dX5_house_86 : decode cX5_house 86 = .ok (.invokevirtual 266, 3) := by decide +kernel
theorem dX5_house_89 : decode cX5_house 89 = .ok (.ifCond .ne 6, 3) := by decide +kernel
theorem dX5_house_92 : decode cX5_house 92 = .ok (.bipush (-12), 2) := by decide +kernel
theorem dX5_house_94 : decode cX5_house 94 = .ok (.ireturn, 1) := by decide +kernel
theorem dX5_house_95 : decode cX5_house 95 = .ok (.aload_n 0, 1) := by decide +kernel
theorem dX5_house_96 : decode cX5_house 96 = .ok (.aload 5, 2) := by decide +kernel
theorem dX5_house_98 : decode cX5_house 98 = .ok (.getfield 269, 3) := by decide +kernel
theorem dX5_house_101 : decode cX5_house 101 = .ok (.iload 8, 2) := by decide +kernel
theorem dX5_house_103 : decode cX5_house 103 = .ok (.iaload, 1) := by decide +kernel
theorem dX5_house_104 : decode cX5_house 104 = .ok (.aload 5, 2) := by decide +kernel
theorem dX5_house_106 : decode cX5_house 106 = .ok (.getfield 269, 3) := by decide +kernel
theorem dX5_house_109 : decode cX5_house 109 = .ok (.iload 8, 2) := by decide +kernel
theorem dX5_house_111 : decode cX5_house 111 = .ok (.iconst 1, 1) := by decide +kernel
theorem dX5_house_112 : decode cX5_house 112 = .ok (.iadd, 1) := by decide +kernel
theorem dX5_house_113 : decode cX5_house 113 = .ok (.iaload, 1) := by decide +kernel
theorem dX5_house_114 : decode cX5_house 114 = .ok (.invokevirtual 278, 3) := by decide +kernel
theorem dX5_house_117 : decode cX5_house 117 = .ok (.ifCond .lt 6, 3) := by decide +kernel
theorem dX5_house_120 : decode cX5_house 120 = .ok (.iinc 6 1, 3) := by decide +kernel
theorem dX5_house_123 : decode cX5_house 123 = .ok (.iinc 7 1, 3) := by decide +kernel
theorem dX5_house_126 : decode cX5_house 126 = .ok (.goto (-60), 3) := by decide +kernel
theorem dX5_house_129 : decode cX5_house 129 = .ok (.iload 6, 2) := by decide +kernel
theorem dX5_house_131 : decode cX5_house 131 = .ok (.ireturn, 1) := by decide +kernel
theorem dX5_taken_0 : decode cX5_taken 0 = .ok (.iload_n 2, 1) := by decide +kernel
theorem dX5_taken_1 : decode cX5_taken 1 = .ok (.invokestatic 111, 3) := by decide +kernel
theorem dX5_taken_4 : decode cX5_taken 4 = .ok (.ifCond .ne 6, 3) := by decide +kernel
theorem dX5_taken_7 : decode cX5_taken 7 = .ok (.bipush (-2), 2) := by decide +kernel
theorem dX5_taken_9 : decode cX5_taken 9 = .ok (.ireturn, 1) := by decide +kernel
theorem dX5_taken_10 : decode cX5_taken 10 = .ok (.aload_n 0, 1) := by decide +kernel
theorem dX5_taken_11 : decode cX5_taken 11 = .ok (.getfield 28, 3) := by decide +kernel
theorem dX5_taken_14 : decode cX5_taken 14 = .ok (.iload_n 1, 1) := by decide +kernel
theorem dX5_taken_15 : decode cX5_taken 15 = .ok (.invokevirtual 117, 3) := by decide +kernel
theorem dX5_taken_18 : decode cX5_taken 18 = .ok (.ifCond .ne 6, 3) := by decide +kernel
theorem dX5_taken_21 : decode cX5_taken 21 = .ok (.bipush (-11), 2) := by decide +kernel
theorem dX5_taken_23 : decode cX5_taken 23 = .ok (.ireturn, 1) := by decide +kernel
theorem dX5_taken_24 : decode cX5_taken 24 = .ok (.aload_n 0, 1) := by decide +kernel
theorem dX5_taken_25 : decode cX5_taken 25 = .ok (.getfield 28, 3) := by decide +kernel
theorem dX5_taken_28 : decode cX5_taken 28 = .ok (.getfield 281, 3) := by decide +kernel
theorem dX5_taken_31 : decode cX5_taken 31 = .ok (.iload_n 1, 1) := by decide +kernel
theorem dX5_taken_32 : decode cX5_taken 32 = .ok (.iaload, 1) := by decide +kernel
theorem dX5_taken_33 : decode cX5_taken 33 = .ok (.iload_n 2, 1) := by decide +kernel
theorem dX5_taken_34 : decode cX5_taken 34 = .ok (.invokestatic 284, 3) := by decide +kernel
theorem dX5_taken_37 : decode cX5_taken 37 = .ok (.ifCond .eq 15, 3) := by decide +kernel
theorem dX5_taken_40 : decode cX5_taken 40 = .ok (.aload_n 0, 1) := by decide +kernel
theorem dX5_taken_41 : decode cX5_taken 41 = .ok (.getfield 28, 3) := by decide +kernel
theorem dX5_taken_44 : decode cX5_taken 44 = .ok (.getfield 287, 3) := by decide +kernel
theorem dX5_taken_47 : decode cX5_taken 47 = .ok (.iload_n 1, 1) := by decide +kernel
theorem dX5_taken_48 : decode cX5_taken 48 = .ok (.iaload, 1) := by decide +kernel
theorem dX5_taken_49 : decode cX5_taken 49 = .ok (.goto 5, 3) := by decide +kernel
theorem dX5_taken_52 : decode cX5_taken 52 = .ok (.bipush (-13), 2) := by decide +kernel
theorem dX5_taken_54 : decode cX5_taken 54 = .ok (.ireturn, 1) := by decide +kernel
theorem dX5_bitsOf_0 : decode cX5_bitsOf 0 = .ok (.aload_n 0, 1) := by decide +kernel
theorem dX5_bitsOf_1 : decode cX5_bitsOf 1 = .ok (.getfield 35, 3) := by decide +kernel
theorem dX5_bitsOf_4 : decode cX5_bitsOf 4 = .ok (.aload_n 0, 1) := by decide +kernel
theorem dX5_bitsOf_5 : decode cX5_bitsOf 5 = .ok (.getfield 28, 3) := by decide +kernel
theorem dX5_bitsOf_8 : decode cX5_bitsOf 8 = .ok (.invokevirtual 248, 3) := by decide +kernel
theorem dX5_bitsOf_11 : decode cX5_bitsOf 11 = .ok (.iconst 0, 1) := by decide +kernel
theorem dX5_bitsOf_12 : decode cX5_bitsOf 12 = .ok (.istore 5, 2) := by decide +kernel
theorem dX5_bitsOf_14 : decode cX5_bitsOf 14 = .ok (.iconst 0, 1) := by decide +kernel
theorem dX5_bitsOf_15 : decode cX5_bitsOf 15 = .ok (.istore 6, 2) := by decide +kernel
theorem dX5_bitsOf_17 : decode cX5_bitsOf 17 = .ok (.iload 6, 2) := by decide +kernel
theorem dX5_bitsOf_19 : decode cX5_bitsOf 19 = .ok (.iload 4, 2) := by decide +kernel
theorem dX5_bitsOf_21 : decode cX5_bitsOf 21 = .ok (.if_icmp .ge 42, 3) := by decide +kernel
theorem dX5_bitsOf_24 : decode cX5_bitsOf 24 = .ok (.aload_n 0, 1) := by decide +kernel
theorem dX5_bitsOf_25 : decode cX5_bitsOf 25 = .ok (.getfield 35, 3) := by decide +kernel
theorem dX5_bitsOf_28 : decode cX5_bitsOf 28 = .ok (.iload_n 3, 1) := by decide +kernel
theorem dX5_bitsOf_29 : decode cX5_bitsOf 29 = .ok (.iload_n 2, 1) := by decide +kernel
theorem dX5_bitsOf_30 : decode cX5_bitsOf 30 = .ok (.iload 6, 2) := by decide +kernel
theorem dX5_bitsOf_32 : decode cX5_bitsOf 32 = .ok (.invokevirtual 87, 3) := by decide +kernel
theorem dX5_bitsOf_35 : decode cX5_bitsOf 35 = .ok (.aload_n 0, 1) := by decide +kernel
theorem dX5_bitsOf_36 : decode cX5_bitsOf 36 = .ok (.getfield 35, 3) := by decide +kernel
theorem dX5_bitsOf_39 : decode cX5_bitsOf 39 = .ok (.aload_n 1, 1) := by decide +kernel
theorem dX5_bitsOf_40 : decode cX5_bitsOf 40 = .ok (.iload_n 2, 1) := by decide +kernel
theorem dX5_bitsOf_41 : decode cX5_bitsOf 41 = .ok (.invokevirtual 223, 3) := by decide +kernel
theorem dX5_bitsOf_44 : decode cX5_bitsOf 44 = .ok (.iconst (-1), 1) := by decide +kernel
theorem dX5_bitsOf_45 : decode cX5_bitsOf 45 = .ok (.if_icmp .ne 12, 3) := by decide +kernel
theorem dX5_bitsOf_48 : decode cX5_bitsOf 48 = .ok (.iload 5, 2) := by decide +kernel
theorem dX5_bitsOf_50 : decode cX5_bitsOf 50 = .ok (.iconst 1, 1) := by decide +kernel
theorem dX5_bitsOf_51 : decode cX5_bitsOf 51 = .ok (.iload 6, 2) := by decide +kernel
theorem dX5_bitsOf_53 : decode cX5_bitsOf 53 = .ok (.ishl, 1) := by decide +kernel
theorem dX5_bitsOf_54 : decode cX5_bitsOf 54 = .ok (.ior, 1) := by decide +kernel
theorem dX5_bitsOf_55 : decode cX5_bitsOf 55 = .ok (.istore 5, 2) := by decide +kernel
theorem dX5_bitsOf_57 : decode cX5_bitsOf 57 = .ok (.iinc 6 1, 3) := by decide +kernel
theorem dX5_bitsOf_60 : decode cX5_bitsOf 60 = .ok (.goto (-43), 3) := by decide +kernel
theorem dX5_bitsOf_63 : decode cX5_bitsOf 63 = .ok (.iload 5, 2) := by decide +kernel
theorem dX5_bitsOf_65 : decode cX5_bitsOf 65 = .ok (.ireturn, 1) := by decide +kernel
theorem dX5_hoursOf_0 : decode cX5_hoursOf 0 = .ok (.aload_n 0, 1) := by decide +kernel
theorem dX5_hoursOf_1 : decode cX5_hoursOf 1 = .ok (.getfield 35, 3) := by decide +kernel
theorem dX5_hoursOf_4 : decode cX5_hoursOf 4 = .ok (.aload_n 0, 1) := by decide +kernel
theorem dX5_hoursOf_5 : decode cX5_hoursOf 5 = .ok (.getfield 28, 3) := by decide +kernel
theorem dX5_hoursOf_8 : decode cX5_hoursOf 8 = .ok (.invokevirtual 248, 3) := by decide +kernel
theorem dX5_hoursOf_11 : decode cX5_hoursOf 11 = .ok (.iconst 0, 1) := by decide +kernel
theorem dX5_hoursOf_12 : decode cX5_hoursOf 12 = .ok (.istore 4, 2) := by decide +kernel
theorem dX5_hoursOf_14 : decode cX5_hoursOf 14 = .ok (.iconst 0, 1) := by decide +kernel
theorem dX5_hoursOf_15 : decode cX5_hoursOf 15 = .ok (.istore 5, 2) := by decide +kernel
theorem dX5_hoursOf_17 : decode cX5_hoursOf 17 = .ok (.iload 5, 2) := by decide +kernel
theorem dX5_hoursOf_19 : decode cX5_hoursOf 19 = .ok (.bipush 100, 2) := by decide +kernel
theorem dX5_hoursOf_21 : decode cX5_hoursOf 21 = .ok (.if_icmp .ge 41, 3) := by decide +kernel
theorem dX5_hoursOf_24 : decode cX5_hoursOf 24 = .ok (.aload_n 0, 1) := by decide +kernel
theorem dX5_hoursOf_25 : decode cX5_hoursOf 25 = .ok (.getfield 35, 3) := by decide +kernel
theorem dX5_hoursOf_28 : decode cX5_hoursOf 28 = .ok (.iload 5, 2) := by decide +kernel
theorem dX5_hoursOf_30 : decode cX5_hoursOf 30 = .ok (.putfield 156, 3) := by decide +kernel
theorem dX5_hoursOf_33 : decode cX5_hoursOf 33 = .ok (.aload_n 0, 1) := by decide +kernel
