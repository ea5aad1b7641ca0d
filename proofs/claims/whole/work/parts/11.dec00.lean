theorem dX0_init_0 : decode cX0_init 0 = .ok (.aload_n 0, 1) := by decide +kernel
theorem dX0_init_1 : decode cX0_init 1 = .ok (.invokespecial 3, 3) := by decide +kernel
theorem dX0_init_4 : decode cX0_init 4 = .ok (.aload_n 0, 1) := by decide +kernel
theorem dX0_init_5 : decode cX0_init 5 = .ok (.bipush 6, 2) := by decide +kernel
theorem dX0_init_7 : decode cX0_init 7 = .ok (.newarray .int, 2) := by decide +kernel
theorem dX0_init_9 : decode cX0_init 9 = .ok (.putfield 9, 3) := by decide +kernel
theorem dX0_init_12 : decode cX0_init 12 = .ok (.aload_n 0, 1) := by decide +kernel
theorem dX0_init_13 : decode cX0_init 13 = .ok (.bipush 6, 2) := by decide +kernel
theorem dX0_init_15 : decode cX0_init 15 = .ok (.newarray .int, 2) := by decide +kernel
theorem dX0_init_17 : decode cX0_init 17 = .ok (.putfield 15, 3) := by decide +kernel
theorem dX0_init_20 : decode cX0_init 20 = .ok (.aload_n 0, 1) := by decide +kernel
theorem dX0_init_21 : decode cX0_init 21 = .ok (.bipush 12, 2) := by decide +kernel
theorem dX0_init_23 : decode cX0_init 23 = .ok (.newarray .int, 2) := by decide +kernel
theorem dX0_init_25 : decode cX0_init 25 = .ok (.putfield 18, 3) := by decide +kernel
theorem dX0_init_28 : decode cX0_init 28 = .ok (.aload_n 0, 1) := by decide +kernel
theorem dX0_init_29 : decode cX0_init 29 = .ok (.bipush 12, 2) := by decide +kernel
theorem dX0_init_31 : decode cX0_init 31 = .ok (.newarray .int, 2) := by decide +kernel
theorem dX0_init_33 : decode cX0_init 33 = .ok (.putfield 21, 3) := by decide +kernel
theorem dX0_init_36 : decode cX0_init 36 = .ok (.aload_n 0, 1) := by decide +kernel
theorem dX0_init_37 : decode cX0_init 37 = .ok (.iconst 5, 1) := by decide +kernel
theorem dX0_init_38 : decode cX0_init 38 = .ok (.newarray .int, 2) := by decide +kernel
theorem dX0_init_40 : decode cX0_init 40 = .ok (.putfield 24, 3) := by decide +kernel
theorem dX0_init_43 : decode cX0_init 43 = .ok (.aload_n 0, 1) := by decide +kernel
theorem dX0_init_44 : decode cX0_init 44 = .ok (.iconst 5, 1) := by decide +kernel
theorem dX0_init_45 : decode cX0_init 45 = .ok (.newarray .int, 2) := by decide +kernel
theorem dX0_init_47 : decode cX0_init 47 = .ok (.putfield 27, 3) := by decide +kernel
theorem dX0_init_50 : decode cX0_init 50 = .ok (.aload_n 0, 1) := by decide +kernel
theorem dX0_init_51 : decode cX0_init 51 = .ok (.iconst 5, 1) := by decide +kernel
theorem dX0_init_52 : decode cX0_init 52 = .ok (.newarray .int, 2) := by decide +kernel
theorem dX0_init_54 : decode cX0_init 54 = .ok (.putfield 30, 3) := by decide +kernel
theorem dX0_init_57 : decode cX0_init 57 = .ok (.aload_n 0, 1) := by decide +kernel
theorem dX0_init_58 : decode cX0_init 58 = .ok (.bipush 6, 2) := by decide +kernel
theorem dX0_init_60 : decode cX0_init 60 = .ok (.newarray .int, 2) := by decide +kernel
theorem dX0_init_62 : decode cX0_init 62 = .ok (.putfield 33, 3) := by decide +kernel
theorem dX0_init_65 : decode cX0_init 65 = .ok (.aload_n 0, 1) := by decide +kernel
theorem dX0_init_66 : decode cX0_init 66 = .ok (.aload_n 1, 1) := by decide +kernel
theorem dX0_init_67 : decode cX0_init 67 = .ok (.putfield 36, 3) := by decide +kernel
theorem dX0_init_70 : decode cX0_init 70 = .ok (.return_, 1) := by decide +kernel
theorem dX0_becomeLike_0 : decode cX0_becomeLike 0 = .ok (.aload_n 0, 1) := by decide +kernel
theorem dX0_becomeLike_1 : decode cX0_becomeLike 1 = .ok (.aload_n 1, 1) := by decide +kernel
theorem dX0_becomeLike_2 : decode cX0_becomeLike 2 = .ok (.getfield 40, 3) := by decide +kernel
theorem dX0_becomeLike_5 : decode cX0_becomeLike 5 = .ok (.putfield 40, 3) := by decide +kernel
theorem dX0_becomeLike_8 : decode cX0_becomeLike 8 = .ok (.aload_n 0, 1) := by decide +kernel
theorem dX0_becomeLike_9 : decode cX0_becomeLike 9 = .ok (.aload_n 1, 1) := by decide +kernel
theorem dX0_becomeLike_10 : decode cX0_becomeLike 10 = .ok (.getfield 44, 3) := by decide +kernel
theorem dX0_becomeLike_13 : decode cX0_becomeLike 13 = .ok (.putfield 44, 3) := by decide +kernel
theorem dX0_becomeLike_16 : decode cX0_becomeLike 16 = .ok (.aload_n 0, 1) := by decide +kernel
theorem dX0_becomeLike_17 : decode cX0_becomeLike 17 = .ok (.aload_n 1, 1) := by decide +kernel
theorem dX0_becomeLike_18 : decode cX0_becomeLike 18 = .ok (.getfield 47, 3) := by decide +kernel
theorem dX0_becomeLike_21 : decode cX0_becomeLike 21 = .ok (.putfield 47, 3) := by decide +kernel
theorem dX0_becomeLike_24 : decode cX0_becomeLike 24 = .ok (.aload_n 0, 1) := by decide +kernel
theorem dX0_becomeLike_25 : decode cX0_becomeLike 25 = .ok (.aload_n 1, 1) := by decide +kernel
theorem dX0_becomeLike_26 : decode cX0_becomeLike 26 = .ok (.getfield 50, 3) := by decide +kernel
theorem dX0_becomeLike_29 : decode cX0_becomeLike 29 = .ok (.putfield 50, 3) := by decide +kernel
theorem dX0_becomeLike_32 : decode cX0_becomeLike 32 = .ok (.aload_n 0, 1) := by decide +kernel
theorem dX0_becomeLike_33 : decode cX0_becomeLike 33 = .ok (.aload_n 1, 1) := by decide +kernel
theorem dX0_becomeLike_34 : decode cX0_becomeLike 34 = .ok (.getfield 53, 3) := by decide +kernel
theorem dX0_becomeLike_37 : decode cX0_becomeLike 37 = .ok (.putfield 53, 3) := by decide +kernel
theorem dX0_becomeLike_40 : decode cX0_becomeLike 40 = .ok (.aload_n 0, 1) := by decide +kernel
theorem dX0_becomeLike_41 : decode cX0_becomeLike 41 = .ok (.aload_n 1, 1) := by decide +kernel
theorem dX0_becomeLike_42 : decode cX0_becomeLike 42 = .ok (.getfield 56, 3) := by decide +kernel
theorem dX0_becomeLike_45 : decode cX0_becomeLike 45 = .ok (.putfield 56, 3) := by decide +kernel
theorem dX0_becomeLike_48 : decode cX0_becomeLike 48 = .ok (.aload_n 1, 1) := by decide +kernel
theorem dX0_becomeLike_49 : decode cX0_becomeLike 49 = .ok (.getfield 9, 3) := by decide +kernel
theorem dX0_becomeLike_52 : decode cX0_becomeLike 52 = .ok (.iconst 0, 1) := by decide +kernel
theorem dX0_becomeLike_53 : decode cX0_becomeLike 53 = .ok (.aload_n 0, 1) := by decide +kernel
theorem dX0_becomeLike_54 : decode cX0_becomeLike 54 = .ok (.getfield 9, 3) := by decide +kernel
theorem dX0_becomeLike_57 : decode cX0_becomeLike 57 = .ok (.iconst 0, 1) := by decide +kernel
theorem dX0_becomeLike_58 : decode cX0_becomeLike 58 = .ok (.bipush 6, 2) := by decide +kernel
theorem dX0_becomeLike_60 : decode cX0_becomeLike 60 = .ok (.invokestatic 59, 3) := by decide +kernel
theorem dX0_becomeLike_63 : decode cX0_becomeLike 63 = .ok (.aload_n 1, 1) := by decide +kernel
theorem dX0_becomeLike_64 : decode cX0_becomeLike 64 = .ok (.getfield 15, 3) := by decide +kernel
theorem dX0_becomeLike_67 : decode cX0_becomeLike 67 = .ok (.iconst 0, 1) := by decide +kernel
theorem dX0_becomeLike_68 : decode cX0_becomeLike 68 = .ok (.aload_n 0, 1) := by decide +kernel
theorem dX0_becomeLike_69 : decode cX0_becomeLike 69 = .ok (.getfield 15, 3) := by decide +kernel
theorem dX0_becomeLike_72 : decode cX0_becomeLike 72 = .ok (.iconst 0, 1) := by decide +kernel
theorem dX0_becomeLike_73 : decode cX0_becomeLike 73 = .ok (.bipush 6, 2) := by decide +kernel
theorem dX0_becomeLike_75 : decode cX0_becomeLike 75 = .ok (.invokestatic 59, 3) := by decide +kernel
theorem dX0_becomeLike_78 : decode cX0_becomeLike 78 = .ok (.aload_n 1, 1) := by decide +kernel
theorem dX0_becomeLike_79 : decode cX0_becomeLike 79 = .ok (.getfield 18, 3) := by decide +kernel
theorem dX0_becomeLike_82 : decode cX0_becomeLike 82 = .ok (.iconst 0, 1) := by decide +kernel
theorem dX0_becomeLike_83 : decode cX0_becomeLike 83 = .ok (.aload_n 0, 1) := by decide +kernel
theorem dX0_becomeLike_84 : decode cX0_becomeLike 84 = .ok (.getfield 18, 3) := by decide +kernel
theorem dX0_becomeLike_87 : decode cX0_becomeLike 87 = .ok (.iconst 0, 1) := by decide +kernel
theorem dX0_becomeLike_88 : decode cX0_becomeLike 88 = .ok (.bipush 12, 2) := by decide +kernel
theorem dX0_becomeLike_90 : decode cX0_becomeLike 90 = .ok (.invokestatic 59, 3) := by decide +kernel
theorem dX0_becomeLike_93 : decode cX0_becomeLike 93 = .ok (.aload_n 1, 1) := by decide +kernel
theorem dX0_becomeLike_94 : decode cX0_becomeLike 94 = .ok (.getfield 21, 3) := by decide +kernel
theorem dX0_becomeLike_97 : decode cX0_becomeLike 97 = .ok (.iconst 0, 1) := by decide +kernel
theorem dX0_becomeLike_98 : decode cX0_becomeLike 98 = .ok (.aload_n 0, 1) := by decide +kernel
theorem dX0_becomeLike_99 : decode cX0_becomeLike 99 = .ok (.getfield 21, 3) := by decide +kernel
theorem dX0_becomeLike_102 : decode cX0_becomeLike 102 = .ok (.iconst 0, 1) := by decide +kernel
theorem dX0_becomeLike_103 : decode cX0_becomeLike 103 = .ok (.bipush 12, 2) := by decide +kernel
theorem dX0_becomeLike_105 : decode cX0_becomeLike 105 = .ok (.invokestatic 59, 3) := by decide +kernel
theorem dX0_becomeLike_108 : decode cX0_becomeLike 108 = .ok (.aload_n 1, 1) := by decide +kernel
theorem dX0_becomeLike_109 : decode cX0_becomeLike 109 = .ok (.getfield 24, 3) := by decide +kernel
theorem dX0_becomeLike_112 : decode cX0_becomeLike 112 = .ok (.iconst 0, 1) := by decide +kernel
theorem dX0_becomeLike_113 : decode cX0_becomeLike 113 = .ok (.aload_n 0, 1) := by decide +kernel
theorem dX0_becomeLike_114 : decode cX0_becomeLike 114 = .ok (.getfield 24, 3) := by decide +kernel
theorem dX0_becomeLike_117 : decode cX0_becomeLike 117 = .ok (.iconst 0, 1) := by decide +kernel
theorem dX0_becomeLike_118 : decode cX0_becomeLike 118 = .ok (.iconst 5, 1) := by decide +kernel
theorem dX0_becomeLike_119 : decode cX0_becomeLike 119 = .ok (.invokestatic 59, 3) := by decide +kernel
theorem dX0_becomeLike_122 : decode cX0_becomeLike 122 = .ok (.aload_n 1, 1) := by decide +kernel
theorem dX0_becomeLike_123 : decode cX0_becomeLike 123 = .ok (.getfield 27, 3) := by decide +kernel
theorem dX0_becomeLike_126 : decode cX0_becomeLike 126 = .ok (.iconst 0, 1) := by decide +kernel
theorem dX0_becomeLike_127 : decode cX0_becomeLike 127 = .ok (.aload_n 0, 1) := by decide +kernel
theorem dX0_becomeLike_128 : decode cX0_becomeLike 128 = .ok (.getfield 27, 3) := by decide +kernel
theorem dX0_becomeLike_131 : decode cX0_becomeLike 131 = .ok (.iconst 0, 1) := by decide +kernel
theorem dX0_becomeLike_132 : decode cX0_becomeLike 132 = .ok (.iconst 5, 1) := by decide +kernel
theorem dX0_becomeLike_133 : decode cX0_becomeLike 133 = .ok (.invokestatic 59, 3) := by decide +kernel
theorem dX0_becomeLike_136 : decode cX0_becomeLike 136 = .ok (.aload_n 1, 1) := by decide +kernel
theorem dX0_becomeLike_137 : decode cX0_becomeLike 137 = .ok (.getfield 30, 3) := by decide +kernel
theorem dX0_becomeLike_140 : decode cX0_becomeLike 140 = .ok (.iconst 0, 1) := by decide +kernel
theorem dX0_becomeLike_141 : decode cX0_becomeLike 141 = .ok (.aload_n 0, 1) := by decide +kernel
theorem dX0_becomeLike_142 : decode cX0_becomeLike 142 = .ok (.getfield 30, 3) := by decide +kernel
theorem dX0_becomeLike_145 : decode cX0_becomeLike 145 = .ok (.iconst 0, 1) := by decide +kernel
theorem dX0_becomeLike_146 : decode cX0_becomeLike 146 = .ok (.iconst 5, 1) := by decide +kernel
theorem dX0_becomeLike_147 : decode cX0_becomeLike 147 = .ok (.invokestatic 59, 3) := by decide +kernel
theorem dX0_becomeLike_150 : decode cX0_becomeLike 150 = .ok (.return_, 1) := by decide +kernel
theorem dX0_hasCup_0 : decode cX0_hasCup 0 = .ok (.iload_n 1, 1) := by decide +kernel
theorem dX0_hasCup_1 : decode cX0_hasCup 1 = .ok (.ifCond .lt 15, 3) := by decide +kernel
theorem dX0_hasCup_4 : decode cX0_hasCup 4 = .ok (.iload_n 1, 1) := by decide +kernel
theorem dX0_hasCup_5 : decode cX0_hasCup 5 = .ok (.aload_n 0, 1) := by decide +kernel
theorem dX0_hasCup_6 : decode cX0_hasCup 6 = .ok (.getfield 50, 3) := by decide +kernel
theorem dX0_hasCup_9 : decode cX0_hasCup 9 = .ok (.if_icmp .ge 7, 3) := by decide +kernel
theorem dX0_hasCup_12 : decode cX0_hasCup 12 = .ok (.iconst 1, 1) := by decide +kernel
theorem dX0_hasCup_13 : decode cX0_hasCup 13 = .ok (.goto 4, 3) := by decide +kernel
theorem dX0_hasCup_16 : decode cX0_hasCup 16 = .ok (.iconst 0, 1) := by decide +kernel
theorem dX0_hasCup_17 : decode cX0_hasCup 17 = .ok (.ireturn, 1) := by decide +kernel
theorem dX0_hasReader_0 : decode cX0_hasReader 0 = .ok (.iload_n 1, 1) := by decide +kernel
theorem dX0_hasReader_1 : decode cX0_hasReader 1 = .ok (.ifCond .lt 15, 3) := by decide +kernel
theorem dX0_hasReader_4 : decode cX0_hasReader 4 = .ok (.iload_n 1, 1) := by decide +kernel
theorem dX0_hasReader_5 : decode cX0_hasReader 5 = .ok (.aload_n 0, 1) := by decide +kernel
theorem dX0_hasReader_6 : decode cX0_hasReader 6 = .ok (.getfield 56, 3) := by decide +kernel
theorem dX0_hasReader_9 : decode cX0_hasReader 9 = .ok (.if_icmp .ge 7, 3) := by decide +kernel
theorem dX0_hasReader_12 : decode cX0_hasReader 12 = .ok (.iconst 1, 1) := by decide +kernel
theorem dX0_hasReader_13 : decode cX0_hasReader 13 = .ok (.goto 4, 3) := by decide +kernel
theorem dX0_hasReader_16 : decode cX0_hasReader 16 = .ok (.iconst 0, 1) := by decide +kernel
theorem dX0_hasReader_17 : decode cX0_hasReader 17 = .ok (.ireturn, 1) := by decide +kernel
theorem dX0_has_0 : decode cX0_has 0 = .ok (.iload_n 1, 1) := by decide +kernel
theorem dX0_has_1 : decode cX0_has 1 = .ok (.tableswitch 87 0 9 #[55, 55, 57, 57, 63, 63, 63, 63, 69, 69], 55) := by decide +kernel
theorem dX0_has_56 : decode cX0_has 56 = .ok (.iconst 1, 1) := by decide +kernel
theorem dX0_has_57 : decode cX0_has 57 = .ok (.ireturn, 1) := by decide +kernel
theorem dX0_has_58 : decode cX0_has 58 = .ok (.aload_n 0, 1) := by decide +kernel
theorem dX0_has_59 : decode cX0_has 59 = .ok (.iload_n 2, 1) := by decide +kernel
theorem dX0_has_60 : decode cX0_has 60 = .ok (.invokevirtual 65, 3) := by decide +kernel
theorem dX0_has_63 : decode cX0_has 63 = .ok (.ireturn, 1) := by decide +kernel
theorem dX0_has_64 : decode cX0_has 64 = .ok (.aload_n 0, 1) := by decide +kernel
theorem dX0_has_65 : decode cX0_has 65 = .ok (.iload_n 2, 1) := by decide +kernel
theorem dX0_has_66 : decode cX0_has 66 = .ok (.invokevirtual 69, 3) := by decide +kernel
theorem dX0_has_69 : decode cX0_has 69 = .ok (.ireturn, 1) := by decide +kernel
theorem dX0_has_70 : decode cX0_has 70 = .ok (.iload_n 2, 1) := by decide +kernel
theorem dX0_has_71 : decode cX0_has 71 = .ok (.ifCond .lt 15, 3) := by decide +kernel
theorem dX0_has_74 : decode cX0_has 74 = .ok (.iload_n 2, 1) := by decide +kernel
theorem dX0_has_75 : decode cX0_has 75 = .ok (.aload_n 0, 1) := by decide +kernel
theorem dX0_has_76 : decode cX0_has 76 = .ok (.getfield 53, 3) := by decide +kernel
theorem dX0_has_79 : decode cX0_has 79 = .ok (.if_icmp .ge 7, 3) := by decide +kernel
theorem dX0_has_82 : decode cX0_has 82 = .ok (.iconst 1, 1) := by decide +kernel
theorem dX0_has_83 : decode cX0_has 83 = .ok (.goto 4, 3) := by decide +kernel
theorem dX0_has_86 : decode cX0_has 86 = .ok (.iconst 0, 1) := by decide +kernel
theorem dX0_has_87 : decode cX0_has 87 = .ok (.ireturn, 1) := by decide +kernel
theorem dX0_has_88 : decode cX0_has 88 = .ok (.iconst 0, 1) := by decide +kernel
theorem dX0_has_89 : decode cX0_has 89 = .ok (.ireturn, 1) := by decide +kernel
theorem dX0_noted_0 : decode cX0_noted 0 = .ok (.iload_n 1, 1) := by decide +kernel
theorem dX0_noted_1 : decode cX0_noted 1 = .ok (.tableswitch 112 0 8 #[51, 56, 61, 68, 75, 82, 89, 96, 105], 51) := by decide +kernel
theorem dX0_noted_52 : decode cX0_noted 52 = .ok (.aload_n 0, 1) := by decide +kernel
theorem dX0_noted_53 : decode cX0_noted 53 = .ok (.getfield 40, 3) := by decide +kernel
theorem dX0_noted_56 : decode cX0_noted 56 = .ok (.ireturn, 1) := by decide +kernel
theorem dX0_noted_57 : decode cX0_noted 57 = .ok (.aload_n 0, 1) := by decide +kernel
theorem dX0_noted_58 : decode cX0_noted 58 = .ok (.getfield 44, 3) := by decide +kernel
theorem dX0_noted_61 : decode cX0_noted 61 = .ok (.ireturn, 1) := by decide +kernel
theorem dX0_noted_62 : decode cX0_noted 62 = .ok (.aload_n 0, 1) := by decide +kernel
theorem dX0_noted_63 : decode cX0_noted 63 = .ok (.getfield 9, 3) := by decide +kernel
theorem dX0_noted_66 : decode cX0_noted 66 = .ok (.iload_n 2, 1) := by decide +kernel
theorem dX0_noted_67 : decode cX0_noted 67 = .ok (.iaload, 1) := by decide +kernel
theorem dX0_noted_68 : decode cX0_noted 68 = .ok (.ireturn, 1) := by decide +kernel
theorem dX0_noted_69 : decode cX0_noted 69 = .ok (.aload_n 0, 1) := by decide +kernel
theorem dX0_noted_70 : decode cX0_noted 70 = .ok (.getfield 15, 3) := by decide +kernel
theorem dX0_noted_73 : decode cX0_noted 73 = .ok (.iload_n 2, 1) := by decide +kernel
theorem dX0_noted_74 : decode cX0_noted 74 = .ok (.iaload, 1) := by decide +kernel
theorem dX0_noted_75 : decode cX0_noted 75 = .ok (.ireturn, 1) := by decide +kernel
theorem dX0_noted_76 : decode cX0_noted 76 = .ok (.aload_n 0, 1) := by decide +kernel
theorem dX0_noted_77 : decode cX0_noted 77 = .ok (.getfield 27, 3) := by decide +kernel
theorem dX0_noted_80 : decode cX0_noted 80 = .ok (.iload_n 2, 1) := by decide +kernel
theorem dX0_noted_81 : decode cX0_noted 81 = .ok (.iaload, 1) := by decide +kernel
theorem dX0_noted_82 : decode cX0_noted 82 = .ok (.ireturn, 1) := by decide +kernel
theorem dX0_noted_83 : decode cX0_noted 83 = .ok (.aload_n 0, 1) := by decide +kernel
theorem dX0_noted_84 : decode cX0_noted 84 = .ok (.getfield 30, 3) := by decide +kernel
theorem dX0_noted_87 : decode cX0_noted 87 = .ok (.iload_n 2, 1) := by decide +kernel
theorem dX0_noted_88 : decode cX0_noted 88 = .ok (.iaload, 1) := by decide +kernel
theorem dX0_noted_89 : decode cX0_noted 89 = .ok (.ireturn, 1) := by decide +kernel
theorem dX0_noted_90 : decode cX0_noted 90 = .ok (.aload_n 0, 1) := by decide +kernel
theorem dX0_noted_91 : decode cX0_noted 91 = .ok (.getfield 24, 3) := by decide +kernel
theorem dX0_noted_94 : decode cX0_noted 94 = .ok (.iload_n 2, 1) := by decide +kernel
theorem dX0_noted_95 : decode cX0_noted 95 = .ok (.iaload, 1) := by decide +kernel
theorem dX0_noted_96 : decode cX0_noted 96 = .ok (.ireturn, 1) := by decide +kernel
theorem dX0_noted_97 : decode cX0_noted 97 = .ok (.aload_n 0, 1) := by decide +kernel
theorem dX0_noted_98 : decode cX0_noted 98 = .ok (.iload_n 2, 1) := by decide +kernel
theorem dX0_noted_99 : decode cX0_noted 99 = .ok (.invokevirtual 72, 3) := by decide +kernel
theorem dX0_noted_102 : decode cX0_noted 102 = .ok (.invokestatic 75, 3) := by decide +kernel
theorem dX0_noted_105 : decode cX0_noted 105 = .ok (.ireturn, 1) := by decide +kernel
theorem dX0_noted_106 : decode cX0_noted 106 = .ok (.aload_n 0, 1) := by decide +kernel
theorem dX0_noted_107 : decode cX0_noted 107 = .ok (.getfield 18, 3) := by decide +kernel
theorem dX0_noted_110 : decode cX0_noted 110 = .ok (.iload_n 2, 1) := by decide +kernel
theorem dX0_noted_111 : decode cX0_noted 111 = .ok (.iaload, 1) := by decide +kernel
theorem dX0_noted_112 : decode cX0_noted 112 = .ok (.ireturn, 1) := by decide +kernel
theorem dX0_noted_113 : decode cX0_noted 113 = .ok (.aload_n 0, 1) := by decide +kernel
theorem dX0_noted_114 : decode cX0_noted 114 = .ok (.getfield 21, 3) := by decide +kernel
theorem dX0_noted_117 : decode cX0_noted 117 = .ok (.iload_n 2, 1) := by decide +kernel
theorem dX0_noted_118 : decode cX0_noted 118 = .ok (.iaload, 1) := by decide +kernel
theorem dX0_noted_119 : decode cX0_noted 119 = .ok (.ireturn, 1) := by decide +kernel
theorem dX0_note_0 : decode cX0_note 0 = .ok (.iload_n 1, 1) := by decide +kernel
theorem dX0_note_1 : decode cX0_note 1 = .ok (.tableswitch 133 0 10 #[59, 67, 75, 85, 95, 105, 115, 133, 133, 133, 125], 59) := by decide +kernel
theorem dX0_note_60 : decode cX0_note 60 = .ok (.aload_n 0, 1) := by decide +kernel
theorem dX0_note_61 : decode cX0_note 61 = .ok (.iload_n 3, 1) := by decide +kernel
theorem dX0_note_62 : decode cX0_note 62 = .ok (.putfield 40, 3) := by decide +kernel
theorem dX0_note_65 : decode cX0_note 65 = .ok (.goto 69, 3) := by decide +kernel
theorem dX0_note_68 : decode cX0_note 68 = .ok (.aload_n 0, 1) := by decide +kernel
theorem dX0_note_69 : decode cX0_note 69 = .ok (.iload_n 3, 1) := by decide +kernel
theorem dX0_note_70 : decode cX0_note 70 = .ok (.putfield 44, 3) := by decide +kernel
theorem dX0_note_73 : decode cX0_note 73 = .ok (.goto 61, 3) := by decide +kernel
theorem dX0_note_76 : decode cX0_note 76 = .ok (.aload_n 0, 1) := by decide +kernel
theorem dX0_note_77 : decode cX0_note 77 = .ok (.getfield 9, 3) := by decide +kernel
theorem dX0_note_80 : decode cX0_note 80 = .ok (.iload_n 2, 1) := by decide +kernel
theorem dX0_note_81 : decode cX0_note 81 = .ok (.iload_n 3, 1) := by decide +kernel
theorem dX0_note_82 : decode cX0_note 82 = .ok (.iastore, 1) := by decide +kernel
theorem dX0_note_83 : decode cX0_note 83 = .ok (.goto 51, 3) := by decide +kernel
theorem dX0_note_86 : decode cX0_note 86 = .ok (.aload_n 0, 1) := by decide +kernel
theorem dX0_note_87 : decode cX0_note 87 = .ok (.getfield 15, 3) := by decide +kernel
theorem dX0_note_90 : decode cX0_note 90 = .ok (.iload_n 2, 1) := by decide +kernel
theorem dX0_note_91 : decode cX0_note 91 = .ok (.iload_n 3, 1) := by decide +kernel
theorem dX0_note_92 : decode cX0_note 92 = .ok (.iastore, 1) := by decide +kernel
theorem dX0_note_93 : decode cX0_note 93 = .ok (.goto 41, 3) := by decide +kernel
theorem dX0_note_96 : decode cX0_note 96 = .ok (.aload_n 0, 1) := by decide +kernel
theorem dX0_note_97 : decode cX0_note 97 = .ok (.getfield 27, 3) := by decide +kernel
theorem dX0_note_100 : decode cX0_note 100 = .ok (.iload_n 2, 1) := by decide +kernel
theorem dX0_note_101 : decode cX0_note 101 = .ok (.iload_n 3, 1) := by decide +kernel
theorem dX0_note_102 : decode cX0_note 102 = .ok (.iastore, 1) := by decide +kernel
theorem dX0_note_103 : decode cX0_note 103 = .ok (.goto 31, 3) := by decide +kernel
theorem dX0_note_106 : decode cX0_note 106 = .ok (.aload_n 0, 1) := by decide +kernel
theorem dX0_note_107 : decode cX0_note 107 = .ok (.getfield 30, 3) := by decide +kernel
theorem dX0_note_110 : decode cX0_note 110 = .ok (.iload_n 2, 1) := by decide +kernel
theorem dX0_note_111 : decode cX0_note 111 = .ok (.iload_n 3, 1) := by decide +kernel
theorem dX0_note_112 : decode cX0_note 112 = .ok (.iastore, 1) := by decide +kernel
theorem dX0_note_113 : decode cX0_note 113 = .ok (.goto 21, 3) := by decide +kernel
theorem dX0_note_116 : decode cX0_note 116 = .ok (.aload_n 0, 1) := by decide +kernel
theorem dX0_note_117 : decode cX0_note 117 = .ok (.getfield 24, 3) := by decide +kernel
theorem dX0_note_120 : decode cX0_note 120 = .ok (.iload_n 2, 1) := by decide +kernel
theorem dX0_note_121 : decode cX0_note 121 = .ok (.iload_n 3, 1) := by decide +kernel
theorem dX0_note_122 : decode cX0_note 122 = .ok (.iastore, 1) := by decide +kernel
theorem dX0_note_123 : decode cX0_note 123 = .ok (.goto 11, 3) := by decide +kernel
theorem dX0_note_126 : decode cX0_note 126 = .ok (.aload_n 0, 1) := by decide +kernel
theorem dX0_note_127 : decode cX0_note 127 = .ok (.iload_n 3, 1) := by decide +kernel
theorem dX0_note_128 : decode cX0_note 128 = .ok (.putfield 47, 3) := by decide +kernel
theorem dX0_note_131 : decode cX0_note 131 = .ok (.goto 3, 3) := by decide +kernel
theorem dX0_note_134 : decode cX0_note 134 = .ok (.return_, 1) := by decide +kernel
theorem dX0_addCup_0 : decode cX0_addCup 0 = .ok (.aload_n 0, 1) := by decide +kernel
theorem dX0_addCup_1 : decode cX0_addCup 1 = .ok (.getfield 50, 3) := by decide +kernel
theorem dX0_addCup_4 : decode cX0_addCup 4 = .ok (.bipush 6, 2) := by decide +kernel
theorem dX0_addCup_6 : decode cX0_addCup 6 = .ok (.if_icmp .lt 6, 3) := by decide +kernel
theorem dX0_addCup_9 : decode cX0_addCup 9 = .ok (.bipush (-4), 2) := by decide +kernel
theorem dX0_addCup_11 : decode cX0_addCup 11 = .ok (.ireturn, 1) := by decide +kernel
theorem dX0_addCup_12 : decode cX0_addCup 12 = .ok (.aload_n 0, 1) := by decide +kernel
theorem dX0_addCup_13 : decode cX0_addCup 13 = .ok (.getfield 9, 3) := by decide +kernel
theorem dX0_addCup_16 : decode cX0_addCup 16 = .ok (.aload_n 0, 1) := by decide +kernel
theorem dX0_addCup_17 : decode cX0_addCup 17 = .ok (.getfield 50, 3) := by decide +kernel
theorem dX0_addCup_20 : decode cX0_addCup 20 = .ok (.iload_n 1, 1) := by decide +kernel
theorem dX0_addCup_21 : decode cX0_addCup 21 = .ok (.iastore, 1) := by decide +kernel
theorem dX0_addCup_22 : decode cX0_addCup 22 = .ok (.aload_n 0, 1) := by decide +kernel
theorem dX0_addCup_23 : decode cX0_addCup 23 = .ok (.getfield 15, 3) := by decide +kernel
theorem dX0_addCup_26 : decode cX0_addCup 26 = .ok (.aload_n 0, 1) := by decide +kernel
theorem dX0_addCup_27 : decode cX0_addCup 27 = .ok (.getfield 50, 3) := by decide +kernel
theorem dX0_addCup_30 : decode cX0_addCup 30 = .ok (.iload_n 2, 1) := by decide +kernel
theorem dX0_addCup_31 : decode cX0_addCup 31 = .ok (.iastore, 1) := by decide +kernel
theorem dX0_addCup_32 : decode cX0_addCup 32 = .ok (.aload_n 0, 1) := by decide +kernel
theorem dX0_addCup_33 : decode cX0_addCup 33 = .ok (.dup, 1) := by decide +kernel
theorem dX0_addCup_34 : decode cX0_addCup 34 = .ok (.getfield 50, 3) := by decide +kernel
theorem dX0_addCup_37 : decode cX0_addCup 37 = .ok (.iconst 1, 1) := by decide +kernel
theorem dX0_addCup_38 : decode cX0_addCup 38 = .ok (.iadd, 1) := by decide +kernel
theorem dX0_addCup_39 : decode cX0_addCup 39 = .ok (.putfield 50, 3) := by decide +kernel
theorem dX0_addCup_42 : decode cX0_addCup 42 = .ok (.aload_n 0, 1) := by decide +kernel
theorem dX0_addCup_43 : decode cX0_addCup 43 = .ok (.getfield 50, 3) := by decide +kernel
theorem dX0_addCup_46 : decode cX0_addCup 46 = .ok (.iconst 1, 1) := by decide +kernel
theorem dX0_addCup_47 : decode cX0_addCup 47 = .ok (.isub, 1) := by decide +kernel
theorem dX0_addCup_48 : decode cX0_addCup 48 = .ok (.ireturn, 1) := by decide +kernel
theorem dX0_addReason_0 : decode cX0_addReason 0 = .ok (.aload_n 0, 1) := by decide +kernel
theorem dX0_addReason_1 : decode cX0_addReason 1 = .ok (.getfield 53, 3) := by decide +kernel
theorem dX0_addReason_4 : decode cX0_addReason 4 = .ok (.bipush 12, 2) := by decide +kernel
theorem dX0_addReason_6 : decode cX0_addReason 6 = .ok (.if_icmp .lt 6, 3) := by decide +kernel
theorem dX0_addReason_9 : decode cX0_addReason 9 = .ok (.bipush (-4), 2) := by decide +kernel
theorem dX0_addReason_11 : decode cX0_addReason 11 = .ok (.ireturn, 1) := by decide +kernel
theorem dX0_addReason_12 : decode cX0_addReason 12 = .ok (.aload_n 0, 1) := by decide +kernel
theorem dX0_addReason_13 : decode cX0_addReason 13 = .ok (.getfield 18, 3) := by decide +kernel
theorem dX0_addReason_16 : decode cX0_addReason 16 = .ok (.aload_n 0, 1) := by decide +kernel
theorem dX0_addReason_17 : decode cX0_addReason 17 = .ok (.getfield 53, 3) := by decide +kernel
theorem dX0_addReason_20 : decode cX0_addReason 20 = .ok (.iload_n 1, 1) := by decide +kernel
theorem dX0_addReason_21 : decode cX0_addReason 21 = .ok (.iastore, 1) := by decide +kernel
theorem dX0_addReason_22 : decode cX0_addReason 22 = .ok (.aload_n 0, 1) := by decide +kernel
theorem dX0_addReason_23 : decode cX0_addReason 23 = .ok (.getfield 21, 3) := by decide +kernel
theorem dX0_addReason_26 : decode cX0_addReason 26 = .ok (.aload_n 0, 1) := by decide +kernel
theorem dX0_addReason_27 : decode cX0_addReason 27 = .ok (.getfield 53, 3) := by decide +kernel
theorem dX0_addReason_30 : decode cX0_addReason 30 = .ok (.iload_n 2, 1) := by decide +kernel
theorem dX0_addReason_31 : decode cX0_addReason 31 = .ok (.iastore, 1) := by decide +kernel
theorem dX0_addReason_32 : decode cX0_addReason 32 = .ok (.aload_n 0, 1) := by decide +kernel
theorem dX0_addReason_33 : decode cX0_addReason 33 = .ok (.dup, 1) := by decide +kernel
theorem dX0_addReason_34 : decode cX0_addReason 34 = .ok (.getfield 53, 3) := by decide +kernel
theorem dX0_addReason_37 : decode cX0_addReason 37 = .ok (.iconst 1, 1) := by decide +kernel
theorem dX0_addReason_38 : decode cX0_addReason 38 = .ok (.iadd, 1) := by decide +kernel
theorem dX0_addReason_39 : decode cX0_addReason 39 = .ok (.putfield 53, 3) := by decide +kernel
theorem dX0_addReason_42 : decode cX0_addReason 42 = .ok (.aload_n 0, 1) := by decide +kernel
theorem dX0_addReason_43 : decode cX0_addReason 43 = .ok (.getfield 53, 3) := by decide +kernel
theorem dX0_addReason_46 : decode cX0_addReason 46 = .ok (.iconst 1, 1) := by decide +kernel
theorem dX0_addReason_47 : decode cX0_addReason 47 = .ok (.isub, 1) := by decide +kernel
theorem dX0_addReason_48 : decode cX0_addReason 48 = .ok (.ireturn, 1) := by decide +kernel
theorem dX0_dropReason_0 : decode cX0_dropReason 0 = .ok (.aload_n 0, 1) := by decide +kernel
theorem dX0_dropReason_1 : decode cX0_dropReason 1 = .ok (.getfield 53, 3) := by decide +kernel
theorem dX0_dropReason_4 : decode cX0_dropReason 4 = .ok (.ifCond .le 13, 3) := by decide +kernel
theorem dX0_dropReason_7 : decode cX0_dropReason 7 = .ok (.aload_n 0, 1) := by decide +kernel
theorem dX0_dropReason_8 : decode cX0_dropReason 8 = .ok (.dup, 1) := by decide +kernel
theorem dX0_dropReason_9 : decode cX0_dropReason 9 = .ok (.getfield 53, 3) := by decide +kernel
theorem dX0_dropReason_12 : decode cX0_dropReason 12 = .ok (.iconst 1, 1) := by decide +kernel
theorem dX0_dropReason_13 : decode cX0_dropReason 13 = .ok (.isub, 1) := by decide +kernel
theorem dX0_dropReason_14 : decode cX0_dropReason 14 = .ok (.putfield 53, 3) := by decide +kernel
theorem dX0_dropReason_17 : decode cX0_dropReason 17 = .ok (.return_, 1) := by decide +kernel
theorem dX0_addReader_0 : decode cX0_addReader 0 = .ok (.aload_n 0, 1) := by decide +kernel
theorem dX0_addReader_1 : decode cX0_addReader 1 = .ok (.getfield 56, 3) := by decide +kernel
theorem dX0_addReader_4 : decode cX0_addReader 4 = .ok (.iconst 5, 1) := by decide +kernel
theorem dX0_addReader_5 : decode cX0_addReader 5 = .ok (.if_icmp .lt 6, 3) := by decide +kernel
theorem dX0_addReader_8 : decode cX0_addReader 8 = .ok (.bipush (-4), 2) := by decide +kernel
theorem dX0_addReader_10 : decode cX0_addReader 10 = .ok (.ireturn, 1) := by decide +kernel
theorem dX0_addReader_11 : decode cX0_addReader 11 = .ok (.aload_n 0, 1) := by decide +kernel
theorem dX0_addReader_12 : decode cX0_addReader 12 = .ok (.getfield 24, 3) := by decide +kernel
theorem dX0_addReader_15 : decode cX0_addReader 15 = .ok (.aload_n 0, 1) := by decide +kernel
theorem dX0_addReader_16 : decode cX0_addReader 16 = .ok (.getfield 56, 3) := by decide +kernel
theorem dX0_addReader_19 : decode cX0_addReader 19 = .ok (.iload_n 1, 1) := by decide +kernel
theorem dX0_addReader_20 : decode cX0_addReader 20 = .ok (.iastore, 1) := by decide +kernel
theorem dX0_addReader_21 : decode cX0_addReader 21 = .ok (.aload_n 0, 1) := by decide +kernel
theorem dX0_addReader_22 : decode cX0_addReader 22 = .ok (.getfield 27, 3) := by decide +kernel
theorem dX0_addReader_25 : decode cX0_addReader 25 = .ok (.aload_n 0, 1) := by decide +kernel
theorem dX0_addReader_26 : decode cX0_addReader 26 = .ok (.getfield 56, 3) := by decide +kernel
theorem dX0_addReader_29 : decode cX0_addReader 29 = .ok (.iload_n 2, 1) := by decide +kernel
theorem dX0_addReader_30 : decode cX0_addReader 30 = .ok (.iastore, 1) := by decide +kernel
theorem dX0_addReader_31 : decode cX0_addReader 31 = .ok (.aload_n 0, 1) := by decide +kernel
theorem dX0_addReader_32 : decode cX0_addReader 32 = .ok (.getfield 30, 3) := by decide +kernel
theorem dX0_addReader_35 : decode cX0_addReader 35 = .ok (.aload_n 0, 1) := by decide +kernel
theorem dX0_addReader_36 : decode cX0_addReader 36 = .ok (.getfield 56, 3) := by decide +kernel
theorem dX0_addReader_39 : decode cX0_addReader 39 = .ok (.iconst 0, 1) := by decide +kernel
theorem dX0_addReader_40 : decode cX0_addReader 40 = .ok (.iastore, 1) := by decide +kernel
theorem dX0_addReader_41 : decode cX0_addReader 41 = .ok (.aload_n 0, 1) := by decide +kernel
theorem dX0_addReader_42 : decode cX0_addReader 42 = .ok (.dup, 1) := by decide +kernel
theorem dX0_addReader_43 : decode cX0_addReader 43 = .ok (.getfield 56, 3) := by decide +kernel
theorem dX0_addReader_46 : decode cX0_addReader 46 = .ok (.iconst 1, 1) := by decide +kernel
theorem dX0_addReader_47 : decode cX0_addReader 47 = .ok (.iadd, 1) := by decide +kernel
theorem dX0_addReader_48 : decode cX0_addReader 48 = .ok (.putfield 56, 3) := by decide +kernel
theorem dX0_addReader_51 : decode cX0_addReader 51 = .ok (.aload_n 0, 1) := by decide +kernel
theorem dX0_addReader_52 : decode cX0_addReader 52 = .ok (.getfield 56, 3) := by decide +kernel
theorem dX0_addReader_55 : decode cX0_addReader 55 = .ok (.iconst 1, 1) := by decide +kernel
theorem dX0_addReader_56 : decode cX0_addReader 56 = .ok (.isub, 1) := by decide +kernel
theorem dX0_addReader_57 : decode cX0_addReader 57 = .ok (.ireturn, 1) := by decide +kernel
theorem dX0_ruled_0 : decode cX0_ruled 0 = .ok (.aload_n 0, 1) := by decide +kernel
theorem dX0_ruled_1 : decode cX0_ruled 1 = .ok (.getfield 47, 3) := by decide +kernel
theorem dX0_ruled_4 : decode cX0_ruled 4 = .ok (.ifCond .lt 27, 3) := by decide +kernel
theorem dX0_ruled_7 : decode cX0_ruled 7 = .ok (.aload_n 0, 1) := by decide +kernel
theorem dX0_ruled_8 : decode cX0_ruled 8 = .ok (.getfield 47, 3) := by decide +kernel
theorem dX0_ruled_11 : decode cX0_ruled 11 = .ok (.bipush 6, 2) := by decide +kernel
theorem dX0_ruled_13 : decode cX0_ruled 13 = .ok (.if_icmp .ge 18, 3) := by decide +kernel
theorem dX0_ruled_16 : decode cX0_ruled 16 = .ok (.aload_n 0, 1) := by decide +kernel
theorem dX0_ruled_17 : decode cX0_ruled 17 = .ok (.getfield 36, 3) := by decide +kernel
theorem dX0_ruled_20 : decode cX0_ruled 20 = .ok (.getfield 79, 3) := by decide +kernel
theorem dX0_ruled_23 : decode cX0_ruled 23 = .ok (.aload_n 0, 1) := by decide +kernel
theorem dX0_ruled_24 : decode cX0_ruled 24 = .ok (.getfield 47, 3) := by decide +kernel
theorem dX0_ruled_27 : decode cX0_ruled 27 = .ok (.aaload, 1) := by decide +kernel
theorem dX0_ruled_28 : decode cX0_ruled 28 = .ok (.ifnonnull 5, 3) := by decide +kernel
theorem dX0_ruled_31 : decode cX0_ruled 31 = .ok (.iconst 0, 1) := by decide +kernel
theorem dX0_ruled_32 : decode cX0_ruled 32 = .ok (.ireturn, 1) := by decide +kernel
theorem dX0_ruled_33 : decode cX0_ruled 33 = .ok (.aload_n 0, 1) := by decide +kernel
theorem dX0_ruled_34 : decode cX0_ruled 34 = .ok (.iload_n 3, 1) := by decide +kernel
theorem dX0_ruled_35 : decode cX0_ruled 35 = .ok (.invokevirtual 65, 3) := by decide +kernel
theorem dX0_ruled_38 : decode cX0_ruled 38 = .ok (.istore 4, 2) := by decide +kernel
theorem dX0_ruled_40 : decode cX0_ruled 40 = .ok (.aload_n 0, 1) := by decide +kernel
theorem dX0_ruled_41 : decode cX0_ruled 41 = .ok (.getfield 33, 3) := by decide +kernel
theorem dX0_ruled_44 : decode cX0_ruled 44 = .ok (.iconst 0, 1) := by decide +kernel
theorem dX0_ruled_45 : decode cX0_ruled 45 = .ok (.iload 4, 2) := by decide +kernel
theorem dX0_ruled_47 : decode cX0_ruled 47 = .ok (.ifCond .eq 15, 3) := by decide +kernel
theorem dX0_ruled_50 : decode cX0_ruled 50 = .ok (.aload_n 0, 1) := by decide +kernel
theorem dX0_ruled_51 : decode cX0_ruled 51 = .ok (.getfield 9, 3) := by decide +kernel
theorem dX0_ruled_54 : decode cX0_ruled 54 = .ok (.iload_n 3, 1) := by decide +kernel
theorem dX0_ruled_55 : decode cX0_ruled 55 = .ok (.iaload, 1) := by decide +kernel
theorem dX0_ruled_56 : decode cX0_ruled 56 = .ok (.invokestatic 85, 3) := by decide +kernel
theorem dX0_ruled_59 : decode cX0_ruled 59 = .ok (.goto 4, 3) := by decide +kernel
theorem dX0_ruled_62 : decode cX0_ruled 62 = .ok (.iconst 0, 1) := by decide +kernel
theorem dX0_ruled_63 : decode cX0_ruled 63 = .ok (.iastore, 1) := by decide +kernel
theorem dX0_ruled_64 : decode cX0_ruled 64 = .ok (.aload_n 0, 1) := by decide +kernel
theorem dX0_ruled_65 : decode cX0_ruled 65 = .ok (.getfield 33, 3) := by decide +kernel
theorem dX0_ruled_68 : decode cX0_ruled 68 = .ok (.iconst 1, 1) := by decide +kernel
theorem dX0_ruled_69 : decode cX0_ruled 69 = .ok (.iload 4, 2) := by decide +kernel
theorem dX0_ruled_71 : decode cX0_ruled 71 = .ok (.ifCond .eq 12, 3) := by decide +kernel
theorem dX0_ruled_74 : decode cX0_ruled 74 = .ok (.aload_n 0, 1) := by decide +kernel
theorem dX0_ruled_75 : decode cX0_ruled 75 = .ok (.getfield 15, 3) := by decide +kernel
theorem dX0_ruled_78 : decode cX0_ruled 78 = .ok (.iload_n 3, 1) := by decide +kernel
theorem dX0_ruled_79 : decode cX0_ruled 79 = .ok (.iaload, 1) := by decide +kernel
theorem dX0_ruled_80 : decode cX0_ruled 80 = .ok (.goto 4, 3) := by decide +kernel
theorem dX0_ruled_83 : decode cX0_ruled 83 = .ok (.iconst 0, 1) := by decide +kernel
theorem dX0_ruled_84 : decode cX0_ruled 84 = .ok (.iastore, 1) := by decide +kernel
theorem dX0_ruled_85 : decode cX0_ruled 85 = .ok (.aload_n 0, 1) := by decide +kernel
theorem dX0_ruled_86 : decode cX0_ruled 86 = .ok (.getfield 33, 3) := by decide +kernel
theorem dX0_ruled_89 : decode cX0_ruled 89 = .ok (.iconst 2, 1) := by decide +kernel
theorem dX0_ruled_90 : decode cX0_ruled 90 = .ok (.aload_n 0, 1) := by decide +kernel
theorem dX0_ruled_91 : decode cX0_ruled 91 = .ok (.getfield 27, 3) := by decide +kernel
theorem dX0_ruled_94 : decode cX0_ruled 94 = .ok (.iload_n 2, 1) := by decide +kernel
theorem dX0_ruled_95 : decode cX0_ruled 95 = .ok (.iaload, 1) := by decide +kernel
theorem dX0_ruled_96 : decode cX0_ruled 96 = .ok (.iastore, 1) := by decide +kernel
theorem dX0_ruled_97 : decode cX0_ruled 97 = .ok (.aload_n 0, 1) := by decide +kernel
theorem dX0_ruled_98 : decode cX0_ruled 98 = .ok (.getfield 33, 3) := by decide +kernel
theorem dX0_ruled_101 : decode cX0_ruled 101 = .ok (.iconst 3, 1) := by decide +kernel
theorem dX0_ruled_102 : decode cX0_ruled 102 = .ok (.aload_n 0, 1) := by decide +kernel
theorem dX0_ruled_103 : decode cX0_ruled 103 = .ok (.getfield 44, 3) := by decide +kernel
theorem dX0_ruled_106 : decode cX0_ruled 106 = .ok (.iastore, 1) := by decide +kernel
theorem dX0_ruled_107 : decode cX0_ruled 107 = .ok (.aload_n 0, 1) := by decide +kernel
theorem dX0_ruled_108 : decode cX0_ruled 108 = .ok (.getfield 33, 3) := by decide +kernel
theorem dX0_ruled_111 : decode cX0_ruled 111 = .ok (.iconst 4, 1) := by decide +kernel
theorem dX0_ruled_112 : decode cX0_ruled 112 = .ok (.aload_n 0, 1) := by decide +kernel
theorem dX0_ruled_113 : decode cX0_ruled 113 = .ok (.getfield 30, 3) := by decide +kernel
theorem dX0_ruled_116 : decode cX0_ruled 116 = .ok (.iload_n 2, 1) := by decide +kernel
theorem dX0_ruled_117 : decode cX0_ruled 117 = .ok (.iaload, 1) := by decide +kernel
theorem dX0_ruled_118 : decode cX0_ruled 118 = .ok (.iastore, 1) := by decide +kernel
theorem dX0_ruled_119 : decode cX0_ruled 119 = .ok (.aload_n 0, 1) := by decide +kernel
theorem dX0_ruled_120 : decode cX0_ruled 120 = .ok (.getfield 33, 3) := by decide +kernel
theorem dX0_ruled_123 : decode cX0_ruled 123 = .ok (.iconst 5, 1) := by decide +kernel
theorem dX0_ruled_124 : decode cX0_ruled 124 = .ok (.iload 4, 2) := by decide +kernel
theorem dX0_ruled_126 : decode cX0_ruled 126 = .ok (.ifCond .eq 7, 3) := by decide +kernel
theorem dX0_ruled_129 : decode cX0_ruled 129 = .ok (.iload_n 3, 1) := by decide +kernel
theorem dX0_ruled_130 : decode cX0_ruled 130 = .ok (.goto 4, 3) := by decide +kernel
theorem dX0_ruled_133 : decode cX0_ruled 133 = .ok (.iconst 0, 1) := by decide +kernel
theorem dX0_ruled_134 : decode cX0_ruled 134 = .ok (.iastore, 1) := by decide +kernel
theorem dX0_ruled_135 : decode cX0_ruled 135 = .ok (.aload_n 0, 1) := by decide +kernel
theorem dX0_ruled_136 : decode cX0_ruled 136 = .ok (.getfield 36, 3) := by decide +kernel
theorem dX0_ruled_139 : decode cX0_ruled 139 = .ok (.getfield 79, 3) := by decide +kernel
theorem dX0_ruled_142 : decode cX0_ruled 142 = .ok (.aload_n 0, 1) := by decide +kernel
theorem dX0_ruled_143 : decode cX0_ruled 143 = .ok (.getfield 47, 3) := by decide +kernel
theorem dX0_ruled_146 : decode cX0_ruled 146 = .ok (.aaload, 1) := by decide +kernel
theorem dX0_ruled_147 : decode cX0_ruled 147 = .ok (.iload_n 1, 1) := by decide +kernel
theorem dX0_ruled_148 : decode cX0_ruled 148 = .ok (.aload_n 0, 1) := by decide +kernel
theorem dX0_ruled_149 : decode cX0_ruled 149 = .ok (.getfield 33, 3) := by decide +kernel
theorem dX0_ruled_152 : decode cX0_ruled 152 = .ok (.aload_n 0, 1) := by decide +kernel
theorem dX0_ruled_153 : decode cX0_ruled 153 = .ok (.getfield 36, 3) := by decide +kernel
theorem dX0_ruled_156 : decode cX0_ruled 156 = .ok (.getfield 91, 3) := by decide +kernel
theorem dX0_ruled_159 : decode cX0_ruled 159 = .ok (.invokevirtual 94, 3) := by decide +kernel
theorem dX0_ruled_162 : decode cX0_ruled 162 = .ok (.istore 5, 2) := by decide +kernel
theorem dX0_ruled_164 : decode cX0_ruled 164 = .ok (.iload_n 1, 1) := by decide +kernel
theorem dX0_ruled_165 : decode cX0_ruled 165 = .ok (.iconst 2, 1) := by decide +kernel
theorem dX0_ruled_166 : decode cX0_ruled 166 = .ok (.if_icmp .ne 7, 3) := by decide +kernel
theorem dX0_ruled_169 : decode cX0_ruled 169 = .ok (.iconst 0, 1) := by decide +kernel
theorem dX0_ruled_170 : decode cX0_ruled 170 = .ok (.goto 5, 3) := by decide +kernel
theorem dX0_ruled_173 : decode cX0_ruled 173 = .ok (.bipush (-99), 2) := by decide +kernel
theorem dX0_ruled_175 : decode cX0_ruled 175 = .ok (.bipush 99, 2) := by decide +kernel
theorem dX0_ruled_177 : decode cX0_ruled 177 = .ok (.iload 5, 2) := by decide +kernel
theorem dX0_ruled_179 : decode cX0_ruled 179 = .ok (.invokestatic 100, 3) := by decide +kernel
theorem dX0_ruled_182 : decode cX0_ruled 182 = .ok (.invokestatic 106, 3) := by decide +kernel
theorem dX0_ruled_185 : decode cX0_ruled 185 = .ok (.ireturn, 1) := by decide +kernel
theorem dX0_isSteady_0 : decode cX0_isSteady 0 = .ok (.aload_n 0, 1) := by decide +kernel
theorem dX0_isSteady_1 : decode cX0_isSteady 1 = .ok (.getfield 24, 3) := by decide +kernel
theorem dX0_isSteady_4 : decode cX0_isSteady 4 = .ok (.iload_n 1, 1) := by decide +kernel
theorem dX0_isSteady_5 : decode cX0_isSteady 5 = .ok (.iaload, 1) := by decide +kernel
theorem dX0_isSteady_6 : decode cX0_isSteady 6 = .ok (.tableswitch 80 0 4 #[34, 80, 34, 80, 56], 34) := by decide +kernel
theorem dX0_isSteady_40 : decode cX0_isSteady 40 = .ok (.aload_n 0, 1) := by decide +kernel
theorem dX0_isSteady_41 : decode cX0_isSteady 41 = .ok (.getfield 30, 3) := by decide +kernel
theorem dX0_isSteady_44 : decode cX0_isSteady 44 = .ok (.iload_n 1, 1) := by decide +kernel
theorem dX0_isSteady_45 : decode cX0_isSteady 45 = .ok (.iaload, 1) := by decide +kernel
theorem dX0_isSteady_46 : decode cX0_isSteady 46 = .ok (.aload_n 0, 1) := by decide +kernel
theorem dX0_isSteady_47 : decode cX0_isSteady 47 = .ok (.iconst 2, 1) := by decide +kernel
theorem dX0_isSteady_48 : decode cX0_isSteady 48 = .ok (.iload_n 1, 1) := by decide +kernel
theorem dX0_isSteady_49 : decode cX0_isSteady 49 = .ok (.iconst (-1), 1) := by decide +kernel
theorem dX0_isSteady_50 : decode cX0_isSteady 50 = .ok (.invokevirtual 109, 3) := by decide +kernel
theorem dX0_isSteady_53 : decode cX0_isSteady 53 = .ok (.if_icmp .ge 7, 3) := by decide +kernel
theorem dX0_isSteady_56 : decode cX0_isSteady 56 = .ok (.iconst 1, 1) := by decide +kernel
theorem dX0_isSteady_57 : decode cX0_isSteady 57 = .ok (.goto 4, 3) := by decide +kernel
theorem dX0_isSteady_60 : decode cX0_isSteady 60 = .ok (.iconst 0, 1) := by decide +kernel
theorem dX0_isSteady_61 : decode cX0_isSteady 61 = .ok (.ireturn, 1) := by decide +kernel
theorem dX0_isSteady_62 : decode cX0_isSteady 62 = .ok (.aload_n 0, 1) := by decide +kernel
theorem dX0_isSteady_63 : decode cX0_isSteady 63 = .ok (.getfield 30, 3) := by decide +kernel
theorem dX0_isSteady_66 : decode cX0_isSteady 66 = .ok (.iload_n 1, 1) := by decide +kernel
theorem dX0_isSteady_67 : decode cX0_isSteady 67 = .ok (.iaload, 1) := by decide +kernel
theorem dX0_isSteady_68 : decode cX0_isSteady 68 = .ok (.iconst 2, 1) := by decide +kernel
theorem dX0_isSteady_69 : decode cX0_isSteady 69 = .ok (.aload_n 0, 1) := by decide +kernel
theorem dX0_isSteady_70 : decode cX0_isSteady 70 = .ok (.iconst 2, 1) := by decide +kernel
theorem dX0_isSteady_71 : decode cX0_isSteady 71 = .ok (.iload_n 1, 1) := by decide +kernel
theorem dX0_isSteady_72 : decode cX0_isSteady 72 = .ok (.iconst (-1), 1) := by decide +kernel
theorem dX0_isSteady_73 : decode cX0_isSteady 73 = .ok (.invokevirtual 109, 3) := by decide +kernel
theorem dX0_isSteady_76 : decode cX0_isSteady 76 = .ok (.imul, 1) := by decide +kernel
theorem dX0_isSteady_77 : decode cX0_isSteady 77 = .ok (.if_icmp .ge 7, 3) := by decide +kernel
theorem dX0_isSteady_80 : decode cX0_isSteady 80 = .ok (.iconst 1, 1) := by decide +kernel
theorem dX0_isSteady_81 : decode cX0_isSteady 81 = .ok (.goto 4, 3) := by decide +kernel
theorem dX0_isSteady_84 : decode cX0_isSteady 84 = .ok (.iconst 0, 1) := by decide +kernel
theorem dX0_isSteady_85 : decode cX0_isSteady 85 = .ok (.ireturn, 1) := by decide +kernel
theorem dX0_isSteady_86 : decode cX0_isSteady 86 = .ok (.iconst 1, 1) := by decide +kernel
theorem dX0_isSteady_87 : decode cX0_isSteady 87 = .ok (.ireturn, 1) := by decide +kernel
theorem dX0_seen_0 : decode cX0_seen 0 = .ok (.aload_n 0, 1) := by decide +kernel
theorem dX0_seen_1 : decode cX0_seen 1 = .ok (.getfield 24, 3) := by decide +kernel
theorem dX0_seen_4 : decode cX0_seen 4 = .ok (.iload_n 1, 1) := by decide +kernel
theorem dX0_seen_5 : decode cX0_seen 5 = .ok (.iaload, 1) := by decide +kernel
theorem dX0_seen_6 : decode cX0_seen 6 = .ok (.tableswitch 97 0 4 #[34, 40, 49, 64, 76], 34) := by decide +kernel
theorem dX0_seen_40 : decode cX0_seen 40 = .ok (.iload_n 2, 1) := by decide +kernel
theorem dX0_seen_41 : decode cX0_seen 41 = .ok (.iload_n 3, 1) := by decide +kernel
theorem dX0_seen_42 : decode cX0_seen 42 = .ok (.invokestatic 113, 3) := by decide +kernel
theorem dX0_seen_45 : decode cX0_seen 45 = .ok (.ireturn, 1) := by decide +kernel
theorem dX0_seen_46 : decode cX0_seen 46 = .ok (.iload_n 2, 1) := by decide +kernel
theorem dX0_seen_47 : decode cX0_seen 47 = .ok (.iload_n 3, 1) := by decide +kernel
theorem dX0_seen_48 : decode cX0_seen 48 = .ok (.invokestatic 113, 3) := by decide +kernel
theorem dX0_seen_51 : decode cX0_seen 51 = .ok (.invokestatic 116, 3) := by decide +kernel
theorem dX0_seen_54 : decode cX0_seen 54 = .ok (.ireturn, 1) := by decide +kernel
theorem dX0_seen_55 : decode cX0_seen 55 = .ok (.iload_n 2, 1) := by decide +kernel
theorem dX0_seen_56 : decode cX0_seen 56 = .ok (.iload_n 3, 1) := by decide +kernel
theorem dX0_seen_57 : decode cX0_seen 57 = .ok (.invokestatic 113, 3) := by decide +kernel
theorem dX0_seen_60 : decode cX0_seen 60 = .ok (.iconst 1, 1) := by decide +kernel
theorem dX0_seen_61 : decode cX0_seen 61 = .ok (.aload_n 0, 1) := by decide +kernel
theorem dX0_seen_62 : decode cX0_seen 62 = .ok (.getfield 27, 3) := by decide +kernel
theorem dX0_seen_65 : decode cX0_seen 65 = .ok (.iload_n 1, 1) := by decide +kernel
theorem dX0_seen_66 : decode cX0_seen 66 = .ok (.iaload, 1) := by decide +kernel
theorem dX0_seen_67 : decode cX0_seen 67 = .ok (.ishl, 1) := by decide +kernel
theorem dX0_seen_68 : decode cX0_seen 68 = .ok (.ixor, 1) := by decide +kernel
theorem dX0_seen_69 : decode cX0_seen 69 = .ok (.ireturn, 1) := by decide +kernel
theorem dX0_seen_70 : decode cX0_seen 70 = .ok (.iload_n 2, 1) := by decide +kernel
theorem dX0_seen_71 : decode cX0_seen 71 = .ok (.invokestatic 119, 3) := by decide +kernel
theorem dX0_seen_74 : decode cX0_seen 74 = .ok (.iload_n 3, 1) := by decide +kernel
theorem dX0_seen_75 : decode cX0_seen 75 = .ok (.invokestatic 113, 3) := by decide +kernel
theorem dX0_seen_78 : decode cX0_seen 78 = .ok (.invokestatic 116, 3) := by decide +kernel
theorem dX0_seen_81 : decode cX0_seen 81 = .ok (.ireturn, 1) := by decide +kernel
theorem dX0_seen_82 : decode cX0_seen 82 = .ok (.sipush 4095, 3) := by decide +kernel
theorem dX0_seen_85 : decode cX0_seen 85 = .ok (.iload_n 2, 1) := by decide +kernel
theorem dX0_seen_86 : decode cX0_seen 86 = .ok (.iconst (-1), 1) := by decide +kernel
theorem dX0_seen_87 : decode cX0_seen 87 = .ok (.ixor, 1) := by decide +kernel
theorem dX0_seen_88 : decode cX0_seen 88 = .ok (.iand, 1) := by decide +kernel
theorem dX0_seen_89 : decode cX0_seen 89 = .ok (.iload_n 3, 1) := by decide +kernel
theorem dX0_seen_90 : decode cX0_seen 90 = .ok (.invokestatic 113, 3) := by decide +kernel
theorem dX0_seen_93 : decode cX0_seen 93 = .ok (.iconst 1, 1) := by decide +kernel
theorem dX0_seen_94 : decode cX0_seen 94 = .ok (.aload_n 0, 1) := by decide +kernel
theorem dX0_seen_95 : decode cX0_seen 95 = .ok (.getfield 27, 3) := by decide +kernel
theorem dX0_seen_98 : decode cX0_seen 98 = .ok (.iload_n 1, 1) := by decide +kernel
theorem dX0_seen_99 : decode cX0_seen 99 = .ok (.iaload, 1) := by decide +kernel
theorem dX0_seen_100 : decode cX0_seen 100 = .ok (.ishl, 1) := by decide +kernel
theorem dX0_seen_101 : decode cX0_seen 101 = .ok (.ixor, 1) := by decide +kernel
theorem dX0_seen_102 : decode cX0_seen 102 = .ok (.ireturn, 1) := by decide +kernel
theorem dX0_seen_103 : decode cX0_seen 103 = .ok (.iload_n 2, 1) := by decide +kernel
theorem dX0_seen_104 : decode cX0_seen 104 = .ok (.ireturn, 1) := by decide +kernel
theorem dX0_overlooked_0 : decode cX0_overlooked 0 = .ok (.iconst 1, 1) := by decide +kernel
theorem dX0_overlooked_1 : decode cX0_overlooked 1 = .ok (.iload_n 2, 1) := by decide +kernel
theorem dX0_overlooked_2 : decode cX0_overlooked 2 = .ok (.bipush 12, 2) := by decide +kernel
theorem dX0_overlooked_4 : decode cX0_overlooked 4 = .ok (.invokestatic 122, 3) := by decide +kernel
theorem dX0_overlooked_7 : decode cX0_overlooked 7 = .ok (.ishl, 1) := by decide +kernel
theorem dX0_overlooked_8 : decode cX0_overlooked 8 = .ok (.istore_n 3, 1) := by decide +kernel
theorem dX0_overlooked_9 : decode cX0_overlooked 9 = .ok (.sipush 4095, 3) := by decide +kernel
theorem dX0_overlooked_12 : decode cX0_overlooked 12 = .ok (.iload_n 3, 1) := by decide +kernel
theorem dX0_overlooked_13 : decode cX0_overlooked 13 = .ok (.ineg, 1) := by decide +kernel
theorem dX0_overlooked_14 : decode cX0_overlooked 14 = .ok (.iand, 1) := by decide +kernel
theorem dX0_overlooked_15 : decode cX0_overlooked 15 = .ok (.istore 4, 2) := by decide +kernel
theorem dX0_overlooked_17 : decode cX0_overlooked 17 = .ok (.aload_n 0, 1) := by decide +kernel
theorem dX0_overlooked_18 : decode cX0_overlooked 18 = .ok (.getfield 24, 3) := by decide +kernel
theorem dX0_overlooked_21 : decode cX0_overlooked 21 = .ok (.iload_n 1, 1) := by decide +kernel
theorem dX0_overlooked_22 : decode cX0_overlooked 22 = .ok (.iaload, 1) := by decide +kernel
theorem dX0_overlooked_23 : decode cX0_overlooked 23 = .ok (.tableswitch 64 0 4 #[33, 64, 35, 38, 47], 33) := by decide +kernel
theorem dX0_overlooked_56 : decode cX0_overlooked 56 = .ok (.iload_n 3, 1) := by decide +kernel
theorem dX0_overlooked_57 : decode cX0_overlooked 57 = .ok (.ireturn, 1) := by decide +kernel
theorem dX0_overlooked_58 : decode cX0_overlooked 58 = .ok (.iload 4, 2) := by decide +kernel
theorem dX0_overlooked_60 : decode cX0_overlooked 60 = .ok (.ireturn, 1) := by decide +kernel
theorem dX0_overlooked_61 : decode cX0_overlooked 61 = .ok (.iconst 1, 1) := by decide +kernel
theorem dX0_overlooked_62 : decode cX0_overlooked 62 = .ok (.aload_n 0, 1) := by decide +kernel
theorem dX0_overlooked_63 : decode cX0_overlooked 63 = .ok (.getfield 27, 3) := by decide +kernel
theorem dX0_overlooked_66 : decode cX0_overlooked 66 = .ok (.iload_n 1, 1) := by decide +kernel
theorem dX0_overlooked_67 : decode cX0_overlooked 67 = .ok (.iaload, 1) := by decide +kernel
theorem dX0_overlooked_68 : decode cX0_overlooked 68 = .ok (.ishl, 1) := by decide +kernel
theorem dX0_overlooked_69 : decode cX0_overlooked 69 = .ok (.ireturn, 1) := by decide +kernel
theorem dX0_overlooked_70 : decode cX0_overlooked 70 = .ok (.aload_n 0, 1) := by decide +kernel
theorem dX0_overlooked_71 : decode cX0_overlooked 71 = .ok (.getfield 44, 3) := by decide +kernel
theorem dX0_overlooked_74 : decode cX0_overlooked 74 = .ok (.iconst 2, 1) := by decide +kernel
theorem dX0_overlooked_75 : decode cX0_overlooked 75 = .ok (.irem, 1) := by decide +kernel
theorem dX0_overlooked_76 : decode cX0_overlooked 76 = .ok (.iconst 1, 1) := by decide +kernel
theorem dX0_overlooked_77 : decode cX0_overlooked 77 = .ok (.if_icmp .ne 8, 3) := by decide +kernel
theorem dX0_overlooked_80 : decode cX0_overlooked 80 = .ok (.iload 4, 2) := by decide +kernel
theorem dX0_overlooked_82 : decode cX0_overlooked 82 = .ok (.goto 4, 3) := by decide +kernel
theorem dX0_overlooked_85 : decode cX0_overlooked 85 = .ok (.iconst 0, 1) := by decide +kernel
theorem dX0_overlooked_86 : decode cX0_overlooked 86 = .ok (.ireturn, 1) := by decide +kernel
theorem dX0_overlooked_87 : decode cX0_overlooked 87 = .ok (.iconst 0, 1) := by decide +kernel
theorem dX0_overlooked_88 : decode cX0_overlooked 88 = .ok (.ireturn, 1) := by decide +kernel
theorem dX0_readBy_0 : decode cX0_readBy 0 = .ok (.aload_n 0, 1) := by decide +kernel
theorem dX0_readBy_1 : decode cX0_readBy 1 = .ok (.iload_n 1, 1) := by decide +kernel
theorem dX0_readBy_2 : decode cX0_readBy 2 = .ok (.aload_n 0, 1) := by decide +kernel
theorem dX0_readBy_3 : decode cX0_readBy 3 = .ok (.getfield 9, 3) := by decide +kernel
theorem dX0_readBy_6 : decode cX0_readBy 6 = .ok (.iload_n 2, 1) := by decide +kernel
theorem dX0_readBy_7 : decode cX0_readBy 7 = .ok (.iaload, 1) := by decide +kernel
theorem dX0_readBy_8 : decode cX0_readBy 8 = .ok (.aload_n 0, 1) := by decide +kernel
theorem dX0_readBy_9 : decode cX0_readBy 9 = .ok (.iconst 0, 1) := by decide +kernel
theorem dX0_readBy_10 : decode cX0_readBy 10 = .ok (.iload_n 1, 1) := by decide +kernel
theorem dX0_readBy_11 : decode cX0_readBy 11 = .ok (.iload_n 2, 1) := by decide +kernel
theorem dX0_readBy_12 : decode cX0_readBy 12 = .ok (.invokevirtual 109, 3) := by decide +kernel
theorem dX0_readBy_15 : decode cX0_readBy 15 = .ok (.invokevirtual 125, 3) := by decide +kernel
theorem dX0_readBy_18 : decode cX0_readBy 18 = .ok (.istore_n 3, 1) := by decide +kernel
theorem dX0_readBy_19 : decode cX0_readBy 19 = .ok (.iload_n 3, 1) := by decide +kernel
theorem dX0_readBy_20 : decode cX0_readBy 20 = .ok (.aload_n 0, 1) := by decide +kernel
theorem dX0_readBy_21 : decode cX0_readBy 21 = .ok (.iload_n 1, 1) := by decide +kernel
theorem dX0_readBy_22 : decode cX0_readBy 22 = .ok (.aload_n 0, 1) := by decide +kernel
theorem dX0_readBy_23 : decode cX0_readBy 23 = .ok (.iconst 1, 1) := by decide +kernel
theorem dX0_readBy_24 : decode cX0_readBy 24 = .ok (.iload_n 1, 1) := by decide +kernel
theorem dX0_readBy_25 : decode cX0_readBy 25 = .ok (.iload_n 2, 1) := by decide +kernel
theorem dX0_readBy_26 : decode cX0_readBy 26 = .ok (.invokevirtual 109, 3) := by decide +kernel
theorem dX0_readBy_29 : decode cX0_readBy 29 = .ok (.invokevirtual 128, 3) := by decide +kernel
theorem dX0_readBy_32 : decode cX0_readBy 32 = .ok (.iconst (-1), 1) := by decide +kernel
theorem dX0_readBy_33 : decode cX0_readBy 33 = .ok (.ixor, 1) := by decide +kernel
theorem dX0_readBy_34 : decode cX0_readBy 34 = .ok (.iand, 1) := by decide +kernel
theorem dX0_readBy_35 : decode cX0_readBy 35 = .ok (.iconst 1, 1) := by decide +kernel
theorem dX0_readBy_36 : decode cX0_readBy 36 = .ok (.aload_n 0, 1) := by decide +kernel
theorem dX0_readBy_37 : decode cX0_readBy 37 = .ok (.getfield 15, 3) := by decide +kernel
theorem dX0_readBy_40 : decode cX0_readBy 40 = .ok (.iload_n 2, 1) := by decide +kernel
theorem dX0_readBy_41 : decode cX0_readBy 41 = .ok (.iaload, 1) := by decide +kernel
theorem dX0_readBy_42 : decode cX0_readBy 42 = .ok (.ishl, 1) := by decide +kernel
theorem dX0_readBy_43 : decode cX0_readBy 43 = .ok (.iconst (-1), 1) := by decide +kernel
theorem dX0_readBy_44 : decode cX0_readBy 44 = .ok (.ixor, 1) := by decide +kernel
theorem dX0_readBy_45 : decode cX0_readBy 45 = .ok (.iand, 1) := by decide +kernel
theorem dX0_readBy_46 : decode cX0_readBy 46 = .ok (.ireturn, 1) := by decide +kernel
theorem dX0_turned_0 : decode cX0_turned 0 = .ok (.iload_n 1, 1) := by decide +kernel
theorem dX0_turned_1 : decode cX0_turned 1 = .ok (.bipush 12, 2) := by decide +kernel
theorem dX0_turned_3 : decode cX0_turned 3 = .ok (.invokestatic 122, 3) := by decide +kernel
theorem dX0_turned_6 : decode cX0_turned 6 = .ok (.istore_n 2, 1) := by decide +kernel
theorem dX0_turned_7 : decode cX0_turned 7 = .ok (.sipush 4095, 3) := by decide +kernel
theorem dX0_turned_10 : decode cX0_turned 10 = .ok (.iload_n 0, 1) := by decide +kernel
theorem dX0_turned_11 : decode cX0_turned 11 = .ok (.iload_n 2, 1) := by decide +kernel
theorem dX0_turned_12 : decode cX0_turned 12 = .ok (.ishl, 1) := by decide +kernel
theorem dX0_turned_13 : decode cX0_turned 13 = .ok (.iload_n 0, 1) := by decide +kernel
theorem dX0_turned_14 : decode cX0_turned 14 = .ok (.bipush 12, 2) := by decide +kernel
theorem dX0_turned_16 : decode cX0_turned 16 = .ok (.iload_n 2, 1) := by decide +kernel
theorem dX0_turned_17 : decode cX0_turned 17 = .ok (.isub, 1) := by decide +kernel
theorem dX0_turned_18 : decode cX0_turned 18 = .ok (.ishr, 1) := by decide +kernel
theorem dX0_turned_19 : decode cX0_turned 19 = .ok (.ior, 1) := by decide +kernel
theorem dX0_turned_20 : decode cX0_turned 20 = .ok (.iand, 1) := by decide +kernel
theorem dX0_turned_21 : decode cX0_turned 21 = .ok (.ireturn, 1) := by decide +kernel
theorem dX0_mirrored_0 : decode cX0_mirrored 0 = .ok (.iconst 0, 1) := by decide +kernel
theorem dX0_mirrored_1 : decode cX0_mirrored 1 = .ok (.istore_n 1, 1) := by decide +kernel
theorem dX0_mirrored_2 : decode cX0_mirrored 2 = .ok (.iconst 0, 1) := by decide +kernel
theorem dX0_mirrored_3 : decode cX0_mirrored 3 = .ok (.istore_n 2, 1) := by decide +kernel
theorem dX0_mirrored_4 : decode cX0_mirrored 4 = .ok (.iload_n 2, 1) := by decide +kernel
theorem dX0_mirrored_5 : decode cX0_mirrored 5 = .ok (.bipush 12, 2) := by decide +kernel
theorem dX0_mirrored_7 : decode cX0_mirrored 7 = .ok (.if_icmp .ge 22, 3) := by decide +kernel
theorem dX0_mirrored_10 : decode cX0_mirrored 10 = .ok (.iload_n 1, 1) := by decide +kernel
theorem dX0_mirrored_11 : decode cX0_mirrored 11 = .ok (.iload_n 0, 1) := by decide +kernel
theorem dX0_mirrored_12 : decode cX0_mirrored 12 = .ok (.iload_n 2, 1) := by decide +kernel
theorem dX0_mirrored_13 : decode cX0_mirrored 13 = .ok (.ishr, 1) := by decide +kernel
theorem dX0_mirrored_14 : decode cX0_mirrored 14 = .ok (.iconst 1, 1) := by decide +kernel
theorem dX0_mirrored_15 : decode cX0_mirrored 15 = .ok (.iand, 1) := by decide +kernel
theorem dX0_mirrored_16 : decode cX0_mirrored 16 = .ok (.bipush 11, 2) := by decide +kernel
theorem dX0_mirrored_18 : decode cX0_mirrored 18 = .ok (.iload_n 2, 1) := by decide +kernel
theorem dX0_mirrored_19 : decode cX0_mirrored 19 = .ok (.isub, 1) := by decide +kernel
theorem dX0_mirrored_20 : decode cX0_mirrored 20 = .ok (.ishl, 1) := by decide +kernel
theorem dX0_mirrored_21 : decode cX0_mirrored 21 = .ok (.ior, 1) := by decide +kernel
theorem dX0_mirrored_22 : decode cX0_mirrored 22 = .ok (.istore_n 1, 1) := by decide +kernel
theorem dX0_mirrored_23 : decode cX0_mirrored 23 = .ok (.iinc 2 1, 3) := by decide +kernel
theorem dX0_mirrored_26 : decode cX0_mirrored 26 = .ok (.goto (-22), 3) := by decide +kernel
theorem dX0_mirrored_29 : decode cX0_mirrored 29 = .ok (.iload_n 1, 1) := by decide +kernel
theorem dX0_mirrored_30 : decode cX0_mirrored 30 = .ok (.ireturn, 1) := by decide +kernel
theorem dX0_withoutLeast_0 : decode cX0_withoutLeast 0 = .ok (.iload_n 0, 1) := by decide +kernel
theorem dX0_withoutLeast_1 : decode cX0_withoutLeast 1 = .ok (.iload_n 0, 1) := by decide +kernel
theorem dX0_withoutLeast_2 : decode cX0_withoutLeast 2 = .ok (.iconst 1, 1) := by decide +kernel
theorem dX0_withoutLeast_3 : decode cX0_withoutLeast 3 = .ok (.isub, 1) := by decide +kernel
theorem dX0_withoutLeast_4 : decode cX0_withoutLeast 4 = .ok (.iand, 1) := by decide +kernel
theorem dX0_withoutLeast_5 : decode cX0_withoutLeast 5 = .ok (.ireturn, 1) := by decide +kernel
theorem dX0_readOut_0 : decode cX0_readOut 0 = .ok (.aload_n 0, 1) := by decide +kernel
theorem dX0_readOut_1 : decode cX0_readOut 1 = .ok (.iload_n 1, 1) := by decide +kernel
theorem dX0_readOut_2 : decode cX0_readOut 2 = .ok (.iload_n 2, 1) := by decide +kernel
theorem dX0_readOut_3 : decode cX0_readOut 3 = .ok (.invokevirtual 131, 3) := by decide +kernel
theorem dX0_readOut_6 : decode cX0_readOut 6 = .ok (.istore_n 3, 1) := by decide +kernel
theorem dX0_readOut_7 : decode cX0_readOut 7 = .ok (.aload_n 0, 1) := by decide +kernel
theorem dX0_readOut_8 : decode cX0_readOut 8 = .ok (.iload_n 3, 1) := by decide +kernel
theorem dX0_readOut_9 : decode cX0_readOut 9 = .ok (.aload_n 0, 1) := by decide +kernel
theorem dX0_readOut_10 : decode cX0_readOut 10 = .ok (.getfield 15, 3) := by decide +kernel
theorem dX0_readOut_13 : decode cX0_readOut 13 = .ok (.iload_n 2, 1) := by decide +kernel
theorem dX0_readOut_14 : decode cX0_readOut 14 = .ok (.iaload, 1) := by decide +kernel
theorem dX0_readOut_15 : decode cX0_readOut 15 = .ok (.invokevirtual 134, 3) := by decide +kernel
theorem dX0_readOut_18 : decode cX0_readOut 18 = .ok (.bipush (-4), 2) := by decide +kernel
theorem dX0_readOut_20 : decode cX0_readOut 20 = .ok (.if_icmp .ne 6, 3) := by decide +kernel
theorem dX0_readOut_23 : decode cX0_readOut 23 = .ok (.bipush (-4), 2) := by decide +kernel
theorem dX0_readOut_25 : decode cX0_readOut 25 = .ok (.ireturn, 1) := by decide +kernel
theorem dX0_readOut_26 : decode cX0_readOut 26 = .ok (.iload_n 3, 1) := by decide +kernel
theorem dX0_readOut_27 : decode cX0_readOut 27 = .ok (.ifCond .ne 22, 3) := by decide +kernel
theorem dX0_readOut_30 : decode cX0_readOut 30 = .ok (.aload_n 0, 1) := by decide +kernel
theorem dX0_readOut_31 : decode cX0_readOut 31 = .ok (.getfield 30, 3) := by decide +kernel
theorem dX0_readOut_34 : decode cX0_readOut 34 = .ok (.iload_n 1, 1) := by decide +kernel
theorem dX0_readOut_35 : decode cX0_readOut 35 = .ok (.bipush 99, 2) := by decide +kernel
theorem dX0_readOut_37 : decode cX0_readOut 37 = .ok (.aload_n 0, 1) := by decide +kernel
theorem dX0_readOut_38 : decode cX0_readOut 38 = .ok (.getfield 30, 3) := by decide +kernel
theorem dX0_readOut_41 : decode cX0_readOut 41 = .ok (.iload_n 1, 1) := by decide +kernel
theorem dX0_readOut_42 : decode cX0_readOut 42 = .ok (.iaload, 1) := by decide +kernel
theorem dX0_readOut_43 : decode cX0_readOut 43 = .ok (.iconst 1, 1) := by decide +kernel
theorem dX0_readOut_44 : decode cX0_readOut 44 = .ok (.iadd, 1) := by decide +kernel
theorem dX0_readOut_45 : decode cX0_readOut 45 = .ok (.invokestatic 100, 3) := by decide +kernel
theorem dX0_readOut_48 : decode cX0_readOut 48 = .ok (.iastore, 1) := by decide +kernel
theorem dX0_readOut_49 : decode cX0_readOut 49 = .ok (.aload_n 0, 1) := by decide +kernel
theorem dX0_readOut_50 : decode cX0_readOut 50 = .ok (.dup, 1) := by decide +kernel
theorem dX0_readOut_51 : decode cX0_readOut 51 = .ok (.getfield 44, 3) := by decide +kernel
theorem dX0_readOut_54 : decode cX0_readOut 54 = .ok (.iconst 1, 1) := by decide +kernel
theorem dX0_readOut_55 : decode cX0_readOut 55 = .ok (.iadd, 1) := by decide +kernel
theorem dX0_readOut_56 : decode cX0_readOut 56 = .ok (.putfield 44, 3) := by decide +kernel
theorem dX0_readOut_59 : decode cX0_readOut 59 = .ok (.iload_n 3, 1) := by decide +kernel
theorem dX0_readOut_60 : decode cX0_readOut 60 = .ok (.ireturn, 1) := by decide +kernel
theorem dX0_afterRound_0 : decode cX0_afterRound 0 = .ok (.iload_n 1, 1) := by decide +kernel
theorem dX0_afterRound_1 : decode cX0_afterRound 1 = .ok (.istore_n 3, 1) := by decide +kernel
theorem dX0_afterRound_2 : decode cX0_afterRound 2 = .ok (.iconst 0, 1) := by decide +kernel
theorem dX0_afterRound_3 : decode cX0_afterRound 3 = .ok (.istore 4, 2) := by decide +kernel
theorem dX0_afterRound_5 : decode cX0_afterRound 5 = .ok (.iload 4, 2) := by decide +kernel
theorem dX0_afterRound_7 : decode cX0_afterRound 7 = .ok (.aload_n 0, 1) := by decide +kernel
theorem dX0_afterRound_8 : decode cX0_afterRound 8 = .ok (.getfield 53, 3) := by decide +kernel
theorem dX0_afterRound_11 : decode cX0_afterRound 11 = .ok (.if_icmp .ge 41, 3) := by decide +kernel
theorem dX0_afterRound_14 : decode cX0_afterRound 14 = .ok (.iload 4, 2) := by decide +kernel
theorem dX0_afterRound_16 : decode cX0_afterRound 16 = .ok (.iload_n 2, 1) := by decide +kernel
theorem dX0_afterRound_17 : decode cX0_afterRound 17 = .ok (.if_icmp .eq 29, 3) := by decide +kernel
theorem dX0_afterRound_20 : decode cX0_afterRound 20 = .ok (.aload_n 0, 1) := by decide +kernel
theorem dX0_afterRound_21 : decode cX0_afterRound 21 = .ok (.getfield 18, 3) := by decide +kernel
theorem dX0_afterRound_24 : decode cX0_afterRound 24 = .ok (.iload 4, 2) := by decide +kernel
theorem dX0_afterRound_26 : decode cX0_afterRound 26 = .ok (.iaload, 1) := by decide +kernel
theorem dX0_afterRound_27 : decode cX0_afterRound 27 = .ok (.iload_n 1, 1) := by decide +kernel
theorem dX0_afterRound_28 : decode cX0_afterRound 28 = .ok (.iconst (-1), 1) := by decide +kernel
theorem dX0_afterRound_29 : decode cX0_afterRound 29 = .ok (.ixor, 1) := by decide +kernel
theorem dX0_afterRound_30 : decode cX0_afterRound 30 = .ok (.iand, 1) := by decide +kernel
theorem dX0_afterRound_31 : decode cX0_afterRound 31 = .ok (.ifCond .ne 15, 3) := by decide +kernel
theorem dX0_afterRound_34 : decode cX0_afterRound 34 = .ok (.iload_n 3, 1) := by decide +kernel
theorem dX0_afterRound_35 : decode cX0_afterRound 35 = .ok (.iconst 1, 1) := by decide +kernel
theorem dX0_afterRound_36 : decode cX0_afterRound 36 = .ok (.aload_n 0, 1) := by decide +kernel
theorem dX0_afterRound_37 : decode cX0_afterRound 37 = .ok (.getfield 21, 3) := by decide +kernel
theorem dX0_afterRound_40 : decode cX0_afterRound 40 = .ok (.iload 4, 2) := by decide +kernel
theorem dX0_afterRound_42 : decode cX0_afterRound 42 = .ok (.iaload, 1) := by decide +kernel
theorem dX0_afterRound_43 : decode cX0_afterRound 43 = .ok (.ishl, 1) := by decide +kernel
theorem dX0_afterRound_44 : decode cX0_afterRound 44 = .ok (.ior, 1) := by decide +kernel
theorem dX0_afterRound_45 : decode cX0_afterRound 45 = .ok (.istore_n 3, 1) := by decide +kernel
theorem dX0_afterRound_46 : decode cX0_afterRound 46 = .ok (.iinc 4 1, 3) := by decide +kernel
theorem dX0_afterRound_49 : decode cX0_afterRound 49 = .ok (.goto (-44), 3) := by decide +kernel
theorem dX0_afterRound_52 : decode cX0_afterRound 52 = .ok (.iload_n 3, 1) := by decide +kernel
theorem dX0_afterRound_53 : decode cX0_afterRound 53 = .ok (.ireturn, 1) := by decide +kernel
theorem dX0_following_0 : decode cX0_following 0 = .ok (.iload_n 1, 1) := by decide +kernel
theorem dX0_following_1 : decode cX0_following 1 = .ok (.istore_n 3, 1) := by decide +kernel
theorem dX0_following_2 : decode cX0_following 2 = .ok (.iconst 0, 1) := by decide +kernel
theorem dX0_following_3 : decode cX0_following 3 = .ok (.istore 4, 2) := by decide +kernel
theorem dX0_following_5 : decode cX0_following 5 = .ok (.iload 4, 2) := by decide +kernel
theorem dX0_following_7 : decode cX0_following 7 = .ok (.bipush 12, 2) := by decide +kernel
theorem dX0_following_9 : decode cX0_following 9 = .ok (.if_icmp .ge 28, 3) := by decide +kernel
theorem dX0_following_12 : decode cX0_following 12 = .ok (.aload_n 0, 1) := by decide +kernel
theorem dX0_following_13 : decode cX0_following 13 = .ok (.iload_n 3, 1) := by decide +kernel
theorem dX0_following_14 : decode cX0_following 14 = .ok (.iload_n 2, 1) := by decide +kernel
theorem dX0_following_15 : decode cX0_following 15 = .ok (.invokevirtual 137, 3) := by decide +kernel
theorem dX0_following_18 : decode cX0_following 18 = .ok (.istore 5, 2) := by decide +kernel
theorem dX0_following_20 : decode cX0_following 20 = .ok (.iload 5, 2) := by decide +kernel
theorem dX0_following_22 : decode cX0_following 22 = .ok (.iload_n 3, 1) := by decide +kernel
theorem dX0_following_23 : decode cX0_following 23 = .ok (.if_icmp .ne 5, 3) := by decide +kernel
theorem dX0_following_26 : decode cX0_following 26 = .ok (.iload_n 3, 1) := by decide +kernel
theorem dX0_following_27 : decode cX0_following 27 = .ok (.ireturn, 1) := by decide +kernel
theorem dX0_following_28 : decode cX0_following 28 = .ok (.iload 5, 2) := by decide +kernel
theorem dX0_following_30 : decode cX0_following 30 = .ok (.istore_n 3, 1) := by decide +kernel
theorem dX0_following_31 : decode cX0_following 31 = .ok (.iinc 4 1, 3) := by decide +kernel
theorem dX0_following_34 : decode cX0_following 34 = .ok (.goto (-29), 3) := by decide +kernel
theorem dX0_following_37 : decode cX0_following 37 = .ok (.iload_n 3, 1) := by decide +kernel
theorem dX0_following_38 : decode cX0_following 38 = .ok (.ireturn, 1) := by decide +kernel
theorem dX0_stepsFrom_0 : decode cX0_stepsFrom 0 = .ok (.iload_n 1, 1) := by decide +kernel
theorem dX0_stepsFrom_1 : decode cX0_stepsFrom 1 = .ok (.istore_n 2, 1) := by decide +kernel
theorem dX0_stepsFrom_2 : decode cX0_stepsFrom 2 = .ok (.iconst 0, 1) := by decide +kernel
theorem dX0_stepsFrom_3 : decode cX0_stepsFrom 3 = .ok (.istore_n 3, 1) := by decide +kernel
theorem dX0_stepsFrom_4 : decode cX0_stepsFrom 4 = .ok (.iload_n 3, 1) := by decide +kernel
theorem dX0_stepsFrom_5 : decode cX0_stepsFrom 5 = .ok (.bipush 12, 2) := by decide +kernel
theorem dX0_stepsFrom_7 : decode cX0_stepsFrom 7 = .ok (.if_icmp .ge 28, 3) := by decide +kernel
theorem dX0_stepsFrom_10 : decode cX0_stepsFrom 10 = .ok (.aload_n 0, 1) := by decide +kernel
theorem dX0_stepsFrom_11 : decode cX0_stepsFrom 11 = .ok (.iload_n 2, 1) := by decide +kernel
theorem dX0_stepsFrom_12 : decode cX0_stepsFrom 12 = .ok (.iconst (-1), 1) := by decide +kernel
theorem dX0_stepsFrom_13 : decode cX0_stepsFrom 13 = .ok (.invokevirtual 137, 3) := by decide +kernel
theorem dX0_stepsFrom_16 : decode cX0_stepsFrom 16 = .ok (.istore 4, 2) := by decide +kernel
theorem dX0_stepsFrom_18 : decode cX0_stepsFrom 18 = .ok (.iload 4, 2) := by decide +kernel
theorem dX0_stepsFrom_20 : decode cX0_stepsFrom 20 = .ok (.iload_n 2, 1) := by decide +kernel
theorem dX0_stepsFrom_21 : decode cX0_stepsFrom 21 = .ok (.if_icmp .ne 5, 3) := by decide +kernel
theorem dX0_stepsFrom_24 : decode cX0_stepsFrom 24 = .ok (.iload_n 3, 1) := by decide +kernel
theorem dX0_stepsFrom_25 : decode cX0_stepsFrom 25 = .ok (.ireturn, 1) := by decide +kernel
theorem dX0_stepsFrom_26 : decode cX0_stepsFrom 26 = .ok (.iload 4, 2) := by decide +kernel
theorem dX0_stepsFrom_28 : decode cX0_stepsFrom 28 = .ok (.istore_n 2, 1) := by decide +kernel
theorem dX0_stepsFrom_29 : decode cX0_stepsFrom 29 = .ok (.iinc 3 1, 3) := by decide +kernel
theorem dX0_stepsFrom_32 : decode cX0_stepsFrom 32 = .ok (.goto (-28), 3) := by decide +kernel
theorem dX0_stepsFrom_35 : decode cX0_stepsFrom 35 = .ok (.bipush 12, 2) := by decide +kernel
theorem dX0_stepsFrom_37 : decode cX0_stepsFrom 37 = .ok (.ireturn, 1) := by decide +kernel
theorem dX0_followers_0 : decode cX0_followers 0 = .ok (.aload_n 0, 1) := by decide +kernel
theorem dX0_followers_1 : decode cX0_followers 1 = .ok (.aload_n 0, 1) := by decide +kernel
theorem dX0_followers_2 : decode cX0_followers 2 = .ok (.getfield 40, 3) := by decide +kernel
theorem dX0_followers_5 : decode cX0_followers 5 = .ok (.iconst (-1), 1) := by decide +kernel
theorem dX0_followers_6 : decode cX0_followers 6 = .ok (.invokevirtual 140, 3) := by decide +kernel
theorem dX0_followers_9 : decode cX0_followers 9 = .ok (.invokestatic 85, 3) := by decide +kernel
theorem dX0_followers_12 : decode cX0_followers 12 = .ok (.ireturn, 1) := by decide +kernel
theorem dX0_followersWith_0 : decode cX0_followersWith 0 = .ok (.aload_n 0, 1) := by decide +kernel
theorem dX0_followersWith_1 : decode cX0_followersWith 1 = .ok (.aload_n 0, 1) := by decide +kernel
theorem dX0_followersWith_2 : decode cX0_followersWith 2 = .ok (.iload_n 1, 1) := by decide +kernel
theorem dX0_followersWith_3 : decode cX0_followersWith 3 = .ok (.iload_n 2, 1) := by decide +kernel
theorem dX0_followersWith_4 : decode cX0_followersWith 4 = .ok (.invokevirtual 131, 3) := by decide +kernel
theorem dX0_followersWith_7 : decode cX0_followersWith 7 = .ok (.aload_n 0, 1) := by decide +kernel
theorem dX0_followersWith_8 : decode cX0_followersWith 8 = .ok (.getfield 15, 3) := by decide +kernel
theorem dX0_followersWith_11 : decode cX0_followersWith 11 = .ok (.iload_n 2, 1) := by decide +kernel
theorem dX0_followersWith_12 : decode cX0_followersWith 12 = .ok (.iaload, 1) := by decide +kernel
theorem dX0_followersWith_13 : decode cX0_followersWith 13 = .ok (.invokevirtual 134, 3) := by decide +kernel
theorem dX0_followersWith_16 : decode cX0_followersWith 16 = .ok (.bipush (-4), 2) := by decide +kernel
theorem dX0_followersWith_18 : decode cX0_followersWith 18 = .ok (.if_icmp .ne 8, 3) := by decide +kernel
theorem dX0_followersWith_21 : decode cX0_followersWith 21 = .ok (.aload_n 0, 1) := by decide +kernel
theorem dX0_followersWith_22 : decode cX0_followersWith 22 = .ok (.invokevirtual 143, 3) := by decide +kernel
theorem dX0_followersWith_25 : decode cX0_followersWith 25 = .ok (.ireturn, 1) := by decide +kernel
theorem dX0_followersWith_26 : decode cX0_followersWith 26 = .ok (.aload_n 0, 1) := by decide +kernel
theorem dX0_followersWith_27 : decode cX0_followersWith 27 = .ok (.invokevirtual 143, 3) := by decide +kernel
theorem dX0_followersWith_30 : decode cX0_followersWith 30 = .ok (.istore_n 3, 1) := by decide +kernel
theorem dX0_followersWith_31 : decode cX0_followersWith 31 = .ok (.aload_n 0, 1) := by decide +kernel
theorem dX0_followersWith_32 : decode cX0_followersWith 32 = .ok (.invokevirtual 147, 3) := by decide +kernel
theorem dX0_followersWith_35 : decode cX0_followersWith 35 = .ok (.iload_n 3, 1) := by decide +kernel
theorem dX0_followersWith_36 : decode cX0_followersWith 36 = .ok (.ireturn, 1) := by decide +kernel
theorem dX0_base_0 : decode cX0_base 0 = .ok (.aload_n 0, 1) := by decide +kernel
theorem dX0_base_1 : decode cX0_base 1 = .ok (.getfield 40, 3) := by decide +kernel
theorem dX0_base_4 : decode cX0_base 4 = .ok (.aload_n 0, 1) := by decide +kernel
theorem dX0_base_5 : decode cX0_base 5 = .ok (.invokevirtual 150, 3) := by decide +kernel
theorem dX0_base_8 : decode cX0_base 8 = .ok (.iand, 1) := by decide +kernel
theorem dX0_base_9 : decode cX0_base 9 = .ok (.istore_n 1, 1) := by decide +kernel
theorem dX0_base_10 : decode cX0_base 10 = .ok (.aload_n 0, 1) := by decide +kernel
theorem dX0_base_11 : decode cX0_base 11 = .ok (.getfield 40, 3) := by decide +kernel
theorem dX0_base_14 : decode cX0_base 14 = .ok (.istore_n 2, 1) := by decide +kernel
theorem dX0_base_15 : decode cX0_base 15 = .ok (.iconst 0, 1) := by decide +kernel
theorem dX0_base_16 : decode cX0_base 16 = .ok (.istore_n 3, 1) := by decide +kernel
theorem dX0_base_17 : decode cX0_base 17 = .ok (.iconst 0, 1) := by decide +kernel
theorem dX0_base_18 : decode cX0_base 18 = .ok (.istore 4, 2) := by decide +kernel
theorem dX0_base_20 : decode cX0_base 20 = .ok (.iload 4, 2) := by decide +kernel
theorem dX0_base_22 : decode cX0_base 22 = .ok (.iconst 1, 1) := by decide +kernel
theorem dX0_base_23 : decode cX0_base 23 = .ok (.iload_n 1, 1) := by decide +kernel
theorem dX0_base_24 : decode cX0_base 24 = .ok (.invokestatic 85, 3) := by decide +kernel
theorem dX0_base_27 : decode cX0_base 27 = .ok (.ishl, 1) := by decide +kernel
theorem dX0_base_28 : decode cX0_base 28 = .ok (.if_icmp .ge 59, 3) := by decide +kernel
theorem dX0_base_31 : decode cX0_base 31 = .ok (.iload_n 3, 1) := by decide +kernel
theorem dX0_base_32 : decode cX0_base 32 = .ok (.aload_n 0, 1) := by decide +kernel
theorem dX0_base_33 : decode cX0_base 33 = .ok (.getfield 40, 3) := by decide +kernel
theorem dX0_base_36 : decode cX0_base 36 = .ok (.iload_n 1, 1) := by decide +kernel
theorem dX0_base_37 : decode cX0_base 37 = .ok (.iconst (-1), 1) := by decide +kernel
theorem dX0_base_38 : decode cX0_base 38 = .ok (.ixor, 1) := by decide +kernel
theorem dX0_base_39 : decode cX0_base 39 = .ok (.iand, 1) := by decide +kernel
theorem dX0_base_40 : decode cX0_base 40 = .ok (.ior, 1) := by decide +kernel
theorem dX0_base_41 : decode cX0_base 41 = .ok (.istore 5, 2) := by decide +kernel
theorem dX0_base_43 : decode cX0_base 43 = .ok (.iload 5, 2) := by decide +kernel
theorem dX0_base_45 : decode cX0_base 45 = .ok (.invokestatic 85, 3) := by decide +kernel
theorem dX0_base_48 : decode cX0_base 48 = .ok (.iload_n 2, 1) := by decide +kernel
theorem dX0_base_49 : decode cX0_base 49 = .ok (.invokestatic 85, 3) := by decide +kernel
theorem dX0_base_52 : decode cX0_base 52 = .ok (.if_icmp .ge 23, 3) := by decide +kernel
theorem dX0_base_55 : decode cX0_base 55 = .ok (.aload_n 0, 1) := by decide +kernel
theorem dX0_base_56 : decode cX0_base 56 = .ok (.getfield 40, 3) := by decide +kernel
theorem dX0_base_59 : decode cX0_base 59 = .ok (.aload_n 0, 1) := by decide +kernel
theorem dX0_base_60 : decode cX0_base 60 = .ok (.iload 5, 2) := by decide +kernel
theorem dX0_base_62 : decode cX0_base 62 = .ok (.iconst (-1), 1) := by decide +kernel
theorem dX0_base_63 : decode cX0_base 63 = .ok (.invokevirtual 140, 3) := by decide +kernel
theorem dX0_base_66 : decode cX0_base 66 = .ok (.iconst (-1), 1) := by decide +kernel
theorem dX0_base_67 : decode cX0_base 67 = .ok (.ixor, 1) := by decide +kernel
theorem dX0_base_68 : decode cX0_base 68 = .ok (.iand, 1) := by decide +kernel
theorem dX0_base_69 : decode cX0_base 69 = .ok (.ifCond .ne 6, 3) := by decide +kernel
theorem dX0_base_72 : decode cX0_base 72 = .ok (.iload 5, 2) := by decide +kernel
theorem dX0_base_74 : decode cX0_base 74 = .ok (.istore_n 2, 1) := by decide +kernel
theorem dX0_base_75 : decode cX0_base 75 = .ok (.iload_n 3, 1) := by decide +kernel
theorem dX0_base_76 : decode cX0_base 76 = .ok (.iload_n 1, 1) := by decide +kernel
theorem dX0_base_77 : decode cX0_base 77 = .ok (.invokestatic 153, 3) := by decide +kernel
theorem dX0_base_80 : decode cX0_base 80 = .ok (.istore_n 3, 1) := by decide +kernel
theorem dX0_base_81 : decode cX0_base 81 = .ok (.iinc 4 1, 3) := by decide +kernel
theorem dX0_base_84 : decode cX0_base 84 = .ok (.goto (-64), 3) := by decide +kernel
theorem dX0_base_87 : decode cX0_base 87 = .ok (.iload_n 2, 1) := by decide +kernel
theorem dX0_base_88 : decode cX0_base 88 = .ok (.ireturn, 1) := by decide +kernel
theorem dX0_peace_0 : decode cX0_peace 0 = .ok (.aload_n 0, 1) := by decide +kernel
theorem dX0_peace_1 : decode cX0_peace 1 = .ok (.iconst 0, 1) := by decide +kernel
theorem dX0_peace_2 : decode cX0_peace 2 = .ok (.iload_n 1, 1) := by decide +kernel
theorem dX0_peace_3 : decode cX0_peace 3 = .ok (.invokevirtual 140, 3) := by decide +kernel
theorem dX0_peace_6 : decode cX0_peace 6 = .ok (.invokestatic 156, 3) := by decide +kernel
theorem dX0_peace_9 : decode cX0_peace 9 = .ok (.ifCond .eq 5, 3) := by decide +kernel
theorem dX0_peace_12 : decode cX0_peace 12 = .ok (.iconst (-1), 1) := by decide +kernel
theorem dX0_peace_13 : decode cX0_peace 13 = .ok (.ireturn, 1) := by decide +kernel
theorem dX0_peace_14 : decode cX0_peace 14 = .ok (.iconst 0, 1) := by decide +kernel
theorem dX0_peace_15 : decode cX0_peace 15 = .ok (.istore_n 2, 1) := by decide +kernel
theorem dX0_peace_16 : decode cX0_peace 16 = .ok (.iconst 0, 1) := by decide +kernel
theorem dX0_peace_17 : decode cX0_peace 17 = .ok (.istore_n 3, 1) := by decide +kernel
theorem dX0_peace_18 : decode cX0_peace 18 = .ok (.iconst 0, 1) := by decide +kernel
theorem dX0_peace_19 : decode cX0_peace 19 = .ok (.istore 4, 2) := by decide +kernel
theorem dX0_peace_21 : decode cX0_peace 21 = .ok (.iload 4, 2) := by decide +kernel
theorem dX0_peace_23 : decode cX0_peace 23 = .ok (.iconst 1, 1) := by decide +kernel
theorem dX0_peace_24 : decode cX0_peace 24 = .ok (.aload_n 0, 1) := by decide +kernel
theorem dX0_peace_25 : decode cX0_peace 25 = .ok (.getfield 40, 3) := by decide +kernel
theorem dX0_peace_28 : decode cX0_peace 28 = .ok (.invokestatic 85, 3) := by decide +kernel
theorem dX0_peace_31 : decode cX0_peace 31 = .ok (.ishl, 1) := by decide +kernel
theorem dX0_peace_32 : decode cX0_peace 32 = .ok (.if_icmp .ge 50, 3) := by decide +kernel
theorem dX0_peace_35 : decode cX0_peace 35 = .ok (.iload_n 3, 1) := by decide +kernel
theorem dX0_peace_36 : decode cX0_peace 36 = .ok (.invokestatic 85, 3) := by decide +kernel
theorem dX0_peace_39 : decode cX0_peace 39 = .ok (.iload_n 2, 1) := by decide +kernel
theorem dX0_peace_40 : decode cX0_peace 40 = .ok (.invokestatic 85, 3) := by decide +kernel
theorem dX0_peace_43 : decode cX0_peace 43 = .ok (.if_icmp .le 24, 3) := by decide +kernel
theorem dX0_peace_46 : decode cX0_peace 46 = .ok (.iload_n 3, 1) := by decide +kernel
theorem dX0_peace_47 : decode cX0_peace 47 = .ok (.invokestatic 156, 3) := by decide +kernel
theorem dX0_peace_50 : decode cX0_peace 50 = .ok (.ifCond .ne 17, 3) := by decide +kernel
theorem dX0_peace_53 : decode cX0_peace 53 = .ok (.aload_n 0, 1) := by decide +kernel
theorem dX0_peace_54 : decode cX0_peace 54 = .ok (.iload_n 3, 1) := by decide +kernel
theorem dX0_peace_55 : decode cX0_peace 55 = .ok (.iload_n 1, 1) := by decide +kernel
theorem dX0_peace_56 : decode cX0_peace 56 = .ok (.invokevirtual 140, 3) := by decide +kernel
theorem dX0_peace_59 : decode cX0_peace 59 = .ok (.invokestatic 156, 3) := by decide +kernel
theorem dX0_peace_62 : decode cX0_peace 62 = .ok (.ifCond .ne 5, 3) := by decide +kernel
theorem dX0_peace_65 : decode cX0_peace 65 = .ok (.iload_n 3, 1) := by decide +kernel
theorem dX0_peace_66 : decode cX0_peace 66 = .ok (.istore_n 2, 1) := by decide +kernel
theorem dX0_peace_67 : decode cX0_peace 67 = .ok (.iload_n 3, 1) := by decide +kernel
theorem dX0_peace_68 : decode cX0_peace 68 = .ok (.aload_n 0, 1) := by decide +kernel
theorem dX0_peace_69 : decode cX0_peace 69 = .ok (.getfield 40, 3) := by decide +kernel
theorem dX0_peace_72 : decode cX0_peace 72 = .ok (.invokestatic 153, 3) := by decide +kernel
theorem dX0_peace_75 : decode cX0_peace 75 = .ok (.istore_n 3, 1) := by decide +kernel
theorem dX0_peace_76 : decode cX0_peace 76 = .ok (.iinc 4 1, 3) := by decide +kernel
theorem dX0_peace_79 : decode cX0_peace 79 = .ok (.goto (-58), 3) := by decide +kernel
theorem dX0_peace_82 : decode cX0_peace 82 = .ok (.iload_n 2, 1) := by decide +kernel
theorem dX0_peace_83 : decode cX0_peace 83 = .ok (.ireturn, 1) := by decide +kernel
theorem dX0_strike_0 : decode cX0_strike 0 = .ok (.iconst (-1), 1) := by decide +kernel
theorem dX0_strike_1 : decode cX0_strike 1 = .ok (.istore_n 1, 1) := by decide +kernel
theorem dX0_strike_2 : decode cX0_strike 2 = .ok (.iconst (-1), 1) := by decide +kernel
theorem dX0_strike_3 : decode cX0_strike 3 = .ok (.istore_n 2, 1) := by decide +kernel
theorem dX0_strike_4 : decode cX0_strike 4 = .ok (.iconst 0, 1) := by decide +kernel
theorem dX0_strike_5 : decode cX0_strike 5 = .ok (.istore_n 3, 1) := by decide +kernel
theorem dX0_strike_6 : decode cX0_strike 6 = .ok (.iload_n 3, 1) := by decide +kernel
theorem dX0_strike_7 : decode cX0_strike 7 = .ok (.aload_n 0, 1) := by decide +kernel
theorem dX0_strike_8 : decode cX0_strike 8 = .ok (.getfield 53, 3) := by decide +kernel
theorem dX0_strike_11 : decode cX0_strike 11 = .ok (.if_icmp .ge 35, 3) := by decide +kernel
theorem dX0_strike_14 : decode cX0_strike 14 = .ok (.aload_n 0, 1) := by decide +kernel
theorem dX0_strike_15 : decode cX0_strike 15 = .ok (.iload_n 3, 1) := by decide +kernel
theorem dX0_strike_16 : decode cX0_strike 16 = .ok (.invokevirtual 159, 3) := by decide +kernel
theorem dX0_strike_19 : decode cX0_strike 19 = .ok (.invokestatic 162, 3) := by decide +kernel
theorem dX0_strike_22 : decode cX0_strike 22 = .ok (.istore 4, 2) := by decide +kernel
theorem dX0_strike_24 : decode cX0_strike 24 = .ok (.iload_n 1, 1) := by decide +kernel
theorem dX0_strike_25 : decode cX0_strike 25 = .ok (.iconst (-1), 1) := by decide +kernel
theorem dX0_strike_26 : decode cX0_strike 26 = .ok (.if_icmp .eq 9, 3) := by decide +kernel
theorem dX0_strike_29 : decode cX0_strike 29 = .ok (.iload 4, 2) := by decide +kernel
theorem dX0_strike_31 : decode cX0_strike 31 = .ok (.iload_n 2, 1) := by decide +kernel
theorem dX0_strike_32 : decode cX0_strike 32 = .ok (.if_icmp .le 8, 3) := by decide +kernel
theorem dX0_strike_35 : decode cX0_strike 35 = .ok (.iload_n 3, 1) := by decide +kernel
theorem dX0_strike_36 : decode cX0_strike 36 = .ok (.istore_n 1, 1) := by decide +kernel
theorem dX0_strike_37 : decode cX0_strike 37 = .ok (.iload 4, 2) := by decide +kernel
theorem dX0_strike_39 : decode cX0_strike 39 = .ok (.istore_n 2, 1) := by decide +kernel
theorem dX0_strike_40 : decode cX0_strike 40 = .ok (.iinc 3 1, 3) := by decide +kernel
theorem dX0_strike_43 : decode cX0_strike 43 = .ok (.goto (-37), 3) := by decide +kernel
theorem dX0_strike_46 : decode cX0_strike 46 = .ok (.iload_n 1, 1) := by decide +kernel
theorem dX0_strike_47 : decode cX0_strike 47 = .ok (.ireturn, 1) := by decide +kernel
theorem dX0_vain_0 : decode cX0_vain 0 = .ok (.iconst 0, 1) := by decide +kernel
theorem dX0_vain_1 : decode cX0_vain 1 = .ok (.istore_n 1, 1) := by decide +kernel
theorem dX0_vain_2 : decode cX0_vain 2 = .ok (.iconst 0, 1) := by decide +kernel
theorem dX0_vain_3 : decode cX0_vain 3 = .ok (.istore_n 2, 1) := by decide +kernel
theorem dX0_vain_4 : decode cX0_vain 4 = .ok (.iload_n 2, 1) := by decide +kernel
theorem dX0_vain_5 : decode cX0_vain 5 = .ok (.aload_n 0, 1) := by decide +kernel
theorem dX0_vain_6 : decode cX0_vain 6 = .ok (.getfield 53, 3) := by decide +kernel
theorem dX0_vain_9 : decode cX0_vain 9 = .ok (.if_icmp .ge 38, 3) := by decide +kernel
theorem dX0_vain_12 : decode cX0_vain 12 = .ok (.aload_n 0, 1) := by decide +kernel
theorem dX0_vain_13 : decode cX0_vain 13 = .ok (.aload_n 0, 1) := by decide +kernel
theorem dX0_vain_14 : decode cX0_vain 14 = .ok (.getfield 18, 3) := by decide +kernel
theorem dX0_vain_17 : decode cX0_vain 17 = .ok (.iload_n 2, 1) := by decide +kernel
theorem dX0_vain_18 : decode cX0_vain 18 = .ok (.iaload, 1) := by decide +kernel
theorem dX0_vain_19 : decode cX0_vain 19 = .ok (.iload_n 2, 1) := by decide +kernel
theorem dX0_vain_20 : decode cX0_vain 20 = .ok (.invokevirtual 140, 3) := by decide +kernel
theorem dX0_vain_23 : decode cX0_vain 23 = .ok (.iconst 1, 1) := by decide +kernel
theorem dX0_vain_24 : decode cX0_vain 24 = .ok (.aload_n 0, 1) := by decide +kernel
theorem dX0_vain_25 : decode cX0_vain 25 = .ok (.getfield 21, 3) := by decide +kernel
theorem dX0_vain_28 : decode cX0_vain 28 = .ok (.iload_n 2, 1) := by decide +kernel
theorem dX0_vain_29 : decode cX0_vain 29 = .ok (.iaload, 1) := by decide +kernel
theorem dX0_vain_30 : decode cX0_vain 30 = .ok (.ishl, 1) := by decide +kernel
theorem dX0_vain_31 : decode cX0_vain 31 = .ok (.iand, 1) := by decide +kernel
theorem dX0_vain_32 : decode cX0_vain 32 = .ok (.ifCond .eq 9, 3) := by decide +kernel
theorem dX0_vain_35 : decode cX0_vain 35 = .ok (.iload_n 1, 1) := by decide +kernel
theorem dX0_vain_36 : decode cX0_vain 36 = .ok (.iconst 1, 1) := by decide +kernel
theorem dX0_vain_37 : decode cX0_vain 37 = .ok (.iload_n 2, 1) := by decide +kernel
theorem dX0_vain_38 : decode cX0_vain 38 = .ok (.ishl, 1) := by decide +kernel
theorem dX0_vain_39 : decode cX0_vain 39 = .ok (.ior, 1) := by decide +kernel
theorem dX0_vain_40 : decode cX0_vain 40 = .ok (.istore_n 1, 1) := by decide +kernel
theorem dX0_vain_41 : decode cX0_vain 41 = .ok (.iinc 2 1, 3) := by decide +kernel
theorem dX0_vain_44 : decode cX0_vain 44 = .ok (.goto (-40), 3) := by decide +kernel
theorem dX0_vain_47 : decode cX0_vain 47 = .ok (.iload_n 1, 1) := by decide +kernel
theorem dX0_vain_48 : decode cX0_vain 48 = .ok (.ireturn, 1) := by decide +kernel
theorem dX0_causeOf_0 : decode cX0_causeOf 0 = .ok (.aload_n 0, 1) := by decide +kernel
theorem dX0_causeOf_1 : decode cX0_causeOf 1 = .ok (.invokevirtual 150, 3) := by decide +kernel
theorem dX0_causeOf_4 : decode cX0_causeOf 4 = .ok (.iconst 1, 1) := by decide +kernel
theorem dX0_causeOf_5 : decode cX0_causeOf 5 = .ok (.iload_n 1, 1) := by decide +kernel
theorem dX0_causeOf_6 : decode cX0_causeOf 6 = .ok (.ishl, 1) := by decide +kernel
theorem dX0_causeOf_7 : decode cX0_causeOf 7 = .ok (.iand, 1) := by decide +kernel
theorem dX0_causeOf_8 : decode cX0_causeOf 8 = .ok (.ifCond .ne 5, 3) := by decide +kernel
theorem dX0_causeOf_11 : decode cX0_causeOf 11 = .ok (.iconst (-1), 1) := by decide +kernel
theorem dX0_causeOf_12 : decode cX0_causeOf 12 = .ok (.ireturn, 1) := by decide +kernel
theorem dX0_causeOf_13 : decode cX0_causeOf 13 = .ok (.aload_n 0, 1) := by decide +kernel
theorem dX0_causeOf_14 : decode cX0_causeOf 14 = .ok (.invokevirtual 165, 3) := by decide +kernel
theorem dX0_causeOf_17 : decode cX0_causeOf 17 = .ok (.iconst 1, 1) := by decide +kernel
theorem dX0_causeOf_18 : decode cX0_causeOf 18 = .ok (.iload_n 1, 1) := by decide +kernel
theorem dX0_causeOf_19 : decode cX0_causeOf 19 = .ok (.ishl, 1) := by decide +kernel
theorem dX0_causeOf_20 : decode cX0_causeOf 20 = .ok (.iconst (-1), 1) := by decide +kernel
theorem dX0_causeOf_21 : decode cX0_causeOf 21 = .ok (.ixor, 1) := by decide +kernel
theorem dX0_causeOf_22 : decode cX0_causeOf 22 = .ok (.iand, 1) := by decide +kernel
theorem dX0_causeOf_23 : decode cX0_causeOf 23 = .ok (.istore_n 2, 1) := by decide +kernel
theorem dX0_causeOf_24 : decode cX0_causeOf 24 = .ok (.iload_n 2, 1) := by decide +kernel
theorem dX0_causeOf_25 : decode cX0_causeOf 25 = .ok (.istore_n 3, 1) := by decide +kernel
theorem dX0_causeOf_26 : decode cX0_causeOf 26 = .ok (.iconst 0, 1) := by decide +kernel
theorem dX0_causeOf_27 : decode cX0_causeOf 27 = .ok (.istore 4, 2) := by decide +kernel
theorem dX0_causeOf_29 : decode cX0_causeOf 29 = .ok (.iconst 0, 1) := by decide +kernel
theorem dX0_causeOf_30 : decode cX0_causeOf 30 = .ok (.istore 5, 2) := by decide +kernel
theorem dX0_causeOf_32 : decode cX0_causeOf 32 = .ok (.iload 5, 2) := by decide +kernel
theorem dX0_causeOf_34 : decode cX0_causeOf 34 = .ok (.iconst 1, 1) := by decide +kernel
theorem dX0_causeOf_35 : decode cX0_causeOf 35 = .ok (.iload_n 2, 1) := by decide +kernel
theorem dX0_causeOf_36 : decode cX0_causeOf 36 = .ok (.invokestatic 85, 3) := by decide +kernel
theorem dX0_causeOf_39 : decode cX0_causeOf 39 = .ok (.ishl, 1) := by decide +kernel
theorem dX0_causeOf_40 : decode cX0_causeOf 40 = .ok (.if_icmp .ge 46, 3) := by decide +kernel
theorem dX0_causeOf_43 : decode cX0_causeOf 43 = .ok (.iload 4, 2) := by decide +kernel
theorem dX0_causeOf_45 : decode cX0_causeOf 45 = .ok (.invokestatic 85, 3) := by decide +kernel
theorem dX0_causeOf_48 : decode cX0_causeOf 48 = .ok (.iload_n 3, 1) := by decide +kernel
theorem dX0_causeOf_49 : decode cX0_causeOf 49 = .ok (.invokestatic 85, 3) := by decide +kernel
theorem dX0_causeOf_52 : decode cX0_causeOf 52 = .ok (.if_icmp .ge 20, 3) := by decide +kernel
theorem dX0_causeOf_55 : decode cX0_causeOf 55 = .ok (.aload_n 0, 1) := by decide +kernel
theorem dX0_causeOf_56 : decode cX0_causeOf 56 = .ok (.iload 4, 2) := by decide +kernel
theorem dX0_causeOf_58 : decode cX0_causeOf 58 = .ok (.iconst (-1), 1) := by decide +kernel
theorem dX0_causeOf_59 : decode cX0_causeOf 59 = .ok (.invokevirtual 140, 3) := by decide +kernel
theorem dX0_causeOf_62 : decode cX0_causeOf 62 = .ok (.iconst 1, 1) := by decide +kernel
theorem dX0_causeOf_63 : decode cX0_causeOf 63 = .ok (.iload_n 1, 1) := by decide +kernel
theorem dX0_causeOf_64 : decode cX0_causeOf 64 = .ok (.ishl, 1) := by decide +kernel
theorem dX0_causeOf_65 : decode cX0_causeOf 65 = .ok (.iand, 1) := by decide +kernel
theorem dX0_causeOf_66 : decode cX0_causeOf 66 = .ok (.ifCond .eq 6, 3) := by decide +kernel
theorem dX0_causeOf_69 : decode cX0_causeOf 69 = .ok (.iload 4, 2) := by decide +kernel
theorem dX0_causeOf_71 : decode cX0_causeOf 71 = .ok (.istore_n 3, 1) := by decide +kernel
theorem dX0_causeOf_72 : decode cX0_causeOf 72 = .ok (.iload 4, 2) := by decide +kernel
theorem dX0_causeOf_74 : decode cX0_causeOf 74 = .ok (.iload_n 2, 1) := by decide +kernel
theorem dX0_causeOf_75 : decode cX0_causeOf 75 = .ok (.invokestatic 153, 3) := by decide +kernel
theorem dX0_causeOf_78 : decode cX0_causeOf 78 = .ok (.istore 4, 2) := by decide +kernel
theorem dX0_causeOf_80 : decode cX0_causeOf 80 = .ok (.iinc 5 1, 3) := by decide +kernel
theorem dX0_causeOf_83 : decode cX0_causeOf 83 = .ok (.goto (-51), 3) := by decide +kernel
theorem dX0_causeOf_86 : decode cX0_causeOf 86 = .ok (.iload_n 3, 1) := by decide +kernel
theorem dX0_causeOf_87 : decode cX0_causeOf 87 = .ok (.ireturn, 1) := by decide +kernel
theorem dX0_usedByReasons_0 : decode cX0_usedByReasons 0 = .ok (.iconst 0, 1) := by decide +kernel
theorem dX0_usedByReasons_1 : decode cX0_usedByReasons 1 = .ok (.istore_n 1, 1) := by decide +kernel
theorem dX0_usedByReasons_2 : decode cX0_usedByReasons 2 = .ok (.iconst 0, 1) := by decide +kernel
theorem dX0_usedByReasons_3 : decode cX0_usedByReasons 3 = .ok (.istore_n 2, 1) := by decide +kernel
theorem dX0_usedByReasons_4 : decode cX0_usedByReasons 4 = .ok (.iload_n 2, 1) := by decide +kernel
theorem dX0_usedByReasons_5 : decode cX0_usedByReasons 5 = .ok (.aload_n 0, 1) := by decide +kernel
theorem dX0_usedByReasons_6 : decode cX0_usedByReasons 6 = .ok (.getfield 53, 3) := by decide +kernel
theorem dX0_usedByReasons_9 : decode cX0_usedByReasons 9 = .ok (.if_icmp .ge 18, 3) := by decide +kernel
theorem dX0_usedByReasons_12 : decode cX0_usedByReasons 12 = .ok (.iload_n 1, 1) := by decide +kernel
theorem dX0_usedByReasons_13 : decode cX0_usedByReasons 13 = .ok (.aload_n 0, 1) := by decide +kernel
theorem dX0_usedByReasons_14 : decode cX0_usedByReasons 14 = .ok (.getfield 18, 3) := by decide +kernel
theorem dX0_usedByReasons_17 : decode cX0_usedByReasons 17 = .ok (.iload_n 2, 1) := by decide +kernel
theorem dX0_usedByReasons_18 : decode cX0_usedByReasons 18 = .ok (.iaload, 1) := by decide +kernel
theorem dX0_usedByReasons_19 : decode cX0_usedByReasons 19 = .ok (.ior, 1) := by decide +kernel
theorem dX0_usedByReasons_20 : decode cX0_usedByReasons 20 = .ok (.istore_n 1, 1) := by decide +kernel
theorem dX0_usedByReasons_21 : decode cX0_usedByReasons 21 = .ok (.iinc 2 1, 3) := by decide +kernel
theorem dX0_usedByReasons_24 : decode cX0_usedByReasons 24 = .ok (.goto (-20), 3) := by decide +kernel
theorem dX0_usedByReasons_27 : decode cX0_usedByReasons 27 = .ok (.iload_n 1, 1) := by decide +kernel
theorem dX0_usedByReasons_28 : decode cX0_usedByReasons 28 = .ok (.ireturn, 1) := by decide +kernel
theorem dX0_borneByReasons_0 : decode cX0_borneByReasons 0 = .ok (.iconst 0, 1) := by decide +kernel
theorem dX0_borneByReasons_1 : decode cX0_borneByReasons 1 = .ok (.istore_n 1, 1) := by decide +kernel
theorem dX0_borneByReasons_2 : decode cX0_borneByReasons 2 = .ok (.iconst 0, 1) := by decide +kernel
theorem dX0_borneByReasons_3 : decode cX0_borneByReasons 3 = .ok (.istore_n 2, 1) := by decide +kernel
theorem dX0_borneByReasons_4 : decode cX0_borneByReasons 4 = .ok (.iload_n 2, 1) := by decide +kernel
theorem dX0_borneByReasons_5 : decode cX0_borneByReasons 5 = .ok (.aload_n 0, 1) := by decide +kernel
theorem dX0_borneByReasons_6 : decode cX0_borneByReasons 6 = .ok (.getfield 53, 3) := by decide +kernel
theorem dX0_borneByReasons_9 : decode cX0_borneByReasons 9 = .ok (.if_icmp .ge 20, 3) := by decide +kernel
theorem dX0_borneByReasons_12 : decode cX0_borneByReasons 12 = .ok (.iload_n 1, 1) := by decide +kernel
theorem dX0_borneByReasons_13 : decode cX0_borneByReasons 13 = .ok (.iconst 1, 1) := by decide +kernel
theorem dX0_borneByReasons_14 : decode cX0_borneByReasons 14 = .ok (.aload_n 0, 1) := by decide +kernel
theorem dX0_borneByReasons_15 : decode cX0_borneByReasons 15 = .ok (.getfield 21, 3) := by decide +kernel
theorem dX0_borneByReasons_18 : decode cX0_borneByReasons 18 = .ok (.iload_n 2, 1) := by decide +kernel
theorem dX0_borneByReasons_19 : decode cX0_borneByReasons 19 = .ok (.iaload, 1) := by decide +kernel
theorem dX0_borneByReasons_20 : decode cX0_borneByReasons 20 = .ok (.ishl, 1) := by decide +kernel
theorem dX0_borneByReasons_21 : decode cX0_borneByReasons 21 = .ok (.ior, 1) := by decide +kernel
theorem dX0_borneByReasons_22 : decode cX0_borneByReasons 22 = .ok (.istore_n 1, 1) := by decide +kernel
theorem dX0_borneByReasons_23 : decode cX0_borneByReasons 23 = .ok (.iinc 2 1, 3) := by decide +kernel
theorem dX0_borneByReasons_26 : decode cX0_borneByReasons 26 = .ok (.goto (-22), 3) := by decide +kernel
theorem dX0_borneByReasons_29 : decode cX0_borneByReasons 29 = .ok (.iload_n 1, 1) := by decide +kernel
theorem dX0_borneByReasons_30 : decode cX0_borneByReasons 30 = .ok (.ireturn, 1) := by decide +kernel
theorem dX0_setAfter_0 : decode cX0_setAfter 0 = .ok (.iload_n 0, 1) := by decide +kernel
theorem dX0_setAfter_1 : decode cX0_setAfter 1 = .ok (.iload_n 1, 1) := by decide +kernel
theorem dX0_setAfter_2 : decode cX0_setAfter 2 = .ok (.isub, 1) := by decide +kernel
theorem dX0_setAfter_3 : decode cX0_setAfter 3 = .ok (.iload_n 1, 1) := by decide +kernel
theorem dX0_setAfter_4 : decode cX0_setAfter 4 = .ok (.iand, 1) := by decide +kernel
theorem dX0_setAfter_5 : decode cX0_setAfter 5 = .ok (.ireturn, 1) := by decide +kernel
theorem dX0_cupToRead_0 : decode cX0_cupToRead 0 = .ok (.aload_n 0, 1) := by decide +kernel
theorem dX0_cupToRead_1 : decode cX0_cupToRead 1 = .ok (.getfield 53, 3) := by decide +kernel
theorem dX0_cupToRead_4 : decode cX0_cupToRead 4 = .ok (.bipush 12, 2) := by decide +kernel
theorem dX0_cupToRead_6 : decode cX0_cupToRead 6 = .ok (.if_icmp .lt 5, 3) := by decide +kernel
theorem dX0_cupToRead_9 : decode cX0_cupToRead 9 = .ok (.iconst (-1), 1) := by decide +kernel
theorem dX0_cupToRead_10 : decode cX0_cupToRead 10 = .ok (.ireturn, 1) := by decide +kernel
theorem dX0_cupToRead_11 : decode cX0_cupToRead 11 = .ok (.iconst (-1), 1) := by decide +kernel
theorem dX0_cupToRead_12 : decode cX0_cupToRead 12 = .ok (.istore_n 2, 1) := by decide +kernel
theorem dX0_cupToRead_13 : decode cX0_cupToRead 13 = .ok (.iconst (-1), 1) := by decide +kernel
theorem dX0_cupToRead_14 : decode cX0_cupToRead 14 = .ok (.istore_n 3, 1) := by decide +kernel
theorem dX0_cupToRead_15 : decode cX0_cupToRead 15 = .ok (.iconst 0, 1) := by decide +kernel
theorem dX0_cupToRead_16 : decode cX0_cupToRead 16 = .ok (.istore 4, 2) := by decide +kernel
theorem dX0_cupToRead_18 : decode cX0_cupToRead 18 = .ok (.iload 4, 2) := by decide +kernel
theorem dX0_cupToRead_20 : decode cX0_cupToRead 20 = .ok (.aload_n 0, 1) := by decide +kernel
theorem dX0_cupToRead_21 : decode cX0_cupToRead 21 = .ok (.getfield 50, 3) := by decide +kernel
theorem dX0_cupToRead_24 : decode cX0_cupToRead 24 = .ok (.if_icmp .ge 30, 3) := by decide +kernel
theorem dX0_cupToRead_27 : decode cX0_cupToRead 27 = .ok (.aload_n 0, 1) := by decide +kernel
theorem dX0_cupToRead_28 : decode cX0_cupToRead 28 = .ok (.iload_n 1, 1) := by decide +kernel
theorem dX0_cupToRead_29 : decode cX0_cupToRead 29 = .ok (.iload 4, 2) := by decide +kernel
theorem dX0_cupToRead_31 : decode cX0_cupToRead 31 = .ok (.invokevirtual 168, 3) := by decide +kernel
theorem dX0_cupToRead_34 : decode cX0_cupToRead 34 = .ok (.istore 5, 2) := by decide +kernel
theorem dX0_cupToRead_36 : decode cX0_cupToRead 36 = .ok (.iload 5, 2) := by decide +kernel
theorem dX0_cupToRead_38 : decode cX0_cupToRead 38 = .ok (.iload_n 3, 1) := by decide +kernel
theorem dX0_cupToRead_39 : decode cX0_cupToRead 39 = .ok (.if_icmp .le 9, 3) := by decide +kernel
theorem dX0_cupToRead_42 : decode cX0_cupToRead 42 = .ok (.iload 4, 2) := by decide +kernel
theorem dX0_cupToRead_44 : decode cX0_cupToRead 44 = .ok (.istore_n 2, 1) := by decide +kernel
theorem dX0_cupToRead_45 : decode cX0_cupToRead 45 = .ok (.iload 5, 2) := by decide +kernel
theorem dX0_cupToRead_47 : decode cX0_cupToRead 47 = .ok (.istore_n 3, 1) := by decide +kernel
theorem dX0_cupToRead_48 : decode cX0_cupToRead 48 = .ok (.iinc 4 1, 3) := by decide +kernel
