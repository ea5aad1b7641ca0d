theorem dX6_added2_60 : decode cX6_added2 60 = .ok (.iload_n 3, 1) := by decide +kernel
theorem dX6_added2_61 : decode cX6_added2 61 = .ok (.isub, 1) := by decide +kernel
theorem dX6_added2_62 : decode cX6_added2 62 = .ok (.istore_n 1, 1) := by decide +kernel
theorem dX6_added2_63 : decode cX6_added2 63 = .ok (.goto (-58), 3) := by decide +kernel
theorem dX6_added2_66 : decode cX6_added2 66 = .ok (.iload_n 1, 1) := by decide +kernel
theorem dX6_added2_67 : decode cX6_added2 67 = .ok (.ireturn, 1) := by decide +kernel
theorem dX6_not2_0 : decode cX6_not2 0 = .ok (.aload_n 0, 1) := by decide +kernel
theorem dX6_not2_1 : decode cX6_not2 1 = .ok (.bipush 110, 2) := by decide +kernel
theorem dX6_not2_3 : decode cX6_not2 3 = .ok (.bipush 111, 2) := by decide +kernel
theorem dX6_not2_5 : decode cX6_not2 5 = .ok (.bipush 116, 2) := by decide +kernel
theorem dX6_not2_7 : decode cX6_not2 7 = .ok (.iconst 0, 1) := by decide +kernel
theorem dX6_not2_8 : decode cX6_not2 8 = .ok (.iconst 0, 1) := by decide +kernel
theorem dX6_not2_9 : decode cX6_not2 9 = .ok (.iconst 0, 1) := by decide +kernel
theorem dX6_not2_10 : decode cX6_not2 10 = .ok (.iconst 0, 1) := by decide +kernel
theorem dX6_not2_11 : decode cX6_not2 11 = .ok (.iconst 0, 1) := by decide +kernel
theorem dX6_not2_12 : decode cX6_not2 12 = .ok (.invokevirtual 189, 3) := by decide +kernel
theorem dX6_not2_15 : decode cX6_not2 15 = .ok (.ifCond .eq 37, 3) := by decide +kernel
theorem dX6_not2_18 : decode cX6_not2 18 = .ok (.aload_n 0, 1) := by decide +kernel
theorem dX6_not2_19 : decode cX6_not2 19 = .ok (.invokevirtual 214, 3) := by decide +kernel
theorem dX6_not2_22 : decode cX6_not2 22 = .ok (.ifCond .ne 5, 3) := by decide +kernel
theorem dX6_not2_25 : decode cX6_not2 25 = .ok (.iconst 0, 1) := by decide +kernel
theorem dX6_not2_26 : decode cX6_not2 26 = .ok (.ireturn, 1) := by decide +kernel
theorem dX6_not2_27 : decode cX6_not2 27 = .ok (.aload_n 0, 1) := by decide +kernel
theorem dX6_not2_28 : decode cX6_not2 28 = .ok (.invokevirtual 271, 3) := by decide +kernel
theorem dX6_not2_31 : decode cX6_not2 31 = .ok (.istore_n 1, 1) := by decide +kernel
theorem dX6_not2_32 : decode cX6_not2 32 = .ok (.aload_n 0, 1) := by decide +kernel
theorem dX6_not2_33 : decode cX6_not2 33 = .ok (.dup, 1) := by decide +kernel
theorem dX6_not2_34 : decode cX6_not2 34 = .ok (.getfield 180, 3) := by decide +kernel
theorem dX6_not2_37 : decode cX6_not2 37 = .ok (.iconst 1, 1) := by decide +kernel
theorem dX6_not2_38 : decode cX6_not2 38 = .ok (.isub, 1) := by decide +kernel
theorem dX6_not2_39 : decode cX6_not2 39 = .ok (.putfield 180, 3) := by decide +kernel
theorem dX6_not2_42 : decode cX6_not2 42 = .ok (.iload_n 1, 1) := by decide +kernel
theorem dX6_not2_43 : decode cX6_not2 43 = .ok (.ifCond .ne 7, 3) := by decide +kernel
theorem dX6_not2_46 : decode cX6_not2 46 = .ok (.iconst 1, 1) := by decide +kernel
theorem dX6_not2_47 : decode cX6_not2 47 = .ok (.goto 4, 3) := by decide +kernel
theorem dX6_not2_50 : decode cX6_not2 50 = .ok (.iconst 0, 1) := by decide +kernel
theorem dX6_not2_51 : decode cX6_not2 51 = .ok (.ireturn, 1) := by decide +kernel
theorem dX6_not2_52 : decode cX6_not2 52 = .ok (.aload_n 0, 1) := by decide +kernel
theorem dX6_not2_53 : decode cX6_not2 53 = .ok (.invokevirtual 286, 3) := by decide +kernel
theorem dX6_not2_56 : decode cX6_not2 56 = .ok (.istore_n 1, 1) := by decide +kernel
theorem dX6_not2_57 : decode cX6_not2 57 = .ok (.aload_n 0, 1) := by decide +kernel
theorem dX6_not2_58 : decode cX6_not2 58 = .ok (.bipush 60, 2) := by decide +kernel
theorem dX6_not2_60 : decode cX6_not2 60 = .ok (.invokevirtual 211, 3) := by decide +kernel
theorem dX6_not2_63 : decode cX6_not2 63 = .ok (.ifCond .ne 14, 3) := by decide +kernel
theorem dX6_not2_66 : decode cX6_not2 66 = .ok (.aload_n 0, 1) := by decide +kernel
theorem dX6_not2_67 : decode cX6_not2 67 = .ok (.bipush 61, 2) := by decide +kernel
theorem dX6_not2_69 : decode cX6_not2 69 = .ok (.invokevirtual 211, 3) := by decide +kernel
theorem dX6_not2_72 : decode cX6_not2 72 = .ok (.ifCond .ne 5, 3) := by decide +kernel
theorem dX6_not2_75 : decode cX6_not2 75 = .ok (.iload_n 1, 1) := by decide +kernel
theorem dX6_not2_76 : decode cX6_not2 76 = .ok (.ireturn, 1) := by decide +kernel
theorem dX6_not2_77 : decode cX6_not2 77 = .ok (.aload_n 0, 1) := by decide +kernel
theorem dX6_not2_78 : decode cX6_not2 78 = .ok (.getfield 164, 3) := by decide +kernel
theorem dX6_not2_81 : decode cX6_not2 81 = .ok (.ldc2_w 233, 3) := by decide +kernel
theorem dX6_not2_84 : decode cX6_not2 84 = .ok (.lcmp, 1) := by decide +kernel
theorem dX6_not2_85 : decode cX6_not2 85 = .ok (.ifCond .ne 7, 3) := by decide +kernel
theorem dX6_not2_88 : decode cX6_not2 88 = .ok (.iconst 1, 1) := by decide +kernel
theorem dX6_not2_89 : decode cX6_not2 89 = .ok (.goto 4, 3) := by decide +kernel
theorem dX6_not2_92 : decode cX6_not2 92 = .ok (.iconst 0, 1) := by decide +kernel
theorem dX6_not2_93 : decode cX6_not2 93 = .ok (.istore_n 2, 1) := by decide +kernel
theorem dX6_not2_94 : decode cX6_not2 94 = .ok (.aload_n 0, 1) := by decide +kernel
theorem dX6_not2_95 : decode cX6_not2 95 = .ok (.invokevirtual 186, 3) := by decide +kernel
theorem dX6_not2_98 : decode cX6_not2 98 = .ok (.aload_n 0, 1) := by decide +kernel
theorem dX6_not2_99 : decode cX6_not2 99 = .ok (.invokevirtual 286, 3) := by decide +kernel
theorem dX6_not2_102 : decode cX6_not2 102 = .ok (.istore_n 3, 1) := by decide +kernel
theorem dX6_not2_103 : decode cX6_not2 103 = .ok (.iload_n 2, 1) := by decide +kernel
theorem dX6_not2_104 : decode cX6_not2 104 = .ok (.ifCond .eq 11, 3) := by decide +kernel
theorem dX6_not2_107 : decode cX6_not2 107 = .ok (.iload_n 1, 1) := by decide +kernel
theorem dX6_not2_108 : decode cX6_not2 108 = .ok (.iload_n 3, 1) := by decide +kernel
theorem dX6_not2_109 : decode cX6_not2 109 = .ok (.if_icmp .ge 15, 3) := by decide +kernel
theorem dX6_not2_112 : decode cX6_not2 112 = .ok (.goto 8, 3) := by decide +kernel
theorem dX6_not2_115 : decode cX6_not2 115 = .ok (.iload_n 1, 1) := by decide +kernel
theorem dX6_not2_116 : decode cX6_not2 116 = .ok (.iload_n 3, 1) := by decide +kernel
theorem dX6_not2_117 : decode cX6_not2 117 = .ok (.if_icmp .ne 7, 3) := by decide +kernel
theorem dX6_not2_120 : decode cX6_not2 120 = .ok (.iconst 1, 1) := by decide +kernel
theorem dX6_not2_121 : decode cX6_not2 121 = .ok (.goto 4, 3) := by decide +kernel
theorem dX6_not2_124 : decode cX6_not2 124 = .ok (.iconst 0, 1) := by decide +kernel
theorem dX6_not2_125 : decode cX6_not2 125 = .ok (.ireturn, 1) := by decide +kernel
theorem dX6_both2_0 : decode cX6_both2 0 = .ok (.aload_n 0, 1) := by decide +kernel
theorem dX6_both2_1 : decode cX6_both2 1 = .ok (.invokevirtual 289, 3) := by decide +kernel
theorem dX6_both2_4 : decode cX6_both2 4 = .ok (.istore_n 1, 1) := by decide +kernel
theorem dX6_both2_5 : decode cX6_both2 5 = .ok (.aload_n 0, 1) := by decide +kernel
theorem dX6_both2_6 : decode cX6_both2 6 = .ok (.bipush 97, 2) := by decide +kernel
theorem dX6_both2_8 : decode cX6_both2 8 = .ok (.bipush 110, 2) := by decide +kernel
theorem dX6_both2_10 : decode cX6_both2 10 = .ok (.bipush 100, 2) := by decide +kernel
theorem dX6_both2_12 : decode cX6_both2 12 = .ok (.iconst 0, 1) := by decide +kernel
theorem dX6_both2_13 : decode cX6_both2 13 = .ok (.iconst 0, 1) := by decide +kernel
theorem dX6_both2_14 : decode cX6_both2 14 = .ok (.iconst 0, 1) := by decide +kernel
theorem dX6_both2_15 : decode cX6_both2 15 = .ok (.iconst 0, 1) := by decide +kernel
theorem dX6_both2_16 : decode cX6_both2 16 = .ok (.iconst 0, 1) := by decide +kernel
theorem dX6_both2_17 : decode cX6_both2 17 = .ok (.invokevirtual 189, 3) := by decide +kernel
theorem dX6_both2_20 : decode cX6_both2 20 = .ok (.ifCond .eq 29, 3) := by decide +kernel
theorem dX6_both2_23 : decode cX6_both2 23 = .ok (.aload_n 0, 1) := by decide +kernel
theorem dX6_both2_24 : decode cX6_both2 24 = .ok (.invokevirtual 186, 3) := by decide +kernel
theorem dX6_both2_27 : decode cX6_both2 27 = .ok (.aload_n 0, 1) := by decide +kernel
theorem dX6_both2_28 : decode cX6_both2 28 = .ok (.invokevirtual 289, 3) := by decide +kernel
theorem dX6_both2_31 : decode cX6_both2 31 = .ok (.istore_n 2, 1) := by decide +kernel
theorem dX6_both2_32 : decode cX6_both2 32 = .ok (.iload_n 1, 1) := by decide +kernel
theorem dX6_both2_33 : decode cX6_both2 33 = .ok (.ifCond .eq 11, 3) := by decide +kernel
theorem dX6_both2_36 : decode cX6_both2 36 = .ok (.iload_n 2, 1) := by decide +kernel
theorem dX6_both2_37 : decode cX6_both2 37 = .ok (.ifCond .eq 7, 3) := by decide +kernel
theorem dX6_both2_40 : decode cX6_both2 40 = .ok (.iconst 1, 1) := by decide +kernel
theorem dX6_both2_41 : decode cX6_both2 41 = .ok (.goto 4, 3) := by decide +kernel
theorem dX6_both2_44 : decode cX6_both2 44 = .ok (.iconst 0, 1) := by decide +kernel
theorem dX6_both2_45 : decode cX6_both2 45 = .ok (.istore_n 1, 1) := by decide +kernel
theorem dX6_both2_46 : decode cX6_both2 46 = .ok (.goto (-41), 3) := by decide +kernel
theorem dX6_both2_49 : decode cX6_both2 49 = .ok (.iload_n 1, 1) := by decide +kernel
theorem dX6_both2_50 : decode cX6_both2 50 = .ok (.ireturn, 1) := by decide +kernel
theorem dX6_either2_0 : decode cX6_either2 0 = .ok (.aload_n 0, 1) := by decide +kernel
theorem dX6_either2_1 : decode cX6_either2 1 = .ok (.invokevirtual 292, 3) := by decide +kernel
theorem dX6_either2_4 : decode cX6_either2 4 = .ok (.istore_n 1, 1) := by decide +kernel
theorem dX6_either2_5 : decode cX6_either2 5 = .ok (.aload_n 0, 1) := by decide +kernel
theorem dX6_either2_6 : decode cX6_either2 6 = .ok (.bipush 111, 2) := by decide +kernel
theorem dX6_either2_8 : decode cX6_either2 8 = .ok (.bipush 114, 2) := by decide +kernel
theorem dX6_either2_10 : decode cX6_either2 10 = .ok (.iconst 0, 1) := by decide +kernel
theorem dX6_either2_11 : decode cX6_either2 11 = .ok (.iconst 0, 1) := by decide +kernel
theorem dX6_either2_12 : decode cX6_either2 12 = .ok (.iconst 0, 1) := by decide +kernel
theorem dX6_either2_13 : decode cX6_either2 13 = .ok (.iconst 0, 1) := by decide +kernel
theorem dX6_either2_14 : decode cX6_either2 14 = .ok (.iconst 0, 1) := by decide +kernel
theorem dX6_either2_15 : decode cX6_either2 15 = .ok (.iconst 0, 1) := by decide +kernel
theorem dX6_either2_16 : decode cX6_either2 16 = .ok (.invokevirtual 189, 3) := by decide +kernel
theorem dX6_either2_19 : decode cX6_either2 19 = .ok (.ifCond .eq 29, 3) := by decide +kernel
theorem dX6_either2_22 : decode cX6_either2 22 = .ok (.aload_n 0, 1) := by decide +kernel
theorem dX6_either2_23 : decode cX6_either2 23 = .ok (.invokevirtual 186, 3) := by decide +kernel
theorem dX6_either2_26 : decode cX6_either2 26 = .ok (.aload_n 0, 1) := by decide +kernel
theorem dX6_either2_27 : decode cX6_either2 27 = .ok (.invokevirtual 292, 3) := by decide +kernel
theorem dX6_either2_30 : decode cX6_either2 30 = .ok (.istore_n 2, 1) := by decide +kernel
theorem dX6_either2_31 : decode cX6_either2 31 = .ok (.iload_n 1, 1) := by decide +kernel
theorem dX6_either2_32 : decode cX6_either2 32 = .ok (.ifCond .ne 7, 3) := by decide +kernel
theorem dX6_either2_35 : decode cX6_either2 35 = .ok (.iload_n 2, 1) := by decide +kernel
theorem dX6_either2_36 : decode cX6_either2 36 = .ok (.ifCond .eq 7, 3) := by decide +kernel
theorem dX6_either2_39 : decode cX6_either2 39 = .ok (.iconst 1, 1) := by decide +kernel
theorem dX6_either2_40 : decode cX6_either2 40 = .ok (.goto 4, 3) := by decide +kernel
theorem dX6_either2_43 : decode cX6_either2 43 = .ok (.iconst 0, 1) := by decide +kernel
theorem dX6_either2_44 : decode cX6_either2 44 = .ok (.istore_n 1, 1) := by decide +kernel
theorem dX6_either2_45 : decode cX6_either2 45 = .ok (.goto (-40), 3) := by decide +kernel
theorem dX6_either2_48 : decode cX6_either2 48 = .ok (.iload_n 1, 1) := by decide +kernel
theorem dX6_either2_49 : decode cX6_either2 49 = .ok (.ireturn, 1) := by decide +kernel
theorem dX6_atom1_0 : decode cX6_atom1 0 = .ok (.iconst 0, 1) := by decide +kernel
theorem dX6_atom1_1 : decode cX6_atom1 1 = .ok (.istore_n 1, 1) := by decide +kernel
theorem dX6_atom1_2 : decode cX6_atom1 2 = .ok (.aload_n 0, 1) := by decide +kernel
theorem dX6_atom1_3 : decode cX6_atom1 3 = .ok (.bipush 45, 2) := by decide +kernel
theorem dX6_atom1_5 : decode cX6_atom1 5 = .ok (.invokevirtual 211, 3) := by decide +kernel
theorem dX6_atom1_8 : decode cX6_atom1 8 = .ok (.ifCond .eq 29, 3) := by decide +kernel
theorem dX6_atom1_11 : decode cX6_atom1 11 = .ok (.aload_n 0, 1) := by decide +kernel
theorem dX6_atom1_12 : decode cX6_atom1 12 = .ok (.invokevirtual 214, 3) := by decide +kernel
theorem dX6_atom1_15 : decode cX6_atom1 15 = .ok (.ifCond .eq 146, 3) := by decide +kernel
theorem dX6_atom1_18 : decode cX6_atom1 18 = .ok (.aload_n 0, 1) := by decide +kernel
theorem dX6_atom1_19 : decode cX6_atom1 19 = .ok (.invokevirtual 280, 3) := by decide +kernel
theorem dX6_atom1_22 : decode cX6_atom1 22 = .ok (.ineg, 1) := by decide +kernel
theorem dX6_atom1_23 : decode cX6_atom1 23 = .ok (.istore_n 1, 1) := by decide +kernel
theorem dX6_atom1_24 : decode cX6_atom1 24 = .ok (.aload_n 0, 1) := by decide +kernel
theorem dX6_atom1_25 : decode cX6_atom1 25 = .ok (.dup, 1) := by decide +kernel
theorem dX6_atom1_26 : decode cX6_atom1 26 = .ok (.getfield 180, 3) := by decide +kernel
theorem dX6_atom1_29 : decode cX6_atom1 29 = .ok (.iconst 1, 1) := by decide +kernel
theorem dX6_atom1_30 : decode cX6_atom1 30 = .ok (.isub, 1) := by decide +kernel
theorem dX6_atom1_31 : decode cX6_atom1 31 = .ok (.putfield 180, 3) := by decide +kernel
theorem dX6_atom1_34 : decode cX6_atom1 34 = .ok (.goto 127, 3) := by decide +kernel
theorem dX6_atom1_37 : decode cX6_atom1 37 = .ok (.aload_n 0, 1) := by decide +kernel
theorem dX6_atom1_38 : decode cX6_atom1 38 = .ok (.bipush 40, 2) := by decide +kernel
theorem dX6_atom1_40 : decode cX6_atom1 40 = .ok (.invokevirtual 211, 3) := by decide +kernel
theorem dX6_atom1_43 : decode cX6_atom1 43 = .ok (.ifCond .eq 52, 3) := by decide +kernel
theorem dX6_atom1_46 : decode cX6_atom1 46 = .ok (.aload_n 0, 1) := by decide +kernel
theorem dX6_atom1_47 : decode cX6_atom1 47 = .ok (.invokevirtual 214, 3) := by decide +kernel
theorem dX6_atom1_50 : decode cX6_atom1 50 = .ok (.ifCond .eq 111, 3) := by decide +kernel
theorem dX6_atom1_53 : decode cX6_atom1 53 = .ok (.aload_n 0, 1) := by decide +kernel
theorem dX6_atom1_54 : decode cX6_atom1 54 = .ok (.invokevirtual 295, 3) := by decide +kernel
theorem dX6_atom1_57 : decode cX6_atom1 57 = .ok (.istore_n 1, 1) := by decide +kernel
theorem dX6_atom1_58 : decode cX6_atom1 58 = .ok (.aload_n 0, 1) := by decide +kernel
theorem dX6_atom1_59 : decode cX6_atom1 59 = .ok (.bipush 41, 2) := by decide +kernel
theorem dX6_atom1_61 : decode cX6_atom1 61 = .ok (.invokevirtual 211, 3) := by decide +kernel
theorem dX6_atom1_64 : decode cX6_atom1 64 = .ok (.ifCond .ne 7, 3) := by decide +kernel
theorem dX6_atom1_67 : decode cX6_atom1 67 = .ok (.aload_n 0, 1) := by decide +kernel
theorem dX6_atom1_68 : decode cX6_atom1 68 = .ok (.invokevirtual 183, 3) := by decide +kernel
theorem dX6_atom1_71 : decode cX6_atom1 71 = .ok (.aload_n 0, 1) := by decide +kernel
theorem dX6_atom1_72 : decode cX6_atom1 72 = .ok (.dup, 1) := by decide +kernel
theorem dX6_atom1_73 : decode cX6_atom1 73 = .ok (.getfield 180, 3) := by decide +kernel
theorem dX6_atom1_76 : decode cX6_atom1 76 = .ok (.iconst 1, 1) := by decide +kernel
theorem dX6_atom1_77 : decode cX6_atom1 77 = .ok (.isub, 1) := by decide +kernel
theorem dX6_atom1_78 : decode cX6_atom1 78 = .ok (.putfield 180, 3) := by decide +kernel
theorem dX6_atom1_81 : decode cX6_atom1 81 = .ok (.aload_n 0, 1) := by decide +kernel
theorem dX6_atom1_82 : decode cX6_atom1 82 = .ok (.getfield 170, 3) := by decide +kernel
theorem dX6_atom1_85 : decode cX6_atom1 85 = .ok (.ifCond .ne 76, 3) := by decide +kernel
theorem dX6_atom1_88 : decode cX6_atom1 88 = .ok (.aload_n 0, 1) := by decide +kernel
theorem dX6_atom1_89 : decode cX6_atom1 89 = .ok (.invokevirtual 186, 3) := by decide +kernel
theorem dX6_atom1_92 : decode cX6_atom1 92 = .ok (.goto 69, 3) := by decide +kernel
theorem dX6_atom1_95 : decode cX6_atom1 95 = .ok (.aload_n 0, 1) := by decide +kernel
theorem dX6_atom1_96 : decode cX6_atom1 96 = .ok (.getfield 170, 3) := by decide +kernel
theorem dX6_atom1_99 : decode cX6_atom1 99 = .ok (.ifCond .ne 24, 3) := by decide +kernel
theorem dX6_atom1_102 : decode cX6_atom1 102 = .ok (.aload_n 0, 1) := by decide +kernel
theorem dX6_atom1_103 : decode cX6_atom1 103 = .ok (.getfield 153, 3) := by decide +kernel
theorem dX6_atom1_106 : decode cX6_atom1 106 = .ok (.iconst 2, 1) := by decide +kernel
theorem dX6_atom1_107 : decode cX6_atom1 107 = .ok (.if_icmp .ne 16, 3) := by decide +kernel
theorem dX6_atom1_110 : decode cX6_atom1 110 = .ok (.aload_n 0, 1) := by decide +kernel
theorem dX6_atom1_111 : decode cX6_atom1 111 = .ok (.getfield 164, 3) := by decide +kernel
theorem dX6_atom1_114 : decode cX6_atom1 114 = .ok (.l2i, 1) := by decide +kernel
theorem dX6_atom1_115 : decode cX6_atom1 115 = .ok (.istore_n 1, 1) := by decide +kernel
theorem dX6_atom1_116 : decode cX6_atom1 116 = .ok (.aload_n 0, 1) := by decide +kernel
theorem dX6_atom1_117 : decode cX6_atom1 117 = .ok (.invokevirtual 186, 3) := by decide +kernel
theorem dX6_atom1_120 : decode cX6_atom1 120 = .ok (.goto 41, 3) := by decide +kernel
theorem dX6_atom1_123 : decode cX6_atom1 123 = .ok (.aload_n 0, 1) := by decide +kernel
theorem dX6_atom1_124 : decode cX6_atom1 124 = .ok (.getfield 170, 3) := by decide +kernel
theorem dX6_atom1_127 : decode cX6_atom1 127 = .ok (.ifCond .ne 30, 3) := by decide +kernel
theorem dX6_atom1_130 : decode cX6_atom1 130 = .ok (.aload_n 0, 1) := by decide +kernel
theorem dX6_atom1_131 : decode cX6_atom1 131 = .ok (.getfield 153, 3) := by decide +kernel
theorem dX6_atom1_134 : decode cX6_atom1 134 = .ok (.iconst 1, 1) := by decide +kernel
theorem dX6_atom1_135 : decode cX6_atom1 135 = .ok (.if_icmp .ne 22, 3) := by decide +kernel
theorem dX6_atom1_138 : decode cX6_atom1 138 = .ok (.aload_n 0, 1) := by decide +kernel
theorem dX6_atom1_139 : decode cX6_atom1 139 = .ok (.invokevirtual 218, 3) := by decide +kernel
theorem dX6_atom1_142 : decode cX6_atom1 142 = .ok (.istore_n 1, 1) := by decide +kernel
theorem dX6_atom1_143 : decode cX6_atom1 143 = .ok (.aload_n 0, 1) := by decide +kernel
theorem dX6_atom1_144 : decode cX6_atom1 144 = .ok (.getfield 170, 3) := by decide +kernel
theorem dX6_atom1_147 : decode cX6_atom1 147 = .ok (.ifCond .ne 14, 3) := by decide +kernel
theorem dX6_atom1_150 : decode cX6_atom1 150 = .ok (.aload_n 0, 1) := by decide +kernel
theorem dX6_atom1_151 : decode cX6_atom1 151 = .ok (.invokevirtual 186, 3) := by decide +kernel
theorem dX6_atom1_154 : decode cX6_atom1 154 = .ok (.goto 7, 3) := by decide +kernel
theorem dX6_atom1_157 : decode cX6_atom1 157 = .ok (.aload_n 0, 1) := by decide +kernel
theorem dX6_atom1_158 : decode cX6_atom1 158 = .ok (.invokevirtual 183, 3) := by decide +kernel
theorem dX6_atom1_161 : decode cX6_atom1 161 = .ok (.iload_n 1, 1) := by decide +kernel
theorem dX6_atom1_162 : decode cX6_atom1 162 = .ok (.ireturn, 1) := by decide +kernel
theorem dX6_term1_0 : decode cX6_term1 0 = .ok (.aload_n 0, 1) := by decide +kernel
theorem dX6_term1_1 : decode cX6_term1 1 = .ok (.invokevirtual 298, 3) := by decide +kernel
theorem dX6_term1_4 : decode cX6_term1 4 = .ok (.istore_n 1, 1) := by decide +kernel
theorem dX6_term1_5 : decode cX6_term1 5 = .ok (.aload_n 0, 1) := by decide +kernel
theorem dX6_term1_6 : decode cX6_term1 6 = .ok (.bipush 42, 2) := by decide +kernel
theorem dX6_term1_8 : decode cX6_term1 8 = .ok (.invokevirtual 211, 3) := by decide +kernel
theorem dX6_term1_11 : decode cX6_term1 11 = .ok (.ifCond .eq 17, 3) := by decide +kernel
theorem dX6_term1_14 : decode cX6_term1 14 = .ok (.aload_n 0, 1) := by decide +kernel
theorem dX6_term1_15 : decode cX6_term1 15 = .ok (.invokevirtual 186, 3) := by decide +kernel
theorem dX6_term1_18 : decode cX6_term1 18 = .ok (.iload_n 1, 1) := by decide +kernel
theorem dX6_term1_19 : decode cX6_term1 19 = .ok (.aload_n 0, 1) := by decide +kernel
theorem dX6_term1_20 : decode cX6_term1 20 = .ok (.invokevirtual 298, 3) := by decide +kernel
theorem dX6_term1_23 : decode cX6_term1 23 = .ok (.imul, 1) := by decide +kernel
theorem dX6_term1_24 : decode cX6_term1 24 = .ok (.istore_n 1, 1) := by decide +kernel
theorem dX6_term1_25 : decode cX6_term1 25 = .ok (.goto (-20), 3) := by decide +kernel
theorem dX6_term1_28 : decode cX6_term1 28 = .ok (.iload_n 1, 1) := by decide +kernel
theorem dX6_term1_29 : decode cX6_term1 29 = .ok (.ireturn, 1) := by decide +kernel
theorem dX6_added1_0 : decode cX6_added1 0 = .ok (.aload_n 0, 1) := by decide +kernel
theorem dX6_added1_1 : decode cX6_added1 1 = .ok (.invokevirtual 301, 3) := by decide +kernel
theorem dX6_added1_4 : decode cX6_added1 4 = .ok (.istore_n 1, 1) := by decide +kernel
theorem dX6_added1_5 : decode cX6_added1 5 = .ok (.aload_n 0, 1) := by decide +kernel
theorem dX6_added1_6 : decode cX6_added1 6 = .ok (.bipush 43, 2) := by decide +kernel
theorem dX6_added1_8 : decode cX6_added1 8 = .ok (.invokevirtual 211, 3) := by decide +kernel
theorem dX6_added1_11 : decode cX6_added1 11 = .ok (.ifCond .ne 12, 3) := by decide +kernel
theorem dX6_added1_14 : decode cX6_added1 14 = .ok (.aload_n 0, 1) := by decide +kernel
theorem dX6_added1_15 : decode cX6_added1 15 = .ok (.bipush 45, 2) := by decide +kernel
theorem dX6_added1_17 : decode cX6_added1 17 = .ok (.invokevirtual 211, 3) := by decide +kernel
theorem dX6_added1_20 : decode cX6_added1 20 = .ok (.ifCond .eq 46, 3) := by decide +kernel
theorem dX6_added1_23 : decode cX6_added1 23 = .ok (.aload_n 0, 1) := by decide +kernel
theorem dX6_added1_24 : decode cX6_added1 24 = .ok (.getfield 164, 3) := by decide +kernel
theorem dX6_added1_27 : decode cX6_added1 27 = .ok (.ldc2_w 228, 3) := by decide +kernel
theorem dX6_added1_30 : decode cX6_added1 30 = .ok (.lcmp, 1) := by decide +kernel
theorem dX6_added1_31 : decode cX6_added1 31 = .ok (.ifCond .ne 7, 3) := by decide +kernel
theorem dX6_added1_34 : decode cX6_added1 34 = .ok (.iconst 1, 1) := by decide +kernel
theorem dX6_added1_35 : decode cX6_added1 35 = .ok (.goto 4, 3) := by decide +kernel
theorem dX6_added1_38 : decode cX6_added1 38 = .ok (.iconst 0, 1) := by decide +kernel
theorem dX6_added1_39 : decode cX6_added1 39 = .ok (.istore_n 2, 1) := by decide +kernel
theorem dX6_added1_40 : decode cX6_added1 40 = .ok (.aload_n 0, 1) := by decide +kernel
theorem dX6_added1_41 : decode cX6_added1 41 = .ok (.invokevirtual 186, 3) := by decide +kernel
theorem dX6_added1_44 : decode cX6_added1 44 = .ok (.aload_n 0, 1) := by decide +kernel
theorem dX6_added1_45 : decode cX6_added1 45 = .ok (.invokevirtual 301, 3) := by decide +kernel
theorem dX6_added1_48 : decode cX6_added1 48 = .ok (.istore_n 3, 1) := by decide +kernel
theorem dX6_added1_49 : decode cX6_added1 49 = .ok (.iload_n 2, 1) := by decide +kernel
theorem dX6_added1_50 : decode cX6_added1 50 = .ok (.ifCond .eq 9, 3) := by decide +kernel
theorem dX6_added1_53 : decode cX6_added1 53 = .ok (.iload_n 1, 1) := by decide +kernel
theorem dX6_added1_54 : decode cX6_added1 54 = .ok (.iload_n 3, 1) := by decide +kernel
theorem dX6_added1_55 : decode cX6_added1 55 = .ok (.iadd, 1) := by decide +kernel
theorem dX6_added1_56 : decode cX6_added1 56 = .ok (.goto 6, 3) := by decide +kernel
theorem dX6_added1_59 : decode cX6_added1 59 = .ok (.iload_n 1, 1) := by decide +kernel
theorem dX6_added1_60 : decode cX6_added1 60 = .ok (.iload_n 3, 1) := by decide +kernel
theorem dX6_added1_61 : decode cX6_added1 61 = .ok (.isub, 1) := by decide +kernel
theorem dX6_added1_62 : decode cX6_added1 62 = .ok (.istore_n 1, 1) := by decide +kernel
theorem dX6_added1_63 : decode cX6_added1 63 = .ok (.goto (-58), 3) := by decide +kernel
theorem dX6_added1_66 : decode cX6_added1 66 = .ok (.iload_n 1, 1) := by decide +kernel
theorem dX6_added1_67 : decode cX6_added1 67 = .ok (.ireturn, 1) := by decide +kernel
theorem dX6_not1_0 : decode cX6_not1 0 = .ok (.aload_n 0, 1) := by decide +kernel
theorem dX6_not1_1 : decode cX6_not1 1 = .ok (.bipush 110, 2) := by decide +kernel
theorem dX6_not1_3 : decode cX6_not1 3 = .ok (.bipush 111, 2) := by decide +kernel
theorem dX6_not1_5 : decode cX6_not1 5 = .ok (.bipush 116, 2) := by decide +kernel
theorem dX6_not1_7 : decode cX6_not1 7 = .ok (.iconst 0, 1) := by decide +kernel
theorem dX6_not1_8 : decode cX6_not1 8 = .ok (.iconst 0, 1) := by decide +kernel
theorem dX6_not1_9 : decode cX6_not1 9 = .ok (.iconst 0, 1) := by decide +kernel
theorem dX6_not1_10 : decode cX6_not1 10 = .ok (.iconst 0, 1) := by decide +kernel
theorem dX6_not1_11 : decode cX6_not1 11 = .ok (.iconst 0, 1) := by decide +kernel
theorem dX6_not1_12 : decode cX6_not1 12 = .ok (.invokevirtual 189, 3) := by decide +kernel
theorem dX6_not1_15 : decode cX6_not1 15 = .ok (.ifCond .eq 37, 3) := by decide +kernel
theorem dX6_not1_18 : decode cX6_not1 18 = .ok (.aload_n 0, 1) := by decide +kernel
theorem dX6_not1_19 : decode cX6_not1 19 = .ok (.invokevirtual 214, 3) := by decide +kernel
theorem dX6_not1_22 : decode cX6_not1 22 = .ok (.ifCond .ne 5, 3) := by decide +kernel
theorem dX6_not1_25 : decode cX6_not1 25 = .ok (.iconst 0, 1) := by decide +kernel
theorem dX6_not1_26 : decode cX6_not1 26 = .ok (.ireturn, 1) := by decide +kernel
theorem dX6_not1_27 : decode cX6_not1 27 = .ok (.aload_n 0, 1) := by decide +kernel
theorem dX6_not1_28 : decode cX6_not1 28 = .ok (.invokevirtual 289, 3) := by decide +kernel
theorem dX6_not1_31 : decode cX6_not1 31 = .ok (.istore_n 1, 1) := by decide +kernel
theorem dX6_not1_32 : decode cX6_not1 32 = .ok (.aload_n 0, 1) := by decide +kernel
theorem dX6_not1_33 : decode cX6_not1 33 = .ok (.dup, 1) := by decide +kernel
theorem dX6_not1_34 : decode cX6_not1 34 = .ok (.getfield 180, 3) := by decide +kernel
theorem dX6_not1_37 : decode cX6_not1 37 = .ok (.iconst 1, 1) := by decide +kernel
theorem dX6_not1_38 : decode cX6_not1 38 = .ok (.isub, 1) := by decide +kernel
theorem dX6_not1_39 : decode cX6_not1 39 = .ok (.putfield 180, 3) := by decide +kernel
theorem dX6_not1_42 : decode cX6_not1 42 = .ok (.iload_n 1, 1) := by decide +kernel
theorem dX6_not1_43 : decode cX6_not1 43 = .ok (.ifCond .ne 7, 3) := by decide +kernel
theorem dX6_not1_46 : decode cX6_not1 46 = .ok (.iconst 1, 1) := by decide +kernel
theorem dX6_not1_47 : decode cX6_not1 47 = .ok (.goto 4, 3) := by decide +kernel
theorem dX6_not1_50 : decode cX6_not1 50 = .ok (.iconst 0, 1) := by decide +kernel
theorem dX6_not1_51 : decode cX6_not1 51 = .ok (.ireturn, 1) := by decide +kernel
theorem dX6_not1_52 : decode cX6_not1 52 = .ok (.aload_n 0, 1) := by decide +kernel
theorem dX6_not1_53 : decode cX6_not1 53 = .ok (.invokevirtual 304, 3) := by decide +kernel
theorem dX6_not1_56 : decode cX6_not1 56 = .ok (.istore_n 1, 1) := by decide +kernel
theorem dX6_not1_57 : decode cX6_not1 57 = .ok (.aload_n 0, 1) := by decide +kernel
theorem dX6_not1_58 : decode cX6_not1 58 = .ok (.bipush 60, 2) := by decide +kernel
theorem dX6_not1_60 : decode cX6_not1 60 = .ok (.invokevirtual 211, 3) := by decide +kernel
theorem dX6_not1_63 : decode cX6_not1 63 = .ok (.ifCond .ne 14, 3) := by decide +kernel
theorem dX6_not1_66 : decode cX6_not1 66 = .ok (.aload_n 0, 1) := by decide +kernel
theorem dX6_not1_67 : decode cX6_not1 67 = .ok (.bipush 61, 2) := by decide +kernel
theorem dX6_not1_69 : decode cX6_not1 69 = .ok (.invokevirtual 211, 3) := by decide +kernel
theorem dX6_not1_72 : decode cX6_not1 72 = .ok (.ifCond .ne 5, 3) := by decide +kernel
theorem dX6_not1_75 : decode cX6_not1 75 = .ok (.iload_n 1, 1) := by decide +kernel
theorem dX6_not1_76 : decode cX6_not1 76 = .ok (.ireturn, 1) := by decide +kernel
theorem dX6_not1_77 : decode cX6_not1 77 = .ok (.aload_n 0, 1) := by decide +kernel
theorem dX6_not1_78 : decode cX6_not1 78 = .ok (.getfield 164, 3) := by decide +kernel
theorem dX6_not1_81 : decode cX6_not1 81 = .ok (.ldc2_w 233, 3) := by decide +kernel
theorem dX6_not1_84 : decode cX6_not1 84 = .ok (.lcmp, 1) := by decide +kernel
theorem dX6_not1_85 : decode cX6_not1 85 = .ok (.ifCond .ne 7, 3) := by decide +kernel
theorem dX6_not1_88 : decode cX6_not1 88 = .ok (.iconst 1, 1) := by decide +kernel
theorem dX6_not1_89 : decode cX6_not1 89 = .ok (.goto 4, 3) := by decide +kernel
theorem dX6_not1_92 : decode cX6_not1 92 = .ok (.iconst 0, 1) := by decide +kernel
theorem dX6_not1_93 : decode cX6_not1 93 = .ok (.istore_n 2, 1) := by decide +kernel
theorem dX6_not1_94 : decode cX6_not1 94 = .ok (.aload_n 0, 1) := by decide +kernel
theorem dX6_not1_95 : decode cX6_not1 95 = .ok (.invokevirtual 186, 3) := by decide +kernel
theorem dX6_not1_98 : decode cX6_not1 98 = .ok (.aload_n 0, 1) := by decide +kernel
theorem dX6_not1_99 : decode cX6_not1 99 = .ok (.invokevirtual 304, 3) := by decide +kernel
theorem dX6_not1_102 : decode cX6_not1 102 = .ok (.istore_n 3, 1) := by decide +kernel
theorem dX6_not1_103 : decode cX6_not1 103 = .ok (.iload_n 2, 1) := by decide +kernel
theorem dX6_not1_104 : decode cX6_not1 104 = .ok (.ifCond .eq 11, 3) := by decide +kernel
theorem dX6_not1_107 : decode cX6_not1 107 = .ok (.iload_n 1, 1) := by decide +kernel
theorem dX6_not1_108 : decode cX6_not1 108 = .ok (.iload_n 3, 1) := by decide +kernel
theorem dX6_not1_109 : decode cX6_not1 109 = .ok (.if_icmp .ge 15, 3) := by decide +kernel
theorem dX6_not1_112 : decode cX6_not1 112 = .ok (.goto 8, 3) := by decide +kernel
theorem dX6_not1_115 : decode cX6_not1 115 = .ok (.iload_n 1, 1) := by decide +kernel
theorem dX6_not1_116 : decode cX6_not1 116 = .ok (.iload_n 3, 1) := by decide +kernel
theorem dX6_not1_117 : decode cX6_not1 117 = .ok (.if_icmp .ne 7, 3) := by decide +kernel
theorem dX6_not1_120 : decode cX6_not1 120 = .ok (.iconst 1, 1) := by decide +kernel
theorem dX6_not1_121 : decode cX6_not1 121 = .ok (.goto 4, 3) := by decide +kernel
theorem dX6_not1_124 : decode cX6_not1 124 = .ok (.iconst 0, 1) := by decide +kernel
theorem dX6_not1_125 : decode cX6_not1 125 = .ok (.ireturn, 1) := by decide +kernel
theorem dX6_both1_0 : decode cX6_both1 0 = .ok (.aload_n 0, 1) := by decide +kernel
theorem dX6_both1_1 : decode cX6_both1 1 = .ok (.invokevirtual 307, 3) := by decide +kernel
theorem dX6_both1_4 : decode cX6_both1 4 = .ok (.istore_n 1, 1) := by decide +kernel
theorem dX6_both1_5 : decode cX6_both1 5 = .ok (.aload_n 0, 1) := by decide +kernel
theorem dX6_both1_6 : decode cX6_both1 6 = .ok (.bipush 97, 2) := by decide +kernel
theorem dX6_both1_8 : decode cX6_both1 8 = .ok (.bipush 110, 2) := by decide +kernel
theorem dX6_both1_10 : decode cX6_both1 10 = .ok (.bipush 100, 2) := by decide +kernel
theorem dX6_both1_12 : decode cX6_both1 12 = .ok (.iconst 0, 1) := by decide +kernel
theorem dX6_both1_13 : decode cX6_both1 13 = .ok (.iconst 0, 1) := by decide +kernel
theorem dX6_both1_14 : decode cX6_both1 14 = .ok (.iconst 0, 1) := by decide +kernel
theorem dX6_both1_15 : decode cX6_both1 15 = .ok (.iconst 0, 1) := by decide +kernel
theorem dX6_both1_16 : decode cX6_both1 16 = .ok (.iconst 0, 1) := by decide +kernel
theorem dX6_both1_17 : decode cX6_both1 17 = .ok (.invokevirtual 189, 3) := by decide +kernel
theorem dX6_both1_20 : decode cX6_both1 20 = .ok (.ifCond .eq 29, 3) := by decide +kernel
theorem dX6_both1_23 : decode cX6_both1 23 = .ok (.aload_n 0, 1) := by decide +kernel
theorem dX6_both1_24 : decode cX6_both1 24 = .ok (.invokevirtual 186, 3) := by decide +kernel
theorem dX6_both1_27 : decode cX6_both1 27 = .ok (.aload_n 0, 1) := by decide +kernel
theorem dX6_both1_28 : decode cX6_both1 28 = .ok (.invokevirtual 307, 3) := by decide +kernel
theorem dX6_both1_31 : decode cX6_both1 31 = .ok (.istore_n 2, 1) := by decide +kernel
theorem dX6_both1_32 : decode cX6_both1 32 = .ok (.iload_n 1, 1) := by decide +kernel
theorem dX6_both1_33 : decode cX6_both1 33 = .ok (.ifCond .eq 11, 3) := by decide +kernel
theorem dX6_both1_36 : decode cX6_both1 36 = .ok (.iload_n 2, 1) := by decide +kernel
theorem dX6_both1_37 : decode cX6_both1 37 = .ok (.ifCond .eq 7, 3) := by decide +kernel
theorem dX6_both1_40 : decode cX6_both1 40 = .ok (.iconst 1, 1) := by decide +kernel
theorem dX6_both1_41 : decode cX6_both1 41 = .ok (.goto 4, 3) := by decide +kernel
theorem dX6_both1_44 : decode cX6_both1 44 = .ok (.iconst 0, 1) := by decide +kernel
theorem dX6_both1_45 : decode cX6_both1 45 = .ok (.istore_n 1, 1) := by decide +kernel
theorem dX6_both1_46 : decode cX6_both1 46 = .ok (.goto (-41), 3) := by decide +kernel
theorem dX6_both1_49 : decode cX6_both1 49 = .ok (.iload_n 1, 1) := by decide +kernel
theorem dX6_both1_50 : decode cX6_both1 50 = .ok (.ireturn, 1) := by decide +kernel
theorem dX6_either1_0 : decode cX6_either1 0 = .ok (.aload_n 0, 1) := by decide +kernel
theorem dX6_either1_1 : decode cX6_either1 1 = .ok (.invokevirtual 310, 3) := by decide +kernel
theorem dX6_either1_4 : decode cX6_either1 4 = .ok (.istore_n 1, 1) := by decide +kernel
theorem dX6_either1_5 : decode cX6_either1 5 = .ok (.aload_n 0, 1) := by decide +kernel
theorem dX6_either1_6 : decode cX6_either1 6 = .ok (.bipush 111, 2) := by decide +kernel
theorem dX6_either1_8 : decode cX6_either1 8 = .ok (.bipush 114, 2) := by decide +kernel
theorem dX6_either1_10 : decode cX6_either1 10 = .ok (.iconst 0, 1) := by decide +kernel
theorem dX6_either1_11 : decode cX6_either1 11 = .ok (.iconst 0, 1) := by decide +kernel
theorem dX6_either1_12 : decode cX6_either1 12 = .ok (.iconst 0, 1) := by decide +kernel
theorem dX6_either1_13 : decode cX6_either1 13 = .ok (.iconst 0, 1) := by decide +kernel
theorem dX6_either1_14 : decode cX6_either1 14 = .ok (.iconst 0, 1) := by decide +kernel
theorem dX6_either1_15 : decode cX6_either1 15 = .ok (.iconst 0, 1) := by decide +kernel
theorem dX6_either1_16 : decode cX6_either1 16 = .ok (.invokevirtual 189, 3) := by decide +kernel
theorem dX6_either1_19 : decode cX6_either1 19 = .ok (.ifCond .eq 29, 3) := by decide +kernel
theorem dX6_either1_22 : decode cX6_either1 22 = .ok (.aload_n 0, 1) := by decide +kernel
theorem dX6_either1_23 : decode cX6_either1 23 = .ok (.invokevirtual 186, 3) := by decide +kernel
theorem dX6_either1_26 : decode cX6_either1 26 = .ok (.aload_n 0, 1) := by decide +kernel
theorem dX6_either1_27 : decode cX6_either1 27 = .ok (.invokevirtual 310, 3) := by decide +kernel
theorem dX6_either1_30 : decode cX6_either1 30 = .ok (.istore_n 2, 1) := by decide +kernel
theorem dX6_either1_31 : decode cX6_either1 31 = .ok (.iload_n 1, 1) := by decide +kernel
theorem dX6_either1_32 : decode cX6_either1 32 = .ok (.ifCond .ne 7, 3) := by decide +kernel
theorem dX6_either1_35 : decode cX6_either1 35 = .ok (.iload_n 2, 1) := by decide +kernel
theorem dX6_either1_36 : decode cX6_either1 36 = .ok (.ifCond .eq 7, 3) := by decide +kernel
theorem dX6_either1_39 : decode cX6_either1 39 = .ok (.iconst 1, 1) := by decide +kernel
theorem dX6_either1_40 : decode cX6_either1 40 = .ok (.goto 4, 3) := by decide +kernel
theorem dX6_either1_43 : decode cX6_either1 43 = .ok (.iconst 0, 1) := by decide +kernel
theorem dX6_either1_44 : decode cX6_either1 44 = .ok (.istore_n 1, 1) := by decide +kernel
theorem dX6_either1_45 : decode cX6_either1 45 = .ok (.goto (-40), 3) := by decide +kernel
theorem dX6_either1_48 : decode cX6_either1 48 = .ok (.iload_n 1, 1) := by decide +kernel
theorem dX6_either1_49 : decode cX6_either1 49 = .ok (.ireturn, 1) := by decide +kernel
theorem dX6_atom0_0 : decode cX6_atom0 0 = .ok (.iconst 0, 1) := by decide +kernel
theorem dX6_atom0_1 : decode cX6_atom0 1 = .ok (.istore_n 1, 1) := by decide +kernel
theorem dX6_atom0_2 : decode cX6_atom0 2 = .ok (.aload_n 0, 1) := by decide +kernel
theorem dX6_atom0_3 : decode cX6_atom0 3 = .ok (.bipush 45, 2) := by decide +kernel
theorem dX6_atom0_5 : decode cX6_atom0 5 = .ok (.invokevirtual 211, 3) := by decide +kernel
theorem dX6_atom0_8 : decode cX6_atom0 8 = .ok (.ifCond .eq 29, 3) := by decide +kernel
theorem dX6_atom0_11 : decode cX6_atom0 11 = .ok (.aload_n 0, 1) := by decide +kernel
theorem dX6_atom0_12 : decode cX6_atom0 12 = .ok (.invokevirtual 214, 3) := by decide +kernel
theorem dX6_atom0_15 : decode cX6_atom0 15 = .ok (.ifCond .eq 146, 3) := by decide +kernel
theorem dX6_atom0_18 : decode cX6_atom0 18 = .ok (.aload_n 0, 1) := by decide +kernel
theorem dX6_atom0_19 : decode cX6_atom0 19 = .ok (.invokevirtual 298, 3) := by decide +kernel
theorem dX6_atom0_22 : decode cX6_atom0 22 = .ok (.ineg, 1) := by decide +kernel
theorem dX6_atom0_23 : decode cX6_atom0 23 = .ok (.istore_n 1, 1) := by decide +kernel
theorem dX6_atom0_24 : decode cX6_atom0 24 = .ok (.aload_n 0, 1) := by decide +kernel
theorem dX6_atom0_25 : decode cX6_atom0 25 = .ok (.dup, 1) := by decide +kernel
theorem dX6_atom0_26 : decode cX6_atom0 26 = .ok (.getfield 180, 3) := by decide +kernel
theorem dX6_atom0_29 : decode cX6_atom0 29 = .ok (.iconst 1, 1) := by decide +kernel
theorem dX6_atom0_30 : decode cX6_atom0 30 = .ok (.isub, 1) := by decide +kernel
theorem dX6_atom0_31 : decode cX6_atom0 31 = .ok (.putfield 180, 3) := by decide +kernel
theorem dX6_atom0_34 : decode cX6_atom0 34 = .ok (.goto 127, 3) := by decide +kernel
theorem dX6_atom0_37 : decode cX6_atom0 37 = .ok (.aload_n 0, 1) := by decide +kernel
theorem dX6_atom0_38 : decode cX6_atom0 38 = .ok (.bipush 40, 2) := by decide +kernel
theorem dX6_atom0_40 : decode cX6_atom0 40 = .ok (.invokevirtual 211, 3) := by decide +kernel
theorem dX6_atom0_43 : decode cX6_atom0 43 = .ok (.ifCond .eq 52, 3) := by decide +kernel
theorem dX6_atom0_46 : decode cX6_atom0 46 = .ok (.aload_n 0, 1) := by decide +kernel
theorem dX6_atom0_47 : decode cX6_atom0 47 = .ok (.invokevirtual 214, 3) := by decide +kernel
theorem dX6_atom0_50 : decode cX6_atom0 50 = .ok (.ifCond .eq 111, 3) := by decide +kernel
theorem dX6_atom0_53 : decode cX6_atom0 53 = .ok (.aload_n 0, 1) := by decide +kernel
theorem dX6_atom0_54 : decode cX6_atom0 54 = .ok (.invokevirtual 313, 3) := by decide +kernel
theorem dX6_atom0_57 : decode cX6_atom0 57 = .ok (.istore_n 1, 1) := by decide +kernel
theorem dX6_atom0_58 : decode cX6_atom0 58 = .ok (.aload_n 0, 1) := by decide +kernel
theorem dX6_atom0_59 : decode cX6_atom0 59 = .ok (.bipush 41, 2) := by decide +kernel
theorem dX6_atom0_61 : decode cX6_atom0 61 = .ok (.invokevirtual 211, 3) := by decide +kernel
theorem dX6_atom0_64 : decode cX6_atom0 64 = .ok (.ifCond .ne 7, 3) := by decide +kernel
theorem dX6_atom0_67 : decode cX6_atom0 67 = .ok (.aload_n 0, 1) := by decide +kernel
theorem dX6_atom0_68 : decode cX6_atom0 68 = .ok (.invokevirtual 183, 3) := by decide +kernel
theorem dX6_atom0_71 : decode cX6_atom0 71 = .ok (.aload_n 0, 1) := by decide +kernel
theorem dX6_atom0_72 : decode cX6_atom0 72 = .ok (.dup, 1) := by decide +kernel
theorem dX6_atom0_73 : decode cX6_atom0 73 = .ok (.getfield 180, 3) := by decide +kernel
theorem dX6_atom0_76 : decode cX6_atom0 76 = .ok (.iconst 1, 1) := by decide +kernel
theorem dX6_atom0_77 : decode cX6_atom0 77 = .ok (.isub, 1) := by decide +kernel
theorem dX6_atom0_78 : decode cX6_atom0 78 = .ok (.putfield 180, 3) := by decide +kernel
theorem dX6_atom0_81 : decode cX6_atom0 81 = .ok (.aload_n 0, 1) := by decide +kernel
theorem dX6_atom0_82 : decode cX6_atom0 82 = .ok (.getfield 170, 3) := by decide +kernel
theorem dX6_atom0_85 : decode cX6_atom0 85 = .ok (.ifCond .ne 76, 3) := by decide +kernel
theorem dX6_atom0_88 : decode cX6_atom0 88 = .ok (.aload_n 0, 1) := by decide +kernel
theorem dX6_atom0_89 : decode cX6_atom0 89 = .ok (.invokevirtual 186, 3) := by decide +kernel
theorem dX6_atom0_92 : decode cX6_atom0 92 = .ok (.goto 69, 3) := by decide +kernel
theorem dX6_atom0_95 : decode cX6_atom0 95 = .ok (.aload_n 0, 1) := by decide +kernel
theorem dX6_atom0_96 : decode cX6_atom0 96 = .ok (.getfield 170, 3) := by decide +kernel
theorem dX6_atom0_99 : decode cX6_atom0 99 = .ok (.ifCond .ne 24, 3) := by decide +kernel
theorem dX6_atom0_102 : decode cX6_atom0 102 = .ok (.aload_n 0, 1) := by decide +kernel
theorem dX6_atom0_103 : decode cX6_atom0 103 = .ok (.getfield 153, 3) := by decide +kernel
theorem dX6_atom0_106 : decode cX6_atom0 106 = .ok (.iconst 2, 1) := by decide +kernel
theorem dX6_atom0_107 : decode cX6_atom0 107 = .ok (.if_icmp .ne 16, 3) := by decide +kernel
theorem dX6_atom0_110 : decode cX6_atom0 110 = .ok (.aload_n 0, 1) := by decide +kernel
theorem dX6_atom0_111 : decode cX6_atom0 111 = .ok (.getfield 164, 3) := by decide +kernel
theorem dX6_atom0_114 : decode cX6_atom0 114 = .ok (.l2i, 1) := by decide +kernel
theorem dX6_atom0_115 : decode cX6_atom0 115 = .ok (.istore_n 1, 1) := by decide +kernel
theorem dX6_atom0_116 : decode cX6_atom0 116 = .ok (.aload_n 0, 1) := by decide +kernel
theorem dX6_atom0_117 : decode cX6_atom0 117 = .ok (.invokevirtual 186, 3) := by decide +kernel
theorem dX6_atom0_120 : decode cX6_atom0 120 = .ok (.goto 41, 3) := by decide +kernel
theorem dX6_atom0_123 : decode cX6_atom0 123 = .ok (.aload_n 0, 1) := by decide +kernel
theorem dX6_atom0_124 : decode cX6_atom0 124 = .ok (.getfield 170, 3) := by decide +kernel
theorem dX6_atom0_127 : decode cX6_atom0 127 = .ok (.ifCond .ne 30, 3) := by decide +kernel
theorem dX6_atom0_130 : decode cX6_atom0 130 = .ok (.aload_n 0, 1) := by decide +kernel
theorem dX6_atom0_131 : decode cX6_atom0 131 = .ok (.getfield 153, 3) := by decide +kernel
theorem dX6_atom0_134 : decode cX6_atom0 134 = .ok (.iconst 1, 1) := by decide +kernel
theorem dX6_atom0_135 : decode cX6_atom0 135 = .ok (.if_icmp .ne 22, 3) := by decide +kernel
theorem dX6_atom0_138 : decode cX6_atom0 138 = .ok (.aload_n 0, 1) := by decide +kernel
theorem dX6_atom0_139 : decode cX6_atom0 139 = .ok (.invokevirtual 218, 3) := by decide +kernel
theorem dX6_atom0_142 : decode cX6_atom0 142 = .ok (.istore_n 1, 1) := by decide +kernel
theorem dX6_atom0_143 : decode cX6_atom0 143 = .ok (.aload_n 0, 1) := by decide +kernel
theorem dX6_atom0_144 : decode cX6_atom0 144 = .ok (.getfield 170, 3) := by decide +kernel
theorem dX6_atom0_147 : decode cX6_atom0 147 = .ok (.ifCond .ne 14, 3) := by decide +kernel
theorem dX6_atom0_150 : decode cX6_atom0 150 = .ok (.aload_n 0, 1) := by decide +kernel
theorem dX6_atom0_151 : decode cX6_atom0 151 = .ok (.invokevirtual 186, 3) := by decide +kernel
theorem dX6_atom0_154 : decode cX6_atom0 154 = .ok (.goto 7, 3) := by decide +kernel
theorem dX6_atom0_157 : decode cX6_atom0 157 = .ok (.aload_n 0, 1) := by decide +kernel
theorem dX6_atom0_158 : decode cX6_atom0 158 = .ok (.invokevirtual 183, 3) := by decide +kernel
theorem dX6_atom0_161 : decode cX6_atom0 161 = .ok (.iload_n 1, 1) := by decide +kernel
theorem dX6_atom0_162 : decode cX6_atom0 162 = .ok (.ireturn, 1) := by decide +kernel
theorem dX6_term0_0 : decode cX6_term0 0 = .ok (.aload_n 0, 1) := by decide +kernel
theorem dX6_term0_1 : decode cX6_term0 1 = .ok (.invokevirtual 316, 3) := by decide +kernel
theorem dX6_term0_4 : decode cX6_term0 4 = .ok (.istore_n 1, 1) := by decide +kernel
theorem dX6_term0_5 : decode cX6_term0 5 = .ok (.aload_n 0, 1) := by decide +kernel
theorem dX6_term0_6 : decode cX6_term0 6 = .ok (.bipush 42, 2) := by decide +kernel
theorem dX6_term0_8 : decode cX6_term0 8 = .ok (.invokevirtual 211, 3) := by decide +kernel
theorem dX6_term0_11 : decode cX6_term0 11 = .ok (.ifCond .eq 17, 3) := by decide +kernel
theorem dX6_term0_14 : decode cX6_term0 14 = .ok (.aload_n 0, 1) := by decide +kernel
theorem dX6_term0_15 : decode cX6_term0 15 = .ok (.invokevirtual 186, 3) := by decide +kernel
theorem dX6_term0_18 : decode cX6_term0 18 = .ok (.iload_n 1, 1) := by decide +kernel
theorem dX6_term0_19 : decode cX6_term0 19 = .ok (.aload_n 0, 1) := by decide +kernel
theorem dX6_term0_20 : decode cX6_term0 20 = .ok (.invokevirtual 316, 3) := by decide +kernel
theorem dX6_term0_23 : decode cX6_term0 23 = .ok (.imul, 1) := by decide +kernel
theorem dX6_term0_24 : decode cX6_term0 24 = .ok (.istore_n 1, 1) := by decide +kernel
theorem dX6_term0_25 : decode cX6_term0 25 = .ok (.goto (-20), 3) := by decide +kernel
theorem dX6_term0_28 : decode cX6_term0 28 = .ok (.iload_n 1, 1) := by decide +kernel
theorem dX6_term0_29 : decode cX6_term0 29 = .ok (.ireturn, 1) := by decide +kernel
theorem dX6_added0_0 : decode cX6_added0 0 = .ok (.aload_n 0, 1) := by decide +kernel
theorem dX6_added0_1 : decode cX6_added0 1 = .ok (.invokevirtual 319, 3) := by decide +kernel
theorem dX6_added0_4 : decode cX6_added0 4 = .ok (.istore_n 1, 1) := by decide +kernel
theorem dX6_added0_5 : decode cX6_added0 5 = .ok (.aload_n 0, 1) := by decide +kernel
theorem dX6_added0_6 : decode cX6_added0 6 = .ok (.bipush 43, 2) := by decide +kernel
theorem dX6_added0_8 : decode cX6_added0 8 = .ok (.invokevirtual 211, 3) := by decide +kernel
theorem dX6_added0_11 : decode cX6_added0 11 = .ok (.ifCond .ne 12, 3) := by decide +kernel
theorem dX6_added0_14 : decode cX6_added0 14 = .ok (.aload_n 0, 1) := by decide +kernel
theorem dX6_added0_15 : decode cX6_added0 15 = .ok (.bipush 45, 2) := by decide +kernel
theorem dX6_added0_17 : decode cX6_added0 17 = .ok (.invokevirtual 211, 3) := by decide +kernel
theorem dX6_added0_20 : decode cX6_added0 20 = .ok (.ifCond .eq 46, 3) := by decide +kernel
theorem dX6_added0_23 : decode cX6_added0 23 = .ok (.aload_n 0, 1) := by decide +kernel
theorem dX6_added0_24 : decode cX6_added0 24 = .ok (.getfield 164, 3) := by decide +kernel
theorem dX6_added0_27 : decode cX6_added0 27 = .ok (.ldc2_w 228, 3) := by decide +kernel
theorem dX6_added0_30 : decode cX6_added0 30 = .ok (.lcmp, 1) := by decide +kernel
theorem dX6_added0_31 : decode cX6_added0 31 = .ok (.ifCond .ne 7, 3) := by decide +kernel
theorem dX6_added0_34 : decode cX6_added0 34 = .ok (.iconst 1, 1) := by decide +kernel
theorem dX6_added0_35 : decode cX6_added0 35 = .ok (.goto 4, 3) := by decide +kernel
theorem dX6_added0_38 : decode cX6_added0 38 = .ok (.iconst 0, 1) := by decide +kernel
theorem dX6_added0_39 : decode cX6_added0 39 = .ok (.istore_n 2, 1) := by decide +kernel
theorem dX6_added0_40 : decode cX6_added0 40 = .ok (.aload_n 0, 1) := by decide +kernel
theorem dX6_added0_41 : decode cX6_added0 41 = .ok (.invokevirtual 186, 3) := by decide +kernel
theorem dX6_added0_44 : decode cX6_added0 44 = .ok (.aload_n 0, 1) := by decide +kernel
theorem dX6_added0_45 : decode cX6_added0 45 = .ok (.invokevirtual 319, 3) := by decide +kernel
theorem dX6_added0_48 : decode cX6_added0 48 = .ok (.istore_n 3, 1) := by decide +kernel
theorem dX6_added0_49 : decode cX6_added0 49 = .ok (.iload_n 2, 1) := by decide +kernel
theorem dX6_added0_50 : decode cX6_added0 50 = .ok (.ifCond .eq 9, 3) := by decide +kernel
theorem dX6_added0_53 : decode cX6_added0 53 = .ok (.iload_n 1, 1) := by decide +kernel
theorem dX6_added0_54 : decode cX6_added0 54 = .ok (.iload_n 3, 1) := by decide +kernel
theorem dX6_added0_55 : decode cX6_added0 55 = .ok (.iadd, 1) := by decide +kernel
theorem dX6_added0_56 : decode cX6_added0 56 = .ok (.goto 6, 3) := by decide +kernel
theorem dX6_added0_59 : decode cX6_added0 59 = .ok (.iload_n 1, 1) := by decide +kernel
theorem dX6_added0_60 : decode cX6_added0 60 = .ok (.iload_n 3, 1) := by decide +kernel
theorem dX6_added0_61 : decode cX6_added0 61 = .ok (.isub, 1) := by decide +kernel
theorem dX6_added0_62 : decode cX6_added0 62 = .ok (.istore_n 1, 1) := by decide +kernel
theorem dX6_added0_63 : decode cX6_added0 63 = .ok (.goto (-58), 3) := by decide +kernel
theorem dX6_added0_66 : decode cX6_added0 66 = .ok (.iload_n 1, 1) := by decide +kernel
theorem dX6_added0_67 : decode cX6_added0 67 = .ok (.ireturn, 1) := by decide +kernel
theorem dX6_not0_0 : decode cX6_not0 0 = .ok (.aload_n 0, 1) := by decide +kernel
theorem dX6_not0_1 : decode cX6_not0 1 = .ok (.bipush 110, 2) := by decide +kernel
theorem dX6_not0_3 : decode cX6_not0 3 = .ok (.bipush 111, 2) := by decide +kernel
theorem dX6_not0_5 : decode cX6_not0 5 = .ok (.bipush 116, 2) := by decide +kernel
theorem dX6_not0_7 : decode cX6_not0 7 = .ok (.iconst 0, 1) := by decide +kernel
theorem dX6_not0_8 : decode cX6_not0 8 = .ok (.iconst 0, 1) := by decide +kernel
theorem dX6_not0_9 : decode cX6_not0 9 = .ok (.iconst 0, 1) := by decide +kernel
theorem dX6_not0_10 : decode cX6_not0 10 = .ok (.iconst 0, 1) := by decide +kernel
theorem dX6_not0_11 : decode cX6_not0 11 = .ok (.iconst 0, 1) := by decide +kernel
theorem dX6_not0_12 : decode cX6_not0 12 = .ok (.invokevirtual 189, 3) := by decide +kernel
theorem dX6_not0_15 : decode cX6_not0 15 = .ok (.ifCond .eq 37, 3) := by decide +kernel
theorem dX6_not0_18 : decode cX6_not0 18 = .ok (.aload_n 0, 1) := by decide +kernel
theorem dX6_not0_19 : decode cX6_not0 19 = .ok (.invokevirtual 214, 3) := by decide +kernel
theorem dX6_not0_22 : decode cX6_not0 22 = .ok (.ifCond .ne 5, 3) := by decide +kernel
theorem dX6_not0_25 : decode cX6_not0 25 = .ok (.iconst 0, 1) := by decide +kernel
theorem dX6_not0_26 : decode cX6_not0 26 = .ok (.ireturn, 1) := by decide +kernel
theorem dX6_not0_27 : decode cX6_not0 27 = .ok (.aload_n 0, 1) := by decide +kernel
theorem dX6_not0_28 : decode cX6_not0 28 = .ok (.invokevirtual 307, 3) := by decide +kernel
theorem dX6_not0_31 : decode cX6_not0 31 = .ok (.istore_n 1, 1) := by decide +kernel
theorem dX6_not0_32 : decode cX6_not0 32 = .ok (.aload_n 0, 1) := by decide +kernel
theorem dX6_not0_33 : decode cX6_not0 33 = .ok (.dup, 1) := by decide +kernel
theorem dX6_not0_34 : decode cX6_not0 34 = .ok (.getfield 180, 3) := by decide +kernel
theorem dX6_not0_37 : decode cX6_not0 37 = .ok (.iconst 1, 1) := by decide +kernel
theorem dX6_not0_38 : decode cX6_not0 38 = .ok (.isub, 1) := by decide +kernel
theorem dX6_not0_39 : decode cX6_not0 39 = .ok (.putfield 180, 3) := by decide +kernel
theorem dX6_not0_42 : decode cX6_not0 42 = .ok (.iload_n 1, 1) := by decide +kernel
theorem dX6_not0_43 : decode cX6_not0 43 = .ok (.ifCond .ne 7, 3) := by decide +kernel
theorem dX6_not0_46 : decode cX6_not0 46 = .ok (.iconst 1, 1) := by decide +kernel
theorem dX6_not0_47 : decode cX6_not0 47 = .ok (.goto 4, 3) := by decide +kernel
theorem dX6_not0_50 : decode cX6_not0 50 = .ok (.iconst 0, 1) := by decide +kernel
theorem dX6_not0_51 : decode cX6_not0 51 = .ok (.ireturn, 1) := by decide +kernel
theorem dX6_not0_52 : decode cX6_not0 52 = .ok (.aload_n 0, 1) := by decide +kernel
theorem dX6_not0_53 : decode cX6_not0 53 = .ok (.invokevirtual 322, 3) := by decide +kernel
theorem dX6_not0_56 : decode cX6_not0 56 = .ok (.istore_n 1, 1) := by decide +kernel
theorem dX6_not0_57 : decode cX6_not0 57 = .ok (.aload_n 0, 1) := by decide +kernel
theorem dX6_not0_58 : decode cX6_not0 58 = .ok (.bipush 60, 2) := by decide +kernel
theorem dX6_not0_60 : decode cX6_not0 60 = .ok (.invokevirtual 211, 3) := by decide +kernel
theorem dX6_not0_63 : decode cX6_not0 63 = .ok (.ifCond .ne 14, 3) := by decide +kernel
theorem dX6_not0_66 : decode cX6_not0 66 = .ok (.aload_n 0, 1) := by decide +kernel
theorem dX6_not0_67 : decode cX6_not0 67 = .ok (.bipush 61, 2) := by decide +kernel
theorem dX6_not0_69 : decode cX6_not0 69 = .ok (.invokevirtual 211, 3) := by decide +kernel
theorem dX6_not0_72 : decode cX6_not0 72 = .ok (.ifCond .ne 5, 3) := by decide +kernel
theorem dX6_not0_75 : decode cX6_not0 75 = .ok (.iload_n 1, 1) := by decide +kernel
theorem dX6_not0_76 : decode cX6_not0 76 = .ok (.ireturn, 1) := by decide +kernel
theorem dX6_not0_77 : decode cX6_not0 77 = .ok (.aload_n 0, 1) := by decide +kernel
theorem dX6_not0_78 : decode cX6_not0 78 = .ok (.getfield 164, 3) := by decide +kernel
theorem dX6_not0_81 : decode cX6_not0 81 = .ok (.ldc2_w 233, 3) := by decide +kernel
theorem dX6_not0_84 : decode cX6_not0 84 = .ok (.lcmp, 1) := by decide +kernel
theorem dX6_not0_85 : decode cX6_not0 85 = .ok (.ifCond .ne 7, 3) := by decide +kernel
theorem dX6_not0_88 : decode cX6_not0 88 = .ok (.iconst 1, 1) := by decide +kernel
theorem dX6_not0_89 : decode cX6_not0 89 = .ok (.goto 4, 3) := by decide +kernel
theorem dX6_not0_92 : decode cX6_not0 92 = .ok (.iconst 0, 1) := by decide +kernel
theorem dX6_not0_93 : decode cX6_not0 93 = .ok (.istore_n 2, 1) := by decide +kernel
theorem dX6_not0_94 : decode cX6_not0 94 = .ok (.aload_n 0, 1) := by decide +kernel
theorem dX6_not0_95 : decode cX6_not0 95 = .ok (.invokevirtual 186, 3) := by decide +kernel
theorem dX6_not0_98 : decode cX6_not0 98 = .ok (.aload_n 0, 1) := by decide +kernel
theorem dX6_not0_99 : decode cX6_not0 99 = .ok (.invokevirtual 322, 3) := by decide +kernel
theorem dX6_not0_102 : decode cX6_not0 102 = .ok (.istore_n 3, 1) := by decide +kernel
theorem dX6_not0_103 : decode cX6_not0 103 = .ok (.iload_n 2, 1) := by decide +kernel
theorem dX6_not0_104 : decode cX6_not0 104 = .ok (.ifCond .eq 11, 3) := by decide +kernel
theorem dX6_not0_107 : decode cX6_not0 107 = .ok (.iload_n 1, 1) := by decide +kernel
theorem dX6_not0_108 : decode cX6_not0 108 = .ok (.iload_n 3, 1) := by decide +kernel
theorem dX6_not0_109 : decode cX6_not0 109 = .ok (.if_icmp .ge 15, 3) := by decide +kernel
theorem dX6_not0_112 : decode cX6_not0 112 = .ok (.goto 8, 3) := by decide +kernel
theorem dX6_not0_115 : decode cX6_not0 115 = .ok (.iload_n 1, 1) := by decide +kernel
theorem dX6_not0_116 : decode cX6_not0 116 = .ok (.iload_n 3, 1) := by decide +kernel
theorem dX6_not0_117 : decode cX6_not0 117 = .ok (.if_icmp .ne 7, 3) := by decide +kernel
theorem dX6_not0_120 : decode cX6_not0 120 = .ok (.iconst 1, 1) := by decide +kernel
theorem dX6_not0_121 : decode cX6_not0 121 = .ok (.goto 4, 3) := by decide +kernel
theorem dX6_not0_124 : decode cX6_not0 124 = .ok (.iconst 0, 1) := by decide +kernel
theorem dX6_not0_125 : decode cX6_not0 125 = .ok (.ireturn, 1) := by decide +kernel
theorem dX6_both0_0 : decode cX6_both0 0 = .ok (.aload_n 0, 1) := by decide +kernel
theorem dX6_both0_1 : decode cX6_both0 1 = .ok (.invokevirtual 325, 3) := by decide +kernel
theorem dX6_both0_4 : decode cX6_both0 4 = .ok (.istore_n 1, 1) := by decide +kernel
theorem dX6_both0_5 : decode cX6_both0 5 = .ok (.aload_n 0, 1) := by decide +kernel
theorem dX6_both0_6 : decode cX6_both0 6 = .ok (.bipush 97, 2) := by decide +kernel
theorem dX6_both0_8 : decode cX6_both0 8 = .ok (.bipush 110, 2) := by decide +kernel
theorem dX6_both0_10 : decode cX6_both0 10 = .ok (.bipush 100, 2) := by decide +kernel
theorem dX6_both0_12 : decode cX6_both0 12 = .ok (.iconst 0, 1) := by decide +kernel
theorem dX6_both0_13 : decode cX6_both0 13 = .ok (.iconst 0, 1) := by decide +kernel
theorem dX6_both0_14 : decode cX6_both0 14 = .ok (.iconst 0, 1) := by decide +kernel
theorem dX6_both0_15 : decode cX6_both0 15 = .ok (.iconst 0, 1) := by decide +kernel
theorem dX6_both0_16 : decode cX6_both0 16 = .ok (.iconst 0, 1) := by decide +kernel
theorem dX6_both0_17 : decode cX6_both0 17 = .ok (.invokevirtual 189, 3) := by decide +kernel
theorem dX6_both0_20 : decode cX6_both0 20 = .ok (.ifCond .eq 29, 3) := by decide +kernel
theorem dX6_both0_23 : decode cX6_both0 23 = .ok (.aload_n 0, 1) := by decide +kernel
theorem dX6_both0_24 : decode cX6_both0 24 = .ok (.invokevirtual 186, 3) := by decide +kernel
theorem dX6_both0_27 : decode cX6_both0 27 = .ok (.aload_n 0, 1) := by decide +kernel
theorem dX6_both0_28 : decode cX6_both0 28 = .ok (.invokevirtual 325, 3) := by decide +kernel
theorem dX6_both0_31 : decode cX6_both0 31 = .ok (.istore_n 2, 1) := by decide +kernel
theorem dX6_both0_32 : decode cX6_both0 32 = .ok (.iload_n 1, 1) := by decide +kernel
theorem dX6_both0_33 : decode cX6_both0 33 = .ok (.ifCond .eq 11, 3) := by decide +kernel
theorem dX6_both0_36 : decode cX6_both0 36 = .ok (.iload_n 2, 1) := by decide +kernel
theorem dX6_both0_37 : decode cX6_both0 37 = .ok (.ifCond .eq 7, 3) := by decide +kernel
theorem dX6_both0_40 : decode cX6_both0 40 = .ok (.iconst 1, 1) := by decide +kernel
theorem dX6_both0_41 : decode cX6_both0 41 = .ok (.goto 4, 3) := by decide +kernel
theorem dX6_both0_44 : decode cX6_both0 44 = .ok (.iconst 0, 1) := by decide +kernel
theorem dX6_both0_45 : decode cX6_both0 45 = .ok (.istore_n 1, 1) := by decide +kernel
theorem dX6_both0_46 : decode cX6_both0 46 = .ok (.goto (-41), 3) := by decide +kernel
theorem dX6_both0_49 : decode cX6_both0 49 = .ok (.iload_n 1, 1) := by decide +kernel
theorem dX6_both0_50 : decode cX6_both0 50 = .ok (.ireturn, 1) := by decide +kernel
theorem dX6_either0_0 : decode cX6_either0 0 = .ok (.aload_n 0, 1) := by decide +kernel
theorem dX6_either0_1 : decode cX6_either0 1 = .ok (.invokevirtual 328, 3) := by decide +kernel
theorem dX6_either0_4 : decode cX6_either0 4 = .ok (.istore_n 1, 1) := by decide +kernel
theorem dX6_either0_5 : decode cX6_either0 5 = .ok (.aload_n 0, 1) := by decide +kernel
theorem dX6_either0_6 : decode cX6_either0 6 = .ok (.bipush 111, 2) := by decide +kernel
theorem dX6_either0_8 : decode cX6_either0 8 = .ok (.bipush 114, 2) := by decide +kernel
theorem dX6_either0_10 : decode cX6_either0 10 = .ok (.iconst 0, 1) := by decide +kernel
theorem dX6_either0_11 : decode cX6_either0 11 = .ok (.iconst 0, 1) := by decide +kernel
theorem dX6_either0_12 : decode cX6_either0 12 = .ok (.iconst 0, 1) := by decide +kernel
theorem dX6_either0_13 : decode cX6_either0 13 = .ok (.iconst 0, 1) := by decide +kernel
theorem dX6_either0_14 : decode cX6_either0 14 = .ok (.iconst 0, 1) := by decide +kernel
theorem dX6_either0_15 : decode cX6_either0 15 = .ok (.iconst 0, 1) := by decide +kernel
theorem dX6_either0_16 : decode cX6_either0 16 = .ok (.invokevirtual 189, 3) := by decide +kernel
theorem dX6_either0_19 : decode cX6_either0 19 = .ok (.ifCond .eq 29, 3) := by decide +kernel
theorem dX6_either0_22 : decode cX6_either0 22 = .ok (.aload_n 0, 1) := by decide +kernel
theorem dX6_either0_23 : decode cX6_either0 23 = .ok (.invokevirtual 186, 3) := by decide +kernel
theorem dX6_either0_26 : decode cX6_either0 26 = .ok (.aload_n 0, 1) := by decide +kernel
theorem dX6_either0_27 : decode cX6_either0 27 = .ok (.invokevirtual 328, 3) := by decide +kernel
theorem dX6_either0_30 : decode cX6_either0 30 = .ok (.istore_n 2, 1) := by decide +kernel
theorem dX6_either0_31 : decode cX6_either0 31 = .ok (.iload_n 1, 1) := by decide +kernel
theorem dX6_either0_32 : decode cX6_either0 32 = .ok (.ifCond .ne 7, 3) := by decide +kernel
theorem dX6_either0_35 : decode cX6_either0 35 = .ok (.iload_n 2, 1) := by decide +kernel
theorem dX6_either0_36 : decode cX6_either0 36 = .ok (.ifCond .eq 7, 3) := by decide +kernel
theorem dX6_either0_39 : decode cX6_either0 39 = .ok (.iconst 1, 1) := by decide +kernel
theorem dX6_either0_40 : decode cX6_either0 40 = .ok (.goto 4, 3) := by decide +kernel
theorem dX6_either0_43 : decode cX6_either0 43 = .ok (.iconst 0, 1) := by decide +kernel
theorem dX6_either0_44 : decode cX6_either0 44 = .ok (.istore_n 1, 1) := by decide +kernel
theorem dX6_either0_45 : decode cX6_either0 45 = .ok (.goto (-40), 3) := by decide +kernel
theorem dX6_either0_48 : decode cX6_either0 48 = .ok (.iload_n 1, 1) := by decide +kernel
theorem dX6_either0_49 : decode cX6_either0 49 = .ok (.ireturn, 1) := by decide +kernel
theorem dX6_part_0 : decode cX6_part 0 = .ok (.iload_n 1, 1) := by decide +kernel
theorem dX6_part_1 : decode cX6_part 1 = .ok (.ifCond .ne 7, 3) := by decide +kernel
theorem dX6_part_4 : decode cX6_part 4 = .ok (.aload_n 0, 1) := by decide +kernel
theorem dX6_part_5 : decode cX6_part 5 = .ok (.invokevirtual 183, 3) := by decide +kernel
theorem dX6_part_8 : decode cX6_part 8 = .ok (.aload_n 0, 1) := by decide +kernel
theorem dX6_part_9 : decode cX6_part 9 = .ok (.getfield 170, 3) := by decide +kernel
theorem dX6_part_12 : decode cX6_part 12 = .ok (.ifCond .ne 7, 3) := by decide +kernel
theorem dX6_part_15 : decode cX6_part 15 = .ok (.aload_n 0, 1) := by decide +kernel
theorem dX6_part_16 : decode cX6_part 16 = .ok (.invokevirtual 186, 3) := by decide +kernel
theorem dX6_part_19 : decode cX6_part 19 = .ok (.aload_n 0, 1) := by decide +kernel
theorem dX6_part_20 : decode cX6_part 20 = .ok (.getfield 170, 3) := by decide +kernel
theorem dX6_part_23 : decode cX6_part 23 = .ok (.ifCond .eq 7, 3) := by decide +kernel
theorem dX6_part_26 : decode cX6_part 26 = .ok (.iconst 0, 1) := by decide +kernel
theorem dX6_part_27 : decode cX6_part 27 = .ok (.goto 7, 3) := by decide +kernel
theorem dX6_part_30 : decode cX6_part 30 = .ok (.aload_n 0, 1) := by decide +kernel
theorem dX6_part_31 : decode cX6_part 31 = .ok (.invokevirtual 331, 3) := by decide +kernel
theorem dX6_part_34 : decode cX6_part 34 = .ok (.istore_n 2, 1) := by decide +kernel
theorem dX6_part_35 : decode cX6_part 35 = .ok (.aload_n 0, 1) := by decide +kernel
theorem dX6_part_36 : decode cX6_part 36 = .ok (.bipush 59, 2) := by decide +kernel
theorem dX6_part_38 : decode cX6_part 38 = .ok (.invokevirtual 211, 3) := by decide +kernel
theorem dX6_part_41 : decode cX6_part 41 = .ok (.ifCond .ne 7, 3) := by decide +kernel
theorem dX6_part_44 : decode cX6_part 44 = .ok (.aload_n 0, 1) := by decide +kernel
theorem dX6_part_45 : decode cX6_part 45 = .ok (.invokevirtual 183, 3) := by decide +kernel
theorem dX6_part_48 : decode cX6_part 48 = .ok (.aload_n 0, 1) := by decide +kernel
theorem dX6_part_49 : decode cX6_part 49 = .ok (.getfield 170, 3) := by decide +kernel
theorem dX6_part_52 : decode cX6_part 52 = .ok (.ifCond .ne 7, 3) := by decide +kernel
theorem dX6_part_55 : decode cX6_part 55 = .ok (.aload_n 0, 1) := by decide +kernel
theorem dX6_part_56 : decode cX6_part 56 = .ok (.invokevirtual 186, 3) := by decide +kernel
theorem dX6_part_59 : decode cX6_part 59 = .ok (.iload_n 2, 1) := by decide +kernel
theorem dX6_part_60 : decode cX6_part 60 = .ok (.ireturn, 1) := by decide +kernel
theorem dX6_readText_0 : decode cX6_readText 0 = .ok (.aload_n 0, 1) := by decide +kernel
theorem dX6_readText_1 : decode cX6_readText 1 = .ok (.sipush 160, 3) := by decide +kernel
theorem dX6_readText_4 : decode cX6_readText 4 = .ok (.iload_n 1, 1) := by decide +kernel
theorem dX6_readText_5 : decode cX6_readText 5 = .ok (.imul, 1) := by decide +kernel
theorem dX6_readText_6 : decode cX6_readText 6 = .ok (.putfield 141, 3) := by decide +kernel
theorem dX6_readText_9 : decode cX6_readText 9 = .ok (.aload_n 0, 1) := by decide +kernel
theorem dX6_readText_10 : decode cX6_readText 10 = .ok (.aload_n 0, 1) := by decide +kernel
theorem dX6_readText_11 : decode cX6_readText 11 = .ok (.getfield 17, 3) := by decide +kernel
theorem dX6_readText_14 : decode cX6_readText 14 = .ok (.iload_n 1, 1) := by decide +kernel
theorem dX6_readText_15 : decode cX6_readText 15 = .ok (.iaload, 1) := by decide +kernel
theorem dX6_readText_16 : decode cX6_readText 16 = .ok (.putfield 138, 3) := by decide +kernel
theorem dX6_readText_19 : decode cX6_readText 19 = .ok (.aload_n 0, 1) := by decide +kernel
theorem dX6_readText_20 : decode cX6_readText 20 = .ok (.iconst 0, 1) := by decide +kernel
theorem dX6_readText_21 : decode cX6_readText 21 = .ok (.putfield 144, 3) := by decide +kernel
theorem dX6_readText_24 : decode cX6_readText 24 = .ok (.aload_n 0, 1) := by decide +kernel
theorem dX6_readText_25 : decode cX6_readText 25 = .ok (.iconst 0, 1) := by decide +kernel
theorem dX6_readText_26 : decode cX6_readText 26 = .ok (.putfield 180, 3) := by decide +kernel
theorem dX6_readText_29 : decode cX6_readText 29 = .ok (.aload_n 0, 1) := by decide +kernel
theorem dX6_readText_30 : decode cX6_readText 30 = .ok (.iconst 0, 1) := by decide +kernel
theorem dX6_readText_31 : decode cX6_readText 31 = .ok (.putfield 170, 3) := by decide +kernel
theorem dX6_readText_34 : decode cX6_readText 34 = .ok (.aload_n 0, 1) := by decide +kernel
theorem dX6_readText_35 : decode cX6_readText 35 = .ok (.invokevirtual 186, 3) := by decide +kernel
theorem dX6_readText_38 : decode cX6_readText 38 = .ok (.aload_n 0, 1) := by decide +kernel
theorem dX6_readText_39 : decode cX6_readText 39 = .ok (.aload_n 0, 1) := by decide +kernel
theorem dX6_readText_40 : decode cX6_readText 40 = .ok (.bipush 116, 2) := by decide +kernel
theorem dX6_readText_42 : decode cX6_readText 42 = .ok (.bipush 117, 2) := by decide +kernel
theorem dX6_readText_44 : decode cX6_readText 44 = .ok (.bipush 114, 2) := by decide +kernel
theorem dX6_readText_46 : decode cX6_readText 46 = .ok (.bipush 110, 2) := by decide +kernel
theorem dX6_readText_48 : decode cX6_readText 48 = .ok (.bipush 115, 2) := by decide +kernel
theorem dX6_readText_50 : decode cX6_readText 50 = .ok (.iconst 0, 1) := by decide +kernel
theorem dX6_readText_51 : decode cX6_readText 51 = .ok (.iconst 0, 1) := by decide +kernel
theorem dX6_readText_52 : decode cX6_readText 52 = .ok (.iconst 0, 1) := by decide +kernel
theorem dX6_readText_53 : decode cX6_readText 53 = .ok (.invokevirtual 189, 3) := by decide +kernel
theorem dX6_readText_56 : decode cX6_readText 56 = .ok (.invokevirtual 334, 3) := by decide +kernel
theorem dX6_readText_59 : decode cX6_readText 59 = .ok (.istore_n 3, 1) := by decide +kernel
theorem dX6_readText_60 : decode cX6_readText 60 = .ok (.aload_n 0, 1) := by decide +kernel
theorem dX6_readText_61 : decode cX6_readText 61 = .ok (.getfield 170, 3) := by decide +kernel
theorem dX6_readText_64 : decode cX6_readText 64 = .ok (.ifCond .eq 7, 3) := by decide +kernel
theorem dX6_readText_67 : decode cX6_readText 67 = .ok (.iconst 0, 1) := by decide +kernel
theorem dX6_readText_68 : decode cX6_readText 68 = .ok (.goto 25, 3) := by decide +kernel
theorem dX6_readText_71 : decode cX6_readText 71 = .ok (.aload_n 0, 1) := by decide +kernel
theorem dX6_readText_72 : decode cX6_readText 72 = .ok (.aload_n 0, 1) := by decide +kernel
theorem dX6_readText_73 : decode cX6_readText 73 = .ok (.bipush 109, 2) := by decide +kernel
theorem dX6_readText_75 : decode cX6_readText 75 = .ok (.bipush 105, 2) := by decide +kernel
theorem dX6_readText_77 : decode cX6_readText 77 = .ok (.bipush 115, 2) := by decide +kernel
theorem dX6_readText_79 : decode cX6_readText 79 = .ok (.bipush 115, 2) := by decide +kernel
theorem dX6_readText_81 : decode cX6_readText 81 = .ok (.bipush 101, 2) := by decide +kernel
theorem dX6_readText_83 : decode cX6_readText 83 = .ok (.bipush 115, 2) := by decide +kernel
theorem dX6_readText_85 : decode cX6_readText 85 = .ok (.iconst 0, 1) := by decide +kernel
theorem dX6_readText_86 : decode cX6_readText 86 = .ok (.iconst 0, 1) := by decide +kernel
theorem dX6_readText_87 : decode cX6_readText 87 = .ok (.invokevirtual 189, 3) := by decide +kernel
theorem dX6_readText_90 : decode cX6_readText 90 = .ok (.invokevirtual 334, 3) := by decide +kernel
theorem dX6_readText_93 : decode cX6_readText 93 = .ok (.istore 4, 2) := by decide +kernel
theorem dX6_readText_95 : decode cX6_readText 95 = .ok (.aload_n 0, 1) := by decide +kernel
theorem dX6_readText_96 : decode cX6_readText 96 = .ok (.getfield 170, 3) := by decide +kernel
theorem dX6_readText_99 : decode cX6_readText 99 = .ok (.ifCond .eq 7, 3) := by decide +kernel
theorem dX6_readText_102 : decode cX6_readText 102 = .ok (.iconst 0, 1) := by decide +kernel
theorem dX6_readText_103 : decode cX6_readText 103 = .ok (.goto 25, 3) := by decide +kernel
theorem dX6_readText_106 : decode cX6_readText 106 = .ok (.aload_n 0, 1) := by decide +kernel
theorem dX6_readText_107 : decode cX6_readText 107 = .ok (.aload_n 0, 1) := by decide +kernel
theorem dX6_readText_108 : decode cX6_readText 108 = .ok (.bipush 98, 2) := by decide +kernel
theorem dX6_readText_110 : decode cX6_readText 110 = .ok (.bipush 111, 2) := by decide +kernel
theorem dX6_readText_112 : decode cX6_readText 112 = .ok (.bipush 117, 2) := by decide +kernel
theorem dX6_readText_114 : decode cX6_readText 114 = .ok (.bipush 110, 2) := by decide +kernel
theorem dX6_readText_116 : decode cX6_readText 116 = .ok (.bipush 100, 2) := by decide +kernel
theorem dX6_readText_118 : decode cX6_readText 118 = .ok (.bipush 115, 2) := by decide +kernel
theorem dX6_readText_120 : decode cX6_readText 120 = .ok (.iconst 0, 1) := by decide +kernel
theorem dX6_readText_121 : decode cX6_readText 121 = .ok (.iconst 0, 1) := by decide +kernel
theorem dX6_readText_122 : decode cX6_readText 122 = .ok (.invokevirtual 189, 3) := by decide +kernel
theorem dX6_readText_125 : decode cX6_readText 125 = .ok (.invokevirtual 334, 3) := by decide +kernel
theorem dX6_readText_128 : decode cX6_readText 128 = .ok (.istore 5, 2) := by decide +kernel
theorem dX6_readText_130 : decode cX6_readText 130 = .ok (.aload_n 0, 1) := by decide +kernel
theorem dX6_readText_131 : decode cX6_readText 131 = .ok (.getfield 170, 3) := by decide +kernel
theorem dX6_readText_134 : decode cX6_readText 134 = .ok (.ifCond .ne 14, 3) := by decide +kernel
theorem dX6_readText_137 : decode cX6_readText 137 = .ok (.aload_n 0, 1) := by decide +kernel
theorem dX6_readText_138 : decode cX6_readText 138 = .ok (.getfield 153, 3) := by decide +kernel
theorem dX6_readText_141 : decode cX6_readText 141 = .ok (.ifCond .eq 7, 3) := by decide +kernel
theorem dX6_readText_144 : decode cX6_readText 144 = .ok (.aload_n 0, 1) := by decide +kernel
theorem dX6_readText_145 : decode cX6_readText 145 = .ok (.invokevirtual 183, 3) := by decide +kernel
theorem dX6_readText_148 : decode cX6_readText 148 = .ok (.iload_n 2, 1) := by decide +kernel
theorem dX6_readText_149 : decode cX6_readText 149 = .ok (.ifCond .ne 7, 3) := by decide +kernel
theorem dX6_readText_152 : decode cX6_readText 152 = .ok (.iload_n 3, 1) := by decide +kernel
theorem dX6_readText_153 : decode cX6_readText 153 = .ok (.goto 15, 3) := by decide +kernel
theorem dX6_readText_156 : decode cX6_readText 156 = .ok (.iload_n 2, 1) := by decide +kernel
theorem dX6_readText_157 : decode cX6_readText 157 = .ok (.iconst 1, 1) := by decide +kernel
theorem dX6_readText_158 : decode cX6_readText 158 = .ok (.if_icmp .ne 8, 3) := by decide +kernel
theorem dX6_readText_161 : decode cX6_readText 161 = .ok (.iload 4, 2) := by decide +kernel
theorem dX6_readText_163 : decode cX6_readText 163 = .ok (.goto 5, 3) := by decide +kernel
theorem dX6_readText_166 : decode cX6_readText 166 = .ok (.iload 5, 2) := by decide +kernel
theorem dX6_readText_168 : decode cX6_readText 168 = .ok (.ireturn, 1) := by decide +kernel
theorem dX6_text_0 : decode cX6_text 0 = .ok (.aload_n 0, 1) := by decide +kernel
theorem dX6_text_1 : decode cX6_text 1 = .ok (.getfield 67, 3) := by decide +kernel
theorem dX6_text_4 : decode cX6_text 4 = .ok (.bipush 6, 2) := by decide +kernel
theorem dX6_text_6 : decode cX6_text 6 = .ok (.if_icmp .ne 6, 3) := by decide +kernel
theorem dX6_text_9 : decode cX6_text 9 = .ok (.bipush (-4), 2) := by decide +kernel
theorem dX6_text_11 : decode cX6_text 11 = .ok (.ireturn, 1) := by decide +kernel
theorem dX6_text_12 : decode cX6_text 12 = .ok (.iconst 0, 1) := by decide +kernel
theorem dX6_text_13 : decode cX6_text 13 = .ok (.istore_n 1, 1) := by decide +kernel
theorem dX6_text_14 : decode cX6_text 14 = .ok (.iload_n 1, 1) := by decide +kernel
theorem dX6_text_15 : decode cX6_text 15 = .ok (.aload_n 0, 1) := by decide +kernel
theorem dX6_text_16 : decode cX6_text 16 = .ok (.getfield 135, 3) := by decide +kernel
theorem dX6_text_19 : decode cX6_text 19 = .ok (.if_icmp .ge 30, 3) := by decide +kernel
theorem dX6_text_22 : decode cX6_text 22 = .ok (.aload_n 0, 1) := by decide +kernel
theorem dX6_text_23 : decode cX6_text 23 = .ok (.getfield 13, 3) := by decide +kernel
theorem dX6_text_26 : decode cX6_text 26 = .ok (.sipush 160, 3) := by decide +kernel
theorem dX6_text_29 : decode cX6_text 29 = .ok (.aload_n 0, 1) := by decide +kernel
theorem dX6_text_30 : decode cX6_text 30 = .ok (.getfield 67, 3) := by decide +kernel
theorem dX6_text_33 : decode cX6_text 33 = .ok (.imul, 1) := by decide +kernel
theorem dX6_text_34 : decode cX6_text 34 = .ok (.iload_n 1, 1) := by decide +kernel
theorem dX6_text_35 : decode cX6_text 35 = .ok (.iadd, 1) := by decide +kernel
theorem dX6_text_36 : decode cX6_text 36 = .ok (.aload_n 0, 1) := by decide +kernel
theorem dX6_text_37 : decode cX6_text 37 = .ok (.getfield 20, 3) := by decide +kernel
theorem dX6_text_40 : decode cX6_text 40 = .ok (.iload_n 1, 1) := by decide +kernel
theorem dX6_text_41 : decode cX6_text 41 = .ok (.iaload, 1) := by decide +kernel
theorem dX6_text_42 : decode cX6_text 42 = .ok (.iastore, 1) := by decide +kernel
theorem dX6_text_43 : decode cX6_text 43 = .ok (.iinc 1 1, 3) := by decide +kernel
theorem dX6_text_46 : decode cX6_text 46 = .ok (.goto (-32), 3) := by decide +kernel
theorem dX6_text_49 : decode cX6_text 49 = .ok (.aload_n 0, 1) := by decide +kernel
theorem dX6_text_50 : decode cX6_text 50 = .ok (.getfield 17, 3) := by decide +kernel
theorem dX6_text_53 : decode cX6_text 53 = .ok (.aload_n 0, 1) := by decide +kernel
theorem dX6_text_54 : decode cX6_text 54 = .ok (.getfield 67, 3) := by decide +kernel
theorem dX6_text_57 : decode cX6_text 57 = .ok (.aload_n 0, 1) := by decide +kernel
theorem dX6_text_58 : decode cX6_text 58 = .ok (.getfield 135, 3) := by decide +kernel
theorem dX6_text_61 : decode cX6_text 61 = .ok (.iastore, 1) := by decide +kernel
theorem dX6_text_62 : decode cX6_text 62 = .ok (.aload_n 0, 1) := by decide +kernel
theorem dX6_text_63 : decode cX6_text 63 = .ok (.iconst 0, 1) := by decide +kernel
theorem dX6_text_64 : decode cX6_text 64 = .ok (.putfield 135, 3) := by decide +kernel
theorem dX6_text_67 : decode cX6_text 67 = .ok (.aload_n 0, 1) := by decide +kernel
theorem dX6_text_68 : decode cX6_text 68 = .ok (.aload_n 0, 1) := by decide +kernel
theorem dX6_text_69 : decode cX6_text 69 = .ok (.getfield 67, 3) := by decide +kernel
theorem dX6_text_72 : decode cX6_text 72 = .ok (.iconst 0, 1) := by decide +kernel
theorem dX6_text_73 : decode cX6_text 73 = .ok (.invokevirtual 338, 3) := by decide +kernel
theorem dX6_text_76 : decode cX6_text 76 = .ok (.istore_n 1, 1) := by decide +kernel
theorem dX6_text_77 : decode cX6_text 77 = .ok (.aload_n 0, 1) := by decide +kernel
theorem dX6_text_78 : decode cX6_text 78 = .ok (.getfield 170, 3) := by decide +kernel
theorem dX6_text_81 : decode cX6_text 81 = .ok (.ifCond .eq 11, 3) := by decide +kernel
theorem dX6_text_84 : decode cX6_text 84 = .ok (.bipush (-100), 2) := by decide +kernel
theorem dX6_text_86 : decode cX6_text 86 = .ok (.aload_n 0, 1) := by decide +kernel
theorem dX6_text_87 : decode cX6_text 87 = .ok (.getfield 174, 3) := by decide +kernel
theorem dX6_text_90 : decode cX6_text 90 = .ok (.isub, 1) := by decide +kernel
theorem dX6_text_91 : decode cX6_text 91 = .ok (.ireturn, 1) := by decide +kernel
theorem dX6_text_92 : decode cX6_text 92 = .ok (.aload_n 0, 1) := by decide +kernel
theorem dX6_text_93 : decode cX6_text 93 = .ok (.dup, 1) := by decide +kernel
theorem dX6_text_94 : decode cX6_text 94 = .ok (.getfield 67, 3) := by decide +kernel
theorem dX6_text_97 : decode cX6_text 97 = .ok (.iconst 1, 1) := by decide +kernel
theorem dX6_text_98 : decode cX6_text 98 = .ok (.iadd, 1) := by decide +kernel
theorem dX6_text_99 : decode cX6_text 99 = .ok (.putfield 67, 3) := by decide +kernel
theorem dX6_text_102 : decode cX6_text 102 = .ok (.aload_n 0, 1) := by decide +kernel
theorem dX6_text_103 : decode cX6_text 103 = .ok (.getfield 67, 3) := by decide +kernel
theorem dX6_text_106 : decode cX6_text 106 = .ok (.iconst 1, 1) := by decide +kernel
theorem dX6_text_107 : decode cX6_text 107 = .ok (.isub, 1) := by decide +kernel
theorem dX6_text_108 : decode cX6_text 108 = .ok (.ireturn, 1) := by decide +kernel
theorem dX6_force_0 : decode cX6_force 0 = .ok (.iload_n 1, 1) := by decide +kernel
theorem dX6_force_1 : decode cX6_force 1 = .ok (.i2l, 1) := by decide +kernel
theorem dX6_force_2 : decode cX6_force 2 = .ok (.lconst 0, 1) := by decide +kernel
theorem dX6_force_3 : decode cX6_force 3 = .ok (.aload_n 0, 1) := by decide +kernel
theorem dX6_force_4 : decode cX6_force 4 = .ok (.getfield 67, 3) := by decide +kernel
theorem dX6_force_7 : decode cX6_force 7 = .ok (.iconst 1, 1) := by decide +kernel
theorem dX6_force_8 : decode cX6_force 8 = .ok (.isub, 1) := by decide +kernel
theorem dX6_force_9 : decode cX6_force 9 = .ok (.i2l, 1) := by decide +kernel
theorem dX6_force_10 : decode cX6_force 10 = .ok (.invokestatic 73, 3) := by decide +kernel
theorem dX6_force_13 : decode cX6_force 13 = .ok (.ifCond .ne 6, 3) := by decide +kernel
theorem dX6_force_16 : decode cX6_force 16 = .ok (.bipush (-2), 2) := by decide +kernel
theorem dX6_force_18 : decode cX6_force 18 = .ok (.ireturn, 1) := by decide +kernel
theorem dX6_force_19 : decode cX6_force 19 = .ok (.aload_n 0, 1) := by decide +kernel
theorem dX6_force_20 : decode cX6_force 20 = .ok (.getfield 116, 3) := by decide +kernel
theorem dX6_force_23 : decode cX6_force 23 = .ok (.istore_n 2, 1) := by decide +kernel
theorem dX6_force_24 : decode cX6_force 24 = .ok (.aload_n 0, 1) := by decide +kernel
theorem dX6_force_25 : decode cX6_force 25 = .ok (.iload_n 1, 1) := by decide +kernel
theorem dX6_force_26 : decode cX6_force 26 = .ok (.putfield 116, 3) := by decide +kernel
theorem dX6_force_29 : decode cX6_force 29 = .ok (.iload_n 2, 1) := by decide +kernel
theorem dX6_force_30 : decode cX6_force 30 = .ok (.ireturn, 1) := by decide +kernel
theorem dX6_bitsOf_0 : decode cX6_bitsOf 0 = .ok (.iconst 0, 1) := by decide +kernel
theorem dX6_bitsOf_1 : decode cX6_bitsOf 1 = .ok (.istore_n 1, 1) := by decide +kernel
theorem dX6_bitsOf_2 : decode cX6_bitsOf 2 = .ok (.iload_n 0, 1) := by decide +kernel
theorem dX6_bitsOf_3 : decode cX6_bitsOf 3 = .ok (.istore_n 2, 1) := by decide +kernel
theorem dX6_bitsOf_4 : decode cX6_bitsOf 4 = .ok (.iload_n 2, 1) := by decide +kernel
theorem dX6_bitsOf_5 : decode cX6_bitsOf 5 = .ok (.ifCond .eq 15, 3) := by decide +kernel
theorem dX6_bitsOf_8 : decode cX6_bitsOf 8 = .ok (.iinc 1 1, 3) := by decide +kernel
theorem dX6_bitsOf_11 : decode cX6_bitsOf 11 = .ok (.iload_n 2, 1) := by decide +kernel
theorem dX6_bitsOf_12 : decode cX6_bitsOf 12 = .ok (.iload_n 2, 1) := by decide +kernel
theorem dX6_bitsOf_13 : decode cX6_bitsOf 13 = .ok (.iconst 1, 1) := by decide +kernel
theorem dX6_bitsOf_14 : decode cX6_bitsOf 14 = .ok (.isub, 1) := by decide +kernel
theorem dX6_bitsOf_15 : decode cX6_bitsOf 15 = .ok (.iand, 1) := by decide +kernel
theorem dX6_bitsOf_16 : decode cX6_bitsOf 16 = .ok (.istore_n 2, 1) := by decide +kernel
theorem dX6_bitsOf_17 : decode cX6_bitsOf 17 = .ok (.goto (-13), 3) := by decide +kernel
theorem dX6_bitsOf_20 : decode cX6_bitsOf 20 = .ok (.iload_n 1, 1) := by decide +kernel
theorem dX6_bitsOf_21 : decode cX6_bitsOf 21 = .ok (.ireturn, 1) := by decide +kernel
theorem dX6_says_0 : decode cX6_says 0 = .ok (.aload_n 0, 1) := by decide +kernel
theorem dX6_says_1 : decode cX6_says 1 = .ok (.iload_n 3, 1) := by decide +kernel
theorem dX6_says_2 : decode cX6_says 2 = .ok (.iconst (-1), 1) := by decide +kernel
theorem dX6_says_3 : decode cX6_says 3 = .ok (.if_icmp .ne 7, 3) := by decide +kernel
theorem dX6_says_6 : decode cX6_says 6 = .ok (.iconst 0, 1) := by decide +kernel
theorem dX6_says_7 : decode cX6_says 7 = .ok (.goto 14, 3) := by decide +kernel
theorem dX6_says_10 : decode cX6_says 10 = .ok (.aload_n 0, 1) := by decide +kernel
theorem dX6_says_11 : decode cX6_says 11 = .ok (.getfield 23, 3) := by decide +kernel
theorem dX6_says_14 : decode cX6_says 14 = .ok (.iconst 2, 1) := by decide +kernel
theorem dX6_says_15 : decode cX6_says 15 = .ok (.iload_n 3, 1) := by decide +kernel
theorem dX6_says_16 : decode cX6_says 16 = .ok (.imul, 1) := by decide +kernel
theorem dX6_says_17 : decode cX6_says 17 = .ok (.iaload, 1) := by decide +kernel
theorem dX6_says_18 : decode cX6_says 18 = .ok (.invokestatic 341, 3) := by decide +kernel
theorem dX6_says_21 : decode cX6_says 21 = .ok (.putfield 193, 3) := by decide +kernel
theorem dX6_says_24 : decode cX6_says 24 = .ok (.aload_n 0, 1) := by decide +kernel
theorem dX6_says_25 : decode cX6_says 25 = .ok (.iload_n 3, 1) := by decide +kernel
theorem dX6_says_26 : decode cX6_says 26 = .ok (.iconst (-1), 1) := by decide +kernel
theorem dX6_says_27 : decode cX6_says 27 = .ok (.if_icmp .ne 7, 3) := by decide +kernel
theorem dX6_says_30 : decode cX6_says 30 = .ok (.iconst 0, 1) := by decide +kernel
theorem dX6_says_31 : decode cX6_says 31 = .ok (.goto 13, 3) := by decide +kernel
theorem dX6_says_34 : decode cX6_says 34 = .ok (.aload_n 0, 1) := by decide +kernel
theorem dX6_says_35 : decode cX6_says 35 = .ok (.getfield 23, 3) := by decide +kernel
theorem dX6_says_38 : decode cX6_says 38 = .ok (.iconst 2, 1) := by decide +kernel
theorem dX6_says_39 : decode cX6_says 39 = .ok (.iload_n 3, 1) := by decide +kernel
theorem dX6_says_40 : decode cX6_says 40 = .ok (.imul, 1) := by decide +kernel
theorem dX6_says_41 : decode cX6_says 41 = .ok (.iconst 1, 1) := by decide +kernel
theorem dX6_says_42 : decode cX6_says 42 = .ok (.iadd, 1) := by decide +kernel
theorem dX6_says_43 : decode cX6_says 43 = .ok (.iaload, 1) := by decide +kernel
theorem dX6_says_44 : decode cX6_says 44 = .ok (.putfield 196, 3) := by decide +kernel
theorem dX6_says_47 : decode cX6_says 47 = .ok (.aload_n 0, 1) := by decide +kernel
theorem dX6_says_48 : decode cX6_says 48 = .ok (.aload_n 0, 1) := by decide +kernel
theorem dX6_says_49 : decode cX6_says 49 = .ok (.getfield 32, 3) := by decide +kernel
theorem dX6_says_52 : decode cX6_says 52 = .ok (.iconst 2, 1) := by decide +kernel
theorem dX6_says_53 : decode cX6_says 53 = .ok (.iload_n 2, 1) := by decide +kernel
theorem dX6_says_54 : decode cX6_says 54 = .ok (.imul, 1) := by decide +kernel
theorem dX6_says_55 : decode cX6_says 55 = .ok (.iaload, 1) := by decide +kernel
theorem dX6_says_56 : decode cX6_says 56 = .ok (.putfield 199, 3) := by decide +kernel
theorem dX6_says_59 : decode cX6_says 59 = .ok (.aload_n 0, 1) := by decide +kernel
theorem dX6_says_60 : decode cX6_says 60 = .ok (.aload_n 0, 1) := by decide +kernel
theorem dX6_says_61 : decode cX6_says 61 = .ok (.getfield 113, 3) := by decide +kernel
theorem dX6_says_64 : decode cX6_says 64 = .ok (.putfield 202, 3) := by decide +kernel
theorem dX6_says_67 : decode cX6_says 67 = .ok (.aload_n 0, 1) := by decide +kernel
theorem dX6_says_68 : decode cX6_says 68 = .ok (.aload_n 0, 1) := by decide +kernel
theorem dX6_says_69 : decode cX6_says 69 = .ok (.getfield 32, 3) := by decide +kernel
theorem dX6_says_72 : decode cX6_says 72 = .ok (.iconst 2, 1) := by decide +kernel
theorem dX6_says_73 : decode cX6_says 73 = .ok (.iload_n 2, 1) := by decide +kernel
theorem dX6_says_74 : decode cX6_says 74 = .ok (.imul, 1) := by decide +kernel
theorem dX6_says_75 : decode cX6_says 75 = .ok (.iconst 1, 1) := by decide +kernel
theorem dX6_says_76 : decode cX6_says 76 = .ok (.iadd, 1) := by decide +kernel
theorem dX6_says_77 : decode cX6_says 77 = .ok (.iaload, 1) := by decide +kernel
theorem dX6_says_78 : decode cX6_says 78 = .ok (.putfield 205, 3) := by decide +kernel
theorem dX6_says_81 : decode cX6_says 81 = .ok (.aload_n 0, 1) := by decide +kernel
theorem dX6_says_82 : decode cX6_says 82 = .ok (.iload_n 3, 1) := by decide +kernel
theorem dX6_says_83 : decode cX6_says 83 = .ok (.iconst (-1), 1) := by decide +kernel
theorem dX6_says_84 : decode cX6_says 84 = .ok (.if_icmp .ne 7, 3) := by decide +kernel
theorem dX6_says_87 : decode cX6_says 87 = .ok (.iconst 0, 1) := by decide +kernel
theorem dX6_says_88 : decode cX6_says 88 = .ok (.goto 4, 3) := by decide +kernel
theorem dX6_says_91 : decode cX6_says 91 = .ok (.iload_n 3, 1) := by decide +kernel
theorem dX6_says_92 : decode cX6_says 92 = .ok (.putfield 208, 3) := by decide +kernel
theorem dX6_says_95 : decode cX6_says 95 = .ok (.aload_n 0, 1) := by decide +kernel
theorem dX6_says_96 : decode cX6_says 96 = .ok (.aload_n 0, 1) := by decide +kernel
theorem dX6_says_97 : decode cX6_says 97 = .ok (.getfield 116, 3) := by decide +kernel
theorem dX6_says_100 : decode cX6_says 100 = .ok (.iload_n 1, 1) := by decide +kernel
theorem dX6_says_101 : decode cX6_says 101 = .ok (.invokevirtual 338, 3) := by decide +kernel
theorem dX6_says_104 : decode cX6_says 104 = .ok (.iload_n 1, 1) := by decide +kernel
theorem dX6_says_105 : decode cX6_says 105 = .ok (.iconst 2, 1) := by decide +kernel
theorem dX6_says_106 : decode cX6_says 106 = .ok (.if_icmp .ne 7, 3) := by decide +kernel
theorem dX6_says_109 : decode cX6_says 109 = .ok (.iconst 0, 1) := by decide +kernel
theorem dX6_says_110 : decode cX6_says 110 = .ok (.goto 5, 3) := by decide +kernel
theorem dX6_says_113 : decode cX6_says 113 = .ok (.bipush (-99), 2) := by decide +kernel
theorem dX6_says_115 : decode cX6_says 115 = .ok (.bipush 99, 2) := by decide +kernel
theorem dX6_says_117 : decode cX6_says 117 = .ok (.invokestatic 344, 3) := by decide +kernel
theorem dX6_says_120 : decode cX6_says 120 = .ok (.ireturn, 1) := by decide +kernel
theorem dX6_modulo_0 : decode cX6_modulo 0 = .ok (.iload_n 0, 1) := by decide +kernel
theorem dX6_modulo_1 : decode cX6_modulo 1 = .ok (.bipush 12, 2) := by decide +kernel
theorem dX6_modulo_3 : decode cX6_modulo 3 = .ok (.irem, 1) := by decide +kernel
theorem dX6_modulo_4 : decode cX6_modulo 4 = .ok (.ifCond .ge 13, 3) := by decide +kernel
theorem dX6_modulo_7 : decode cX6_modulo 7 = .ok (.iload_n 0, 1) := by decide +kernel
theorem dX6_modulo_8 : decode cX6_modulo 8 = .ok (.bipush 12, 2) := by decide +kernel
theorem dX6_modulo_10 : decode cX6_modulo 10 = .ok (.irem, 1) := by decide +kernel
theorem dX6_modulo_11 : decode cX6_modulo 11 = .ok (.bipush 12, 2) := by decide +kernel
theorem dX6_modulo_13 : decode cX6_modulo 13 = .ok (.iadd, 1) := by decide +kernel
theorem dX6_modulo_14 : decode cX6_modulo 14 = .ok (.goto 7, 3) := by decide +kernel
theorem dX6_modulo_17 : decode cX6_modulo 17 = .ok (.iload_n 0, 1) := by decide +kernel
theorem dX6_modulo_18 : decode cX6_modulo 18 = .ok (.bipush 12, 2) := by decide +kernel
theorem dX6_modulo_20 : decode cX6_modulo 20 = .ok (.irem, 1) := by decide +kernel
theorem dX6_modulo_21 : decode cX6_modulo 21 = .ok (.ireturn, 1) := by decide +kernel
theorem dX6_turned_0 : decode cX6_turned 0 = .ok (.iload_n 0, 1) := by decide +kernel
theorem dX6_turned_1 : decode cX6_turned 1 = .ok (.iload_n 1, 1) := by decide +kernel
theorem dX6_turned_2 : decode cX6_turned 2 = .ok (.ishl, 1) := by decide +kernel
theorem dX6_turned_3 : decode cX6_turned 3 = .ok (.iload_n 0, 1) := by decide +kernel
theorem dX6_turned_4 : decode cX6_turned 4 = .ok (.bipush 12, 2) := by decide +kernel
theorem dX6_turned_6 : decode cX6_turned 6 = .ok (.iload_n 1, 1) := by decide +kernel
theorem dX6_turned_7 : decode cX6_turned 7 = .ok (.isub, 1) := by decide +kernel
theorem dX6_turned_8 : decode cX6_turned 8 = .ok (.ishr, 1) := by decide +kernel
theorem dX6_turned_9 : decode cX6_turned 9 = .ok (.ior, 1) := by decide +kernel
theorem dX6_turned_10 : decode cX6_turned 10 = .ok (.sipush 4095, 3) := by decide +kernel
theorem dX6_turned_13 : decode cX6_turned 13 = .ok (.iand, 1) := by decide +kernel
theorem dX6_turned_14 : decode cX6_turned 14 = .ok (.ireturn, 1) := by decide +kernel
theorem dX6_mirrored_0 : decode cX6_mirrored 0 = .ok (.iconst 0, 1) := by decide +kernel
theorem dX6_mirrored_1 : decode cX6_mirrored 1 = .ok (.istore_n 1, 1) := by decide +kernel
theorem dX6_mirrored_2 : decode cX6_mirrored 2 = .ok (.iconst 0, 1) := by decide +kernel
theorem dX6_mirrored_3 : decode cX6_mirrored 3 = .ok (.istore_n 2, 1) := by decide +kernel
theorem dX6_mirrored_4 : decode cX6_mirrored 4 = .ok (.iload_n 2, 1) := by decide +kernel
theorem dX6_mirrored_5 : decode cX6_mirrored 5 = .ok (.bipush 12, 2) := by decide +kernel
theorem dX6_mirrored_7 : decode cX6_mirrored 7 = .ok (.if_icmp .ge 22, 3) := by decide +kernel
theorem dX6_mirrored_10 : decode cX6_mirrored 10 = .ok (.iload_n 1, 1) := by decide +kernel
theorem dX6_mirrored_11 : decode cX6_mirrored 11 = .ok (.iload_n 0, 1) := by decide +kernel
theorem dX6_mirrored_12 : decode cX6_mirrored 12 = .ok (.iload_n 2, 1) := by decide +kernel
theorem dX6_mirrored_13 : decode cX6_mirrored 13 = .ok (.ishr, 1) := by decide +kernel
theorem dX6_mirrored_14 : decode cX6_mirrored 14 = .ok (.iconst 1, 1) := by decide +kernel
theorem dX6_mirrored_15 : decode cX6_mirrored 15 = .ok (.iand, 1) := by decide +kernel
theorem dX6_mirrored_16 : decode cX6_mirrored 16 = .ok (.bipush 11, 2) := by decide +kernel
theorem dX6_mirrored_18 : decode cX6_mirrored 18 = .ok (.iload_n 2, 1) := by decide +kernel
theorem dX6_mirrored_19 : decode cX6_mirrored 19 = .ok (.isub, 1) := by decide +kernel
theorem dX6_mirrored_20 : decode cX6_mirrored 20 = .ok (.ishl, 1) := by decide +kernel
theorem dX6_mirrored_21 : decode cX6_mirrored 21 = .ok (.ior, 1) := by decide +kernel
theorem dX6_mirrored_22 : decode cX6_mirrored 22 = .ok (.istore_n 1, 1) := by decide +kernel
theorem dX6_mirrored_23 : decode cX6_mirrored 23 = .ok (.iinc 2 1, 3) := by decide +kernel
theorem dX6_mirrored_26 : decode cX6_mirrored 26 = .ok (.goto (-22), 3) := by decide +kernel
theorem dX6_mirrored_29 : decode cX6_mirrored 29 = .ok (.iload_n 1, 1) := by decide +kernel
theorem dX6_mirrored_30 : decode cX6_mirrored 30 = .ok (.ireturn, 1) := by decide +kernel
theorem dX6_seenBy_0 : decode cX6_seenBy 0 = .ok (.aload_n 0, 1) := by decide +kernel
theorem dX6_seenBy_1 : decode cX6_seenBy 1 = .ok (.getfield 29, 3) := by decide +kernel
theorem dX6_seenBy_4 : decode cX6_seenBy 4 = .ok (.iload_n 1, 1) := by decide +kernel
theorem dX6_seenBy_5 : decode cX6_seenBy 5 = .ok (.iaload, 1) := by decide +kernel
theorem dX6_seenBy_6 : decode cX6_seenBy 6 = .ok (.istore_n 3, 1) := by decide +kernel
theorem dX6_seenBy_7 : decode cX6_seenBy 7 = .ok (.aload_n 0, 1) := by decide +kernel
theorem dX6_seenBy_8 : decode cX6_seenBy 8 = .ok (.getfield 23, 3) := by decide +kernel
theorem dX6_seenBy_11 : decode cX6_seenBy 11 = .ok (.iconst 2, 1) := by decide +kernel
theorem dX6_seenBy_12 : decode cX6_seenBy 12 = .ok (.iload_n 2, 1) := by decide +kernel
theorem dX6_seenBy_13 : decode cX6_seenBy 13 = .ok (.imul, 1) := by decide +kernel
theorem dX6_seenBy_14 : decode cX6_seenBy 14 = .ok (.iaload, 1) := by decide +kernel
theorem dX6_seenBy_15 : decode cX6_seenBy 15 = .ok (.istore 4, 2) := by decide +kernel
theorem dX6_seenBy_17 : decode cX6_seenBy 17 = .ok (.iload_n 3, 1) := by decide +kernel
theorem dX6_seenBy_18 : decode cX6_seenBy 18 = .ok (.iconst 5, 1) := by decide +kernel
theorem dX6_seenBy_19 : decode cX6_seenBy 19 = .ok (.if_icmp .ne 6, 3) := by decide +kernel
theorem dX6_seenBy_22 : decode cX6_seenBy 22 = .ok (.iload 4, 2) := by decide +kernel
theorem dX6_seenBy_24 : decode cX6_seenBy 24 = .ok (.ireturn, 1) := by decide +kernel
theorem dX6_seenBy_25 : decode cX6_seenBy 25 = .ok (.aload_n 0, 1) := by decide +kernel
theorem dX6_seenBy_26 : decode cX6_seenBy 26 = .ok (.iconst 0, 1) := by decide +kernel
theorem dX6_seenBy_27 : decode cX6_seenBy 27 = .ok (.iload_n 1, 1) := by decide +kernel
theorem dX6_seenBy_28 : decode cX6_seenBy 28 = .ok (.iload_n 2, 1) := by decide +kernel
theorem dX6_seenBy_29 : decode cX6_seenBy 29 = .ok (.invokevirtual 348, 3) := by decide +kernel
theorem dX6_seenBy_32 : decode cX6_seenBy 32 = .ok (.invokestatic 351, 3) := by decide +kernel
theorem dX6_seenBy_35 : decode cX6_seenBy 35 = .ok (.istore 5, 2) := by decide +kernel
theorem dX6_seenBy_37 : decode cX6_seenBy 37 = .ok (.iload_n 3, 1) := by decide +kernel
theorem dX6_seenBy_38 : decode cX6_seenBy 38 = .ok (.iconst 1, 1) := by decide +kernel
theorem dX6_seenBy_39 : decode cX6_seenBy 39 = .ok (.if_icmp .eq 8, 3) := by decide +kernel
theorem dX6_seenBy_42 : decode cX6_seenBy 42 = .ok (.iload_n 3, 1) := by decide +kernel
theorem dX6_seenBy_43 : decode cX6_seenBy 43 = .ok (.iconst 3, 1) := by decide +kernel
theorem dX6_seenBy_44 : decode cX6_seenBy 44 = .ok (.if_icmp .ne 29, 3) := by decide +kernel
theorem dX6_seenBy_47 : decode cX6_seenBy 47 = .ok (.iload_n 3, 1) := by decide +kernel
theorem dX6_seenBy_48 : decode cX6_seenBy 48 = .ok (.iconst 3, 1) := by decide +kernel
theorem dX6_seenBy_49 : decode cX6_seenBy 49 = .ok (.if_icmp .ne 13, 3) := by decide +kernel
theorem dX6_seenBy_52 : decode cX6_seenBy 52 = .ok (.iload 4, 2) := by decide +kernel
theorem dX6_seenBy_54 : decode cX6_seenBy 54 = .ok (.iload 4, 2) := by decide +kernel
theorem dX6_seenBy_56 : decode cX6_seenBy 56 = .ok (.iconst 1, 1) := by decide +kernel
theorem dX6_seenBy_57 : decode cX6_seenBy 57 = .ok (.isub, 1) := by decide +kernel
theorem dX6_seenBy_58 : decode cX6_seenBy 58 = .ok (.iand, 1) := by decide +kernel
theorem dX6_seenBy_59 : decode cX6_seenBy 59 = .ok (.goto 5, 3) := by decide +kernel
theorem dX6_seenBy_62 : decode cX6_seenBy 62 = .ok (.iload 4, 2) := by decide +kernel
theorem dX6_seenBy_64 : decode cX6_seenBy 64 = .ok (.iload 5, 2) := by decide +kernel
theorem dX6_seenBy_66 : decode cX6_seenBy 66 = .ok (.invokestatic 354, 3) := by decide +kernel
theorem dX6_seenBy_69 : decode cX6_seenBy 69 = .ok (.invokestatic 357, 3) := by decide +kernel
theorem dX6_seenBy_72 : decode cX6_seenBy 72 = .ok (.ireturn, 1) := by decide +kernel
theorem dX6_seenBy_73 : decode cX6_seenBy 73 = .ok (.iload_n 3, 1) := by decide +kernel
theorem dX6_seenBy_74 : decode cX6_seenBy 74 = .ok (.iconst 4, 1) := by decide +kernel
theorem dX6_seenBy_75 : decode cX6_seenBy 75 = .ok (.if_icmp .ne 14, 3) := by decide +kernel
theorem dX6_seenBy_78 : decode cX6_seenBy 78 = .ok (.sipush 4095, 3) := by decide +kernel
theorem dX6_seenBy_81 : decode cX6_seenBy 81 = .ok (.iload 4, 2) := by decide +kernel
theorem dX6_seenBy_83 : decode cX6_seenBy 83 = .ok (.iconst (-1), 1) := by decide +kernel
theorem dX6_seenBy_84 : decode cX6_seenBy 84 = .ok (.ixor, 1) := by decide +kernel
theorem dX6_seenBy_85 : decode cX6_seenBy 85 = .ok (.iand, 1) := by decide +kernel
theorem dX6_seenBy_86 : decode cX6_seenBy 86 = .ok (.goto 5, 3) := by decide +kernel
theorem dX6_seenBy_89 : decode cX6_seenBy 89 = .ok (.iload 4, 2) := by decide +kernel
theorem dX6_seenBy_91 : decode cX6_seenBy 91 = .ok (.iload 5, 2) := by decide +kernel
theorem dX6_seenBy_93 : decode cX6_seenBy 93 = .ok (.invokestatic 354, 3) := by decide +kernel
theorem dX6_seenBy_96 : decode cX6_seenBy 96 = .ok (.istore 6, 2) := by decide +kernel
theorem dX6_seenBy_98 : decode cX6_seenBy 98 = .ok (.iload_n 3, 1) := by decide +kernel
theorem dX6_seenBy_99 : decode cX6_seenBy 99 = .ok (.ifCond .ne 8, 3) := by decide +kernel
theorem dX6_seenBy_102 : decode cX6_seenBy 102 = .ok (.iload 6, 2) := by decide +kernel
theorem dX6_seenBy_104 : decode cX6_seenBy 104 = .ok (.goto 16, 3) := by decide +kernel
theorem dX6_seenBy_107 : decode cX6_seenBy 107 = .ok (.iload 6, 2) := by decide +kernel
theorem dX6_seenBy_109 : decode cX6_seenBy 109 = .ok (.iconst 1, 1) := by decide +kernel
theorem dX6_seenBy_110 : decode cX6_seenBy 110 = .ok (.aload_n 0, 1) := by decide +kernel
theorem dX6_seenBy_111 : decode cX6_seenBy 111 = .ok (.getfield 32, 3) := by decide +kernel
theorem dX6_seenBy_114 : decode cX6_seenBy 114 = .ok (.iconst 2, 1) := by decide +kernel
theorem dX6_seenBy_115 : decode cX6_seenBy 115 = .ok (.iload_n 1, 1) := by decide +kernel
theorem dX6_seenBy_116 : decode cX6_seenBy 116 = .ok (.imul, 1) := by decide +kernel
theorem dX6_seenBy_117 : decode cX6_seenBy 117 = .ok (.iaload, 1) := by decide +kernel
theorem dX6_seenBy_118 : decode cX6_seenBy 118 = .ok (.ishl, 1) := by decide +kernel
theorem dX6_seenBy_119 : decode cX6_seenBy 119 = .ok (.ixor, 1) := by decide +kernel
theorem dX6_seenBy_120 : decode cX6_seenBy 120 = .ok (.ireturn, 1) := by decide +kernel
theorem dX6_overlookedBy_0 : decode cX6_overlookedBy 0 = .ok (.aload_n 0, 1) := by decide +kernel
theorem dX6_overlookedBy_1 : decode cX6_overlookedBy 1 = .ok (.getfield 29, 3) := by decide +kernel
theorem dX6_overlookedBy_4 : decode cX6_overlookedBy 4 = .ok (.iload_n 1, 1) := by decide +kernel
theorem dX6_overlookedBy_5 : decode cX6_overlookedBy 5 = .ok (.iaload, 1) := by decide +kernel
theorem dX6_overlookedBy_6 : decode cX6_overlookedBy 6 = .ok (.istore_n 3, 1) := by decide +kernel
theorem dX6_overlookedBy_7 : decode cX6_overlookedBy 7 = .ok (.iload_n 3, 1) := by decide +kernel
theorem dX6_overlookedBy_8 : decode cX6_overlookedBy 8 = .ok (.iconst 1, 1) := by decide +kernel
theorem dX6_overlookedBy_9 : decode cX6_overlookedBy 9 = .ok (.if_icmp .eq 22, 3) := by decide +kernel
theorem dX6_overlookedBy_12 : decode cX6_overlookedBy 12 = .ok (.iload_n 3, 1) := by decide +kernel
theorem dX6_overlookedBy_13 : decode cX6_overlookedBy 13 = .ok (.iconst 5, 1) := by decide +kernel
theorem dX6_overlookedBy_14 : decode cX6_overlookedBy 14 = .ok (.if_icmp .eq 17, 3) := by decide +kernel
theorem dX6_overlookedBy_17 : decode cX6_overlookedBy 17 = .ok (.iload_n 3, 1) := by decide +kernel
theorem dX6_overlookedBy_18 : decode cX6_overlookedBy 18 = .ok (.iconst 4, 1) := by decide +kernel
theorem dX6_overlookedBy_19 : decode cX6_overlookedBy 19 = .ok (.if_icmp .ne 14, 3) := by decide +kernel
theorem dX6_overlookedBy_22 : decode cX6_overlookedBy 22 = .ok (.aload_n 0, 1) := by decide +kernel
