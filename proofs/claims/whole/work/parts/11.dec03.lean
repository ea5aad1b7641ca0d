theorem dX5_hoursOf_34 : decode cX5_hoursOf 34 = .ok (.getfield 35, 3) := by decide +kernel
theorem dX5_hoursOf_37 : decode cX5_hoursOf 37 = .ok (.aload_n 1, 1) := by decide +kernel
theorem dX5_hoursOf_38 : decode cX5_hoursOf 38 = .ok (.iload_n 2, 1) := by decide +kernel
theorem dX5_hoursOf_39 : decode cX5_hoursOf 39 = .ok (.invokevirtual 223, 3) := by decide +kernel
theorem dX5_hoursOf_42 : decode cX5_hoursOf 42 = .ok (.iconst (-1), 1) := by decide +kernel
theorem dX5_hoursOf_43 : decode cX5_hoursOf 43 = .ok (.if_icmp .ne 13, 3) := by decide +kernel
theorem dX5_hoursOf_46 : decode cX5_hoursOf 46 = .ok (.iload_n 3, 1) := by decide +kernel
theorem dX5_hoursOf_47 : decode cX5_hoursOf 47 = .ok (.ifCond .eq 6, 3) := by decide +kernel
theorem dX5_hoursOf_50 : decode cX5_hoursOf 50 = .ok (.iload 5, 2) := by decide +kernel
theorem dX5_hoursOf_52 : decode cX5_hoursOf 52 = .ok (.ireturn, 1) := by decide +kernel
theorem dX5_hoursOf_53 : decode cX5_hoursOf 53 = .ok (.iinc 4 1, 3) := by decide +kernel
theorem dX5_hoursOf_56 : decode cX5_hoursOf 56 = .ok (.iinc 5 1, 3) := by decide +kernel
theorem dX5_hoursOf_59 : decode cX5_hoursOf 59 = .ok (.goto (-42), 3) := by decide +kernel
theorem dX5_hoursOf_62 : decode cX5_hoursOf 62 = .ok (.iload_n 3, 1) := by decide +kernel
theorem dX5_hoursOf_63 : decode cX5_hoursOf 63 = .ok (.ifCond .eq 7, 3) := by decide +kernel
theorem dX5_hoursOf_66 : decode cX5_hoursOf 66 = .ok (.iconst (-1), 1) := by decide +kernel
theorem dX5_hoursOf_67 : decode cX5_hoursOf 67 = .ok (.goto 5, 3) := by decide +kernel
theorem dX5_hoursOf_70 : decode cX5_hoursOf 70 = .ok (.iload 4, 2) := by decide +kernel
theorem dX5_hoursOf_72 : decode cX5_hoursOf 72 = .ok (.ireturn, 1) := by decide +kernel
theorem dX5_readersOf_0 : decode cX5_readersOf 0 = .ok (.iconst 0, 1) := by decide +kernel
theorem dX5_readersOf_1 : decode cX5_readersOf 1 = .ok (.istore_n 2, 1) := by decide +kernel
theorem dX5_readersOf_2 : decode cX5_readersOf 2 = .ok (.iconst 0, 1) := by decide +kernel
theorem dX5_readersOf_3 : decode cX5_readersOf 3 = .ok (.istore_n 3, 1) := by decide +kernel
theorem dX5_readersOf_4 : decode cX5_readersOf 4 = .ok (.iload_n 3, 1) := by decide +kernel
theorem dX5_readersOf_5 : decode cX5_readersOf 5 = .ok (.aload_n 0, 1) := by decide +kernel
theorem dX5_readersOf_6 : decode cX5_readersOf 6 = .ok (.getfield 28, 3) := by decide +kernel
theorem dX5_readersOf_9 : decode cX5_readersOf 9 = .ok (.getfield 256, 3) := by decide +kernel
theorem dX5_readersOf_12 : decode cX5_readersOf 12 = .ok (.if_icmp .ge 28, 3) := by decide +kernel
theorem dX5_readersOf_15 : decode cX5_readersOf 15 = .ok (.aload_n 0, 1) := by decide +kernel
theorem dX5_readersOf_16 : decode cX5_readersOf 16 = .ok (.getfield 28, 3) := by decide +kernel
theorem dX5_readersOf_19 : decode cX5_readersOf 19 = .ok (.aload_n 1, 1) := by decide +kernel
theorem dX5_readersOf_20 : decode cX5_readersOf 20 = .ok (.iload_n 3, 1) := by decide +kernel
theorem dX5_readersOf_21 : decode cX5_readersOf 21 = .ok (.invokevirtual 223, 3) := by decide +kernel
theorem dX5_readersOf_24 : decode cX5_readersOf 24 = .ok (.iconst (-1), 1) := by decide +kernel
theorem dX5_readersOf_25 : decode cX5_readersOf 25 = .ok (.if_icmp .ne 9, 3) := by decide +kernel
theorem dX5_readersOf_28 : decode cX5_readersOf 28 = .ok (.iload_n 2, 1) := by decide +kernel
theorem dX5_readersOf_29 : decode cX5_readersOf 29 = .ok (.iconst 1, 1) := by decide +kernel
theorem dX5_readersOf_30 : decode cX5_readersOf 30 = .ok (.iload_n 3, 1) := by decide +kernel
theorem dX5_readersOf_31 : decode cX5_readersOf 31 = .ok (.ishl, 1) := by decide +kernel
theorem dX5_readersOf_32 : decode cX5_readersOf 32 = .ok (.ior, 1) := by decide +kernel
theorem dX5_readersOf_33 : decode cX5_readersOf 33 = .ok (.istore_n 2, 1) := by decide +kernel
theorem dX5_readersOf_34 : decode cX5_readersOf 34 = .ok (.iinc 3 1, 3) := by decide +kernel
theorem dX5_readersOf_37 : decode cX5_readersOf 37 = .ok (.goto (-33), 3) := by decide +kernel
theorem dX5_readersOf_40 : decode cX5_readersOf 40 = .ok (.iload_n 2, 1) := by decide +kernel
theorem dX5_readersOf_41 : decode cX5_readersOf 41 = .ok (.ireturn, 1) := by decide +kernel
theorem dX5_followersDrawn_0 : decode cX5_followersDrawn 0 = .ok (.aload_n 0, 1) := by decide +kernel
theorem dX5_followersDrawn_1 : decode cX5_followersDrawn 1 = .ok (.getfield 35, 3) := by decide +kernel
theorem dX5_followersDrawn_4 : decode cX5_followersDrawn 4 = .ok (.aload_n 0, 1) := by decide +kernel
theorem dX5_followersDrawn_5 : decode cX5_followersDrawn 5 = .ok (.getfield 28, 3) := by decide +kernel
theorem dX5_followersDrawn_8 : decode cX5_followersDrawn 8 = .ok (.invokevirtual 248, 3) := by decide +kernel
theorem dX5_followersDrawn_11 : decode cX5_followersDrawn 11 = .ok (.iload_n 1, 1) := by decide +kernel
theorem dX5_followersDrawn_12 : decode cX5_followersDrawn 12 = .ok (.istore_n 3, 1) := by decide +kernel
theorem dX5_followersDrawn_13 : decode cX5_followersDrawn 13 = .ok (.iconst 0, 1) := by decide +kernel
theorem dX5_followersDrawn_14 : decode cX5_followersDrawn 14 = .ok (.istore 4, 2) := by decide +kernel
theorem dX5_followersDrawn_16 : decode cX5_followersDrawn 16 = .ok (.iload 4, 2) := by decide +kernel
theorem dX5_followersDrawn_18 : decode cX5_followersDrawn 18 = .ok (.iload_n 2, 1) := by decide +kernel
theorem dX5_followersDrawn_19 : decode cX5_followersDrawn 19 = .ok (.if_icmp .ge 105, 3) := by decide +kernel
theorem dX5_followersDrawn_22 : decode cX5_followersDrawn 22 = .ok (.aload_n 0, 1) := by decide +kernel
theorem dX5_followersDrawn_23 : decode cX5_followersDrawn 23 = .ok (.getfield 35, 3) := by decide +kernel
theorem dX5_followersDrawn_26 : decode cX5_followersDrawn 26 = .ok (.getfield 104, 3) := by decide +kernel
theorem dX5_followersDrawn_29 : decode cX5_followersDrawn 29 = .ok (.bipush 12, 2) := by decide +kernel
theorem dX5_followersDrawn_31 : decode cX5_followersDrawn 31 = .ok (.if_icmp .ge 93, 3) := by decide +kernel
theorem dX5_followersDrawn_34 : decode cX5_followersDrawn 34 = .ok (.iload_n 3, 1) := by decide +kernel
theorem dX5_followersDrawn_35 : decode cX5_followersDrawn 35 = .ok (.invokestatic 290, 3) := by decide +kernel
theorem dX5_followersDrawn_38 : decode cX5_followersDrawn 38 = .ok (.istore 5, 2) := by decide +kernel
theorem dX5_followersDrawn_40 : decode cX5_followersDrawn 40 = .ok (.iload 5, 2) := by decide +kernel
theorem dX5_followersDrawn_42 : decode cX5_followersDrawn 42 = .ok (.invokestatic 290, 3) := by decide +kernel
theorem dX5_followersDrawn_45 : decode cX5_followersDrawn 45 = .ok (.istore 6, 2) := by decide +kernel
theorem dX5_followersDrawn_47 : decode cX5_followersDrawn 47 = .ok (.iload 6, 2) := by decide +kernel
theorem dX5_followersDrawn_49 : decode cX5_followersDrawn 49 = .ok (.istore_n 3, 1) := by decide +kernel
theorem dX5_followersDrawn_50 : decode cX5_followersDrawn 50 = .ok (.iload 5, 2) := by decide +kernel
theorem dX5_followersDrawn_52 : decode cX5_followersDrawn 52 = .ok (.bipush 9, 2) := by decide +kernel
theorem dX5_followersDrawn_54 : decode cX5_followersDrawn 54 = .ok (.iushr, 1) := by decide +kernel
theorem dX5_followersDrawn_55 : decode cX5_followersDrawn 55 = .ok (.bipush 8, 2) := by decide +kernel
theorem dX5_followersDrawn_57 : decode cX5_followersDrawn 57 = .ok (.irem, 1) := by decide +kernel
theorem dX5_followersDrawn_58 : decode cX5_followersDrawn 58 = .ok (.istore 7, 2) := by decide +kernel
theorem dX5_followersDrawn_60 : decode cX5_followersDrawn 60 = .ok (.iload 6, 2) := by decide +kernel
theorem dX5_followersDrawn_62 : decode cX5_followersDrawn 62 = .ok (.bipush 9, 2) := by decide +kernel
theorem dX5_followersDrawn_64 : decode cX5_followersDrawn 64 = .ok (.iushr, 1) := by decide +kernel
theorem dX5_followersDrawn_65 : decode cX5_followersDrawn 65 = .ok (.bipush 8, 2) := by decide +kernel
theorem dX5_followersDrawn_67 : decode cX5_followersDrawn 67 = .ok (.irem, 1) := by decide +kernel
theorem dX5_followersDrawn_68 : decode cX5_followersDrawn 68 = .ok (.istore 8, 2) := by decide +kernel
theorem dX5_followersDrawn_70 : decode cX5_followersDrawn 70 = .ok (.aload_n 0, 1) := by decide +kernel
theorem dX5_followersDrawn_71 : decode cX5_followersDrawn 71 = .ok (.getfield 35, 3) := by decide +kernel
theorem dX5_followersDrawn_74 : decode cX5_followersDrawn 74 = .ok (.iload 7, 2) := by decide +kernel
theorem dX5_followersDrawn_76 : decode cX5_followersDrawn 76 = .ok (.invokevirtual 117, 3) := by decide +kernel
theorem dX5_followersDrawn_79 : decode cX5_followersDrawn 79 = .ok (.ifCond .eq 39, 3) := by decide +kernel
theorem dX5_followersDrawn_82 : decode cX5_followersDrawn 82 = .ok (.aload_n 0, 1) := by decide +kernel
theorem dX5_followersDrawn_83 : decode cX5_followersDrawn 83 = .ok (.getfield 35, 3) := by decide +kernel
theorem dX5_followersDrawn_86 : decode cX5_followersDrawn 86 = .ok (.iload 8, 2) := by decide +kernel
theorem dX5_followersDrawn_88 : decode cX5_followersDrawn 88 = .ok (.invokevirtual 120, 3) := by decide +kernel
theorem dX5_followersDrawn_91 : decode cX5_followersDrawn 91 = .ok (.ifCond .eq 27, 3) := by decide +kernel
theorem dX5_followersDrawn_94 : decode cX5_followersDrawn 94 = .ok (.aload_n 0, 1) := by decide +kernel
theorem dX5_followersDrawn_95 : decode cX5_followersDrawn 95 = .ok (.getfield 35, 3) := by decide +kernel
theorem dX5_followersDrawn_98 : decode cX5_followersDrawn 98 = .ok (.iload 7, 2) := by decide +kernel
theorem dX5_followersDrawn_100 : decode cX5_followersDrawn 100 = .ok (.invokevirtual 153, 3) := by decide +kernel
theorem dX5_followersDrawn_103 : decode cX5_followersDrawn 103 = .ok (.ifCond .eq 15, 3) := by decide +kernel
theorem dX5_followersDrawn_106 : decode cX5_followersDrawn 106 = .ok (.aload_n 0, 1) := by decide +kernel
theorem dX5_followersDrawn_107 : decode cX5_followersDrawn 107 = .ok (.getfield 35, 3) := by decide +kernel
theorem dX5_followersDrawn_110 : decode cX5_followersDrawn 110 = .ok (.iload 7, 2) := by decide +kernel
theorem dX5_followersDrawn_112 : decode cX5_followersDrawn 112 = .ok (.iload 8, 2) := by decide +kernel
theorem dX5_followersDrawn_114 : decode cX5_followersDrawn 114 = .ok (.invokevirtual 159, 3) := by decide +kernel
theorem dX5_followersDrawn_117 : decode cX5_followersDrawn 117 = .ok (.pop, 1) := by decide +kernel
theorem dX5_followersDrawn_118 : decode cX5_followersDrawn 118 = .ok (.iinc 4 1, 3) := by decide +kernel
theorem dX5_followersDrawn_121 : decode cX5_followersDrawn 121 = .ok (.goto (-105), 3) := by decide +kernel
theorem dX5_followersDrawn_124 : decode cX5_followersDrawn 124 = .ok (.aload_n 0, 1) := by decide +kernel
theorem dX5_followersDrawn_125 : decode cX5_followersDrawn 125 = .ok (.getfield 35, 3) := by decide +kernel
theorem dX5_followersDrawn_128 : decode cX5_followersDrawn 128 = .ok (.invokevirtual 199, 3) := by decide +kernel
theorem dX5_followersDrawn_131 : decode cX5_followersDrawn 131 = .ok (.ireturn, 1) := by decide +kernel
theorem dX5_drawAfter_0 : decode cX5_drawAfter 0 = .ok (.iload_n 0, 1) := by decide +kernel
theorem dX5_drawAfter_1 : decode cX5_drawAfter 1 = .ok (.ldc_w 293, 3) := by decide +kernel
theorem dX5_drawAfter_4 : decode cX5_drawAfter 4 = .ok (.imul, 1) := by decide +kernel
theorem dX5_drawAfter_5 : decode cX5_drawAfter 5 = .ok (.sipush 12345, 3) := by decide +kernel
theorem dX5_drawAfter_8 : decode cX5_drawAfter 8 = .ok (.iadd, 1) := by decide +kernel
theorem dX5_drawAfter_9 : decode cX5_drawAfter 9 = .ok (.ireturn, 1) := by decide +kernel
theorem dX5_within_0 : decode cX5_within 0 = .ok (.iload_n 0, 1) := by decide +kernel
theorem dX5_within_1 : decode cX5_within 1 = .ok (.iload_n 1, 1) := by decide +kernel
theorem dX5_within_2 : decode cX5_within 2 = .ok (.if_icmp .lt 12, 3) := by decide +kernel
theorem dX5_within_5 : decode cX5_within 5 = .ok (.iload_n 0, 1) := by decide +kernel
theorem dX5_within_6 : decode cX5_within 6 = .ok (.iload_n 2, 1) := by decide +kernel
theorem dX5_within_7 : decode cX5_within 7 = .ok (.if_icmp .gt 7, 3) := by decide +kernel
theorem dX5_within_10 : decode cX5_within 10 = .ok (.iconst 1, 1) := by decide +kernel
theorem dX5_within_11 : decode cX5_within 11 = .ok (.goto 4, 3) := by decide +kernel
theorem dX5_within_14 : decode cX5_within 14 = .ok (.iconst 0, 1) := by decide +kernel
theorem dX5_within_15 : decode cX5_within 15 = .ok (.ireturn, 1) := by decide +kernel
theorem dX5_isSet_0 : decode cX5_isSet 0 = .ok (.iload_n 0, 1) := by decide +kernel
theorem dX5_isSet_1 : decode cX5_isSet 1 = .ok (.iconst 0, 1) := by decide +kernel
theorem dX5_isSet_2 : decode cX5_isSet 2 = .ok (.sipush 4095, 3) := by decide +kernel
theorem dX5_isSet_5 : decode cX5_isSet 5 = .ok (.invokestatic 72, 3) := by decide +kernel
theorem dX5_isSet_8 : decode cX5_isSet 8 = .ok (.ireturn, 1) := by decide +kernel
theorem dX5_isSaying_0 : decode cX5_isSaying 0 = .ok (.iload_n 0, 1) := by decide +kernel
theorem dX5_isSaying_1 : decode cX5_isSaying 1 = .ok (.iconst 0, 1) := by decide +kernel
theorem dX5_isSaying_2 : decode cX5_isSaying 2 = .ok (.bipush 11, 2) := by decide +kernel
theorem dX5_isSaying_4 : decode cX5_isSaying 4 = .ok (.invokestatic 72, 3) := by decide +kernel
theorem dX5_isSaying_7 : decode cX5_isSaying 7 = .ok (.ireturn, 1) := by decide +kernel
theorem dX5_isKind_0 : decode cX5_isKind 0 = .ok (.iload_n 0, 1) := by decide +kernel
theorem dX5_isKind_1 : decode cX5_isKind 1 = .ok (.iconst 0, 1) := by decide +kernel
theorem dX5_isKind_2 : decode cX5_isKind 2 = .ok (.iconst 5, 1) := by decide +kernel
theorem dX5_isKind_3 : decode cX5_isKind 3 = .ok (.invokestatic 72, 3) := by decide +kernel
theorem dX5_isKind_6 : decode cX5_isKind 6 = .ok (.ireturn, 1) := by decide +kernel
theorem dX5_isSheet_0 : decode cX5_isSheet 0 = .ok (.iload_n 0, 1) := by decide +kernel
theorem dX5_isSheet_1 : decode cX5_isSheet 1 = .ok (.iconst 0, 1) := by decide +kernel
theorem dX5_isSheet_2 : decode cX5_isSheet 2 = .ok (.iconst 3, 1) := by decide +kernel
theorem dX5_isSheet_3 : decode cX5_isSheet 3 = .ok (.invokestatic 72, 3) := by decide +kernel
theorem dX5_isSheet_6 : decode cX5_isSheet 6 = .ok (.ireturn, 1) := by decide +kernel
theorem dX5_oneIf_0 : decode cX5_oneIf 0 = .ok (.iload_n 0, 1) := by decide +kernel
theorem dX5_oneIf_1 : decode cX5_oneIf 1 = .ok (.ifCond .eq 7, 3) := by decide +kernel
theorem dX5_oneIf_4 : decode cX5_oneIf 4 = .ok (.iconst 1, 1) := by decide +kernel
theorem dX5_oneIf_5 : decode cX5_oneIf 5 = .ok (.goto 4, 3) := by decide +kernel
theorem dX5_oneIf_8 : decode cX5_oneIf 8 = .ok (.iconst 0, 1) := by decide +kernel
theorem dX5_oneIf_9 : decode cX5_oneIf 9 = .ok (.ireturn, 1) := by decide +kernel
theorem dX5_mostOf_0 : decode cX5_mostOf 0 = .ok (.iload_n 0, 1) := by decide +kernel
theorem dX5_mostOf_1 : decode cX5_mostOf 1 = .ok (.tableswitch 48 1 5 #[35, 48, 39, 42, 45], 35) := by decide +kernel
theorem dX5_mostOf_36 : decode cX5_mostOf 36 = .ok (.sipush 999, 3) := by decide +kernel
theorem dX5_mostOf_39 : decode cX5_mostOf 39 = .ok (.ireturn, 1) := by decide +kernel
theorem dX5_mostOf_40 : decode cX5_mostOf 40 = .ok (.bipush 11, 2) := by decide +kernel
theorem dX5_mostOf_42 : decode cX5_mostOf 42 = .ok (.ireturn, 1) := by decide +kernel
theorem dX5_mostOf_43 : decode cX5_mostOf 43 = .ok (.bipush 9, 2) := by decide +kernel
theorem dX5_mostOf_45 : decode cX5_mostOf 45 = .ok (.ireturn, 1) := by decide +kernel
theorem dX5_mostOf_46 : decode cX5_mostOf 46 = .ok (.bipush 99, 2) := by decide +kernel
theorem dX5_mostOf_48 : decode cX5_mostOf 48 = .ok (.ireturn, 1) := by decide +kernel
theorem dX5_mostOf_49 : decode cX5_mostOf 49 = .ok (.sipush 4095, 3) := by decide +kernel
theorem dX5_mostOf_52 : decode cX5_mostOf 52 = .ok (.ireturn, 1) := by decide +kernel
theorem dX5_sizeOf_0 : decode cX5_sizeOf 0 = .ok (.iload_n 0, 1) := by decide +kernel
theorem dX5_sizeOf_1 : decode cX5_sizeOf 1 = .ok (.iconst (-1), 1) := by decide +kernel
theorem dX5_sizeOf_2 : decode cX5_sizeOf 2 = .ok (.if_icmp .ne 7, 3) := by decide +kernel
theorem dX5_sizeOf_5 : decode cX5_sizeOf 5 = .ok (.iconst (-1), 1) := by decide +kernel
theorem dX5_sizeOf_6 : decode cX5_sizeOf 6 = .ok (.goto 7, 3) := by decide +kernel
theorem dX5_sizeOf_9 : decode cX5_sizeOf 9 = .ok (.iload_n 0, 1) := by decide +kernel
theorem dX5_sizeOf_10 : decode cX5_sizeOf 10 = .ok (.invokestatic 294, 3) := by decide +kernel
theorem dX5_sizeOf_13 : decode cX5_sizeOf 13 = .ok (.ireturn, 1) := by decide +kernel
theorem dX5_isClash_0 : decode cX5_isClash 0 = .ok (.iload_n 0, 1) := by decide +kernel
theorem dX5_isClash_1 : decode cX5_isClash 1 = .ok (.iload_n 0, 1) := by decide +kernel
theorem dX5_isClash_2 : decode cX5_isClash 2 = .ok (.bipush 6, 2) := by decide +kernel
theorem dX5_isClash_4 : decode cX5_isClash 4 = .ok (.ishr, 1) := by decide +kernel
theorem dX5_isClash_5 : decode cX5_isClash 5 = .ok (.iand, 1) := by decide +kernel
theorem dX5_isClash_6 : decode cX5_isClash 6 = .ok (.bipush 63, 2) := by decide +kernel
theorem dX5_isClash_8 : decode cX5_isClash 8 = .ok (.iand, 1) := by decide +kernel
theorem dX5_isClash_9 : decode cX5_isClash 9 = .ok (.ifCond .eq 7, 3) := by decide +kernel
theorem dX5_isClash_12 : decode cX5_isClash 12 = .ok (.iconst 1, 1) := by decide +kernel
theorem dX5_isClash_13 : decode cX5_isClash 13 = .ok (.goto 4, 3) := by decide +kernel
theorem dX5_isClash_16 : decode cX5_isClash 16 = .ok (.iconst 0, 1) := by decide +kernel
theorem dX5_isClash_17 : decode cX5_isClash 17 = .ok (.ireturn, 1) := by decide +kernel
theorem dX5_isUnder_0 : decode cX5_isUnder 0 = .ok (.iload_n 0, 1) := by decide +kernel
theorem dX5_isUnder_1 : decode cX5_isUnder 1 = .ok (.istore_n 2, 1) := by decide +kernel
theorem dX5_isUnder_2 : decode cX5_isUnder 2 = .ok (.iconst 0, 1) := by decide +kernel
theorem dX5_isUnder_3 : decode cX5_isUnder 3 = .ok (.istore_n 3, 1) := by decide +kernel
theorem dX5_isUnder_4 : decode cX5_isUnder 4 = .ok (.iload_n 3, 1) := by decide +kernel
theorem dX5_isUnder_5 : decode cX5_isUnder 5 = .ok (.getstatic 299, 3) := by decide +kernel
theorem dX5_isUnder_8 : decode cX5_isUnder 8 = .ok (.arraylength, 1) := by decide +kernel
theorem dX5_isUnder_9 : decode cX5_isUnder 9 = .ok (.if_icmp .ge 29, 3) := by decide +kernel
theorem dX5_isUnder_12 : decode cX5_isUnder 12 = .ok (.iload_n 2, 1) := by decide +kernel
theorem dX5_isUnder_13 : decode cX5_isUnder 13 = .ok (.invokestatic 111, 3) := by decide +kernel
theorem dX5_isUnder_16 : decode cX5_isUnder 16 = .ok (.ifCond .eq 22, 3) := by decide +kernel
theorem dX5_isUnder_19 : decode cX5_isUnder 19 = .ok (.iload_n 2, 1) := by decide +kernel
theorem dX5_isUnder_20 : decode cX5_isUnder 20 = .ok (.iload_n 1, 1) := by decide +kernel
theorem dX5_isUnder_21 : decode cX5_isUnder 21 = .ok (.if_icmp .ne 5, 3) := by decide +kernel
theorem dX5_isUnder_24 : decode cX5_isUnder 24 = .ok (.iconst 1, 1) := by decide +kernel
theorem dX5_isUnder_25 : decode cX5_isUnder 25 = .ok (.ireturn, 1) := by decide +kernel
theorem dX5_isUnder_26 : decode cX5_isUnder 26 = .ok (.getstatic 299, 3) := by decide +kernel
theorem dX5_isUnder_29 : decode cX5_isUnder 29 = .ok (.iload_n 2, 1) := by decide +kernel
theorem dX5_isUnder_30 : decode cX5_isUnder 30 = .ok (.iaload, 1) := by decide +kernel
theorem dX5_isUnder_31 : decode cX5_isUnder 31 = .ok (.istore_n 2, 1) := by decide +kernel
theorem dX5_isUnder_32 : decode cX5_isUnder 32 = .ok (.iinc 3 1, 3) := by decide +kernel
theorem dX5_isUnder_35 : decode cX5_isUnder 35 = .ok (.goto (-31), 3) := by decide +kernel
theorem dX5_isUnder_38 : decode cX5_isUnder 38 = .ok (.iconst 0, 1) := by decide +kernel
theorem dX5_isUnder_39 : decode cX5_isUnder 39 = .ok (.ireturn, 1) := by decide +kernel
theorem dX5_partOf_0 : decode cX5_partOf 0 = .ok (.iload_n 0, 1) := by decide +kernel
theorem dX5_partOf_1 : decode cX5_partOf 1 = .ok (.iload_n 1, 1) := by decide +kernel
theorem dX5_partOf_2 : decode cX5_partOf 2 = .ok (.invokestatic 302, 3) := by decide +kernel
theorem dX5_partOf_5 : decode cX5_partOf 5 = .ok (.istore_n 3, 1) := by decide +kernel
theorem dX5_partOf_6 : decode cX5_partOf 6 = .ok (.iload_n 2, 1) := by decide +kernel
theorem dX5_partOf_7 : decode cX5_partOf 7 = .ok (.ifCond .ne 7, 3) := by decide +kernel
theorem dX5_partOf_10 : decode cX5_partOf 10 = .ok (.iload_n 0, 1) := by decide +kernel
theorem dX5_partOf_11 : decode cX5_partOf 11 = .ok (.goto 4, 3) := by decide +kernel
theorem dX5_partOf_14 : decode cX5_partOf 14 = .ok (.iload_n 1, 1) := by decide +kernel
theorem dX5_partOf_15 : decode cX5_partOf 15 = .ok (.istore 4, 2) := by decide +kernel
theorem dX5_partOf_17 : decode cX5_partOf 17 = .ok (.iload_n 3, 1) := by decide +kernel
theorem dX5_partOf_18 : decode cX5_partOf 18 = .ok (.iconst 1, 1) := by decide +kernel
theorem dX5_partOf_19 : decode cX5_partOf 19 = .ok (.if_icmp .ge 9, 3) := by decide +kernel
theorem dX5_partOf_22 : decode cX5_partOf 22 = .ok (.iload 4, 2) := by decide +kernel
theorem dX5_partOf_24 : decode cX5_partOf 24 = .ok (.i2l, 1) := by decide +kernel
theorem dX5_partOf_25 : decode cX5_partOf 25 = .ok (.goto 8, 3) := by decide +kernel
theorem dX5_partOf_28 : decode cX5_partOf 28 = .ok (.iload 4, 2) := by decide +kernel
theorem dX5_partOf_30 : decode cX5_partOf 30 = .ok (.iload_n 3, 1) := by decide +kernel
theorem dX5_partOf_31 : decode cX5_partOf 31 = .ok (.idiv, 1) := by decide +kernel
theorem dX5_partOf_32 : decode cX5_partOf 32 = .ok (.i2l, 1) := by decide +kernel
theorem dX5_partOf_33 : decode cX5_partOf 33 = .ok (.lreturn, 1) := by decide +kernel
theorem dX5_commonDivisor_0 : decode cX5_commonDivisor 0 = .ok (.iload_n 1, 1) := by decide +kernel
theorem dX5_commonDivisor_1 : decode cX5_commonDivisor 1 = .ok (.istore_n 2, 1) := by decide +kernel
theorem dX5_commonDivisor_2 : decode cX5_commonDivisor 2 = .ok (.iload_n 2, 1) := by decide +kernel
theorem dX5_commonDivisor_3 : decode cX5_commonDivisor 3 = .ok (.iconst 1, 1) := by decide +kernel
theorem dX5_commonDivisor_4 : decode cX5_commonDivisor 4 = .ok (.if_icmp .le 23, 3) := by decide +kernel
theorem dX5_commonDivisor_7 : decode cX5_commonDivisor 7 = .ok (.iload_n 0, 1) := by decide +kernel
theorem dX5_commonDivisor_8 : decode cX5_commonDivisor 8 = .ok (.iload_n 2, 1) := by decide +kernel
theorem dX5_commonDivisor_9 : decode cX5_commonDivisor 9 = .ok (.irem, 1) := by decide +kernel
theorem dX5_commonDivisor_10 : decode cX5_commonDivisor 10 = .ok (.ifCond .ne 11, 3) := by decide +kernel
theorem dX5_commonDivisor_13 : decode cX5_commonDivisor 13 = .ok (.iload_n 1, 1) := by decide +kernel
theorem dX5_commonDivisor_14 : decode cX5_commonDivisor 14 = .ok (.iload_n 2, 1) := by decide +kernel
theorem dX5_commonDivisor_15 : decode cX5_commonDivisor 15 = .ok (.irem, 1) := by decide +kernel
theorem dX5_commonDivisor_16 : decode cX5_commonDivisor 16 = .ok (.ifCond .ne 5, 3) := by decide +kernel
theorem dX5_commonDivisor_19 : decode cX5_commonDivisor 19 = .ok (.iload_n 2, 1) := by decide +kernel
theorem dX5_commonDivisor_20 : decode cX5_commonDivisor 20 = .ok (.ireturn, 1) := by decide +kernel
theorem dX5_commonDivisor_21 : decode cX5_commonDivisor 21 = .ok (.iinc 2 (-1), 3) := by decide +kernel
theorem dX5_commonDivisor_24 : decode cX5_commonDivisor 24 = .ok (.goto (-22), 3) := by decide +kernel
theorem dX5_commonDivisor_27 : decode cX5_commonDivisor 27 = .ok (.iconst 1, 1) := by decide +kernel
theorem dX5_commonDivisor_28 : decode cX5_commonDivisor 28 = .ok (.ireturn, 1) := by decide +kernel
theorem dX6_in_0 : decode cX6_in 0 = .ok (.lload_n 0, 1) := by decide +kernel
theorem dX6_in_1 : decode cX6_in 1 = .ok (.lload_n 2, 1) := by decide +kernel
theorem dX6_in_2 : decode cX6_in 2 = .ok (.lcmp, 1) := by decide +kernel
theorem dX6_in_3 : decode cX6_in 3 = .ok (.ifCond .lt 14, 3) := by decide +kernel
theorem dX6_in_6 : decode cX6_in 6 = .ok (.lload_n 0, 1) := by decide +kernel
theorem dX6_in_7 : decode cX6_in 7 = .ok (.lload 4, 2) := by decide +kernel
theorem dX6_in_9 : decode cX6_in 9 = .ok (.lcmp, 1) := by decide +kernel
theorem dX6_in_10 : decode cX6_in 10 = .ok (.ifCond .gt 7, 3) := by decide +kernel
theorem dX6_in_13 : decode cX6_in 13 = .ok (.iconst 1, 1) := by decide +kernel
theorem dX6_in_14 : decode cX6_in 14 = .ok (.goto 4, 3) := by decide +kernel
theorem dX6_in_17 : decode cX6_in 17 = .ok (.iconst 0, 1) := by decide +kernel
theorem dX6_in_18 : decode cX6_in 18 = .ok (.ireturn, 1) := by decide +kernel
theorem dX6_within_0 : decode cX6_within 0 = .ok (.iload_n 0, 1) := by decide +kernel
theorem dX6_within_1 : decode cX6_within 1 = .ok (.iload_n 1, 1) := by decide +kernel
theorem dX6_within_2 : decode cX6_within 2 = .ok (.if_icmp .ge 7, 3) := by decide +kernel
theorem dX6_within_5 : decode cX6_within 5 = .ok (.iload_n 1, 1) := by decide +kernel
theorem dX6_within_6 : decode cX6_within 6 = .ok (.goto 13, 3) := by decide +kernel
theorem dX6_within_9 : decode cX6_within 9 = .ok (.iload_n 0, 1) := by decide +kernel
theorem dX6_within_10 : decode cX6_within 10 = .ok (.iload_n 2, 1) := by decide +kernel
theorem dX6_within_11 : decode cX6_within 11 = .ok (.if_icmp .le 7, 3) := by decide +kernel
theorem dX6_within_14 : decode cX6_within 14 = .ok (.iload_n 2, 1) := by decide +kernel
theorem dX6_within_15 : decode cX6_within 15 = .ok (.goto 4, 3) := by decide +kernel
theorem dX6_within_18 : decode cX6_within 18 = .ok (.iload_n 0, 1) := by decide +kernel
theorem dX6_within_19 : decode cX6_within 19 = .ok (.ireturn, 1) := by decide +kernel
theorem dX6_init_0 : decode cX6_init 0 = .ok (.aload_n 0, 1) := by decide +kernel
theorem dX6_init_1 : decode cX6_init 1 = .ok (.invokespecial 7, 3) := by decide +kernel
theorem dX6_init_4 : decode cX6_init 4 = .ok (.aload_n 0, 1) := by decide +kernel
theorem dX6_init_5 : decode cX6_init 5 = .ok (.sipush 960, 3) := by decide +kernel
theorem dX6_init_8 : decode cX6_init 8 = .ok (.newarray .int, 2) := by decide +kernel
theorem dX6_init_10 : decode cX6_init 10 = .ok (.putfield 13, 3) := by decide +kernel
theorem dX6_init_13 : decode cX6_init 13 = .ok (.aload_n 0, 1) := by decide +kernel
theorem dX6_init_14 : decode cX6_init 14 = .ok (.bipush 6, 2) := by decide +kernel
theorem dX6_init_16 : decode cX6_init 16 = .ok (.newarray .int, 2) := by decide +kernel
theorem dX6_init_18 : decode cX6_init 18 = .ok (.putfield 17, 3) := by decide +kernel
theorem dX6_init_21 : decode cX6_init 21 = .ok (.aload_n 0, 1) := by decide +kernel
theorem dX6_init_22 : decode cX6_init 22 = .ok (.sipush 160, 3) := by decide +kernel
theorem dX6_init_25 : decode cX6_init 25 = .ok (.newarray .int, 2) := by decide +kernel
theorem dX6_init_27 : decode cX6_init 27 = .ok (.putfield 20, 3) := by decide +kernel
theorem dX6_init_30 : decode cX6_init 30 = .ok (.aload_n 0, 1) := by decide +kernel
theorem dX6_init_31 : decode cX6_init 31 = .ok (.bipush 12, 2) := by decide +kernel
theorem dX6_init_33 : decode cX6_init 33 = .ok (.newarray .int, 2) := by decide +kernel
theorem dX6_init_35 : decode cX6_init 35 = .ok (.putfield 23, 3) := by decide +kernel
theorem dX6_init_38 : decode cX6_init 38 = .ok (.aload_n 0, 1) := by decide +kernel
theorem dX6_init_39 : decode cX6_init 39 = .ok (.bipush 26, 2) := by decide +kernel
theorem dX6_init_41 : decode cX6_init 41 = .ok (.newarray .int, 2) := by decide +kernel
theorem dX6_init_43 : decode cX6_init 43 = .ok (.putfield 26, 3) := by decide +kernel
theorem dX6_init_46 : decode cX6_init 46 = .ok (.aload_n 0, 1) := by decide +kernel
theorem dX6_init_47 : decode cX6_init 47 = .ok (.iconst 5, 1) := by decide +kernel
theorem dX6_init_48 : decode cX6_init 48 = .ok (.newarray .int, 2) := by decide +kernel
theorem dX6_init_50 : decode cX6_init 50 = .ok (.putfield 29, 3) := by decide +kernel
theorem dX6_init_53 : decode cX6_init 53 = .ok (.aload_n 0, 1) := by decide +kernel
theorem dX6_init_54 : decode cX6_init 54 = .ok (.bipush 10, 2) := by decide +kernel
theorem dX6_init_56 : decode cX6_init 56 = .ok (.newarray .int, 2) := by decide +kernel
theorem dX6_init_58 : decode cX6_init 58 = .ok (.putfield 32, 3) := by decide +kernel
theorem dX6_init_61 : decode cX6_init 61 = .ok (.aload_n 0, 1) := by decide +kernel
theorem dX6_init_62 : decode cX6_init 62 = .ok (.bipush 10, 2) := by decide +kernel
theorem dX6_init_64 : decode cX6_init 64 = .ok (.newarray .int, 2) := by decide +kernel
theorem dX6_init_66 : decode cX6_init 66 = .ok (.putfield 35, 3) := by decide +kernel
theorem dX6_init_69 : decode cX6_init 69 = .ok (.aload_n 0, 1) := by decide +kernel
theorem dX6_init_70 : decode cX6_init 70 = .ok (.bipush 12, 2) := by decide +kernel
theorem dX6_init_72 : decode cX6_init 72 = .ok (.newarray .int, 2) := by decide +kernel
theorem dX6_init_74 : decode cX6_init 74 = .ok (.putfield 38, 3) := by decide +kernel
theorem dX6_init_77 : decode cX6_init 77 = .ok (.aload_n 0, 1) := by decide +kernel
theorem dX6_init_78 : decode cX6_init 78 = .ok (.bipush 26, 2) := by decide +kernel
theorem dX6_init_80 : decode cX6_init 80 = .ok (.newarray .int, 2) := by decide +kernel
theorem dX6_init_82 : decode cX6_init 82 = .ok (.putfield 41, 3) := by decide +kernel
theorem dX6_init_85 : decode cX6_init 85 = .ok (.aload_n 0, 1) := by decide +kernel
theorem dX6_init_86 : decode cX6_init 86 = .ok (.bipush 10, 2) := by decide +kernel
theorem dX6_init_88 : decode cX6_init 88 = .ok (.newarray .int, 2) := by decide +kernel
theorem dX6_init_90 : decode cX6_init 90 = .ok (.putfield 44, 3) := by decide +kernel
theorem dX6_init_93 : decode cX6_init 93 = .ok (.aload_n 0, 1) := by decide +kernel
theorem dX6_init_94 : decode cX6_init 94 = .ok (.iconst (-1), 1) := by decide +kernel
theorem dX6_init_95 : decode cX6_init 95 = .ok (.putfield 47, 3) := by decide +kernel
theorem dX6_init_98 : decode cX6_init 98 = .ok (.aload_n 0, 1) := by decide +kernel
theorem dX6_init_99 : decode cX6_init 99 = .ok (.iconst 4, 1) := by decide +kernel
theorem dX6_init_100 : decode cX6_init 100 = .ok (.newarray .boolean, 2) := by decide +kernel
theorem dX6_init_102 : decode cX6_init 102 = .ok (.putfield 50, 3) := by decide +kernel
theorem dX6_init_105 : decode cX6_init 105 = .ok (.aload_n 0, 1) := by decide +kernel
theorem dX6_init_106 : decode cX6_init 106 = .ok (.iconst 4, 1) := by decide +kernel
theorem dX6_init_107 : decode cX6_init 107 = .ok (.newarray .int, 2) := by decide +kernel
theorem dX6_init_109 : decode cX6_init 109 = .ok (.putfield 54, 3) := by decide +kernel
theorem dX6_init_112 : decode cX6_init 112 = .ok (.aload_n 0, 1) := by decide +kernel
theorem dX6_init_113 : decode cX6_init 113 = .ok (.iconst 4, 1) := by decide +kernel
theorem dX6_init_114 : decode cX6_init 114 = .ok (.newarray .int, 2) := by decide +kernel
theorem dX6_init_116 : decode cX6_init 116 = .ok (.putfield 57, 3) := by decide +kernel
theorem dX6_init_119 : decode cX6_init 119 = .ok (.aload_n 0, 1) := by decide +kernel
theorem dX6_init_120 : decode cX6_init 120 = .ok (.sipush 160, 3) := by decide +kernel
theorem dX6_init_123 : decode cX6_init 123 = .ok (.newarray .int, 2) := by decide +kernel
theorem dX6_init_125 : decode cX6_init 125 = .ok (.putfield 60, 3) := by decide +kernel
theorem dX6_init_128 : decode cX6_init 128 = .ok (.aload_n 0, 1) := by decide +kernel
theorem dX6_init_129 : decode cX6_init 129 = .ok (.iconst 0, 1) := by decide +kernel
theorem dX6_init_130 : decode cX6_init 130 = .ok (.bipush 116, 2) := by decide +kernel
theorem dX6_init_132 : decode cX6_init 132 = .ok (.bipush 117, 2) := by decide +kernel
theorem dX6_init_134 : decode cX6_init 134 = .ok (.bipush 114, 2) := by decide +kernel
theorem dX6_init_136 : decode cX6_init 136 = .ok (.bipush 110, 2) := by decide +kernel
theorem dX6_init_138 : decode cX6_init 138 = .ok (.bipush 115, 2) := by decide +kernel
theorem dX6_init_140 : decode cX6_init 140 = .ok (.bipush 32, 2) := by decide +kernel
theorem dX6_init_142 : decode cX6_init 142 = .ok (.bipush 48, 2) := by decide +kernel
theorem dX6_init_144 : decode cX6_init 144 = .ok (.bipush 32, 2) := by decide +kernel
theorem dX6_init_146 : decode cX6_init 146 = .ok (.invokevirtual 63, 3) := by decide +kernel
theorem dX6_init_149 : decode cX6_init 149 = .ok (.aload_n 0, 1) := by decide +kernel
theorem dX6_init_150 : decode cX6_init 150 = .ok (.bipush 8, 2) := by decide +kernel
theorem dX6_init_152 : decode cX6_init 152 = .ok (.bipush 59, 2) := by decide +kernel
theorem dX6_init_154 : decode cX6_init 154 = .ok (.bipush 32, 2) := by decide +kernel
theorem dX6_init_156 : decode cX6_init 156 = .ok (.bipush 109, 2) := by decide +kernel
theorem dX6_init_158 : decode cX6_init 158 = .ok (.bipush 105, 2) := by decide +kernel
theorem dX6_init_160 : decode cX6_init 160 = .ok (.bipush 115, 2) := by decide +kernel
theorem dX6_init_162 : decode cX6_init 162 = .ok (.bipush 115, 2) := by decide +kernel
theorem dX6_init_164 : decode cX6_init 164 = .ok (.bipush 101, 2) := by decide +kernel
theorem dX6_init_166 : decode cX6_init 166 = .ok (.bipush 115, 2) := by decide +kernel
theorem dX6_init_168 : decode cX6_init 168 = .ok (.invokevirtual 63, 3) := by decide +kernel
theorem dX6_init_171 : decode cX6_init 171 = .ok (.aload_n 0, 1) := by decide +kernel
theorem dX6_init_172 : decode cX6_init 172 = .ok (.bipush 16, 2) := by decide +kernel
theorem dX6_init_174 : decode cX6_init 174 = .ok (.bipush 32, 2) := by decide +kernel
theorem dX6_init_176 : decode cX6_init 176 = .ok (.bipush 115, 2) := by decide +kernel
theorem dX6_init_178 : decode cX6_init 178 = .ok (.bipush 97, 2) := by decide +kernel
theorem dX6_init_180 : decode cX6_init 180 = .ok (.bipush 121, 2) := by decide +kernel
theorem dX6_init_182 : decode cX6_init 182 = .ok (.bipush 105, 2) := by decide +kernel
theorem dX6_init_184 : decode cX6_init 184 = .ok (.bipush 110, 2) := by decide +kernel
theorem dX6_init_186 : decode cX6_init 186 = .ok (.bipush 103, 2) := by decide +kernel
theorem dX6_init_188 : decode cX6_init 188 = .ok (.bipush 32, 2) := by decide +kernel
theorem dX6_init_190 : decode cX6_init 190 = .ok (.invokevirtual 63, 3) := by decide +kernel
theorem dX6_init_193 : decode cX6_init 193 = .ok (.aload_n 0, 1) := by decide +kernel
theorem dX6_init_194 : decode cX6_init 194 = .ok (.bipush 24, 2) := by decide +kernel
theorem dX6_init_196 : decode cX6_init 196 = .ok (.bipush 59, 2) := by decide +kernel
theorem dX6_init_198 : decode cX6_init 198 = .ok (.bipush 32, 2) := by decide +kernel
theorem dX6_init_200 : decode cX6_init 200 = .ok (.bipush 98, 2) := by decide +kernel
theorem dX6_init_202 : decode cX6_init 202 = .ok (.bipush 111, 2) := by decide +kernel
theorem dX6_init_204 : decode cX6_init 204 = .ok (.bipush 117, 2) := by decide +kernel
theorem dX6_init_206 : decode cX6_init 206 = .ok (.bipush 110, 2) := by decide +kernel
theorem dX6_init_208 : decode cX6_init 208 = .ok (.bipush 100, 2) := by decide +kernel
theorem dX6_init_210 : decode cX6_init 210 = .ok (.bipush 115, 2) := by decide +kernel
theorem dX6_init_212 : decode cX6_init 212 = .ok (.invokevirtual 63, 3) := by decide +kernel
theorem dX6_init_215 : decode cX6_init 215 = .ok (.aload_n 0, 1) := by decide +kernel
theorem dX6_init_216 : decode cX6_init 216 = .ok (.bipush 32, 2) := by decide +kernel
theorem dX6_init_218 : decode cX6_init 218 = .ok (.bipush 32, 2) := by decide +kernel
theorem dX6_init_220 : decode cX6_init 220 = .ok (.bipush 57, 2) := by decide +kernel
theorem dX6_init_222 : decode cX6_init 222 = .ok (.bipush 32, 2) := by decide +kernel
theorem dX6_init_224 : decode cX6_init 224 = .ok (.bipush 59, 2) := by decide +kernel
theorem dX6_init_226 : decode cX6_init 226 = .ok (.bipush 32, 2) := by decide +kernel
theorem dX6_init_228 : decode cX6_init 228 = .ok (.bipush 32, 2) := by decide +kernel
theorem dX6_init_230 : decode cX6_init 230 = .ok (.bipush 32, 2) := by decide +kernel
theorem dX6_init_232 : decode cX6_init 232 = .ok (.bipush 32, 2) := by decide +kernel
theorem dX6_init_234 : decode cX6_init 234 = .ok (.invokevirtual 63, 3) := by decide +kernel
theorem dX6_init_237 : decode cX6_init 237 = .ok (.aload_n 0, 1) := by decide +kernel
theorem dX6_init_238 : decode cX6_init 238 = .ok (.getfield 17, 3) := by decide +kernel
theorem dX6_init_241 : decode cX6_init 241 = .ok (.iconst 0, 1) := by decide +kernel
theorem dX6_init_242 : decode cX6_init 242 = .ok (.bipush 40, 2) := by decide +kernel
theorem dX6_init_244 : decode cX6_init 244 = .ok (.iastore, 1) := by decide +kernel
theorem dX6_init_245 : decode cX6_init 245 = .ok (.aload_n 0, 1) := by decide +kernel
theorem dX6_init_246 : decode cX6_init 246 = .ok (.iconst 1, 1) := by decide +kernel
theorem dX6_init_247 : decode cX6_init 247 = .ok (.putfield 67, 3) := by decide +kernel
theorem dX6_init_250 : decode cX6_init 250 = .ok (.return_, 1) := by decide +kernel
theorem dX6_spell_0 : decode cX6_spell 0 = .ok (.aload_n 0, 1) := by decide +kernel
theorem dX6_spell_1 : decode cX6_spell 1 = .ok (.getfield 13, 3) := by decide +kernel
theorem dX6_spell_4 : decode cX6_spell 4 = .ok (.iload_n 1, 1) := by decide +kernel
theorem dX6_spell_5 : decode cX6_spell 5 = .ok (.iload_n 2, 1) := by decide +kernel
theorem dX6_spell_6 : decode cX6_spell 6 = .ok (.iastore, 1) := by decide +kernel
theorem dX6_spell_7 : decode cX6_spell 7 = .ok (.aload_n 0, 1) := by decide +kernel
theorem dX6_spell_8 : decode cX6_spell 8 = .ok (.getfield 13, 3) := by decide +kernel
theorem dX6_spell_11 : decode cX6_spell 11 = .ok (.iload_n 1, 1) := by decide +kernel
theorem dX6_spell_12 : decode cX6_spell 12 = .ok (.iconst 1, 1) := by decide +kernel
theorem dX6_spell_13 : decode cX6_spell 13 = .ok (.iadd, 1) := by decide +kernel
theorem dX6_spell_14 : decode cX6_spell 14 = .ok (.iload_n 3, 1) := by decide +kernel
theorem dX6_spell_15 : decode cX6_spell 15 = .ok (.iastore, 1) := by decide +kernel
theorem dX6_spell_16 : decode cX6_spell 16 = .ok (.aload_n 0, 1) := by decide +kernel
theorem dX6_spell_17 : decode cX6_spell 17 = .ok (.getfield 13, 3) := by decide +kernel
theorem dX6_spell_20 : decode cX6_spell 20 = .ok (.iload_n 1, 1) := by decide +kernel
theorem dX6_spell_21 : decode cX6_spell 21 = .ok (.iconst 2, 1) := by decide +kernel
theorem dX6_spell_22 : decode cX6_spell 22 = .ok (.iadd, 1) := by decide +kernel
theorem dX6_spell_23 : decode cX6_spell 23 = .ok (.iload 4, 2) := by decide +kernel
theorem dX6_spell_25 : decode cX6_spell 25 = .ok (.iastore, 1) := by decide +kernel
theorem dX6_spell_26 : decode cX6_spell 26 = .ok (.aload_n 0, 1) := by decide +kernel
theorem dX6_spell_27 : decode cX6_spell 27 = .ok (.getfield 13, 3) := by decide +kernel
theorem dX6_spell_30 : decode cX6_spell 30 = .ok (.iload_n 1, 1) := by decide +kernel
theorem dX6_spell_31 : decode cX6_spell 31 = .ok (.iconst 3, 1) := by decide +kernel
theorem dX6_spell_32 : decode cX6_spell 32 = .ok (.iadd, 1) := by decide +kernel
theorem dX6_spell_33 : decode cX6_spell 33 = .ok (.iload 5, 2) := by decide +kernel
theorem dX6_spell_35 : decode cX6_spell 35 = .ok (.iastore, 1) := by decide +kernel
theorem dX6_spell_36 : decode cX6_spell 36 = .ok (.aload_n 0, 1) := by decide +kernel
theorem dX6_spell_37 : decode cX6_spell 37 = .ok (.getfield 13, 3) := by decide +kernel
theorem dX6_spell_40 : decode cX6_spell 40 = .ok (.iload_n 1, 1) := by decide +kernel
theorem dX6_spell_41 : decode cX6_spell 41 = .ok (.iconst 4, 1) := by decide +kernel
theorem dX6_spell_42 : decode cX6_spell 42 = .ok (.iadd, 1) := by decide +kernel
theorem dX6_spell_43 : decode cX6_spell 43 = .ok (.iload 6, 2) := by decide +kernel
theorem dX6_spell_45 : decode cX6_spell 45 = .ok (.iastore, 1) := by decide +kernel
theorem dX6_spell_46 : decode cX6_spell 46 = .ok (.aload_n 0, 1) := by decide +kernel
theorem dX6_spell_47 : decode cX6_spell 47 = .ok (.getfield 13, 3) := by decide +kernel
theorem dX6_spell_50 : decode cX6_spell 50 = .ok (.iload_n 1, 1) := by decide +kernel
theorem dX6_spell_51 : decode cX6_spell 51 = .ok (.iconst 5, 1) := by decide +kernel
theorem dX6_spell_52 : decode cX6_spell 52 = .ok (.iadd, 1) := by decide +kernel
theorem dX6_spell_53 : decode cX6_spell 53 = .ok (.iload 7, 2) := by decide +kernel
theorem dX6_spell_55 : decode cX6_spell 55 = .ok (.iastore, 1) := by decide +kernel
theorem dX6_spell_56 : decode cX6_spell 56 = .ok (.aload_n 0, 1) := by decide +kernel
theorem dX6_spell_57 : decode cX6_spell 57 = .ok (.getfield 13, 3) := by decide +kernel
theorem dX6_spell_60 : decode cX6_spell 60 = .ok (.iload_n 1, 1) := by decide +kernel
theorem dX6_spell_61 : decode cX6_spell 61 = .ok (.bipush 6, 2) := by decide +kernel
theorem dX6_spell_63 : decode cX6_spell 63 = .ok (.iadd, 1) := by decide +kernel
theorem dX6_spell_64 : decode cX6_spell 64 = .ok (.iload 8, 2) := by decide +kernel
theorem dX6_spell_66 : decode cX6_spell 66 = .ok (.iastore, 1) := by decide +kernel
theorem dX6_spell_67 : decode cX6_spell 67 = .ok (.aload_n 0, 1) := by decide +kernel
theorem dX6_spell_68 : decode cX6_spell 68 = .ok (.getfield 13, 3) := by decide +kernel
theorem dX6_spell_71 : decode cX6_spell 71 = .ok (.iload_n 1, 1) := by decide +kernel
theorem dX6_spell_72 : decode cX6_spell 72 = .ok (.bipush 7, 2) := by decide +kernel
theorem dX6_spell_74 : decode cX6_spell 74 = .ok (.iadd, 1) := by decide +kernel
theorem dX6_spell_75 : decode cX6_spell 75 = .ok (.iload 9, 2) := by decide +kernel
theorem dX6_spell_77 : decode cX6_spell 77 = .ok (.iastore, 1) := by decide +kernel
theorem dX6_spell_78 : decode cX6_spell 78 = .ok (.return_, 1) := by decide +kernel
theorem dX6_isOne_0 : decode cX6_isOne 0 = .ok (.iload_n 1, 1) := by decide +kernel
theorem dX6_isOne_1 : decode cX6_isOne 1 = .ok (.i2l, 1) := by decide +kernel
theorem dX6_isOne_2 : decode cX6_isOne 2 = .ok (.lconst 0, 1) := by decide +kernel
theorem dX6_isOne_3 : decode cX6_isOne 3 = .ok (.aload_n 0, 1) := by decide +kernel
theorem dX6_isOne_4 : decode cX6_isOne 4 = .ok (.getfield 70, 3) := by decide +kernel
theorem dX6_isOne_7 : decode cX6_isOne 7 = .ok (.iconst 1, 1) := by decide +kernel
theorem dX6_isOne_8 : decode cX6_isOne 8 = .ok (.isub, 1) := by decide +kernel
theorem dX6_isOne_9 : decode cX6_isOne 9 = .ok (.i2l, 1) := by decide +kernel
theorem dX6_isOne_10 : decode cX6_isOne 10 = .ok (.invokestatic 73, 3) := by decide +kernel
theorem dX6_isOne_13 : decode cX6_isOne 13 = .ok (.ireturn, 1) := by decide +kernel
theorem dX6_isCup_0 : decode cX6_isCup 0 = .ok (.iload_n 1, 1) := by decide +kernel
theorem dX6_isCup_1 : decode cX6_isCup 1 = .ok (.i2l, 1) := by decide +kernel
theorem dX6_isCup_2 : decode cX6_isCup 2 = .ok (.lconst 0, 1) := by decide +kernel
theorem dX6_isCup_3 : decode cX6_isCup 3 = .ok (.aload_n 0, 1) := by decide +kernel
theorem dX6_isCup_4 : decode cX6_isCup 4 = .ok (.getfield 77, 3) := by decide +kernel
theorem dX6_isCup_7 : decode cX6_isCup 7 = .ok (.iconst 1, 1) := by decide +kernel
theorem dX6_isCup_8 : decode cX6_isCup 8 = .ok (.isub, 1) := by decide +kernel
theorem dX6_isCup_9 : decode cX6_isCup 9 = .ok (.i2l, 1) := by decide +kernel
theorem dX6_isCup_10 : decode cX6_isCup 10 = .ok (.invokestatic 73, 3) := by decide +kernel
theorem dX6_isCup_13 : decode cX6_isCup 13 = .ok (.ireturn, 1) := by decide +kernel
theorem dX6_isSaying_0 : decode cX6_isSaying 0 = .ok (.iload_n 0, 1) := by decide +kernel
theorem dX6_isSaying_1 : decode cX6_isSaying 1 = .ok (.i2l, 1) := by decide +kernel
theorem dX6_isSaying_2 : decode cX6_isSaying 2 = .ok (.lconst 0, 1) := by decide +kernel
theorem dX6_isSaying_3 : decode cX6_isSaying 3 = .ok (.ldc2_w 80, 3) := by decide +kernel
theorem dX6_isSaying_6 : decode cX6_isSaying 6 = .ok (.invokestatic 73, 3) := by decide +kernel
theorem dX6_isSaying_9 : decode cX6_isSaying 9 = .ok (.ireturn, 1) := by decide +kernel
theorem dX6_isOf_0 : decode cX6_isOf 0 = .ok (.iload_n 1, 1) := by decide +kernel
theorem dX6_isOf_1 : decode cX6_isOf 1 = .ok (.iconst 2, 1) := by decide +kernel
theorem dX6_isOf_2 : decode cX6_isOf 2 = .ok (.if_icmp .ge 5, 3) := by decide +kernel
theorem dX6_isOf_5 : decode cX6_isOf 5 = .ok (.iconst 1, 1) := by decide +kernel
theorem dX6_isOf_6 : decode cX6_isOf 6 = .ok (.ireturn, 1) := by decide +kernel
theorem dX6_isOf_7 : decode cX6_isOf 7 = .ok (.iload_n 1, 1) := by decide +kernel
theorem dX6_isOf_8 : decode cX6_isOf 8 = .ok (.iconst 4, 1) := by decide +kernel
theorem dX6_isOf_9 : decode cX6_isOf 9 = .ok (.if_icmp .ge 11, 3) := by decide +kernel
theorem dX6_isOf_12 : decode cX6_isOf 12 = .ok (.aload_n 0, 1) := by decide +kernel
theorem dX6_isOf_13 : decode cX6_isOf 13 = .ok (.iload_n 2, 1) := by decide +kernel
theorem dX6_isOf_14 : decode cX6_isOf 14 = .ok (.invokevirtual 82, 3) := by decide +kernel
theorem dX6_isOf_17 : decode cX6_isOf 17 = .ok (.goto 30, 3) := by decide +kernel
theorem dX6_isOf_20 : decode cX6_isOf 20 = .ok (.iload_n 1, 1) := by decide +kernel
theorem dX6_isOf_21 : decode cX6_isOf 21 = .ok (.bipush 8, 2) := by decide +kernel
theorem dX6_isOf_23 : decode cX6_isOf 23 = .ok (.if_icmp .ge 11, 3) := by decide +kernel
theorem dX6_isOf_26 : decode cX6_isOf 26 = .ok (.aload_n 0, 1) := by decide +kernel
theorem dX6_isOf_27 : decode cX6_isOf 27 = .ok (.iload_n 2, 1) := by decide +kernel
theorem dX6_isOf_28 : decode cX6_isOf 28 = .ok (.invokevirtual 86, 3) := by decide +kernel
theorem dX6_isOf_31 : decode cX6_isOf 31 = .ok (.goto 16, 3) := by decide +kernel
theorem dX6_isOf_34 : decode cX6_isOf 34 = .ok (.iload_n 2, 1) := by decide +kernel
theorem dX6_isOf_35 : decode cX6_isOf 35 = .ok (.i2l, 1) := by decide +kernel
theorem dX6_isOf_36 : decode cX6_isOf 36 = .ok (.lconst 0, 1) := by decide +kernel
theorem dX6_isOf_37 : decode cX6_isOf 37 = .ok (.aload_n 0, 1) := by decide +kernel
theorem dX6_isOf_38 : decode cX6_isOf 38 = .ok (.getfield 89, 3) := by decide +kernel
theorem dX6_isOf_41 : decode cX6_isOf 41 = .ok (.iconst 1, 1) := by decide +kernel
theorem dX6_isOf_42 : decode cX6_isOf 42 = .ok (.isub, 1) := by decide +kernel
theorem dX6_isOf_43 : decode cX6_isOf 43 = .ok (.i2l, 1) := by decide +kernel
theorem dX6_isOf_44 : decode cX6_isOf 44 = .ok (.invokestatic 73, 3) := by decide +kernel
theorem dX6_isOf_47 : decode cX6_isOf 47 = .ok (.ireturn, 1) := by decide +kernel
theorem dX6_mostOf_0 : decode cX6_mostOf 0 = .ok (.iload_n 0, 1) := by decide +kernel
theorem dX6_mostOf_1 : decode cX6_mostOf 1 = .ok (.ifCond .eq 8, 3) := by decide +kernel
theorem dX6_mostOf_4 : decode cX6_mostOf 4 = .ok (.iload_n 0, 1) := by decide +kernel
theorem dX6_mostOf_5 : decode cX6_mostOf 5 = .ok (.iconst 2, 1) := by decide +kernel
theorem dX6_mostOf_6 : decode cX6_mostOf 6 = .ok (.if_icmp .ne 9, 3) := by decide +kernel
theorem dX6_mostOf_9 : decode cX6_mostOf 9 = .ok (.sipush 4095, 3) := by decide +kernel
theorem dX6_mostOf_12 : decode cX6_mostOf 12 = .ok (.goto 36, 3) := by decide +kernel
theorem dX6_mostOf_15 : decode cX6_mostOf 15 = .ok (.iload_n 0, 1) := by decide +kernel
theorem dX6_mostOf_16 : decode cX6_mostOf 16 = .ok (.iconst 1, 1) := by decide +kernel
theorem dX6_mostOf_17 : decode cX6_mostOf 17 = .ok (.if_icmp .ne 9, 3) := by decide +kernel
theorem dX6_mostOf_20 : decode cX6_mostOf 20 = .ok (.sipush 999, 3) := by decide +kernel
theorem dX6_mostOf_23 : decode cX6_mostOf 23 = .ok (.goto 25, 3) := by decide +kernel
theorem dX6_mostOf_26 : decode cX6_mostOf 26 = .ok (.iload_n 0, 1) := by decide +kernel
theorem dX6_mostOf_27 : decode cX6_mostOf 27 = .ok (.iconst 3, 1) := by decide +kernel
theorem dX6_mostOf_28 : decode cX6_mostOf 28 = .ok (.if_icmp .ne 8, 3) := by decide +kernel
theorem dX6_mostOf_31 : decode cX6_mostOf 31 = .ok (.bipush 11, 2) := by decide +kernel
theorem dX6_mostOf_33 : decode cX6_mostOf 33 = .ok (.goto 15, 3) := by decide +kernel
theorem dX6_mostOf_36 : decode cX6_mostOf 36 = .ok (.iload_n 0, 1) := by decide +kernel
theorem dX6_mostOf_37 : decode cX6_mostOf 37 = .ok (.iconst 4, 1) := by decide +kernel
theorem dX6_mostOf_38 : decode cX6_mostOf 38 = .ok (.if_icmp .ne 8, 3) := by decide +kernel
theorem dX6_mostOf_41 : decode cX6_mostOf 41 = .ok (.bipush 9, 2) := by decide +kernel
theorem dX6_mostOf_43 : decode cX6_mostOf 43 = .ok (.goto 5, 3) := by decide +kernel
theorem dX6_mostOf_46 : decode cX6_mostOf 46 = .ok (.bipush 99, 2) := by decide +kernel
theorem dX6_mostOf_48 : decode cX6_mostOf 48 = .ok (.ireturn, 1) := by decide +kernel
theorem dX6_set_0 : decode cX6_set 0 = .ok (.iload_n 1, 1) := by decide +kernel
theorem dX6_set_1 : decode cX6_set 1 = .ok (.i2l, 1) := by decide +kernel
theorem dX6_set_2 : decode cX6_set 2 = .ok (.lconst 0, 1) := by decide +kernel
theorem dX6_set_3 : decode cX6_set 3 = .ok (.ldc2_w 92, 3) := by decide +kernel
theorem dX6_set_6 : decode cX6_set 6 = .ok (.invokestatic 73, 3) := by decide +kernel
theorem dX6_set_9 : decode cX6_set 9 = .ok (.ifCond .eq 26, 3) := by decide +kernel
theorem dX6_set_12 : decode cX6_set 12 = .ok (.aload_n 0, 1) := by decide +kernel
theorem dX6_set_13 : decode cX6_set 13 = .ok (.iload_n 1, 1) := by decide +kernel
theorem dX6_set_14 : decode cX6_set 14 = .ok (.iload_n 2, 1) := by decide +kernel
theorem dX6_set_15 : decode cX6_set 15 = .ok (.invokevirtual 94, 3) := by decide +kernel
theorem dX6_set_18 : decode cX6_set 18 = .ok (.ifCond .eq 17, 3) := by decide +kernel
theorem dX6_set_21 : decode cX6_set 21 = .ok (.iload_n 3, 1) := by decide +kernel
theorem dX6_set_22 : decode cX6_set 22 = .ok (.i2l, 1) := by decide +kernel
theorem dX6_set_23 : decode cX6_set 23 = .ok (.lconst 0, 1) := by decide +kernel
theorem dX6_set_24 : decode cX6_set 24 = .ok (.iload_n 1, 1) := by decide +kernel
theorem dX6_set_25 : decode cX6_set 25 = .ok (.invokestatic 98, 3) := by decide +kernel
theorem dX6_set_28 : decode cX6_set 28 = .ok (.i2l, 1) := by decide +kernel
theorem dX6_set_29 : decode cX6_set 29 = .ok (.invokestatic 73, 3) := by decide +kernel
theorem dX6_set_32 : decode cX6_set 32 = .ok (.ifCond .ne 6, 3) := by decide +kernel
theorem dX6_set_35 : decode cX6_set 35 = .ok (.bipush (-2), 2) := by decide +kernel
theorem dX6_set_37 : decode cX6_set 37 = .ok (.ireturn, 1) := by decide +kernel
theorem dX6_set_38 : decode cX6_set 38 = .ok (.aload_n 0, 1) := by decide +kernel
theorem dX6_set_39 : decode cX6_set 39 = .ok (.iload_n 2, 1) := by decide +kernel
theorem dX6_set_40 : decode cX6_set 40 = .ok (.iload_n 1, 1) := by decide +kernel
theorem dX6_set_41 : decode cX6_set 41 = .ok (.invokevirtual 102, 3) := by decide +kernel
theorem dX6_set_44 : decode cX6_set 44 = .ok (.istore 4, 2) := by decide +kernel
theorem dX6_set_46 : decode cX6_set 46 = .ok (.aload_n 0, 1) := by decide +kernel
theorem dX6_set_47 : decode cX6_set 47 = .ok (.iload_n 1, 1) := by decide +kernel
theorem dX6_set_48 : decode cX6_set 48 = .ok (.iload_n 2, 1) := by decide +kernel
theorem dX6_set_49 : decode cX6_set 49 = .ok (.iload_n 3, 1) := by decide +kernel
theorem dX6_set_50 : decode cX6_set 50 = .ok (.invokevirtual 106, 3) := by decide +kernel
theorem dX6_set_53 : decode cX6_set 53 = .ok (.iload 4, 2) := by decide +kernel
theorem dX6_set_55 : decode cX6_set 55 = .ok (.ireturn, 1) := by decide +kernel
theorem dX6_lays_0 : decode cX6_lays 0 = .ok (.iload_n 1, 1) := by decide +kernel
theorem dX6_lays_1 : decode cX6_lays 1 = .ok (.iconst 2, 1) := by decide +kernel
theorem dX6_lays_2 : decode cX6_lays 2 = .ok (.if_icmp .ge 39, 3) := by decide +kernel
theorem dX6_lays_5 : decode cX6_lays 5 = .ok (.aload_n 0, 1) := by decide +kernel
theorem dX6_lays_6 : decode cX6_lays 6 = .ok (.iload_n 1, 1) := by decide +kernel
theorem dX6_lays_7 : decode cX6_lays 7 = .ok (.ifCond .ne 7, 3) := by decide +kernel
theorem dX6_lays_10 : decode cX6_lays 10 = .ok (.iload_n 3, 1) := by decide +kernel
theorem dX6_lays_11 : decode cX6_lays 11 = .ok (.goto 7, 3) := by decide +kernel
theorem dX6_lays_14 : decode cX6_lays 14 = .ok (.aload_n 0, 1) := by decide +kernel
theorem dX6_lays_15 : decode cX6_lays 15 = .ok (.getfield 110, 3) := by decide +kernel
theorem dX6_lays_18 : decode cX6_lays 18 = .ok (.putfield 110, 3) := by decide +kernel
theorem dX6_lays_21 : decode cX6_lays 21 = .ok (.aload_n 0, 1) := by decide +kernel
theorem dX6_lays_22 : decode cX6_lays 22 = .ok (.iload_n 1, 1) := by decide +kernel
theorem dX6_lays_23 : decode cX6_lays 23 = .ok (.iconst 1, 1) := by decide +kernel
theorem dX6_lays_24 : decode cX6_lays 24 = .ok (.if_icmp .ne 7, 3) := by decide +kernel
theorem dX6_lays_27 : decode cX6_lays 27 = .ok (.iload_n 3, 1) := by decide +kernel
theorem dX6_lays_28 : decode cX6_lays 28 = .ok (.goto 7, 3) := by decide +kernel
theorem dX6_lays_31 : decode cX6_lays 31 = .ok (.aload_n 0, 1) := by decide +kernel
theorem dX6_lays_32 : decode cX6_lays 32 = .ok (.getfield 113, 3) := by decide +kernel
theorem dX6_lays_35 : decode cX6_lays 35 = .ok (.putfield 113, 3) := by decide +kernel
theorem dX6_lays_38 : decode cX6_lays 38 = .ok (.goto 67, 3) := by decide +kernel
theorem dX6_lays_41 : decode cX6_lays 41 = .ok (.iload_n 1, 1) := by decide +kernel
theorem dX6_lays_42 : decode cX6_lays 42 = .ok (.iconst 4, 1) := by decide +kernel
theorem dX6_lays_43 : decode cX6_lays 43 = .ok (.if_icmp .ge 19, 3) := by decide +kernel
theorem dX6_lays_46 : decode cX6_lays 46 = .ok (.aload_n 0, 1) := by decide +kernel
theorem dX6_lays_47 : decode cX6_lays 47 = .ok (.getfield 23, 3) := by decide +kernel
theorem dX6_lays_50 : decode cX6_lays 50 = .ok (.iconst 2, 1) := by decide +kernel
theorem dX6_lays_51 : decode cX6_lays 51 = .ok (.iload_n 2, 1) := by decide +kernel
theorem dX6_lays_52 : decode cX6_lays 52 = .ok (.imul, 1) := by decide +kernel
theorem dX6_lays_53 : decode cX6_lays 53 = .ok (.iload_n 1, 1) := by decide +kernel
theorem dX6_lays_54 : decode cX6_lays 54 = .ok (.iadd, 1) := by decide +kernel
theorem dX6_lays_55 : decode cX6_lays 55 = .ok (.iconst 2, 1) := by decide +kernel
theorem dX6_lays_56 : decode cX6_lays 56 = .ok (.isub, 1) := by decide +kernel
theorem dX6_lays_57 : decode cX6_lays 57 = .ok (.iload_n 3, 1) := by decide +kernel
theorem dX6_lays_58 : decode cX6_lays 58 = .ok (.iastore, 1) := by decide +kernel
theorem dX6_lays_59 : decode cX6_lays 59 = .ok (.goto 46, 3) := by decide +kernel
theorem dX6_lays_62 : decode cX6_lays 62 = .ok (.iload_n 1, 1) := by decide +kernel
theorem dX6_lays_63 : decode cX6_lays 63 = .ok (.bipush 6, 2) := by decide +kernel
theorem dX6_lays_65 : decode cX6_lays 65 = .ok (.if_icmp .ge 19, 3) := by decide +kernel
theorem dX6_lays_68 : decode cX6_lays 68 = .ok (.aload_n 0, 1) := by decide +kernel
theorem dX6_lays_69 : decode cX6_lays 69 = .ok (.getfield 32, 3) := by decide +kernel
theorem dX6_lays_72 : decode cX6_lays 72 = .ok (.iconst 2, 1) := by decide +kernel
theorem dX6_lays_73 : decode cX6_lays 73 = .ok (.iload_n 2, 1) := by decide +kernel
theorem dX6_lays_74 : decode cX6_lays 74 = .ok (.imul, 1) := by decide +kernel
theorem dX6_lays_75 : decode cX6_lays 75 = .ok (.iload_n 1, 1) := by decide +kernel
theorem dX6_lays_76 : decode cX6_lays 76 = .ok (.iadd, 1) := by decide +kernel
theorem dX6_lays_77 : decode cX6_lays 77 = .ok (.iconst 4, 1) := by decide +kernel
theorem dX6_lays_78 : decode cX6_lays 78 = .ok (.isub, 1) := by decide +kernel
theorem dX6_lays_79 : decode cX6_lays 79 = .ok (.iload_n 3, 1) := by decide +kernel
theorem dX6_lays_80 : decode cX6_lays 80 = .ok (.iastore, 1) := by decide +kernel
theorem dX6_lays_81 : decode cX6_lays 81 = .ok (.goto 24, 3) := by decide +kernel
theorem dX6_lays_84 : decode cX6_lays 84 = .ok (.iload_n 1, 1) := by decide +kernel
theorem dX6_lays_85 : decode cX6_lays 85 = .ok (.bipush 6, 2) := by decide +kernel
theorem dX6_lays_87 : decode cX6_lays 87 = .ok (.if_icmp .ne 13, 3) := by decide +kernel
theorem dX6_lays_90 : decode cX6_lays 90 = .ok (.aload_n 0, 1) := by decide +kernel
theorem dX6_lays_91 : decode cX6_lays 91 = .ok (.getfield 29, 3) := by decide +kernel
theorem dX6_lays_94 : decode cX6_lays 94 = .ok (.iload_n 2, 1) := by decide +kernel
theorem dX6_lays_95 : decode cX6_lays 95 = .ok (.iload_n 3, 1) := by decide +kernel
theorem dX6_lays_96 : decode cX6_lays 96 = .ok (.iastore, 1) := by decide +kernel
theorem dX6_lays_97 : decode cX6_lays 97 = .ok (.goto 8, 3) := by decide +kernel
theorem dX6_lays_100 : decode cX6_lays 100 = .ok (.aload_n 0, 1) := by decide +kernel
theorem dX6_lays_101 : decode cX6_lays 101 = .ok (.iload_n 3, 1) := by decide +kernel
theorem dX6_lays_102 : decode cX6_lays 102 = .ok (.putfield 116, 3) := by decide +kernel
theorem dX6_lays_105 : decode cX6_lays 105 = .ok (.return_, 1) := by decide +kernel
theorem dX6_cup_0 : decode cX6_cup 0 = .ok (.iload_n 1, 1) := by decide +kernel
theorem dX6_cup_1 : decode cX6_cup 1 = .ok (.i2l, 1) := by decide +kernel
theorem dX6_cup_2 : decode cX6_cup 2 = .ok (.lconst 0, 1) := by decide +kernel
theorem dX6_cup_3 : decode cX6_cup 3 = .ok (.ldc2_w 119, 3) := by decide +kernel
theorem dX6_cup_6 : decode cX6_cup 6 = .ok (.invokestatic 73, 3) := by decide +kernel
theorem dX6_cup_9 : decode cX6_cup 9 = .ok (.ifCond .eq 10, 3) := by decide +kernel
theorem dX6_cup_12 : decode cX6_cup 12 = .ok (.iload_n 2, 1) := by decide +kernel
theorem dX6_cup_13 : decode cX6_cup 13 = .ok (.invokestatic 121, 3) := by decide +kernel
theorem dX6_cup_16 : decode cX6_cup 16 = .ok (.ifCond .ne 6, 3) := by decide +kernel
theorem dX6_cup_19 : decode cX6_cup 19 = .ok (.bipush (-2), 2) := by decide +kernel
theorem dX6_cup_21 : decode cX6_cup 21 = .ok (.ireturn, 1) := by decide +kernel
theorem dX6_cup_22 : decode cX6_cup 22 = .ok (.aload_n 0, 1) := by decide +kernel
theorem dX6_cup_23 : decode cX6_cup 23 = .ok (.getfield 77, 3) := by decide +kernel
theorem dX6_cup_26 : decode cX6_cup 26 = .ok (.bipush 6, 2) := by decide +kernel
theorem dX6_cup_28 : decode cX6_cup 28 = .ok (.if_icmp .ne 6, 3) := by decide +kernel
theorem dX6_cup_31 : decode cX6_cup 31 = .ok (.bipush (-4), 2) := by decide +kernel
theorem dX6_cup_33 : decode cX6_cup 33 = .ok (.ireturn, 1) := by decide +kernel
theorem dX6_cup_34 : decode cX6_cup 34 = .ok (.aload_n 0, 1) := by decide +kernel
theorem dX6_cup_35 : decode cX6_cup 35 = .ok (.getfield 23, 3) := by decide +kernel
theorem dX6_cup_38 : decode cX6_cup 38 = .ok (.iconst 2, 1) := by decide +kernel
theorem dX6_cup_39 : decode cX6_cup 39 = .ok (.aload_n 0, 1) := by decide +kernel
theorem dX6_cup_40 : decode cX6_cup 40 = .ok (.getfield 77, 3) := by decide +kernel
theorem dX6_cup_43 : decode cX6_cup 43 = .ok (.imul, 1) := by decide +kernel
theorem dX6_cup_44 : decode cX6_cup 44 = .ok (.iload_n 1, 1) := by decide +kernel
theorem dX6_cup_45 : decode cX6_cup 45 = .ok (.iastore, 1) := by decide +kernel
theorem dX6_cup_46 : decode cX6_cup 46 = .ok (.aload_n 0, 1) := by decide +kernel
theorem dX6_cup_47 : decode cX6_cup 47 = .ok (.getfield 23, 3) := by decide +kernel
theorem dX6_cup_50 : decode cX6_cup 50 = .ok (.iconst 2, 1) := by decide +kernel
theorem dX6_cup_51 : decode cX6_cup 51 = .ok (.aload_n 0, 1) := by decide +kernel
theorem dX6_cup_52 : decode cX6_cup 52 = .ok (.getfield 77, 3) := by decide +kernel
theorem dX6_cup_55 : decode cX6_cup 55 = .ok (.imul, 1) := by decide +kernel
theorem dX6_cup_56 : decode cX6_cup 56 = .ok (.iconst 1, 1) := by decide +kernel
theorem dX6_cup_57 : decode cX6_cup 57 = .ok (.iadd, 1) := by decide +kernel
theorem dX6_cup_58 : decode cX6_cup 58 = .ok (.iload_n 2, 1) := by decide +kernel
theorem dX6_cup_59 : decode cX6_cup 59 = .ok (.iastore, 1) := by decide +kernel
theorem dX6_cup_60 : decode cX6_cup 60 = .ok (.aload_n 0, 1) := by decide +kernel
theorem dX6_cup_61 : decode cX6_cup 61 = .ok (.dup, 1) := by decide +kernel
theorem dX6_cup_62 : decode cX6_cup 62 = .ok (.getfield 77, 3) := by decide +kernel
theorem dX6_cup_65 : decode cX6_cup 65 = .ok (.iconst 1, 1) := by decide +kernel
theorem dX6_cup_66 : decode cX6_cup 66 = .ok (.iadd, 1) := by decide +kernel
theorem dX6_cup_67 : decode cX6_cup 67 = .ok (.putfield 77, 3) := by decide +kernel
theorem dX6_cup_70 : decode cX6_cup 70 = .ok (.aload_n 0, 1) := by decide +kernel
theorem dX6_cup_71 : decode cX6_cup 71 = .ok (.getfield 77, 3) := by decide +kernel
theorem dX6_cup_74 : decode cX6_cup 74 = .ok (.iconst 1, 1) := by decide +kernel
theorem dX6_cup_75 : decode cX6_cup 75 = .ok (.isub, 1) := by decide +kernel
theorem dX6_cup_76 : decode cX6_cup 76 = .ok (.ireturn, 1) := by decide +kernel
theorem dX6_bears_0 : decode cX6_bears 0 = .ok (.aload_n 0, 1) := by decide +kernel
theorem dX6_bears_1 : decode cX6_bears 1 = .ok (.getfield 26, 3) := by decide +kernel
theorem dX6_bears_4 : decode cX6_bears 4 = .ok (.iconst 2, 1) := by decide +kernel
theorem dX6_bears_5 : decode cX6_bears 5 = .ok (.aload_n 0, 1) := by decide +kernel
theorem dX6_bears_6 : decode cX6_bears 6 = .ok (.getfield 89, 3) := by decide +kernel
theorem dX6_bears_9 : decode cX6_bears 9 = .ok (.imul, 1) := by decide +kernel
theorem dX6_bears_10 : decode cX6_bears 10 = .ok (.iload_n 1, 1) := by decide +kernel
theorem dX6_bears_11 : decode cX6_bears 11 = .ok (.iastore, 1) := by decide +kernel
theorem dX6_bears_12 : decode cX6_bears 12 = .ok (.aload_n 0, 1) := by decide +kernel
theorem dX6_bears_13 : decode cX6_bears 13 = .ok (.getfield 26, 3) := by decide +kernel
theorem dX6_bears_16 : decode cX6_bears 16 = .ok (.iconst 2, 1) := by decide +kernel
theorem dX6_bears_17 : decode cX6_bears 17 = .ok (.aload_n 0, 1) := by decide +kernel
theorem dX6_bears_18 : decode cX6_bears 18 = .ok (.getfield 89, 3) := by decide +kernel
theorem dX6_bears_21 : decode cX6_bears 21 = .ok (.imul, 1) := by decide +kernel
theorem dX6_bears_22 : decode cX6_bears 22 = .ok (.iconst 1, 1) := by decide +kernel
theorem dX6_bears_23 : decode cX6_bears 23 = .ok (.iadd, 1) := by decide +kernel
theorem dX6_bears_24 : decode cX6_bears 24 = .ok (.iload_n 2, 1) := by decide +kernel
theorem dX6_bears_25 : decode cX6_bears 25 = .ok (.iastore, 1) := by decide +kernel
theorem dX6_bears_26 : decode cX6_bears 26 = .ok (.aload_n 0, 1) := by decide +kernel
theorem dX6_bears_27 : decode cX6_bears 27 = .ok (.dup, 1) := by decide +kernel
theorem dX6_bears_28 : decode cX6_bears 28 = .ok (.getfield 89, 3) := by decide +kernel
theorem dX6_bears_31 : decode cX6_bears 31 = .ok (.iconst 1, 1) := by decide +kernel
theorem dX6_bears_32 : decode cX6_bears 32 = .ok (.iadd, 1) := by decide +kernel
theorem dX6_bears_33 : decode cX6_bears 33 = .ok (.putfield 89, 3) := by decide +kernel
theorem dX6_bears_36 : decode cX6_bears 36 = .ok (.return_, 1) := by decide +kernel
theorem dX6_reason_0 : decode cX6_reason 0 = .ok (.iload_n 1, 1) := by decide +kernel
theorem dX6_reason_1 : decode cX6_reason 1 = .ok (.i2l, 1) := by decide +kernel
theorem dX6_reason_2 : decode cX6_reason 2 = .ok (.lconst 0, 1) := by decide +kernel
theorem dX6_reason_3 : decode cX6_reason 3 = .ok (.ldc2_w 119, 3) := by decide +kernel
theorem dX6_reason_6 : decode cX6_reason 6 = .ok (.invokestatic 73, 3) := by decide +kernel
theorem dX6_reason_9 : decode cX6_reason 9 = .ok (.ifCond .eq 19, 3) := by decide +kernel
theorem dX6_reason_12 : decode cX6_reason 12 = .ok (.iload_n 2, 1) := by decide +kernel
theorem dX6_reason_13 : decode cX6_reason 13 = .ok (.invokestatic 121, 3) := by decide +kernel
theorem dX6_reason_16 : decode cX6_reason 16 = .ok (.ifCond .eq 12, 3) := by decide +kernel
theorem dX6_reason_19 : decode cX6_reason 19 = .ok (.iload_n 1, 1) := by decide +kernel
theorem dX6_reason_20 : decode cX6_reason 20 = .ok (.iload_n 2, 1) := by decide +kernel
theorem dX6_reason_21 : decode cX6_reason 21 = .ok (.ishr, 1) := by decide +kernel
theorem dX6_reason_22 : decode cX6_reason 22 = .ok (.iconst 1, 1) := by decide +kernel
theorem dX6_reason_23 : decode cX6_reason 23 = .ok (.iand, 1) := by decide +kernel
theorem dX6_reason_24 : decode cX6_reason 24 = .ok (.iconst 1, 1) := by decide +kernel
theorem dX6_reason_25 : decode cX6_reason 25 = .ok (.if_icmp .ne 6, 3) := by decide +kernel
theorem dX6_reason_28 : decode cX6_reason 28 = .ok (.bipush (-2), 2) := by decide +kernel
theorem dX6_reason_30 : decode cX6_reason 30 = .ok (.ireturn, 1) := by decide +kernel
theorem dX6_reason_31 : decode cX6_reason 31 = .ok (.aload_n 0, 1) := by decide +kernel
theorem dX6_reason_32 : decode cX6_reason 32 = .ok (.getfield 89, 3) := by decide +kernel
theorem dX6_reason_35 : decode cX6_reason 35 = .ok (.bipush 12, 2) := by decide +kernel
theorem dX6_reason_37 : decode cX6_reason 37 = .ok (.if_icmp .ne 6, 3) := by decide +kernel
theorem dX6_reason_40 : decode cX6_reason 40 = .ok (.bipush (-4), 2) := by decide +kernel
theorem dX6_reason_42 : decode cX6_reason 42 = .ok (.ireturn, 1) := by decide +kernel
theorem dX6_reason_43 : decode cX6_reason 43 = .ok (.aload_n 0, 1) := by decide +kernel
theorem dX6_reason_44 : decode cX6_reason 44 = .ok (.iload_n 1, 1) := by decide +kernel
theorem dX6_reason_45 : decode cX6_reason 45 = .ok (.iload_n 2, 1) := by decide +kernel
theorem dX6_reason_46 : decode cX6_reason 46 = .ok (.invokevirtual 124, 3) := by decide +kernel
theorem dX6_reason_49 : decode cX6_reason 49 = .ok (.aload_n 0, 1) := by decide +kernel
theorem dX6_reason_50 : decode cX6_reason 50 = .ok (.getfield 89, 3) := by decide +kernel
theorem dX6_reason_53 : decode cX6_reason 53 = .ok (.iconst 1, 1) := by decide +kernel
theorem dX6_reason_54 : decode cX6_reason 54 = .ok (.isub, 1) := by decide +kernel
theorem dX6_reason_55 : decode cX6_reason 55 = .ok (.ireturn, 1) := by decide +kernel
theorem dX6_unsay_0 : decode cX6_unsay 0 = .ok (.aload_n 0, 1) := by decide +kernel
theorem dX6_unsay_1 : decode cX6_unsay 1 = .ok (.getfield 89, 3) := by decide +kernel
theorem dX6_unsay_4 : decode cX6_unsay 4 = .ok (.ifCond .ne 6, 3) := by decide +kernel
theorem dX6_unsay_7 : decode cX6_unsay 7 = .ok (.bipush (-3), 2) := by decide +kernel
theorem dX6_unsay_9 : decode cX6_unsay 9 = .ok (.ireturn, 1) := by decide +kernel
theorem dX6_unsay_10 : decode cX6_unsay 10 = .ok (.aload_n 0, 1) := by decide +kernel
theorem dX6_unsay_11 : decode cX6_unsay 11 = .ok (.dup, 1) := by decide +kernel
theorem dX6_unsay_12 : decode cX6_unsay 12 = .ok (.getfield 89, 3) := by decide +kernel
theorem dX6_unsay_15 : decode cX6_unsay 15 = .ok (.iconst 1, 1) := by decide +kernel
theorem dX6_unsay_16 : decode cX6_unsay 16 = .ok (.isub, 1) := by decide +kernel
theorem dX6_unsay_17 : decode cX6_unsay 17 = .ok (.putfield 89, 3) := by decide +kernel
theorem dX6_unsay_20 : decode cX6_unsay 20 = .ok (.aload_n 0, 1) := by decide +kernel
theorem dX6_unsay_21 : decode cX6_unsay 21 = .ok (.getfield 89, 3) := by decide +kernel
theorem dX6_unsay_24 : decode cX6_unsay 24 = .ok (.ireturn, 1) := by decide +kernel
theorem dX6_reader_0 : decode cX6_reader 0 = .ok (.iload_n 1, 1) := by decide +kernel
theorem dX6_reader_1 : decode cX6_reader 1 = .ok (.i2l, 1) := by decide +kernel
theorem dX6_reader_2 : decode cX6_reader 2 = .ok (.lconst 0, 1) := by decide +kernel
theorem dX6_reader_3 : decode cX6_reader 3 = .ok (.ldc2_w 92, 3) := by decide +kernel
theorem dX6_reader_6 : decode cX6_reader 6 = .ok (.invokestatic 73, 3) := by decide +kernel
theorem dX6_reader_9 : decode cX6_reader 9 = .ok (.ifCond .eq 15, 3) := by decide +kernel
theorem dX6_reader_12 : decode cX6_reader 12 = .ok (.iload_n 2, 1) := by decide +kernel
theorem dX6_reader_13 : decode cX6_reader 13 = .ok (.i2l, 1) := by decide +kernel
theorem dX6_reader_14 : decode cX6_reader 14 = .ok (.lconst 0, 1) := by decide +kernel
theorem dX6_reader_15 : decode cX6_reader 15 = .ok (.ldc2_w 128, 3) := by decide +kernel
theorem dX6_reader_18 : decode cX6_reader 18 = .ok (.invokestatic 73, 3) := by decide +kernel
theorem dX6_reader_21 : decode cX6_reader 21 = .ok (.ifCond .ne 6, 3) := by decide +kernel
theorem dX6_reader_24 : decode cX6_reader 24 = .ok (.bipush (-2), 2) := by decide +kernel
theorem dX6_reader_26 : decode cX6_reader 26 = .ok (.ireturn, 1) := by decide +kernel
theorem dX6_reader_27 : decode cX6_reader 27 = .ok (.aload_n 0, 1) := by decide +kernel
theorem dX6_reader_28 : decode cX6_reader 28 = .ok (.getfield 70, 3) := by decide +kernel
theorem dX6_reader_31 : decode cX6_reader 31 = .ok (.iconst 5, 1) := by decide +kernel
theorem dX6_reader_32 : decode cX6_reader 32 = .ok (.if_icmp .ne 6, 3) := by decide +kernel
theorem dX6_reader_35 : decode cX6_reader 35 = .ok (.bipush (-4), 2) := by decide +kernel
theorem dX6_reader_37 : decode cX6_reader 37 = .ok (.ireturn, 1) := by decide +kernel
theorem dX6_reader_38 : decode cX6_reader 38 = .ok (.aload_n 0, 1) := by decide +kernel
theorem dX6_reader_39 : decode cX6_reader 39 = .ok (.getfield 29, 3) := by decide +kernel
theorem dX6_reader_42 : decode cX6_reader 42 = .ok (.aload_n 0, 1) := by decide +kernel
theorem dX6_reader_43 : decode cX6_reader 43 = .ok (.getfield 70, 3) := by decide +kernel
theorem dX6_reader_46 : decode cX6_reader 46 = .ok (.iload_n 1, 1) := by decide +kernel
theorem dX6_reader_47 : decode cX6_reader 47 = .ok (.iastore, 1) := by decide +kernel
theorem dX6_reader_48 : decode cX6_reader 48 = .ok (.aload_n 0, 1) := by decide +kernel
theorem dX6_reader_49 : decode cX6_reader 49 = .ok (.getfield 32, 3) := by decide +kernel
theorem dX6_reader_52 : decode cX6_reader 52 = .ok (.iconst 2, 1) := by decide +kernel
theorem dX6_reader_53 : decode cX6_reader 53 = .ok (.aload_n 0, 1) := by decide +kernel
theorem dX6_reader_54 : decode cX6_reader 54 = .ok (.getfield 70, 3) := by decide +kernel
theorem dX6_reader_57 : decode cX6_reader 57 = .ok (.imul, 1) := by decide +kernel
theorem dX6_reader_58 : decode cX6_reader 58 = .ok (.iload_n 2, 1) := by decide +kernel
theorem dX6_reader_59 : decode cX6_reader 59 = .ok (.iastore, 1) := by decide +kernel
theorem dX6_reader_60 : decode cX6_reader 60 = .ok (.aload_n 0, 1) := by decide +kernel
theorem dX6_reader_61 : decode cX6_reader 61 = .ok (.getfield 32, 3) := by decide +kernel
theorem dX6_reader_64 : decode cX6_reader 64 = .ok (.iconst 2, 1) := by decide +kernel
theorem dX6_reader_65 : decode cX6_reader 65 = .ok (.aload_n 0, 1) := by decide +kernel
theorem dX6_reader_66 : decode cX6_reader 66 = .ok (.getfield 70, 3) := by decide +kernel
theorem dX6_reader_69 : decode cX6_reader 69 = .ok (.imul, 1) := by decide +kernel
theorem dX6_reader_70 : decode cX6_reader 70 = .ok (.iconst 1, 1) := by decide +kernel
theorem dX6_reader_71 : decode cX6_reader 71 = .ok (.iadd, 1) := by decide +kernel
theorem dX6_reader_72 : decode cX6_reader 72 = .ok (.iconst 0, 1) := by decide +kernel
theorem dX6_reader_73 : decode cX6_reader 73 = .ok (.iastore, 1) := by decide +kernel
theorem dX6_reader_74 : decode cX6_reader 74 = .ok (.aload_n 0, 1) := by decide +kernel
theorem dX6_reader_75 : decode cX6_reader 75 = .ok (.dup, 1) := by decide +kernel
theorem dX6_reader_76 : decode cX6_reader 76 = .ok (.getfield 70, 3) := by decide +kernel
theorem dX6_reader_79 : decode cX6_reader 79 = .ok (.iconst 1, 1) := by decide +kernel
theorem dX6_reader_80 : decode cX6_reader 80 = .ok (.iadd, 1) := by decide +kernel
theorem dX6_reader_81 : decode cX6_reader 81 = .ok (.putfield 70, 3) := by decide +kernel
theorem dX6_reader_84 : decode cX6_reader 84 = .ok (.aload_n 0, 1) := by decide +kernel
theorem dX6_reader_85 : decode cX6_reader 85 = .ok (.getfield 70, 3) := by decide +kernel
theorem dX6_reader_88 : decode cX6_reader 88 = .ok (.iconst 1, 1) := by decide +kernel
theorem dX6_reader_89 : decode cX6_reader 89 = .ok (.isub, 1) := by decide +kernel
theorem dX6_reader_90 : decode cX6_reader 90 = .ok (.ireturn, 1) := by decide +kernel
theorem dX6_told_0 : decode cX6_told 0 = .ok (.iload_n 2, 1) := by decide +kernel
theorem dX6_told_1 : decode cX6_told 1 = .ok (.i2l, 1) := by decide +kernel
theorem dX6_told_2 : decode cX6_told 2 = .ok (.lconst 0, 1) := by decide +kernel
theorem dX6_told_3 : decode cX6_told 3 = .ok (.ldc2_w 128, 3) := by decide +kernel
theorem dX6_told_6 : decode cX6_told 6 = .ok (.invokestatic 73, 3) := by decide +kernel
theorem dX6_told_9 : decode cX6_told 9 = .ok (.ifCond .eq 12, 3) := by decide +kernel
theorem dX6_told_12 : decode cX6_told 12 = .ok (.aload_n 0, 1) := by decide +kernel
theorem dX6_told_13 : decode cX6_told 13 = .ok (.iload_n 2, 1) := by decide +kernel
theorem dX6_told_14 : decode cX6_told 14 = .ok (.iload_n 1, 1) := by decide +kernel
theorem dX6_told_15 : decode cX6_told 15 = .ok (.invokevirtual 94, 3) := by decide +kernel
theorem dX6_told_18 : decode cX6_told 18 = .ok (.ifCond .ne 6, 3) := by decide +kernel
theorem dX6_told_21 : decode cX6_told 21 = .ok (.bipush (-2), 2) := by decide +kernel
theorem dX6_told_23 : decode cX6_told 23 = .ok (.ireturn, 1) := by decide +kernel
theorem dX6_told_24 : decode cX6_told 24 = .ok (.iload_n 2, 1) := by decide +kernel
theorem dX6_told_25 : decode cX6_told 25 = .ok (.iconst 4, 1) := by decide +kernel
theorem dX6_told_26 : decode cX6_told 26 = .ok (.if_icmp .ge 39, 3) := by decide +kernel
theorem dX6_told_29 : decode cX6_told 29 = .ok (.iload_n 2, 1) := by decide +kernel
theorem dX6_told_30 : decode cX6_told 30 = .ok (.ifCond .ne 10, 3) := by decide +kernel
theorem dX6_told_33 : decode cX6_told 33 = .ok (.aload_n 0, 1) := by decide +kernel
theorem dX6_told_34 : decode cX6_told 34 = .ok (.getfield 110, 3) := by decide +kernel
theorem dX6_told_37 : decode cX6_told 37 = .ok (.goto 27, 3) := by decide +kernel
theorem dX6_told_40 : decode cX6_told 40 = .ok (.iload_n 2, 1) := by decide +kernel
theorem dX6_told_41 : decode cX6_told 41 = .ok (.iconst 1, 1) := by decide +kernel
theorem dX6_told_42 : decode cX6_told 42 = .ok (.if_icmp .ne 10, 3) := by decide +kernel
theorem dX6_told_45 : decode cX6_told 45 = .ok (.aload_n 0, 1) := by decide +kernel
theorem dX6_told_46 : decode cX6_told 46 = .ok (.getfield 113, 3) := by decide +kernel
theorem dX6_told_49 : decode cX6_told 49 = .ok (.goto 15, 3) := by decide +kernel
theorem dX6_told_52 : decode cX6_told 52 = .ok (.aload_n 0, 1) := by decide +kernel
theorem dX6_told_53 : decode cX6_told 53 = .ok (.getfield 23, 3) := by decide +kernel
theorem dX6_told_56 : decode cX6_told 56 = .ok (.iconst 2, 1) := by decide +kernel
theorem dX6_told_57 : decode cX6_told 57 = .ok (.iload_n 1, 1) := by decide +kernel
theorem dX6_told_58 : decode cX6_told 58 = .ok (.imul, 1) := by decide +kernel
theorem dX6_told_59 : decode cX6_told 59 = .ok (.iload_n 2, 1) := by decide +kernel
theorem dX6_told_60 : decode cX6_told 60 = .ok (.iadd, 1) := by decide +kernel
theorem dX6_told_61 : decode cX6_told 61 = .ok (.iconst 2, 1) := by decide +kernel
theorem dX6_told_62 : decode cX6_told 62 = .ok (.isub, 1) := by decide +kernel
theorem dX6_told_63 : decode cX6_told 63 = .ok (.iaload, 1) := by decide +kernel
theorem dX6_told_64 : decode cX6_told 64 = .ok (.ireturn, 1) := by decide +kernel
theorem dX6_told_65 : decode cX6_told 65 = .ok (.iload_n 2, 1) := by decide +kernel
theorem dX6_told_66 : decode cX6_told 66 = .ok (.bipush 7, 2) := by decide +kernel
theorem dX6_told_68 : decode cX6_told 68 = .ok (.if_icmp .ge 31, 3) := by decide +kernel
theorem dX6_told_71 : decode cX6_told 71 = .ok (.iload_n 2, 1) := by decide +kernel
theorem dX6_told_72 : decode cX6_told 72 = .ok (.bipush 6, 2) := by decide +kernel
theorem dX6_told_74 : decode cX6_told 74 = .ok (.if_icmp .ge 18, 3) := by decide +kernel
theorem dX6_told_77 : decode cX6_told 77 = .ok (.aload_n 0, 1) := by decide +kernel
theorem dX6_told_78 : decode cX6_told 78 = .ok (.getfield 32, 3) := by decide +kernel
theorem dX6_told_81 : decode cX6_told 81 = .ok (.iconst 2, 1) := by decide +kernel
theorem dX6_told_82 : decode cX6_told 82 = .ok (.iload_n 1, 1) := by decide +kernel
theorem dX6_told_83 : decode cX6_told 83 = .ok (.imul, 1) := by decide +kernel
theorem dX6_told_84 : decode cX6_told 84 = .ok (.iload_n 2, 1) := by decide +kernel
theorem dX6_told_85 : decode cX6_told 85 = .ok (.iadd, 1) := by decide +kernel
theorem dX6_told_86 : decode cX6_told 86 = .ok (.iconst 4, 1) := by decide +kernel
theorem dX6_told_87 : decode cX6_told 87 = .ok (.isub, 1) := by decide +kernel
theorem dX6_told_88 : decode cX6_told 88 = .ok (.iaload, 1) := by decide +kernel
theorem dX6_told_89 : decode cX6_told 89 = .ok (.goto 9, 3) := by decide +kernel
theorem dX6_told_92 : decode cX6_told 92 = .ok (.aload_n 0, 1) := by decide +kernel
theorem dX6_told_93 : decode cX6_told 93 = .ok (.getfield 29, 3) := by decide +kernel
theorem dX6_told_96 : decode cX6_told 96 = .ok (.iload_n 1, 1) := by decide +kernel
theorem dX6_told_97 : decode cX6_told 97 = .ok (.iaload, 1) := by decide +kernel
theorem dX6_told_98 : decode cX6_told 98 = .ok (.ireturn, 1) := by decide +kernel
theorem dX6_told_99 : decode cX6_told 99 = .ok (.iload_n 2, 1) := by decide +kernel
theorem dX6_told_100 : decode cX6_told 100 = .ok (.bipush 7, 2) := by decide +kernel
theorem dX6_told_102 : decode cX6_told 102 = .ok (.if_icmp .ne 19, 3) := by decide +kernel
theorem dX6_told_105 : decode cX6_told 105 = .ok (.aload_n 0, 1) := by decide +kernel
theorem dX6_told_106 : decode cX6_told 106 = .ok (.iload_n 1, 1) := by decide +kernel
theorem dX6_told_107 : decode cX6_told 107 = .ok (.invokevirtual 130, 3) := by decide +kernel
theorem dX6_told_110 : decode cX6_told 110 = .ok (.ifCond .eq 7, 3) := by decide +kernel
theorem dX6_told_113 : decode cX6_told 113 = .ok (.iconst 1, 1) := by decide +kernel
theorem dX6_told_114 : decode cX6_told 114 = .ok (.goto 20, 3) := by decide +kernel
theorem dX6_told_117 : decode cX6_told 117 = .ok (.iconst 0, 1) := by decide +kernel
theorem dX6_told_118 : decode cX6_told 118 = .ok (.goto 16, 3) := by decide +kernel
theorem dX6_told_121 : decode cX6_told 121 = .ok (.aload_n 0, 1) := by decide +kernel
theorem dX6_told_122 : decode cX6_told 122 = .ok (.getfield 26, 3) := by decide +kernel
theorem dX6_told_125 : decode cX6_told 125 = .ok (.iconst 2, 1) := by decide +kernel
theorem dX6_told_126 : decode cX6_told 126 = .ok (.iload_n 1, 1) := by decide +kernel
theorem dX6_told_127 : decode cX6_told 127 = .ok (.imul, 1) := by decide +kernel
theorem dX6_told_128 : decode cX6_told 128 = .ok (.iload_n 2, 1) := by decide +kernel
theorem dX6_told_129 : decode cX6_told 129 = .ok (.iadd, 1) := by decide +kernel
theorem dX6_told_130 : decode cX6_told 130 = .ok (.bipush 8, 2) := by decide +kernel
theorem dX6_told_132 : decode cX6_told 132 = .ok (.isub, 1) := by decide +kernel
theorem dX6_told_133 : decode cX6_told 133 = .ok (.iaload, 1) := by decide +kernel
theorem dX6_told_134 : decode cX6_told 134 = .ok (.ireturn, 1) := by decide +kernel
theorem dX6_feed_0 : decode cX6_feed 0 = .ok (.iload_n 1, 1) := by decide +kernel
theorem dX6_feed_1 : decode cX6_feed 1 = .ok (.i2l, 1) := by decide +kernel
theorem dX6_feed_2 : decode cX6_feed 2 = .ok (.lconst 0, 1) := by decide +kernel
theorem dX6_feed_3 : decode cX6_feed 3 = .ok (.ldc2_w 133, 3) := by decide +kernel
theorem dX6_feed_6 : decode cX6_feed 6 = .ok (.invokestatic 73, 3) := by decide +kernel
theorem dX6_feed_9 : decode cX6_feed 9 = .ok (.ifCond .ne 6, 3) := by decide +kernel
theorem dX6_feed_12 : decode cX6_feed 12 = .ok (.bipush (-2), 2) := by decide +kernel
theorem dX6_feed_14 : decode cX6_feed 14 = .ok (.ireturn, 1) := by decide +kernel
theorem dX6_feed_15 : decode cX6_feed 15 = .ok (.aload_n 0, 1) := by decide +kernel
theorem dX6_feed_16 : decode cX6_feed 16 = .ok (.getfield 135, 3) := by decide +kernel
theorem dX6_feed_19 : decode cX6_feed 19 = .ok (.sipush 160, 3) := by decide +kernel
theorem dX6_feed_22 : decode cX6_feed 22 = .ok (.if_icmp .ne 6, 3) := by decide +kernel
theorem dX6_feed_25 : decode cX6_feed 25 = .ok (.bipush (-4), 2) := by decide +kernel
theorem dX6_feed_27 : decode cX6_feed 27 = .ok (.ireturn, 1) := by decide +kernel
theorem dX6_feed_28 : decode cX6_feed 28 = .ok (.aload_n 0, 1) := by decide +kernel
theorem dX6_feed_29 : decode cX6_feed 29 = .ok (.getfield 20, 3) := by decide +kernel
theorem dX6_feed_32 : decode cX6_feed 32 = .ok (.aload_n 0, 1) := by decide +kernel
theorem dX6_feed_33 : decode cX6_feed 33 = .ok (.getfield 135, 3) := by decide +kernel
theorem dX6_feed_36 : decode cX6_feed 36 = .ok (.iload_n 1, 1) := by decide +kernel
theorem dX6_feed_37 : decode cX6_feed 37 = .ok (.iastore, 1) := by decide +kernel
theorem dX6_feed_38 : decode cX6_feed 38 = .ok (.aload_n 0, 1) := by decide +kernel
theorem dX6_feed_39 : decode cX6_feed 39 = .ok (.dup, 1) := by decide +kernel
theorem dX6_feed_40 : decode cX6_feed 40 = .ok (.getfield 135, 3) := by decide +kernel
theorem dX6_feed_43 : decode cX6_feed 43 = .ok (.iconst 1, 1) := by decide +kernel
theorem dX6_feed_44 : decode cX6_feed 44 = .ok (.iadd, 1) := by decide +kernel
theorem dX6_feed_45 : decode cX6_feed 45 = .ok (.putfield 135, 3) := by decide +kernel
theorem dX6_feed_48 : decode cX6_feed 48 = .ok (.aload_n 0, 1) := by decide +kernel
theorem dX6_feed_49 : decode cX6_feed 49 = .ok (.getfield 135, 3) := by decide +kernel
theorem dX6_feed_52 : decode cX6_feed 52 = .ok (.ireturn, 1) := by decide +kernel
theorem dX6_byteAt_0 : decode cX6_byteAt 0 = .ok (.iload_n 1, 1) := by decide +kernel
theorem dX6_byteAt_1 : decode cX6_byteAt 1 = .ok (.aload_n 0, 1) := by decide +kernel
theorem dX6_byteAt_2 : decode cX6_byteAt 2 = .ok (.getfield 138, 3) := by decide +kernel
theorem dX6_byteAt_5 : decode cX6_byteAt 5 = .ok (.if_icmp .ge 17, 3) := by decide +kernel
theorem dX6_byteAt_8 : decode cX6_byteAt 8 = .ok (.aload_n 0, 1) := by decide +kernel
theorem dX6_byteAt_9 : decode cX6_byteAt 9 = .ok (.getfield 13, 3) := by decide +kernel
theorem dX6_byteAt_12 : decode cX6_byteAt 12 = .ok (.aload_n 0, 1) := by decide +kernel
theorem dX6_byteAt_13 : decode cX6_byteAt 13 = .ok (.getfield 141, 3) := by decide +kernel
theorem dX6_byteAt_16 : decode cX6_byteAt 16 = .ok (.iload_n 1, 1) := by decide +kernel
theorem dX6_byteAt_17 : decode cX6_byteAt 17 = .ok (.iadd, 1) := by decide +kernel
theorem dX6_byteAt_18 : decode cX6_byteAt 18 = .ok (.iaload, 1) := by decide +kernel
theorem dX6_byteAt_19 : decode cX6_byteAt 19 = .ok (.goto 4, 3) := by decide +kernel
theorem dX6_byteAt_22 : decode cX6_byteAt 22 = .ok (.iconst (-1), 1) := by decide +kernel
theorem dX6_byteAt_23 : decode cX6_byteAt 23 = .ok (.ireturn, 1) := by decide +kernel
theorem dX6_nextToken_0 : decode cX6_nextToken 0 = .ok (.aload_n 0, 1) := by decide +kernel
theorem dX6_nextToken_1 : decode cX6_nextToken 1 = .ok (.aload_n 0, 1) := by decide +kernel
theorem dX6_nextToken_2 : decode cX6_nextToken 2 = .ok (.getfield 144, 3) := by decide +kernel
theorem dX6_nextToken_5 : decode cX6_nextToken 5 = .ok (.invokevirtual 147, 3) := by decide +kernel
theorem dX6_nextToken_8 : decode cX6_nextToken 8 = .ok (.bipush 32, 2) := by decide +kernel
theorem dX6_nextToken_10 : decode cX6_nextToken 10 = .ok (.if_icmp .eq 16, 3) := by decide +kernel
theorem dX6_nextToken_13 : decode cX6_nextToken 13 = .ok (.aload_n 0, 1) := by decide +kernel
theorem dX6_nextToken_14 : decode cX6_nextToken 14 = .ok (.aload_n 0, 1) := by decide +kernel
theorem dX6_nextToken_15 : decode cX6_nextToken 15 = .ok (.getfield 144, 3) := by decide +kernel
theorem dX6_nextToken_18 : decode cX6_nextToken 18 = .ok (.invokevirtual 147, 3) := by decide +kernel
theorem dX6_nextToken_21 : decode cX6_nextToken 21 = .ok (.bipush 10, 2) := by decide +kernel
theorem dX6_nextToken_23 : decode cX6_nextToken 23 = .ok (.if_icmp .ne 16, 3) := by decide +kernel
theorem dX6_nextToken_26 : decode cX6_nextToken 26 = .ok (.aload_n 0, 1) := by decide +kernel
theorem dX6_nextToken_27 : decode cX6_nextToken 27 = .ok (.dup, 1) := by decide +kernel
theorem dX6_nextToken_28 : decode cX6_nextToken 28 = .ok (.getfield 144, 3) := by decide +kernel
theorem dX6_nextToken_31 : decode cX6_nextToken 31 = .ok (.iconst 1, 1) := by decide +kernel
theorem dX6_nextToken_32 : decode cX6_nextToken 32 = .ok (.iadd, 1) := by decide +kernel
theorem dX6_nextToken_33 : decode cX6_nextToken 33 = .ok (.putfield 144, 3) := by decide +kernel
theorem dX6_nextToken_36 : decode cX6_nextToken 36 = .ok (.goto (-36), 3) := by decide +kernel
theorem dX6_nextToken_39 : decode cX6_nextToken 39 = .ok (.aload_n 0, 1) := by decide +kernel
theorem dX6_nextToken_40 : decode cX6_nextToken 40 = .ok (.aload_n 0, 1) := by decide +kernel
theorem dX6_nextToken_41 : decode cX6_nextToken 41 = .ok (.getfield 144, 3) := by decide +kernel
theorem dX6_nextToken_44 : decode cX6_nextToken 44 = .ok (.putfield 150, 3) := by decide +kernel
theorem dX6_nextToken_47 : decode cX6_nextToken 47 = .ok (.aload_n 0, 1) := by decide +kernel
theorem dX6_nextToken_48 : decode cX6_nextToken 48 = .ok (.aload_n 0, 1) := by decide +kernel
theorem dX6_nextToken_49 : decode cX6_nextToken 49 = .ok (.getfield 144, 3) := by decide +kernel
theorem dX6_nextToken_52 : decode cX6_nextToken 52 = .ok (.invokevirtual 147, 3) := by decide +kernel
theorem dX6_nextToken_55 : decode cX6_nextToken 55 = .ok (.istore_n 1, 1) := by decide +kernel
theorem dX6_nextToken_56 : decode cX6_nextToken 56 = .ok (.aload_n 0, 1) := by decide +kernel
theorem dX6_nextToken_57 : decode cX6_nextToken 57 = .ok (.iconst 4, 1) := by decide +kernel
theorem dX6_nextToken_58 : decode cX6_nextToken 58 = .ok (.putfield 153, 3) := by decide +kernel
theorem dX6_nextToken_61 : decode cX6_nextToken 61 = .ok (.iload_n 1, 1) := by decide +kernel
theorem dX6_nextToken_62 : decode cX6_nextToken 62 = .ok (.ifCond .ge 19, 3) := by decide +kernel
theorem dX6_nextToken_65 : decode cX6_nextToken 65 = .ok (.aload_n 0, 1) := by decide +kernel
theorem dX6_nextToken_66 : decode cX6_nextToken 66 = .ok (.iconst 0, 1) := by decide +kernel
theorem dX6_nextToken_67 : decode cX6_nextToken 67 = .ok (.putfield 153, 3) := by decide +kernel
theorem dX6_nextToken_70 : decode cX6_nextToken 70 = .ok (.aload_n 0, 1) := by decide +kernel
theorem dX6_nextToken_71 : decode cX6_nextToken 71 = .ok (.aload_n 0, 1) := by decide +kernel
theorem dX6_nextToken_72 : decode cX6_nextToken 72 = .ok (.getfield 138, 3) := by decide +kernel
theorem dX6_nextToken_75 : decode cX6_nextToken 75 = .ok (.putfield 150, 3) := by decide +kernel
theorem dX6_nextToken_78 : decode cX6_nextToken 78 = .ok (.goto 243, 3) := by decide +kernel
theorem dX6_nextToken_81 : decode cX6_nextToken 81 = .ok (.iload_n 1, 1) := by decide +kernel
theorem dX6_nextToken_82 : decode cX6_nextToken 82 = .ok (.i2l, 1) := by decide +kernel
theorem dX6_nextToken_83 : decode cX6_nextToken 83 = .ok (.ldc2_w 156, 3) := by decide +kernel
theorem dX6_nextToken_86 : decode cX6_nextToken 86 = .ok (.ldc2_w 158, 3) := by decide +kernel
theorem dX6_nextToken_89 : decode cX6_nextToken 89 = .ok (.invokestatic 73, 3) := by decide +kernel
theorem dX6_nextToken_92 : decode cX6_nextToken 92 = .ok (.ifCond .eq 42, 3) := by decide +kernel
theorem dX6_nextToken_95 : decode cX6_nextToken 95 = .ok (.aload_n 0, 1) := by decide +kernel
theorem dX6_nextToken_96 : decode cX6_nextToken 96 = .ok (.iconst 1, 1) := by decide +kernel
theorem dX6_nextToken_97 : decode cX6_nextToken 97 = .ok (.putfield 153, 3) := by decide +kernel
theorem dX6_nextToken_100 : decode cX6_nextToken 100 = .ok (.aload_n 0, 1) := by decide +kernel
theorem dX6_nextToken_101 : decode cX6_nextToken 101 = .ok (.aload_n 0, 1) := by decide +kernel
theorem dX6_nextToken_102 : decode cX6_nextToken 102 = .ok (.getfield 144, 3) := by decide +kernel
theorem dX6_nextToken_105 : decode cX6_nextToken 105 = .ok (.invokevirtual 147, 3) := by decide +kernel
theorem dX6_nextToken_108 : decode cX6_nextToken 108 = .ok (.i2l, 1) := by decide +kernel
theorem dX6_nextToken_109 : decode cX6_nextToken 109 = .ok (.ldc2_w 156, 3) := by decide +kernel
theorem dX6_nextToken_112 : decode cX6_nextToken 112 = .ok (.ldc2_w 158, 3) := by decide +kernel
theorem dX6_nextToken_115 : decode cX6_nextToken 115 = .ok (.invokestatic 73, 3) := by decide +kernel
theorem dX6_nextToken_118 : decode cX6_nextToken 118 = .ok (.ifCond .eq 203, 3) := by decide +kernel
theorem dX6_nextToken_121 : decode cX6_nextToken 121 = .ok (.aload_n 0, 1) := by decide +kernel
theorem dX6_nextToken_122 : decode cX6_nextToken 122 = .ok (.dup, 1) := by decide +kernel
theorem dX6_nextToken_123 : decode cX6_nextToken 123 = .ok (.getfield 144, 3) := by decide +kernel
theorem dX6_nextToken_126 : decode cX6_nextToken 126 = .ok (.iconst 1, 1) := by decide +kernel
theorem dX6_nextToken_127 : decode cX6_nextToken 127 = .ok (.iadd, 1) := by decide +kernel
theorem dX6_nextToken_128 : decode cX6_nextToken 128 = .ok (.putfield 144, 3) := by decide +kernel
theorem dX6_nextToken_131 : decode cX6_nextToken 131 = .ok (.goto (-31), 3) := by decide +kernel
theorem dX6_nextToken_134 : decode cX6_nextToken 134 = .ok (.iload_n 1, 1) := by decide +kernel
theorem dX6_nextToken_135 : decode cX6_nextToken 135 = .ok (.i2l, 1) := by decide +kernel
theorem dX6_nextToken_136 : decode cX6_nextToken 136 = .ok (.ldc2_w 160, 3) := by decide +kernel
theorem dX6_nextToken_139 : decode cX6_nextToken 139 = .ok (.ldc2_w 162, 3) := by decide +kernel
theorem dX6_nextToken_142 : decode cX6_nextToken 142 = .ok (.invokestatic 73, 3) := by decide +kernel
theorem dX6_nextToken_145 : decode cX6_nextToken 145 = .ok (.ifCond .eq 107, 3) := by decide +kernel
theorem dX6_nextToken_148 : decode cX6_nextToken 148 = .ok (.aload_n 0, 1) := by decide +kernel
theorem dX6_nextToken_149 : decode cX6_nextToken 149 = .ok (.iconst 2, 1) := by decide +kernel
theorem dX6_nextToken_150 : decode cX6_nextToken 150 = .ok (.putfield 153, 3) := by decide +kernel
theorem dX6_nextToken_153 : decode cX6_nextToken 153 = .ok (.aload_n 0, 1) := by decide +kernel
theorem dX6_nextToken_154 : decode cX6_nextToken 154 = .ok (.lconst 0, 1) := by decide +kernel
theorem dX6_nextToken_155 : decode cX6_nextToken 155 = .ok (.putfield 164, 3) := by decide +kernel
theorem dX6_nextToken_158 : decode cX6_nextToken 158 = .ok (.iconst 0, 1) := by decide +kernel
theorem dX6_nextToken_159 : decode cX6_nextToken 159 = .ok (.istore_n 2, 1) := by decide +kernel
theorem dX6_nextToken_160 : decode cX6_nextToken 160 = .ok (.aload_n 0, 1) := by decide +kernel
theorem dX6_nextToken_161 : decode cX6_nextToken 161 = .ok (.aload_n 0, 1) := by decide +kernel
theorem dX6_nextToken_162 : decode cX6_nextToken 162 = .ok (.getfield 144, 3) := by decide +kernel
theorem dX6_nextToken_165 : decode cX6_nextToken 165 = .ok (.invokevirtual 147, 3) := by decide +kernel
theorem dX6_nextToken_168 : decode cX6_nextToken 168 = .ok (.i2l, 1) := by decide +kernel
theorem dX6_nextToken_169 : decode cX6_nextToken 169 = .ok (.ldc2_w 160, 3) := by decide +kernel
theorem dX6_nextToken_172 : decode cX6_nextToken 172 = .ok (.ldc2_w 162, 3) := by decide +kernel
theorem dX6_nextToken_175 : decode cX6_nextToken 175 = .ok (.invokestatic 73, 3) := by decide +kernel
theorem dX6_nextToken_178 : decode cX6_nextToken 178 = .ok (.ifCond .eq 57, 3) := by decide +kernel
theorem dX6_nextToken_181 : decode cX6_nextToken 181 = .ok (.aload_n 0, 1) := by decide +kernel
theorem dX6_nextToken_182 : decode cX6_nextToken 182 = .ok (.iload_n 2, 1) := by decide +kernel
theorem dX6_nextToken_183 : decode cX6_nextToken 183 = .ok (.iconst 4, 1) := by decide +kernel
theorem dX6_nextToken_184 : decode cX6_nextToken 184 = .ok (.if_icmp .ge 28, 3) := by decide +kernel
theorem dX6_nextToken_187 : decode cX6_nextToken 187 = .ok (.ldc2_w 168, 3) := by decide +kernel
theorem dX6_nextToken_190 : decode cX6_nextToken 190 = .ok (.aload_n 0, 1) := by decide +kernel
theorem dX6_nextToken_191 : decode cX6_nextToken 191 = .ok (.getfield 164, 3) := by decide +kernel
theorem dX6_nextToken_194 : decode cX6_nextToken 194 = .ok (.lmul, 1) := by decide +kernel
theorem dX6_nextToken_195 : decode cX6_nextToken 195 = .ok (.aload_n 0, 1) := by decide +kernel
theorem dX6_nextToken_196 : decode cX6_nextToken 196 = .ok (.aload_n 0, 1) := by decide +kernel
theorem dX6_nextToken_197 : decode cX6_nextToken 197 = .ok (.getfield 144, 3) := by decide +kernel
theorem dX6_nextToken_200 : decode cX6_nextToken 200 = .ok (.invokevirtual 147, 3) := by decide +kernel
theorem dX6_nextToken_203 : decode cX6_nextToken 203 = .ok (.i2l, 1) := by decide +kernel
theorem dX6_nextToken_204 : decode cX6_nextToken 204 = .ok (.ladd, 1) := by decide +kernel
theorem dX6_nextToken_205 : decode cX6_nextToken 205 = .ok (.ldc2_w 160, 3) := by decide +kernel
theorem dX6_nextToken_208 : decode cX6_nextToken 208 = .ok (.lsub, 1) := by decide +kernel
theorem dX6_nextToken_209 : decode cX6_nextToken 209 = .ok (.goto 7, 3) := by decide +kernel
theorem dX6_nextToken_212 : decode cX6_nextToken 212 = .ok (.aload_n 0, 1) := by decide +kernel
theorem dX6_nextToken_213 : decode cX6_nextToken 213 = .ok (.getfield 164, 3) := by decide +kernel
theorem dX6_nextToken_216 : decode cX6_nextToken 216 = .ok (.putfield 164, 3) := by decide +kernel
theorem dX6_nextToken_219 : decode cX6_nextToken 219 = .ok (.iinc 2 1, 3) := by decide +kernel
theorem dX6_nextToken_222 : decode cX6_nextToken 222 = .ok (.aload_n 0, 1) := by decide +kernel
theorem dX6_nextToken_223 : decode cX6_nextToken 223 = .ok (.dup, 1) := by decide +kernel
theorem dX6_nextToken_224 : decode cX6_nextToken 224 = .ok (.getfield 144, 3) := by decide +kernel
theorem dX6_nextToken_227 : decode cX6_nextToken 227 = .ok (.iconst 1, 1) := by decide +kernel
theorem dX6_nextToken_228 : decode cX6_nextToken 228 = .ok (.iadd, 1) := by decide +kernel
theorem dX6_nextToken_229 : decode cX6_nextToken 229 = .ok (.putfield 144, 3) := by decide +kernel
theorem dX6_nextToken_232 : decode cX6_nextToken 232 = .ok (.goto (-72), 3) := by decide +kernel
theorem dX6_nextToken_235 : decode cX6_nextToken 235 = .ok (.aload_n 0, 1) := by decide +kernel
theorem dX6_nextToken_236 : decode cX6_nextToken 236 = .ok (.iload_n 2, 1) := by decide +kernel
theorem dX6_nextToken_237 : decode cX6_nextToken 237 = .ok (.iconst 4, 1) := by decide +kernel
theorem dX6_nextToken_238 : decode cX6_nextToken 238 = .ok (.if_icmp .le 7, 3) := by decide +kernel
theorem dX6_nextToken_241 : decode cX6_nextToken 241 = .ok (.iconst 4, 1) := by decide +kernel
theorem dX6_nextToken_242 : decode cX6_nextToken 242 = .ok (.goto 4, 3) := by decide +kernel
theorem dX6_nextToken_245 : decode cX6_nextToken 245 = .ok (.iconst 2, 1) := by decide +kernel
theorem dX6_nextToken_246 : decode cX6_nextToken 246 = .ok (.putfield 153, 3) := by decide +kernel
theorem dX6_nextToken_249 : decode cX6_nextToken 249 = .ok (.goto 72, 3) := by decide +kernel
theorem dX6_nextToken_252 : decode cX6_nextToken 252 = .ok (.iload_n 1, 1) := by decide +kernel
theorem dX6_nextToken_253 : decode cX6_nextToken 253 = .ok (.bipush 40, 2) := by decide +kernel
theorem dX6_nextToken_255 : decode cX6_nextToken 255 = .ok (.if_icmp .eq 45, 3) := by decide +kernel
theorem dX6_nextToken_258 : decode cX6_nextToken 258 = .ok (.iload_n 1, 1) := by decide +kernel
theorem dX6_nextToken_259 : decode cX6_nextToken 259 = .ok (.bipush 41, 2) := by decide +kernel
theorem dX6_nextToken_261 : decode cX6_nextToken 261 = .ok (.if_icmp .eq 39, 3) := by decide +kernel
theorem dX6_nextToken_264 : decode cX6_nextToken 264 = .ok (.iload_n 1, 1) := by decide +kernel
theorem dX6_nextToken_265 : decode cX6_nextToken 265 = .ok (.bipush 59, 2) := by decide +kernel
theorem dX6_nextToken_267 : decode cX6_nextToken 267 = .ok (.if_icmp .eq 33, 3) := by decide +kernel
theorem dX6_nextToken_270 : decode cX6_nextToken 270 = .ok (.iload_n 1, 1) := by decide +kernel
theorem dX6_nextToken_271 : decode cX6_nextToken 271 = .ok (.bipush 43, 2) := by decide +kernel
theorem dX6_nextToken_273 : decode cX6_nextToken 273 = .ok (.if_icmp .eq 27, 3) := by decide +kernel
theorem dX6_nextToken_276 : decode cX6_nextToken 276 = .ok (.iload_n 1, 1) := by decide +kernel
theorem dX6_nextToken_277 : decode cX6_nextToken 277 = .ok (.bipush 45, 2) := by decide +kernel
theorem dX6_nextToken_279 : decode cX6_nextToken 279 = .ok (.if_icmp .eq 21, 3) := by decide +kernel
theorem dX6_nextToken_282 : decode cX6_nextToken 282 = .ok (.iload_n 1, 1) := by decide +kernel
theorem dX6_nextToken_283 : decode cX6_nextToken 283 = .ok (.bipush 42, 2) := by decide +kernel
theorem dX6_nextToken_285 : decode cX6_nextToken 285 = .ok (.if_icmp .eq 15, 3) := by decide +kernel
theorem dX6_nextToken_288 : decode cX6_nextToken 288 = .ok (.iload_n 1, 1) := by decide +kernel
theorem dX6_nextToken_289 : decode cX6_nextToken 289 = .ok (.bipush 60, 2) := by decide +kernel
theorem dX6_nextToken_291 : decode cX6_nextToken 291 = .ok (.if_icmp .eq 9, 3) := by decide +kernel
theorem dX6_nextToken_294 : decode cX6_nextToken 294 = .ok (.iload_n 1, 1) := by decide +kernel
theorem dX6_nextToken_295 : decode cX6_nextToken 295 = .ok (.bipush 61, 2) := by decide +kernel
theorem dX6_nextToken_297 : decode cX6_nextToken 297 = .ok (.if_icmp .ne 24, 3) := by decide +kernel
theorem dX6_nextToken_300 : decode cX6_nextToken 300 = .ok (.aload_n 0, 1) := by decide +kernel
theorem dX6_nextToken_301 : decode cX6_nextToken 301 = .ok (.iconst 3, 1) := by decide +kernel
theorem dX6_nextToken_302 : decode cX6_nextToken 302 = .ok (.putfield 153, 3) := by decide +kernel
theorem dX6_nextToken_305 : decode cX6_nextToken 305 = .ok (.aload_n 0, 1) := by decide +kernel
theorem dX6_nextToken_306 : decode cX6_nextToken 306 = .ok (.iload_n 1, 1) := by decide +kernel
theorem dX6_nextToken_307 : decode cX6_nextToken 307 = .ok (.i2l, 1) := by decide +kernel
theorem dX6_nextToken_308 : decode cX6_nextToken 308 = .ok (.putfield 164, 3) := by decide +kernel
theorem dX6_nextToken_311 : decode cX6_nextToken 311 = .ok (.aload_n 0, 1) := by decide +kernel
theorem dX6_nextToken_312 : decode cX6_nextToken 312 = .ok (.dup, 1) := by decide +kernel
theorem dX6_nextToken_313 : decode cX6_nextToken 313 = .ok (.getfield 144, 3) := by decide +kernel
theorem dX6_nextToken_316 : decode cX6_nextToken 316 = .ok (.iconst 1, 1) := by decide +kernel
theorem dX6_nextToken_317 : decode cX6_nextToken 317 = .ok (.iadd, 1) := by decide +kernel
theorem dX6_nextToken_318 : decode cX6_nextToken 318 = .ok (.putfield 144, 3) := by decide +kernel
theorem dX6_nextToken_321 : decode cX6_nextToken 321 = .ok (.return_, 1) := by decide +kernel
theorem dX6_fail_0 : decode cX6_fail 0 = .ok (.aload_n 0, 1) := by decide +kernel
theorem dX6_fail_1 : decode cX6_fail 1 = .ok (.getfield 170, 3) := by decide +kernel
theorem dX6_fail_4 : decode cX6_fail 4 = .ok (.ifCond .ne 16, 3) := by decide +kernel
theorem dX6_fail_7 : decode cX6_fail 7 = .ok (.aload_n 0, 1) := by decide +kernel
theorem dX6_fail_8 : decode cX6_fail 8 = .ok (.iconst 1, 1) := by decide +kernel
theorem dX6_fail_9 : decode cX6_fail 9 = .ok (.putfield 170, 3) := by decide +kernel
theorem dX6_fail_12 : decode cX6_fail 12 = .ok (.aload_n 0, 1) := by decide +kernel
