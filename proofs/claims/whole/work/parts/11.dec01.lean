theorem dX0_cupToRead_51 : decode cX0_cupToRead 51 = .ok (.goto (-33), 3) := by decide +kernel
theorem dX0_cupToRead_54 : decode cX0_cupToRead 54 = .ok (.iload_n 2, 1) := by decide +kernel
theorem dX0_cupToRead_55 : decode cX0_cupToRead 55 = .ok (.ireturn, 1) := by decide +kernel
theorem dX0_dogs_0 : decode cX0_dogs 0 = .ok (.iconst 0, 1) := by decide +kernel
theorem dX0_dogs_1 : decode cX0_dogs 1 = .ok (.istore_n 2, 1) := by decide +kernel
theorem dX0_dogs_2 : decode cX0_dogs 2 = .ok (.iconst 0, 1) := by decide +kernel
theorem dX0_dogs_3 : decode cX0_dogs 3 = .ok (.istore_n 3, 1) := by decide +kernel
theorem dX0_dogs_4 : decode cX0_dogs 4 = .ok (.iload_n 3, 1) := by decide +kernel
theorem dX0_dogs_5 : decode cX0_dogs 5 = .ok (.aload_n 0, 1) := by decide +kernel
theorem dX0_dogs_6 : decode cX0_dogs 6 = .ok (.getfield 50, 3) := by decide +kernel
theorem dX0_dogs_9 : decode cX0_dogs 9 = .ok (.if_icmp .ge 52, 3) := by decide +kernel
theorem dX0_dogs_12 : decode cX0_dogs 12 = .ok (.aload_n 0, 1) := by decide +kernel
theorem dX0_dogs_13 : decode cX0_dogs 13 = .ok (.iload_n 1, 1) := by decide +kernel
theorem dX0_dogs_14 : decode cX0_dogs 14 = .ok (.iload_n 3, 1) := by decide +kernel
theorem dX0_dogs_15 : decode cX0_dogs 15 = .ok (.invokevirtual 131, 3) := by decide +kernel
theorem dX0_dogs_18 : decode cX0_dogs 18 = .ok (.istore 4, 2) := by decide +kernel
theorem dX0_dogs_20 : decode cX0_dogs 20 = .ok (.iload_n 3, 1) := by decide +kernel
theorem dX0_dogs_21 : decode cX0_dogs 21 = .ok (.iconst 1, 1) := by decide +kernel
theorem dX0_dogs_22 : decode cX0_dogs 22 = .ok (.iadd, 1) := by decide +kernel
theorem dX0_dogs_23 : decode cX0_dogs 23 = .ok (.istore 5, 2) := by decide +kernel
theorem dX0_dogs_25 : decode cX0_dogs 25 = .ok (.iload 5, 2) := by decide +kernel
theorem dX0_dogs_27 : decode cX0_dogs 27 = .ok (.aload_n 0, 1) := by decide +kernel
theorem dX0_dogs_28 : decode cX0_dogs 28 = .ok (.getfield 50, 3) := by decide +kernel
theorem dX0_dogs_31 : decode cX0_dogs 31 = .ok (.if_icmp .ge 24, 3) := by decide +kernel
theorem dX0_dogs_34 : decode cX0_dogs 34 = .ok (.aload_n 0, 1) := by decide +kernel
theorem dX0_dogs_35 : decode cX0_dogs 35 = .ok (.iload_n 1, 1) := by decide +kernel
theorem dX0_dogs_36 : decode cX0_dogs 36 = .ok (.iload 5, 2) := by decide +kernel
theorem dX0_dogs_38 : decode cX0_dogs 38 = .ok (.invokevirtual 131, 3) := by decide +kernel
theorem dX0_dogs_41 : decode cX0_dogs 41 = .ok (.iload 4, 2) := by decide +kernel
theorem dX0_dogs_43 : decode cX0_dogs 43 = .ok (.if_icmp .ne 6, 3) := by decide +kernel
theorem dX0_dogs_46 : decode cX0_dogs 46 = .ok (.iinc 2 1, 3) := by decide +kernel
theorem dX0_dogs_49 : decode cX0_dogs 49 = .ok (.iinc 5 1, 3) := by decide +kernel
theorem dX0_dogs_52 : decode cX0_dogs 52 = .ok (.goto (-27), 3) := by decide +kernel
theorem dX0_dogs_55 : decode cX0_dogs 55 = .ok (.iinc 3 1, 3) := by decide +kernel
theorem dX0_dogs_58 : decode cX0_dogs 58 = .ok (.goto (-54), 3) := by decide +kernel
theorem dX0_dogs_61 : decode cX0_dogs 61 = .ok (.iload_n 2, 1) := by decide +kernel
theorem dX0_dogs_62 : decode cX0_dogs 62 = .ok (.ireturn, 1) := by decide +kernel
theorem dX0_firstOtherwise_0 : decode cX0_firstOtherwise 0 = .ok (.iconst 0, 1) := by decide +kernel
theorem dX0_firstOtherwise_1 : decode cX0_firstOtherwise 1 = .ok (.istore_n 3, 1) := by decide +kernel
theorem dX0_firstOtherwise_2 : decode cX0_firstOtherwise 2 = .ok (.iload_n 3, 1) := by decide +kernel
theorem dX0_firstOtherwise_3 : decode cX0_firstOtherwise 3 = .ok (.aload_n 1, 1) := by decide +kernel
theorem dX0_firstOtherwise_4 : decode cX0_firstOtherwise 4 = .ok (.getfield 171, 3) := by decide +kernel
theorem dX0_firstOtherwise_7 : decode cX0_firstOtherwise 7 = .ok (.if_icmp .ge 34, 3) := by decide +kernel
theorem dX0_firstOtherwise_10 : decode cX0_firstOtherwise 10 = .ok (.iload_n 3, 1) := by decide +kernel
theorem dX0_firstOtherwise_11 : decode cX0_firstOtherwise 11 = .ok (.aload_n 0, 1) := by decide +kernel
theorem dX0_firstOtherwise_12 : decode cX0_firstOtherwise 12 = .ok (.getfield 50, 3) := by decide +kernel
theorem dX0_firstOtherwise_15 : decode cX0_firstOtherwise 15 = .ok (.if_icmp .ge 26, 3) := by decide +kernel
theorem dX0_firstOtherwise_18 : decode cX0_firstOtherwise 18 = .ok (.aload_n 1, 1) := by decide +kernel
theorem dX0_firstOtherwise_19 : decode cX0_firstOtherwise 19 = .ok (.getfield 176, 3) := by decide +kernel
theorem dX0_firstOtherwise_22 : decode cX0_firstOtherwise 22 = .ok (.iload_n 3, 1) := by decide +kernel
theorem dX0_firstOtherwise_23 : decode cX0_firstOtherwise 23 = .ok (.iaload, 1) := by decide +kernel
theorem dX0_firstOtherwise_24 : decode cX0_firstOtherwise 24 = .ok (.aload_n 0, 1) := by decide +kernel
theorem dX0_firstOtherwise_25 : decode cX0_firstOtherwise 25 = .ok (.iload_n 2, 1) := by decide +kernel
theorem dX0_firstOtherwise_26 : decode cX0_firstOtherwise 26 = .ok (.iload_n 3, 1) := by decide +kernel
theorem dX0_firstOtherwise_27 : decode cX0_firstOtherwise 27 = .ok (.invokevirtual 131, 3) := by decide +kernel
theorem dX0_firstOtherwise_30 : decode cX0_firstOtherwise 30 = .ok (.if_icmp .eq 5, 3) := by decide +kernel
theorem dX0_firstOtherwise_33 : decode cX0_firstOtherwise 33 = .ok (.iload_n 3, 1) := by decide +kernel
theorem dX0_firstOtherwise_34 : decode cX0_firstOtherwise 34 = .ok (.ireturn, 1) := by decide +kernel
theorem dX0_firstOtherwise_35 : decode cX0_firstOtherwise 35 = .ok (.iinc 3 1, 3) := by decide +kernel
theorem dX0_firstOtherwise_38 : decode cX0_firstOtherwise 38 = .ok (.goto (-36), 3) := by decide +kernel
theorem dX0_firstOtherwise_41 : decode cX0_firstOtherwise 41 = .ok (.iconst (-1), 1) := by decide +kernel
theorem dX0_firstOtherwise_42 : decode cX0_firstOtherwise 42 = .ok (.ireturn, 1) := by decide +kernel
theorem dX1_init_0 : decode cX1_init 0 = .ok (.aload_n 0, 1) := by decide +kernel
theorem dX1_init_1 : decode cX1_init 1 = .ok (.invokespecial 3, 3) := by decide +kernel
theorem dX1_init_4 : decode cX1_init 4 = .ok (.aload_n 0, 1) := by decide +kernel
theorem dX1_init_5 : decode cX1_init 5 = .ok (.sipush 160, 3) := by decide +kernel
theorem dX1_init_8 : decode cX1_init 8 = .ok (.newarray .int, 2) := by decide +kernel
theorem dX1_init_10 : decode cX1_init 10 = .ok (.putfield 9, 3) := by decide +kernel
theorem dX1_init_13 : decode cX1_init 13 = .ok (.aload_n 0, 1) := by decide +kernel
theorem dX1_init_14 : decode cX1_init 14 = .ok (.sipush 161, 3) := by decide +kernel
theorem dX1_init_17 : decode cX1_init 17 = .ok (.newarray .int, 2) := by decide +kernel
theorem dX1_init_19 : decode cX1_init 19 = .ok (.putfield 15, 3) := by decide +kernel
theorem dX1_init_22 : decode cX1_init 22 = .ok (.aload_n 0, 1) := by decide +kernel
theorem dX1_init_23 : decode cX1_init 23 = .ok (.sipush 161, 3) := by decide +kernel
theorem dX1_init_26 : decode cX1_init 26 = .ok (.newarray .int, 2) := by decide +kernel
theorem dX1_init_28 : decode cX1_init 28 = .ok (.putfield 18, 3) := by decide +kernel
theorem dX1_init_31 : decode cX1_init 31 = .ok (.aload_n 0, 1) := by decide +kernel
theorem dX1_init_32 : decode cX1_init 32 = .ok (.sipush 161, 3) := by decide +kernel
theorem dX1_init_35 : decode cX1_init 35 = .ok (.newarray .int, 2) := by decide +kernel
theorem dX1_init_37 : decode cX1_init 37 = .ok (.putfield 21, 3) := by decide +kernel
theorem dX1_init_40 : decode cX1_init 40 = .ok (.aload_n 0, 1) := by decide +kernel
theorem dX1_init_41 : decode cX1_init 41 = .ok (.sipush 160, 3) := by decide +kernel
theorem dX1_init_44 : decode cX1_init 44 = .ok (.newarray .int, 2) := by decide +kernel
theorem dX1_init_46 : decode cX1_init 46 = .ok (.putfield 24, 3) := by decide +kernel
theorem dX1_init_49 : decode cX1_init 49 = .ok (.return_, 1) := by decide +kernel
theorem dX1_put_0 : decode cX1_put 0 = .ok (.aload_n 0, 1) := by decide +kernel
theorem dX1_put_1 : decode cX1_put 1 = .ok (.getfield 27, 3) := by decide +kernel
theorem dX1_put_4 : decode cX1_put 4 = .ok (.sipush 160, 3) := by decide +kernel
theorem dX1_put_7 : decode cX1_put 7 = .ok (.if_icmp .lt 6, 3) := by decide +kernel
theorem dX1_put_10 : decode cX1_put 10 = .ok (.bipush (-4), 2) := by decide +kernel
theorem dX1_put_12 : decode cX1_put 12 = .ok (.ireturn, 1) := by decide +kernel
theorem dX1_put_13 : decode cX1_put 13 = .ok (.aload_n 0, 1) := by decide +kernel
theorem dX1_put_14 : decode cX1_put 14 = .ok (.getfield 9, 3) := by decide +kernel
theorem dX1_put_17 : decode cX1_put 17 = .ok (.aload_n 0, 1) := by decide +kernel
theorem dX1_put_18 : decode cX1_put 18 = .ok (.getfield 27, 3) := by decide +kernel
theorem dX1_put_21 : decode cX1_put 21 = .ok (.iload_n 1, 1) := by decide +kernel
theorem dX1_put_22 : decode cX1_put 22 = .ok (.iastore, 1) := by decide +kernel
theorem dX1_put_23 : decode cX1_put 23 = .ok (.aload_n 0, 1) := by decide +kernel
theorem dX1_put_24 : decode cX1_put 24 = .ok (.dup, 1) := by decide +kernel
theorem dX1_put_25 : decode cX1_put 25 = .ok (.getfield 27, 3) := by decide +kernel
theorem dX1_put_28 : decode cX1_put 28 = .ok (.iconst 1, 1) := by decide +kernel
theorem dX1_put_29 : decode cX1_put 29 = .ok (.iadd, 1) := by decide +kernel
theorem dX1_put_30 : decode cX1_put 30 = .ok (.putfield 27, 3) := by decide +kernel
theorem dX1_put_33 : decode cX1_put 33 = .ok (.aload_n 0, 1) := by decide +kernel
theorem dX1_put_34 : decode cX1_put 34 = .ok (.getfield 27, 3) := by decide +kernel
theorem dX1_put_37 : decode cX1_put 37 = .ok (.ireturn, 1) := by decide +kernel
theorem dX1_clear_0 : decode cX1_clear 0 = .ok (.aload_n 0, 1) := by decide +kernel
theorem dX1_clear_1 : decode cX1_clear 1 = .ok (.iconst 0, 1) := by decide +kernel
theorem dX1_clear_2 : decode cX1_clear 2 = .ok (.putfield 27, 3) := by decide +kernel
theorem dX1_clear_5 : decode cX1_clear 5 = .ok (.return_, 1) := by decide +kernel
theorem dX1_compiled_0 : decode cX1_compiled 0 = .ok (.aload_n 0, 1) := by decide +kernel
theorem dX1_compiled_1 : decode cX1_compiled 1 = .ok (.invokevirtual 31, 3) := by decide +kernel
theorem dX1_compiled_4 : decode cX1_compiled 4 = .ok (.aload_n 0, 1) := by decide +kernel
theorem dX1_compiled_5 : decode cX1_compiled 5 = .ok (.iconst 0, 1) := by decide +kernel
theorem dX1_compiled_6 : decode cX1_compiled 6 = .ok (.putfield 34, 3) := by decide +kernel
theorem dX1_compiled_9 : decode cX1_compiled 9 = .ok (.aload_n 0, 1) := by decide +kernel
theorem dX1_compiled_10 : decode cX1_compiled 10 = .ok (.iconst 0, 1) := by decide +kernel
theorem dX1_compiled_11 : decode cX1_compiled 11 = .ok (.putfield 37, 3) := by decide +kernel
theorem dX1_compiled_14 : decode cX1_compiled 14 = .ok (.aload_n 0, 1) := by decide +kernel
theorem dX1_compiled_15 : decode cX1_compiled 15 = .ok (.iconst 4, 1) := by decide +kernel
theorem dX1_compiled_16 : decode cX1_compiled 16 = .ok (.invokevirtual 40, 3) := by decide +kernel
theorem dX1_compiled_19 : decode cX1_compiled 19 = .ok (.istore_n 1, 1) := by decide +kernel
theorem dX1_compiled_20 : decode cX1_compiled 20 = .ok (.aload_n 0, 1) := by decide +kernel
theorem dX1_compiled_21 : decode cX1_compiled 21 = .ok (.getfield 37, 3) := by decide +kernel
theorem dX1_compiled_24 : decode cX1_compiled 24 = .ok (.istore_n 2, 1) := by decide +kernel
theorem dX1_compiled_25 : decode cX1_compiled 25 = .ok (.iload_n 1, 1) := by decide +kernel
theorem dX1_compiled_26 : decode cX1_compiled 26 = .ok (.ifCond .eq 15, 3) := by decide +kernel
theorem dX1_compiled_29 : decode cX1_compiled 29 = .ok (.aload_n 0, 1) := by decide +kernel
theorem dX1_compiled_30 : decode cX1_compiled 30 = .ok (.iconst 5, 1) := by decide +kernel
theorem dX1_compiled_31 : decode cX1_compiled 31 = .ok (.invokevirtual 40, 3) := by decide +kernel
theorem dX1_compiled_34 : decode cX1_compiled 34 = .ok (.ifCond .eq 7, 3) := by decide +kernel
theorem dX1_compiled_37 : decode cX1_compiled 37 = .ok (.iconst 1, 1) := by decide +kernel
theorem dX1_compiled_38 : decode cX1_compiled 38 = .ok (.goto 4, 3) := by decide +kernel
theorem dX1_compiled_41 : decode cX1_compiled 41 = .ok (.iconst 0, 1) := by decide +kernel
theorem dX1_compiled_42 : decode cX1_compiled 42 = .ok (.istore_n 1, 1) := by decide +kernel
theorem dX1_compiled_43 : decode cX1_compiled 43 = .ok (.aload_n 0, 1) := by decide +kernel
theorem dX1_compiled_44 : decode cX1_compiled 44 = .ok (.getfield 37, 3) := by decide +kernel
theorem dX1_compiled_47 : decode cX1_compiled 47 = .ok (.istore_n 3, 1) := by decide +kernel
theorem dX1_compiled_48 : decode cX1_compiled 48 = .ok (.iload_n 1, 1) := by decide +kernel
theorem dX1_compiled_49 : decode cX1_compiled 49 = .ok (.ifCond .eq 28, 3) := by decide +kernel
theorem dX1_compiled_52 : decode cX1_compiled 52 = .ok (.aload_n 0, 1) := by decide +kernel
theorem dX1_compiled_53 : decode cX1_compiled 53 = .ok (.bipush 6, 2) := by decide +kernel
theorem dX1_compiled_55 : decode cX1_compiled 55 = .ok (.invokevirtual 40, 3) := by decide +kernel
theorem dX1_compiled_58 : decode cX1_compiled 58 = .ok (.ifCond .eq 19, 3) := by decide +kernel
theorem dX1_compiled_61 : decode cX1_compiled 61 = .ok (.aload_n 0, 1) := by decide +kernel
theorem dX1_compiled_62 : decode cX1_compiled 62 = .ok (.getfield 15, 3) := by decide +kernel
theorem dX1_compiled_65 : decode cX1_compiled 65 = .ok (.aload_n 0, 1) := by decide +kernel
theorem dX1_compiled_66 : decode cX1_compiled 66 = .ok (.getfield 34, 3) := by decide +kernel
theorem dX1_compiled_69 : decode cX1_compiled 69 = .ok (.iaload, 1) := by decide +kernel
theorem dX1_compiled_70 : decode cX1_compiled 70 = .ok (.ifCond .ne 7, 3) := by decide +kernel
theorem dX1_compiled_73 : decode cX1_compiled 73 = .ok (.iconst 1, 1) := by decide +kernel
theorem dX1_compiled_74 : decode cX1_compiled 74 = .ok (.goto 4, 3) := by decide +kernel
theorem dX1_compiled_77 : decode cX1_compiled 77 = .ok (.iconst 0, 1) := by decide +kernel
theorem dX1_compiled_78 : decode cX1_compiled 78 = .ok (.istore_n 1, 1) := by decide +kernel
theorem dX1_compiled_79 : decode cX1_compiled 79 = .ok (.iload_n 1, 1) := by decide +kernel
theorem dX1_compiled_80 : decode cX1_compiled 80 = .ok (.ifCond .ne 18, 3) := by decide +kernel
theorem dX1_compiled_83 : decode cX1_compiled 83 = .ok (.aload_n 0, 1) := by decide +kernel
theorem dX1_compiled_84 : decode cX1_compiled 84 = .ok (.aload_n 0, 1) := by decide +kernel
theorem dX1_compiled_85 : decode cX1_compiled 85 = .ok (.getfield 21, 3) := by decide +kernel
theorem dX1_compiled_88 : decode cX1_compiled 88 = .ok (.aload_n 0, 1) := by decide +kernel
theorem dX1_compiled_89 : decode cX1_compiled 89 = .ok (.getfield 34, 3) := by decide +kernel
theorem dX1_compiled_92 : decode cX1_compiled 92 = .ok (.iaload, 1) := by decide +kernel
theorem dX1_compiled_93 : decode cX1_compiled 93 = .ok (.putfield 44, 3) := by decide +kernel
theorem dX1_compiled_96 : decode cX1_compiled 96 = .ok (.aconst_null, 1) := by decide +kernel
theorem dX1_compiled_97 : decode cX1_compiled 97 = .ok (.areturn, 1) := by decide +kernel
theorem dX1_compiled_98 : decode cX1_compiled 98 = .ok (.new 47, 3) := by decide +kernel
theorem dX1_compiled_101 : decode cX1_compiled 101 = .ok (.dup, 1) := by decide +kernel
theorem dX1_compiled_102 : decode cX1_compiled 102 = .ok (.aload_n 0, 1) := by decide +kernel
theorem dX1_compiled_103 : decode cX1_compiled 103 = .ok (.getfield 24, 3) := by decide +kernel
theorem dX1_compiled_106 : decode cX1_compiled 106 = .ok (.aload_n 0, 1) := by decide +kernel
theorem dX1_compiled_107 : decode cX1_compiled 107 = .ok (.getfield 37, 3) := by decide +kernel
theorem dX1_compiled_110 : decode cX1_compiled 110 = .ok (.invokestatic 49, 3) := by decide +kernel
theorem dX1_compiled_113 : decode cX1_compiled 113 = .ok (.iload_n 2, 1) := by decide +kernel
theorem dX1_compiled_114 : decode cX1_compiled 114 = .ok (.iload_n 3, 1) := by decide +kernel
theorem dX1_compiled_115 : decode cX1_compiled 115 = .ok (.invokespecial 55, 3) := by decide +kernel
theorem dX1_compiled_118 : decode cX1_compiled 118 = .ok (.areturn, 1) := by decide +kernel
theorem dX1_splitTape_0 : decode cX1_splitTape 0 = .ok (.aload_n 0, 1) := by decide +kernel
theorem dX1_splitTape_1 : decode cX1_splitTape 1 = .ok (.iconst 0, 1) := by decide +kernel
theorem dX1_splitTape_2 : decode cX1_splitTape 2 = .ok (.putfield 58, 3) := by decide +kernel
theorem dX1_splitTape_5 : decode cX1_splitTape 5 = .ok (.iconst 0, 1) := by decide +kernel
theorem dX1_splitTape_6 : decode cX1_splitTape 6 = .ok (.istore_n 1, 1) := by decide +kernel
theorem dX1_splitTape_7 : decode cX1_splitTape 7 = .ok (.iconst 0, 1) := by decide +kernel
theorem dX1_splitTape_8 : decode cX1_splitTape 8 = .ok (.istore_n 2, 1) := by decide +kernel
theorem dX1_splitTape_9 : decode cX1_splitTape 9 = .ok (.iload_n 2, 1) := by decide +kernel
theorem dX1_splitTape_10 : decode cX1_splitTape 10 = .ok (.sipush 160, 3) := by decide +kernel
theorem dX1_splitTape_13 : decode cX1_splitTape 13 = .ok (.if_icmp .ge 43, 3) := by decide +kernel
theorem dX1_splitTape_16 : decode cX1_splitTape 16 = .ok (.iload_n 1, 1) := by decide +kernel
theorem dX1_splitTape_17 : decode cX1_splitTape 17 = .ok (.aload_n 0, 1) := by decide +kernel
theorem dX1_splitTape_18 : decode cX1_splitTape 18 = .ok (.getfield 27, 3) := by decide +kernel
theorem dX1_splitTape_21 : decode cX1_splitTape 21 = .ok (.if_icmp .ge 35, 3) := by decide +kernel
theorem dX1_splitTape_24 : decode cX1_splitTape 24 = .ok (.aload_n 0, 1) := by decide +kernel
theorem dX1_splitTape_25 : decode cX1_splitTape 25 = .ok (.iload_n 1, 1) := by decide +kernel
theorem dX1_splitTape_26 : decode cX1_splitTape 26 = .ok (.invokevirtual 61, 3) := by decide +kernel
theorem dX1_splitTape_29 : decode cX1_splitTape 29 = .ok (.istore_n 3, 1) := by decide +kernel
theorem dX1_splitTape_30 : decode cX1_splitTape 30 = .ok (.aload_n 0, 1) := by decide +kernel
theorem dX1_splitTape_31 : decode cX1_splitTape 31 = .ok (.getfield 9, 3) := by decide +kernel
theorem dX1_splitTape_34 : decode cX1_splitTape 34 = .ok (.iload_n 1, 1) := by decide +kernel
theorem dX1_splitTape_35 : decode cX1_splitTape 35 = .ok (.iaload, 1) := by decide +kernel
theorem dX1_splitTape_36 : decode cX1_splitTape 36 = .ok (.invokestatic 65, 3) := by decide +kernel
theorem dX1_splitTape_39 : decode cX1_splitTape 39 = .ok (.ifCond .ne 9, 3) := by decide +kernel
theorem dX1_splitTape_42 : decode cX1_splitTape 42 = .ok (.aload_n 0, 1) := by decide +kernel
theorem dX1_splitTape_43 : decode cX1_splitTape 43 = .ok (.iload_n 1, 1) := by decide +kernel
theorem dX1_splitTape_44 : decode cX1_splitTape 44 = .ok (.iload_n 3, 1) := by decide +kernel
theorem dX1_splitTape_45 : decode cX1_splitTape 45 = .ok (.invokevirtual 68, 3) := by decide +kernel
theorem dX1_splitTape_48 : decode cX1_splitTape 48 = .ok (.iload_n 3, 1) := by decide +kernel
theorem dX1_splitTape_49 : decode cX1_splitTape 49 = .ok (.istore_n 1, 1) := by decide +kernel
theorem dX1_splitTape_50 : decode cX1_splitTape 50 = .ok (.iinc 2 1, 3) := by decide +kernel
theorem dX1_splitTape_53 : decode cX1_splitTape 53 = .ok (.goto (-44), 3) := by decide +kernel
theorem dX1_splitTape_56 : decode cX1_splitTape 56 = .ok (.aload_n 0, 1) := by decide +kernel
theorem dX1_splitTape_57 : decode cX1_splitTape 57 = .ok (.getfield 15, 3) := by decide +kernel
theorem dX1_splitTape_60 : decode cX1_splitTape 60 = .ok (.aload_n 0, 1) := by decide +kernel
theorem dX1_splitTape_61 : decode cX1_splitTape 61 = .ok (.getfield 58, 3) := by decide +kernel
theorem dX1_splitTape_64 : decode cX1_splitTape 64 = .ok (.iconst 0, 1) := by decide +kernel
theorem dX1_splitTape_65 : decode cX1_splitTape 65 = .ok (.iastore, 1) := by decide +kernel
theorem dX1_splitTape_66 : decode cX1_splitTape 66 = .ok (.aload_n 0, 1) := by decide +kernel
theorem dX1_splitTape_67 : decode cX1_splitTape 67 = .ok (.getfield 21, 3) := by decide +kernel
theorem dX1_splitTape_70 : decode cX1_splitTape 70 = .ok (.aload_n 0, 1) := by decide +kernel
theorem dX1_splitTape_71 : decode cX1_splitTape 71 = .ok (.getfield 58, 3) := by decide +kernel
theorem dX1_splitTape_74 : decode cX1_splitTape 74 = .ok (.aload_n 0, 1) := by decide +kernel
theorem dX1_splitTape_75 : decode cX1_splitTape 75 = .ok (.getfield 27, 3) := by decide +kernel
theorem dX1_splitTape_78 : decode cX1_splitTape 78 = .ok (.iastore, 1) := by decide +kernel
theorem dX1_splitTape_79 : decode cX1_splitTape 79 = .ok (.return_, 1) := by decide +kernel
theorem dX1_tokenEnd_0 : decode cX1_tokenEnd 0 = .ok (.iload_n 1, 1) := by decide +kernel
theorem dX1_tokenEnd_1 : decode cX1_tokenEnd 1 = .ok (.iconst 1, 1) := by decide +kernel
theorem dX1_tokenEnd_2 : decode cX1_tokenEnd 2 = .ok (.iadd, 1) := by decide +kernel
theorem dX1_tokenEnd_3 : decode cX1_tokenEnd 3 = .ok (.istore_n 2, 1) := by decide +kernel
theorem dX1_tokenEnd_4 : decode cX1_tokenEnd 4 = .ok (.aload_n 0, 1) := by decide +kernel
theorem dX1_tokenEnd_5 : decode cX1_tokenEnd 5 = .ok (.getfield 9, 3) := by decide +kernel
theorem dX1_tokenEnd_8 : decode cX1_tokenEnd 8 = .ok (.iload_n 1, 1) := by decide +kernel
theorem dX1_tokenEnd_9 : decode cX1_tokenEnd 9 = .ok (.iaload, 1) := by decide +kernel
theorem dX1_tokenEnd_10 : decode cX1_tokenEnd 10 = .ok (.invokestatic 72, 3) := by decide +kernel
theorem dX1_tokenEnd_13 : decode cX1_tokenEnd 13 = .ok (.ifCond .eq 29, 3) := by decide +kernel
theorem dX1_tokenEnd_16 : decode cX1_tokenEnd 16 = .ok (.iload_n 2, 1) := by decide +kernel
theorem dX1_tokenEnd_17 : decode cX1_tokenEnd 17 = .ok (.aload_n 0, 1) := by decide +kernel
theorem dX1_tokenEnd_18 : decode cX1_tokenEnd 18 = .ok (.getfield 27, 3) := by decide +kernel
theorem dX1_tokenEnd_21 : decode cX1_tokenEnd 21 = .ok (.if_icmp .ge 59, 3) := by decide +kernel
theorem dX1_tokenEnd_24 : decode cX1_tokenEnd 24 = .ok (.aload_n 0, 1) := by decide +kernel
theorem dX1_tokenEnd_25 : decode cX1_tokenEnd 25 = .ok (.getfield 9, 3) := by decide +kernel
theorem dX1_tokenEnd_28 : decode cX1_tokenEnd 28 = .ok (.iload_n 2, 1) := by decide +kernel
theorem dX1_tokenEnd_29 : decode cX1_tokenEnd 29 = .ok (.iaload, 1) := by decide +kernel
theorem dX1_tokenEnd_30 : decode cX1_tokenEnd 30 = .ok (.invokestatic 72, 3) := by decide +kernel
theorem dX1_tokenEnd_33 : decode cX1_tokenEnd 33 = .ok (.ifCond .eq 47, 3) := by decide +kernel
theorem dX1_tokenEnd_36 : decode cX1_tokenEnd 36 = .ok (.iinc 2 1, 3) := by decide +kernel
theorem dX1_tokenEnd_39 : decode cX1_tokenEnd 39 = .ok (.goto (-23), 3) := by decide +kernel
theorem dX1_tokenEnd_42 : decode cX1_tokenEnd 42 = .ok (.aload_n 0, 1) := by decide +kernel
theorem dX1_tokenEnd_43 : decode cX1_tokenEnd 43 = .ok (.getfield 9, 3) := by decide +kernel
theorem dX1_tokenEnd_46 : decode cX1_tokenEnd 46 = .ok (.iload_n 1, 1) := by decide +kernel
theorem dX1_tokenEnd_47 : decode cX1_tokenEnd 47 = .ok (.iaload, 1) := by decide +kernel
theorem dX1_tokenEnd_48 : decode cX1_tokenEnd 48 = .ok (.invokestatic 75, 3) := by decide +kernel
theorem dX1_tokenEnd_51 : decode cX1_tokenEnd 51 = .ok (.ifCond .eq 29, 3) := by decide +kernel
theorem dX1_tokenEnd_54 : decode cX1_tokenEnd 54 = .ok (.iload_n 2, 1) := by decide +kernel
theorem dX1_tokenEnd_55 : decode cX1_tokenEnd 55 = .ok (.aload_n 0, 1) := by decide +kernel
theorem dX1_tokenEnd_56 : decode cX1_tokenEnd 56 = .ok (.getfield 27, 3) := by decide +kernel
theorem dX1_tokenEnd_59 : decode cX1_tokenEnd 59 = .ok (.if_icmp .ge 21, 3) := by decide +kernel
theorem dX1_tokenEnd_62 : decode cX1_tokenEnd 62 = .ok (.aload_n 0, 1) := by decide +kernel
theorem dX1_tokenEnd_63 : decode cX1_tokenEnd 63 = .ok (.getfield 9, 3) := by decide +kernel
theorem dX1_tokenEnd_66 : decode cX1_tokenEnd 66 = .ok (.iload_n 2, 1) := by decide +kernel
theorem dX1_tokenEnd_67 : decode cX1_tokenEnd 67 = .ok (.iaload, 1) := by decide +kernel
theorem dX1_tokenEnd_68 : decode cX1_tokenEnd 68 = .ok (.invokestatic 75, 3) := by decide +kernel
theorem dX1_tokenEnd_71 : decode cX1_tokenEnd 71 = .ok (.ifCond .eq 9, 3) := by decide +kernel
theorem dX1_tokenEnd_74 : decode cX1_tokenEnd 74 = .ok (.iinc 2 1, 3) := by decide +kernel
theorem dX1_tokenEnd_77 : decode cX1_tokenEnd 77 = .ok (.goto (-23), 3) := by decide +kernel
theorem dX1_tokenEnd_80 : decode cX1_tokenEnd 80 = .ok (.iload_n 2, 1) := by decide +kernel
theorem dX1_tokenEnd_81 : decode cX1_tokenEnd 81 = .ok (.ireturn, 1) := by decide +kernel
theorem dX1_addToken_0 : decode cX1_addToken 0 = .ok (.iconst 0, 1) := by decide +kernel
theorem dX1_addToken_1 : decode cX1_addToken 1 = .ok (.istore 4, 2) := by decide +kernel
theorem dX1_addToken_3 : decode cX1_addToken 3 = .ok (.aload_n 0, 1) := by decide +kernel
theorem dX1_addToken_4 : decode cX1_addToken 4 = .ok (.getfield 9, 3) := by decide +kernel
theorem dX1_addToken_7 : decode cX1_addToken 7 = .ok (.iload_n 1, 1) := by decide +kernel
theorem dX1_addToken_8 : decode cX1_addToken 8 = .ok (.iaload, 1) := by decide +kernel
theorem dX1_addToken_9 : decode cX1_addToken 9 = .ok (.invokestatic 72, 3) := by decide +kernel
theorem dX1_addToken_12 : decode cX1_addToken 12 = .ok (.ifCond .eq 13, 3) := by decide +kernel
theorem dX1_addToken_15 : decode cX1_addToken 15 = .ok (.aload_n 0, 1) := by decide +kernel
theorem dX1_addToken_16 : decode cX1_addToken 16 = .ok (.iload_n 1, 1) := by decide +kernel
theorem dX1_addToken_17 : decode cX1_addToken 17 = .ok (.iload_n 2, 1) := by decide +kernel
theorem dX1_addToken_18 : decode cX1_addToken 18 = .ok (.invokevirtual 78, 3) := by decide +kernel
theorem dX1_addToken_21 : decode cX1_addToken 21 = .ok (.istore_n 3, 1) := by decide +kernel
theorem dX1_addToken_22 : decode cX1_addToken 22 = .ok (.goto 79, 3) := by decide +kernel
theorem dX1_addToken_25 : decode cX1_addToken 25 = .ok (.aload_n 0, 1) := by decide +kernel
theorem dX1_addToken_26 : decode cX1_addToken 26 = .ok (.getfield 9, 3) := by decide +kernel
theorem dX1_addToken_29 : decode cX1_addToken 29 = .ok (.iload_n 1, 1) := by decide +kernel
theorem dX1_addToken_30 : decode cX1_addToken 30 = .ok (.iaload, 1) := by decide +kernel
theorem dX1_addToken_31 : decode cX1_addToken 31 = .ok (.invokestatic 75, 3) := by decide +kernel
theorem dX1_addToken_34 : decode cX1_addToken 34 = .ok (.ifCond .eq 57, 3) := by decide +kernel
theorem dX1_addToken_37 : decode cX1_addToken 37 = .ok (.iload_n 2, 1) := by decide +kernel
theorem dX1_addToken_38 : decode cX1_addToken 38 = .ok (.iload_n 1, 1) := by decide +kernel
theorem dX1_addToken_39 : decode cX1_addToken 39 = .ok (.isub, 1) := by decide +kernel
theorem dX1_addToken_40 : decode cX1_addToken 40 = .ok (.iconst 4, 1) := by decide +kernel
theorem dX1_addToken_41 : decode cX1_addToken 41 = .ok (.if_icmp .le 7, 3) := by decide +kernel
theorem dX1_addToken_44 : decode cX1_addToken 44 = .ok (.iconst 1, 1) := by decide +kernel
theorem dX1_addToken_45 : decode cX1_addToken 45 = .ok (.goto 4, 3) := by decide +kernel
theorem dX1_addToken_48 : decode cX1_addToken 48 = .ok (.iconst 2, 1) := by decide +kernel
theorem dX1_addToken_49 : decode cX1_addToken 49 = .ok (.istore_n 3, 1) := by decide +kernel
theorem dX1_addToken_50 : decode cX1_addToken 50 = .ok (.iload_n 1, 1) := by decide +kernel
theorem dX1_addToken_51 : decode cX1_addToken 51 = .ok (.istore 5, 2) := by decide +kernel
theorem dX1_addToken_53 : decode cX1_addToken 53 = .ok (.iload 5, 2) := by decide +kernel
theorem dX1_addToken_55 : decode cX1_addToken 55 = .ok (.iload_n 2, 1) := by decide +kernel
theorem dX1_addToken_56 : decode cX1_addToken 56 = .ok (.if_icmp .ge 32, 3) := by decide +kernel
theorem dX1_addToken_59 : decode cX1_addToken 59 = .ok (.iload_n 3, 1) := by decide +kernel
theorem dX1_addToken_60 : decode cX1_addToken 60 = .ok (.iconst 2, 1) := by decide +kernel
theorem dX1_addToken_61 : decode cX1_addToken 61 = .ok (.if_icmp .ne 27, 3) := by decide +kernel
theorem dX1_addToken_64 : decode cX1_addToken 64 = .ok (.iload 4, 2) := by decide +kernel
theorem dX1_addToken_66 : decode cX1_addToken 66 = .ok (.bipush 10, 2) := by decide +kernel
theorem dX1_addToken_68 : decode cX1_addToken 68 = .ok (.imul, 1) := by decide +kernel
theorem dX1_addToken_69 : decode cX1_addToken 69 = .ok (.aload_n 0, 1) := by decide +kernel
theorem dX1_addToken_70 : decode cX1_addToken 70 = .ok (.getfield 9, 3) := by decide +kernel
theorem dX1_addToken_73 : decode cX1_addToken 73 = .ok (.iload 5, 2) := by decide +kernel
theorem dX1_addToken_75 : decode cX1_addToken 75 = .ok (.iaload, 1) := by decide +kernel
theorem dX1_addToken_76 : decode cX1_addToken 76 = .ok (.iadd, 1) := by decide +kernel
theorem dX1_addToken_77 : decode cX1_addToken 77 = .ok (.bipush 48, 2) := by decide +kernel
theorem dX1_addToken_79 : decode cX1_addToken 79 = .ok (.isub, 1) := by decide +kernel
theorem dX1_addToken_80 : decode cX1_addToken 80 = .ok (.istore 4, 2) := by decide +kernel
theorem dX1_addToken_82 : decode cX1_addToken 82 = .ok (.iinc 5 1, 3) := by decide +kernel
theorem dX1_addToken_85 : decode cX1_addToken 85 = .ok (.goto (-32), 3) := by decide +kernel
theorem dX1_addToken_88 : decode cX1_addToken 88 = .ok (.goto 13, 3) := by decide +kernel
theorem dX1_addToken_91 : decode cX1_addToken 91 = .ok (.aload_n 0, 1) := by decide +kernel
theorem dX1_addToken_92 : decode cX1_addToken 92 = .ok (.getfield 9, 3) := by decide +kernel
theorem dX1_addToken_95 : decode cX1_addToken 95 = .ok (.iload_n 1, 1) := by decide +kernel
theorem dX1_addToken_96 : decode cX1_addToken 96 = .ok (.iaload, 1) := by decide +kernel
theorem dX1_addToken_97 : decode cX1_addToken 97 = .ok (.invokestatic 82, 3) := by decide +kernel
theorem dX1_addToken_100 : decode cX1_addToken 100 = .ok (.istore_n 3, 1) := by decide +kernel
theorem dX1_addToken_101 : decode cX1_addToken 101 = .ok (.iload_n 3, 1) := by decide +kernel
theorem dX1_addToken_102 : decode cX1_addToken 102 = .ok (.bipush 32, 2) := by decide +kernel
theorem dX1_addToken_104 : decode cX1_addToken 104 = .ok (.if_icmp .lt 11, 3) := by decide +kernel
theorem dX1_addToken_107 : decode cX1_addToken 107 = .ok (.iload_n 3, 1) := by decide +kernel
theorem dX1_addToken_108 : decode cX1_addToken 108 = .ok (.bipush 32, 2) := by decide +kernel
theorem dX1_addToken_110 : decode cX1_addToken 110 = .ok (.isub, 1) := by decide +kernel
theorem dX1_addToken_111 : decode cX1_addToken 111 = .ok (.istore 4, 2) := by decide +kernel
theorem dX1_addToken_113 : decode cX1_addToken 113 = .ok (.iconst 3, 1) := by decide +kernel
theorem dX1_addToken_114 : decode cX1_addToken 114 = .ok (.istore_n 3, 1) := by decide +kernel
theorem dX1_addToken_115 : decode cX1_addToken 115 = .ok (.aload_n 0, 1) := by decide +kernel
theorem dX1_addToken_116 : decode cX1_addToken 116 = .ok (.getfield 15, 3) := by decide +kernel
theorem dX1_addToken_119 : decode cX1_addToken 119 = .ok (.aload_n 0, 1) := by decide +kernel
theorem dX1_addToken_120 : decode cX1_addToken 120 = .ok (.getfield 58, 3) := by decide +kernel
theorem dX1_addToken_123 : decode cX1_addToken 123 = .ok (.iload_n 3, 1) := by decide +kernel
theorem dX1_addToken_124 : decode cX1_addToken 124 = .ok (.iastore, 1) := by decide +kernel
theorem dX1_addToken_125 : decode cX1_addToken 125 = .ok (.aload_n 0, 1) := by decide +kernel
theorem dX1_addToken_126 : decode cX1_addToken 126 = .ok (.getfield 18, 3) := by decide +kernel
theorem dX1_addToken_129 : decode cX1_addToken 129 = .ok (.aload_n 0, 1) := by decide +kernel
theorem dX1_addToken_130 : decode cX1_addToken 130 = .ok (.getfield 58, 3) := by decide +kernel
theorem dX1_addToken_133 : decode cX1_addToken 133 = .ok (.iload 4, 2) := by decide +kernel
theorem dX1_addToken_135 : decode cX1_addToken 135 = .ok (.iastore, 1) := by decide +kernel
theorem dX1_addToken_136 : decode cX1_addToken 136 = .ok (.aload_n 0, 1) := by decide +kernel
theorem dX1_addToken_137 : decode cX1_addToken 137 = .ok (.getfield 21, 3) := by decide +kernel
theorem dX1_addToken_140 : decode cX1_addToken 140 = .ok (.aload_n 0, 1) := by decide +kernel
theorem dX1_addToken_141 : decode cX1_addToken 141 = .ok (.getfield 58, 3) := by decide +kernel
theorem dX1_addToken_144 : decode cX1_addToken 144 = .ok (.iload_n 1, 1) := by decide +kernel
theorem dX1_addToken_145 : decode cX1_addToken 145 = .ok (.iastore, 1) := by decide +kernel
theorem dX1_addToken_146 : decode cX1_addToken 146 = .ok (.aload_n 0, 1) := by decide +kernel
theorem dX1_addToken_147 : decode cX1_addToken 147 = .ok (.dup, 1) := by decide +kernel
theorem dX1_addToken_148 : decode cX1_addToken 148 = .ok (.getfield 58, 3) := by decide +kernel
theorem dX1_addToken_151 : decode cX1_addToken 151 = .ok (.iconst 1, 1) := by decide +kernel
theorem dX1_addToken_152 : decode cX1_addToken 152 = .ok (.iadd, 1) := by decide +kernel
theorem dX1_addToken_153 : decode cX1_addToken 153 = .ok (.putfield 58, 3) := by decide +kernel
theorem dX1_addToken_156 : decode cX1_addToken 156 = .ok (.return_, 1) := by decide +kernel
theorem dX1_wordSort_0 : decode cX1_wordSort 0 = .ok (.aload_n 0, 1) := by decide +kernel
theorem dX1_wordSort_1 : decode cX1_wordSort 1 = .ok (.iload_n 1, 1) := by decide +kernel
theorem dX1_wordSort_2 : decode cX1_wordSort 2 = .ok (.iload_n 2, 1) := by decide +kernel
theorem dX1_wordSort_3 : decode cX1_wordSort 3 = .ok (.ldc 85, 2) := by decide +kernel
theorem dX1_wordSort_5 : decode cX1_wordSort 5 = .ok (.invokevirtual 87, 3) := by decide +kernel
theorem dX1_wordSort_8 : decode cX1_wordSort 8 = .ok (.ifCond .eq 5, 3) := by decide +kernel
theorem dX1_wordSort_11 : decode cX1_wordSort 11 = .ok (.iconst 4, 1) := by decide +kernel
theorem dX1_wordSort_12 : decode cX1_wordSort 12 = .ok (.ireturn, 1) := by decide +kernel
theorem dX1_wordSort_13 : decode cX1_wordSort 13 = .ok (.aload_n 0, 1) := by decide +kernel
theorem dX1_wordSort_14 : decode cX1_wordSort 14 = .ok (.iload_n 1, 1) := by decide +kernel
theorem dX1_wordSort_15 : decode cX1_wordSort 15 = .ok (.iload_n 2, 1) := by decide +kernel
theorem dX1_wordSort_16 : decode cX1_wordSort 16 = .ok (.ldc 91, 2) := by decide +kernel
theorem dX1_wordSort_18 : decode cX1_wordSort 18 = .ok (.invokevirtual 87, 3) := by decide +kernel
theorem dX1_wordSort_21 : decode cX1_wordSort 21 = .ok (.ifCond .eq 5, 3) := by decide +kernel
theorem dX1_wordSort_24 : decode cX1_wordSort 24 = .ok (.iconst 5, 1) := by decide +kernel
theorem dX1_wordSort_25 : decode cX1_wordSort 25 = .ok (.ireturn, 1) := by decide +kernel
theorem dX1_wordSort_26 : decode cX1_wordSort 26 = .ok (.aload_n 0, 1) := by decide +kernel
theorem dX1_wordSort_27 : decode cX1_wordSort 27 = .ok (.iload_n 1, 1) := by decide +kernel
theorem dX1_wordSort_28 : decode cX1_wordSort 28 = .ok (.iload_n 2, 1) := by decide +kernel
theorem dX1_wordSort_29 : decode cX1_wordSort 29 = .ok (.ldc 93, 2) := by decide +kernel
theorem dX1_wordSort_31 : decode cX1_wordSort 31 = .ok (.invokevirtual 87, 3) := by decide +kernel
theorem dX1_wordSort_34 : decode cX1_wordSort 34 = .ok (.ifCond .eq 6, 3) := by decide +kernel
theorem dX1_wordSort_37 : decode cX1_wordSort 37 = .ok (.bipush 6, 2) := by decide +kernel
theorem dX1_wordSort_39 : decode cX1_wordSort 39 = .ok (.ireturn, 1) := by decide +kernel
theorem dX1_wordSort_40 : decode cX1_wordSort 40 = .ok (.aload_n 0, 1) := by decide +kernel
theorem dX1_wordSort_41 : decode cX1_wordSort 41 = .ok (.iload_n 1, 1) := by decide +kernel
theorem dX1_wordSort_42 : decode cX1_wordSort 42 = .ok (.iload_n 2, 1) := by decide +kernel
theorem dX1_wordSort_43 : decode cX1_wordSort 43 = .ok (.ldc 95, 2) := by decide +kernel
theorem dX1_wordSort_45 : decode cX1_wordSort 45 = .ok (.invokevirtual 87, 3) := by decide +kernel
theorem dX1_wordSort_48 : decode cX1_wordSort 48 = .ok (.ifCond .eq 6, 3) := by decide +kernel
theorem dX1_wordSort_51 : decode cX1_wordSort 51 = .ok (.bipush 7, 2) := by decide +kernel
theorem dX1_wordSort_53 : decode cX1_wordSort 53 = .ok (.ireturn, 1) := by decide +kernel
theorem dX1_wordSort_54 : decode cX1_wordSort 54 = .ok (.aload_n 0, 1) := by decide +kernel
theorem dX1_wordSort_55 : decode cX1_wordSort 55 = .ok (.iload_n 1, 1) := by decide +kernel
theorem dX1_wordSort_56 : decode cX1_wordSort 56 = .ok (.iload_n 2, 1) := by decide +kernel
theorem dX1_wordSort_57 : decode cX1_wordSort 57 = .ok (.ldc 97, 2) := by decide +kernel
theorem dX1_wordSort_59 : decode cX1_wordSort 59 = .ok (.invokevirtual 87, 3) := by decide +kernel
theorem dX1_wordSort_62 : decode cX1_wordSort 62 = .ok (.ifCond .eq 6, 3) := by decide +kernel
theorem dX1_wordSort_65 : decode cX1_wordSort 65 = .ok (.bipush 8, 2) := by decide +kernel
theorem dX1_wordSort_67 : decode cX1_wordSort 67 = .ok (.ireturn, 1) := by decide +kernel
theorem dX1_wordSort_68 : decode cX1_wordSort 68 = .ok (.aload_n 0, 1) := by decide +kernel
theorem dX1_wordSort_69 : decode cX1_wordSort 69 = .ok (.iload_n 1, 1) := by decide +kernel
theorem dX1_wordSort_70 : decode cX1_wordSort 70 = .ok (.iload_n 2, 1) := by decide +kernel
theorem dX1_wordSort_71 : decode cX1_wordSort 71 = .ok (.ldc 99, 2) := by decide +kernel
theorem dX1_wordSort_73 : decode cX1_wordSort 73 = .ok (.invokevirtual 87, 3) := by decide +kernel
theorem dX1_wordSort_76 : decode cX1_wordSort 76 = .ok (.ifCond .eq 6, 3) := by decide +kernel
theorem dX1_wordSort_79 : decode cX1_wordSort 79 = .ok (.bipush 9, 2) := by decide +kernel
theorem dX1_wordSort_81 : decode cX1_wordSort 81 = .ok (.ireturn, 1) := by decide +kernel
theorem dX1_wordSort_82 : decode cX1_wordSort 82 = .ok (.aload_n 0, 1) := by decide +kernel
theorem dX1_wordSort_83 : decode cX1_wordSort 83 = .ok (.iload_n 1, 1) := by decide +kernel
theorem dX1_wordSort_84 : decode cX1_wordSort 84 = .ok (.iload_n 2, 1) := by decide +kernel
theorem dX1_wordSort_85 : decode cX1_wordSort 85 = .ok (.invokevirtual 101, 3) := by decide +kernel
theorem dX1_wordSort_88 : decode cX1_wordSort 88 = .ok (.ireturn, 1) := by decide +kernel
theorem dX1_nameSort_0 : decode cX1_nameSort 0 = .ok (.aload_n 0, 1) := by decide +kernel
theorem dX1_nameSort_1 : decode cX1_nameSort 1 = .ok (.iload_n 1, 1) := by decide +kernel
theorem dX1_nameSort_2 : decode cX1_nameSort 2 = .ok (.iload_n 2, 1) := by decide +kernel
theorem dX1_nameSort_3 : decode cX1_nameSort 3 = .ok (.ldc 104, 2) := by decide +kernel
theorem dX1_nameSort_5 : decode cX1_nameSort 5 = .ok (.invokevirtual 87, 3) := by decide +kernel
theorem dX1_nameSort_8 : decode cX1_nameSort 8 = .ok (.ifCond .eq 6, 3) := by decide +kernel
theorem dX1_nameSort_11 : decode cX1_nameSort 11 = .ok (.bipush 32, 2) := by decide +kernel
theorem dX1_nameSort_13 : decode cX1_nameSort 13 = .ok (.ireturn, 1) := by decide +kernel
theorem dX1_nameSort_14 : decode cX1_nameSort 14 = .ok (.aload_n 0, 1) := by decide +kernel
theorem dX1_nameSort_15 : decode cX1_nameSort 15 = .ok (.iload_n 1, 1) := by decide +kernel
theorem dX1_nameSort_16 : decode cX1_nameSort 16 = .ok (.iload_n 2, 1) := by decide +kernel
theorem dX1_nameSort_17 : decode cX1_nameSort 17 = .ok (.ldc 108, 2) := by decide +kernel
theorem dX1_nameSort_19 : decode cX1_nameSort 19 = .ok (.invokevirtual 87, 3) := by decide +kernel
theorem dX1_nameSort_22 : decode cX1_nameSort 22 = .ok (.ifCond .eq 6, 3) := by decide +kernel
theorem dX1_nameSort_25 : decode cX1_nameSort 25 = .ok (.bipush 33, 2) := by decide +kernel
theorem dX1_nameSort_27 : decode cX1_nameSort 27 = .ok (.ireturn, 1) := by decide +kernel
theorem dX1_nameSort_28 : decode cX1_nameSort 28 = .ok (.aload_n 0, 1) := by decide +kernel
theorem dX1_nameSort_29 : decode cX1_nameSort 29 = .ok (.iload_n 1, 1) := by decide +kernel
theorem dX1_nameSort_30 : decode cX1_nameSort 30 = .ok (.iload_n 2, 1) := by decide +kernel
theorem dX1_nameSort_31 : decode cX1_nameSort 31 = .ok (.ldc 110, 2) := by decide +kernel
theorem dX1_nameSort_33 : decode cX1_nameSort 33 = .ok (.invokevirtual 87, 3) := by decide +kernel
theorem dX1_nameSort_36 : decode cX1_nameSort 36 = .ok (.ifCond .eq 6, 3) := by decide +kernel
theorem dX1_nameSort_39 : decode cX1_nameSort 39 = .ok (.bipush 34, 2) := by decide +kernel
theorem dX1_nameSort_41 : decode cX1_nameSort 41 = .ok (.ireturn, 1) := by decide +kernel
theorem dX1_nameSort_42 : decode cX1_nameSort 42 = .ok (.aload_n 0, 1) := by decide +kernel
theorem dX1_nameSort_43 : decode cX1_nameSort 43 = .ok (.iload_n 1, 1) := by decide +kernel
theorem dX1_nameSort_44 : decode cX1_nameSort 44 = .ok (.iload_n 2, 1) := by decide +kernel
theorem dX1_nameSort_45 : decode cX1_nameSort 45 = .ok (.ldc 112, 2) := by decide +kernel
theorem dX1_nameSort_47 : decode cX1_nameSort 47 = .ok (.invokevirtual 87, 3) := by decide +kernel
theorem dX1_nameSort_50 : decode cX1_nameSort 50 = .ok (.ifCond .eq 6, 3) := by decide +kernel
theorem dX1_nameSort_53 : decode cX1_nameSort 53 = .ok (.bipush 35, 2) := by decide +kernel
theorem dX1_nameSort_55 : decode cX1_nameSort 55 = .ok (.ireturn, 1) := by decide +kernel
theorem dX1_nameSort_56 : decode cX1_nameSort 56 = .ok (.aload_n 0, 1) := by decide +kernel
theorem dX1_nameSort_57 : decode cX1_nameSort 57 = .ok (.iload_n 1, 1) := by decide +kernel
theorem dX1_nameSort_58 : decode cX1_nameSort 58 = .ok (.iload_n 2, 1) := by decide +kernel
theorem dX1_nameSort_59 : decode cX1_nameSort 59 = .ok (.ldc 114, 2) := by decide +kernel
theorem dX1_nameSort_61 : decode cX1_nameSort 61 = .ok (.invokevirtual 87, 3) := by decide +kernel
theorem dX1_nameSort_64 : decode cX1_nameSort 64 = .ok (.ifCond .eq 6, 3) := by decide +kernel
theorem dX1_nameSort_67 : decode cX1_nameSort 67 = .ok (.bipush 36, 2) := by decide +kernel
theorem dX1_nameSort_69 : decode cX1_nameSort 69 = .ok (.ireturn, 1) := by decide +kernel
theorem dX1_nameSort_70 : decode cX1_nameSort 70 = .ok (.aload_n 0, 1) := by decide +kernel
theorem dX1_nameSort_71 : decode cX1_nameSort 71 = .ok (.iload_n 1, 1) := by decide +kernel
theorem dX1_nameSort_72 : decode cX1_nameSort 72 = .ok (.iload_n 2, 1) := by decide +kernel
theorem dX1_nameSort_73 : decode cX1_nameSort 73 = .ok (.ldc 116, 2) := by decide +kernel
theorem dX1_nameSort_75 : decode cX1_nameSort 75 = .ok (.invokevirtual 87, 3) := by decide +kernel
theorem dX1_nameSort_78 : decode cX1_nameSort 78 = .ok (.ifCond .eq 6, 3) := by decide +kernel
theorem dX1_nameSort_81 : decode cX1_nameSort 81 = .ok (.bipush 37, 2) := by decide +kernel
theorem dX1_nameSort_83 : decode cX1_nameSort 83 = .ok (.ireturn, 1) := by decide +kernel
theorem dX1_nameSort_84 : decode cX1_nameSort 84 = .ok (.iconst 1, 1) := by decide +kernel
theorem dX1_nameSort_85 : decode cX1_nameSort 85 = .ok (.ireturn, 1) := by decide +kernel
theorem dX1_spells_0 : decode cX1_spells 0 = .ok (.iload_n 2, 1) := by decide +kernel
theorem dX1_spells_1 : decode cX1_spells 1 = .ok (.iload_n 1, 1) := by decide +kernel
theorem dX1_spells_2 : decode cX1_spells 2 = .ok (.isub, 1) := by decide +kernel
theorem dX1_spells_3 : decode cX1_spells 3 = .ok (.aload_n 3, 1) := by decide +kernel
theorem dX1_spells_4 : decode cX1_spells 4 = .ok (.invokevirtual 118, 3) := by decide +kernel
theorem dX1_spells_7 : decode cX1_spells 7 = .ok (.if_icmp .eq 5, 3) := by decide +kernel
theorem dX1_spells_10 : decode cX1_spells 10 = .ok (.iconst 0, 1) := by decide +kernel
theorem dX1_spells_11 : decode cX1_spells 11 = .ok (.ireturn, 1) := by decide +kernel
theorem dX1_spells_12 : decode cX1_spells 12 = .ok (.iconst 0, 1) := by decide +kernel
theorem dX1_spells_13 : decode cX1_spells 13 = .ok (.istore 4, 2) := by decide +kernel
theorem dX1_spells_15 : decode cX1_spells 15 = .ok (.iload 4, 2) := by decide +kernel
theorem dX1_spells_17 : decode cX1_spells 17 = .ok (.aload_n 3, 1) := by decide +kernel
theorem dX1_spells_18 : decode cX1_spells 18 = .ok (.invokevirtual 118, 3) := by decide +kernel
theorem dX1_spells_21 : decode cX1_spells 21 = .ok (.if_icmp .ge 29, 3) := by decide +kernel
theorem dX1_spells_24 : decode cX1_spells 24 = .ok (.aload_n 0, 1) := by decide +kernel
theorem dX1_spells_25 : decode cX1_spells 25 = .ok (.getfield 9, 3) := by decide +kernel
theorem dX1_spells_28 : decode cX1_spells 28 = .ok (.iload_n 1, 1) := by decide +kernel
theorem dX1_spells_29 : decode cX1_spells 29 = .ok (.iload 4, 2) := by decide +kernel
theorem dX1_spells_31 : decode cX1_spells 31 = .ok (.iadd, 1) := by decide +kernel
theorem dX1_spells_32 : decode cX1_spells 32 = .ok (.iaload, 1) := by decide +kernel
theorem dX1_spells_33 : decode cX1_spells 33 = .ok (.aload_n 3, 1) := by decide +kernel
theorem dX1_spells_34 : decode cX1_spells 34 = .ok (.iload 4, 2) := by decide +kernel
theorem dX1_spells_36 : decode cX1_spells 36 = .ok (.invokevirtual 124, 3) := by decide +kernel
theorem dX1_spells_39 : decode cX1_spells 39 = .ok (.if_icmp .eq 5, 3) := by decide +kernel
theorem dX1_spells_42 : decode cX1_spells 42 = .ok (.iconst 0, 1) := by decide +kernel
theorem dX1_spells_43 : decode cX1_spells 43 = .ok (.ireturn, 1) := by decide +kernel
theorem dX1_spells_44 : decode cX1_spells 44 = .ok (.iinc 4 1, 3) := by decide +kernel
theorem dX1_spells_47 : decode cX1_spells 47 = .ok (.goto (-32), 3) := by decide +kernel
theorem dX1_spells_50 : decode cX1_spells 50 = .ok (.iconst 1, 1) := by decide +kernel
theorem dX1_spells_51 : decode cX1_spells 51 = .ok (.ireturn, 1) := by decide +kernel
theorem dX1_signSort_0 : decode cX1_signSort 0 = .ok (.iload_n 0, 1) := by decide +kernel
theorem dX1_signSort_1 : decode cX1_signSort 1 = .ok (.tableswitch 127 40 61 #[103, 106, 118, 112, 127, 115, 127, 127, 127, 127, 127, 127, 127, 127, 127, 127, 127, 127, 127, 109, 121, 124], 103) := by decide +kernel
theorem dX1_signSort_104 : decode cX1_signSort 104 = .ok (.bipush 10, 2) := by decide +kernel
theorem dX1_signSort_106 : decode cX1_signSort 106 = .ok (.ireturn, 1) := by decide +kernel
theorem dX1_signSort_107 : decode cX1_signSort 107 = .ok (.bipush 11, 2) := by decide +kernel
theorem dX1_signSort_109 : decode cX1_signSort 109 = .ok (.ireturn, 1) := by decide +kernel
theorem dX1_signSort_110 : decode cX1_signSort 110 = .ok (.bipush 12, 2) := by decide +kernel
theorem dX1_signSort_112 : decode cX1_signSort 112 = .ok (.ireturn, 1) := by decide +kernel
theorem dX1_signSort_113 : decode cX1_signSort 113 = .ok (.bipush 13, 2) := by decide +kernel
theorem dX1_signSort_115 : decode cX1_signSort 115 = .ok (.ireturn, 1) := by decide +kernel
theorem dX1_signSort_116 : decode cX1_signSort 116 = .ok (.bipush 14, 2) := by decide +kernel
theorem dX1_signSort_118 : decode cX1_signSort 118 = .ok (.ireturn, 1) := by decide +kernel
theorem dX1_signSort_119 : decode cX1_signSort 119 = .ok (.bipush 15, 2) := by decide +kernel
theorem dX1_signSort_121 : decode cX1_signSort 121 = .ok (.ireturn, 1) := by decide +kernel
theorem dX1_signSort_122 : decode cX1_signSort 122 = .ok (.bipush 16, 2) := by decide +kernel
theorem dX1_signSort_124 : decode cX1_signSort 124 = .ok (.ireturn, 1) := by decide +kernel
theorem dX1_signSort_125 : decode cX1_signSort 125 = .ok (.bipush 17, 2) := by decide +kernel
theorem dX1_signSort_127 : decode cX1_signSort 127 = .ok (.ireturn, 1) := by decide +kernel
theorem dX1_signSort_128 : decode cX1_signSort 128 = .ok (.iconst 1, 1) := by decide +kernel
theorem dX1_signSort_129 : decode cX1_signSort 129 = .ok (.ireturn, 1) := by decide +kernel
theorem dX1_isLetter_0 : decode cX1_isLetter 0 = .ok (.iload_n 0, 1) := by decide +kernel
theorem dX1_isLetter_1 : decode cX1_isLetter 1 = .ok (.bipush 97, 2) := by decide +kernel
theorem dX1_isLetter_3 : decode cX1_isLetter 3 = .ok (.if_icmp .lt 13, 3) := by decide +kernel
theorem dX1_isLetter_6 : decode cX1_isLetter 6 = .ok (.iload_n 0, 1) := by decide +kernel
theorem dX1_isLetter_7 : decode cX1_isLetter 7 = .ok (.bipush 122, 2) := by decide +kernel
theorem dX1_isLetter_9 : decode cX1_isLetter 9 = .ok (.if_icmp .gt 7, 3) := by decide +kernel
theorem dX1_isLetter_12 : decode cX1_isLetter 12 = .ok (.iconst 1, 1) := by decide +kernel
theorem dX1_isLetter_13 : decode cX1_isLetter 13 = .ok (.goto 4, 3) := by decide +kernel
theorem dX1_isLetter_16 : decode cX1_isLetter 16 = .ok (.iconst 0, 1) := by decide +kernel
theorem dX1_isLetter_17 : decode cX1_isLetter 17 = .ok (.ireturn, 1) := by decide +kernel
theorem dX1_isDigit_0 : decode cX1_isDigit 0 = .ok (.iload_n 0, 1) := by decide +kernel
theorem dX1_isDigit_1 : decode cX1_isDigit 1 = .ok (.bipush 48, 2) := by decide +kernel
theorem dX1_isDigit_3 : decode cX1_isDigit 3 = .ok (.if_icmp .lt 13, 3) := by decide +kernel
theorem dX1_isDigit_6 : decode cX1_isDigit 6 = .ok (.iload_n 0, 1) := by decide +kernel
theorem dX1_isDigit_7 : decode cX1_isDigit 7 = .ok (.bipush 57, 2) := by decide +kernel
theorem dX1_isDigit_9 : decode cX1_isDigit 9 = .ok (.if_icmp .gt 7, 3) := by decide +kernel
theorem dX1_isDigit_12 : decode cX1_isDigit 12 = .ok (.iconst 1, 1) := by decide +kernel
theorem dX1_isDigit_13 : decode cX1_isDigit 13 = .ok (.goto 4, 3) := by decide +kernel
theorem dX1_isDigit_16 : decode cX1_isDigit 16 = .ok (.iconst 0, 1) := by decide +kernel
theorem dX1_isDigit_17 : decode cX1_isDigit 17 = .ok (.ireturn, 1) := by decide +kernel
theorem dX1_isBlank_0 : decode cX1_isBlank 0 = .ok (.iload_n 0, 1) := by decide +kernel
theorem dX1_isBlank_1 : decode cX1_isBlank 1 = .ok (.bipush 32, 2) := by decide +kernel
theorem dX1_isBlank_3 : decode cX1_isBlank 3 = .ok (.if_icmp .eq 9, 3) := by decide +kernel
theorem dX1_isBlank_6 : decode cX1_isBlank 6 = .ok (.iload_n 0, 1) := by decide +kernel
theorem dX1_isBlank_7 : decode cX1_isBlank 7 = .ok (.bipush 10, 2) := by decide +kernel
theorem dX1_isBlank_9 : decode cX1_isBlank 9 = .ok (.if_icmp .ne 7, 3) := by decide +kernel
theorem dX1_isBlank_12 : decode cX1_isBlank 12 = .ok (.iconst 1, 1) := by decide +kernel
theorem dX1_isBlank_13 : decode cX1_isBlank 13 = .ok (.goto 4, 3) := by decide +kernel
theorem dX1_isBlank_16 : decode cX1_isBlank 16 = .ok (.iconst 0, 1) := by decide +kernel
theorem dX1_isBlank_17 : decode cX1_isBlank 17 = .ok (.ireturn, 1) := by decide +kernel
theorem dX1_clause_0 : decode cX1_clause 0 = .ok (.aload_n 0, 1) := by decide +kernel
theorem dX1_clause_1 : decode cX1_clause 1 = .ok (.iload_n 1, 1) := by decide +kernel
theorem dX1_clause_2 : decode cX1_clause 2 = .ok (.invokevirtual 128, 3) := by decide +kernel
theorem dX1_clause_5 : decode cX1_clause 5 = .ok (.ifCond .eq 25, 3) := by decide +kernel
theorem dX1_clause_8 : decode cX1_clause 8 = .ok (.aload_n 0, 1) := by decide +kernel
theorem dX1_clause_9 : decode cX1_clause 9 = .ok (.iconst 0, 1) := by decide +kernel
theorem dX1_clause_10 : decode cX1_clause 10 = .ok (.iconst 0, 1) := by decide +kernel
theorem dX1_clause_11 : decode cX1_clause 11 = .ok (.invokevirtual 131, 3) := by decide +kernel
theorem dX1_clause_14 : decode cX1_clause 14 = .ok (.ifCond .eq 16, 3) := by decide +kernel
theorem dX1_clause_17 : decode cX1_clause 17 = .ok (.aload_n 0, 1) := by decide +kernel
theorem dX1_clause_18 : decode cX1_clause 18 = .ok (.bipush 12, 2) := by decide +kernel
theorem dX1_clause_20 : decode cX1_clause 20 = .ok (.invokevirtual 128, 3) := by decide +kernel
theorem dX1_clause_23 : decode cX1_clause 23 = .ok (.ifCond .eq 7, 3) := by decide +kernel
theorem dX1_clause_26 : decode cX1_clause 26 = .ok (.iconst 1, 1) := by decide +kernel
theorem dX1_clause_27 : decode cX1_clause 27 = .ok (.goto 4, 3) := by decide +kernel
theorem dX1_clause_30 : decode cX1_clause 30 = .ok (.iconst 0, 1) := by decide +kernel
theorem dX1_clause_31 : decode cX1_clause 31 = .ok (.ireturn, 1) := by decide +kernel
theorem dX1_accept_0 : decode cX1_accept 0 = .ok (.aload_n 0, 1) := by decide +kernel
theorem dX1_accept_1 : decode cX1_accept 1 = .ok (.getfield 15, 3) := by decide +kernel
theorem dX1_accept_4 : decode cX1_accept 4 = .ok (.aload_n 0, 1) := by decide +kernel
theorem dX1_accept_5 : decode cX1_accept 5 = .ok (.getfield 34, 3) := by decide +kernel
theorem dX1_accept_8 : decode cX1_accept 8 = .ok (.iaload, 1) := by decide +kernel
theorem dX1_accept_9 : decode cX1_accept 9 = .ok (.iload_n 1, 1) := by decide +kernel
theorem dX1_accept_10 : decode cX1_accept 10 = .ok (.if_icmp .eq 5, 3) := by decide +kernel
theorem dX1_accept_13 : decode cX1_accept 13 = .ok (.iconst 0, 1) := by decide +kernel
theorem dX1_accept_14 : decode cX1_accept 14 = .ok (.ireturn, 1) := by decide +kernel
theorem dX1_accept_15 : decode cX1_accept 15 = .ok (.aload_n 0, 1) := by decide +kernel
theorem dX1_accept_16 : decode cX1_accept 16 = .ok (.dup, 1) := by decide +kernel
theorem dX1_accept_17 : decode cX1_accept 17 = .ok (.getfield 34, 3) := by decide +kernel
theorem dX1_accept_20 : decode cX1_accept 20 = .ok (.iconst 1, 1) := by decide +kernel
theorem dX1_accept_21 : decode cX1_accept 21 = .ok (.iadd, 1) := by decide +kernel
theorem dX1_accept_22 : decode cX1_accept 22 = .ok (.putfield 34, 3) := by decide +kernel
theorem dX1_accept_25 : decode cX1_accept 25 = .ok (.iconst 1, 1) := by decide +kernel
theorem dX1_accept_26 : decode cX1_accept 26 = .ok (.ireturn, 1) := by decide +kernel
theorem dX1_make_0 : decode cX1_make 0 = .ok (.aload_n 0, 1) := by decide +kernel
theorem dX1_make_1 : decode cX1_make 1 = .ok (.getfield 37, 3) := by decide +kernel
theorem dX1_make_4 : decode cX1_make 4 = .ok (.sipush 160, 3) := by decide +kernel
theorem dX1_make_7 : decode cX1_make 7 = .ok (.if_icmp .ge 28, 3) := by decide +kernel
theorem dX1_make_10 : decode cX1_make 10 = .ok (.aload_n 0, 1) := by decide +kernel
theorem dX1_make_11 : decode cX1_make 11 = .ok (.getfield 24, 3) := by decide +kernel
theorem dX1_make_14 : decode cX1_make 14 = .ok (.aload_n 0, 1) := by decide +kernel
theorem dX1_make_15 : decode cX1_make 15 = .ok (.getfield 37, 3) := by decide +kernel
theorem dX1_make_18 : decode cX1_make 18 = .ok (.iload_n 1, 1) := by decide +kernel
theorem dX1_make_19 : decode cX1_make 19 = .ok (.bipush 16, 2) := by decide +kernel
theorem dX1_make_21 : decode cX1_make 21 = .ok (.ishl, 1) := by decide +kernel
theorem dX1_make_22 : decode cX1_make 22 = .ok (.iload_n 2, 1) := by decide +kernel
theorem dX1_make_23 : decode cX1_make 23 = .ok (.ior, 1) := by decide +kernel
theorem dX1_make_24 : decode cX1_make 24 = .ok (.iastore, 1) := by decide +kernel
theorem dX1_make_25 : decode cX1_make 25 = .ok (.aload_n 0, 1) := by decide +kernel
theorem dX1_make_26 : decode cX1_make 26 = .ok (.dup, 1) := by decide +kernel
theorem dX1_make_27 : decode cX1_make 27 = .ok (.getfield 37, 3) := by decide +kernel
theorem dX1_make_30 : decode cX1_make 30 = .ok (.iconst 1, 1) := by decide +kernel
theorem dX1_make_31 : decode cX1_make 31 = .ok (.iadd, 1) := by decide +kernel
theorem dX1_make_32 : decode cX1_make 32 = .ok (.putfield 37, 3) := by decide +kernel
theorem dX1_make_35 : decode cX1_make 35 = .ok (.return_, 1) := by decide +kernel
theorem dX1_phrase_0 : decode cX1_phrase 0 = .ok (.iload_n 1, 1) := by decide +kernel
theorem dX1_phrase_1 : decode cX1_phrase 1 = .ok (.iconst 5, 1) := by decide +kernel
theorem dX1_phrase_2 : decode cX1_phrase 2 = .ok (.if_icmp .lt 9, 3) := by decide +kernel
theorem dX1_phrase_5 : decode cX1_phrase 5 = .ok (.aload_n 0, 1) := by decide +kernel
theorem dX1_phrase_6 : decode cX1_phrase 6 = .ok (.iload_n 2, 1) := by decide +kernel
theorem dX1_phrase_7 : decode cX1_phrase 7 = .ok (.invokevirtual 135, 3) := by decide +kernel
theorem dX1_phrase_10 : decode cX1_phrase 10 = .ok (.ireturn, 1) := by decide +kernel
theorem dX1_phrase_11 : decode cX1_phrase 11 = .ok (.iload_n 1, 1) := by decide +kernel
theorem dX1_phrase_12 : decode cX1_phrase 12 = .ok (.iconst 2, 1) := by decide +kernel
theorem dX1_phrase_13 : decode cX1_phrase 13 = .ok (.if_icmp .ne 23, 3) := by decide +kernel
theorem dX1_phrase_16 : decode cX1_phrase 16 = .ok (.aload_n 0, 1) := by decide +kernel
theorem dX1_phrase_17 : decode cX1_phrase 17 = .ok (.getfield 15, 3) := by decide +kernel
theorem dX1_phrase_20 : decode cX1_phrase 20 = .ok (.aload_n 0, 1) := by decide +kernel
theorem dX1_phrase_21 : decode cX1_phrase 21 = .ok (.getfield 34, 3) := by decide +kernel
theorem dX1_phrase_24 : decode cX1_phrase 24 = .ok (.iaload, 1) := by decide +kernel
theorem dX1_phrase_25 : decode cX1_phrase 25 = .ok (.bipush 9, 2) := by decide +kernel
theorem dX1_phrase_27 : decode cX1_phrase 27 = .ok (.if_icmp .ne 9, 3) := by decide +kernel
theorem dX1_phrase_30 : decode cX1_phrase 30 = .ok (.aload_n 0, 1) := by decide +kernel
theorem dX1_phrase_31 : decode cX1_phrase 31 = .ok (.iload_n 2, 1) := by decide +kernel
theorem dX1_phrase_32 : decode cX1_phrase 32 = .ok (.invokevirtual 138, 3) := by decide +kernel
theorem dX1_phrase_35 : decode cX1_phrase 35 = .ok (.ireturn, 1) := by decide +kernel
theorem dX1_phrase_36 : decode cX1_phrase 36 = .ok (.aload_n 0, 1) := by decide +kernel
theorem dX1_phrase_37 : decode cX1_phrase 37 = .ok (.iload_n 1, 1) := by decide +kernel
theorem dX1_phrase_38 : decode cX1_phrase 38 = .ok (.iconst 1, 1) := by decide +kernel
theorem dX1_phrase_39 : decode cX1_phrase 39 = .ok (.iadd, 1) := by decide +kernel
theorem dX1_phrase_40 : decode cX1_phrase 40 = .ok (.iload_n 2, 1) := by decide +kernel
theorem dX1_phrase_41 : decode cX1_phrase 41 = .ok (.invokevirtual 131, 3) := by decide +kernel
theorem dX1_phrase_44 : decode cX1_phrase 44 = .ok (.ifCond .ne 5, 3) := by decide +kernel
theorem dX1_phrase_47 : decode cX1_phrase 47 = .ok (.iconst 0, 1) := by decide +kernel
theorem dX1_phrase_48 : decode cX1_phrase 48 = .ok (.ireturn, 1) := by decide +kernel
theorem dX1_phrase_49 : decode cX1_phrase 49 = .ok (.iload_n 1, 1) := by decide +kernel
theorem dX1_phrase_50 : decode cX1_phrase 50 = .ok (.iconst 2, 1) := by decide +kernel
theorem dX1_phrase_51 : decode cX1_phrase 51 = .ok (.if_icmp .ne 7, 3) := by decide +kernel
theorem dX1_phrase_54 : decode cX1_phrase 54 = .ok (.iconst 1, 1) := by decide +kernel
theorem dX1_phrase_55 : decode cX1_phrase 55 = .ok (.goto 6, 3) := by decide +kernel
theorem dX1_phrase_58 : decode cX1_phrase 58 = .ok (.sipush 160, 3) := by decide +kernel
theorem dX1_phrase_61 : decode cX1_phrase 61 = .ok (.istore_n 3, 1) := by decide +kernel
theorem dX1_phrase_62 : decode cX1_phrase 62 = .ok (.iconst 0, 1) := by decide +kernel
theorem dX1_phrase_63 : decode cX1_phrase 63 = .ok (.istore 4, 2) := by decide +kernel
theorem dX1_phrase_65 : decode cX1_phrase 65 = .ok (.iload 4, 2) := by decide +kernel
theorem dX1_phrase_67 : decode cX1_phrase 67 = .ok (.iload_n 3, 1) := by decide +kernel
theorem dX1_phrase_68 : decode cX1_phrase 68 = .ok (.if_icmp .ge 66, 3) := by decide +kernel
theorem dX1_phrase_71 : decode cX1_phrase 71 = .ok (.iload_n 1, 1) := by decide +kernel
theorem dX1_phrase_72 : decode cX1_phrase 72 = .ok (.aload_n 0, 1) := by decide +kernel
theorem dX1_phrase_73 : decode cX1_phrase 73 = .ok (.getfield 15, 3) := by decide +kernel
theorem dX1_phrase_76 : decode cX1_phrase 76 = .ok (.aload_n 0, 1) := by decide +kernel
theorem dX1_phrase_77 : decode cX1_phrase 77 = .ok (.getfield 34, 3) := by decide +kernel
theorem dX1_phrase_80 : decode cX1_phrase 80 = .ok (.iaload, 1) := by decide +kernel
theorem dX1_phrase_81 : decode cX1_phrase 81 = .ok (.invokestatic 141, 3) := by decide +kernel
theorem dX1_phrase_84 : decode cX1_phrase 84 = .ok (.ifCond .eq 50, 3) := by decide +kernel
theorem dX1_phrase_87 : decode cX1_phrase 87 = .ok (.aload_n 0, 1) := by decide +kernel
theorem dX1_phrase_88 : decode cX1_phrase 88 = .ok (.getfield 15, 3) := by decide +kernel
theorem dX1_phrase_91 : decode cX1_phrase 91 = .ok (.aload_n 0, 1) := by decide +kernel
theorem dX1_phrase_92 : decode cX1_phrase 92 = .ok (.getfield 34, 3) := by decide +kernel
theorem dX1_phrase_95 : decode cX1_phrase 95 = .ok (.iaload, 1) := by decide +kernel
theorem dX1_phrase_96 : decode cX1_phrase 96 = .ok (.istore 5, 2) := by decide +kernel
theorem dX1_phrase_98 : decode cX1_phrase 98 = .ok (.aload_n 0, 1) := by decide +kernel
theorem dX1_phrase_99 : decode cX1_phrase 99 = .ok (.dup, 1) := by decide +kernel
theorem dX1_phrase_100 : decode cX1_phrase 100 = .ok (.getfield 34, 3) := by decide +kernel
theorem dX1_phrase_103 : decode cX1_phrase 103 = .ok (.iconst 1, 1) := by decide +kernel
theorem dX1_phrase_104 : decode cX1_phrase 104 = .ok (.iadd, 1) := by decide +kernel
theorem dX1_phrase_105 : decode cX1_phrase 105 = .ok (.putfield 34, 3) := by decide +kernel
theorem dX1_phrase_108 : decode cX1_phrase 108 = .ok (.aload_n 0, 1) := by decide +kernel
theorem dX1_phrase_109 : decode cX1_phrase 109 = .ok (.iload_n 1, 1) := by decide +kernel
theorem dX1_phrase_110 : decode cX1_phrase 110 = .ok (.iconst 1, 1) := by decide +kernel
theorem dX1_phrase_111 : decode cX1_phrase 111 = .ok (.iadd, 1) := by decide +kernel
theorem dX1_phrase_112 : decode cX1_phrase 112 = .ok (.iload_n 2, 1) := by decide +kernel
theorem dX1_phrase_113 : decode cX1_phrase 113 = .ok (.invokevirtual 131, 3) := by decide +kernel
theorem dX1_phrase_116 : decode cX1_phrase 116 = .ok (.ifCond .ne 5, 3) := by decide +kernel
theorem dX1_phrase_119 : decode cX1_phrase 119 = .ok (.iconst 0, 1) := by decide +kernel
theorem dX1_phrase_120 : decode cX1_phrase 120 = .ok (.ireturn, 1) := by decide +kernel
theorem dX1_phrase_121 : decode cX1_phrase 121 = .ok (.aload_n 0, 1) := by decide +kernel
theorem dX1_phrase_122 : decode cX1_phrase 122 = .ok (.iload 5, 2) := by decide +kernel
theorem dX1_phrase_124 : decode cX1_phrase 124 = .ok (.iconst 0, 1) := by decide +kernel
theorem dX1_phrase_125 : decode cX1_phrase 125 = .ok (.invokevirtual 144, 3) := by decide +kernel
theorem dX1_phrase_128 : decode cX1_phrase 128 = .ok (.iinc 4 1, 3) := by decide +kernel
theorem dX1_phrase_131 : decode cX1_phrase 131 = .ok (.goto (-66), 3) := by decide +kernel
theorem dX1_phrase_134 : decode cX1_phrase 134 = .ok (.iconst 1, 1) := by decide +kernel
theorem dX1_phrase_135 : decode cX1_phrase 135 = .ok (.ireturn, 1) := by decide +kernel
theorem dX1_joins_0 : decode cX1_joins 0 = .ok (.iload_n 0, 1) := by decide +kernel
theorem dX1_joins_1 : decode cX1_joins 1 = .ok (.tableswitch 107 0 4 #[35, 47, 59, 77, 95], 35) := by decide +kernel
theorem dX1_joins_36 : decode cX1_joins 36 = .ok (.iload_n 1, 1) := by decide +kernel
theorem dX1_joins_37 : decode cX1_joins 37 = .ok (.bipush 7, 2) := by decide +kernel
theorem dX1_joins_39 : decode cX1_joins 39 = .ok (.if_icmp .ne 7, 3) := by decide +kernel
theorem dX1_joins_42 : decode cX1_joins 42 = .ok (.iconst 1, 1) := by decide +kernel
theorem dX1_joins_43 : decode cX1_joins 43 = .ok (.goto 4, 3) := by decide +kernel
theorem dX1_joins_46 : decode cX1_joins 46 = .ok (.iconst 0, 1) := by decide +kernel
theorem dX1_joins_47 : decode cX1_joins 47 = .ok (.ireturn, 1) := by decide +kernel
theorem dX1_joins_48 : decode cX1_joins 48 = .ok (.iload_n 1, 1) := by decide +kernel
theorem dX1_joins_49 : decode cX1_joins 49 = .ok (.bipush 8, 2) := by decide +kernel
theorem dX1_joins_51 : decode cX1_joins 51 = .ok (.if_icmp .ne 7, 3) := by decide +kernel
theorem dX1_joins_54 : decode cX1_joins 54 = .ok (.iconst 1, 1) := by decide +kernel
theorem dX1_joins_55 : decode cX1_joins 55 = .ok (.goto 4, 3) := by decide +kernel
theorem dX1_joins_58 : decode cX1_joins 58 = .ok (.iconst 0, 1) := by decide +kernel
theorem dX1_joins_59 : decode cX1_joins 59 = .ok (.ireturn, 1) := by decide +kernel
theorem dX1_joins_60 : decode cX1_joins 60 = .ok (.iload_n 1, 1) := by decide +kernel
theorem dX1_joins_61 : decode cX1_joins 61 = .ok (.bipush 16, 2) := by decide +kernel
theorem dX1_joins_63 : decode cX1_joins 63 = .ok (.if_icmp .eq 9, 3) := by decide +kernel
theorem dX1_joins_66 : decode cX1_joins 66 = .ok (.iload_n 1, 1) := by decide +kernel
theorem dX1_joins_67 : decode cX1_joins 67 = .ok (.bipush 17, 2) := by decide +kernel
theorem dX1_joins_69 : decode cX1_joins 69 = .ok (.if_icmp .ne 7, 3) := by decide +kernel
theorem dX1_joins_72 : decode cX1_joins 72 = .ok (.iconst 1, 1) := by decide +kernel
theorem dX1_joins_73 : decode cX1_joins 73 = .ok (.goto 4, 3) := by decide +kernel
theorem dX1_joins_76 : decode cX1_joins 76 = .ok (.iconst 0, 1) := by decide +kernel
theorem dX1_joins_77 : decode cX1_joins 77 = .ok (.ireturn, 1) := by decide +kernel
theorem dX1_joins_78 : decode cX1_joins 78 = .ok (.iload_n 1, 1) := by decide +kernel
theorem dX1_joins_79 : decode cX1_joins 79 = .ok (.bipush 13, 2) := by decide +kernel
theorem dX1_joins_81 : decode cX1_joins 81 = .ok (.if_icmp .eq 9, 3) := by decide +kernel
theorem dX1_joins_84 : decode cX1_joins 84 = .ok (.iload_n 1, 1) := by decide +kernel
theorem dX1_joins_85 : decode cX1_joins 85 = .ok (.bipush 14, 2) := by decide +kernel
theorem dX1_joins_87 : decode cX1_joins 87 = .ok (.if_icmp .ne 7, 3) := by decide +kernel
theorem dX1_joins_90 : decode cX1_joins 90 = .ok (.iconst 1, 1) := by decide +kernel
theorem dX1_joins_91 : decode cX1_joins 91 = .ok (.goto 4, 3) := by decide +kernel
theorem dX1_joins_94 : decode cX1_joins 94 = .ok (.iconst 0, 1) := by decide +kernel
theorem dX1_joins_95 : decode cX1_joins 95 = .ok (.ireturn, 1) := by decide +kernel
theorem dX1_joins_96 : decode cX1_joins 96 = .ok (.iload_n 1, 1) := by decide +kernel
theorem dX1_joins_97 : decode cX1_joins 97 = .ok (.bipush 15, 2) := by decide +kernel
theorem dX1_joins_99 : decode cX1_joins 99 = .ok (.if_icmp .ne 7, 3) := by decide +kernel
theorem dX1_joins_102 : decode cX1_joins 102 = .ok (.iconst 1, 1) := by decide +kernel
theorem dX1_joins_103 : decode cX1_joins 103 = .ok (.goto 4, 3) := by decide +kernel
theorem dX1_joins_106 : decode cX1_joins 106 = .ok (.iconst 0, 1) := by decide +kernel
theorem dX1_joins_107 : decode cX1_joins 107 = .ok (.ireturn, 1) := by decide +kernel
theorem dX1_joins_108 : decode cX1_joins 108 = .ok (.iconst 0, 1) := by decide +kernel
theorem dX1_joins_109 : decode cX1_joins 109 = .ok (.ireturn, 1) := by decide +kernel
theorem dX1_negated_0 : decode cX1_negated 0 = .ok (.iload_n 1, 1) := by decide +kernel
theorem dX1_negated_1 : decode cX1_negated 1 = .ok (.iconst 5, 1) := by decide +kernel
theorem dX1_negated_2 : decode cX1_negated 2 = .ok (.if_icmp .lt 5, 3) := by decide +kernel
theorem dX1_negated_5 : decode cX1_negated 5 = .ok (.iconst 0, 1) := by decide +kernel
theorem dX1_negated_6 : decode cX1_negated 6 = .ok (.ireturn, 1) := by decide +kernel
theorem dX1_negated_7 : decode cX1_negated 7 = .ok (.aload_n 0, 1) := by decide +kernel
theorem dX1_negated_8 : decode cX1_negated 8 = .ok (.dup, 1) := by decide +kernel
theorem dX1_negated_9 : decode cX1_negated 9 = .ok (.getfield 34, 3) := by decide +kernel
theorem dX1_negated_12 : decode cX1_negated 12 = .ok (.iconst 1, 1) := by decide +kernel
theorem dX1_negated_13 : decode cX1_negated 13 = .ok (.iadd, 1) := by decide +kernel
theorem dX1_negated_14 : decode cX1_negated 14 = .ok (.putfield 34, 3) := by decide +kernel
theorem dX1_negated_17 : decode cX1_negated 17 = .ok (.aload_n 0, 1) := by decide +kernel
theorem dX1_negated_18 : decode cX1_negated 18 = .ok (.iconst 2, 1) := by decide +kernel
theorem dX1_negated_19 : decode cX1_negated 19 = .ok (.iload_n 1, 1) := by decide +kernel
theorem dX1_negated_20 : decode cX1_negated 20 = .ok (.iconst 1, 1) := by decide +kernel
theorem dX1_negated_21 : decode cX1_negated 21 = .ok (.iadd, 1) := by decide +kernel
theorem dX1_negated_22 : decode cX1_negated 22 = .ok (.invokevirtual 131, 3) := by decide +kernel
theorem dX1_negated_25 : decode cX1_negated 25 = .ok (.ifCond .ne 5, 3) := by decide +kernel
theorem dX1_negated_28 : decode cX1_negated 28 = .ok (.iconst 0, 1) := by decide +kernel
theorem dX1_negated_29 : decode cX1_negated 29 = .ok (.ireturn, 1) := by decide +kernel
theorem dX1_negated_30 : decode cX1_negated 30 = .ok (.aload_n 0, 1) := by decide +kernel
theorem dX1_negated_31 : decode cX1_negated 31 = .ok (.bipush 9, 2) := by decide +kernel
theorem dX1_negated_33 : decode cX1_negated 33 = .ok (.iconst 0, 1) := by decide +kernel
theorem dX1_negated_34 : decode cX1_negated 34 = .ok (.invokevirtual 144, 3) := by decide +kernel
theorem dX1_negated_37 : decode cX1_negated 37 = .ok (.iconst 1, 1) := by decide +kernel
theorem dX1_negated_38 : decode cX1_negated 38 = .ok (.ireturn, 1) := by decide +kernel
theorem dX1_one_0 : decode cX1_one 0 = .ok (.aload_n 0, 1) := by decide +kernel
theorem dX1_one_1 : decode cX1_one 1 = .ok (.getfield 15, 3) := by decide +kernel
theorem dX1_one_4 : decode cX1_one 4 = .ok (.aload_n 0, 1) := by decide +kernel
theorem dX1_one_5 : decode cX1_one 5 = .ok (.getfield 34, 3) := by decide +kernel
theorem dX1_one_8 : decode cX1_one 8 = .ok (.iaload, 1) := by decide +kernel
theorem dX1_one_9 : decode cX1_one 9 = .ok (.istore_n 2, 1) := by decide +kernel
theorem dX1_one_10 : decode cX1_one 10 = .ok (.iload_n 2, 1) := by decide +kernel
theorem dX1_one_11 : decode cX1_one 11 = .ok (.iconst 2, 1) := by decide +kernel
theorem dX1_one_12 : decode cX1_one 12 = .ok (.if_icmp .eq 8, 3) := by decide +kernel
theorem dX1_one_15 : decode cX1_one 15 = .ok (.iload_n 2, 1) := by decide +kernel
theorem dX1_one_16 : decode cX1_one 16 = .ok (.iconst 3, 1) := by decide +kernel
theorem dX1_one_17 : decode cX1_one 17 = .ok (.if_icmp .ne 29, 3) := by decide +kernel
theorem dX1_one_20 : decode cX1_one 20 = .ok (.aload_n 0, 1) := by decide +kernel
theorem dX1_one_21 : decode cX1_one 21 = .ok (.iload_n 2, 1) := by decide +kernel
theorem dX1_one_22 : decode cX1_one 22 = .ok (.aload_n 0, 1) := by decide +kernel
theorem dX1_one_23 : decode cX1_one 23 = .ok (.getfield 18, 3) := by decide +kernel
theorem dX1_one_26 : decode cX1_one 26 = .ok (.aload_n 0, 1) := by decide +kernel
theorem dX1_one_27 : decode cX1_one 27 = .ok (.getfield 34, 3) := by decide +kernel
theorem dX1_one_30 : decode cX1_one 30 = .ok (.iaload, 1) := by decide +kernel
theorem dX1_one_31 : decode cX1_one 31 = .ok (.invokevirtual 144, 3) := by decide +kernel
theorem dX1_one_34 : decode cX1_one 34 = .ok (.aload_n 0, 1) := by decide +kernel
theorem dX1_one_35 : decode cX1_one 35 = .ok (.dup, 1) := by decide +kernel
theorem dX1_one_36 : decode cX1_one 36 = .ok (.getfield 34, 3) := by decide +kernel
theorem dX1_one_39 : decode cX1_one 39 = .ok (.iconst 1, 1) := by decide +kernel
theorem dX1_one_40 : decode cX1_one 40 = .ok (.iadd, 1) := by decide +kernel
theorem dX1_one_41 : decode cX1_one 41 = .ok (.putfield 34, 3) := by decide +kernel
theorem dX1_one_44 : decode cX1_one 44 = .ok (.iconst 1, 1) := by decide +kernel
theorem dX1_one_45 : decode cX1_one 45 = .ok (.ireturn, 1) := by decide +kernel
theorem dX1_one_46 : decode cX1_one 46 = .ok (.iload_n 1, 1) := by decide +kernel
theorem dX1_one_47 : decode cX1_one 47 = .ok (.iconst 5, 1) := by decide +kernel
theorem dX1_one_48 : decode cX1_one 48 = .ok (.if_icmp .lt 5, 3) := by decide +kernel
theorem dX1_one_51 : decode cX1_one 51 = .ok (.iconst 0, 1) := by decide +kernel
theorem dX1_one_52 : decode cX1_one 52 = .ok (.ireturn, 1) := by decide +kernel
theorem dX1_one_53 : decode cX1_one 53 = .ok (.iload_n 2, 1) := by decide +kernel
theorem dX1_one_54 : decode cX1_one 54 = .ok (.bipush 10, 2) := by decide +kernel
theorem dX1_one_56 : decode cX1_one 56 = .ok (.if_icmp .ne 39, 3) := by decide +kernel
theorem dX1_one_59 : decode cX1_one 59 = .ok (.aload_n 0, 1) := by decide +kernel
theorem dX1_one_60 : decode cX1_one 60 = .ok (.dup, 1) := by decide +kernel
theorem dX1_one_61 : decode cX1_one 61 = .ok (.getfield 34, 3) := by decide +kernel
theorem dX1_one_64 : decode cX1_one 64 = .ok (.iconst 1, 1) := by decide +kernel
theorem dX1_one_65 : decode cX1_one 65 = .ok (.iadd, 1) := by decide +kernel
theorem dX1_one_66 : decode cX1_one 66 = .ok (.putfield 34, 3) := by decide +kernel
theorem dX1_one_69 : decode cX1_one 69 = .ok (.aload_n 0, 1) := by decide +kernel
theorem dX1_one_70 : decode cX1_one 70 = .ok (.iconst 0, 1) := by decide +kernel
theorem dX1_one_71 : decode cX1_one 71 = .ok (.iload_n 1, 1) := by decide +kernel
theorem dX1_one_72 : decode cX1_one 72 = .ok (.iconst 1, 1) := by decide +kernel
theorem dX1_one_73 : decode cX1_one 73 = .ok (.iadd, 1) := by decide +kernel
theorem dX1_one_74 : decode cX1_one 74 = .ok (.invokevirtual 131, 3) := by decide +kernel
theorem dX1_one_77 : decode cX1_one 77 = .ok (.ifCond .eq 16, 3) := by decide +kernel
theorem dX1_one_80 : decode cX1_one 80 = .ok (.aload_n 0, 1) := by decide +kernel
theorem dX1_one_81 : decode cX1_one 81 = .ok (.bipush 11, 2) := by decide +kernel
theorem dX1_one_83 : decode cX1_one 83 = .ok (.invokevirtual 128, 3) := by decide +kernel
theorem dX1_one_86 : decode cX1_one 86 = .ok (.ifCond .eq 7, 3) := by decide +kernel
theorem dX1_one_89 : decode cX1_one 89 = .ok (.iconst 1, 1) := by decide +kernel
theorem dX1_one_90 : decode cX1_one 90 = .ok (.goto 4, 3) := by decide +kernel
theorem dX1_one_93 : decode cX1_one 93 = .ok (.iconst 0, 1) := by decide +kernel
theorem dX1_one_94 : decode cX1_one 94 = .ok (.ireturn, 1) := by decide +kernel
theorem dX1_one_95 : decode cX1_one 95 = .ok (.iload_n 2, 1) := by decide +kernel
theorem dX1_one_96 : decode cX1_one 96 = .ok (.bipush 14, 2) := by decide +kernel
theorem dX1_one_98 : decode cX1_one 98 = .ok (.if_icmp .eq 5, 3) := by decide +kernel
theorem dX1_one_101 : decode cX1_one 101 = .ok (.iconst 0, 1) := by decide +kernel
theorem dX1_one_102 : decode cX1_one 102 = .ok (.ireturn, 1) := by decide +kernel
theorem dX1_one_103 : decode cX1_one 103 = .ok (.aload_n 0, 1) := by decide +kernel
theorem dX1_one_104 : decode cX1_one 104 = .ok (.dup, 1) := by decide +kernel
theorem dX1_one_105 : decode cX1_one 105 = .ok (.getfield 34, 3) := by decide +kernel
theorem dX1_one_108 : decode cX1_one 108 = .ok (.iconst 1, 1) := by decide +kernel
theorem dX1_one_109 : decode cX1_one 109 = .ok (.iadd, 1) := by decide +kernel
theorem dX1_one_110 : decode cX1_one 110 = .ok (.putfield 34, 3) := by decide +kernel
theorem dX1_one_113 : decode cX1_one 113 = .ok (.aload_n 0, 1) := by decide +kernel
theorem dX1_one_114 : decode cX1_one 114 = .ok (.iload_n 1, 1) := by decide +kernel
theorem dX1_one_115 : decode cX1_one 115 = .ok (.iconst 1, 1) := by decide +kernel
theorem dX1_one_116 : decode cX1_one 116 = .ok (.iadd, 1) := by decide +kernel
theorem dX1_one_117 : decode cX1_one 117 = .ok (.invokevirtual 135, 3) := by decide +kernel
theorem dX1_one_120 : decode cX1_one 120 = .ok (.ifCond .ne 5, 3) := by decide +kernel
theorem dX1_one_123 : decode cX1_one 123 = .ok (.iconst 0, 1) := by decide +kernel
theorem dX1_one_124 : decode cX1_one 124 = .ok (.ireturn, 1) := by decide +kernel
theorem dX1_one_125 : decode cX1_one 125 = .ok (.aload_n 0, 1) := by decide +kernel
theorem dX1_one_126 : decode cX1_one 126 = .ok (.bipush 18, 2) := by decide +kernel
theorem dX1_one_128 : decode cX1_one 128 = .ok (.iconst 0, 1) := by decide +kernel
theorem dX1_one_129 : decode cX1_one 129 = .ok (.invokevirtual 144, 3) := by decide +kernel
theorem dX1_one_132 : decode cX1_one 132 = .ok (.iconst 1, 1) := by decide +kernel
theorem dX1_one_133 : decode cX1_one 133 = .ok (.ireturn, 1) := by decide +kernel
theorem dX2_init_0 : decode cX2_init 0 = .ok (.aload_n 0, 1) := by decide +kernel
theorem dX2_init_1 : decode cX2_init 1 = .ok (.invokespecial 3, 3) := by decide +kernel
theorem dX2_init_4 : decode cX2_init 4 = .ok (.aload_n 0, 1) := by decide +kernel
theorem dX2_init_5 : decode cX2_init 5 = .ok (.bipush 40, 2) := by decide +kernel
theorem dX2_init_7 : decode cX2_init 7 = .ok (.newarray .int, 2) := by decide +kernel
theorem dX2_init_9 : decode cX2_init 9 = .ok (.putfield 9, 3) := by decide +kernel
theorem dX2_init_12 : decode cX2_init 12 = .ok (.aload_n 0, 1) := by decide +kernel
theorem dX2_init_13 : decode cX2_init 13 = .ok (.iconst (-1), 1) := by decide +kernel
theorem dX2_init_14 : decode cX2_init 14 = .ok (.putfield 15, 3) := by decide +kernel
theorem dX2_init_17 : decode cX2_init 17 = .ok (.return_, 1) := by decide +kernel
theorem dX2_isMissing_0 : decode cX2_isMissing 0 = .ok (.aload_n 0, 1) := by decide +kernel
theorem dX2_isMissing_1 : decode cX2_isMissing 1 = .ok (.getfield 15, 3) := by decide +kernel
theorem dX2_isMissing_4 : decode cX2_isMissing 4 = .ok (.iconst (-1), 1) := by decide +kernel
theorem dX2_isMissing_5 : decode cX2_isMissing 5 = .ok (.if_icmp .ne 7, 3) := by decide +kernel
theorem dX2_isMissing_8 : decode cX2_isMissing 8 = .ok (.iconst 1, 1) := by decide +kernel
theorem dX2_isMissing_9 : decode cX2_isMissing 9 = .ok (.goto 4, 3) := by decide +kernel
theorem dX2_isMissing_12 : decode cX2_isMissing 12 = .ok (.iconst 0, 1) := by decide +kernel
theorem dX2_isMissing_13 : decode cX2_isMissing 13 = .ok (.ireturn, 1) := by decide +kernel
theorem dX2_become_0 : decode cX2_become 0 = .ok (.aload_n 0, 1) := by decide +kernel
theorem dX2_become_1 : decode cX2_become 1 = .ok (.iload_n 1, 1) := by decide +kernel
theorem dX2_become_2 : decode cX2_become 2 = .ok (.putfield 15, 3) := by decide +kernel
theorem dX2_become_5 : decode cX2_become 5 = .ok (.aload_n 0, 1) := by decide +kernel
theorem dX2_become_6 : decode cX2_become 6 = .ok (.iconst 0, 1) := by decide +kernel
theorem dX2_become_7 : decode cX2_become 7 = .ok (.iload_n 2, 1) := by decide +kernel
theorem dX2_become_8 : decode cX2_become 8 = .ok (.bipush 40, 2) := by decide +kernel
theorem dX2_become_10 : decode cX2_become 10 = .ok (.invokestatic 19, 3) := by decide +kernel
theorem dX2_become_13 : decode cX2_become 13 = .ok (.invokestatic 25, 3) := by decide +kernel
theorem dX2_become_16 : decode cX2_become 16 = .ok (.putfield 28, 3) := by decide +kernel
theorem dX2_become_19 : decode cX2_become 19 = .ok (.aload_n 0, 1) := by decide +kernel
theorem dX2_become_20 : decode cX2_become 20 = .ok (.getfield 9, 3) := by decide +kernel
theorem dX2_become_23 : decode cX2_become 23 = .ok (.iconst 0, 1) := by decide +kernel
theorem dX2_become_24 : decode cX2_become 24 = .ok (.invokestatic 31, 3) := by decide +kernel
theorem dX2_become_27 : decode cX2_become 27 = .ok (.return_, 1) := by decide +kernel
theorem dX2_hasItem_0 : decode cX2_hasItem 0 = .ok (.iload_n 1, 1) := by decide +kernel
theorem dX2_hasItem_1 : decode cX2_hasItem 1 = .ok (.ifCond .lt 15, 3) := by decide +kernel
theorem dX2_hasItem_4 : decode cX2_hasItem 4 = .ok (.iload_n 1, 1) := by decide +kernel
theorem dX2_hasItem_5 : decode cX2_hasItem 5 = .ok (.aload_n 0, 1) := by decide +kernel
theorem dX2_hasItem_6 : decode cX2_hasItem 6 = .ok (.getfield 28, 3) := by decide +kernel
theorem dX2_hasItem_9 : decode cX2_hasItem 9 = .ok (.if_icmp .ge 7, 3) := by decide +kernel
theorem dX2_hasItem_12 : decode cX2_hasItem 12 = .ok (.iconst 1, 1) := by decide +kernel
theorem dX2_hasItem_13 : decode cX2_hasItem 13 = .ok (.goto 4, 3) := by decide +kernel
theorem dX2_hasItem_16 : decode cX2_hasItem 16 = .ok (.iconst 0, 1) := by decide +kernel
theorem dX2_hasItem_17 : decode cX2_hasItem 17 = .ok (.ireturn, 1) := by decide +kernel
theorem dX2_hasRange_0 : decode cX2_hasRange 0 = .ok (.iload_n 1, 1) := by decide +kernel
theorem dX2_hasRange_1 : decode cX2_hasRange 1 = .ok (.ifCond .lt 29, 3) := by decide +kernel
theorem dX2_hasRange_4 : decode cX2_hasRange 4 = .ok (.iload_n 2, 1) := by decide +kernel
theorem dX2_hasRange_5 : decode cX2_hasRange 5 = .ok (.ifCond .lt 25, 3) := by decide +kernel
theorem dX2_hasRange_8 : decode cX2_hasRange 8 = .ok (.iload_n 1, 1) := by decide +kernel
theorem dX2_hasRange_9 : decode cX2_hasRange 9 = .ok (.aload_n 0, 1) := by decide +kernel
theorem dX2_hasRange_10 : decode cX2_hasRange 10 = .ok (.getfield 28, 3) := by decide +kernel
theorem dX2_hasRange_13 : decode cX2_hasRange 13 = .ok (.if_icmp .gt 17, 3) := by decide +kernel
theorem dX2_hasRange_16 : decode cX2_hasRange 16 = .ok (.iload_n 2, 1) := by decide +kernel
theorem dX2_hasRange_17 : decode cX2_hasRange 17 = .ok (.aload_n 0, 1) := by decide +kernel
theorem dX2_hasRange_18 : decode cX2_hasRange 18 = .ok (.getfield 28, 3) := by decide +kernel
theorem dX2_hasRange_21 : decode cX2_hasRange 21 = .ok (.iload_n 1, 1) := by decide +kernel
theorem dX2_hasRange_22 : decode cX2_hasRange 22 = .ok (.isub, 1) := by decide +kernel
theorem dX2_hasRange_23 : decode cX2_hasRange 23 = .ok (.if_icmp .gt 7, 3) := by decide +kernel
theorem dX2_hasRange_26 : decode cX2_hasRange 26 = .ok (.iconst 1, 1) := by decide +kernel
theorem dX2_hasRange_27 : decode cX2_hasRange 27 = .ok (.goto 4, 3) := by decide +kernel
theorem dX2_hasRange_30 : decode cX2_hasRange 30 = .ok (.iconst 0, 1) := by decide +kernel
theorem dX2_hasRange_31 : decode cX2_hasRange 31 = .ok (.ireturn, 1) := by decide +kernel
theorem dX2_put_0 : decode cX2_put 0 = .ok (.aload_n 0, 1) := by decide +kernel
theorem dX2_put_1 : decode cX2_put 1 = .ok (.iload_n 1, 1) := by decide +kernel
theorem dX2_put_2 : decode cX2_put 2 = .ok (.invokevirtual 37, 3) := by decide +kernel
theorem dX2_put_5 : decode cX2_put 5 = .ok (.ifCond .ne 4, 3) := by decide +kernel
theorem dX2_put_8 : decode cX2_put 8 = .ok (.return_, 1) := by decide +kernel
theorem dX2_put_9 : decode cX2_put 9 = .ok (.aload_n 0, 1) := by decide +kernel
theorem dX2_put_10 : decode cX2_put 10 = .ok (.getfield 15, 3) := by decide +kernel
theorem dX2_put_13 : decode cX2_put 13 = .ok (.ifCond .ne 14, 3) := by decide +kernel
theorem dX2_put_16 : decode cX2_put 16 = .ok (.aload_n 0, 1) := by decide +kernel
theorem dX2_put_17 : decode cX2_put 17 = .ok (.getfield 9, 3) := by decide +kernel
theorem dX2_put_20 : decode cX2_put 20 = .ok (.iload_n 1, 1) := by decide +kernel
theorem dX2_put_21 : decode cX2_put 21 = .ok (.iload_n 2, 1) := by decide +kernel
theorem dX2_put_22 : decode cX2_put 22 = .ok (.i2b, 1) := by decide +kernel
theorem dX2_put_23 : decode cX2_put 23 = .ok (.iastore, 1) := by decide +kernel
theorem dX2_put_24 : decode cX2_put 24 = .ok (.goto 29, 3) := by decide +kernel
theorem dX2_put_27 : decode cX2_put 27 = .ok (.aload_n 0, 1) := by decide +kernel
theorem dX2_put_28 : decode cX2_put 28 = .ok (.getfield 15, 3) := by decide +kernel
theorem dX2_put_31 : decode cX2_put 31 = .ok (.iconst 1, 1) := by decide +kernel
theorem dX2_put_32 : decode cX2_put 32 = .ok (.if_icmp .ne 14, 3) := by decide +kernel
theorem dX2_put_35 : decode cX2_put 35 = .ok (.aload_n 0, 1) := by decide +kernel
theorem dX2_put_36 : decode cX2_put 36 = .ok (.getfield 9, 3) := by decide +kernel
theorem dX2_put_39 : decode cX2_put 39 = .ok (.iload_n 1, 1) := by decide +kernel
theorem dX2_put_40 : decode cX2_put 40 = .ok (.iload_n 2, 1) := by decide +kernel
theorem dX2_put_41 : decode cX2_put 41 = .ok (.i2s, 1) := by decide +kernel
theorem dX2_put_42 : decode cX2_put 42 = .ok (.iastore, 1) := by decide +kernel
theorem dX2_put_43 : decode cX2_put 43 = .ok (.goto 10, 3) := by decide +kernel
theorem dX2_put_46 : decode cX2_put 46 = .ok (.aload_n 0, 1) := by decide +kernel
theorem dX2_put_47 : decode cX2_put 47 = .ok (.getfield 9, 3) := by decide +kernel
theorem dX2_put_50 : decode cX2_put 50 = .ok (.iload_n 1, 1) := by decide +kernel
theorem dX2_put_51 : decode cX2_put 51 = .ok (.iload_n 2, 1) := by decide +kernel
theorem dX2_put_52 : decode cX2_put 52 = .ok (.iastore, 1) := by decide +kernel
theorem dX2_put_53 : decode cX2_put 53 = .ok (.return_, 1) := by decide +kernel
theorem dX3_init_0 : decode cX3_init 0 = .ok (.aload_n 0, 1) := by decide +kernel
theorem dX3_init_1 : decode cX3_init 1 = .ok (.invokespecial 3, 3) := by decide +kernel
theorem dX3_init_4 : decode cX3_init 4 = .ok (.aload_n 0, 1) := by decide +kernel
theorem dX3_init_5 : decode cX3_init 5 = .ok (.bipush 6, 2) := by decide +kernel
theorem dX3_init_7 : decode cX3_init 7 = .ok (.anewarray 9, 3) := by decide +kernel
theorem dX3_init_10 : decode cX3_init 10 = .ok (.putfield 11, 3) := by decide +kernel
theorem dX3_init_13 : decode cX3_init 13 = .ok (.aload_n 0, 1) := by decide +kernel
theorem dX3_init_14 : decode cX3_init 14 = .ok (.sipush 160, 3) := by decide +kernel
theorem dX3_init_17 : decode cX3_init 17 = .ok (.newarray .int, 2) := by decide +kernel
theorem dX3_init_19 : decode cX3_init 19 = .ok (.putfield 17, 3) := by decide +kernel
theorem dX3_init_22 : decode cX3_init 22 = .ok (.return_, 1) := by decide +kernel
theorem dX3_isFull_0 : decode cX3_isFull 0 = .ok (.aload_n 0, 1) := by decide +kernel
theorem dX3_isFull_1 : decode cX3_isFull 1 = .ok (.getfield 21, 3) := by decide +kernel
theorem dX3_isFull_4 : decode cX3_isFull 4 = .ok (.bipush 6, 2) := by decide +kernel
theorem dX3_isFull_6 : decode cX3_isFull 6 = .ok (.if_icmp .lt 7, 3) := by decide +kernel
theorem dX3_isFull_9 : decode cX3_isFull 9 = .ok (.iconst 1, 1) := by decide +kernel
theorem dX3_isFull_10 : decode cX3_isFull 10 = .ok (.goto 4, 3) := by decide +kernel
theorem dX3_isFull_13 : decode cX3_isFull 13 = .ok (.iconst 0, 1) := by decide +kernel
theorem dX3_isFull_14 : decode cX3_isFull 14 = .ok (.ireturn, 1) := by decide +kernel
theorem dX3_keep_0 : decode cX3_keep 0 = .ok (.aload_n 0, 1) := by decide +kernel
theorem dX3_keep_1 : decode cX3_keep 1 = .ok (.invokevirtual 25, 3) := by decide +kernel
theorem dX3_keep_4 : decode cX3_keep 4 = .ok (.ifCond .ne 7, 3) := by decide +kernel
theorem dX3_keep_7 : decode cX3_keep 7 = .ok (.aload_n 1, 1) := by decide +kernel
theorem dX3_keep_8 : decode cX3_keep 8 = .ok (.ifnonnull 6, 3) := by decide +kernel
theorem dX3_keep_11 : decode cX3_keep 11 = .ok (.bipush (-4), 2) := by decide +kernel
theorem dX3_keep_13 : decode cX3_keep 13 = .ok (.ireturn, 1) := by decide +kernel
theorem dX3_keep_14 : decode cX3_keep 14 = .ok (.aload_n 0, 1) := by decide +kernel
theorem dX3_keep_15 : decode cX3_keep 15 = .ok (.getfield 11, 3) := by decide +kernel
theorem dX3_keep_18 : decode cX3_keep 18 = .ok (.aload_n 0, 1) := by decide +kernel
theorem dX3_keep_19 : decode cX3_keep 19 = .ok (.getfield 21, 3) := by decide +kernel
theorem dX3_keep_22 : decode cX3_keep 22 = .ok (.aload_n 1, 1) := by decide +kernel
theorem dX3_keep_23 : decode cX3_keep 23 = .ok (.aastore, 1) := by decide +kernel
theorem dX3_keep_24 : decode cX3_keep 24 = .ok (.aload_n 0, 1) := by decide +kernel
theorem dX3_keep_25 : decode cX3_keep 25 = .ok (.dup, 1) := by decide +kernel
theorem dX3_keep_26 : decode cX3_keep 26 = .ok (.getfield 21, 3) := by decide +kernel
theorem dX3_keep_29 : decode cX3_keep 29 = .ok (.iconst 1, 1) := by decide +kernel
theorem dX3_keep_30 : decode cX3_keep 30 = .ok (.iadd, 1) := by decide +kernel
theorem dX3_keep_31 : decode cX3_keep 31 = .ok (.putfield 21, 3) := by decide +kernel
theorem dX3_keep_34 : decode cX3_keep 34 = .ok (.aload_n 0, 1) := by decide +kernel
theorem dX3_keep_35 : decode cX3_keep 35 = .ok (.getfield 21, 3) := by decide +kernel
theorem dX3_keep_38 : decode cX3_keep 38 = .ok (.iconst 1, 1) := by decide +kernel
theorem dX3_keep_39 : decode cX3_keep 39 = .ok (.isub, 1) := by decide +kernel
theorem dX3_keep_40 : decode cX3_keep 40 = .ok (.ireturn, 1) := by decide +kernel
theorem dX4_init_0 : decode cX4_init 0 = .ok (.aload_n 0, 1) := by decide +kernel
theorem dX4_init_1 : decode cX4_init 1 = .ok (.invokespecial 3, 3) := by decide +kernel
theorem dX4_init_4 : decode cX4_init 4 = .ok (.aload_n 0, 1) := by decide +kernel
theorem dX4_init_5 : decode cX4_init 5 = .ok (.aload_n 1, 1) := by decide +kernel
theorem dX4_init_6 : decode cX4_init 6 = .ok (.putfield 9, 3) := by decide +kernel
theorem dX4_init_9 : decode cX4_init 9 = .ok (.aload_n 0, 1) := by decide +kernel
theorem dX4_init_10 : decode cX4_init 10 = .ok (.iload_n 2, 1) := by decide +kernel
theorem dX4_init_11 : decode cX4_init 11 = .ok (.putfield 15, 3) := by decide +kernel
theorem dX4_init_14 : decode cX4_init 14 = .ok (.aload_n 0, 1) := by decide +kernel
theorem dX4_init_15 : decode cX4_init 15 = .ok (.iload_n 3, 1) := by decide +kernel
theorem dX4_init_16 : decode cX4_init 16 = .ok (.putfield 19, 3) := by decide +kernel
theorem dX4_init_19 : decode cX4_init 19 = .ok (.return_, 1) := by decide +kernel
theorem dX4_worth_0 : decode cX4_worth 0 = .ok (.iload_n 1, 1) := by decide +kernel
theorem dX4_worth_1 : decode cX4_worth 1 = .ok (.ifCond .ne 7, 3) := by decide +kernel
theorem dX4_worth_4 : decode cX4_worth 4 = .ok (.iconst 0, 1) := by decide +kernel
theorem dX4_worth_5 : decode cX4_worth 5 = .ok (.goto 19, 3) := by decide +kernel
theorem dX4_worth_8 : decode cX4_worth 8 = .ok (.iload_n 1, 1) := by decide +kernel
theorem dX4_worth_9 : decode cX4_worth 9 = .ok (.iconst 1, 1) := by decide +kernel
theorem dX4_worth_10 : decode cX4_worth 10 = .ok (.if_icmp .ne 10, 3) := by decide +kernel
theorem dX4_worth_13 : decode cX4_worth 13 = .ok (.aload_n 0, 1) := by decide +kernel
theorem dX4_worth_14 : decode cX4_worth 14 = .ok (.getfield 15, 3) := by decide +kernel
theorem dX4_worth_17 : decode cX4_worth 17 = .ok (.goto 7, 3) := by decide +kernel
theorem dX4_worth_20 : decode cX4_worth 20 = .ok (.aload_n 0, 1) := by decide +kernel
theorem dX4_worth_21 : decode cX4_worth 21 = .ok (.getfield 19, 3) := by decide +kernel
theorem dX4_worth_24 : decode cX4_worth 24 = .ok (.istore 4, 2) := by decide +kernel
theorem dX4_worth_26 : decode cX4_worth 26 = .ok (.iload_n 1, 1) := by decide +kernel
theorem dX4_worth_27 : decode cX4_worth 27 = .ok (.ifCond .ne 10, 3) := by decide +kernel
theorem dX4_worth_30 : decode cX4_worth 30 = .ok (.aload_n 0, 1) := by decide +kernel
theorem dX4_worth_31 : decode cX4_worth 31 = .ok (.getfield 15, 3) := by decide +kernel
theorem dX4_worth_34 : decode cX4_worth 34 = .ok (.goto 20, 3) := by decide +kernel
theorem dX4_worth_37 : decode cX4_worth 37 = .ok (.iload_n 1, 1) := by decide +kernel
theorem dX4_worth_38 : decode cX4_worth 38 = .ok (.iconst 1, 1) := by decide +kernel
theorem dX4_worth_39 : decode cX4_worth 39 = .ok (.if_icmp .ne 10, 3) := by decide +kernel
theorem dX4_worth_42 : decode cX4_worth 42 = .ok (.aload_n 0, 1) := by decide +kernel
theorem dX4_worth_43 : decode cX4_worth 43 = .ok (.getfield 19, 3) := by decide +kernel
theorem dX4_worth_46 : decode cX4_worth 46 = .ok (.goto 8, 3) := by decide +kernel
theorem dX4_worth_49 : decode cX4_worth 49 = .ok (.aload_n 0, 1) := by decide +kernel
theorem dX4_worth_50 : decode cX4_worth 50 = .ok (.getfield 9, 3) := by decide +kernel
theorem dX4_worth_53 : decode cX4_worth 53 = .ok (.arraylength, 1) := by decide +kernel
theorem dX4_worth_54 : decode cX4_worth 54 = .ok (.istore 5, 2) := by decide +kernel
theorem dX4_worth_56 : decode cX4_worth 56 = .ok (.iconst 0, 1) := by decide +kernel
theorem dX4_worth_57 : decode cX4_worth 57 = .ok (.istore 6, 2) := by decide +kernel
theorem dX4_worth_59 : decode cX4_worth 59 = .ok (.iload 4, 2) := by decide +kernel
theorem dX4_worth_61 : decode cX4_worth 61 = .ok (.istore 7, 2) := by decide +kernel
theorem dX4_worth_63 : decode cX4_worth 63 = .ok (.iload 7, 2) := by decide +kernel
theorem dX4_worth_65 : decode cX4_worth 65 = .ok (.iload 5, 2) := by decide +kernel
theorem dX4_worth_67 : decode cX4_worth 67 = .ok (.if_icmp .ge 196, 3) := by decide +kernel
theorem dX4_worth_70 : decode cX4_worth 70 = .ok (.iload 7, 2) := by decide +kernel
theorem dX4_worth_72 : decode cX4_worth 72 = .ok (.aload_n 0, 1) := by decide +kernel
theorem dX4_worth_73 : decode cX4_worth 73 = .ok (.getfield 9, 3) := by decide +kernel
theorem dX4_worth_76 : decode cX4_worth 76 = .ok (.arraylength, 1) := by decide +kernel
theorem dX4_worth_77 : decode cX4_worth 77 = .ok (.if_icmp .ge 186, 3) := by decide +kernel
theorem dX4_worth_80 : decode cX4_worth 80 = .ok (.aload_n 0, 1) := by decide +kernel
theorem dX4_worth_81 : decode cX4_worth 81 = .ok (.getfield 9, 3) := by decide +kernel
theorem dX4_worth_84 : decode cX4_worth 84 = .ok (.iload 7, 2) := by decide +kernel
theorem dX4_worth_86 : decode cX4_worth 86 = .ok (.iaload, 1) := by decide +kernel
theorem dX4_worth_87 : decode cX4_worth 87 = .ok (.bipush 16, 2) := by decide +kernel
theorem dX4_worth_89 : decode cX4_worth 89 = .ok (.iushr, 1) := by decide +kernel
theorem dX4_worth_90 : decode cX4_worth 90 = .ok (.istore 8, 2) := by decide +kernel
theorem dX4_worth_92 : decode cX4_worth 92 = .ok (.aload_n 0, 1) := by decide +kernel
theorem dX4_worth_93 : decode cX4_worth 93 = .ok (.getfield 9, 3) := by decide +kernel
theorem dX4_worth_96 : decode cX4_worth 96 = .ok (.iload 7, 2) := by decide +kernel
theorem dX4_worth_98 : decode cX4_worth 98 = .ok (.iaload, 1) := by decide +kernel
theorem dX4_worth_99 : decode cX4_worth 99 = .ok (.ldc 22, 2) := by decide +kernel
theorem dX4_worth_101 : decode cX4_worth 101 = .ok (.iand, 1) := by decide +kernel
theorem dX4_worth_102 : decode cX4_worth 102 = .ok (.istore 9, 2) := by decide +kernel
theorem dX4_worth_104 : decode cX4_worth 104 = .ok (.iload 8, 2) := by decide +kernel
theorem dX4_worth_106 : decode cX4_worth 106 = .ok (.iconst 2, 1) := by decide +kernel
theorem dX4_worth_107 : decode cX4_worth 107 = .ok (.if_icmp .eq 9, 3) := by decide +kernel
theorem dX4_worth_110 : decode cX4_worth 110 = .ok (.iload 8, 2) := by decide +kernel
theorem dX4_worth_112 : decode cX4_worth 112 = .ok (.iconst 3, 1) := by decide +kernel
theorem dX4_worth_113 : decode cX4_worth 113 = .ok (.if_icmp .ne 50, 3) := by decide +kernel
theorem dX4_worth_116 : decode cX4_worth 116 = .ok (.iload 6, 2) := by decide +kernel
theorem dX4_worth_118 : decode cX4_worth 118 = .ok (.aload_n 3, 1) := by decide +kernel
theorem dX4_worth_119 : decode cX4_worth 119 = .ok (.arraylength, 1) := by decide +kernel
theorem dX4_worth_120 : decode cX4_worth 120 = .ok (.if_icmp .ge 16, 3) := by decide +kernel
theorem dX4_worth_123 : decode cX4_worth 123 = .ok (.iload 8, 2) := by decide +kernel
theorem dX4_worth_125 : decode cX4_worth 125 = .ok (.iconst 3, 1) := by decide +kernel
theorem dX4_worth_126 : decode cX4_worth 126 = .ok (.if_icmp .ne 12, 3) := by decide +kernel
theorem dX4_worth_129 : decode cX4_worth 129 = .ok (.iload 9, 2) := by decide +kernel
theorem dX4_worth_131 : decode cX4_worth 131 = .ok (.aload_n 2, 1) := by decide +kernel
theorem dX4_worth_132 : decode cX4_worth 132 = .ok (.arraylength, 1) := by decide +kernel
theorem dX4_worth_133 : decode cX4_worth 133 = .ok (.if_icmp .lt 5, 3) := by decide +kernel
theorem dX4_worth_136 : decode cX4_worth 136 = .ok (.iconst 0, 1) := by decide +kernel
theorem dX4_worth_137 : decode cX4_worth 137 = .ok (.ireturn, 1) := by decide +kernel
theorem dX4_worth_138 : decode cX4_worth 138 = .ok (.aload_n 3, 1) := by decide +kernel
theorem dX4_worth_139 : decode cX4_worth 139 = .ok (.iload 6, 2) := by decide +kernel
theorem dX4_worth_141 : decode cX4_worth 141 = .ok (.iload 8, 2) := by decide +kernel
theorem dX4_worth_143 : decode cX4_worth 143 = .ok (.iconst 2, 1) := by decide +kernel
theorem dX4_worth_144 : decode cX4_worth 144 = .ok (.if_icmp .ne 8, 3) := by decide +kernel
theorem dX4_worth_147 : decode cX4_worth 147 = .ok (.iload 9, 2) := by decide +kernel
theorem dX4_worth_149 : decode cX4_worth 149 = .ok (.goto 7, 3) := by decide +kernel
theorem dX4_worth_152 : decode cX4_worth 152 = .ok (.aload_n 2, 1) := by decide +kernel
theorem dX4_worth_153 : decode cX4_worth 153 = .ok (.iload 9, 2) := by decide +kernel
theorem dX4_worth_155 : decode cX4_worth 155 = .ok (.iaload, 1) := by decide +kernel
theorem dX4_worth_156 : decode cX4_worth 156 = .ok (.iastore, 1) := by decide +kernel
theorem dX4_worth_157 : decode cX4_worth 157 = .ok (.iinc 6 1, 3) := by decide +kernel
theorem dX4_worth_160 : decode cX4_worth 160 = .ok (.goto 97, 3) := by decide +kernel
theorem dX4_worth_163 : decode cX4_worth 163 = .ok (.iload 8, 2) := by decide +kernel
theorem dX4_worth_165 : decode cX4_worth 165 = .ok (.bipush 9, 2) := by decide +kernel
theorem dX4_worth_167 : decode cX4_worth 167 = .ok (.if_icmp .eq 10, 3) := by decide +kernel
theorem dX4_worth_170 : decode cX4_worth 170 = .ok (.iload 8, 2) := by decide +kernel
theorem dX4_worth_172 : decode cX4_worth 172 = .ok (.bipush 18, 2) := by decide +kernel
theorem dX4_worth_174 : decode cX4_worth 174 = .ok (.if_icmp .ne 51, 3) := by decide +kernel
theorem dX4_worth_177 : decode cX4_worth 177 = .ok (.iload 6, 2) := by decide +kernel
theorem dX4_worth_179 : decode cX4_worth 179 = .ok (.iconst 1, 1) := by decide +kernel
theorem dX4_worth_180 : decode cX4_worth 180 = .ok (.if_icmp .ge 5, 3) := by decide +kernel
theorem dX4_worth_183 : decode cX4_worth 183 = .ok (.iconst 0, 1) := by decide +kernel
theorem dX4_worth_184 : decode cX4_worth 184 = .ok (.ireturn, 1) := by decide +kernel
theorem dX4_worth_185 : decode cX4_worth 185 = .ok (.aload_n 3, 1) := by decide +kernel
theorem dX4_worth_186 : decode cX4_worth 186 = .ok (.iload 6, 2) := by decide +kernel
theorem dX4_worth_188 : decode cX4_worth 188 = .ok (.iconst 1, 1) := by decide +kernel
theorem dX4_worth_189 : decode cX4_worth 189 = .ok (.isub, 1) := by decide +kernel
theorem dX4_worth_190 : decode cX4_worth 190 = .ok (.iload 8, 2) := by decide +kernel
theorem dX4_worth_192 : decode cX4_worth 192 = .ok (.bipush 18, 2) := by decide +kernel
theorem dX4_worth_194 : decode cX4_worth 194 = .ok (.if_icmp .ne 13, 3) := by decide +kernel
theorem dX4_worth_197 : decode cX4_worth 197 = .ok (.aload_n 3, 1) := by decide +kernel
theorem dX4_worth_198 : decode cX4_worth 198 = .ok (.iload 6, 2) := by decide +kernel
theorem dX4_worth_200 : decode cX4_worth 200 = .ok (.iconst 1, 1) := by decide +kernel
theorem dX4_worth_201 : decode cX4_worth 201 = .ok (.isub, 1) := by decide +kernel
theorem dX4_worth_202 : decode cX4_worth 202 = .ok (.iaload, 1) := by decide +kernel
theorem dX4_worth_203 : decode cX4_worth 203 = .ok (.ineg, 1) := by decide +kernel
theorem dX4_worth_204 : decode cX4_worth 204 = .ok (.goto 17, 3) := by decide +kernel
theorem dX4_worth_207 : decode cX4_worth 207 = .ok (.aload_n 3, 1) := by decide +kernel
theorem dX4_worth_208 : decode cX4_worth 208 = .ok (.iload 6, 2) := by decide +kernel
theorem dX4_worth_210 : decode cX4_worth 210 = .ok (.iconst 1, 1) := by decide +kernel
theorem dX4_worth_211 : decode cX4_worth 211 = .ok (.isub, 1) := by decide +kernel
theorem dX4_worth_212 : decode cX4_worth 212 = .ok (.iaload, 1) := by decide +kernel
theorem dX4_worth_213 : decode cX4_worth 213 = .ok (.ifCond .ne 7, 3) := by decide +kernel
theorem dX4_worth_216 : decode cX4_worth 216 = .ok (.iconst 1, 1) := by decide +kernel
theorem dX4_worth_217 : decode cX4_worth 217 = .ok (.goto 4, 3) := by decide +kernel
theorem dX4_worth_220 : decode cX4_worth 220 = .ok (.iconst 0, 1) := by decide +kernel
theorem dX4_worth_221 : decode cX4_worth 221 = .ok (.iastore, 1) := by decide +kernel
theorem dX4_worth_222 : decode cX4_worth 222 = .ok (.goto 35, 3) := by decide +kernel
theorem dX4_worth_225 : decode cX4_worth 225 = .ok (.iload 6, 2) := by decide +kernel
theorem dX4_worth_227 : decode cX4_worth 227 = .ok (.iconst 2, 1) := by decide +kernel
theorem dX4_worth_228 : decode cX4_worth 228 = .ok (.if_icmp .ge 5, 3) := by decide +kernel
theorem dX4_worth_231 : decode cX4_worth 231 = .ok (.iconst 0, 1) := by decide +kernel
theorem dX4_worth_232 : decode cX4_worth 232 = .ok (.ireturn, 1) := by decide +kernel
