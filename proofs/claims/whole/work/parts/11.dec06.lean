theorem dX6_overlookedBy_23 : decode cX6_overlookedBy 23 = .ok (.getfield 113, 3) := by decide +kernel
theorem dX6_overlookedBy_26 : decode cX6_overlookedBy 26 = .ok (.iconst 2, 1) := by decide +kernel
theorem dX6_overlookedBy_27 : decode cX6_overlookedBy 27 = .ok (.irem, 1) := by decide +kernel
theorem dX6_overlookedBy_28 : decode cX6_overlookedBy 28 = .ok (.ifCond .ne 5, 3) := by decide +kernel
theorem dX6_overlookedBy_31 : decode cX6_overlookedBy 31 = .ok (.iconst 0, 1) := by decide +kernel
theorem dX6_overlookedBy_32 : decode cX6_overlookedBy 32 = .ok (.ireturn, 1) := by decide +kernel
theorem dX6_overlookedBy_33 : decode cX6_overlookedBy 33 = .ok (.iload_n 3, 1) := by decide +kernel
theorem dX6_overlookedBy_34 : decode cX6_overlookedBy 34 = .ok (.iconst 3, 1) := by decide +kernel
theorem dX6_overlookedBy_35 : decode cX6_overlookedBy 35 = .ok (.if_icmp .ne 14, 3) := by decide +kernel
theorem dX6_overlookedBy_38 : decode cX6_overlookedBy 38 = .ok (.iconst 1, 1) := by decide +kernel
theorem dX6_overlookedBy_39 : decode cX6_overlookedBy 39 = .ok (.aload_n 0, 1) := by decide +kernel
theorem dX6_overlookedBy_40 : decode cX6_overlookedBy 40 = .ok (.getfield 32, 3) := by decide +kernel
theorem dX6_overlookedBy_43 : decode cX6_overlookedBy 43 = .ok (.iconst 2, 1) := by decide +kernel
theorem dX6_overlookedBy_44 : decode cX6_overlookedBy 44 = .ok (.iload_n 1, 1) := by decide +kernel
theorem dX6_overlookedBy_45 : decode cX6_overlookedBy 45 = .ok (.imul, 1) := by decide +kernel
theorem dX6_overlookedBy_46 : decode cX6_overlookedBy 46 = .ok (.iaload, 1) := by decide +kernel
theorem dX6_overlookedBy_47 : decode cX6_overlookedBy 47 = .ok (.ishl, 1) := by decide +kernel
theorem dX6_overlookedBy_48 : decode cX6_overlookedBy 48 = .ok (.ireturn, 1) := by decide +kernel
theorem dX6_overlookedBy_49 : decode cX6_overlookedBy 49 = .ok (.iconst 1, 1) := by decide +kernel
theorem dX6_overlookedBy_50 : decode cX6_overlookedBy 50 = .ok (.aload_n 0, 1) := by decide +kernel
theorem dX6_overlookedBy_51 : decode cX6_overlookedBy 51 = .ok (.iconst 1, 1) := by decide +kernel
theorem dX6_overlookedBy_52 : decode cX6_overlookedBy 52 = .ok (.iload_n 1, 1) := by decide +kernel
theorem dX6_overlookedBy_53 : decode cX6_overlookedBy 53 = .ok (.iload_n 2, 1) := by decide +kernel
theorem dX6_overlookedBy_54 : decode cX6_overlookedBy 54 = .ok (.invokevirtual 348, 3) := by decide +kernel
theorem dX6_overlookedBy_57 : decode cX6_overlookedBy 57 = .ok (.invokestatic 351, 3) := by decide +kernel
theorem dX6_overlookedBy_60 : decode cX6_overlookedBy 60 = .ok (.ishl, 1) := by decide +kernel
theorem dX6_overlookedBy_61 : decode cX6_overlookedBy 61 = .ok (.istore 4, 2) := by decide +kernel
theorem dX6_overlookedBy_63 : decode cX6_overlookedBy 63 = .ok (.iload_n 3, 1) := by decide +kernel
theorem dX6_overlookedBy_64 : decode cX6_overlookedBy 64 = .ok (.ifCond .ne 8, 3) := by decide +kernel
theorem dX6_overlookedBy_67 : decode cX6_overlookedBy 67 = .ok (.iload 4, 2) := by decide +kernel
theorem dX6_overlookedBy_69 : decode cX6_overlookedBy 69 = .ok (.goto 10, 3) := by decide +kernel
theorem dX6_overlookedBy_72 : decode cX6_overlookedBy 72 = .ok (.sipush 4095, 3) := by decide +kernel
theorem dX6_overlookedBy_75 : decode cX6_overlookedBy 75 = .ok (.iload 4, 2) := by decide +kernel
theorem dX6_overlookedBy_77 : decode cX6_overlookedBy 77 = .ok (.ineg, 1) := by decide +kernel
theorem dX6_overlookedBy_78 : decode cX6_overlookedBy 78 = .ok (.iand, 1) := by decide +kernel
theorem dX6_overlookedBy_79 : decode cX6_overlookedBy 79 = .ok (.ireturn, 1) := by decide +kernel
theorem dX6_readBy_0 : decode cX6_readBy 0 = .ok (.aload_n 0, 1) := by decide +kernel
theorem dX6_readBy_1 : decode cX6_readBy 1 = .ok (.iload_n 1, 1) := by decide +kernel
theorem dX6_readBy_2 : decode cX6_readBy 2 = .ok (.iload_n 2, 1) := by decide +kernel
theorem dX6_readBy_3 : decode cX6_readBy 3 = .ok (.invokevirtual 360, 3) := by decide +kernel
theorem dX6_readBy_6 : decode cX6_readBy 6 = .ok (.aload_n 0, 1) := by decide +kernel
theorem dX6_readBy_7 : decode cX6_readBy 7 = .ok (.iload_n 1, 1) := by decide +kernel
theorem dX6_readBy_8 : decode cX6_readBy 8 = .ok (.iload_n 2, 1) := by decide +kernel
theorem dX6_readBy_9 : decode cX6_readBy 9 = .ok (.invokevirtual 363, 3) := by decide +kernel
theorem dX6_readBy_12 : decode cX6_readBy 12 = .ok (.iconst (-1), 1) := by decide +kernel
theorem dX6_readBy_13 : decode cX6_readBy 13 = .ok (.ixor, 1) := by decide +kernel
theorem dX6_readBy_14 : decode cX6_readBy 14 = .ok (.iand, 1) := by decide +kernel
theorem dX6_readBy_15 : decode cX6_readBy 15 = .ok (.iconst 1, 1) := by decide +kernel
theorem dX6_readBy_16 : decode cX6_readBy 16 = .ok (.aload_n 0, 1) := by decide +kernel
theorem dX6_readBy_17 : decode cX6_readBy 17 = .ok (.getfield 23, 3) := by decide +kernel
theorem dX6_readBy_20 : decode cX6_readBy 20 = .ok (.iconst 2, 1) := by decide +kernel
theorem dX6_readBy_21 : decode cX6_readBy 21 = .ok (.iload_n 2, 1) := by decide +kernel
theorem dX6_readBy_22 : decode cX6_readBy 22 = .ok (.imul, 1) := by decide +kernel
theorem dX6_readBy_23 : decode cX6_readBy 23 = .ok (.iconst 1, 1) := by decide +kernel
theorem dX6_readBy_24 : decode cX6_readBy 24 = .ok (.iadd, 1) := by decide +kernel
theorem dX6_readBy_25 : decode cX6_readBy 25 = .ok (.iaload, 1) := by decide +kernel
theorem dX6_readBy_26 : decode cX6_readBy 26 = .ok (.ishl, 1) := by decide +kernel
theorem dX6_readBy_27 : decode cX6_readBy 27 = .ok (.iconst (-1), 1) := by decide +kernel
theorem dX6_readBy_28 : decode cX6_readBy 28 = .ok (.ixor, 1) := by decide +kernel
theorem dX6_readBy_29 : decode cX6_readBy 29 = .ok (.iand, 1) := by decide +kernel
theorem dX6_readBy_30 : decode cX6_readBy 30 = .ok (.ireturn, 1) := by decide +kernel
theorem dX6_isSteady_0 : decode cX6_isSteady 0 = .ok (.aload_n 0, 1) := by decide +kernel
theorem dX6_isSteady_1 : decode cX6_isSteady 1 = .ok (.getfield 29, 3) := by decide +kernel
theorem dX6_isSteady_4 : decode cX6_isSteady 4 = .ok (.iload_n 1, 1) := by decide +kernel
theorem dX6_isSteady_5 : decode cX6_isSteady 5 = .ok (.iaload, 1) := by decide +kernel
theorem dX6_isSteady_6 : decode cX6_isSteady 6 = .ok (.istore_n 2, 1) := by decide +kernel
theorem dX6_isSteady_7 : decode cX6_isSteady 7 = .ok (.iload_n 2, 1) := by decide +kernel
theorem dX6_isSteady_8 : decode cX6_isSteady 8 = .ok (.iconst 1, 1) := by decide +kernel
theorem dX6_isSteady_9 : decode cX6_isSteady 9 = .ok (.if_icmp .eq 13, 3) := by decide +kernel
theorem dX6_isSteady_12 : decode cX6_isSteady 12 = .ok (.iload_n 2, 1) := by decide +kernel
theorem dX6_isSteady_13 : decode cX6_isSteady 13 = .ok (.iconst 3, 1) := by decide +kernel
theorem dX6_isSteady_14 : decode cX6_isSteady 14 = .ok (.if_icmp .eq 8, 3) := by decide +kernel
theorem dX6_isSteady_17 : decode cX6_isSteady 17 = .ok (.iload_n 2, 1) := by decide +kernel
theorem dX6_isSteady_18 : decode cX6_isSteady 18 = .ok (.iconst 5, 1) := by decide +kernel
theorem dX6_isSteady_19 : decode cX6_isSteady 19 = .ok (.if_icmp .ne 5, 3) := by decide +kernel
theorem dX6_isSteady_22 : decode cX6_isSteady 22 = .ok (.iconst 1, 1) := by decide +kernel
theorem dX6_isSteady_23 : decode cX6_isSteady 23 = .ok (.ireturn, 1) := by decide +kernel
theorem dX6_isSteady_24 : decode cX6_isSteady 24 = .ok (.aload_n 0, 1) := by decide +kernel
theorem dX6_isSteady_25 : decode cX6_isSteady 25 = .ok (.iconst 2, 1) := by decide +kernel
theorem dX6_isSteady_26 : decode cX6_isSteady 26 = .ok (.iload_n 1, 1) := by decide +kernel
theorem dX6_isSteady_27 : decode cX6_isSteady 27 = .ok (.iconst (-1), 1) := by decide +kernel
theorem dX6_isSteady_28 : decode cX6_isSteady 28 = .ok (.invokevirtual 348, 3) := by decide +kernel
theorem dX6_isSteady_31 : decode cX6_isSteady 31 = .ok (.istore_n 3, 1) := by decide +kernel
theorem dX6_isSteady_32 : decode cX6_isSteady 32 = .ok (.aload_n 0, 1) := by decide +kernel
theorem dX6_isSteady_33 : decode cX6_isSteady 33 = .ok (.getfield 32, 3) := by decide +kernel
theorem dX6_isSteady_36 : decode cX6_isSteady 36 = .ok (.iconst 2, 1) := by decide +kernel
theorem dX6_isSteady_37 : decode cX6_isSteady 37 = .ok (.iload_n 1, 1) := by decide +kernel
theorem dX6_isSteady_38 : decode cX6_isSteady 38 = .ok (.imul, 1) := by decide +kernel
theorem dX6_isSteady_39 : decode cX6_isSteady 39 = .ok (.iconst 1, 1) := by decide +kernel
theorem dX6_isSteady_40 : decode cX6_isSteady 40 = .ok (.iadd, 1) := by decide +kernel
theorem dX6_isSteady_41 : decode cX6_isSteady 41 = .ok (.iaload, 1) := by decide +kernel
theorem dX6_isSteady_42 : decode cX6_isSteady 42 = .ok (.iload_n 2, 1) := by decide +kernel
theorem dX6_isSteady_43 : decode cX6_isSteady 43 = .ok (.iconst 4, 1) := by decide +kernel
theorem dX6_isSteady_44 : decode cX6_isSteady 44 = .ok (.if_icmp .ne 9, 3) := by decide +kernel
theorem dX6_isSteady_47 : decode cX6_isSteady 47 = .ok (.iconst 2, 1) := by decide +kernel
theorem dX6_isSteady_48 : decode cX6_isSteady 48 = .ok (.iload_n 3, 1) := by decide +kernel
theorem dX6_isSteady_49 : decode cX6_isSteady 49 = .ok (.imul, 1) := by decide +kernel
theorem dX6_isSteady_50 : decode cX6_isSteady 50 = .ok (.goto 4, 3) := by decide +kernel
theorem dX6_isSteady_53 : decode cX6_isSteady 53 = .ok (.iload_n 3, 1) := by decide +kernel
theorem dX6_isSteady_54 : decode cX6_isSteady 54 = .ok (.if_icmp .ge 7, 3) := by decide +kernel
theorem dX6_isSteady_57 : decode cX6_isSteady 57 = .ok (.iconst 1, 1) := by decide +kernel
theorem dX6_isSteady_58 : decode cX6_isSteady 58 = .ok (.goto 4, 3) := by decide +kernel
theorem dX6_isSteady_61 : decode cX6_isSteady 61 = .ok (.iconst 0, 1) := by decide +kernel
theorem dX6_isSteady_62 : decode cX6_isSteady 62 = .ok (.ireturn, 1) := by decide +kernel
theorem dX6_sees_0 : decode cX6_sees 0 = .ok (.aload_n 0, 1) := by decide +kernel
theorem dX6_sees_1 : decode cX6_sees 1 = .ok (.iload_n 1, 1) := by decide +kernel
theorem dX6_sees_2 : decode cX6_sees 2 = .ok (.invokevirtual 86, 3) := by decide +kernel
theorem dX6_sees_5 : decode cX6_sees 5 = .ok (.ifCond .eq 23, 3) := by decide +kernel
theorem dX6_sees_8 : decode cX6_sees 8 = .ok (.aload_n 0, 1) := by decide +kernel
theorem dX6_sees_9 : decode cX6_sees 9 = .ok (.iload_n 2, 1) := by decide +kernel
theorem dX6_sees_10 : decode cX6_sees 10 = .ok (.invokevirtual 82, 3) := by decide +kernel
theorem dX6_sees_13 : decode cX6_sees 13 = .ok (.ifCond .eq 15, 3) := by decide +kernel
theorem dX6_sees_16 : decode cX6_sees 16 = .ok (.iload_n 3, 1) := by decide +kernel
theorem dX6_sees_17 : decode cX6_sees 17 = .ok (.i2l, 1) := by decide +kernel
theorem dX6_sees_18 : decode cX6_sees 18 = .ok (.lconst 0, 1) := by decide +kernel
theorem dX6_sees_19 : decode cX6_sees 19 = .ok (.ldc2_w 366, 3) := by decide +kernel
theorem dX6_sees_22 : decode cX6_sees 22 = .ok (.invokestatic 73, 3) := by decide +kernel
theorem dX6_sees_25 : decode cX6_sees 25 = .ok (.ifCond .ne 6, 3) := by decide +kernel
theorem dX6_sees_28 : decode cX6_sees 28 = .ok (.bipush (-2), 2) := by decide +kernel
theorem dX6_sees_30 : decode cX6_sees 30 = .ok (.ireturn, 1) := by decide +kernel
theorem dX6_sees_31 : decode cX6_sees 31 = .ok (.iload_n 3, 1) := by decide +kernel
theorem dX6_sees_32 : decode cX6_sees 32 = .ok (.ifCond .ne 12, 3) := by decide +kernel
theorem dX6_sees_35 : decode cX6_sees 35 = .ok (.aload_n 0, 1) := by decide +kernel
theorem dX6_sees_36 : decode cX6_sees 36 = .ok (.iload_n 1, 1) := by decide +kernel
theorem dX6_sees_37 : decode cX6_sees 37 = .ok (.iload_n 2, 1) := by decide +kernel
theorem dX6_sees_38 : decode cX6_sees 38 = .ok (.invokevirtual 360, 3) := by decide +kernel
theorem dX6_sees_41 : decode cX6_sees 41 = .ok (.goto 23, 3) := by decide +kernel
theorem dX6_sees_44 : decode cX6_sees 44 = .ok (.iload_n 3, 1) := by decide +kernel
theorem dX6_sees_45 : decode cX6_sees 45 = .ok (.iconst 1, 1) := by decide +kernel
theorem dX6_sees_46 : decode cX6_sees 46 = .ok (.if_icmp .ne 12, 3) := by decide +kernel
theorem dX6_sees_49 : decode cX6_sees 49 = .ok (.aload_n 0, 1) := by decide +kernel
theorem dX6_sees_50 : decode cX6_sees 50 = .ok (.iload_n 1, 1) := by decide +kernel
theorem dX6_sees_51 : decode cX6_sees 51 = .ok (.iload_n 2, 1) := by decide +kernel
theorem dX6_sees_52 : decode cX6_sees 52 = .ok (.invokevirtual 363, 3) := by decide +kernel
theorem dX6_sees_55 : decode cX6_sees 55 = .ok (.goto 9, 3) := by decide +kernel
theorem dX6_sees_58 : decode cX6_sees 58 = .ok (.aload_n 0, 1) := by decide +kernel
theorem dX6_sees_59 : decode cX6_sees 59 = .ok (.iload_n 1, 1) := by decide +kernel
theorem dX6_sees_60 : decode cX6_sees 60 = .ok (.iload_n 2, 1) := by decide +kernel
theorem dX6_sees_61 : decode cX6_sees 61 = .ok (.invokevirtual 368, 3) := by decide +kernel
theorem dX6_sees_64 : decode cX6_sees 64 = .ok (.ireturn, 1) := by decide +kernel
theorem dX6_readsOut_0 : decode cX6_readsOut 0 = .ok (.aload_n 0, 1) := by decide +kernel
theorem dX6_readsOut_1 : decode cX6_readsOut 1 = .ok (.iload_n 1, 1) := by decide +kernel
theorem dX6_readsOut_2 : decode cX6_readsOut 2 = .ok (.iload_n 2, 1) := by decide +kernel
theorem dX6_readsOut_3 : decode cX6_readsOut 3 = .ok (.invokevirtual 368, 3) := by decide +kernel
theorem dX6_readsOut_6 : decode cX6_readsOut 6 = .ok (.istore_n 3, 1) := by decide +kernel
theorem dX6_readsOut_7 : decode cX6_readsOut 7 = .ok (.aload_n 0, 1) := by decide +kernel
theorem dX6_readsOut_8 : decode cX6_readsOut 8 = .ok (.iload_n 3, 1) := by decide +kernel
theorem dX6_readsOut_9 : decode cX6_readsOut 9 = .ok (.aload_n 0, 1) := by decide +kernel
theorem dX6_readsOut_10 : decode cX6_readsOut 10 = .ok (.getfield 23, 3) := by decide +kernel
theorem dX6_readsOut_13 : decode cX6_readsOut 13 = .ok (.iconst 2, 1) := by decide +kernel
theorem dX6_readsOut_14 : decode cX6_readsOut 14 = .ok (.iload_n 2, 1) := by decide +kernel
theorem dX6_readsOut_15 : decode cX6_readsOut 15 = .ok (.imul, 1) := by decide +kernel
theorem dX6_readsOut_16 : decode cX6_readsOut 16 = .ok (.iconst 1, 1) := by decide +kernel
theorem dX6_readsOut_17 : decode cX6_readsOut 17 = .ok (.iadd, 1) := by decide +kernel
theorem dX6_readsOut_18 : decode cX6_readsOut 18 = .ok (.iaload, 1) := by decide +kernel
theorem dX6_readsOut_19 : decode cX6_readsOut 19 = .ok (.invokevirtual 124, 3) := by decide +kernel
theorem dX6_readsOut_22 : decode cX6_readsOut 22 = .ok (.aload_n 0, 1) := by decide +kernel
theorem dX6_readsOut_23 : decode cX6_readsOut 23 = .ok (.getfield 32, 3) := by decide +kernel
theorem dX6_readsOut_26 : decode cX6_readsOut 26 = .ok (.iconst 2, 1) := by decide +kernel
theorem dX6_readsOut_27 : decode cX6_readsOut 27 = .ok (.iload_n 1, 1) := by decide +kernel
theorem dX6_readsOut_28 : decode cX6_readsOut 28 = .ok (.imul, 1) := by decide +kernel
theorem dX6_readsOut_29 : decode cX6_readsOut 29 = .ok (.iconst 1, 1) := by decide +kernel
theorem dX6_readsOut_30 : decode cX6_readsOut 30 = .ok (.iadd, 1) := by decide +kernel
theorem dX6_readsOut_31 : decode cX6_readsOut 31 = .ok (.aload_n 0, 1) := by decide +kernel
theorem dX6_readsOut_32 : decode cX6_readsOut 32 = .ok (.getfield 32, 3) := by decide +kernel
theorem dX6_readsOut_35 : decode cX6_readsOut 35 = .ok (.iconst 2, 1) := by decide +kernel
theorem dX6_readsOut_36 : decode cX6_readsOut 36 = .ok (.iload_n 1, 1) := by decide +kernel
theorem dX6_readsOut_37 : decode cX6_readsOut 37 = .ok (.imul, 1) := by decide +kernel
theorem dX6_readsOut_38 : decode cX6_readsOut 38 = .ok (.iconst 1, 1) := by decide +kernel
theorem dX6_readsOut_39 : decode cX6_readsOut 39 = .ok (.iadd, 1) := by decide +kernel
theorem dX6_readsOut_40 : decode cX6_readsOut 40 = .ok (.iaload, 1) := by decide +kernel
theorem dX6_readsOut_41 : decode cX6_readsOut 41 = .ok (.iload_n 3, 1) := by decide +kernel
theorem dX6_readsOut_42 : decode cX6_readsOut 42 = .ok (.ifCond .ne 7, 3) := by decide +kernel
theorem dX6_readsOut_45 : decode cX6_readsOut 45 = .ok (.iconst 1, 1) := by decide +kernel
theorem dX6_readsOut_46 : decode cX6_readsOut 46 = .ok (.goto 4, 3) := by decide +kernel
theorem dX6_readsOut_49 : decode cX6_readsOut 49 = .ok (.iconst 0, 1) := by decide +kernel
theorem dX6_readsOut_50 : decode cX6_readsOut 50 = .ok (.iadd, 1) := by decide +kernel
theorem dX6_readsOut_51 : decode cX6_readsOut 51 = .ok (.iconst 0, 1) := by decide +kernel
theorem dX6_readsOut_52 : decode cX6_readsOut 52 = .ok (.bipush 99, 2) := by decide +kernel
theorem dX6_readsOut_54 : decode cX6_readsOut 54 = .ok (.invokestatic 344, 3) := by decide +kernel
theorem dX6_readsOut_57 : decode cX6_readsOut 57 = .ok (.iastore, 1) := by decide +kernel
theorem dX6_readsOut_58 : decode cX6_readsOut 58 = .ok (.aload_n 0, 1) := by decide +kernel
theorem dX6_readsOut_59 : decode cX6_readsOut 59 = .ok (.dup, 1) := by decide +kernel
theorem dX6_readsOut_60 : decode cX6_readsOut 60 = .ok (.getfield 113, 3) := by decide +kernel
theorem dX6_readsOut_63 : decode cX6_readsOut 63 = .ok (.iconst 1, 1) := by decide +kernel
theorem dX6_readsOut_64 : decode cX6_readsOut 64 = .ok (.iadd, 1) := by decide +kernel
theorem dX6_readsOut_65 : decode cX6_readsOut 65 = .ok (.putfield 113, 3) := by decide +kernel
theorem dX6_readsOut_68 : decode cX6_readsOut 68 = .ok (.iload_n 3, 1) := by decide +kernel
theorem dX6_readsOut_69 : decode cX6_readsOut 69 = .ok (.ireturn, 1) := by decide +kernel
theorem dX6_read_0 : decode cX6_read 0 = .ok (.aload_n 0, 1) := by decide +kernel
theorem dX6_read_1 : decode cX6_read 1 = .ok (.iload_n 1, 1) := by decide +kernel
theorem dX6_read_2 : decode cX6_read 2 = .ok (.invokevirtual 86, 3) := by decide +kernel
theorem dX6_read_5 : decode cX6_read 5 = .ok (.ifCond .eq 11, 3) := by decide +kernel
theorem dX6_read_8 : decode cX6_read 8 = .ok (.aload_n 0, 1) := by decide +kernel
theorem dX6_read_9 : decode cX6_read 9 = .ok (.iload_n 2, 1) := by decide +kernel
theorem dX6_read_10 : decode cX6_read 10 = .ok (.invokevirtual 82, 3) := by decide +kernel
theorem dX6_read_13 : decode cX6_read 13 = .ok (.ifCond .ne 6, 3) := by decide +kernel
theorem dX6_read_16 : decode cX6_read 16 = .ok (.bipush (-2), 2) := by decide +kernel
theorem dX6_read_18 : decode cX6_read 18 = .ok (.ireturn, 1) := by decide +kernel
theorem dX6_read_19 : decode cX6_read 19 = .ok (.aload_n 0, 1) := by decide +kernel
theorem dX6_read_20 : decode cX6_read 20 = .ok (.iload_n 1, 1) := by decide +kernel
theorem dX6_read_21 : decode cX6_read 21 = .ok (.invokevirtual 130, 3) := by decide +kernel
theorem dX6_read_24 : decode cX6_read 24 = .ok (.ifCond .eq 13, 3) := by decide +kernel
theorem dX6_read_27 : decode cX6_read 27 = .ok (.aload_n 0, 1) := by decide +kernel
theorem dX6_read_28 : decode cX6_read 28 = .ok (.getfield 113, 3) := by decide +kernel
theorem dX6_read_31 : decode cX6_read 31 = .ok (.sipush 999, 3) := by decide +kernel
theorem dX6_read_34 : decode cX6_read 34 = .ok (.if_icmp .ne 6, 3) := by decide +kernel
theorem dX6_read_37 : decode cX6_read 37 = .ok (.bipush (-3), 2) := by decide +kernel
theorem dX6_read_39 : decode cX6_read 39 = .ok (.ireturn, 1) := by decide +kernel
theorem dX6_read_40 : decode cX6_read 40 = .ok (.aload_n 0, 1) := by decide +kernel
theorem dX6_read_41 : decode cX6_read 41 = .ok (.getfield 89, 3) := by decide +kernel
theorem dX6_read_44 : decode cX6_read 44 = .ok (.bipush 12, 2) := by decide +kernel
theorem dX6_read_46 : decode cX6_read 46 = .ok (.if_icmp .ne 8, 3) := by decide +kernel
theorem dX6_read_49 : decode cX6_read 49 = .ok (.bipush (-4), 2) := by decide +kernel
theorem dX6_read_51 : decode cX6_read 51 = .ok (.goto 9, 3) := by decide +kernel
theorem dX6_read_54 : decode cX6_read 54 = .ok (.aload_n 0, 1) := by decide +kernel
theorem dX6_read_55 : decode cX6_read 55 = .ok (.iload_n 1, 1) := by decide +kernel
theorem dX6_read_56 : decode cX6_read 56 = .ok (.iload_n 2, 1) := by decide +kernel
theorem dX6_read_57 : decode cX6_read 57 = .ok (.invokevirtual 371, 3) := by decide +kernel
theorem dX6_read_60 : decode cX6_read 60 = .ok (.ireturn, 1) := by decide +kernel
theorem dX6_closure_0 : decode cX6_closure 0 = .ok (.iload_n 1, 1) := by decide +kernel
theorem dX6_closure_1 : decode cX6_closure 1 = .ok (.istore_n 3, 1) := by decide +kernel
theorem dX6_closure_2 : decode cX6_closure 2 = .ok (.iconst (-1), 1) := by decide +kernel
theorem dX6_closure_3 : decode cX6_closure 3 = .ok (.istore 4, 2) := by decide +kernel
theorem dX6_closure_5 : decode cX6_closure 5 = .ok (.aload_n 0, 1) := by decide +kernel
theorem dX6_closure_6 : decode cX6_closure 6 = .ok (.iconst (-1), 1) := by decide +kernel
theorem dX6_closure_7 : decode cX6_closure 7 = .ok (.putfield 374, 3) := by decide +kernel
theorem dX6_closure_10 : decode cX6_closure 10 = .ok (.iload 4, 2) := by decide +kernel
theorem dX6_closure_12 : decode cX6_closure 12 = .ok (.ifCond .eq 94, 3) := by decide +kernel
theorem dX6_closure_15 : decode cX6_closure 15 = .ok (.iconst 0, 1) := by decide +kernel
theorem dX6_closure_16 : decode cX6_closure 16 = .ok (.istore 4, 2) := by decide +kernel
theorem dX6_closure_18 : decode cX6_closure 18 = .ok (.iconst 0, 1) := by decide +kernel
theorem dX6_closure_19 : decode cX6_closure 19 = .ok (.istore 5, 2) := by decide +kernel
theorem dX6_closure_21 : decode cX6_closure 21 = .ok (.iload 5, 2) := by decide +kernel
theorem dX6_closure_23 : decode cX6_closure 23 = .ok (.aload_n 0, 1) := by decide +kernel
theorem dX6_closure_24 : decode cX6_closure 24 = .ok (.getfield 89, 3) := by decide +kernel
theorem dX6_closure_27 : decode cX6_closure 27 = .ok (.if_icmp .ge 53, 3) := by decide +kernel
theorem dX6_closure_30 : decode cX6_closure 30 = .ok (.iload 4, 2) := by decide +kernel
theorem dX6_closure_32 : decode cX6_closure 32 = .ok (.iload 5, 2) := by decide +kernel
theorem dX6_closure_34 : decode cX6_closure 34 = .ok (.iload_n 2, 1) := by decide +kernel
theorem dX6_closure_35 : decode cX6_closure 35 = .ok (.if_icmp .eq 35, 3) := by decide +kernel
theorem dX6_closure_38 : decode cX6_closure 38 = .ok (.aload_n 0, 1) := by decide +kernel
theorem dX6_closure_39 : decode cX6_closure 39 = .ok (.getfield 26, 3) := by decide +kernel
theorem dX6_closure_42 : decode cX6_closure 42 = .ok (.iconst 2, 1) := by decide +kernel
theorem dX6_closure_43 : decode cX6_closure 43 = .ok (.iload 5, 2) := by decide +kernel
theorem dX6_closure_45 : decode cX6_closure 45 = .ok (.imul, 1) := by decide +kernel
theorem dX6_closure_46 : decode cX6_closure 46 = .ok (.iaload, 1) := by decide +kernel
theorem dX6_closure_47 : decode cX6_closure 47 = .ok (.iload_n 3, 1) := by decide +kernel
theorem dX6_closure_48 : decode cX6_closure 48 = .ok (.iconst (-1), 1) := by decide +kernel
theorem dX6_closure_49 : decode cX6_closure 49 = .ok (.ixor, 1) := by decide +kernel
theorem dX6_closure_50 : decode cX6_closure 50 = .ok (.iand, 1) := by decide +kernel
theorem dX6_closure_51 : decode cX6_closure 51 = .ok (.ifCond .ne 19, 3) := by decide +kernel
theorem dX6_closure_54 : decode cX6_closure 54 = .ok (.iconst 1, 1) := by decide +kernel
theorem dX6_closure_55 : decode cX6_closure 55 = .ok (.aload_n 0, 1) := by decide +kernel
theorem dX6_closure_56 : decode cX6_closure 56 = .ok (.getfield 26, 3) := by decide +kernel
theorem dX6_closure_59 : decode cX6_closure 59 = .ok (.iconst 2, 1) := by decide +kernel
theorem dX6_closure_60 : decode cX6_closure 60 = .ok (.iload 5, 2) := by decide +kernel
theorem dX6_closure_62 : decode cX6_closure 62 = .ok (.imul, 1) := by decide +kernel
theorem dX6_closure_63 : decode cX6_closure 63 = .ok (.iconst 1, 1) := by decide +kernel
theorem dX6_closure_64 : decode cX6_closure 64 = .ok (.iadd, 1) := by decide +kernel
theorem dX6_closure_65 : decode cX6_closure 65 = .ok (.iaload, 1) := by decide +kernel
theorem dX6_closure_66 : decode cX6_closure 66 = .ok (.ishl, 1) := by decide +kernel
theorem dX6_closure_67 : decode cX6_closure 67 = .ok (.goto 4, 3) := by decide +kernel
theorem dX6_closure_70 : decode cX6_closure 70 = .ok (.iconst 0, 1) := by decide +kernel
theorem dX6_closure_71 : decode cX6_closure 71 = .ok (.ior, 1) := by decide +kernel
theorem dX6_closure_72 : decode cX6_closure 72 = .ok (.istore 4, 2) := by decide +kernel
theorem dX6_closure_74 : decode cX6_closure 74 = .ok (.iinc 5 1, 3) := by decide +kernel
theorem dX6_closure_77 : decode cX6_closure 77 = .ok (.goto (-56), 3) := by decide +kernel
theorem dX6_closure_80 : decode cX6_closure 80 = .ok (.iload 4, 2) := by decide +kernel
theorem dX6_closure_82 : decode cX6_closure 82 = .ok (.iload_n 3, 1) := by decide +kernel
theorem dX6_closure_83 : decode cX6_closure 83 = .ok (.iconst (-1), 1) := by decide +kernel
theorem dX6_closure_84 : decode cX6_closure 84 = .ok (.ixor, 1) := by decide +kernel
theorem dX6_closure_85 : decode cX6_closure 85 = .ok (.iand, 1) := by decide +kernel
theorem dX6_closure_86 : decode cX6_closure 86 = .ok (.istore 4, 2) := by decide +kernel
theorem dX6_closure_88 : decode cX6_closure 88 = .ok (.iload_n 3, 1) := by decide +kernel
theorem dX6_closure_89 : decode cX6_closure 89 = .ok (.iload 4, 2) := by decide +kernel
theorem dX6_closure_91 : decode cX6_closure 91 = .ok (.ior, 1) := by decide +kernel
theorem dX6_closure_92 : decode cX6_closure 92 = .ok (.istore_n 3, 1) := by decide +kernel
theorem dX6_closure_93 : decode cX6_closure 93 = .ok (.aload_n 0, 1) := by decide +kernel
theorem dX6_closure_94 : decode cX6_closure 94 = .ok (.dup, 1) := by decide +kernel
theorem dX6_closure_95 : decode cX6_closure 95 = .ok (.getfield 374, 3) := by decide +kernel
theorem dX6_closure_98 : decode cX6_closure 98 = .ok (.iconst 1, 1) := by decide +kernel
theorem dX6_closure_99 : decode cX6_closure 99 = .ok (.iadd, 1) := by decide +kernel
theorem dX6_closure_100 : decode cX6_closure 100 = .ok (.putfield 374, 3) := by decide +kernel
theorem dX6_closure_103 : decode cX6_closure 103 = .ok (.goto (-93), 3) := by decide +kernel
theorem dX6_closure_106 : decode cX6_closure 106 = .ok (.iload_n 3, 1) := by decide +kernel
theorem dX6_closure_107 : decode cX6_closure 107 = .ok (.ireturn, 1) := by decide +kernel
theorem dX6_clashes_0 : decode cX6_clashes 0 = .ok (.aload_n 0, 1) := by decide +kernel
theorem dX6_clashes_1 : decode cX6_clashes 1 = .ok (.iload_n 1, 1) := by decide +kernel
theorem dX6_clashes_2 : decode cX6_clashes 2 = .ok (.iload_n 2, 1) := by decide +kernel
theorem dX6_clashes_3 : decode cX6_clashes 3 = .ok (.invokevirtual 377, 3) := by decide +kernel
theorem dX6_clashes_6 : decode cX6_clashes 6 = .ok (.istore_n 3, 1) := by decide +kernel
theorem dX6_clashes_7 : decode cX6_clashes 7 = .ok (.iload_n 3, 1) := by decide +kernel
theorem dX6_clashes_8 : decode cX6_clashes 8 = .ok (.iload_n 3, 1) := by decide +kernel
theorem dX6_clashes_9 : decode cX6_clashes 9 = .ok (.bipush 6, 2) := by decide +kernel
theorem dX6_clashes_11 : decode cX6_clashes 11 = .ok (.ishr, 1) := by decide +kernel
theorem dX6_clashes_12 : decode cX6_clashes 12 = .ok (.iand, 1) := by decide +kernel
theorem dX6_clashes_13 : decode cX6_clashes 13 = .ok (.ifCond .eq 7, 3) := by decide +kernel
theorem dX6_clashes_16 : decode cX6_clashes 16 = .ok (.iconst 1, 1) := by decide +kernel
theorem dX6_clashes_17 : decode cX6_clashes 17 = .ok (.goto 4, 3) := by decide +kernel
theorem dX6_clashes_20 : decode cX6_clashes 20 = .ok (.iconst 0, 1) := by decide +kernel
theorem dX6_clashes_21 : decode cX6_clashes 21 = .ok (.ireturn, 1) := by decide +kernel
theorem dX6_follows_0 : decode cX6_follows 0 = .ok (.iload_n 1, 1) := by decide +kernel
theorem dX6_follows_1 : decode cX6_follows 1 = .ok (.i2l, 1) := by decide +kernel
theorem dX6_follows_2 : decode cX6_follows 2 = .ok (.lconst 0, 1) := by decide +kernel
theorem dX6_follows_3 : decode cX6_follows 3 = .ok (.ldc2_w 119, 3) := by decide +kernel
theorem dX6_follows_6 : decode cX6_follows 6 = .ok (.invokestatic 73, 3) := by decide +kernel
theorem dX6_follows_9 : decode cX6_follows 9 = .ok (.ifCond .eq 15, 3) := by decide +kernel
theorem dX6_follows_12 : decode cX6_follows 12 = .ok (.iload_n 2, 1) := by decide +kernel
theorem dX6_follows_13 : decode cX6_follows 13 = .ok (.i2l, 1) := by decide +kernel
theorem dX6_follows_14 : decode cX6_follows 14 = .ok (.lconst 0, 1) := by decide +kernel
theorem dX6_follows_15 : decode cX6_follows 15 = .ok (.ldc2_w 366, 3) := by decide +kernel
theorem dX6_follows_18 : decode cX6_follows 18 = .ok (.invokestatic 73, 3) := by decide +kernel
theorem dX6_follows_21 : decode cX6_follows 21 = .ok (.ifCond .ne 6, 3) := by decide +kernel
theorem dX6_follows_24 : decode cX6_follows 24 = .ok (.bipush (-2), 2) := by decide +kernel
theorem dX6_follows_26 : decode cX6_follows 26 = .ok (.ireturn, 1) := by decide +kernel
theorem dX6_follows_27 : decode cX6_follows 27 = .ok (.aload_n 0, 1) := by decide +kernel
theorem dX6_follows_28 : decode cX6_follows 28 = .ok (.iload_n 1, 1) := by decide +kernel
theorem dX6_follows_29 : decode cX6_follows 29 = .ok (.iconst (-1), 1) := by decide +kernel
theorem dX6_follows_30 : decode cX6_follows 30 = .ok (.invokevirtual 377, 3) := by decide +kernel
theorem dX6_follows_33 : decode cX6_follows 33 = .ok (.istore_n 3, 1) := by decide +kernel
theorem dX6_follows_34 : decode cX6_follows 34 = .ok (.iload_n 2, 1) := by decide +kernel
theorem dX6_follows_35 : decode cX6_follows 35 = .ok (.ifCond .ne 7, 3) := by decide +kernel
theorem dX6_follows_38 : decode cX6_follows 38 = .ok (.iload_n 3, 1) := by decide +kernel
theorem dX6_follows_39 : decode cX6_follows 39 = .ok (.goto 29, 3) := by decide +kernel
theorem dX6_follows_42 : decode cX6_follows 42 = .ok (.iload_n 2, 1) := by decide +kernel
theorem dX6_follows_43 : decode cX6_follows 43 = .ok (.iconst 1, 1) := by decide +kernel
theorem dX6_follows_44 : decode cX6_follows 44 = .ok (.if_icmp .ne 10, 3) := by decide +kernel
theorem dX6_follows_47 : decode cX6_follows 47 = .ok (.aload_n 0, 1) := by decide +kernel
theorem dX6_follows_48 : decode cX6_follows 48 = .ok (.getfield 374, 3) := by decide +kernel
theorem dX6_follows_51 : decode cX6_follows 51 = .ok (.goto 17, 3) := by decide +kernel
theorem dX6_follows_54 : decode cX6_follows 54 = .ok (.aload_n 0, 1) := by decide +kernel
theorem dX6_follows_55 : decode cX6_follows 55 = .ok (.iload_n 1, 1) := by decide +kernel
theorem dX6_follows_56 : decode cX6_follows 56 = .ok (.iconst (-1), 1) := by decide +kernel
theorem dX6_follows_57 : decode cX6_follows 57 = .ok (.invokevirtual 380, 3) := by decide +kernel
theorem dX6_follows_60 : decode cX6_follows 60 = .ok (.ifCond .eq 7, 3) := by decide +kernel
theorem dX6_follows_63 : decode cX6_follows 63 = .ok (.iconst 1, 1) := by decide +kernel
theorem dX6_follows_64 : decode cX6_follows 64 = .ok (.goto 4, 3) := by decide +kernel
theorem dX6_follows_67 : decode cX6_follows 67 = .ok (.iconst 0, 1) := by decide +kernel
theorem dX6_follows_68 : decode cX6_follows 68 = .ok (.ireturn, 1) := by decide +kernel
theorem dX6_base_0 : decode cX6_base 0 = .ok (.aload_n 0, 1) := by decide +kernel
theorem dX6_base_1 : decode cX6_base 1 = .ok (.getfield 110, 3) := by decide +kernel
theorem dX6_base_4 : decode cX6_base 4 = .ok (.istore_n 1, 1) := by decide +kernel
theorem dX6_base_5 : decode cX6_base 5 = .ok (.sipush 4095, 3) := by decide +kernel
theorem dX6_base_8 : decode cX6_base 8 = .ok (.istore_n 2, 1) := by decide +kernel
theorem dX6_base_9 : decode cX6_base 9 = .ok (.iload_n 2, 1) := by decide +kernel
theorem dX6_base_10 : decode cX6_base 10 = .ok (.ifCond .lt 49, 3) := by decide +kernel
theorem dX6_base_13 : decode cX6_base 13 = .ok (.iload_n 2, 1) := by decide +kernel
theorem dX6_base_14 : decode cX6_base 14 = .ok (.aload_n 0, 1) := by decide +kernel
theorem dX6_base_15 : decode cX6_base 15 = .ok (.getfield 110, 3) := by decide +kernel
theorem dX6_base_18 : decode cX6_base 18 = .ok (.iconst (-1), 1) := by decide +kernel
theorem dX6_base_19 : decode cX6_base 19 = .ok (.ixor, 1) := by decide +kernel
theorem dX6_base_20 : decode cX6_base 20 = .ok (.iand, 1) := by decide +kernel
theorem dX6_base_21 : decode cX6_base 21 = .ok (.ifCond .ne 32, 3) := by decide +kernel
theorem dX6_base_24 : decode cX6_base 24 = .ok (.iload_n 2, 1) := by decide +kernel
theorem dX6_base_25 : decode cX6_base 25 = .ok (.invokestatic 341, 3) := by decide +kernel
theorem dX6_base_28 : decode cX6_base 28 = .ok (.iload_n 1, 1) := by decide +kernel
theorem dX6_base_29 : decode cX6_base 29 = .ok (.invokestatic 341, 3) := by decide +kernel
theorem dX6_base_32 : decode cX6_base 32 = .ok (.if_icmp .gt 21, 3) := by decide +kernel
theorem dX6_base_35 : decode cX6_base 35 = .ok (.aload_n 0, 1) := by decide +kernel
theorem dX6_base_36 : decode cX6_base 36 = .ok (.getfield 110, 3) := by decide +kernel
theorem dX6_base_39 : decode cX6_base 39 = .ok (.aload_n 0, 1) := by decide +kernel
theorem dX6_base_40 : decode cX6_base 40 = .ok (.iload_n 2, 1) := by decide +kernel
theorem dX6_base_41 : decode cX6_base 41 = .ok (.iconst (-1), 1) := by decide +kernel
theorem dX6_base_42 : decode cX6_base 42 = .ok (.invokevirtual 377, 3) := by decide +kernel
theorem dX6_base_45 : decode cX6_base 45 = .ok (.iconst (-1), 1) := by decide +kernel
theorem dX6_base_46 : decode cX6_base 46 = .ok (.ixor, 1) := by decide +kernel
theorem dX6_base_47 : decode cX6_base 47 = .ok (.iand, 1) := by decide +kernel
theorem dX6_base_48 : decode cX6_base 48 = .ok (.ifCond .ne 5, 3) := by decide +kernel
theorem dX6_base_51 : decode cX6_base 51 = .ok (.iload_n 2, 1) := by decide +kernel
theorem dX6_base_52 : decode cX6_base 52 = .ok (.istore_n 1, 1) := by decide +kernel
theorem dX6_base_53 : decode cX6_base 53 = .ok (.iinc 2 (-1), 3) := by decide +kernel
theorem dX6_base_56 : decode cX6_base 56 = .ok (.goto (-47), 3) := by decide +kernel
theorem dX6_base_59 : decode cX6_base 59 = .ok (.iload_n 1, 1) := by decide +kernel
theorem dX6_base_60 : decode cX6_base 60 = .ok (.ireturn, 1) := by decide +kernel
theorem dX6_peace_0 : decode cX6_peace 0 = .ok (.iconst (-1), 1) := by decide +kernel
theorem dX6_peace_1 : decode cX6_peace 1 = .ok (.istore_n 2, 1) := by decide +kernel
theorem dX6_peace_2 : decode cX6_peace 2 = .ok (.iconst 0, 1) := by decide +kernel
theorem dX6_peace_3 : decode cX6_peace 3 = .ok (.istore_n 3, 1) := by decide +kernel
theorem dX6_peace_4 : decode cX6_peace 4 = .ok (.iload_n 3, 1) := by decide +kernel
theorem dX6_peace_5 : decode cX6_peace 5 = .ok (.sipush 4095, 3) := by decide +kernel
theorem dX6_peace_8 : decode cX6_peace 8 = .ok (.if_icmp .gt 47, 3) := by decide +kernel
theorem dX6_peace_11 : decode cX6_peace 11 = .ok (.iload_n 3, 1) := by decide +kernel
theorem dX6_peace_12 : decode cX6_peace 12 = .ok (.aload_n 0, 1) := by decide +kernel
theorem dX6_peace_13 : decode cX6_peace 13 = .ok (.getfield 110, 3) := by decide +kernel
theorem dX6_peace_16 : decode cX6_peace 16 = .ok (.iconst (-1), 1) := by decide +kernel
theorem dX6_peace_17 : decode cX6_peace 17 = .ok (.ixor, 1) := by decide +kernel
theorem dX6_peace_18 : decode cX6_peace 18 = .ok (.iand, 1) := by decide +kernel
theorem dX6_peace_19 : decode cX6_peace 19 = .ok (.ifCond .ne 30, 3) := by decide +kernel
theorem dX6_peace_22 : decode cX6_peace 22 = .ok (.iload_n 2, 1) := by decide +kernel
theorem dX6_peace_23 : decode cX6_peace 23 = .ok (.iconst (-1), 1) := by decide +kernel
theorem dX6_peace_24 : decode cX6_peace 24 = .ok (.if_icmp .eq 14, 3) := by decide +kernel
theorem dX6_peace_27 : decode cX6_peace 27 = .ok (.iload_n 3, 1) := by decide +kernel
theorem dX6_peace_28 : decode cX6_peace 28 = .ok (.invokestatic 341, 3) := by decide +kernel
theorem dX6_peace_31 : decode cX6_peace 31 = .ok (.iload_n 2, 1) := by decide +kernel
theorem dX6_peace_32 : decode cX6_peace 32 = .ok (.invokestatic 341, 3) := by decide +kernel
theorem dX6_peace_35 : decode cX6_peace 35 = .ok (.if_icmp .le 14, 3) := by decide +kernel
theorem dX6_peace_38 : decode cX6_peace 38 = .ok (.aload_n 0, 1) := by decide +kernel
theorem dX6_peace_39 : decode cX6_peace 39 = .ok (.iload_n 3, 1) := by decide +kernel
theorem dX6_peace_40 : decode cX6_peace 40 = .ok (.iload_n 1, 1) := by decide +kernel
theorem dX6_peace_41 : decode cX6_peace 41 = .ok (.invokevirtual 380, 3) := by decide +kernel
theorem dX6_peace_44 : decode cX6_peace 44 = .ok (.ifCond .ne 5, 3) := by decide +kernel
theorem dX6_peace_47 : decode cX6_peace 47 = .ok (.iload_n 3, 1) := by decide +kernel
theorem dX6_peace_48 : decode cX6_peace 48 = .ok (.istore_n 2, 1) := by decide +kernel
theorem dX6_peace_49 : decode cX6_peace 49 = .ok (.iinc 3 1, 3) := by decide +kernel
theorem dX6_peace_52 : decode cX6_peace 52 = .ok (.goto (-48), 3) := by decide +kernel
theorem dX6_peace_55 : decode cX6_peace 55 = .ok (.iload_n 2, 1) := by decide +kernel
theorem dX6_peace_56 : decode cX6_peace 56 = .ok (.ireturn, 1) := by decide +kernel
theorem dX6_sizeOf_0 : decode cX6_sizeOf 0 = .ok (.iload_n 0, 1) := by decide +kernel
theorem dX6_sizeOf_1 : decode cX6_sizeOf 1 = .ok (.iconst (-1), 1) := by decide +kernel
theorem dX6_sizeOf_2 : decode cX6_sizeOf 2 = .ok (.if_icmp .ne 7, 3) := by decide +kernel
theorem dX6_sizeOf_5 : decode cX6_sizeOf 5 = .ok (.iconst (-1), 1) := by decide +kernel
theorem dX6_sizeOf_6 : decode cX6_sizeOf 6 = .ok (.goto 7, 3) := by decide +kernel
theorem dX6_sizeOf_9 : decode cX6_sizeOf 9 = .ok (.iload_n 0, 1) := by decide +kernel
theorem dX6_sizeOf_10 : decode cX6_sizeOf 10 = .ok (.invokestatic 341, 3) := by decide +kernel
theorem dX6_sizeOf_13 : decode cX6_sizeOf 13 = .ok (.ireturn, 1) := by decide +kernel
theorem dX6_struck_0 : decode cX6_struck 0 = .ok (.iconst (-1), 1) := by decide +kernel
theorem dX6_struck_1 : decode cX6_struck 1 = .ok (.istore_n 1, 1) := by decide +kernel
theorem dX6_struck_2 : decode cX6_struck 2 = .ok (.iconst (-1), 1) := by decide +kernel
theorem dX6_struck_3 : decode cX6_struck 3 = .ok (.istore_n 2, 1) := by decide +kernel
theorem dX6_struck_4 : decode cX6_struck 4 = .ok (.iconst 0, 1) := by decide +kernel
theorem dX6_struck_5 : decode cX6_struck 5 = .ok (.istore_n 3, 1) := by decide +kernel
theorem dX6_struck_6 : decode cX6_struck 6 = .ok (.iload_n 3, 1) := by decide +kernel
theorem dX6_struck_7 : decode cX6_struck 7 = .ok (.aload_n 0, 1) := by decide +kernel
theorem dX6_struck_8 : decode cX6_struck 8 = .ok (.getfield 89, 3) := by decide +kernel
theorem dX6_struck_11 : decode cX6_struck 11 = .ok (.if_icmp .ge 35, 3) := by decide +kernel
theorem dX6_struck_14 : decode cX6_struck 14 = .ok (.aload_n 0, 1) := by decide +kernel
theorem dX6_struck_15 : decode cX6_struck 15 = .ok (.iload_n 3, 1) := by decide +kernel
theorem dX6_struck_16 : decode cX6_struck 16 = .ok (.invokevirtual 383, 3) := by decide +kernel
theorem dX6_struck_19 : decode cX6_struck 19 = .ok (.invokestatic 386, 3) := by decide +kernel
theorem dX6_struck_22 : decode cX6_struck 22 = .ok (.istore 4, 2) := by decide +kernel
theorem dX6_struck_24 : decode cX6_struck 24 = .ok (.iload_n 1, 1) := by decide +kernel
theorem dX6_struck_25 : decode cX6_struck 25 = .ok (.iconst (-1), 1) := by decide +kernel
theorem dX6_struck_26 : decode cX6_struck 26 = .ok (.if_icmp .eq 9, 3) := by decide +kernel
theorem dX6_struck_29 : decode cX6_struck 29 = .ok (.iload 4, 2) := by decide +kernel
theorem dX6_struck_31 : decode cX6_struck 31 = .ok (.iload_n 2, 1) := by decide +kernel
theorem dX6_struck_32 : decode cX6_struck 32 = .ok (.if_icmp .le 8, 3) := by decide +kernel
theorem dX6_struck_35 : decode cX6_struck 35 = .ok (.iload_n 3, 1) := by decide +kernel
theorem dX6_struck_36 : decode cX6_struck 36 = .ok (.istore_n 1, 1) := by decide +kernel
theorem dX6_struck_37 : decode cX6_struck 37 = .ok (.iload 4, 2) := by decide +kernel
theorem dX6_struck_39 : decode cX6_struck 39 = .ok (.istore_n 2, 1) := by decide +kernel
theorem dX6_struck_40 : decode cX6_struck 40 = .ok (.iinc 3 1, 3) := by decide +kernel
theorem dX6_struck_43 : decode cX6_struck 43 = .ok (.goto (-37), 3) := by decide +kernel
theorem dX6_struck_46 : decode cX6_struck 46 = .ok (.iload_n 1, 1) := by decide +kernel
theorem dX6_struck_47 : decode cX6_struck 47 = .ok (.ireturn, 1) := by decide +kernel
theorem dX6_vainSet_0 : decode cX6_vainSet 0 = .ok (.iconst 0, 1) := by decide +kernel
theorem dX6_vainSet_1 : decode cX6_vainSet 1 = .ok (.istore_n 1, 1) := by decide +kernel
theorem dX6_vainSet_2 : decode cX6_vainSet 2 = .ok (.iconst 0, 1) := by decide +kernel
theorem dX6_vainSet_3 : decode cX6_vainSet 3 = .ok (.istore_n 2, 1) := by decide +kernel
theorem dX6_vainSet_4 : decode cX6_vainSet 4 = .ok (.iload_n 2, 1) := by decide +kernel
theorem dX6_vainSet_5 : decode cX6_vainSet 5 = .ok (.aload_n 0, 1) := by decide +kernel
theorem dX6_vainSet_6 : decode cX6_vainSet 6 = .ok (.getfield 89, 3) := by decide +kernel
theorem dX6_vainSet_9 : decode cX6_vainSet 9 = .ok (.if_icmp .ge 40, 3) := by decide +kernel
theorem dX6_vainSet_12 : decode cX6_vainSet 12 = .ok (.iload_n 1, 1) := by decide +kernel
theorem dX6_vainSet_13 : decode cX6_vainSet 13 = .ok (.aload_n 0, 1) := by decide +kernel
theorem dX6_vainSet_14 : decode cX6_vainSet 14 = .ok (.aload_n 0, 1) := by decide +kernel
theorem dX6_vainSet_15 : decode cX6_vainSet 15 = .ok (.getfield 26, 3) := by decide +kernel
theorem dX6_vainSet_18 : decode cX6_vainSet 18 = .ok (.iconst 2, 1) := by decide +kernel
theorem dX6_vainSet_19 : decode cX6_vainSet 19 = .ok (.iload_n 2, 1) := by decide +kernel
theorem dX6_vainSet_20 : decode cX6_vainSet 20 = .ok (.imul, 1) := by decide +kernel
theorem dX6_vainSet_21 : decode cX6_vainSet 21 = .ok (.iaload, 1) := by decide +kernel
theorem dX6_vainSet_22 : decode cX6_vainSet 22 = .ok (.iload_n 2, 1) := by decide +kernel
theorem dX6_vainSet_23 : decode cX6_vainSet 23 = .ok (.invokevirtual 377, 3) := by decide +kernel
theorem dX6_vainSet_26 : decode cX6_vainSet 26 = .ok (.aload_n 0, 1) := by decide +kernel
theorem dX6_vainSet_27 : decode cX6_vainSet 27 = .ok (.getfield 26, 3) := by decide +kernel
theorem dX6_vainSet_30 : decode cX6_vainSet 30 = .ok (.iconst 2, 1) := by decide +kernel
theorem dX6_vainSet_31 : decode cX6_vainSet 31 = .ok (.iload_n 2, 1) := by decide +kernel
theorem dX6_vainSet_32 : decode cX6_vainSet 32 = .ok (.imul, 1) := by decide +kernel
theorem dX6_vainSet_33 : decode cX6_vainSet 33 = .ok (.iconst 1, 1) := by decide +kernel
theorem dX6_vainSet_34 : decode cX6_vainSet 34 = .ok (.iadd, 1) := by decide +kernel
theorem dX6_vainSet_35 : decode cX6_vainSet 35 = .ok (.iaload, 1) := by decide +kernel
theorem dX6_vainSet_36 : decode cX6_vainSet 36 = .ok (.ishr, 1) := by decide +kernel
theorem dX6_vainSet_37 : decode cX6_vainSet 37 = .ok (.iconst 1, 1) := by decide +kernel
theorem dX6_vainSet_38 : decode cX6_vainSet 38 = .ok (.iand, 1) := by decide +kernel
theorem dX6_vainSet_39 : decode cX6_vainSet 39 = .ok (.iload_n 2, 1) := by decide +kernel
theorem dX6_vainSet_40 : decode cX6_vainSet 40 = .ok (.ishl, 1) := by decide +kernel
theorem dX6_vainSet_41 : decode cX6_vainSet 41 = .ok (.ior, 1) := by decide +kernel
theorem dX6_vainSet_42 : decode cX6_vainSet 42 = .ok (.istore_n 1, 1) := by decide +kernel
theorem dX6_vainSet_43 : decode cX6_vainSet 43 = .ok (.iinc 2 1, 3) := by decide +kernel
theorem dX6_vainSet_46 : decode cX6_vainSet 46 = .ok (.goto (-42), 3) := by decide +kernel
theorem dX6_vainSet_49 : decode cX6_vainSet 49 = .ok (.iload_n 1, 1) := by decide +kernel
theorem dX6_vainSet_50 : decode cX6_vainSet 50 = .ok (.ireturn, 1) := by decide +kernel
theorem dX6_best_0 : decode cX6_best 0 = .ok (.iload_n 1, 1) := by decide +kernel
theorem dX6_best_1 : decode cX6_best 1 = .ok (.i2l, 1) := by decide +kernel
theorem dX6_best_2 : decode cX6_best 2 = .ok (.lconst 0, 1) := by decide +kernel
theorem dX6_best_3 : decode cX6_best 3 = .ok (.ldc2_w 92, 3) := by decide +kernel
theorem dX6_best_6 : decode cX6_best 6 = .ok (.invokestatic 73, 3) := by decide +kernel
theorem dX6_best_9 : decode cX6_best 9 = .ok (.ifCond .ne 6, 3) := by decide +kernel
theorem dX6_best_12 : decode cX6_best 12 = .ok (.bipush (-2), 2) := by decide +kernel
theorem dX6_best_14 : decode cX6_best 14 = .ok (.ireturn, 1) := by decide +kernel
theorem dX6_best_15 : decode cX6_best 15 = .ok (.iload_n 1, 1) := by decide +kernel
theorem dX6_best_16 : decode cX6_best 16 = .ok (.iconst 2, 1) := by decide +kernel
theorem dX6_best_17 : decode cX6_best 17 = .ok (.if_icmp .ge 22, 3) := by decide +kernel
theorem dX6_best_20 : decode cX6_best 20 = .ok (.iload_n 1, 1) := by decide +kernel
theorem dX6_best_21 : decode cX6_best 21 = .ok (.ifCond .ne 10, 3) := by decide +kernel
theorem dX6_best_24 : decode cX6_best 24 = .ok (.aload_n 0, 1) := by decide +kernel
theorem dX6_best_25 : decode cX6_best 25 = .ok (.invokevirtual 389, 3) := by decide +kernel
theorem dX6_best_28 : decode cX6_best 28 = .ok (.goto 10, 3) := by decide +kernel
theorem dX6_best_31 : decode cX6_best 31 = .ok (.aload_n 0, 1) := by decide +kernel
theorem dX6_best_32 : decode cX6_best 32 = .ok (.invokevirtual 389, 3) := by decide +kernel
theorem dX6_best_35 : decode cX6_best 35 = .ok (.invokestatic 341, 3) := by decide +kernel
theorem dX6_best_38 : decode cX6_best 38 = .ok (.ireturn, 1) := by decide +kernel
theorem dX6_best_39 : decode cX6_best 39 = .ok (.iload_n 1, 1) := by decide +kernel
theorem dX6_best_40 : decode cX6_best 40 = .ok (.iconst 2, 1) := by decide +kernel
theorem dX6_best_41 : decode cX6_best 41 = .ok (.if_icmp .ne 11, 3) := by decide +kernel
theorem dX6_best_44 : decode cX6_best 44 = .ok (.aload_n 0, 1) := by decide +kernel
theorem dX6_best_45 : decode cX6_best 45 = .ok (.iconst (-1), 1) := by decide +kernel
theorem dX6_best_46 : decode cX6_best 46 = .ok (.invokevirtual 383, 3) := by decide +kernel
theorem dX6_best_49 : decode cX6_best 49 = .ok (.goto 35, 3) := by decide +kernel
theorem dX6_best_52 : decode cX6_best 52 = .ok (.iload_n 1, 1) := by decide +kernel
theorem dX6_best_53 : decode cX6_best 53 = .ok (.iconst 3, 1) := by decide +kernel
theorem dX6_best_54 : decode cX6_best 54 = .ok (.if_icmp .ne 14, 3) := by decide +kernel
theorem dX6_best_57 : decode cX6_best 57 = .ok (.aload_n 0, 1) := by decide +kernel
theorem dX6_best_58 : decode cX6_best 58 = .ok (.iconst (-1), 1) := by decide +kernel
theorem dX6_best_59 : decode cX6_best 59 = .ok (.invokevirtual 383, 3) := by decide +kernel
theorem dX6_best_62 : decode cX6_best 62 = .ok (.invokestatic 386, 3) := by decide +kernel
theorem dX6_best_65 : decode cX6_best 65 = .ok (.goto 19, 3) := by decide +kernel
theorem dX6_best_68 : decode cX6_best 68 = .ok (.iload_n 1, 1) := by decide +kernel
theorem dX6_best_69 : decode cX6_best 69 = .ok (.iconst 4, 1) := by decide +kernel
theorem dX6_best_70 : decode cX6_best 70 = .ok (.if_icmp .ne 10, 3) := by decide +kernel
theorem dX6_best_73 : decode cX6_best 73 = .ok (.aload_n 0, 1) := by decide +kernel
theorem dX6_best_74 : decode cX6_best 74 = .ok (.invokevirtual 392, 3) := by decide +kernel
theorem dX6_best_77 : decode cX6_best 77 = .ok (.goto 7, 3) := by decide +kernel
theorem dX6_best_80 : decode cX6_best 80 = .ok (.aload_n 0, 1) := by decide +kernel
theorem dX6_best_81 : decode cX6_best 81 = .ok (.invokevirtual 395, 3) := by decide +kernel
theorem dX6_best_84 : decode cX6_best 84 = .ok (.ireturn, 1) := by decide +kernel
theorem dX6_why_0 : decode cX6_why 0 = .ok (.iload_n 1, 1) := by decide +kernel
theorem dX6_why_1 : decode cX6_why 1 = .ok (.invokestatic 121, 3) := by decide +kernel
theorem dX6_why_4 : decode cX6_why 4 = .ok (.ifCond .eq 13, 3) := by decide +kernel
theorem dX6_why_7 : decode cX6_why 7 = .ok (.iload_n 2, 1) := by decide +kernel
theorem dX6_why_8 : decode cX6_why 8 = .ok (.i2l, 1) := by decide +kernel
theorem dX6_why_9 : decode cX6_why 9 = .ok (.lconst 0, 1) := by decide +kernel
theorem dX6_why_10 : decode cX6_why 10 = .ok (.lconst 1, 1) := by decide +kernel
theorem dX6_why_11 : decode cX6_why 11 = .ok (.invokestatic 73, 3) := by decide +kernel
theorem dX6_why_14 : decode cX6_why 14 = .ok (.ifCond .ne 6, 3) := by decide +kernel
theorem dX6_why_17 : decode cX6_why 17 = .ok (.bipush (-2), 2) := by decide +kernel
theorem dX6_why_19 : decode cX6_why 19 = .ok (.ireturn, 1) := by decide +kernel
theorem dX6_why_20 : decode cX6_why 20 = .ok (.iconst (-1), 1) := by decide +kernel
theorem dX6_why_21 : decode cX6_why 21 = .ok (.istore_n 3, 1) := by decide +kernel
theorem dX6_why_22 : decode cX6_why 22 = .ok (.iconst 0, 1) := by decide +kernel
theorem dX6_why_23 : decode cX6_why 23 = .ok (.istore 4, 2) := by decide +kernel
theorem dX6_why_25 : decode cX6_why 25 = .ok (.iload 4, 2) := by decide +kernel
theorem dX6_why_27 : decode cX6_why 27 = .ok (.sipush 4095, 3) := by decide +kernel
theorem dX6_why_30 : decode cX6_why 30 = .ok (.if_icmp .gt 65, 3) := by decide +kernel
theorem dX6_why_33 : decode cX6_why 33 = .ok (.iload_n 3, 1) := by decide +kernel
theorem dX6_why_34 : decode cX6_why 34 = .ok (.iconst (-1), 1) := by decide +kernel
theorem dX6_why_35 : decode cX6_why 35 = .ok (.if_icmp .eq 15, 3) := by decide +kernel
theorem dX6_why_38 : decode cX6_why 38 = .ok (.iload 4, 2) := by decide +kernel
theorem dX6_why_40 : decode cX6_why 40 = .ok (.invokestatic 341, 3) := by decide +kernel
theorem dX6_why_43 : decode cX6_why 43 = .ok (.iload_n 3, 1) := by decide +kernel
theorem dX6_why_44 : decode cX6_why 44 = .ok (.invokestatic 341, 3) := by decide +kernel
theorem dX6_why_47 : decode cX6_why 47 = .ok (.if_icmp .ge 7, 3) := by decide +kernel
theorem dX6_why_50 : decode cX6_why 50 = .ok (.iconst 1, 1) := by decide +kernel
theorem dX6_why_51 : decode cX6_why 51 = .ok (.goto 4, 3) := by decide +kernel
theorem dX6_why_54 : decode cX6_why 54 = .ok (.iconst 0, 1) := by decide +kernel
theorem dX6_why_55 : decode cX6_why 55 = .ok (.istore 5, 2) := by decide +kernel
theorem dX6_why_57 : decode cX6_why 57 = .ok (.iload 5, 2) := by decide +kernel
theorem dX6_why_59 : decode cX6_why 59 = .ok (.ifCond .eq 30, 3) := by decide +kernel
theorem dX6_why_62 : decode cX6_why 62 = .ok (.iload 4, 2) := by decide +kernel
theorem dX6_why_64 : decode cX6_why 64 = .ok (.iload_n 1, 1) := by decide +kernel
theorem dX6_why_65 : decode cX6_why 65 = .ok (.ishr, 1) := by decide +kernel
theorem dX6_why_66 : decode cX6_why 66 = .ok (.iconst 1, 1) := by decide +kernel
theorem dX6_why_67 : decode cX6_why 67 = .ok (.iand, 1) := by decide +kernel
theorem dX6_why_68 : decode cX6_why 68 = .ok (.ifCond .ne 21, 3) := by decide +kernel
theorem dX6_why_71 : decode cX6_why 71 = .ok (.aload_n 0, 1) := by decide +kernel
theorem dX6_why_72 : decode cX6_why 72 = .ok (.iload 4, 2) := by decide +kernel
theorem dX6_why_74 : decode cX6_why 74 = .ok (.iconst (-1), 1) := by decide +kernel
theorem dX6_why_75 : decode cX6_why 75 = .ok (.invokevirtual 377, 3) := by decide +kernel
theorem dX6_why_78 : decode cX6_why 78 = .ok (.iload_n 1, 1) := by decide +kernel
theorem dX6_why_79 : decode cX6_why 79 = .ok (.ishr, 1) := by decide +kernel
theorem dX6_why_80 : decode cX6_why 80 = .ok (.iconst 1, 1) := by decide +kernel
theorem dX6_why_81 : decode cX6_why 81 = .ok (.iand, 1) := by decide +kernel
theorem dX6_why_82 : decode cX6_why 82 = .ok (.iconst 1, 1) := by decide +kernel
theorem dX6_why_83 : decode cX6_why 83 = .ok (.if_icmp .ne 6, 3) := by decide +kernel
theorem dX6_why_86 : decode cX6_why 86 = .ok (.iload 4, 2) := by decide +kernel
theorem dX6_why_88 : decode cX6_why 88 = .ok (.istore_n 3, 1) := by decide +kernel
theorem dX6_why_89 : decode cX6_why 89 = .ok (.iinc 4 1, 3) := by decide +kernel
theorem dX6_why_92 : decode cX6_why 92 = .ok (.goto (-67), 3) := by decide +kernel
theorem dX6_why_95 : decode cX6_why 95 = .ok (.iload_n 2, 1) := by decide +kernel
theorem dX6_why_96 : decode cX6_why 96 = .ok (.ifCond .ne 7, 3) := by decide +kernel
theorem dX6_why_99 : decode cX6_why 99 = .ok (.iload_n 3, 1) := by decide +kernel
theorem dX6_why_100 : decode cX6_why 100 = .ok (.goto 7, 3) := by decide +kernel
theorem dX6_why_103 : decode cX6_why 103 = .ok (.iload_n 3, 1) := by decide +kernel
theorem dX6_why_104 : decode cX6_why 104 = .ok (.invokestatic 386, 3) := by decide +kernel
theorem dX6_why_107 : decode cX6_why 107 = .ok (.ireturn, 1) := by decide +kernel
theorem dX6_nextCup_0 : decode cX6_nextCup 0 = .ok (.iconst (-1), 1) := by decide +kernel
theorem dX6_nextCup_1 : decode cX6_nextCup 1 = .ok (.istore_n 3, 1) := by decide +kernel
theorem dX6_nextCup_2 : decode cX6_nextCup 2 = .ok (.aload_n 0, 1) := by decide +kernel
theorem dX6_nextCup_3 : decode cX6_nextCup 3 = .ok (.aload_n 0, 1) := by decide +kernel
theorem dX6_nextCup_4 : decode cX6_nextCup 4 = .ok (.getfield 110, 3) := by decide +kernel
theorem dX6_nextCup_7 : decode cX6_nextCup 7 = .ok (.iconst (-1), 1) := by decide +kernel
theorem dX6_nextCup_8 : decode cX6_nextCup 8 = .ok (.invokevirtual 377, 3) := by decide +kernel
theorem dX6_nextCup_11 : decode cX6_nextCup 11 = .ok (.invokestatic 341, 3) := by decide +kernel
theorem dX6_nextCup_14 : decode cX6_nextCup 14 = .ok (.istore 4, 2) := by decide +kernel
theorem dX6_nextCup_16 : decode cX6_nextCup 16 = .ok (.aload_n 0, 1) := by decide +kernel
theorem dX6_nextCup_17 : decode cX6_nextCup 17 = .ok (.getfield 89, 3) := by decide +kernel
theorem dX6_nextCup_20 : decode cX6_nextCup 20 = .ok (.bipush 12, 2) := by decide +kernel
theorem dX6_nextCup_22 : decode cX6_nextCup 22 = .ok (.if_icmp .ne 7, 3) := by decide +kernel
theorem dX6_nextCup_25 : decode cX6_nextCup 25 = .ok (.iconst 0, 1) := by decide +kernel
theorem dX6_nextCup_26 : decode cX6_nextCup 26 = .ok (.goto 7, 3) := by decide +kernel
theorem dX6_nextCup_29 : decode cX6_nextCup 29 = .ok (.aload_n 0, 1) := by decide +kernel
theorem dX6_nextCup_30 : decode cX6_nextCup 30 = .ok (.getfield 77, 3) := by decide +kernel
theorem dX6_nextCup_33 : decode cX6_nextCup 33 = .ok (.istore 5, 2) := by decide +kernel
theorem dX6_nextCup_35 : decode cX6_nextCup 35 = .ok (.iconst 0, 1) := by decide +kernel
theorem dX6_nextCup_36 : decode cX6_nextCup 36 = .ok (.istore 6, 2) := by decide +kernel
theorem dX6_nextCup_38 : decode cX6_nextCup 38 = .ok (.iload 6, 2) := by decide +kernel
theorem dX6_nextCup_40 : decode cX6_nextCup 40 = .ok (.iload 5, 2) := by decide +kernel
theorem dX6_nextCup_42 : decode cX6_nextCup 42 = .ok (.if_icmp .ge 74, 3) := by decide +kernel
theorem dX6_nextCup_45 : decode cX6_nextCup 45 = .ok (.aload_n 0, 1) := by decide +kernel
theorem dX6_nextCup_46 : decode cX6_nextCup 46 = .ok (.aload_n 0, 1) := by decide +kernel
theorem dX6_nextCup_47 : decode cX6_nextCup 47 = .ok (.iload_n 1, 1) := by decide +kernel
theorem dX6_nextCup_48 : decode cX6_nextCup 48 = .ok (.iload 6, 2) := by decide +kernel
theorem dX6_nextCup_50 : decode cX6_nextCup 50 = .ok (.invokevirtual 368, 3) := by decide +kernel
theorem dX6_nextCup_53 : decode cX6_nextCup 53 = .ok (.aload_n 0, 1) := by decide +kernel
theorem dX6_nextCup_54 : decode cX6_nextCup 54 = .ok (.getfield 23, 3) := by decide +kernel
theorem dX6_nextCup_57 : decode cX6_nextCup 57 = .ok (.iconst 2, 1) := by decide +kernel
theorem dX6_nextCup_58 : decode cX6_nextCup 58 = .ok (.iload 6, 2) := by decide +kernel
theorem dX6_nextCup_60 : decode cX6_nextCup 60 = .ok (.imul, 1) := by decide +kernel
theorem dX6_nextCup_61 : decode cX6_nextCup 61 = .ok (.iconst 1, 1) := by decide +kernel
theorem dX6_nextCup_62 : decode cX6_nextCup 62 = .ok (.iadd, 1) := by decide +kernel
theorem dX6_nextCup_63 : decode cX6_nextCup 63 = .ok (.iaload, 1) := by decide +kernel
theorem dX6_nextCup_64 : decode cX6_nextCup 64 = .ok (.invokevirtual 124, 3) := by decide +kernel
theorem dX6_nextCup_67 : decode cX6_nextCup 67 = .ok (.aload_n 0, 1) := by decide +kernel
theorem dX6_nextCup_68 : decode cX6_nextCup 68 = .ok (.aload_n 0, 1) := by decide +kernel
theorem dX6_nextCup_69 : decode cX6_nextCup 69 = .ok (.getfield 110, 3) := by decide +kernel
theorem dX6_nextCup_72 : decode cX6_nextCup 72 = .ok (.iconst (-1), 1) := by decide +kernel
theorem dX6_nextCup_73 : decode cX6_nextCup 73 = .ok (.invokevirtual 377, 3) := by decide +kernel
theorem dX6_nextCup_76 : decode cX6_nextCup 76 = .ok (.invokestatic 341, 3) := by decide +kernel
theorem dX6_nextCup_79 : decode cX6_nextCup 79 = .ok (.istore 7, 2) := by decide +kernel
theorem dX6_nextCup_81 : decode cX6_nextCup 81 = .ok (.aload_n 0, 1) := by decide +kernel
theorem dX6_nextCup_82 : decode cX6_nextCup 82 = .ok (.dup, 1) := by decide +kernel
theorem dX6_nextCup_83 : decode cX6_nextCup 83 = .ok (.getfield 89, 3) := by decide +kernel
theorem dX6_nextCup_86 : decode cX6_nextCup 86 = .ok (.iconst 1, 1) := by decide +kernel
theorem dX6_nextCup_87 : decode cX6_nextCup 87 = .ok (.isub, 1) := by decide +kernel
theorem dX6_nextCup_88 : decode cX6_nextCup 88 = .ok (.putfield 89, 3) := by decide +kernel
theorem dX6_nextCup_91 : decode cX6_nextCup 91 = .ok (.iload_n 3, 1) := by decide +kernel
theorem dX6_nextCup_92 : decode cX6_nextCup 92 = .ok (.iconst (-1), 1) := by decide +kernel
theorem dX6_nextCup_93 : decode cX6_nextCup 93 = .ok (.if_icmp .eq 10, 3) := by decide +kernel
theorem dX6_nextCup_96 : decode cX6_nextCup 96 = .ok (.iload 7, 2) := by decide +kernel
theorem dX6_nextCup_98 : decode cX6_nextCup 98 = .ok (.iload 4, 2) := by decide +kernel
theorem dX6_nextCup_100 : decode cX6_nextCup 100 = .ok (.if_icmp .le 10, 3) := by decide +kernel
theorem dX6_nextCup_103 : decode cX6_nextCup 103 = .ok (.iload 6, 2) := by decide +kernel
theorem dX6_nextCup_105 : decode cX6_nextCup 105 = .ok (.istore_n 3, 1) := by decide +kernel
theorem dX6_nextCup_106 : decode cX6_nextCup 106 = .ok (.iload 7, 2) := by decide +kernel
theorem dX6_nextCup_108 : decode cX6_nextCup 108 = .ok (.istore 4, 2) := by decide +kernel
theorem dX6_nextCup_110 : decode cX6_nextCup 110 = .ok (.iinc 6 1, 3) := by decide +kernel
theorem dX6_nextCup_113 : decode cX6_nextCup 113 = .ok (.goto (-75), 3) := by decide +kernel
theorem dX6_nextCup_116 : decode cX6_nextCup 116 = .ok (.iload_n 2, 1) := by decide +kernel
theorem dX6_nextCup_117 : decode cX6_nextCup 117 = .ok (.ifCond .ne 7, 3) := by decide +kernel
theorem dX6_nextCup_120 : decode cX6_nextCup 120 = .ok (.iload_n 3, 1) := by decide +kernel
theorem dX6_nextCup_121 : decode cX6_nextCup 121 = .ok (.goto 5, 3) := by decide +kernel
theorem dX6_nextCup_124 : decode cX6_nextCup 124 = .ok (.iload 4, 2) := by decide +kernel
theorem dX6_nextCup_126 : decode cX6_nextCup 126 = .ok (.ireturn, 1) := by decide +kernel
theorem dX6_dogs_0 : decode cX6_dogs 0 = .ok (.iconst 0, 1) := by decide +kernel
theorem dX6_dogs_1 : decode cX6_dogs 1 = .ok (.istore_n 2, 1) := by decide +kernel
theorem dX6_dogs_2 : decode cX6_dogs 2 = .ok (.iconst 0, 1) := by decide +kernel
theorem dX6_dogs_3 : decode cX6_dogs 3 = .ok (.istore_n 3, 1) := by decide +kernel
theorem dX6_dogs_4 : decode cX6_dogs 4 = .ok (.iload_n 3, 1) := by decide +kernel
theorem dX6_dogs_5 : decode cX6_dogs 5 = .ok (.aload_n 0, 1) := by decide +kernel
theorem dX6_dogs_6 : decode cX6_dogs 6 = .ok (.getfield 77, 3) := by decide +kernel
theorem dX6_dogs_9 : decode cX6_dogs 9 = .ok (.if_icmp .ge 53, 3) := by decide +kernel
theorem dX6_dogs_12 : decode cX6_dogs 12 = .ok (.iload_n 3, 1) := by decide +kernel
theorem dX6_dogs_13 : decode cX6_dogs 13 = .ok (.iconst 1, 1) := by decide +kernel
theorem dX6_dogs_14 : decode cX6_dogs 14 = .ok (.iadd, 1) := by decide +kernel
theorem dX6_dogs_15 : decode cX6_dogs 15 = .ok (.istore 4, 2) := by decide +kernel
theorem dX6_dogs_17 : decode cX6_dogs 17 = .ok (.iload 4, 2) := by decide +kernel
theorem dX6_dogs_19 : decode cX6_dogs 19 = .ok (.aload_n 0, 1) := by decide +kernel
theorem dX6_dogs_20 : decode cX6_dogs 20 = .ok (.getfield 77, 3) := by decide +kernel
theorem dX6_dogs_23 : decode cX6_dogs 23 = .ok (.if_icmp .ge 33, 3) := by decide +kernel
theorem dX6_dogs_26 : decode cX6_dogs 26 = .ok (.iload_n 2, 1) := by decide +kernel
theorem dX6_dogs_27 : decode cX6_dogs 27 = .ok (.aload_n 0, 1) := by decide +kernel
theorem dX6_dogs_28 : decode cX6_dogs 28 = .ok (.iload_n 1, 1) := by decide +kernel
theorem dX6_dogs_29 : decode cX6_dogs 29 = .ok (.iload_n 3, 1) := by decide +kernel
theorem dX6_dogs_30 : decode cX6_dogs 30 = .ok (.invokevirtual 368, 3) := by decide +kernel
theorem dX6_dogs_33 : decode cX6_dogs 33 = .ok (.aload_n 0, 1) := by decide +kernel
theorem dX6_dogs_34 : decode cX6_dogs 34 = .ok (.iload_n 1, 1) := by decide +kernel
theorem dX6_dogs_35 : decode cX6_dogs 35 = .ok (.iload 4, 2) := by decide +kernel
theorem dX6_dogs_37 : decode cX6_dogs 37 = .ok (.invokevirtual 368, 3) := by decide +kernel
theorem dX6_dogs_40 : decode cX6_dogs 40 = .ok (.if_icmp .ne 7, 3) := by decide +kernel
theorem dX6_dogs_43 : decode cX6_dogs 43 = .ok (.iconst 1, 1) := by decide +kernel
theorem dX6_dogs_44 : decode cX6_dogs 44 = .ok (.goto 4, 3) := by decide +kernel
theorem dX6_dogs_47 : decode cX6_dogs 47 = .ok (.iconst 0, 1) := by decide +kernel
theorem dX6_dogs_48 : decode cX6_dogs 48 = .ok (.iadd, 1) := by decide +kernel
theorem dX6_dogs_49 : decode cX6_dogs 49 = .ok (.istore_n 2, 1) := by decide +kernel
theorem dX6_dogs_50 : decode cX6_dogs 50 = .ok (.iinc 4 1, 3) := by decide +kernel
theorem dX6_dogs_53 : decode cX6_dogs 53 = .ok (.goto (-36), 3) := by decide +kernel
theorem dX6_dogs_56 : decode cX6_dogs 56 = .ok (.iinc 3 1, 3) := by decide +kernel
theorem dX6_dogs_59 : decode cX6_dogs 59 = .ok (.goto (-55), 3) := by decide +kernel
theorem dX6_dogs_62 : decode cX6_dogs 62 = .ok (.iload_n 2, 1) := by decide +kernel
theorem dX6_dogs_63 : decode cX6_dogs 63 = .ok (.ireturn, 1) := by decide +kernel
theorem dX6_next_0 : decode cX6_next 0 = .ok (.aload_n 0, 1) := by decide +kernel
theorem dX6_next_1 : decode cX6_next 1 = .ok (.iload_n 1, 1) := by decide +kernel
theorem dX6_next_2 : decode cX6_next 2 = .ok (.invokevirtual 86, 3) := by decide +kernel
theorem dX6_next_5 : decode cX6_next 5 = .ok (.ifCond .eq 15, 3) := by decide +kernel
theorem dX6_next_8 : decode cX6_next 8 = .ok (.iload_n 2, 1) := by decide +kernel
theorem dX6_next_9 : decode cX6_next 9 = .ok (.i2l, 1) := by decide +kernel
theorem dX6_next_10 : decode cX6_next 10 = .ok (.lconst 0, 1) := by decide +kernel
theorem dX6_next_11 : decode cX6_next 11 = .ok (.ldc2_w 366, 3) := by decide +kernel
theorem dX6_next_14 : decode cX6_next 14 = .ok (.invokestatic 73, 3) := by decide +kernel
theorem dX6_next_17 : decode cX6_next 17 = .ok (.ifCond .ne 6, 3) := by decide +kernel
theorem dX6_next_20 : decode cX6_next 20 = .ok (.bipush (-2), 2) := by decide +kernel
theorem dX6_next_22 : decode cX6_next 22 = .ok (.ireturn, 1) := by decide +kernel
theorem dX6_next_23 : decode cX6_next 23 = .ok (.iload_n 2, 1) := by decide +kernel
theorem dX6_next_24 : decode cX6_next 24 = .ok (.iconst 2, 1) := by decide +kernel
theorem dX6_next_25 : decode cX6_next 25 = .ok (.if_icmp .ne 11, 3) := by decide +kernel
theorem dX6_next_28 : decode cX6_next 28 = .ok (.aload_n 0, 1) := by decide +kernel
theorem dX6_next_29 : decode cX6_next 29 = .ok (.iload_n 1, 1) := by decide +kernel
theorem dX6_next_30 : decode cX6_next 30 = .ok (.invokevirtual 398, 3) := by decide +kernel
theorem dX6_next_33 : decode cX6_next 33 = .ok (.goto 9, 3) := by decide +kernel
theorem dX6_next_36 : decode cX6_next 36 = .ok (.aload_n 0, 1) := by decide +kernel
theorem dX6_next_37 : decode cX6_next 37 = .ok (.iload_n 1, 1) := by decide +kernel
theorem dX6_next_38 : decode cX6_next 38 = .ok (.iload_n 2, 1) := by decide +kernel
theorem dX6_next_39 : decode cX6_next 39 = .ok (.invokevirtual 401, 3) := by decide +kernel
theorem dX6_next_42 : decode cX6_next 42 = .ok (.ireturn, 1) := by decide +kernel
theorem dX6_alike_0 : decode cX6_alike 0 = .ok (.aload_n 0, 1) := by decide +kernel
theorem dX6_alike_1 : decode cX6_alike 1 = .ok (.iload_n 1, 1) := by decide +kernel
theorem dX6_alike_2 : decode cX6_alike 2 = .ok (.invokevirtual 86, 3) := by decide +kernel
theorem dX6_alike_5 : decode cX6_alike 5 = .ok (.ifCond .eq 16, 3) := by decide +kernel
theorem dX6_alike_8 : decode cX6_alike 8 = .ok (.aload_n 0, 1) := by decide +kernel
theorem dX6_alike_9 : decode cX6_alike 9 = .ok (.iload_n 2, 1) := by decide +kernel
theorem dX6_alike_10 : decode cX6_alike 10 = .ok (.invokevirtual 86, 3) := by decide +kernel
theorem dX6_alike_13 : decode cX6_alike 13 = .ok (.ifCond .eq 8, 3) := by decide +kernel
theorem dX6_alike_16 : decode cX6_alike 16 = .ok (.iload_n 1, 1) := by decide +kernel
theorem dX6_alike_17 : decode cX6_alike 17 = .ok (.iload_n 2, 1) := by decide +kernel
theorem dX6_alike_18 : decode cX6_alike 18 = .ok (.if_icmp .ne 6, 3) := by decide +kernel
theorem dX6_alike_21 : decode cX6_alike 21 = .ok (.bipush (-2), 2) := by decide +kernel
theorem dX6_alike_23 : decode cX6_alike 23 = .ok (.ireturn, 1) := by decide +kernel
theorem dX6_alike_24 : decode cX6_alike 24 = .ok (.iconst 0, 1) := by decide +kernel
theorem dX6_alike_25 : decode cX6_alike 25 = .ok (.istore_n 3, 1) := by decide +kernel
theorem dX6_alike_26 : decode cX6_alike 26 = .ok (.iconst 0, 1) := by decide +kernel
theorem dX6_alike_27 : decode cX6_alike 27 = .ok (.istore 4, 2) := by decide +kernel
theorem dX6_alike_29 : decode cX6_alike 29 = .ok (.iload 4, 2) := by decide +kernel
theorem dX6_alike_31 : decode cX6_alike 31 = .ok (.aload_n 0, 1) := by decide +kernel
theorem dX6_alike_32 : decode cX6_alike 32 = .ok (.getfield 77, 3) := by decide +kernel
theorem dX6_alike_35 : decode cX6_alike 35 = .ok (.if_icmp .ge 37, 3) := by decide +kernel
theorem dX6_alike_38 : decode cX6_alike 38 = .ok (.iload_n 3, 1) := by decide +kernel
theorem dX6_alike_39 : decode cX6_alike 39 = .ok (.aload_n 0, 1) := by decide +kernel
theorem dX6_alike_40 : decode cX6_alike 40 = .ok (.iload_n 1, 1) := by decide +kernel
theorem dX6_alike_41 : decode cX6_alike 41 = .ok (.iload 4, 2) := by decide +kernel
theorem dX6_alike_43 : decode cX6_alike 43 = .ok (.invokevirtual 368, 3) := by decide +kernel
theorem dX6_alike_46 : decode cX6_alike 46 = .ok (.aload_n 0, 1) := by decide +kernel
theorem dX6_alike_47 : decode cX6_alike 47 = .ok (.iload_n 2, 1) := by decide +kernel
theorem dX6_alike_48 : decode cX6_alike 48 = .ok (.iload 4, 2) := by decide +kernel
theorem dX6_alike_50 : decode cX6_alike 50 = .ok (.invokevirtual 368, 3) := by decide +kernel
theorem dX6_alike_53 : decode cX6_alike 53 = .ok (.if_icmp .ne 7, 3) := by decide +kernel
theorem dX6_alike_56 : decode cX6_alike 56 = .ok (.iconst 1, 1) := by decide +kernel
theorem dX6_alike_57 : decode cX6_alike 57 = .ok (.goto 4, 3) := by decide +kernel
theorem dX6_alike_60 : decode cX6_alike 60 = .ok (.iconst 0, 1) := by decide +kernel
theorem dX6_alike_61 : decode cX6_alike 61 = .ok (.iload 4, 2) := by decide +kernel
theorem dX6_alike_63 : decode cX6_alike 63 = .ok (.ishl, 1) := by decide +kernel
theorem dX6_alike_64 : decode cX6_alike 64 = .ok (.ior, 1) := by decide +kernel
theorem dX6_alike_65 : decode cX6_alike 65 = .ok (.istore_n 3, 1) := by decide +kernel
theorem dX6_alike_66 : decode cX6_alike 66 = .ok (.iinc 4 1, 3) := by decide +kernel
theorem dX6_alike_69 : decode cX6_alike 69 = .ok (.goto (-40), 3) := by decide +kernel
theorem dX6_alike_72 : decode cX6_alike 72 = .ok (.iload_n 3, 1) := by decide +kernel
theorem dX6_alike_73 : decode cX6_alike 73 = .ok (.ireturn, 1) := by decide +kernel
theorem dX6_lowest_0 : decode cX6_lowest 0 = .ok (.lload_n 0, 1) := by decide +kernel
theorem dX6_lowest_1 : decode cX6_lowest 1 = .ok (.lstore 5, 2) := by decide +kernel
theorem dX6_lowest_3 : decode cX6_lowest 3 = .ok (.lload_n 2, 1) := by decide +kernel
theorem dX6_lowest_4 : decode cX6_lowest 4 = .ok (.lstore 7, 2) := by decide +kernel
theorem dX6_lowest_6 : decode cX6_lowest 6 = .ok (.lload 7, 2) := by decide +kernel
theorem dX6_lowest_8 : decode cX6_lowest 8 = .ok (.lconst 0, 1) := by decide +kernel
theorem dX6_lowest_9 : decode cX6_lowest 9 = .ok (.lcmp, 1) := by decide +kernel
theorem dX6_lowest_10 : decode cX6_lowest 10 = .ok (.ifCond .eq 21, 3) := by decide +kernel
theorem dX6_lowest_13 : decode cX6_lowest 13 = .ok (.lload 5, 2) := by decide +kernel
theorem dX6_lowest_15 : decode cX6_lowest 15 = .ok (.lload 7, 2) := by decide +kernel
theorem dX6_lowest_17 : decode cX6_lowest 17 = .ok (.lrem, 1) := by decide +kernel
theorem dX6_lowest_18 : decode cX6_lowest 18 = .ok (.lstore 9, 2) := by decide +kernel
theorem dX6_lowest_20 : decode cX6_lowest 20 = .ok (.lload 7, 2) := by decide +kernel
theorem dX6_lowest_22 : decode cX6_lowest 22 = .ok (.lstore 5, 2) := by decide +kernel
theorem dX6_lowest_24 : decode cX6_lowest 24 = .ok (.lload 9, 2) := by decide +kernel
theorem dX6_lowest_26 : decode cX6_lowest 26 = .ok (.lstore 7, 2) := by decide +kernel
theorem dX6_lowest_28 : decode cX6_lowest 28 = .ok (.goto (-22), 3) := by decide +kernel
theorem dX6_lowest_31 : decode cX6_lowest 31 = .ok (.iload 4, 2) := by decide +kernel
theorem dX6_lowest_33 : decode cX6_lowest 33 = .ok (.ifCond .ne 10, 3) := by decide +kernel
theorem dX6_lowest_36 : decode cX6_lowest 36 = .ok (.lload_n 0, 1) := by decide +kernel
theorem dX6_lowest_37 : decode cX6_lowest 37 = .ok (.lload 5, 2) := by decide +kernel
theorem dX6_lowest_39 : decode cX6_lowest 39 = .ok (.ldiv, 1) := by decide +kernel
theorem dX6_lowest_40 : decode cX6_lowest 40 = .ok (.goto 7, 3) := by decide +kernel
theorem dX6_lowest_43 : decode cX6_lowest 43 = .ok (.lload_n 2, 1) := by decide +kernel
theorem dX6_lowest_44 : decode cX6_lowest 44 = .ok (.lload 5, 2) := by decide +kernel
theorem dX6_lowest_46 : decode cX6_lowest 46 = .ok (.ldiv, 1) := by decide +kernel
theorem dX6_lowest_47 : decode cX6_lowest 47 = .ok (.lreturn, 1) := by decide +kernel
theorem dX6_share_0 : decode cX6_share 0 = .ok (.iload_n 1, 1) := by decide +kernel
theorem dX6_share_1 : decode cX6_share 1 = .ok (.i2l, 1) := by decide +kernel
theorem dX6_share_2 : decode cX6_share 2 = .ok (.lconst 0, 1) := by decide +kernel
theorem dX6_share_3 : decode cX6_share 3 = .ok (.lconst 1, 1) := by decide +kernel
theorem dX6_share_4 : decode cX6_share 4 = .ok (.invokestatic 73, 3) := by decide +kernel
theorem dX6_share_7 : decode cX6_share 7 = .ok (.ifCond .eq 26, 3) := by decide +kernel
theorem dX6_share_10 : decode cX6_share 10 = .ok (.aload_n 0, 1) := by decide +kernel
theorem dX6_share_11 : decode cX6_share 11 = .ok (.aload_n 0, 1) := by decide +kernel
theorem dX6_share_12 : decode cX6_share 12 = .ok (.getfield 110, 3) := by decide +kernel
theorem dX6_share_15 : decode cX6_share 15 = .ok (.iconst (-1), 1) := by decide +kernel
theorem dX6_share_16 : decode cX6_share 16 = .ok (.invokevirtual 377, 3) := by decide +kernel
theorem dX6_share_19 : decode cX6_share 19 = .ok (.invokestatic 341, 3) := by decide +kernel
theorem dX6_share_22 : decode cX6_share 22 = .ok (.i2l, 1) := by decide +kernel
theorem dX6_share_23 : decode cX6_share 23 = .ok (.ldc2_w 404, 3) := by decide +kernel
theorem dX6_share_26 : decode cX6_share 26 = .ok (.iload_n 1, 1) := by decide +kernel
theorem dX6_share_27 : decode cX6_share 27 = .ok (.invokestatic 406, 3) := by decide +kernel
theorem dX6_share_30 : decode cX6_share 30 = .ok (.goto 6, 3) := by decide +kernel
theorem dX6_share_33 : decode cX6_share 33 = .ok (.ldc2_w 410, 3) := by decide +kernel
theorem dX6_share_36 : decode cX6_share 36 = .ok (.lreturn, 1) := by decide +kernel
theorem dX6_firstOther_0 : decode cX6_firstOther 0 = .ok (.iconst 0, 1) := by decide +kernel
theorem dX6_firstOther_1 : decode cX6_firstOther 1 = .ok (.istore_n 3, 1) := by decide +kernel
theorem dX6_firstOther_2 : decode cX6_firstOther 2 = .ok (.iload_n 3, 1) := by decide +kernel
theorem dX6_firstOther_3 : decode cX6_firstOther 3 = .ok (.aload_n 0, 1) := by decide +kernel
theorem dX6_firstOther_4 : decode cX6_firstOther 4 = .ok (.getfield 57, 3) := by decide +kernel
theorem dX6_firstOther_7 : decode cX6_firstOther 7 = .ok (.iload_n 1, 1) := by decide +kernel
theorem dX6_firstOther_8 : decode cX6_firstOther 8 = .ok (.iaload, 1) := by decide +kernel
theorem dX6_firstOther_9 : decode cX6_firstOther 9 = .ok (.if_icmp .ge 31, 3) := by decide +kernel
theorem dX6_firstOther_12 : decode cX6_firstOther 12 = .ok (.aload_n 0, 1) := by decide +kernel
theorem dX6_firstOther_13 : decode cX6_firstOther 13 = .ok (.iload_n 2, 1) := by decide +kernel
theorem dX6_firstOther_14 : decode cX6_firstOther 14 = .ok (.iload_n 3, 1) := by decide +kernel
theorem dX6_firstOther_15 : decode cX6_firstOther 15 = .ok (.invokevirtual 368, 3) := by decide +kernel
theorem dX6_firstOther_18 : decode cX6_firstOther 18 = .ok (.aload_n 0, 1) := by decide +kernel
theorem dX6_firstOther_19 : decode cX6_firstOther 19 = .ok (.getfield 60, 3) := by decide +kernel
theorem dX6_firstOther_22 : decode cX6_firstOther 22 = .ok (.bipush 40, 2) := by decide +kernel
theorem dX6_firstOther_24 : decode cX6_firstOther 24 = .ok (.iload_n 1, 1) := by decide +kernel
theorem dX6_firstOther_25 : decode cX6_firstOther 25 = .ok (.imul, 1) := by decide +kernel
theorem dX6_firstOther_26 : decode cX6_firstOther 26 = .ok (.iload_n 3, 1) := by decide +kernel
theorem dX6_firstOther_27 : decode cX6_firstOther 27 = .ok (.iadd, 1) := by decide +kernel
theorem dX6_firstOther_28 : decode cX6_firstOther 28 = .ok (.iaload, 1) := by decide +kernel
theorem dX6_firstOther_29 : decode cX6_firstOther 29 = .ok (.if_icmp .eq 5, 3) := by decide +kernel
theorem dX6_firstOther_32 : decode cX6_firstOther 32 = .ok (.iload_n 3, 1) := by decide +kernel
theorem dX6_firstOther_33 : decode cX6_firstOther 33 = .ok (.ireturn, 1) := by decide +kernel
theorem dX6_firstOther_34 : decode cX6_firstOther 34 = .ok (.iinc 3 1, 3) := by decide +kernel
theorem dX6_firstOther_37 : decode cX6_firstOther 37 = .ok (.goto (-35), 3) := by decide +kernel
theorem dX6_firstOther_40 : decode cX6_firstOther 40 = .ok (.iconst (-1), 1) := by decide +kernel
theorem dX6_firstOther_41 : decode cX6_firstOther 41 = .ok (.ireturn, 1) := by decide +kernel
theorem dX6_likeSet_0 : decode cX6_likeSet 0 = .ok (.iconst 0, 1) := by decide +kernel
theorem dX6_likeSet_1 : decode cX6_likeSet 1 = .ok (.istore_n 2, 1) := by decide +kernel
theorem dX6_likeSet_2 : decode cX6_likeSet 2 = .ok (.iconst 0, 1) := by decide +kernel
theorem dX6_likeSet_3 : decode cX6_likeSet 3 = .ok (.istore_n 3, 1) := by decide +kernel
theorem dX6_likeSet_4 : decode cX6_likeSet 4 = .ok (.iload_n 3, 1) := by decide +kernel
theorem dX6_likeSet_5 : decode cX6_likeSet 5 = .ok (.aload_n 0, 1) := by decide +kernel
theorem dX6_likeSet_6 : decode cX6_likeSet 6 = .ok (.getfield 70, 3) := by decide +kernel
theorem dX6_likeSet_9 : decode cX6_likeSet 9 = .ok (.if_icmp .ge 29, 3) := by decide +kernel
theorem dX6_likeSet_12 : decode cX6_likeSet 12 = .ok (.iload_n 2, 1) := by decide +kernel
theorem dX6_likeSet_13 : decode cX6_likeSet 13 = .ok (.aload_n 0, 1) := by decide +kernel
theorem dX6_likeSet_14 : decode cX6_likeSet 14 = .ok (.iload_n 1, 1) := by decide +kernel
theorem dX6_likeSet_15 : decode cX6_likeSet 15 = .ok (.iload_n 3, 1) := by decide +kernel
theorem dX6_likeSet_16 : decode cX6_likeSet 16 = .ok (.invokevirtual 412, 3) := by decide +kernel
theorem dX6_likeSet_19 : decode cX6_likeSet 19 = .ok (.iconst (-1), 1) := by decide +kernel
theorem dX6_likeSet_20 : decode cX6_likeSet 20 = .ok (.if_icmp .ne 7, 3) := by decide +kernel
theorem dX6_likeSet_23 : decode cX6_likeSet 23 = .ok (.iconst 1, 1) := by decide +kernel
theorem dX6_likeSet_24 : decode cX6_likeSet 24 = .ok (.goto 4, 3) := by decide +kernel
theorem dX6_likeSet_27 : decode cX6_likeSet 27 = .ok (.iconst 0, 1) := by decide +kernel
theorem dX6_likeSet_28 : decode cX6_likeSet 28 = .ok (.iload_n 3, 1) := by decide +kernel
theorem dX6_likeSet_29 : decode cX6_likeSet 29 = .ok (.ishl, 1) := by decide +kernel
theorem dX6_likeSet_30 : decode cX6_likeSet 30 = .ok (.ior, 1) := by decide +kernel
theorem dX6_likeSet_31 : decode cX6_likeSet 31 = .ok (.istore_n 2, 1) := by decide +kernel
theorem dX6_likeSet_32 : decode cX6_likeSet 32 = .ok (.iinc 3 1, 3) := by decide +kernel
theorem dX6_likeSet_35 : decode cX6_likeSet 35 = .ok (.goto (-31), 3) := by decide +kernel
theorem dX6_likeSet_38 : decode cX6_likeSet 38 = .ok (.iload_n 2, 1) := by decide +kernel
theorem dX6_likeSet_39 : decode cX6_likeSet 39 = .ok (.ireturn, 1) := by decide +kernel
theorem dX6_tells_0 : decode cX6_tells 0 = .ok (.iload_n 1, 1) := by decide +kernel
theorem dX6_tells_1 : decode cX6_tells 1 = .ok (.invokestatic 415, 3) := by decide +kernel
theorem dX6_tells_4 : decode cX6_tells 4 = .ok (.ifCond .eq 23, 3) := by decide +kernel
theorem dX6_tells_7 : decode cX6_tells 7 = .ok (.aload_n 0, 1) := by decide +kernel
theorem dX6_tells_8 : decode cX6_tells 8 = .ok (.iload_n 2, 1) := by decide +kernel
theorem dX6_tells_9 : decode cX6_tells 9 = .ok (.invokevirtual 86, 3) := by decide +kernel
theorem dX6_tells_12 : decode cX6_tells 12 = .ok (.ifCond .eq 15, 3) := by decide +kernel
theorem dX6_tells_15 : decode cX6_tells 15 = .ok (.iload_n 3, 1) := by decide +kernel
theorem dX6_tells_16 : decode cX6_tells 16 = .ok (.i2l, 1) := by decide +kernel
theorem dX6_tells_17 : decode cX6_tells 17 = .ok (.lconst 0, 1) := by decide +kernel
theorem dX6_tells_18 : decode cX6_tells 18 = .ok (.ldc2_w 418, 3) := by decide +kernel
theorem dX6_tells_21 : decode cX6_tells 21 = .ok (.invokestatic 73, 3) := by decide +kernel
theorem dX6_tells_24 : decode cX6_tells 24 = .ok (.ifCond .ne 6, 3) := by decide +kernel
theorem dX6_tells_27 : decode cX6_tells 27 = .ok (.bipush (-2), 2) := by decide +kernel
theorem dX6_tells_29 : decode cX6_tells 29 = .ok (.ireturn, 1) := by decide +kernel
theorem dX6_tells_30 : decode cX6_tells 30 = .ok (.aload_n 0, 1) := by decide +kernel
theorem dX6_tells_31 : decode cX6_tells 31 = .ok (.getfield 50, 3) := by decide +kernel
theorem dX6_tells_34 : decode cX6_tells 34 = .ok (.iload_n 1, 1) := by decide +kernel
theorem dX6_tells_35 : decode cX6_tells 35 = .ok (.baload, 1) := by decide +kernel
theorem dX6_tells_36 : decode cX6_tells 36 = .ok (.ifCond .ne 6, 3) := by decide +kernel
theorem dX6_tells_39 : decode cX6_tells 39 = .ok (.bipush (-11), 2) := by decide +kernel
theorem dX6_tells_41 : decode cX6_tells 41 = .ok (.ireturn, 1) := by decide +kernel
theorem dX6_tells_42 : decode cX6_tells 42 = .ok (.aload_n 0, 1) := by decide +kernel
theorem dX6_tells_43 : decode cX6_tells 43 = .ok (.getfield 57, 3) := by decide +kernel
theorem dX6_tells_46 : decode cX6_tells 46 = .ok (.iload_n 1, 1) := by decide +kernel
theorem dX6_tells_47 : decode cX6_tells 47 = .ok (.iaload, 1) := by decide +kernel
theorem dX6_tells_48 : decode cX6_tells 48 = .ok (.aload_n 0, 1) := by decide +kernel
theorem dX6_tells_49 : decode cX6_tells 49 = .ok (.getfield 77, 3) := by decide +kernel
theorem dX6_tells_52 : decode cX6_tells 52 = .ok (.if_icmp .le 6, 3) := by decide +kernel
theorem dX6_tells_55 : decode cX6_tells 55 = .ok (.bipush (-2), 2) := by decide +kernel
theorem dX6_tells_57 : decode cX6_tells 57 = .ok (.ireturn, 1) := by decide +kernel
theorem dX6_tells_58 : decode cX6_tells 58 = .ok (.iload_n 3, 1) := by decide +kernel
theorem dX6_tells_59 : decode cX6_tells 59 = .ok (.ifCond .eq 9, 3) := by decide +kernel
theorem dX6_tells_62 : decode cX6_tells 62 = .ok (.iload_n 3, 1) := by decide +kernel
theorem dX6_tells_63 : decode cX6_tells 63 = .ok (.bipush 6, 2) := by decide +kernel
theorem dX6_tells_65 : decode cX6_tells 65 = .ok (.if_icmp .ne 22, 3) := by decide +kernel
theorem dX6_tells_68 : decode cX6_tells 68 = .ok (.iload_n 3, 1) := by decide +kernel
theorem dX6_tells_69 : decode cX6_tells 69 = .ok (.ifCond .ne 12, 3) := by decide +kernel
theorem dX6_tells_72 : decode cX6_tells 72 = .ok (.aload_n 0, 1) := by decide +kernel
theorem dX6_tells_73 : decode cX6_tells 73 = .ok (.iload_n 1, 1) := by decide +kernel
theorem dX6_tells_74 : decode cX6_tells 74 = .ok (.iload_n 2, 1) := by decide +kernel
theorem dX6_tells_75 : decode cX6_tells 75 = .ok (.invokevirtual 412, 3) := by decide +kernel
theorem dX6_tells_78 : decode cX6_tells 78 = .ok (.goto 8, 3) := by decide +kernel
theorem dX6_tells_81 : decode cX6_tells 81 = .ok (.aload_n 0, 1) := by decide +kernel
theorem dX6_tells_82 : decode cX6_tells 82 = .ok (.iload_n 1, 1) := by decide +kernel
theorem dX6_tells_83 : decode cX6_tells 83 = .ok (.invokevirtual 420, 3) := by decide +kernel
theorem dX6_tells_86 : decode cX6_tells 86 = .ok (.ireturn, 1) := by decide +kernel
theorem dX6_tells_87 : decode cX6_tells 87 = .ok (.iload_n 3, 1) := by decide +kernel
theorem dX6_tells_88 : decode cX6_tells 88 = .ok (.iconst 1, 1) := by decide +kernel
theorem dX6_tells_89 : decode cX6_tells 89 = .ok (.if_icmp .ne 8, 3) := by decide +kernel
theorem dX6_tells_92 : decode cX6_tells 92 = .ok (.bipush 6, 2) := by decide +kernel
theorem dX6_tells_94 : decode cX6_tells 94 = .ok (.goto 23, 3) := by decide +kernel
theorem dX6_tells_97 : decode cX6_tells 97 = .ok (.iload_n 3, 1) := by decide +kernel
theorem dX6_tells_98 : decode cX6_tells 98 = .ok (.iconst 2, 1) := by decide +kernel
theorem dX6_tells_99 : decode cX6_tells 99 = .ok (.if_icmp .ne 7, 3) := by decide +kernel
theorem dX6_tells_102 : decode cX6_tells 102 = .ok (.iconst 4, 1) := by decide +kernel
theorem dX6_tells_103 : decode cX6_tells 103 = .ok (.goto 14, 3) := by decide +kernel
theorem dX6_tells_106 : decode cX6_tells 106 = .ok (.iload_n 3, 1) := by decide +kernel
theorem dX6_tells_107 : decode cX6_tells 107 = .ok (.iconst 5, 1) := by decide +kernel
theorem dX6_tells_108 : decode cX6_tells 108 = .ok (.if_icmp .ne 8, 3) := by decide +kernel
theorem dX6_tells_111 : decode cX6_tells 111 = .ok (.bipush 7, 2) := by decide +kernel
theorem dX6_tells_113 : decode cX6_tells 113 = .ok (.goto 4, 3) := by decide +kernel
theorem dX6_tells_116 : decode cX6_tells 116 = .ok (.iconst 1, 1) := by decide +kernel
theorem dX6_tells_117 : decode cX6_tells 117 = .ok (.istore 4, 2) := by decide +kernel
theorem dX6_tells_119 : decode cX6_tells 119 = .ok (.iload 4, 2) := by decide +kernel
theorem dX6_tells_121 : decode cX6_tells 121 = .ok (.bipush 7, 2) := by decide +kernel
theorem dX6_tells_123 : decode cX6_tells 123 = .ok (.if_icmp .ne 10, 3) := by decide +kernel
theorem dX6_tells_126 : decode cX6_tells 126 = .ok (.aload_n 0, 1) := by decide +kernel
theorem dX6_tells_127 : decode cX6_tells 127 = .ok (.getfield 116, 3) := by decide +kernel
theorem dX6_tells_130 : decode cX6_tells 130 = .ok (.goto 10, 3) := by decide +kernel
theorem dX6_tells_133 : decode cX6_tells 133 = .ok (.aload_n 0, 1) := by decide +kernel
theorem dX6_tells_134 : decode cX6_tells 134 = .ok (.iload_n 2, 1) := by decide +kernel
theorem dX6_tells_135 : decode cX6_tells 135 = .ok (.iload 4, 2) := by decide +kernel
theorem dX6_tells_137 : decode cX6_tells 137 = .ok (.invokevirtual 102, 3) := by decide +kernel
theorem dX6_tells_140 : decode cX6_tells 140 = .ok (.istore 5, 2) := by decide +kernel
theorem dX6_tells_142 : decode cX6_tells 142 = .ok (.iload 4, 2) := by decide +kernel
theorem dX6_tells_144 : decode cX6_tells 144 = .ok (.bipush 7, 2) := by decide +kernel
theorem dX6_tells_146 : decode cX6_tells 146 = .ok (.if_icmp .ne 12, 3) := by decide +kernel
theorem dX6_tells_149 : decode cX6_tells 149 = .ok (.aload_n 0, 1) := by decide +kernel
theorem dX6_tells_150 : decode cX6_tells 150 = .ok (.getfield 67, 3) := by decide +kernel
theorem dX6_tells_153 : decode cX6_tells 153 = .ok (.iconst 1, 1) := by decide +kernel
theorem dX6_tells_154 : decode cX6_tells 154 = .ok (.isub, 1) := by decide +kernel
theorem dX6_tells_155 : decode cX6_tells 155 = .ok (.goto 27, 3) := by decide +kernel
theorem dX6_tells_158 : decode cX6_tells 158 = .ok (.iload 4, 2) := by decide +kernel
theorem dX6_tells_160 : decode cX6_tells 160 = .ok (.bipush 6, 2) := by decide +kernel
theorem dX6_tells_162 : decode cX6_tells 162 = .ok (.if_icmp .ne 7, 3) := by decide +kernel
theorem dX6_tells_165 : decode cX6_tells 165 = .ok (.iconst 5, 1) := by decide +kernel
theorem dX6_tells_166 : decode cX6_tells 166 = .ok (.goto 16, 3) := by decide +kernel
theorem dX6_tells_169 : decode cX6_tells 169 = .ok (.iload 4, 2) := by decide +kernel
theorem dX6_tells_171 : decode cX6_tells 171 = .ok (.iconst 4, 1) := by decide +kernel
theorem dX6_tells_172 : decode cX6_tells 172 = .ok (.if_icmp .ne 8, 3) := by decide +kernel
theorem dX6_tells_175 : decode cX6_tells 175 = .ok (.bipush 9, 2) := by decide +kernel
theorem dX6_tells_177 : decode cX6_tells 177 = .ok (.goto 5, 3) := by decide +kernel
theorem dX6_tells_180 : decode cX6_tells 180 = .ok (.bipush 99, 2) := by decide +kernel
theorem dX6_tells_182 : decode cX6_tells 182 = .ok (.istore 6, 2) := by decide +kernel
theorem dX6_tells_184 : decode cX6_tells 184 = .ok (.iconst 0, 1) := by decide +kernel
theorem dX6_tells_185 : decode cX6_tells 185 = .ok (.istore 7, 2) := by decide +kernel
theorem dX6_tells_187 : decode cX6_tells 187 = .ok (.iconst 0, 1) := by decide +kernel
theorem dX6_tells_188 : decode cX6_tells 188 = .ok (.istore 8, 2) := by decide +kernel
theorem dX6_tells_190 : decode cX6_tells 190 = .ok (.iconst (-1), 1) := by decide +kernel
theorem dX6_tells_191 : decode cX6_tells 191 = .ok (.istore 9, 2) := by decide +kernel
theorem dX6_tells_193 : decode cX6_tells 193 = .ok (.iload 6, 2) := by decide +kernel
theorem dX6_tells_195 : decode cX6_tells 195 = .ok (.istore 10, 2) := by decide +kernel
theorem dX6_tells_197 : decode cX6_tells 197 = .ok (.iload 10, 2) := by decide +kernel
theorem dX6_tells_199 : decode cX6_tells 199 = .ok (.ifCond .lt 55, 3) := by decide +kernel
theorem dX6_tells_202 : decode cX6_tells 202 = .ok (.aload_n 0, 1) := by decide +kernel
theorem dX6_tells_203 : decode cX6_tells 203 = .ok (.iload 4, 2) := by decide +kernel
theorem dX6_tells_205 : decode cX6_tells 205 = .ok (.iload_n 2, 1) := by decide +kernel
theorem dX6_tells_206 : decode cX6_tells 206 = .ok (.iload 10, 2) := by decide +kernel
theorem dX6_tells_208 : decode cX6_tells 208 = .ok (.invokevirtual 106, 3) := by decide +kernel
theorem dX6_tells_211 : decode cX6_tells 211 = .ok (.aload_n 0, 1) := by decide +kernel
theorem dX6_tells_212 : decode cX6_tells 212 = .ok (.iload_n 1, 1) := by decide +kernel
theorem dX6_tells_213 : decode cX6_tells 213 = .ok (.iload_n 2, 1) := by decide +kernel
theorem dX6_tells_214 : decode cX6_tells 214 = .ok (.invokevirtual 412, 3) := by decide +kernel
theorem dX6_tells_217 : decode cX6_tells 217 = .ok (.iconst (-1), 1) := by decide +kernel
theorem dX6_tells_218 : decode cX6_tells 218 = .ok (.if_icmp .ne 30, 3) := by decide +kernel
theorem dX6_tells_221 : decode cX6_tells 221 = .ok (.iload 7, 2) := by decide +kernel
theorem dX6_tells_223 : decode cX6_tells 223 = .ok (.iload 10, 2) := by decide +kernel
theorem dX6_tells_225 : decode cX6_tells 225 = .ok (.bipush 10, 2) := by decide +kernel
theorem dX6_tells_227 : decode cX6_tells 227 = .ok (.if_icmp .ge 10, 3) := by decide +kernel
theorem dX6_tells_230 : decode cX6_tells 230 = .ok (.iconst 1, 1) := by decide +kernel
theorem dX6_tells_231 : decode cX6_tells 231 = .ok (.iload 10, 2) := by decide +kernel
theorem dX6_tells_233 : decode cX6_tells 233 = .ok (.ishl, 1) := by decide +kernel
theorem dX6_tells_234 : decode cX6_tells 234 = .ok (.goto 4, 3) := by decide +kernel
theorem dX6_tells_237 : decode cX6_tells 237 = .ok (.iconst 0, 1) := by decide +kernel
theorem dX6_tells_238 : decode cX6_tells 238 = .ok (.ior, 1) := by decide +kernel
theorem dX6_tells_239 : decode cX6_tells 239 = .ok (.istore 7, 2) := by decide +kernel
theorem dX6_tells_241 : decode cX6_tells 241 = .ok (.iinc 8 1, 3) := by decide +kernel
theorem dX6_tells_244 : decode cX6_tells 244 = .ok (.iload 10, 2) := by decide +kernel
theorem dX6_tells_246 : decode cX6_tells 246 = .ok (.istore 9, 2) := by decide +kernel
theorem dX6_tells_248 : decode cX6_tells 248 = .ok (.iinc 10 (-1), 3) := by decide +kernel
theorem dX6_tells_251 : decode cX6_tells 251 = .ok (.goto (-54), 3) := by decide +kernel
theorem dX6_tells_254 : decode cX6_tells 254 = .ok (.aload_n 0, 1) := by decide +kernel
theorem dX6_tells_255 : decode cX6_tells 255 = .ok (.iload 4, 2) := by decide +kernel
theorem dX6_tells_257 : decode cX6_tells 257 = .ok (.iload_n 2, 1) := by decide +kernel
theorem dX6_tells_258 : decode cX6_tells 258 = .ok (.iload 5, 2) := by decide +kernel
theorem dX6_tells_260 : decode cX6_tells 260 = .ok (.invokevirtual 106, 3) := by decide +kernel
theorem dX6_tells_263 : decode cX6_tells 263 = .ok (.iload_n 3, 1) := by decide +kernel
theorem dX6_tells_264 : decode cX6_tells 264 = .ok (.iconst 3, 1) := by decide +kernel
theorem dX6_tells_265 : decode cX6_tells 265 = .ok (.if_icmp .ne 8, 3) := by decide +kernel
theorem dX6_tells_268 : decode cX6_tells 268 = .ok (.iload 8, 2) := by decide +kernel
theorem dX6_tells_270 : decode cX6_tells 270 = .ok (.goto 15, 3) := by decide +kernel
theorem dX6_tells_273 : decode cX6_tells 273 = .ok (.iload_n 3, 1) := by decide +kernel
theorem dX6_tells_274 : decode cX6_tells 274 = .ok (.iconst 4, 1) := by decide +kernel
theorem dX6_tells_275 : decode cX6_tells 275 = .ok (.if_icmp .ne 8, 3) := by decide +kernel
theorem dX6_tells_278 : decode cX6_tells 278 = .ok (.iload 9, 2) := by decide +kernel
theorem dX6_tells_280 : decode cX6_tells 280 = .ok (.goto 5, 3) := by decide +kernel
theorem dX6_tells_283 : decode cX6_tells 283 = .ok (.iload 7, 2) := by decide +kernel
theorem dX6_tells_285 : decode cX6_tells 285 = .ok (.ireturn, 1) := by decide +kernel
theorem dX6_film_0 : decode cX6_film 0 = .ok (.iload_n 1, 1) := by decide +kernel
theorem dX6_film_1 : decode cX6_film 1 = .ok (.invokestatic 415, 3) := by decide +kernel
theorem dX6_film_4 : decode cX6_film 4 = .ok (.ifCond .eq 11, 3) := by decide +kernel
theorem dX6_film_7 : decode cX6_film 7 = .ok (.aload_n 0, 1) := by decide +kernel
theorem dX6_film_8 : decode cX6_film 8 = .ok (.iload_n 2, 1) := by decide +kernel
theorem dX6_film_9 : decode cX6_film 9 = .ok (.invokevirtual 86, 3) := by decide +kernel
theorem dX6_film_12 : decode cX6_film 12 = .ok (.ifCond .ne 6, 3) := by decide +kernel
theorem dX6_film_15 : decode cX6_film 15 = .ok (.bipush (-2), 2) := by decide +kernel
theorem dX6_film_17 : decode cX6_film 17 = .ok (.ireturn, 1) := by decide +kernel
theorem dX6_film_18 : decode cX6_film 18 = .ok (.aload_n 0, 1) := by decide +kernel
theorem dX6_film_19 : decode cX6_film 19 = .ok (.iload_n 1, 1) := by decide +kernel
theorem dX6_film_20 : decode cX6_film 20 = .ok (.iconst 1, 1) := by decide +kernel
theorem dX6_film_21 : decode cX6_film 21 = .ok (.aload_n 0, 1) := by decide +kernel
theorem dX6_film_22 : decode cX6_film 22 = .ok (.getfield 77, 3) := by decide +kernel
theorem dX6_film_25 : decode cX6_film 25 = .ok (.invokevirtual 423, 3) := by decide +kernel
theorem dX6_film_28 : decode cX6_film 28 = .ok (.pop, 1) := by decide +kernel
theorem dX6_film_29 : decode cX6_film 29 = .ok (.iconst 0, 1) := by decide +kernel
theorem dX6_film_30 : decode cX6_film 30 = .ok (.istore_n 3, 1) := by decide +kernel
theorem dX6_film_31 : decode cX6_film 31 = .ok (.iload_n 3, 1) := by decide +kernel
theorem dX6_film_32 : decode cX6_film 32 = .ok (.aload_n 0, 1) := by decide +kernel
theorem dX6_film_33 : decode cX6_film 33 = .ok (.getfield 77, 3) := by decide +kernel
theorem dX6_film_36 : decode cX6_film 36 = .ok (.if_icmp .ge 26, 3) := by decide +kernel
theorem dX6_film_39 : decode cX6_film 39 = .ok (.aload_n 0, 1) := by decide +kernel
theorem dX6_film_40 : decode cX6_film 40 = .ok (.getfield 60, 3) := by decide +kernel
theorem dX6_film_43 : decode cX6_film 43 = .ok (.bipush 40, 2) := by decide +kernel
theorem dX6_film_45 : decode cX6_film 45 = .ok (.iload_n 1, 1) := by decide +kernel
theorem dX6_film_46 : decode cX6_film 46 = .ok (.imul, 1) := by decide +kernel
theorem dX6_film_47 : decode cX6_film 47 = .ok (.iload_n 3, 1) := by decide +kernel
theorem dX6_film_48 : decode cX6_film 48 = .ok (.iadd, 1) := by decide +kernel
theorem dX6_film_49 : decode cX6_film 49 = .ok (.aload_n 0, 1) := by decide +kernel
theorem dX6_film_50 : decode cX6_film 50 = .ok (.iload_n 2, 1) := by decide +kernel
theorem dX6_film_51 : decode cX6_film 51 = .ok (.iload_n 3, 1) := by decide +kernel
theorem dX6_film_52 : decode cX6_film 52 = .ok (.invokevirtual 368, 3) := by decide +kernel
theorem dX6_film_55 : decode cX6_film 55 = .ok (.iastore, 1) := by decide +kernel
theorem dX6_film_56 : decode cX6_film 56 = .ok (.iinc 3 1, 3) := by decide +kernel
theorem dX6_film_59 : decode cX6_film 59 = .ok (.goto (-28), 3) := by decide +kernel
theorem dX6_film_62 : decode cX6_film 62 = .ok (.aload_n 0, 1) := by decide +kernel
theorem dX6_film_63 : decode cX6_film 63 = .ok (.getfield 77, 3) := by decide +kernel
theorem dX6_film_66 : decode cX6_film 66 = .ok (.ireturn, 1) := by decide +kernel
theorem dX6_followDrawn_0 : decode cX6_followDrawn 0 = .ok (.aload_n 0, 1) := by decide +kernel
theorem dX6_followDrawn_1 : decode cX6_followDrawn 1 = .ok (.getfield 113, 3) := by decide +kernel
theorem dX6_followDrawn_4 : decode cX6_followDrawn 4 = .ok (.istore_n 3, 1) := by decide +kernel
theorem dX6_followDrawn_5 : decode cX6_followDrawn 5 = .ok (.aload_n 0, 1) := by decide +kernel
theorem dX6_followDrawn_6 : decode cX6_followDrawn 6 = .ok (.getfield 89, 3) := by decide +kernel
theorem dX6_followDrawn_9 : decode cX6_followDrawn 9 = .ok (.istore 4, 2) := by decide +kernel
theorem dX6_followDrawn_11 : decode cX6_followDrawn 11 = .ok (.iconst 0, 1) := by decide +kernel
theorem dX6_followDrawn_12 : decode cX6_followDrawn 12 = .ok (.istore 5, 2) := by decide +kernel
theorem dX6_followDrawn_14 : decode cX6_followDrawn 14 = .ok (.iload 5, 2) := by decide +kernel
theorem dX6_followDrawn_16 : decode cX6_followDrawn 16 = .ok (.bipush 10, 2) := by decide +kernel
theorem dX6_followDrawn_18 : decode cX6_followDrawn 18 = .ok (.if_icmp .ge 23, 3) := by decide +kernel
theorem dX6_followDrawn_21 : decode cX6_followDrawn 21 = .ok (.aload_n 0, 1) := by decide +kernel
theorem dX6_followDrawn_22 : decode cX6_followDrawn 22 = .ok (.getfield 35, 3) := by decide +kernel
theorem dX6_followDrawn_25 : decode cX6_followDrawn 25 = .ok (.iload 5, 2) := by decide +kernel
theorem dX6_followDrawn_27 : decode cX6_followDrawn 27 = .ok (.aload_n 0, 1) := by decide +kernel
theorem dX6_followDrawn_28 : decode cX6_followDrawn 28 = .ok (.getfield 32, 3) := by decide +kernel
theorem dX6_followDrawn_31 : decode cX6_followDrawn 31 = .ok (.iload 5, 2) := by decide +kernel
theorem dX6_followDrawn_33 : decode cX6_followDrawn 33 = .ok (.iaload, 1) := by decide +kernel
theorem dX6_followDrawn_34 : decode cX6_followDrawn 34 = .ok (.iastore, 1) := by decide +kernel
theorem dX6_followDrawn_35 : decode cX6_followDrawn 35 = .ok (.iinc 5 1, 3) := by decide +kernel
theorem dX6_followDrawn_38 : decode cX6_followDrawn 38 = .ok (.goto (-24), 3) := by decide +kernel
theorem dX6_followDrawn_41 : decode cX6_followDrawn 41 = .ok (.iload_n 1, 1) := by decide +kernel
theorem dX6_followDrawn_42 : decode cX6_followDrawn 42 = .ok (.istore 5, 2) := by decide +kernel
theorem dX6_followDrawn_44 : decode cX6_followDrawn 44 = .ok (.iconst 0, 1) := by decide +kernel
theorem dX6_followDrawn_45 : decode cX6_followDrawn 45 = .ok (.istore 6, 2) := by decide +kernel
theorem dX6_followDrawn_47 : decode cX6_followDrawn 47 = .ok (.iload 6, 2) := by decide +kernel
theorem dX6_followDrawn_49 : decode cX6_followDrawn 49 = .ok (.iload_n 2, 1) := by decide +kernel
theorem dX6_followDrawn_50 : decode cX6_followDrawn 50 = .ok (.if_icmp .ge 98, 3) := by decide +kernel
theorem dX6_followDrawn_53 : decode cX6_followDrawn 53 = .ok (.iload 5, 2) := by decide +kernel
theorem dX6_followDrawn_55 : decode cX6_followDrawn 55 = .ok (.ldc_w 426, 3) := by decide +kernel
theorem dX6_followDrawn_58 : decode cX6_followDrawn 58 = .ok (.imul, 1) := by decide +kernel
theorem dX6_followDrawn_59 : decode cX6_followDrawn 59 = .ok (.sipush 12345, 3) := by decide +kernel
theorem dX6_followDrawn_62 : decode cX6_followDrawn 62 = .ok (.iadd, 1) := by decide +kernel
theorem dX6_followDrawn_63 : decode cX6_followDrawn 63 = .ok (.istore 5, 2) := by decide +kernel
theorem dX6_followDrawn_65 : decode cX6_followDrawn 65 = .ok (.iload 5, 2) := by decide +kernel
theorem dX6_followDrawn_67 : decode cX6_followDrawn 67 = .ok (.bipush 9, 2) := by decide +kernel
theorem dX6_followDrawn_69 : decode cX6_followDrawn 69 = .ok (.iushr, 1) := by decide +kernel
theorem dX6_followDrawn_70 : decode cX6_followDrawn 70 = .ok (.bipush 8, 2) := by decide +kernel
theorem dX6_followDrawn_72 : decode cX6_followDrawn 72 = .ok (.irem, 1) := by decide +kernel
theorem dX6_followDrawn_73 : decode cX6_followDrawn 73 = .ok (.istore 7, 2) := by decide +kernel
theorem dX6_followDrawn_75 : decode cX6_followDrawn 75 = .ok (.iload 5, 2) := by decide +kernel
theorem dX6_followDrawn_77 : decode cX6_followDrawn 77 = .ok (.ldc_w 426, 3) := by decide +kernel
theorem dX6_followDrawn_80 : decode cX6_followDrawn 80 = .ok (.imul, 1) := by decide +kernel
theorem dX6_followDrawn_81 : decode cX6_followDrawn 81 = .ok (.sipush 12345, 3) := by decide +kernel
theorem dX6_followDrawn_84 : decode cX6_followDrawn 84 = .ok (.iadd, 1) := by decide +kernel
theorem dX6_followDrawn_85 : decode cX6_followDrawn 85 = .ok (.istore 5, 2) := by decide +kernel
theorem dX6_followDrawn_87 : decode cX6_followDrawn 87 = .ok (.iload 5, 2) := by decide +kernel
theorem dX6_followDrawn_89 : decode cX6_followDrawn 89 = .ok (.bipush 9, 2) := by decide +kernel
theorem dX6_followDrawn_91 : decode cX6_followDrawn 91 = .ok (.iushr, 1) := by decide +kernel
theorem dX6_followDrawn_92 : decode cX6_followDrawn 92 = .ok (.bipush 8, 2) := by decide +kernel
theorem dX6_followDrawn_94 : decode cX6_followDrawn 94 = .ok (.irem, 1) := by decide +kernel
theorem dX6_followDrawn_95 : decode cX6_followDrawn 95 = .ok (.istore 8, 2) := by decide +kernel
theorem dX6_followDrawn_97 : decode cX6_followDrawn 97 = .ok (.aload_n 0, 1) := by decide +kernel
theorem dX6_followDrawn_98 : decode cX6_followDrawn 98 = .ok (.getfield 89, 3) := by decide +kernel
theorem dX6_followDrawn_101 : decode cX6_followDrawn 101 = .ok (.bipush 12, 2) := by decide +kernel
theorem dX6_followDrawn_103 : decode cX6_followDrawn 103 = .ok (.if_icmp .ge 39, 3) := by decide +kernel
theorem dX6_followDrawn_106 : decode cX6_followDrawn 106 = .ok (.aload_n 0, 1) := by decide +kernel
