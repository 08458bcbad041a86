theorem d_Ma_operand_12 : decode b_Ma_operand 12 = .ok (.aload_n 0, 1) := by decide +kernel
theorem d_Ma_operand_13 : decode b_Ma_operand 13 = .ok (.getfield 19, 3) := by decide +kernel
theorem d_Ma_operand_16 : decode b_Ma_operand 16 = .ok (.iload_n 3, 1) := by decide +kernel
theorem d_Ma_operand_17 : decode b_Ma_operand 17 = .ok (.iaload, 1) := by decide +kernel
theorem d_Ma_operand_18 : decode b_Ma_operand 18 = .ok (.goto 4, 3) := by decide +kernel
theorem d_Ma_operand_21 : decode b_Ma_operand 21 = .ok (.iconst 0, 1) := by decide +kernel
theorem d_Ma_operand_22 : decode b_Ma_operand 22 = .ok (.ireturn, 1) := by decide +kernel
theorem d_Ma_operand_23 : decode b_Ma_operand 23 = .ok (.aload_n 0, 1) := by decide +kernel
theorem d_Ma_operand_24 : decode b_Ma_operand 24 = .ok (.getfield 15, 3) := by decide +kernel
theorem d_Ma_operand_27 : decode b_Ma_operand 27 = .ok (.iload_n 2, 1) := by decide +kernel
theorem d_Ma_operand_28 : decode b_Ma_operand 28 = .ok (.iload_n 3, 1) := by decide +kernel
theorem d_Ma_operand_29 : decode b_Ma_operand 29 = .ok (.invokevirtual 66, 3) := by decide +kernel
theorem d_Ma_operand_32 : decode b_Ma_operand 32 = .ok (.ifCond .eq 25, 3) := by decide +kernel
theorem d_Ma_operand_35 : decode b_Ma_operand 35 = .ok (.aload_n 0, 1) := by decide +kernel
theorem d_Ma_operand_36 : decode b_Ma_operand 36 = .ok (.getfield 15, 3) := by decide +kernel
theorem d_Ma_operand_39 : decode b_Ma_operand 39 = .ok (.getfield 72, 3) := by decide +kernel
theorem d_Ma_operand_42 : decode b_Ma_operand 42 = .ok (.aload_n 0, 1) := by decide +kernel
theorem d_Ma_operand_43 : decode b_Ma_operand 43 = .ok (.getfield 15, 3) := by decide +kernel
theorem d_Ma_operand_46 : decode b_Ma_operand 46 = .ok (.getfield 75, 3) := by decide +kernel
theorem d_Ma_operand_49 : decode b_Ma_operand 49 = .ok (.iload_n 2, 1) := by decide +kernel
theorem d_Ma_operand_50 : decode b_Ma_operand 50 = .ok (.iaload, 1) := by decide +kernel
theorem d_Ma_operand_51 : decode b_Ma_operand 51 = .ok (.iload_n 3, 1) := by decide +kernel
theorem d_Ma_operand_52 : decode b_Ma_operand 52 = .ok (.iadd, 1) := by decide +kernel
theorem d_Ma_operand_53 : decode b_Ma_operand 53 = .ok (.iaload, 1) := by decide +kernel
theorem d_Ma_operand_54 : decode b_Ma_operand 54 = .ok (.goto 4, 3) := by decide +kernel
theorem d_Ma_operand_57 : decode b_Ma_operand 57 = .ok (.iconst 0, 1) := by decide +kernel
theorem d_Ma_operand_58 : decode b_Ma_operand 58 = .ok (.ireturn, 1) := by decide +kernel
theorem d_Ma_testMove_0 : decode b_Ma_testMove 0 = .ok (.aload_n 0, 1) := by decide +kernel
theorem d_Ma_testMove_1 : decode b_Ma_testMove 1 = .ok (.getfield 9, 3) := by decide +kernel
theorem d_Ma_testMove_4 : decode b_Ma_testMove 4 = .ok (.iload_n 1, 1) := by decide +kernel
theorem d_Ma_testMove_5 : decode b_Ma_testMove 5 = .ok (.invokevirtual 49, 3) := by decide +kernel
theorem d_Ma_testMove_8 : decode b_Ma_testMove 8 = .ok (.istore 4, 2) := by decide +kernel
theorem d_Ma_testMove_10 : decode b_Ma_testMove 10 = .ok (.iload 4, 2) := by decide +kernel
theorem d_Ma_testMove_12 : decode b_Ma_testMove 12 = .ok (.bipush 20, 2) := by decide +kernel
theorem d_Ma_testMove_14 : decode b_Ma_testMove 14 = .ok (.if_icmp .lt 7, 3) := by decide +kernel
theorem d_Ma_testMove_17 : decode b_Ma_testMove 17 = .ok (.iconst 1, 1) := by decide +kernel
theorem d_Ma_testMove_18 : decode b_Ma_testMove 18 = .ok (.goto 4, 3) := by decide +kernel
theorem d_Ma_testMove_21 : decode b_Ma_testMove 21 = .ok (.iconst 0, 1) := by decide +kernel
theorem d_Ma_testMove_22 : decode b_Ma_testMove 22 = .ok (.istore 5, 2) := by decide +kernel
theorem d_Ma_testMove_24 : decode b_Ma_testMove 24 = .ok (.iload 4, 2) := by decide +kernel
theorem d_Ma_testMove_26 : decode b_Ma_testMove 26 = .ok (.iload 5, 2) := by decide +kernel
theorem d_Ma_testMove_28 : decode b_Ma_testMove 28 = .ok (.ifCond .eq 8, 3) := by decide +kernel
theorem d_Ma_testMove_31 : decode b_Ma_testMove 31 = .ok (.bipush 20, 2) := by decide +kernel
theorem d_Ma_testMove_33 : decode b_Ma_testMove 33 = .ok (.goto 5, 3) := by decide +kernel
theorem d_Ma_testMove_36 : decode b_Ma_testMove 36 = .ok (.bipush 10, 2) := by decide +kernel
theorem d_Ma_testMove_38 : decode b_Ma_testMove 38 = .ok (.isub, 1) := by decide +kernel
theorem d_Ma_testMove_39 : decode b_Ma_testMove 39 = .ok (.istore 6, 2) := by decide +kernel
theorem d_Ma_testMove_41 : decode b_Ma_testMove 41 = .ok (.iload 6, 2) := by decide +kernel
theorem d_Ma_testMove_43 : decode b_Ma_testMove 43 = .ok (.iload_n 2, 1) := by decide +kernel
theorem d_Ma_testMove_44 : decode b_Ma_testMove 44 = .ok (.iload_n 3, 1) := by decide +kernel
theorem d_Ma_testMove_45 : decode b_Ma_testMove 45 = .ok (.invokestatic 76, 3) := by decide +kernel
theorem d_Ma_testMove_48 : decode b_Ma_testMove 48 = .ok (.ifCond .eq 14, 3) := by decide +kernel
theorem d_Ma_testMove_51 : decode b_Ma_testMove 51 = .ok (.iload 5, 2) := by decide +kernel
theorem d_Ma_testMove_53 : decode b_Ma_testMove 53 = .ok (.ifCond .eq 7, 3) := by decide +kernel
theorem d_Ma_testMove_56 : decode b_Ma_testMove 56 = .ok (.iconst 3, 1) := by decide +kernel
theorem d_Ma_testMove_57 : decode b_Ma_testMove 57 = .ok (.goto 4, 3) := by decide +kernel
theorem d_Ma_testMove_60 : decode b_Ma_testMove 60 = .ok (.iconst 2, 1) := by decide +kernel
theorem d_Ma_testMove_61 : decode b_Ma_testMove 61 = .ok (.ireturn, 1) := by decide +kernel
theorem d_Ma_testMove_62 : decode b_Ma_testMove 62 = .ok (.aload_n 0, 1) := by decide +kernel
theorem d_Ma_testMove_63 : decode b_Ma_testMove 63 = .ok (.getfield 9, 3) := by decide +kernel
theorem d_Ma_testMove_66 : decode b_Ma_testMove 66 = .ok (.iload_n 1, 1) := by decide +kernel
theorem d_Ma_testMove_67 : decode b_Ma_testMove 67 = .ok (.iconst 1, 1) := by decide +kernel
theorem d_Ma_testMove_68 : decode b_Ma_testMove 68 = .ok (.iadd, 1) := by decide +kernel
theorem d_Ma_testMove_69 : decode b_Ma_testMove 69 = .ok (.invokevirtual 49, 3) := by decide +kernel
theorem d_Ma_testMove_72 : decode b_Ma_testMove 72 = .ok (.istore 7, 2) := by decide +kernel
theorem d_Ma_testMove_74 : decode b_Ma_testMove 74 = .ok (.iload 5, 2) := by decide +kernel
theorem d_Ma_testMove_76 : decode b_Ma_testMove 76 = .ok (.ifCond .eq 23, 3) := by decide +kernel
theorem d_Ma_testMove_79 : decode b_Ma_testMove 79 = .ok (.sipush 256, 3) := by decide +kernel
theorem d_Ma_testMove_82 : decode b_Ma_testMove 82 = .ok (.iload 7, 2) := by decide +kernel
theorem d_Ma_testMove_84 : decode b_Ma_testMove 84 = .ok (.imul, 1) := by decide +kernel
theorem d_Ma_testMove_85 : decode b_Ma_testMove 85 = .ok (.aload_n 0, 1) := by decide +kernel
theorem d_Ma_testMove_86 : decode b_Ma_testMove 86 = .ok (.getfield 9, 3) := by decide +kernel
theorem d_Ma_testMove_89 : decode b_Ma_testMove 89 = .ok (.iload_n 1, 1) := by decide +kernel
theorem d_Ma_testMove_90 : decode b_Ma_testMove 90 = .ok (.iconst 2, 1) := by decide +kernel
theorem d_Ma_testMove_91 : decode b_Ma_testMove 91 = .ok (.iadd, 1) := by decide +kernel
theorem d_Ma_testMove_92 : decode b_Ma_testMove 92 = .ok (.invokevirtual 49, 3) := by decide +kernel
theorem d_Ma_testMove_95 : decode b_Ma_testMove 95 = .ok (.iadd, 1) := by decide +kernel
theorem d_Ma_testMove_96 : decode b_Ma_testMove 96 = .ok (.goto 5, 3) := by decide +kernel
theorem d_Ma_testMove_99 : decode b_Ma_testMove 99 = .ok (.iload 7, 2) := by decide +kernel
theorem d_Ma_testMove_101 : decode b_Ma_testMove 101 = .ok (.ireturn, 1) := by decide +kernel
theorem d_Ru_takesMark_0 : decode b_Ru_takesMark 0 = .ok (.iload_n 0, 1) := by decide +kernel
theorem d_Ru_takesMark_1 : decode b_Ru_takesMark 1 = .ok (.invokestatic 9, 3) := by decide +kernel
theorem d_Ru_takesMark_4 : decode b_Ru_takesMark 4 = .ok (.ifCond .ne 12, 3) := by decide +kernel
theorem d_Ru_takesMark_7 : decode b_Ru_takesMark 7 = .ok (.iload_n 1, 1) := by decide +kernel
theorem d_Ru_takesMark_8 : decode b_Ru_takesMark 8 = .ok (.ldc 15, 2) := by decide +kernel
theorem d_Ru_takesMark_10 : decode b_Ru_takesMark 10 = .ok (.iand, 1) := by decide +kernel
theorem d_Ru_takesMark_11 : decode b_Ru_takesMark 11 = .ok (.ldc 16, 2) := by decide +kernel
theorem d_Ru_takesMark_13 : decode b_Ru_takesMark 13 = .ok (.if_icmp .ge 7, 3) := by decide +kernel
theorem d_Ru_takesMark_16 : decode b_Ru_takesMark 16 = .ok (.iconst 1, 1) := by decide +kernel
theorem d_Ru_takesMark_17 : decode b_Ru_takesMark 17 = .ok (.goto 4, 3) := by decide +kernel
theorem d_Ru_takesMark_20 : decode b_Ru_takesMark 20 = .ok (.iconst 0, 1) := by decide +kernel
theorem d_Ru_takesMark_21 : decode b_Ru_takesMark 21 = .ok (.ireturn, 1) := by decide +kernel
theorem d_Ru_isBitRule_0 : decode b_Ru_isBitRule 0 = .ok (.iload_n 0, 1) := by decide +kernel
theorem d_Ru_isBitRule_1 : decode b_Ru_isBitRule 1 = .ok (.iconst 4, 1) := by decide +kernel
theorem d_Ru_isBitRule_2 : decode b_Ru_isBitRule 2 = .ok (.if_icmp .lt 7, 3) := by decide +kernel
theorem d_Ru_isBitRule_5 : decode b_Ru_isBitRule 5 = .ok (.iconst 1, 1) := by decide +kernel
theorem d_Ru_isBitRule_6 : decode b_Ru_isBitRule 6 = .ok (.goto 4, 3) := by decide +kernel
theorem d_Ru_isBitRule_9 : decode b_Ru_isBitRule 9 = .ok (.iconst 0, 1) := by decide +kernel
theorem d_Ru_isBitRule_10 : decode b_Ru_isBitRule 10 = .ok (.ireturn, 1) := by decide +kernel
theorem d_Ru_goesToYes_0 : decode b_Ru_goesToYes 0 = .ok (.iload_n 1, 1) := by decide +kernel
theorem d_Ru_goesToYes_1 : decode b_Ru_goesToYes 1 = .ok (.ldc 15, 2) := by decide +kernel
theorem d_Ru_goesToYes_3 : decode b_Ru_goesToYes 3 = .ok (.iand, 1) := by decide +kernel
theorem d_Ru_goesToYes_4 : decode b_Ru_goesToYes 4 = .ok (.ldc 16, 2) := by decide +kernel
theorem d_Ru_goesToYes_6 : decode b_Ru_goesToYes 6 = .ok (.if_icmp .le 16, 3) := by decide +kernel
theorem d_Ru_goesToYes_9 : decode b_Ru_goesToYes 9 = .ok (.iload_n 0, 1) := by decide +kernel
theorem d_Ru_goesToYes_10 : decode b_Ru_goesToYes 10 = .ok (.iconst 1, 1) := by decide +kernel
theorem d_Ru_goesToYes_11 : decode b_Ru_goesToYes 11 = .ok (.iand, 1) := by decide +kernel
theorem d_Ru_goesToYes_12 : decode b_Ru_goesToYes 12 = .ok (.iconst 1, 1) := by decide +kernel
theorem d_Ru_goesToYes_13 : decode b_Ru_goesToYes 13 = .ok (.if_icmp .ne 7, 3) := by decide +kernel
theorem d_Ru_goesToYes_16 : decode b_Ru_goesToYes 16 = .ok (.iconst 1, 1) := by decide +kernel
theorem d_Ru_goesToYes_17 : decode b_Ru_goesToYes 17 = .ok (.goto 4, 3) := by decide +kernel
theorem d_Ru_goesToYes_20 : decode b_Ru_goesToYes 20 = .ok (.iconst 0, 1) := by decide +kernel
theorem d_Ru_goesToYes_21 : decode b_Ru_goesToYes 21 = .ok (.ireturn, 1) := by decide +kernel
theorem d_Ru_goesToYes_22 : decode b_Ru_goesToYes 22 = .ok (.iload_n 0, 1) := by decide +kernel
theorem d_Ru_goesToYes_23 : decode b_Ru_goesToYes 23 = .ok (.invokestatic 9, 3) := by decide +kernel
theorem d_Ru_goesToYes_26 : decode b_Ru_goesToYes 26 = .ok (.ifCond .eq 28, 3) := by decide +kernel
theorem d_Ru_goesToYes_29 : decode b_Ru_goesToYes 29 = .ok (.iload_n 1, 1) := by decide +kernel
theorem d_Ru_goesToYes_30 : decode b_Ru_goesToYes 30 = .ok (.invokestatic 17, 3) := by decide +kernel
theorem d_Ru_goesToYes_33 : decode b_Ru_goesToYes 33 = .ok (.istore_n 3, 1) := by decide +kernel
theorem d_Ru_goesToYes_34 : decode b_Ru_goesToYes 34 = .ok (.iload_n 3, 1) := by decide +kernel
theorem d_Ru_goesToYes_35 : decode b_Ru_goesToYes 35 = .ok (.iconst (-1), 1) := by decide +kernel
theorem d_Ru_goesToYes_36 : decode b_Ru_goesToYes 36 = .ok (.if_icmp .eq 16, 3) := by decide +kernel
theorem d_Ru_goesToYes_39 : decode b_Ru_goesToYes 39 = .ok (.iload_n 2, 1) := by decide +kernel
theorem d_Ru_goesToYes_40 : decode b_Ru_goesToYes 40 = .ok (.iload_n 3, 1) := by decide +kernel
theorem d_Ru_goesToYes_41 : decode b_Ru_goesToYes 41 = .ok (.iushr, 1) := by decide +kernel
theorem d_Ru_goesToYes_42 : decode b_Ru_goesToYes 42 = .ok (.iconst 1, 1) := by decide +kernel
theorem d_Ru_goesToYes_43 : decode b_Ru_goesToYes 43 = .ok (.iand, 1) := by decide +kernel
theorem d_Ru_goesToYes_44 : decode b_Ru_goesToYes 44 = .ok (.iconst 1, 1) := by decide +kernel
theorem d_Ru_goesToYes_45 : decode b_Ru_goesToYes 45 = .ok (.if_icmp .ne 7, 3) := by decide +kernel
theorem d_Ru_goesToYes_48 : decode b_Ru_goesToYes 48 = .ok (.iconst 1, 1) := by decide +kernel
theorem d_Ru_goesToYes_49 : decode b_Ru_goesToYes 49 = .ok (.goto 4, 3) := by decide +kernel
theorem d_Ru_goesToYes_52 : decode b_Ru_goesToYes 52 = .ok (.iconst 0, 1) := by decide +kernel
theorem d_Ru_goesToYes_53 : decode b_Ru_goesToYes 53 = .ok (.ireturn, 1) := by decide +kernel
theorem d_Ru_goesToYes_54 : decode b_Ru_goesToYes 54 = .ok (.iload_n 0, 1) := by decide +kernel
theorem d_Ru_goesToYes_55 : decode b_Ru_goesToYes 55 = .ok (.iconst 2, 1) := by decide +kernel
theorem d_Ru_goesToYes_56 : decode b_Ru_goesToYes 56 = .ok (.if_icmp .ge 22, 3) := by decide +kernel
theorem d_Ru_goesToYes_59 : decode b_Ru_goesToYes 59 = .ok (.iload_n 1, 1) := by decide +kernel
theorem d_Ru_goesToYes_60 : decode b_Ru_goesToYes 60 = .ok (.invokestatic 21, 3) := by decide +kernel
theorem d_Ru_goesToYes_63 : decode b_Ru_goesToYes 63 = .ok (.iload_n 2, 1) := by decide +kernel
theorem d_Ru_goesToYes_64 : decode b_Ru_goesToYes 64 = .ok (.invokestatic 21, 3) := by decide +kernel
theorem d_Ru_goesToYes_67 : decode b_Ru_goesToYes 67 = .ok (.if_icmp .ge 7, 3) := by decide +kernel
theorem d_Ru_goesToYes_70 : decode b_Ru_goesToYes 70 = .ok (.iconst 1, 1) := by decide +kernel
theorem d_Ru_goesToYes_71 : decode b_Ru_goesToYes 71 = .ok (.goto 23, 3) := by decide +kernel
theorem d_Ru_goesToYes_74 : decode b_Ru_goesToYes 74 = .ok (.iconst 0, 1) := by decide +kernel
theorem d_Ru_goesToYes_75 : decode b_Ru_goesToYes 75 = .ok (.goto 19, 3) := by decide +kernel
theorem d_Ru_goesToYes_78 : decode b_Ru_goesToYes 78 = .ok (.iload_n 1, 1) := by decide +kernel
theorem d_Ru_goesToYes_79 : decode b_Ru_goesToYes 79 = .ok (.invokestatic 21, 3) := by decide +kernel
theorem d_Ru_goesToYes_82 : decode b_Ru_goesToYes 82 = .ok (.iload_n 2, 1) := by decide +kernel
theorem d_Ru_goesToYes_83 : decode b_Ru_goesToYes 83 = .ok (.invokestatic 21, 3) := by decide +kernel
theorem d_Ru_goesToYes_86 : decode b_Ru_goesToYes 86 = .ok (.if_icmp .gt 7, 3) := by decide +kernel
theorem d_Ru_goesToYes_89 : decode b_Ru_goesToYes 89 = .ok (.iconst 1, 1) := by decide +kernel
theorem d_Ru_goesToYes_90 : decode b_Ru_goesToYes 90 = .ok (.goto 4, 3) := by decide +kernel
theorem d_Ru_goesToYes_93 : decode b_Ru_goesToYes 93 = .ok (.iconst 0, 1) := by decide +kernel
theorem d_Ru_goesToYes_94 : decode b_Ru_goesToYes 94 = .ok (.ireturn, 1) := by decide +kernel
theorem d_Ru_orderOf_0 : decode b_Ru_orderOf 0 = .ok (.iload_n 0, 1) := by decide +kernel
theorem d_Ru_orderOf_1 : decode b_Ru_orderOf 1 = .ok (.ifCond .lt 7, 3) := by decide +kernel
theorem d_Ru_orderOf_4 : decode b_Ru_orderOf 4 = .ok (.iload_n 0, 1) := by decide +kernel
theorem d_Ru_orderOf_5 : decode b_Ru_orderOf 5 = .ok (.goto 8, 3) := by decide +kernel
theorem d_Ru_orderOf_8 : decode b_Ru_orderOf 8 = .ok (.iload_n 0, 1) := by decide +kernel
theorem d_Ru_orderOf_9 : decode b_Ru_orderOf 9 = .ok (.ldc 15, 2) := by decide +kernel
theorem d_Ru_orderOf_11 : decode b_Ru_orderOf 11 = .ok (.iand, 1) := by decide +kernel
theorem d_Ru_orderOf_12 : decode b_Ru_orderOf 12 = .ok (.ineg, 1) := by decide +kernel
theorem d_Ru_orderOf_13 : decode b_Ru_orderOf 13 = .ok (.ireturn, 1) := by decide +kernel
theorem d_Ru_wholeOf_0 : decode b_Ru_wholeOf 0 = .ok (.iload_n 0, 1) := by decide +kernel
theorem d_Ru_wholeOf_1 : decode b_Ru_wholeOf 1 = .ok (.ldc 15, 2) := by decide +kernel
theorem d_Ru_wholeOf_3 : decode b_Ru_wholeOf 3 = .ok (.iand, 1) := by decide +kernel
theorem d_Ru_wholeOf_4 : decode b_Ru_wholeOf 4 = .ok (.ifCond .ne 5, 3) := by decide +kernel
theorem d_Ru_wholeOf_7 : decode b_Ru_wholeOf 7 = .ok (.iconst 0, 1) := by decide +kernel
theorem d_Ru_wholeOf_8 : decode b_Ru_wholeOf 8 = .ok (.ireturn, 1) := by decide +kernel
theorem d_Ru_wholeOf_9 : decode b_Ru_wholeOf 9 = .ok (.iload_n 0, 1) := by decide +kernel
theorem d_Ru_wholeOf_10 : decode b_Ru_wholeOf 10 = .ok (.bipush 23, 2) := by decide +kernel
theorem d_Ru_wholeOf_12 : decode b_Ru_wholeOf 12 = .ok (.iushr, 1) := by decide +kernel
theorem d_Ru_wholeOf_13 : decode b_Ru_wholeOf 13 = .ok (.bipush 127, 2) := by decide +kernel
theorem d_Ru_wholeOf_15 : decode b_Ru_wholeOf 15 = .ok (.isub, 1) := by decide +kernel
theorem d_Ru_wholeOf_16 : decode b_Ru_wholeOf 16 = .ok (.istore_n 1, 1) := by decide +kernel
theorem d_Ru_wholeOf_17 : decode b_Ru_wholeOf 17 = .ok (.iload_n 1, 1) := by decide +kernel
theorem d_Ru_wholeOf_18 : decode b_Ru_wholeOf 18 = .ok (.ifCond .lt 8, 3) := by decide +kernel
theorem d_Ru_wholeOf_21 : decode b_Ru_wholeOf 21 = .ok (.iload_n 1, 1) := by decide +kernel
theorem d_Ru_wholeOf_22 : decode b_Ru_wholeOf 22 = .ok (.iconst 4, 1) := by decide +kernel
theorem d_Ru_wholeOf_23 : decode b_Ru_wholeOf 23 = .ok (.if_icmp .le 5, 3) := by decide +kernel
theorem d_Ru_wholeOf_26 : decode b_Ru_wholeOf 26 = .ok (.iconst (-1), 1) := by decide +kernel
theorem d_Ru_wholeOf_27 : decode b_Ru_wholeOf 27 = .ok (.ireturn, 1) := by decide +kernel
theorem d_Ru_wholeOf_28 : decode b_Ru_wholeOf 28 = .ok (.iload_n 0, 1) := by decide +kernel
theorem d_Ru_wholeOf_29 : decode b_Ru_wholeOf 29 = .ok (.ldc 24, 2) := by decide +kernel
theorem d_Ru_wholeOf_31 : decode b_Ru_wholeOf 31 = .ok (.iand, 1) := by decide +kernel
theorem d_Ru_wholeOf_32 : decode b_Ru_wholeOf 32 = .ok (.ldc 25, 2) := by decide +kernel
theorem d_Ru_wholeOf_34 : decode b_Ru_wholeOf 34 = .ok (.ior, 1) := by decide +kernel
theorem d_Ru_wholeOf_35 : decode b_Ru_wholeOf 35 = .ok (.istore_n 2, 1) := by decide +kernel
theorem d_Ru_wholeOf_36 : decode b_Ru_wholeOf 36 = .ok (.iload_n 2, 1) := by decide +kernel
theorem d_Ru_wholeOf_37 : decode b_Ru_wholeOf 37 = .ok (.bipush 23, 2) := by decide +kernel
theorem d_Ru_wholeOf_39 : decode b_Ru_wholeOf 39 = .ok (.iload_n 1, 1) := by decide +kernel
theorem d_Ru_wholeOf_40 : decode b_Ru_wholeOf 40 = .ok (.isub, 1) := by decide +kernel
theorem d_Ru_wholeOf_41 : decode b_Ru_wholeOf 41 = .ok (.ishr, 1) := by decide +kernel
theorem d_Ru_wholeOf_42 : decode b_Ru_wholeOf 42 = .ok (.istore_n 3, 1) := by decide +kernel
theorem d_Ru_wholeOf_43 : decode b_Ru_wholeOf 43 = .ok (.iload_n 3, 1) := by decide +kernel
theorem d_Ru_wholeOf_44 : decode b_Ru_wholeOf 44 = .ok (.bipush 23, 2) := by decide +kernel
theorem d_Ru_wholeOf_46 : decode b_Ru_wholeOf 46 = .ok (.iload_n 1, 1) := by decide +kernel
theorem d_Ru_wholeOf_47 : decode b_Ru_wholeOf 47 = .ok (.isub, 1) := by decide +kernel
theorem d_Ru_wholeOf_48 : decode b_Ru_wholeOf 48 = .ok (.ishl, 1) := by decide +kernel
theorem d_Ru_wholeOf_49 : decode b_Ru_wholeOf 49 = .ok (.iload_n 2, 1) := by decide +kernel
theorem d_Ru_wholeOf_50 : decode b_Ru_wholeOf 50 = .ok (.if_icmp .ne 7, 3) := by decide +kernel
theorem d_Ru_wholeOf_53 : decode b_Ru_wholeOf 53 = .ok (.iload_n 3, 1) := by decide +kernel
theorem d_Ru_wholeOf_54 : decode b_Ru_wholeOf 54 = .ok (.goto 4, 3) := by decide +kernel
theorem d_Ru_wholeOf_57 : decode b_Ru_wholeOf 57 = .ok (.iconst (-1), 1) := by decide +kernel
theorem d_Ru_wholeOf_58 : decode b_Ru_wholeOf 58 = .ok (.ireturn, 1) := by decide +kernel
theorem d_BF_init_0 : decode b_BF_init 0 = .ok (.aload_n 0, 1) := by decide +kernel
theorem d_BF_init_1 : decode b_BF_init 1 = .ok (.invokespecial 3, 3) := by decide +kernel
theorem d_BF_init_4 : decode b_BF_init 4 = .ok (.aload_n 0, 1) := by decide +kernel
theorem d_BF_init_5 : decode b_BF_init 5 = .ok (.bipush 8, 2) := by decide +kernel
theorem d_BF_init_7 : decode b_BF_init 7 = .ok (.newarray .int, 2) := by decide +kernel
theorem d_BF_init_9 : decode b_BF_init 9 = .ok (.putfield 9, 3) := by decide +kernel
theorem d_BF_init_12 : decode b_BF_init 12 = .ok (.aload_n 0, 1) := by decide +kernel
theorem d_BF_init_13 : decode b_BF_init 13 = .ok (.new 13, 3) := by decide +kernel
theorem d_BF_init_16 : decode b_BF_init 16 = .ok (.dup, 1) := by decide +kernel
theorem d_BF_init_17 : decode b_BF_init 17 = .ok (.invokespecial 15, 3) := by decide +kernel
theorem d_BF_init_20 : decode b_BF_init 20 = .ok (.putfield 16, 3) := by decide +kernel
theorem d_BF_init_23 : decode b_BF_init 23 = .ok (.aload_n 0, 1) := by decide +kernel
theorem d_BF_init_24 : decode b_BF_init 24 = .ok (.new 20, 3) := by decide +kernel
theorem d_BF_init_27 : decode b_BF_init 27 = .ok (.dup, 1) := by decide +kernel
theorem d_BF_init_28 : decode b_BF_init 28 = .ok (.aload_n 0, 1) := by decide +kernel
theorem d_BF_init_29 : decode b_BF_init 29 = .ok (.getfield 16, 3) := by decide +kernel
theorem d_BF_init_32 : decode b_BF_init 32 = .ok (.invokespecial 22, 3) := by decide +kernel
theorem d_BF_init_35 : decode b_BF_init 35 = .ok (.putfield 25, 3) := by decide +kernel
theorem d_BF_init_38 : decode b_BF_init 38 = .ok (.aload_n 0, 1) := by decide +kernel
theorem d_BF_init_39 : decode b_BF_init 39 = .ok (.new 29, 3) := by decide +kernel
theorem d_BF_init_42 : decode b_BF_init 42 = .ok (.dup, 1) := by decide +kernel
theorem d_BF_init_43 : decode b_BF_init 43 = .ok (.aload_n 0, 1) := by decide +kernel
theorem d_BF_init_44 : decode b_BF_init 44 = .ok (.getfield 16, 3) := by decide +kernel
theorem d_BF_init_47 : decode b_BF_init 47 = .ok (.invokespecial 31, 3) := by decide +kernel
theorem d_BF_init_50 : decode b_BF_init 50 = .ok (.putfield 32, 3) := by decide +kernel
theorem d_BF_init_53 : decode b_BF_init 53 = .ok (.aload_n 0, 1) := by decide +kernel
theorem d_BF_init_54 : decode b_BF_init 54 = .ok (.new 36, 3) := by decide +kernel
theorem d_BF_init_57 : decode b_BF_init 57 = .ok (.dup, 1) := by decide +kernel
theorem d_BF_init_58 : decode b_BF_init 58 = .ok (.invokespecial 38, 3) := by decide +kernel
theorem d_BF_init_61 : decode b_BF_init 61 = .ok (.putfield 39, 3) := by decide +kernel
theorem d_BF_init_64 : decode b_BF_init 64 = .ok (.aload_n 0, 1) := by decide +kernel
theorem d_BF_init_65 : decode b_BF_init 65 = .ok (.new 43, 3) := by decide +kernel
theorem d_BF_init_68 : decode b_BF_init 68 = .ok (.dup, 1) := by decide +kernel
theorem d_BF_init_69 : decode b_BF_init 69 = .ok (.aload_n 0, 1) := by decide +kernel
theorem d_BF_init_70 : decode b_BF_init 70 = .ok (.getfield 16, 3) := by decide +kernel
theorem d_BF_init_73 : decode b_BF_init 73 = .ok (.aload_n 0, 1) := by decide +kernel
theorem d_BF_init_74 : decode b_BF_init 74 = .ok (.getfield 32, 3) := by decide +kernel
theorem d_BF_init_77 : decode b_BF_init 77 = .ok (.aload_n 0, 1) := by decide +kernel
theorem d_BF_init_78 : decode b_BF_init 78 = .ok (.getfield 39, 3) := by decide +kernel
theorem d_BF_init_81 : decode b_BF_init 81 = .ok (.invokespecial 45, 3) := by decide +kernel
theorem d_BF_init_84 : decode b_BF_init 84 = .ok (.putfield 48, 3) := by decide +kernel
theorem d_BF_init_87 : decode b_BF_init 87 = .ok (.aload_n 0, 1) := by decide +kernel
theorem d_BF_init_88 : decode b_BF_init 88 = .ok (.new 52, 3) := by decide +kernel
theorem d_BF_init_91 : decode b_BF_init 91 = .ok (.dup, 1) := by decide +kernel
theorem d_BF_init_92 : decode b_BF_init 92 = .ok (.aload_n 0, 1) := by decide +kernel
theorem d_BF_init_93 : decode b_BF_init 93 = .ok (.getfield 48, 3) := by decide +kernel
theorem d_BF_init_96 : decode b_BF_init 96 = .ok (.aload_n 0, 1) := by decide +kernel
theorem d_BF_init_97 : decode b_BF_init 97 = .ok (.getfield 39, 3) := by decide +kernel
theorem d_BF_init_100 : decode b_BF_init 100 = .ok (.aload_n 0, 1) := by decide +kernel
theorem d_BF_init_101 : decode b_BF_init 101 = .ok (.getfield 9, 3) := by decide +kernel
theorem d_BF_init_104 : decode b_BF_init 104 = .ok (.invokespecial 54, 3) := by decide +kernel
theorem d_BF_init_107 : decode b_BF_init 107 = .ok (.putfield 57, 3) := by decide +kernel
theorem d_BF_init_110 : decode b_BF_init 110 = .ok (.return_, 1) := by decide +kernel
theorem d_Fo_init_0 : decode b_Fo_init 0 = .ok (.aload_n 0, 1) := by decide +kernel
theorem d_Fo_init_1 : decode b_Fo_init 1 = .ok (.invokespecial 3, 3) := by decide +kernel
theorem d_Fo_init_4 : decode b_Fo_init 4 = .ok (.aload_n 0, 1) := by decide +kernel
theorem d_Fo_init_5 : decode b_Fo_init 5 = .ok (.bipush 60, 2) := by decide +kernel
theorem d_Fo_init_7 : decode b_Fo_init 7 = .ok (.newarray .int, 2) := by decide +kernel
theorem d_Fo_init_9 : decode b_Fo_init 9 = .ok (.putfield 9, 3) := by decide +kernel
theorem d_Fo_init_12 : decode b_Fo_init 12 = .ok (.aload_n 0, 1) := by decide +kernel
theorem d_Fo_init_13 : decode b_Fo_init 13 = .ok (.bipush 60, 2) := by decide +kernel
theorem d_Fo_init_15 : decode b_Fo_init 15 = .ok (.newarray .int, 2) := by decide +kernel
theorem d_Fo_init_17 : decode b_Fo_init 17 = .ok (.putfield 15, 3) := by decide +kernel
theorem d_Fo_init_20 : decode b_Fo_init 20 = .ok (.aload_n 0, 1) := by decide +kernel
theorem d_Fo_init_21 : decode b_Fo_init 21 = .ok (.bipush 60, 2) := by decide +kernel
theorem d_Fo_init_23 : decode b_Fo_init 23 = .ok (.newarray .int, 2) := by decide +kernel
theorem d_Fo_init_25 : decode b_Fo_init 25 = .ok (.putfield 18, 3) := by decide +kernel
theorem d_Fo_init_28 : decode b_Fo_init 28 = .ok (.aload_n 0, 1) := by decide +kernel
theorem d_Fo_init_29 : decode b_Fo_init 29 = .ok (.bipush 60, 2) := by decide +kernel
theorem d_Fo_init_31 : decode b_Fo_init 31 = .ok (.newarray .int, 2) := by decide +kernel
theorem d_Fo_init_33 : decode b_Fo_init 33 = .ok (.putfield 21, 3) := by decide +kernel
theorem d_Fo_init_36 : decode b_Fo_init 36 = .ok (.aload_n 0, 1) := by decide +kernel
theorem d_Fo_init_37 : decode b_Fo_init 37 = .ok (.bipush 60, 2) := by decide +kernel
theorem d_Fo_init_39 : decode b_Fo_init 39 = .ok (.newarray .int, 2) := by decide +kernel
theorem d_Fo_init_41 : decode b_Fo_init 41 = .ok (.putfield 24, 3) := by decide +kernel
theorem d_Fo_init_44 : decode b_Fo_init 44 = .ok (.aload_n 0, 1) := by decide +kernel
theorem d_Fo_init_45 : decode b_Fo_init 45 = .ok (.bipush 8, 2) := by decide +kernel
theorem d_Fo_init_47 : decode b_Fo_init 47 = .ok (.newarray .int, 2) := by decide +kernel
theorem d_Fo_init_49 : decode b_Fo_init 49 = .ok (.putfield 27, 3) := by decide +kernel
theorem d_Fo_init_52 : decode b_Fo_init 52 = .ok (.return_, 1) := by decide +kernel
theorem d_Ch_init_0 : decode b_Ch_init 0 = .ok (.aload_n 0, 1) := by decide +kernel
theorem d_Ch_init_1 : decode b_Ch_init 1 = .ok (.invokespecial 3, 3) := by decide +kernel
theorem d_Ch_init_4 : decode b_Ch_init 4 = .ok (.aload_n 0, 1) := by decide +kernel
theorem d_Ch_init_5 : decode b_Ch_init 5 = .ok (.bipush 60, 2) := by decide +kernel
theorem d_Ch_init_7 : decode b_Ch_init 7 = .ok (.newarray .boolean, 2) := by decide +kernel
theorem d_Ch_init_9 : decode b_Ch_init 9 = .ok (.putfield 9, 3) := by decide +kernel
theorem d_Ch_init_12 : decode b_Ch_init 12 = .ok (.aload_n 0, 1) := by decide +kernel
theorem d_Ch_init_13 : decode b_Ch_init 13 = .ok (.aload_n 1, 1) := by decide +kernel
theorem d_Ch_init_14 : decode b_Ch_init 14 = .ok (.putfield 15, 3) := by decide +kernel
theorem d_Ch_init_17 : decode b_Ch_init 17 = .ok (.return_, 1) := by decide +kernel
theorem d_Cu_init_0 : decode b_Cu_init 0 = .ok (.aload_n 0, 1) := by decide +kernel
theorem d_Cu_init_1 : decode b_Cu_init 1 = .ok (.invokespecial 3, 3) := by decide +kernel
theorem d_Cu_init_4 : decode b_Cu_init 4 = .ok (.aload_n 0, 1) := by decide +kernel
theorem d_Cu_init_5 : decode b_Cu_init 5 = .ok (.bipush 60, 2) := by decide +kernel
theorem d_Cu_init_7 : decode b_Cu_init 7 = .ok (.newarray .int, 2) := by decide +kernel
theorem d_Cu_init_9 : decode b_Cu_init 9 = .ok (.putfield 9, 3) := by decide +kernel
theorem d_Cu_init_12 : decode b_Cu_init 12 = .ok (.aload_n 0, 1) := by decide +kernel
theorem d_Cu_init_13 : decode b_Cu_init 13 = .ok (.bipush 60, 2) := by decide +kernel
theorem d_Cu_init_15 : decode b_Cu_init 15 = .ok (.newarray .int, 2) := by decide +kernel
theorem d_Cu_init_17 : decode b_Cu_init 17 = .ok (.putfield 15, 3) := by decide +kernel
theorem d_Cu_init_20 : decode b_Cu_init 20 = .ok (.aload_n 0, 1) := by decide +kernel
theorem d_Cu_init_21 : decode b_Cu_init 21 = .ok (.bipush 60, 2) := by decide +kernel
theorem d_Cu_init_23 : decode b_Cu_init 23 = .ok (.newarray .int, 2) := by decide +kernel
theorem d_Cu_init_25 : decode b_Cu_init 25 = .ok (.putfield 18, 3) := by decide +kernel
theorem d_Cu_init_28 : decode b_Cu_init 28 = .ok (.aload_n 0, 1) := by decide +kernel
theorem d_Cu_init_29 : decode b_Cu_init 29 = .ok (.aload_n 1, 1) := by decide +kernel
theorem d_Cu_init_30 : decode b_Cu_init 30 = .ok (.putfield 21, 3) := by decide +kernel
theorem d_Cu_init_33 : decode b_Cu_init 33 = .ok (.return_, 1) := by decide +kernel
theorem d_Ta_init_0 : decode b_Ta_init 0 = .ok (.aload_n 0, 1) := by decide +kernel
theorem d_Ta_init_1 : decode b_Ta_init 1 = .ok (.invokespecial 3, 3) := by decide +kernel
theorem d_Ta_init_4 : decode b_Ta_init 4 = .ok (.aload_n 0, 1) := by decide +kernel
theorem d_Ta_init_5 : decode b_Ta_init 5 = .ok (.bipush 120, 2) := by decide +kernel
theorem d_Ta_init_7 : decode b_Ta_init 7 = .ok (.newarray .int, 2) := by decide +kernel
theorem d_Ta_init_9 : decode b_Ta_init 9 = .ok (.putfield 9, 3) := by decide +kernel
theorem d_Ta_init_12 : decode b_Ta_init 12 = .ok (.aload_n 0, 1) := by decide +kernel
theorem d_Ta_init_13 : decode b_Ta_init 13 = .ok (.bipush 120, 2) := by decide +kernel
theorem d_Ta_init_15 : decode b_Ta_init 15 = .ok (.newarray .int, 2) := by decide +kernel
theorem d_Ta_init_17 : decode b_Ta_init 17 = .ok (.putfield 15, 3) := by decide +kernel
theorem d_Ta_init_20 : decode b_Ta_init 20 = .ok (.aload_n 0, 1) := by decide +kernel
theorem d_Ta_init_21 : decode b_Ta_init 21 = .ok (.bipush 61, 2) := by decide +kernel
theorem d_Ta_init_23 : decode b_Ta_init 23 = .ok (.newarray .int, 2) := by decide +kernel
theorem d_Ta_init_25 : decode b_Ta_init 25 = .ok (.putfield 18, 3) := by decide +kernel
theorem d_Ta_init_28 : decode b_Ta_init 28 = .ok (.return_, 1) := by decide +kernel
theorem d_Co_init_0 : decode b_Co_init 0 = .ok (.aload_n 0, 1) := by decide +kernel
theorem d_Co_init_1 : decode b_Co_init 1 = .ok (.invokespecial 3, 3) := by decide +kernel
theorem d_Co_init_4 : decode b_Co_init 4 = .ok (.aload_n 0, 1) := by decide +kernel
theorem d_Co_init_5 : decode b_Co_init 5 = .ok (.sipush 600, 3) := by decide +kernel
theorem d_Co_init_8 : decode b_Co_init 8 = .ok (.newarray .int, 2) := by decide +kernel
theorem d_Co_init_10 : decode b_Co_init 10 = .ok (.putfield 9, 3) := by decide +kernel
theorem d_Co_init_13 : decode b_Co_init 13 = .ok (.aload_n 0, 1) := by decide +kernel
theorem d_Co_init_14 : decode b_Co_init 14 = .ok (.bipush 61, 2) := by decide +kernel
theorem d_Co_init_16 : decode b_Co_init 16 = .ok (.newarray .int, 2) := by decide +kernel
theorem d_Co_init_18 : decode b_Co_init 18 = .ok (.putfield 15, 3) := by decide +kernel
theorem d_Co_init_21 : decode b_Co_init 21 = .ok (.aload_n 0, 1) := by decide +kernel
theorem d_Co_init_22 : decode b_Co_init 22 = .ok (.bipush 60, 2) := by decide +kernel
theorem d_Co_init_24 : decode b_Co_init 24 = .ok (.newarray .int, 2) := by decide +kernel
theorem d_Co_init_26 : decode b_Co_init 26 = .ok (.putfield 18, 3) := by decide +kernel
theorem d_Co_init_29 : decode b_Co_init 29 = .ok (.aload_n 0, 1) := by decide +kernel
theorem d_Co_init_30 : decode b_Co_init 30 = .ok (.bipush 8, 2) := by decide +kernel
theorem d_Co_init_32 : decode b_Co_init 32 = .ok (.newarray .int, 2) := by decide +kernel
theorem d_Co_init_34 : decode b_Co_init 34 = .ok (.putfield 21, 3) := by decide +kernel
theorem d_Co_init_37 : decode b_Co_init 37 = .ok (.aload_n 0, 1) := by decide +kernel
theorem d_Co_init_38 : decode b_Co_init 38 = .ok (.aload_n 1, 1) := by decide +kernel
theorem d_Co_init_39 : decode b_Co_init 39 = .ok (.putfield 24, 3) := by decide +kernel
theorem d_Co_init_42 : decode b_Co_init 42 = .ok (.aload_n 0, 1) := by decide +kernel
theorem d_Co_init_43 : decode b_Co_init 43 = .ok (.aload_n 2, 1) := by decide +kernel
theorem d_Co_init_44 : decode b_Co_init 44 = .ok (.putfield 28, 3) := by decide +kernel
theorem d_Co_init_47 : decode b_Co_init 47 = .ok (.aload_n 0, 1) := by decide +kernel
theorem d_Co_init_48 : decode b_Co_init 48 = .ok (.aload_n 3, 1) := by decide +kernel
theorem d_Co_init_49 : decode b_Co_init 49 = .ok (.putfield 32, 3) := by decide +kernel
theorem d_Co_init_52 : decode b_Co_init 52 = .ok (.return_, 1) := by decide +kernel
theorem d_Ma_init_0 : decode b_Ma_init 0 = .ok (.aload_n 0, 1) := by decide +kernel
theorem d_Ma_init_1 : decode b_Ma_init 1 = .ok (.invokespecial 3, 3) := by decide +kernel
theorem d_Ma_init_4 : decode b_Ma_init 4 = .ok (.aload_n 0, 1) := by decide +kernel
theorem d_Ma_init_5 : decode b_Ma_init 5 = .ok (.aload_n 1, 1) := by decide +kernel
theorem d_Ma_init_6 : decode b_Ma_init 6 = .ok (.putfield 9, 3) := by decide +kernel
theorem d_Ma_init_9 : decode b_Ma_init 9 = .ok (.aload_n 0, 1) := by decide +kernel
theorem d_Ma_init_10 : decode b_Ma_init 10 = .ok (.aload_n 2, 1) := by decide +kernel
theorem d_Ma_init_11 : decode b_Ma_init 11 = .ok (.putfield 15, 3) := by decide +kernel
theorem d_Ma_init_14 : decode b_Ma_init 14 = .ok (.aload_n 0, 1) := by decide +kernel
theorem d_Ma_init_15 : decode b_Ma_init 15 = .ok (.aload_n 3, 1) := by decide +kernel
theorem d_Ma_init_16 : decode b_Ma_init 16 = .ok (.putfield 19, 3) := by decide +kernel
theorem d_Ma_init_19 : decode b_Ma_init 19 = .ok (.return_, 1) := by decide +kernel
