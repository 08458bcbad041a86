theorem d_Ta_numberFor_71 : decode b_Ta_numberFor 71 = .ok (.iinc 5 1, 3) := by decide +kernel
theorem d_Ta_numberFor_74 : decode b_Ta_numberFor 74 = .ok (.goto (-37), 3) := by decide +kernel
theorem d_Ta_numberFor_77 : decode b_Ta_numberFor 77 = .ok (.iload 4, 2) := by decide +kernel
theorem d_Ta_numberFor_79 : decode b_Ta_numberFor 79 = .ok (.bipush 120, 2) := by decide +kernel
theorem d_Ta_numberFor_81 : decode b_Ta_numberFor 81 = .ok (.if_icmp .ge 32, 3) := by decide +kernel
theorem d_Ta_numberFor_84 : decode b_Ta_numberFor 84 = .ok (.aload_n 0, 1) := by decide +kernel
theorem d_Ta_numberFor_85 : decode b_Ta_numberFor 85 = .ok (.getfield 9, 3) := by decide +kernel
theorem d_Ta_numberFor_88 : decode b_Ta_numberFor 88 = .ok (.iload 4, 2) := by decide +kernel
theorem d_Ta_numberFor_90 : decode b_Ta_numberFor 90 = .ok (.iload_n 1, 1) := by decide +kernel
theorem d_Ta_numberFor_91 : decode b_Ta_numberFor 91 = .ok (.iastore, 1) := by decide +kernel
theorem d_Ta_numberFor_92 : decode b_Ta_numberFor 92 = .ok (.aload_n 0, 1) := by decide +kernel
theorem d_Ta_numberFor_93 : decode b_Ta_numberFor 93 = .ok (.getfield 15, 3) := by decide +kernel
theorem d_Ta_numberFor_96 : decode b_Ta_numberFor 96 = .ok (.iload 4, 2) := by decide +kernel
theorem d_Ta_numberFor_98 : decode b_Ta_numberFor 98 = .ok (.iload_n 2, 1) := by decide +kernel
theorem d_Ta_numberFor_99 : decode b_Ta_numberFor 99 = .ok (.iastore, 1) := by decide +kernel
theorem d_Ta_numberFor_100 : decode b_Ta_numberFor 100 = .ok (.aload_n 0, 1) := by decide +kernel
theorem d_Ta_numberFor_101 : decode b_Ta_numberFor 101 = .ok (.getfield 18, 3) := by decide +kernel
theorem d_Ta_numberFor_104 : decode b_Ta_numberFor 104 = .ok (.aload_n 0, 1) := by decide +kernel
theorem d_Ta_numberFor_105 : decode b_Ta_numberFor 105 = .ok (.getfield 21, 3) := by decide +kernel
theorem d_Ta_numberFor_108 : decode b_Ta_numberFor 108 = .ok (.iload 4, 2) := by decide +kernel
theorem d_Ta_numberFor_110 : decode b_Ta_numberFor 110 = .ok (.iconst 1, 1) := by decide +kernel
theorem d_Ta_numberFor_111 : decode b_Ta_numberFor 111 = .ok (.iadd, 1) := by decide +kernel
theorem d_Ta_numberFor_112 : decode b_Ta_numberFor 112 = .ok (.iastore, 1) := by decide +kernel
theorem d_Ta_numberFor_113 : decode b_Ta_numberFor 113 = .ok (.iload 4, 2) := by decide +kernel
theorem d_Ta_numberFor_115 : decode b_Ta_numberFor 115 = .ok (.iload_n 3, 1) := by decide +kernel
theorem d_Ta_numberFor_116 : decode b_Ta_numberFor 116 = .ok (.isub, 1) := by decide +kernel
theorem d_Ta_numberFor_117 : decode b_Ta_numberFor 117 = .ok (.ireturn, 1) := by decide +kernel
theorem d_Co_isMethod_0 : decode b_Co_isMethod 0 = .ok (.iload_n 1, 1) := by decide +kernel
theorem d_Co_isMethod_1 : decode b_Co_isMethod 1 = .ok (.ifCond .lt 15, 3) := by decide +kernel
theorem d_Co_isMethod_4 : decode b_Co_isMethod 4 = .ok (.iload_n 1, 1) := by decide +kernel
theorem d_Co_isMethod_5 : decode b_Co_isMethod 5 = .ok (.aload_n 0, 1) := by decide +kernel
theorem d_Co_isMethod_6 : decode b_Co_isMethod 6 = .ok (.getfield 36, 3) := by decide +kernel
theorem d_Co_isMethod_9 : decode b_Co_isMethod 9 = .ok (.if_icmp .ge 7, 3) := by decide +kernel
theorem d_Co_isMethod_12 : decode b_Co_isMethod 12 = .ok (.iconst 1, 1) := by decide +kernel
theorem d_Co_isMethod_13 : decode b_Co_isMethod 13 = .ok (.goto 4, 3) := by decide +kernel
theorem d_Co_isMethod_16 : decode b_Co_isMethod 16 = .ok (.iconst 0, 1) := by decide +kernel
theorem d_Co_isMethod_17 : decode b_Co_isMethod 17 = .ok (.ireturn, 1) := by decide +kernel
theorem d_Co_writeMethods_0 : decode b_Co_writeMethods 0 = .ok (.aload_n 0, 1) := by decide +kernel
theorem d_Co_writeMethods_1 : decode b_Co_writeMethods 1 = .ok (.iconst 0, 1) := by decide +kernel
theorem d_Co_writeMethods_2 : decode b_Co_writeMethods 2 = .ok (.putfield 40, 3) := by decide +kernel
theorem d_Co_writeMethods_5 : decode b_Co_writeMethods 5 = .ok (.aload_n 0, 1) := by decide +kernel
theorem d_Co_writeMethods_6 : decode b_Co_writeMethods 6 = .ok (.getfield 32, 3) := by decide +kernel
theorem d_Co_writeMethods_9 : decode b_Co_writeMethods 9 = .ok (.invokevirtual 43, 3) := by decide +kernel
theorem d_Co_writeMethods_12 : decode b_Co_writeMethods 12 = .ok (.aload_n 0, 1) := by decide +kernel
theorem d_Co_writeMethods_13 : decode b_Co_writeMethods 13 = .ok (.getfield 32, 3) := by decide +kernel
theorem d_Co_writeMethods_16 : decode b_Co_writeMethods 16 = .ok (.invokevirtual 48, 3) := by decide +kernel
theorem d_Co_writeMethods_19 : decode b_Co_writeMethods 19 = .ok (.aload_n 0, 1) := by decide +kernel
theorem d_Co_writeMethods_20 : decode b_Co_writeMethods 20 = .ok (.aload_n 0, 1) := by decide +kernel
theorem d_Co_writeMethods_21 : decode b_Co_writeMethods 21 = .ok (.getfield 28, 3) := by decide +kernel
theorem d_Co_writeMethods_24 : decode b_Co_writeMethods 24 = .ok (.getfield 51, 3) := by decide +kernel
theorem d_Co_writeMethods_27 : decode b_Co_writeMethods 27 = .ok (.putfield 36, 3) := by decide +kernel
theorem d_Co_writeMethods_30 : decode b_Co_writeMethods 30 = .ok (.iconst 0, 1) := by decide +kernel
theorem d_Co_writeMethods_31 : decode b_Co_writeMethods 31 = .ok (.istore_n 2, 1) := by decide +kernel
theorem d_Co_writeMethods_32 : decode b_Co_writeMethods 32 = .ok (.iload_n 2, 1) := by decide +kernel
theorem d_Co_writeMethods_33 : decode b_Co_writeMethods 33 = .ok (.aload_n 0, 1) := by decide +kernel
theorem d_Co_writeMethods_34 : decode b_Co_writeMethods 34 = .ok (.getfield 36, 3) := by decide +kernel
theorem d_Co_writeMethods_37 : decode b_Co_writeMethods 37 = .ok (.if_icmp .ge 15, 3) := by decide +kernel
theorem d_Co_writeMethods_40 : decode b_Co_writeMethods 40 = .ok (.aload_n 0, 1) := by decide +kernel
theorem d_Co_writeMethods_41 : decode b_Co_writeMethods 41 = .ok (.iload_n 2, 1) := by decide +kernel
theorem d_Co_writeMethods_42 : decode b_Co_writeMethods 42 = .ok (.iload_n 1, 1) := by decide +kernel
theorem d_Co_writeMethods_43 : decode b_Co_writeMethods 43 = .ok (.invokevirtual 54, 3) := by decide +kernel
theorem d_Co_writeMethods_46 : decode b_Co_writeMethods 46 = .ok (.iinc 2 1, 3) := by decide +kernel
theorem d_Co_writeMethods_49 : decode b_Co_writeMethods 49 = .ok (.goto (-17), 3) := by decide +kernel
theorem d_Co_writeMethods_52 : decode b_Co_writeMethods 52 = .ok (.aload_n 0, 1) := by decide +kernel
theorem d_Co_writeMethods_53 : decode b_Co_writeMethods 53 = .ok (.aload_n 0, 1) := by decide +kernel
theorem d_Co_writeMethods_54 : decode b_Co_writeMethods 54 = .ok (.getfield 24, 3) := by decide +kernel
theorem d_Co_writeMethods_57 : decode b_Co_writeMethods 57 = .ok (.getfield 58, 3) := by decide +kernel
theorem d_Co_writeMethods_60 : decode b_Co_writeMethods 60 = .ok (.putfield 63, 3) := by decide +kernel
theorem d_Co_writeMethods_63 : decode b_Co_writeMethods 63 = .ok (.iconst 0, 1) := by decide +kernel
theorem d_Co_writeMethods_64 : decode b_Co_writeMethods 64 = .ok (.istore_n 2, 1) := by decide +kernel
theorem d_Co_writeMethods_65 : decode b_Co_writeMethods 65 = .ok (.iload_n 2, 1) := by decide +kernel
theorem d_Co_writeMethods_66 : decode b_Co_writeMethods 66 = .ok (.aload_n 0, 1) := by decide +kernel
theorem d_Co_writeMethods_67 : decode b_Co_writeMethods 67 = .ok (.getfield 63, 3) := by decide +kernel
theorem d_Co_writeMethods_70 : decode b_Co_writeMethods 70 = .ok (.if_icmp .ge 32, 3) := by decide +kernel
theorem d_Co_writeMethods_73 : decode b_Co_writeMethods 73 = .ok (.aload_n 0, 1) := by decide +kernel
theorem d_Co_writeMethods_74 : decode b_Co_writeMethods 74 = .ok (.getfield 21, 3) := by decide +kernel
theorem d_Co_writeMethods_77 : decode b_Co_writeMethods 77 = .ok (.iload_n 2, 1) := by decide +kernel
theorem d_Co_writeMethods_78 : decode b_Co_writeMethods 78 = .ok (.aload_n 0, 1) := by decide +kernel
theorem d_Co_writeMethods_79 : decode b_Co_writeMethods 79 = .ok (.getfield 28, 3) := by decide +kernel
theorem d_Co_writeMethods_82 : decode b_Co_writeMethods 82 = .ok (.getfield 64, 3) := by decide +kernel
theorem d_Co_writeMethods_85 : decode b_Co_writeMethods 85 = .ok (.aload_n 0, 1) := by decide +kernel
theorem d_Co_writeMethods_86 : decode b_Co_writeMethods 86 = .ok (.getfield 24, 3) := by decide +kernel
theorem d_Co_writeMethods_89 : decode b_Co_writeMethods 89 = .ok (.getfield 67, 3) := by decide +kernel
theorem d_Co_writeMethods_92 : decode b_Co_writeMethods 92 = .ok (.iload_n 2, 1) := by decide +kernel
theorem d_Co_writeMethods_93 : decode b_Co_writeMethods 93 = .ok (.iaload, 1) := by decide +kernel
theorem d_Co_writeMethods_94 : decode b_Co_writeMethods 94 = .ok (.iaload, 1) := by decide +kernel
theorem d_Co_writeMethods_95 : decode b_Co_writeMethods 95 = .ok (.iastore, 1) := by decide +kernel
theorem d_Co_writeMethods_96 : decode b_Co_writeMethods 96 = .ok (.iinc 2 1, 3) := by decide +kernel
theorem d_Co_writeMethods_99 : decode b_Co_writeMethods 99 = .ok (.goto (-34), 3) := by decide +kernel
theorem d_Co_writeMethods_102 : decode b_Co_writeMethods 102 = .ok (.return_, 1) := by decide +kernel
theorem d_Co_writeMethod_0 : decode b_Co_writeMethod 0 = .ok (.aload_n 0, 1) := by decide +kernel
theorem d_Co_writeMethod_1 : decode b_Co_writeMethod 1 = .ok (.getfield 32, 3) := by decide +kernel
theorem d_Co_writeMethod_4 : decode b_Co_writeMethod 4 = .ok (.invokevirtual 70, 3) := by decide +kernel
theorem d_Co_writeMethod_7 : decode b_Co_writeMethod 7 = .ok (.istore_n 3, 1) := by decide +kernel
theorem d_Co_writeMethod_8 : decode b_Co_writeMethod 8 = .ok (.aload_n 0, 1) := by decide +kernel
theorem d_Co_writeMethod_9 : decode b_Co_writeMethod 9 = .ok (.getfield 15, 3) := by decide +kernel
theorem d_Co_writeMethod_12 : decode b_Co_writeMethod 12 = .ok (.iload_n 1, 1) := by decide +kernel
theorem d_Co_writeMethod_13 : decode b_Co_writeMethod 13 = .ok (.aload_n 0, 1) := by decide +kernel
theorem d_Co_writeMethod_14 : decode b_Co_writeMethod 14 = .ok (.getfield 40, 3) := by decide +kernel
theorem d_Co_writeMethod_17 : decode b_Co_writeMethod 17 = .ok (.iastore, 1) := by decide +kernel
theorem d_Co_writeMethod_18 : decode b_Co_writeMethod 18 = .ok (.aload_n 0, 1) := by decide +kernel
theorem d_Co_writeMethod_19 : decode b_Co_writeMethod 19 = .ok (.aload_n 0, 1) := by decide +kernel
theorem d_Co_writeMethod_20 : decode b_Co_writeMethod 20 = .ok (.getfield 28, 3) := by decide +kernel
theorem d_Co_writeMethod_23 : decode b_Co_writeMethod 23 = .ok (.getfield 74, 3) := by decide +kernel
theorem d_Co_writeMethod_26 : decode b_Co_writeMethod 26 = .ok (.iload_n 1, 1) := by decide +kernel
theorem d_Co_writeMethod_27 : decode b_Co_writeMethod 27 = .ok (.iaload, 1) := by decide +kernel
theorem d_Co_writeMethod_28 : decode b_Co_writeMethod 28 = .ok (.iconst 0, 1) := by decide +kernel
theorem d_Co_writeMethod_29 : decode b_Co_writeMethod 29 = .ok (.invokevirtual 77, 3) := by decide +kernel
theorem d_Co_writeMethod_32 : decode b_Co_writeMethod 32 = .ok (.aload_n 0, 1) := by decide +kernel
theorem d_Co_writeMethod_33 : decode b_Co_writeMethod 33 = .ok (.getfield 32, 3) := by decide +kernel
theorem d_Co_writeMethod_36 : decode b_Co_writeMethod 36 = .ok (.invokevirtual 70, 3) := by decide +kernel
theorem d_Co_writeMethod_39 : decode b_Co_writeMethod 39 = .ok (.iload_n 2, 1) := by decide +kernel
theorem d_Co_writeMethod_40 : decode b_Co_writeMethod 40 = .ok (.if_icmp .le 42, 3) := by decide +kernel
theorem d_Co_writeMethod_43 : decode b_Co_writeMethod 43 = .ok (.aload_n 0, 1) := by decide +kernel
theorem d_Co_writeMethod_44 : decode b_Co_writeMethod 44 = .ok (.getfield 32, 3) := by decide +kernel
theorem d_Co_writeMethod_47 : decode b_Co_writeMethod 47 = .ok (.iload_n 3, 1) := by decide +kernel
theorem d_Co_writeMethod_48 : decode b_Co_writeMethod 48 = .ok (.invokevirtual 80, 3) := by decide +kernel
theorem d_Co_writeMethod_51 : decode b_Co_writeMethod 51 = .ok (.aload_n 0, 1) := by decide +kernel
theorem d_Co_writeMethod_52 : decode b_Co_writeMethod 52 = .ok (.getfield 32, 3) := by decide +kernel
theorem d_Co_writeMethod_55 : decode b_Co_writeMethod 55 = .ok (.invokevirtual 48, 3) := by decide +kernel
theorem d_Co_writeMethod_58 : decode b_Co_writeMethod 58 = .ok (.aload_n 0, 1) := by decide +kernel
theorem d_Co_writeMethod_59 : decode b_Co_writeMethod 59 = .ok (.aload_n 0, 1) := by decide +kernel
theorem d_Co_writeMethod_60 : decode b_Co_writeMethod 60 = .ok (.getfield 15, 3) := by decide +kernel
theorem d_Co_writeMethod_63 : decode b_Co_writeMethod 63 = .ok (.iload_n 1, 1) := by decide +kernel
theorem d_Co_writeMethod_64 : decode b_Co_writeMethod 64 = .ok (.iaload, 1) := by decide +kernel
theorem d_Co_writeMethod_65 : decode b_Co_writeMethod 65 = .ok (.putfield 40, 3) := by decide +kernel
theorem d_Co_writeMethod_68 : decode b_Co_writeMethod 68 = .ok (.aload_n 0, 1) := by decide +kernel
theorem d_Co_writeMethod_69 : decode b_Co_writeMethod 69 = .ok (.aload_n 0, 1) := by decide +kernel
theorem d_Co_writeMethod_70 : decode b_Co_writeMethod 70 = .ok (.getfield 28, 3) := by decide +kernel
theorem d_Co_writeMethod_73 : decode b_Co_writeMethod 73 = .ok (.getfield 74, 3) := by decide +kernel
theorem d_Co_writeMethod_76 : decode b_Co_writeMethod 76 = .ok (.iload_n 1, 1) := by decide +kernel
theorem d_Co_writeMethod_77 : decode b_Co_writeMethod 77 = .ok (.iaload, 1) := by decide +kernel
theorem d_Co_writeMethod_78 : decode b_Co_writeMethod 78 = .ok (.iconst 0, 1) := by decide +kernel
theorem d_Co_writeMethod_79 : decode b_Co_writeMethod 79 = .ok (.invokevirtual 77, 3) := by decide +kernel
theorem d_Co_writeMethod_82 : decode b_Co_writeMethod 82 = .ok (.aload_n 0, 1) := by decide +kernel
theorem d_Co_writeMethod_83 : decode b_Co_writeMethod 83 = .ok (.getfield 15, 3) := by decide +kernel
theorem d_Co_writeMethod_86 : decode b_Co_writeMethod 86 = .ok (.iload_n 1, 1) := by decide +kernel
theorem d_Co_writeMethod_87 : decode b_Co_writeMethod 87 = .ok (.iconst 1, 1) := by decide +kernel
theorem d_Co_writeMethod_88 : decode b_Co_writeMethod 88 = .ok (.iadd, 1) := by decide +kernel
theorem d_Co_writeMethod_89 : decode b_Co_writeMethod 89 = .ok (.aload_n 0, 1) := by decide +kernel
theorem d_Co_writeMethod_90 : decode b_Co_writeMethod 90 = .ok (.getfield 40, 3) := by decide +kernel
theorem d_Co_writeMethod_93 : decode b_Co_writeMethod 93 = .ok (.iastore, 1) := by decide +kernel
theorem d_Co_writeMethod_94 : decode b_Co_writeMethod 94 = .ok (.aload_n 0, 1) := by decide +kernel
theorem d_Co_writeMethod_95 : decode b_Co_writeMethod 95 = .ok (.getfield 18, 3) := by decide +kernel
theorem d_Co_writeMethod_98 : decode b_Co_writeMethod 98 = .ok (.iload_n 1, 1) := by decide +kernel
theorem d_Co_writeMethod_99 : decode b_Co_writeMethod 99 = .ok (.aload_n 0, 1) := by decide +kernel
theorem d_Co_writeMethod_100 : decode b_Co_writeMethod 100 = .ok (.getfield 32, 3) := by decide +kernel
theorem d_Co_writeMethod_103 : decode b_Co_writeMethod 103 = .ok (.getfield 84, 3) := by decide +kernel
theorem d_Co_writeMethod_106 : decode b_Co_writeMethod 106 = .ok (.iconst 1, 1) := by decide +kernel
theorem d_Co_writeMethod_107 : decode b_Co_writeMethod 107 = .ok (.isub, 1) := by decide +kernel
theorem d_Co_writeMethod_108 : decode b_Co_writeMethod 108 = .ok (.iastore, 1) := by decide +kernel
theorem d_Co_writeMethod_109 : decode b_Co_writeMethod 109 = .ok (.return_, 1) := by decide +kernel
theorem d_Co_writeCode_0 : decode b_Co_writeCode 0 = .ok (.iload_n 2, 1) := by decide +kernel
theorem d_Co_writeCode_1 : decode b_Co_writeCode 1 = .ok (.bipush 12, 2) := by decide +kernel
theorem d_Co_writeCode_3 : decode b_Co_writeCode 3 = .ok (.if_icmp .le 4, 3) := by decide +kernel
theorem d_Co_writeCode_6 : decode b_Co_writeCode 6 = .ok (.return_, 1) := by decide +kernel
theorem d_Co_writeCode_7 : decode b_Co_writeCode 7 = .ok (.aload_n 0, 1) := by decide +kernel
theorem d_Co_writeCode_8 : decode b_Co_writeCode 8 = .ok (.getfield 24, 3) := by decide +kernel
theorem d_Co_writeCode_11 : decode b_Co_writeCode 11 = .ok (.iload_n 1, 1) := by decide +kernel
theorem d_Co_writeCode_12 : decode b_Co_writeCode 12 = .ok (.invokevirtual 87, 3) := by decide +kernel
theorem d_Co_writeCode_15 : decode b_Co_writeCode 15 = .ok (.istore_n 3, 1) := by decide +kernel
theorem d_Co_writeCode_16 : decode b_Co_writeCode 16 = .ok (.iload_n 3, 1) := by decide +kernel
theorem d_Co_writeCode_17 : decode b_Co_writeCode 17 = .ok (.ifCond .ne 17, 3) := by decide +kernel
theorem d_Co_writeCode_20 : decode b_Co_writeCode 20 = .ok (.aload_n 0, 1) := by decide +kernel
theorem d_Co_writeCode_21 : decode b_Co_writeCode 21 = .ok (.iconst 1, 1) := by decide +kernel
theorem d_Co_writeCode_22 : decode b_Co_writeCode 22 = .ok (.aload_n 0, 1) := by decide +kernel
theorem d_Co_writeCode_23 : decode b_Co_writeCode 23 = .ok (.getfield 24, 3) := by decide +kernel
theorem d_Co_writeCode_26 : decode b_Co_writeCode 26 = .ok (.getfield 91, 3) := by decide +kernel
theorem d_Co_writeCode_29 : decode b_Co_writeCode 29 = .ok (.iload_n 1, 1) := by decide +kernel
theorem d_Co_writeCode_30 : decode b_Co_writeCode 30 = .ok (.iaload, 1) := by decide +kernel
theorem d_Co_writeCode_31 : decode b_Co_writeCode 31 = .ok (.invokevirtual 94, 3) := by decide +kernel
theorem d_Co_writeCode_34 : decode b_Co_writeCode 34 = .ok (.aload_n 0, 1) := by decide +kernel
theorem d_Co_writeCode_35 : decode b_Co_writeCode 35 = .ok (.iconst 2, 1) := by decide +kernel
theorem d_Co_writeCode_36 : decode b_Co_writeCode 36 = .ok (.aload_n 0, 1) := by decide +kernel
theorem d_Co_writeCode_37 : decode b_Co_writeCode 37 = .ok (.getfield 32, 3) := by decide +kernel
theorem d_Co_writeCode_40 : decode b_Co_writeCode 40 = .ok (.aload_n 0, 1) := by decide +kernel
theorem d_Co_writeCode_41 : decode b_Co_writeCode 41 = .ok (.getfield 24, 3) := by decide +kernel
theorem d_Co_writeCode_44 : decode b_Co_writeCode 44 = .ok (.iload_n 1, 1) := by decide +kernel
theorem d_Co_writeCode_45 : decode b_Co_writeCode 45 = .ok (.invokevirtual 97, 3) := by decide +kernel
theorem d_Co_writeCode_48 : decode b_Co_writeCode 48 = .ok (.aload_n 0, 1) := by decide +kernel
theorem d_Co_writeCode_49 : decode b_Co_writeCode 49 = .ok (.getfield 24, 3) := by decide +kernel
theorem d_Co_writeCode_52 : decode b_Co_writeCode 52 = .ok (.getfield 101, 3) := by decide +kernel
theorem d_Co_writeCode_55 : decode b_Co_writeCode 55 = .ok (.iload_n 1, 1) := by decide +kernel
theorem d_Co_writeCode_56 : decode b_Co_writeCode 56 = .ok (.iaload, 1) := by decide +kernel
theorem d_Co_writeCode_57 : decode b_Co_writeCode 57 = .ok (.invokevirtual 104, 3) := by decide +kernel
theorem d_Co_writeCode_60 : decode b_Co_writeCode 60 = .ok (.invokevirtual 94, 3) := by decide +kernel
theorem d_Co_writeCode_63 : decode b_Co_writeCode 63 = .ok (.iload_n 3, 1) := by decide +kernel
theorem d_Co_writeCode_64 : decode b_Co_writeCode 64 = .ok (.ifCond .eq 9, 3) := by decide +kernel
theorem d_Co_writeCode_67 : decode b_Co_writeCode 67 = .ok (.aload_n 0, 1) := by decide +kernel
theorem d_Co_writeCode_68 : decode b_Co_writeCode 68 = .ok (.iconst 3, 1) := by decide +kernel
theorem d_Co_writeCode_69 : decode b_Co_writeCode 69 = .ok (.invokevirtual 108, 3) := by decide +kernel
theorem d_Co_writeCode_72 : decode b_Co_writeCode 72 = .ok (.return_, 1) := by decide +kernel
theorem d_Co_writeCode_73 : decode b_Co_writeCode 73 = .ok (.aload_n 0, 1) := by decide +kernel
theorem d_Co_writeCode_74 : decode b_Co_writeCode 74 = .ok (.aload_n 0, 1) := by decide +kernel
theorem d_Co_writeCode_75 : decode b_Co_writeCode 75 = .ok (.getfield 24, 3) := by decide +kernel
theorem d_Co_writeCode_78 : decode b_Co_writeCode 78 = .ok (.getfield 111, 3) := by decide +kernel
theorem d_Co_writeCode_81 : decode b_Co_writeCode 81 = .ok (.iload_n 1, 1) := by decide +kernel
theorem d_Co_writeCode_82 : decode b_Co_writeCode 82 = .ok (.iaload, 1) := by decide +kernel
theorem d_Co_writeCode_83 : decode b_Co_writeCode 83 = .ok (.aload_n 0, 1) := by decide +kernel
theorem d_Co_writeCode_84 : decode b_Co_writeCode 84 = .ok (.getfield 28, 3) := by decide +kernel
theorem d_Co_writeCode_87 : decode b_Co_writeCode 87 = .ok (.aload_n 0, 1) := by decide +kernel
theorem d_Co_writeCode_88 : decode b_Co_writeCode 88 = .ok (.getfield 24, 3) := by decide +kernel
theorem d_Co_writeCode_91 : decode b_Co_writeCode 91 = .ok (.getfield 114, 3) := by decide +kernel
theorem d_Co_writeCode_94 : decode b_Co_writeCode 94 = .ok (.iload_n 1, 1) := by decide +kernel
theorem d_Co_writeCode_95 : decode b_Co_writeCode 95 = .ok (.iaload, 1) := by decide +kernel
theorem d_Co_writeCode_96 : decode b_Co_writeCode 96 = .ok (.invokevirtual 117, 3) := by decide +kernel
theorem d_Co_writeCode_99 : decode b_Co_writeCode 99 = .ok (.invokevirtual 120, 3) := by decide +kernel
theorem d_Co_writeCode_102 : decode b_Co_writeCode 102 = .ok (.aload_n 0, 1) := by decide +kernel
theorem d_Co_writeCode_103 : decode b_Co_writeCode 103 = .ok (.aload_n 0, 1) := by decide +kernel
theorem d_Co_writeCode_104 : decode b_Co_writeCode 104 = .ok (.getfield 24, 3) := by decide +kernel
theorem d_Co_writeCode_107 : decode b_Co_writeCode 107 = .ok (.getfield 114, 3) := by decide +kernel
theorem d_Co_writeCode_110 : decode b_Co_writeCode 110 = .ok (.iload_n 1, 1) := by decide +kernel
theorem d_Co_writeCode_111 : decode b_Co_writeCode 111 = .ok (.iaload, 1) := by decide +kernel
theorem d_Co_writeCode_112 : decode b_Co_writeCode 112 = .ok (.iload_n 2, 1) := by decide +kernel
theorem d_Co_writeCode_113 : decode b_Co_writeCode 113 = .ok (.iconst 1, 1) := by decide +kernel
theorem d_Co_writeCode_114 : decode b_Co_writeCode 114 = .ok (.iadd, 1) := by decide +kernel
theorem d_Co_writeCode_115 : decode b_Co_writeCode 115 = .ok (.invokevirtual 123, 3) := by decide +kernel
theorem d_Co_writeCode_118 : decode b_Co_writeCode 118 = .ok (.aload_n 0, 1) := by decide +kernel
theorem d_Co_writeCode_119 : decode b_Co_writeCode 119 = .ok (.aload_n 0, 1) := by decide +kernel
theorem d_Co_writeCode_120 : decode b_Co_writeCode 120 = .ok (.getfield 24, 3) := by decide +kernel
theorem d_Co_writeCode_123 : decode b_Co_writeCode 123 = .ok (.getfield 126, 3) := by decide +kernel
theorem d_Co_writeCode_126 : decode b_Co_writeCode 126 = .ok (.iload_n 1, 1) := by decide +kernel
theorem d_Co_writeCode_127 : decode b_Co_writeCode 127 = .ok (.iaload, 1) := by decide +kernel
theorem d_Co_writeCode_128 : decode b_Co_writeCode 128 = .ok (.iload_n 2, 1) := by decide +kernel
theorem d_Co_writeCode_129 : decode b_Co_writeCode 129 = .ok (.iconst 1, 1) := by decide +kernel
theorem d_Co_writeCode_130 : decode b_Co_writeCode 130 = .ok (.iadd, 1) := by decide +kernel
theorem d_Co_writeCode_131 : decode b_Co_writeCode 131 = .ok (.invokevirtual 123, 3) := by decide +kernel
theorem d_Co_writeCode_134 : decode b_Co_writeCode 134 = .ok (.return_, 1) := by decide +kernel
theorem d_Co_writePart_0 : decode b_Co_writePart 0 = .ok (.aload_n 0, 1) := by decide +kernel
theorem d_Co_writePart_1 : decode b_Co_writePart 1 = .ok (.getfield 28, 3) := by decide +kernel
theorem d_Co_writePart_4 : decode b_Co_writePart 4 = .ok (.getfield 64, 3) := by decide +kernel
theorem d_Co_writePart_7 : decode b_Co_writePart 7 = .ok (.iload_n 1, 1) := by decide +kernel
theorem d_Co_writePart_8 : decode b_Co_writePart 8 = .ok (.iaload, 1) := by decide +kernel
theorem d_Co_writePart_9 : decode b_Co_writePart 9 = .ok (.istore_n 3, 1) := by decide +kernel
theorem d_Co_writePart_10 : decode b_Co_writePart 10 = .ok (.iload_n 3, 1) := by decide +kernel
theorem d_Co_writePart_11 : decode b_Co_writePart 11 = .ok (.iconst (-1), 1) := by decide +kernel
theorem d_Co_writePart_12 : decode b_Co_writePart 12 = .ok (.if_icmp .ne 10, 3) := by decide +kernel
theorem d_Co_writePart_15 : decode b_Co_writePart 15 = .ok (.aload_n 0, 1) := by decide +kernel
theorem d_Co_writePart_16 : decode b_Co_writePart 16 = .ok (.iload_n 1, 1) := by decide +kernel
theorem d_Co_writePart_17 : decode b_Co_writePart 17 = .ok (.iload_n 2, 1) := by decide +kernel
theorem d_Co_writePart_18 : decode b_Co_writePart 18 = .ok (.invokevirtual 77, 3) := by decide +kernel
theorem d_Co_writePart_21 : decode b_Co_writePart 21 = .ok (.return_, 1) := by decide +kernel
theorem d_Co_writePart_22 : decode b_Co_writePart 22 = .ok (.aload_n 0, 1) := by decide +kernel
theorem d_Co_writePart_23 : decode b_Co_writePart 23 = .ok (.iconst 4, 1) := by decide +kernel
theorem d_Co_writePart_24 : decode b_Co_writePart 24 = .ok (.aload_n 0, 1) := by decide +kernel
theorem d_Co_writePart_25 : decode b_Co_writePart 25 = .ok (.getfield 32, 3) := by decide +kernel
theorem d_Co_writePart_28 : decode b_Co_writePart 28 = .ok (.iconst 4, 1) := by decide +kernel
theorem d_Co_writePart_29 : decode b_Co_writePart 29 = .ok (.iload_n 3, 1) := by decide +kernel
theorem d_Co_writePart_30 : decode b_Co_writePart 30 = .ok (.invokevirtual 104, 3) := by decide +kernel
theorem d_Co_writePart_33 : decode b_Co_writePart 33 = .ok (.invokevirtual 94, 3) := by decide +kernel
theorem d_Co_writePart_36 : decode b_Co_writePart 36 = .ok (.aload_n 0, 1) := by decide +kernel
theorem d_Co_writePart_37 : decode b_Co_writePart 37 = .ok (.iconst 3, 1) := by decide +kernel
theorem d_Co_writePart_38 : decode b_Co_writePart 38 = .ok (.invokevirtual 108, 3) := by decide +kernel
theorem d_Co_writePart_41 : decode b_Co_writePart 41 = .ok (.return_, 1) := by decide +kernel
theorem d_Co_writeTest_0 : decode b_Co_writeTest 0 = .ok (.iload_n 2, 1) := by decide +kernel
theorem d_Co_writeTest_1 : decode b_Co_writeTest 1 = .ok (.invokestatic 129, 3) := by decide +kernel
theorem d_Co_writeTest_4 : decode b_Co_writeTest 4 = .ok (.istore_n 3, 1) := by decide +kernel
theorem d_Co_writeTest_5 : decode b_Co_writeTest 5 = .ok (.iload_n 3, 1) := by decide +kernel
theorem d_Co_writeTest_6 : decode b_Co_writeTest 6 = .ok (.iload_n 2, 1) := by decide +kernel
theorem d_Co_writeTest_7 : decode b_Co_writeTest 7 = .ok (.iadd, 1) := by decide +kernel
theorem d_Co_writeTest_8 : decode b_Co_writeTest 8 = .ok (.istore 4, 2) := by decide +kernel
theorem d_Co_writeTest_10 : decode b_Co_writeTest 10 = .ok (.iload_n 3, 1) := by decide +kernel
theorem d_Co_writeTest_11 : decode b_Co_writeTest 11 = .ok (.iconst 2, 1) := by decide +kernel
theorem d_Co_writeTest_12 : decode b_Co_writeTest 12 = .ok (.if_icmp .ne 14, 3) := by decide +kernel
theorem d_Co_writeTest_15 : decode b_Co_writeTest 15 = .ok (.aload_n 0, 1) := by decide +kernel
theorem d_Co_writeTest_16 : decode b_Co_writeTest 16 = .ok (.bipush 10, 2) := by decide +kernel
theorem d_Co_writeTest_18 : decode b_Co_writeTest 18 = .ok (.iload_n 1, 1) := by decide +kernel
theorem d_Co_writeTest_19 : decode b_Co_writeTest 19 = .ok (.iadd, 1) := by decide +kernel
theorem d_Co_writeTest_20 : decode b_Co_writeTest 20 = .ok (.iload 4, 2) := by decide +kernel
theorem d_Co_writeTest_22 : decode b_Co_writeTest 22 = .ok (.invokevirtual 94, 3) := by decide +kernel
theorem d_Co_writeTest_25 : decode b_Co_writeTest 25 = .ok (.return_, 1) := by decide +kernel
theorem d_Co_writeTest_26 : decode b_Co_writeTest 26 = .ok (.aload_n 0, 1) := by decide +kernel
theorem d_Co_writeTest_27 : decode b_Co_writeTest 27 = .ok (.bipush 20, 2) := by decide +kernel
theorem d_Co_writeTest_29 : decode b_Co_writeTest 29 = .ok (.iload_n 1, 1) := by decide +kernel
theorem d_Co_writeTest_30 : decode b_Co_writeTest 30 = .ok (.iadd, 1) := by decide +kernel
theorem d_Co_writeTest_31 : decode b_Co_writeTest 31 = .ok (.iload 4, 2) := by decide +kernel
theorem d_Co_writeTest_33 : decode b_Co_writeTest 33 = .ok (.bipush 8, 2) := by decide +kernel
theorem d_Co_writeTest_35 : decode b_Co_writeTest 35 = .ok (.ishr, 1) := by decide +kernel
theorem d_Co_writeTest_36 : decode b_Co_writeTest 36 = .ok (.invokevirtual 94, 3) := by decide +kernel
theorem d_Co_writeTest_39 : decode b_Co_writeTest 39 = .ok (.aload_n 0, 1) := by decide +kernel
theorem d_Co_writeTest_40 : decode b_Co_writeTest 40 = .ok (.iload 4, 2) := by decide +kernel
theorem d_Co_writeTest_42 : decode b_Co_writeTest 42 = .ok (.sipush 255, 3) := by decide +kernel
theorem d_Co_writeTest_45 : decode b_Co_writeTest 45 = .ok (.iand, 1) := by decide +kernel
theorem d_Co_writeTest_46 : decode b_Co_writeTest 46 = .ok (.invokevirtual 108, 3) := by decide +kernel
theorem d_Co_writeTest_49 : decode b_Co_writeTest 49 = .ok (.return_, 1) := by decide +kernel
theorem d_Co_writePair_0 : decode b_Co_writePair 0 = .ok (.aload_n 0, 1) := by decide +kernel
theorem d_Co_writePair_1 : decode b_Co_writePair 1 = .ok (.iload_n 1, 1) := by decide +kernel
theorem d_Co_writePair_2 : decode b_Co_writePair 2 = .ok (.invokevirtual 108, 3) := by decide +kernel
theorem d_Co_writePair_5 : decode b_Co_writePair 5 = .ok (.aload_n 0, 1) := by decide +kernel
theorem d_Co_writePair_6 : decode b_Co_writePair 6 = .ok (.iload_n 2, 1) := by decide +kernel
theorem d_Co_writePair_7 : decode b_Co_writePair 7 = .ok (.invokevirtual 108, 3) := by decide +kernel
theorem d_Co_writePair_10 : decode b_Co_writePair 10 = .ok (.return_, 1) := by decide +kernel
theorem d_Co_writeByte_0 : decode b_Co_writeByte 0 = .ok (.aload_n 0, 1) := by decide +kernel
theorem d_Co_writeByte_1 : decode b_Co_writeByte 1 = .ok (.getfield 40, 3) := by decide +kernel
theorem d_Co_writeByte_4 : decode b_Co_writeByte 4 = .ok (.sipush 600, 3) := by decide +kernel
theorem d_Co_writeByte_7 : decode b_Co_writeByte 7 = .ok (.if_icmp .ge 23, 3) := by decide +kernel
theorem d_Co_writeByte_10 : decode b_Co_writeByte 10 = .ok (.aload_n 0, 1) := by decide +kernel
theorem d_Co_writeByte_11 : decode b_Co_writeByte 11 = .ok (.getfield 9, 3) := by decide +kernel
theorem d_Co_writeByte_14 : decode b_Co_writeByte 14 = .ok (.aload_n 0, 1) := by decide +kernel
theorem d_Co_writeByte_15 : decode b_Co_writeByte 15 = .ok (.getfield 40, 3) := by decide +kernel
theorem d_Co_writeByte_18 : decode b_Co_writeByte 18 = .ok (.iload_n 1, 1) := by decide +kernel
theorem d_Co_writeByte_19 : decode b_Co_writeByte 19 = .ok (.iastore, 1) := by decide +kernel
theorem d_Co_writeByte_20 : decode b_Co_writeByte 20 = .ok (.aload_n 0, 1) := by decide +kernel
theorem d_Co_writeByte_21 : decode b_Co_writeByte 21 = .ok (.dup, 1) := by decide +kernel
theorem d_Co_writeByte_22 : decode b_Co_writeByte 22 = .ok (.getfield 40, 3) := by decide +kernel
theorem d_Co_writeByte_25 : decode b_Co_writeByte 25 = .ok (.iconst 1, 1) := by decide +kernel
theorem d_Co_writeByte_26 : decode b_Co_writeByte 26 = .ok (.iadd, 1) := by decide +kernel
theorem d_Co_writeByte_27 : decode b_Co_writeByte 27 = .ok (.putfield 40, 3) := by decide +kernel
theorem d_Co_writeByte_30 : decode b_Co_writeByte 30 = .ok (.return_, 1) := by decide +kernel
theorem d_Co_byteOfAll_0 : decode b_Co_byteOfAll 0 = .ok (.iload_n 1, 1) := by decide +kernel
theorem d_Co_byteOfAll_1 : decode b_Co_byteOfAll 1 = .ok (.ifCond .lt 20, 3) := by decide +kernel
theorem d_Co_byteOfAll_4 : decode b_Co_byteOfAll 4 = .ok (.iload_n 1, 1) := by decide +kernel
theorem d_Co_byteOfAll_5 : decode b_Co_byteOfAll 5 = .ok (.aload_n 0, 1) := by decide +kernel
theorem d_Co_byteOfAll_6 : decode b_Co_byteOfAll 6 = .ok (.getfield 40, 3) := by decide +kernel
theorem d_Co_byteOfAll_9 : decode b_Co_byteOfAll 9 = .ok (.if_icmp .ge 12, 3) := by decide +kernel
theorem d_Co_byteOfAll_12 : decode b_Co_byteOfAll 12 = .ok (.aload_n 0, 1) := by decide +kernel
theorem d_Co_byteOfAll_13 : decode b_Co_byteOfAll 13 = .ok (.getfield 9, 3) := by decide +kernel
theorem d_Co_byteOfAll_16 : decode b_Co_byteOfAll 16 = .ok (.iload_n 1, 1) := by decide +kernel
theorem d_Co_byteOfAll_17 : decode b_Co_byteOfAll 17 = .ok (.iaload, 1) := by decide +kernel
theorem d_Co_byteOfAll_18 : decode b_Co_byteOfAll 18 = .ok (.goto 4, 3) := by decide +kernel
theorem d_Co_byteOfAll_21 : decode b_Co_byteOfAll 21 = .ok (.iconst 3, 1) := by decide +kernel
theorem d_Co_byteOfAll_22 : decode b_Co_byteOfAll 22 = .ok (.ireturn, 1) := by decide +kernel
theorem d_Ma_runTrees_0 : decode b_Ma_runTrees 0 = .ok (.aload_n 0, 1) := by decide +kernel
theorem d_Ma_runTrees_1 : decode b_Ma_runTrees 1 = .ok (.iconst 0, 1) := by decide +kernel
theorem d_Ma_runTrees_2 : decode b_Ma_runTrees 2 = .ok (.putfield 23, 3) := by decide +kernel
theorem d_Ma_runTrees_5 : decode b_Ma_runTrees 5 = .ok (.aload_n 0, 1) := by decide +kernel
theorem d_Ma_runTrees_6 : decode b_Ma_runTrees 6 = .ok (.iconst 0, 1) := by decide +kernel
theorem d_Ma_runTrees_7 : decode b_Ma_runTrees 7 = .ok (.putfield 27, 3) := by decide +kernel
theorem d_Ma_runTrees_10 : decode b_Ma_runTrees 10 = .ok (.lconst 0, 1) := by decide +kernel
theorem d_Ma_runTrees_11 : decode b_Ma_runTrees 11 = .ok (.lstore_n 1, 1) := by decide +kernel
theorem d_Ma_runTrees_12 : decode b_Ma_runTrees 12 = .ok (.iconst 0, 1) := by decide +kernel
theorem d_Ma_runTrees_13 : decode b_Ma_runTrees 13 = .ok (.istore_n 3, 1) := by decide +kernel
theorem d_Ma_runTrees_14 : decode b_Ma_runTrees 14 = .ok (.iload_n 3, 1) := by decide +kernel
theorem d_Ma_runTrees_15 : decode b_Ma_runTrees 15 = .ok (.aload_n 0, 1) := by decide +kernel
theorem d_Ma_runTrees_16 : decode b_Ma_runTrees 16 = .ok (.getfield 9, 3) := by decide +kernel
theorem d_Ma_runTrees_19 : decode b_Ma_runTrees 19 = .ok (.getfield 30, 3) := by decide +kernel
theorem d_Ma_runTrees_22 : decode b_Ma_runTrees 22 = .ok (.if_icmp .ge 27, 3) := by decide +kernel
theorem d_Ma_runTrees_25 : decode b_Ma_runTrees 25 = .ok (.lload_n 1, 1) := by decide +kernel
theorem d_Ma_runTrees_26 : decode b_Ma_runTrees 26 = .ok (.aload_n 0, 1) := by decide +kernel
theorem d_Ma_runTrees_27 : decode b_Ma_runTrees 27 = .ok (.aload_n 0, 1) := by decide +kernel
theorem d_Ma_runTrees_28 : decode b_Ma_runTrees 28 = .ok (.getfield 9, 3) := by decide +kernel
theorem d_Ma_runTrees_31 : decode b_Ma_runTrees 31 = .ok (.getfield 35, 3) := by decide +kernel
theorem d_Ma_runTrees_34 : decode b_Ma_runTrees 34 = .ok (.iload_n 3, 1) := by decide +kernel
theorem d_Ma_runTrees_35 : decode b_Ma_runTrees 35 = .ok (.iaload, 1) := by decide +kernel
theorem d_Ma_runTrees_36 : decode b_Ma_runTrees 36 = .ok (.iconst 0, 1) := by decide +kernel
theorem d_Ma_runTrees_37 : decode b_Ma_runTrees 37 = .ok (.invokevirtual 38, 3) := by decide +kernel
theorem d_Ma_runTrees_40 : decode b_Ma_runTrees 40 = .ok (.i2l, 1) := by decide +kernel
theorem d_Ma_runTrees_41 : decode b_Ma_runTrees 41 = .ok (.ladd, 1) := by decide +kernel
theorem d_Ma_runTrees_42 : decode b_Ma_runTrees 42 = .ok (.lstore_n 1, 1) := by decide +kernel
theorem d_Ma_runTrees_43 : decode b_Ma_runTrees 43 = .ok (.iinc 3 1, 3) := by decide +kernel
theorem d_Ma_runTrees_46 : decode b_Ma_runTrees 46 = .ok (.goto (-32), 3) := by decide +kernel
theorem d_Ma_runTrees_49 : decode b_Ma_runTrees 49 = .ok (.lload_n 1, 1) := by decide +kernel
theorem d_Ma_runTrees_50 : decode b_Ma_runTrees 50 = .ok (.lreturn, 1) := by decide +kernel
theorem d_Ma_runMethod_0 : decode b_Ma_runMethod 0 = .ok (.iload_n 2, 1) := by decide +kernel
theorem d_Ma_runMethod_1 : decode b_Ma_runMethod 1 = .ok (.bipush 12, 2) := by decide +kernel
theorem d_Ma_runMethod_3 : decode b_Ma_runMethod 3 = .ok (.if_icmp .gt 14, 3) := by decide +kernel
theorem d_Ma_runMethod_6 : decode b_Ma_runMethod 6 = .ok (.aload_n 0, 1) := by decide +kernel
theorem d_Ma_runMethod_7 : decode b_Ma_runMethod 7 = .ok (.getfield 9, 3) := by decide +kernel
theorem d_Ma_runMethod_10 : decode b_Ma_runMethod 10 = .ok (.iload_n 1, 1) := by decide +kernel
theorem d_Ma_runMethod_11 : decode b_Ma_runMethod 11 = .ok (.invokevirtual 42, 3) := by decide +kernel
theorem d_Ma_runMethod_14 : decode b_Ma_runMethod 14 = .ok (.ifCond .ne 5, 3) := by decide +kernel
theorem d_Ma_runMethod_17 : decode b_Ma_runMethod 17 = .ok (.iconst 0, 1) := by decide +kernel
theorem d_Ma_runMethod_18 : decode b_Ma_runMethod 18 = .ok (.ireturn, 1) := by decide +kernel
theorem d_Ma_runMethod_19 : decode b_Ma_runMethod 19 = .ok (.iconst 0, 1) := by decide +kernel
theorem d_Ma_runMethod_20 : decode b_Ma_runMethod 20 = .ok (.istore_n 3, 1) := by decide +kernel
theorem d_Ma_runMethod_21 : decode b_Ma_runMethod 21 = .ok (.iconst 0, 1) := by decide +kernel
theorem d_Ma_runMethod_22 : decode b_Ma_runMethod 22 = .ok (.istore 4, 2) := by decide +kernel
theorem d_Ma_runMethod_24 : decode b_Ma_runMethod 24 = .ok (.aload_n 0, 1) := by decide +kernel
theorem d_Ma_runMethod_25 : decode b_Ma_runMethod 25 = .ok (.getfield 9, 3) := by decide +kernel
theorem d_Ma_runMethod_28 : decode b_Ma_runMethod 28 = .ok (.getfield 46, 3) := by decide +kernel
theorem d_Ma_runMethod_31 : decode b_Ma_runMethod 31 = .ok (.iload_n 1, 1) := by decide +kernel
theorem d_Ma_runMethod_32 : decode b_Ma_runMethod 32 = .ok (.iaload, 1) := by decide +kernel
theorem d_Ma_runMethod_33 : decode b_Ma_runMethod 33 = .ok (.istore 5, 2) := by decide +kernel
theorem d_Ma_runMethod_35 : decode b_Ma_runMethod 35 = .ok (.iconst 0, 1) := by decide +kernel
theorem d_Ma_runMethod_36 : decode b_Ma_runMethod 36 = .ok (.istore 6, 2) := by decide +kernel
theorem d_Ma_runMethod_38 : decode b_Ma_runMethod 38 = .ok (.iload 6, 2) := by decide +kernel
theorem d_Ma_runMethod_40 : decode b_Ma_runMethod 40 = .ok (.sipush 600, 3) := by decide +kernel
theorem d_Ma_runMethod_43 : decode b_Ma_runMethod 43 = .ok (.if_icmp .ge 120, 3) := by decide +kernel
theorem d_Ma_runMethod_46 : decode b_Ma_runMethod 46 = .ok (.aload_n 0, 1) := by decide +kernel
theorem d_Ma_runMethod_47 : decode b_Ma_runMethod 47 = .ok (.getfield 9, 3) := by decide +kernel
theorem d_Ma_runMethod_50 : decode b_Ma_runMethod 50 = .ok (.iload 5, 2) := by decide +kernel
theorem d_Ma_runMethod_52 : decode b_Ma_runMethod 52 = .ok (.invokevirtual 49, 3) := by decide +kernel
theorem d_Ma_runMethod_55 : decode b_Ma_runMethod 55 = .ok (.istore 7, 2) := by decide +kernel
theorem d_Ma_runMethod_57 : decode b_Ma_runMethod 57 = .ok (.aload_n 0, 1) := by decide +kernel
theorem d_Ma_runMethod_58 : decode b_Ma_runMethod 58 = .ok (.dup, 1) := by decide +kernel
theorem d_Ma_runMethod_59 : decode b_Ma_runMethod 59 = .ok (.getfield 23, 3) := by decide +kernel
theorem d_Ma_runMethod_62 : decode b_Ma_runMethod 62 = .ok (.iconst 1, 1) := by decide +kernel
theorem d_Ma_runMethod_63 : decode b_Ma_runMethod 63 = .ok (.iadd, 1) := by decide +kernel
theorem d_Ma_runMethod_64 : decode b_Ma_runMethod 64 = .ok (.putfield 23, 3) := by decide +kernel
theorem d_Ma_runMethod_67 : decode b_Ma_runMethod 67 = .ok (.iload 7, 2) := by decide +kernel
theorem d_Ma_runMethod_69 : decode b_Ma_runMethod 69 = .ok (.iconst 3, 1) := by decide +kernel
theorem d_Ma_runMethod_70 : decode b_Ma_runMethod 70 = .ok (.if_icmp .ne 5, 3) := by decide +kernel
theorem d_Ma_runMethod_73 : decode b_Ma_runMethod 73 = .ok (.iload_n 3, 1) := by decide +kernel
theorem d_Ma_runMethod_74 : decode b_Ma_runMethod 74 = .ok (.ireturn, 1) := by decide +kernel
theorem d_Ma_runMethod_75 : decode b_Ma_runMethod 75 = .ok (.iload 7, 2) := by decide +kernel
theorem d_Ma_runMethod_77 : decode b_Ma_runMethod 77 = .ok (.bipush 10, 2) := by decide +kernel
theorem d_Ma_runMethod_79 : decode b_Ma_runMethod 79 = .ok (.if_icmp .lt 20, 3) := by decide +kernel
theorem d_Ma_runMethod_82 : decode b_Ma_runMethod 82 = .ok (.iload 5, 2) := by decide +kernel
theorem d_Ma_runMethod_84 : decode b_Ma_runMethod 84 = .ok (.aload_n 0, 1) := by decide +kernel
theorem d_Ma_runMethod_85 : decode b_Ma_runMethod 85 = .ok (.iload 5, 2) := by decide +kernel
theorem d_Ma_runMethod_87 : decode b_Ma_runMethod 87 = .ok (.iload 4, 2) := by decide +kernel
theorem d_Ma_runMethod_89 : decode b_Ma_runMethod 89 = .ok (.iload_n 3, 1) := by decide +kernel
theorem d_Ma_runMethod_90 : decode b_Ma_runMethod 90 = .ok (.invokevirtual 53, 3) := by decide +kernel
theorem d_Ma_runMethod_93 : decode b_Ma_runMethod 93 = .ok (.iadd, 1) := by decide +kernel
theorem d_Ma_runMethod_94 : decode b_Ma_runMethod 94 = .ok (.istore 5, 2) := by decide +kernel
theorem d_Ma_runMethod_96 : decode b_Ma_runMethod 96 = .ok (.goto 61, 3) := by decide +kernel
theorem d_Ma_runMethod_99 : decode b_Ma_runMethod 99 = .ok (.iload_n 3, 1) := by decide +kernel
theorem d_Ma_runMethod_100 : decode b_Ma_runMethod 100 = .ok (.istore 4, 2) := by decide +kernel
theorem d_Ma_runMethod_102 : decode b_Ma_runMethod 102 = .ok (.aload_n 0, 1) := by decide +kernel
theorem d_Ma_runMethod_103 : decode b_Ma_runMethod 103 = .ok (.iload 7, 2) := by decide +kernel
theorem d_Ma_runMethod_105 : decode b_Ma_runMethod 105 = .ok (.aload_n 0, 1) := by decide +kernel
theorem d_Ma_runMethod_106 : decode b_Ma_runMethod 106 = .ok (.getfield 9, 3) := by decide +kernel
theorem d_Ma_runMethod_109 : decode b_Ma_runMethod 109 = .ok (.getfield 57, 3) := by decide +kernel
theorem d_Ma_runMethod_112 : decode b_Ma_runMethod 112 = .ok (.iload_n 1, 1) := by decide +kernel
theorem d_Ma_runMethod_113 : decode b_Ma_runMethod 113 = .ok (.iaload, 1) := by decide +kernel
theorem d_Ma_runMethod_114 : decode b_Ma_runMethod 114 = .ok (.aload_n 0, 1) := by decide +kernel
theorem d_Ma_runMethod_115 : decode b_Ma_runMethod 115 = .ok (.getfield 9, 3) := by decide +kernel
theorem d_Ma_runMethod_118 : decode b_Ma_runMethod 118 = .ok (.iload 5, 2) := by decide +kernel
theorem d_Ma_runMethod_120 : decode b_Ma_runMethod 120 = .ok (.iconst 1, 1) := by decide +kernel
theorem d_Ma_runMethod_121 : decode b_Ma_runMethod 121 = .ok (.iadd, 1) := by decide +kernel
theorem d_Ma_runMethod_122 : decode b_Ma_runMethod 122 = .ok (.invokevirtual 49, 3) := by decide +kernel
theorem d_Ma_runMethod_125 : decode b_Ma_runMethod 125 = .ok (.invokevirtual 60, 3) := by decide +kernel
theorem d_Ma_runMethod_128 : decode b_Ma_runMethod 128 = .ok (.istore_n 3, 1) := by decide +kernel
theorem d_Ma_runMethod_129 : decode b_Ma_runMethod 129 = .ok (.iload 7, 2) := by decide +kernel
theorem d_Ma_runMethod_131 : decode b_Ma_runMethod 131 = .ok (.iconst 4, 1) := by decide +kernel
theorem d_Ma_runMethod_132 : decode b_Ma_runMethod 132 = .ok (.if_icmp .ne 22, 3) := by decide +kernel
theorem d_Ma_runMethod_135 : decode b_Ma_runMethod 135 = .ok (.aload_n 0, 1) := by decide +kernel
theorem d_Ma_runMethod_136 : decode b_Ma_runMethod 136 = .ok (.dup, 1) := by decide +kernel
theorem d_Ma_runMethod_137 : decode b_Ma_runMethod 137 = .ok (.getfield 27, 3) := by decide +kernel
theorem d_Ma_runMethod_140 : decode b_Ma_runMethod 140 = .ok (.iconst 1, 1) := by decide +kernel
theorem d_Ma_runMethod_141 : decode b_Ma_runMethod 141 = .ok (.iadd, 1) := by decide +kernel
theorem d_Ma_runMethod_142 : decode b_Ma_runMethod 142 = .ok (.putfield 27, 3) := by decide +kernel
theorem d_Ma_runMethod_145 : decode b_Ma_runMethod 145 = .ok (.aload_n 0, 1) := by decide +kernel
theorem d_Ma_runMethod_146 : decode b_Ma_runMethod 146 = .ok (.iload_n 3, 1) := by decide +kernel
theorem d_Ma_runMethod_147 : decode b_Ma_runMethod 147 = .ok (.iload_n 2, 1) := by decide +kernel
theorem d_Ma_runMethod_148 : decode b_Ma_runMethod 148 = .ok (.iconst 1, 1) := by decide +kernel
theorem d_Ma_runMethod_149 : decode b_Ma_runMethod 149 = .ok (.iadd, 1) := by decide +kernel
theorem d_Ma_runMethod_150 : decode b_Ma_runMethod 150 = .ok (.invokevirtual 38, 3) := by decide +kernel
theorem d_Ma_runMethod_153 : decode b_Ma_runMethod 153 = .ok (.istore_n 3, 1) := by decide +kernel
theorem d_Ma_runMethod_154 : decode b_Ma_runMethod 154 = .ok (.iinc 5 2, 3) := by decide +kernel
theorem d_Ma_runMethod_157 : decode b_Ma_runMethod 157 = .ok (.iinc 6 1, 3) := by decide +kernel
theorem d_Ma_runMethod_160 : decode b_Ma_runMethod 160 = .ok (.goto (-122), 3) := by decide +kernel
theorem d_Ma_runMethod_163 : decode b_Ma_runMethod 163 = .ok (.iload_n 3, 1) := by decide +kernel
theorem d_Ma_runMethod_164 : decode b_Ma_runMethod 164 = .ok (.ireturn, 1) := by decide +kernel
theorem d_Ma_operand_0 : decode b_Ma_operand 0 = .ok (.iload_n 1, 1) := by decide +kernel
theorem d_Ma_operand_1 : decode b_Ma_operand 1 = .ok (.iconst 1, 1) := by decide +kernel
theorem d_Ma_operand_2 : decode b_Ma_operand 2 = .ok (.if_icmp .ne 21, 3) := by decide +kernel
theorem d_Ma_operand_5 : decode b_Ma_operand 5 = .ok (.iload_n 3, 1) := by decide +kernel
theorem d_Ma_operand_6 : decode b_Ma_operand 6 = .ok (.invokestatic 63, 3) := by decide +kernel
theorem d_Ma_operand_9 : decode b_Ma_operand 9 = .ok (.ifCond .eq 12, 3) := by decide +kernel
