theorem d_Mo_cutTree_10 : decode b_Mo_cutTree 10 = .ok (.iload_n 1, 1) := by decide +kernel
theorem d_Mo_cutTree_11 : decode b_Mo_cutTree 11 = .ok (.iastore, 1) := by decide +kernel
theorem d_Mo_cutTree_12 : decode b_Mo_cutTree 12 = .ok (.iload 4, 2) := by decide +kernel
theorem d_Mo_cutTree_14 : decode b_Mo_cutTree 14 = .ok (.ifCond .le 73, 3) := by decide +kernel
theorem d_Mo_cutTree_17 : decode b_Mo_cutTree 17 = .ok (.iinc 4 (-1), 3) := by decide +kernel
theorem d_Mo_cutTree_20 : decode b_Mo_cutTree 20 = .ok (.aload_n 0, 1) := by decide +kernel
theorem d_Mo_cutTree_21 : decode b_Mo_cutTree 21 = .ok (.getfield 35, 3) := by decide +kernel
theorem d_Mo_cutTree_24 : decode b_Mo_cutTree 24 = .ok (.iload 4, 2) := by decide +kernel
theorem d_Mo_cutTree_26 : decode b_Mo_cutTree 26 = .ok (.iaload, 1) := by decide +kernel
theorem d_Mo_cutTree_27 : decode b_Mo_cutTree 27 = .ok (.istore 5, 2) := by decide +kernel
theorem d_Mo_cutTree_29 : decode b_Mo_cutTree 29 = .ok (.aload_n 0, 1) := by decide +kernel
theorem d_Mo_cutTree_30 : decode b_Mo_cutTree 30 = .ok (.getfield 41, 3) := by decide +kernel
theorem d_Mo_cutTree_33 : decode b_Mo_cutTree 33 = .ok (.iload_n 3, 1) := by decide +kernel
theorem d_Mo_cutTree_34 : decode b_Mo_cutTree 34 = .ok (.iload 5, 2) := by decide +kernel
theorem d_Mo_cutTree_36 : decode b_Mo_cutTree 36 = .ok (.iastore, 1) := by decide +kernel
theorem d_Mo_cutTree_37 : decode b_Mo_cutTree 37 = .ok (.iinc 3 1, 3) := by decide +kernel
theorem d_Mo_cutTree_40 : decode b_Mo_cutTree 40 = .ok (.aload_n 0, 1) := by decide +kernel
theorem d_Mo_cutTree_41 : decode b_Mo_cutTree 41 = .ok (.getfield 7, 3) := by decide +kernel
theorem d_Mo_cutTree_44 : decode b_Mo_cutTree 44 = .ok (.iload 5, 2) := by decide +kernel
theorem d_Mo_cutTree_46 : decode b_Mo_cutTree 46 = .ok (.iaload, 1) := by decide +kernel
theorem d_Mo_cutTree_47 : decode b_Mo_cutTree 47 = .ok (.iconst (-1), 1) := by decide +kernel
theorem d_Mo_cutTree_48 : decode b_Mo_cutTree 48 = .ok (.if_icmp .eq 36, 3) := by decide +kernel
theorem d_Mo_cutTree_51 : decode b_Mo_cutTree 51 = .ok (.aload_n 0, 1) := by decide +kernel
theorem d_Mo_cutTree_52 : decode b_Mo_cutTree 52 = .ok (.getfield 35, 3) := by decide +kernel
theorem d_Mo_cutTree_55 : decode b_Mo_cutTree 55 = .ok (.iload 4, 2) := by decide +kernel
theorem d_Mo_cutTree_57 : decode b_Mo_cutTree 57 = .ok (.aload_n 0, 1) := by decide +kernel
theorem d_Mo_cutTree_58 : decode b_Mo_cutTree 58 = .ok (.getfield 19, 3) := by decide +kernel
theorem d_Mo_cutTree_61 : decode b_Mo_cutTree 61 = .ok (.iload 5, 2) := by decide +kernel
theorem d_Mo_cutTree_63 : decode b_Mo_cutTree 63 = .ok (.iaload, 1) := by decide +kernel
theorem d_Mo_cutTree_64 : decode b_Mo_cutTree 64 = .ok (.iastore, 1) := by decide +kernel
theorem d_Mo_cutTree_65 : decode b_Mo_cutTree 65 = .ok (.aload_n 0, 1) := by decide +kernel
theorem d_Mo_cutTree_66 : decode b_Mo_cutTree 66 = .ok (.getfield 35, 3) := by decide +kernel
theorem d_Mo_cutTree_69 : decode b_Mo_cutTree 69 = .ok (.iload 4, 2) := by decide +kernel
theorem d_Mo_cutTree_71 : decode b_Mo_cutTree 71 = .ok (.iconst 1, 1) := by decide +kernel
theorem d_Mo_cutTree_72 : decode b_Mo_cutTree 72 = .ok (.iadd, 1) := by decide +kernel
theorem d_Mo_cutTree_73 : decode b_Mo_cutTree 73 = .ok (.aload_n 0, 1) := by decide +kernel
theorem d_Mo_cutTree_74 : decode b_Mo_cutTree 74 = .ok (.getfield 22, 3) := by decide +kernel
theorem d_Mo_cutTree_77 : decode b_Mo_cutTree 77 = .ok (.iload 5, 2) := by decide +kernel
theorem d_Mo_cutTree_79 : decode b_Mo_cutTree 79 = .ok (.iaload, 1) := by decide +kernel
theorem d_Mo_cutTree_80 : decode b_Mo_cutTree 80 = .ok (.iastore, 1) := by decide +kernel
theorem d_Mo_cutTree_81 : decode b_Mo_cutTree 81 = .ok (.iinc 4 2, 3) := by decide +kernel
theorem d_Mo_cutTree_84 : decode b_Mo_cutTree 84 = .ok (.goto (-72), 3) := by decide +kernel
theorem d_Mo_cutTree_87 : decode b_Mo_cutTree 87 = .ok (.iload_n 3, 1) := by decide +kernel
theorem d_Mo_cutTree_88 : decode b_Mo_cutTree 88 = .ok (.iconst 1, 1) := by decide +kernel
theorem d_Mo_cutTree_89 : decode b_Mo_cutTree 89 = .ok (.isub, 1) := by decide +kernel
theorem d_Mo_cutTree_90 : decode b_Mo_cutTree 90 = .ok (.istore 5, 2) := by decide +kernel
theorem d_Mo_cutTree_92 : decode b_Mo_cutTree 92 = .ok (.iload 5, 2) := by decide +kernel
theorem d_Mo_cutTree_94 : decode b_Mo_cutTree 94 = .ok (.ifCond .lt 21, 3) := by decide +kernel
theorem d_Mo_cutTree_97 : decode b_Mo_cutTree 97 = .ok (.aload_n 0, 1) := by decide +kernel
theorem d_Mo_cutTree_98 : decode b_Mo_cutTree 98 = .ok (.aload_n 0, 1) := by decide +kernel
theorem d_Mo_cutTree_99 : decode b_Mo_cutTree 99 = .ok (.getfield 41, 3) := by decide +kernel
theorem d_Mo_cutTree_102 : decode b_Mo_cutTree 102 = .ok (.iload 5, 2) := by decide +kernel
theorem d_Mo_cutTree_104 : decode b_Mo_cutTree 104 = .ok (.iaload, 1) := by decide +kernel
theorem d_Mo_cutTree_105 : decode b_Mo_cutTree 105 = .ok (.iload_n 2, 1) := by decide +kernel
theorem d_Mo_cutTree_106 : decode b_Mo_cutTree 106 = .ok (.invokevirtual 108, 3) := by decide +kernel
theorem d_Mo_cutTree_109 : decode b_Mo_cutTree 109 = .ok (.iinc 5 (-1), 3) := by decide +kernel
theorem d_Mo_cutTree_112 : decode b_Mo_cutTree 112 = .ok (.goto (-20), 3) := by decide +kernel
theorem d_Mo_cutTree_115 : decode b_Mo_cutTree 115 = .ok (.aload_n 0, 1) := by decide +kernel
theorem d_Mo_cutTree_116 : decode b_Mo_cutTree 116 = .ok (.iload_n 1, 1) := by decide +kernel
theorem d_Mo_cutTree_117 : decode b_Mo_cutTree 117 = .ok (.invokevirtual 98, 3) := by decide +kernel
theorem d_Mo_cutTree_120 : decode b_Mo_cutTree 120 = .ok (.return_, 1) := by decide +kernel
theorem d_Mo_put_0 : decode b_Mo_put 0 = .ok (.aload_n 0, 1) := by decide +kernel
theorem d_Mo_put_1 : decode b_Mo_put 1 = .ok (.getfield 59, 3) := by decide +kernel
theorem d_Mo_put_4 : decode b_Mo_put 4 = .ok (.aload_n 0, 1) := by decide +kernel
theorem d_Mo_put_5 : decode b_Mo_put 5 = .ok (.getfield 112, 3) := by decide +kernel
theorem d_Mo_put_8 : decode b_Mo_put 8 = .ok (.iload_n 1, 1) := by decide +kernel
theorem d_Mo_put_9 : decode b_Mo_put 9 = .ok (.iastore, 1) := by decide +kernel
theorem d_Mo_put_10 : decode b_Mo_put 10 = .ok (.aload_n 0, 1) := by decide +kernel
theorem d_Mo_put_11 : decode b_Mo_put 11 = .ok (.dup, 1) := by decide +kernel
theorem d_Mo_put_12 : decode b_Mo_put 12 = .ok (.getfield 112, 3) := by decide +kernel
theorem d_Mo_put_15 : decode b_Mo_put 15 = .ok (.iconst 1, 1) := by decide +kernel
theorem d_Mo_put_16 : decode b_Mo_put 16 = .ok (.iadd, 1) := by decide +kernel
theorem d_Mo_put_17 : decode b_Mo_put 17 = .ok (.putfield 112, 3) := by decide +kernel
theorem d_Mo_put_20 : decode b_Mo_put 20 = .ok (.return_, 1) := by decide +kernel
theorem d_Mo_entryFor_0 : decode b_Mo_entryFor 0 = .ok (.iload_n 1, 1) := by decide +kernel
theorem d_Mo_entryFor_1 : decode b_Mo_entryFor 1 = .ok (.istore 4, 2) := by decide +kernel
theorem d_Mo_entryFor_3 : decode b_Mo_entryFor 3 = .ok (.iload 4, 2) := by decide +kernel
theorem d_Mo_entryFor_5 : decode b_Mo_entryFor 5 = .ok (.aload_n 0, 1) := by decide +kernel
theorem d_Mo_entryFor_6 : decode b_Mo_entryFor 6 = .ok (.getfield 115, 3) := by decide +kernel
theorem d_Mo_entryFor_9 : decode b_Mo_entryFor 9 = .ok (.if_icmp .ge 31, 3) := by decide +kernel
theorem d_Mo_entryFor_12 : decode b_Mo_entryFor 12 = .ok (.aload_n 0, 1) := by decide +kernel
theorem d_Mo_entryFor_13 : decode b_Mo_entryFor 13 = .ok (.getfield 65, 3) := by decide +kernel
theorem d_Mo_entryFor_16 : decode b_Mo_entryFor 16 = .ok (.iload 4, 2) := by decide +kernel
theorem d_Mo_entryFor_18 : decode b_Mo_entryFor 18 = .ok (.iaload, 1) := by decide +kernel
theorem d_Mo_entryFor_19 : decode b_Mo_entryFor 19 = .ok (.iload_n 2, 1) := by decide +kernel
theorem d_Mo_entryFor_20 : decode b_Mo_entryFor 20 = .ok (.if_icmp .ne 14, 3) := by decide +kernel
theorem d_Mo_entryFor_23 : decode b_Mo_entryFor 23 = .ok (.aload_n 0, 1) := by decide +kernel
theorem d_Mo_entryFor_24 : decode b_Mo_entryFor 24 = .ok (.getfield 68, 3) := by decide +kernel
theorem d_Mo_entryFor_27 : decode b_Mo_entryFor 27 = .ok (.iload 4, 2) := by decide +kernel
theorem d_Mo_entryFor_29 : decode b_Mo_entryFor 29 = .ok (.iaload, 1) := by decide +kernel
theorem d_Mo_entryFor_30 : decode b_Mo_entryFor 30 = .ok (.iload_n 3, 1) := by decide +kernel
theorem d_Mo_entryFor_31 : decode b_Mo_entryFor 31 = .ok (.if_icmp .eq 9, 3) := by decide +kernel
theorem d_Mo_entryFor_34 : decode b_Mo_entryFor 34 = .ok (.iinc 4 1, 3) := by decide +kernel
theorem d_Mo_entryFor_37 : decode b_Mo_entryFor 37 = .ok (.goto (-34), 3) := by decide +kernel
theorem d_Mo_entryFor_40 : decode b_Mo_entryFor 40 = .ok (.iload 4, 2) := by decide +kernel
theorem d_Mo_entryFor_42 : decode b_Mo_entryFor 42 = .ok (.aload_n 0, 1) := by decide +kernel
theorem d_Mo_entryFor_43 : decode b_Mo_entryFor 43 = .ok (.getfield 115, 3) := by decide +kernel
theorem d_Mo_entryFor_46 : decode b_Mo_entryFor 46 = .ok (.if_icmp .ne 29, 3) := by decide +kernel
theorem d_Mo_entryFor_49 : decode b_Mo_entryFor 49 = .ok (.aload_n 0, 1) := by decide +kernel
theorem d_Mo_entryFor_50 : decode b_Mo_entryFor 50 = .ok (.getfield 65, 3) := by decide +kernel
theorem d_Mo_entryFor_53 : decode b_Mo_entryFor 53 = .ok (.iload 4, 2) := by decide +kernel
theorem d_Mo_entryFor_55 : decode b_Mo_entryFor 55 = .ok (.iload_n 2, 1) := by decide +kernel
theorem d_Mo_entryFor_56 : decode b_Mo_entryFor 56 = .ok (.iastore, 1) := by decide +kernel
theorem d_Mo_entryFor_57 : decode b_Mo_entryFor 57 = .ok (.aload_n 0, 1) := by decide +kernel
theorem d_Mo_entryFor_58 : decode b_Mo_entryFor 58 = .ok (.getfield 68, 3) := by decide +kernel
theorem d_Mo_entryFor_61 : decode b_Mo_entryFor 61 = .ok (.iload 4, 2) := by decide +kernel
theorem d_Mo_entryFor_63 : decode b_Mo_entryFor 63 = .ok (.iload_n 3, 1) := by decide +kernel
theorem d_Mo_entryFor_64 : decode b_Mo_entryFor 64 = .ok (.iastore, 1) := by decide +kernel
theorem d_Mo_entryFor_65 : decode b_Mo_entryFor 65 = .ok (.aload_n 0, 1) := by decide +kernel
theorem d_Mo_entryFor_66 : decode b_Mo_entryFor 66 = .ok (.dup, 1) := by decide +kernel
theorem d_Mo_entryFor_67 : decode b_Mo_entryFor 67 = .ok (.getfield 115, 3) := by decide +kernel
theorem d_Mo_entryFor_70 : decode b_Mo_entryFor 70 = .ok (.iconst 1, 1) := by decide +kernel
theorem d_Mo_entryFor_71 : decode b_Mo_entryFor 71 = .ok (.iadd, 1) := by decide +kernel
theorem d_Mo_entryFor_72 : decode b_Mo_entryFor 72 = .ok (.putfield 115, 3) := by decide +kernel
theorem d_Mo_entryFor_75 : decode b_Mo_entryFor 75 = .ok (.iload 4, 2) := by decide +kernel
theorem d_Mo_entryFor_77 : decode b_Mo_entryFor 77 = .ok (.iload_n 1, 1) := by decide +kernel
theorem d_Mo_entryFor_78 : decode b_Mo_entryFor 78 = .ok (.isub, 1) := by decide +kernel
theorem d_Mo_entryFor_79 : decode b_Mo_entryFor 79 = .ok (.ireturn, 1) := by decide +kernel
theorem d_Mo_with_0 : decode b_Mo_with 0 = .ok (.aload_n 0, 1) := by decide +kernel
theorem d_Mo_with_1 : decode b_Mo_with 1 = .ok (.iload_n 1, 1) := by decide +kernel
theorem d_Mo_with_2 : decode b_Mo_with 2 = .ok (.invokevirtual 118, 3) := by decide +kernel
theorem d_Mo_with_5 : decode b_Mo_with 5 = .ok (.aload_n 0, 1) := by decide +kernel
theorem d_Mo_with_6 : decode b_Mo_with 6 = .ok (.iload_n 2, 1) := by decide +kernel
theorem d_Mo_with_7 : decode b_Mo_with 7 = .ok (.iload_n 3, 1) := by decide +kernel
theorem d_Mo_with_8 : decode b_Mo_with 8 = .ok (.iload 4, 2) := by decide +kernel
theorem d_Mo_with_10 : decode b_Mo_with 10 = .ok (.invokevirtual 121, 3) := by decide +kernel
theorem d_Mo_with_13 : decode b_Mo_with 13 = .ok (.istore 5, 2) := by decide +kernel
theorem d_Mo_with_15 : decode b_Mo_with 15 = .ok (.aload_n 0, 1) := by decide +kernel
theorem d_Mo_with_16 : decode b_Mo_with 16 = .ok (.iload 5, 2) := by decide +kernel
theorem d_Mo_with_18 : decode b_Mo_with 18 = .ok (.invokevirtual 118, 3) := by decide +kernel
theorem d_Mo_with_21 : decode b_Mo_with 21 = .ok (.return_, 1) := by decide +kernel
theorem d_Mo_write_0 : decode b_Mo_write 0 = .ok (.iconst 1, 1) := by decide +kernel
theorem d_Mo_write_1 : decode b_Mo_write 1 = .ok (.istore_n 3, 1) := by decide +kernel
theorem d_Mo_write_2 : decode b_Mo_write 2 = .ok (.aload_n 0, 1) := by decide +kernel
theorem d_Mo_write_3 : decode b_Mo_write 3 = .ok (.getfield 35, 3) := by decide +kernel
theorem d_Mo_write_6 : decode b_Mo_write 6 = .ok (.iconst 0, 1) := by decide +kernel
theorem d_Mo_write_7 : decode b_Mo_write 7 = .ok (.aload_n 0, 1) := by decide +kernel
theorem d_Mo_write_8 : decode b_Mo_write 8 = .ok (.getfield 56, 3) := by decide +kernel
theorem d_Mo_write_11 : decode b_Mo_write 11 = .ok (.iload_n 1, 1) := by decide +kernel
theorem d_Mo_write_12 : decode b_Mo_write 12 = .ok (.iaload, 1) := by decide +kernel
theorem d_Mo_write_13 : decode b_Mo_write 13 = .ok (.iastore, 1) := by decide +kernel
theorem d_Mo_write_14 : decode b_Mo_write 14 = .ok (.iload_n 3, 1) := by decide +kernel
theorem d_Mo_write_15 : decode b_Mo_write 15 = .ok (.ifCond .le 251, 3) := by decide +kernel
theorem d_Mo_write_18 : decode b_Mo_write 18 = .ok (.iinc 3 (-1), 3) := by decide +kernel
theorem d_Mo_write_21 : decode b_Mo_write 21 = .ok (.aload_n 0, 1) := by decide +kernel
theorem d_Mo_write_22 : decode b_Mo_write 22 = .ok (.getfield 35, 3) := by decide +kernel
theorem d_Mo_write_25 : decode b_Mo_write 25 = .ok (.iload_n 3, 1) := by decide +kernel
theorem d_Mo_write_26 : decode b_Mo_write 26 = .ok (.iaload, 1) := by decide +kernel
theorem d_Mo_write_27 : decode b_Mo_write 27 = .ok (.istore 4, 2) := by decide +kernel
theorem d_Mo_write_29 : decode b_Mo_write 29 = .ok (.aload_n 0, 1) := by decide +kernel
theorem d_Mo_write_30 : decode b_Mo_write 30 = .ok (.getfield 47, 3) := by decide +kernel
theorem d_Mo_write_33 : decode b_Mo_write 33 = .ok (.iload 4, 2) := by decide +kernel
theorem d_Mo_write_35 : decode b_Mo_write 35 = .ok (.iaload, 1) := by decide +kernel
theorem d_Mo_write_36 : decode b_Mo_write 36 = .ok (.ifCond .lt 36, 3) := by decide +kernel
theorem d_Mo_write_39 : decode b_Mo_write 39 = .ok (.iload 4, 2) := by decide +kernel
theorem d_Mo_write_41 : decode b_Mo_write 41 = .ok (.aload_n 0, 1) := by decide +kernel
theorem d_Mo_write_42 : decode b_Mo_write 42 = .ok (.getfield 56, 3) := by decide +kernel
theorem d_Mo_write_45 : decode b_Mo_write 45 = .ok (.iload_n 1, 1) := by decide +kernel
theorem d_Mo_write_46 : decode b_Mo_write 46 = .ok (.iaload, 1) := by decide +kernel
theorem d_Mo_write_47 : decode b_Mo_write 47 = .ok (.if_icmp .eq 25, 3) := by decide +kernel
theorem d_Mo_write_50 : decode b_Mo_write 50 = .ok (.aload_n 0, 1) := by decide +kernel
theorem d_Mo_write_51 : decode b_Mo_write 51 = .ok (.iconst 4, 1) := by decide +kernel
theorem d_Mo_write_52 : decode b_Mo_write 52 = .ok (.iload_n 2, 1) := by decide +kernel
theorem d_Mo_write_53 : decode b_Mo_write 53 = .ok (.iconst 4, 1) := by decide +kernel
theorem d_Mo_write_54 : decode b_Mo_write 54 = .ok (.aload_n 0, 1) := by decide +kernel
theorem d_Mo_write_55 : decode b_Mo_write 55 = .ok (.getfield 47, 3) := by decide +kernel
theorem d_Mo_write_58 : decode b_Mo_write 58 = .ok (.iload 4, 2) := by decide +kernel
theorem d_Mo_write_60 : decode b_Mo_write 60 = .ok (.iaload, 1) := by decide +kernel
theorem d_Mo_write_61 : decode b_Mo_write 61 = .ok (.invokevirtual 125, 3) := by decide +kernel
theorem d_Mo_write_64 : decode b_Mo_write 64 = .ok (.aload_n 0, 1) := by decide +kernel
theorem d_Mo_write_65 : decode b_Mo_write 65 = .ok (.iconst 3, 1) := by decide +kernel
theorem d_Mo_write_66 : decode b_Mo_write 66 = .ok (.invokevirtual 118, 3) := by decide +kernel
theorem d_Mo_write_69 : decode b_Mo_write 69 = .ok (.goto 194, 3) := by decide +kernel
theorem d_Mo_write_72 : decode b_Mo_write 72 = .ok (.aload_n 0, 1) := by decide +kernel
theorem d_Mo_write_73 : decode b_Mo_write 73 = .ok (.getfield 7, 3) := by decide +kernel
theorem d_Mo_write_76 : decode b_Mo_write 76 = .ok (.iload 4, 2) := by decide +kernel
theorem d_Mo_write_78 : decode b_Mo_write 78 = .ok (.iaload, 1) := by decide +kernel
theorem d_Mo_write_79 : decode b_Mo_write 79 = .ok (.iconst (-1), 1) := by decide +kernel
theorem d_Mo_write_80 : decode b_Mo_write 80 = .ok (.if_icmp .ne 25, 3) := by decide +kernel
theorem d_Mo_write_83 : decode b_Mo_write 83 = .ok (.aload_n 0, 1) := by decide +kernel
theorem d_Mo_write_84 : decode b_Mo_write 84 = .ok (.iconst 2, 1) := by decide +kernel
theorem d_Mo_write_85 : decode b_Mo_write 85 = .ok (.iload_n 2, 1) := by decide +kernel
theorem d_Mo_write_86 : decode b_Mo_write 86 = .ok (.iconst 2, 1) := by decide +kernel
theorem d_Mo_write_87 : decode b_Mo_write 87 = .ok (.aload_n 0, 1) := by decide +kernel
theorem d_Mo_write_88 : decode b_Mo_write 88 = .ok (.getfield 16, 3) := by decide +kernel
theorem d_Mo_write_91 : decode b_Mo_write 91 = .ok (.iload 4, 2) := by decide +kernel
theorem d_Mo_write_93 : decode b_Mo_write 93 = .ok (.iaload, 1) := by decide +kernel
theorem d_Mo_write_94 : decode b_Mo_write 94 = .ok (.invokevirtual 125, 3) := by decide +kernel
theorem d_Mo_write_97 : decode b_Mo_write 97 = .ok (.aload_n 0, 1) := by decide +kernel
theorem d_Mo_write_98 : decode b_Mo_write 98 = .ok (.iconst 3, 1) := by decide +kernel
theorem d_Mo_write_99 : decode b_Mo_write 99 = .ok (.invokevirtual 118, 3) := by decide +kernel
theorem d_Mo_write_102 : decode b_Mo_write 102 = .ok (.goto 161, 3) := by decide +kernel
theorem d_Mo_write_105 : decode b_Mo_write 105 = .ok (.aload_n 0, 1) := by decide +kernel
theorem d_Mo_write_106 : decode b_Mo_write 106 = .ok (.iconst 1, 1) := by decide +kernel
theorem d_Mo_write_107 : decode b_Mo_write 107 = .ok (.invokevirtual 118, 3) := by decide +kernel
theorem d_Mo_write_110 : decode b_Mo_write 110 = .ok (.aload_n 0, 1) := by decide +kernel
theorem d_Mo_write_111 : decode b_Mo_write 111 = .ok (.aload_n 0, 1) := by decide +kernel
theorem d_Mo_write_112 : decode b_Mo_write 112 = .ok (.getfield 13, 3) := by decide +kernel
theorem d_Mo_write_115 : decode b_Mo_write 115 = .ok (.iload 4, 2) := by decide +kernel
theorem d_Mo_write_117 : decode b_Mo_write 117 = .ok (.iaload, 1) := by decide +kernel
theorem d_Mo_write_118 : decode b_Mo_write 118 = .ok (.invokevirtual 118, 3) := by decide +kernel
theorem d_Mo_write_121 : decode b_Mo_write 121 = .ok (.aload_n 0, 1) := by decide +kernel
theorem d_Mo_write_122 : decode b_Mo_write 122 = .ok (.iconst 2, 1) := by decide +kernel
theorem d_Mo_write_123 : decode b_Mo_write 123 = .ok (.iload_n 2, 1) := by decide +kernel
theorem d_Mo_write_124 : decode b_Mo_write 124 = .ok (.aload_n 0, 1) := by decide +kernel
theorem d_Mo_write_125 : decode b_Mo_write 125 = .ok (.getfield 7, 3) := by decide +kernel
theorem d_Mo_write_128 : decode b_Mo_write 128 = .ok (.iload 4, 2) := by decide +kernel
theorem d_Mo_write_130 : decode b_Mo_write 130 = .ok (.iaload, 1) := by decide +kernel
theorem d_Mo_write_131 : decode b_Mo_write 131 = .ok (.iconst 4, 1) := by decide +kernel
theorem d_Mo_write_132 : decode b_Mo_write 132 = .ok (.if_icmp .ge 7, 3) := by decide +kernel
theorem d_Mo_write_135 : decode b_Mo_write 135 = .ok (.iconst 1, 1) := by decide +kernel
theorem d_Mo_write_136 : decode b_Mo_write 136 = .ok (.goto 4, 3) := by decide +kernel
theorem d_Mo_write_139 : decode b_Mo_write 139 = .ok (.iconst 3, 1) := by decide +kernel
theorem d_Mo_write_140 : decode b_Mo_write 140 = .ok (.aload_n 0, 1) := by decide +kernel
theorem d_Mo_write_141 : decode b_Mo_write 141 = .ok (.getfield 16, 3) := by decide +kernel
theorem d_Mo_write_144 : decode b_Mo_write 144 = .ok (.iload 4, 2) := by decide +kernel
theorem d_Mo_write_146 : decode b_Mo_write 146 = .ok (.iaload, 1) := by decide +kernel
theorem d_Mo_write_147 : decode b_Mo_write 147 = .ok (.invokevirtual 125, 3) := by decide +kernel
theorem d_Mo_write_150 : decode b_Mo_write 150 = .ok (.aload_n 0, 1) := by decide +kernel
theorem d_Mo_write_151 : decode b_Mo_write 151 = .ok (.iload 4, 2) := by decide +kernel
theorem d_Mo_write_153 : decode b_Mo_write 153 = .ok (.invokevirtual 92, 3) := by decide +kernel
theorem d_Mo_write_156 : decode b_Mo_write 156 = .ok (.istore 5, 2) := by decide +kernel
theorem d_Mo_write_158 : decode b_Mo_write 158 = .ok (.iload 5, 2) := by decide +kernel
theorem d_Mo_write_160 : decode b_Mo_write 160 = .ok (.iconst 2, 1) := by decide +kernel
theorem d_Mo_write_161 : decode b_Mo_write 161 = .ok (.aload_n 0, 1) := by decide +kernel
theorem d_Mo_write_162 : decode b_Mo_write 162 = .ok (.aload_n 0, 1) := by decide +kernel
theorem d_Mo_write_163 : decode b_Mo_write 163 = .ok (.getfield 19, 3) := by decide +kernel
theorem d_Mo_write_166 : decode b_Mo_write 166 = .ok (.iload 4, 2) := by decide +kernel
theorem d_Mo_write_168 : decode b_Mo_write 168 = .ok (.iaload, 1) := by decide +kernel
theorem d_Mo_write_169 : decode b_Mo_write 169 = .ok (.invokevirtual 88, 3) := by decide +kernel
theorem d_Mo_write_172 : decode b_Mo_write 172 = .ok (.iadd, 1) := by decide +kernel
theorem d_Mo_write_173 : decode b_Mo_write 173 = .ok (.if_icmp .ne 7, 3) := by decide +kernel
theorem d_Mo_write_176 : decode b_Mo_write 176 = .ok (.iconst 1, 1) := by decide +kernel
theorem d_Mo_write_177 : decode b_Mo_write 177 = .ok (.goto 4, 3) := by decide +kernel
theorem d_Mo_write_180 : decode b_Mo_write 180 = .ok (.iconst 0, 1) := by decide +kernel
theorem d_Mo_write_181 : decode b_Mo_write 181 = .ok (.istore 6, 2) := by decide +kernel
theorem d_Mo_write_183 : decode b_Mo_write 183 = .ok (.aload_n 0, 1) := by decide +kernel
theorem d_Mo_write_184 : decode b_Mo_write 184 = .ok (.iload 6, 2) := by decide +kernel
theorem d_Mo_write_186 : decode b_Mo_write 186 = .ok (.ifCond .eq 8, 3) := by decide +kernel
theorem d_Mo_write_189 : decode b_Mo_write 189 = .ok (.bipush 10, 2) := by decide +kernel
theorem d_Mo_write_191 : decode b_Mo_write 191 = .ok (.goto 5, 3) := by decide +kernel
theorem d_Mo_write_194 : decode b_Mo_write 194 = .ok (.bipush 20, 2) := by decide +kernel
theorem d_Mo_write_196 : decode b_Mo_write 196 = .ok (.aload_n 0, 1) := by decide +kernel
theorem d_Mo_write_197 : decode b_Mo_write 197 = .ok (.getfield 7, 3) := by decide +kernel
theorem d_Mo_write_200 : decode b_Mo_write 200 = .ok (.iload 4, 2) := by decide +kernel
theorem d_Mo_write_202 : decode b_Mo_write 202 = .ok (.iaload, 1) := by decide +kernel
theorem d_Mo_write_203 : decode b_Mo_write 203 = .ok (.iadd, 1) := by decide +kernel
theorem d_Mo_write_204 : decode b_Mo_write 204 = .ok (.invokevirtual 118, 3) := by decide +kernel
theorem d_Mo_write_207 : decode b_Mo_write 207 = .ok (.iload 6, 2) := by decide +kernel
theorem d_Mo_write_209 : decode b_Mo_write 209 = .ok (.ifCond .ne 13, 3) := by decide +kernel
theorem d_Mo_write_212 : decode b_Mo_write 212 = .ok (.aload_n 0, 1) := by decide +kernel
theorem d_Mo_write_213 : decode b_Mo_write 213 = .ok (.iload 5, 2) := by decide +kernel
theorem d_Mo_write_215 : decode b_Mo_write 215 = .ok (.sipush 256, 3) := by decide +kernel
theorem d_Mo_write_218 : decode b_Mo_write 218 = .ok (.idiv, 1) := by decide +kernel
theorem d_Mo_write_219 : decode b_Mo_write 219 = .ok (.invokevirtual 118, 3) := by decide +kernel
theorem d_Mo_write_222 : decode b_Mo_write 222 = .ok (.aload_n 0, 1) := by decide +kernel
theorem d_Mo_write_223 : decode b_Mo_write 223 = .ok (.iload 5, 2) := by decide +kernel
theorem d_Mo_write_225 : decode b_Mo_write 225 = .ok (.sipush 256, 3) := by decide +kernel
theorem d_Mo_write_228 : decode b_Mo_write 228 = .ok (.irem, 1) := by decide +kernel
theorem d_Mo_write_229 : decode b_Mo_write 229 = .ok (.invokevirtual 118, 3) := by decide +kernel
theorem d_Mo_write_232 : decode b_Mo_write 232 = .ok (.aload_n 0, 1) := by decide +kernel
theorem d_Mo_write_233 : decode b_Mo_write 233 = .ok (.getfield 35, 3) := by decide +kernel
theorem d_Mo_write_236 : decode b_Mo_write 236 = .ok (.iload_n 3, 1) := by decide +kernel
theorem d_Mo_write_237 : decode b_Mo_write 237 = .ok (.aload_n 0, 1) := by decide +kernel
theorem d_Mo_write_238 : decode b_Mo_write 238 = .ok (.getfield 22, 3) := by decide +kernel
theorem d_Mo_write_241 : decode b_Mo_write 241 = .ok (.iload 4, 2) := by decide +kernel
theorem d_Mo_write_243 : decode b_Mo_write 243 = .ok (.iaload, 1) := by decide +kernel
theorem d_Mo_write_244 : decode b_Mo_write 244 = .ok (.iastore, 1) := by decide +kernel
theorem d_Mo_write_245 : decode b_Mo_write 245 = .ok (.aload_n 0, 1) := by decide +kernel
theorem d_Mo_write_246 : decode b_Mo_write 246 = .ok (.getfield 35, 3) := by decide +kernel
theorem d_Mo_write_249 : decode b_Mo_write 249 = .ok (.iload_n 3, 1) := by decide +kernel
theorem d_Mo_write_250 : decode b_Mo_write 250 = .ok (.iconst 1, 1) := by decide +kernel
theorem d_Mo_write_251 : decode b_Mo_write 251 = .ok (.iadd, 1) := by decide +kernel
theorem d_Mo_write_252 : decode b_Mo_write 252 = .ok (.aload_n 0, 1) := by decide +kernel
theorem d_Mo_write_253 : decode b_Mo_write 253 = .ok (.getfield 19, 3) := by decide +kernel
theorem d_Mo_write_256 : decode b_Mo_write 256 = .ok (.iload 4, 2) := by decide +kernel
theorem d_Mo_write_258 : decode b_Mo_write 258 = .ok (.iaload, 1) := by decide +kernel
theorem d_Mo_write_259 : decode b_Mo_write 259 = .ok (.iastore, 1) := by decide +kernel
theorem d_Mo_write_260 : decode b_Mo_write 260 = .ok (.iinc 3 2, 3) := by decide +kernel
theorem d_Mo_write_263 : decode b_Mo_write 263 = .ok (.goto (-249), 3) := by decide +kernel
theorem d_Mo_write_266 : decode b_Mo_write 266 = .ok (.return_, 1) := by decide +kernel
theorem d_Mo_writeAll_0 : decode b_Mo_writeAll 0 = .ok (.aload_n 0, 1) := by decide +kernel
theorem d_Mo_writeAll_1 : decode b_Mo_writeAll 1 = .ok (.iconst 0, 1) := by decide +kernel
theorem d_Mo_writeAll_2 : decode b_Mo_writeAll 2 = .ok (.putfield 112, 3) := by decide +kernel
theorem d_Mo_writeAll_5 : decode b_Mo_writeAll 5 = .ok (.aload_n 0, 1) := by decide +kernel
theorem d_Mo_writeAll_6 : decode b_Mo_writeAll 6 = .ok (.iconst 0, 1) := by decide +kernel
theorem d_Mo_writeAll_7 : decode b_Mo_writeAll 7 = .ok (.putfield 115, 3) := by decide +kernel
theorem d_Mo_writeAll_10 : decode b_Mo_writeAll 10 = .ok (.aload_n 0, 1) := by decide +kernel
theorem d_Mo_writeAll_11 : decode b_Mo_writeAll 11 = .ok (.iconst 0, 1) := by decide +kernel
theorem d_Mo_writeAll_12 : decode b_Mo_writeAll 12 = .ok (.putfield 129, 3) := by decide +kernel
theorem d_Mo_writeAll_15 : decode b_Mo_writeAll 15 = .ok (.iconst 0, 1) := by decide +kernel
theorem d_Mo_writeAll_16 : decode b_Mo_writeAll 16 = .ok (.istore_n 2, 1) := by decide +kernel
theorem d_Mo_writeAll_17 : decode b_Mo_writeAll 17 = .ok (.iload_n 2, 1) := by decide +kernel
theorem d_Mo_writeAll_18 : decode b_Mo_writeAll 18 = .ok (.aload_n 0, 1) := by decide +kernel
theorem d_Mo_writeAll_19 : decode b_Mo_writeAll 19 = .ok (.getfield 95, 3) := by decide +kernel
theorem d_Mo_writeAll_22 : decode b_Mo_writeAll 22 = .ok (.if_icmp .ge 144, 3) := by decide +kernel
theorem d_Mo_writeAll_25 : decode b_Mo_writeAll 25 = .ok (.aload_n 0, 1) := by decide +kernel
theorem d_Mo_writeAll_26 : decode b_Mo_writeAll 26 = .ok (.getfield 50, 3) := by decide +kernel
theorem d_Mo_writeAll_29 : decode b_Mo_writeAll 29 = .ok (.iload_n 2, 1) := by decide +kernel
theorem d_Mo_writeAll_30 : decode b_Mo_writeAll 30 = .ok (.aload_n 0, 1) := by decide +kernel
theorem d_Mo_writeAll_31 : decode b_Mo_writeAll 31 = .ok (.getfield 112, 3) := by decide +kernel
theorem d_Mo_writeAll_34 : decode b_Mo_writeAll 34 = .ok (.iastore, 1) := by decide +kernel
theorem d_Mo_writeAll_35 : decode b_Mo_writeAll 35 = .ok (.aload_n 0, 1) := by decide +kernel
theorem d_Mo_writeAll_36 : decode b_Mo_writeAll 36 = .ok (.getfield 115, 3) := by decide +kernel
theorem d_Mo_writeAll_39 : decode b_Mo_writeAll 39 = .ok (.istore_n 3, 1) := by decide +kernel
theorem d_Mo_writeAll_40 : decode b_Mo_writeAll 40 = .ok (.aload_n 0, 1) := by decide +kernel
theorem d_Mo_writeAll_41 : decode b_Mo_writeAll 41 = .ok (.getfield 129, 3) := by decide +kernel
theorem d_Mo_writeAll_44 : decode b_Mo_writeAll 44 = .ok (.ifCond .le 7, 3) := by decide +kernel
theorem d_Mo_writeAll_47 : decode b_Mo_writeAll 47 = .ok (.iconst 1, 1) := by decide +kernel
theorem d_Mo_writeAll_48 : decode b_Mo_writeAll 48 = .ok (.goto 4, 3) := by decide +kernel
theorem d_Mo_writeAll_51 : decode b_Mo_writeAll 51 = .ok (.iconst 0, 1) := by decide +kernel
theorem d_Mo_writeAll_52 : decode b_Mo_writeAll 52 = .ok (.istore 4, 2) := by decide +kernel
theorem d_Mo_writeAll_54 : decode b_Mo_writeAll 54 = .ok (.iload 4, 2) := by decide +kernel
theorem d_Mo_writeAll_56 : decode b_Mo_writeAll 56 = .ok (.ifCond .eq 46, 3) := by decide +kernel
theorem d_Mo_writeAll_59 : decode b_Mo_writeAll 59 = .ok (.aload_n 0, 1) := by decide +kernel
theorem d_Mo_writeAll_60 : decode b_Mo_writeAll 60 = .ok (.iload_n 2, 1) := by decide +kernel
theorem d_Mo_writeAll_61 : decode b_Mo_writeAll 61 = .ok (.aload_n 0, 1) := by decide +kernel
theorem d_Mo_writeAll_62 : decode b_Mo_writeAll 62 = .ok (.getfield 62, 3) := by decide +kernel
theorem d_Mo_writeAll_65 : decode b_Mo_writeAll 65 = .ok (.aload_n 0, 1) := by decide +kernel
theorem d_Mo_writeAll_66 : decode b_Mo_writeAll 66 = .ok (.getfield 129, 3) := by decide +kernel
theorem d_Mo_writeAll_69 : decode b_Mo_writeAll 69 = .ok (.iconst 1, 1) := by decide +kernel
theorem d_Mo_writeAll_70 : decode b_Mo_writeAll 70 = .ok (.isub, 1) := by decide +kernel
theorem d_Mo_writeAll_71 : decode b_Mo_writeAll 71 = .ok (.iaload, 1) := by decide +kernel
theorem d_Mo_writeAll_72 : decode b_Mo_writeAll 72 = .ok (.invokevirtual 132, 3) := by decide +kernel
theorem d_Mo_writeAll_75 : decode b_Mo_writeAll 75 = .ok (.aload_n 0, 1) := by decide +kernel
theorem d_Mo_writeAll_76 : decode b_Mo_writeAll 76 = .ok (.getfield 115, 3) := by decide +kernel
theorem d_Mo_writeAll_79 : decode b_Mo_writeAll 79 = .ok (.aload_n 0, 1) := by decide +kernel
theorem d_Mo_writeAll_80 : decode b_Mo_writeAll 80 = .ok (.getfield 62, 3) := by decide +kernel
theorem d_Mo_writeAll_83 : decode b_Mo_writeAll 83 = .ok (.aload_n 0, 1) := by decide +kernel
theorem d_Mo_writeAll_84 : decode b_Mo_writeAll 84 = .ok (.getfield 129, 3) := by decide +kernel
theorem d_Mo_writeAll_87 : decode b_Mo_writeAll 87 = .ok (.iconst 1, 1) := by decide +kernel
theorem d_Mo_writeAll_88 : decode b_Mo_writeAll 88 = .ok (.isub, 1) := by decide +kernel
theorem d_Mo_writeAll_89 : decode b_Mo_writeAll 89 = .ok (.iaload, 1) := by decide +kernel
theorem d_Mo_writeAll_90 : decode b_Mo_writeAll 90 = .ok (.isub, 1) := by decide +kernel
theorem d_Mo_writeAll_91 : decode b_Mo_writeAll 91 = .ok (.iload_n 1, 1) := by decide +kernel
theorem d_Mo_writeAll_92 : decode b_Mo_writeAll 92 = .ok (.if_icmp .gt 7, 3) := by decide +kernel
theorem d_Mo_writeAll_95 : decode b_Mo_writeAll 95 = .ok (.iconst 1, 1) := by decide +kernel
theorem d_Mo_writeAll_96 : decode b_Mo_writeAll 96 = .ok (.goto 4, 3) := by decide +kernel
theorem d_Mo_writeAll_99 : decode b_Mo_writeAll 99 = .ok (.iconst 0, 1) := by decide +kernel
theorem d_Mo_writeAll_100 : decode b_Mo_writeAll 100 = .ok (.istore 4, 2) := by decide +kernel
theorem d_Mo_writeAll_102 : decode b_Mo_writeAll 102 = .ok (.iload 4, 2) := by decide +kernel
theorem d_Mo_writeAll_104 : decode b_Mo_writeAll 104 = .ok (.ifCond .ne 44, 3) := by decide +kernel
theorem d_Mo_writeAll_107 : decode b_Mo_writeAll 107 = .ok (.aload_n 0, 1) := by decide +kernel
theorem d_Mo_writeAll_108 : decode b_Mo_writeAll 108 = .ok (.aload_n 0, 1) := by decide +kernel
theorem d_Mo_writeAll_109 : decode b_Mo_writeAll 109 = .ok (.getfield 50, 3) := by decide +kernel
theorem d_Mo_writeAll_112 : decode b_Mo_writeAll 112 = .ok (.iload_n 2, 1) := by decide +kernel
theorem d_Mo_writeAll_113 : decode b_Mo_writeAll 113 = .ok (.iaload, 1) := by decide +kernel
theorem d_Mo_writeAll_114 : decode b_Mo_writeAll 114 = .ok (.putfield 112, 3) := by decide +kernel
theorem d_Mo_writeAll_117 : decode b_Mo_writeAll 117 = .ok (.aload_n 0, 1) := by decide +kernel
theorem d_Mo_writeAll_118 : decode b_Mo_writeAll 118 = .ok (.iload_n 3, 1) := by decide +kernel
theorem d_Mo_writeAll_119 : decode b_Mo_writeAll 119 = .ok (.putfield 115, 3) := by decide +kernel
theorem d_Mo_writeAll_122 : decode b_Mo_writeAll 122 = .ok (.aload_n 0, 1) := by decide +kernel
theorem d_Mo_writeAll_123 : decode b_Mo_writeAll 123 = .ok (.getfield 62, 3) := by decide +kernel
theorem d_Mo_writeAll_126 : decode b_Mo_writeAll 126 = .ok (.aload_n 0, 1) := by decide +kernel
theorem d_Mo_writeAll_127 : decode b_Mo_writeAll 127 = .ok (.getfield 129, 3) := by decide +kernel
theorem d_Mo_writeAll_130 : decode b_Mo_writeAll 130 = .ok (.iload_n 3, 1) := by decide +kernel
theorem d_Mo_writeAll_131 : decode b_Mo_writeAll 131 = .ok (.iastore, 1) := by decide +kernel
theorem d_Mo_writeAll_132 : decode b_Mo_writeAll 132 = .ok (.aload_n 0, 1) := by decide +kernel
theorem d_Mo_writeAll_133 : decode b_Mo_writeAll 133 = .ok (.dup, 1) := by decide +kernel
theorem d_Mo_writeAll_134 : decode b_Mo_writeAll 134 = .ok (.getfield 129, 3) := by decide +kernel
theorem d_Mo_writeAll_137 : decode b_Mo_writeAll 137 = .ok (.iconst 1, 1) := by decide +kernel
theorem d_Mo_writeAll_138 : decode b_Mo_writeAll 138 = .ok (.iadd, 1) := by decide +kernel
theorem d_Mo_writeAll_139 : decode b_Mo_writeAll 139 = .ok (.putfield 129, 3) := by decide +kernel
theorem d_Mo_writeAll_142 : decode b_Mo_writeAll 142 = .ok (.aload_n 0, 1) := by decide +kernel
theorem d_Mo_writeAll_143 : decode b_Mo_writeAll 143 = .ok (.iload_n 2, 1) := by decide +kernel
theorem d_Mo_writeAll_144 : decode b_Mo_writeAll 144 = .ok (.iload_n 3, 1) := by decide +kernel
theorem d_Mo_writeAll_145 : decode b_Mo_writeAll 145 = .ok (.invokevirtual 132, 3) := by decide +kernel
theorem d_Mo_writeAll_148 : decode b_Mo_writeAll 148 = .ok (.aload_n 0, 1) := by decide +kernel
theorem d_Mo_writeAll_149 : decode b_Mo_writeAll 149 = .ok (.getfield 53, 3) := by decide +kernel
theorem d_Mo_writeAll_152 : decode b_Mo_writeAll 152 = .ok (.iload_n 2, 1) := by decide +kernel
theorem d_Mo_writeAll_153 : decode b_Mo_writeAll 153 = .ok (.aload_n 0, 1) := by decide +kernel
theorem d_Mo_writeAll_154 : decode b_Mo_writeAll 154 = .ok (.getfield 129, 3) := by decide +kernel
theorem d_Mo_writeAll_157 : decode b_Mo_writeAll 157 = .ok (.iconst 1, 1) := by decide +kernel
theorem d_Mo_writeAll_158 : decode b_Mo_writeAll 158 = .ok (.isub, 1) := by decide +kernel
theorem d_Mo_writeAll_159 : decode b_Mo_writeAll 159 = .ok (.iastore, 1) := by decide +kernel
theorem d_Mo_writeAll_160 : decode b_Mo_writeAll 160 = .ok (.iinc 2 1, 3) := by decide +kernel
theorem d_Mo_writeAll_163 : decode b_Mo_writeAll 163 = .ok (.goto (-146), 3) := by decide +kernel
theorem d_Mo_writeAll_166 : decode b_Mo_writeAll 166 = .ok (.aload_n 0, 1) := by decide +kernel
theorem d_Mo_writeAll_167 : decode b_Mo_writeAll 167 = .ok (.getfield 50, 3) := by decide +kernel
theorem d_Mo_writeAll_170 : decode b_Mo_writeAll 170 = .ok (.aload_n 0, 1) := by decide +kernel
theorem d_Mo_writeAll_171 : decode b_Mo_writeAll 171 = .ok (.getfield 95, 3) := by decide +kernel
theorem d_Mo_writeAll_174 : decode b_Mo_writeAll 174 = .ok (.aload_n 0, 1) := by decide +kernel
theorem d_Mo_writeAll_175 : decode b_Mo_writeAll 175 = .ok (.getfield 112, 3) := by decide +kernel
theorem d_Mo_writeAll_178 : decode b_Mo_writeAll 178 = .ok (.iastore, 1) := by decide +kernel
theorem d_Mo_writeAll_179 : decode b_Mo_writeAll 179 = .ok (.aload_n 0, 1) := by decide +kernel
theorem d_Mo_writeAll_180 : decode b_Mo_writeAll 180 = .ok (.getfield 62, 3) := by decide +kernel
theorem d_Mo_writeAll_183 : decode b_Mo_writeAll 183 = .ok (.aload_n 0, 1) := by decide +kernel
theorem d_Mo_writeAll_184 : decode b_Mo_writeAll 184 = .ok (.getfield 129, 3) := by decide +kernel
theorem d_Mo_writeAll_187 : decode b_Mo_writeAll 187 = .ok (.aload_n 0, 1) := by decide +kernel
theorem d_Mo_writeAll_188 : decode b_Mo_writeAll 188 = .ok (.getfield 115, 3) := by decide +kernel
theorem d_Mo_writeAll_191 : decode b_Mo_writeAll 191 = .ok (.iastore, 1) := by decide +kernel
theorem d_Mo_writeAll_192 : decode b_Mo_writeAll 192 = .ok (.return_, 1) := by decide +kernel
theorem d_Mo_compile_0 : decode b_Mo_compile 0 = .ok (.iload_n 1, 1) := by decide +kernel
theorem d_Mo_compile_1 : decode b_Mo_compile 1 = .ok (.bipush 20, 2) := by decide +kernel
theorem d_Mo_compile_3 : decode b_Mo_compile 3 = .ok (.sipush 400, 3) := by decide +kernel
theorem d_Mo_compile_6 : decode b_Mo_compile 6 = .ok (.invokestatic 75, 3) := by decide +kernel
theorem d_Mo_compile_9 : decode b_Mo_compile 9 = .ok (.ifCond .ne 29, 3) := by decide +kernel
theorem d_Mo_compile_12 : decode b_Mo_compile 12 = .ok (.iload_n 2, 1) := by decide +kernel
theorem d_Mo_compile_13 : decode b_Mo_compile 13 = .ok (.bipush 60, 2) := by decide +kernel
theorem d_Mo_compile_15 : decode b_Mo_compile 15 = .ok (.if_icmp .gt 23, 3) := by decide +kernel
theorem d_Mo_compile_18 : decode b_Mo_compile 18 = .ok (.iload_n 2, 1) := by decide +kernel
theorem d_Mo_compile_19 : decode b_Mo_compile 19 = .ok (.bipush 60, 2) := by decide +kernel
theorem d_Mo_compile_21 : decode b_Mo_compile 21 = .ok (.if_icmp .ge 10, 3) := by decide +kernel
theorem d_Mo_compile_24 : decode b_Mo_compile 24 = .ok (.iload_n 2, 1) := by decide +kernel
theorem d_Mo_compile_25 : decode b_Mo_compile 25 = .ok (.iload_n 1, 1) := by decide +kernel
theorem d_Mo_compile_26 : decode b_Mo_compile 26 = .ok (.iconst 4, 1) := by decide +kernel
theorem d_Mo_compile_27 : decode b_Mo_compile 27 = .ok (.idiv, 1) := by decide +kernel
theorem d_Mo_compile_28 : decode b_Mo_compile 28 = .ok (.if_icmp .lt 10, 3) := by decide +kernel
theorem d_Mo_compile_31 : decode b_Mo_compile 31 = .ok (.aload_n 0, 1) := by decide +kernel
theorem d_Mo_compile_32 : decode b_Mo_compile 32 = .ok (.getfield 81, 3) := by decide +kernel
theorem d_Mo_compile_35 : decode b_Mo_compile 35 = .ok (.ifCond .ne 5, 3) := by decide +kernel
theorem d_Mo_compile_38 : decode b_Mo_compile 38 = .ok (.iconst (-1), 1) := by decide +kernel
theorem d_Mo_compile_39 : decode b_Mo_compile 39 = .ok (.ireturn, 1) := by decide +kernel
theorem d_Mo_compile_40 : decode b_Mo_compile 40 = .ok (.aload_n 0, 1) := by decide +kernel
theorem d_Mo_compile_41 : decode b_Mo_compile 41 = .ok (.invokevirtual 135, 3) := by decide +kernel
theorem d_Mo_compile_44 : decode b_Mo_compile 44 = .ok (.istore_n 3, 1) := by decide +kernel
theorem d_Mo_compile_45 : decode b_Mo_compile 45 = .ok (.iload_n 3, 1) := by decide +kernel
theorem d_Mo_compile_46 : decode b_Mo_compile 46 = .ok (.ifCond .eq 6, 3) := by decide +kernel
theorem d_Mo_compile_49 : decode b_Mo_compile 49 = .ok (.iload_n 3, 1) := by decide +kernel
theorem d_Mo_compile_50 : decode b_Mo_compile 50 = .ok (.ineg, 1) := by decide +kernel
theorem d_Mo_compile_51 : decode b_Mo_compile 51 = .ok (.ireturn, 1) := by decide +kernel
theorem d_Mo_compile_52 : decode b_Mo_compile 52 = .ok (.aload_n 0, 1) := by decide +kernel
theorem d_Mo_compile_53 : decode b_Mo_compile 53 = .ok (.iconst 0, 1) := by decide +kernel
theorem d_Mo_compile_54 : decode b_Mo_compile 54 = .ok (.putfield 95, 3) := by decide +kernel
theorem d_Mo_compile_57 : decode b_Mo_compile 57 = .ok (.iconst 0, 1) := by decide +kernel
theorem d_Mo_compile_58 : decode b_Mo_compile 58 = .ok (.istore 4, 2) := by decide +kernel
theorem d_Mo_compile_60 : decode b_Mo_compile 60 = .ok (.iload 4, 2) := by decide +kernel
theorem d_Mo_compile_62 : decode b_Mo_compile 62 = .ok (.aload_n 0, 1) := by decide +kernel
theorem d_Mo_compile_63 : decode b_Mo_compile 63 = .ok (.getfield 81, 3) := by decide +kernel
theorem d_Mo_compile_66 : decode b_Mo_compile 66 = .ok (.if_icmp .ge 21, 3) := by decide +kernel
theorem d_Mo_compile_69 : decode b_Mo_compile 69 = .ok (.aload_n 0, 1) := by decide +kernel
theorem d_Mo_compile_70 : decode b_Mo_compile 70 = .ok (.aload_n 0, 1) := by decide +kernel
theorem d_Mo_compile_71 : decode b_Mo_compile 71 = .ok (.getfield 25, 3) := by decide +kernel
theorem d_Mo_compile_74 : decode b_Mo_compile 74 = .ok (.iload 4, 2) := by decide +kernel
theorem d_Mo_compile_76 : decode b_Mo_compile 76 = .ok (.iaload, 1) := by decide +kernel
theorem d_Mo_compile_77 : decode b_Mo_compile 77 = .ok (.iload_n 1, 1) := by decide +kernel
theorem d_Mo_compile_78 : decode b_Mo_compile 78 = .ok (.invokevirtual 139, 3) := by decide +kernel
theorem d_Mo_compile_81 : decode b_Mo_compile 81 = .ok (.iinc 4 1, 3) := by decide +kernel
theorem d_Mo_compile_84 : decode b_Mo_compile 84 = .ok (.goto (-24), 3) := by decide +kernel
theorem d_Mo_compile_87 : decode b_Mo_compile 87 = .ok (.aload_n 0, 1) := by decide +kernel
theorem d_Mo_compile_88 : decode b_Mo_compile 88 = .ok (.aload_n 0, 1) := by decide +kernel
theorem d_Mo_compile_89 : decode b_Mo_compile 89 = .ok (.getfield 81, 3) := by decide +kernel
theorem d_Mo_compile_92 : decode b_Mo_compile 92 = .ok (.putfield 142, 3) := by decide +kernel
theorem d_Mo_compile_95 : decode b_Mo_compile 95 = .ok (.aload_n 0, 1) := by decide +kernel
theorem d_Mo_compile_96 : decode b_Mo_compile 96 = .ok (.iload_n 2, 1) := by decide +kernel
theorem d_Mo_compile_97 : decode b_Mo_compile 97 = .ok (.invokevirtual 145, 3) := by decide +kernel
theorem d_Mo_compile_100 : decode b_Mo_compile 100 = .ok (.aload_n 0, 1) := by decide +kernel
theorem d_Mo_compile_101 : decode b_Mo_compile 101 = .ok (.getfield 95, 3) := by decide +kernel
theorem d_Mo_compile_104 : decode b_Mo_compile 104 = .ok (.ireturn, 1) := by decide +kernel
theorem d_Mo_isMethod_0 : decode b_Mo_isMethod 0 = .ok (.iload_n 1, 1) := by decide +kernel
