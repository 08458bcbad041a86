theorem d_Mo_leaf_0 : decode b_Mo_leaf 0 = .ok (.aload_n 0, 1) := by decide +kernel
theorem d_Mo_leaf_1 : decode b_Mo_leaf 1 = .ok (.getfield 71, 3) := by decide +kernel
theorem d_Mo_leaf_4 : decode b_Mo_leaf 4 = .ok (.bipush 60, 2) := by decide +kernel
theorem d_Mo_leaf_6 : decode b_Mo_leaf 6 = .ok (.if_icmp .ne 5, 3) := by decide +kernel
theorem d_Mo_leaf_9 : decode b_Mo_leaf 9 = .ok (.iconst (-1), 1) := by decide +kernel
theorem d_Mo_leaf_10 : decode b_Mo_leaf 10 = .ok (.ireturn, 1) := by decide +kernel
theorem d_Mo_leaf_11 : decode b_Mo_leaf 11 = .ok (.aload_n 0, 1) := by decide +kernel
theorem d_Mo_leaf_12 : decode b_Mo_leaf 12 = .ok (.getfield 7, 3) := by decide +kernel
theorem d_Mo_leaf_15 : decode b_Mo_leaf 15 = .ok (.aload_n 0, 1) := by decide +kernel
theorem d_Mo_leaf_16 : decode b_Mo_leaf 16 = .ok (.getfield 71, 3) := by decide +kernel
theorem d_Mo_leaf_19 : decode b_Mo_leaf 19 = .ok (.iconst (-1), 1) := by decide +kernel
theorem d_Mo_leaf_20 : decode b_Mo_leaf 20 = .ok (.iastore, 1) := by decide +kernel
theorem d_Mo_leaf_21 : decode b_Mo_leaf 21 = .ok (.aload_n 0, 1) := by decide +kernel
theorem d_Mo_leaf_22 : decode b_Mo_leaf 22 = .ok (.getfield 16, 3) := by decide +kernel
theorem d_Mo_leaf_25 : decode b_Mo_leaf 25 = .ok (.aload_n 0, 1) := by decide +kernel
theorem d_Mo_leaf_26 : decode b_Mo_leaf 26 = .ok (.getfield 71, 3) := by decide +kernel
theorem d_Mo_leaf_29 : decode b_Mo_leaf 29 = .ok (.iload_n 1, 1) := by decide +kernel
theorem d_Mo_leaf_30 : decode b_Mo_leaf 30 = .ok (.iastore, 1) := by decide +kernel
theorem d_Mo_leaf_31 : decode b_Mo_leaf 31 = .ok (.aload_n 0, 1) := by decide +kernel
theorem d_Mo_leaf_32 : decode b_Mo_leaf 32 = .ok (.dup, 1) := by decide +kernel
theorem d_Mo_leaf_33 : decode b_Mo_leaf 33 = .ok (.getfield 71, 3) := by decide +kernel
theorem d_Mo_leaf_36 : decode b_Mo_leaf 36 = .ok (.iconst 1, 1) := by decide +kernel
theorem d_Mo_leaf_37 : decode b_Mo_leaf 37 = .ok (.iadd, 1) := by decide +kernel
theorem d_Mo_leaf_38 : decode b_Mo_leaf 38 = .ok (.putfield 71, 3) := by decide +kernel
theorem d_Mo_leaf_41 : decode b_Mo_leaf 41 = .ok (.aload_n 0, 1) := by decide +kernel
theorem d_Mo_leaf_42 : decode b_Mo_leaf 42 = .ok (.getfield 71, 3) := by decide +kernel
theorem d_Mo_leaf_45 : decode b_Mo_leaf 45 = .ok (.iconst 1, 1) := by decide +kernel
theorem d_Mo_leaf_46 : decode b_Mo_leaf 46 = .ok (.isub, 1) := by decide +kernel
theorem d_Mo_leaf_47 : decode b_Mo_leaf 47 = .ok (.ireturn, 1) := by decide +kernel
theorem d_Mo_outside_0 : decode b_Mo_outside 0 = .ok (.iload_n 0, 1) := by decide +kernel
theorem d_Mo_outside_1 : decode b_Mo_outside 1 = .ok (.iload_n 1, 1) := by decide +kernel
theorem d_Mo_outside_2 : decode b_Mo_outside 2 = .ok (.if_icmp .lt 8, 3) := by decide +kernel
theorem d_Mo_outside_5 : decode b_Mo_outside 5 = .ok (.iload_n 0, 1) := by decide +kernel
theorem d_Mo_outside_6 : decode b_Mo_outside 6 = .ok (.iload_n 2, 1) := by decide +kernel
theorem d_Mo_outside_7 : decode b_Mo_outside 7 = .ok (.if_icmp .le 7, 3) := by decide +kernel
theorem d_Mo_outside_10 : decode b_Mo_outside 10 = .ok (.iconst 1, 1) := by decide +kernel
theorem d_Mo_outside_11 : decode b_Mo_outside 11 = .ok (.goto 4, 3) := by decide +kernel
theorem d_Mo_outside_14 : decode b_Mo_outside 14 = .ok (.iconst 0, 1) := by decide +kernel
theorem d_Mo_outside_15 : decode b_Mo_outside 15 = .ok (.ireturn, 1) := by decide +kernel
theorem d_Mo_split_0 : decode b_Mo_split 0 = .ok (.iload_n 1, 1) := by decide +kernel
theorem d_Mo_split_1 : decode b_Mo_split 1 = .ok (.iconst 0, 1) := by decide +kernel
theorem d_Mo_split_2 : decode b_Mo_split 2 = .ok (.iconst 5, 1) := by decide +kernel
theorem d_Mo_split_3 : decode b_Mo_split 3 = .ok (.invokestatic 75, 3) := by decide +kernel
theorem d_Mo_split_6 : decode b_Mo_split 6 = .ok (.ifCond .ne 35, 3) := by decide +kernel
theorem d_Mo_split_9 : decode b_Mo_split 9 = .ok (.iload_n 2, 1) := by decide +kernel
theorem d_Mo_split_10 : decode b_Mo_split 10 = .ok (.iconst 0, 1) := by decide +kernel
theorem d_Mo_split_11 : decode b_Mo_split 11 = .ok (.bipush 7, 2) := by decide +kernel
theorem d_Mo_split_13 : decode b_Mo_split 13 = .ok (.invokestatic 75, 3) := by decide +kernel
theorem d_Mo_split_16 : decode b_Mo_split 16 = .ok (.ifCond .ne 25, 3) := by decide +kernel
theorem d_Mo_split_19 : decode b_Mo_split 19 = .ok (.iload 4, 2) := by decide +kernel
theorem d_Mo_split_21 : decode b_Mo_split 21 = .ok (.iconst 0, 1) := by decide +kernel
theorem d_Mo_split_22 : decode b_Mo_split 22 = .ok (.bipush 59, 2) := by decide +kernel
theorem d_Mo_split_24 : decode b_Mo_split 24 = .ok (.invokestatic 75, 3) := by decide +kernel
theorem d_Mo_split_27 : decode b_Mo_split 27 = .ok (.ifCond .ne 14, 3) := by decide +kernel
theorem d_Mo_split_30 : decode b_Mo_split 30 = .ok (.iload 5, 2) := by decide +kernel
theorem d_Mo_split_32 : decode b_Mo_split 32 = .ok (.iconst 0, 1) := by decide +kernel
theorem d_Mo_split_33 : decode b_Mo_split 33 = .ok (.bipush 59, 2) := by decide +kernel
theorem d_Mo_split_35 : decode b_Mo_split 35 = .ok (.invokestatic 75, 3) := by decide +kernel
theorem d_Mo_split_38 : decode b_Mo_split 38 = .ok (.ifCond .eq 7, 3) := by decide +kernel
theorem d_Mo_split_41 : decode b_Mo_split 41 = .ok (.iconst 1, 1) := by decide +kernel
theorem d_Mo_split_42 : decode b_Mo_split 42 = .ok (.goto 4, 3) := by decide +kernel
theorem d_Mo_split_45 : decode b_Mo_split 45 = .ok (.iconst 0, 1) := by decide +kernel
theorem d_Mo_split_46 : decode b_Mo_split 46 = .ok (.istore 6, 2) := by decide +kernel
theorem d_Mo_split_48 : decode b_Mo_split 48 = .ok (.aload_n 0, 1) := by decide +kernel
theorem d_Mo_split_49 : decode b_Mo_split 49 = .ok (.getfield 71, 3) := by decide +kernel
theorem d_Mo_split_52 : decode b_Mo_split 52 = .ok (.bipush 60, 2) := by decide +kernel
theorem d_Mo_split_54 : decode b_Mo_split 54 = .ok (.if_icmp .eq 22, 3) := by decide +kernel
theorem d_Mo_split_57 : decode b_Mo_split 57 = .ok (.iload 6, 2) := by decide +kernel
theorem d_Mo_split_59 : decode b_Mo_split 59 = .ok (.ifCond .ne 17, 3) := by decide +kernel
theorem d_Mo_split_62 : decode b_Mo_split 62 = .ok (.iload_n 1, 1) := by decide +kernel
theorem d_Mo_split_63 : decode b_Mo_split 63 = .ok (.iconst 4, 1) := by decide +kernel
theorem d_Mo_split_64 : decode b_Mo_split 64 = .ok (.if_icmp .ge 14, 3) := by decide +kernel
theorem d_Mo_split_67 : decode b_Mo_split 67 = .ok (.iload_n 3, 1) := by decide +kernel
theorem d_Mo_split_68 : decode b_Mo_split 68 = .ok (.ldc 79, 2) := by decide +kernel
theorem d_Mo_split_70 : decode b_Mo_split 70 = .ok (.iand, 1) := by decide +kernel
theorem d_Mo_split_71 : decode b_Mo_split 71 = .ok (.ldc 80, 2) := by decide +kernel
theorem d_Mo_split_73 : decode b_Mo_split 73 = .ok (.if_icmp .lt 5, 3) := by decide +kernel
theorem d_Mo_split_76 : decode b_Mo_split 76 = .ok (.iconst (-1), 1) := by decide +kernel
theorem d_Mo_split_77 : decode b_Mo_split 77 = .ok (.ireturn, 1) := by decide +kernel
theorem d_Mo_split_78 : decode b_Mo_split 78 = .ok (.aload_n 0, 1) := by decide +kernel
theorem d_Mo_split_79 : decode b_Mo_split 79 = .ok (.getfield 7, 3) := by decide +kernel
theorem d_Mo_split_82 : decode b_Mo_split 82 = .ok (.aload_n 0, 1) := by decide +kernel
theorem d_Mo_split_83 : decode b_Mo_split 83 = .ok (.getfield 71, 3) := by decide +kernel
theorem d_Mo_split_86 : decode b_Mo_split 86 = .ok (.iload_n 1, 1) := by decide +kernel
theorem d_Mo_split_87 : decode b_Mo_split 87 = .ok (.iastore, 1) := by decide +kernel
theorem d_Mo_split_88 : decode b_Mo_split 88 = .ok (.aload_n 0, 1) := by decide +kernel
theorem d_Mo_split_89 : decode b_Mo_split 89 = .ok (.getfield 13, 3) := by decide +kernel
theorem d_Mo_split_92 : decode b_Mo_split 92 = .ok (.aload_n 0, 1) := by decide +kernel
theorem d_Mo_split_93 : decode b_Mo_split 93 = .ok (.getfield 71, 3) := by decide +kernel
theorem d_Mo_split_96 : decode b_Mo_split 96 = .ok (.iload_n 2, 1) := by decide +kernel
theorem d_Mo_split_97 : decode b_Mo_split 97 = .ok (.iastore, 1) := by decide +kernel
theorem d_Mo_split_98 : decode b_Mo_split 98 = .ok (.aload_n 0, 1) := by decide +kernel
theorem d_Mo_split_99 : decode b_Mo_split 99 = .ok (.getfield 16, 3) := by decide +kernel
theorem d_Mo_split_102 : decode b_Mo_split 102 = .ok (.aload_n 0, 1) := by decide +kernel
theorem d_Mo_split_103 : decode b_Mo_split 103 = .ok (.getfield 71, 3) := by decide +kernel
theorem d_Mo_split_106 : decode b_Mo_split 106 = .ok (.iload_n 3, 1) := by decide +kernel
theorem d_Mo_split_107 : decode b_Mo_split 107 = .ok (.iastore, 1) := by decide +kernel
theorem d_Mo_split_108 : decode b_Mo_split 108 = .ok (.aload_n 0, 1) := by decide +kernel
theorem d_Mo_split_109 : decode b_Mo_split 109 = .ok (.getfield 19, 3) := by decide +kernel
theorem d_Mo_split_112 : decode b_Mo_split 112 = .ok (.aload_n 0, 1) := by decide +kernel
theorem d_Mo_split_113 : decode b_Mo_split 113 = .ok (.getfield 71, 3) := by decide +kernel
theorem d_Mo_split_116 : decode b_Mo_split 116 = .ok (.iload 4, 2) := by decide +kernel
theorem d_Mo_split_118 : decode b_Mo_split 118 = .ok (.iastore, 1) := by decide +kernel
theorem d_Mo_split_119 : decode b_Mo_split 119 = .ok (.aload_n 0, 1) := by decide +kernel
theorem d_Mo_split_120 : decode b_Mo_split 120 = .ok (.getfield 22, 3) := by decide +kernel
theorem d_Mo_split_123 : decode b_Mo_split 123 = .ok (.aload_n 0, 1) := by decide +kernel
theorem d_Mo_split_124 : decode b_Mo_split 124 = .ok (.getfield 71, 3) := by decide +kernel
theorem d_Mo_split_127 : decode b_Mo_split 127 = .ok (.iload 5, 2) := by decide +kernel
theorem d_Mo_split_129 : decode b_Mo_split 129 = .ok (.iastore, 1) := by decide +kernel
theorem d_Mo_split_130 : decode b_Mo_split 130 = .ok (.aload_n 0, 1) := by decide +kernel
theorem d_Mo_split_131 : decode b_Mo_split 131 = .ok (.dup, 1) := by decide +kernel
theorem d_Mo_split_132 : decode b_Mo_split 132 = .ok (.getfield 71, 3) := by decide +kernel
theorem d_Mo_split_135 : decode b_Mo_split 135 = .ok (.iconst 1, 1) := by decide +kernel
theorem d_Mo_split_136 : decode b_Mo_split 136 = .ok (.iadd, 1) := by decide +kernel
theorem d_Mo_split_137 : decode b_Mo_split 137 = .ok (.putfield 71, 3) := by decide +kernel
theorem d_Mo_split_140 : decode b_Mo_split 140 = .ok (.aload_n 0, 1) := by decide +kernel
theorem d_Mo_split_141 : decode b_Mo_split 141 = .ok (.getfield 71, 3) := by decide +kernel
theorem d_Mo_split_144 : decode b_Mo_split 144 = .ok (.iconst 1, 1) := by decide +kernel
theorem d_Mo_split_145 : decode b_Mo_split 145 = .ok (.isub, 1) := by decide +kernel
theorem d_Mo_split_146 : decode b_Mo_split 146 = .ok (.ireturn, 1) := by decide +kernel
theorem d_Mo_tree_0 : decode b_Mo_tree 0 = .ok (.aload_n 0, 1) := by decide +kernel
theorem d_Mo_tree_1 : decode b_Mo_tree 1 = .ok (.getfield 81, 3) := by decide +kernel
theorem d_Mo_tree_4 : decode b_Mo_tree 4 = .ok (.bipush 8, 2) := by decide +kernel
theorem d_Mo_tree_6 : decode b_Mo_tree 6 = .ok (.if_icmp .eq 17, 3) := by decide +kernel
theorem d_Mo_tree_9 : decode b_Mo_tree 9 = .ok (.iload_n 1, 1) := by decide +kernel
theorem d_Mo_tree_10 : decode b_Mo_tree 10 = .ok (.iconst 0, 1) := by decide +kernel
theorem d_Mo_tree_11 : decode b_Mo_tree 11 = .ok (.aload_n 0, 1) := by decide +kernel
theorem d_Mo_tree_12 : decode b_Mo_tree 12 = .ok (.getfield 71, 3) := by decide +kernel
theorem d_Mo_tree_15 : decode b_Mo_tree 15 = .ok (.iconst 1, 1) := by decide +kernel
theorem d_Mo_tree_16 : decode b_Mo_tree 16 = .ok (.isub, 1) := by decide +kernel
theorem d_Mo_tree_17 : decode b_Mo_tree 17 = .ok (.invokestatic 75, 3) := by decide +kernel
theorem d_Mo_tree_20 : decode b_Mo_tree 20 = .ok (.ifCond .eq 5, 3) := by decide +kernel
theorem d_Mo_tree_23 : decode b_Mo_tree 23 = .ok (.iconst (-1), 1) := by decide +kernel
theorem d_Mo_tree_24 : decode b_Mo_tree 24 = .ok (.ireturn, 1) := by decide +kernel
theorem d_Mo_tree_25 : decode b_Mo_tree 25 = .ok (.aload_n 0, 1) := by decide +kernel
theorem d_Mo_tree_26 : decode b_Mo_tree 26 = .ok (.getfield 25, 3) := by decide +kernel
theorem d_Mo_tree_29 : decode b_Mo_tree 29 = .ok (.aload_n 0, 1) := by decide +kernel
theorem d_Mo_tree_30 : decode b_Mo_tree 30 = .ok (.getfield 81, 3) := by decide +kernel
theorem d_Mo_tree_33 : decode b_Mo_tree 33 = .ok (.iload_n 1, 1) := by decide +kernel
theorem d_Mo_tree_34 : decode b_Mo_tree 34 = .ok (.iastore, 1) := by decide +kernel
theorem d_Mo_tree_35 : decode b_Mo_tree 35 = .ok (.aload_n 0, 1) := by decide +kernel
theorem d_Mo_tree_36 : decode b_Mo_tree 36 = .ok (.dup, 1) := by decide +kernel
theorem d_Mo_tree_37 : decode b_Mo_tree 37 = .ok (.getfield 81, 3) := by decide +kernel
theorem d_Mo_tree_40 : decode b_Mo_tree 40 = .ok (.iconst 1, 1) := by decide +kernel
theorem d_Mo_tree_41 : decode b_Mo_tree 41 = .ok (.iadd, 1) := by decide +kernel
theorem d_Mo_tree_42 : decode b_Mo_tree 42 = .ok (.putfield 81, 3) := by decide +kernel
theorem d_Mo_tree_45 : decode b_Mo_tree 45 = .ok (.aload_n 0, 1) := by decide +kernel
theorem d_Mo_tree_46 : decode b_Mo_tree 46 = .ok (.getfield 81, 3) := by decide +kernel
theorem d_Mo_tree_49 : decode b_Mo_tree 49 = .ok (.iconst 1, 1) := by decide +kernel
theorem d_Mo_tree_50 : decode b_Mo_tree 50 = .ok (.isub, 1) := by decide +kernel
theorem d_Mo_tree_51 : decode b_Mo_tree 51 = .ok (.ireturn, 1) := by decide +kernel
theorem d_Mo_wrong_0 : decode b_Mo_wrong 0 = .ok (.aload_n 0, 1) := by decide +kernel
theorem d_Mo_wrong_1 : decode b_Mo_wrong 1 = .ok (.getfield 31, 3) := by decide +kernel
theorem d_Mo_wrong_4 : decode b_Mo_wrong 4 = .ok (.iload_n 1, 1) := by decide +kernel
theorem d_Mo_wrong_5 : decode b_Mo_wrong 5 = .ok (.baload, 1) := by decide +kernel
theorem d_Mo_wrong_6 : decode b_Mo_wrong 6 = .ok (.ifCond .eq 9, 3) := by decide +kernel
theorem d_Mo_wrong_9 : decode b_Mo_wrong 9 = .ok (.sipush 200, 3) := by decide +kernel
theorem d_Mo_wrong_12 : decode b_Mo_wrong 12 = .ok (.iload_n 1, 1) := by decide +kernel
theorem d_Mo_wrong_13 : decode b_Mo_wrong 13 = .ok (.iadd, 1) := by decide +kernel
theorem d_Mo_wrong_14 : decode b_Mo_wrong 14 = .ok (.ireturn, 1) := by decide +kernel
theorem d_Mo_wrong_15 : decode b_Mo_wrong 15 = .ok (.iload_n 2, 1) := by decide +kernel
theorem d_Mo_wrong_16 : decode b_Mo_wrong 16 = .ok (.bipush 12, 2) := by decide +kernel
theorem d_Mo_wrong_18 : decode b_Mo_wrong 18 = .ok (.if_icmp .le 9, 3) := by decide +kernel
theorem d_Mo_wrong_21 : decode b_Mo_wrong 21 = .ok (.sipush 300, 3) := by decide +kernel
theorem d_Mo_wrong_24 : decode b_Mo_wrong 24 = .ok (.iload_n 1, 1) := by decide +kernel
theorem d_Mo_wrong_25 : decode b_Mo_wrong 25 = .ok (.iadd, 1) := by decide +kernel
theorem d_Mo_wrong_26 : decode b_Mo_wrong 26 = .ok (.ireturn, 1) := by decide +kernel
theorem d_Mo_wrong_27 : decode b_Mo_wrong 27 = .ok (.aload_n 0, 1) := by decide +kernel
theorem d_Mo_wrong_28 : decode b_Mo_wrong 28 = .ok (.getfield 7, 3) := by decide +kernel
theorem d_Mo_wrong_31 : decode b_Mo_wrong 31 = .ok (.iload_n 1, 1) := by decide +kernel
theorem d_Mo_wrong_32 : decode b_Mo_wrong 32 = .ok (.iaload, 1) := by decide +kernel
theorem d_Mo_wrong_33 : decode b_Mo_wrong 33 = .ok (.iconst (-1), 1) := by decide +kernel
theorem d_Mo_wrong_34 : decode b_Mo_wrong 34 = .ok (.if_icmp .eq 36, 3) := by decide +kernel
theorem d_Mo_wrong_37 : decode b_Mo_wrong 37 = .ok (.aload_n 0, 1) := by decide +kernel
theorem d_Mo_wrong_38 : decode b_Mo_wrong 38 = .ok (.getfield 19, 3) := by decide +kernel
theorem d_Mo_wrong_41 : decode b_Mo_wrong 41 = .ok (.iload_n 1, 1) := by decide +kernel
theorem d_Mo_wrong_42 : decode b_Mo_wrong 42 = .ok (.iaload, 1) := by decide +kernel
theorem d_Mo_wrong_43 : decode b_Mo_wrong 43 = .ok (.aload_n 0, 1) := by decide +kernel
theorem d_Mo_wrong_44 : decode b_Mo_wrong 44 = .ok (.getfield 71, 3) := by decide +kernel
theorem d_Mo_wrong_47 : decode b_Mo_wrong 47 = .ok (.if_icmp .ge 16, 3) := by decide +kernel
theorem d_Mo_wrong_50 : decode b_Mo_wrong 50 = .ok (.aload_n 0, 1) := by decide +kernel
theorem d_Mo_wrong_51 : decode b_Mo_wrong 51 = .ok (.getfield 22, 3) := by decide +kernel
theorem d_Mo_wrong_54 : decode b_Mo_wrong 54 = .ok (.iload_n 1, 1) := by decide +kernel
theorem d_Mo_wrong_55 : decode b_Mo_wrong 55 = .ok (.iaload, 1) := by decide +kernel
theorem d_Mo_wrong_56 : decode b_Mo_wrong 56 = .ok (.aload_n 0, 1) := by decide +kernel
theorem d_Mo_wrong_57 : decode b_Mo_wrong 57 = .ok (.getfield 71, 3) := by decide +kernel
theorem d_Mo_wrong_60 : decode b_Mo_wrong 60 = .ok (.if_icmp .lt 10, 3) := by decide +kernel
theorem d_Mo_wrong_63 : decode b_Mo_wrong 63 = .ok (.bipush 100, 2) := by decide +kernel
theorem d_Mo_wrong_65 : decode b_Mo_wrong 65 = .ok (.iload_n 1, 1) := by decide +kernel
theorem d_Mo_wrong_66 : decode b_Mo_wrong 66 = .ok (.iadd, 1) := by decide +kernel
theorem d_Mo_wrong_67 : decode b_Mo_wrong 67 = .ok (.goto 4, 3) := by decide +kernel
theorem d_Mo_wrong_70 : decode b_Mo_wrong 70 = .ok (.iconst 0, 1) := by decide +kernel
theorem d_Mo_wrong_71 : decode b_Mo_wrong 71 = .ok (.ireturn, 1) := by decide +kernel
theorem d_Mo_fault_0 : decode b_Mo_fault 0 = .ok (.iconst 0, 1) := by decide +kernel
theorem d_Mo_fault_1 : decode b_Mo_fault 1 = .ok (.istore_n 1, 1) := by decide +kernel
theorem d_Mo_fault_2 : decode b_Mo_fault 2 = .ok (.iload_n 1, 1) := by decide +kernel
theorem d_Mo_fault_3 : decode b_Mo_fault 3 = .ok (.bipush 60, 2) := by decide +kernel
theorem d_Mo_fault_5 : decode b_Mo_fault 5 = .ok (.if_icmp .ge 16, 3) := by decide +kernel
theorem d_Mo_fault_8 : decode b_Mo_fault 8 = .ok (.aload_n 0, 1) := by decide +kernel
theorem d_Mo_fault_9 : decode b_Mo_fault 9 = .ok (.getfield 31, 3) := by decide +kernel
theorem d_Mo_fault_12 : decode b_Mo_fault 12 = .ok (.iload_n 1, 1) := by decide +kernel
theorem d_Mo_fault_13 : decode b_Mo_fault 13 = .ok (.iconst 0, 1) := by decide +kernel
theorem d_Mo_fault_14 : decode b_Mo_fault 14 = .ok (.bastore, 1) := by decide +kernel
theorem d_Mo_fault_15 : decode b_Mo_fault 15 = .ok (.iinc 1 1, 3) := by decide +kernel
theorem d_Mo_fault_18 : decode b_Mo_fault 18 = .ok (.goto (-16), 3) := by decide +kernel
theorem d_Mo_fault_21 : decode b_Mo_fault 21 = .ok (.iconst 0, 1) := by decide +kernel
theorem d_Mo_fault_22 : decode b_Mo_fault 22 = .ok (.istore_n 1, 1) := by decide +kernel
theorem d_Mo_fault_23 : decode b_Mo_fault 23 = .ok (.iload_n 1, 1) := by decide +kernel
theorem d_Mo_fault_24 : decode b_Mo_fault 24 = .ok (.aload_n 0, 1) := by decide +kernel
theorem d_Mo_fault_25 : decode b_Mo_fault 25 = .ok (.getfield 81, 3) := by decide +kernel
theorem d_Mo_fault_28 : decode b_Mo_fault 28 = .ok (.if_icmp .ge 140, 3) := by decide +kernel
theorem d_Mo_fault_31 : decode b_Mo_fault 31 = .ok (.iconst 1, 1) := by decide +kernel
theorem d_Mo_fault_32 : decode b_Mo_fault 32 = .ok (.istore_n 2, 1) := by decide +kernel
theorem d_Mo_fault_33 : decode b_Mo_fault 33 = .ok (.aload_n 0, 1) := by decide +kernel
theorem d_Mo_fault_34 : decode b_Mo_fault 34 = .ok (.getfield 35, 3) := by decide +kernel
theorem d_Mo_fault_37 : decode b_Mo_fault 37 = .ok (.iconst 0, 1) := by decide +kernel
theorem d_Mo_fault_38 : decode b_Mo_fault 38 = .ok (.aload_n 0, 1) := by decide +kernel
theorem d_Mo_fault_39 : decode b_Mo_fault 39 = .ok (.getfield 25, 3) := by decide +kernel
theorem d_Mo_fault_42 : decode b_Mo_fault 42 = .ok (.iload_n 1, 1) := by decide +kernel
theorem d_Mo_fault_43 : decode b_Mo_fault 43 = .ok (.iaload, 1) := by decide +kernel
theorem d_Mo_fault_44 : decode b_Mo_fault 44 = .ok (.iastore, 1) := by decide +kernel
theorem d_Mo_fault_45 : decode b_Mo_fault 45 = .ok (.aload_n 0, 1) := by decide +kernel
theorem d_Mo_fault_46 : decode b_Mo_fault 46 = .ok (.getfield 38, 3) := by decide +kernel
theorem d_Mo_fault_49 : decode b_Mo_fault 49 = .ok (.iconst 0, 1) := by decide +kernel
theorem d_Mo_fault_50 : decode b_Mo_fault 50 = .ok (.iconst 0, 1) := by decide +kernel
theorem d_Mo_fault_51 : decode b_Mo_fault 51 = .ok (.iastore, 1) := by decide +kernel
theorem d_Mo_fault_52 : decode b_Mo_fault 52 = .ok (.iload_n 2, 1) := by decide +kernel
theorem d_Mo_fault_53 : decode b_Mo_fault 53 = .ok (.ifCond .le 109, 3) := by decide +kernel
theorem d_Mo_fault_56 : decode b_Mo_fault 56 = .ok (.iinc 2 (-1), 3) := by decide +kernel
theorem d_Mo_fault_59 : decode b_Mo_fault 59 = .ok (.aload_n 0, 1) := by decide +kernel
theorem d_Mo_fault_60 : decode b_Mo_fault 60 = .ok (.getfield 35, 3) := by decide +kernel
theorem d_Mo_fault_63 : decode b_Mo_fault 63 = .ok (.iload_n 2, 1) := by decide +kernel
theorem d_Mo_fault_64 : decode b_Mo_fault 64 = .ok (.iaload, 1) := by decide +kernel
theorem d_Mo_fault_65 : decode b_Mo_fault 65 = .ok (.istore_n 3, 1) := by decide +kernel
theorem d_Mo_fault_66 : decode b_Mo_fault 66 = .ok (.aload_n 0, 1) := by decide +kernel
theorem d_Mo_fault_67 : decode b_Mo_fault 67 = .ok (.getfield 38, 3) := by decide +kernel
theorem d_Mo_fault_70 : decode b_Mo_fault 70 = .ok (.iload_n 2, 1) := by decide +kernel
theorem d_Mo_fault_71 : decode b_Mo_fault 71 = .ok (.iaload, 1) := by decide +kernel
theorem d_Mo_fault_72 : decode b_Mo_fault 72 = .ok (.istore 4, 2) := by decide +kernel
theorem d_Mo_fault_74 : decode b_Mo_fault 74 = .ok (.aload_n 0, 1) := by decide +kernel
theorem d_Mo_fault_75 : decode b_Mo_fault 75 = .ok (.iload_n 3, 1) := by decide +kernel
theorem d_Mo_fault_76 : decode b_Mo_fault 76 = .ok (.iload 4, 2) := by decide +kernel
theorem d_Mo_fault_78 : decode b_Mo_fault 78 = .ok (.invokevirtual 84, 3) := by decide +kernel
theorem d_Mo_fault_81 : decode b_Mo_fault 81 = .ok (.istore 5, 2) := by decide +kernel
theorem d_Mo_fault_83 : decode b_Mo_fault 83 = .ok (.iload 5, 2) := by decide +kernel
theorem d_Mo_fault_85 : decode b_Mo_fault 85 = .ok (.ifCond .eq 6, 3) := by decide +kernel
theorem d_Mo_fault_88 : decode b_Mo_fault 88 = .ok (.iload 5, 2) := by decide +kernel
theorem d_Mo_fault_90 : decode b_Mo_fault 90 = .ok (.ireturn, 1) := by decide +kernel
theorem d_Mo_fault_91 : decode b_Mo_fault 91 = .ok (.aload_n 0, 1) := by decide +kernel
theorem d_Mo_fault_92 : decode b_Mo_fault 92 = .ok (.getfield 31, 3) := by decide +kernel
theorem d_Mo_fault_95 : decode b_Mo_fault 95 = .ok (.iload_n 3, 1) := by decide +kernel
theorem d_Mo_fault_96 : decode b_Mo_fault 96 = .ok (.iconst 1, 1) := by decide +kernel
theorem d_Mo_fault_97 : decode b_Mo_fault 97 = .ok (.bastore, 1) := by decide +kernel
theorem d_Mo_fault_98 : decode b_Mo_fault 98 = .ok (.aload_n 0, 1) := by decide +kernel
theorem d_Mo_fault_99 : decode b_Mo_fault 99 = .ok (.getfield 7, 3) := by decide +kernel
theorem d_Mo_fault_102 : decode b_Mo_fault 102 = .ok (.iload_n 3, 1) := by decide +kernel
theorem d_Mo_fault_103 : decode b_Mo_fault 103 = .ok (.iaload, 1) := by decide +kernel
theorem d_Mo_fault_104 : decode b_Mo_fault 104 = .ok (.iconst (-1), 1) := by decide +kernel
theorem d_Mo_fault_105 : decode b_Mo_fault 105 = .ok (.if_icmp .eq 54, 3) := by decide +kernel
theorem d_Mo_fault_108 : decode b_Mo_fault 108 = .ok (.aload_n 0, 1) := by decide +kernel
theorem d_Mo_fault_109 : decode b_Mo_fault 109 = .ok (.getfield 35, 3) := by decide +kernel
theorem d_Mo_fault_112 : decode b_Mo_fault 112 = .ok (.iload_n 2, 1) := by decide +kernel
theorem d_Mo_fault_113 : decode b_Mo_fault 113 = .ok (.aload_n 0, 1) := by decide +kernel
theorem d_Mo_fault_114 : decode b_Mo_fault 114 = .ok (.getfield 22, 3) := by decide +kernel
theorem d_Mo_fault_117 : decode b_Mo_fault 117 = .ok (.iload_n 3, 1) := by decide +kernel
theorem d_Mo_fault_118 : decode b_Mo_fault 118 = .ok (.iaload, 1) := by decide +kernel
theorem d_Mo_fault_119 : decode b_Mo_fault 119 = .ok (.iastore, 1) := by decide +kernel
theorem d_Mo_fault_120 : decode b_Mo_fault 120 = .ok (.aload_n 0, 1) := by decide +kernel
theorem d_Mo_fault_121 : decode b_Mo_fault 121 = .ok (.getfield 38, 3) := by decide +kernel
theorem d_Mo_fault_124 : decode b_Mo_fault 124 = .ok (.iload_n 2, 1) := by decide +kernel
theorem d_Mo_fault_125 : decode b_Mo_fault 125 = .ok (.iload 4, 2) := by decide +kernel
theorem d_Mo_fault_127 : decode b_Mo_fault 127 = .ok (.iconst 1, 1) := by decide +kernel
theorem d_Mo_fault_128 : decode b_Mo_fault 128 = .ok (.iadd, 1) := by decide +kernel
theorem d_Mo_fault_129 : decode b_Mo_fault 129 = .ok (.iastore, 1) := by decide +kernel
theorem d_Mo_fault_130 : decode b_Mo_fault 130 = .ok (.aload_n 0, 1) := by decide +kernel
theorem d_Mo_fault_131 : decode b_Mo_fault 131 = .ok (.getfield 35, 3) := by decide +kernel
theorem d_Mo_fault_134 : decode b_Mo_fault 134 = .ok (.iload_n 2, 1) := by decide +kernel
theorem d_Mo_fault_135 : decode b_Mo_fault 135 = .ok (.iconst 1, 1) := by decide +kernel
theorem d_Mo_fault_136 : decode b_Mo_fault 136 = .ok (.iadd, 1) := by decide +kernel
theorem d_Mo_fault_137 : decode b_Mo_fault 137 = .ok (.aload_n 0, 1) := by decide +kernel
theorem d_Mo_fault_138 : decode b_Mo_fault 138 = .ok (.getfield 19, 3) := by decide +kernel
theorem d_Mo_fault_141 : decode b_Mo_fault 141 = .ok (.iload_n 3, 1) := by decide +kernel
theorem d_Mo_fault_142 : decode b_Mo_fault 142 = .ok (.iaload, 1) := by decide +kernel
theorem d_Mo_fault_143 : decode b_Mo_fault 143 = .ok (.iastore, 1) := by decide +kernel
theorem d_Mo_fault_144 : decode b_Mo_fault 144 = .ok (.aload_n 0, 1) := by decide +kernel
theorem d_Mo_fault_145 : decode b_Mo_fault 145 = .ok (.getfield 38, 3) := by decide +kernel
theorem d_Mo_fault_148 : decode b_Mo_fault 148 = .ok (.iload_n 2, 1) := by decide +kernel
theorem d_Mo_fault_149 : decode b_Mo_fault 149 = .ok (.iconst 1, 1) := by decide +kernel
theorem d_Mo_fault_150 : decode b_Mo_fault 150 = .ok (.iadd, 1) := by decide +kernel
theorem d_Mo_fault_151 : decode b_Mo_fault 151 = .ok (.iload 4, 2) := by decide +kernel
theorem d_Mo_fault_153 : decode b_Mo_fault 153 = .ok (.iconst 1, 1) := by decide +kernel
theorem d_Mo_fault_154 : decode b_Mo_fault 154 = .ok (.iadd, 1) := by decide +kernel
theorem d_Mo_fault_155 : decode b_Mo_fault 155 = .ok (.iastore, 1) := by decide +kernel
theorem d_Mo_fault_156 : decode b_Mo_fault 156 = .ok (.iinc 2 2, 3) := by decide +kernel
theorem d_Mo_fault_159 : decode b_Mo_fault 159 = .ok (.goto (-107), 3) := by decide +kernel
theorem d_Mo_fault_162 : decode b_Mo_fault 162 = .ok (.iinc 1 1, 3) := by decide +kernel
theorem d_Mo_fault_165 : decode b_Mo_fault 165 = .ok (.goto (-142), 3) := by decide +kernel
theorem d_Mo_fault_168 : decode b_Mo_fault 168 = .ok (.iconst 0, 1) := by decide +kernel
theorem d_Mo_fault_169 : decode b_Mo_fault 169 = .ok (.ireturn, 1) := by decide +kernel
theorem d_Mo_part_0 : decode b_Mo_part 0 = .ok (.aload_n 0, 1) := by decide +kernel
theorem d_Mo_part_1 : decode b_Mo_part 1 = .ok (.getfield 47, 3) := by decide +kernel
theorem d_Mo_part_4 : decode b_Mo_part 4 = .ok (.iload_n 1, 1) := by decide +kernel
theorem d_Mo_part_5 : decode b_Mo_part 5 = .ok (.iaload, 1) := by decide +kernel
theorem d_Mo_part_6 : decode b_Mo_part 6 = .ok (.ifCond .lt 7, 3) := by decide +kernel
theorem d_Mo_part_9 : decode b_Mo_part 9 = .ok (.iconst 3, 1) := by decide +kernel
theorem d_Mo_part_10 : decode b_Mo_part 10 = .ok (.goto 9, 3) := by decide +kernel
theorem d_Mo_part_13 : decode b_Mo_part 13 = .ok (.aload_n 0, 1) := by decide +kernel
theorem d_Mo_part_14 : decode b_Mo_part 14 = .ok (.getfield 44, 3) := by decide +kernel
theorem d_Mo_part_17 : decode b_Mo_part 17 = .ok (.iload_n 1, 1) := by decide +kernel
theorem d_Mo_part_18 : decode b_Mo_part 18 = .ok (.iaload, 1) := by decide +kernel
theorem d_Mo_part_19 : decode b_Mo_part 19 = .ok (.ireturn, 1) := by decide +kernel
theorem d_Mo_far_0 : decode b_Mo_far 0 = .ok (.iconst 2, 1) := by decide +kernel
theorem d_Mo_far_1 : decode b_Mo_far 1 = .ok (.aload_n 0, 1) := by decide +kernel
theorem d_Mo_far_2 : decode b_Mo_far 2 = .ok (.aload_n 0, 1) := by decide +kernel
theorem d_Mo_far_3 : decode b_Mo_far 3 = .ok (.getfield 19, 3) := by decide +kernel
theorem d_Mo_far_6 : decode b_Mo_far 6 = .ok (.iload_n 1, 1) := by decide +kernel
theorem d_Mo_far_7 : decode b_Mo_far 7 = .ok (.iaload, 1) := by decide +kernel
theorem d_Mo_far_8 : decode b_Mo_far 8 = .ok (.invokevirtual 88, 3) := by decide +kernel
theorem d_Mo_far_11 : decode b_Mo_far 11 = .ok (.iadd, 1) := by decide +kernel
theorem d_Mo_far_12 : decode b_Mo_far 12 = .ok (.istore_n 2, 1) := by decide +kernel
theorem d_Mo_far_13 : decode b_Mo_far 13 = .ok (.iload_n 2, 1) := by decide +kernel
theorem d_Mo_far_14 : decode b_Mo_far 14 = .ok (.bipush 63, 2) := by decide +kernel
theorem d_Mo_far_16 : decode b_Mo_far 16 = .ok (.if_icmp .gt 7, 3) := by decide +kernel
theorem d_Mo_far_19 : decode b_Mo_far 19 = .ok (.iload_n 2, 1) := by decide +kernel
theorem d_Mo_far_20 : decode b_Mo_far 20 = .ok (.goto 6, 3) := by decide +kernel
theorem d_Mo_far_23 : decode b_Mo_far 23 = .ok (.iload_n 2, 1) := by decide +kernel
theorem d_Mo_far_24 : decode b_Mo_far 24 = .ok (.iconst 1, 1) := by decide +kernel
theorem d_Mo_far_25 : decode b_Mo_far 25 = .ok (.iadd, 1) := by decide +kernel
theorem d_Mo_far_26 : decode b_Mo_far 26 = .ok (.ireturn, 1) := by decide +kernel
theorem d_Mo_bytesOf_0 : decode b_Mo_bytesOf 0 = .ok (.iconst 4, 1) := by decide +kernel
theorem d_Mo_bytesOf_1 : decode b_Mo_bytesOf 1 = .ok (.aload_n 0, 1) := by decide +kernel
theorem d_Mo_bytesOf_2 : decode b_Mo_bytesOf 2 = .ok (.iload_n 1, 1) := by decide +kernel
theorem d_Mo_bytesOf_3 : decode b_Mo_bytesOf 3 = .ok (.invokevirtual 92, 3) := by decide +kernel
theorem d_Mo_bytesOf_6 : decode b_Mo_bytesOf 6 = .ok (.iadd, 1) := by decide +kernel
theorem d_Mo_bytesOf_7 : decode b_Mo_bytesOf 7 = .ok (.aload_n 0, 1) := by decide +kernel
theorem d_Mo_bytesOf_8 : decode b_Mo_bytesOf 8 = .ok (.aload_n 0, 1) := by decide +kernel
theorem d_Mo_bytesOf_9 : decode b_Mo_bytesOf 9 = .ok (.getfield 22, 3) := by decide +kernel
theorem d_Mo_bytesOf_12 : decode b_Mo_bytesOf 12 = .ok (.iload_n 1, 1) := by decide +kernel
theorem d_Mo_bytesOf_13 : decode b_Mo_bytesOf 13 = .ok (.iaload, 1) := by decide +kernel
theorem d_Mo_bytesOf_14 : decode b_Mo_bytesOf 14 = .ok (.invokevirtual 88, 3) := by decide +kernel
theorem d_Mo_bytesOf_17 : decode b_Mo_bytesOf 17 = .ok (.iadd, 1) := by decide +kernel
theorem d_Mo_bytesOf_18 : decode b_Mo_bytesOf 18 = .ok (.ireturn, 1) := by decide +kernel
theorem d_Mo_newMethod_0 : decode b_Mo_newMethod 0 = .ok (.aload_n 0, 1) := by decide +kernel
theorem d_Mo_newMethod_1 : decode b_Mo_newMethod 1 = .ok (.getfield 56, 3) := by decide +kernel
theorem d_Mo_newMethod_4 : decode b_Mo_newMethod 4 = .ok (.aload_n 0, 1) := by decide +kernel
theorem d_Mo_newMethod_5 : decode b_Mo_newMethod 5 = .ok (.getfield 95, 3) := by decide +kernel
theorem d_Mo_newMethod_8 : decode b_Mo_newMethod 8 = .ok (.iload_n 1, 1) := by decide +kernel
theorem d_Mo_newMethod_9 : decode b_Mo_newMethod 9 = .ok (.iastore, 1) := by decide +kernel
theorem d_Mo_newMethod_10 : decode b_Mo_newMethod 10 = .ok (.aload_n 0, 1) := by decide +kernel
theorem d_Mo_newMethod_11 : decode b_Mo_newMethod 11 = .ok (.dup, 1) := by decide +kernel
theorem d_Mo_newMethod_12 : decode b_Mo_newMethod 12 = .ok (.getfield 95, 3) := by decide +kernel
theorem d_Mo_newMethod_15 : decode b_Mo_newMethod 15 = .ok (.iconst 1, 1) := by decide +kernel
theorem d_Mo_newMethod_16 : decode b_Mo_newMethod 16 = .ok (.iadd, 1) := by decide +kernel
theorem d_Mo_newMethod_17 : decode b_Mo_newMethod 17 = .ok (.putfield 95, 3) := by decide +kernel
theorem d_Mo_newMethod_20 : decode b_Mo_newMethod 20 = .ok (.return_, 1) := by decide +kernel
theorem d_Mo_cutOut_0 : decode b_Mo_cutOut 0 = .ok (.aload_n 0, 1) := by decide +kernel
theorem d_Mo_cutOut_1 : decode b_Mo_cutOut 1 = .ok (.getfield 47, 3) := by decide +kernel
theorem d_Mo_cutOut_4 : decode b_Mo_cutOut 4 = .ok (.iload_n 1, 1) := by decide +kernel
theorem d_Mo_cutOut_5 : decode b_Mo_cutOut 5 = .ok (.aload_n 0, 1) := by decide +kernel
theorem d_Mo_cutOut_6 : decode b_Mo_cutOut 6 = .ok (.getfield 95, 3) := by decide +kernel
theorem d_Mo_cutOut_9 : decode b_Mo_cutOut 9 = .ok (.iastore, 1) := by decide +kernel
theorem d_Mo_cutOut_10 : decode b_Mo_cutOut 10 = .ok (.aload_n 0, 1) := by decide +kernel
theorem d_Mo_cutOut_11 : decode b_Mo_cutOut 11 = .ok (.iload_n 1, 1) := by decide +kernel
theorem d_Mo_cutOut_12 : decode b_Mo_cutOut 12 = .ok (.invokevirtual 98, 3) := by decide +kernel
theorem d_Mo_cutOut_15 : decode b_Mo_cutOut 15 = .ok (.return_, 1) := by decide +kernel
theorem d_Mo_measure_0 : decode b_Mo_measure 0 = .ok (.aload_n 0, 1) := by decide +kernel
theorem d_Mo_measure_1 : decode b_Mo_measure 1 = .ok (.getfield 47, 3) := by decide +kernel
theorem d_Mo_measure_4 : decode b_Mo_measure 4 = .ok (.iload_n 1, 1) := by decide +kernel
theorem d_Mo_measure_5 : decode b_Mo_measure 5 = .ok (.iconst (-1), 1) := by decide +kernel
theorem d_Mo_measure_6 : decode b_Mo_measure 6 = .ok (.iastore, 1) := by decide +kernel
theorem d_Mo_measure_7 : decode b_Mo_measure 7 = .ok (.aload_n 0, 1) := by decide +kernel
theorem d_Mo_measure_8 : decode b_Mo_measure 8 = .ok (.getfield 7, 3) := by decide +kernel
theorem d_Mo_measure_11 : decode b_Mo_measure 11 = .ok (.iload_n 1, 1) := by decide +kernel
theorem d_Mo_measure_12 : decode b_Mo_measure 12 = .ok (.iaload, 1) := by decide +kernel
theorem d_Mo_measure_13 : decode b_Mo_measure 13 = .ok (.iconst (-1), 1) := by decide +kernel
theorem d_Mo_measure_14 : decode b_Mo_measure 14 = .ok (.if_icmp .ne 11, 3) := by decide +kernel
theorem d_Mo_measure_17 : decode b_Mo_measure 17 = .ok (.aload_n 0, 1) := by decide +kernel
theorem d_Mo_measure_18 : decode b_Mo_measure 18 = .ok (.getfield 44, 3) := by decide +kernel
theorem d_Mo_measure_21 : decode b_Mo_measure 21 = .ok (.iload_n 1, 1) := by decide +kernel
theorem d_Mo_measure_22 : decode b_Mo_measure 22 = .ok (.iconst 3, 1) := by decide +kernel
theorem d_Mo_measure_23 : decode b_Mo_measure 23 = .ok (.iastore, 1) := by decide +kernel
theorem d_Mo_measure_24 : decode b_Mo_measure 24 = .ok (.return_, 1) := by decide +kernel
theorem d_Mo_measure_25 : decode b_Mo_measure 25 = .ok (.aload_n 0, 1) := by decide +kernel
theorem d_Mo_measure_26 : decode b_Mo_measure 26 = .ok (.iload_n 1, 1) := by decide +kernel
theorem d_Mo_measure_27 : decode b_Mo_measure 27 = .ok (.invokevirtual 102, 3) := by decide +kernel
theorem d_Mo_measure_30 : decode b_Mo_measure 30 = .ok (.iload_n 2, 1) := by decide +kernel
theorem d_Mo_measure_31 : decode b_Mo_measure 31 = .ok (.if_icmp .le 87, 3) := by decide +kernel
theorem d_Mo_measure_34 : decode b_Mo_measure 34 = .ok (.aload_n 0, 1) := by decide +kernel
theorem d_Mo_measure_35 : decode b_Mo_measure 35 = .ok (.aload_n 0, 1) := by decide +kernel
theorem d_Mo_measure_36 : decode b_Mo_measure 36 = .ok (.getfield 19, 3) := by decide +kernel
theorem d_Mo_measure_39 : decode b_Mo_measure 39 = .ok (.iload_n 1, 1) := by decide +kernel
theorem d_Mo_measure_40 : decode b_Mo_measure 40 = .ok (.iaload, 1) := by decide +kernel
theorem d_Mo_measure_41 : decode b_Mo_measure 41 = .ok (.invokevirtual 88, 3) := by decide +kernel
theorem d_Mo_measure_44 : decode b_Mo_measure 44 = .ok (.aload_n 0, 1) := by decide +kernel
theorem d_Mo_measure_45 : decode b_Mo_measure 45 = .ok (.aload_n 0, 1) := by decide +kernel
theorem d_Mo_measure_46 : decode b_Mo_measure 46 = .ok (.getfield 22, 3) := by decide +kernel
theorem d_Mo_measure_49 : decode b_Mo_measure 49 = .ok (.iload_n 1, 1) := by decide +kernel
theorem d_Mo_measure_50 : decode b_Mo_measure 50 = .ok (.iaload, 1) := by decide +kernel
theorem d_Mo_measure_51 : decode b_Mo_measure 51 = .ok (.invokevirtual 88, 3) := by decide +kernel
theorem d_Mo_measure_54 : decode b_Mo_measure 54 = .ok (.if_icmp .lt 7, 3) := by decide +kernel
theorem d_Mo_measure_57 : decode b_Mo_measure 57 = .ok (.iconst 1, 1) := by decide +kernel
theorem d_Mo_measure_58 : decode b_Mo_measure 58 = .ok (.goto 4, 3) := by decide +kernel
theorem d_Mo_measure_61 : decode b_Mo_measure 61 = .ok (.iconst 0, 1) := by decide +kernel
theorem d_Mo_measure_62 : decode b_Mo_measure 62 = .ok (.istore_n 3, 1) := by decide +kernel
theorem d_Mo_measure_63 : decode b_Mo_measure 63 = .ok (.aload_n 0, 1) := by decide +kernel
theorem d_Mo_measure_64 : decode b_Mo_measure 64 = .ok (.iload_n 3, 1) := by decide +kernel
theorem d_Mo_measure_65 : decode b_Mo_measure 65 = .ok (.ifCond .eq 12, 3) := by decide +kernel
theorem d_Mo_measure_68 : decode b_Mo_measure 68 = .ok (.aload_n 0, 1) := by decide +kernel
theorem d_Mo_measure_69 : decode b_Mo_measure 69 = .ok (.getfield 19, 3) := by decide +kernel
theorem d_Mo_measure_72 : decode b_Mo_measure 72 = .ok (.iload_n 1, 1) := by decide +kernel
theorem d_Mo_measure_73 : decode b_Mo_measure 73 = .ok (.iaload, 1) := by decide +kernel
theorem d_Mo_measure_74 : decode b_Mo_measure 74 = .ok (.goto 9, 3) := by decide +kernel
theorem d_Mo_measure_77 : decode b_Mo_measure 77 = .ok (.aload_n 0, 1) := by decide +kernel
theorem d_Mo_measure_78 : decode b_Mo_measure 78 = .ok (.getfield 22, 3) := by decide +kernel
theorem d_Mo_measure_81 : decode b_Mo_measure 81 = .ok (.iload_n 1, 1) := by decide +kernel
theorem d_Mo_measure_82 : decode b_Mo_measure 82 = .ok (.iaload, 1) := by decide +kernel
theorem d_Mo_measure_83 : decode b_Mo_measure 83 = .ok (.invokevirtual 105, 3) := by decide +kernel
theorem d_Mo_measure_86 : decode b_Mo_measure 86 = .ok (.aload_n 0, 1) := by decide +kernel
theorem d_Mo_measure_87 : decode b_Mo_measure 87 = .ok (.iload_n 1, 1) := by decide +kernel
theorem d_Mo_measure_88 : decode b_Mo_measure 88 = .ok (.invokevirtual 102, 3) := by decide +kernel
theorem d_Mo_measure_91 : decode b_Mo_measure 91 = .ok (.iload_n 2, 1) := by decide +kernel
theorem d_Mo_measure_92 : decode b_Mo_measure 92 = .ok (.if_icmp .le 26, 3) := by decide +kernel
theorem d_Mo_measure_95 : decode b_Mo_measure 95 = .ok (.aload_n 0, 1) := by decide +kernel
theorem d_Mo_measure_96 : decode b_Mo_measure 96 = .ok (.iload_n 3, 1) := by decide +kernel
theorem d_Mo_measure_97 : decode b_Mo_measure 97 = .ok (.ifCond .eq 12, 3) := by decide +kernel
theorem d_Mo_measure_100 : decode b_Mo_measure 100 = .ok (.aload_n 0, 1) := by decide +kernel
theorem d_Mo_measure_101 : decode b_Mo_measure 101 = .ok (.getfield 22, 3) := by decide +kernel
theorem d_Mo_measure_104 : decode b_Mo_measure 104 = .ok (.iload_n 1, 1) := by decide +kernel
theorem d_Mo_measure_105 : decode b_Mo_measure 105 = .ok (.iaload, 1) := by decide +kernel
theorem d_Mo_measure_106 : decode b_Mo_measure 106 = .ok (.goto 9, 3) := by decide +kernel
theorem d_Mo_measure_109 : decode b_Mo_measure 109 = .ok (.aload_n 0, 1) := by decide +kernel
theorem d_Mo_measure_110 : decode b_Mo_measure 110 = .ok (.getfield 19, 3) := by decide +kernel
theorem d_Mo_measure_113 : decode b_Mo_measure 113 = .ok (.iload_n 1, 1) := by decide +kernel
theorem d_Mo_measure_114 : decode b_Mo_measure 114 = .ok (.iaload, 1) := by decide +kernel
theorem d_Mo_measure_115 : decode b_Mo_measure 115 = .ok (.invokevirtual 105, 3) := by decide +kernel
theorem d_Mo_measure_118 : decode b_Mo_measure 118 = .ok (.aload_n 0, 1) := by decide +kernel
theorem d_Mo_measure_119 : decode b_Mo_measure 119 = .ok (.getfield 44, 3) := by decide +kernel
theorem d_Mo_measure_122 : decode b_Mo_measure 122 = .ok (.iload_n 1, 1) := by decide +kernel
theorem d_Mo_measure_123 : decode b_Mo_measure 123 = .ok (.aload_n 0, 1) := by decide +kernel
theorem d_Mo_measure_124 : decode b_Mo_measure 124 = .ok (.iload_n 1, 1) := by decide +kernel
theorem d_Mo_measure_125 : decode b_Mo_measure 125 = .ok (.invokevirtual 102, 3) := by decide +kernel
theorem d_Mo_measure_128 : decode b_Mo_measure 128 = .ok (.iastore, 1) := by decide +kernel
theorem d_Mo_measure_129 : decode b_Mo_measure 129 = .ok (.return_, 1) := by decide +kernel
theorem d_Mo_cutTree_0 : decode b_Mo_cutTree 0 = .ok (.iconst 0, 1) := by decide +kernel
theorem d_Mo_cutTree_1 : decode b_Mo_cutTree 1 = .ok (.istore_n 3, 1) := by decide +kernel
theorem d_Mo_cutTree_2 : decode b_Mo_cutTree 2 = .ok (.iconst 1, 1) := by decide +kernel
theorem d_Mo_cutTree_3 : decode b_Mo_cutTree 3 = .ok (.istore 4, 2) := by decide +kernel
theorem d_Mo_cutTree_5 : decode b_Mo_cutTree 5 = .ok (.aload_n 0, 1) := by decide +kernel
theorem d_Mo_cutTree_6 : decode b_Mo_cutTree 6 = .ok (.getfield 35, 3) := by decide +kernel
theorem d_Mo_cutTree_9 : decode b_Mo_cutTree 9 = .ok (.iconst 0, 1) := by decide +kernel
