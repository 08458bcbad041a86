theorem d_BF_leaf_0 : decode b_BF_leaf 0 = .ok (.aload_n 0, 1) := by decide +kernel
theorem d_BF_leaf_1 : decode b_BF_leaf 1 = .ok (.getfield 16, 3) := by decide +kernel
theorem d_BF_leaf_4 : decode b_BF_leaf 4 = .ok (.iconst (-1), 1) := by decide +kernel
theorem d_BF_leaf_5 : decode b_BF_leaf 5 = .ok (.iconst 0, 1) := by decide +kernel
theorem d_BF_leaf_6 : decode b_BF_leaf 6 = .ok (.iload_n 1, 1) := by decide +kernel
theorem d_BF_leaf_7 : decode b_BF_leaf 7 = .ok (.iconst (-1), 1) := by decide +kernel
theorem d_BF_leaf_8 : decode b_BF_leaf 8 = .ok (.iconst (-1), 1) := by decide +kernel
theorem d_BF_leaf_9 : decode b_BF_leaf 9 = .ok (.invokevirtual 61, 3) := by decide +kernel
theorem d_BF_leaf_12 : decode b_BF_leaf 12 = .ok (.ireturn, 1) := by decide +kernel
theorem d_BF_split_0 : decode b_BF_split 0 = .ok (.iload_n 1, 1) := by decide +kernel
theorem d_BF_split_1 : decode b_BF_split 1 = .ok (.ifCond .lt 24, 3) := by decide +kernel
theorem d_BF_split_4 : decode b_BF_split 4 = .ok (.iload_n 1, 1) := by decide +kernel
theorem d_BF_split_5 : decode b_BF_split 5 = .ok (.bipush 6, 2) := by decide +kernel
theorem d_BF_split_7 : decode b_BF_split 7 = .ok (.if_icmp .ge 18, 3) := by decide +kernel
theorem d_BF_split_10 : decode b_BF_split 10 = .ok (.iload_n 2, 1) := by decide +kernel
theorem d_BF_split_11 : decode b_BF_split 11 = .ok (.invokestatic 65, 3) := by decide +kernel
theorem d_BF_split_14 : decode b_BF_split 14 = .ok (.ifCond .eq 11, 3) := by decide +kernel
theorem d_BF_split_17 : decode b_BF_split 17 = .ok (.iload_n 1, 1) := by decide +kernel
theorem d_BF_split_18 : decode b_BF_split 18 = .ok (.iload_n 3, 1) := by decide +kernel
theorem d_BF_split_19 : decode b_BF_split 19 = .ok (.invokestatic 69, 3) := by decide +kernel
theorem d_BF_split_22 : decode b_BF_split 22 = .ok (.ifCond .ne 5, 3) := by decide +kernel
theorem d_BF_split_25 : decode b_BF_split 25 = .ok (.iconst (-1), 1) := by decide +kernel
theorem d_BF_split_26 : decode b_BF_split 26 = .ok (.ireturn, 1) := by decide +kernel
theorem d_BF_split_27 : decode b_BF_split 27 = .ok (.iload 4, 2) := by decide +kernel
theorem d_BF_split_29 : decode b_BF_split 29 = .ok (.invokestatic 75, 3) := by decide +kernel
theorem d_BF_split_32 : decode b_BF_split 32 = .ok (.ifCond .eq 11, 3) := by decide +kernel
theorem d_BF_split_35 : decode b_BF_split 35 = .ok (.iload 5, 2) := by decide +kernel
theorem d_BF_split_37 : decode b_BF_split 37 = .ok (.invokestatic 75, 3) := by decide +kernel
theorem d_BF_split_40 : decode b_BF_split 40 = .ok (.ifCond .ne 5, 3) := by decide +kernel
theorem d_BF_split_43 : decode b_BF_split 43 = .ok (.iconst (-1), 1) := by decide +kernel
theorem d_BF_split_44 : decode b_BF_split 44 = .ok (.ireturn, 1) := by decide +kernel
theorem d_BF_split_45 : decode b_BF_split 45 = .ok (.aload_n 0, 1) := by decide +kernel
theorem d_BF_split_46 : decode b_BF_split 46 = .ok (.getfield 16, 3) := by decide +kernel
theorem d_BF_split_49 : decode b_BF_split 49 = .ok (.iload_n 1, 1) := by decide +kernel
theorem d_BF_split_50 : decode b_BF_split 50 = .ok (.iload_n 2, 1) := by decide +kernel
theorem d_BF_split_51 : decode b_BF_split 51 = .ok (.iload_n 3, 1) := by decide +kernel
theorem d_BF_split_52 : decode b_BF_split 52 = .ok (.iload 4, 2) := by decide +kernel
theorem d_BF_split_54 : decode b_BF_split 54 = .ok (.iload 5, 2) := by decide +kernel
theorem d_BF_split_56 : decode b_BF_split 56 = .ok (.invokevirtual 61, 3) := by decide +kernel
theorem d_BF_split_59 : decode b_BF_split 59 = .ok (.ireturn, 1) := by decide +kernel
theorem d_BF_tree_0 : decode b_BF_tree 0 = .ok (.aload_n 0, 1) := by decide +kernel
theorem d_BF_tree_1 : decode b_BF_tree 1 = .ok (.getfield 16, 3) := by decide +kernel
theorem d_BF_tree_4 : decode b_BF_tree 4 = .ok (.iload_n 1, 1) := by decide +kernel
theorem d_BF_tree_5 : decode b_BF_tree 5 = .ok (.invokevirtual 78, 3) := by decide +kernel
theorem d_BF_tree_8 : decode b_BF_tree 8 = .ok (.ireturn, 1) := by decide +kernel
theorem d_BF_compile_0 : decode b_BF_compile 0 = .ok (.iload_n 1, 1) := by decide +kernel
theorem d_BF_compile_1 : decode b_BF_compile 1 = .ok (.bipush 20, 2) := by decide +kernel
theorem d_BF_compile_3 : decode b_BF_compile 3 = .ok (.if_icmp .lt 28, 3) := by decide +kernel
theorem d_BF_compile_6 : decode b_BF_compile 6 = .ok (.iload_n 1, 1) := by decide +kernel
theorem d_BF_compile_7 : decode b_BF_compile 7 = .ok (.sipush 400, 3) := by decide +kernel
theorem d_BF_compile_10 : decode b_BF_compile 10 = .ok (.if_icmp .gt 21, 3) := by decide +kernel
theorem d_BF_compile_13 : decode b_BF_compile 13 = .ok (.iload_n 2, 1) := by decide +kernel
theorem d_BF_compile_14 : decode b_BF_compile 14 = .ok (.iload_n 1, 1) := by decide +kernel
theorem d_BF_compile_15 : decode b_BF_compile 15 = .ok (.invokestatic 82, 3) := by decide +kernel
theorem d_BF_compile_18 : decode b_BF_compile 18 = .ok (.ifCond .eq 13, 3) := by decide +kernel
theorem d_BF_compile_21 : decode b_BF_compile 21 = .ok (.aload_n 0, 1) := by decide +kernel
theorem d_BF_compile_22 : decode b_BF_compile 22 = .ok (.getfield 16, 3) := by decide +kernel
theorem d_BF_compile_25 : decode b_BF_compile 25 = .ok (.getfield 85, 3) := by decide +kernel
theorem d_BF_compile_28 : decode b_BF_compile 28 = .ok (.ifCond .ne 5, 3) := by decide +kernel
theorem d_BF_compile_31 : decode b_BF_compile 31 = .ok (.iconst (-1), 1) := by decide +kernel
theorem d_BF_compile_32 : decode b_BF_compile 32 = .ok (.ireturn, 1) := by decide +kernel
theorem d_BF_compile_33 : decode b_BF_compile 33 = .ok (.aload_n 0, 1) := by decide +kernel
theorem d_BF_compile_34 : decode b_BF_compile 34 = .ok (.getfield 25, 3) := by decide +kernel
theorem d_BF_compile_37 : decode b_BF_compile 37 = .ok (.invokevirtual 89, 3) := by decide +kernel
theorem d_BF_compile_40 : decode b_BF_compile 40 = .ok (.istore_n 3, 1) := by decide +kernel
theorem d_BF_compile_41 : decode b_BF_compile 41 = .ok (.iload_n 3, 1) := by decide +kernel
theorem d_BF_compile_42 : decode b_BF_compile 42 = .ok (.ifCond .eq 6, 3) := by decide +kernel
theorem d_BF_compile_45 : decode b_BF_compile 45 = .ok (.iload_n 3, 1) := by decide +kernel
theorem d_BF_compile_46 : decode b_BF_compile 46 = .ok (.ineg, 1) := by decide +kernel
theorem d_BF_compile_47 : decode b_BF_compile 47 = .ok (.ireturn, 1) := by decide +kernel
theorem d_BF_compile_48 : decode b_BF_compile 48 = .ok (.aload_n 0, 1) := by decide +kernel
theorem d_BF_compile_49 : decode b_BF_compile 49 = .ok (.getfield 32, 3) := by decide +kernel
theorem d_BF_compile_52 : decode b_BF_compile 52 = .ok (.iload_n 1, 1) := by decide +kernel
theorem d_BF_compile_53 : decode b_BF_compile 53 = .ok (.invokevirtual 93, 3) := by decide +kernel
theorem d_BF_compile_56 : decode b_BF_compile 56 = .ok (.aload_n 0, 1) := by decide +kernel
theorem d_BF_compile_57 : decode b_BF_compile 57 = .ok (.getfield 48, 3) := by decide +kernel
theorem d_BF_compile_60 : decode b_BF_compile 60 = .ok (.iload_n 2, 1) := by decide +kernel
theorem d_BF_compile_61 : decode b_BF_compile 61 = .ok (.invokevirtual 97, 3) := by decide +kernel
theorem d_BF_compile_64 : decode b_BF_compile 64 = .ok (.aload_n 0, 1) := by decide +kernel
theorem d_BF_compile_65 : decode b_BF_compile 65 = .ok (.getfield 48, 3) := by decide +kernel
theorem d_BF_compile_68 : decode b_BF_compile 68 = .ok (.getfield 100, 3) := by decide +kernel
theorem d_BF_compile_71 : decode b_BF_compile 71 = .ok (.ireturn, 1) := by decide +kernel
theorem d_BF_methods_0 : decode b_BF_methods 0 = .ok (.aload_n 0, 1) := by decide +kernel
theorem d_BF_methods_1 : decode b_BF_methods 1 = .ok (.getfield 48, 3) := by decide +kernel
theorem d_BF_methods_4 : decode b_BF_methods 4 = .ok (.getfield 100, 3) := by decide +kernel
theorem d_BF_methods_7 : decode b_BF_methods 7 = .ok (.ireturn, 1) := by decide +kernel
theorem d_BF_length_0 : decode b_BF_length 0 = .ok (.aload_n 0, 1) := by decide +kernel
theorem d_BF_length_1 : decode b_BF_length 1 = .ok (.getfield 48, 3) := by decide +kernel
theorem d_BF_length_4 : decode b_BF_length 4 = .ok (.iload_n 1, 1) := by decide +kernel
theorem d_BF_length_5 : decode b_BF_length 5 = .ok (.invokevirtual 103, 3) := by decide +kernel
theorem d_BF_length_8 : decode b_BF_length 8 = .ok (.ifCond .eq 27, 3) := by decide +kernel
theorem d_BF_length_11 : decode b_BF_length 11 = .ok (.aload_n 0, 1) := by decide +kernel
theorem d_BF_length_12 : decode b_BF_length 12 = .ok (.getfield 48, 3) := by decide +kernel
theorem d_BF_length_15 : decode b_BF_length 15 = .ok (.getfield 106, 3) := by decide +kernel
theorem d_BF_length_18 : decode b_BF_length 18 = .ok (.iload_n 1, 1) := by decide +kernel
theorem d_BF_length_19 : decode b_BF_length 19 = .ok (.iconst 1, 1) := by decide +kernel
theorem d_BF_length_20 : decode b_BF_length 20 = .ok (.iadd, 1) := by decide +kernel
theorem d_BF_length_21 : decode b_BF_length 21 = .ok (.iaload, 1) := by decide +kernel
theorem d_BF_length_22 : decode b_BF_length 22 = .ok (.aload_n 0, 1) := by decide +kernel
theorem d_BF_length_23 : decode b_BF_length 23 = .ok (.getfield 48, 3) := by decide +kernel
theorem d_BF_length_26 : decode b_BF_length 26 = .ok (.getfield 106, 3) := by decide +kernel
theorem d_BF_length_29 : decode b_BF_length 29 = .ok (.iload_n 1, 1) := by decide +kernel
theorem d_BF_length_30 : decode b_BF_length 30 = .ok (.iaload, 1) := by decide +kernel
theorem d_BF_length_31 : decode b_BF_length 31 = .ok (.isub, 1) := by decide +kernel
theorem d_BF_length_32 : decode b_BF_length 32 = .ok (.goto 4, 3) := by decide +kernel
theorem d_BF_length_35 : decode b_BF_length 35 = .ok (.iconst (-1), 1) := by decide +kernel
theorem d_BF_length_36 : decode b_BF_length 36 = .ok (.ireturn, 1) := by decide +kernel
theorem d_BF_byteAt_0 : decode b_BF_byteAt 0 = .ok (.iload_n 2, 1) := by decide +kernel
theorem d_BF_byteAt_1 : decode b_BF_byteAt 1 = .ok (.ifCond .lt 34, 3) := by decide +kernel
theorem d_BF_byteAt_4 : decode b_BF_byteAt 4 = .ok (.iload_n 2, 1) := by decide +kernel
theorem d_BF_byteAt_5 : decode b_BF_byteAt 5 = .ok (.aload_n 0, 1) := by decide +kernel
theorem d_BF_byteAt_6 : decode b_BF_byteAt 6 = .ok (.iload_n 1, 1) := by decide +kernel
theorem d_BF_byteAt_7 : decode b_BF_byteAt 7 = .ok (.invokevirtual 109, 3) := by decide +kernel
theorem d_BF_byteAt_10 : decode b_BF_byteAt 10 = .ok (.if_icmp .ge 25, 3) := by decide +kernel
theorem d_BF_byteAt_13 : decode b_BF_byteAt 13 = .ok (.aload_n 0, 1) := by decide +kernel
theorem d_BF_byteAt_14 : decode b_BF_byteAt 14 = .ok (.getfield 48, 3) := by decide +kernel
theorem d_BF_byteAt_17 : decode b_BF_byteAt 17 = .ok (.getfield 112, 3) := by decide +kernel
theorem d_BF_byteAt_20 : decode b_BF_byteAt 20 = .ok (.aload_n 0, 1) := by decide +kernel
theorem d_BF_byteAt_21 : decode b_BF_byteAt 21 = .ok (.getfield 48, 3) := by decide +kernel
theorem d_BF_byteAt_24 : decode b_BF_byteAt 24 = .ok (.getfield 106, 3) := by decide +kernel
theorem d_BF_byteAt_27 : decode b_BF_byteAt 27 = .ok (.iload_n 1, 1) := by decide +kernel
theorem d_BF_byteAt_28 : decode b_BF_byteAt 28 = .ok (.iaload, 1) := by decide +kernel
theorem d_BF_byteAt_29 : decode b_BF_byteAt 29 = .ok (.iload_n 2, 1) := by decide +kernel
theorem d_BF_byteAt_30 : decode b_BF_byteAt 30 = .ok (.iadd, 1) := by decide +kernel
theorem d_BF_byteAt_31 : decode b_BF_byteAt 31 = .ok (.iaload, 1) := by decide +kernel
theorem d_BF_byteAt_32 : decode b_BF_byteAt 32 = .ok (.goto 4, 3) := by decide +kernel
theorem d_BF_byteAt_35 : decode b_BF_byteAt 35 = .ok (.iconst (-1), 1) := by decide +kernel
theorem d_BF_byteAt_36 : decode b_BF_byteAt 36 = .ok (.ireturn, 1) := by decide +kernel
theorem d_BF_classOf_0 : decode b_BF_classOf 0 = .ok (.aload_n 0, 1) := by decide +kernel
theorem d_BF_classOf_1 : decode b_BF_classOf 1 = .ok (.getfield 48, 3) := by decide +kernel
theorem d_BF_classOf_4 : decode b_BF_classOf 4 = .ok (.iload_n 1, 1) := by decide +kernel
theorem d_BF_classOf_5 : decode b_BF_classOf 5 = .ok (.invokevirtual 103, 3) := by decide +kernel
theorem d_BF_classOf_8 : decode b_BF_classOf 8 = .ok (.ifCond .eq 15, 3) := by decide +kernel
theorem d_BF_classOf_11 : decode b_BF_classOf 11 = .ok (.aload_n 0, 1) := by decide +kernel
theorem d_BF_classOf_12 : decode b_BF_classOf 12 = .ok (.getfield 48, 3) := by decide +kernel
theorem d_BF_classOf_15 : decode b_BF_classOf 15 = .ok (.getfield 115, 3) := by decide +kernel
theorem d_BF_classOf_18 : decode b_BF_classOf 18 = .ok (.iload_n 1, 1) := by decide +kernel
theorem d_BF_classOf_19 : decode b_BF_classOf 19 = .ok (.iaload, 1) := by decide +kernel
theorem d_BF_classOf_20 : decode b_BF_classOf 20 = .ok (.goto 4, 3) := by decide +kernel
theorem d_BF_classOf_23 : decode b_BF_classOf 23 = .ok (.iconst (-1), 1) := by decide +kernel
theorem d_BF_classOf_24 : decode b_BF_classOf 24 = .ok (.ireturn, 1) := by decide +kernel
theorem d_BF_classes_0 : decode b_BF_classes 0 = .ok (.aload_n 0, 1) := by decide +kernel
theorem d_BF_classes_1 : decode b_BF_classes 1 = .ok (.getfield 39, 3) := by decide +kernel
theorem d_BF_classes_4 : decode b_BF_classes 4 = .ok (.getfield 118, 3) := by decide +kernel
theorem d_BF_classes_7 : decode b_BF_classes 7 = .ok (.ireturn, 1) := by decide +kernel
theorem d_BF_entries_0 : decode b_BF_entries 0 = .ok (.aload_n 0, 1) := by decide +kernel
theorem d_BF_entries_1 : decode b_BF_entries 1 = .ok (.getfield 39, 3) := by decide +kernel
theorem d_BF_entries_4 : decode b_BF_entries 4 = .ok (.iload_n 1, 1) := by decide +kernel
theorem d_BF_entries_5 : decode b_BF_entries 5 = .ok (.invokevirtual 121, 3) := by decide +kernel
theorem d_BF_entries_8 : decode b_BF_entries 8 = .ok (.ifCond .eq 14, 3) := by decide +kernel
theorem d_BF_entries_11 : decode b_BF_entries 11 = .ok (.aload_n 0, 1) := by decide +kernel
theorem d_BF_entries_12 : decode b_BF_entries 12 = .ok (.getfield 39, 3) := by decide +kernel
theorem d_BF_entries_15 : decode b_BF_entries 15 = .ok (.iload_n 1, 1) := by decide +kernel
theorem d_BF_entries_16 : decode b_BF_entries 16 = .ok (.invokevirtual 124, 3) := by decide +kernel
theorem d_BF_entries_19 : decode b_BF_entries 19 = .ok (.goto 4, 3) := by decide +kernel
theorem d_BF_entries_22 : decode b_BF_entries 22 = .ok (.iconst (-1), 1) := by decide +kernel
theorem d_BF_entries_23 : decode b_BF_entries 23 = .ok (.ireturn, 1) := by decide +kernel
theorem d_BF_entry_0 : decode b_BF_entry 0 = .ok (.aload_n 0, 1) := by decide +kernel
theorem d_BF_entry_1 : decode b_BF_entry 1 = .ok (.getfield 39, 3) := by decide +kernel
theorem d_BF_entry_4 : decode b_BF_entry 4 = .ok (.iload_n 1, 1) := by decide +kernel
theorem d_BF_entry_5 : decode b_BF_entry 5 = .ok (.iload_n 2, 1) := by decide +kernel
theorem d_BF_entry_6 : decode b_BF_entry 6 = .ok (.invokevirtual 127, 3) := by decide +kernel
theorem d_BF_entry_9 : decode b_BF_entry 9 = .ok (.ifCond .ne 7, 3) := by decide +kernel
theorem d_BF_entry_12 : decode b_BF_entry 12 = .ok (.ldc2_w 130, 3) := by decide +kernel
theorem d_BF_entry_15 : decode b_BF_entry 15 = .ok (.lreturn, 1) := by decide +kernel
theorem d_BF_entry_16 : decode b_BF_entry 16 = .ok (.aload_n 0, 1) := by decide +kernel
theorem d_BF_entry_17 : decode b_BF_entry 17 = .ok (.getfield 39, 3) := by decide +kernel
theorem d_BF_entry_20 : decode b_BF_entry 20 = .ok (.getfield 132, 3) := by decide +kernel
theorem d_BF_entry_23 : decode b_BF_entry 23 = .ok (.iload_n 1, 1) := by decide +kernel
theorem d_BF_entry_24 : decode b_BF_entry 24 = .ok (.iaload, 1) := by decide +kernel
theorem d_BF_entry_25 : decode b_BF_entry 25 = .ok (.iload_n 2, 1) := by decide +kernel
theorem d_BF_entry_26 : decode b_BF_entry 26 = .ok (.iadd, 1) := by decide +kernel
theorem d_BF_entry_27 : decode b_BF_entry 27 = .ok (.istore_n 3, 1) := by decide +kernel
theorem d_BF_entry_28 : decode b_BF_entry 28 = .ok (.aload_n 0, 1) := by decide +kernel
theorem d_BF_entry_29 : decode b_BF_entry 29 = .ok (.getfield 39, 3) := by decide +kernel
theorem d_BF_entry_32 : decode b_BF_entry 32 = .ok (.getfield 133, 3) := by decide +kernel
theorem d_BF_entry_35 : decode b_BF_entry 35 = .ok (.iload_n 3, 1) := by decide +kernel
theorem d_BF_entry_36 : decode b_BF_entry 36 = .ok (.iaload, 1) := by decide +kernel
theorem d_BF_entry_37 : decode b_BF_entry 37 = .ok (.i2l, 1) := by decide +kernel
theorem d_BF_entry_38 : decode b_BF_entry 38 = .ok (.bipush 32, 2) := by decide +kernel
theorem d_BF_entry_40 : decode b_BF_entry 40 = .ok (.lshl, 1) := by decide +kernel
theorem d_BF_entry_41 : decode b_BF_entry 41 = .ok (.aload_n 0, 1) := by decide +kernel
theorem d_BF_entry_42 : decode b_BF_entry 42 = .ok (.getfield 39, 3) := by decide +kernel
theorem d_BF_entry_45 : decode b_BF_entry 45 = .ok (.getfield 136, 3) := by decide +kernel
theorem d_BF_entry_48 : decode b_BF_entry 48 = .ok (.iload_n 3, 1) := by decide +kernel
theorem d_BF_entry_49 : decode b_BF_entry 49 = .ok (.iaload, 1) := by decide +kernel
theorem d_BF_entry_50 : decode b_BF_entry 50 = .ok (.i2l, 1) := by decide +kernel
theorem d_BF_entry_51 : decode b_BF_entry 51 = .ok (.ldc2_w 139, 3) := by decide +kernel
theorem d_BF_entry_54 : decode b_BF_entry 54 = .ok (.land, 1) := by decide +kernel
theorem d_BF_entry_55 : decode b_BF_entry 55 = .ok (.ladd, 1) := by decide +kernel
theorem d_BF_entry_56 : decode b_BF_entry 56 = .ok (.lreturn, 1) := by decide +kernel
theorem d_BF_set_0 : decode b_BF_set 0 = .ok (.iload_n 1, 1) := by decide +kernel
theorem d_BF_set_1 : decode b_BF_set 1 = .ok (.invokestatic 65, 3) := by decide +kernel
theorem d_BF_set_4 : decode b_BF_set 4 = .ok (.ifCond .ne 5, 3) := by decide +kernel
theorem d_BF_set_7 : decode b_BF_set 7 = .ok (.iconst 0, 1) := by decide +kernel
theorem d_BF_set_8 : decode b_BF_set 8 = .ok (.ireturn, 1) := by decide +kernel
theorem d_BF_set_9 : decode b_BF_set 9 = .ok (.aload_n 0, 1) := by decide +kernel
theorem d_BF_set_10 : decode b_BF_set 10 = .ok (.getfield 9, 3) := by decide +kernel
theorem d_BF_set_13 : decode b_BF_set 13 = .ok (.iload_n 1, 1) := by decide +kernel
theorem d_BF_set_14 : decode b_BF_set 14 = .ok (.iload_n 2, 1) := by decide +kernel
theorem d_BF_set_15 : decode b_BF_set 15 = .ok (.iastore, 1) := by decide +kernel
theorem d_BF_set_16 : decode b_BF_set 16 = .ok (.iconst 1, 1) := by decide +kernel
theorem d_BF_set_17 : decode b_BF_set 17 = .ok (.ireturn, 1) := by decide +kernel
theorem d_BF_predict_0 : decode b_BF_predict 0 = .ok (.aload_n 0, 1) := by decide +kernel
theorem d_BF_predict_1 : decode b_BF_predict 1 = .ok (.getfield 57, 3) := by decide +kernel
theorem d_BF_predict_4 : decode b_BF_predict 4 = .ok (.invokevirtual 141, 3) := by decide +kernel
theorem d_BF_predict_7 : decode b_BF_predict 7 = .ok (.lreturn, 1) := by decide +kernel
theorem d_BF_steps_0 : decode b_BF_steps 0 = .ok (.aload_n 0, 1) := by decide +kernel
theorem d_BF_steps_1 : decode b_BF_steps 1 = .ok (.getfield 57, 3) := by decide +kernel
theorem d_BF_steps_4 : decode b_BF_steps 4 = .ok (.getfield 145, 3) := by decide +kernel
theorem d_BF_steps_7 : decode b_BF_steps 7 = .ok (.ireturn, 1) := by decide +kernel
theorem d_BF_calls_0 : decode b_BF_calls 0 = .ok (.aload_n 0, 1) := by decide +kernel
theorem d_BF_calls_1 : decode b_BF_calls 1 = .ok (.getfield 57, 3) := by decide +kernel
theorem d_BF_calls_4 : decode b_BF_calls 4 = .ok (.getfield 148, 3) := by decide +kernel
theorem d_BF_calls_7 : decode b_BF_calls 7 = .ok (.ireturn, 1) := by decide +kernel
theorem d_BF_reach_0 : decode b_BF_reach 0 = .ok (.iload_n 1, 1) := by decide +kernel
theorem d_BF_reach_1 : decode b_BF_reach 1 = .ok (.ifCond .lt 37, 3) := by decide +kernel
theorem d_BF_reach_4 : decode b_BF_reach 4 = .ok (.iload_n 1, 1) := by decide +kernel
theorem d_BF_reach_5 : decode b_BF_reach 5 = .ok (.aload_n 0, 1) := by decide +kernel
theorem d_BF_reach_6 : decode b_BF_reach 6 = .ok (.getfield 48, 3) := by decide +kernel
theorem d_BF_reach_9 : decode b_BF_reach 9 = .ok (.getfield 151, 3) := by decide +kernel
theorem d_BF_reach_12 : decode b_BF_reach 12 = .ok (.if_icmp .ge 26, 3) := by decide +kernel
theorem d_BF_reach_15 : decode b_BF_reach 15 = .ok (.aload_n 0, 1) := by decide +kernel
theorem d_BF_reach_16 : decode b_BF_reach 16 = .ok (.getfield 16, 3) := by decide +kernel
theorem d_BF_reach_19 : decode b_BF_reach 19 = .ok (.aload_n 0, 1) := by decide +kernel
theorem d_BF_reach_20 : decode b_BF_reach 20 = .ok (.getfield 16, 3) := by decide +kernel
theorem d_BF_reach_23 : decode b_BF_reach 23 = .ok (.getfield 152, 3) := by decide +kernel
theorem d_BF_reach_26 : decode b_BF_reach 26 = .ok (.iload_n 1, 1) := by decide +kernel
theorem d_BF_reach_27 : decode b_BF_reach 27 = .ok (.iaload, 1) := by decide +kernel
theorem d_BF_reach_28 : decode b_BF_reach 28 = .ok (.aload_n 0, 1) := by decide +kernel
theorem d_BF_reach_29 : decode b_BF_reach 29 = .ok (.getfield 9, 3) := by decide +kernel
theorem d_BF_reach_32 : decode b_BF_reach 32 = .ok (.invokevirtual 155, 3) := by decide +kernel
theorem d_BF_reach_35 : decode b_BF_reach 35 = .ok (.goto 4, 3) := by decide +kernel
theorem d_BF_reach_38 : decode b_BF_reach 38 = .ok (.iconst (-1), 1) := by decide +kernel
theorem d_BF_reach_39 : decode b_BF_reach 39 = .ok (.ireturn, 1) := by decide +kernel
theorem d_BF_isFeature_0 : decode b_BF_isFeature 0 = .ok (.iload_n 0, 1) := by decide +kernel
theorem d_BF_isFeature_1 : decode b_BF_isFeature 1 = .ok (.ifCond .lt 13, 3) := by decide +kernel
theorem d_BF_isFeature_4 : decode b_BF_isFeature 4 = .ok (.iload_n 0, 1) := by decide +kernel
theorem d_BF_isFeature_5 : decode b_BF_isFeature 5 = .ok (.bipush 8, 2) := by decide +kernel
theorem d_BF_isFeature_7 : decode b_BF_isFeature 7 = .ok (.if_icmp .ge 7, 3) := by decide +kernel
theorem d_BF_isFeature_10 : decode b_BF_isFeature 10 = .ok (.iconst 1, 1) := by decide +kernel
theorem d_BF_isFeature_11 : decode b_BF_isFeature 11 = .ok (.goto 4, 3) := by decide +kernel
theorem d_BF_isFeature_14 : decode b_BF_isFeature 14 = .ok (.iconst 0, 1) := by decide +kernel
theorem d_BF_isFeature_15 : decode b_BF_isFeature 15 = .ok (.ireturn, 1) := by decide +kernel
theorem d_BF_isNodeNumber_0 : decode b_BF_isNodeNumber 0 = .ok (.iload_n 0, 1) := by decide +kernel
theorem d_BF_isNodeNumber_1 : decode b_BF_isNodeNumber 1 = .ok (.ifCond .lt 13, 3) := by decide +kernel
theorem d_BF_isNodeNumber_4 : decode b_BF_isNodeNumber 4 = .ok (.iload_n 0, 1) := by decide +kernel
theorem d_BF_isNodeNumber_5 : decode b_BF_isNodeNumber 5 = .ok (.bipush 60, 2) := by decide +kernel
theorem d_BF_isNodeNumber_7 : decode b_BF_isNodeNumber 7 = .ok (.if_icmp .ge 7, 3) := by decide +kernel
theorem d_BF_isNodeNumber_10 : decode b_BF_isNodeNumber 10 = .ok (.iconst 1, 1) := by decide +kernel
theorem d_BF_isNodeNumber_11 : decode b_BF_isNodeNumber 11 = .ok (.goto 4, 3) := by decide +kernel
theorem d_BF_isNodeNumber_14 : decode b_BF_isNodeNumber 14 = .ok (.iconst 0, 1) := by decide +kernel
theorem d_BF_isNodeNumber_15 : decode b_BF_isNodeNumber 15 = .ok (.ireturn, 1) := by decide +kernel
theorem d_BF_isTableSize_0 : decode b_BF_isTableSize 0 = .ok (.iload_n 0, 1) := by decide +kernel
theorem d_BF_isTableSize_1 : decode b_BF_isTableSize 1 = .ok (.bipush 60, 2) := by decide +kernel
theorem d_BF_isTableSize_3 : decode b_BF_isTableSize 3 = .ok (.if_icmp .eq 16, 3) := by decide +kernel
theorem d_BF_isTableSize_6 : decode b_BF_isTableSize 6 = .ok (.iload_n 0, 1) := by decide +kernel
theorem d_BF_isTableSize_7 : decode b_BF_isTableSize 7 = .ok (.bipush 60, 2) := by decide +kernel
theorem d_BF_isTableSize_9 : decode b_BF_isTableSize 9 = .ok (.if_icmp .ge 14, 3) := by decide +kernel
theorem d_BF_isTableSize_12 : decode b_BF_isTableSize 12 = .ok (.iload_n 0, 1) := by decide +kernel
theorem d_BF_isTableSize_13 : decode b_BF_isTableSize 13 = .ok (.iload_n 1, 1) := by decide +kernel
theorem d_BF_isTableSize_14 : decode b_BF_isTableSize 14 = .ok (.iconst 4, 1) := by decide +kernel
theorem d_BF_isTableSize_15 : decode b_BF_isTableSize 15 = .ok (.idiv, 1) := by decide +kernel
theorem d_BF_isTableSize_16 : decode b_BF_isTableSize 16 = .ok (.if_icmp .lt 7, 3) := by decide +kernel
theorem d_BF_isTableSize_19 : decode b_BF_isTableSize 19 = .ok (.iconst 1, 1) := by decide +kernel
theorem d_BF_isTableSize_20 : decode b_BF_isTableSize 20 = .ok (.goto 4, 3) := by decide +kernel
theorem d_BF_isTableSize_23 : decode b_BF_isTableSize 23 = .ok (.iconst 0, 1) := by decide +kernel
theorem d_BF_isTableSize_24 : decode b_BF_isTableSize 24 = .ok (.ireturn, 1) := by decide +kernel
theorem d_Fo_addNode_0 : decode b_Fo_addNode 0 = .ok (.aload_n 0, 1) := by decide +kernel
theorem d_Fo_addNode_1 : decode b_Fo_addNode 1 = .ok (.getfield 30, 3) := by decide +kernel
theorem d_Fo_addNode_4 : decode b_Fo_addNode 4 = .ok (.bipush 60, 2) := by decide +kernel
theorem d_Fo_addNode_6 : decode b_Fo_addNode 6 = .ok (.if_icmp .lt 5, 3) := by decide +kernel
theorem d_Fo_addNode_9 : decode b_Fo_addNode 9 = .ok (.iconst (-1), 1) := by decide +kernel
theorem d_Fo_addNode_10 : decode b_Fo_addNode 10 = .ok (.ireturn, 1) := by decide +kernel
theorem d_Fo_addNode_11 : decode b_Fo_addNode 11 = .ok (.aload_n 0, 1) := by decide +kernel
theorem d_Fo_addNode_12 : decode b_Fo_addNode 12 = .ok (.getfield 9, 3) := by decide +kernel
theorem d_Fo_addNode_15 : decode b_Fo_addNode 15 = .ok (.aload_n 0, 1) := by decide +kernel
theorem d_Fo_addNode_16 : decode b_Fo_addNode 16 = .ok (.getfield 30, 3) := by decide +kernel
theorem d_Fo_addNode_19 : decode b_Fo_addNode 19 = .ok (.iload_n 1, 1) := by decide +kernel
theorem d_Fo_addNode_20 : decode b_Fo_addNode 20 = .ok (.iastore, 1) := by decide +kernel
theorem d_Fo_addNode_21 : decode b_Fo_addNode 21 = .ok (.aload_n 0, 1) := by decide +kernel
theorem d_Fo_addNode_22 : decode b_Fo_addNode 22 = .ok (.getfield 15, 3) := by decide +kernel
theorem d_Fo_addNode_25 : decode b_Fo_addNode 25 = .ok (.aload_n 0, 1) := by decide +kernel
theorem d_Fo_addNode_26 : decode b_Fo_addNode 26 = .ok (.getfield 30, 3) := by decide +kernel
theorem d_Fo_addNode_29 : decode b_Fo_addNode 29 = .ok (.iload_n 2, 1) := by decide +kernel
theorem d_Fo_addNode_30 : decode b_Fo_addNode 30 = .ok (.iastore, 1) := by decide +kernel
theorem d_Fo_addNode_31 : decode b_Fo_addNode 31 = .ok (.aload_n 0, 1) := by decide +kernel
theorem d_Fo_addNode_32 : decode b_Fo_addNode 32 = .ok (.getfield 18, 3) := by decide +kernel
theorem d_Fo_addNode_35 : decode b_Fo_addNode 35 = .ok (.aload_n 0, 1) := by decide +kernel
theorem d_Fo_addNode_36 : decode b_Fo_addNode 36 = .ok (.getfield 30, 3) := by decide +kernel
theorem d_Fo_addNode_39 : decode b_Fo_addNode 39 = .ok (.iload_n 3, 1) := by decide +kernel
theorem d_Fo_addNode_40 : decode b_Fo_addNode 40 = .ok (.iastore, 1) := by decide +kernel
theorem d_Fo_addNode_41 : decode b_Fo_addNode 41 = .ok (.aload_n 0, 1) := by decide +kernel
theorem d_Fo_addNode_42 : decode b_Fo_addNode 42 = .ok (.getfield 21, 3) := by decide +kernel
theorem d_Fo_addNode_45 : decode b_Fo_addNode 45 = .ok (.aload_n 0, 1) := by decide +kernel
theorem d_Fo_addNode_46 : decode b_Fo_addNode 46 = .ok (.getfield 30, 3) := by decide +kernel
theorem d_Fo_addNode_49 : decode b_Fo_addNode 49 = .ok (.iload 4, 2) := by decide +kernel
theorem d_Fo_addNode_51 : decode b_Fo_addNode 51 = .ok (.iastore, 1) := by decide +kernel
theorem d_Fo_addNode_52 : decode b_Fo_addNode 52 = .ok (.aload_n 0, 1) := by decide +kernel
theorem d_Fo_addNode_53 : decode b_Fo_addNode 53 = .ok (.getfield 24, 3) := by decide +kernel
theorem d_Fo_addNode_56 : decode b_Fo_addNode 56 = .ok (.aload_n 0, 1) := by decide +kernel
theorem d_Fo_addNode_57 : decode b_Fo_addNode 57 = .ok (.getfield 30, 3) := by decide +kernel
theorem d_Fo_addNode_60 : decode b_Fo_addNode 60 = .ok (.iload 5, 2) := by decide +kernel
theorem d_Fo_addNode_62 : decode b_Fo_addNode 62 = .ok (.iastore, 1) := by decide +kernel
theorem d_Fo_addNode_63 : decode b_Fo_addNode 63 = .ok (.aload_n 0, 1) := by decide +kernel
theorem d_Fo_addNode_64 : decode b_Fo_addNode 64 = .ok (.dup, 1) := by decide +kernel
theorem d_Fo_addNode_65 : decode b_Fo_addNode 65 = .ok (.getfield 30, 3) := by decide +kernel
theorem d_Fo_addNode_68 : decode b_Fo_addNode 68 = .ok (.iconst 1, 1) := by decide +kernel
theorem d_Fo_addNode_69 : decode b_Fo_addNode 69 = .ok (.iadd, 1) := by decide +kernel
theorem d_Fo_addNode_70 : decode b_Fo_addNode 70 = .ok (.putfield 30, 3) := by decide +kernel
theorem d_Fo_addNode_73 : decode b_Fo_addNode 73 = .ok (.aload_n 0, 1) := by decide +kernel
theorem d_Fo_addNode_74 : decode b_Fo_addNode 74 = .ok (.getfield 30, 3) := by decide +kernel
theorem d_Fo_addNode_77 : decode b_Fo_addNode 77 = .ok (.iconst 1, 1) := by decide +kernel
theorem d_Fo_addNode_78 : decode b_Fo_addNode 78 = .ok (.isub, 1) := by decide +kernel
theorem d_Fo_addNode_79 : decode b_Fo_addNode 79 = .ok (.ireturn, 1) := by decide +kernel
theorem d_Fo_addTree_0 : decode b_Fo_addTree 0 = .ok (.aload_n 0, 1) := by decide +kernel
theorem d_Fo_addTree_1 : decode b_Fo_addTree 1 = .ok (.getfield 34, 3) := by decide +kernel
theorem d_Fo_addTree_4 : decode b_Fo_addTree 4 = .ok (.bipush 8, 2) := by decide +kernel
theorem d_Fo_addTree_6 : decode b_Fo_addTree 6 = .ok (.if_icmp .ge 11, 3) := by decide +kernel
theorem d_Fo_addTree_9 : decode b_Fo_addTree 9 = .ok (.aload_n 0, 1) := by decide +kernel
theorem d_Fo_addTree_10 : decode b_Fo_addTree 10 = .ok (.iload_n 1, 1) := by decide +kernel
theorem d_Fo_addTree_11 : decode b_Fo_addTree 11 = .ok (.invokevirtual 37, 3) := by decide +kernel
theorem d_Fo_addTree_14 : decode b_Fo_addTree 14 = .ok (.ifCond .ne 5, 3) := by decide +kernel
theorem d_Fo_addTree_17 : decode b_Fo_addTree 17 = .ok (.iconst (-1), 1) := by decide +kernel
theorem d_Fo_addTree_18 : decode b_Fo_addTree 18 = .ok (.ireturn, 1) := by decide +kernel
theorem d_Fo_addTree_19 : decode b_Fo_addTree 19 = .ok (.aload_n 0, 1) := by decide +kernel
theorem d_Fo_addTree_20 : decode b_Fo_addTree 20 = .ok (.getfield 27, 3) := by decide +kernel
theorem d_Fo_addTree_23 : decode b_Fo_addTree 23 = .ok (.aload_n 0, 1) := by decide +kernel
theorem d_Fo_addTree_24 : decode b_Fo_addTree 24 = .ok (.getfield 34, 3) := by decide +kernel
theorem d_Fo_addTree_27 : decode b_Fo_addTree 27 = .ok (.iload_n 1, 1) := by decide +kernel
theorem d_Fo_addTree_28 : decode b_Fo_addTree 28 = .ok (.iastore, 1) := by decide +kernel
theorem d_Fo_addTree_29 : decode b_Fo_addTree 29 = .ok (.aload_n 0, 1) := by decide +kernel
theorem d_Fo_addTree_30 : decode b_Fo_addTree 30 = .ok (.dup, 1) := by decide +kernel
theorem d_Fo_addTree_31 : decode b_Fo_addTree 31 = .ok (.getfield 34, 3) := by decide +kernel
theorem d_Fo_addTree_34 : decode b_Fo_addTree 34 = .ok (.iconst 1, 1) := by decide +kernel
theorem d_Fo_addTree_35 : decode b_Fo_addTree 35 = .ok (.iadd, 1) := by decide +kernel
theorem d_Fo_addTree_36 : decode b_Fo_addTree 36 = .ok (.putfield 34, 3) := by decide +kernel
theorem d_Fo_addTree_39 : decode b_Fo_addTree 39 = .ok (.aload_n 0, 1) := by decide +kernel
theorem d_Fo_addTree_40 : decode b_Fo_addTree 40 = .ok (.getfield 34, 3) := by decide +kernel
theorem d_Fo_addTree_43 : decode b_Fo_addTree 43 = .ok (.iconst 1, 1) := by decide +kernel
theorem d_Fo_addTree_44 : decode b_Fo_addTree 44 = .ok (.isub, 1) := by decide +kernel
theorem d_Fo_addTree_45 : decode b_Fo_addTree 45 = .ok (.ireturn, 1) := by decide +kernel
theorem d_Fo_isNode_0 : decode b_Fo_isNode 0 = .ok (.iload_n 1, 1) := by decide +kernel
theorem d_Fo_isNode_1 : decode b_Fo_isNode 1 = .ok (.ifCond .lt 15, 3) := by decide +kernel
theorem d_Fo_isNode_4 : decode b_Fo_isNode 4 = .ok (.iload_n 1, 1) := by decide +kernel
theorem d_Fo_isNode_5 : decode b_Fo_isNode 5 = .ok (.aload_n 0, 1) := by decide +kernel
theorem d_Fo_isNode_6 : decode b_Fo_isNode 6 = .ok (.getfield 30, 3) := by decide +kernel
theorem d_Fo_isNode_9 : decode b_Fo_isNode 9 = .ok (.if_icmp .ge 7, 3) := by decide +kernel
theorem d_Fo_isNode_12 : decode b_Fo_isNode 12 = .ok (.iconst 1, 1) := by decide +kernel
theorem d_Fo_isNode_13 : decode b_Fo_isNode 13 = .ok (.goto 4, 3) := by decide +kernel
theorem d_Fo_isNode_16 : decode b_Fo_isNode 16 = .ok (.iconst 0, 1) := by decide +kernel
theorem d_Fo_isNode_17 : decode b_Fo_isNode 17 = .ok (.ireturn, 1) := by decide +kernel
theorem d_Fo_isLeaf_0 : decode b_Fo_isLeaf 0 = .ok (.aload_n 0, 1) := by decide +kernel
theorem d_Fo_isLeaf_1 : decode b_Fo_isLeaf 1 = .ok (.getfield 9, 3) := by decide +kernel
theorem d_Fo_isLeaf_4 : decode b_Fo_isLeaf 4 = .ok (.iload_n 1, 1) := by decide +kernel
theorem d_Fo_isLeaf_5 : decode b_Fo_isLeaf 5 = .ok (.iaload, 1) := by decide +kernel
theorem d_Fo_isLeaf_6 : decode b_Fo_isLeaf 6 = .ok (.iconst (-1), 1) := by decide +kernel
theorem d_Fo_isLeaf_7 : decode b_Fo_isLeaf 7 = .ok (.if_icmp .ne 7, 3) := by decide +kernel
theorem d_Fo_isLeaf_10 : decode b_Fo_isLeaf 10 = .ok (.iconst 1, 1) := by decide +kernel
theorem d_Fo_isLeaf_11 : decode b_Fo_isLeaf 11 = .ok (.goto 4, 3) := by decide +kernel
theorem d_Fo_isLeaf_14 : decode b_Fo_isLeaf 14 = .ok (.iconst 0, 1) := by decide +kernel
theorem d_Fo_isLeaf_15 : decode b_Fo_isLeaf 15 = .ok (.ireturn, 1) := by decide +kernel
theorem d_Fo_kindOfEntry_0 : decode b_Fo_kindOfEntry 0 = .ok (.aload_n 0, 1) := by decide +kernel
theorem d_Fo_kindOfEntry_1 : decode b_Fo_kindOfEntry 1 = .ok (.iload_n 1, 1) := by decide +kernel
theorem d_Fo_kindOfEntry_2 : decode b_Fo_kindOfEntry 2 = .ok (.invokevirtual 41, 3) := by decide +kernel
theorem d_Fo_kindOfEntry_5 : decode b_Fo_kindOfEntry 5 = .ok (.ifCond .eq 5, 3) := by decide +kernel
theorem d_Fo_kindOfEntry_8 : decode b_Fo_kindOfEntry 8 = .ok (.iconst 2, 1) := by decide +kernel
theorem d_Fo_kindOfEntry_9 : decode b_Fo_kindOfEntry 9 = .ok (.ireturn, 1) := by decide +kernel
theorem d_Fo_kindOfEntry_10 : decode b_Fo_kindOfEntry 10 = .ok (.aload_n 0, 1) := by decide +kernel
theorem d_Fo_kindOfEntry_11 : decode b_Fo_kindOfEntry 11 = .ok (.getfield 9, 3) := by decide +kernel
theorem d_Fo_kindOfEntry_14 : decode b_Fo_kindOfEntry 14 = .ok (.iload_n 1, 1) := by decide +kernel
theorem d_Fo_kindOfEntry_15 : decode b_Fo_kindOfEntry 15 = .ok (.iaload, 1) := by decide +kernel
theorem d_Fo_kindOfEntry_16 : decode b_Fo_kindOfEntry 16 = .ok (.invokestatic 44, 3) := by decide +kernel
theorem d_Fo_kindOfEntry_19 : decode b_Fo_kindOfEntry 19 = .ok (.ifCond .eq 7, 3) := by decide +kernel
theorem d_Fo_kindOfEntry_22 : decode b_Fo_kindOfEntry 22 = .ok (.iconst 3, 1) := by decide +kernel
theorem d_Fo_kindOfEntry_23 : decode b_Fo_kindOfEntry 23 = .ok (.goto 4, 3) := by decide +kernel
theorem d_Fo_kindOfEntry_26 : decode b_Fo_kindOfEntry 26 = .ok (.iconst 1, 1) := by decide +kernel
theorem d_Fo_kindOfEntry_27 : decode b_Fo_kindOfEntry 27 = .ok (.ireturn, 1) := by decide +kernel
theorem d_Fo_leafFor_0 : decode b_Fo_leafFor 0 = .ok (.iload_n 1, 1) := by decide +kernel
theorem d_Fo_leafFor_1 : decode b_Fo_leafFor 1 = .ok (.istore_n 3, 1) := by decide +kernel
theorem d_Fo_leafFor_2 : decode b_Fo_leafFor 2 = .ok (.iconst 0, 1) := by decide +kernel
theorem d_Fo_leafFor_3 : decode b_Fo_leafFor 3 = .ok (.istore 4, 2) := by decide +kernel
theorem d_Fo_leafFor_5 : decode b_Fo_leafFor 5 = .ok (.iload 4, 2) := by decide +kernel
theorem d_Fo_leafFor_7 : decode b_Fo_leafFor 7 = .ok (.bipush 12, 2) := by decide +kernel
theorem d_Fo_leafFor_9 : decode b_Fo_leafFor 9 = .ok (.if_icmp .gt 63, 3) := by decide +kernel
theorem d_Fo_leafFor_12 : decode b_Fo_leafFor 12 = .ok (.aload_n 0, 1) := by decide +kernel
theorem d_Fo_leafFor_13 : decode b_Fo_leafFor 13 = .ok (.iload_n 3, 1) := by decide +kernel
theorem d_Fo_leafFor_14 : decode b_Fo_leafFor 14 = .ok (.invokevirtual 41, 3) := by decide +kernel
theorem d_Fo_leafFor_17 : decode b_Fo_leafFor 17 = .ok (.ifCond .ne 55, 3) := by decide +kernel
theorem d_Fo_leafFor_20 : decode b_Fo_leafFor 20 = .ok (.aload_n 0, 1) := by decide +kernel
theorem d_Fo_leafFor_21 : decode b_Fo_leafFor 21 = .ok (.getfield 9, 3) := by decide +kernel
theorem d_Fo_leafFor_24 : decode b_Fo_leafFor 24 = .ok (.iload_n 3, 1) := by decide +kernel
theorem d_Fo_leafFor_25 : decode b_Fo_leafFor 25 = .ok (.iaload, 1) := by decide +kernel
theorem d_Fo_leafFor_26 : decode b_Fo_leafFor 26 = .ok (.aload_n 2, 1) := by decide +kernel
theorem d_Fo_leafFor_27 : decode b_Fo_leafFor 27 = .ok (.aload_n 0, 1) := by decide +kernel
theorem d_Fo_leafFor_28 : decode b_Fo_leafFor 28 = .ok (.getfield 15, 3) := by decide +kernel
theorem d_Fo_leafFor_31 : decode b_Fo_leafFor 31 = .ok (.iload_n 3, 1) := by decide +kernel
theorem d_Fo_leafFor_32 : decode b_Fo_leafFor 32 = .ok (.iaload, 1) := by decide +kernel
theorem d_Fo_leafFor_33 : decode b_Fo_leafFor 33 = .ok (.iaload, 1) := by decide +kernel
theorem d_Fo_leafFor_34 : decode b_Fo_leafFor 34 = .ok (.aload_n 0, 1) := by decide +kernel
theorem d_Fo_leafFor_35 : decode b_Fo_leafFor 35 = .ok (.getfield 18, 3) := by decide +kernel
theorem d_Fo_leafFor_38 : decode b_Fo_leafFor 38 = .ok (.iload_n 3, 1) := by decide +kernel
theorem d_Fo_leafFor_39 : decode b_Fo_leafFor 39 = .ok (.iaload, 1) := by decide +kernel
theorem d_Fo_leafFor_40 : decode b_Fo_leafFor 40 = .ok (.invokestatic 49, 3) := by decide +kernel
theorem d_Fo_leafFor_43 : decode b_Fo_leafFor 43 = .ok (.istore 5, 2) := by decide +kernel
theorem d_Fo_leafFor_45 : decode b_Fo_leafFor 45 = .ok (.iload 5, 2) := by decide +kernel
theorem d_Fo_leafFor_47 : decode b_Fo_leafFor 47 = .ok (.ifCond .eq 12, 3) := by decide +kernel
theorem d_Fo_leafFor_50 : decode b_Fo_leafFor 50 = .ok (.aload_n 0, 1) := by decide +kernel
theorem d_Fo_leafFor_51 : decode b_Fo_leafFor 51 = .ok (.getfield 21, 3) := by decide +kernel
theorem d_Fo_leafFor_54 : decode b_Fo_leafFor 54 = .ok (.iload_n 3, 1) := by decide +kernel
theorem d_Fo_leafFor_55 : decode b_Fo_leafFor 55 = .ok (.iaload, 1) := by decide +kernel
theorem d_Fo_leafFor_56 : decode b_Fo_leafFor 56 = .ok (.goto 9, 3) := by decide +kernel
theorem d_Fo_leafFor_59 : decode b_Fo_leafFor 59 = .ok (.aload_n 0, 1) := by decide +kernel
theorem d_Fo_leafFor_60 : decode b_Fo_leafFor 60 = .ok (.getfield 24, 3) := by decide +kernel
theorem d_Fo_leafFor_63 : decode b_Fo_leafFor 63 = .ok (.iload_n 3, 1) := by decide +kernel
theorem d_Fo_leafFor_64 : decode b_Fo_leafFor 64 = .ok (.iaload, 1) := by decide +kernel
theorem d_Fo_leafFor_65 : decode b_Fo_leafFor 65 = .ok (.istore_n 3, 1) := by decide +kernel
theorem d_Fo_leafFor_66 : decode b_Fo_leafFor 66 = .ok (.iinc 4 1, 3) := by decide +kernel
theorem d_Fo_leafFor_69 : decode b_Fo_leafFor 69 = .ok (.goto (-64), 3) := by decide +kernel
theorem d_Fo_leafFor_72 : decode b_Fo_leafFor 72 = .ok (.iload_n 3, 1) := by decide +kernel
theorem d_Fo_leafFor_73 : decode b_Fo_leafFor 73 = .ok (.ireturn, 1) := by decide +kernel
theorem d_Ch_firstFault_0 : decode b_Ch_firstFault 0 = .ok (.iconst 0, 1) := by decide +kernel
theorem d_Ch_firstFault_1 : decode b_Ch_firstFault 1 = .ok (.istore_n 1, 1) := by decide +kernel
theorem d_Ch_firstFault_2 : decode b_Ch_firstFault 2 = .ok (.iload_n 1, 1) := by decide +kernel
theorem d_Ch_firstFault_3 : decode b_Ch_firstFault 3 = .ok (.bipush 60, 2) := by decide +kernel
theorem d_Ch_firstFault_5 : decode b_Ch_firstFault 5 = .ok (.if_icmp .ge 16, 3) := by decide +kernel
theorem d_Ch_firstFault_8 : decode b_Ch_firstFault 8 = .ok (.aload_n 0, 1) := by decide +kernel
theorem d_Ch_firstFault_9 : decode b_Ch_firstFault 9 = .ok (.getfield 9, 3) := by decide +kernel
theorem d_Ch_firstFault_12 : decode b_Ch_firstFault 12 = .ok (.iload_n 1, 1) := by decide +kernel
theorem d_Ch_firstFault_13 : decode b_Ch_firstFault 13 = .ok (.iconst 0, 1) := by decide +kernel
theorem d_Ch_firstFault_14 : decode b_Ch_firstFault 14 = .ok (.bastore, 1) := by decide +kernel
theorem d_Ch_firstFault_15 : decode b_Ch_firstFault 15 = .ok (.iinc 1 1, 3) := by decide +kernel
theorem d_Ch_firstFault_18 : decode b_Ch_firstFault 18 = .ok (.goto (-16), 3) := by decide +kernel
theorem d_Ch_firstFault_21 : decode b_Ch_firstFault 21 = .ok (.iconst 0, 1) := by decide +kernel
theorem d_Ch_firstFault_22 : decode b_Ch_firstFault 22 = .ok (.istore_n 1, 1) := by decide +kernel
theorem d_Ch_firstFault_23 : decode b_Ch_firstFault 23 = .ok (.iconst 0, 1) := by decide +kernel
theorem d_Ch_firstFault_24 : decode b_Ch_firstFault 24 = .ok (.istore_n 2, 1) := by decide +kernel
theorem d_Ch_firstFault_25 : decode b_Ch_firstFault 25 = .ok (.iload_n 2, 1) := by decide +kernel
theorem d_Ch_firstFault_26 : decode b_Ch_firstFault 26 = .ok (.aload_n 0, 1) := by decide +kernel
theorem d_Ch_firstFault_27 : decode b_Ch_firstFault 27 = .ok (.getfield 15, 3) := by decide +kernel
theorem d_Ch_firstFault_30 : decode b_Ch_firstFault 30 = .ok (.getfield 19, 3) := by decide +kernel
theorem d_Ch_firstFault_33 : decode b_Ch_firstFault 33 = .ok (.if_icmp .ge 28, 3) := by decide +kernel
theorem d_Ch_firstFault_36 : decode b_Ch_firstFault 36 = .ok (.iload_n 1, 1) := by decide +kernel
theorem d_Ch_firstFault_37 : decode b_Ch_firstFault 37 = .ok (.ifCond .ne 24, 3) := by decide +kernel
theorem d_Ch_firstFault_40 : decode b_Ch_firstFault 40 = .ok (.aload_n 0, 1) := by decide +kernel
theorem d_Ch_firstFault_41 : decode b_Ch_firstFault 41 = .ok (.aload_n 0, 1) := by decide +kernel
theorem d_Ch_firstFault_42 : decode b_Ch_firstFault 42 = .ok (.getfield 15, 3) := by decide +kernel
theorem d_Ch_firstFault_45 : decode b_Ch_firstFault 45 = .ok (.getfield 25, 3) := by decide +kernel
theorem d_Ch_firstFault_48 : decode b_Ch_firstFault 48 = .ok (.iload_n 2, 1) := by decide +kernel
theorem d_Ch_firstFault_49 : decode b_Ch_firstFault 49 = .ok (.iaload, 1) := by decide +kernel
