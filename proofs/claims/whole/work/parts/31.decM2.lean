theorem d_Mo_isMethod_1 : decode b_Mo_isMethod 1 = .ok (.ifCond .lt 15, 3) := by decide +kernel
theorem d_Mo_isMethod_4 : decode b_Mo_isMethod 4 = .ok (.iload_n 1, 1) := by decide +kernel
theorem d_Mo_isMethod_5 : decode b_Mo_isMethod 5 = .ok (.aload_n 0, 1) := by decide +kernel
theorem d_Mo_isMethod_6 : decode b_Mo_isMethod 6 = .ok (.getfield 95, 3) := by decide +kernel
theorem d_Mo_isMethod_9 : decode b_Mo_isMethod 9 = .ok (.if_icmp .ge 7, 3) := by decide +kernel
theorem d_Mo_isMethod_12 : decode b_Mo_isMethod 12 = .ok (.iconst 1, 1) := by decide +kernel
theorem d_Mo_isMethod_13 : decode b_Mo_isMethod 13 = .ok (.goto 4, 3) := by decide +kernel
theorem d_Mo_isMethod_16 : decode b_Mo_isMethod 16 = .ok (.iconst 0, 1) := by decide +kernel
theorem d_Mo_isMethod_17 : decode b_Mo_isMethod 17 = .ok (.ireturn, 1) := by decide +kernel
theorem d_Mo_methods_0 : decode b_Mo_methods 0 = .ok (.aload_n 0, 1) := by decide +kernel
theorem d_Mo_methods_1 : decode b_Mo_methods 1 = .ok (.getfield 95, 3) := by decide +kernel
theorem d_Mo_methods_4 : decode b_Mo_methods 4 = .ok (.ireturn, 1) := by decide +kernel
theorem d_Mo_length_0 : decode b_Mo_length 0 = .ok (.aload_n 0, 1) := by decide +kernel
theorem d_Mo_length_1 : decode b_Mo_length 1 = .ok (.iload_n 1, 1) := by decide +kernel
theorem d_Mo_length_2 : decode b_Mo_length 2 = .ok (.invokevirtual 148, 3) := by decide +kernel
theorem d_Mo_length_5 : decode b_Mo_length 5 = .ok (.ifCond .eq 21, 3) := by decide +kernel
theorem d_Mo_length_8 : decode b_Mo_length 8 = .ok (.aload_n 0, 1) := by decide +kernel
theorem d_Mo_length_9 : decode b_Mo_length 9 = .ok (.getfield 50, 3) := by decide +kernel
theorem d_Mo_length_12 : decode b_Mo_length 12 = .ok (.iload_n 1, 1) := by decide +kernel
theorem d_Mo_length_13 : decode b_Mo_length 13 = .ok (.iconst 1, 1) := by decide +kernel
theorem d_Mo_length_14 : decode b_Mo_length 14 = .ok (.iadd, 1) := by decide +kernel
theorem d_Mo_length_15 : decode b_Mo_length 15 = .ok (.iaload, 1) := by decide +kernel
theorem d_Mo_length_16 : decode b_Mo_length 16 = .ok (.aload_n 0, 1) := by decide +kernel
theorem d_Mo_length_17 : decode b_Mo_length 17 = .ok (.getfield 50, 3) := by decide +kernel
theorem d_Mo_length_20 : decode b_Mo_length 20 = .ok (.iload_n 1, 1) := by decide +kernel
theorem d_Mo_length_21 : decode b_Mo_length 21 = .ok (.iaload, 1) := by decide +kernel
theorem d_Mo_length_22 : decode b_Mo_length 22 = .ok (.isub, 1) := by decide +kernel
theorem d_Mo_length_23 : decode b_Mo_length 23 = .ok (.goto 4, 3) := by decide +kernel
theorem d_Mo_length_26 : decode b_Mo_length 26 = .ok (.iconst (-1), 1) := by decide +kernel
theorem d_Mo_length_27 : decode b_Mo_length 27 = .ok (.ireturn, 1) := by decide +kernel
theorem d_Mo_byteAt_0 : decode b_Mo_byteAt 0 = .ok (.aload_n 0, 1) := by decide +kernel
theorem d_Mo_byteAt_1 : decode b_Mo_byteAt 1 = .ok (.iload_n 1, 1) := by decide +kernel
theorem d_Mo_byteAt_2 : decode b_Mo_byteAt 2 = .ok (.invokevirtual 148, 3) := by decide +kernel
theorem d_Mo_byteAt_5 : decode b_Mo_byteAt 5 = .ok (.ifCond .eq 42, 3) := by decide +kernel
theorem d_Mo_byteAt_8 : decode b_Mo_byteAt 8 = .ok (.iload_n 2, 1) := by decide +kernel
theorem d_Mo_byteAt_9 : decode b_Mo_byteAt 9 = .ok (.ifCond .lt 38, 3) := by decide +kernel
theorem d_Mo_byteAt_12 : decode b_Mo_byteAt 12 = .ok (.iload_n 2, 1) := by decide +kernel
theorem d_Mo_byteAt_13 : decode b_Mo_byteAt 13 = .ok (.aload_n 0, 1) := by decide +kernel
theorem d_Mo_byteAt_14 : decode b_Mo_byteAt 14 = .ok (.getfield 50, 3) := by decide +kernel
theorem d_Mo_byteAt_17 : decode b_Mo_byteAt 17 = .ok (.iload_n 1, 1) := by decide +kernel
theorem d_Mo_byteAt_18 : decode b_Mo_byteAt 18 = .ok (.iconst 1, 1) := by decide +kernel
theorem d_Mo_byteAt_19 : decode b_Mo_byteAt 19 = .ok (.iadd, 1) := by decide +kernel
theorem d_Mo_byteAt_20 : decode b_Mo_byteAt 20 = .ok (.iaload, 1) := by decide +kernel
theorem d_Mo_byteAt_21 : decode b_Mo_byteAt 21 = .ok (.aload_n 0, 1) := by decide +kernel
theorem d_Mo_byteAt_22 : decode b_Mo_byteAt 22 = .ok (.getfield 50, 3) := by decide +kernel
theorem d_Mo_byteAt_25 : decode b_Mo_byteAt 25 = .ok (.iload_n 1, 1) := by decide +kernel
theorem d_Mo_byteAt_26 : decode b_Mo_byteAt 26 = .ok (.iaload, 1) := by decide +kernel
theorem d_Mo_byteAt_27 : decode b_Mo_byteAt 27 = .ok (.isub, 1) := by decide +kernel
theorem d_Mo_byteAt_28 : decode b_Mo_byteAt 28 = .ok (.if_icmp .ge 19, 3) := by decide +kernel
theorem d_Mo_byteAt_31 : decode b_Mo_byteAt 31 = .ok (.aload_n 0, 1) := by decide +kernel
theorem d_Mo_byteAt_32 : decode b_Mo_byteAt 32 = .ok (.getfield 59, 3) := by decide +kernel
theorem d_Mo_byteAt_35 : decode b_Mo_byteAt 35 = .ok (.aload_n 0, 1) := by decide +kernel
theorem d_Mo_byteAt_36 : decode b_Mo_byteAt 36 = .ok (.getfield 50, 3) := by decide +kernel
theorem d_Mo_byteAt_39 : decode b_Mo_byteAt 39 = .ok (.iload_n 1, 1) := by decide +kernel
theorem d_Mo_byteAt_40 : decode b_Mo_byteAt 40 = .ok (.iaload, 1) := by decide +kernel
theorem d_Mo_byteAt_41 : decode b_Mo_byteAt 41 = .ok (.iload_n 2, 1) := by decide +kernel
theorem d_Mo_byteAt_42 : decode b_Mo_byteAt 42 = .ok (.iadd, 1) := by decide +kernel
theorem d_Mo_byteAt_43 : decode b_Mo_byteAt 43 = .ok (.iaload, 1) := by decide +kernel
theorem d_Mo_byteAt_44 : decode b_Mo_byteAt 44 = .ok (.goto 4, 3) := by decide +kernel
theorem d_Mo_byteAt_47 : decode b_Mo_byteAt 47 = .ok (.iconst (-1), 1) := by decide +kernel
theorem d_Mo_byteAt_48 : decode b_Mo_byteAt 48 = .ok (.ireturn, 1) := by decide +kernel
theorem d_Mo_classOf_0 : decode b_Mo_classOf 0 = .ok (.aload_n 0, 1) := by decide +kernel
theorem d_Mo_classOf_1 : decode b_Mo_classOf 1 = .ok (.iload_n 1, 1) := by decide +kernel
theorem d_Mo_classOf_2 : decode b_Mo_classOf 2 = .ok (.invokevirtual 148, 3) := by decide +kernel
theorem d_Mo_classOf_5 : decode b_Mo_classOf 5 = .ok (.ifCond .eq 12, 3) := by decide +kernel
theorem d_Mo_classOf_8 : decode b_Mo_classOf 8 = .ok (.aload_n 0, 1) := by decide +kernel
theorem d_Mo_classOf_9 : decode b_Mo_classOf 9 = .ok (.getfield 53, 3) := by decide +kernel
theorem d_Mo_classOf_12 : decode b_Mo_classOf 12 = .ok (.iload_n 1, 1) := by decide +kernel
theorem d_Mo_classOf_13 : decode b_Mo_classOf 13 = .ok (.iaload, 1) := by decide +kernel
theorem d_Mo_classOf_14 : decode b_Mo_classOf 14 = .ok (.goto 4, 3) := by decide +kernel
theorem d_Mo_classOf_17 : decode b_Mo_classOf 17 = .ok (.iconst (-1), 1) := by decide +kernel
theorem d_Mo_classOf_18 : decode b_Mo_classOf 18 = .ok (.ireturn, 1) := by decide +kernel
theorem d_Mo_classes_0 : decode b_Mo_classes 0 = .ok (.aload_n 0, 1) := by decide +kernel
theorem d_Mo_classes_1 : decode b_Mo_classes 1 = .ok (.getfield 129, 3) := by decide +kernel
theorem d_Mo_classes_4 : decode b_Mo_classes 4 = .ok (.ireturn, 1) := by decide +kernel
theorem d_Mo_entries_0 : decode b_Mo_entries 0 = .ok (.iload_n 1, 1) := by decide +kernel
theorem d_Mo_entries_1 : decode b_Mo_entries 1 = .ok (.ifCond .lt 29, 3) := by decide +kernel
theorem d_Mo_entries_4 : decode b_Mo_entries 4 = .ok (.iload_n 1, 1) := by decide +kernel
theorem d_Mo_entries_5 : decode b_Mo_entries 5 = .ok (.aload_n 0, 1) := by decide +kernel
theorem d_Mo_entries_6 : decode b_Mo_entries 6 = .ok (.getfield 129, 3) := by decide +kernel
theorem d_Mo_entries_9 : decode b_Mo_entries 9 = .ok (.if_icmp .ge 21, 3) := by decide +kernel
theorem d_Mo_entries_12 : decode b_Mo_entries 12 = .ok (.aload_n 0, 1) := by decide +kernel
theorem d_Mo_entries_13 : decode b_Mo_entries 13 = .ok (.getfield 62, 3) := by decide +kernel
theorem d_Mo_entries_16 : decode b_Mo_entries 16 = .ok (.iload_n 1, 1) := by decide +kernel
theorem d_Mo_entries_17 : decode b_Mo_entries 17 = .ok (.iconst 1, 1) := by decide +kernel
theorem d_Mo_entries_18 : decode b_Mo_entries 18 = .ok (.iadd, 1) := by decide +kernel
theorem d_Mo_entries_19 : decode b_Mo_entries 19 = .ok (.iaload, 1) := by decide +kernel
theorem d_Mo_entries_20 : decode b_Mo_entries 20 = .ok (.aload_n 0, 1) := by decide +kernel
theorem d_Mo_entries_21 : decode b_Mo_entries 21 = .ok (.getfield 62, 3) := by decide +kernel
theorem d_Mo_entries_24 : decode b_Mo_entries 24 = .ok (.iload_n 1, 1) := by decide +kernel
theorem d_Mo_entries_25 : decode b_Mo_entries 25 = .ok (.iaload, 1) := by decide +kernel
theorem d_Mo_entries_26 : decode b_Mo_entries 26 = .ok (.isub, 1) := by decide +kernel
theorem d_Mo_entries_27 : decode b_Mo_entries 27 = .ok (.goto 4, 3) := by decide +kernel
theorem d_Mo_entries_30 : decode b_Mo_entries 30 = .ok (.iconst (-1), 1) := by decide +kernel
theorem d_Mo_entries_31 : decode b_Mo_entries 31 = .ok (.ireturn, 1) := by decide +kernel
theorem d_Mo_entry_0 : decode b_Mo_entry 0 = .ok (.iload_n 1, 1) := by decide +kernel
theorem d_Mo_entry_1 : decode b_Mo_entry 1 = .ok (.ifCond .lt 34, 3) := by decide +kernel
theorem d_Mo_entry_4 : decode b_Mo_entry 4 = .ok (.iload_n 1, 1) := by decide +kernel
theorem d_Mo_entry_5 : decode b_Mo_entry 5 = .ok (.aload_n 0, 1) := by decide +kernel
theorem d_Mo_entry_6 : decode b_Mo_entry 6 = .ok (.getfield 129, 3) := by decide +kernel
theorem d_Mo_entry_9 : decode b_Mo_entry 9 = .ok (.if_icmp .ge 26, 3) := by decide +kernel
theorem d_Mo_entry_12 : decode b_Mo_entry 12 = .ok (.iload_n 2, 1) := by decide +kernel
theorem d_Mo_entry_13 : decode b_Mo_entry 13 = .ok (.ifCond .lt 22, 3) := by decide +kernel
theorem d_Mo_entry_16 : decode b_Mo_entry 16 = .ok (.iload_n 2, 1) := by decide +kernel
theorem d_Mo_entry_17 : decode b_Mo_entry 17 = .ok (.aload_n 0, 1) := by decide +kernel
theorem d_Mo_entry_18 : decode b_Mo_entry 18 = .ok (.getfield 62, 3) := by decide +kernel
theorem d_Mo_entry_21 : decode b_Mo_entry 21 = .ok (.iload_n 1, 1) := by decide +kernel
theorem d_Mo_entry_22 : decode b_Mo_entry 22 = .ok (.iconst 1, 1) := by decide +kernel
theorem d_Mo_entry_23 : decode b_Mo_entry 23 = .ok (.iadd, 1) := by decide +kernel
theorem d_Mo_entry_24 : decode b_Mo_entry 24 = .ok (.iaload, 1) := by decide +kernel
theorem d_Mo_entry_25 : decode b_Mo_entry 25 = .ok (.aload_n 0, 1) := by decide +kernel
theorem d_Mo_entry_26 : decode b_Mo_entry 26 = .ok (.getfield 62, 3) := by decide +kernel
theorem d_Mo_entry_29 : decode b_Mo_entry 29 = .ok (.iload_n 1, 1) := by decide +kernel
theorem d_Mo_entry_30 : decode b_Mo_entry 30 = .ok (.iaload, 1) := by decide +kernel
theorem d_Mo_entry_31 : decode b_Mo_entry 31 = .ok (.isub, 1) := by decide +kernel
theorem d_Mo_entry_32 : decode b_Mo_entry 32 = .ok (.if_icmp .lt 7, 3) := by decide +kernel
theorem d_Mo_entry_35 : decode b_Mo_entry 35 = .ok (.ldc2_w 152, 3) := by decide +kernel
theorem d_Mo_entry_38 : decode b_Mo_entry 38 = .ok (.lreturn, 1) := by decide +kernel
theorem d_Mo_entry_39 : decode b_Mo_entry 39 = .ok (.aload_n 0, 1) := by decide +kernel
theorem d_Mo_entry_40 : decode b_Mo_entry 40 = .ok (.getfield 65, 3) := by decide +kernel
theorem d_Mo_entry_43 : decode b_Mo_entry 43 = .ok (.aload_n 0, 1) := by decide +kernel
theorem d_Mo_entry_44 : decode b_Mo_entry 44 = .ok (.getfield 62, 3) := by decide +kernel
theorem d_Mo_entry_47 : decode b_Mo_entry 47 = .ok (.iload_n 1, 1) := by decide +kernel
theorem d_Mo_entry_48 : decode b_Mo_entry 48 = .ok (.iaload, 1) := by decide +kernel
theorem d_Mo_entry_49 : decode b_Mo_entry 49 = .ok (.iload_n 2, 1) := by decide +kernel
theorem d_Mo_entry_50 : decode b_Mo_entry 50 = .ok (.iadd, 1) := by decide +kernel
theorem d_Mo_entry_51 : decode b_Mo_entry 51 = .ok (.iaload, 1) := by decide +kernel
theorem d_Mo_entry_52 : decode b_Mo_entry 52 = .ok (.i2l, 1) := by decide +kernel
theorem d_Mo_entry_53 : decode b_Mo_entry 53 = .ok (.ldc2_w 154, 3) := by decide +kernel
theorem d_Mo_entry_56 : decode b_Mo_entry 56 = .ok (.lmul, 1) := by decide +kernel
theorem d_Mo_entry_57 : decode b_Mo_entry 57 = .ok (.aload_n 0, 1) := by decide +kernel
theorem d_Mo_entry_58 : decode b_Mo_entry 58 = .ok (.getfield 68, 3) := by decide +kernel
theorem d_Mo_entry_61 : decode b_Mo_entry 61 = .ok (.aload_n 0, 1) := by decide +kernel
theorem d_Mo_entry_62 : decode b_Mo_entry 62 = .ok (.getfield 62, 3) := by decide +kernel
theorem d_Mo_entry_65 : decode b_Mo_entry 65 = .ok (.iload_n 1, 1) := by decide +kernel
theorem d_Mo_entry_66 : decode b_Mo_entry 66 = .ok (.iaload, 1) := by decide +kernel
theorem d_Mo_entry_67 : decode b_Mo_entry 67 = .ok (.iload_n 2, 1) := by decide +kernel
theorem d_Mo_entry_68 : decode b_Mo_entry 68 = .ok (.iadd, 1) := by decide +kernel
theorem d_Mo_entry_69 : decode b_Mo_entry 69 = .ok (.iaload, 1) := by decide +kernel
theorem d_Mo_entry_70 : decode b_Mo_entry 70 = .ok (.i2l, 1) := by decide +kernel
theorem d_Mo_entry_71 : decode b_Mo_entry 71 = .ok (.ldc2_w 156, 3) := by decide +kernel
theorem d_Mo_entry_74 : decode b_Mo_entry 74 = .ok (.land, 1) := by decide +kernel
theorem d_Mo_entry_75 : decode b_Mo_entry 75 = .ok (.ladd, 1) := by decide +kernel
theorem d_Mo_entry_76 : decode b_Mo_entry 76 = .ok (.lreturn, 1) := by decide +kernel
theorem d_Mo_set_0 : decode b_Mo_set 0 = .ok (.iload_n 1, 1) := by decide +kernel
theorem d_Mo_set_1 : decode b_Mo_set 1 = .ok (.iconst 0, 1) := by decide +kernel
theorem d_Mo_set_2 : decode b_Mo_set 2 = .ok (.bipush 7, 2) := by decide +kernel
theorem d_Mo_set_4 : decode b_Mo_set 4 = .ok (.invokestatic 75, 3) := by decide +kernel
theorem d_Mo_set_7 : decode b_Mo_set 7 = .ok (.ifCond .eq 5, 3) := by decide +kernel
theorem d_Mo_set_10 : decode b_Mo_set 10 = .ok (.iconst 0, 1) := by decide +kernel
theorem d_Mo_set_11 : decode b_Mo_set 11 = .ok (.ireturn, 1) := by decide +kernel
theorem d_Mo_set_12 : decode b_Mo_set 12 = .ok (.aload_n 0, 1) := by decide +kernel
theorem d_Mo_set_13 : decode b_Mo_set 13 = .ok (.getfield 28, 3) := by decide +kernel
theorem d_Mo_set_16 : decode b_Mo_set 16 = .ok (.iload_n 1, 1) := by decide +kernel
theorem d_Mo_set_17 : decode b_Mo_set 17 = .ok (.iload_n 2, 1) := by decide +kernel
theorem d_Mo_set_18 : decode b_Mo_set 18 = .ok (.iastore, 1) := by decide +kernel
theorem d_Mo_set_19 : decode b_Mo_set 19 = .ok (.iconst 1, 1) := by decide +kernel
theorem d_Mo_set_20 : decode b_Mo_set 20 = .ok (.ireturn, 1) := by decide +kernel
theorem d_Mo_ordered_0 : decode b_Mo_ordered 0 = .ok (.iload_n 0, 1) := by decide +kernel
theorem d_Mo_ordered_1 : decode b_Mo_ordered 1 = .ok (.ifCond .lt 7, 3) := by decide +kernel
theorem d_Mo_ordered_4 : decode b_Mo_ordered 4 = .ok (.iload_n 0, 1) := by decide +kernel
theorem d_Mo_ordered_5 : decode b_Mo_ordered 5 = .ok (.goto 8, 3) := by decide +kernel
theorem d_Mo_ordered_8 : decode b_Mo_ordered 8 = .ok (.iload_n 0, 1) := by decide +kernel
theorem d_Mo_ordered_9 : decode b_Mo_ordered 9 = .ok (.ldc 79, 2) := by decide +kernel
theorem d_Mo_ordered_11 : decode b_Mo_ordered 11 = .ok (.iand, 1) := by decide +kernel
theorem d_Mo_ordered_12 : decode b_Mo_ordered 12 = .ok (.ineg, 1) := by decide +kernel
theorem d_Mo_ordered_13 : decode b_Mo_ordered 13 = .ok (.ireturn, 1) := by decide +kernel
theorem d_Mo_whole_0 : decode b_Mo_whole 0 = .ok (.iconst 0, 1) := by decide +kernel
theorem d_Mo_whole_1 : decode b_Mo_whole 1 = .ok (.istore_n 1, 1) := by decide +kernel
theorem d_Mo_whole_2 : decode b_Mo_whole 2 = .ok (.iconst 2, 1) := by decide +kernel
theorem d_Mo_whole_3 : decode b_Mo_whole 3 = .ok (.iload_n 1, 1) := by decide +kernel
theorem d_Mo_whole_4 : decode b_Mo_whole 4 = .ok (.ishl, 1) := by decide +kernel
theorem d_Mo_whole_5 : decode b_Mo_whole 5 = .ok (.iload_n 0, 1) := by decide +kernel
theorem d_Mo_whole_6 : decode b_Mo_whole 6 = .ok (.if_icmp .gt 9, 3) := by decide +kernel
theorem d_Mo_whole_9 : decode b_Mo_whole 9 = .ok (.iinc 1 1, 3) := by decide +kernel
theorem d_Mo_whole_12 : decode b_Mo_whole 12 = .ok (.goto (-10), 3) := by decide +kernel
theorem d_Mo_whole_15 : decode b_Mo_whole 15 = .ok (.bipush 127, 2) := by decide +kernel
theorem d_Mo_whole_17 : decode b_Mo_whole 17 = .ok (.iload_n 1, 1) := by decide +kernel
theorem d_Mo_whole_18 : decode b_Mo_whole 18 = .ok (.iadd, 1) := by decide +kernel
theorem d_Mo_whole_19 : decode b_Mo_whole 19 = .ok (.ldc 158, 2) := by decide +kernel
theorem d_Mo_whole_21 : decode b_Mo_whole 21 = .ok (.imul, 1) := by decide +kernel
theorem d_Mo_whole_22 : decode b_Mo_whole 22 = .ok (.iload_n 0, 1) := by decide +kernel
theorem d_Mo_whole_23 : decode b_Mo_whole 23 = .ok (.ldc 158, 2) := by decide +kernel
theorem d_Mo_whole_25 : decode b_Mo_whole 25 = .ok (.iload_n 1, 1) := by decide +kernel
theorem d_Mo_whole_26 : decode b_Mo_whole 26 = .ok (.ishr, 1) := by decide +kernel
theorem d_Mo_whole_27 : decode b_Mo_whole 27 = .ok (.imul, 1) := by decide +kernel
theorem d_Mo_whole_28 : decode b_Mo_whole 28 = .ok (.iadd, 1) := by decide +kernel
theorem d_Mo_whole_29 : decode b_Mo_whole 29 = .ok (.ldc 158, 2) := by decide +kernel
theorem d_Mo_whole_31 : decode b_Mo_whole 31 = .ok (.isub, 1) := by decide +kernel
theorem d_Mo_whole_32 : decode b_Mo_whole 32 = .ok (.ireturn, 1) := by decide +kernel
theorem d_Mo_goesToYes_0 : decode b_Mo_goesToYes 0 = .ok (.aload_n 0, 1) := by decide +kernel
theorem d_Mo_goesToYes_1 : decode b_Mo_goesToYes 1 = .ok (.getfield 28, 3) := by decide +kernel
theorem d_Mo_goesToYes_4 : decode b_Mo_goesToYes 4 = .ok (.aload_n 0, 1) := by decide +kernel
theorem d_Mo_goesToYes_5 : decode b_Mo_goesToYes 5 = .ok (.getfield 13, 3) := by decide +kernel
theorem d_Mo_goesToYes_8 : decode b_Mo_goesToYes 8 = .ok (.iload_n 1, 1) := by decide +kernel
theorem d_Mo_goesToYes_9 : decode b_Mo_goesToYes 9 = .ok (.iaload, 1) := by decide +kernel
theorem d_Mo_goesToYes_10 : decode b_Mo_goesToYes 10 = .ok (.iaload, 1) := by decide +kernel
theorem d_Mo_goesToYes_11 : decode b_Mo_goesToYes 11 = .ok (.istore_n 2, 1) := by decide +kernel
theorem d_Mo_goesToYes_12 : decode b_Mo_goesToYes 12 = .ok (.aload_n 0, 1) := by decide +kernel
theorem d_Mo_goesToYes_13 : decode b_Mo_goesToYes 13 = .ok (.getfield 7, 3) := by decide +kernel
theorem d_Mo_goesToYes_16 : decode b_Mo_goesToYes 16 = .ok (.iload_n 1, 1) := by decide +kernel
theorem d_Mo_goesToYes_17 : decode b_Mo_goesToYes 17 = .ok (.iaload, 1) := by decide +kernel
theorem d_Mo_goesToYes_18 : decode b_Mo_goesToYes 18 = .ok (.istore_n 3, 1) := by decide +kernel
theorem d_Mo_goesToYes_19 : decode b_Mo_goesToYes 19 = .ok (.iload_n 2, 1) := by decide +kernel
theorem d_Mo_goesToYes_20 : decode b_Mo_goesToYes 20 = .ok (.ldc 79, 2) := by decide +kernel
theorem d_Mo_goesToYes_22 : decode b_Mo_goesToYes 22 = .ok (.iand, 1) := by decide +kernel
theorem d_Mo_goesToYes_23 : decode b_Mo_goesToYes 23 = .ok (.ldc 80, 2) := by decide +kernel
theorem d_Mo_goesToYes_25 : decode b_Mo_goesToYes 25 = .ok (.if_icmp .le 16, 3) := by decide +kernel
theorem d_Mo_goesToYes_28 : decode b_Mo_goesToYes 28 = .ok (.iload_n 3, 1) := by decide +kernel
theorem d_Mo_goesToYes_29 : decode b_Mo_goesToYes 29 = .ok (.iconst 1, 1) := by decide +kernel
theorem d_Mo_goesToYes_30 : decode b_Mo_goesToYes 30 = .ok (.iand, 1) := by decide +kernel
theorem d_Mo_goesToYes_31 : decode b_Mo_goesToYes 31 = .ok (.iconst 1, 1) := by decide +kernel
theorem d_Mo_goesToYes_32 : decode b_Mo_goesToYes 32 = .ok (.if_icmp .ne 7, 3) := by decide +kernel
theorem d_Mo_goesToYes_35 : decode b_Mo_goesToYes 35 = .ok (.iconst 1, 1) := by decide +kernel
theorem d_Mo_goesToYes_36 : decode b_Mo_goesToYes 36 = .ok (.goto 4, 3) := by decide +kernel
theorem d_Mo_goesToYes_39 : decode b_Mo_goesToYes 39 = .ok (.iconst 0, 1) := by decide +kernel
theorem d_Mo_goesToYes_40 : decode b_Mo_goesToYes 40 = .ok (.ireturn, 1) := by decide +kernel
theorem d_Mo_goesToYes_41 : decode b_Mo_goesToYes 41 = .ok (.iload_n 3, 1) := by decide +kernel
theorem d_Mo_goesToYes_42 : decode b_Mo_goesToYes 42 = .ok (.iconst 2, 1) := by decide +kernel
theorem d_Mo_goesToYes_43 : decode b_Mo_goesToYes 43 = .ok (.if_icmp .ge 25, 3) := by decide +kernel
theorem d_Mo_goesToYes_46 : decode b_Mo_goesToYes 46 = .ok (.iload_n 2, 1) := by decide +kernel
theorem d_Mo_goesToYes_47 : decode b_Mo_goesToYes 47 = .ok (.invokestatic 159, 3) := by decide +kernel
theorem d_Mo_goesToYes_50 : decode b_Mo_goesToYes 50 = .ok (.aload_n 0, 1) := by decide +kernel
theorem d_Mo_goesToYes_51 : decode b_Mo_goesToYes 51 = .ok (.getfield 16, 3) := by decide +kernel
theorem d_Mo_goesToYes_54 : decode b_Mo_goesToYes 54 = .ok (.iload_n 1, 1) := by decide +kernel
theorem d_Mo_goesToYes_55 : decode b_Mo_goesToYes 55 = .ok (.iaload, 1) := by decide +kernel
theorem d_Mo_goesToYes_56 : decode b_Mo_goesToYes 56 = .ok (.invokestatic 159, 3) := by decide +kernel
theorem d_Mo_goesToYes_59 : decode b_Mo_goesToYes 59 = .ok (.if_icmp .ge 7, 3) := by decide +kernel
theorem d_Mo_goesToYes_62 : decode b_Mo_goesToYes 62 = .ok (.iconst 1, 1) := by decide +kernel
theorem d_Mo_goesToYes_63 : decode b_Mo_goesToYes 63 = .ok (.goto 4, 3) := by decide +kernel
theorem d_Mo_goesToYes_66 : decode b_Mo_goesToYes 66 = .ok (.iconst 0, 1) := by decide +kernel
theorem d_Mo_goesToYes_67 : decode b_Mo_goesToYes 67 = .ok (.ireturn, 1) := by decide +kernel
theorem d_Mo_goesToYes_68 : decode b_Mo_goesToYes 68 = .ok (.iload_n 3, 1) := by decide +kernel
theorem d_Mo_goesToYes_69 : decode b_Mo_goesToYes 69 = .ok (.iconst 4, 1) := by decide +kernel
theorem d_Mo_goesToYes_70 : decode b_Mo_goesToYes 70 = .ok (.if_icmp .ge 25, 3) := by decide +kernel
theorem d_Mo_goesToYes_73 : decode b_Mo_goesToYes 73 = .ok (.iload_n 2, 1) := by decide +kernel
theorem d_Mo_goesToYes_74 : decode b_Mo_goesToYes 74 = .ok (.invokestatic 159, 3) := by decide +kernel
theorem d_Mo_goesToYes_77 : decode b_Mo_goesToYes 77 = .ok (.aload_n 0, 1) := by decide +kernel
theorem d_Mo_goesToYes_78 : decode b_Mo_goesToYes 78 = .ok (.getfield 16, 3) := by decide +kernel
theorem d_Mo_goesToYes_81 : decode b_Mo_goesToYes 81 = .ok (.iload_n 1, 1) := by decide +kernel
theorem d_Mo_goesToYes_82 : decode b_Mo_goesToYes 82 = .ok (.iaload, 1) := by decide +kernel
theorem d_Mo_goesToYes_83 : decode b_Mo_goesToYes 83 = .ok (.invokestatic 159, 3) := by decide +kernel
theorem d_Mo_goesToYes_86 : decode b_Mo_goesToYes 86 = .ok (.if_icmp .gt 7, 3) := by decide +kernel
theorem d_Mo_goesToYes_89 : decode b_Mo_goesToYes 89 = .ok (.iconst 1, 1) := by decide +kernel
theorem d_Mo_goesToYes_90 : decode b_Mo_goesToYes 90 = .ok (.goto 4, 3) := by decide +kernel
theorem d_Mo_goesToYes_93 : decode b_Mo_goesToYes 93 = .ok (.iconst 0, 1) := by decide +kernel
theorem d_Mo_goesToYes_94 : decode b_Mo_goesToYes 94 = .ok (.ireturn, 1) := by decide +kernel
theorem d_Mo_goesToYes_95 : decode b_Mo_goesToYes 95 = .ok (.aload_n 0, 1) := by decide +kernel
theorem d_Mo_goesToYes_96 : decode b_Mo_goesToYes 96 = .ok (.getfield 16, 3) := by decide +kernel
theorem d_Mo_goesToYes_99 : decode b_Mo_goesToYes 99 = .ok (.iload_n 1, 1) := by decide +kernel
theorem d_Mo_goesToYes_100 : decode b_Mo_goesToYes 100 = .ok (.iaload, 1) := by decide +kernel
theorem d_Mo_goesToYes_101 : decode b_Mo_goesToYes 101 = .ok (.iconst 1, 1) := by decide +kernel
theorem d_Mo_goesToYes_102 : decode b_Mo_goesToYes 102 = .ok (.iand, 1) := by decide +kernel
theorem d_Mo_goesToYes_103 : decode b_Mo_goesToYes 103 = .ok (.iconst 1, 1) := by decide +kernel
theorem d_Mo_goesToYes_104 : decode b_Mo_goesToYes 104 = .ok (.if_icmp .ne 14, 3) := by decide +kernel
theorem d_Mo_goesToYes_107 : decode b_Mo_goesToYes 107 = .ok (.iload_n 2, 1) := by decide +kernel
theorem d_Mo_goesToYes_108 : decode b_Mo_goesToYes 108 = .ok (.ldc 79, 2) := by decide +kernel
theorem d_Mo_goesToYes_110 : decode b_Mo_goesToYes 110 = .ok (.iand, 1) := by decide +kernel
theorem d_Mo_goesToYes_111 : decode b_Mo_goesToYes 111 = .ok (.ifCond .ne 7, 3) := by decide +kernel
theorem d_Mo_goesToYes_114 : decode b_Mo_goesToYes 114 = .ok (.iconst 1, 1) := by decide +kernel
theorem d_Mo_goesToYes_115 : decode b_Mo_goesToYes 115 = .ok (.goto 4, 3) := by decide +kernel
theorem d_Mo_goesToYes_118 : decode b_Mo_goesToYes 118 = .ok (.iconst 0, 1) := by decide +kernel
theorem d_Mo_goesToYes_119 : decode b_Mo_goesToYes 119 = .ok (.istore 4, 2) := by decide +kernel
theorem d_Mo_goesToYes_121 : decode b_Mo_goesToYes 121 = .ok (.iconst 1, 1) := by decide +kernel
theorem d_Mo_goesToYes_122 : decode b_Mo_goesToYes 122 = .ok (.istore 5, 2) := by decide +kernel
theorem d_Mo_goesToYes_124 : decode b_Mo_goesToYes 124 = .ok (.iload 5, 2) := by decide +kernel
theorem d_Mo_goesToYes_126 : decode b_Mo_goesToYes 126 = .ok (.bipush 32, 2) := by decide +kernel
theorem d_Mo_goesToYes_128 : decode b_Mo_goesToYes 128 = .ok (.if_icmp .ge 45, 3) := by decide +kernel
theorem d_Mo_goesToYes_131 : decode b_Mo_goesToYes 131 = .ok (.iload 4, 2) := by decide +kernel
theorem d_Mo_goesToYes_133 : decode b_Mo_goesToYes 133 = .ok (.ifCond .ne 27, 3) := by decide +kernel
theorem d_Mo_goesToYes_136 : decode b_Mo_goesToYes 136 = .ok (.aload_n 0, 1) := by decide +kernel
theorem d_Mo_goesToYes_137 : decode b_Mo_goesToYes 137 = .ok (.getfield 16, 3) := by decide +kernel
theorem d_Mo_goesToYes_140 : decode b_Mo_goesToYes 140 = .ok (.iload_n 1, 1) := by decide +kernel
theorem d_Mo_goesToYes_141 : decode b_Mo_goesToYes 141 = .ok (.iaload, 1) := by decide +kernel
theorem d_Mo_goesToYes_142 : decode b_Mo_goesToYes 142 = .ok (.iload 5, 2) := by decide +kernel
theorem d_Mo_goesToYes_144 : decode b_Mo_goesToYes 144 = .ok (.iushr, 1) := by decide +kernel
theorem d_Mo_goesToYes_145 : decode b_Mo_goesToYes 145 = .ok (.iconst 1, 1) := by decide +kernel
theorem d_Mo_goesToYes_146 : decode b_Mo_goesToYes 146 = .ok (.iand, 1) := by decide +kernel
theorem d_Mo_goesToYes_147 : decode b_Mo_goesToYes 147 = .ok (.iconst 1, 1) := by decide +kernel
theorem d_Mo_goesToYes_148 : decode b_Mo_goesToYes 148 = .ok (.if_icmp .ne 16, 3) := by decide +kernel
theorem d_Mo_goesToYes_151 : decode b_Mo_goesToYes 151 = .ok (.iload_n 2, 1) := by decide +kernel
theorem d_Mo_goesToYes_152 : decode b_Mo_goesToYes 152 = .ok (.iload 5, 2) := by decide +kernel
theorem d_Mo_goesToYes_154 : decode b_Mo_goesToYes 154 = .ok (.invokestatic 162, 3) := by decide +kernel
theorem d_Mo_goesToYes_157 : decode b_Mo_goesToYes 157 = .ok (.if_icmp .ne 7, 3) := by decide +kernel
theorem d_Mo_goesToYes_160 : decode b_Mo_goesToYes 160 = .ok (.iconst 1, 1) := by decide +kernel
theorem d_Mo_goesToYes_161 : decode b_Mo_goesToYes 161 = .ok (.goto 4, 3) := by decide +kernel
theorem d_Mo_goesToYes_164 : decode b_Mo_goesToYes 164 = .ok (.iconst 0, 1) := by decide +kernel
theorem d_Mo_goesToYes_165 : decode b_Mo_goesToYes 165 = .ok (.istore 4, 2) := by decide +kernel
theorem d_Mo_goesToYes_167 : decode b_Mo_goesToYes 167 = .ok (.iinc 5 1, 3) := by decide +kernel
theorem d_Mo_goesToYes_170 : decode b_Mo_goesToYes 170 = .ok (.goto (-46), 3) := by decide +kernel
theorem d_Mo_goesToYes_173 : decode b_Mo_goesToYes 173 = .ok (.iload 4, 2) := by decide +kernel
theorem d_Mo_goesToYes_175 : decode b_Mo_goesToYes 175 = .ok (.ireturn, 1) := by decide +kernel
theorem d_Mo_reach_0 : decode b_Mo_reach 0 = .ok (.iload_n 1, 1) := by decide +kernel
theorem d_Mo_reach_1 : decode b_Mo_reach 1 = .ok (.ifCond .lt 11, 3) := by decide +kernel
theorem d_Mo_reach_4 : decode b_Mo_reach 4 = .ok (.iload_n 1, 1) := by decide +kernel
theorem d_Mo_reach_5 : decode b_Mo_reach 5 = .ok (.aload_n 0, 1) := by decide +kernel
theorem d_Mo_reach_6 : decode b_Mo_reach 6 = .ok (.getfield 142, 3) := by decide +kernel
theorem d_Mo_reach_9 : decode b_Mo_reach 9 = .ok (.if_icmp .lt 5, 3) := by decide +kernel
theorem d_Mo_reach_12 : decode b_Mo_reach 12 = .ok (.iconst (-1), 1) := by decide +kernel
theorem d_Mo_reach_13 : decode b_Mo_reach 13 = .ok (.ireturn, 1) := by decide +kernel
theorem d_Mo_reach_14 : decode b_Mo_reach 14 = .ok (.aload_n 0, 1) := by decide +kernel
theorem d_Mo_reach_15 : decode b_Mo_reach 15 = .ok (.getfield 25, 3) := by decide +kernel
theorem d_Mo_reach_18 : decode b_Mo_reach 18 = .ok (.iload_n 1, 1) := by decide +kernel
theorem d_Mo_reach_19 : decode b_Mo_reach 19 = .ok (.iaload, 1) := by decide +kernel
theorem d_Mo_reach_20 : decode b_Mo_reach 20 = .ok (.istore_n 2, 1) := by decide +kernel
theorem d_Mo_reach_21 : decode b_Mo_reach 21 = .ok (.aload_n 0, 1) := by decide +kernel
theorem d_Mo_reach_22 : decode b_Mo_reach 22 = .ok (.getfield 7, 3) := by decide +kernel
theorem d_Mo_reach_25 : decode b_Mo_reach 25 = .ok (.iload_n 2, 1) := by decide +kernel
theorem d_Mo_reach_26 : decode b_Mo_reach 26 = .ok (.iaload, 1) := by decide +kernel
theorem d_Mo_reach_27 : decode b_Mo_reach 27 = .ok (.iconst (-1), 1) := by decide +kernel
theorem d_Mo_reach_28 : decode b_Mo_reach 28 = .ok (.if_icmp .eq 30, 3) := by decide +kernel
theorem d_Mo_reach_31 : decode b_Mo_reach 31 = .ok (.aload_n 0, 1) := by decide +kernel
theorem d_Mo_reach_32 : decode b_Mo_reach 32 = .ok (.iload_n 2, 1) := by decide +kernel
theorem d_Mo_reach_33 : decode b_Mo_reach 33 = .ok (.invokevirtual 165, 3) := by decide +kernel
theorem d_Mo_reach_36 : decode b_Mo_reach 36 = .ok (.ifCond .eq 12, 3) := by decide +kernel
theorem d_Mo_reach_39 : decode b_Mo_reach 39 = .ok (.aload_n 0, 1) := by decide +kernel
theorem d_Mo_reach_40 : decode b_Mo_reach 40 = .ok (.getfield 19, 3) := by decide +kernel
theorem d_Mo_reach_43 : decode b_Mo_reach 43 = .ok (.iload_n 2, 1) := by decide +kernel
theorem d_Mo_reach_44 : decode b_Mo_reach 44 = .ok (.iaload, 1) := by decide +kernel
theorem d_Mo_reach_45 : decode b_Mo_reach 45 = .ok (.goto 9, 3) := by decide +kernel
theorem d_Mo_reach_48 : decode b_Mo_reach 48 = .ok (.aload_n 0, 1) := by decide +kernel
theorem d_Mo_reach_49 : decode b_Mo_reach 49 = .ok (.getfield 22, 3) := by decide +kernel
theorem d_Mo_reach_52 : decode b_Mo_reach 52 = .ok (.iload_n 2, 1) := by decide +kernel
theorem d_Mo_reach_53 : decode b_Mo_reach 53 = .ok (.iaload, 1) := by decide +kernel
theorem d_Mo_reach_54 : decode b_Mo_reach 54 = .ok (.istore_n 2, 1) := by decide +kernel
theorem d_Mo_reach_55 : decode b_Mo_reach 55 = .ok (.goto (-34), 3) := by decide +kernel
theorem d_Mo_reach_58 : decode b_Mo_reach 58 = .ok (.iload_n 2, 1) := by decide +kernel
theorem d_Mo_reach_59 : decode b_Mo_reach 59 = .ok (.ireturn, 1) := by decide +kernel
theorem d_Mo_predict_0 : decode b_Mo_predict 0 = .ok (.lconst 0, 1) := by decide +kernel
theorem d_Mo_predict_1 : decode b_Mo_predict 1 = .ok (.lstore_n 1, 1) := by decide +kernel
theorem d_Mo_predict_2 : decode b_Mo_predict 2 = .ok (.aload_n 0, 1) := by decide +kernel
theorem d_Mo_predict_3 : decode b_Mo_predict 3 = .ok (.iconst 0, 1) := by decide +kernel
theorem d_Mo_predict_4 : decode b_Mo_predict 4 = .ok (.putfield 168, 3) := by decide +kernel
theorem d_Mo_predict_7 : decode b_Mo_predict 7 = .ok (.aload_n 0, 1) := by decide +kernel
theorem d_Mo_predict_8 : decode b_Mo_predict 8 = .ok (.iconst 0, 1) := by decide +kernel
theorem d_Mo_predict_9 : decode b_Mo_predict 9 = .ok (.putfield 171, 3) := by decide +kernel
theorem d_Mo_predict_12 : decode b_Mo_predict 12 = .ok (.iconst 0, 1) := by decide +kernel
theorem d_Mo_predict_13 : decode b_Mo_predict 13 = .ok (.istore_n 3, 1) := by decide +kernel
theorem d_Mo_predict_14 : decode b_Mo_predict 14 = .ok (.iload_n 3, 1) := by decide +kernel
theorem d_Mo_predict_15 : decode b_Mo_predict 15 = .ok (.aload_n 0, 1) := by decide +kernel
theorem d_Mo_predict_16 : decode b_Mo_predict 16 = .ok (.getfield 142, 3) := by decide +kernel
theorem d_Mo_predict_19 : decode b_Mo_predict 19 = .ok (.if_icmp .ge 131, 3) := by decide +kernel
theorem d_Mo_predict_22 : decode b_Mo_predict 22 = .ok (.aload_n 0, 1) := by decide +kernel
theorem d_Mo_predict_23 : decode b_Mo_predict 23 = .ok (.getfield 25, 3) := by decide +kernel
theorem d_Mo_predict_26 : decode b_Mo_predict 26 = .ok (.iload_n 3, 1) := by decide +kernel
theorem d_Mo_predict_27 : decode b_Mo_predict 27 = .ok (.iaload, 1) := by decide +kernel
theorem d_Mo_predict_28 : decode b_Mo_predict 28 = .ok (.istore 4, 2) := by decide +kernel
theorem d_Mo_predict_30 : decode b_Mo_predict 30 = .ok (.aload_n 0, 1) := by decide +kernel
theorem d_Mo_predict_31 : decode b_Mo_predict 31 = .ok (.getfield 7, 3) := by decide +kernel
theorem d_Mo_predict_34 : decode b_Mo_predict 34 = .ok (.iload 4, 2) := by decide +kernel
theorem d_Mo_predict_36 : decode b_Mo_predict 36 = .ok (.iaload, 1) := by decide +kernel
theorem d_Mo_predict_37 : decode b_Mo_predict 37 = .ok (.iconst (-1), 1) := by decide +kernel
theorem d_Mo_predict_38 : decode b_Mo_predict 38 = .ok (.if_icmp .eq 85, 3) := by decide +kernel
theorem d_Mo_predict_41 : decode b_Mo_predict 41 = .ok (.aload_n 0, 1) := by decide +kernel
theorem d_Mo_predict_42 : decode b_Mo_predict 42 = .ok (.iload 4, 2) := by decide +kernel
theorem d_Mo_predict_44 : decode b_Mo_predict 44 = .ok (.invokevirtual 165, 3) := by decide +kernel
theorem d_Mo_predict_47 : decode b_Mo_predict 47 = .ok (.ifCond .eq 13, 3) := by decide +kernel
theorem d_Mo_predict_50 : decode b_Mo_predict 50 = .ok (.aload_n 0, 1) := by decide +kernel
theorem d_Mo_predict_51 : decode b_Mo_predict 51 = .ok (.getfield 19, 3) := by decide +kernel
theorem d_Mo_predict_54 : decode b_Mo_predict 54 = .ok (.iload 4, 2) := by decide +kernel
theorem d_Mo_predict_56 : decode b_Mo_predict 56 = .ok (.iaload, 1) := by decide +kernel
theorem d_Mo_predict_57 : decode b_Mo_predict 57 = .ok (.goto 10, 3) := by decide +kernel
theorem d_Mo_predict_60 : decode b_Mo_predict 60 = .ok (.aload_n 0, 1) := by decide +kernel
theorem d_Mo_predict_61 : decode b_Mo_predict 61 = .ok (.getfield 22, 3) := by decide +kernel
theorem d_Mo_predict_64 : decode b_Mo_predict 64 = .ok (.iload 4, 2) := by decide +kernel
theorem d_Mo_predict_66 : decode b_Mo_predict 66 = .ok (.iaload, 1) := by decide +kernel
theorem d_Mo_predict_67 : decode b_Mo_predict 67 = .ok (.istore 4, 2) := by decide +kernel
theorem d_Mo_predict_69 : decode b_Mo_predict 69 = .ok (.aload_n 0, 1) := by decide +kernel
theorem d_Mo_predict_70 : decode b_Mo_predict 70 = .ok (.dup, 1) := by decide +kernel
theorem d_Mo_predict_71 : decode b_Mo_predict 71 = .ok (.getfield 168, 3) := by decide +kernel
theorem d_Mo_predict_74 : decode b_Mo_predict 74 = .ok (.aload_n 0, 1) := by decide +kernel
theorem d_Mo_predict_75 : decode b_Mo_predict 75 = .ok (.getfield 47, 3) := by decide +kernel
theorem d_Mo_predict_78 : decode b_Mo_predict 78 = .ok (.iload 4, 2) := by decide +kernel
theorem d_Mo_predict_80 : decode b_Mo_predict 80 = .ok (.iaload, 1) := by decide +kernel
theorem d_Mo_predict_81 : decode b_Mo_predict 81 = .ok (.ifCond .lt 7, 3) := by decide +kernel
theorem d_Mo_predict_84 : decode b_Mo_predict 84 = .ok (.iconst 5, 1) := by decide +kernel
theorem d_Mo_predict_85 : decode b_Mo_predict 85 = .ok (.goto 4, 3) := by decide +kernel
theorem d_Mo_predict_88 : decode b_Mo_predict 88 = .ok (.iconst 3, 1) := by decide +kernel
theorem d_Mo_predict_89 : decode b_Mo_predict 89 = .ok (.iadd, 1) := by decide +kernel
theorem d_Mo_predict_90 : decode b_Mo_predict 90 = .ok (.putfield 168, 3) := by decide +kernel
theorem d_Mo_predict_93 : decode b_Mo_predict 93 = .ok (.aload_n 0, 1) := by decide +kernel
theorem d_Mo_predict_94 : decode b_Mo_predict 94 = .ok (.aload_n 0, 1) := by decide +kernel
theorem d_Mo_predict_95 : decode b_Mo_predict 95 = .ok (.getfield 47, 3) := by decide +kernel
theorem d_Mo_predict_98 : decode b_Mo_predict 98 = .ok (.iload 4, 2) := by decide +kernel
theorem d_Mo_predict_100 : decode b_Mo_predict 100 = .ok (.iaload, 1) := by decide +kernel
theorem d_Mo_predict_101 : decode b_Mo_predict 101 = .ok (.ifCond .lt 12, 3) := by decide +kernel
theorem d_Mo_predict_104 : decode b_Mo_predict 104 = .ok (.aload_n 0, 1) := by decide +kernel
theorem d_Mo_predict_105 : decode b_Mo_predict 105 = .ok (.getfield 171, 3) := by decide +kernel
theorem d_Mo_predict_108 : decode b_Mo_predict 108 = .ok (.iconst 1, 1) := by decide +kernel
theorem d_Mo_predict_109 : decode b_Mo_predict 109 = .ok (.iadd, 1) := by decide +kernel
theorem d_Mo_predict_110 : decode b_Mo_predict 110 = .ok (.goto 7, 3) := by decide +kernel
theorem d_Mo_predict_113 : decode b_Mo_predict 113 = .ok (.aload_n 0, 1) := by decide +kernel
theorem d_Mo_predict_114 : decode b_Mo_predict 114 = .ok (.getfield 171, 3) := by decide +kernel
theorem d_Mo_predict_117 : decode b_Mo_predict 117 = .ok (.putfield 171, 3) := by decide +kernel
theorem d_Mo_predict_120 : decode b_Mo_predict 120 = .ok (.goto (-90), 3) := by decide +kernel
theorem d_Mo_predict_123 : decode b_Mo_predict 123 = .ok (.aload_n 0, 1) := by decide +kernel
theorem d_Mo_predict_124 : decode b_Mo_predict 124 = .ok (.dup, 1) := by decide +kernel
theorem d_Mo_predict_125 : decode b_Mo_predict 125 = .ok (.getfield 168, 3) := by decide +kernel
theorem d_Mo_predict_128 : decode b_Mo_predict 128 = .ok (.iconst 2, 1) := by decide +kernel
theorem d_Mo_predict_129 : decode b_Mo_predict 129 = .ok (.iadd, 1) := by decide +kernel
theorem d_Mo_predict_130 : decode b_Mo_predict 130 = .ok (.putfield 168, 3) := by decide +kernel
theorem d_Mo_predict_133 : decode b_Mo_predict 133 = .ok (.lload_n 1, 1) := by decide +kernel
theorem d_Mo_predict_134 : decode b_Mo_predict 134 = .ok (.aload_n 0, 1) := by decide +kernel
theorem d_Mo_predict_135 : decode b_Mo_predict 135 = .ok (.getfield 16, 3) := by decide +kernel
theorem d_Mo_predict_138 : decode b_Mo_predict 138 = .ok (.iload 4, 2) := by decide +kernel
theorem d_Mo_predict_140 : decode b_Mo_predict 140 = .ok (.iaload, 1) := by decide +kernel
theorem d_Mo_predict_141 : decode b_Mo_predict 141 = .ok (.i2l, 1) := by decide +kernel
theorem d_Mo_predict_142 : decode b_Mo_predict 142 = .ok (.ladd, 1) := by decide +kernel
theorem d_Mo_predict_143 : decode b_Mo_predict 143 = .ok (.lstore_n 1, 1) := by decide +kernel
theorem d_Mo_predict_144 : decode b_Mo_predict 144 = .ok (.iinc 3 1, 3) := by decide +kernel
theorem d_Mo_predict_147 : decode b_Mo_predict 147 = .ok (.goto (-133), 3) := by decide +kernel
theorem d_Mo_predict_150 : decode b_Mo_predict 150 = .ok (.lload_n 1, 1) := by decide +kernel
theorem d_Mo_predict_151 : decode b_Mo_predict 151 = .ok (.lreturn, 1) := by decide +kernel
theorem d_Mo_steps_0 : decode b_Mo_steps 0 = .ok (.aload_n 0, 1) := by decide +kernel
theorem d_Mo_steps_1 : decode b_Mo_steps 1 = .ok (.getfield 168, 3) := by decide +kernel
theorem d_Mo_steps_4 : decode b_Mo_steps 4 = .ok (.ireturn, 1) := by decide +kernel
theorem d_Mo_calls_0 : decode b_Mo_calls 0 = .ok (.aload_n 0, 1) := by decide +kernel
theorem d_Mo_calls_1 : decode b_Mo_calls 1 = .ok (.getfield 171, 3) := by decide +kernel
theorem d_Mo_calls_4 : decode b_Mo_calls 4 = .ok (.ireturn, 1) := by decide +kernel
theorem d_Mo_init_0 : decode b_Mo_init 0 = .ok (.aload_n 0, 1) := by decide +kernel
theorem d_Mo_init_1 : decode b_Mo_init 1 = .ok (.invokespecial 1, 3) := by decide +kernel
theorem d_Mo_init_4 : decode b_Mo_init 4 = .ok (.aload_n 0, 1) := by decide +kernel
theorem d_Mo_init_5 : decode b_Mo_init 5 = .ok (.bipush 60, 2) := by decide +kernel
theorem d_Mo_init_7 : decode b_Mo_init 7 = .ok (.newarray .int, 2) := by decide +kernel
theorem d_Mo_init_9 : decode b_Mo_init 9 = .ok (.putfield 7, 3) := by decide +kernel
theorem d_Mo_init_12 : decode b_Mo_init 12 = .ok (.aload_n 0, 1) := by decide +kernel
theorem d_Mo_init_13 : decode b_Mo_init 13 = .ok (.bipush 60, 2) := by decide +kernel
theorem d_Mo_init_15 : decode b_Mo_init 15 = .ok (.newarray .int, 2) := by decide +kernel
theorem d_Mo_init_17 : decode b_Mo_init 17 = .ok (.putfield 13, 3) := by decide +kernel
theorem d_Mo_init_20 : decode b_Mo_init 20 = .ok (.aload_n 0, 1) := by decide +kernel
theorem d_Mo_init_21 : decode b_Mo_init 21 = .ok (.bipush 60, 2) := by decide +kernel
theorem d_Mo_init_23 : decode b_Mo_init 23 = .ok (.newarray .int, 2) := by decide +kernel
theorem d_Mo_init_25 : decode b_Mo_init 25 = .ok (.putfield 16, 3) := by decide +kernel
theorem d_Mo_init_28 : decode b_Mo_init 28 = .ok (.aload_n 0, 1) := by decide +kernel
theorem d_Mo_init_29 : decode b_Mo_init 29 = .ok (.bipush 60, 2) := by decide +kernel
theorem d_Mo_init_31 : decode b_Mo_init 31 = .ok (.newarray .int, 2) := by decide +kernel
theorem d_Mo_init_33 : decode b_Mo_init 33 = .ok (.putfield 19, 3) := by decide +kernel
theorem d_Mo_init_36 : decode b_Mo_init 36 = .ok (.aload_n 0, 1) := by decide +kernel
theorem d_Mo_init_37 : decode b_Mo_init 37 = .ok (.bipush 60, 2) := by decide +kernel
theorem d_Mo_init_39 : decode b_Mo_init 39 = .ok (.newarray .int, 2) := by decide +kernel
theorem d_Mo_init_41 : decode b_Mo_init 41 = .ok (.putfield 22, 3) := by decide +kernel
theorem d_Mo_init_44 : decode b_Mo_init 44 = .ok (.aload_n 0, 1) := by decide +kernel
theorem d_Mo_init_45 : decode b_Mo_init 45 = .ok (.bipush 8, 2) := by decide +kernel
theorem d_Mo_init_47 : decode b_Mo_init 47 = .ok (.newarray .int, 2) := by decide +kernel
theorem d_Mo_init_49 : decode b_Mo_init 49 = .ok (.putfield 25, 3) := by decide +kernel
theorem d_Mo_init_52 : decode b_Mo_init 52 = .ok (.aload_n 0, 1) := by decide +kernel
theorem d_Mo_init_53 : decode b_Mo_init 53 = .ok (.bipush 8, 2) := by decide +kernel
theorem d_Mo_init_55 : decode b_Mo_init 55 = .ok (.newarray .int, 2) := by decide +kernel
theorem d_Mo_init_57 : decode b_Mo_init 57 = .ok (.putfield 28, 3) := by decide +kernel
theorem d_Mo_init_60 : decode b_Mo_init 60 = .ok (.aload_n 0, 1) := by decide +kernel
