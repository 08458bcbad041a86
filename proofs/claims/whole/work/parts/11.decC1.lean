theorem d_Ch_firstFault_50 : decode b_Ch_firstFault 50 = .ok (.iconst 0, 1) := by decide +kernel
theorem d_Ch_firstFault_51 : decode b_Ch_firstFault 51 = .ok (.invokevirtual 29, 3) := by decide +kernel
theorem d_Ch_firstFault_54 : decode b_Ch_firstFault 54 = .ok (.istore_n 1, 1) := by decide +kernel
theorem d_Ch_firstFault_55 : decode b_Ch_firstFault 55 = .ok (.iinc 2 1, 3) := by decide +kernel
theorem d_Ch_firstFault_58 : decode b_Ch_firstFault 58 = .ok (.goto (-33), 3) := by decide +kernel
theorem d_Ch_firstFault_61 : decode b_Ch_firstFault 61 = .ok (.iload_n 1, 1) := by decide +kernel
theorem d_Ch_firstFault_62 : decode b_Ch_firstFault 62 = .ok (.ireturn, 1) := by decide +kernel
theorem d_Ch_faultFrom_0 : decode b_Ch_faultFrom 0 = .ok (.aload_n 0, 1) := by decide +kernel
theorem d_Ch_faultFrom_1 : decode b_Ch_faultFrom 1 = .ok (.iload_n 1, 1) := by decide +kernel
theorem d_Ch_faultFrom_2 : decode b_Ch_faultFrom 2 = .ok (.iload_n 2, 1) := by decide +kernel
theorem d_Ch_faultFrom_3 : decode b_Ch_faultFrom 3 = .ok (.invokevirtual 33, 3) := by decide +kernel
theorem d_Ch_faultFrom_6 : decode b_Ch_faultFrom 6 = .ok (.istore_n 3, 1) := by decide +kernel
theorem d_Ch_faultFrom_7 : decode b_Ch_faultFrom 7 = .ok (.iload_n 3, 1) := by decide +kernel
theorem d_Ch_faultFrom_8 : decode b_Ch_faultFrom 8 = .ok (.ifCond .ne 14, 3) := by decide +kernel
theorem d_Ch_faultFrom_11 : decode b_Ch_faultFrom 11 = .ok (.aload_n 0, 1) := by decide +kernel
theorem d_Ch_faultFrom_12 : decode b_Ch_faultFrom 12 = .ok (.getfield 15, 3) := by decide +kernel
theorem d_Ch_faultFrom_15 : decode b_Ch_faultFrom 15 = .ok (.iload_n 1, 1) := by decide +kernel
theorem d_Ch_faultFrom_16 : decode b_Ch_faultFrom 16 = .ok (.invokevirtual 36, 3) := by decide +kernel
theorem d_Ch_faultFrom_19 : decode b_Ch_faultFrom 19 = .ok (.ifCond .eq 5, 3) := by decide +kernel
theorem d_Ch_faultFrom_22 : decode b_Ch_faultFrom 22 = .ok (.iload_n 3, 1) := by decide +kernel
theorem d_Ch_faultFrom_23 : decode b_Ch_faultFrom 23 = .ok (.ireturn, 1) := by decide +kernel
theorem d_Ch_faultFrom_24 : decode b_Ch_faultFrom 24 = .ok (.aload_n 0, 1) := by decide +kernel
theorem d_Ch_faultFrom_25 : decode b_Ch_faultFrom 25 = .ok (.aload_n 0, 1) := by decide +kernel
theorem d_Ch_faultFrom_26 : decode b_Ch_faultFrom 26 = .ok (.getfield 15, 3) := by decide +kernel
theorem d_Ch_faultFrom_29 : decode b_Ch_faultFrom 29 = .ok (.getfield 40, 3) := by decide +kernel
theorem d_Ch_faultFrom_32 : decode b_Ch_faultFrom 32 = .ok (.iload_n 1, 1) := by decide +kernel
theorem d_Ch_faultFrom_33 : decode b_Ch_faultFrom 33 = .ok (.iaload, 1) := by decide +kernel
theorem d_Ch_faultFrom_34 : decode b_Ch_faultFrom 34 = .ok (.iload_n 2, 1) := by decide +kernel
theorem d_Ch_faultFrom_35 : decode b_Ch_faultFrom 35 = .ok (.iconst 1, 1) := by decide +kernel
theorem d_Ch_faultFrom_36 : decode b_Ch_faultFrom 36 = .ok (.iadd, 1) := by decide +kernel
theorem d_Ch_faultFrom_37 : decode b_Ch_faultFrom 37 = .ok (.invokevirtual 29, 3) := by decide +kernel
theorem d_Ch_faultFrom_40 : decode b_Ch_faultFrom 40 = .ok (.istore_n 3, 1) := by decide +kernel
theorem d_Ch_faultFrom_41 : decode b_Ch_faultFrom 41 = .ok (.iload_n 3, 1) := by decide +kernel
theorem d_Ch_faultFrom_42 : decode b_Ch_faultFrom 42 = .ok (.ifCond .eq 7, 3) := by decide +kernel
theorem d_Ch_faultFrom_45 : decode b_Ch_faultFrom 45 = .ok (.iload_n 3, 1) := by decide +kernel
theorem d_Ch_faultFrom_46 : decode b_Ch_faultFrom 46 = .ok (.goto 19, 3) := by decide +kernel
theorem d_Ch_faultFrom_49 : decode b_Ch_faultFrom 49 = .ok (.aload_n 0, 1) := by decide +kernel
theorem d_Ch_faultFrom_50 : decode b_Ch_faultFrom 50 = .ok (.aload_n 0, 1) := by decide +kernel
theorem d_Ch_faultFrom_51 : decode b_Ch_faultFrom 51 = .ok (.getfield 15, 3) := by decide +kernel
theorem d_Ch_faultFrom_54 : decode b_Ch_faultFrom 54 = .ok (.getfield 43, 3) := by decide +kernel
theorem d_Ch_faultFrom_57 : decode b_Ch_faultFrom 57 = .ok (.iload_n 1, 1) := by decide +kernel
theorem d_Ch_faultFrom_58 : decode b_Ch_faultFrom 58 = .ok (.iaload, 1) := by decide +kernel
theorem d_Ch_faultFrom_59 : decode b_Ch_faultFrom 59 = .ok (.iload_n 2, 1) := by decide +kernel
theorem d_Ch_faultFrom_60 : decode b_Ch_faultFrom 60 = .ok (.iconst 1, 1) := by decide +kernel
theorem d_Ch_faultFrom_61 : decode b_Ch_faultFrom 61 = .ok (.iadd, 1) := by decide +kernel
theorem d_Ch_faultFrom_62 : decode b_Ch_faultFrom 62 = .ok (.invokevirtual 29, 3) := by decide +kernel
theorem d_Ch_faultFrom_65 : decode b_Ch_faultFrom 65 = .ok (.ireturn, 1) := by decide +kernel
theorem d_Ch_faultAt_0 : decode b_Ch_faultAt 0 = .ok (.aload_n 0, 1) := by decide +kernel
theorem d_Ch_faultAt_1 : decode b_Ch_faultAt 1 = .ok (.getfield 9, 3) := by decide +kernel
theorem d_Ch_faultAt_4 : decode b_Ch_faultAt 4 = .ok (.iload_n 1, 1) := by decide +kernel
theorem d_Ch_faultAt_5 : decode b_Ch_faultAt 5 = .ok (.baload, 1) := by decide +kernel
theorem d_Ch_faultAt_6 : decode b_Ch_faultAt 6 = .ok (.ifCond .eq 9, 3) := by decide +kernel
theorem d_Ch_faultAt_9 : decode b_Ch_faultAt 9 = .ok (.sipush 200, 3) := by decide +kernel
theorem d_Ch_faultAt_12 : decode b_Ch_faultAt 12 = .ok (.iload_n 1, 1) := by decide +kernel
theorem d_Ch_faultAt_13 : decode b_Ch_faultAt 13 = .ok (.iadd, 1) := by decide +kernel
theorem d_Ch_faultAt_14 : decode b_Ch_faultAt 14 = .ok (.ireturn, 1) := by decide +kernel
theorem d_Ch_faultAt_15 : decode b_Ch_faultAt 15 = .ok (.aload_n 0, 1) := by decide +kernel
theorem d_Ch_faultAt_16 : decode b_Ch_faultAt 16 = .ok (.getfield 9, 3) := by decide +kernel
theorem d_Ch_faultAt_19 : decode b_Ch_faultAt 19 = .ok (.iload_n 1, 1) := by decide +kernel
theorem d_Ch_faultAt_20 : decode b_Ch_faultAt 20 = .ok (.iconst 1, 1) := by decide +kernel
theorem d_Ch_faultAt_21 : decode b_Ch_faultAt 21 = .ok (.bastore, 1) := by decide +kernel
theorem d_Ch_faultAt_22 : decode b_Ch_faultAt 22 = .ok (.iload_n 2, 1) := by decide +kernel
theorem d_Ch_faultAt_23 : decode b_Ch_faultAt 23 = .ok (.bipush 12, 2) := by decide +kernel
theorem d_Ch_faultAt_25 : decode b_Ch_faultAt 25 = .ok (.if_icmp .le 9, 3) := by decide +kernel
theorem d_Ch_faultAt_28 : decode b_Ch_faultAt 28 = .ok (.sipush 300, 3) := by decide +kernel
theorem d_Ch_faultAt_31 : decode b_Ch_faultAt 31 = .ok (.iload_n 1, 1) := by decide +kernel
theorem d_Ch_faultAt_32 : decode b_Ch_faultAt 32 = .ok (.iadd, 1) := by decide +kernel
theorem d_Ch_faultAt_33 : decode b_Ch_faultAt 33 = .ok (.ireturn, 1) := by decide +kernel
theorem d_Ch_faultAt_34 : decode b_Ch_faultAt 34 = .ok (.aload_n 0, 1) := by decide +kernel
theorem d_Ch_faultAt_35 : decode b_Ch_faultAt 35 = .ok (.iload_n 1, 1) := by decide +kernel
theorem d_Ch_faultAt_36 : decode b_Ch_faultAt 36 = .ok (.invokevirtual 46, 3) := by decide +kernel
theorem d_Ch_faultAt_39 : decode b_Ch_faultAt 39 = .ok (.ifCond .eq 10, 3) := by decide +kernel
theorem d_Ch_faultAt_42 : decode b_Ch_faultAt 42 = .ok (.bipush 100, 2) := by decide +kernel
theorem d_Ch_faultAt_44 : decode b_Ch_faultAt 44 = .ok (.iload_n 1, 1) := by decide +kernel
theorem d_Ch_faultAt_45 : decode b_Ch_faultAt 45 = .ok (.iadd, 1) := by decide +kernel
theorem d_Ch_faultAt_46 : decode b_Ch_faultAt 46 = .ok (.goto 4, 3) := by decide +kernel
theorem d_Ch_faultAt_49 : decode b_Ch_faultAt 49 = .ok (.iconst 0, 1) := by decide +kernel
theorem d_Ch_faultAt_50 : decode b_Ch_faultAt 50 = .ok (.ireturn, 1) := by decide +kernel
theorem d_Ch_isDangling_0 : decode b_Ch_isDangling 0 = .ok (.aload_n 0, 1) := by decide +kernel
theorem d_Ch_isDangling_1 : decode b_Ch_isDangling 1 = .ok (.getfield 15, 3) := by decide +kernel
theorem d_Ch_isDangling_4 : decode b_Ch_isDangling 4 = .ok (.iload_n 1, 1) := by decide +kernel
theorem d_Ch_isDangling_5 : decode b_Ch_isDangling 5 = .ok (.invokevirtual 36, 3) := by decide +kernel
theorem d_Ch_isDangling_8 : decode b_Ch_isDangling 8 = .ok (.ifCond .ne 45, 3) := by decide +kernel
theorem d_Ch_isDangling_11 : decode b_Ch_isDangling 11 = .ok (.aload_n 0, 1) := by decide +kernel
theorem d_Ch_isDangling_12 : decode b_Ch_isDangling 12 = .ok (.getfield 15, 3) := by decide +kernel
theorem d_Ch_isDangling_15 : decode b_Ch_isDangling 15 = .ok (.aload_n 0, 1) := by decide +kernel
theorem d_Ch_isDangling_16 : decode b_Ch_isDangling 16 = .ok (.getfield 15, 3) := by decide +kernel
theorem d_Ch_isDangling_19 : decode b_Ch_isDangling 19 = .ok (.getfield 40, 3) := by decide +kernel
theorem d_Ch_isDangling_22 : decode b_Ch_isDangling 22 = .ok (.iload_n 1, 1) := by decide +kernel
theorem d_Ch_isDangling_23 : decode b_Ch_isDangling 23 = .ok (.iaload, 1) := by decide +kernel
theorem d_Ch_isDangling_24 : decode b_Ch_isDangling 24 = .ok (.invokevirtual 49, 3) := by decide +kernel
theorem d_Ch_isDangling_27 : decode b_Ch_isDangling 27 = .ok (.ifCond .eq 22, 3) := by decide +kernel
theorem d_Ch_isDangling_30 : decode b_Ch_isDangling 30 = .ok (.aload_n 0, 1) := by decide +kernel
theorem d_Ch_isDangling_31 : decode b_Ch_isDangling 31 = .ok (.getfield 15, 3) := by decide +kernel
theorem d_Ch_isDangling_34 : decode b_Ch_isDangling 34 = .ok (.aload_n 0, 1) := by decide +kernel
theorem d_Ch_isDangling_35 : decode b_Ch_isDangling 35 = .ok (.getfield 15, 3) := by decide +kernel
theorem d_Ch_isDangling_38 : decode b_Ch_isDangling 38 = .ok (.getfield 43, 3) := by decide +kernel
theorem d_Ch_isDangling_41 : decode b_Ch_isDangling 41 = .ok (.iload_n 1, 1) := by decide +kernel
theorem d_Ch_isDangling_42 : decode b_Ch_isDangling 42 = .ok (.iaload, 1) := by decide +kernel
theorem d_Ch_isDangling_43 : decode b_Ch_isDangling 43 = .ok (.invokevirtual 49, 3) := by decide +kernel
theorem d_Ch_isDangling_46 : decode b_Ch_isDangling 46 = .ok (.ifCond .ne 7, 3) := by decide +kernel
theorem d_Ch_isDangling_49 : decode b_Ch_isDangling 49 = .ok (.iconst 1, 1) := by decide +kernel
theorem d_Ch_isDangling_50 : decode b_Ch_isDangling 50 = .ok (.goto 4, 3) := by decide +kernel
theorem d_Ch_isDangling_53 : decode b_Ch_isDangling 53 = .ok (.iconst 0, 1) := by decide +kernel
theorem d_Ch_isDangling_54 : decode b_Ch_isDangling 54 = .ok (.ireturn, 1) := by decide +kernel
theorem d_Cu_cutTrees_0 : decode b_Cu_cutTrees 0 = .ok (.aload_n 0, 1) := by decide +kernel
theorem d_Cu_cutTrees_1 : decode b_Cu_cutTrees 1 = .ok (.iconst 0, 1) := by decide +kernel
theorem d_Cu_cutTrees_2 : decode b_Cu_cutTrees 2 = .ok (.putfield 25, 3) := by decide +kernel
theorem d_Cu_cutTrees_5 : decode b_Cu_cutTrees 5 = .ok (.iconst 0, 1) := by decide +kernel
theorem d_Cu_cutTrees_6 : decode b_Cu_cutTrees 6 = .ok (.istore_n 2, 1) := by decide +kernel
theorem d_Cu_cutTrees_7 : decode b_Cu_cutTrees 7 = .ok (.iload_n 2, 1) := by decide +kernel
theorem d_Cu_cutTrees_8 : decode b_Cu_cutTrees 8 = .ok (.bipush 60, 2) := by decide +kernel
theorem d_Cu_cutTrees_10 : decode b_Cu_cutTrees 10 = .ok (.if_icmp .ge 16, 3) := by decide +kernel
theorem d_Cu_cutTrees_13 : decode b_Cu_cutTrees 13 = .ok (.aload_n 0, 1) := by decide +kernel
theorem d_Cu_cutTrees_14 : decode b_Cu_cutTrees 14 = .ok (.getfield 15, 3) := by decide +kernel
theorem d_Cu_cutTrees_17 : decode b_Cu_cutTrees 17 = .ok (.iload_n 2, 1) := by decide +kernel
theorem d_Cu_cutTrees_18 : decode b_Cu_cutTrees 18 = .ok (.iconst (-1), 1) := by decide +kernel
theorem d_Cu_cutTrees_19 : decode b_Cu_cutTrees 19 = .ok (.iastore, 1) := by decide +kernel
theorem d_Cu_cutTrees_20 : decode b_Cu_cutTrees 20 = .ok (.iinc 2 1, 3) := by decide +kernel
theorem d_Cu_cutTrees_23 : decode b_Cu_cutTrees 23 = .ok (.goto (-16), 3) := by decide +kernel
theorem d_Cu_cutTrees_26 : decode b_Cu_cutTrees 26 = .ok (.iconst 0, 1) := by decide +kernel
theorem d_Cu_cutTrees_27 : decode b_Cu_cutTrees 27 = .ok (.istore_n 2, 1) := by decide +kernel
theorem d_Cu_cutTrees_28 : decode b_Cu_cutTrees 28 = .ok (.iload_n 2, 1) := by decide +kernel
theorem d_Cu_cutTrees_29 : decode b_Cu_cutTrees 29 = .ok (.aload_n 0, 1) := by decide +kernel
theorem d_Cu_cutTrees_30 : decode b_Cu_cutTrees 30 = .ok (.getfield 21, 3) := by decide +kernel
theorem d_Cu_cutTrees_33 : decode b_Cu_cutTrees 33 = .ok (.getfield 29, 3) := by decide +kernel
theorem d_Cu_cutTrees_36 : decode b_Cu_cutTrees 36 = .ok (.if_icmp .ge 37, 3) := by decide +kernel
theorem d_Cu_cutTrees_39 : decode b_Cu_cutTrees 39 = .ok (.aload_n 0, 1) := by decide +kernel
theorem d_Cu_cutTrees_40 : decode b_Cu_cutTrees 40 = .ok (.aload_n 0, 1) := by decide +kernel
theorem d_Cu_cutTrees_41 : decode b_Cu_cutTrees 41 = .ok (.getfield 21, 3) := by decide +kernel
theorem d_Cu_cutTrees_44 : decode b_Cu_cutTrees 44 = .ok (.getfield 34, 3) := by decide +kernel
theorem d_Cu_cutTrees_47 : decode b_Cu_cutTrees 47 = .ok (.iload_n 2, 1) := by decide +kernel
theorem d_Cu_cutTrees_48 : decode b_Cu_cutTrees 48 = .ok (.iaload, 1) := by decide +kernel
theorem d_Cu_cutTrees_49 : decode b_Cu_cutTrees 49 = .ok (.iload_n 1, 1) := by decide +kernel
theorem d_Cu_cutTrees_50 : decode b_Cu_cutTrees 50 = .ok (.iconst 0, 1) := by decide +kernel
theorem d_Cu_cutTrees_51 : decode b_Cu_cutTrees 51 = .ok (.invokevirtual 37, 3) := by decide +kernel
theorem d_Cu_cutTrees_54 : decode b_Cu_cutTrees 54 = .ok (.aload_n 0, 1) := by decide +kernel
theorem d_Cu_cutTrees_55 : decode b_Cu_cutTrees 55 = .ok (.aload_n 0, 1) := by decide +kernel
theorem d_Cu_cutTrees_56 : decode b_Cu_cutTrees 56 = .ok (.getfield 21, 3) := by decide +kernel
theorem d_Cu_cutTrees_59 : decode b_Cu_cutTrees 59 = .ok (.getfield 34, 3) := by decide +kernel
theorem d_Cu_cutTrees_62 : decode b_Cu_cutTrees 62 = .ok (.iload_n 2, 1) := by decide +kernel
theorem d_Cu_cutTrees_63 : decode b_Cu_cutTrees 63 = .ok (.iaload, 1) := by decide +kernel
theorem d_Cu_cutTrees_64 : decode b_Cu_cutTrees 64 = .ok (.invokevirtual 41, 3) := by decide +kernel
theorem d_Cu_cutTrees_67 : decode b_Cu_cutTrees 67 = .ok (.iinc 2 1, 3) := by decide +kernel
theorem d_Cu_cutTrees_70 : decode b_Cu_cutTrees 70 = .ok (.goto (-42), 3) := by decide +kernel
theorem d_Cu_cutTrees_73 : decode b_Cu_cutTrees 73 = .ok (.return_, 1) := by decide +kernel
theorem d_Cu_cutFrom_0 : decode b_Cu_cutFrom 0 = .ok (.aload_n 0, 1) := by decide +kernel
theorem d_Cu_cutFrom_1 : decode b_Cu_cutFrom 1 = .ok (.getfield 21, 3) := by decide +kernel
theorem d_Cu_cutFrom_4 : decode b_Cu_cutFrom 4 = .ok (.iload_n 1, 1) := by decide +kernel
theorem d_Cu_cutFrom_5 : decode b_Cu_cutFrom 5 = .ok (.invokevirtual 45, 3) := by decide +kernel
theorem d_Cu_cutFrom_8 : decode b_Cu_cutFrom 8 = .ok (.ifCond .ne 9, 3) := by decide +kernel
theorem d_Cu_cutFrom_11 : decode b_Cu_cutFrom 11 = .ok (.iload_n 3, 1) := by decide +kernel
theorem d_Cu_cutFrom_12 : decode b_Cu_cutFrom 12 = .ok (.bipush 12, 2) := by decide +kernel
theorem d_Cu_cutFrom_14 : decode b_Cu_cutFrom 14 = .ok (.if_icmp .le 11, 3) := by decide +kernel
theorem d_Cu_cutFrom_17 : decode b_Cu_cutFrom 17 = .ok (.aload_n 0, 1) := by decide +kernel
theorem d_Cu_cutFrom_18 : decode b_Cu_cutFrom 18 = .ok (.getfield 9, 3) := by decide +kernel
theorem d_Cu_cutFrom_21 : decode b_Cu_cutFrom 21 = .ok (.iload_n 1, 1) := by decide +kernel
theorem d_Cu_cutFrom_22 : decode b_Cu_cutFrom 22 = .ok (.iconst 3, 1) := by decide +kernel
theorem d_Cu_cutFrom_23 : decode b_Cu_cutFrom 23 = .ok (.iastore, 1) := by decide +kernel
theorem d_Cu_cutFrom_24 : decode b_Cu_cutFrom 24 = .ok (.return_, 1) := by decide +kernel
theorem d_Cu_cutFrom_25 : decode b_Cu_cutFrom 25 = .ok (.aload_n 0, 1) := by decide +kernel
theorem d_Cu_cutFrom_26 : decode b_Cu_cutFrom 26 = .ok (.aload_n 0, 1) := by decide +kernel
theorem d_Cu_cutFrom_27 : decode b_Cu_cutFrom 27 = .ok (.getfield 21, 3) := by decide +kernel
theorem d_Cu_cutFrom_30 : decode b_Cu_cutFrom 30 = .ok (.getfield 49, 3) := by decide +kernel
theorem d_Cu_cutFrom_33 : decode b_Cu_cutFrom 33 = .ok (.iload_n 1, 1) := by decide +kernel
theorem d_Cu_cutFrom_34 : decode b_Cu_cutFrom 34 = .ok (.iaload, 1) := by decide +kernel
theorem d_Cu_cutFrom_35 : decode b_Cu_cutFrom 35 = .ok (.iload_n 2, 1) := by decide +kernel
theorem d_Cu_cutFrom_36 : decode b_Cu_cutFrom 36 = .ok (.iload_n 3, 1) := by decide +kernel
theorem d_Cu_cutFrom_37 : decode b_Cu_cutFrom 37 = .ok (.iconst 1, 1) := by decide +kernel
theorem d_Cu_cutFrom_38 : decode b_Cu_cutFrom 38 = .ok (.iadd, 1) := by decide +kernel
theorem d_Cu_cutFrom_39 : decode b_Cu_cutFrom 39 = .ok (.invokevirtual 37, 3) := by decide +kernel
theorem d_Cu_cutFrom_42 : decode b_Cu_cutFrom 42 = .ok (.aload_n 0, 1) := by decide +kernel
theorem d_Cu_cutFrom_43 : decode b_Cu_cutFrom 43 = .ok (.aload_n 0, 1) := by decide +kernel
theorem d_Cu_cutFrom_44 : decode b_Cu_cutFrom 44 = .ok (.getfield 21, 3) := by decide +kernel
theorem d_Cu_cutFrom_47 : decode b_Cu_cutFrom 47 = .ok (.getfield 52, 3) := by decide +kernel
theorem d_Cu_cutFrom_50 : decode b_Cu_cutFrom 50 = .ok (.iload_n 1, 1) := by decide +kernel
theorem d_Cu_cutFrom_51 : decode b_Cu_cutFrom 51 = .ok (.iaload, 1) := by decide +kernel
theorem d_Cu_cutFrom_52 : decode b_Cu_cutFrom 52 = .ok (.iload_n 2, 1) := by decide +kernel
theorem d_Cu_cutFrom_53 : decode b_Cu_cutFrom 53 = .ok (.iload_n 3, 1) := by decide +kernel
theorem d_Cu_cutFrom_54 : decode b_Cu_cutFrom 54 = .ok (.iconst 1, 1) := by decide +kernel
theorem d_Cu_cutFrom_55 : decode b_Cu_cutFrom 55 = .ok (.iadd, 1) := by decide +kernel
theorem d_Cu_cutFrom_56 : decode b_Cu_cutFrom 56 = .ok (.invokevirtual 37, 3) := by decide +kernel
theorem d_Cu_cutFrom_59 : decode b_Cu_cutFrom 59 = .ok (.aload_n 0, 1) := by decide +kernel
theorem d_Cu_cutFrom_60 : decode b_Cu_cutFrom 60 = .ok (.iload_n 1, 1) := by decide +kernel
theorem d_Cu_cutFrom_61 : decode b_Cu_cutFrom 61 = .ok (.iload_n 2, 1) := by decide +kernel
theorem d_Cu_cutFrom_62 : decode b_Cu_cutFrom 62 = .ok (.invokevirtual 55, 3) := by decide +kernel
theorem d_Cu_cutFrom_65 : decode b_Cu_cutFrom 65 = .ok (.aload_n 0, 1) := by decide +kernel
theorem d_Cu_cutFrom_66 : decode b_Cu_cutFrom 66 = .ok (.getfield 9, 3) := by decide +kernel
theorem d_Cu_cutFrom_69 : decode b_Cu_cutFrom 69 = .ok (.iload_n 1, 1) := by decide +kernel
theorem d_Cu_cutFrom_70 : decode b_Cu_cutFrom 70 = .ok (.aload_n 0, 1) := by decide +kernel
theorem d_Cu_cutFrom_71 : decode b_Cu_cutFrom 71 = .ok (.iload_n 1, 1) := by decide +kernel
theorem d_Cu_cutFrom_72 : decode b_Cu_cutFrom 72 = .ok (.invokevirtual 59, 3) := by decide +kernel
theorem d_Cu_cutFrom_75 : decode b_Cu_cutFrom 75 = .ok (.iastore, 1) := by decide +kernel
theorem d_Cu_cutFrom_76 : decode b_Cu_cutFrom 76 = .ok (.return_, 1) := by decide +kernel
theorem d_Cu_cutChildren_0 : decode b_Cu_cutChildren 0 = .ok (.aload_n 0, 1) := by decide +kernel
theorem d_Cu_cutChildren_1 : decode b_Cu_cutChildren 1 = .ok (.getfield 21, 3) := by decide +kernel
theorem d_Cu_cutChildren_4 : decode b_Cu_cutChildren 4 = .ok (.getfield 49, 3) := by decide +kernel
theorem d_Cu_cutChildren_7 : decode b_Cu_cutChildren 7 = .ok (.iload_n 1, 1) := by decide +kernel
theorem d_Cu_cutChildren_8 : decode b_Cu_cutChildren 8 = .ok (.iaload, 1) := by decide +kernel
theorem d_Cu_cutChildren_9 : decode b_Cu_cutChildren 9 = .ok (.istore_n 3, 1) := by decide +kernel
theorem d_Cu_cutChildren_10 : decode b_Cu_cutChildren 10 = .ok (.aload_n 0, 1) := by decide +kernel
theorem d_Cu_cutChildren_11 : decode b_Cu_cutChildren 11 = .ok (.getfield 21, 3) := by decide +kernel
theorem d_Cu_cutChildren_14 : decode b_Cu_cutChildren 14 = .ok (.getfield 52, 3) := by decide +kernel
theorem d_Cu_cutChildren_17 : decode b_Cu_cutChildren 17 = .ok (.iload_n 1, 1) := by decide +kernel
theorem d_Cu_cutChildren_18 : decode b_Cu_cutChildren 18 = .ok (.iaload, 1) := by decide +kernel
theorem d_Cu_cutChildren_19 : decode b_Cu_cutChildren 19 = .ok (.istore 4, 2) := by decide +kernel
theorem d_Cu_cutChildren_21 : decode b_Cu_cutChildren 21 = .ok (.aload_n 0, 1) := by decide +kernel
theorem d_Cu_cutChildren_22 : decode b_Cu_cutChildren 22 = .ok (.iload_n 1, 1) := by decide +kernel
theorem d_Cu_cutChildren_23 : decode b_Cu_cutChildren 23 = .ok (.invokevirtual 59, 3) := by decide +kernel
theorem d_Cu_cutChildren_26 : decode b_Cu_cutChildren 26 = .ok (.iload_n 2, 1) := by decide +kernel
theorem d_Cu_cutChildren_27 : decode b_Cu_cutChildren 27 = .ok (.if_icmp .gt 4, 3) := by decide +kernel
theorem d_Cu_cutChildren_30 : decode b_Cu_cutChildren 30 = .ok (.return_, 1) := by decide +kernel
theorem d_Cu_cutChildren_31 : decode b_Cu_cutChildren 31 = .ok (.aload_n 0, 1) := by decide +kernel
theorem d_Cu_cutChildren_32 : decode b_Cu_cutChildren 32 = .ok (.iload_n 3, 1) := by decide +kernel
theorem d_Cu_cutChildren_33 : decode b_Cu_cutChildren 33 = .ok (.invokevirtual 63, 3) := by decide +kernel
theorem d_Cu_cutChildren_36 : decode b_Cu_cutChildren 36 = .ok (.aload_n 0, 1) := by decide +kernel
theorem d_Cu_cutChildren_37 : decode b_Cu_cutChildren 37 = .ok (.iload 4, 2) := by decide +kernel
theorem d_Cu_cutChildren_39 : decode b_Cu_cutChildren 39 = .ok (.invokevirtual 63, 3) := by decide +kernel
theorem d_Cu_cutChildren_42 : decode b_Cu_cutChildren 42 = .ok (.if_icmp .lt 7, 3) := by decide +kernel
theorem d_Cu_cutChildren_45 : decode b_Cu_cutChildren 45 = .ok (.iconst 1, 1) := by decide +kernel
theorem d_Cu_cutChildren_46 : decode b_Cu_cutChildren 46 = .ok (.goto 4, 3) := by decide +kernel
theorem d_Cu_cutChildren_49 : decode b_Cu_cutChildren 49 = .ok (.iconst 0, 1) := by decide +kernel
theorem d_Cu_cutChildren_50 : decode b_Cu_cutChildren 50 = .ok (.istore 5, 2) := by decide +kernel
theorem d_Cu_cutChildren_52 : decode b_Cu_cutChildren 52 = .ok (.aload_n 0, 1) := by decide +kernel
theorem d_Cu_cutChildren_53 : decode b_Cu_cutChildren 53 = .ok (.iload 5, 2) := by decide +kernel
theorem d_Cu_cutChildren_55 : decode b_Cu_cutChildren 55 = .ok (.ifCond .eq 7, 3) := by decide +kernel
theorem d_Cu_cutChildren_58 : decode b_Cu_cutChildren 58 = .ok (.iload_n 3, 1) := by decide +kernel
theorem d_Cu_cutChildren_59 : decode b_Cu_cutChildren 59 = .ok (.goto 5, 3) := by decide +kernel
theorem d_Cu_cutChildren_62 : decode b_Cu_cutChildren 62 = .ok (.iload 4, 2) := by decide +kernel
theorem d_Cu_cutChildren_64 : decode b_Cu_cutChildren 64 = .ok (.invokevirtual 41, 3) := by decide +kernel
theorem d_Cu_cutChildren_67 : decode b_Cu_cutChildren 67 = .ok (.aload_n 0, 1) := by decide +kernel
theorem d_Cu_cutChildren_68 : decode b_Cu_cutChildren 68 = .ok (.iload_n 1, 1) := by decide +kernel
theorem d_Cu_cutChildren_69 : decode b_Cu_cutChildren 69 = .ok (.invokevirtual 59, 3) := by decide +kernel
theorem d_Cu_cutChildren_72 : decode b_Cu_cutChildren 72 = .ok (.iload_n 2, 1) := by decide +kernel
theorem d_Cu_cutChildren_73 : decode b_Cu_cutChildren 73 = .ok (.if_icmp .le 18, 3) := by decide +kernel
theorem d_Cu_cutChildren_76 : decode b_Cu_cutChildren 76 = .ok (.aload_n 0, 1) := by decide +kernel
theorem d_Cu_cutChildren_77 : decode b_Cu_cutChildren 77 = .ok (.iload 5, 2) := by decide +kernel
theorem d_Cu_cutChildren_79 : decode b_Cu_cutChildren 79 = .ok (.ifCond .eq 8, 3) := by decide +kernel
theorem d_Cu_cutChildren_82 : decode b_Cu_cutChildren 82 = .ok (.iload 4, 2) := by decide +kernel
theorem d_Cu_cutChildren_84 : decode b_Cu_cutChildren 84 = .ok (.goto 4, 3) := by decide +kernel
theorem d_Cu_cutChildren_87 : decode b_Cu_cutChildren 87 = .ok (.iload_n 3, 1) := by decide +kernel
theorem d_Cu_cutChildren_88 : decode b_Cu_cutChildren 88 = .ok (.invokevirtual 41, 3) := by decide +kernel
theorem d_Cu_cutChildren_91 : decode b_Cu_cutChildren 91 = .ok (.return_, 1) := by decide +kernel
theorem d_Cu_cutOut_0 : decode b_Cu_cutOut 0 = .ok (.aload_n 0, 1) := by decide +kernel
theorem d_Cu_cutOut_1 : decode b_Cu_cutOut 1 = .ok (.getfield 25, 3) := by decide +kernel
theorem d_Cu_cutOut_4 : decode b_Cu_cutOut 4 = .ok (.bipush 60, 2) := by decide +kernel
theorem d_Cu_cutOut_6 : decode b_Cu_cutOut 6 = .ok (.if_icmp .ge 33, 3) := by decide +kernel
theorem d_Cu_cutOut_9 : decode b_Cu_cutOut 9 = .ok (.aload_n 0, 1) := by decide +kernel
theorem d_Cu_cutOut_10 : decode b_Cu_cutOut 10 = .ok (.getfield 15, 3) := by decide +kernel
theorem d_Cu_cutOut_13 : decode b_Cu_cutOut 13 = .ok (.iload_n 1, 1) := by decide +kernel
theorem d_Cu_cutOut_14 : decode b_Cu_cutOut 14 = .ok (.aload_n 0, 1) := by decide +kernel
theorem d_Cu_cutOut_15 : decode b_Cu_cutOut 15 = .ok (.getfield 25, 3) := by decide +kernel
theorem d_Cu_cutOut_18 : decode b_Cu_cutOut 18 = .ok (.iastore, 1) := by decide +kernel
theorem d_Cu_cutOut_19 : decode b_Cu_cutOut 19 = .ok (.aload_n 0, 1) := by decide +kernel
theorem d_Cu_cutOut_20 : decode b_Cu_cutOut 20 = .ok (.getfield 18, 3) := by decide +kernel
theorem d_Cu_cutOut_23 : decode b_Cu_cutOut 23 = .ok (.aload_n 0, 1) := by decide +kernel
theorem d_Cu_cutOut_24 : decode b_Cu_cutOut 24 = .ok (.getfield 25, 3) := by decide +kernel
theorem d_Cu_cutOut_27 : decode b_Cu_cutOut 27 = .ok (.iload_n 1, 1) := by decide +kernel
theorem d_Cu_cutOut_28 : decode b_Cu_cutOut 28 = .ok (.iastore, 1) := by decide +kernel
theorem d_Cu_cutOut_29 : decode b_Cu_cutOut 29 = .ok (.aload_n 0, 1) := by decide +kernel
theorem d_Cu_cutOut_30 : decode b_Cu_cutOut 30 = .ok (.dup, 1) := by decide +kernel
theorem d_Cu_cutOut_31 : decode b_Cu_cutOut 31 = .ok (.getfield 25, 3) := by decide +kernel
theorem d_Cu_cutOut_34 : decode b_Cu_cutOut 34 = .ok (.iconst 1, 1) := by decide +kernel
theorem d_Cu_cutOut_35 : decode b_Cu_cutOut 35 = .ok (.iadd, 1) := by decide +kernel
theorem d_Cu_cutOut_36 : decode b_Cu_cutOut 36 = .ok (.putfield 25, 3) := by decide +kernel
theorem d_Cu_cutOut_39 : decode b_Cu_cutOut 39 = .ok (.return_, 1) := by decide +kernel
theorem d_Cu_splitLength_0 : decode b_Cu_splitLength 0 = .ok (.aload_n 0, 1) := by decide +kernel
theorem d_Cu_splitLength_1 : decode b_Cu_splitLength 1 = .ok (.aload_n 0, 1) := by decide +kernel
theorem d_Cu_splitLength_2 : decode b_Cu_splitLength 2 = .ok (.getfield 21, 3) := by decide +kernel
theorem d_Cu_splitLength_5 : decode b_Cu_splitLength 5 = .ok (.getfield 49, 3) := by decide +kernel
theorem d_Cu_splitLength_8 : decode b_Cu_splitLength 8 = .ok (.iload_n 1, 1) := by decide +kernel
theorem d_Cu_splitLength_9 : decode b_Cu_splitLength 9 = .ok (.iaload, 1) := by decide +kernel
theorem d_Cu_splitLength_10 : decode b_Cu_splitLength 10 = .ok (.invokevirtual 63, 3) := by decide +kernel
theorem d_Cu_splitLength_13 : decode b_Cu_splitLength 13 = .ok (.istore_n 2, 1) := by decide +kernel
theorem d_Cu_splitLength_14 : decode b_Cu_splitLength 14 = .ok (.iconst 4, 1) := by decide +kernel
theorem d_Cu_splitLength_15 : decode b_Cu_splitLength 15 = .ok (.iload_n 2, 1) := by decide +kernel
theorem d_Cu_splitLength_16 : decode b_Cu_splitLength 16 = .ok (.invokestatic 66, 3) := by decide +kernel
theorem d_Cu_splitLength_19 : decode b_Cu_splitLength 19 = .ok (.iadd, 1) := by decide +kernel
theorem d_Cu_splitLength_20 : decode b_Cu_splitLength 20 = .ok (.iload_n 2, 1) := by decide +kernel
theorem d_Cu_splitLength_21 : decode b_Cu_splitLength 21 = .ok (.iadd, 1) := by decide +kernel
theorem d_Cu_splitLength_22 : decode b_Cu_splitLength 22 = .ok (.aload_n 0, 1) := by decide +kernel
theorem d_Cu_splitLength_23 : decode b_Cu_splitLength 23 = .ok (.aload_n 0, 1) := by decide +kernel
theorem d_Cu_splitLength_24 : decode b_Cu_splitLength 24 = .ok (.getfield 21, 3) := by decide +kernel
theorem d_Cu_splitLength_27 : decode b_Cu_splitLength 27 = .ok (.getfield 52, 3) := by decide +kernel
theorem d_Cu_splitLength_30 : decode b_Cu_splitLength 30 = .ok (.iload_n 1, 1) := by decide +kernel
theorem d_Cu_splitLength_31 : decode b_Cu_splitLength 31 = .ok (.iaload, 1) := by decide +kernel
theorem d_Cu_splitLength_32 : decode b_Cu_splitLength 32 = .ok (.invokevirtual 63, 3) := by decide +kernel
theorem d_Cu_splitLength_35 : decode b_Cu_splitLength 35 = .ok (.iadd, 1) := by decide +kernel
theorem d_Cu_splitLength_36 : decode b_Cu_splitLength 36 = .ok (.ireturn, 1) := by decide +kernel
theorem d_Cu_partLength_0 : decode b_Cu_partLength 0 = .ok (.aload_n 0, 1) := by decide +kernel
theorem d_Cu_partLength_1 : decode b_Cu_partLength 1 = .ok (.getfield 15, 3) := by decide +kernel
theorem d_Cu_partLength_4 : decode b_Cu_partLength 4 = .ok (.iload_n 1, 1) := by decide +kernel
theorem d_Cu_partLength_5 : decode b_Cu_partLength 5 = .ok (.iaload, 1) := by decide +kernel
theorem d_Cu_partLength_6 : decode b_Cu_partLength 6 = .ok (.iconst (-1), 1) := by decide +kernel
theorem d_Cu_partLength_7 : decode b_Cu_partLength 7 = .ok (.if_icmp .ne 12, 3) := by decide +kernel
theorem d_Cu_partLength_10 : decode b_Cu_partLength 10 = .ok (.aload_n 0, 1) := by decide +kernel
theorem d_Cu_partLength_11 : decode b_Cu_partLength 11 = .ok (.getfield 9, 3) := by decide +kernel
theorem d_Cu_partLength_14 : decode b_Cu_partLength 14 = .ok (.iload_n 1, 1) := by decide +kernel
theorem d_Cu_partLength_15 : decode b_Cu_partLength 15 = .ok (.iaload, 1) := by decide +kernel
theorem d_Cu_partLength_16 : decode b_Cu_partLength 16 = .ok (.goto 4, 3) := by decide +kernel
theorem d_Cu_partLength_19 : decode b_Cu_partLength 19 = .ok (.iconst 3, 1) := by decide +kernel
theorem d_Cu_partLength_20 : decode b_Cu_partLength 20 = .ok (.ireturn, 1) := by decide +kernel
theorem d_Cu_testLength_0 : decode b_Cu_testLength 0 = .ok (.iconst 2, 1) := by decide +kernel
theorem d_Cu_testLength_1 : decode b_Cu_testLength 1 = .ok (.iload_n 0, 1) := by decide +kernel
theorem d_Cu_testLength_2 : decode b_Cu_testLength 2 = .ok (.iadd, 1) := by decide +kernel
theorem d_Cu_testLength_3 : decode b_Cu_testLength 3 = .ok (.bipush 63, 2) := by decide +kernel
theorem d_Cu_testLength_5 : decode b_Cu_testLength 5 = .ok (.if_icmp .gt 7, 3) := by decide +kernel
theorem d_Cu_testLength_8 : decode b_Cu_testLength 8 = .ok (.iconst 2, 1) := by decide +kernel
theorem d_Cu_testLength_9 : decode b_Cu_testLength 9 = .ok (.goto 4, 3) := by decide +kernel
theorem d_Cu_testLength_12 : decode b_Cu_testLength 12 = .ok (.iconst 3, 1) := by decide +kernel
theorem d_Cu_testLength_13 : decode b_Cu_testLength 13 = .ok (.ireturn, 1) := by decide +kernel
theorem d_Ta_forgetAll_0 : decode b_Ta_forgetAll 0 = .ok (.aload_n 0, 1) := by decide +kernel
theorem d_Ta_forgetAll_1 : decode b_Ta_forgetAll 1 = .ok (.iconst 0, 1) := by decide +kernel
theorem d_Ta_forgetAll_2 : decode b_Ta_forgetAll 2 = .ok (.putfield 21, 3) := by decide +kernel
theorem d_Ta_forgetAll_5 : decode b_Ta_forgetAll 5 = .ok (.aload_n 0, 1) := by decide +kernel
theorem d_Ta_forgetAll_6 : decode b_Ta_forgetAll 6 = .ok (.getfield 18, 3) := by decide +kernel
theorem d_Ta_forgetAll_9 : decode b_Ta_forgetAll 9 = .ok (.iconst 0, 1) := by decide +kernel
theorem d_Ta_forgetAll_10 : decode b_Ta_forgetAll 10 = .ok (.iconst 0, 1) := by decide +kernel
theorem d_Ta_forgetAll_11 : decode b_Ta_forgetAll 11 = .ok (.iastore, 1) := by decide +kernel
theorem d_Ta_forgetAll_12 : decode b_Ta_forgetAll 12 = .ok (.return_, 1) := by decide +kernel
theorem d_Ta_openClass_0 : decode b_Ta_openClass 0 = .ok (.aload_n 0, 1) := by decide +kernel
theorem d_Ta_openClass_1 : decode b_Ta_openClass 1 = .ok (.getfield 21, 3) := by decide +kernel
theorem d_Ta_openClass_4 : decode b_Ta_openClass 4 = .ok (.bipush 60, 2) := by decide +kernel
theorem d_Ta_openClass_6 : decode b_Ta_openClass 6 = .ok (.if_icmp .ge 33, 3) := by decide +kernel
theorem d_Ta_openClass_9 : decode b_Ta_openClass 9 = .ok (.aload_n 0, 1) := by decide +kernel
theorem d_Ta_openClass_10 : decode b_Ta_openClass 10 = .ok (.getfield 18, 3) := by decide +kernel
theorem d_Ta_openClass_13 : decode b_Ta_openClass 13 = .ok (.aload_n 0, 1) := by decide +kernel
theorem d_Ta_openClass_14 : decode b_Ta_openClass 14 = .ok (.getfield 21, 3) := by decide +kernel
theorem d_Ta_openClass_17 : decode b_Ta_openClass 17 = .ok (.iconst 1, 1) := by decide +kernel
theorem d_Ta_openClass_18 : decode b_Ta_openClass 18 = .ok (.iadd, 1) := by decide +kernel
theorem d_Ta_openClass_19 : decode b_Ta_openClass 19 = .ok (.aload_n 0, 1) := by decide +kernel
theorem d_Ta_openClass_20 : decode b_Ta_openClass 20 = .ok (.getfield 18, 3) := by decide +kernel
theorem d_Ta_openClass_23 : decode b_Ta_openClass 23 = .ok (.aload_n 0, 1) := by decide +kernel
theorem d_Ta_openClass_24 : decode b_Ta_openClass 24 = .ok (.getfield 21, 3) := by decide +kernel
theorem d_Ta_openClass_27 : decode b_Ta_openClass 27 = .ok (.iaload, 1) := by decide +kernel
theorem d_Ta_openClass_28 : decode b_Ta_openClass 28 = .ok (.iastore, 1) := by decide +kernel
theorem d_Ta_openClass_29 : decode b_Ta_openClass 29 = .ok (.aload_n 0, 1) := by decide +kernel
theorem d_Ta_openClass_30 : decode b_Ta_openClass 30 = .ok (.dup, 1) := by decide +kernel
theorem d_Ta_openClass_31 : decode b_Ta_openClass 31 = .ok (.getfield 21, 3) := by decide +kernel
theorem d_Ta_openClass_34 : decode b_Ta_openClass 34 = .ok (.iconst 1, 1) := by decide +kernel
theorem d_Ta_openClass_35 : decode b_Ta_openClass 35 = .ok (.iadd, 1) := by decide +kernel
theorem d_Ta_openClass_36 : decode b_Ta_openClass 36 = .ok (.putfield 21, 3) := by decide +kernel
theorem d_Ta_openClass_39 : decode b_Ta_openClass 39 = .ok (.return_, 1) := by decide +kernel
theorem d_Ta_isClass_0 : decode b_Ta_isClass 0 = .ok (.iload_n 1, 1) := by decide +kernel
theorem d_Ta_isClass_1 : decode b_Ta_isClass 1 = .ok (.ifCond .lt 15, 3) := by decide +kernel
theorem d_Ta_isClass_4 : decode b_Ta_isClass 4 = .ok (.iload_n 1, 1) := by decide +kernel
theorem d_Ta_isClass_5 : decode b_Ta_isClass 5 = .ok (.aload_n 0, 1) := by decide +kernel
theorem d_Ta_isClass_6 : decode b_Ta_isClass 6 = .ok (.getfield 21, 3) := by decide +kernel
theorem d_Ta_isClass_9 : decode b_Ta_isClass 9 = .ok (.if_icmp .ge 7, 3) := by decide +kernel
theorem d_Ta_isClass_12 : decode b_Ta_isClass 12 = .ok (.iconst 1, 1) := by decide +kernel
theorem d_Ta_isClass_13 : decode b_Ta_isClass 13 = .ok (.goto 4, 3) := by decide +kernel
theorem d_Ta_isClass_16 : decode b_Ta_isClass 16 = .ok (.iconst 0, 1) := by decide +kernel
theorem d_Ta_isClass_17 : decode b_Ta_isClass 17 = .ok (.ireturn, 1) := by decide +kernel
theorem d_Ta_sizeOf_0 : decode b_Ta_sizeOf 0 = .ok (.aload_n 0, 1) := by decide +kernel
theorem d_Ta_sizeOf_1 : decode b_Ta_sizeOf 1 = .ok (.getfield 18, 3) := by decide +kernel
theorem d_Ta_sizeOf_4 : decode b_Ta_sizeOf 4 = .ok (.iload_n 1, 1) := by decide +kernel
theorem d_Ta_sizeOf_5 : decode b_Ta_sizeOf 5 = .ok (.iconst 1, 1) := by decide +kernel
theorem d_Ta_sizeOf_6 : decode b_Ta_sizeOf 6 = .ok (.iadd, 1) := by decide +kernel
theorem d_Ta_sizeOf_7 : decode b_Ta_sizeOf 7 = .ok (.iaload, 1) := by decide +kernel
theorem d_Ta_sizeOf_8 : decode b_Ta_sizeOf 8 = .ok (.aload_n 0, 1) := by decide +kernel
theorem d_Ta_sizeOf_9 : decode b_Ta_sizeOf 9 = .ok (.getfield 18, 3) := by decide +kernel
theorem d_Ta_sizeOf_12 : decode b_Ta_sizeOf 12 = .ok (.iload_n 1, 1) := by decide +kernel
theorem d_Ta_sizeOf_13 : decode b_Ta_sizeOf 13 = .ok (.iaload, 1) := by decide +kernel
theorem d_Ta_sizeOf_14 : decode b_Ta_sizeOf 14 = .ok (.isub, 1) := by decide +kernel
theorem d_Ta_sizeOf_15 : decode b_Ta_sizeOf 15 = .ok (.ireturn, 1) := by decide +kernel
theorem d_Ta_holds_0 : decode b_Ta_holds 0 = .ok (.aload_n 0, 1) := by decide +kernel
theorem d_Ta_holds_1 : decode b_Ta_holds 1 = .ok (.iload_n 1, 1) := by decide +kernel
theorem d_Ta_holds_2 : decode b_Ta_holds 2 = .ok (.invokevirtual 25, 3) := by decide +kernel
theorem d_Ta_holds_5 : decode b_Ta_holds 5 = .ok (.ifCond .eq 20, 3) := by decide +kernel
theorem d_Ta_holds_8 : decode b_Ta_holds 8 = .ok (.iload_n 2, 1) := by decide +kernel
theorem d_Ta_holds_9 : decode b_Ta_holds 9 = .ok (.ifCond .lt 16, 3) := by decide +kernel
theorem d_Ta_holds_12 : decode b_Ta_holds 12 = .ok (.iload_n 2, 1) := by decide +kernel
theorem d_Ta_holds_13 : decode b_Ta_holds 13 = .ok (.aload_n 0, 1) := by decide +kernel
theorem d_Ta_holds_14 : decode b_Ta_holds 14 = .ok (.iload_n 1, 1) := by decide +kernel
theorem d_Ta_holds_15 : decode b_Ta_holds 15 = .ok (.invokevirtual 29, 3) := by decide +kernel
theorem d_Ta_holds_18 : decode b_Ta_holds 18 = .ok (.if_icmp .ge 7, 3) := by decide +kernel
theorem d_Ta_holds_21 : decode b_Ta_holds 21 = .ok (.iconst 1, 1) := by decide +kernel
theorem d_Ta_holds_22 : decode b_Ta_holds 22 = .ok (.goto 4, 3) := by decide +kernel
theorem d_Ta_holds_25 : decode b_Ta_holds 25 = .ok (.iconst 0, 1) := by decide +kernel
theorem d_Ta_holds_26 : decode b_Ta_holds 26 = .ok (.ireturn, 1) := by decide +kernel
theorem d_Ta_latestSize_0 : decode b_Ta_latestSize 0 = .ok (.aload_n 0, 1) := by decide +kernel
theorem d_Ta_latestSize_1 : decode b_Ta_latestSize 1 = .ok (.getfield 21, 3) := by decide +kernel
theorem d_Ta_latestSize_4 : decode b_Ta_latestSize 4 = .ok (.ifCond .le 16, 3) := by decide +kernel
theorem d_Ta_latestSize_7 : decode b_Ta_latestSize 7 = .ok (.aload_n 0, 1) := by decide +kernel
theorem d_Ta_latestSize_8 : decode b_Ta_latestSize 8 = .ok (.aload_n 0, 1) := by decide +kernel
theorem d_Ta_latestSize_9 : decode b_Ta_latestSize 9 = .ok (.getfield 21, 3) := by decide +kernel
theorem d_Ta_latestSize_12 : decode b_Ta_latestSize 12 = .ok (.iconst 1, 1) := by decide +kernel
theorem d_Ta_latestSize_13 : decode b_Ta_latestSize 13 = .ok (.isub, 1) := by decide +kernel
theorem d_Ta_latestSize_14 : decode b_Ta_latestSize 14 = .ok (.invokevirtual 29, 3) := by decide +kernel
theorem d_Ta_latestSize_17 : decode b_Ta_latestSize 17 = .ok (.goto 4, 3) := by decide +kernel
theorem d_Ta_latestSize_20 : decode b_Ta_latestSize 20 = .ok (.iconst 0, 1) := by decide +kernel
theorem d_Ta_latestSize_21 : decode b_Ta_latestSize 21 = .ok (.ireturn, 1) := by decide +kernel
theorem d_Ta_shrinkLatest_0 : decode b_Ta_shrinkLatest 0 = .ok (.aload_n 0, 1) := by decide +kernel
theorem d_Ta_shrinkLatest_1 : decode b_Ta_shrinkLatest 1 = .ok (.getfield 21, 3) := by decide +kernel
theorem d_Ta_shrinkLatest_4 : decode b_Ta_shrinkLatest 4 = .ok (.ifCond .le 25, 3) := by decide +kernel
theorem d_Ta_shrinkLatest_7 : decode b_Ta_shrinkLatest 7 = .ok (.aload_n 0, 1) := by decide +kernel
theorem d_Ta_shrinkLatest_8 : decode b_Ta_shrinkLatest 8 = .ok (.getfield 18, 3) := by decide +kernel
theorem d_Ta_shrinkLatest_11 : decode b_Ta_shrinkLatest 11 = .ok (.aload_n 0, 1) := by decide +kernel
theorem d_Ta_shrinkLatest_12 : decode b_Ta_shrinkLatest 12 = .ok (.getfield 21, 3) := by decide +kernel
theorem d_Ta_shrinkLatest_15 : decode b_Ta_shrinkLatest 15 = .ok (.aload_n 0, 1) := by decide +kernel
theorem d_Ta_shrinkLatest_16 : decode b_Ta_shrinkLatest 16 = .ok (.getfield 18, 3) := by decide +kernel
theorem d_Ta_shrinkLatest_19 : decode b_Ta_shrinkLatest 19 = .ok (.aload_n 0, 1) := by decide +kernel
theorem d_Ta_shrinkLatest_20 : decode b_Ta_shrinkLatest 20 = .ok (.getfield 21, 3) := by decide +kernel
theorem d_Ta_shrinkLatest_23 : decode b_Ta_shrinkLatest 23 = .ok (.iconst 1, 1) := by decide +kernel
theorem d_Ta_shrinkLatest_24 : decode b_Ta_shrinkLatest 24 = .ok (.isub, 1) := by decide +kernel
theorem d_Ta_shrinkLatest_25 : decode b_Ta_shrinkLatest 25 = .ok (.iaload, 1) := by decide +kernel
theorem d_Ta_shrinkLatest_26 : decode b_Ta_shrinkLatest 26 = .ok (.iload_n 1, 1) := by decide +kernel
theorem d_Ta_shrinkLatest_27 : decode b_Ta_shrinkLatest 27 = .ok (.iadd, 1) := by decide +kernel
theorem d_Ta_shrinkLatest_28 : decode b_Ta_shrinkLatest 28 = .ok (.iastore, 1) := by decide +kernel
theorem d_Ta_shrinkLatest_29 : decode b_Ta_shrinkLatest 29 = .ok (.return_, 1) := by decide +kernel
theorem d_Ta_numberFor_0 : decode b_Ta_numberFor 0 = .ok (.aload_n 0, 1) := by decide +kernel
theorem d_Ta_numberFor_1 : decode b_Ta_numberFor 1 = .ok (.getfield 21, 3) := by decide +kernel
theorem d_Ta_numberFor_4 : decode b_Ta_numberFor 4 = .ok (.ifCond .le 17, 3) := by decide +kernel
theorem d_Ta_numberFor_7 : decode b_Ta_numberFor 7 = .ok (.aload_n 0, 1) := by decide +kernel
theorem d_Ta_numberFor_8 : decode b_Ta_numberFor 8 = .ok (.getfield 18, 3) := by decide +kernel
theorem d_Ta_numberFor_11 : decode b_Ta_numberFor 11 = .ok (.aload_n 0, 1) := by decide +kernel
theorem d_Ta_numberFor_12 : decode b_Ta_numberFor 12 = .ok (.getfield 21, 3) := by decide +kernel
theorem d_Ta_numberFor_15 : decode b_Ta_numberFor 15 = .ok (.iconst 1, 1) := by decide +kernel
theorem d_Ta_numberFor_16 : decode b_Ta_numberFor 16 = .ok (.isub, 1) := by decide +kernel
theorem d_Ta_numberFor_17 : decode b_Ta_numberFor 17 = .ok (.iaload, 1) := by decide +kernel
theorem d_Ta_numberFor_18 : decode b_Ta_numberFor 18 = .ok (.goto 4, 3) := by decide +kernel
theorem d_Ta_numberFor_21 : decode b_Ta_numberFor 21 = .ok (.iconst 0, 1) := by decide +kernel
theorem d_Ta_numberFor_22 : decode b_Ta_numberFor 22 = .ok (.istore_n 3, 1) := by decide +kernel
theorem d_Ta_numberFor_23 : decode b_Ta_numberFor 23 = .ok (.aload_n 0, 1) := by decide +kernel
theorem d_Ta_numberFor_24 : decode b_Ta_numberFor 24 = .ok (.getfield 18, 3) := by decide +kernel
theorem d_Ta_numberFor_27 : decode b_Ta_numberFor 27 = .ok (.aload_n 0, 1) := by decide +kernel
theorem d_Ta_numberFor_28 : decode b_Ta_numberFor 28 = .ok (.getfield 21, 3) := by decide +kernel
theorem d_Ta_numberFor_31 : decode b_Ta_numberFor 31 = .ok (.iaload, 1) := by decide +kernel
theorem d_Ta_numberFor_32 : decode b_Ta_numberFor 32 = .ok (.istore 4, 2) := by decide +kernel
theorem d_Ta_numberFor_34 : decode b_Ta_numberFor 34 = .ok (.iload_n 3, 1) := by decide +kernel
theorem d_Ta_numberFor_35 : decode b_Ta_numberFor 35 = .ok (.istore 5, 2) := by decide +kernel
theorem d_Ta_numberFor_37 : decode b_Ta_numberFor 37 = .ok (.iload 5, 2) := by decide +kernel
theorem d_Ta_numberFor_39 : decode b_Ta_numberFor 39 = .ok (.iload 4, 2) := by decide +kernel
theorem d_Ta_numberFor_41 : decode b_Ta_numberFor 41 = .ok (.if_icmp .ge 36, 3) := by decide +kernel
theorem d_Ta_numberFor_44 : decode b_Ta_numberFor 44 = .ok (.aload_n 0, 1) := by decide +kernel
theorem d_Ta_numberFor_45 : decode b_Ta_numberFor 45 = .ok (.getfield 9, 3) := by decide +kernel
theorem d_Ta_numberFor_48 : decode b_Ta_numberFor 48 = .ok (.iload 5, 2) := by decide +kernel
theorem d_Ta_numberFor_50 : decode b_Ta_numberFor 50 = .ok (.iaload, 1) := by decide +kernel
theorem d_Ta_numberFor_51 : decode b_Ta_numberFor 51 = .ok (.iload_n 1, 1) := by decide +kernel
theorem d_Ta_numberFor_52 : decode b_Ta_numberFor 52 = .ok (.if_icmp .ne 19, 3) := by decide +kernel
theorem d_Ta_numberFor_55 : decode b_Ta_numberFor 55 = .ok (.aload_n 0, 1) := by decide +kernel
theorem d_Ta_numberFor_56 : decode b_Ta_numberFor 56 = .ok (.getfield 15, 3) := by decide +kernel
theorem d_Ta_numberFor_59 : decode b_Ta_numberFor 59 = .ok (.iload 5, 2) := by decide +kernel
theorem d_Ta_numberFor_61 : decode b_Ta_numberFor 61 = .ok (.iaload, 1) := by decide +kernel
theorem d_Ta_numberFor_62 : decode b_Ta_numberFor 62 = .ok (.iload_n 2, 1) := by decide +kernel
theorem d_Ta_numberFor_63 : decode b_Ta_numberFor 63 = .ok (.if_icmp .ne 8, 3) := by decide +kernel
theorem d_Ta_numberFor_66 : decode b_Ta_numberFor 66 = .ok (.iload 5, 2) := by decide +kernel
theorem d_Ta_numberFor_68 : decode b_Ta_numberFor 68 = .ok (.iload_n 3, 1) := by decide +kernel
theorem d_Ta_numberFor_69 : decode b_Ta_numberFor 69 = .ok (.isub, 1) := by decide +kernel
theorem d_Ta_numberFor_70 : decode b_Ta_numberFor 70 = .ok (.ireturn, 1) := by decide +kernel
