theorem jd_History_kept_0 : decode mi_History_kept.2.1 0 = .ok (.aload_n 0, 1) := by decide +kernel
theorem jd_History_kept_1 : decode mi_History_kept.2.1 1 = .ok (.getfield 45, 3) := by decide +kernel
theorem jd_History_kept_4 : decode mi_History_kept.2.1 4 = .ok (.ireturn, 1) := by decide +kernel
theorem jd_Integer_bitCount_0 : decode mi_Integer_bitCount.2.1 0 = .ok (.iload_n 0, 1) := by decide +kernel
theorem jd_Integer_bitCount_1 : decode mi_Integer_bitCount.2.1 1 = .ok (.iload_n 0, 1) := by decide +kernel
theorem jd_Integer_bitCount_2 : decode mi_Integer_bitCount.2.1 2 = .ok (.iconst 1, 1) := by decide +kernel
theorem jd_Integer_bitCount_3 : decode mi_Integer_bitCount.2.1 3 = .ok (.iushr, 1) := by decide +kernel
theorem jd_Integer_bitCount_4 : decode mi_Integer_bitCount.2.1 4 = .ok (.ldc_w 265, 3) := by decide +kernel
theorem jd_Integer_bitCount_7 : decode mi_Integer_bitCount.2.1 7 = .ok (.iand, 1) := by decide +kernel
theorem jd_Integer_bitCount_8 : decode mi_Integer_bitCount.2.1 8 = .ok (.isub, 1) := by decide +kernel
theorem jd_Integer_bitCount_9 : decode mi_Integer_bitCount.2.1 9 = .ok (.istore_n 0, 1) := by decide +kernel
theorem jd_Integer_bitCount_10 : decode mi_Integer_bitCount.2.1 10 = .ok (.iload_n 0, 1) := by decide +kernel
theorem jd_Integer_bitCount_11 : decode mi_Integer_bitCount.2.1 11 = .ok (.ldc_w 266, 3) := by decide +kernel
theorem jd_Integer_bitCount_14 : decode mi_Integer_bitCount.2.1 14 = .ok (.iand, 1) := by decide +kernel
theorem jd_Integer_bitCount_15 : decode mi_Integer_bitCount.2.1 15 = .ok (.iload_n 0, 1) := by decide +kernel
theorem jd_Integer_bitCount_16 : decode mi_Integer_bitCount.2.1 16 = .ok (.iconst 2, 1) := by decide +kernel
theorem jd_Integer_bitCount_17 : decode mi_Integer_bitCount.2.1 17 = .ok (.iushr, 1) := by decide +kernel
theorem jd_Integer_bitCount_18 : decode mi_Integer_bitCount.2.1 18 = .ok (.ldc_w 266, 3) := by decide +kernel
theorem jd_Integer_bitCount_21 : decode mi_Integer_bitCount.2.1 21 = .ok (.iand, 1) := by decide +kernel
theorem jd_Integer_bitCount_22 : decode mi_Integer_bitCount.2.1 22 = .ok (.iadd, 1) := by decide +kernel
theorem jd_Integer_bitCount_23 : decode mi_Integer_bitCount.2.1 23 = .ok (.istore_n 0, 1) := by decide +kernel
theorem jd_Integer_bitCount_24 : decode mi_Integer_bitCount.2.1 24 = .ok (.iload_n 0, 1) := by decide +kernel
theorem jd_Integer_bitCount_25 : decode mi_Integer_bitCount.2.1 25 = .ok (.iload_n 0, 1) := by decide +kernel
theorem jd_Integer_bitCount_26 : decode mi_Integer_bitCount.2.1 26 = .ok (.iconst 4, 1) := by decide +kernel
theorem jd_Integer_bitCount_27 : decode mi_Integer_bitCount.2.1 27 = .ok (.iushr, 1) := by decide +kernel
theorem jd_Integer_bitCount_28 : decode mi_Integer_bitCount.2.1 28 = .ok (.iadd, 1) := by decide +kernel
theorem jd_Integer_bitCount_29 : decode mi_Integer_bitCount.2.1 29 = .ok (.ldc_w 267, 3) := by decide +kernel
theorem jd_Integer_bitCount_32 : decode mi_Integer_bitCount.2.1 32 = .ok (.iand, 1) := by decide +kernel
theorem jd_Integer_bitCount_33 : decode mi_Integer_bitCount.2.1 33 = .ok (.istore_n 0, 1) := by decide +kernel
theorem jd_Integer_bitCount_34 : decode mi_Integer_bitCount.2.1 34 = .ok (.iload_n 0, 1) := by decide +kernel
theorem jd_Integer_bitCount_35 : decode mi_Integer_bitCount.2.1 35 = .ok (.iload_n 0, 1) := by decide +kernel
theorem jd_Integer_bitCount_36 : decode mi_Integer_bitCount.2.1 36 = .ok (.bipush 8, 2) := by decide +kernel
theorem jd_Integer_bitCount_38 : decode mi_Integer_bitCount.2.1 38 = .ok (.iushr, 1) := by decide +kernel
theorem jd_Integer_bitCount_39 : decode mi_Integer_bitCount.2.1 39 = .ok (.iadd, 1) := by decide +kernel
theorem jd_Integer_bitCount_40 : decode mi_Integer_bitCount.2.1 40 = .ok (.istore_n 0, 1) := by decide +kernel
theorem jd_Integer_bitCount_41 : decode mi_Integer_bitCount.2.1 41 = .ok (.iload_n 0, 1) := by decide +kernel
theorem jd_Integer_bitCount_42 : decode mi_Integer_bitCount.2.1 42 = .ok (.iload_n 0, 1) := by decide +kernel
theorem jd_Integer_bitCount_43 : decode mi_Integer_bitCount.2.1 43 = .ok (.bipush 16, 2) := by decide +kernel
theorem jd_Integer_bitCount_45 : decode mi_Integer_bitCount.2.1 45 = .ok (.iushr, 1) := by decide +kernel
theorem jd_Integer_bitCount_46 : decode mi_Integer_bitCount.2.1 46 = .ok (.iadd, 1) := by decide +kernel
theorem jd_Integer_bitCount_47 : decode mi_Integer_bitCount.2.1 47 = .ok (.istore_n 0, 1) := by decide +kernel
theorem jd_Integer_bitCount_48 : decode mi_Integer_bitCount.2.1 48 = .ok (.iload_n 0, 1) := by decide +kernel
theorem jd_Integer_bitCount_49 : decode mi_Integer_bitCount.2.1 49 = .ok (.bipush 63, 2) := by decide +kernel
theorem jd_Integer_bitCount_51 : decode mi_Integer_bitCount.2.1 51 = .ok (.iand, 1) := by decide +kernel
theorem jd_Integer_bitCount_52 : decode mi_Integer_bitCount.2.1 52 = .ok (.ireturn, 1) := by decide +kernel
theorem jd_History_countTrees_0 : decode mi_History_countTrees.2.1 0 = .ok (.iconst 0, 1) := by decide +kernel
theorem jd_History_countTrees_1 : decode mi_History_countTrees.2.1 1 = .ok (.istore_n 2, 1) := by decide +kernel
theorem jd_History_countTrees_2 : decode mi_History_countTrees.2.1 2 = .ok (.iconst 0, 1) := by decide +kernel
theorem jd_History_countTrees_3 : decode mi_History_countTrees.2.1 3 = .ok (.istore_n 3, 1) := by decide +kernel
theorem jd_History_countTrees_4 : decode mi_History_countTrees.2.1 4 = .ok (.iload_n 3, 1) := by decide +kernel
theorem jd_History_countTrees_5 : decode mi_History_countTrees.2.1 5 = .ok (.bipush 30, 2) := by decide +kernel
theorem jd_History_countTrees_7 : decode mi_History_countTrees.2.1 7 = .ok (.if_icmp .ge 29, 3) := by decide +kernel
theorem jd_History_countTrees_10 : decode mi_History_countTrees.2.1 10 = .ok (.iload_n 3, 1) := by decide +kernel
theorem jd_History_countTrees_11 : decode mi_History_countTrees.2.1 11 = .ok (.iload_n 1, 1) := by decide +kernel
theorem jd_History_countTrees_12 : decode mi_History_countTrees.2.1 12 = .ok (.invokestatic 52, 3) := by decide +kernel
theorem jd_History_countTrees_15 : decode mi_History_countTrees.2.1 15 = .ok (.ifCond .eq 15, 3) := by decide +kernel
theorem jd_History_countTrees_18 : decode mi_History_countTrees.2.1 18 = .ok (.iload_n 2, 1) := by decide +kernel
theorem jd_History_countTrees_19 : decode mi_History_countTrees.2.1 19 = .ok (.aload_n 0, 1) := by decide +kernel
theorem jd_History_countTrees_20 : decode mi_History_countTrees.2.1 20 = .ok (.getfield 32, 3) := by decide +kernel
theorem jd_History_countTrees_23 : decode mi_History_countTrees.2.1 23 = .ok (.iload_n 3, 1) := by decide +kernel
theorem jd_History_countTrees_24 : decode mi_History_countTrees.2.1 24 = .ok (.iaload, 1) := by decide +kernel
theorem jd_History_countTrees_25 : decode mi_History_countTrees.2.1 25 = .ok (.invokestatic 48, 3) := by decide +kernel
theorem jd_History_countTrees_28 : decode mi_History_countTrees.2.1 28 = .ok (.ior, 1) := by decide +kernel
theorem jd_History_countTrees_29 : decode mi_History_countTrees.2.1 29 = .ok (.istore_n 2, 1) := by decide +kernel
theorem jd_History_countTrees_30 : decode mi_History_countTrees.2.1 30 = .ok (.iinc 3 1, 3) := by decide +kernel
theorem jd_History_countTrees_33 : decode mi_History_countTrees.2.1 33 = .ok (.goto (-29), 3) := by decide +kernel
theorem jd_History_countTrees_36 : decode mi_History_countTrees.2.1 36 = .ok (.iload_n 2, 1) := by decide +kernel
theorem jd_History_countTrees_37 : decode mi_History_countTrees.2.1 37 = .ok (.invokestatic 73, 3) := by decide +kernel
theorem jd_History_countTrees_40 : decode mi_History_countTrees.2.1 40 = .ok (.ireturn, 1) := by decide +kernel
theorem jd_History_meetContents_0 : decode mi_History_meetContents.2.1 0 = .ok (.aload_n 0, 1) := by decide +kernel
theorem jd_History_meetContents_1 : decode mi_History_meetContents.2.1 1 = .ok (.getfield 38, 3) := by decide +kernel
theorem jd_History_meetContents_4 : decode mi_History_meetContents.2.1 4 = .ok (.iconst 0, 1) := by decide +kernel
theorem jd_History_meetContents_5 : decode mi_History_meetContents.2.1 5 = .ok (.invokestatic 102, 3) := by decide +kernel
theorem jd_History_meetContents_8 : decode mi_History_meetContents.2.1 8 = .ok (.iconst 0, 1) := by decide +kernel
theorem jd_History_meetContents_9 : decode mi_History_meetContents.2.1 9 = .ok (.istore_n 2, 1) := by decide +kernel
theorem jd_History_meetContents_10 : decode mi_History_meetContents.2.1 10 = .ok (.iload_n 2, 1) := by decide +kernel
theorem jd_History_meetContents_11 : decode mi_History_meetContents.2.1 11 = .ok (.bipush 30, 2) := by decide +kernel
theorem jd_History_meetContents_13 : decode mi_History_meetContents.2.1 13 = .ok (.if_icmp .ge 67, 3) := by decide +kernel
theorem jd_History_meetContents_16 : decode mi_History_meetContents.2.1 16 = .ok (.iconst 0, 1) := by decide +kernel
theorem jd_History_meetContents_17 : decode mi_History_meetContents.2.1 17 = .ok (.istore_n 3, 1) := by decide +kernel
theorem jd_History_meetContents_18 : decode mi_History_meetContents.2.1 18 = .ok (.iload_n 3, 1) := by decide +kernel
theorem jd_History_meetContents_19 : decode mi_History_meetContents.2.1 19 = .ok (.bipush 12, 2) := by decide +kernel
theorem jd_History_meetContents_21 : decode mi_History_meetContents.2.1 21 = .ok (.if_icmp .ge 53, 3) := by decide +kernel
theorem jd_History_meetContents_24 : decode mi_History_meetContents.2.1 24 = .ok (.iload_n 2, 1) := by decide +kernel
theorem jd_History_meetContents_25 : decode mi_History_meetContents.2.1 25 = .ok (.iload_n 1, 1) := by decide +kernel
theorem jd_History_meetContents_26 : decode mi_History_meetContents.2.1 26 = .ok (.invokestatic 52, 3) := by decide +kernel
theorem jd_History_meetContents_29 : decode mi_History_meetContents.2.1 29 = .ok (.ifCond .eq 45, 3) := by decide +kernel
theorem jd_History_meetContents_32 : decode mi_History_meetContents.2.1 32 = .ok (.aload_n 0, 1) := by decide +kernel
theorem jd_History_meetContents_33 : decode mi_History_meetContents.2.1 33 = .ok (.getfield 35, 3) := by decide +kernel
theorem jd_History_meetContents_36 : decode mi_History_meetContents.2.1 36 = .ok (.iload_n 2, 1) := by decide +kernel
theorem jd_History_meetContents_37 : decode mi_History_meetContents.2.1 37 = .ok (.bipush 12, 2) := by decide +kernel
theorem jd_History_meetContents_39 : decode mi_History_meetContents.2.1 39 = .ok (.imul, 1) := by decide +kernel
theorem jd_History_meetContents_40 : decode mi_History_meetContents.2.1 40 = .ok (.iload_n 3, 1) := by decide +kernel
theorem jd_History_meetContents_41 : decode mi_History_meetContents.2.1 41 = .ok (.iadd, 1) := by decide +kernel
theorem jd_History_meetContents_42 : decode mi_History_meetContents.2.1 42 = .ok (.iaload, 1) := by decide +kernel
theorem jd_History_meetContents_43 : decode mi_History_meetContents.2.1 43 = .ok (.istore 4, 2) := by decide +kernel
theorem jd_History_meetContents_45 : decode mi_History_meetContents.2.1 45 = .ok (.iload 4, 2) := by decide +kernel
theorem jd_History_meetContents_47 : decode mi_History_meetContents.2.1 47 = .ok (.ifCond .lt 21, 3) := by decide +kernel
theorem jd_History_meetContents_50 : decode mi_History_meetContents.2.1 50 = .ok (.iload 4, 2) := by decide +kernel
theorem jd_History_meetContents_52 : decode mi_History_meetContents.2.1 52 = .ok (.aload_n 0, 1) := by decide +kernel
theorem jd_History_meetContents_53 : decode mi_History_meetContents.2.1 53 = .ok (.getfield 38, 3) := by decide +kernel
theorem jd_History_meetContents_56 : decode mi_History_meetContents.2.1 56 = .ok (.arraylength, 1) := by decide +kernel
theorem jd_History_meetContents_57 : decode mi_History_meetContents.2.1 57 = .ok (.if_icmp .ge 11, 3) := by decide +kernel
theorem jd_History_meetContents_60 : decode mi_History_meetContents.2.1 60 = .ok (.aload_n 0, 1) := by decide +kernel
theorem jd_History_meetContents_61 : decode mi_History_meetContents.2.1 61 = .ok (.getfield 38, 3) := by decide +kernel
theorem jd_History_meetContents_64 : decode mi_History_meetContents.2.1 64 = .ok (.iload 4, 2) := by decide +kernel
theorem jd_History_meetContents_66 : decode mi_History_meetContents.2.1 66 = .ok (.iconst 1, 1) := by decide +kernel
theorem jd_History_meetContents_67 : decode mi_History_meetContents.2.1 67 = .ok (.iastore, 1) := by decide +kernel
theorem jd_History_meetContents_68 : decode mi_History_meetContents.2.1 68 = .ok (.iinc 3 1, 3) := by decide +kernel
theorem jd_History_meetContents_71 : decode mi_History_meetContents.2.1 71 = .ok (.goto (-53), 3) := by decide +kernel
theorem jd_History_meetContents_74 : decode mi_History_meetContents.2.1 74 = .ok (.iinc 2 1, 3) := by decide +kernel
theorem jd_History_meetContents_77 : decode mi_History_meetContents.2.1 77 = .ok (.goto (-67), 3) := by decide +kernel
theorem jd_History_meetContents_80 : decode mi_History_meetContents.2.1 80 = .ok (.return_, 1) := by decide +kernel
theorem jd_History_countContents_0 : decode mi_History_countContents.2.1 0 = .ok (.aload_n 0, 1) := by decide +kernel
theorem jd_History_countContents_1 : decode mi_History_countContents.2.1 1 = .ok (.iload_n 1, 1) := by decide +kernel
theorem jd_History_countContents_2 : decode mi_History_countContents.2.1 2 = .ok (.invokevirtual 84, 3) := by decide +kernel
theorem jd_History_countContents_5 : decode mi_History_countContents.2.1 5 = .ok (.iconst 0, 1) := by decide +kernel
theorem jd_History_countContents_6 : decode mi_History_countContents.2.1 6 = .ok (.istore_n 2, 1) := by decide +kernel
theorem jd_History_countContents_7 : decode mi_History_countContents.2.1 7 = .ok (.iconst 0, 1) := by decide +kernel
theorem jd_History_countContents_8 : decode mi_History_countContents.2.1 8 = .ok (.istore_n 3, 1) := by decide +kernel
theorem jd_History_countContents_9 : decode mi_History_countContents.2.1 9 = .ok (.iload_n 3, 1) := by decide +kernel
theorem jd_History_countContents_10 : decode mi_History_countContents.2.1 10 = .ok (.aload_n 0, 1) := by decide +kernel
theorem jd_History_countContents_11 : decode mi_History_countContents.2.1 11 = .ok (.getfield 38, 3) := by decide +kernel
theorem jd_History_countContents_14 : decode mi_History_countContents.2.1 14 = .ok (.arraylength, 1) := by decide +kernel
theorem jd_History_countContents_15 : decode mi_History_countContents.2.1 15 = .ok (.if_icmp .ge 18, 3) := by decide +kernel
theorem jd_History_countContents_18 : decode mi_History_countContents.2.1 18 = .ok (.iload_n 2, 1) := by decide +kernel
theorem jd_History_countContents_19 : decode mi_History_countContents.2.1 19 = .ok (.aload_n 0, 1) := by decide +kernel
theorem jd_History_countContents_20 : decode mi_History_countContents.2.1 20 = .ok (.getfield 38, 3) := by decide +kernel
theorem jd_History_countContents_23 : decode mi_History_countContents.2.1 23 = .ok (.iload_n 3, 1) := by decide +kernel
theorem jd_History_countContents_24 : decode mi_History_countContents.2.1 24 = .ok (.iaload, 1) := by decide +kernel
theorem jd_History_countContents_25 : decode mi_History_countContents.2.1 25 = .ok (.iadd, 1) := by decide +kernel
theorem jd_History_countContents_26 : decode mi_History_countContents.2.1 26 = .ok (.istore_n 2, 1) := by decide +kernel
theorem jd_History_countContents_27 : decode mi_History_countContents.2.1 27 = .ok (.iinc 3 1, 3) := by decide +kernel
theorem jd_History_countContents_30 : decode mi_History_countContents.2.1 30 = .ok (.goto (-21), 3) := by decide +kernel
theorem jd_History_countContents_33 : decode mi_History_countContents.2.1 33 = .ok (.iload_n 2, 1) := by decide +kernel
theorem jd_History_countContents_34 : decode mi_History_countContents.2.1 34 = .ok (.ireturn, 1) := by decide +kernel
theorem jd_History_withAncestors_0 : decode mi_History_withAncestors.2.1 0 = .ok (.iload_n 1, 1) := by decide +kernel
theorem jd_History_withAncestors_1 : decode mi_History_withAncestors.2.1 1 = .ok (.istore_n 2, 1) := by decide +kernel
theorem jd_History_withAncestors_2 : decode mi_History_withAncestors.2.1 2 = .ok (.bipush 29, 2) := by decide +kernel
theorem jd_History_withAncestors_4 : decode mi_History_withAncestors.2.1 4 = .ok (.istore_n 3, 1) := by decide +kernel
theorem jd_History_withAncestors_5 : decode mi_History_withAncestors.2.1 5 = .ok (.iload_n 3, 1) := by decide +kernel
theorem jd_History_withAncestors_6 : decode mi_History_withAncestors.2.1 6 = .ok (.ifCond .lt 39, 3) := by decide +kernel
theorem jd_History_withAncestors_9 : decode mi_History_withAncestors.2.1 9 = .ok (.iload_n 3, 1) := by decide +kernel
theorem jd_History_withAncestors_10 : decode mi_History_withAncestors.2.1 10 = .ok (.iload_n 2, 1) := by decide +kernel
theorem jd_History_withAncestors_11 : decode mi_History_withAncestors.2.1 11 = .ok (.invokestatic 52, 3) := by decide +kernel
theorem jd_History_withAncestors_14 : decode mi_History_withAncestors.2.1 14 = .ok (.ifCond .eq 25, 3) := by decide +kernel
theorem jd_History_withAncestors_17 : decode mi_History_withAncestors.2.1 17 = .ok (.iload_n 2, 1) := by decide +kernel
theorem jd_History_withAncestors_18 : decode mi_History_withAncestors.2.1 18 = .ok (.aload_n 0, 1) := by decide +kernel
theorem jd_History_withAncestors_19 : decode mi_History_withAncestors.2.1 19 = .ok (.getfield 26, 3) := by decide +kernel
theorem jd_History_withAncestors_22 : decode mi_History_withAncestors.2.1 22 = .ok (.iload_n 3, 1) := by decide +kernel
theorem jd_History_withAncestors_23 : decode mi_History_withAncestors.2.1 23 = .ok (.iaload, 1) := by decide +kernel
theorem jd_History_withAncestors_24 : decode mi_History_withAncestors.2.1 24 = .ok (.invokestatic 48, 3) := by decide +kernel
theorem jd_History_withAncestors_27 : decode mi_History_withAncestors.2.1 27 = .ok (.aload_n 0, 1) := by decide +kernel
theorem jd_History_withAncestors_28 : decode mi_History_withAncestors.2.1 28 = .ok (.getfield 29, 3) := by decide +kernel
theorem jd_History_withAncestors_31 : decode mi_History_withAncestors.2.1 31 = .ok (.iload_n 3, 1) := by decide +kernel
theorem jd_History_withAncestors_32 : decode mi_History_withAncestors.2.1 32 = .ok (.iaload, 1) := by decide +kernel
theorem jd_History_withAncestors_33 : decode mi_History_withAncestors.2.1 33 = .ok (.invokestatic 48, 3) := by decide +kernel
theorem jd_History_withAncestors_36 : decode mi_History_withAncestors.2.1 36 = .ok (.ior, 1) := by decide +kernel
theorem jd_History_withAncestors_37 : decode mi_History_withAncestors.2.1 37 = .ok (.ior, 1) := by decide +kernel
theorem jd_History_withAncestors_38 : decode mi_History_withAncestors.2.1 38 = .ok (.istore_n 2, 1) := by decide +kernel
theorem jd_History_withAncestors_39 : decode mi_History_withAncestors.2.1 39 = .ok (.iinc 3 (-1), 3) := by decide +kernel
theorem jd_History_withAncestors_42 : decode mi_History_withAncestors.2.1 42 = .ok (.goto (-37), 3) := by decide +kernel
theorem jd_History_withAncestors_45 : decode mi_History_withAncestors.2.1 45 = .ok (.iload_n 2, 1) := by decide +kernel
theorem jd_History_withAncestors_46 : decode mi_History_withAncestors.2.1 46 = .ok (.ireturn, 1) := by decide +kernel
theorem jd_History_countObjects_0 : decode mi_History_countObjects.2.1 0 = .ok (.iload_n 1, 1) := by decide +kernel
theorem jd_History_countObjects_1 : decode mi_History_countObjects.2.1 1 = .ok (.invokestatic 73, 3) := by decide +kernel
theorem jd_History_countObjects_4 : decode mi_History_countObjects.2.1 4 = .ok (.aload_n 0, 1) := by decide +kernel
theorem jd_History_countObjects_5 : decode mi_History_countObjects.2.1 5 = .ok (.iload_n 1, 1) := by decide +kernel
theorem jd_History_countObjects_6 : decode mi_History_countObjects.2.1 6 = .ok (.invokevirtual 78, 3) := by decide +kernel
theorem jd_History_countObjects_9 : decode mi_History_countObjects.2.1 9 = .ok (.iadd, 1) := by decide +kernel
theorem jd_History_countObjects_10 : decode mi_History_countObjects.2.1 10 = .ok (.aload_n 0, 1) := by decide +kernel
theorem jd_History_countObjects_11 : decode mi_History_countObjects.2.1 11 = .ok (.iload_n 1, 1) := by decide +kernel
theorem jd_History_countObjects_12 : decode mi_History_countObjects.2.1 12 = .ok (.invokevirtual 81, 3) := by decide +kernel
theorem jd_History_countObjects_15 : decode mi_History_countObjects.2.1 15 = .ok (.iadd, 1) := by decide +kernel
theorem jd_History_countObjects_16 : decode mi_History_countObjects.2.1 16 = .ok (.ireturn, 1) := by decide +kernel
theorem jd_Branchwork_reached_0 : decode mi_Branchwork_reached.2.1 0 = .ok (.aload_n 0, 1) := by decide +kernel
theorem jd_Branchwork_reached_1 : decode mi_Branchwork_reached.2.1 1 = .ok (.getfield 62, 3) := by decide +kernel
theorem jd_Branchwork_reached_4 : decode mi_Branchwork_reached.2.1 4 = .ok (.invokestatic 337, 3) := by decide +kernel
theorem jd_Branchwork_reached_7 : decode mi_Branchwork_reached.2.1 7 = .ok (.istore_n 1, 1) := by decide +kernel
theorem jd_Branchwork_reached_8 : decode mi_Branchwork_reached.2.1 8 = .ok (.iconst 0, 1) := by decide +kernel
theorem jd_Branchwork_reached_9 : decode mi_Branchwork_reached.2.1 9 = .ok (.istore_n 2, 1) := by decide +kernel
theorem jd_Branchwork_reached_10 : decode mi_Branchwork_reached.2.1 10 = .ok (.iload_n 2, 1) := by decide +kernel
theorem jd_Branchwork_reached_11 : decode mi_Branchwork_reached.2.1 11 = .ok (.iconst 5, 1) := by decide +kernel
theorem jd_Branchwork_reached_12 : decode mi_Branchwork_reached.2.1 12 = .ok (.if_icmp .ge 21, 3) := by decide +kernel
theorem jd_Branchwork_reached_15 : decode mi_Branchwork_reached.2.1 15 = .ok (.iload_n 1, 1) := by decide +kernel
theorem jd_Branchwork_reached_16 : decode mi_Branchwork_reached.2.1 16 = .ok (.aload_n 0, 1) := by decide +kernel
theorem jd_Branchwork_reached_17 : decode mi_Branchwork_reached.2.1 17 = .ok (.getfield 51, 3) := by decide +kernel
theorem jd_Branchwork_reached_20 : decode mi_Branchwork_reached.2.1 20 = .ok (.iload_n 2, 1) := by decide +kernel
theorem jd_Branchwork_reached_21 : decode mi_Branchwork_reached.2.1 21 = .ok (.iaload, 1) := by decide +kernel
theorem jd_Branchwork_reached_22 : decode mi_Branchwork_reached.2.1 22 = .ok (.invokestatic 337, 3) := by decide +kernel
theorem jd_Branchwork_reached_25 : decode mi_Branchwork_reached.2.1 25 = .ok (.ior, 1) := by decide +kernel
theorem jd_Branchwork_reached_26 : decode mi_Branchwork_reached.2.1 26 = .ok (.istore_n 1, 1) := by decide +kernel
theorem jd_Branchwork_reached_27 : decode mi_Branchwork_reached.2.1 27 = .ok (.iinc 2 1, 3) := by decide +kernel
theorem jd_Branchwork_reached_30 : decode mi_Branchwork_reached.2.1 30 = .ok (.goto (-20), 3) := by decide +kernel
theorem jd_Branchwork_reached_33 : decode mi_Branchwork_reached.2.1 33 = .ok (.aload_n 0, 1) := by decide +kernel
theorem jd_Branchwork_reached_34 : decode mi_Branchwork_reached.2.1 34 = .ok (.getfield 19, 3) := by decide +kernel
theorem jd_Branchwork_reached_37 : decode mi_Branchwork_reached.2.1 37 = .ok (.iload_n 1, 1) := by decide +kernel
theorem jd_Branchwork_reached_38 : decode mi_Branchwork_reached.2.1 38 = .ok (.invokevirtual 340, 3) := by decide +kernel
theorem jd_Branchwork_reached_41 : decode mi_Branchwork_reached.2.1 41 = .ok (.ireturn, 1) := by decide +kernel
theorem jd_Branchwork_garbage_0 : decode mi_Branchwork_garbage.2.1 0 = .ok (.aload_n 0, 1) := by decide +kernel
theorem jd_Branchwork_garbage_1 : decode mi_Branchwork_garbage.2.1 1 = .ok (.getfield 19, 3) := by decide +kernel
theorem jd_Branchwork_garbage_4 : decode mi_Branchwork_garbage.2.1 4 = .ok (.aload_n 0, 1) := by decide +kernel
theorem jd_Branchwork_garbage_5 : decode mi_Branchwork_garbage.2.1 5 = .ok (.getfield 19, 3) := by decide +kernel
theorem jd_Branchwork_garbage_8 : decode mi_Branchwork_garbage.2.1 8 = .ok (.invokevirtual 220, 3) := by decide +kernel
theorem jd_Branchwork_garbage_11 : decode mi_Branchwork_garbage.2.1 11 = .ok (.invokevirtual 295, 3) := by decide +kernel
theorem jd_Branchwork_garbage_14 : decode mi_Branchwork_garbage.2.1 14 = .ok (.aload_n 0, 1) := by decide +kernel
theorem jd_Branchwork_garbage_15 : decode mi_Branchwork_garbage.2.1 15 = .ok (.getfield 19, 3) := by decide +kernel
theorem jd_Branchwork_garbage_18 : decode mi_Branchwork_garbage.2.1 18 = .ok (.aload_n 0, 1) := by decide +kernel
theorem jd_Branchwork_garbage_19 : decode mi_Branchwork_garbage.2.1 19 = .ok (.invokevirtual 214, 3) := by decide +kernel
theorem jd_Branchwork_garbage_22 : decode mi_Branchwork_garbage.2.1 22 = .ok (.invokevirtual 295, 3) := by decide +kernel
theorem jd_Branchwork_garbage_25 : decode mi_Branchwork_garbage.2.1 25 = .ok (.isub, 1) := by decide +kernel
theorem jd_Branchwork_garbage_26 : decode mi_Branchwork_garbage.2.1 26 = .ok (.ireturn, 1) := by decide +kernel
theorem jx_m1 (x : Int32) : x + Int32.ofInt (-1) = x - 1 := by rw [Int32.sub_eq_add_neg]; rfl
def bs_setOf (x : Int32) : Int32 := if ¬ x < 0 ∧ x < nI 30 then nI 1 <<< (x &&& 31) else 0
section
variable {o : jw_O} {μ : jw_Mem} {hs b : Nat}
theorem bs_setOfC (x : Int32) : jw_Ro mi_History_setOf 0 o [.int x] μ hs (some (.int (bs_setOf x))) := by
  refine jw_ro (by decide +kernel) (Nat.le_of_ble_eq_true rfl) rfl (fun k hR hE => ?_)
  refine jw_iload_n (pc' := 1) jd_History_setOf_0 rfl rfl rfl ?_
  refine jw_if_lt (tgt := 16) (pc' := 4) jd_History_setOf_1 (by decide) rfl (fun c => ?_) (fun c => ?_)
  · refine jw_iconst (pc' := 17) (v := nI 0) jd_History_setOf_16 (by decide +kernel) rfl ?_
    refine jw_iret hE jd_History_setOf_17 rfl (by omega) (by omega) ?_
    have e : bs_setOf x = 0 := by unfold bs_setOf; rw [if_neg (fun z => z.1 c)]
    rw [e]
    exact ⟨rfl, rfl, rfl⟩
  refine jw_iload_n (pc' := 5) jd_History_setOf_4 rfl rfl rfl ?_
  refine jw_bipush (pc' := 7) (v := nI 30) jd_History_setOf_5 (by decide +kernel) rfl ?_
  refine jw_icmp_ge (tgt := 16) (pc' := 10) jd_History_setOf_7 (by decide) rfl (fun c2 => ?_) (fun c2 => ?_)
  · refine jw_iconst (pc' := 17) (v := nI 0) jd_History_setOf_16 (by decide +kernel) rfl ?_
    refine jw_iret hE jd_History_setOf_17 rfl (by omega) (by omega) ?_
    have e : bs_setOf x = 0 := by unfold bs_setOf; rw [if_neg (fun z => absurd c2 (Int32.not_le.mpr z.2))]
    rw [e]
    exact ⟨rfl, rfl, rfl⟩
  · refine jw_iconst (pc' := 11) (v := nI 1) jd_History_setOf_10 (by decide +kernel) rfl ?_
    refine jw_iload_n (pc' := 12) jd_History_setOf_11 rfl rfl rfl ?_
    refine jw_ishl (pc' := 13) jd_History_setOf_12 rfl rfl ?_
    refine jw_goto (tgt := 17) jd_History_setOf_13 (by decide) ?_
    refine jw_iret hE jd_History_setOf_17 rfl (by omega) (by omega) ?_
    have e : bs_setOf x = nI 1 <<< (x &&& 31) := by unfold bs_setOf; rw [if_pos ⟨c, Int32.not_le.mp c2⟩]
    rw [e]
    exact ⟨rfl, rfl, rfl⟩
theorem bs_isIn (x s : Int32) : jw_Ro mi_History_isIn 1 o [.int x, .int s] μ hs (some (.int (if bs_setOf x &&& s = 0 then 0 else 1))) := by
  refine jw_ro (by decide +kernel) (Nat.le_of_ble_eq_true rfl) rfl (fun k hR hE => ?_)
  refine jw_iload_n (pc' := 1) jd_History_isIn_0 rfl rfl rfl ?_
  refine jw_callS0 (pc' := 4) hR (bs_setOfC x) jm_History_setOf jq_343 jd_History_isIn_1 rfl rfl (Nat.le_of_ble_eq_true rfl) (by omega) (by decide) (by omega) (by omega) rfl rfl ?_
  refine jw_iload_n (pc' := 5) jd_History_isIn_4 rfl rfl rfl ?_
  refine jw_iand (pc' := 6) jd_History_isIn_5 rfl rfl ?_
  refine jw_if_eq (tgt := 13) (pc' := 9) jd_History_isIn_6 (by decide) rfl (fun c => ?_) (fun c => ?_)
  · refine jw_iconst (pc' := 14) (v := nI 0) jd_History_isIn_13 (by decide +kernel) rfl ?_
    refine jw_zret hE jd_History_isIn_14 rfl (by first | exact vp_nar_int _ | decide +kernel) (by omega) (by omega) ?_
    rw [if_pos c]
    exact ⟨rfl, rfl, rfl⟩
  · refine jw_iconst (pc' := 10) (v := nI 1) jd_History_isIn_9 (by decide +kernel) rfl ?_
    refine jw_goto (tgt := 14) jd_History_isIn_10 (by decide) ?_
    refine jw_zret hE jd_History_isIn_14 rfl (by first | exact vp_nar_int _ | decide +kernel) (by omega) (by omega) ?_
    rw [if_neg c]
    exact ⟨rfl, rfl, rfl⟩
theorem bs_and0 (x : Int32) : x &&& 0 = 0 := by
  apply Int32.toBitVec_inj.mp
  simp
theorem bs_or0 : (0 : Int32) ||| 0 = 0 := by decide
theorem bs_isIn0 (x : Int32) : jw_Ro mi_History_isIn 1 o [.int x, .int 0] μ hs (some (.int 0)) := by
  have h := bs_isIn (o := o) (μ := μ) (hs := hs) x 0
  rw [if_pos (bs_and0 _)] at h
  exact h
theorem bs_bitCount0 : jw_Ro mi_Integer_bitCount 0 o [.int 0] μ hs (some (.int 0)) := by
  refine jw_ro (by decide +kernel) (Nat.le_of_ble_eq_true rfl) rfl (fun k hR hE => ?_)
  refine jw_iload_n (pc' := 1) jd_Integer_bitCount_0 rfl rfl rfl ?_
  refine jw_iload_n (pc' := 2) jd_Integer_bitCount_1 rfl rfl rfl ?_
  refine jw_iconst (pc' := 3) (v := nI 1) jd_Integer_bitCount_2 (by decide +kernel) rfl ?_
  refine jw_iushr (pc' := 4) jd_Integer_bitCount_3 rfl rfl ?_
  refine jw_ldcw (pc' := 7) jd_Integer_bitCount_4 jq_333 rfl ?_
  refine jw_iand (pc' := 8) jd_Integer_bitCount_7 rfl rfl ?_
  refine jw_isub (pc' := 9) jd_Integer_bitCount_8 rfl rfl ?_
  refine jw_istore_n (pc' := 10) (lc' := [(0, _)]) jd_Integer_bitCount_9 rfl (Nat.le_of_ble_eq_true rfl) ⟨rfl, trivial⟩ rfl ?_
  refine jw_iload_n (pc' := 11) jd_Integer_bitCount_10 rfl rfl rfl ?_
  refine jw_ldcw (pc' := 14) jd_Integer_bitCount_11 jq_334 rfl ?_
  refine jw_iand (pc' := 15) jd_Integer_bitCount_14 rfl rfl ?_
  refine jw_iload_n (pc' := 16) jd_Integer_bitCount_15 rfl rfl rfl ?_
  refine jw_iconst (pc' := 17) (v := nI 2) jd_Integer_bitCount_16 (by decide +kernel) rfl ?_
  refine jw_iushr (pc' := 18) jd_Integer_bitCount_17 rfl rfl ?_
  refine jw_ldcw (pc' := 21) jd_Integer_bitCount_18 jq_334 rfl ?_
  refine jw_iand (pc' := 22) jd_Integer_bitCount_21 rfl rfl ?_
  refine jw_iadd (pc' := 23) jd_Integer_bitCount_22 rfl rfl ?_
  refine jw_istore_n (pc' := 24) (lc' := [(0, _)]) jd_Integer_bitCount_23 rfl (Nat.le_of_ble_eq_true rfl) ⟨rfl, trivial⟩ rfl ?_
  refine jw_iload_n (pc' := 25) jd_Integer_bitCount_24 rfl rfl rfl ?_
  refine jw_iload_n (pc' := 26) jd_Integer_bitCount_25 rfl rfl rfl ?_
  refine jw_iconst (pc' := 27) (v := nI 4) jd_Integer_bitCount_26 (by decide +kernel) rfl ?_
  refine jw_iushr (pc' := 28) jd_Integer_bitCount_27 rfl rfl ?_
  refine jw_iadd (pc' := 29) jd_Integer_bitCount_28 rfl rfl ?_
  refine jw_ldcw (pc' := 32) jd_Integer_bitCount_29 jq_335 rfl ?_
  refine jw_iand (pc' := 33) jd_Integer_bitCount_32 rfl rfl ?_
  refine jw_istore_n (pc' := 34) (lc' := [(0, _)]) jd_Integer_bitCount_33 rfl (Nat.le_of_ble_eq_true rfl) ⟨rfl, trivial⟩ rfl ?_
  refine jw_iload_n (pc' := 35) jd_Integer_bitCount_34 rfl rfl rfl ?_
  refine jw_iload_n (pc' := 36) jd_Integer_bitCount_35 rfl rfl rfl ?_
  refine jw_bipush (pc' := 38) (v := nI 8) jd_Integer_bitCount_36 (by decide +kernel) rfl ?_
  refine jw_iushr (pc' := 39) jd_Integer_bitCount_38 rfl rfl ?_
  refine jw_iadd (pc' := 40) jd_Integer_bitCount_39 rfl rfl ?_
  refine jw_istore_n (pc' := 41) (lc' := [(0, _)]) jd_Integer_bitCount_40 rfl (Nat.le_of_ble_eq_true rfl) ⟨rfl, trivial⟩ rfl ?_
  refine jw_iload_n (pc' := 42) jd_Integer_bitCount_41 rfl rfl rfl ?_
  refine jw_iload_n (pc' := 43) jd_Integer_bitCount_42 rfl rfl rfl ?_
  refine jw_bipush (pc' := 45) (v := nI 16) jd_Integer_bitCount_43 (by decide +kernel) rfl ?_
  refine jw_iushr (pc' := 46) jd_Integer_bitCount_45 rfl rfl ?_
  refine jw_iadd (pc' := 47) jd_Integer_bitCount_46 rfl rfl ?_
  refine jw_istore_n (pc' := 48) (lc' := [(0, _)]) jd_Integer_bitCount_47 rfl (Nat.le_of_ble_eq_true rfl) ⟨rfl, trivial⟩ rfl ?_
  refine jw_iload_n (pc' := 49) jd_Integer_bitCount_48 rfl rfl rfl ?_
  refine jw_bipush (pc' := 51) (v := nI 63) jd_Integer_bitCount_49 (by decide +kernel) rfl ?_
  refine jw_iand (pc' := 52) jd_Integer_bitCount_51 rfl rfl ?_
  refine jw_iret hE jd_Integer_bitCount_52 rfl (by omega) (by omega) ?_
  exact ⟨by decide +kernel, rfl, rfl⟩
section
variable {h : Nat} {N : Nat → Nat → Nat} {Z : Nat → Nat → Int32} {G : Nat → Nat → Nat → Int32} {nt f1 f2 tn cn : Nat → Int32} {c kp : Int32}
theorem bh_At.met {μ' : jw_Mem} (x : bh_At o μ h N Z G nt f1 f2 tn cn c kp) (q : jw_Fr μ μ' (h + 35) 1) (hm : ∃ f, bi_At o μ' (h + 35) 360 f) : bh_At o μ' h N Z G nt f1 f2 tn cn c kp := by
  obtain ⟨x1, ⟨F, x2, x3⟩, x4, x5, x6, x7, x8, x9, -, x11⟩ := x
  exact ⟨(q _ (by omega)).trans x1, ⟨F, (q _ (by omega)).trans x2, x3⟩, x4.fr q (by omega), x5.fr q (by omega), x6.fr q (by omega), x7.fr q (by omega), x8.fr q (by omega), x9.fr q (by omega), hm, fun i hi => (x11 i hi).fr q (by omega)⟩
theorem bs_kept (x : bh_At o μ h N Z G nt f1 f2 tn cn c kp) : jw_Ro mi_History_kept 0 o [.ref h] μ hs (some (.int kp)) := by
  refine jw_ro (by decide +kernel) (Nat.le_of_ble_eq_true rfl) rfl (fun k hR hE => ?_)
  have h0 := x.1
  refine jw_aload_n (pc' := 1) jd_History_kept_0 rfl rfl rfl ?_
  refine jw_get (pc' := 4) (kf := 9) jc_History (by decide) jq_142 jd_History_kept_1 (by assumption) rfl rfl ?_
  refine jw_iret hE jd_History_kept_4 rfl (by omega) (by omega) ?_
  exact ⟨rfl, rfl, rfl⟩
theorem bs_countTrees0 (x : bh_At o μ h N Z G nt f1 f2 tn cn c kp) : jw_Ro mi_History_countTrees 2 o [.ref h, .int 0] μ hs (some (.int 0)) := by
  refine jw_ro (by decide +kernel) (Nat.le_of_ble_eq_true rfl) rfl (fun k hR hE => ?_)
  have h0 := x.1
  refine jw_iconst (pc' := 1) (v := nI 0) jd_History_countTrees_0 (by decide +kernel) rfl ?_
  refine jw_istore_n (pc' := 2) (lc' := [(0, _), (1, _), (2, _)]) jd_History_countTrees_1 rfl (Nat.le_of_ble_eq_true rfl) ⟨rfl, rfl, rfl, trivial⟩ rfl ?_
  refine jw_iconst (pc' := 3) (v := nI 0) jd_History_countTrees_2 (by decide +kernel) rfl ?_
  refine jw_istore_n (pc' := 4) (lc' := [(0, _), (1, _), (2, _), (3, _)]) jd_History_countTrees_3 rfl (Nat.le_of_ble_eq_true rfl) ⟨rfl, rfl, rfl, rfl, trivial⟩ rfl ?_
  have loop : ∀ d i : Nat, i + d = 30 → jw_X mi_History_countTrees o k 0 0 4 [(0, .ref h), (1, .int 0), (2, .int 0), (3, .int (nI i))] [] μ hs := by
    intro d
    induction d with
    | zero =>
      intro i hi
      refine jw_iload_n (pc' := 5) jd_History_countTrees_4 rfl rfl rfl ?_
      refine jw_bipush (pc' := 7) (v := nI 30) jd_History_countTrees_5 (by decide +kernel) rfl ?_
      refine jw_icmp_ge (tgt := 36) (pc' := 10) jd_History_countTrees_7 (by decide) rfl (fun c => ?_) (fun c => ?_)
      · refine jw_iload_n (pc' := 37) jd_History_countTrees_36 rfl rfl rfl ?_
        refine jw_callS0 (pc' := 40) hR (bs_bitCount0) jm_Integer_bitCount jq_330 jd_History_countTrees_37 rfl rfl (Nat.le_of_ble_eq_true rfl) (by omega) (by decide) (by omega) (by omega) rfl rfl ?_
        refine jw_iret hE jd_History_countTrees_40 rfl (by omega) (by omega) ?_
        exact ⟨rfl, rfl, rfl⟩
      · exact absurd (nI_le (by omega) (by omega)) c
    | succ d ih =>
      intro i hi
      refine jw_iload_n (pc' := 5) jd_History_countTrees_4 rfl rfl rfl ?_
      refine jw_bipush (pc' := 7) (v := nI 30) jd_History_countTrees_5 (by decide +kernel) rfl ?_
      refine jw_icmp_ge (tgt := 36) (pc' := 10) jd_History_countTrees_7 (by decide) rfl (fun c => ?_) (fun c => ?_)
      · exact absurd ((nI_leI (a := 30) (by omega) (by omega)).mp c) (by omega)
      refine jw_iload_n (pc' := 11) jd_History_countTrees_10 rfl rfl rfl ?_
      refine jw_iload_n (pc' := 12) jd_History_countTrees_11 rfl rfl rfl ?_
      refine jw_callS0 (pc' := 15) hR (bs_isIn0 (nI i)) jm_History_isIn jq_340 jd_History_countTrees_12 rfl rfl (Nat.le_of_ble_eq_true rfl) (by omega) (by decide) (by omega) (by omega) rfl rfl ?_
      refine jw_if_eq (tgt := 30) (pc' := 18) jd_History_countTrees_15 (by decide) rfl (fun c2 => ?_) (fun c2 => ?_)
      · refine jw_iinc (pc' := 33) (lc' := [(0, _), (1, _), (2, _), (3, _)]) jd_History_countTrees_30 rfl (nI_1 _) (Nat.le_of_ble_eq_true rfl) ⟨rfl, rfl, rfl, rfl, trivial⟩ rfl ?_
        refine jw_goto (tgt := 4) jd_History_countTrees_33 (by decide) ?_
        exact ih (i + 1) (by omega)
      · exact absurd rfl c2
  exact loop 30 0 (by omega)
theorem bs_meet0 (x : bh_At o μ h N Z G nt f1 f2 tn cn c kp) : jw_Spec mi_History_meetContents 2 0 0 o [.ref h, .int 0] μ hs (fun v μ' s' => v = none ∧ s' = hs ∧ (∃ f, bi_At o μ' (h + 35) 360 f ∧ ∀ j, j < 360 → f j = 0) ∧ jw_Fr μ μ' (h + 35) 1) := by
  refine jw_spec (by decide +kernel) (Nat.le_of_ble_eq_true rfl) rfl (fun k hR hE => ?_)
  have h0 := x.1
  obtain ⟨fm, hm⟩ := x.2.2.2.2.2.2.2.2.1
  have hF : jw_Fr μ μ (h + 35) 1 := jw_Fr.rf
  have hm9 : μ (h + 35) = some (.inl (o.2.2.1 0, 360, .inl fm)) := hm
  refine jw_aload_n (pc' := 1) jd_History_meetContents_0 rfl rfl rfl ?_
  refine jw_get (pc' := 4) (kf := 7) jc_History (by decide) jq_140 jd_History_meetContents_1 (by assumption) rfl rfl ?_
  refine jw_iconst (pc' := 5) (v := nI 0) jd_History_meetContents_4 (by decide +kernel) rfl ?_
  refine jw_callS (pc' := 8) hR (bi_fill hm (by omega)) jm_Arrays_fill jq_354 jd_History_meetContents_5 rfl rfl (Nat.le_of_ble_eq_true rfl) (by omega) (by decide) (by omega) (by omega) rfl (fun v μ s9 q9 hle => ?_)
  obtain ⟨rfl, rfl, ⟨f, hI, hIf⟩, f9⟩ := q9
  have hF := hF.trans f9 (by omega) (by omega)
  have h0 := (f9 _ (by omega)).trans h0
  refine jw_iconst (pc' := 9) (v := nI 0) jd_History_meetContents_8 (by decide +kernel) rfl ?_
  refine jw_istore_n (pc' := 10) (lc' := [(0, _), (1, _), (2, _)]) jd_History_meetContents_9 rfl (Nat.le_of_ble_eq_true rfl) ⟨rfl, rfl, rfl, trivial⟩ rfl ?_
  have loop : ∀ d i : Nat, i + d = 30 → jw_X mi_History_meetContents o k 0 0 10 [(0, .ref h), (1, .int 0), (2, .int (nI i))] [] μ s9 := by
    intro d
    induction d with
    | zero =>
      intro i hi
      refine jw_iload_n (pc' := 11) jd_History_meetContents_10 rfl rfl rfl ?_
      refine jw_bipush (pc' := 13) (v := nI 30) jd_History_meetContents_11 (by decide +kernel) rfl ?_
      refine jw_icmp_ge (tgt := 80) (pc' := 16) jd_History_meetContents_13 (by decide) rfl (fun c => ?_) (fun c => ?_)
      · refine jw_vret hE jd_History_meetContents_80 rfl (by omega) (by omega) ?_
        exact ⟨rfl, rfl, ⟨f, hI, hIf⟩, hF⟩
      · exact absurd (nI_le (by omega) (by omega)) c
    | succ d ih =>
      intro i hi
      refine jw_iload_n (pc' := 11) jd_History_meetContents_10 rfl rfl rfl ?_
      refine jw_bipush (pc' := 13) (v := nI 30) jd_History_meetContents_11 (by decide +kernel) rfl ?_
      refine jw_icmp_ge (tgt := 80) (pc' := 16) jd_History_meetContents_13 (by decide) rfl (fun c => ?_) (fun c => ?_)
      · exact absurd ((nI_leI (a := 30) (by omega) (by omega)).mp c) (by omega)
      refine jw_iconst (pc' := 17) (v := nI 0) jd_History_meetContents_16 (by decide +kernel) rfl ?_
      refine jw_istore_n (pc' := 18) (lc' := [(0, _), (1, _), (2, _), (3, _)]) jd_History_meetContents_17 rfl (Nat.le_of_ble_eq_true rfl) ⟨rfl, rfl, rfl, rfl, trivial⟩ rfl ?_
      refine jw_iload_n (pc' := 19) jd_History_meetContents_18 rfl rfl rfl ?_
      refine jw_bipush (pc' := 21) (v := nI 12) jd_History_meetContents_19 (by decide +kernel) rfl ?_
      refine jw_icmp_ge (tgt := 74) (pc' := 24) jd_History_meetContents_21 (by decide) rfl (fun c2 => ?_) (fun c2 => ?_)
      · exact absurd c2 (nI_ge (a := 0) (b := 12) (by omega) (by omega))
      refine jw_iload_n (pc' := 25) jd_History_meetContents_24 rfl rfl rfl ?_
      refine jw_iload_n (pc' := 26) jd_History_meetContents_25 rfl rfl rfl ?_
      refine jw_callS0 (pc' := 29) hR (bs_isIn0 (nI i)) jm_History_isIn jq_340 jd_History_meetContents_26 rfl rfl (Nat.le_of_ble_eq_true rfl) (by omega) (by decide) (by omega) (by omega) rfl rfl ?_
      refine jw_if_eq (tgt := 74) (pc' := 32) jd_History_meetContents_29 (by decide) rfl (fun c3 => ?_) (fun c3 => ?_)
      · refine jw_sub (lc' := [(0, _), (1, _), (2, _)]) ⟨rfl, rfl, rfl, trivial⟩ ?_
        refine jw_iinc (pc' := 77) (lc' := [(0, _), (1, _), (2, _)]) jd_History_meetContents_74 rfl (nI_1 _) (Nat.le_of_ble_eq_true rfl) ⟨rfl, rfl, rfl, trivial⟩ rfl ?_
        refine jw_goto (tgt := 10) jd_History_meetContents_77 (by decide) ?_
        exact ih (i + 1) (by omega)
      · exact absurd rfl c3
  exact loop 30 0 (by omega)
theorem bs_countContents0 (x : bh_At o μ h N Z G nt f1 f2 tn cn c kp) : jw_Spec mi_History_countContents 3 0 0 o [.ref h, .int 0] μ hs (fun v μ' s' => v = some (.int 0) ∧ s' = hs ∧ bh_At o μ' h N Z G nt f1 f2 tn cn c kp ∧ jw_Fr μ μ' (h + 35) 1) := by
  refine jw_spec (by decide +kernel) (Nat.le_of_ble_eq_true rfl) rfl (fun k hR hE => ?_)
  have h0 := x.1
  have hF : jw_Fr μ μ (h + 35) 1 := jw_Fr.rf
  refine jw_aload_n (pc' := 1) jd_History_countContents_0 rfl rfl rfl ?_
  refine jw_iload_n (pc' := 2) jd_History_countContents_1 rfl rfl rfl ?_
  refine jw_callV (pc' := 5) hR (bs_meet0 x) jm_History_meetContents jq_350 jc_History jd_History_countContents_2 (by assumption) rfl rfl (Nat.le_of_ble_eq_true rfl) (by omega) (by decide) (by omega) (by omega) rfl (fun v μ s9 q9 hle => ?_)
  obtain ⟨rfl, rfl, ⟨f, hI, hIf⟩, f9⟩ := q9
  have hF := hF.trans f9 (by omega) (by omega)
  have h0 := (f9 _ (by omega)).trans h0
  have x := x.met hF ⟨f, hI⟩
  have hI9 : μ (h + 35) = some (.inl (o.2.2.1 0, 360, .inl f)) := hI
  refine jw_iconst (pc' := 6) (v := nI 0) jd_History_countContents_5 (by decide +kernel) rfl ?_
  refine jw_istore_n (pc' := 7) (lc' := [(0, _), (1, _), (2, _)]) jd_History_countContents_6 rfl (Nat.le_of_ble_eq_true rfl) ⟨rfl, rfl, rfl, trivial⟩ rfl ?_
  refine jw_iconst (pc' := 8) (v := nI 0) jd_History_countContents_7 (by decide +kernel) rfl ?_
  refine jw_istore_n (pc' := 9) (lc' := [(0, _), (1, _), (2, _), (3, _)]) jd_History_countContents_8 rfl (Nat.le_of_ble_eq_true rfl) ⟨rfl, rfl, rfl, rfl, trivial⟩ rfl ?_
  have loop : ∀ d i : Nat, i + d = 360 → jw_X mi_History_countContents o k 0 0 9 [(0, .ref h), (1, .int 0), (2, .int 0), (3, .int (nI i))] [] μ s9 := by
    intro d
    induction d with
    | zero =>
      intro i hi
      refine jw_iload_n (pc' := 10) jd_History_countContents_9 rfl rfl rfl ?_
      refine jw_aload_n (pc' := 11) jd_History_countContents_10 rfl rfl rfl ?_
      refine jw_get (pc' := 14) (kf := 7) jc_History (by decide) jq_140 jd_History_countContents_11 (by assumption) rfl rfl ?_
      refine jw_alen (pc' := 15) (i := 0) jd_History_countContents_14 (by assumption) rfl rfl rfl ?_
      refine jw_icmp_ge (tgt := 33) (pc' := 18) jd_History_countContents_15 (by decide) rfl (fun c => ?_) (fun c => ?_)
      · refine jw_iload_n (pc' := 34) jd_History_countContents_33 rfl rfl rfl ?_
        refine jw_iret hE jd_History_countContents_34 rfl (by omega) (by omega) ?_
        exact ⟨rfl, rfl, x, hF⟩
      · exact absurd (nI_le (a := 360) (by omega) (by omega)) c
    | succ d ih =>
      intro i hi
      refine jw_iload_n (pc' := 10) jd_History_countContents_9 rfl rfl rfl ?_
      refine jw_aload_n (pc' := 11) jd_History_countContents_10 rfl rfl rfl ?_
      refine jw_get (pc' := 14) (kf := 7) jc_History (by decide) jq_140 jd_History_countContents_11 (by assumption) rfl rfl ?_
      refine jw_alen (pc' := 15) (i := 0) jd_History_countContents_14 (by assumption) rfl rfl rfl ?_
      refine jw_icmp_ge (tgt := 33) (pc' := 18) jd_History_countContents_15 (by decide) rfl (fun c => ?_) (fun c => ?_)
      · exact absurd ((nI_leI (a := 360) (by omega) (by omega)).mp c) (by omega)
      refine jw_iload_n (pc' := 19) jd_History_countContents_18 rfl rfl rfl ?_
      refine jw_aload_n (pc' := 20) jd_History_countContents_19 rfl rfl rfl ?_
      refine jw_get (pc' := 23) (kf := 7) jc_History (by decide) jq_140 jd_History_countContents_20 (by assumption) rfl rfl ?_
      refine jw_iload_n (pc' := 24) jd_History_countContents_23 rfl rfl rfl ?_
      refine jw_iald (pc' := 25) (i := 0) jd_History_countContents_24 (by assumption) rfl (vp_in_nI (by omega) (by omega)) ((congrArg f (nI_clamp (by omega))).trans (hIf i (by omega))) rfl ?_
      refine jw_iadd (pc' := 26) jd_History_countContents_25 (by decide : (0 : Int32) + 0 = 0) rfl ?_
      refine jw_istore_n (pc' := 27) (lc' := [(0, _), (1, _), (2, _), (3, _)]) jd_History_countContents_26 rfl (Nat.le_of_ble_eq_true rfl) ⟨rfl, rfl, rfl, rfl, trivial⟩ rfl ?_
      refine jw_iinc (pc' := 30) (lc' := [(0, _), (1, _), (2, _), (3, _)]) jd_History_countContents_27 rfl (nI_1 _) (Nat.le_of_ble_eq_true rfl) ⟨rfl, rfl, rfl, rfl, trivial⟩ rfl ?_
      refine jw_goto (tgt := 9) jd_History_countContents_30 (by decide) ?_
      exact ih (i + 1) (by omega)
  exact loop 360 0 (by omega)
theorem bs_withAnc0 (x : bh_At o μ h N Z G nt f1 f2 tn cn c kp) : jw_Ro mi_History_withAncestors 2 o [.ref h, .int 0] μ hs (some (.int 0)) := by
  refine jw_ro (by decide +kernel) (Nat.le_of_ble_eq_true rfl) rfl (fun k hR hE => ?_)
  have h0 := x.1
  refine jw_iload_n (pc' := 1) jd_History_withAncestors_0 rfl rfl rfl ?_
  refine jw_istore_n (pc' := 2) (lc' := [(0, _), (1, _), (2, _)]) jd_History_withAncestors_1 rfl (Nat.le_of_ble_eq_true rfl) ⟨rfl, rfl, rfl, trivial⟩ rfl ?_
  refine jw_bipush (pc' := 4) (v := nI 29) jd_History_withAncestors_2 (by decide +kernel) rfl ?_
  refine jw_istore_n (pc' := 5) (lc' := [(0, _), (1, _), (2, _), (3, _)]) jd_History_withAncestors_4 rfl (Nat.le_of_ble_eq_true rfl) ⟨rfl, rfl, rfl, rfl, trivial⟩ rfl ?_
  have loop : ∀ i : Nat, i ≤ 30 → ∀ y : Int32, y = nI i - 1 → jw_X mi_History_withAncestors o k 0 0 5 [(0, .ref h), (1, .int 0), (2, .int 0), (3, .int y)] [] μ hs := by
    intro i
    induction i with
    | zero =>
      intro hi y hy
      refine jw_iload_n (pc' := 6) jd_History_withAncestors_5 rfl rfl rfl ?_
      refine jw_if_lt (tgt := 45) (pc' := 9) jd_History_withAncestors_6 (by decide) rfl (fun c => ?_) (fun c => ?_)
      · refine jw_iload_n (pc' := 46) jd_History_withAncestors_45 rfl rfl rfl ?_
        refine jw_iret hE jd_History_withAncestors_46 rfl (by omega) (by omega) ?_
        exact ⟨rfl, rfl, rfl⟩
      · exact absurd (by rw [hy]; decide) c
    | succ i ih =>
      intro hi y hy
      rw [nI_pred] at hy
      subst hy
      refine jw_iload_n (pc' := 6) jd_History_withAncestors_5 rfl rfl rfl ?_
      refine jw_if_lt (tgt := 45) (pc' := 9) jd_History_withAncestors_6 (by decide) rfl (fun c => ?_) (fun c => ?_)
      · exact absurd c (nI_pos (by omega))
      refine jw_iload_n (pc' := 10) jd_History_withAncestors_9 rfl rfl rfl ?_
      refine jw_iload_n (pc' := 11) jd_History_withAncestors_10 rfl rfl rfl ?_
      refine jw_callS0 (pc' := 14) hR (bs_isIn0 (nI i)) jm_History_isIn jq_340 jd_History_withAncestors_11 rfl rfl (Nat.le_of_ble_eq_true rfl) (by omega) (by decide) (by omega) (by omega) rfl rfl ?_
      refine jw_if_eq (tgt := 39) (pc' := 17) jd_History_withAncestors_14 (by decide) rfl (fun c2 => ?_) (fun c2 => ?_)
      · refine jw_iinc (pc' := 42) (lc' := [(0, _), (1, _), (2, _), (3, _)]) jd_History_withAncestors_39 rfl (jx_m1 _) (Nat.le_of_ble_eq_true rfl) ⟨rfl, rfl, rfl, rfl, trivial⟩ rfl ?_
        refine jw_goto (tgt := 5) jd_History_withAncestors_42 (by decide) ?_
        exact ih (by omega) _ rfl
      · exact absurd rfl c2
  exact loop 30 (by omega) _ (by decide)
theorem bs_countObjects0 (x : bh_At o μ h N Z G nt f1 f2 tn cn c kp) : jw_Spec mi_History_countObjects 4 0 0 o [.ref h, .int 0] μ hs (fun v μ' s' => v = some (.int 0) ∧ s' = hs ∧ bh_At o μ' h N Z G nt f1 f2 tn cn c kp ∧ jw_Fr μ μ' (h + 35) 1) := by
  refine jw_spec (by decide +kernel) (Nat.le_of_ble_eq_true rfl) rfl (fun k hR hE => ?_)
  have h0 := x.1
  refine jw_iload_n (pc' := 1) jd_History_countObjects_0 rfl rfl rfl ?_
  refine jw_callS0 (pc' := 4) hR (bs_bitCount0) jm_Integer_bitCount jq_330 jd_History_countObjects_1 rfl rfl (Nat.le_of_ble_eq_true rfl) (by omega) (by decide) (by omega) (by omega) rfl rfl ?_
  refine jw_aload_n (pc' := 5) jd_History_countObjects_4 rfl rfl rfl ?_
  refine jw_iload_n (pc' := 6) jd_History_countObjects_5 rfl rfl rfl ?_
  refine jw_callV0 (pc' := 9) hR (bs_countTrees0 x) jm_History_countTrees jq_336 jc_History jd_History_countObjects_6 (by assumption) rfl rfl (Nat.le_of_ble_eq_true rfl) (by omega) (by decide) (by omega) (by omega) rfl rfl ?_
  refine jw_iadd (pc' := 10) jd_History_countObjects_9 (by decide : (0 : Int32) + 0 = 0) rfl ?_
  refine jw_aload_n (pc' := 11) jd_History_countObjects_10 rfl rfl rfl ?_
  refine jw_iload_n (pc' := 12) jd_History_countObjects_11 rfl rfl rfl ?_
  refine jw_callV (pc' := 15) hR (bs_countContents0 x) jm_History_countContents jq_346 jc_History jd_History_countObjects_12 (by assumption) rfl rfl (Nat.le_of_ble_eq_true rfl) (by omega) (by decide) (by omega) (by omega) rfl (fun v μ9 s9 q9 hle => ?_)
  obtain ⟨rfl, rfl, x, hF⟩ := q9
  refine jw_iadd (pc' := 16) jd_History_countObjects_15 (by decide : (0 : Int32) + 0 = 0) rfl ?_
  refine jw_iret hE jd_History_countObjects_16 rfl (by omega) (by omega) ?_
  exact ⟨rfl, rfl, x, hF⟩
end
theorem bw_New.met {μ' : jw_Mem} (x : bw_New o μ b) (q : jw_Fr μ μ' (b + 64) 1) (hm : bh_At o μ' (b + 29) (fun _ _ => 0) (fun _ _ => 0) (fun _ _ _ => 0) (fun _ => 0) (fun _ => 0) (fun _ => 0) (fun _ => 0) (fun _ => 0) 0 0) : bw_New o μ' b := by
  obtain ⟨x1, x2, x3, x4, x5, x6, x7, ⟨f, x8, x9⟩⟩ := x
  exact ⟨(q _ (by omega)).trans x1, x2.fr q (by omega), hm, x4.fr q (by omega), x5.fr q (by omega), x6.fr q (by omega), x7.fr q (by omega), ⟨f, x8.fr q (by omega), x9⟩⟩
theorem bs_reached (h : bw_New o μ b) : jw_Ro mi_Branchwork_reached 3 o [.ref b] μ hs (some (.int 0)) := by
  refine jw_ro (by decide +kernel) (Nat.le_of_ble_eq_true rfl) rfl (fun k hR hE => ?_)
  obtain ⟨h0, -, hH, -, -, -, -, ⟨f, hf, hf1⟩⟩ := h
  have hf9 : μ (b + 983) = some (.inl (o.2.2.1 0, 5, .inl f)) := hf
  have hm1 : bs_setOf (-1) = 0 := by decide
  have hH0 := hH.1
  refine jw_aload_n (pc' := 1) jd_Branchwork_reached_0 rfl rfl rfl ?_
  refine jw_get (pc' := 4) (kf := 9) jc_Branchwork (by decide) jq_292 jd_Branchwork_reached_1 (by assumption) rfl rfl ?_
  refine jw_callS0 (pc' := 7) hR (bs_setOfC (-1)) jm_History_setOf jq_359 jd_Branchwork_reached_4 rfl rfl (Nat.le_of_ble_eq_true rfl) (by omega) (by decide) (by omega) (by omega) rfl rfl ?_
  rw [hm1]
  refine jw_istore_n (pc' := 8) (lc' := [(0, _), (1, _)]) jd_Branchwork_reached_7 rfl (Nat.le_of_ble_eq_true rfl) ⟨rfl, rfl, trivial⟩ rfl ?_
  refine jw_iconst (pc' := 9) (v := nI 0) jd_Branchwork_reached_8 (by decide +kernel) rfl ?_
  refine jw_istore_n (pc' := 10) (lc' := [(0, _), (1, _), (2, _)]) jd_Branchwork_reached_9 rfl (Nat.le_of_ble_eq_true rfl) ⟨rfl, rfl, rfl, trivial⟩ rfl ?_
  have loop : ∀ d i : Nat, i + d = 5 → jw_X mi_Branchwork_reached o k 0 0 10 [(0, .ref b), (1, .int 0), (2, .int (nI i))] [] μ hs := by
    intro d
    induction d with
    | zero =>
      intro i hi
      refine jw_iload_n (pc' := 11) jd_Branchwork_reached_10 rfl rfl rfl ?_
      refine jw_iconst (pc' := 12) (v := nI 5) jd_Branchwork_reached_11 (by decide +kernel) rfl ?_
      refine jw_icmp_ge (tgt := 33) (pc' := 15) jd_Branchwork_reached_12 (by decide) rfl (fun c => ?_) (fun c => ?_)
      · refine jw_aload_n (pc' := 34) jd_Branchwork_reached_33 rfl rfl rfl ?_
        refine jw_get (pc' := 37) (kf := 1) jc_Branchwork (by decide) jq_284 jd_Branchwork_reached_34 (by assumption) rfl rfl ?_
        refine jw_iload_n (pc' := 38) jd_Branchwork_reached_37 rfl rfl rfl ?_
        refine jw_callV0 (pc' := 41) hR (bs_withAnc0 hH) jm_History_withAncestors jq_360 jc_History jd_Branchwork_reached_38 (by assumption) rfl rfl (Nat.le_of_ble_eq_true rfl) (by omega) (by decide) (by omega) (by omega) rfl rfl ?_
        refine jw_iret hE jd_Branchwork_reached_41 rfl (by omega) (by omega) ?_
        exact ⟨rfl, rfl, rfl⟩
      · exact absurd (nI_le (a := 5) (by omega) (by omega)) c
    | succ d ih =>
      intro i hi
      refine jw_iload_n (pc' := 11) jd_Branchwork_reached_10 rfl rfl rfl ?_
      refine jw_iconst (pc' := 12) (v := nI 5) jd_Branchwork_reached_11 (by decide +kernel) rfl ?_
      refine jw_icmp_ge (tgt := 33) (pc' := 15) jd_Branchwork_reached_12 (by decide) rfl (fun c => ?_) (fun c => ?_)
      · exact absurd ((nI_leI (a := 5) (by omega) (by omega)).mp c) (by omega)
      refine jw_iload_n (pc' := 16) jd_Branchwork_reached_15 rfl rfl rfl ?_
      refine jw_aload_n (pc' := 17) jd_Branchwork_reached_16 rfl rfl rfl ?_
      refine jw_get (pc' := 20) (kf := 6) jc_Branchwork (by decide) jq_289 jd_Branchwork_reached_17 (by assumption) rfl rfl ?_
      refine jw_iload_n (pc' := 21) jd_Branchwork_reached_20 rfl rfl rfl ?_
      refine jw_iald (pc' := 22) (i := 0) jd_Branchwork_reached_21 (by assumption) rfl (vp_in_nI (by omega) (by omega)) ((congrArg f (nI_clamp (by omega))).trans (hf1 i (by omega))) rfl ?_
      refine jw_callS0 (pc' := 25) hR (bs_setOfC (-1)) jm_History_setOf jq_359 jd_Branchwork_reached_22 rfl rfl (Nat.le_of_ble_eq_true rfl) (by omega) (by decide) (by omega) (by omega) rfl rfl ?_
      rw [hm1]
      refine jw_ior (pc' := 26) jd_Branchwork_reached_25 bs_or0 rfl ?_
      refine jw_istore_n (pc' := 27) (lc' := [(0, _), (1, _), (2, _)]) jd_Branchwork_reached_26 rfl (Nat.le_of_ble_eq_true rfl) ⟨rfl, rfl, rfl, trivial⟩ rfl ?_
      refine jw_iinc (pc' := 30) (lc' := [(0, _), (1, _), (2, _)]) jd_Branchwork_reached_27 rfl (nI_1 _) (Nat.le_of_ble_eq_true rfl) ⟨rfl, rfl, rfl, trivial⟩ rfl ?_
      refine jw_goto (tgt := 10) jd_Branchwork_reached_30 (by decide) ?_
      exact ih (i + 1) (by omega)
  exact loop 5 0 (by omega)
theorem bs_garbage (h : bw_New o μ b) : jw_Spec mi_Branchwork_garbage 5 0 0 o [.ref b] μ hs (fun v μ' s' => v = some (.int 0) ∧ s' = hs ∧ bw_New o μ' b ∧ jw_Fr μ μ' (b + 64) 1) := by
  refine jw_spec (by decide +kernel) (Nat.le_of_ble_eq_true rfl) rfl (fun k hR hE => ?_)
  have hN := h
  obtain ⟨h0, -, hH, -⟩ := h
  have hH0 := hH.1
  refine jw_aload_n (pc' := 1) jd_Branchwork_garbage_0 rfl rfl rfl ?_
  refine jw_get (pc' := 4) (kf := 1) jc_Branchwork (by decide) jq_284 jd_Branchwork_garbage_1 (by assumption) rfl rfl ?_
  refine jw_aload_n (pc' := 5) jd_Branchwork_garbage_4 rfl rfl rfl ?_
  refine jw_get (pc' := 8) (kf := 1) jc_Branchwork (by decide) jq_284 jd_Branchwork_garbage_5 (by assumption) rfl rfl ?_
  refine jw_callV0 (pc' := 11) hR (bs_kept hH) jm_History_kept jq_322 jc_History jd_Branchwork_garbage_8 (by assumption) rfl rfl (Nat.le_of_ble_eq_true rfl) (by omega) (by decide) (by omega) (by omega) rfl rfl ?_
  refine jw_callV (pc' := 14) hR (bs_countObjects0 hH) jm_History_countObjects jq_326 jc_History jd_Branchwork_garbage_11 (by assumption) rfl rfl (Nat.le_of_ble_eq_true rfl) (by omega) (by decide) (by omega) (by omega) rfl (fun v μ1 s9 q9 hle => ?_)
  obtain ⟨rfl, rfl, hH1, hF1⟩ := q9
  have hN1 := hN.met hF1 hH1
  have h0 := hN1.1
  have hH0 := hH1.1
  refine jw_aload_n (pc' := 15) jd_Branchwork_garbage_14 rfl rfl rfl ?_
  refine jw_get (pc' := 18) (kf := 1) jc_Branchwork (by decide) jq_284 jd_Branchwork_garbage_15 (by assumption) rfl rfl ?_
  refine jw_aload_n (pc' := 19) jd_Branchwork_garbage_18 rfl rfl rfl ?_
  refine jw_callV0 (pc' := 22) hR (bs_reached hN1) jm_Branchwork_reached jq_355 jc_Branchwork jd_Branchwork_garbage_19 (by assumption) rfl rfl (Nat.le_of_ble_eq_true rfl) (by omega) (by decide) (by omega) (by omega) rfl rfl ?_
  refine jw_callV (pc' := 25) hR (bs_countObjects0 hH1) jm_History_countObjects jq_326 jc_History jd_Branchwork_garbage_22 (by assumption) rfl rfl (Nat.le_of_ble_eq_true rfl) (by omega) (by decide) (by omega) (by omega) rfl (fun v μ2 s9 q9 hle => ?_)
  obtain ⟨rfl, rfl, hH2, hF2⟩ := q9
  have hN2 := hN1.met hF2 hH2
  refine jw_isub (pc' := 26) jd_Branchwork_garbage_25 (by decide : (0 : Int32) - 0 = 0) rfl ?_
  refine jw_iret hE jd_Branchwork_garbage_26 rfl (by omega) (by omega) ?_
  exact ⟨rfl, rfl, hN2, hF1.trans hF2 (by omega) (by omega)⟩
end
