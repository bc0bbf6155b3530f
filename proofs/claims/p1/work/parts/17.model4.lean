theorem jd_BranchworkModel_cut1_0 : decode mi_BranchworkModel_cut1.2.1 0 = .ok (.iload_n 2, 1) := by decide +kernel
theorem jd_BranchworkModel_cut1_1 : decode mi_BranchworkModel_cut1.2.1 1 = .ok (.iload_n 1, 1) := by decide +kernel
theorem jd_BranchworkModel_cut1_2 : decode mi_BranchworkModel_cut1.2.1 2 = .ok (.isub, 1) := by decide +kernel
theorem jd_BranchworkModel_cut1_3 : decode mi_BranchworkModel_cut1.2.1 3 = .ok (.newarray .int, 2) := by decide +kernel
theorem jd_BranchworkModel_cut1_5 : decode mi_BranchworkModel_cut1.2.1 5 = .ok (.astore_n 3, 1) := by decide +kernel
theorem jd_BranchworkModel_cut1_6 : decode mi_BranchworkModel_cut1.2.1 6 = .ok (.aload_n 0, 1) := by decide +kernel
theorem jd_BranchworkModel_cut1_7 : decode mi_BranchworkModel_cut1.2.1 7 = .ok (.iload_n 1, 1) := by decide +kernel
theorem jd_BranchworkModel_cut1_8 : decode mi_BranchworkModel_cut1.2.1 8 = .ok (.aload_n 3, 1) := by decide +kernel
theorem jd_BranchworkModel_cut1_9 : decode mi_BranchworkModel_cut1.2.1 9 = .ok (.iconst 0, 1) := by decide +kernel
theorem jd_BranchworkModel_cut1_10 : decode mi_BranchworkModel_cut1.2.1 10 = .ok (.iload_n 2, 1) := by decide +kernel
theorem jd_BranchworkModel_cut1_11 : decode mi_BranchworkModel_cut1.2.1 11 = .ok (.iload_n 1, 1) := by decide +kernel
theorem jd_BranchworkModel_cut1_12 : decode mi_BranchworkModel_cut1.2.1 12 = .ok (.isub, 1) := by decide +kernel
theorem jd_BranchworkModel_cut1_13 : decode mi_BranchworkModel_cut1.2.1 13 = .ok (.invokestatic 15, 3) := by decide +kernel
theorem jd_BranchworkModel_cut1_16 : decode mi_BranchworkModel_cut1.2.1 16 = .ok (.aload_n 3, 1) := by decide +kernel
theorem jd_BranchworkModel_cut1_17 : decode mi_BranchworkModel_cut1.2.1 17 = .ok (.areturn, 1) := by decide +kernel
theorem jd_BranchworkModel_joined_0 : decode mi_BranchworkModel_joined.2.1 0 = .ok (.aload_n 0, 1) := by decide +kernel
theorem jd_BranchworkModel_joined_1 : decode mi_BranchworkModel_joined.2.1 1 = .ok (.arraylength, 1) := by decide +kernel
theorem jd_BranchworkModel_joined_2 : decode mi_BranchworkModel_joined.2.1 2 = .ok (.aload_n 1, 1) := by decide +kernel
theorem jd_BranchworkModel_joined_3 : decode mi_BranchworkModel_joined.2.1 3 = .ok (.arraylength, 1) := by decide +kernel
theorem jd_BranchworkModel_joined_4 : decode mi_BranchworkModel_joined.2.1 4 = .ok (.iadd, 1) := by decide +kernel
theorem jd_BranchworkModel_joined_5 : decode mi_BranchworkModel_joined.2.1 5 = .ok (.newarray .int, 2) := by decide +kernel
theorem jd_BranchworkModel_joined_7 : decode mi_BranchworkModel_joined.2.1 7 = .ok (.astore_n 2, 1) := by decide +kernel
theorem jd_BranchworkModel_joined_8 : decode mi_BranchworkModel_joined.2.1 8 = .ok (.aload_n 0, 1) := by decide +kernel
theorem jd_BranchworkModel_joined_9 : decode mi_BranchworkModel_joined.2.1 9 = .ok (.iconst 0, 1) := by decide +kernel
theorem jd_BranchworkModel_joined_10 : decode mi_BranchworkModel_joined.2.1 10 = .ok (.aload_n 2, 1) := by decide +kernel
theorem jd_BranchworkModel_joined_11 : decode mi_BranchworkModel_joined.2.1 11 = .ok (.iconst 0, 1) := by decide +kernel
theorem jd_BranchworkModel_joined_12 : decode mi_BranchworkModel_joined.2.1 12 = .ok (.aload_n 0, 1) := by decide +kernel
theorem jd_BranchworkModel_joined_13 : decode mi_BranchworkModel_joined.2.1 13 = .ok (.arraylength, 1) := by decide +kernel
theorem jd_BranchworkModel_joined_14 : decode mi_BranchworkModel_joined.2.1 14 = .ok (.invokestatic 15, 3) := by decide +kernel
theorem jd_BranchworkModel_joined_17 : decode mi_BranchworkModel_joined.2.1 17 = .ok (.aload_n 1, 1) := by decide +kernel
theorem jd_BranchworkModel_joined_18 : decode mi_BranchworkModel_joined.2.1 18 = .ok (.iconst 0, 1) := by decide +kernel
theorem jd_BranchworkModel_joined_19 : decode mi_BranchworkModel_joined.2.1 19 = .ok (.aload_n 2, 1) := by decide +kernel
theorem jd_BranchworkModel_joined_20 : decode mi_BranchworkModel_joined.2.1 20 = .ok (.aload_n 0, 1) := by decide +kernel
theorem jd_BranchworkModel_joined_21 : decode mi_BranchworkModel_joined.2.1 21 = .ok (.arraylength, 1) := by decide +kernel
theorem jd_BranchworkModel_joined_22 : decode mi_BranchworkModel_joined.2.1 22 = .ok (.aload_n 1, 1) := by decide +kernel
theorem jd_BranchworkModel_joined_23 : decode mi_BranchworkModel_joined.2.1 23 = .ok (.arraylength, 1) := by decide +kernel
theorem jd_BranchworkModel_joined_24 : decode mi_BranchworkModel_joined.2.1 24 = .ok (.invokestatic 15, 3) := by decide +kernel
theorem jd_BranchworkModel_joined_27 : decode mi_BranchworkModel_joined.2.1 27 = .ok (.aload_n 2, 1) := by decide +kernel
theorem jd_BranchworkModel_joined_28 : decode mi_BranchworkModel_joined.2.1 28 = .ok (.areturn, 1) := by decide +kernel
theorem jd_BranchworkModel_write_0 : decode mi_BranchworkModel_write.2.1 0 = .ok (.aload_n 0, 1) := by decide +kernel
theorem jd_BranchworkModel_write_1 : decode mi_BranchworkModel_write.2.1 1 = .ok (.aload_n 0, 1) := by decide +kernel
theorem jd_BranchworkModel_write_2 : decode mi_BranchworkModel_write.2.1 2 = .ok (.getfield 40, 3) := by decide +kernel
theorem jd_BranchworkModel_write_5 : decode mi_BranchworkModel_write.2.1 5 = .ok (.invokevirtual 102, 3) := by decide +kernel
theorem jd_BranchworkModel_write_8 : decode mi_BranchworkModel_write.2.1 8 = .ok (.putfield 40, 3) := by decide +kernel
theorem jd_BranchworkModel_write_11 : decode mi_BranchworkModel_write.2.1 11 = .ok (.aload_n 0, 1) := by decide +kernel
theorem jd_BranchworkModel_write_12 : decode mi_BranchworkModel_write.2.1 12 = .ok (.getfield 40, 3) := by decide +kernel
theorem jd_BranchworkModel_write_15 : decode mi_BranchworkModel_write.2.1 15 = .ok (.getfield 105, 3) := by decide +kernel
theorem jd_BranchworkModel_write_18 : decode mi_BranchworkModel_write.2.1 18 = .ok (.iload_n 1, 1) := by decide +kernel
theorem jd_BranchworkModel_write_19 : decode mi_BranchworkModel_write.2.1 19 = .ok (.aload_n 2, 1) := by decide +kernel
theorem jd_BranchworkModel_write_20 : decode mi_BranchworkModel_write.2.1 20 = .ok (.aastore, 1) := by decide +kernel
theorem jd_BranchworkModel_write_21 : decode mi_BranchworkModel_write.2.1 21 = .ok (.return_, 1) := by decide +kernel
theorem jd_MTree_copy_0 : decode mi_MTree_copy.2.1 0 = .ok (.new 12, 3) := by decide +kernel
theorem jd_MTree_copy_3 : decode mi_MTree_copy.2.1 3 = .ok (.dup, 1) := by decide +kernel
theorem jd_MTree_copy_4 : decode mi_MTree_copy.2.1 4 = .ok (.invokespecial 17, 3) := by decide +kernel
theorem jd_MTree_copy_7 : decode mi_MTree_copy.2.1 7 = .ok (.astore_n 1, 1) := by decide +kernel
theorem jd_MTree_copy_8 : decode mi_MTree_copy.2.1 8 = .ok (.aload_n 0, 1) := by decide +kernel
theorem jd_MTree_copy_9 : decode mi_MTree_copy.2.1 9 = .ok (.getfield 11, 3) := by decide +kernel
theorem jd_MTree_copy_12 : decode mi_MTree_copy.2.1 12 = .ok (.iconst 0, 1) := by decide +kernel
theorem jd_MTree_copy_13 : decode mi_MTree_copy.2.1 13 = .ok (.aload_n 1, 1) := by decide +kernel
theorem jd_MTree_copy_14 : decode mi_MTree_copy.2.1 14 = .ok (.getfield 11, 3) := by decide +kernel
theorem jd_MTree_copy_17 : decode mi_MTree_copy.2.1 17 = .ok (.iconst 0, 1) := by decide +kernel
theorem jd_MTree_copy_18 : decode mi_MTree_copy.2.1 18 = .ok (.bipush 12, 2) := by decide +kernel
theorem jd_MTree_copy_20 : decode mi_MTree_copy.2.1 20 = .ok (.invokestatic 18, 3) := by decide +kernel
theorem jd_MTree_copy_23 : decode mi_MTree_copy.2.1 23 = .ok (.aload_n 1, 1) := by decide +kernel
theorem jd_MTree_copy_24 : decode mi_MTree_copy.2.1 24 = .ok (.areturn, 1) := by decide +kernel
theorem jd_BranchworkModel_reached_0 : decode mi_BranchworkModel_reached.2.1 0 = .ok (.bipush 30, 2) := by decide +kernel
theorem jd_BranchworkModel_reached_2 : decode mi_BranchworkModel_reached.2.1 2 = .ok (.newarray .boolean, 2) := by decide +kernel
theorem jd_BranchworkModel_reached_4 : decode mi_BranchworkModel_reached.2.1 4 = .ok (.astore_n 1, 1) := by decide +kernel
theorem jd_BranchworkModel_reached_5 : decode mi_BranchworkModel_reached.2.1 5 = .ok (.iconst 0, 1) := by decide +kernel
theorem jd_BranchworkModel_reached_6 : decode mi_BranchworkModel_reached.2.1 6 = .ok (.istore_n 2, 1) := by decide +kernel
theorem jd_BranchworkModel_reached_7 : decode mi_BranchworkModel_reached.2.1 7 = .ok (.iload_n 2, 1) := by decide +kernel
theorem jd_BranchworkModel_reached_8 : decode mi_BranchworkModel_reached.2.1 8 = .ok (.aload_n 0, 1) := by decide +kernel
theorem jd_BranchworkModel_reached_9 : decode mi_BranchworkModel_reached.2.1 9 = .ok (.getfield 34, 3) := by decide +kernel
theorem jd_BranchworkModel_reached_12 : decode mi_BranchworkModel_reached.2.1 12 = .ok (.invokevirtual 70, 3) := by decide +kernel
theorem jd_BranchworkModel_reached_15 : decode mi_BranchworkModel_reached.2.1 15 = .ok (.if_icmp .ge 35, 3) := by decide +kernel
theorem jd_BranchworkModel_reached_18 : decode mi_BranchworkModel_reached.2.1 18 = .ok (.aload_n 0, 1) := by decide +kernel
theorem jd_BranchworkModel_reached_19 : decode mi_BranchworkModel_reached.2.1 19 = .ok (.getfield 34, 3) := by decide +kernel
theorem jd_BranchworkModel_reached_22 : decode mi_BranchworkModel_reached.2.1 22 = .ok (.iload_n 2, 1) := by decide +kernel
theorem jd_BranchworkModel_reached_23 : decode mi_BranchworkModel_reached.2.1 23 = .ok (.invokevirtual 74, 3) := by decide +kernel
theorem jd_BranchworkModel_reached_26 : decode mi_BranchworkModel_reached.2.1 26 = .ok (.ifnull 18, 3) := by decide +kernel
theorem jd_BranchworkModel_reached_29 : decode mi_BranchworkModel_reached.2.1 29 = .ok (.aload_n 0, 1) := by decide +kernel
theorem jd_BranchworkModel_reached_30 : decode mi_BranchworkModel_reached.2.1 30 = .ok (.getfield 34, 3) := by decide +kernel
theorem jd_BranchworkModel_reached_33 : decode mi_BranchworkModel_reached.2.1 33 = .ok (.iload_n 2, 1) := by decide +kernel
theorem jd_BranchworkModel_reached_34 : decode mi_BranchworkModel_reached.2.1 34 = .ok (.invokevirtual 74, 3) := by decide +kernel
theorem jd_BranchworkModel_reached_37 : decode mi_BranchworkModel_reached.2.1 37 = .ok (.checkcast 78, 3) := by decide +kernel
theorem jd_BranchworkModel_reached_40 : decode mi_BranchworkModel_reached.2.1 40 = .ok (.aload_n 1, 1) := by decide +kernel
theorem jd_BranchworkModel_reached_41 : decode mi_BranchworkModel_reached.2.1 41 = .ok (.invokevirtual 191, 3) := by decide +kernel
theorem jd_BranchworkModel_reached_44 : decode mi_BranchworkModel_reached.2.1 44 = .ok (.iinc 2 1, 3) := by decide +kernel
theorem jd_BranchworkModel_reached_47 : decode mi_BranchworkModel_reached.2.1 47 = .ok (.goto (-40), 3) := by decide +kernel
theorem jd_BranchworkModel_reached_50 : decode mi_BranchworkModel_reached.2.1 50 = .ok (.aload_n 0, 1) := by decide +kernel
theorem jd_BranchworkModel_reached_51 : decode mi_BranchworkModel_reached.2.1 51 = .ok (.getfield 145, 3) := by decide +kernel
theorem jd_BranchworkModel_reached_54 : decode mi_BranchworkModel_reached.2.1 54 = .ok (.ifnull 11, 3) := by decide +kernel
theorem jd_BranchworkModel_reached_57 : decode mi_BranchworkModel_reached.2.1 57 = .ok (.aload_n 0, 1) := by decide +kernel
theorem jd_BranchworkModel_reached_58 : decode mi_BranchworkModel_reached.2.1 58 = .ok (.getfield 145, 3) := by decide +kernel
theorem jd_BranchworkModel_reached_61 : decode mi_BranchworkModel_reached.2.1 61 = .ok (.aload_n 1, 1) := by decide +kernel
theorem jd_BranchworkModel_reached_62 : decode mi_BranchworkModel_reached.2.1 62 = .ok (.invokevirtual 191, 3) := by decide +kernel
theorem jd_BranchworkModel_reached_65 : decode mi_BranchworkModel_reached.2.1 65 = .ok (.aload_n 1, 1) := by decide +kernel
theorem jd_BranchworkModel_reached_66 : decode mi_BranchworkModel_reached.2.1 66 = .ok (.areturn, 1) := by decide +kernel
theorem jd_BranchworkModel_trees_0 : decode mi_BranchworkModel_trees.2.1 0 = .ok (.new 27, 3) := by decide +kernel
theorem jd_BranchworkModel_trees_3 : decode mi_BranchworkModel_trees.2.1 3 = .ok (.dup, 1) := by decide +kernel
theorem jd_BranchworkModel_trees_4 : decode mi_BranchworkModel_trees.2.1 4 = .ok (.invokespecial 29, 3) := by decide +kernel
theorem jd_BranchworkModel_trees_7 : decode mi_BranchworkModel_trees.2.1 7 = .ok (.astore_n 2, 1) := by decide +kernel
theorem jd_BranchworkModel_trees_8 : decode mi_BranchworkModel_trees.2.1 8 = .ok (.aload_n 0, 1) := by decide +kernel
theorem jd_BranchworkModel_trees_9 : decode mi_BranchworkModel_trees.2.1 9 = .ok (.invokevirtual 195, 3) := by decide +kernel
theorem jd_BranchworkModel_trees_12 : decode mi_BranchworkModel_trees.2.1 12 = .ok (.astore_n 3, 1) := by decide +kernel
theorem jd_BranchworkModel_trees_13 : decode mi_BranchworkModel_trees.2.1 13 = .ok (.iconst 0, 1) := by decide +kernel
theorem jd_BranchworkModel_trees_14 : decode mi_BranchworkModel_trees.2.1 14 = .ok (.istore 4, 2) := by decide +kernel
theorem jd_BranchworkModel_trees_16 : decode mi_BranchworkModel_trees.2.1 16 = .ok (.iload 4, 2) := by decide +kernel
theorem jd_BranchworkModel_trees_18 : decode mi_BranchworkModel_trees.2.1 18 = .ok (.aload_n 0, 1) := by decide +kernel
theorem jd_BranchworkModel_trees_19 : decode mi_BranchworkModel_trees.2.1 19 = .ok (.getfield 30, 3) := by decide +kernel
theorem jd_BranchworkModel_trees_22 : decode mi_BranchworkModel_trees.2.1 22 = .ok (.invokevirtual 70, 3) := by decide +kernel
theorem jd_BranchworkModel_trees_25 : decode mi_BranchworkModel_trees.2.1 25 = .ok (.if_icmp .ge 112, 3) := by decide +kernel
theorem jd_BranchworkModel_trees_28 : decode mi_BranchworkModel_trees.2.1 28 = .ok (.aload_n 0, 1) := by decide +kernel
theorem jd_BranchworkModel_trees_29 : decode mi_BranchworkModel_trees.2.1 29 = .ok (.getfield 30, 3) := by decide +kernel
theorem jd_BranchworkModel_trees_32 : decode mi_BranchworkModel_trees.2.1 32 = .ok (.iload 4, 2) := by decide +kernel
theorem jd_BranchworkModel_trees_34 : decode mi_BranchworkModel_trees.2.1 34 = .ok (.invokevirtual 74, 3) := by decide +kernel
theorem jd_BranchworkModel_trees_37 : decode mi_BranchworkModel_trees.2.1 37 = .ok (.checkcast 78, 3) := by decide +kernel
theorem jd_BranchworkModel_trees_40 : decode mi_BranchworkModel_trees.2.1 40 = .ok (.astore 5, 2) := by decide +kernel
theorem jd_BranchworkModel_trees_42 : decode mi_BranchworkModel_trees.2.1 42 = .ok (.aload 5, 2) := by decide +kernel
theorem jd_BranchworkModel_trees_44 : decode mi_BranchworkModel_trees.2.1 44 = .ok (.getfield 80, 3) := by decide +kernel
theorem jd_BranchworkModel_trees_47 : decode mi_BranchworkModel_trees.2.1 47 = .ok (.ifCond .ne 18, 3) := by decide +kernel
theorem jd_BranchworkModel_trees_50 : decode mi_BranchworkModel_trees.2.1 50 = .ok (.iload_n 1, 1) := by decide +kernel
theorem jd_BranchworkModel_trees_51 : decode mi_BranchworkModel_trees.2.1 51 = .ok (.ifCond .eq 10, 3) := by decide +kernel
theorem jd_BranchworkModel_trees_54 : decode mi_BranchworkModel_trees.2.1 54 = .ok (.aload_n 3, 1) := by decide +kernel
theorem jd_BranchworkModel_trees_55 : decode mi_BranchworkModel_trees.2.1 55 = .ok (.iload 4, 2) := by decide +kernel
theorem jd_BranchworkModel_trees_57 : decode mi_BranchworkModel_trees.2.1 57 = .ok (.baload, 1) := by decide +kernel
theorem jd_BranchworkModel_trees_58 : decode mi_BranchworkModel_trees.2.1 58 = .ok (.ifCond .eq 7, 3) := by decide +kernel
theorem jd_BranchworkModel_trees_61 : decode mi_BranchworkModel_trees.2.1 61 = .ok (.iconst 1, 1) := by decide +kernel
theorem jd_BranchworkModel_trees_62 : decode mi_BranchworkModel_trees.2.1 62 = .ok (.goto 4, 3) := by decide +kernel
theorem jd_BranchworkModel_trees_65 : decode mi_BranchworkModel_trees.2.1 65 = .ok (.iconst 0, 1) := by decide +kernel
theorem jd_BranchworkModel_trees_66 : decode mi_BranchworkModel_trees.2.1 66 = .ok (.istore 6, 2) := by decide +kernel
theorem jd_BranchworkModel_trees_68 : decode mi_BranchworkModel_trees.2.1 68 = .ok (.iconst 0, 1) := by decide +kernel
theorem jd_BranchworkModel_trees_69 : decode mi_BranchworkModel_trees.2.1 69 = .ok (.istore 7, 2) := by decide +kernel
theorem jd_BranchworkModel_trees_71 : decode mi_BranchworkModel_trees.2.1 71 = .ok (.iload 7, 2) := by decide +kernel
theorem jd_BranchworkModel_trees_73 : decode mi_BranchworkModel_trees.2.1 73 = .ok (.aload_n 2, 1) := by decide +kernel
theorem jd_BranchworkModel_trees_74 : decode mi_BranchworkModel_trees.2.1 74 = .ok (.invokevirtual 70, 3) := by decide +kernel
theorem jd_BranchworkModel_trees_77 : decode mi_BranchworkModel_trees.2.1 77 = .ok (.if_icmp .ge 39, 3) := by decide +kernel
theorem jd_BranchworkModel_trees_80 : decode mi_BranchworkModel_trees.2.1 80 = .ok (.iload 6, 2) := by decide +kernel
theorem jd_BranchworkModel_trees_82 : decode mi_BranchworkModel_trees.2.1 82 = .ok (.aload_n 2, 1) := by decide +kernel
theorem jd_BranchworkModel_trees_83 : decode mi_BranchworkModel_trees.2.1 83 = .ok (.iload 7, 2) := by decide +kernel
theorem jd_BranchworkModel_trees_85 : decode mi_BranchworkModel_trees.2.1 85 = .ok (.invokevirtual 74, 3) := by decide +kernel
theorem jd_BranchworkModel_trees_88 : decode mi_BranchworkModel_trees.2.1 88 = .ok (.checkcast 37, 3) := by decide +kernel
theorem jd_BranchworkModel_trees_91 : decode mi_BranchworkModel_trees.2.1 91 = .ok (.aload 5, 2) := by decide +kernel
theorem jd_BranchworkModel_trees_93 : decode mi_BranchworkModel_trees.2.1 93 = .ok (.getfield 91, 3) := by decide +kernel
theorem jd_BranchworkModel_trees_96 : decode mi_BranchworkModel_trees.2.1 96 = .ok (.invokevirtual 98, 3) := by decide +kernel
theorem jd_BranchworkModel_trees_99 : decode mi_BranchworkModel_trees.2.1 99 = .ok (.ifCond .ne 7, 3) := by decide +kernel
theorem jd_BranchworkModel_trees_102 : decode mi_BranchworkModel_trees.2.1 102 = .ok (.iconst 1, 1) := by decide +kernel
theorem jd_BranchworkModel_trees_103 : decode mi_BranchworkModel_trees.2.1 103 = .ok (.goto 4, 3) := by decide +kernel
theorem jd_BranchworkModel_trees_106 : decode mi_BranchworkModel_trees.2.1 106 = .ok (.iconst 0, 1) := by decide +kernel
theorem jd_BranchworkModel_trees_107 : decode mi_BranchworkModel_trees.2.1 107 = .ok (.iand, 1) := by decide +kernel
theorem jd_BranchworkModel_trees_108 : decode mi_BranchworkModel_trees.2.1 108 = .ok (.istore 6, 2) := by decide +kernel
theorem jd_BranchworkModel_trees_110 : decode mi_BranchworkModel_trees.2.1 110 = .ok (.iinc 7 1, 3) := by decide +kernel
theorem jd_BranchworkModel_trees_113 : decode mi_BranchworkModel_trees.2.1 113 = .ok (.goto (-42), 3) := by decide +kernel
theorem jd_BranchworkModel_trees_116 : decode mi_BranchworkModel_trees.2.1 116 = .ok (.iload 6, 2) := by decide +kernel
theorem jd_BranchworkModel_trees_118 : decode mi_BranchworkModel_trees.2.1 118 = .ok (.ifCond .eq 13, 3) := by decide +kernel
theorem jd_BranchworkModel_trees_121 : decode mi_BranchworkModel_trees.2.1 121 = .ok (.aload_n 2, 1) := by decide +kernel
theorem jd_BranchworkModel_trees_122 : decode mi_BranchworkModel_trees.2.1 122 = .ok (.aload 5, 2) := by decide +kernel
theorem jd_BranchworkModel_trees_124 : decode mi_BranchworkModel_trees.2.1 124 = .ok (.getfield 91, 3) := by decide +kernel
theorem jd_BranchworkModel_trees_127 : decode mi_BranchworkModel_trees.2.1 127 = .ok (.invokevirtual 47, 3) := by decide +kernel
theorem jd_BranchworkModel_trees_130 : decode mi_BranchworkModel_trees.2.1 130 = .ok (.pop, 1) := by decide +kernel
theorem jd_BranchworkModel_trees_131 : decode mi_BranchworkModel_trees.2.1 131 = .ok (.iinc 4 1, 3) := by decide +kernel
theorem jd_BranchworkModel_trees_134 : decode mi_BranchworkModel_trees.2.1 134 = .ok (.goto (-118), 3) := by decide +kernel
theorem jd_BranchworkModel_trees_137 : decode mi_BranchworkModel_trees.2.1 137 = .ok (.aload_n 2, 1) := by decide +kernel
theorem jd_BranchworkModel_trees_138 : decode mi_BranchworkModel_trees.2.1 138 = .ok (.areturn, 1) := by decide +kernel
theorem jd_BranchworkModel_contents_0 : decode mi_BranchworkModel_contents.2.1 0 = .ok (.new 27, 3) := by decide +kernel
theorem jd_BranchworkModel_contents_3 : decode mi_BranchworkModel_contents.2.1 3 = .ok (.dup, 1) := by decide +kernel
theorem jd_BranchworkModel_contents_4 : decode mi_BranchworkModel_contents.2.1 4 = .ok (.invokespecial 29, 3) := by decide +kernel
theorem jd_BranchworkModel_contents_7 : decode mi_BranchworkModel_contents.2.1 7 = .ok (.astore_n 1, 1) := by decide +kernel
theorem jd_BranchworkModel_contents_8 : decode mi_BranchworkModel_contents.2.1 8 = .ok (.iconst 0, 1) := by decide +kernel
theorem jd_BranchworkModel_contents_9 : decode mi_BranchworkModel_contents.2.1 9 = .ok (.istore_n 2, 1) := by decide +kernel
theorem jd_BranchworkModel_contents_10 : decode mi_BranchworkModel_contents.2.1 10 = .ok (.iload_n 2, 1) := by decide +kernel
theorem jd_BranchworkModel_contents_11 : decode mi_BranchworkModel_contents.2.1 11 = .ok (.aload_n 0, 1) := by decide +kernel
theorem jd_BranchworkModel_contents_12 : decode mi_BranchworkModel_contents.2.1 12 = .ok (.invokevirtual 70, 3) := by decide +kernel
theorem jd_BranchworkModel_contents_15 : decode mi_BranchworkModel_contents.2.1 15 = .ok (.if_icmp .ge 107, 3) := by decide +kernel
theorem jd_BranchworkModel_contents_18 : decode mi_BranchworkModel_contents.2.1 18 = .ok (.iconst 0, 1) := by decide +kernel
theorem jd_BranchworkModel_contents_19 : decode mi_BranchworkModel_contents.2.1 19 = .ok (.istore_n 3, 1) := by decide +kernel
theorem jd_BranchworkModel_contents_20 : decode mi_BranchworkModel_contents.2.1 20 = .ok (.iload_n 3, 1) := by decide +kernel
theorem jd_BranchworkModel_contents_21 : decode mi_BranchworkModel_contents.2.1 21 = .ok (.bipush 12, 2) := by decide +kernel
theorem jd_BranchworkModel_contents_23 : decode mi_BranchworkModel_contents.2.1 23 = .ok (.if_icmp .ge 93, 3) := by decide +kernel
theorem jd_BranchworkModel_contents_26 : decode mi_BranchworkModel_contents.2.1 26 = .ok (.aload_n 0, 1) := by decide +kernel
theorem jd_BranchworkModel_contents_27 : decode mi_BranchworkModel_contents.2.1 27 = .ok (.iload_n 2, 1) := by decide +kernel
theorem jd_BranchworkModel_contents_28 : decode mi_BranchworkModel_contents.2.1 28 = .ok (.invokevirtual 74, 3) := by decide +kernel
theorem jd_BranchworkModel_contents_31 : decode mi_BranchworkModel_contents.2.1 31 = .ok (.checkcast 37, 3) := by decide +kernel
theorem jd_BranchworkModel_contents_34 : decode mi_BranchworkModel_contents.2.1 34 = .ok (.getfield 105, 3) := by decide +kernel
theorem jd_BranchworkModel_contents_37 : decode mi_BranchworkModel_contents.2.1 37 = .ok (.iload_n 3, 1) := by decide +kernel
theorem jd_BranchworkModel_contents_38 : decode mi_BranchworkModel_contents.2.1 38 = .ok (.aaload, 1) := by decide +kernel
theorem jd_BranchworkModel_contents_39 : decode mi_BranchworkModel_contents.2.1 39 = .ok (.astore 4, 2) := by decide +kernel
theorem jd_BranchworkModel_contents_41 : decode mi_BranchworkModel_contents.2.1 41 = .ok (.aload 4, 2) := by decide +kernel
theorem jd_BranchworkModel_contents_43 : decode mi_BranchworkModel_contents.2.1 43 = .ok (.ifnull 7, 3) := by decide +kernel
theorem jd_BranchworkModel_contents_46 : decode mi_BranchworkModel_contents.2.1 46 = .ok (.iconst 1, 1) := by decide +kernel
theorem jd_BranchworkModel_contents_47 : decode mi_BranchworkModel_contents.2.1 47 = .ok (.goto 4, 3) := by decide +kernel
theorem jd_BranchworkModel_contents_50 : decode mi_BranchworkModel_contents.2.1 50 = .ok (.iconst 0, 1) := by decide +kernel
theorem jd_BranchworkModel_contents_51 : decode mi_BranchworkModel_contents.2.1 51 = .ok (.istore 5, 2) := by decide +kernel
theorem jd_BranchworkModel_contents_53 : decode mi_BranchworkModel_contents.2.1 53 = .ok (.iconst 0, 1) := by decide +kernel
theorem jd_BranchworkModel_contents_54 : decode mi_BranchworkModel_contents.2.1 54 = .ok (.istore 6, 2) := by decide +kernel
theorem jd_BranchworkModel_contents_56 : decode mi_BranchworkModel_contents.2.1 56 = .ok (.iload 6, 2) := by decide +kernel
theorem jd_BranchworkModel_contents_58 : decode mi_BranchworkModel_contents.2.1 58 = .ok (.aload_n 1, 1) := by decide +kernel
theorem jd_BranchworkModel_contents_59 : decode mi_BranchworkModel_contents.2.1 59 = .ok (.invokevirtual 70, 3) := by decide +kernel
theorem jd_BranchworkModel_contents_62 : decode mi_BranchworkModel_contents.2.1 62 = .ok (.if_icmp .ge 36, 3) := by decide +kernel
theorem jd_BranchworkModel_contents_65 : decode mi_BranchworkModel_contents.2.1 65 = .ok (.iload 5, 2) := by decide +kernel
theorem jd_BranchworkModel_contents_67 : decode mi_BranchworkModel_contents.2.1 67 = .ok (.aload_n 1, 1) := by decide +kernel
theorem jd_BranchworkModel_contents_68 : decode mi_BranchworkModel_contents.2.1 68 = .ok (.iload 6, 2) := by decide +kernel
theorem jd_BranchworkModel_contents_70 : decode mi_BranchworkModel_contents.2.1 70 = .ok (.invokevirtual 74, 3) := by decide +kernel
theorem jd_BranchworkModel_contents_73 : decode mi_BranchworkModel_contents.2.1 73 = .ok (.checkcast 199, 3) := by decide +kernel
theorem jd_BranchworkModel_contents_76 : decode mi_BranchworkModel_contents.2.1 76 = .ok (.aload 4, 2) := by decide +kernel
theorem jd_BranchworkModel_contents_78 : decode mi_BranchworkModel_contents.2.1 78 = .ok (.invokestatic 126, 3) := by decide +kernel
theorem jd_BranchworkModel_contents_81 : decode mi_BranchworkModel_contents.2.1 81 = .ok (.ifCond .ne 7, 3) := by decide +kernel
theorem jd_BranchworkModel_contents_84 : decode mi_BranchworkModel_contents.2.1 84 = .ok (.iconst 1, 1) := by decide +kernel
theorem jd_BranchworkModel_contents_85 : decode mi_BranchworkModel_contents.2.1 85 = .ok (.goto 4, 3) := by decide +kernel
theorem jd_BranchworkModel_contents_88 : decode mi_BranchworkModel_contents.2.1 88 = .ok (.iconst 0, 1) := by decide +kernel
theorem jd_BranchworkModel_contents_89 : decode mi_BranchworkModel_contents.2.1 89 = .ok (.iand, 1) := by decide +kernel
theorem jd_BranchworkModel_contents_90 : decode mi_BranchworkModel_contents.2.1 90 = .ok (.istore 5, 2) := by decide +kernel
theorem jd_BranchworkModel_contents_92 : decode mi_BranchworkModel_contents.2.1 92 = .ok (.iinc 6 1, 3) := by decide +kernel
theorem jd_BranchworkModel_contents_95 : decode mi_BranchworkModel_contents.2.1 95 = .ok (.goto (-39), 3) := by decide +kernel
theorem jd_BranchworkModel_contents_98 : decode mi_BranchworkModel_contents.2.1 98 = .ok (.iload 5, 2) := by decide +kernel
theorem jd_BranchworkModel_contents_100 : decode mi_BranchworkModel_contents.2.1 100 = .ok (.ifCond .eq 10, 3) := by decide +kernel
theorem jd_BranchworkModel_contents_103 : decode mi_BranchworkModel_contents.2.1 103 = .ok (.aload_n 1, 1) := by decide +kernel
theorem jd_BranchworkModel_contents_104 : decode mi_BranchworkModel_contents.2.1 104 = .ok (.aload 4, 2) := by decide +kernel
theorem jd_BranchworkModel_contents_106 : decode mi_BranchworkModel_contents.2.1 106 = .ok (.invokevirtual 47, 3) := by decide +kernel
theorem jd_BranchworkModel_contents_109 : decode mi_BranchworkModel_contents.2.1 109 = .ok (.pop, 1) := by decide +kernel
theorem jd_BranchworkModel_contents_110 : decode mi_BranchworkModel_contents.2.1 110 = .ok (.iinc 3 1, 3) := by decide +kernel
theorem jd_BranchworkModel_contents_113 : decode mi_BranchworkModel_contents.2.1 113 = .ok (.goto (-93), 3) := by decide +kernel
theorem jd_BranchworkModel_contents_116 : decode mi_BranchworkModel_contents.2.1 116 = .ok (.iinc 2 1, 3) := by decide +kernel
theorem jd_BranchworkModel_contents_119 : decode mi_BranchworkModel_contents.2.1 119 = .ok (.goto (-109), 3) := by decide +kernel
theorem jd_BranchworkModel_contents_122 : decode mi_BranchworkModel_contents.2.1 122 = .ok (.aload_n 1, 1) := by decide +kernel
theorem jd_BranchworkModel_contents_123 : decode mi_BranchworkModel_contents.2.1 123 = .ok (.areturn, 1) := by decide +kernel
theorem jd_BranchworkModel_commitsNow_0 : decode mi_BranchworkModel_commitsNow.2.1 0 = .ok (.aload_n 0, 1) := by decide +kernel
theorem jd_BranchworkModel_commitsNow_1 : decode mi_BranchworkModel_commitsNow.2.1 1 = .ok (.invokevirtual 195, 3) := by decide +kernel
theorem jd_BranchworkModel_commitsNow_4 : decode mi_BranchworkModel_commitsNow.2.1 4 = .ok (.astore_n 2, 1) := by decide +kernel
theorem jd_BranchworkModel_commitsNow_5 : decode mi_BranchworkModel_commitsNow.2.1 5 = .ok (.iconst 0, 1) := by decide +kernel
theorem jd_BranchworkModel_commitsNow_6 : decode mi_BranchworkModel_commitsNow.2.1 6 = .ok (.istore_n 3, 1) := by decide +kernel
theorem jd_BranchworkModel_commitsNow_7 : decode mi_BranchworkModel_commitsNow.2.1 7 = .ok (.iconst 0, 1) := by decide +kernel
theorem jd_BranchworkModel_commitsNow_8 : decode mi_BranchworkModel_commitsNow.2.1 8 = .ok (.istore 4, 2) := by decide +kernel
theorem jd_BranchworkModel_commitsNow_10 : decode mi_BranchworkModel_commitsNow.2.1 10 = .ok (.iload 4, 2) := by decide +kernel
theorem jd_BranchworkModel_commitsNow_12 : decode mi_BranchworkModel_commitsNow.2.1 12 = .ok (.aload_n 0, 1) := by decide +kernel
theorem jd_BranchworkModel_commitsNow_13 : decode mi_BranchworkModel_commitsNow.2.1 13 = .ok (.getfield 30, 3) := by decide +kernel
theorem jd_BranchworkModel_commitsNow_16 : decode mi_BranchworkModel_commitsNow.2.1 16 = .ok (.invokevirtual 70, 3) := by decide +kernel
theorem jd_BranchworkModel_commitsNow_19 : decode mi_BranchworkModel_commitsNow.2.1 19 = .ok (.if_icmp .ge 46, 3) := by decide +kernel
theorem jd_BranchworkModel_commitsNow_22 : decode mi_BranchworkModel_commitsNow.2.1 22 = .ok (.iload_n 3, 1) := by decide +kernel
theorem jd_BranchworkModel_commitsNow_23 : decode mi_BranchworkModel_commitsNow.2.1 23 = .ok (.aload_n 0, 1) := by decide +kernel
theorem jd_BranchworkModel_commitsNow_24 : decode mi_BranchworkModel_commitsNow.2.1 24 = .ok (.getfield 30, 3) := by decide +kernel
theorem jd_BranchworkModel_commitsNow_27 : decode mi_BranchworkModel_commitsNow.2.1 27 = .ok (.iload 4, 2) := by decide +kernel
theorem jd_BranchworkModel_commitsNow_29 : decode mi_BranchworkModel_commitsNow.2.1 29 = .ok (.invokevirtual 74, 3) := by decide +kernel
theorem jd_BranchworkModel_commitsNow_32 : decode mi_BranchworkModel_commitsNow.2.1 32 = .ok (.checkcast 78, 3) := by decide +kernel
theorem jd_BranchworkModel_commitsNow_35 : decode mi_BranchworkModel_commitsNow.2.1 35 = .ok (.getfield 80, 3) := by decide +kernel
theorem jd_BranchworkModel_commitsNow_38 : decode mi_BranchworkModel_commitsNow.2.1 38 = .ok (.ifCond .ne 18, 3) := by decide +kernel
theorem jd_BranchworkModel_commitsNow_41 : decode mi_BranchworkModel_commitsNow.2.1 41 = .ok (.iload_n 1, 1) := by decide +kernel
theorem jd_BranchworkModel_commitsNow_42 : decode mi_BranchworkModel_commitsNow.2.1 42 = .ok (.ifCond .eq 10, 3) := by decide +kernel
theorem jd_BranchworkModel_commitsNow_45 : decode mi_BranchworkModel_commitsNow.2.1 45 = .ok (.aload_n 2, 1) := by decide +kernel
theorem jd_BranchworkModel_commitsNow_46 : decode mi_BranchworkModel_commitsNow.2.1 46 = .ok (.iload 4, 2) := by decide +kernel
theorem jd_BranchworkModel_commitsNow_48 : decode mi_BranchworkModel_commitsNow.2.1 48 = .ok (.baload, 1) := by decide +kernel
theorem jd_BranchworkModel_commitsNow_49 : decode mi_BranchworkModel_commitsNow.2.1 49 = .ok (.ifCond .eq 7, 3) := by decide +kernel
theorem jd_BranchworkModel_commitsNow_52 : decode mi_BranchworkModel_commitsNow.2.1 52 = .ok (.iconst 1, 1) := by decide +kernel
theorem jd_BranchworkModel_commitsNow_53 : decode mi_BranchworkModel_commitsNow.2.1 53 = .ok (.goto 4, 3) := by decide +kernel
theorem jd_BranchworkModel_commitsNow_56 : decode mi_BranchworkModel_commitsNow.2.1 56 = .ok (.iconst 0, 1) := by decide +kernel
theorem jd_BranchworkModel_commitsNow_57 : decode mi_BranchworkModel_commitsNow.2.1 57 = .ok (.iadd, 1) := by decide +kernel
theorem jd_BranchworkModel_commitsNow_58 : decode mi_BranchworkModel_commitsNow.2.1 58 = .ok (.istore_n 3, 1) := by decide +kernel
theorem jd_BranchworkModel_commitsNow_59 : decode mi_BranchworkModel_commitsNow.2.1 59 = .ok (.iinc 4 1, 3) := by decide +kernel
theorem jd_BranchworkModel_commitsNow_62 : decode mi_BranchworkModel_commitsNow.2.1 62 = .ok (.goto (-52), 3) := by decide +kernel
theorem jd_BranchworkModel_commitsNow_65 : decode mi_BranchworkModel_commitsNow.2.1 65 = .ok (.iload_n 3, 1) := by decide +kernel
theorem jd_BranchworkModel_commitsNow_66 : decode mi_BranchworkModel_commitsNow.2.1 66 = .ok (.ireturn, 1) := by decide +kernel
theorem jd_BranchworkModel_objects_0 : decode mi_BranchworkModel_objects.2.1 0 = .ok (.aload_n 0, 1) := by decide +kernel
theorem jd_BranchworkModel_objects_1 : decode mi_BranchworkModel_objects.2.1 1 = .ok (.iload_n 1, 1) := by decide +kernel
theorem jd_BranchworkModel_objects_2 : decode mi_BranchworkModel_objects.2.1 2 = .ok (.invokevirtual 201, 3) := by decide +kernel
theorem jd_BranchworkModel_objects_5 : decode mi_BranchworkModel_objects.2.1 5 = .ok (.astore_n 2, 1) := by decide +kernel
theorem jd_BranchworkModel_objects_6 : decode mi_BranchworkModel_objects.2.1 6 = .ok (.aload_n 0, 1) := by decide +kernel
theorem jd_BranchworkModel_objects_7 : decode mi_BranchworkModel_objects.2.1 7 = .ok (.iload_n 1, 1) := by decide +kernel
theorem jd_BranchworkModel_objects_8 : decode mi_BranchworkModel_objects.2.1 8 = .ok (.invokevirtual 205, 3) := by decide +kernel
theorem jd_BranchworkModel_objects_11 : decode mi_BranchworkModel_objects.2.1 11 = .ok (.aload_n 2, 1) := by decide +kernel
theorem jd_BranchworkModel_objects_12 : decode mi_BranchworkModel_objects.2.1 12 = .ok (.invokevirtual 70, 3) := by decide +kernel
theorem jd_BranchworkModel_objects_15 : decode mi_BranchworkModel_objects.2.1 15 = .ok (.iadd, 1) := by decide +kernel
theorem jd_BranchworkModel_objects_16 : decode mi_BranchworkModel_objects.2.1 16 = .ok (.aload_n 2, 1) := by decide +kernel
theorem jd_BranchworkModel_objects_17 : decode mi_BranchworkModel_objects.2.1 17 = .ok (.invokestatic 209, 3) := by decide +kernel
theorem jd_BranchworkModel_objects_20 : decode mi_BranchworkModel_objects.2.1 20 = .ok (.invokevirtual 70, 3) := by decide +kernel
theorem jd_BranchworkModel_objects_23 : decode mi_BranchworkModel_objects.2.1 23 = .ok (.iadd, 1) := by decide +kernel
theorem jd_BranchworkModel_objects_24 : decode mi_BranchworkModel_objects.2.1 24 = .ok (.ireturn, 1) := by decide +kernel
theorem jd_BranchworkModel_garbageNow_0 : decode mi_BranchworkModel_garbageNow.2.1 0 = .ok (.aload_n 0, 1) := by decide +kernel
theorem jd_BranchworkModel_garbageNow_1 : decode mi_BranchworkModel_garbageNow.2.1 1 = .ok (.iconst 0, 1) := by decide +kernel
theorem jd_BranchworkModel_garbageNow_2 : decode mi_BranchworkModel_garbageNow.2.1 2 = .ok (.invokevirtual 213, 3) := by decide +kernel
theorem jd_BranchworkModel_garbageNow_5 : decode mi_BranchworkModel_garbageNow.2.1 5 = .ok (.aload_n 0, 1) := by decide +kernel
theorem jd_BranchworkModel_garbageNow_6 : decode mi_BranchworkModel_garbageNow.2.1 6 = .ok (.iconst 1, 1) := by decide +kernel
theorem jd_BranchworkModel_garbageNow_7 : decode mi_BranchworkModel_garbageNow.2.1 7 = .ok (.invokevirtual 213, 3) := by decide +kernel
theorem jd_BranchworkModel_garbageNow_10 : decode mi_BranchworkModel_garbageNow.2.1 10 = .ok (.isub, 1) := by decide +kernel
theorem jd_BranchworkModel_garbageNow_11 : decode mi_BranchworkModel_garbageNow.2.1 11 = .ok (.ireturn, 1) := by decide +kernel
theorem jd_BranchworkModel_collect_0 : decode mi_BranchworkModel_collect.2.1 0 = .ok (.aload_n 0, 1) := by decide +kernel
theorem jd_BranchworkModel_collect_1 : decode mi_BranchworkModel_collect.2.1 1 = .ok (.iconst 0, 1) := by decide +kernel
theorem jd_BranchworkModel_collect_2 : decode mi_BranchworkModel_collect.2.1 2 = .ok (.putfield 51, 3) := by decide +kernel
theorem jd_BranchworkModel_collect_5 : decode mi_BranchworkModel_collect.2.1 5 = .ok (.aload_n 0, 1) := by decide +kernel
theorem jd_BranchworkModel_collect_6 : decode mi_BranchworkModel_collect.2.1 6 = .ok (.invokevirtual 216, 3) := by decide +kernel
theorem jd_BranchworkModel_collect_9 : decode mi_BranchworkModel_collect.2.1 9 = .ok (.istore_n 1, 1) := by decide +kernel
theorem jd_BranchworkModel_collect_10 : decode mi_BranchworkModel_collect.2.1 10 = .ok (.aload_n 0, 1) := by decide +kernel
theorem jd_BranchworkModel_collect_11 : decode mi_BranchworkModel_collect.2.1 11 = .ok (.invokevirtual 195, 3) := by decide +kernel
theorem jd_BranchworkModel_collect_14 : decode mi_BranchworkModel_collect.2.1 14 = .ok (.astore_n 2, 1) := by decide +kernel
theorem jd_BranchworkModel_collect_15 : decode mi_BranchworkModel_collect.2.1 15 = .ok (.iconst 0, 1) := by decide +kernel
theorem jd_BranchworkModel_collect_16 : decode mi_BranchworkModel_collect.2.1 16 = .ok (.istore_n 3, 1) := by decide +kernel
theorem jd_BranchworkModel_collect_17 : decode mi_BranchworkModel_collect.2.1 17 = .ok (.iload_n 3, 1) := by decide +kernel
theorem jd_BranchworkModel_collect_18 : decode mi_BranchworkModel_collect.2.1 18 = .ok (.aload_n 0, 1) := by decide +kernel
theorem jd_BranchworkModel_collect_19 : decode mi_BranchworkModel_collect.2.1 19 = .ok (.getfield 30, 3) := by decide +kernel
theorem jd_BranchworkModel_collect_22 : decode mi_BranchworkModel_collect.2.1 22 = .ok (.invokevirtual 70, 3) := by decide +kernel
theorem jd_BranchworkModel_collect_25 : decode mi_BranchworkModel_collect.2.1 25 = .ok (.if_icmp .ge 39, 3) := by decide +kernel
theorem jd_BranchworkModel_collect_28 : decode mi_BranchworkModel_collect.2.1 28 = .ok (.aload_n 0, 1) := by decide +kernel
theorem jd_BranchworkModel_collect_29 : decode mi_BranchworkModel_collect.2.1 29 = .ok (.getfield 30, 3) := by decide +kernel
theorem jd_BranchworkModel_collect_32 : decode mi_BranchworkModel_collect.2.1 32 = .ok (.iload_n 3, 1) := by decide +kernel
theorem jd_BranchworkModel_collect_33 : decode mi_BranchworkModel_collect.2.1 33 = .ok (.invokevirtual 74, 3) := by decide +kernel
theorem jd_BranchworkModel_collect_36 : decode mi_BranchworkModel_collect.2.1 36 = .ok (.checkcast 78, 3) := by decide +kernel
theorem jd_BranchworkModel_collect_39 : decode mi_BranchworkModel_collect.2.1 39 = .ok (.dup, 1) := by decide +kernel
theorem jd_BranchworkModel_collect_40 : decode mi_BranchworkModel_collect.2.1 40 = .ok (.getfield 80, 3) := by decide +kernel
theorem jd_BranchworkModel_collect_43 : decode mi_BranchworkModel_collect.2.1 43 = .ok (.aload_n 2, 1) := by decide +kernel
theorem jd_BranchworkModel_collect_44 : decode mi_BranchworkModel_collect.2.1 44 = .ok (.iload_n 3, 1) := by decide +kernel
theorem jd_BranchworkModel_collect_45 : decode mi_BranchworkModel_collect.2.1 45 = .ok (.baload, 1) := by decide +kernel
theorem jd_BranchworkModel_collect_46 : decode mi_BranchworkModel_collect.2.1 46 = .ok (.ifCond .ne 7, 3) := by decide +kernel
theorem jd_BranchworkModel_collect_49 : decode mi_BranchworkModel_collect.2.1 49 = .ok (.iconst 1, 1) := by decide +kernel
theorem jd_BranchworkModel_collect_50 : decode mi_BranchworkModel_collect.2.1 50 = .ok (.goto 4, 3) := by decide +kernel
theorem jd_BranchworkModel_collect_53 : decode mi_BranchworkModel_collect.2.1 53 = .ok (.iconst 0, 1) := by decide +kernel
theorem jd_BranchworkModel_collect_54 : decode mi_BranchworkModel_collect.2.1 54 = .ok (.ior, 1) := by decide +kernel
theorem jd_BranchworkModel_collect_55 : decode mi_BranchworkModel_collect.2.1 55 = .ok (.putfield 80, 3) := by decide +kernel
theorem jd_BranchworkModel_collect_58 : decode mi_BranchworkModel_collect.2.1 58 = .ok (.iinc 3 1, 3) := by decide +kernel
theorem jd_BranchworkModel_collect_61 : decode mi_BranchworkModel_collect.2.1 61 = .ok (.goto (-44), 3) := by decide +kernel
theorem jd_BranchworkModel_collect_64 : decode mi_BranchworkModel_collect.2.1 64 = .ok (.iload_n 1, 1) := by decide +kernel
theorem jd_BranchworkModel_collect_65 : decode mi_BranchworkModel_collect.2.1 65 = .ok (.ireturn, 1) := by decide +kernel
theorem jd_BranchworkModel_count_0 : decode mi_BranchworkModel_count.2.1 0 = .ok (.bipush 6, 2) := by decide +kernel
theorem jd_BranchworkModel_count_2 : decode mi_BranchworkModel_count.2.1 2 = .ok (.newarray .int, 2) := by decide +kernel
theorem jd_BranchworkModel_count_4 : decode mi_BranchworkModel_count.2.1 4 = .ok (.dup, 1) := by decide +kernel
theorem jd_BranchworkModel_count_5 : decode mi_BranchworkModel_count.2.1 5 = .ok (.iconst 0, 1) := by decide +kernel
theorem jd_BranchworkModel_count_6 : decode mi_BranchworkModel_count.2.1 6 = .ok (.aload_n 0, 1) := by decide +kernel
theorem jd_BranchworkModel_count_7 : decode mi_BranchworkModel_count.2.1 7 = .ok (.iconst 0, 1) := by decide +kernel
theorem jd_BranchworkModel_count_8 : decode mi_BranchworkModel_count.2.1 8 = .ok (.invokevirtual 205, 3) := by decide +kernel
theorem jd_BranchworkModel_count_11 : decode mi_BranchworkModel_count.2.1 11 = .ok (.iastore, 1) := by decide +kernel
theorem jd_BranchworkModel_count_12 : decode mi_BranchworkModel_count.2.1 12 = .ok (.dup, 1) := by decide +kernel
theorem jd_BranchworkModel_count_13 : decode mi_BranchworkModel_count.2.1 13 = .ok (.iconst 1, 1) := by decide +kernel
theorem jd_BranchworkModel_count_14 : decode mi_BranchworkModel_count.2.1 14 = .ok (.aload_n 0, 1) := by decide +kernel
theorem jd_BranchworkModel_count_15 : decode mi_BranchworkModel_count.2.1 15 = .ok (.getfield 34, 3) := by decide +kernel
theorem jd_BranchworkModel_count_18 : decode mi_BranchworkModel_count.2.1 18 = .ok (.invokevirtual 70, 3) := by decide +kernel
theorem jd_BranchworkModel_count_21 : decode mi_BranchworkModel_count.2.1 21 = .ok (.iastore, 1) := by decide +kernel
theorem jd_BranchworkModel_count_22 : decode mi_BranchworkModel_count.2.1 22 = .ok (.dup, 1) := by decide +kernel
theorem jd_BranchworkModel_count_23 : decode mi_BranchworkModel_count.2.1 23 = .ok (.iconst 2, 1) := by decide +kernel
theorem jd_BranchworkModel_count_24 : decode mi_BranchworkModel_count.2.1 24 = .ok (.aload_n 0, 1) := by decide +kernel
theorem jd_BranchworkModel_count_25 : decode mi_BranchworkModel_count.2.1 25 = .ok (.getfield 40, 3) := by decide +kernel
theorem jd_BranchworkModel_count_28 : decode mi_BranchworkModel_count.2.1 28 = .ok (.invokevirtual 125, 3) := by decide +kernel
theorem jd_BranchworkModel_count_31 : decode mi_BranchworkModel_count.2.1 31 = .ok (.iastore, 1) := by decide +kernel
theorem jd_BranchworkModel_count_32 : decode mi_BranchworkModel_count.2.1 32 = .ok (.dup, 1) := by decide +kernel
theorem jd_BranchworkModel_count_33 : decode mi_BranchworkModel_count.2.1 33 = .ok (.iconst 3, 1) := by decide +kernel
theorem jd_BranchworkModel_count_34 : decode mi_BranchworkModel_count.2.1 34 = .ok (.aload_n 0, 1) := by decide +kernel
theorem jd_BranchworkModel_count_35 : decode mi_BranchworkModel_count.2.1 35 = .ok (.getfield 44, 3) := by decide +kernel
theorem jd_BranchworkModel_count_38 : decode mi_BranchworkModel_count.2.1 38 = .ok (.invokevirtual 70, 3) := by decide +kernel
theorem jd_BranchworkModel_count_41 : decode mi_BranchworkModel_count.2.1 41 = .ok (.iastore, 1) := by decide +kernel
theorem jd_BranchworkModel_count_42 : decode mi_BranchworkModel_count.2.1 42 = .ok (.dup, 1) := by decide +kernel
theorem jd_BranchworkModel_count_43 : decode mi_BranchworkModel_count.2.1 43 = .ok (.iconst 4, 1) := by decide +kernel
theorem jd_BranchworkModel_count_44 : decode mi_BranchworkModel_count.2.1 44 = .ok (.aload_n 0, 1) := by decide +kernel
theorem jd_BranchworkModel_count_45 : decode mi_BranchworkModel_count.2.1 45 = .ok (.iconst 0, 1) := by decide +kernel
theorem jd_BranchworkModel_count_46 : decode mi_BranchworkModel_count.2.1 46 = .ok (.invokevirtual 201, 3) := by decide +kernel
theorem jd_BranchworkModel_count_49 : decode mi_BranchworkModel_count.2.1 49 = .ok (.invokevirtual 70, 3) := by decide +kernel
theorem jd_BranchworkModel_count_52 : decode mi_BranchworkModel_count.2.1 52 = .ok (.iastore, 1) := by decide +kernel
theorem jd_BranchworkModel_count_53 : decode mi_BranchworkModel_count.2.1 53 = .ok (.dup, 1) := by decide +kernel
theorem jd_BranchworkModel_count_54 : decode mi_BranchworkModel_count.2.1 54 = .ok (.iconst 5, 1) := by decide +kernel
theorem jd_BranchworkModel_count_55 : decode mi_BranchworkModel_count.2.1 55 = .ok (.aload_n 0, 1) := by decide +kernel
theorem jd_BranchworkModel_count_56 : decode mi_BranchworkModel_count.2.1 56 = .ok (.iconst 0, 1) := by decide +kernel
theorem jd_BranchworkModel_count_57 : decode mi_BranchworkModel_count.2.1 57 = .ok (.invokevirtual 201, 3) := by decide +kernel
theorem jd_BranchworkModel_count_60 : decode mi_BranchworkModel_count.2.1 60 = .ok (.invokestatic 209, 3) := by decide +kernel
theorem jd_BranchworkModel_count_63 : decode mi_BranchworkModel_count.2.1 63 = .ok (.invokevirtual 70, 3) := by decide +kernel
theorem jd_BranchworkModel_count_66 : decode mi_BranchworkModel_count.2.1 66 = .ok (.iastore, 1) := by decide +kernel
theorem jd_BranchworkModel_count_67 : decode mi_BranchworkModel_count.2.1 67 = .ok (.astore_n 2, 1) := by decide +kernel
theorem jd_BranchworkModel_count_68 : decode mi_BranchworkModel_count.2.1 68 = .ok (.aload_n 2, 1) := by decide +kernel
theorem jd_BranchworkModel_count_69 : decode mi_BranchworkModel_count.2.1 69 = .ok (.iload_n 1, 1) := by decide +kernel
theorem jd_BranchworkModel_count_70 : decode mi_BranchworkModel_count.2.1 70 = .ok (.iaload, 1) := by decide +kernel
theorem jd_BranchworkModel_count_71 : decode mi_BranchworkModel_count.2.1 71 = .ok (.ireturn, 1) := by decide +kernel
theorem jd_BranchworkModel_many_0 : decode mi_BranchworkModel_many.2.1 0 = .ok (.aload_n 0, 1) := by decide +kernel
theorem jd_BranchworkModel_many_1 : decode mi_BranchworkModel_many.2.1 1 = .ok (.iload_n 1, 1) := by decide +kernel
theorem jd_BranchworkModel_many_2 : decode mi_BranchworkModel_many.2.1 2 = .ok (.iconst 0, 1) := by decide +kernel
theorem jd_BranchworkModel_many_3 : decode mi_BranchworkModel_many.2.1 3 = .ok (.iconst 5, 1) := by decide +kernel
theorem jd_BranchworkModel_many_4 : decode mi_BranchworkModel_many.2.1 4 = .ok (.invokestatic 59, 3) := by decide +kernel
theorem jd_BranchworkModel_many_7 : decode mi_BranchworkModel_many.2.1 7 = .ok (.ifCond .ne 7, 3) := by decide +kernel
theorem jd_BranchworkModel_many_10 : decode mi_BranchworkModel_many.2.1 10 = .ok (.iconst 1, 1) := by decide +kernel
theorem jd_BranchworkModel_many_11 : decode mi_BranchworkModel_many.2.1 11 = .ok (.goto 4, 3) := by decide +kernel
theorem jd_BranchworkModel_many_14 : decode mi_BranchworkModel_many.2.1 14 = .ok (.iconst 0, 1) := by decide +kernel
theorem jd_BranchworkModel_many_15 : decode mi_BranchworkModel_many.2.1 15 = .ok (.iconst 1, 1) := by decide +kernel
theorem jd_BranchworkModel_many_16 : decode mi_BranchworkModel_many.2.1 16 = .ok (.invokevirtual 108, 3) := by decide +kernel
theorem jd_BranchworkModel_many_19 : decode mi_BranchworkModel_many.2.1 19 = .ok (.ifCond .eq 7, 3) := by decide +kernel
theorem jd_BranchworkModel_many_22 : decode mi_BranchworkModel_many.2.1 22 = .ok (.iconst 0, 1) := by decide +kernel
theorem jd_BranchworkModel_many_23 : decode mi_BranchworkModel_many.2.1 23 = .ok (.goto 8, 3) := by decide +kernel
theorem jd_BranchworkModel_many_26 : decode mi_BranchworkModel_many.2.1 26 = .ok (.aload_n 0, 1) := by decide +kernel
theorem jd_BranchworkModel_many_27 : decode mi_BranchworkModel_many.2.1 27 = .ok (.iload_n 1, 1) := by decide +kernel
theorem jd_BranchworkModel_many_28 : decode mi_BranchworkModel_many.2.1 28 = .ok (.invokevirtual 219, 3) := by decide +kernel
theorem jd_BranchworkModel_many_31 : decode mi_BranchworkModel_many.2.1 31 = .ok (.ireturn, 1) := by decide +kernel
theorem jd_BranchworkModel_number_0 : decode mi_BranchworkModel_number.2.1 0 = .ok (.aload_n 0, 1) := by decide +kernel
theorem jd_BranchworkModel_number_1 : decode mi_BranchworkModel_number.2.1 1 = .ok (.ifnonnull 7, 3) := by decide +kernel
theorem jd_BranchworkModel_number_4 : decode mi_BranchworkModel_number.2.1 4 = .ok (.iconst (-1), 1) := by decide +kernel
theorem jd_BranchworkModel_number_5 : decode mi_BranchworkModel_number.2.1 5 = .ok (.goto 7, 3) := by decide +kernel
theorem jd_BranchworkModel_number_8 : decode mi_BranchworkModel_number.2.1 8 = .ok (.aload_n 0, 1) := by decide +kernel
theorem jd_BranchworkModel_number_9 : decode mi_BranchworkModel_number.2.1 9 = .ok (.getfield 152, 3) := by decide +kernel
theorem jd_BranchworkModel_number_12 : decode mi_BranchworkModel_number.2.1 12 = .ok (.ireturn, 1) := by decide +kernel
theorem jd_BranchworkModel_nowOf_0 : decode mi_BranchworkModel_nowOf.2.1 0 = .ok (.iload_n 1, 1) := by decide +kernel
theorem jd_BranchworkModel_nowOf_1 : decode mi_BranchworkModel_nowOf.2.1 1 = .ok (.ifCond .ne 10, 3) := by decide +kernel
theorem jd_BranchworkModel_nowOf_4 : decode mi_BranchworkModel_nowOf.2.1 4 = .ok (.aload_n 0, 1) := by decide +kernel
theorem jd_BranchworkModel_nowOf_5 : decode mi_BranchworkModel_nowOf.2.1 5 = .ok (.getfield 84, 3) := by decide +kernel
theorem jd_BranchworkModel_nowOf_8 : decode mi_BranchworkModel_nowOf.2.1 8 = .ok (.goto 22, 3) := by decide +kernel
theorem jd_BranchworkModel_nowOf_11 : decode mi_BranchworkModel_nowOf.2.1 11 = .ok (.iload_n 1, 1) := by decide +kernel
theorem jd_BranchworkModel_nowOf_12 : decode mi_BranchworkModel_nowOf.2.1 12 = .ok (.iconst 1, 1) := by decide +kernel
theorem jd_BranchworkModel_nowOf_13 : decode mi_BranchworkModel_nowOf.2.1 13 = .ok (.if_icmp .ne 10, 3) := by decide +kernel
theorem jd_BranchworkModel_nowOf_16 : decode mi_BranchworkModel_nowOf.2.1 16 = .ok (.aload_n 0, 1) := by decide +kernel
theorem jd_BranchworkModel_nowOf_17 : decode mi_BranchworkModel_nowOf.2.1 17 = .ok (.invokevirtual 87, 3) := by decide +kernel
theorem jd_BranchworkModel_nowOf_20 : decode mi_BranchworkModel_nowOf.2.1 20 = .ok (.goto 7, 3) := by decide +kernel
theorem jd_BranchworkModel_nowOf_23 : decode mi_BranchworkModel_nowOf.2.1 23 = .ok (.aload_n 0, 1) := by decide +kernel
theorem jd_BranchworkModel_nowOf_24 : decode mi_BranchworkModel_nowOf.2.1 24 = .ok (.getfield 145, 3) := by decide +kernel
theorem jd_BranchworkModel_nowOf_27 : decode mi_BranchworkModel_nowOf.2.1 27 = .ok (.invokestatic 222, 3) := by decide +kernel
theorem jd_BranchworkModel_nowOf_30 : decode mi_BranchworkModel_nowOf.2.1 30 = .ok (.ireturn, 1) := by decide +kernel
theorem jd_BranchworkModel_now_0 : decode mi_BranchworkModel_now.2.1 0 = .ok (.aload_n 0, 1) := by decide +kernel
theorem jd_BranchworkModel_now_1 : decode mi_BranchworkModel_now.2.1 1 = .ok (.iload_n 1, 1) := by decide +kernel
theorem jd_BranchworkModel_now_2 : decode mi_BranchworkModel_now.2.1 2 = .ok (.iconst 0, 1) := by decide +kernel
theorem jd_BranchworkModel_now_3 : decode mi_BranchworkModel_now.2.1 3 = .ok (.iconst 2, 1) := by decide +kernel
theorem jd_BranchworkModel_now_4 : decode mi_BranchworkModel_now.2.1 4 = .ok (.invokestatic 59, 3) := by decide +kernel
theorem jd_BranchworkModel_now_7 : decode mi_BranchworkModel_now.2.1 7 = .ok (.ifCond .ne 7, 3) := by decide +kernel
theorem jd_BranchworkModel_now_10 : decode mi_BranchworkModel_now.2.1 10 = .ok (.iconst 1, 1) := by decide +kernel
theorem jd_BranchworkModel_now_11 : decode mi_BranchworkModel_now.2.1 11 = .ok (.goto 4, 3) := by decide +kernel
theorem jd_BranchworkModel_now_14 : decode mi_BranchworkModel_now.2.1 14 = .ok (.iconst 0, 1) := by decide +kernel
theorem jd_BranchworkModel_now_15 : decode mi_BranchworkModel_now.2.1 15 = .ok (.iconst 1, 1) := by decide +kernel
theorem jd_BranchworkModel_now_16 : decode mi_BranchworkModel_now.2.1 16 = .ok (.invokevirtual 108, 3) := by decide +kernel
theorem jd_BranchworkModel_now_19 : decode mi_BranchworkModel_now.2.1 19 = .ok (.ifCond .eq 7, 3) := by decide +kernel
theorem jd_BranchworkModel_now_22 : decode mi_BranchworkModel_now.2.1 22 = .ok (.iconst 0, 1) := by decide +kernel
theorem jd_BranchworkModel_now_23 : decode mi_BranchworkModel_now.2.1 23 = .ok (.goto 8, 3) := by decide +kernel
theorem jd_BranchworkModel_now_26 : decode mi_BranchworkModel_now.2.1 26 = .ok (.aload_n 0, 1) := by decide +kernel
theorem jd_BranchworkModel_now_27 : decode mi_BranchworkModel_now.2.1 27 = .ok (.iload_n 1, 1) := by decide +kernel
theorem jd_BranchworkModel_now_28 : decode mi_BranchworkModel_now.2.1 28 = .ok (.invokevirtual 225, 3) := by decide +kernel
theorem jd_BranchworkModel_now_31 : decode mi_BranchworkModel_now.2.1 31 = .ok (.ireturn, 1) := by decide +kernel
theorem jd_BranchworkModel_at_0 : decode mi_BranchworkModel_at.2.1 0 = .ok (.aload_n 0, 1) := by decide +kernel
theorem jd_BranchworkModel_at_1 : decode mi_BranchworkModel_at.2.1 1 = .ok (.iload_n 1, 1) := by decide +kernel
theorem jd_BranchworkModel_at_2 : decode mi_BranchworkModel_at.2.1 2 = .ok (.invokevirtual 155, 3) := by decide +kernel
theorem jd_BranchworkModel_at_5 : decode mi_BranchworkModel_at.2.1 5 = .ok (.ifCond .eq 7, 3) := by decide +kernel
theorem jd_BranchworkModel_at_8 : decode mi_BranchworkModel_at.2.1 8 = .ok (.iconst 0, 1) := by decide +kernel
theorem jd_BranchworkModel_at_9 : decode mi_BranchworkModel_at.2.1 9 = .ok (.goto 17, 3) := by decide +kernel
theorem jd_BranchworkModel_at_12 : decode mi_BranchworkModel_at.2.1 12 = .ok (.aload_n 0, 1) := by decide +kernel
theorem jd_BranchworkModel_at_13 : decode mi_BranchworkModel_at.2.1 13 = .ok (.getfield 34, 3) := by decide +kernel
theorem jd_BranchworkModel_at_16 : decode mi_BranchworkModel_at.2.1 16 = .ok (.iload_n 1, 1) := by decide +kernel
theorem jd_BranchworkModel_at_17 : decode mi_BranchworkModel_at.2.1 17 = .ok (.invokevirtual 74, 3) := by decide +kernel
theorem jd_BranchworkModel_at_20 : decode mi_BranchworkModel_at.2.1 20 = .ok (.checkcast 78, 3) := by decide +kernel
theorem jd_BranchworkModel_at_23 : decode mi_BranchworkModel_at.2.1 23 = .ok (.invokestatic 222, 3) := by decide +kernel
theorem jd_BranchworkModel_at_26 : decode mi_BranchworkModel_at.2.1 26 = .ok (.ireturn, 1) := by decide +kernel
theorem jd_BranchworkModel_garbage_0 : decode mi_BranchworkModel_garbage.2.1 0 = .ok (.aload_n 0, 1) := by decide +kernel
theorem jd_BranchworkModel_garbage_1 : decode mi_BranchworkModel_garbage.2.1 1 = .ok (.iconst 0, 1) := by decide +kernel
theorem jd_BranchworkModel_garbage_2 : decode mi_BranchworkModel_garbage.2.1 2 = .ok (.putfield 51, 3) := by decide +kernel
theorem jd_BranchworkModel_garbage_5 : decode mi_BranchworkModel_garbage.2.1 5 = .ok (.aload_n 0, 1) := by decide +kernel
theorem jd_BranchworkModel_garbage_6 : decode mi_BranchworkModel_garbage.2.1 6 = .ok (.invokevirtual 216, 3) := by decide +kernel
theorem jd_BranchworkModel_garbage_9 : decode mi_BranchworkModel_garbage.2.1 9 = .ok (.ireturn, 1) := by decide +kernel
theorem jd_BranchworkModel_meanLines_0 : decode mi_BranchworkModel_meanLines.2.1 0 = .ok (.aload_n 0, 1) := by decide +kernel
theorem jd_BranchworkModel_meanLines_1 : decode mi_BranchworkModel_meanLines.2.1 1 = .ok (.iconst 0, 1) := by decide +kernel
theorem jd_BranchworkModel_meanLines_2 : decode mi_BranchworkModel_meanLines.2.1 2 = .ok (.putfield 51, 3) := by decide +kernel
theorem jd_BranchworkModel_meanLines_5 : decode mi_BranchworkModel_meanLines.2.1 5 = .ok (.aload_n 0, 1) := by decide +kernel
theorem jd_BranchworkModel_meanLines_6 : decode mi_BranchworkModel_meanLines.2.1 6 = .ok (.iconst 0, 1) := by decide +kernel
theorem jd_BranchworkModel_meanLines_7 : decode mi_BranchworkModel_meanLines.2.1 7 = .ok (.invokevirtual 201, 3) := by decide +kernel
theorem jd_BranchworkModel_meanLines_10 : decode mi_BranchworkModel_meanLines.2.1 10 = .ok (.invokestatic 209, 3) := by decide +kernel
theorem jd_BranchworkModel_meanLines_13 : decode mi_BranchworkModel_meanLines.2.1 13 = .ok (.astore_n 1, 1) := by decide +kernel
theorem jd_BranchworkModel_meanLines_14 : decode mi_BranchworkModel_meanLines.2.1 14 = .ok (.iconst 0, 1) := by decide +kernel
theorem jd_BranchworkModel_meanLines_15 : decode mi_BranchworkModel_meanLines.2.1 15 = .ok (.istore_n 2, 1) := by decide +kernel
theorem jd_BranchworkModel_meanLines_16 : decode mi_BranchworkModel_meanLines.2.1 16 = .ok (.iconst 0, 1) := by decide +kernel
theorem jd_BranchworkModel_meanLines_17 : decode mi_BranchworkModel_meanLines.2.1 17 = .ok (.istore_n 3, 1) := by decide +kernel
theorem jd_BranchworkModel_meanLines_18 : decode mi_BranchworkModel_meanLines.2.1 18 = .ok (.iload_n 3, 1) := by decide +kernel
theorem jd_BranchworkModel_meanLines_19 : decode mi_BranchworkModel_meanLines.2.1 19 = .ok (.aload_n 1, 1) := by decide +kernel
theorem jd_BranchworkModel_meanLines_20 : decode mi_BranchworkModel_meanLines.2.1 20 = .ok (.invokevirtual 70, 3) := by decide +kernel
theorem jd_BranchworkModel_meanLines_23 : decode mi_BranchworkModel_meanLines.2.1 23 = .ok (.if_icmp .ge 21, 3) := by decide +kernel
theorem jd_BranchworkModel_meanLines_26 : decode mi_BranchworkModel_meanLines.2.1 26 = .ok (.iload_n 2, 1) := by decide +kernel
theorem jd_BranchworkModel_meanLines_27 : decode mi_BranchworkModel_meanLines.2.1 27 = .ok (.aload_n 1, 1) := by decide +kernel
theorem jd_BranchworkModel_meanLines_28 : decode mi_BranchworkModel_meanLines.2.1 28 = .ok (.iload_n 3, 1) := by decide +kernel
theorem jd_BranchworkModel_meanLines_29 : decode mi_BranchworkModel_meanLines.2.1 29 = .ok (.invokevirtual 74, 3) := by decide +kernel
theorem jd_BranchworkModel_meanLines_32 : decode mi_BranchworkModel_meanLines.2.1 32 = .ok (.checkcast 199, 3) := by decide +kernel
theorem jd_BranchworkModel_meanLines_35 : decode mi_BranchworkModel_meanLines.2.1 35 = .ok (.arraylength, 1) := by decide +kernel
theorem jd_BranchworkModel_meanLines_36 : decode mi_BranchworkModel_meanLines.2.1 36 = .ok (.iadd, 1) := by decide +kernel
theorem jd_BranchworkModel_meanLines_37 : decode mi_BranchworkModel_meanLines.2.1 37 = .ok (.istore_n 2, 1) := by decide +kernel
theorem jd_BranchworkModel_meanLines_38 : decode mi_BranchworkModel_meanLines.2.1 38 = .ok (.iinc 3 1, 3) := by decide +kernel
theorem jd_BranchworkModel_meanLines_41 : decode mi_BranchworkModel_meanLines.2.1 41 = .ok (.goto (-23), 3) := by decide +kernel
theorem jd_BranchworkModel_meanLines_44 : decode mi_BranchworkModel_meanLines.2.1 44 = .ok (.aload_n 1, 1) := by decide +kernel
theorem jd_BranchworkModel_meanLines_45 : decode mi_BranchworkModel_meanLines.2.1 45 = .ok (.invokevirtual 138, 3) := by decide +kernel
theorem jd_BranchworkModel_meanLines_48 : decode mi_BranchworkModel_meanLines.2.1 48 = .ok (.ifCond .eq 7, 3) := by decide +kernel
theorem jd_BranchworkModel_meanLines_51 : decode mi_BranchworkModel_meanLines.2.1 51 = .ok (.dconst 0, 1) := by decide +kernel
theorem jd_BranchworkModel_meanLines_52 : decode mi_BranchworkModel_meanLines.2.1 52 = .ok (.goto 11, 3) := by decide +kernel
theorem jd_BranchworkModel_meanLines_55 : decode mi_BranchworkModel_meanLines.2.1 55 = .ok (.iload_n 2, 1) := by decide +kernel
theorem jd_BranchworkModel_meanLines_56 : decode mi_BranchworkModel_meanLines.2.1 56 = .ok (.i2d, 1) := by decide +kernel
theorem jd_BranchworkModel_meanLines_57 : decode mi_BranchworkModel_meanLines.2.1 57 = .ok (.aload_n 1, 1) := by decide +kernel
theorem jd_BranchworkModel_meanLines_58 : decode mi_BranchworkModel_meanLines.2.1 58 = .ok (.invokevirtual 70, 3) := by decide +kernel
theorem jd_BranchworkModel_meanLines_61 : decode mi_BranchworkModel_meanLines.2.1 61 = .ok (.i2d, 1) := by decide +kernel
theorem jd_BranchworkModel_meanLines_62 : decode mi_BranchworkModel_meanLines.2.1 62 = .ok (.ddiv, 1) := by decide +kernel
theorem jd_BranchworkModel_meanLines_63 : decode mi_BranchworkModel_meanLines.2.1 63 = .ok (.dreturn, 1) := by decide +kernel
theorem jd_BranchworkModel_add_0 : decode mi_BranchworkModel_add.2.1 0 = .ok (.lload_n 0, 1) := by decide +kernel
theorem jd_BranchworkModel_add_1 : decode mi_BranchworkModel_add.2.1 1 = .ok (.ldc2_w 283, 3) := by decide +kernel
theorem jd_BranchworkModel_add_4 : decode mi_BranchworkModel_add.2.1 4 = .ok (.lmul, 1) := by decide +kernel
theorem jd_BranchworkModel_add_5 : decode mi_BranchworkModel_add.2.1 5 = .ok (.lload_n 2, 1) := by decide +kernel
theorem jd_BranchworkModel_add_6 : decode mi_BranchworkModel_add.2.1 6 = .ok (.ladd, 1) := by decide +kernel
theorem jd_BranchworkModel_add_7 : decode mi_BranchworkModel_add.2.1 7 = .ok (.lreturn, 1) := by decide +kernel
theorem jd_BranchworkModel_digestTree_0 : decode mi_BranchworkModel_digestTree.2.1 0 = .ok (.lload_n 0, 1) := by decide +kernel
theorem jd_BranchworkModel_digestTree_1 : decode mi_BranchworkModel_digestTree.2.1 1 = .ok (.lstore_n 3, 1) := by decide +kernel
theorem jd_BranchworkModel_digestTree_2 : decode mi_BranchworkModel_digestTree.2.1 2 = .ok (.iconst 0, 1) := by decide +kernel
theorem jd_BranchworkModel_digestTree_3 : decode mi_BranchworkModel_digestTree.2.1 3 = .ok (.istore 5, 2) := by decide +kernel
theorem jd_BranchworkModel_digestTree_5 : decode mi_BranchworkModel_digestTree.2.1 5 = .ok (.iload 5, 2) := by decide +kernel
theorem jd_BranchworkModel_digestTree_7 : decode mi_BranchworkModel_digestTree.2.1 7 = .ok (.bipush 12, 2) := by decide +kernel
theorem jd_BranchworkModel_digestTree_9 : decode mi_BranchworkModel_digestTree.2.1 9 = .ok (.if_icmp .ge 85, 3) := by decide +kernel
theorem jd_BranchworkModel_digestTree_12 : decode mi_BranchworkModel_digestTree.2.1 12 = .ok (.lload_n 3, 1) := by decide +kernel
theorem jd_BranchworkModel_digestTree_13 : decode mi_BranchworkModel_digestTree.2.1 13 = .ok (.aload_n 2, 1) := by decide +kernel
theorem jd_BranchworkModel_digestTree_14 : decode mi_BranchworkModel_digestTree.2.1 14 = .ok (.iload 5, 2) := by decide +kernel
theorem jd_BranchworkModel_digestTree_16 : decode mi_BranchworkModel_digestTree.2.1 16 = .ok (.invokevirtual 67, 3) := by decide +kernel
theorem jd_BranchworkModel_digestTree_19 : decode mi_BranchworkModel_digestTree.2.1 19 = .ok (.ifCond .eq 15, 3) := by decide +kernel
theorem jd_BranchworkModel_digestTree_22 : decode mi_BranchworkModel_digestTree.2.1 22 = .ok (.aload_n 2, 1) := by decide +kernel
theorem jd_BranchworkModel_digestTree_23 : decode mi_BranchworkModel_digestTree.2.1 23 = .ok (.getfield 105, 3) := by decide +kernel
theorem jd_BranchworkModel_digestTree_26 : decode mi_BranchworkModel_digestTree.2.1 26 = .ok (.iload 5, 2) := by decide +kernel
theorem jd_BranchworkModel_digestTree_28 : decode mi_BranchworkModel_digestTree.2.1 28 = .ok (.aaload, 1) := by decide +kernel
theorem jd_BranchworkModel_digestTree_29 : decode mi_BranchworkModel_digestTree.2.1 29 = .ok (.arraylength, 1) := by decide +kernel
theorem jd_BranchworkModel_digestTree_30 : decode mi_BranchworkModel_digestTree.2.1 30 = .ok (.i2l, 1) := by decide +kernel
theorem jd_BranchworkModel_digestTree_31 : decode mi_BranchworkModel_digestTree.2.1 31 = .ok (.goto 6, 3) := by decide +kernel
theorem jd_BranchworkModel_digestTree_34 : decode mi_BranchworkModel_digestTree.2.1 34 = .ok (.ldc2_w 285, 3) := by decide +kernel
theorem jd_BranchworkModel_digestTree_37 : decode mi_BranchworkModel_digestTree.2.1 37 = .ok (.invokestatic 287, 3) := by decide +kernel
theorem jd_BranchworkModel_digestTree_40 : decode mi_BranchworkModel_digestTree.2.1 40 = .ok (.lstore_n 3, 1) := by decide +kernel
theorem jd_BranchworkModel_digestTree_41 : decode mi_BranchworkModel_digestTree.2.1 41 = .ok (.iconst 0, 1) := by decide +kernel
theorem jd_BranchworkModel_digestTree_42 : decode mi_BranchworkModel_digestTree.2.1 42 = .ok (.istore 6, 2) := by decide +kernel
theorem jd_BranchworkModel_digestTree_44 : decode mi_BranchworkModel_digestTree.2.1 44 = .ok (.aload_n 2, 1) := by decide +kernel
theorem jd_BranchworkModel_digestTree_45 : decode mi_BranchworkModel_digestTree.2.1 45 = .ok (.iload 5, 2) := by decide +kernel
theorem jd_BranchworkModel_digestTree_47 : decode mi_BranchworkModel_digestTree.2.1 47 = .ok (.invokevirtual 67, 3) := by decide +kernel
theorem jd_BranchworkModel_digestTree_50 : decode mi_BranchworkModel_digestTree.2.1 50 = .ok (.ifCond .eq 38, 3) := by decide +kernel
theorem jd_BranchworkModel_digestTree_53 : decode mi_BranchworkModel_digestTree.2.1 53 = .ok (.iload 6, 2) := by decide +kernel
theorem jd_BranchworkModel_digestTree_55 : decode mi_BranchworkModel_digestTree.2.1 55 = .ok (.aload_n 2, 1) := by decide +kernel
theorem jd_BranchworkModel_digestTree_56 : decode mi_BranchworkModel_digestTree.2.1 56 = .ok (.getfield 105, 3) := by decide +kernel
theorem jd_BranchworkModel_digestTree_59 : decode mi_BranchworkModel_digestTree.2.1 59 = .ok (.iload 5, 2) := by decide +kernel
theorem jd_BranchworkModel_digestTree_61 : decode mi_BranchworkModel_digestTree.2.1 61 = .ok (.aaload, 1) := by decide +kernel
theorem jd_BranchworkModel_digestTree_62 : decode mi_BranchworkModel_digestTree.2.1 62 = .ok (.arraylength, 1) := by decide +kernel
theorem jd_BranchworkModel_digestTree_63 : decode mi_BranchworkModel_digestTree.2.1 63 = .ok (.if_icmp .ge 25, 3) := by decide +kernel
theorem jd_BranchworkModel_digestTree_66 : decode mi_BranchworkModel_digestTree.2.1 66 = .ok (.lload_n 3, 1) := by decide +kernel
theorem jd_BranchworkModel_digestTree_67 : decode mi_BranchworkModel_digestTree.2.1 67 = .ok (.aload_n 2, 1) := by decide +kernel
theorem jd_BranchworkModel_digestTree_68 : decode mi_BranchworkModel_digestTree.2.1 68 = .ok (.getfield 105, 3) := by decide +kernel
theorem jd_BranchworkModel_digestTree_71 : decode mi_BranchworkModel_digestTree.2.1 71 = .ok (.iload 5, 2) := by decide +kernel
theorem jd_BranchworkModel_digestTree_73 : decode mi_BranchworkModel_digestTree.2.1 73 = .ok (.aaload, 1) := by decide +kernel
theorem jd_BranchworkModel_digestTree_74 : decode mi_BranchworkModel_digestTree.2.1 74 = .ok (.iload 6, 2) := by decide +kernel
theorem jd_BranchworkModel_digestTree_76 : decode mi_BranchworkModel_digestTree.2.1 76 = .ok (.iaload, 1) := by decide +kernel
theorem jd_BranchworkModel_digestTree_77 : decode mi_BranchworkModel_digestTree.2.1 77 = .ok (.i2l, 1) := by decide +kernel
theorem jd_BranchworkModel_digestTree_78 : decode mi_BranchworkModel_digestTree.2.1 78 = .ok (.invokestatic 287, 3) := by decide +kernel
theorem jd_BranchworkModel_digestTree_81 : decode mi_BranchworkModel_digestTree.2.1 81 = .ok (.lstore_n 3, 1) := by decide +kernel
theorem jd_BranchworkModel_digestTree_82 : decode mi_BranchworkModel_digestTree.2.1 82 = .ok (.iinc 6 1, 3) := by decide +kernel
theorem jd_BranchworkModel_digestTree_85 : decode mi_BranchworkModel_digestTree.2.1 85 = .ok (.goto (-41), 3) := by decide +kernel
theorem jd_BranchworkModel_digestTree_88 : decode mi_BranchworkModel_digestTree.2.1 88 = .ok (.iinc 5 1, 3) := by decide +kernel
theorem jd_BranchworkModel_digestTree_91 : decode mi_BranchworkModel_digestTree.2.1 91 = .ok (.goto (-86), 3) := by decide +kernel
theorem jd_BranchworkModel_digestTree_94 : decode mi_BranchworkModel_digestTree.2.1 94 = .ok (.lload_n 3, 1) := by decide +kernel
theorem jd_BranchworkModel_digestTree_95 : decode mi_BranchworkModel_digestTree.2.1 95 = .ok (.lreturn, 1) := by decide +kernel
theorem jd_BranchworkModel_digest_0 : decode mi_BranchworkModel_digest.2.1 0 = .ok (.aload_n 0, 1) := by decide +kernel
theorem jd_BranchworkModel_digest_1 : decode mi_BranchworkModel_digest.2.1 1 = .ok (.iconst 0, 1) := by decide +kernel
theorem jd_BranchworkModel_digest_2 : decode mi_BranchworkModel_digest.2.1 2 = .ok (.putfield 51, 3) := by decide +kernel
theorem jd_BranchworkModel_digest_5 : decode mi_BranchworkModel_digest.2.1 5 = .ok (.ldc2_w 290, 3) := by decide +kernel
theorem jd_BranchworkModel_digest_8 : decode mi_BranchworkModel_digest.2.1 8 = .ok (.lstore_n 1, 1) := by decide +kernel
theorem jd_BranchworkModel_digest_9 : decode mi_BranchworkModel_digest.2.1 9 = .ok (.iconst 0, 1) := by decide +kernel
theorem jd_BranchworkModel_digest_10 : decode mi_BranchworkModel_digest.2.1 10 = .ok (.istore_n 3, 1) := by decide +kernel
theorem jd_BranchworkModel_digest_11 : decode mi_BranchworkModel_digest.2.1 11 = .ok (.iload_n 3, 1) := by decide +kernel
theorem jd_BranchworkModel_digest_12 : decode mi_BranchworkModel_digest.2.1 12 = .ok (.bipush 6, 2) := by decide +kernel
theorem jd_BranchworkModel_digest_14 : decode mi_BranchworkModel_digest.2.1 14 = .ok (.if_icmp .ge 20, 3) := by decide +kernel
theorem jd_BranchworkModel_digest_17 : decode mi_BranchworkModel_digest.2.1 17 = .ok (.lload_n 1, 1) := by decide +kernel
theorem jd_BranchworkModel_digest_18 : decode mi_BranchworkModel_digest.2.1 18 = .ok (.aload_n 0, 1) := by decide +kernel
theorem jd_BranchworkModel_digest_19 : decode mi_BranchworkModel_digest.2.1 19 = .ok (.iload_n 3, 1) := by decide +kernel
theorem jd_BranchworkModel_digest_20 : decode mi_BranchworkModel_digest.2.1 20 = .ok (.invokevirtual 219, 3) := by decide +kernel
theorem jd_BranchworkModel_digest_23 : decode mi_BranchworkModel_digest.2.1 23 = .ok (.i2l, 1) := by decide +kernel
theorem jd_BranchworkModel_digest_24 : decode mi_BranchworkModel_digest.2.1 24 = .ok (.invokestatic 287, 3) := by decide +kernel
theorem jd_BranchworkModel_digest_27 : decode mi_BranchworkModel_digest.2.1 27 = .ok (.lstore_n 1, 1) := by decide +kernel
theorem jd_BranchworkModel_digest_28 : decode mi_BranchworkModel_digest.2.1 28 = .ok (.iinc 3 1, 3) := by decide +kernel
theorem jd_BranchworkModel_digest_31 : decode mi_BranchworkModel_digest.2.1 31 = .ok (.goto (-20), 3) := by decide +kernel
theorem jd_BranchworkModel_digest_34 : decode mi_BranchworkModel_digest.2.1 34 = .ok (.iconst 0, 1) := by decide +kernel
theorem jd_BranchworkModel_digest_35 : decode mi_BranchworkModel_digest.2.1 35 = .ok (.istore_n 3, 1) := by decide +kernel
theorem jd_BranchworkModel_digest_36 : decode mi_BranchworkModel_digest.2.1 36 = .ok (.iload_n 3, 1) := by decide +kernel
theorem jd_BranchworkModel_digest_37 : decode mi_BranchworkModel_digest.2.1 37 = .ok (.iconst 3, 1) := by decide +kernel
theorem jd_BranchworkModel_digest_38 : decode mi_BranchworkModel_digest.2.1 38 = .ok (.if_icmp .ge 20, 3) := by decide +kernel
theorem jd_BranchworkModel_digest_41 : decode mi_BranchworkModel_digest.2.1 41 = .ok (.lload_n 1, 1) := by decide +kernel
theorem jd_BranchworkModel_digest_42 : decode mi_BranchworkModel_digest.2.1 42 = .ok (.aload_n 0, 1) := by decide +kernel
theorem jd_BranchworkModel_digest_43 : decode mi_BranchworkModel_digest.2.1 43 = .ok (.iload_n 3, 1) := by decide +kernel
theorem jd_BranchworkModel_digest_44 : decode mi_BranchworkModel_digest.2.1 44 = .ok (.invokevirtual 225, 3) := by decide +kernel
theorem jd_BranchworkModel_digest_47 : decode mi_BranchworkModel_digest.2.1 47 = .ok (.i2l, 1) := by decide +kernel
theorem jd_BranchworkModel_digest_48 : decode mi_BranchworkModel_digest.2.1 48 = .ok (.invokestatic 287, 3) := by decide +kernel
theorem jd_BranchworkModel_digest_51 : decode mi_BranchworkModel_digest.2.1 51 = .ok (.lstore_n 1, 1) := by decide +kernel
theorem jd_BranchworkModel_digest_52 : decode mi_BranchworkModel_digest.2.1 52 = .ok (.iinc 3 1, 3) := by decide +kernel
theorem jd_BranchworkModel_digest_55 : decode mi_BranchworkModel_digest.2.1 55 = .ok (.goto (-19), 3) := by decide +kernel
theorem jd_BranchworkModel_digest_58 : decode mi_BranchworkModel_digest.2.1 58 = .ok (.iconst 0, 1) := by decide +kernel
theorem jd_BranchworkModel_digest_59 : decode mi_BranchworkModel_digest.2.1 59 = .ok (.istore_n 3, 1) := by decide +kernel
theorem jd_BranchworkModel_digest_60 : decode mi_BranchworkModel_digest.2.1 60 = .ok (.iload_n 3, 1) := by decide +kernel
theorem jd_BranchworkModel_digest_61 : decode mi_BranchworkModel_digest.2.1 61 = .ok (.aload_n 0, 1) := by decide +kernel
theorem jd_BranchworkModel_digest_62 : decode mi_BranchworkModel_digest.2.1 62 = .ok (.getfield 34, 3) := by decide +kernel
theorem jd_BranchworkModel_digest_65 : decode mi_BranchworkModel_digest.2.1 65 = .ok (.invokevirtual 70, 3) := by decide +kernel
theorem jd_BranchworkModel_digest_68 : decode mi_BranchworkModel_digest.2.1 68 = .ok (.if_icmp .ge 29, 3) := by decide +kernel
theorem jd_BranchworkModel_digest_71 : decode mi_BranchworkModel_digest.2.1 71 = .ok (.lload_n 1, 1) := by decide +kernel
theorem jd_BranchworkModel_digest_72 : decode mi_BranchworkModel_digest.2.1 72 = .ok (.aload_n 0, 1) := by decide +kernel
theorem jd_BranchworkModel_digest_73 : decode mi_BranchworkModel_digest.2.1 73 = .ok (.getfield 34, 3) := by decide +kernel
theorem jd_BranchworkModel_digest_76 : decode mi_BranchworkModel_digest.2.1 76 = .ok (.iload_n 3, 1) := by decide +kernel
theorem jd_BranchworkModel_digest_77 : decode mi_BranchworkModel_digest.2.1 77 = .ok (.invokevirtual 74, 3) := by decide +kernel
theorem jd_BranchworkModel_digest_80 : decode mi_BranchworkModel_digest.2.1 80 = .ok (.checkcast 78, 3) := by decide +kernel
theorem jd_BranchworkModel_digest_83 : decode mi_BranchworkModel_digest.2.1 83 = .ok (.invokestatic 222, 3) := by decide +kernel
theorem jd_BranchworkModel_digest_86 : decode mi_BranchworkModel_digest.2.1 86 = .ok (.i2l, 1) := by decide +kernel
theorem jd_BranchworkModel_digest_87 : decode mi_BranchworkModel_digest.2.1 87 = .ok (.invokestatic 287, 3) := by decide +kernel
theorem jd_BranchworkModel_digest_90 : decode mi_BranchworkModel_digest.2.1 90 = .ok (.lstore_n 1, 1) := by decide +kernel
theorem jd_BranchworkModel_digest_91 : decode mi_BranchworkModel_digest.2.1 91 = .ok (.iinc 3 1, 3) := by decide +kernel
theorem jd_BranchworkModel_digest_94 : decode mi_BranchworkModel_digest.2.1 94 = .ok (.goto (-34), 3) := by decide +kernel
theorem jd_BranchworkModel_digest_97 : decode mi_BranchworkModel_digest.2.1 97 = .ok (.iconst 0, 1) := by decide +kernel
theorem jd_BranchworkModel_digest_98 : decode mi_BranchworkModel_digest.2.1 98 = .ok (.istore_n 3, 1) := by decide +kernel
theorem jd_BranchworkModel_digest_99 : decode mi_BranchworkModel_digest.2.1 99 = .ok (.iload_n 3, 1) := by decide +kernel
theorem jd_BranchworkModel_digest_100 : decode mi_BranchworkModel_digest.2.1 100 = .ok (.bipush 12, 2) := by decide +kernel
theorem jd_BranchworkModel_digest_102 : decode mi_BranchworkModel_digest.2.1 102 = .ok (.if_icmp .ge 20, 3) := by decide +kernel
theorem jd_BranchworkModel_digest_105 : decode mi_BranchworkModel_digest.2.1 105 = .ok (.lload_n 1, 1) := by decide +kernel
theorem jd_BranchworkModel_digest_106 : decode mi_BranchworkModel_digest.2.1 106 = .ok (.aload_n 0, 1) := by decide +kernel
theorem jd_BranchworkModel_digest_107 : decode mi_BranchworkModel_digest.2.1 107 = .ok (.iload_n 3, 1) := by decide +kernel
theorem jd_BranchworkModel_digest_108 : decode mi_BranchworkModel_digest.2.1 108 = .ok (.invokevirtual 130, 3) := by decide +kernel
theorem jd_BranchworkModel_digest_111 : decode mi_BranchworkModel_digest.2.1 111 = .ok (.i2l, 1) := by decide +kernel
theorem jd_BranchworkModel_digest_112 : decode mi_BranchworkModel_digest.2.1 112 = .ok (.invokestatic 287, 3) := by decide +kernel
theorem jd_BranchworkModel_digest_115 : decode mi_BranchworkModel_digest.2.1 115 = .ok (.lstore_n 1, 1) := by decide +kernel
theorem jd_BranchworkModel_digest_116 : decode mi_BranchworkModel_digest.2.1 116 = .ok (.iinc 3 1, 3) := by decide +kernel
theorem jd_BranchworkModel_digest_119 : decode mi_BranchworkModel_digest.2.1 119 = .ok (.goto (-20), 3) := by decide +kernel
theorem jd_BranchworkModel_digest_122 : decode mi_BranchworkModel_digest.2.1 122 = .ok (.lload_n 1, 1) := by decide +kernel
theorem jd_BranchworkModel_digest_123 : decode mi_BranchworkModel_digest.2.1 123 = .ok (.aload_n 0, 1) := by decide +kernel
theorem jd_BranchworkModel_digest_124 : decode mi_BranchworkModel_digest.2.1 124 = .ok (.getfield 40, 3) := by decide +kernel
theorem jd_BranchworkModel_digest_127 : decode mi_BranchworkModel_digest.2.1 127 = .ok (.invokestatic 292, 3) := by decide +kernel
theorem jd_BranchworkModel_digest_130 : decode mi_BranchworkModel_digest.2.1 130 = .ok (.lstore_n 1, 1) := by decide +kernel
theorem jd_BranchworkModel_digest_131 : decode mi_BranchworkModel_digest.2.1 131 = .ok (.iconst 0, 1) := by decide +kernel
theorem jd_BranchworkModel_digest_132 : decode mi_BranchworkModel_digest.2.1 132 = .ok (.istore_n 3, 1) := by decide +kernel
theorem jd_BranchworkModel_digest_133 : decode mi_BranchworkModel_digest.2.1 133 = .ok (.iload_n 3, 1) := by decide +kernel
theorem jd_BranchworkModel_digest_134 : decode mi_BranchworkModel_digest.2.1 134 = .ok (.aload_n 0, 1) := by decide +kernel
theorem jd_BranchworkModel_digest_135 : decode mi_BranchworkModel_digest.2.1 135 = .ok (.getfield 30, 3) := by decide +kernel
theorem jd_BranchworkModel_digest_138 : decode mi_BranchworkModel_digest.2.1 138 = .ok (.invokevirtual 70, 3) := by decide +kernel
theorem jd_BranchworkModel_digest_141 : decode mi_BranchworkModel_digest.2.1 141 = .ok (.if_icmp .ge 94, 3) := by decide +kernel
theorem jd_BranchworkModel_digest_144 : decode mi_BranchworkModel_digest.2.1 144 = .ok (.aload_n 0, 1) := by decide +kernel
theorem jd_BranchworkModel_digest_145 : decode mi_BranchworkModel_digest.2.1 145 = .ok (.getfield 30, 3) := by decide +kernel
theorem jd_BranchworkModel_digest_148 : decode mi_BranchworkModel_digest.2.1 148 = .ok (.iload_n 3, 1) := by decide +kernel
theorem jd_BranchworkModel_digest_149 : decode mi_BranchworkModel_digest.2.1 149 = .ok (.invokevirtual 74, 3) := by decide +kernel
theorem jd_BranchworkModel_digest_152 : decode mi_BranchworkModel_digest.2.1 152 = .ok (.checkcast 78, 3) := by decide +kernel
theorem jd_BranchworkModel_digest_155 : decode mi_BranchworkModel_digest.2.1 155 = .ok (.getfield 80, 3) := by decide +kernel
theorem jd_BranchworkModel_digest_158 : decode mi_BranchworkModel_digest.2.1 158 = .ok (.ifCond .eq 6, 3) := by decide +kernel
theorem jd_BranchworkModel_digest_161 : decode mi_BranchworkModel_digest.2.1 161 = .ok (.goto 68, 3) := by decide +kernel
theorem jd_BranchworkModel_digest_164 : decode mi_BranchworkModel_digest.2.1 164 = .ok (.lload_n 1, 1) := by decide +kernel
theorem jd_BranchworkModel_digest_165 : decode mi_BranchworkModel_digest.2.1 165 = .ok (.iload_n 3, 1) := by decide +kernel
theorem jd_BranchworkModel_digest_166 : decode mi_BranchworkModel_digest.2.1 166 = .ok (.i2l, 1) := by decide +kernel
theorem jd_BranchworkModel_digest_167 : decode mi_BranchworkModel_digest.2.1 167 = .ok (.invokestatic 287, 3) := by decide +kernel
theorem jd_BranchworkModel_digest_170 : decode mi_BranchworkModel_digest.2.1 170 = .ok (.lstore_n 1, 1) := by decide +kernel
theorem jd_BranchworkModel_digest_171 : decode mi_BranchworkModel_digest.2.1 171 = .ok (.iconst 0, 1) := by decide +kernel
theorem jd_BranchworkModel_digest_172 : decode mi_BranchworkModel_digest.2.1 172 = .ok (.istore 4, 2) := by decide +kernel
theorem jd_BranchworkModel_digest_174 : decode mi_BranchworkModel_digest.2.1 174 = .ok (.iload 4, 2) := by decide +kernel
theorem jd_BranchworkModel_digest_176 : decode mi_BranchworkModel_digest.2.1 176 = .ok (.bipush 6, 2) := by decide +kernel
theorem jd_BranchworkModel_digest_178 : decode mi_BranchworkModel_digest.2.1 178 = .ok (.if_icmp .ge 32, 3) := by decide +kernel
theorem jd_BranchworkModel_digest_181 : decode mi_BranchworkModel_digest.2.1 181 = .ok (.lload_n 1, 1) := by decide +kernel
theorem jd_BranchworkModel_digest_182 : decode mi_BranchworkModel_digest.2.1 182 = .ok (.aload_n 0, 1) := by decide +kernel
theorem jd_BranchworkModel_digest_183 : decode mi_BranchworkModel_digest.2.1 183 = .ok (.aload_n 0, 1) := by decide +kernel
theorem jd_BranchworkModel_digest_184 : decode mi_BranchworkModel_digest.2.1 184 = .ok (.getfield 30, 3) := by decide +kernel
theorem jd_BranchworkModel_digest_187 : decode mi_BranchworkModel_digest.2.1 187 = .ok (.iload_n 3, 1) := by decide +kernel
theorem jd_BranchworkModel_digest_188 : decode mi_BranchworkModel_digest.2.1 188 = .ok (.invokevirtual 74, 3) := by decide +kernel
theorem jd_BranchworkModel_digest_191 : decode mi_BranchworkModel_digest.2.1 191 = .ok (.checkcast 78, 3) := by decide +kernel
theorem jd_BranchworkModel_digest_194 : decode mi_BranchworkModel_digest.2.1 194 = .ok (.iload 4, 2) := by decide +kernel
theorem jd_BranchworkModel_digest_196 : decode mi_BranchworkModel_digest.2.1 196 = .ok (.invokevirtual 240, 3) := by decide +kernel
theorem jd_BranchworkModel_digest_199 : decode mi_BranchworkModel_digest.2.1 199 = .ok (.i2l, 1) := by decide +kernel
theorem jd_BranchworkModel_digest_200 : decode mi_BranchworkModel_digest.2.1 200 = .ok (.invokestatic 287, 3) := by decide +kernel
theorem jd_BranchworkModel_digest_203 : decode mi_BranchworkModel_digest.2.1 203 = .ok (.lstore_n 1, 1) := by decide +kernel
theorem jd_BranchworkModel_digest_204 : decode mi_BranchworkModel_digest.2.1 204 = .ok (.iinc 4 1, 3) := by decide +kernel
theorem jd_BranchworkModel_digest_207 : decode mi_BranchworkModel_digest.2.1 207 = .ok (.goto (-33), 3) := by decide +kernel
theorem jd_BranchworkModel_digest_210 : decode mi_BranchworkModel_digest.2.1 210 = .ok (.lload_n 1, 1) := by decide +kernel
theorem jd_BranchworkModel_digest_211 : decode mi_BranchworkModel_digest.2.1 211 = .ok (.aload_n 0, 1) := by decide +kernel
theorem jd_BranchworkModel_digest_212 : decode mi_BranchworkModel_digest.2.1 212 = .ok (.getfield 30, 3) := by decide +kernel
theorem jd_BranchworkModel_digest_215 : decode mi_BranchworkModel_digest.2.1 215 = .ok (.iload_n 3, 1) := by decide +kernel
theorem jd_BranchworkModel_digest_216 : decode mi_BranchworkModel_digest.2.1 216 = .ok (.invokevirtual 74, 3) := by decide +kernel
theorem jd_BranchworkModel_digest_219 : decode mi_BranchworkModel_digest.2.1 219 = .ok (.checkcast 78, 3) := by decide +kernel
theorem jd_BranchworkModel_digest_222 : decode mi_BranchworkModel_digest.2.1 222 = .ok (.getfield 91, 3) := by decide +kernel
theorem jd_BranchworkModel_digest_225 : decode mi_BranchworkModel_digest.2.1 225 = .ok (.invokestatic 292, 3) := by decide +kernel
theorem jd_BranchworkModel_digest_228 : decode mi_BranchworkModel_digest.2.1 228 = .ok (.lstore_n 1, 1) := by decide +kernel
theorem jd_BranchworkModel_digest_229 : decode mi_BranchworkModel_digest.2.1 229 = .ok (.iinc 3 1, 3) := by decide +kernel
theorem jd_BranchworkModel_digest_232 : decode mi_BranchworkModel_digest.2.1 232 = .ok (.goto (-99), 3) := by decide +kernel
theorem jd_BranchworkModel_digest_235 : decode mi_BranchworkModel_digest.2.1 235 = .ok (.iconst 0, 1) := by decide +kernel
theorem jd_BranchworkModel_digest_236 : decode mi_BranchworkModel_digest.2.1 236 = .ok (.istore_n 3, 1) := by decide +kernel
theorem jd_BranchworkModel_digest_237 : decode mi_BranchworkModel_digest.2.1 237 = .ok (.iload_n 3, 1) := by decide +kernel
theorem jd_BranchworkModel_digest_238 : decode mi_BranchworkModel_digest.2.1 238 = .ok (.aload_n 0, 1) := by decide +kernel
theorem jd_BranchworkModel_digest_239 : decode mi_BranchworkModel_digest.2.1 239 = .ok (.getfield 44, 3) := by decide +kernel
theorem jd_BranchworkModel_digest_242 : decode mi_BranchworkModel_digest.2.1 242 = .ok (.invokevirtual 70, 3) := by decide +kernel
theorem jd_BranchworkModel_digest_245 : decode mi_BranchworkModel_digest.2.1 245 = .ok (.if_icmp .ge 45, 3) := by decide +kernel
theorem jd_BranchworkModel_digest_248 : decode mi_BranchworkModel_digest.2.1 248 = .ok (.lload_n 1, 1) := by decide +kernel
theorem jd_BranchworkModel_digest_249 : decode mi_BranchworkModel_digest.2.1 249 = .ok (.aload_n 0, 1) := by decide +kernel
theorem jd_BranchworkModel_digest_250 : decode mi_BranchworkModel_digest.2.1 250 = .ok (.getfield 44, 3) := by decide +kernel
theorem jd_BranchworkModel_digest_253 : decode mi_BranchworkModel_digest.2.1 253 = .ok (.iload_n 3, 1) := by decide +kernel
theorem jd_BranchworkModel_digest_254 : decode mi_BranchworkModel_digest.2.1 254 = .ok (.invokevirtual 74, 3) := by decide +kernel
theorem jd_BranchworkModel_digest_257 : decode mi_BranchworkModel_digest.2.1 257 = .ok (.checkcast 199, 3) := by decide +kernel
theorem jd_BranchworkModel_digest_260 : decode mi_BranchworkModel_digest.2.1 260 = .ok (.iconst 0, 1) := by decide +kernel
theorem jd_BranchworkModel_digest_261 : decode mi_BranchworkModel_digest.2.1 261 = .ok (.iaload, 1) := by decide +kernel
theorem jd_BranchworkModel_digest_262 : decode mi_BranchworkModel_digest.2.1 262 = .ok (.i2l, 1) := by decide +kernel
theorem jd_BranchworkModel_digest_263 : decode mi_BranchworkModel_digest.2.1 263 = .ok (.invokestatic 287, 3) := by decide +kernel
theorem jd_BranchworkModel_digest_266 : decode mi_BranchworkModel_digest.2.1 266 = .ok (.aload_n 0, 1) := by decide +kernel
theorem jd_BranchworkModel_digest_267 : decode mi_BranchworkModel_digest.2.1 267 = .ok (.getfield 44, 3) := by decide +kernel
theorem jd_BranchworkModel_digest_270 : decode mi_BranchworkModel_digest.2.1 270 = .ok (.iload_n 3, 1) := by decide +kernel
theorem jd_BranchworkModel_digest_271 : decode mi_BranchworkModel_digest.2.1 271 = .ok (.invokevirtual 74, 3) := by decide +kernel
theorem jd_BranchworkModel_digest_274 : decode mi_BranchworkModel_digest.2.1 274 = .ok (.checkcast 199, 3) := by decide +kernel
theorem jd_BranchworkModel_digest_277 : decode mi_BranchworkModel_digest.2.1 277 = .ok (.iconst 1, 1) := by decide +kernel
theorem jd_BranchworkModel_digest_278 : decode mi_BranchworkModel_digest.2.1 278 = .ok (.iaload, 1) := by decide +kernel
theorem jd_BranchworkModel_digest_279 : decode mi_BranchworkModel_digest.2.1 279 = .ok (.i2l, 1) := by decide +kernel
theorem jd_BranchworkModel_digest_280 : decode mi_BranchworkModel_digest.2.1 280 = .ok (.invokestatic 287, 3) := by decide +kernel
theorem jd_BranchworkModel_digest_283 : decode mi_BranchworkModel_digest.2.1 283 = .ok (.lstore_n 1, 1) := by decide +kernel
theorem jd_BranchworkModel_digest_284 : decode mi_BranchworkModel_digest.2.1 284 = .ok (.iinc 3 1, 3) := by decide +kernel
theorem jd_BranchworkModel_digest_287 : decode mi_BranchworkModel_digest.2.1 287 = .ok (.goto (-50), 3) := by decide +kernel
theorem jd_BranchworkModel_digest_290 : decode mi_BranchworkModel_digest.2.1 290 = .ok (.lload_n 1, 1) := by decide +kernel
theorem jd_BranchworkModel_digest_291 : decode mi_BranchworkModel_digest.2.1 291 = .ok (.aload_n 0, 1) := by decide +kernel
theorem jd_BranchworkModel_digest_292 : decode mi_BranchworkModel_digest.2.1 292 = .ok (.invokevirtual 216, 3) := by decide +kernel
theorem jd_BranchworkModel_digest_295 : decode mi_BranchworkModel_digest.2.1 295 = .ok (.i2l, 1) := by decide +kernel
theorem jd_BranchworkModel_digest_296 : decode mi_BranchworkModel_digest.2.1 296 = .ok (.invokestatic 287, 3) := by decide +kernel
theorem jd_BranchworkModel_digest_299 : decode mi_BranchworkModel_digest.2.1 299 = .ok (.lreturn, 1) := by decide +kernel
theorem jw_nfw : nativeFrameWords "java/lang/System" "arraycopy" 5 + 11 ≤ 64 := by decide +kernel
theorem jw_natc {mi : jw_M} {o : jw_O} {k : jw_K} (C0 : jw_Cx mi o k) : (Cond.native arraycopyName).before k.2.2.2.2.2.1 k.2.2.2.1 = true := va_Nw.use rfl (C0.xB.2.2.2.2.1 _ (jw_smem 1127 (by decide +kernel) rfl))
theorem jw_nn (z : Int32) (hz : ¬ z < 0) : z.toInt = (z.toNatClampNeg : Int) := by
  have hz0 : (0 : Int) ≤ z.toInt := by
    have := Int32.not_lt.mp hz
    simpa using Int32.le_iff_toInt_le.mp this
  show z.toInt = ((z.toInt.toNat : Nat) : Int)
  omega
/-- System.arraycopy from one int array to another: what is not the other's stays -/
theorem jw_cpyi {mi : jw_M} {o : jw_O} {k : jw_K} {kc ks pc pc' hs : Nat} {lc : List (Nat × Value)} {μ : jw_Mem} {a0 a idx n0 n1 d mc ms : Nat} {f g : Nat → Int32} {sp dp n : Int32} (hR : jw_Rm k d mc ms) (hdd : 1 ≤ d) (hw : Cond.methodLink mi.1.cls idx arraycopyName ∈ jw_T) (hd : decode mi.2.1 pc = .ok (.invokestatic idx, 3)) (ha0 : μ a0 = some (.inl (o.2.2.1 0, n0, .inl f))) (ha1 : μ a = some (.inl (o.2.2.1 0, n1, .inl g))) (h1 : ¬ sp < 0) (h2 : ¬ dp < 0) (h3 : ¬ n < 0) (h4 : sp.toNatClampNeg + n.toNatClampNeg ≤ n0) (h5 : dp.toNatClampNeg + n.toNatClampNeg ≤ n1) (hp : pc + 3 = pc') (kk : ∀ (μ' : jw_Mem) (g' : Nat → Int32), μ' a = some (.inl (o.2.2.1 0, n1, .inl g')) → (∀ q, q ≠ a → μ' q = μ q) → jw_X mi o k kc ks pc' lc [] μ' hs) : jw_X mi o k kc ks pc lc [.int n, .int dp, .ref a, .int sp, .ref a0] μ hs := by
  subst hp
  intro C0 H locs ls e1 e2 e3 e4 T hT X
  have hlo := (e2 a _ ha1).1
  have hc0 : H[a0]? = some (vp_cell (o.2.2.1 0) (n0, .inl f)) := (e2 a0 _ ha0).2
  have hc1 : H[a]? = some (vp_cell (o.2.2.1 0) (n1, .inl g)) := (e2 a _ ha1).2
  have ht : (jw_tys o.2.2.1)[0]? = some (o.2.2.1 0, .int) := rfl
  obtain ⟨-, k0, hk0, cm0, hkk0⟩ := (C0.hK.2 0 _ ht).1 n0 (fun j => .int (f j))
  obtain ⟨-, k1, hk1, cm1, hkk1⟩ := (C0.hK.2 0 _ ht).1 n1 (fun j => .int (g j))
  obtain ⟨vm', X', step⟩ := X.arraycopy C0.1 C0.own (C0.ts _ hw) (jw_natc C0) (C0.ts _ jq_1126) (C0.ts _ jq_72) (src := a0) (dst := a) (cs := vp_cell (o.2.2.1 0) (n0, .inl f)) (cd := vp_cell (o.2.2.1 0) (n1, .inl g)) (srcPos := sp) (destPos := dp) (n := n) (by rw [hT]; exact hc0) (by rw [hT]; exact hc1)
    (fun _ h => by cases h) (fun _ h => by cases h) (fun h => by cases h) (fun h => by cases h) hk0 hk1 hkk0 hkk1 rfl h1 h2 h3
    (by rw [jw_nn sp h1, jw_nn n h3]; show ¬ _ > ((arrV (o.2.2.1 0) n0 (fun j => .int (f j))).slots.size : Int); rw [arrV_size]; omega)
    (by rw [jw_nn dp h2, jw_nn n h3]; show ¬ _ > ((arrV (o.2.2.1 0) n1 (fun j => .int (g j))).slots.size : Int); rw [arrV_size]; omega)
    (fun vm₁ _ i hi => by
      have e : (vp_cell (o.2.2.1 0) (n0, .inl f)).slots.getD (sp.toNatClampNeg + i) .null = .int (f (sp.toNatClampNeg + i)) := by
        show (arrV (o.2.2.1 0) n0 (fun j => .int (f j))).slots.getD _ _ = _
        rw [Array.getD_eq_getD_getElem?, arrV_read _ _ (by omega)]
        rfl
      refine ⟨?_, ?_⟩
      · rw [e]
        rfl
      · rw [e]
        exact trivial)
    (g := F0 k.2.2.2.2.1 pc ls [.int n, .int dp, .ref a, .int sp, .ref a0]) rfl (e4.1.trans C0.2.2.2.1.symm) (rest := []) rfl (by rw [C0.2.1]; exact hd) (Nat.le_trans hdd hR.1) (by have := jw_nfw; have := hR.2.1; show 2 * 0 + _ + _ ≤ _; simp only [List.map_nil, List.sum_nil]; omega)
  have ee : copied (vp_cell (o.2.2.1 0) (n0, .inl f)) (vp_cell (o.2.2.1 0) (n1, .inl g)) sp dp n = vp_cell (o.2.2.1 0) (n1, .inl (va_cpy f g sp.toNatClampNeg dp.toNatClampNeg n.toNatClampNeg)) := va_copied (fun z => .int z) (o.2.2.1 0) (o.2.2.1 0) f g h4
  rw [ee] at X' step
  have hl : a < H.size := (Array.getElem?_eq_some_iff.mp hc1).1
  have hheap : ((T.setVm vm').setCell a (vp_cell (o.2.2.1 0) (n1, .inl (va_cpy f g sp.toNatClampNeg dp.toNatClampNeg n.toNatClampNeg)))).heap = H.setIfInBounds a (vp_cell (o.2.2.1 0) (n1, .inl (va_cpy f g sp.toNatClampNeg dp.toNatClampNeg n.toNatClampNeg))) := by rw [← hT]; rfl
  have oq : ∀ q : Nat, q ≠ a → (H.setIfInBounds a (vp_cell (o.2.2.1 0) (n1, .inl (va_cpy f g sp.toNatClampNeg dp.toNatClampNeg n.toNatClampNeg))))[q]? = H[q]? := fun q hq => by simp [Array.getElem?_setIfInBounds, Ne.symm hq]
  obtain ⟨t, a1, b1⟩ := kk (va_up μ a (some (.inl (o.2.2.1 0, n1, .inl (va_cpy f g sp.toNatClampNeg dp.toNatClampNeg n.toNatClampNeg))))) _ (va_up_self _ _ _) (fun q hq => va_up_ne _ _ hq) C0 _ _ ls (by simp [e1]) (e2.put ha1 (show (H.setIfInBounds a _)[a]? = some _ by simp [Array.getElem?_setIfInBounds, hl]) oq) ⟨by simp; exact e3.1, fun q g1 g2 => by
      rw [oq q (fun e => g2 (by rw [e]; exact hlo))]
      exact e3.2.1 q g1 g2, fun q hq => by
      rcases List.mem_append.mp hq with h | h
      · exact e3.2.2 q h
      · obtain ⟨z, -, hz⟩ := List.mem_map.mp h
        rw [← hz]
        exact hlo⟩ e4 _ hheap X'
  exact ⟨t, step t a1, b1⟩
/-- System.arraycopy of places that hold null -/
theorem jw_cpyn {mi : jw_M} {o : jw_O} {k : jw_K} {kc ks pc pc' hs : Nat} {lc : List (Nat × Value)} {μ : jw_Mem} {a0 a idx n0 n1 d mc ms : Nat} {f g : Nat → Option Nat} {sp dp n : Int32} (hR : jw_Rm k d mc ms) (hdd : 1 ≤ d) (hw : Cond.methodLink mi.1.cls idx arraycopyName ∈ jw_T) (hd : decode mi.2.1 pc = .ok (.invokestatic idx, 3)) (ha0 : μ a0 = some (.inl (o.2.2.1 5, n0, .inr (.inr (.inr (.inr f)))))) (ha1 : μ a = some (.inl (o.2.2.1 5, n1, .inr (.inr (.inr (.inr g)))))) (h1 : ¬ sp < 0) (h2 : ¬ dp < 0) (h3 : ¬ n < 0) (h4 : sp.toNatClampNeg + n.toNatClampNeg ≤ n0) (h5 : dp.toNatClampNeg + n.toNatClampNeg ≤ n1) (hel : ∀ i, i < n.toNatClampNeg → f (sp.toNatClampNeg + i) = none) (hp : pc + 3 = pc') (kk : ∀ (μ' : jw_Mem), μ' a = some (.inl (o.2.2.1 5, n1, .inr (.inr (.inr (.inr (va_cpy f g sp.toNatClampNeg dp.toNatClampNeg n.toNatClampNeg)))))) → (∀ q, q ≠ a → μ' q = μ q) → jw_X mi o k kc ks pc' lc [] μ' hs) : jw_X mi o k kc ks pc lc [.int n, .int dp, .ref a, .int sp, .ref a0] μ hs := by
  subst hp
  intro C0 H locs ls e1 e2 e3 e4 T hT X
  have hlo := (e2 a _ ha1).1
  have hc0 : H[a0]? = some (vp_cell (o.2.2.1 5) (n0, .inr (.inr (.inr (.inr f))))) := (e2 a0 _ ha0).2
  have hc1 : H[a]? = some (vp_cell (o.2.2.1 5) (n1, .inr (.inr (.inr (.inr g))))) := (e2 a _ ha1).2
  have ht : (jw_tys o.2.2.1)[5]? = some (o.2.2.1 5, .array .int) := rfl
  obtain ⟨-, k0, hk0, cm0, hkk0⟩ := (C0.hK.2 5 _ ht).1 n0 (fun j => va_rf (f j))
  obtain ⟨-, k1, hk1, cm1, hkk1⟩ := (C0.hK.2 5 _ ht).1 n1 (fun j => va_rf (g j))
  obtain ⟨vm', X', step⟩ := X.arraycopy C0.1 C0.own (C0.ts _ hw) (jw_natc C0) (C0.ts _ jq_1126) (C0.ts _ jq_72) (src := a0) (dst := a) (cs := vp_cell (o.2.2.1 5) (n0, .inr (.inr (.inr (.inr f))))) (cd := vp_cell (o.2.2.1 5) (n1, .inr (.inr (.inr (.inr g))))) (srcPos := sp) (destPos := dp) (n := n) (by rw [hT]; exact hc0) (by rw [hT]; exact hc1)
    (fun _ h => by cases h) (fun _ h => by cases h) (fun h => by cases h) (fun h => by cases h) hk0 hk1 hkk0 hkk1 rfl h1 h2 h3
    (by rw [jw_nn sp h1, jw_nn n h3]; show ¬ _ > ((arrV (o.2.2.1 5) n0 (fun j => va_rf (f j))).slots.size : Int); rw [arrV_size]; omega)
    (by rw [jw_nn dp h2, jw_nn n h3]; show ¬ _ > ((arrV (o.2.2.1 5) n1 (fun j => va_rf (g j))).slots.size : Int); rw [arrV_size]; omega)
    (fun vm₁ _ i hi => by
      have e : (vp_cell (o.2.2.1 5) (n0, .inr (.inr (.inr (.inr f))))).slots.getD (sp.toNatClampNeg + i) .null = va_rf (f (sp.toNatClampNeg + i)) := by
        show (arrV (o.2.2.1 5) n0 (fun j => va_rf (f j))).slots.getD _ _ = _
        rw [Array.getD_eq_getD_getElem?, arrV_read _ _ (by omega)]
        rfl
      rw [e, hel i hi]
      exact ⟨rfl, trivial⟩)
    (g := F0 k.2.2.2.2.1 pc ls [.int n, .int dp, .ref a, .int sp, .ref a0]) rfl (e4.1.trans C0.2.2.2.1.symm) (rest := []) rfl (by rw [C0.2.1]; exact hd) (Nat.le_trans hdd hR.1) (by have := jw_nfw; have := hR.2.1; show 2 * 0 + _ + _ ≤ _; simp only [List.map_nil, List.sum_nil]; omega)
  have ee : copied (vp_cell (o.2.2.1 5) (n0, .inr (.inr (.inr (.inr f))))) (vp_cell (o.2.2.1 5) (n1, .inr (.inr (.inr (.inr g))))) sp dp n = vp_cell (o.2.2.1 5) (n1, .inr (.inr (.inr (.inr (va_cpy f g sp.toNatClampNeg dp.toNatClampNeg n.toNatClampNeg))))) := by
    rw [vp_cell_q, vp_cell_q, vp_cell_q]
    exact va_copied (fun z => va_rf z) (o.2.2.1 5) (o.2.2.1 5) f g h4
  rw [ee] at X' step
  have hl : a < H.size := (Array.getElem?_eq_some_iff.mp hc1).1
  have hheap : ((T.setVm vm').setCell a (vp_cell (o.2.2.1 5) (n1, .inr (.inr (.inr (.inr (va_cpy f g sp.toNatClampNeg dp.toNatClampNeg n.toNatClampNeg))))))).heap = H.setIfInBounds a (vp_cell (o.2.2.1 5) (n1, .inr (.inr (.inr (.inr (va_cpy f g sp.toNatClampNeg dp.toNatClampNeg n.toNatClampNeg)))))) := by rw [← hT]; rfl
  have oq : ∀ q : Nat, q ≠ a → (H.setIfInBounds a (vp_cell (o.2.2.1 5) (n1, .inr (.inr (.inr (.inr (va_cpy f g sp.toNatClampNeg dp.toNatClampNeg n.toNatClampNeg)))))))[q]? = H[q]? := fun q hq => by simp [Array.getElem?_setIfInBounds, Ne.symm hq]
  obtain ⟨t, a1, b1⟩ := kk (va_up μ a (some (.inl (o.2.2.1 5, n1, .inr (.inr (.inr (.inr (va_cpy f g sp.toNatClampNeg dp.toNatClampNeg n.toNatClampNeg)))))))) (va_up_self _ _ _) (fun q hq => va_up_ne _ _ hq) C0 _ _ ls (by simp [e1]) (e2.put ha1 (show (H.setIfInBounds a _)[a]? = some _ by simp [Array.getElem?_setIfInBounds, hl]) oq) ⟨by simp; exact e3.1, fun q g1 g2 => by
      rw [oq q (fun e => g2 (by rw [e]; exact hlo))]
      exact e3.2.1 q g1 g2, fun q hq => by
      rcases List.mem_append.mp hq with h | h
      · exact e3.2.2 q h
      · obtain ⟨z, -, hz⟩ := List.mem_map.mp h
        rw [← hz]
        exact hlo⟩ e4 _ hheap X'
  exact ⟨t, step t a1, b1⟩
theorem bq_At.o {o : jw_O} {μ μ' : jw_Mem} {r a : Nat} {th : Int32} (x : bq_At o μ r th) (q : ∀ q, q ≠ a → μ' q = μ q) (hd : r + 7 ≤ a) : bq_At o μ' r th := x.nw (h := a) (fun z hz => q z (by omega)) hd
section
variable {o : jw_O} {μ : jw_Mem} {hs r : Nat}
theorem br_nearness {th : Int32} (h : bq_At o μ r th) (x0 x1 x2 x3 : Int32) : jr_F mi_BranchworkModel_nearness0 o [.ref r, .int x0, .int x1, .int x2, .int x3] μ hs r 1 0 := by
  refine jw_spec (by decide +kernel) (Nat.le_of_ble_eq_true rfl) rfl (fun k hR hE => ?_)
  have h0 := h.1
  refine jw_aload_n (pc' := 1) jd_BranchworkModel_nearness0_0 rfl rfl rfl ?_
  refine jw_aload_n (pc' := 2) jd_BranchworkModel_nearness0_1 rfl rfl rfl ?_
  refine jw_iload_n (pc' := 3) jd_BranchworkModel_nearness0_2 rfl rfl rfl ?_
  refine jw_callV0 (pc' := 6) hR (bq_isNoCommit h x0) jm_BranchworkModel_isNoCommit jq_1321 jc_BranchworkModel jd_BranchworkModel_nearness0_3 (by assumption) rfl rfl (Nat.le_of_ble_eq_true rfl) (by omega) (by decide) (by omega) (by omega) rfl rfl ?_
  refine jw_if_ne (tgt := 32) (pc' := 9) jd_BranchworkModel_nearness0_6 (by decide) rfl (fun c0 => ?_) (fun c0 => ?_)
  rotate_left
  · exact absurd c0 (by decide)
  refine jw_iconst (pc' := 33) (v := nI 1) jd_BranchworkModel_nearness0_32 (by decide +kernel) rfl ?_
  refine jw_goto (tgt := 37) jd_BranchworkModel_nearness0_33 (by decide) ?_
  refine jw_iconst (pc' := 38) (v := nI 1) jd_BranchworkModel_nearness0_37 (by decide +kernel) rfl ?_
  refine jw_callV (pc' := 41) hR (bq_start1 h (w := 1) (by omega) (by omega)) jm_BranchworkModel_start jq_1166 jc_BranchworkModel jd_BranchworkModel_nearness0_38 (by assumption) rfl rfl (Nat.le_of_ble_eq_true rfl) (by omega) (by decide) (by omega) (by omega) rfl (fun v μ s9 q9 hle => ?_)
  obtain ⟨rfl, rfl, h, f8⟩ := q9
  refine jw_if_eq (tgt := 46) (pc' := 44) jd_BranchworkModel_nearness0_41 (by decide) rfl (fun c => ?_) (fun c => ?_)
  · exact absurd c (by decide)
  refine jw_iconst (pc' := 45) (v := nI 0) jd_BranchworkModel_nearness0_44 (by decide +kernel) rfl ?_
  refine jw_iret hE jd_BranchworkModel_nearness0_45 rfl (by omega) (by omega) ?_
  exact ⟨⟨_, rfl, fun z => absurd z (by decide)⟩, ⟨_, h.1⟩, fun q z _ => f8 q (by omega)⟩
theorem br_reached {th : Int32} (h : bq_At o μ r th) (hr : r + 7 ≤ hs) : jw_Spec mi_BranchworkModel_reached 3 1 30 o [.ref r] μ hs (fun v μ' s' => v = some (.ref hs) ∧ s' = hs + 1 ∧ jw_Nw μ μ' hs) := by
  refine jw_spec (by decide +kernel) (Nat.le_of_ble_eq_true rfl) rfl (fun k hR hE => ?_)
  refine jw_bipush (pc' := 2) (v := nI 30) jd_BranchworkModel_reached_0 (by decide +kernel) rfl ?_
  refine jw_newa (pc' := 4) (N := 30) (i := 1) (a0 := (30, .inl (fun _ => 0))) (ty := .boolean) (atype := .boolean) hR jq_273 rfl rfl jd_BranchworkModel_reached_2 (fun _ => rfl) (by decide +kernel) (by decide +kernel) (by decide +kernel) (by omega) (by omega) rfl (fun μ h1 f9 => ?_)
  refine jw_astore_n (pc' := 5) (lc' := [(0, _), (1, _)]) jd_BranchworkModel_reached_4 rfl (Nat.le_of_ble_eq_true rfl) ⟨rfl, rfl, trivial⟩ rfl ?_
  refine jw_iconst (pc' := 6) (v := nI 0) jd_BranchworkModel_reached_5 (by decide +kernel) rfl ?_
  refine jw_istore_n (pc' := 7) (lc' := [(0, _), (1, _), (2, _)]) jd_BranchworkModel_reached_6 rfl (Nat.le_of_ble_eq_true rfl) ⟨rfl, rfl, rfl, trivial⟩ rfl ?_
  have n9 : jw_Nw _ μ hs := fun q hq => f9 q (by omega)
  have h := h.o f9 hr
  have h0 := h.1
  have hB := h.2.2.1
  obtain ⟨c1, hB0⟩ := hB.raw
  obtain ⟨f, h6, hf⟩ := h.2.2.2.2.2
  refine jw_iload_n (pc' := 8) jd_BranchworkModel_reached_7 rfl rfl rfl ?_
  refine jw_aload_n (pc' := 9) jd_BranchworkModel_reached_8 rfl rfl rfl ?_
  refine jw_get (pc' := 12) (kf := 2) jc_BranchworkModel (by decide) jq_1132 jd_BranchworkModel_reached_9 (by assumption) rfl rfl ?_
  refine jw_callV0 (pc' := 15) hR (bl_size hB) jm_ArrayList_size jq_1255 jc_ArrayList jd_BranchworkModel_reached_12 (by assumption) rfl rfl (Nat.le_of_ble_eq_true rfl) (by omega) (by decide) (by omega) (by omega) rfl rfl ?_
  refine jw_icmp_ge (tgt := 50) (pc' := 18) jd_BranchworkModel_reached_15 (by decide) rfl (fun c => ?_) (fun c => ?_)
  · exact absurd c (by decide)
  refine jw_aload_n (pc' := 19) jd_BranchworkModel_reached_18 rfl rfl rfl ?_
  refine jw_get (pc' := 22) (kf := 2) jc_BranchworkModel (by decide) jq_1132 jd_BranchworkModel_reached_19 (by assumption) rfl rfl ?_
  refine jw_iload_n (pc' := 23) jd_BranchworkModel_reached_22 rfl rfl rfl ?_
  refine jw_callV0 (pc' := 26) hR (bl_get (i := 0) hB h6 (by omega) (by omega) (by omega) hf) jm_ArrayList_get jq_1233 jc_ArrayList jd_BranchworkModel_reached_23 (by assumption) rfl rfl (Nat.le_of_ble_eq_true rfl) (by omega) (by decide) (by omega) (by omega) rfl rfl ?_
  refine jw_ifnullN (tgt := 44) jd_BranchworkModel_reached_26 (by decide) ?_
  refine jw_iinc (pc' := 47) (lc' := [(0, _), (1, _), (2, _)]) jd_BranchworkModel_reached_44 rfl rfl (Nat.le_of_ble_eq_true rfl) ⟨rfl, rfl, rfl, trivial⟩ rfl ?_
  refine jw_goto (tgt := 7) jd_BranchworkModel_reached_47 (by decide) ?_
  refine jw_iload_n (pc' := 8) jd_BranchworkModel_reached_7 rfl rfl rfl ?_
  refine jw_aload_n (pc' := 9) jd_BranchworkModel_reached_8 rfl rfl rfl ?_
  refine jw_get (pc' := 12) (kf := 2) jc_BranchworkModel (by decide) jq_1132 jd_BranchworkModel_reached_9 (by assumption) rfl rfl ?_
  refine jw_callV0 (pc' := 15) hR (bl_size hB) jm_ArrayList_size jq_1255 jc_ArrayList jd_BranchworkModel_reached_12 (by assumption) rfl rfl (Nat.le_of_ble_eq_true rfl) (by omega) (by decide) (by omega) (by omega) rfl rfl ?_
  refine jw_icmp_ge (tgt := 50) (pc' := 18) jd_BranchworkModel_reached_15 (by decide) rfl (fun c2 => ?_) (fun c2 => ?_)
  rotate_left
  · exact absurd (by decide) c2
  refine jw_aload_n (pc' := 51) jd_BranchworkModel_reached_50 rfl rfl rfl ?_
  refine jw_get (pc' := 54) (kf := 5) jc_BranchworkModel (by decide) jq_1135 jd_BranchworkModel_reached_51 (by assumption) rfl rfl ?_
  refine jw_ifnullN (tgt := 65) jd_BranchworkModel_reached_54 (by decide) ?_
  refine jw_aload_n (pc' := 66) jd_BranchworkModel_reached_65 rfl rfl rfl ?_
  refine jw_aret hE jd_BranchworkModel_reached_66 rfl (by first | exact Or.inl ⟨_, rfl⟩ | exact Or.inr ⟨_, rfl⟩) (by first | exact Or.inr ⟨_, rfl⟩ | exact Or.inl rfl) (by omega) (by omega) ?_
  exact ⟨rfl, rfl, n9⟩
theorem br_trees {th : Int32} (h : bq_At o μ r th) (hr : r + 7 ≤ hs) (z : Int32) : jw_Spec mi_BranchworkModel_trees 4 2 33 o [.ref r, .int z] μ hs (fun v μ' s' => v = some (.ref hs) ∧ s' = hs + 2 ∧ bl_At μ' hs o.2.2.2.2 0 ∧ jw_Nw μ μ' hs) := by
  refine jw_spec (by decide +kernel) (Nat.le_of_ble_eq_true rfl) rfl (fun k hR hE => ?_)
  refine jw_new (pc' := 3) (fs := [.int 0, .null, .int 0]) hR jc_ArrayList jq_1029 jq_1030 jq_68 jd_BranchworkModel_trees_0 (by decide +kernel) (by omega) (by omega) rfl (fun μ h1 f9 => ?_)
  refine jw_dup (pc' := 4) jd_BranchworkModel_trees_3 rfl rfl ?_
  refine jw_callI (pc' := 7) hR (bl_init h1) jm_ArrayList_init jq_1031 jd_BranchworkModel_trees_4 rfl rfl (Nat.le_of_ble_eq_true rfl) (by omega) (by decide) (by omega) (by omega) rfl (fun v μ s9 q9 hle => ?_)
  obtain ⟨rfl, rfl, hL, f8⟩ := q9
  have n8 : jw_Nw _ μ hs := fun q hq => (f8 q (by omega)).trans (f9 q (by omega))
  have h := h.nw n8 hr
  have h0 := h.1
  refine jw_astore_n (pc' := 8) (lc' := [(0, _), (1, _), (2, _)]) jd_BranchworkModel_trees_7 rfl (Nat.le_of_ble_eq_true rfl) ⟨rfl, rfl, rfl, trivial⟩ rfl ?_
  refine jw_aload_n (pc' := 9) jd_BranchworkModel_trees_8 rfl rfl rfl ?_
  refine jw_callV (pc' := 12) hR (br_reached h (by omega)) jm_BranchworkModel_reached jq_1478 jc_BranchworkModel jd_BranchworkModel_trees_9 (by assumption) rfl rfl (Nat.le_of_ble_eq_true rfl) (by omega) (by decide) (by omega) (by omega) rfl (fun v μ s9 q9 hle => ?_)
  obtain ⟨rfl, rfl, f7⟩ := q9
  have n7 : jw_Nw _ μ hs := fun q hq => (f7 q (by omega)).trans (n8 q hq)
  have h := h.nw f7 (by omega)
  have hL := hL.nw f7 (by omega)
  have h0 := h.1
  have hA := h.2.1
  obtain ⟨a9, hA0⟩ := hA.raw
  refine jw_astore_n (pc' := 13) (lc' := [(0, _), (1, _), (2, _), (3, _)]) jd_BranchworkModel_trees_12 rfl (Nat.le_of_ble_eq_true rfl) ⟨rfl, rfl, rfl, rfl, trivial⟩ rfl ?_
  refine jw_iconst (pc' := 14) (v := nI 0) jd_BranchworkModel_trees_13 (by decide +kernel) rfl ?_
  refine jw_istore (pc' := 16) (lc' := [(0, _), (1, _), (2, _), (3, _), (4, _)]) jd_BranchworkModel_trees_14 (Nat.le_of_ble_eq_true rfl) ⟨rfl, rfl, rfl, rfl, rfl, trivial⟩ rfl ?_
  refine jw_iload (pc' := 18) jd_BranchworkModel_trees_16 rfl rfl ?_
  refine jw_aload_n (pc' := 19) jd_BranchworkModel_trees_18 rfl rfl rfl ?_
  refine jw_get (pc' := 22) (kf := 1) jc_BranchworkModel (by decide) jq_1131 jd_BranchworkModel_trees_19 (by assumption) rfl rfl ?_
  refine jw_callV0 (pc' := 25) hR (bl_size hA) jm_ArrayList_size jq_1255 jc_ArrayList jd_BranchworkModel_trees_22 (by assumption) rfl rfl (Nat.le_of_ble_eq_true rfl) (by omega) (by decide) (by omega) (by omega) rfl rfl ?_
  refine jw_icmp_ge (tgt := 137) (pc' := 28) jd_BranchworkModel_trees_25 (by decide) rfl (fun c => ?_) (fun c => ?_)
  rotate_left
  · exact absurd (by decide) c
  refine jw_aload_n (pc' := 138) jd_BranchworkModel_trees_137 rfl rfl rfl ?_
  refine jw_aret hE jd_BranchworkModel_trees_138 rfl (by first | exact Or.inl ⟨_, rfl⟩ | exact Or.inr ⟨_, rfl⟩) (by first | exact Or.inr ⟨_, rfl⟩ | exact Or.inl rfl) (by omega) (by omega) ?_
  exact ⟨rfl, rfl, hL, n7⟩
theorem br_contents {l : Nat} (h : bl_At μ l o.2.2.2.2 0) (hl : l < hs) : jw_Spec mi_BranchworkModel_contents 4 1 3 o [.ref l] μ hs (fun v μ' s' => v = some (.ref hs) ∧ s' = hs + 1 ∧ bl_At μ' hs o.2.2.2.2 0 ∧ jw_Nw μ μ' hs) := by
  refine jw_spec (by decide +kernel) (Nat.le_of_ble_eq_true rfl) rfl (fun k hR hE => ?_)
  refine jw_new (pc' := 3) (fs := [.int 0, .null, .int 0]) hR jc_ArrayList jq_1029 jq_1030 jq_68 jd_BranchworkModel_contents_0 (by decide +kernel) (by omega) (by omega) rfl (fun μ h1 f9 => ?_)
  refine jw_dup (pc' := 4) jd_BranchworkModel_contents_3 rfl rfl ?_
  refine jw_callI (pc' := 7) hR (bl_init h1) jm_ArrayList_init jq_1031 jd_BranchworkModel_contents_4 rfl rfl (Nat.le_of_ble_eq_true rfl) (by omega) (by decide) (by omega) (by omega) rfl (fun v μ s9 q9 hle => ?_)
  obtain ⟨rfl, rfl, hL, f8⟩ := q9
  have n8 : jw_Nw _ μ hs := fun q hq => (f8 q (by omega)).trans (f9 q (by omega))
  have h := h.nw n8 hl
  obtain ⟨c9, h0⟩ := h.raw
  refine jw_astore_n (pc' := 8) (lc' := [(0, _), (1, _)]) jd_BranchworkModel_contents_7 rfl (Nat.le_of_ble_eq_true rfl) ⟨rfl, rfl, trivial⟩ rfl ?_
  refine jw_iconst (pc' := 9) (v := nI 0) jd_BranchworkModel_contents_8 (by decide +kernel) rfl ?_
  refine jw_istore_n (pc' := 10) (lc' := [(0, _), (1, _), (2, _)]) jd_BranchworkModel_contents_9 rfl (Nat.le_of_ble_eq_true rfl) ⟨rfl, rfl, rfl, trivial⟩ rfl ?_
  refine jw_iload_n (pc' := 11) jd_BranchworkModel_contents_10 rfl rfl rfl ?_
  refine jw_aload_n (pc' := 12) jd_BranchworkModel_contents_11 rfl rfl rfl ?_
  refine jw_callV0 (pc' := 15) hR (bl_size h) jm_ArrayList_size jq_1255 jc_ArrayList jd_BranchworkModel_contents_12 (by assumption) rfl rfl (Nat.le_of_ble_eq_true rfl) (by omega) (by decide) (by omega) (by omega) rfl rfl ?_
  refine jw_icmp_ge (tgt := 122) (pc' := 18) jd_BranchworkModel_contents_15 (by decide) rfl (fun c => ?_) (fun c => ?_)
  rotate_left
  · exact absurd (by decide) c
  refine jw_aload_n (pc' := 123) jd_BranchworkModel_contents_122 rfl rfl rfl ?_
  refine jw_aret hE jd_BranchworkModel_contents_123 rfl (by first | exact Or.inl ⟨_, rfl⟩ | exact Or.inr ⟨_, rfl⟩) (by first | exact Or.inr ⟨_, rfl⟩ | exact Or.inl rfl) (by omega) (by omega) ?_
  exact ⟨rfl, rfl, hL, n8⟩
theorem br_commitsNow {th : Int32} (h : bq_At o μ r th) (hr : r + 7 ≤ hs) (z : Int32) : jw_Spec mi_BranchworkModel_commitsNow 4 1 30 o [.ref r, .int z] μ hs (fun v μ' s' => v = some (.int (nI 0)) ∧ s' = hs + 1 ∧ jw_Nw μ μ' hs) := by
  refine jw_spec (by decide +kernel) (Nat.le_of_ble_eq_true rfl) rfl (fun k hR hE => ?_)
  have h0 := h.1
  refine jw_aload_n (pc' := 1) jd_BranchworkModel_commitsNow_0 rfl rfl rfl ?_
  refine jw_callV (pc' := 4) hR (br_reached h hr) jm_BranchworkModel_reached jq_1478 jc_BranchworkModel jd_BranchworkModel_commitsNow_1 (by assumption) rfl rfl (Nat.le_of_ble_eq_true rfl) (by omega) (by decide) (by omega) (by omega) rfl (fun v μ s9 q9 hle => ?_)
  obtain ⟨rfl, rfl, f7⟩ := q9
  have h := h.nw f7 hr
  have h0 := h.1
  have hA := h.2.1
  obtain ⟨a9, hA0⟩ := hA.raw
  refine jw_astore_n (pc' := 5) (lc' := [(0, _), (1, _), (2, _)]) jd_BranchworkModel_commitsNow_4 rfl (Nat.le_of_ble_eq_true rfl) ⟨rfl, rfl, rfl, trivial⟩ rfl ?_
  refine jw_iconst (pc' := 6) (v := nI 0) jd_BranchworkModel_commitsNow_5 (by decide +kernel) rfl ?_
  refine jw_istore_n (pc' := 7) (lc' := [(0, _), (1, _), (2, _), (3, _)]) jd_BranchworkModel_commitsNow_6 rfl (Nat.le_of_ble_eq_true rfl) ⟨rfl, rfl, rfl, rfl, trivial⟩ rfl ?_
  refine jw_iconst (pc' := 8) (v := nI 0) jd_BranchworkModel_commitsNow_7 (by decide +kernel) rfl ?_
  refine jw_istore (pc' := 10) (lc' := [(0, _), (1, _), (2, _), (3, _), (4, _)]) jd_BranchworkModel_commitsNow_8 (Nat.le_of_ble_eq_true rfl) ⟨rfl, rfl, rfl, rfl, rfl, trivial⟩ rfl ?_
  refine jw_iload (pc' := 12) jd_BranchworkModel_commitsNow_10 rfl rfl ?_
  refine jw_aload_n (pc' := 13) jd_BranchworkModel_commitsNow_12 rfl rfl rfl ?_
  refine jw_get (pc' := 16) (kf := 1) jc_BranchworkModel (by decide) jq_1131 jd_BranchworkModel_commitsNow_13 (by assumption) rfl rfl ?_
  refine jw_callV0 (pc' := 19) hR (bl_size hA) jm_ArrayList_size jq_1255 jc_ArrayList jd_BranchworkModel_commitsNow_16 (by assumption) rfl rfl (Nat.le_of_ble_eq_true rfl) (by omega) (by decide) (by omega) (by omega) rfl rfl ?_
  refine jw_icmp_ge (tgt := 65) (pc' := 22) jd_BranchworkModel_commitsNow_19 (by decide) rfl (fun c => ?_) (fun c => ?_)
  rotate_left
  · exact absurd (by decide) c
  refine jw_iload_n (pc' := 66) jd_BranchworkModel_commitsNow_65 rfl rfl rfl ?_
  refine jw_iret hE jd_BranchworkModel_commitsNow_66 rfl (by omega) (by omega) ?_
  exact ⟨rfl, rfl, f7⟩
theorem br_objects {th : Int32} (h : bq_At o μ r th) (hr : r + 7 ≤ hs) (z : Int32) : jw_Spec mi_BranchworkModel_objects 5 4 66 o [.ref r, .int z] μ hs (fun v μ' s' => v = some (.int (nI 0)) ∧ s' = hs + 4 ∧ jw_Nw μ μ' hs) := by
  refine jw_spec (by decide +kernel) (Nat.le_of_ble_eq_true rfl) rfl (fun k hR hE => ?_)
  have h0 := h.1
  refine jw_aload_n (pc' := 1) jd_BranchworkModel_objects_0 rfl rfl rfl ?_
  refine jw_iload_n (pc' := 2) jd_BranchworkModel_objects_1 rfl rfl rfl ?_
  refine jw_callV (pc' := 5) hR (br_trees h hr z) jm_BranchworkModel_trees jq_1474 jc_BranchworkModel jd_BranchworkModel_objects_2 (by assumption) rfl rfl (Nat.le_of_ble_eq_true rfl) (by omega) (by decide) (by omega) (by omega) rfl (fun v μ s9 q9 hle => ?_)
  obtain ⟨rfl, rfl, hL, f8⟩ := q9
  have h := h.nw f8 hr
  have h0 := h.1
  refine jw_astore_n (pc' := 6) (lc' := [(0, _), (1, _), (2, _)]) jd_BranchworkModel_objects_5 rfl (Nat.le_of_ble_eq_true rfl) ⟨rfl, rfl, rfl, trivial⟩ rfl ?_
  refine jw_aload_n (pc' := 7) jd_BranchworkModel_objects_6 rfl rfl rfl ?_
  refine jw_iload_n (pc' := 8) jd_BranchworkModel_objects_7 rfl rfl rfl ?_
  refine jw_callV (pc' := 11) hR (br_commitsNow h (by omega) z) jm_BranchworkModel_commitsNow jq_1483 jc_BranchworkModel jd_BranchworkModel_objects_8 (by assumption) rfl rfl (Nat.le_of_ble_eq_true rfl) (by omega) (by decide) (by omega) (by omega) rfl (fun v μ s9 q9 hle => ?_)
  obtain ⟨rfl, rfl, f7⟩ := q9
  have hL := hL.nw f7 (by omega)
  obtain ⟨c1, hL0⟩ := hL.raw
  refine jw_aload_n (pc' := 12) jd_BranchworkModel_objects_11 rfl rfl rfl ?_
  refine jw_callV0 (pc' := 15) hR (bl_size hL) jm_ArrayList_size jq_1255 jc_ArrayList jd_BranchworkModel_objects_12 (by assumption) rfl rfl (Nat.le_of_ble_eq_true rfl) (by omega) (by decide) (by omega) (by omega) rfl rfl ?_
  refine jw_iadd (pc' := 16) jd_BranchworkModel_objects_15 (by decide +kernel : (nI 0 : Int32) + nI 0 = nI 0) rfl ?_
  refine jw_aload_n (pc' := 17) jd_BranchworkModel_objects_16 rfl rfl rfl ?_
  refine jw_callS (pc' := 20) hR (br_contents hL (by omega)) jm_BranchworkModel_contents jq_1487 jd_BranchworkModel_objects_17 rfl rfl (Nat.le_of_ble_eq_true rfl) (by omega) (by decide) (by omega) (by omega) rfl (fun v μ s9 q9 hle => ?_)
  obtain ⟨rfl, rfl, hM, f6⟩ := q9
  obtain ⟨c2, hM0⟩ := hM.raw
  refine jw_callV0 (pc' := 23) hR (bl_size hM) jm_ArrayList_size jq_1255 jc_ArrayList jd_BranchworkModel_objects_20 (by assumption) rfl rfl (Nat.le_of_ble_eq_true rfl) (by omega) (by decide) (by omega) (by omega) rfl rfl ?_
  refine jw_iadd (pc' := 24) jd_BranchworkModel_objects_23 (by decide +kernel : (nI 0 : Int32) + nI 0 = nI 0) rfl ?_
  refine jw_iret hE jd_BranchworkModel_objects_24 rfl (by omega) (by omega) ?_
  exact ⟨rfl, rfl, fun q hq => (f6 q (by omega)).trans ((f7 q (by omega)).trans (f8 q hq))⟩
theorem br_garbageNow {th : Int32} (h : bq_At o μ r th) (hr : r + 7 ≤ hs) : jw_Spec mi_BranchworkModel_garbageNow 6 8 132 o [.ref r] μ hs (fun v μ' s' => v = some (.int (nI 0)) ∧ s' = hs + 8 ∧ jw_Nw μ μ' hs) := by
  refine jw_spec (by decide +kernel) (Nat.le_of_ble_eq_true rfl) rfl (fun k hR hE => ?_)
  have h0 := h.1
  refine jw_aload_n (pc' := 1) jd_BranchworkModel_garbageNow_0 rfl rfl rfl ?_
  refine jw_iconst (pc' := 2) (v := nI 0) jd_BranchworkModel_garbageNow_1 (by decide +kernel) rfl ?_
  refine jw_callV (pc' := 5) hR (br_objects h hr _) jm_BranchworkModel_objects jq_1470 jc_BranchworkModel jd_BranchworkModel_garbageNow_2 (by assumption) rfl rfl (Nat.le_of_ble_eq_true rfl) (by omega) (by decide) (by omega) (by omega) rfl (fun v μ s9 q9 hle => ?_)
  obtain ⟨rfl, rfl, f8⟩ := q9
  have h := h.nw f8 hr
  have h0 := h.1
  refine jw_aload_n (pc' := 6) jd_BranchworkModel_garbageNow_5 rfl rfl rfl ?_
  refine jw_iconst (pc' := 7) (v := nI 1) jd_BranchworkModel_garbageNow_6 (by decide +kernel) rfl ?_
  refine jw_callV (pc' := 10) hR (br_objects h (by omega) _) jm_BranchworkModel_objects jq_1470 jc_BranchworkModel jd_BranchworkModel_garbageNow_7 (by assumption) rfl rfl (Nat.le_of_ble_eq_true rfl) (by omega) (by decide) (by omega) (by omega) rfl (fun v μ s9 q9 hle => ?_)
  obtain ⟨rfl, rfl, f7⟩ := q9
  refine jw_isub (pc' := 11) jd_BranchworkModel_garbageNow_10 (by decide +kernel : (nI 0 : Int32) - nI 0 = nI 0) rfl ?_
  refine jw_iret hE jd_BranchworkModel_garbageNow_11 rfl (by omega) (by omega) ?_
  exact ⟨rfl, rfl, fun q hq => (f7 q (by omega)).trans (f8 q hq)⟩
theorem br_collect {th : Int32} (h : bq_At o μ r th) (hr : r + 7 ≤ hs) : jr_F mi_BranchworkModel_collect o [.ref r] μ hs r 0 0 := by
  refine jw_spec (by decide +kernel) (Nat.le_of_ble_eq_true rfl) rfl (fun k hR hE => ?_)
  obtain ⟨t0, ht0⟩ : ∃ x : List Value, x = [.int th, .ref (r + 1), .ref (r + 2), .int 0, .ref (r + 3), .null, .ref (r + 5)] := ⟨_, rfl⟩
  have h0 := h.1
  refine jw_aload_n (pc' := 1) jd_BranchworkModel_collect_0 rfl rfl rfl ?_
  refine jw_iconst (pc' := 2) (v := nI 0) jd_BranchworkModel_collect_1 (by decide +kernel) rfl ?_
  refine jw_put (pc' := 5) (kf := 0) (ty := .int) (fs' := [_, _, _, _, _, _, _]) jc_BranchworkModel (by decide) jq_1130 jd_BranchworkModel_collect_2 rfl (by decide +kernel) (by assumption) rfl rfl rfl (Nat.le_of_ble_eq_true rfl) rfl (fun μ h0 f9 => ?_)
  refine jw_aload_n (pc' := 6) jd_BranchworkModel_collect_5 rfl rfl rfl ?_
  have h := h.th (jw_Fr.o f9) h0
  have f5 := f9
  refine jw_callV (pc' := 9) hR (br_garbageNow h hr) jm_BranchworkModel_garbageNow jq_1466 jc_BranchworkModel jd_BranchworkModel_collect_6 (by assumption) rfl rfl (Nat.le_of_ble_eq_true rfl) (by omega) (by decide) (by omega) (by omega) rfl (fun v μ s9 q9 hle => ?_)
  obtain ⟨rfl, rfl, f8⟩ := q9
  have h := h.nw f8 hr
  have h0 := h.1
  refine jw_istore_n (pc' := 10) (lc' := [(0, _), (1, _)]) jd_BranchworkModel_collect_9 rfl (Nat.le_of_ble_eq_true rfl) ⟨rfl, rfl, trivial⟩ rfl ?_
  refine jw_aload_n (pc' := 11) jd_BranchworkModel_collect_10 rfl rfl rfl ?_
  refine jw_callV (pc' := 14) hR (br_reached h (by omega)) jm_BranchworkModel_reached jq_1478 jc_BranchworkModel jd_BranchworkModel_collect_11 (by assumption) rfl rfl (Nat.le_of_ble_eq_true rfl) (by omega) (by decide) (by omega) (by omega) rfl (fun v μ s9 q9 hle => ?_)
  obtain ⟨rfl, rfl, f7⟩ := q9
  have h := h.nw f7 (by omega)
  have h0 := h.1
  have hA := h.2.1
  obtain ⟨a9, hA0⟩ := hA.raw
  refine jw_astore_n (pc' := 15) (lc' := [(0, _), (1, _), (2, _)]) jd_BranchworkModel_collect_14 rfl (Nat.le_of_ble_eq_true rfl) ⟨rfl, rfl, rfl, trivial⟩ rfl ?_
  refine jw_iconst (pc' := 16) (v := nI 0) jd_BranchworkModel_collect_15 (by decide +kernel) rfl ?_
  refine jw_istore_n (pc' := 17) (lc' := [(0, _), (1, _), (2, _), (3, _)]) jd_BranchworkModel_collect_16 rfl (Nat.le_of_ble_eq_true rfl) ⟨rfl, rfl, rfl, rfl, trivial⟩ rfl ?_
  refine jw_iload_n (pc' := 18) jd_BranchworkModel_collect_17 rfl rfl rfl ?_
  refine jw_aload_n (pc' := 19) jd_BranchworkModel_collect_18 rfl rfl rfl ?_
  refine jw_get (pc' := 22) (kf := 1) jc_BranchworkModel (by decide) jq_1131 jd_BranchworkModel_collect_19 (by assumption) rfl rfl ?_
  refine jw_callV0 (pc' := 25) hR (bl_size hA) jm_ArrayList_size jq_1255 jc_ArrayList jd_BranchworkModel_collect_22 (by assumption) rfl rfl (Nat.le_of_ble_eq_true rfl) (by omega) (by decide) (by omega) (by omega) rfl rfl ?_
  refine jw_icmp_ge (tgt := 64) (pc' := 28) jd_BranchworkModel_collect_25 (by decide) rfl (fun c => ?_) (fun c => ?_)
  rotate_left
  · exact absurd (by decide) c
  refine jw_iload_n (pc' := 65) jd_BranchworkModel_collect_64 rfl rfl rfl ?_
  refine jw_iret hE jd_BranchworkModel_collect_65 rfl (by omega) (by omega) ?_
  exact ⟨⟨_, rfl, fun _ => rfl⟩, ⟨_, h.1⟩, fun q z z2 => (f7 q (by omega)).trans ((f8 q (by omega)).trans (f5 q (by omega)))⟩
theorem br_garbage {th : Int32} (h : bq_At o μ r th) (hr : r + 7 ≤ hs) : jr_F mi_BranchworkModel_garbage o [.ref r] μ hs r 0 0 := by
  refine jw_spec (by decide +kernel) (Nat.le_of_ble_eq_true rfl) rfl (fun k hR hE => ?_)
  have h0 := h.1
  refine jw_aload_n (pc' := 1) jd_BranchworkModel_garbage_0 rfl rfl rfl ?_
  refine jw_iconst (pc' := 2) (v := nI 0) jd_BranchworkModel_garbage_1 (by decide +kernel) rfl ?_
  refine jw_put (pc' := 5) (kf := 0) (ty := .int) (fs' := [_, _, _, _, _, _, _]) jc_BranchworkModel (by decide) jq_1130 jd_BranchworkModel_garbage_2 rfl (by decide +kernel) (by assumption) rfl rfl rfl (Nat.le_of_ble_eq_true rfl) rfl (fun μ h0 f9 => ?_)
  refine jw_aload_n (pc' := 6) jd_BranchworkModel_garbage_5 rfl rfl rfl ?_
  have h := h.th (jw_Fr.o f9) h0
  refine jw_callV (pc' := 9) hR (br_garbageNow h hr) jm_BranchworkModel_garbageNow jq_1466 jc_BranchworkModel jd_BranchworkModel_garbage_6 (by assumption) rfl rfl (Nat.le_of_ble_eq_true rfl) (by omega) (by decide) (by omega) (by omega) rfl (fun v μ s9 q9 hle => ?_)
  obtain ⟨rfl, rfl, f8⟩ := q9
  have h := h.nw f8 hr
  refine jw_iret hE jd_BranchworkModel_garbage_9 rfl (by omega) (by omega) ?_
  exact ⟨⟨_, rfl, fun _ => rfl⟩, ⟨_, h.1⟩, fun q z z2 => (f8 q (by omega)).trans (f9 q (by omega))⟩
theorem br_meanLines {th : Int32} (h : bq_At o μ r th) (hr : r + 7 ≤ hs) : jw_Spec mi_BranchworkModel_meanLines 5 3 36 o [.ref r] μ hs (fun v μ' s' => v = some (.double FP.dconst0) ∧ (∃ c', μ' r = some (.inr (9, .int (nI 0) :: c'))) ∧ ∀ q, (q < r ∨ r + 7 ≤ q) → q < hs → μ' q = μ q) := by
  refine jw_spec (by decide +kernel) (Nat.le_of_ble_eq_true rfl) rfl (fun k hR hE => ?_)
  have h0 := h.1
  refine jw_aload_n (pc' := 1) jd_BranchworkModel_meanLines_0 rfl rfl rfl ?_
  refine jw_iconst (pc' := 2) (v := nI 0) jd_BranchworkModel_meanLines_1 (by decide +kernel) rfl ?_
  refine jw_put (pc' := 5) (kf := 0) (ty := .int) (fs' := [_, _, _, _, _, _, _]) jc_BranchworkModel (by decide) jq_1130 jd_BranchworkModel_meanLines_2 rfl (by decide +kernel) (by assumption) rfl rfl rfl (Nat.le_of_ble_eq_true rfl) rfl (fun μ h0 f9 => ?_)
  refine jw_aload_n (pc' := 6) jd_BranchworkModel_meanLines_5 rfl rfl rfl ?_
  refine jw_iconst (pc' := 7) (v := nI 0) jd_BranchworkModel_meanLines_6 (by decide +kernel) rfl ?_
  have h := h.th (jw_Fr.o f9) h0
  have f5 := f9
  refine jw_callV (pc' := 10) hR (br_trees h hr _) jm_BranchworkModel_trees jq_1474 jc_BranchworkModel jd_BranchworkModel_meanLines_7 (by assumption) rfl rfl (Nat.le_of_ble_eq_true rfl) (by omega) (by decide) (by omega) (by omega) rfl (fun v μ s9 q9 hle => ?_)
  obtain ⟨rfl, rfl, hL, f8⟩ := q9
  have h := h.nw f8 hr
  obtain ⟨c1, hL0⟩ := hL.raw
  refine jw_callS (pc' := 13) hR (br_contents hL (by omega)) jm_BranchworkModel_contents jq_1487 jd_BranchworkModel_meanLines_10 rfl rfl (Nat.le_of_ble_eq_true rfl) (by omega) (by decide) (by omega) (by omega) rfl (fun v μ s9 q9 hle => ?_)
  obtain ⟨rfl, rfl, hM, f7⟩ := q9
  have h := h.nw f7 (by omega)
  obtain ⟨c2, hM0⟩ := hM.raw
  refine jw_astore_n (pc' := 14) (lc' := [(0, _), (1, _)]) jd_BranchworkModel_meanLines_13 rfl (Nat.le_of_ble_eq_true rfl) ⟨rfl, rfl, trivial⟩ rfl ?_
  refine jw_iconst (pc' := 15) (v := nI 0) jd_BranchworkModel_meanLines_14 (by decide +kernel) rfl ?_
  refine jw_istore_n (pc' := 16) (lc' := [(0, _), (1, _), (2, _)]) jd_BranchworkModel_meanLines_15 rfl (Nat.le_of_ble_eq_true rfl) ⟨rfl, rfl, rfl, trivial⟩ rfl ?_
  refine jw_iconst (pc' := 17) (v := nI 0) jd_BranchworkModel_meanLines_16 (by decide +kernel) rfl ?_
  refine jw_istore_n (pc' := 18) (lc' := [(0, _), (1, _), (2, _), (3, _)]) jd_BranchworkModel_meanLines_17 rfl (Nat.le_of_ble_eq_true rfl) ⟨rfl, rfl, rfl, rfl, trivial⟩ rfl ?_
  refine jw_iload_n (pc' := 19) jd_BranchworkModel_meanLines_18 rfl rfl rfl ?_
  refine jw_aload_n (pc' := 20) jd_BranchworkModel_meanLines_19 rfl rfl rfl ?_
  refine jw_callV0 (pc' := 23) hR (bl_size hM) jm_ArrayList_size jq_1255 jc_ArrayList jd_BranchworkModel_meanLines_20 (by assumption) rfl rfl (Nat.le_of_ble_eq_true rfl) (by omega) (by decide) (by omega) (by omega) rfl rfl ?_
  refine jw_icmp_ge (tgt := 44) (pc' := 26) jd_BranchworkModel_meanLines_23 (by decide) rfl (fun c => ?_) (fun c => ?_)
  rotate_left
  · exact absurd (by decide) c
  refine jw_aload_n (pc' := 45) jd_BranchworkModel_meanLines_44 rfl rfl rfl ?_
  refine jw_callV0 (pc' := 48) hR (bl_isEmpty hM) jm_ArrayList_isEmpty jq_1259 jc_ArrayList jd_BranchworkModel_meanLines_45 (by assumption) rfl rfl (Nat.le_of_ble_eq_true rfl) (by omega) (by decide) (by omega) (by omega) rfl rfl ?_
  refine jw_if_eq (tgt := 55) (pc' := 51) jd_BranchworkModel_meanLines_48 (by decide) rfl (fun c3 => ?_) (fun c3 => ?_)
  · exact absurd c3 (by decide)
  refine jw_dconst0 (pc' := 52) jd_BranchworkModel_meanLines_51 rfl ?_
  refine jw_goto (tgt := 63) jd_BranchworkModel_meanLines_52 (by decide) ?_
  refine jw_dret hE jd_BranchworkModel_meanLines_63 rfl (by omega) (by omega) ?_
  exact ⟨rfl, ⟨_, h.1⟩, fun q z z2 => (f7 q (by omega)).trans ((f8 q (by omega)).trans (f5 q (by omega)))⟩
theorem jv_six {j : Nat} (h : j ≤ 5) : j = 0 ∨ j = 1 ∨ j = 2 ∨ j = 3 ∨ j = 4 ∨ j = 5 := by omega
theorem br_count {th : Int32} (h : bq_At o μ r th) (hr : r + 7 ≤ hs) {j : Nat} (hj : j ≤ 5) : jw_Spec mi_BranchworkModel_count 5 7 105 o [.ref r, .int (nI j)] μ hs (fun v μ' s' => v = some (.int (mv_many j)) ∧ s' = hs + 7 ∧ jw_Nw μ μ' hs) := by
  refine jw_spec (by decide +kernel) (Nat.le_of_ble_eq_true rfl) rfl (fun k hR hE => ?_)
  have h0 := h.1
  refine jw_bipush (pc' := 2) (v := nI 6) jd_BranchworkModel_count_0 (by decide +kernel) rfl ?_
  refine jw_newa (pc' := 4) (N := 6) (i := 0) (a0 := (6, .inl (fun _ => 0))) (ty := .int) (atype := .int) hR jq_116 rfl rfl jd_BranchworkModel_count_2 (fun _ => rfl) (by decide +kernel) (by decide +kernel) (by decide +kernel) (by omega) (by omega) rfl (fun μ h1 f9 => ?_)
  have h0 := (f9 _ (by omega)).trans h0
  refine jw_dup (pc' := 5) jd_BranchworkModel_count_4 rfl rfl ?_
  refine jw_iconst (pc' := 6) (v := nI 0) jd_BranchworkModel_count_5 (by decide +kernel) rfl ?_
  refine jw_aload_n (pc' := 7) jd_BranchworkModel_count_6 rfl rfl rfl ?_
  refine jw_iconst (pc' := 8) (v := nI 0) jd_BranchworkModel_count_7 (by decide +kernel) rfl ?_
  have n9 : jw_Nw _ μ hs := fun q hq => f9 q (by omega)
  have h := h.o f9 hr
  refine jw_callV (pc' := 11) hR (br_commitsNow h (by omega) _) jm_BranchworkModel_commitsNow jq_1483 jc_BranchworkModel jd_BranchworkModel_count_8 (by assumption) rfl rfl (Nat.le_of_ble_eq_true rfl) (by omega) (by decide) (by omega) (by omega) rfl (fun v μ s9 q9 hle => ?_)
  obtain ⟨rfl, rfl, f8⟩ := q9
  have n9 : jw_Nw _ μ hs := fun q hq => (f8 q (by omega)).trans (n9 q hq)
  have h1 := (f8 _ (by omega)).trans h1
  have h := h.nw f8 (by omega)
  have h0 := h.1
  have hB := h.2.2.1
  obtain ⟨c1, hB0⟩ := hB.raw
  refine jw_iast (pc' := 12) (i := 0) jd_BranchworkModel_count_11 (by assumption) rfl (vp_in_nI (n := 0) (by omega) (by omega)) rfl (fun μ h1 f9 => ?_)
  have h0 := (f9 _ (by omega)).trans h0
  have hB0 := (f9 _ (by omega)).trans hB0
  refine jw_dup (pc' := 13) jd_BranchworkModel_count_12 rfl rfl ?_
  refine jw_iconst (pc' := 14) (v := nI 1) jd_BranchworkModel_count_13 (by decide +kernel) rfl ?_
  refine jw_aload_n (pc' := 15) jd_BranchworkModel_count_14 rfl rfl rfl ?_
  refine jw_get (pc' := 18) (kf := 2) jc_BranchworkModel (by decide) jq_1132 jd_BranchworkModel_count_15 (by assumption) rfl rfl ?_
  have n9 : jw_Nw _ μ hs := fun q hq => (f9 q (by omega)).trans (n9 q hq)
  have h := h.o f9 hr
  have hB := h.2.2.1
  refine jw_callV0 (pc' := 21) hR (bl_size hB) jm_ArrayList_size jq_1255 jc_ArrayList jd_BranchworkModel_count_18 (by assumption) rfl rfl (Nat.le_of_ble_eq_true rfl) (by omega) (by decide) (by omega) (by omega) rfl rfl ?_
  refine jw_iast (pc' := 22) (i := 0) jd_BranchworkModel_count_21 (by assumption) rfl (vp_in_nI (n := 1) (by omega) (by omega)) rfl (fun μ h1 f9 => ?_)
  have h0 := (f9 _ (by omega)).trans h0
  refine jw_dup (pc' := 23) jd_BranchworkModel_count_22 rfl rfl ?_
  refine jw_iconst (pc' := 24) (v := nI 2) jd_BranchworkModel_count_23 (by decide +kernel) rfl ?_
  refine jw_aload_n (pc' := 25) jd_BranchworkModel_count_24 rfl rfl rfl ?_
  refine jw_get (pc' := 28) (kf := 4) jc_BranchworkModel (by decide) jq_1134 jd_BranchworkModel_count_25 (by assumption) rfl rfl ?_
  have n9 : jw_Nw _ μ hs := fun q hq => (f9 q (by omega)).trans (n9 q hq)
  have h := h.o f9 hr
  have hT := h.2.2.2.1
  have hT0 := hT.1
  refine jw_callV0 (pc' := 31) hR (bz_size hT) jm_MTree_size jq_1212 jc_MTree jd_BranchworkModel_count_28 (by assumption) rfl rfl (Nat.le_of_ble_eq_true rfl) (by omega) (by decide) (by omega) (by omega) rfl rfl ?_
  refine jw_iast (pc' := 32) (i := 0) jd_BranchworkModel_count_31 (by assumption) rfl (vp_in_nI (n := 2) (by omega) (by omega)) rfl (fun μ h1 f9 => ?_)
  have h0 := (f9 _ (by omega)).trans h0
  refine jw_dup (pc' := 33) jd_BranchworkModel_count_32 rfl rfl ?_
  refine jw_iconst (pc' := 34) (v := nI 3) jd_BranchworkModel_count_33 (by decide +kernel) rfl ?_
  refine jw_aload_n (pc' := 35) jd_BranchworkModel_count_34 rfl rfl rfl ?_
  refine jw_get (pc' := 38) (kf := 6) jc_BranchworkModel (by decide) jq_1136 jd_BranchworkModel_count_35 (by assumption) rfl rfl ?_
  have n9 : jw_Nw _ μ hs := fun q hq => (f9 q (by omega)).trans (n9 q hq)
  have h := h.o f9 hr
  have hC := h.2.2.2.2.1
  obtain ⟨c3, hC0⟩ := hC.raw
  refine jw_callV0 (pc' := 41) hR (bl_size hC) jm_ArrayList_size jq_1255 jc_ArrayList jd_BranchworkModel_count_38 (by assumption) rfl rfl (Nat.le_of_ble_eq_true rfl) (by omega) (by decide) (by omega) (by omega) rfl rfl ?_
  refine jw_iast (pc' := 42) (i := 0) jd_BranchworkModel_count_41 (by assumption) rfl (vp_in_nI (n := 3) (by omega) (by omega)) rfl (fun μ h1 f9 => ?_)
  have h0 := (f9 _ (by omega)).trans h0
  refine jw_dup (pc' := 43) jd_BranchworkModel_count_42 rfl rfl ?_
  refine jw_iconst (pc' := 44) (v := nI 4) jd_BranchworkModel_count_43 (by decide +kernel) rfl ?_
  refine jw_aload_n (pc' := 45) jd_BranchworkModel_count_44 rfl rfl rfl ?_
  refine jw_iconst (pc' := 46) (v := nI 0) jd_BranchworkModel_count_45 (by decide +kernel) rfl ?_
  have n9 : jw_Nw _ μ hs := fun q hq => (f9 q (by omega)).trans (n9 q hq)
  have h := h.o f9 hr
  refine jw_callV (pc' := 49) hR (br_trees h (by omega) _) jm_BranchworkModel_trees jq_1474 jc_BranchworkModel jd_BranchworkModel_count_46 (by assumption) rfl rfl (Nat.le_of_ble_eq_true rfl) (by omega) (by decide) (by omega) (by omega) rfl (fun v μ s9 q9 hle => ?_)
  obtain ⟨rfl, rfl, hL, f8⟩ := q9
  have n9 : jw_Nw _ μ hs := fun q hq => (f8 q (by omega)).trans (n9 q hq)
  have h1 := (f8 _ (by omega)).trans h1
  have h := h.nw f8 (by omega)
  have h0 := h.1
  obtain ⟨c4, hL0⟩ := hL.raw
  refine jw_callV0 (pc' := 52) hR (bl_size hL) jm_ArrayList_size jq_1255 jc_ArrayList jd_BranchworkModel_count_49 (by assumption) rfl rfl (Nat.le_of_ble_eq_true rfl) (by omega) (by decide) (by omega) (by omega) rfl rfl ?_
  refine jw_iast (pc' := 53) (i := 0) jd_BranchworkModel_count_52 (by assumption) rfl (vp_in_nI (n := 4) (by omega) (by omega)) rfl (fun μ h1 f9 => ?_)
  have h0 := (f9 _ (by omega)).trans h0
  refine jw_dup (pc' := 54) jd_BranchworkModel_count_53 rfl rfl ?_
  refine jw_iconst (pc' := 55) (v := nI 5) jd_BranchworkModel_count_54 (by decide +kernel) rfl ?_
  refine jw_aload_n (pc' := 56) jd_BranchworkModel_count_55 rfl rfl rfl ?_
  refine jw_iconst (pc' := 57) (v := nI 0) jd_BranchworkModel_count_56 (by decide +kernel) rfl ?_
  have n9 : jw_Nw _ μ hs := fun q hq => (f9 q (by omega)).trans (n9 q hq)
  have h := h.o f9 hr
  refine jw_callV (pc' := 60) hR (br_trees h (by omega) _) jm_BranchworkModel_trees jq_1474 jc_BranchworkModel jd_BranchworkModel_count_57 (by assumption) rfl rfl (Nat.le_of_ble_eq_true rfl) (by omega) (by decide) (by omega) (by omega) rfl (fun v μ s9 q9 hle => ?_)
  obtain ⟨rfl, rfl, hL, f8⟩ := q9
  have n9 : jw_Nw _ μ hs := fun q hq => (f8 q (by omega)).trans (n9 q hq)
  have h1 := (f8 _ (by omega)).trans h1
  have h := h.nw f8 (by omega)
  obtain ⟨c5, hL0⟩ := hL.raw
  refine jw_callS (pc' := 63) hR (br_contents hL (by omega)) jm_BranchworkModel_contents jq_1487 jd_BranchworkModel_count_60 rfl rfl (Nat.le_of_ble_eq_true rfl) (by omega) (by decide) (by omega) (by omega) rfl (fun v μ s9 q9 hle => ?_)
  obtain ⟨rfl, rfl, hM, f8⟩ := q9
  have n9 : jw_Nw _ μ hs := fun q hq => (f8 q (by omega)).trans (n9 q hq)
  have h1 := (f8 _ (by omega)).trans h1
  obtain ⟨c6, hM0⟩ := hM.raw
  refine jw_callV0 (pc' := 66) hR (bl_size hM) jm_ArrayList_size jq_1255 jc_ArrayList jd_BranchworkModel_count_63 (by assumption) rfl rfl (Nat.le_of_ble_eq_true rfl) (by omega) (by decide) (by omega) (by omega) rfl rfl ?_
  refine jw_iast (pc' := 67) (i := 0) jd_BranchworkModel_count_66 (by assumption) rfl (vp_in_nI (n := 5) (by omega) (by omega)) rfl (fun μ h1 f9 => ?_)
  refine jw_astore_n (pc' := 68) (lc' := [(0, _), (1, _), (2, _)]) jd_BranchworkModel_count_67 rfl (Nat.le_of_ble_eq_true rfl) ⟨rfl, rfl, rfl, trivial⟩ rfl ?_
  refine jw_aload_n (pc' := 69) jd_BranchworkModel_count_68 rfl rfl rfl ?_
  refine jw_iload_n (pc' := 70) jd_BranchworkModel_count_69 rfl rfl rfl ?_
  have n9 : jw_Nw _ μ hs := fun q hq => (f9 q (by omega)).trans (n9 q hq)
  refine jw_iald (pc' := 71) (i := 0) (v := mv_many j) jd_BranchworkModel_count_70 h1 rfl (vp_in_nI (by omega) (by omega)) (by rw [nI_clamp (by omega)]; rcases jv_six hj with rfl | rfl | rfl | rfl | rfl | rfl <;> rfl) rfl ?_
  refine jw_iret hE jd_BranchworkModel_count_71 rfl (by omega) (by omega) ?_
  exact ⟨rfl, rfl, n9⟩
theorem br_many {th : Int32} (h : bq_At o μ r th) (hr : r + 7 ≤ hs) (x : Int32) : jr_F mi_BranchworkModel_many o [.ref r, .int x] μ hs r (kx_small 5 x) (mv_many x.toNatClampNeg) := by
  refine jw_spec (by decide +kernel) (Nat.le_of_ble_eq_true rfl) rfl (fun k hR hE => ?_)
  have h0 := h.1
  refine jw_aload_n (pc' := 1) jd_BranchworkModel_many_0 rfl rfl rfl ?_
  refine jw_iload_n (pc' := 2) jd_BranchworkModel_many_1 rfl rfl rfl ?_
  refine jw_iconst (pc' := 3) (v := nI 0) jd_BranchworkModel_many_2 (by decide +kernel) rfl ?_
  refine jw_iconst (pc' := 4) (v := nI 5) jd_BranchworkModel_many_3 (by decide +kernel) rfl ?_
  rcases jx_small 5 (by omega) x with ⟨hx, hx2⟩ | ⟨j, hj, rfl⟩
  · have e : kx_small 5 x = 1 := by unfold kx_small; rw [if_pos hx]
    rw [e] at hE
    refine jw_callS0 (pc' := 7) hR (bq_isIn (v := 0) (Or.inr ⟨rfl, hx⟩)) jm_BranchworkModel_isIn jq_1163 jd_BranchworkModel_many_4 rfl rfl (Nat.le_of_ble_eq_true rfl) (by omega) (by decide) (by omega) (by omega) rfl rfl ?_
    refine jw_if_ne (tgt := 14) (pc' := 10) jd_BranchworkModel_many_7 (by decide) rfl (fun c => ?_) (fun c => ?_)
    · exact absurd rfl c
    refine jw_iconst (pc' := 11) (v := nI 1) jd_BranchworkModel_many_10 (by decide +kernel) rfl ?_
    refine jw_goto (tgt := 15) jd_BranchworkModel_many_11 (by decide) ?_
    refine jw_iconst (pc' := 16) (v := nI 1) jd_BranchworkModel_many_15 (by decide +kernel) rfl ?_
    refine jw_callV (pc' := 19) hR (bq_start1 h (w := 1) (by omega) (by omega)) jm_BranchworkModel_start jq_1166 jc_BranchworkModel jd_BranchworkModel_many_16 (by assumption) rfl rfl (Nat.le_of_ble_eq_true rfl) (by omega) (by decide) (by omega) (by omega) rfl (fun v μ s9 q9 hle => ?_)
    obtain ⟨rfl, rfl, h, f8⟩ := q9
    refine jw_if_eq (tgt := 26) (pc' := 22) jd_BranchworkModel_many_19 (by decide) rfl (fun c1 => ?_) (fun c1 => ?_)
    · exact absurd c1 (by decide)
    refine jw_iconst (pc' := 23) (v := nI 0) jd_BranchworkModel_many_22 (by decide +kernel) rfl ?_
    refine jw_goto (tgt := 31) jd_BranchworkModel_many_23 (by decide) ?_
    refine jw_iret hE jd_BranchworkModel_many_31 rfl (by omega) (by omega) ?_
    exact ⟨⟨_, rfl, fun z => absurd z (by decide)⟩, ⟨_, h.1⟩, fun q z _ => f8 q (by omega)⟩
  · have e : kx_small 5 (nI j) = 0 := kx_small_ok (by omega) hj
    rw [e] at hE
    refine jw_callS0 (pc' := 7) hR (bq_isIn (v := 1) (Or.inl ⟨rfl, nI_pos (by omega), fun z => by have := (nI_ltI (by omega) (by omega)).mp z; omega⟩)) jm_BranchworkModel_isIn jq_1163 jd_BranchworkModel_many_4 rfl rfl (Nat.le_of_ble_eq_true rfl) (by omega) (by decide) (by omega) (by omega) rfl rfl ?_
    refine jw_if_ne (tgt := 14) (pc' := 10) jd_BranchworkModel_many_7 (by decide) rfl (fun c => ?_) (fun c => ?_)
    rotate_left
    · exact absurd c (by decide)
    refine jw_iconst (pc' := 15) (v := nI 0) jd_BranchworkModel_many_14 (by decide +kernel) rfl ?_
    refine jw_iconst (pc' := 16) (v := nI 1) jd_BranchworkModel_many_15 (by decide +kernel) rfl ?_
    refine jw_callV (pc' := 19) hR (bq_start0 h _) jm_BranchworkModel_start jq_1166 jc_BranchworkModel jd_BranchworkModel_many_16 (by assumption) rfl rfl (Nat.le_of_ble_eq_true rfl) (by omega) (by decide) (by omega) (by omega) rfl (fun v μ s9 q9 hle => ?_)
    obtain ⟨rfl, rfl, h, f8⟩ := q9
    have h0 := h.1
    refine jw_if_eq (tgt := 26) (pc' := 22) jd_BranchworkModel_many_19 (by decide) rfl (fun c1 => ?_) (fun c1 => ?_)
    rotate_left
    · exact absurd rfl c1
    refine jw_aload_n (pc' := 27) jd_BranchworkModel_many_26 rfl rfl rfl ?_
    refine jw_iload_n (pc' := 28) jd_BranchworkModel_many_27 rfl rfl rfl ?_
    refine jw_callV (pc' := 31) hR (br_count h hr hj) jm_BranchworkModel_count jq_1495 jc_BranchworkModel jd_BranchworkModel_many_28 (by assumption) rfl rfl (Nat.le_of_ble_eq_true rfl) (by omega) (by decide) (by omega) (by omega) rfl (fun v μ s9 q9 hle => ?_)
    obtain ⟨rfl, rfl, f7⟩ := q9
    have h := h.nw f7 hr
    refine jw_iret hE jd_BranchworkModel_many_31 rfl (by omega) (by omega) ?_
    exact ⟨⟨_, rfl, fun _ => by rw [nI_clamp (by omega)]⟩, ⟨_, h.1⟩, fun q z z2 => (f7 q (by omega)).trans (f8 q (by omega))⟩
theorem br_number : jw_Ro mi_BranchworkModel_number 0 o [.null] μ hs (some (.int (-1))) := by
  refine jw_ro (by decide +kernel) (Nat.le_of_ble_eq_true rfl) rfl (fun k hR hE => ?_)
  refine jw_aload_nN (pc' := 1) jd_BranchworkModel_number_0 rfl rfl rfl ?_
  refine jw_ifnonnullN (pc' := 4) jd_BranchworkModel_number_1 rfl ?_
  refine jw_iconst (pc' := 5) (v := -1) jd_BranchworkModel_number_4 (by decide +kernel) rfl ?_
  refine jw_goto (tgt := 12) jd_BranchworkModel_number_5 (by decide) ?_
  refine jw_iret hE jd_BranchworkModel_number_12 rfl (by omega) (by omega) ?_
  exact ⟨rfl, rfl, rfl⟩
theorem br_nowOf {th : Int32} (h : bq_At o μ r th) {j : Nat} (hj : j ≤ 2) : jw_Ro mi_BranchworkModel_nowOf 4 o [.ref r, .int (nI j)] μ hs (some (.int (mv_now j))) := by
  refine jw_ro (by decide +kernel) (Nat.le_of_ble_eq_true rfl) rfl (fun k hR hE => ?_)
  have h0 := h.1
  rcases (by omega : j = 0 ∨ j = 1 ∨ j = 2) with rfl | rfl | rfl
  · refine jw_iload_n (pc' := 1) jd_BranchworkModel_nowOf_0 rfl rfl rfl ?_
    refine jw_if_ne (tgt := 11) (pc' := 4) jd_BranchworkModel_nowOf_1 (by decide) rfl (fun c => ?_) (fun c => ?_)
    · exact absurd rfl c
    refine jw_aload_n (pc' := 5) jd_BranchworkModel_nowOf_4 rfl rfl rfl ?_
    refine jw_get (pc' := 8) (kf := 3) jc_BranchworkModel (by decide) jq_1133 jd_BranchworkModel_nowOf_5 (by assumption) rfl rfl ?_
    refine jw_goto (tgt := 30) jd_BranchworkModel_nowOf_8 (by decide) ?_
    refine jw_iret hE jd_BranchworkModel_nowOf_30 rfl (by omega) (by omega) ?_
    exact ⟨rfl, rfl, rfl⟩
  · refine jw_iload_n (pc' := 1) jd_BranchworkModel_nowOf_0 rfl rfl rfl ?_
    refine jw_if_ne (tgt := 11) (pc' := 4) jd_BranchworkModel_nowOf_1 (by decide) rfl (fun c => ?_) (fun c => ?_)
    rotate_left
    · exact absurd c (by decide)
    refine jw_iload_n (pc' := 12) jd_BranchworkModel_nowOf_11 rfl rfl rfl ?_
    refine jw_iconst (pc' := 13) (v := nI 1) jd_BranchworkModel_nowOf_12 (by decide +kernel) rfl ?_
    refine jw_icmp_ne (tgt := 23) (pc' := 16) jd_BranchworkModel_nowOf_13 (by decide) rfl (fun c2 => ?_) (fun c2 => ?_)
    · exact absurd rfl c2
    refine jw_aload_n (pc' := 17) jd_BranchworkModel_nowOf_16 rfl rfl rfl ?_
    refine jw_callV0 (pc' := 20) hR (bq_head h) jm_BranchworkModel_head jq_1229 jc_BranchworkModel jd_BranchworkModel_nowOf_17 (by assumption) rfl rfl (Nat.le_of_ble_eq_true rfl) (by omega) (by decide) (by omega) (by omega) rfl rfl ?_
    refine jw_goto (tgt := 27) jd_BranchworkModel_nowOf_20 (by decide) ?_
    refine jw_callS0 (pc' := 30) hR (br_number) jm_BranchworkModel_number jq_1507 jd_BranchworkModel_nowOf_27 rfl rfl (Nat.le_of_ble_eq_true rfl) (by omega) (by decide) (by omega) (by omega) rfl rfl ?_
    refine jw_iret hE jd_BranchworkModel_nowOf_30 rfl (by omega) (by omega) ?_
    exact ⟨rfl, rfl, rfl⟩
  · refine jw_iload_n (pc' := 1) jd_BranchworkModel_nowOf_0 rfl rfl rfl ?_
    refine jw_if_ne (tgt := 11) (pc' := 4) jd_BranchworkModel_nowOf_1 (by decide) rfl (fun c => ?_) (fun c => ?_)
    rotate_left
    · exact absurd c (by decide)
    refine jw_iload_n (pc' := 12) jd_BranchworkModel_nowOf_11 rfl rfl rfl ?_
    refine jw_iconst (pc' := 13) (v := nI 1) jd_BranchworkModel_nowOf_12 (by decide +kernel) rfl ?_
    refine jw_icmp_ne (tgt := 23) (pc' := 16) jd_BranchworkModel_nowOf_13 (by decide) rfl (fun c2 => ?_) (fun c2 => ?_)
    rotate_left
    · exact absurd c2 (by decide)
    refine jw_aload_n (pc' := 24) jd_BranchworkModel_nowOf_23 rfl rfl rfl ?_
    refine jw_get (pc' := 27) (kf := 5) jc_BranchworkModel (by decide) jq_1135 jd_BranchworkModel_nowOf_24 (by assumption) rfl rfl ?_
    refine jw_callS0 (pc' := 30) hR (br_number) jm_BranchworkModel_number jq_1507 jd_BranchworkModel_nowOf_27 rfl rfl (Nat.le_of_ble_eq_true rfl) (by omega) (by decide) (by omega) (by omega) rfl rfl ?_
    refine jw_iret hE jd_BranchworkModel_nowOf_30 rfl (by omega) (by omega) ?_
    exact ⟨rfl, rfl, rfl⟩
theorem br_now {th : Int32} (h : bq_At o μ r th) (x : Int32) : jr_F mi_BranchworkModel_now o [.ref r, .int x] μ hs r (kx_small 2 x) (mv_now x.toNatClampNeg) := by
  refine jw_spec (by decide +kernel) (Nat.le_of_ble_eq_true rfl) rfl (fun k hR hE => ?_)
  have h0 := h.1
  refine jw_aload_n (pc' := 1) jd_BranchworkModel_now_0 rfl rfl rfl ?_
  refine jw_iload_n (pc' := 2) jd_BranchworkModel_now_1 rfl rfl rfl ?_
  refine jw_iconst (pc' := 3) (v := nI 0) jd_BranchworkModel_now_2 (by decide +kernel) rfl ?_
  refine jw_iconst (pc' := 4) (v := nI 2) jd_BranchworkModel_now_3 (by decide +kernel) rfl ?_
  rcases jx_small 2 (by omega) x with ⟨hx, hx2⟩ | ⟨j, hj, rfl⟩
  · have e : kx_small 2 x = 1 := by unfold kx_small; rw [if_pos hx]
    rw [e] at hE
    refine jw_callS0 (pc' := 7) hR (bq_isIn (v := 0) (Or.inr ⟨rfl, hx⟩)) jm_BranchworkModel_isIn jq_1163 jd_BranchworkModel_now_4 rfl rfl (Nat.le_of_ble_eq_true rfl) (by omega) (by decide) (by omega) (by omega) rfl rfl ?_
    refine jw_if_ne (tgt := 14) (pc' := 10) jd_BranchworkModel_now_7 (by decide) rfl (fun c => ?_) (fun c => ?_)
    · exact absurd rfl c
    refine jw_iconst (pc' := 11) (v := nI 1) jd_BranchworkModel_now_10 (by decide +kernel) rfl ?_
    refine jw_goto (tgt := 15) jd_BranchworkModel_now_11 (by decide) ?_
    refine jw_iconst (pc' := 16) (v := nI 1) jd_BranchworkModel_now_15 (by decide +kernel) rfl ?_
    refine jw_callV (pc' := 19) hR (bq_start1 h (w := 1) (by omega) (by omega)) jm_BranchworkModel_start jq_1166 jc_BranchworkModel jd_BranchworkModel_now_16 (by assumption) rfl rfl (Nat.le_of_ble_eq_true rfl) (by omega) (by decide) (by omega) (by omega) rfl (fun v μ s9 q9 hle => ?_)
    obtain ⟨rfl, rfl, h, f8⟩ := q9
    refine jw_if_eq (tgt := 26) (pc' := 22) jd_BranchworkModel_now_19 (by decide) rfl (fun c1 => ?_) (fun c1 => ?_)
    · exact absurd c1 (by decide)
    refine jw_iconst (pc' := 23) (v := nI 0) jd_BranchworkModel_now_22 (by decide +kernel) rfl ?_
    refine jw_goto (tgt := 31) jd_BranchworkModel_now_23 (by decide) ?_
    refine jw_iret hE jd_BranchworkModel_now_31 rfl (by omega) (by omega) ?_
    exact ⟨⟨_, rfl, fun z => absurd z (by decide)⟩, ⟨_, h.1⟩, fun q z _ => f8 q (by omega)⟩
  · have e : kx_small 2 (nI j) = 0 := kx_small_ok (by omega) hj
    rw [e] at hE
    refine jw_callS0 (pc' := 7) hR (bq_isIn (v := 1) (Or.inl ⟨rfl, nI_pos (by omega), fun z => by have := (nI_ltI (by omega) (by omega)).mp z; omega⟩)) jm_BranchworkModel_isIn jq_1163 jd_BranchworkModel_now_4 rfl rfl (Nat.le_of_ble_eq_true rfl) (by omega) (by decide) (by omega) (by omega) rfl rfl ?_
    refine jw_if_ne (tgt := 14) (pc' := 10) jd_BranchworkModel_now_7 (by decide) rfl (fun c => ?_) (fun c => ?_)
    rotate_left
    · exact absurd c (by decide)
    refine jw_iconst (pc' := 15) (v := nI 0) jd_BranchworkModel_now_14 (by decide +kernel) rfl ?_
    refine jw_iconst (pc' := 16) (v := nI 1) jd_BranchworkModel_now_15 (by decide +kernel) rfl ?_
    refine jw_callV (pc' := 19) hR (bq_start0 h _) jm_BranchworkModel_start jq_1166 jc_BranchworkModel jd_BranchworkModel_now_16 (by assumption) rfl rfl (Nat.le_of_ble_eq_true rfl) (by omega) (by decide) (by omega) (by omega) rfl (fun v μ s9 q9 hle => ?_)
    obtain ⟨rfl, rfl, h, f8⟩ := q9
    have h0 := h.1
    refine jw_if_eq (tgt := 26) (pc' := 22) jd_BranchworkModel_now_19 (by decide) rfl (fun c1 => ?_) (fun c1 => ?_)
    rotate_left
    · exact absurd rfl c1
    refine jw_aload_n (pc' := 27) jd_BranchworkModel_now_26 rfl rfl rfl ?_
    refine jw_iload_n (pc' := 28) jd_BranchworkModel_now_27 rfl rfl rfl ?_
    refine jw_callV0 (pc' := 31) hR (br_nowOf h hj) jm_BranchworkModel_nowOf jq_1503 jc_BranchworkModel jd_BranchworkModel_now_28 (by assumption) rfl rfl (Nat.le_of_ble_eq_true rfl) (by omega) (by decide) (by omega) (by omega) rfl rfl ?_
    refine jw_iret hE jd_BranchworkModel_now_31 rfl (by omega) (by omega) ?_
    exact ⟨⟨_, rfl, fun _ => by rw [nI_clamp (by omega)]⟩, ⟨_, h.1⟩, fun q z z2 => f8 q (by omega)⟩
theorem br_at {th : Int32} (h : bq_At o μ r th) (x : Int32) : jr_F mi_BranchworkModel_at o [.ref r, .int x] μ hs r (kx_z x) (-1) := by
  refine jw_spec (by decide +kernel) (Nat.le_of_ble_eq_true rfl) rfl (fun k hR hE => ?_)
  have h0 := h.1
  refine jw_aload_n (pc' := 1) jd_BranchworkModel_at_0 rfl rfl rfl ?_
  refine jw_iload_n (pc' := 2) jd_BranchworkModel_at_1 rfl rfl rfl ?_
  by_cases hx : x = 0
  · subst hx
    have e : kx_z 0 = 0 := by decide
    rw [e] at hE
    refine jw_callV (pc' := 5) hR (bq_isNoBranch h 0) jm_BranchworkModel_isNoBranch jq_1313 jc_BranchworkModel jd_BranchworkModel_at_2 (by assumption) rfl rfl (Nat.le_of_ble_eq_true rfl) (by omega) (by decide) (by omega) (by omega) rfl (fun v μ s9 q9 hle => ?_)
    rw [e] at q9
    obtain ⟨rfl, rfl, h, f8⟩ := q9
    have h0 := h.1
    have hB := h.2.2.1
    obtain ⟨c1, hB0⟩ := hB.raw
    obtain ⟨f, h6, hf⟩ := h.2.2.2.2.2
    refine jw_if_eq (tgt := 12) (pc' := 8) jd_BranchworkModel_at_5 (by decide) rfl (fun c => ?_) (fun c => ?_)
    rotate_left
    · exact absurd rfl c
    refine jw_aload_n (pc' := 13) jd_BranchworkModel_at_12 rfl rfl rfl ?_
    refine jw_get (pc' := 16) (kf := 2) jc_BranchworkModel (by decide) jq_1132 jd_BranchworkModel_at_13 (by assumption) rfl rfl ?_
    refine jw_iload_n (pc' := 17) jd_BranchworkModel_at_16 rfl rfl rfl ?_
    refine jw_callV0 (pc' := 20) hR (bl_get (i := 0) hB h6 (by omega) (by omega) (by omega) hf) jm_ArrayList_get jq_1233 jc_ArrayList jd_BranchworkModel_at_17 (by assumption) rfl rfl (Nat.le_of_ble_eq_true rfl) (by omega) (by decide) (by omega) (by omega) rfl rfl ?_
    refine jw_castN (pc' := 23) jd_BranchworkModel_at_20 rfl ?_
    refine jw_callS0 (pc' := 26) hR (br_number) jm_BranchworkModel_number jq_1507 jd_BranchworkModel_at_23 rfl rfl (Nat.le_of_ble_eq_true rfl) (by omega) (by decide) (by omega) (by omega) rfl rfl ?_
    refine jw_iret hE jd_BranchworkModel_at_26 rfl (by omega) (by omega) ?_
    exact ⟨⟨_, rfl, fun _ => rfl⟩, ⟨_, h.1⟩, fun q z z2 => f8 q (by omega)⟩
  · have e : kx_z x = 1 := by unfold kx_z; rw [if_neg hx]
    rw [e] at hE
    refine jw_callV (pc' := 5) hR (bq_isNoBranch h x) jm_BranchworkModel_isNoBranch jq_1313 jc_BranchworkModel jd_BranchworkModel_at_2 (by assumption) rfl rfl (Nat.le_of_ble_eq_true rfl) (by omega) (by decide) (by omega) (by omega) rfl (fun v μ s9 q9 hle => ?_)
    rw [e] at q9
    obtain ⟨rfl, rfl, h, f8⟩ := q9
    refine jw_if_eq (tgt := 12) (pc' := 8) jd_BranchworkModel_at_5 (by decide) rfl (fun c => ?_) (fun c => ?_)
    · exact absurd c (by decide)
    refine jw_iconst (pc' := 9) (v := nI 0) jd_BranchworkModel_at_8 (by decide +kernel) rfl ?_
    refine jw_goto (tgt := 26) jd_BranchworkModel_at_9 (by decide) ?_
    refine jw_iret hE jd_BranchworkModel_at_26 rfl (by omega) (by omega) ?_
    exact ⟨⟨_, rfl, fun z => absurd z (by decide)⟩, ⟨_, h.1⟩, fun q z _ => f8 q (by omega)⟩
end
