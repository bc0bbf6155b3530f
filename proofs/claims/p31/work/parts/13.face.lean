theorem jd_Branchwork_requirePath_0 : decode mi_Branchwork_requirePath.2.1 0 = .ok (.iload_n 0, 1) := by decide +kernel
theorem jd_Branchwork_requirePath_1 : decode mi_Branchwork_requirePath.2.1 1 = .ok (.ifCond .lt 9, 3) := by decide +kernel
theorem jd_Branchwork_requirePath_4 : decode mi_Branchwork_requirePath.2.1 4 = .ok (.iload_n 0, 1) := by decide +kernel
theorem jd_Branchwork_requirePath_5 : decode mi_Branchwork_requirePath.2.1 5 = .ok (.bipush 12, 2) := by decide +kernel
theorem jd_Branchwork_requirePath_7 : decode mi_Branchwork_requirePath.2.1 7 = .ok (.if_icmp .lt 14, 3) := by decide +kernel
theorem jd_Branchwork_requirePath_10 : decode mi_Branchwork_requirePath.2.1 10 = .ok (.new 85, 3) := by decide +kernel
theorem jd_Branchwork_requirePath_13 : decode mi_Branchwork_requirePath.2.1 13 = .ok (.dup, 1) := by decide +kernel
theorem jd_Branchwork_requirePath_14 : decode mi_Branchwork_requirePath.2.1 14 = .ok (.ldc_w 353, 3) := by decide +kernel
theorem jd_Branchwork_requirePath_17 : decode mi_Branchwork_requirePath.2.1 17 = .ok (.invokespecial 89, 3) := by decide +kernel
theorem jd_Branchwork_requirePath_20 : decode mi_Branchwork_requirePath.2.1 20 = .ok (.athrow, 1) := by decide +kernel
theorem jd_Branchwork_requirePath_21 : decode mi_Branchwork_requirePath.2.1 21 = .ok (.return_, 1) := by decide +kernel
theorem jd_Branchwork_requireFile_0 : decode mi_Branchwork_requireFile.2.1 0 = .ok (.aload_n 0, 1) := by decide +kernel
theorem jd_Branchwork_requireFile_1 : decode mi_Branchwork_requireFile.2.1 1 = .ok (.iload_n 1, 1) := by decide +kernel
theorem jd_Branchwork_requireFile_2 : decode mi_Branchwork_requireFile.2.1 2 = .ok (.invokevirtual 121, 3) := by decide +kernel
theorem jd_Branchwork_requireFile_5 : decode mi_Branchwork_requireFile.2.1 5 = .ok (.ifCond .ne 14, 3) := by decide +kernel
theorem jd_Branchwork_requireFile_8 : decode mi_Branchwork_requireFile.2.1 8 = .ok (.new 85, 3) := by decide +kernel
theorem jd_Branchwork_requireFile_11 : decode mi_Branchwork_requireFile.2.1 11 = .ok (.dup, 1) := by decide +kernel
theorem jd_Branchwork_requireFile_12 : decode mi_Branchwork_requireFile.2.1 12 = .ok (.ldc_w 355, 3) := by decide +kernel
theorem jd_Branchwork_requireFile_15 : decode mi_Branchwork_requireFile.2.1 15 = .ok (.invokespecial 89, 3) := by decide +kernel
theorem jd_Branchwork_requireFile_18 : decode mi_Branchwork_requireFile.2.1 18 = .ok (.athrow, 1) := by decide +kernel
theorem jd_Branchwork_requireFile_19 : decode mi_Branchwork_requireFile.2.1 19 = .ok (.return_, 1) := by decide +kernel
theorem jd_Content_holds_0 : decode mi_Content_holds.2.1 0 = .ok (.iload_n 1, 1) := by decide +kernel
theorem jd_Content_holds_1 : decode mi_Content_holds.2.1 1 = .ok (.ifCond .lt 21, 3) := by decide +kernel
theorem jd_Content_holds_4 : decode mi_Content_holds.2.1 4 = .ok (.iload_n 1, 1) := by decide +kernel
theorem jd_Content_holds_5 : decode mi_Content_holds.2.1 5 = .ok (.aload_n 0, 1) := by decide +kernel
theorem jd_Content_holds_6 : decode mi_Content_holds.2.1 6 = .ok (.getfield 15, 3) := by decide +kernel
theorem jd_Content_holds_9 : decode mi_Content_holds.2.1 9 = .ok (.if_icmp .ge 13, 3) := by decide +kernel
theorem jd_Content_holds_12 : decode mi_Content_holds.2.1 12 = .ok (.iload_n 1, 1) := by decide +kernel
theorem jd_Content_holds_13 : decode mi_Content_holds.2.1 13 = .ok (.bipush 10, 2) := by decide +kernel
theorem jd_Content_holds_15 : decode mi_Content_holds.2.1 15 = .ok (.if_icmp .ge 7, 3) := by decide +kernel
theorem jd_Content_holds_18 : decode mi_Content_holds.2.1 18 = .ok (.iconst 1, 1) := by decide +kernel
theorem jd_Content_holds_19 : decode mi_Content_holds.2.1 19 = .ok (.goto 4, 3) := by decide +kernel
theorem jd_Content_holds_22 : decode mi_Content_holds.2.1 22 = .ok (.iconst 0, 1) := by decide +kernel
theorem jd_Content_holds_23 : decode mi_Content_holds.2.1 23 = .ok (.ireturn, 1) := by decide +kernel
theorem jd_Branchwork_requirePlace_0 : decode mi_Branchwork_requirePlace.2.1 0 = .ok (.aload_n 0, 1) := by decide +kernel
theorem jd_Branchwork_requirePlace_1 : decode mi_Branchwork_requirePlace.2.1 1 = .ok (.iload_n 1, 1) := by decide +kernel
theorem jd_Branchwork_requirePlace_2 : decode mi_Branchwork_requirePlace.2.1 2 = .ok (.invokevirtual 357, 3) := by decide +kernel
theorem jd_Branchwork_requirePlace_5 : decode mi_Branchwork_requirePlace.2.1 5 = .ok (.ifCond .ne 13, 3) := by decide +kernel
theorem jd_Branchwork_requirePlace_8 : decode mi_Branchwork_requirePlace.2.1 8 = .ok (.new 85, 3) := by decide +kernel
theorem jd_Branchwork_requirePlace_11 : decode mi_Branchwork_requirePlace.2.1 11 = .ok (.dup, 1) := by decide +kernel
theorem jd_Branchwork_requirePlace_12 : decode mi_Branchwork_requirePlace.2.1 12 = .ok (.ldc 94, 2) := by decide +kernel
theorem jd_Branchwork_requirePlace_14 : decode mi_Branchwork_requirePlace.2.1 14 = .ok (.invokespecial 89, 3) := by decide +kernel
theorem jd_Branchwork_requirePlace_17 : decode mi_Branchwork_requirePlace.2.1 17 = .ok (.athrow, 1) := by decide +kernel
theorem jd_Branchwork_requirePlace_18 : decode mi_Branchwork_requirePlace.2.1 18 = .ok (.return_, 1) := by decide +kernel
theorem jd_Branchwork_requireCommit_0 : decode mi_Branchwork_requireCommit.2.1 0 = .ok (.aload_n 0, 1) := by decide +kernel
theorem jd_Branchwork_requireCommit_1 : decode mi_Branchwork_requireCommit.2.1 1 = .ok (.getfield 19, 3) := by decide +kernel
theorem jd_Branchwork_requireCommit_4 : decode mi_Branchwork_requireCommit.2.1 4 = .ok (.iload_n 1, 1) := by decide +kernel
theorem jd_Branchwork_requireCommit_5 : decode mi_Branchwork_requireCommit.2.1 5 = .ok (.invokevirtual 323, 3) := by decide +kernel
theorem jd_Branchwork_requireCommit_8 : decode mi_Branchwork_requireCommit.2.1 8 = .ok (.ifCond .ne 14, 3) := by decide +kernel
theorem jd_Branchwork_requireCommit_11 : decode mi_Branchwork_requireCommit.2.1 11 = .ok (.new 85, 3) := by decide +kernel
theorem jd_Branchwork_requireCommit_14 : decode mi_Branchwork_requireCommit.2.1 14 = .ok (.dup, 1) := by decide +kernel
theorem jd_Branchwork_requireCommit_15 : decode mi_Branchwork_requireCommit.2.1 15 = .ok (.ldc_w 358, 3) := by decide +kernel
theorem jd_Branchwork_requireCommit_18 : decode mi_Branchwork_requireCommit.2.1 18 = .ok (.invokespecial 89, 3) := by decide +kernel
theorem jd_Branchwork_requireCommit_21 : decode mi_Branchwork_requireCommit.2.1 21 = .ok (.athrow, 1) := by decide +kernel
theorem jd_Branchwork_requireCommit_22 : decode mi_Branchwork_requireCommit.2.1 22 = .ok (.return_, 1) := by decide +kernel
theorem jd_Branchwork_requireBranch_0 : decode mi_Branchwork_requireBranch.2.1 0 = .ok (.iload_n 1, 1) := by decide +kernel
theorem jd_Branchwork_requireBranch_1 : decode mi_Branchwork_requireBranch.2.1 1 = .ok (.ifCond .lt 11, 3) := by decide +kernel
theorem jd_Branchwork_requireBranch_4 : decode mi_Branchwork_requireBranch.2.1 4 = .ok (.iload_n 1, 1) := by decide +kernel
theorem jd_Branchwork_requireBranch_5 : decode mi_Branchwork_requireBranch.2.1 5 = .ok (.aload_n 0, 1) := by decide +kernel
theorem jd_Branchwork_requireBranch_6 : decode mi_Branchwork_requireBranch.2.1 6 = .ok (.getfield 55, 3) := by decide +kernel
theorem jd_Branchwork_requireBranch_9 : decode mi_Branchwork_requireBranch.2.1 9 = .ok (.if_icmp .lt 14, 3) := by decide +kernel
theorem jd_Branchwork_requireBranch_12 : decode mi_Branchwork_requireBranch.2.1 12 = .ok (.new 85, 3) := by decide +kernel
theorem jd_Branchwork_requireBranch_15 : decode mi_Branchwork_requireBranch.2.1 15 = .ok (.dup, 1) := by decide +kernel
theorem jd_Branchwork_requireBranch_16 : decode mi_Branchwork_requireBranch.2.1 16 = .ok (.ldc_w 360, 3) := by decide +kernel
theorem jd_Branchwork_requireBranch_19 : decode mi_Branchwork_requireBranch.2.1 19 = .ok (.invokespecial 89, 3) := by decide +kernel
theorem jd_Branchwork_requireBranch_22 : decode mi_Branchwork_requireBranch.2.1 22 = .ok (.athrow, 1) := by decide +kernel
theorem jd_Branchwork_requireBranch_23 : decode mi_Branchwork_requireBranch.2.1 23 = .ok (.return_, 1) := by decide +kernel
theorem jd_Branchwork_requireConflict_0 : decode mi_Branchwork_requireConflict.2.1 0 = .ok (.aload_n 0, 1) := by decide +kernel
theorem jd_Branchwork_requireConflict_1 : decode mi_Branchwork_requireConflict.2.1 1 = .ok (.getfield 33, 3) := by decide +kernel
theorem jd_Branchwork_requireConflict_4 : decode mi_Branchwork_requireConflict.2.1 4 = .ok (.iload_n 1, 1) := by decide +kernel
theorem jd_Branchwork_requireConflict_5 : decode mi_Branchwork_requireConflict.2.1 5 = .ok (.invokevirtual 362, 3) := by decide +kernel
theorem jd_Branchwork_requireConflict_8 : decode mi_Branchwork_requireConflict.2.1 8 = .ok (.ifCond .ne 14, 3) := by decide +kernel
theorem jd_Branchwork_requireConflict_11 : decode mi_Branchwork_requireConflict.2.1 11 = .ok (.new 85, 3) := by decide +kernel
theorem jd_Branchwork_requireConflict_14 : decode mi_Branchwork_requireConflict.2.1 14 = .ok (.dup, 1) := by decide +kernel
theorem jd_Branchwork_requireConflict_15 : decode mi_Branchwork_requireConflict.2.1 15 = .ok (.ldc_w 363, 3) := by decide +kernel
theorem jd_Branchwork_requireConflict_18 : decode mi_Branchwork_requireConflict.2.1 18 = .ok (.invokespecial 89, 3) := by decide +kernel
theorem jd_Branchwork_requireConflict_21 : decode mi_Branchwork_requireConflict.2.1 21 = .ok (.athrow, 1) := by decide +kernel
theorem jd_Branchwork_requireConflict_22 : decode mi_Branchwork_requireConflict.2.1 22 = .ok (.return_, 1) := by decide +kernel
theorem jd_Branchwork_head_0 : decode mi_Branchwork_head.2.1 0 = .ok (.aload_n 0, 1) := by decide +kernel
theorem jd_Branchwork_head_1 : decode mi_Branchwork_head.2.1 1 = .ok (.getfield 51, 3) := by decide +kernel
theorem jd_Branchwork_head_4 : decode mi_Branchwork_head.2.1 4 = .ok (.aload_n 0, 1) := by decide +kernel
theorem jd_Branchwork_head_5 : decode mi_Branchwork_head.2.1 5 = .ok (.getfield 59, 3) := by decide +kernel
theorem jd_Branchwork_head_8 : decode mi_Branchwork_head.2.1 8 = .ok (.iaload, 1) := by decide +kernel
theorem jd_Branchwork_head_9 : decode mi_Branchwork_head.2.1 9 = .ok (.ireturn, 1) := by decide +kernel
theorem jd_Branchwork_isClean_0 : decode mi_Branchwork_isClean.2.1 0 = .ok (.aload_n 0, 1) := by decide +kernel
theorem jd_Branchwork_isClean_1 : decode mi_Branchwork_isClean.2.1 1 = .ok (.getfield 12, 3) := by decide +kernel
theorem jd_Branchwork_isClean_4 : decode mi_Branchwork_isClean.2.1 4 = .ok (.aload_n 0, 1) := by decide +kernel
theorem jd_Branchwork_isClean_5 : decode mi_Branchwork_isClean.2.1 5 = .ok (.getfield 19, 3) := by decide +kernel
theorem jd_Branchwork_isClean_8 : decode mi_Branchwork_isClean.2.1 8 = .ok (.aload_n 0, 1) := by decide +kernel
theorem jd_Branchwork_isClean_9 : decode mi_Branchwork_isClean.2.1 9 = .ok (.invokevirtual 137, 3) := by decide +kernel
theorem jd_Branchwork_isClean_12 : decode mi_Branchwork_isClean.2.1 12 = .ok (.invokevirtual 140, 3) := by decide +kernel
theorem jd_Branchwork_isClean_15 : decode mi_Branchwork_isClean.2.1 15 = .ok (.invokevirtual 334, 3) := by decide +kernel
theorem jd_Branchwork_isClean_18 : decode mi_Branchwork_isClean.2.1 18 = .ok (.ireturn, 1) := by decide +kernel
theorem jd_Branchwork_requireCleanAndUnmerged_0 : decode mi_Branchwork_requireCleanAndUnmerged.2.1 0 = .ok (.aload_n 0, 1) := by decide +kernel
theorem jd_Branchwork_requireCleanAndUnmerged_1 : decode mi_Branchwork_requireCleanAndUnmerged.2.1 1 = .ok (.invokevirtual 158, 3) := by decide +kernel
theorem jd_Branchwork_requireCleanAndUnmerged_4 : decode mi_Branchwork_requireCleanAndUnmerged.2.1 4 = .ok (.ifCond .ne 14, 3) := by decide +kernel
theorem jd_Branchwork_requireCleanAndUnmerged_7 : decode mi_Branchwork_requireCleanAndUnmerged.2.1 7 = .ok (.new 101, 3) := by decide +kernel
theorem jd_Branchwork_requireCleanAndUnmerged_10 : decode mi_Branchwork_requireCleanAndUnmerged.2.1 10 = .ok (.dup, 1) := by decide +kernel
theorem jd_Branchwork_requireCleanAndUnmerged_11 : decode mi_Branchwork_requireCleanAndUnmerged.2.1 11 = .ok (.ldc_w 365, 3) := by decide +kernel
theorem jd_Branchwork_requireCleanAndUnmerged_14 : decode mi_Branchwork_requireCleanAndUnmerged.2.1 14 = .ok (.invokespecial 105, 3) := by decide +kernel
theorem jd_Branchwork_requireCleanAndUnmerged_17 : decode mi_Branchwork_requireCleanAndUnmerged.2.1 17 = .ok (.athrow, 1) := by decide +kernel
theorem jd_Branchwork_requireCleanAndUnmerged_18 : decode mi_Branchwork_requireCleanAndUnmerged.2.1 18 = .ok (.aload_n 0, 1) := by decide +kernel
theorem jd_Branchwork_requireCleanAndUnmerged_19 : decode mi_Branchwork_requireCleanAndUnmerged.2.1 19 = .ok (.getfield 62, 3) := by decide +kernel
theorem jd_Branchwork_requireCleanAndUnmerged_22 : decode mi_Branchwork_requireCleanAndUnmerged.2.1 22 = .ok (.iconst (-1), 1) := by decide +kernel
theorem jd_Branchwork_requireCleanAndUnmerged_23 : decode mi_Branchwork_requireCleanAndUnmerged.2.1 23 = .ok (.if_icmp .eq 14, 3) := by decide +kernel
theorem jd_Branchwork_requireCleanAndUnmerged_26 : decode mi_Branchwork_requireCleanAndUnmerged.2.1 26 = .ok (.new 101, 3) := by decide +kernel
theorem jd_Branchwork_requireCleanAndUnmerged_29 : decode mi_Branchwork_requireCleanAndUnmerged.2.1 29 = .ok (.dup, 1) := by decide +kernel
theorem jd_Branchwork_requireCleanAndUnmerged_30 : decode mi_Branchwork_requireCleanAndUnmerged.2.1 30 = .ok (.ldc_w 367, 3) := by decide +kernel
theorem jd_Branchwork_requireCleanAndUnmerged_33 : decode mi_Branchwork_requireCleanAndUnmerged.2.1 33 = .ok (.invokespecial 105, 3) := by decide +kernel
theorem jd_Branchwork_requireCleanAndUnmerged_36 : decode mi_Branchwork_requireCleanAndUnmerged.2.1 36 = .ok (.athrow, 1) := by decide +kernel
theorem jd_Branchwork_requireCleanAndUnmerged_37 : decode mi_Branchwork_requireCleanAndUnmerged.2.1 37 = .ok (.return_, 1) := by decide +kernel
theorem jd_Branchwork_reached_0 : decode mi_Branchwork_reached.2.1 0 = .ok (.aload_n 0, 1) := by decide +kernel
theorem jd_Branchwork_reached_1 : decode mi_Branchwork_reached.2.1 1 = .ok (.getfield 62, 3) := by decide +kernel
theorem jd_Branchwork_reached_4 : decode mi_Branchwork_reached.2.1 4 = .ok (.invokestatic 337, 3) := by decide +kernel
theorem jd_Branchwork_reached_7 : decode mi_Branchwork_reached.2.1 7 = .ok (.istore_n 1, 1) := by decide +kernel
theorem jd_Branchwork_reached_8 : decode mi_Branchwork_reached.2.1 8 = .ok (.iconst 0, 1) := by decide +kernel
theorem jd_Branchwork_reached_9 : decode mi_Branchwork_reached.2.1 9 = .ok (.istore_n 2, 1) := by decide +kernel
theorem jd_Branchwork_reached_10 : decode mi_Branchwork_reached.2.1 10 = .ok (.iload_n 2, 1) := by decide +kernel
theorem jd_Branchwork_reached_11 : decode mi_Branchwork_reached.2.1 11 = .ok (.iconst 5, 1) := by decide +kernel
theorem jd_Branchwork_reached_12 : decode mi_Branchwork_reached.2.1 12 = .ok (.if_icmp .ge 21, 3) := by decide +kernel
theorem jd_Branchwork_reached_15 : decode mi_Branchwork_reached.2.1 15 = .ok (.iload_n 1, 1) := by decide +kernel
theorem jd_Branchwork_reached_16 : decode mi_Branchwork_reached.2.1 16 = .ok (.aload_n 0, 1) := by decide +kernel
theorem jd_Branchwork_reached_17 : decode mi_Branchwork_reached.2.1 17 = .ok (.getfield 51, 3) := by decide +kernel
theorem jd_Branchwork_reached_20 : decode mi_Branchwork_reached.2.1 20 = .ok (.iload_n 2, 1) := by decide +kernel
theorem jd_Branchwork_reached_21 : decode mi_Branchwork_reached.2.1 21 = .ok (.iaload, 1) := by decide +kernel
theorem jd_Branchwork_reached_22 : decode mi_Branchwork_reached.2.1 22 = .ok (.invokestatic 337, 3) := by decide +kernel
theorem jd_Branchwork_reached_25 : decode mi_Branchwork_reached.2.1 25 = .ok (.ior, 1) := by decide +kernel
theorem jd_Branchwork_reached_26 : decode mi_Branchwork_reached.2.1 26 = .ok (.istore_n 1, 1) := by decide +kernel
theorem jd_Branchwork_reached_27 : decode mi_Branchwork_reached.2.1 27 = .ok (.iinc 2 1, 3) := by decide +kernel
theorem jd_Branchwork_reached_30 : decode mi_Branchwork_reached.2.1 30 = .ok (.goto (-20), 3) := by decide +kernel
theorem jd_Branchwork_reached_33 : decode mi_Branchwork_reached.2.1 33 = .ok (.aload_n 0, 1) := by decide +kernel
theorem jd_Branchwork_reached_34 : decode mi_Branchwork_reached.2.1 34 = .ok (.getfield 19, 3) := by decide +kernel
theorem jd_Branchwork_reached_37 : decode mi_Branchwork_reached.2.1 37 = .ok (.iload_n 1, 1) := by decide +kernel
theorem jd_Branchwork_reached_38 : decode mi_Branchwork_reached.2.1 38 = .ok (.invokevirtual 340, 3) := by decide +kernel
theorem jd_Branchwork_reached_41 : decode mi_Branchwork_reached.2.1 41 = .ok (.ireturn, 1) := by decide +kernel
theorem jd_Branchwork_garbage_0 : decode mi_Branchwork_garbage.2.1 0 = .ok (.aload_n 0, 1) := by decide +kernel
theorem jd_Branchwork_garbage_1 : decode mi_Branchwork_garbage.2.1 1 = .ok (.getfield 19, 3) := by decide +kernel
theorem jd_Branchwork_garbage_4 : decode mi_Branchwork_garbage.2.1 4 = .ok (.aload_n 0, 1) := by decide +kernel
theorem jd_Branchwork_garbage_5 : decode mi_Branchwork_garbage.2.1 5 = .ok (.getfield 19, 3) := by decide +kernel
theorem jd_Branchwork_garbage_8 : decode mi_Branchwork_garbage.2.1 8 = .ok (.invokevirtual 220, 3) := by decide +kernel
theorem jd_Branchwork_garbage_11 : decode mi_Branchwork_garbage.2.1 11 = .ok (.invokevirtual 295, 3) := by decide +kernel
theorem jd_Branchwork_garbage_14 : decode mi_Branchwork_garbage.2.1 14 = .ok (.aload_n 0, 1) := by decide +kernel
theorem jd_Branchwork_garbage_15 : decode mi_Branchwork_garbage.2.1 15 = .ok (.getfield 19, 3) := by decide +kernel
theorem jd_Branchwork_garbage_18 : decode mi_Branchwork_garbage.2.1 18 = .ok (.aload_n 0, 1) := by decide +kernel
theorem jd_Branchwork_garbage_19 : decode mi_Branchwork_garbage.2.1 19 = .ok (.invokevirtual 214, 3) := by decide +kernel
theorem jd_Branchwork_garbage_22 : decode mi_Branchwork_garbage.2.1 22 = .ok (.invokevirtual 295, 3) := by decide +kernel
theorem jd_Branchwork_garbage_25 : decode mi_Branchwork_garbage.2.1 25 = .ok (.isub, 1) := by decide +kernel
theorem jd_Branchwork_garbage_26 : decode mi_Branchwork_garbage.2.1 26 = .ok (.ireturn, 1) := by decide +kernel
theorem jd_Branchwork_collect_0 : decode mi_Branchwork_collect.2.1 0 = .ok (.aload_n 0, 1) := by decide +kernel
theorem jd_Branchwork_collect_1 : decode mi_Branchwork_collect.2.1 1 = .ok (.invokevirtual 211, 3) := by decide +kernel
theorem jd_Branchwork_collect_4 : decode mi_Branchwork_collect.2.1 4 = .ok (.istore_n 1, 1) := by decide +kernel
theorem jd_Branchwork_collect_5 : decode mi_Branchwork_collect.2.1 5 = .ok (.aload_n 0, 1) := by decide +kernel
theorem jd_Branchwork_collect_6 : decode mi_Branchwork_collect.2.1 6 = .ok (.getfield 19, 3) := by decide +kernel
theorem jd_Branchwork_collect_9 : decode mi_Branchwork_collect.2.1 9 = .ok (.aload_n 0, 1) := by decide +kernel
theorem jd_Branchwork_collect_10 : decode mi_Branchwork_collect.2.1 10 = .ok (.invokevirtual 214, 3) := by decide +kernel
theorem jd_Branchwork_collect_13 : decode mi_Branchwork_collect.2.1 13 = .ok (.invokevirtual 217, 3) := by decide +kernel
theorem jd_Branchwork_collect_16 : decode mi_Branchwork_collect.2.1 16 = .ok (.iload_n 1, 1) := by decide +kernel
theorem jd_Branchwork_collect_17 : decode mi_Branchwork_collect.2.1 17 = .ok (.ireturn, 1) := by decide +kernel
theorem jd_Branchwork_many_0 : decode mi_Branchwork_many.2.1 0 = .ok (.iload_n 1, 1) := by decide +kernel
theorem jd_Branchwork_many_1 : decode mi_Branchwork_many.2.1 1 = .ok (.tableswitch 101 0 5 #[39, 50, 55, 63, 71, 86], 39) := by decide +kernel
theorem jd_Branchwork_many_40 : decode mi_Branchwork_many.2.1 40 = .ok (.aload_n 0, 1) := by decide +kernel
theorem jd_Branchwork_many_41 : decode mi_Branchwork_many.2.1 41 = .ok (.getfield 19, 3) := by decide +kernel
theorem jd_Branchwork_many_44 : decode mi_Branchwork_many.2.1 44 = .ok (.invokevirtual 220, 3) := by decide +kernel
theorem jd_Branchwork_many_47 : decode mi_Branchwork_many.2.1 47 = .ok (.invokestatic 223, 3) := by decide +kernel
theorem jd_Branchwork_many_50 : decode mi_Branchwork_many.2.1 50 = .ok (.ireturn, 1) := by decide +kernel
theorem jd_Branchwork_many_51 : decode mi_Branchwork_many.2.1 51 = .ok (.aload_n 0, 1) := by decide +kernel
theorem jd_Branchwork_many_52 : decode mi_Branchwork_many.2.1 52 = .ok (.getfield 55, 3) := by decide +kernel
theorem jd_Branchwork_many_55 : decode mi_Branchwork_many.2.1 55 = .ok (.ireturn, 1) := by decide +kernel
theorem jd_Branchwork_many_56 : decode mi_Branchwork_many.2.1 56 = .ok (.aload_n 0, 1) := by decide +kernel
theorem jd_Branchwork_many_57 : decode mi_Branchwork_many.2.1 57 = .ok (.getfield 12, 3) := by decide +kernel
theorem jd_Branchwork_many_60 : decode mi_Branchwork_many.2.1 60 = .ok (.invokevirtual 134, 3) := by decide +kernel
theorem jd_Branchwork_many_63 : decode mi_Branchwork_many.2.1 63 = .ok (.ireturn, 1) := by decide +kernel
theorem jd_Branchwork_many_64 : decode mi_Branchwork_many.2.1 64 = .ok (.aload_n 0, 1) := by decide +kernel
theorem jd_Branchwork_many_65 : decode mi_Branchwork_many.2.1 65 = .ok (.getfield 33, 3) := by decide +kernel
theorem jd_Branchwork_many_68 : decode mi_Branchwork_many.2.1 68 = .ok (.invokevirtual 153, 3) := by decide +kernel
theorem jd_Branchwork_many_71 : decode mi_Branchwork_many.2.1 71 = .ok (.ireturn, 1) := by decide +kernel
theorem jd_Branchwork_many_72 : decode mi_Branchwork_many.2.1 72 = .ok (.aload_n 0, 1) := by decide +kernel
theorem jd_Branchwork_many_73 : decode mi_Branchwork_many.2.1 73 = .ok (.getfield 19, 3) := by decide +kernel
theorem jd_Branchwork_many_76 : decode mi_Branchwork_many.2.1 76 = .ok (.aload_n 0, 1) := by decide +kernel
theorem jd_Branchwork_many_77 : decode mi_Branchwork_many.2.1 77 = .ok (.getfield 19, 3) := by decide +kernel
theorem jd_Branchwork_many_80 : decode mi_Branchwork_many.2.1 80 = .ok (.invokevirtual 220, 3) := by decide +kernel
theorem jd_Branchwork_many_83 : decode mi_Branchwork_many.2.1 83 = .ok (.invokevirtual 229, 3) := by decide +kernel
theorem jd_Branchwork_many_86 : decode mi_Branchwork_many.2.1 86 = .ok (.ireturn, 1) := by decide +kernel
theorem jd_Branchwork_many_87 : decode mi_Branchwork_many.2.1 87 = .ok (.aload_n 0, 1) := by decide +kernel
theorem jd_Branchwork_many_88 : decode mi_Branchwork_many.2.1 88 = .ok (.getfield 19, 3) := by decide +kernel
theorem jd_Branchwork_many_91 : decode mi_Branchwork_many.2.1 91 = .ok (.aload_n 0, 1) := by decide +kernel
theorem jd_Branchwork_many_92 : decode mi_Branchwork_many.2.1 92 = .ok (.getfield 19, 3) := by decide +kernel
theorem jd_Branchwork_many_95 : decode mi_Branchwork_many.2.1 95 = .ok (.invokevirtual 220, 3) := by decide +kernel
theorem jd_Branchwork_many_98 : decode mi_Branchwork_many.2.1 98 = .ok (.invokevirtual 232, 3) := by decide +kernel
theorem jd_Branchwork_many_101 : decode mi_Branchwork_many.2.1 101 = .ok (.ireturn, 1) := by decide +kernel
theorem jd_Branchwork_many_102 : decode mi_Branchwork_many.2.1 102 = .ok (.new 92, 3) := by decide +kernel
theorem jd_Branchwork_many_105 : decode mi_Branchwork_many.2.1 105 = .ok (.dup, 1) := by decide +kernel
theorem jd_Branchwork_many_106 : decode mi_Branchwork_many.2.1 106 = .ok (.ldc 235, 2) := by decide +kernel
theorem jd_Branchwork_many_108 : decode mi_Branchwork_many.2.1 108 = .ok (.invokespecial 96, 3) := by decide +kernel
theorem jd_Branchwork_many_111 : decode mi_Branchwork_many.2.1 111 = .ok (.athrow, 1) := by decide +kernel
theorem jd_Branchwork_now_0 : decode mi_Branchwork_now.2.1 0 = .ok (.iload_n 1, 1) := by decide +kernel
theorem jd_Branchwork_now_1 : decode mi_Branchwork_now.2.1 1 = .ok (.tableswitch 42 0 2 #[27, 32, 37], 27) := by decide +kernel
theorem jd_Branchwork_now_28 : decode mi_Branchwork_now.2.1 28 = .ok (.aload_n 0, 1) := by decide +kernel
theorem jd_Branchwork_now_29 : decode mi_Branchwork_now.2.1 29 = .ok (.getfield 59, 3) := by decide +kernel
theorem jd_Branchwork_now_32 : decode mi_Branchwork_now.2.1 32 = .ok (.ireturn, 1) := by decide +kernel
theorem jd_Branchwork_now_33 : decode mi_Branchwork_now.2.1 33 = .ok (.aload_n 0, 1) := by decide +kernel
theorem jd_Branchwork_now_34 : decode mi_Branchwork_now.2.1 34 = .ok (.invokevirtual 137, 3) := by decide +kernel
theorem jd_Branchwork_now_37 : decode mi_Branchwork_now.2.1 37 = .ok (.ireturn, 1) := by decide +kernel
theorem jd_Branchwork_now_38 : decode mi_Branchwork_now.2.1 38 = .ok (.aload_n 0, 1) := by decide +kernel
theorem jd_Branchwork_now_39 : decode mi_Branchwork_now.2.1 39 = .ok (.getfield 62, 3) := by decide +kernel
theorem jd_Branchwork_now_42 : decode mi_Branchwork_now.2.1 42 = .ok (.ireturn, 1) := by decide +kernel
theorem jd_Branchwork_now_43 : decode mi_Branchwork_now.2.1 43 = .ok (.new 92, 3) := by decide +kernel
theorem jd_Branchwork_now_46 : decode mi_Branchwork_now.2.1 46 = .ok (.dup, 1) := by decide +kernel
theorem jd_Branchwork_now_47 : decode mi_Branchwork_now.2.1 47 = .ok (.ldc 237, 2) := by decide +kernel
theorem jd_Branchwork_now_49 : decode mi_Branchwork_now.2.1 49 = .ok (.invokespecial 96, 3) := by decide +kernel
theorem jd_Branchwork_now_52 : decode mi_Branchwork_now.2.1 52 = .ok (.athrow, 1) := by decide +kernel
theorem jd_Branchwork_at_0 : decode mi_Branchwork_at.2.1 0 = .ok (.aload_n 0, 1) := by decide +kernel
theorem jd_Branchwork_at_1 : decode mi_Branchwork_at.2.1 1 = .ok (.iload_n 1, 1) := by decide +kernel
theorem jd_Branchwork_at_2 : decode mi_Branchwork_at.2.1 2 = .ok (.invokevirtual 171, 3) := by decide +kernel
theorem jd_Branchwork_at_5 : decode mi_Branchwork_at.2.1 5 = .ok (.aload_n 0, 1) := by decide +kernel
theorem jd_Branchwork_at_6 : decode mi_Branchwork_at.2.1 6 = .ok (.getfield 51, 3) := by decide +kernel
theorem jd_Branchwork_at_9 : decode mi_Branchwork_at.2.1 9 = .ok (.iload_n 1, 1) := by decide +kernel
theorem jd_Branchwork_at_10 : decode mi_Branchwork_at.2.1 10 = .ok (.iaload, 1) := by decide +kernel
theorem jd_Branchwork_at_11 : decode mi_Branchwork_at.2.1 11 = .ok (.ireturn, 1) := by decide +kernel
theorem jd_Branchwork_ofCommit_0 : decode mi_Branchwork_ofCommit.2.1 0 = .ok (.aload_n 0, 1) := by decide +kernel
theorem jd_Branchwork_ofCommit_1 : decode mi_Branchwork_ofCommit.2.1 1 = .ok (.iload_n 1, 1) := by decide +kernel
theorem jd_Branchwork_ofCommit_2 : decode mi_Branchwork_ofCommit.2.1 2 = .ok (.invokevirtual 180, 3) := by decide +kernel
theorem jd_Branchwork_ofCommit_5 : decode mi_Branchwork_ofCommit.2.1 5 = .ok (.iload_n 2, 1) := by decide +kernel
theorem jd_Branchwork_ofCommit_6 : decode mi_Branchwork_ofCommit.2.1 6 = .ok (.tableswitch 106 0 5 #[38, 47, 56, 65, 77, 89], 38) := by decide +kernel
theorem jd_Branchwork_ofCommit_44 : decode mi_Branchwork_ofCommit.2.1 44 = .ok (.aload_n 0, 1) := by decide +kernel
theorem jd_Branchwork_ofCommit_45 : decode mi_Branchwork_ofCommit.2.1 45 = .ok (.getfield 19, 3) := by decide +kernel
theorem jd_Branchwork_ofCommit_48 : decode mi_Branchwork_ofCommit.2.1 48 = .ok (.iload_n 1, 1) := by decide +kernel
theorem jd_Branchwork_ofCommit_49 : decode mi_Branchwork_ofCommit.2.1 49 = .ok (.invokevirtual 239, 3) := by decide +kernel
theorem jd_Branchwork_ofCommit_52 : decode mi_Branchwork_ofCommit.2.1 52 = .ok (.ireturn, 1) := by decide +kernel
theorem jd_Branchwork_ofCommit_53 : decode mi_Branchwork_ofCommit.2.1 53 = .ok (.aload_n 0, 1) := by decide +kernel
theorem jd_Branchwork_ofCommit_54 : decode mi_Branchwork_ofCommit.2.1 54 = .ok (.getfield 19, 3) := by decide +kernel
theorem jd_Branchwork_ofCommit_57 : decode mi_Branchwork_ofCommit.2.1 57 = .ok (.iload_n 1, 1) := by decide +kernel
theorem jd_Branchwork_ofCommit_58 : decode mi_Branchwork_ofCommit.2.1 58 = .ok (.invokevirtual 242, 3) := by decide +kernel
theorem jd_Branchwork_ofCommit_61 : decode mi_Branchwork_ofCommit.2.1 61 = .ok (.ireturn, 1) := by decide +kernel
theorem jd_Branchwork_ofCommit_62 : decode mi_Branchwork_ofCommit.2.1 62 = .ok (.aload_n 0, 1) := by decide +kernel
theorem jd_Branchwork_ofCommit_63 : decode mi_Branchwork_ofCommit.2.1 63 = .ok (.getfield 19, 3) := by decide +kernel
theorem jd_Branchwork_ofCommit_66 : decode mi_Branchwork_ofCommit.2.1 66 = .ok (.iload_n 1, 1) := by decide +kernel
theorem jd_Branchwork_ofCommit_67 : decode mi_Branchwork_ofCommit.2.1 67 = .ok (.invokevirtual 245, 3) := by decide +kernel
theorem jd_Branchwork_ofCommit_70 : decode mi_Branchwork_ofCommit.2.1 70 = .ok (.ireturn, 1) := by decide +kernel
theorem jd_Branchwork_ofCommit_71 : decode mi_Branchwork_ofCommit.2.1 71 = .ok (.aload_n 0, 1) := by decide +kernel
theorem jd_Branchwork_ofCommit_72 : decode mi_Branchwork_ofCommit.2.1 72 = .ok (.getfield 19, 3) := by decide +kernel
theorem jd_Branchwork_ofCommit_75 : decode mi_Branchwork_ofCommit.2.1 75 = .ok (.iload_n 1, 1) := by decide +kernel
theorem jd_Branchwork_ofCommit_76 : decode mi_Branchwork_ofCommit.2.1 76 = .ok (.invokevirtual 140, 3) := by decide +kernel
theorem jd_Branchwork_ofCommit_79 : decode mi_Branchwork_ofCommit.2.1 79 = .ok (.invokevirtual 134, 3) := by decide +kernel
theorem jd_Branchwork_ofCommit_82 : decode mi_Branchwork_ofCommit.2.1 82 = .ok (.ireturn, 1) := by decide +kernel
theorem jd_Branchwork_ofCommit_83 : decode mi_Branchwork_ofCommit.2.1 83 = .ok (.aload_n 0, 1) := by decide +kernel
theorem jd_Branchwork_ofCommit_84 : decode mi_Branchwork_ofCommit.2.1 84 = .ok (.getfield 19, 3) := by decide +kernel
theorem jd_Branchwork_ofCommit_87 : decode mi_Branchwork_ofCommit.2.1 87 = .ok (.iload_n 1, 1) := by decide +kernel
theorem jd_Branchwork_ofCommit_88 : decode mi_Branchwork_ofCommit.2.1 88 = .ok (.invokevirtual 248, 3) := by decide +kernel
theorem jd_Branchwork_ofCommit_91 : decode mi_Branchwork_ofCommit.2.1 91 = .ok (.invokestatic 223, 3) := by decide +kernel
theorem jd_Branchwork_ofCommit_94 : decode mi_Branchwork_ofCommit.2.1 94 = .ok (.ireturn, 1) := by decide +kernel
theorem jd_Branchwork_ofCommit_95 : decode mi_Branchwork_ofCommit.2.1 95 = .ok (.iload_n 1, 1) := by decide +kernel
theorem jd_Branchwork_ofCommit_96 : decode mi_Branchwork_ofCommit.2.1 96 = .ok (.aload_n 0, 1) := by decide +kernel
theorem jd_Branchwork_ofCommit_97 : decode mi_Branchwork_ofCommit.2.1 97 = .ok (.invokevirtual 214, 3) := by decide +kernel
theorem jd_Branchwork_ofCommit_100 : decode mi_Branchwork_ofCommit.2.1 100 = .ok (.invokestatic 251, 3) := by decide +kernel
theorem jd_Branchwork_ofCommit_103 : decode mi_Branchwork_ofCommit.2.1 103 = .ok (.ifCond .eq 7, 3) := by decide +kernel
theorem jd_Branchwork_ofCommit_106 : decode mi_Branchwork_ofCommit.2.1 106 = .ok (.iconst 1, 1) := by decide +kernel
theorem jd_Branchwork_ofCommit_107 : decode mi_Branchwork_ofCommit.2.1 107 = .ok (.goto 4, 3) := by decide +kernel
theorem jd_Branchwork_ofCommit_110 : decode mi_Branchwork_ofCommit.2.1 110 = .ok (.iconst 0, 1) := by decide +kernel
theorem jd_Branchwork_ofCommit_111 : decode mi_Branchwork_ofCommit.2.1 111 = .ok (.ireturn, 1) := by decide +kernel
theorem jd_Branchwork_ofCommit_112 : decode mi_Branchwork_ofCommit.2.1 112 = .ok (.new 92, 3) := by decide +kernel
theorem jd_Branchwork_ofCommit_115 : decode mi_Branchwork_ofCommit.2.1 115 = .ok (.dup, 1) := by decide +kernel
theorem jd_Branchwork_ofCommit_116 : decode mi_Branchwork_ofCommit.2.1 116 = .ok (.ldc 235, 2) := by decide +kernel
theorem jd_Branchwork_ofCommit_118 : decode mi_Branchwork_ofCommit.2.1 118 = .ok (.invokespecial 96, 3) := by decide +kernel
theorem jd_Branchwork_ofCommit_121 : decode mi_Branchwork_ofCommit.2.1 121 = .ok (.athrow, 1) := by decide +kernel
theorem jd_Branchwork_fileToShow_0 : decode mi_Branchwork_fileToShow.2.1 0 = .ok (.iload_n 1, 1) := by decide +kernel
theorem jd_Branchwork_fileToShow_1 : decode mi_Branchwork_fileToShow.2.1 1 = .ok (.iconst (-1), 1) := by decide +kernel
theorem jd_Branchwork_fileToShow_2 : decode mi_Branchwork_fileToShow.2.1 2 = .ok (.if_icmp .eq 8, 3) := by decide +kernel
theorem jd_Branchwork_fileToShow_5 : decode mi_Branchwork_fileToShow.2.1 5 = .ok (.aload_n 0, 1) := by decide +kernel
theorem jd_Branchwork_fileToShow_6 : decode mi_Branchwork_fileToShow.2.1 6 = .ok (.iload_n 1, 1) := by decide +kernel
theorem jd_Branchwork_fileToShow_7 : decode mi_Branchwork_fileToShow.2.1 7 = .ok (.invokevirtual 180, 3) := by decide +kernel
theorem jd_Branchwork_fileToShow_10 : decode mi_Branchwork_fileToShow.2.1 10 = .ok (.iload_n 2, 1) := by decide +kernel
theorem jd_Branchwork_fileToShow_11 : decode mi_Branchwork_fileToShow.2.1 11 = .ok (.invokestatic 71, 3) := by decide +kernel
theorem jd_Branchwork_fileToShow_14 : decode mi_Branchwork_fileToShow.2.1 14 = .ok (.iload_n 1, 1) := by decide +kernel
theorem jd_Branchwork_fileToShow_15 : decode mi_Branchwork_fileToShow.2.1 15 = .ok (.iconst (-1), 1) := by decide +kernel
theorem jd_Branchwork_fileToShow_16 : decode mi_Branchwork_fileToShow.2.1 16 = .ok (.if_icmp .ne 14, 3) := by decide +kernel
theorem jd_Branchwork_fileToShow_19 : decode mi_Branchwork_fileToShow.2.1 19 = .ok (.aload_n 0, 1) := by decide +kernel
theorem jd_Branchwork_fileToShow_20 : decode mi_Branchwork_fileToShow.2.1 20 = .ok (.getfield 12, 3) := by decide +kernel
theorem jd_Branchwork_fileToShow_23 : decode mi_Branchwork_fileToShow.2.1 23 = .ok (.iload_n 2, 1) := by decide +kernel
theorem jd_Branchwork_fileToShow_24 : decode mi_Branchwork_fileToShow.2.1 24 = .ok (.invokevirtual 75, 3) := by decide +kernel
theorem jd_Branchwork_fileToShow_27 : decode mi_Branchwork_fileToShow.2.1 27 = .ok (.goto 15, 3) := by decide +kernel
theorem jd_Branchwork_fileToShow_30 : decode mi_Branchwork_fileToShow.2.1 30 = .ok (.aload_n 0, 1) := by decide +kernel
theorem jd_Branchwork_fileToShow_31 : decode mi_Branchwork_fileToShow.2.1 31 = .ok (.getfield 19, 3) := by decide +kernel
theorem jd_Branchwork_fileToShow_34 : decode mi_Branchwork_fileToShow.2.1 34 = .ok (.iload_n 1, 1) := by decide +kernel
theorem jd_Branchwork_fileToShow_35 : decode mi_Branchwork_fileToShow.2.1 35 = .ok (.invokevirtual 140, 3) := by decide +kernel
theorem jd_Branchwork_fileToShow_38 : decode mi_Branchwork_fileToShow.2.1 38 = .ok (.iload_n 2, 1) := by decide +kernel
theorem jd_Branchwork_fileToShow_39 : decode mi_Branchwork_fileToShow.2.1 39 = .ok (.invokevirtual 75, 3) := by decide +kernel
theorem jd_Branchwork_fileToShow_42 : decode mi_Branchwork_fileToShow.2.1 42 = .ok (.areturn, 1) := by decide +kernel
theorem jd_Branchwork_size_0 : decode mi_Branchwork_size.2.1 0 = .ok (.aload_n 0, 1) := by decide +kernel
theorem jd_Branchwork_size_1 : decode mi_Branchwork_size.2.1 1 = .ok (.iload_n 1, 1) := by decide +kernel
theorem jd_Branchwork_size_2 : decode mi_Branchwork_size.2.1 2 = .ok (.iload_n 2, 1) := by decide +kernel
theorem jd_Branchwork_size_3 : decode mi_Branchwork_size.2.1 3 = .ok (.invokevirtual 255, 3) := by decide +kernel
theorem jd_Branchwork_size_6 : decode mi_Branchwork_size.2.1 6 = .ok (.astore_n 3, 1) := by decide +kernel
theorem jd_Branchwork_size_7 : decode mi_Branchwork_size.2.1 7 = .ok (.aload_n 3, 1) := by decide +kernel
theorem jd_Branchwork_size_8 : decode mi_Branchwork_size.2.1 8 = .ok (.invokevirtual 259, 3) := by decide +kernel
theorem jd_Branchwork_size_11 : decode mi_Branchwork_size.2.1 11 = .ok (.ifCond .eq 10, 3) := by decide +kernel
theorem jd_Branchwork_size_14 : decode mi_Branchwork_size.2.1 14 = .ok (.aload_n 3, 1) := by decide +kernel
theorem jd_Branchwork_size_15 : decode mi_Branchwork_size.2.1 15 = .ok (.invokevirtual 79, 3) := by decide +kernel
theorem jd_Branchwork_size_18 : decode mi_Branchwork_size.2.1 18 = .ok (.goto 4, 3) := by decide +kernel
theorem jd_Branchwork_size_21 : decode mi_Branchwork_size.2.1 21 = .ok (.iconst (-1), 1) := by decide +kernel
theorem jd_Branchwork_size_22 : decode mi_Branchwork_size.2.1 22 = .ok (.ireturn, 1) := by decide +kernel
theorem jd_Branchwork_status_0 : decode mi_Branchwork_status.2.1 0 = .ok (.iload_n 1, 1) := by decide +kernel
theorem jd_Branchwork_status_1 : decode mi_Branchwork_status.2.1 1 = .ok (.invokestatic 71, 3) := by decide +kernel
theorem jd_Branchwork_status_4 : decode mi_Branchwork_status.2.1 4 = .ok (.aload_n 0, 1) := by decide +kernel
theorem jd_Branchwork_status_5 : decode mi_Branchwork_status.2.1 5 = .ok (.getfield 19, 3) := by decide +kernel
theorem jd_Branchwork_status_8 : decode mi_Branchwork_status.2.1 8 = .ok (.aload_n 0, 1) := by decide +kernel
theorem jd_Branchwork_status_9 : decode mi_Branchwork_status.2.1 9 = .ok (.invokevirtual 137, 3) := by decide +kernel
theorem jd_Branchwork_status_12 : decode mi_Branchwork_status.2.1 12 = .ok (.invokevirtual 140, 3) := by decide +kernel
theorem jd_Branchwork_status_15 : decode mi_Branchwork_status.2.1 15 = .ok (.astore_n 2, 1) := by decide +kernel
theorem jd_Branchwork_status_16 : decode mi_Branchwork_status.2.1 16 = .ok (.aload_n 0, 1) := by decide +kernel
theorem jd_Branchwork_status_17 : decode mi_Branchwork_status.2.1 17 = .ok (.getfield 12, 3) := by decide +kernel
theorem jd_Branchwork_status_20 : decode mi_Branchwork_status.2.1 20 = .ok (.iload_n 1, 1) := by decide +kernel
theorem jd_Branchwork_status_21 : decode mi_Branchwork_status.2.1 21 = .ok (.invokevirtual 75, 3) := by decide +kernel
theorem jd_Branchwork_status_24 : decode mi_Branchwork_status.2.1 24 = .ok (.aload_n 2, 1) := by decide +kernel
theorem jd_Branchwork_status_25 : decode mi_Branchwork_status.2.1 25 = .ok (.iload_n 1, 1) := by decide +kernel
theorem jd_Branchwork_status_26 : decode mi_Branchwork_status.2.1 26 = .ok (.invokevirtual 75, 3) := by decide +kernel
theorem jd_Branchwork_status_29 : decode mi_Branchwork_status.2.1 29 = .ok (.invokevirtual 144, 3) := by decide +kernel
theorem jd_Branchwork_status_32 : decode mi_Branchwork_status.2.1 32 = .ok (.ifCond .eq 5, 3) := by decide +kernel
theorem jd_Branchwork_status_35 : decode mi_Branchwork_status.2.1 35 = .ok (.iconst 0, 1) := by decide +kernel
theorem jd_Branchwork_status_36 : decode mi_Branchwork_status.2.1 36 = .ok (.ireturn, 1) := by decide +kernel
theorem jd_Branchwork_status_37 : decode mi_Branchwork_status.2.1 37 = .ok (.aload_n 2, 1) := by decide +kernel
theorem jd_Branchwork_status_38 : decode mi_Branchwork_status.2.1 38 = .ok (.iload_n 1, 1) := by decide +kernel
theorem jd_Branchwork_status_39 : decode mi_Branchwork_status.2.1 39 = .ok (.invokevirtual 121, 3) := by decide +kernel
theorem jd_Branchwork_status_42 : decode mi_Branchwork_status.2.1 42 = .ok (.ifCond .ne 5, 3) := by decide +kernel
theorem jd_Branchwork_status_45 : decode mi_Branchwork_status.2.1 45 = .ok (.iconst 1, 1) := by decide +kernel
theorem jd_Branchwork_status_46 : decode mi_Branchwork_status.2.1 46 = .ok (.ireturn, 1) := by decide +kernel
theorem jd_Branchwork_status_47 : decode mi_Branchwork_status.2.1 47 = .ok (.aload_n 0, 1) := by decide +kernel
theorem jd_Branchwork_status_48 : decode mi_Branchwork_status.2.1 48 = .ok (.getfield 12, 3) := by decide +kernel
theorem jd_Branchwork_status_51 : decode mi_Branchwork_status.2.1 51 = .ok (.iload_n 1, 1) := by decide +kernel
theorem jd_Branchwork_status_52 : decode mi_Branchwork_status.2.1 52 = .ok (.invokevirtual 121, 3) := by decide +kernel
theorem jd_Branchwork_status_55 : decode mi_Branchwork_status.2.1 55 = .ok (.ifCond .eq 7, 3) := by decide +kernel
theorem jd_Branchwork_status_58 : decode mi_Branchwork_status.2.1 58 = .ok (.iconst 2, 1) := by decide +kernel
theorem jd_Branchwork_status_59 : decode mi_Branchwork_status.2.1 59 = .ok (.goto 4, 3) := by decide +kernel
theorem jd_Branchwork_status_62 : decode mi_Branchwork_status.2.1 62 = .ok (.iconst 3, 1) := by decide +kernel
theorem jd_Branchwork_status_63 : decode mi_Branchwork_status.2.1 63 = .ok (.ireturn, 1) := by decide +kernel
theorem jd_Branchwork_conflict_0 : decode mi_Branchwork_conflict.2.1 0 = .ok (.aload_n 0, 1) := by decide +kernel
theorem jd_Branchwork_conflict_1 : decode mi_Branchwork_conflict.2.1 1 = .ok (.iload_n 1, 1) := by decide +kernel
theorem jd_Branchwork_conflict_2 : decode mi_Branchwork_conflict.2.1 2 = .ok (.invokevirtual 205, 3) := by decide +kernel
theorem jd_Branchwork_conflict_5 : decode mi_Branchwork_conflict.2.1 5 = .ok (.iload_n 2, 1) := by decide +kernel
theorem jd_Branchwork_conflict_6 : decode mi_Branchwork_conflict.2.1 6 = .ok (.lookupswitch 44 #[(0, 26), (1, 35)], 26) := by decide +kernel
theorem jd_Branchwork_conflict_32 : decode mi_Branchwork_conflict.2.1 32 = .ok (.aload_n 0, 1) := by decide +kernel
theorem jd_Branchwork_conflict_33 : decode mi_Branchwork_conflict.2.1 33 = .ok (.getfield 33, 3) := by decide +kernel
theorem jd_Branchwork_conflict_36 : decode mi_Branchwork_conflict.2.1 36 = .ok (.iload_n 1, 1) := by decide +kernel
theorem jd_Branchwork_conflict_37 : decode mi_Branchwork_conflict.2.1 37 = .ok (.invokevirtual 265, 3) := by decide +kernel
theorem jd_Branchwork_conflict_40 : decode mi_Branchwork_conflict.2.1 40 = .ok (.ireturn, 1) := by decide +kernel
theorem jd_Branchwork_conflict_41 : decode mi_Branchwork_conflict.2.1 41 = .ok (.aload_n 0, 1) := by decide +kernel
theorem jd_Branchwork_conflict_42 : decode mi_Branchwork_conflict.2.1 42 = .ok (.getfield 33, 3) := by decide +kernel
theorem jd_Branchwork_conflict_45 : decode mi_Branchwork_conflict.2.1 45 = .ok (.iload_n 1, 1) := by decide +kernel
theorem jd_Branchwork_conflict_46 : decode mi_Branchwork_conflict.2.1 46 = .ok (.invokevirtual 268, 3) := by decide +kernel
theorem jd_Branchwork_conflict_49 : decode mi_Branchwork_conflict.2.1 49 = .ok (.ireturn, 1) := by decide +kernel
theorem jd_Branchwork_conflict_50 : decode mi_Branchwork_conflict.2.1 50 = .ok (.new 92, 3) := by decide +kernel
theorem jd_Branchwork_conflict_53 : decode mi_Branchwork_conflict.2.1 53 = .ok (.dup, 1) := by decide +kernel
theorem jd_Branchwork_conflict_54 : decode mi_Branchwork_conflict.2.1 54 = .ok (.ldc_w 271, 3) := by decide +kernel
theorem jd_Branchwork_conflict_57 : decode mi_Branchwork_conflict.2.1 57 = .ok (.invokespecial 96, 3) := by decide +kernel
theorem jd_Branchwork_conflict_60 : decode mi_Branchwork_conflict.2.1 60 = .ok (.athrow, 1) := by decide +kernel
theorem jd_Branchwork_base_0 : decode mi_Branchwork_base.2.1 0 = .ok (.aload_n 0, 1) := by decide +kernel
theorem jd_Branchwork_base_1 : decode mi_Branchwork_base.2.1 1 = .ok (.iload_n 1, 1) := by decide +kernel
theorem jd_Branchwork_base_2 : decode mi_Branchwork_base.2.1 2 = .ok (.invokevirtual 180, 3) := by decide +kernel
theorem jd_Branchwork_base_5 : decode mi_Branchwork_base.2.1 5 = .ok (.aload_n 0, 1) := by decide +kernel
theorem jd_Branchwork_base_6 : decode mi_Branchwork_base.2.1 6 = .ok (.iload_n 2, 1) := by decide +kernel
theorem jd_Branchwork_base_7 : decode mi_Branchwork_base.2.1 7 = .ok (.invokevirtual 180, 3) := by decide +kernel
theorem jd_Branchwork_base_10 : decode mi_Branchwork_base.2.1 10 = .ok (.aload_n 0, 1) := by decide +kernel
theorem jd_Branchwork_base_11 : decode mi_Branchwork_base.2.1 11 = .ok (.getfield 19, 3) := by decide +kernel
theorem jd_Branchwork_base_14 : decode mi_Branchwork_base.2.1 14 = .ok (.iload_n 1, 1) := by decide +kernel
theorem jd_Branchwork_base_15 : decode mi_Branchwork_base.2.1 15 = .ok (.iload_n 2, 1) := by decide +kernel
theorem jd_Branchwork_base_16 : decode mi_Branchwork_base.2.1 16 = .ok (.invokevirtual 186, 3) := by decide +kernel
theorem jd_Branchwork_base_19 : decode mi_Branchwork_base.2.1 19 = .ok (.ireturn, 1) := by decide +kernel
theorem jd_Branchwork_went_0 : decode mi_Branchwork_went.2.1 0 = .ok (.aload_n 0, 1) := by decide +kernel
theorem jd_Branchwork_went_1 : decode mi_Branchwork_went.2.1 1 = .ok (.iload_n 1, 1) := by decide +kernel
theorem jd_Branchwork_went_2 : decode mi_Branchwork_went.2.1 2 = .ok (.invokevirtual 180, 3) := by decide +kernel
theorem jd_Branchwork_went_5 : decode mi_Branchwork_went.2.1 5 = .ok (.aload_n 0, 1) := by decide +kernel
theorem jd_Branchwork_went_6 : decode mi_Branchwork_went.2.1 6 = .ok (.iload_n 2, 1) := by decide +kernel
theorem jd_Branchwork_went_7 : decode mi_Branchwork_went.2.1 7 = .ok (.invokevirtual 180, 3) := by decide +kernel
theorem jd_Branchwork_went_10 : decode mi_Branchwork_went.2.1 10 = .ok (.iload_n 3, 1) := by decide +kernel
theorem jd_Branchwork_went_11 : decode mi_Branchwork_went.2.1 11 = .ok (.invokestatic 71, 3) := by decide +kernel
theorem jd_Branchwork_went_14 : decode mi_Branchwork_went.2.1 14 = .ok (.aload_n 0, 1) := by decide +kernel
theorem jd_Branchwork_went_15 : decode mi_Branchwork_went.2.1 15 = .ok (.getfield 19, 3) := by decide +kernel
theorem jd_Branchwork_went_18 : decode mi_Branchwork_went.2.1 18 = .ok (.iload_n 1, 1) := by decide +kernel
theorem jd_Branchwork_went_19 : decode mi_Branchwork_went.2.1 19 = .ok (.invokevirtual 140, 3) := by decide +kernel
theorem jd_Branchwork_went_22 : decode mi_Branchwork_went.2.1 22 = .ok (.iload_n 3, 1) := by decide +kernel
theorem jd_Branchwork_went_23 : decode mi_Branchwork_went.2.1 23 = .ok (.invokevirtual 121, 3) := by decide +kernel
theorem jd_Branchwork_went_26 : decode mi_Branchwork_went.2.1 26 = .ok (.ifCond .ne 6, 3) := by decide +kernel
theorem jd_Branchwork_went_29 : decode mi_Branchwork_went.2.1 29 = .ok (.bipush (-2), 2) := by decide +kernel
theorem jd_Branchwork_went_31 : decode mi_Branchwork_went.2.1 31 = .ok (.ireturn, 1) := by decide +kernel
theorem jd_Branchwork_went_32 : decode mi_Branchwork_went.2.1 32 = .ok (.aload_n 0, 1) := by decide +kernel
theorem jd_Branchwork_went_33 : decode mi_Branchwork_went.2.1 33 = .ok (.getfield 40, 3) := by decide +kernel
theorem jd_Branchwork_went_36 : decode mi_Branchwork_went.2.1 36 = .ok (.aload_n 0, 1) := by decide +kernel
theorem jd_Branchwork_went_37 : decode mi_Branchwork_went.2.1 37 = .ok (.getfield 19, 3) := by decide +kernel
theorem jd_Branchwork_went_40 : decode mi_Branchwork_went.2.1 40 = .ok (.iload_n 1, 1) := by decide +kernel
theorem jd_Branchwork_went_41 : decode mi_Branchwork_went.2.1 41 = .ok (.invokevirtual 140, 3) := by decide +kernel
theorem jd_Branchwork_went_44 : decode mi_Branchwork_went.2.1 44 = .ok (.aload_n 0, 1) := by decide +kernel
theorem jd_Branchwork_went_45 : decode mi_Branchwork_went.2.1 45 = .ok (.getfield 19, 3) := by decide +kernel
theorem jd_Branchwork_went_48 : decode mi_Branchwork_went.2.1 48 = .ok (.iload_n 2, 1) := by decide +kernel
theorem jd_Branchwork_went_49 : decode mi_Branchwork_went.2.1 49 = .ok (.invokevirtual 140, 3) := by decide +kernel
theorem jd_Branchwork_went_52 : decode mi_Branchwork_went.2.1 52 = .ok (.invokevirtual 273, 3) := by decide +kernel
theorem jd_Branchwork_went_55 : decode mi_Branchwork_went.2.1 55 = .ok (.aload_n 0, 1) := by decide +kernel
theorem jd_Branchwork_went_56 : decode mi_Branchwork_went.2.1 56 = .ok (.getfield 40, 3) := by decide +kernel
theorem jd_Branchwork_went_59 : decode mi_Branchwork_went.2.1 59 = .ok (.iload_n 3, 1) := by decide +kernel
theorem jd_Branchwork_went_60 : decode mi_Branchwork_went.2.1 60 = .ok (.invokevirtual 277, 3) := by decide +kernel
theorem jd_Branchwork_went_63 : decode mi_Branchwork_went.2.1 63 = .ok (.ireturn, 1) := by decide +kernel
theorem jd_Branchwork_changes_0 : decode mi_Branchwork_changes.2.1 0 = .ok (.aload_n 0, 1) := by decide +kernel
theorem jd_Branchwork_changes_1 : decode mi_Branchwork_changes.2.1 1 = .ok (.iload_n 1, 1) := by decide +kernel
theorem jd_Branchwork_changes_2 : decode mi_Branchwork_changes.2.1 2 = .ok (.invokevirtual 180, 3) := by decide +kernel
theorem jd_Branchwork_changes_5 : decode mi_Branchwork_changes.2.1 5 = .ok (.aload_n 0, 1) := by decide +kernel
theorem jd_Branchwork_changes_6 : decode mi_Branchwork_changes.2.1 6 = .ok (.iload_n 2, 1) := by decide +kernel
theorem jd_Branchwork_changes_7 : decode mi_Branchwork_changes.2.1 7 = .ok (.invokevirtual 180, 3) := by decide +kernel
theorem jd_Branchwork_changes_10 : decode mi_Branchwork_changes.2.1 10 = .ok (.iload_n 3, 1) := by decide +kernel
theorem jd_Branchwork_changes_11 : decode mi_Branchwork_changes.2.1 11 = .ok (.ifCond .lt 8, 3) := by decide +kernel
theorem jd_Branchwork_changes_14 : decode mi_Branchwork_changes.2.1 14 = .ok (.iload_n 3, 1) := by decide +kernel
theorem jd_Branchwork_changes_15 : decode mi_Branchwork_changes.2.1 15 = .ok (.iconst 3, 1) := by decide +kernel
theorem jd_Branchwork_changes_16 : decode mi_Branchwork_changes.2.1 16 = .ok (.if_icmp .le 14, 3) := by decide +kernel
theorem jd_Branchwork_changes_19 : decode mi_Branchwork_changes.2.1 19 = .ok (.new 92, 3) := by decide +kernel
theorem jd_Branchwork_changes_22 : decode mi_Branchwork_changes.2.1 22 = .ok (.dup, 1) := by decide +kernel
theorem jd_Branchwork_changes_23 : decode mi_Branchwork_changes.2.1 23 = .ok (.ldc_w 280, 3) := by decide +kernel
theorem jd_Branchwork_changes_26 : decode mi_Branchwork_changes.2.1 26 = .ok (.invokespecial 96, 3) := by decide +kernel
theorem jd_Branchwork_changes_29 : decode mi_Branchwork_changes.2.1 29 = .ok (.athrow, 1) := by decide +kernel
theorem jd_Branchwork_changes_30 : decode mi_Branchwork_changes.2.1 30 = .ok (.aload_n 0, 1) := by decide +kernel
theorem jd_Branchwork_changes_31 : decode mi_Branchwork_changes.2.1 31 = .ok (.getfield 19, 3) := by decide +kernel
theorem jd_Branchwork_changes_34 : decode mi_Branchwork_changes.2.1 34 = .ok (.iload_n 1, 1) := by decide +kernel
theorem jd_Branchwork_changes_35 : decode mi_Branchwork_changes.2.1 35 = .ok (.invokevirtual 140, 3) := by decide +kernel
theorem jd_Branchwork_changes_38 : decode mi_Branchwork_changes.2.1 38 = .ok (.astore 4, 2) := by decide +kernel
theorem jd_Branchwork_changes_40 : decode mi_Branchwork_changes.2.1 40 = .ok (.aload_n 0, 1) := by decide +kernel
theorem jd_Branchwork_changes_41 : decode mi_Branchwork_changes.2.1 41 = .ok (.getfield 19, 3) := by decide +kernel
theorem jd_Branchwork_changes_44 : decode mi_Branchwork_changes.2.1 44 = .ok (.iload_n 2, 1) := by decide +kernel
theorem jd_Branchwork_changes_45 : decode mi_Branchwork_changes.2.1 45 = .ok (.invokevirtual 140, 3) := by decide +kernel
theorem jd_Branchwork_changes_48 : decode mi_Branchwork_changes.2.1 48 = .ok (.astore 5, 2) := by decide +kernel
theorem jd_Branchwork_changes_50 : decode mi_Branchwork_changes.2.1 50 = .ok (.aload_n 0, 1) := by decide +kernel
theorem jd_Branchwork_changes_51 : decode mi_Branchwork_changes.2.1 51 = .ok (.getfield 40, 3) := by decide +kernel
theorem jd_Branchwork_changes_54 : decode mi_Branchwork_changes.2.1 54 = .ok (.aload 4, 2) := by decide +kernel
theorem jd_Branchwork_changes_56 : decode mi_Branchwork_changes.2.1 56 = .ok (.aload 5, 2) := by decide +kernel
theorem jd_Branchwork_changes_58 : decode mi_Branchwork_changes.2.1 58 = .ok (.invokevirtual 273, 3) := by decide +kernel
theorem jd_Branchwork_changes_61 : decode mi_Branchwork_changes.2.1 61 = .ok (.iconst 0, 1) := by decide +kernel
theorem jd_Branchwork_changes_62 : decode mi_Branchwork_changes.2.1 62 = .ok (.istore 6, 2) := by decide +kernel
theorem jd_Branchwork_changes_64 : decode mi_Branchwork_changes.2.1 64 = .ok (.iconst 0, 1) := by decide +kernel
theorem jd_Branchwork_changes_65 : decode mi_Branchwork_changes.2.1 65 = .ok (.istore 7, 2) := by decide +kernel
theorem jd_Branchwork_changes_67 : decode mi_Branchwork_changes.2.1 67 = .ok (.iload 7, 2) := by decide +kernel
theorem jd_Branchwork_changes_69 : decode mi_Branchwork_changes.2.1 69 = .ok (.bipush 12, 2) := by decide +kernel
theorem jd_Branchwork_changes_71 : decode mi_Branchwork_changes.2.1 71 = .ok (.if_icmp .ge 26, 3) := by decide +kernel
theorem jd_Branchwork_changes_74 : decode mi_Branchwork_changes.2.1 74 = .ok (.aload_n 0, 1) := by decide +kernel
theorem jd_Branchwork_changes_75 : decode mi_Branchwork_changes.2.1 75 = .ok (.aload 4, 2) := by decide +kernel
theorem jd_Branchwork_changes_77 : decode mi_Branchwork_changes.2.1 77 = .ok (.aload 5, 2) := by decide +kernel
theorem jd_Branchwork_changes_79 : decode mi_Branchwork_changes.2.1 79 = .ok (.iload 7, 2) := by decide +kernel
theorem jd_Branchwork_changes_81 : decode mi_Branchwork_changes.2.1 81 = .ok (.invokevirtual 282, 3) := by decide +kernel
theorem jd_Branchwork_changes_84 : decode mi_Branchwork_changes.2.1 84 = .ok (.iload_n 3, 1) := by decide +kernel
theorem jd_Branchwork_changes_85 : decode mi_Branchwork_changes.2.1 85 = .ok (.if_icmp .ne 6, 3) := by decide +kernel
theorem jd_Branchwork_changes_88 : decode mi_Branchwork_changes.2.1 88 = .ok (.iinc 6 1, 3) := by decide +kernel
theorem jd_Branchwork_changes_91 : decode mi_Branchwork_changes.2.1 91 = .ok (.iinc 7 1, 3) := by decide +kernel
theorem jd_Branchwork_changes_94 : decode mi_Branchwork_changes.2.1 94 = .ok (.goto (-27), 3) := by decide +kernel
theorem jd_Branchwork_changes_97 : decode mi_Branchwork_changes.2.1 97 = .ok (.iload 6, 2) := by decide +kernel
theorem jd_Branchwork_changes_99 : decode mi_Branchwork_changes.2.1 99 = .ok (.iload_n 3, 1) := by decide +kernel
theorem jd_Branchwork_changes_100 : decode mi_Branchwork_changes.2.1 100 = .ok (.iconst 2, 1) := by decide +kernel
theorem jd_Branchwork_changes_101 : decode mi_Branchwork_changes.2.1 101 = .ok (.if_icmp .ne 13, 3) := by decide +kernel
theorem jd_Branchwork_changes_104 : decode mi_Branchwork_changes.2.1 104 = .ok (.aload_n 0, 1) := by decide +kernel
theorem jd_Branchwork_changes_105 : decode mi_Branchwork_changes.2.1 105 = .ok (.getfield 40, 3) := by decide +kernel
theorem jd_Branchwork_changes_108 : decode mi_Branchwork_changes.2.1 108 = .ok (.invokevirtual 286, 3) := by decide +kernel
theorem jd_Branchwork_changes_111 : decode mi_Branchwork_changes.2.1 111 = .ok (.goto 4, 3) := by decide +kernel
theorem jd_Branchwork_changes_114 : decode mi_Branchwork_changes.2.1 114 = .ok (.iconst 0, 1) := by decide +kernel
theorem jd_Branchwork_changes_115 : decode mi_Branchwork_changes.2.1 115 = .ok (.iadd, 1) := by decide +kernel
theorem jd_Branchwork_changes_116 : decode mi_Branchwork_changes.2.1 116 = .ok (.ireturn, 1) := by decide +kernel
theorem jd_Branchwork_kindOfChange_0 : decode mi_Branchwork_kindOfChange.2.1 0 = .ok (.aload_n 1, 1) := by decide +kernel
theorem jd_Branchwork_kindOfChange_1 : decode mi_Branchwork_kindOfChange.2.1 1 = .ok (.iload_n 3, 1) := by decide +kernel
theorem jd_Branchwork_kindOfChange_2 : decode mi_Branchwork_kindOfChange.2.1 2 = .ok (.invokevirtual 121, 3) := by decide +kernel
theorem jd_Branchwork_kindOfChange_5 : decode mi_Branchwork_kindOfChange.2.1 5 = .ok (.ifCond .eq 51, 3) := by decide +kernel
theorem jd_Branchwork_kindOfChange_8 : decode mi_Branchwork_kindOfChange.2.1 8 = .ok (.aload_n 2, 1) := by decide +kernel
theorem jd_Branchwork_kindOfChange_9 : decode mi_Branchwork_kindOfChange.2.1 9 = .ok (.iload_n 3, 1) := by decide +kernel
theorem jd_Branchwork_kindOfChange_10 : decode mi_Branchwork_kindOfChange.2.1 10 = .ok (.invokevirtual 121, 3) := by decide +kernel
theorem jd_Branchwork_kindOfChange_13 : decode mi_Branchwork_kindOfChange.2.1 13 = .ok (.ifCond .eq 25, 3) := by decide +kernel
theorem jd_Branchwork_kindOfChange_16 : decode mi_Branchwork_kindOfChange.2.1 16 = .ok (.aload_n 1, 1) := by decide +kernel
theorem jd_Branchwork_kindOfChange_17 : decode mi_Branchwork_kindOfChange.2.1 17 = .ok (.iload_n 3, 1) := by decide +kernel
theorem jd_Branchwork_kindOfChange_18 : decode mi_Branchwork_kindOfChange.2.1 18 = .ok (.invokevirtual 75, 3) := by decide +kernel
theorem jd_Branchwork_kindOfChange_21 : decode mi_Branchwork_kindOfChange.2.1 21 = .ok (.aload_n 2, 1) := by decide +kernel
theorem jd_Branchwork_kindOfChange_22 : decode mi_Branchwork_kindOfChange.2.1 22 = .ok (.iload_n 3, 1) := by decide +kernel
theorem jd_Branchwork_kindOfChange_23 : decode mi_Branchwork_kindOfChange.2.1 23 = .ok (.invokevirtual 75, 3) := by decide +kernel
theorem jd_Branchwork_kindOfChange_26 : decode mi_Branchwork_kindOfChange.2.1 26 = .ok (.invokevirtual 144, 3) := by decide +kernel
theorem jd_Branchwork_kindOfChange_29 : decode mi_Branchwork_kindOfChange.2.1 29 = .ok (.ifCond .eq 7, 3) := by decide +kernel
theorem jd_Branchwork_kindOfChange_32 : decode mi_Branchwork_kindOfChange.2.1 32 = .ok (.iconst (-1), 1) := by decide +kernel
theorem jd_Branchwork_kindOfChange_33 : decode mi_Branchwork_kindOfChange.2.1 33 = .ok (.goto 4, 3) := by decide +kernel
theorem jd_Branchwork_kindOfChange_36 : decode mi_Branchwork_kindOfChange.2.1 36 = .ok (.iconst 3, 1) := by decide +kernel
theorem jd_Branchwork_kindOfChange_37 : decode mi_Branchwork_kindOfChange.2.1 37 = .ok (.ireturn, 1) := by decide +kernel
theorem jd_Branchwork_kindOfChange_38 : decode mi_Branchwork_kindOfChange.2.1 38 = .ok (.aload_n 0, 1) := by decide +kernel
theorem jd_Branchwork_kindOfChange_39 : decode mi_Branchwork_kindOfChange.2.1 39 = .ok (.getfield 40, 3) := by decide +kernel
theorem jd_Branchwork_kindOfChange_42 : decode mi_Branchwork_kindOfChange.2.1 42 = .ok (.iload_n 3, 1) := by decide +kernel
theorem jd_Branchwork_kindOfChange_43 : decode mi_Branchwork_kindOfChange.2.1 43 = .ok (.invokevirtual 277, 3) := by decide +kernel
theorem jd_Branchwork_kindOfChange_46 : decode mi_Branchwork_kindOfChange.2.1 46 = .ok (.iconst (-1), 1) := by decide +kernel
theorem jd_Branchwork_kindOfChange_47 : decode mi_Branchwork_kindOfChange.2.1 47 = .ok (.if_icmp .ne 7, 3) := by decide +kernel
theorem jd_Branchwork_kindOfChange_50 : decode mi_Branchwork_kindOfChange.2.1 50 = .ok (.iconst 1, 1) := by decide +kernel
theorem jd_Branchwork_kindOfChange_51 : decode mi_Branchwork_kindOfChange.2.1 51 = .ok (.goto 4, 3) := by decide +kernel
theorem jd_Branchwork_kindOfChange_54 : decode mi_Branchwork_kindOfChange.2.1 54 = .ok (.iconst (-1), 1) := by decide +kernel
theorem jd_Branchwork_kindOfChange_55 : decode mi_Branchwork_kindOfChange.2.1 55 = .ok (.ireturn, 1) := by decide +kernel
theorem jd_Branchwork_kindOfChange_56 : decode mi_Branchwork_kindOfChange.2.1 56 = .ok (.aload_n 2, 1) := by decide +kernel
theorem jd_Branchwork_kindOfChange_57 : decode mi_Branchwork_kindOfChange.2.1 57 = .ok (.iload_n 3, 1) := by decide +kernel
theorem jd_Branchwork_kindOfChange_58 : decode mi_Branchwork_kindOfChange.2.1 58 = .ok (.invokevirtual 121, 3) := by decide +kernel
theorem jd_Branchwork_kindOfChange_61 : decode mi_Branchwork_kindOfChange.2.1 61 = .ok (.ifCond .eq 19, 3) := by decide +kernel
theorem jd_Branchwork_kindOfChange_64 : decode mi_Branchwork_kindOfChange.2.1 64 = .ok (.aload_n 0, 1) := by decide +kernel
theorem jd_Branchwork_kindOfChange_65 : decode mi_Branchwork_kindOfChange.2.1 65 = .ok (.getfield 40, 3) := by decide +kernel
theorem jd_Branchwork_kindOfChange_68 : decode mi_Branchwork_kindOfChange.2.1 68 = .ok (.iload_n 3, 1) := by decide +kernel
theorem jd_Branchwork_kindOfChange_69 : decode mi_Branchwork_kindOfChange.2.1 69 = .ok (.invokevirtual 343, 3) := by decide +kernel
theorem jd_Branchwork_kindOfChange_72 : decode mi_Branchwork_kindOfChange.2.1 72 = .ok (.iconst (-1), 1) := by decide +kernel
theorem jd_Branchwork_kindOfChange_73 : decode mi_Branchwork_kindOfChange.2.1 73 = .ok (.if_icmp .ne 7, 3) := by decide +kernel
theorem jd_Branchwork_kindOfChange_76 : decode mi_Branchwork_kindOfChange.2.1 76 = .ok (.iconst 0, 1) := by decide +kernel
theorem jd_Branchwork_kindOfChange_77 : decode mi_Branchwork_kindOfChange.2.1 77 = .ok (.goto 4, 3) := by decide +kernel
theorem jd_Branchwork_kindOfChange_80 : decode mi_Branchwork_kindOfChange.2.1 80 = .ok (.iconst (-1), 1) := by decide +kernel
theorem jd_Branchwork_kindOfChange_81 : decode mi_Branchwork_kindOfChange.2.1 81 = .ok (.ireturn, 1) := by decide +kernel
theorem jd_Branchwork_nearness_0 : decode mi_Branchwork_nearness.2.1 0 = .ok (.aload_n 0, 1) := by decide +kernel
theorem jd_Branchwork_nearness_1 : decode mi_Branchwork_nearness.2.1 1 = .ok (.iload_n 1, 1) := by decide +kernel
theorem jd_Branchwork_nearness_2 : decode mi_Branchwork_nearness.2.1 2 = .ok (.invokevirtual 180, 3) := by decide +kernel
theorem jd_Branchwork_nearness_5 : decode mi_Branchwork_nearness.2.1 5 = .ok (.aload_n 0, 1) := by decide +kernel
theorem jd_Branchwork_nearness_6 : decode mi_Branchwork_nearness.2.1 6 = .ok (.getfield 19, 3) := by decide +kernel
theorem jd_Branchwork_nearness_9 : decode mi_Branchwork_nearness.2.1 9 = .ok (.iload_n 1, 1) := by decide +kernel
theorem jd_Branchwork_nearness_10 : decode mi_Branchwork_nearness.2.1 10 = .ok (.invokevirtual 140, 3) := by decide +kernel
theorem jd_Branchwork_nearness_13 : decode mi_Branchwork_nearness.2.1 13 = .ok (.iload_n 2, 1) := by decide +kernel
theorem jd_Branchwork_nearness_14 : decode mi_Branchwork_nearness.2.1 14 = .ok (.invokestatic 110, 3) := by decide +kernel
theorem jd_Branchwork_nearness_17 : decode mi_Branchwork_nearness.2.1 17 = .ok (.aload_n 0, 1) := by decide +kernel
theorem jd_Branchwork_nearness_18 : decode mi_Branchwork_nearness.2.1 18 = .ok (.iload_n 3, 1) := by decide +kernel
theorem jd_Branchwork_nearness_19 : decode mi_Branchwork_nearness.2.1 19 = .ok (.invokevirtual 180, 3) := by decide +kernel
theorem jd_Branchwork_nearness_22 : decode mi_Branchwork_nearness.2.1 22 = .ok (.aload_n 0, 1) := by decide +kernel
theorem jd_Branchwork_nearness_23 : decode mi_Branchwork_nearness.2.1 23 = .ok (.getfield 19, 3) := by decide +kernel
theorem jd_Branchwork_nearness_26 : decode mi_Branchwork_nearness.2.1 26 = .ok (.iload_n 3, 1) := by decide +kernel
theorem jd_Branchwork_nearness_27 : decode mi_Branchwork_nearness.2.1 27 = .ok (.invokevirtual 140, 3) := by decide +kernel
theorem jd_Branchwork_nearness_30 : decode mi_Branchwork_nearness.2.1 30 = .ok (.iload 4, 2) := by decide +kernel
theorem jd_Branchwork_nearness_32 : decode mi_Branchwork_nearness.2.1 32 = .ok (.invokestatic 110, 3) := by decide +kernel
theorem jd_Branchwork_nearness_35 : decode mi_Branchwork_nearness.2.1 35 = .ok (.aload_n 0, 1) := by decide +kernel
theorem jd_Branchwork_nearness_36 : decode mi_Branchwork_nearness.2.1 36 = .ok (.getfield 47, 3) := by decide +kernel
theorem jd_Branchwork_nearness_39 : decode mi_Branchwork_nearness.2.1 39 = .ok (.aload_n 0, 1) := by decide +kernel
theorem jd_Branchwork_nearness_40 : decode mi_Branchwork_nearness.2.1 40 = .ok (.getfield 19, 3) := by decide +kernel
theorem jd_Branchwork_nearness_43 : decode mi_Branchwork_nearness.2.1 43 = .ok (.iload_n 1, 1) := by decide +kernel
theorem jd_Branchwork_nearness_44 : decode mi_Branchwork_nearness.2.1 44 = .ok (.invokevirtual 140, 3) := by decide +kernel
theorem jd_Branchwork_nearness_47 : decode mi_Branchwork_nearness.2.1 47 = .ok (.iload_n 2, 1) := by decide +kernel
theorem jd_Branchwork_nearness_48 : decode mi_Branchwork_nearness.2.1 48 = .ok (.invokevirtual 75, 3) := by decide +kernel
theorem jd_Branchwork_nearness_51 : decode mi_Branchwork_nearness.2.1 51 = .ok (.aload_n 0, 1) := by decide +kernel
theorem jd_Branchwork_nearness_52 : decode mi_Branchwork_nearness.2.1 52 = .ok (.getfield 19, 3) := by decide +kernel
theorem jd_Branchwork_nearness_55 : decode mi_Branchwork_nearness.2.1 55 = .ok (.iload_n 3, 1) := by decide +kernel
theorem jd_Branchwork_nearness_56 : decode mi_Branchwork_nearness.2.1 56 = .ok (.invokevirtual 140, 3) := by decide +kernel
theorem jd_Branchwork_nearness_59 : decode mi_Branchwork_nearness.2.1 59 = .ok (.iload 4, 2) := by decide +kernel
theorem jd_Branchwork_nearness_61 : decode mi_Branchwork_nearness.2.1 61 = .ok (.invokevirtual 75, 3) := by decide +kernel
theorem jd_Branchwork_nearness_64 : decode mi_Branchwork_nearness.2.1 64 = .ok (.invokevirtual 287, 3) := by decide +kernel
theorem jd_Branchwork_nearness_67 : decode mi_Branchwork_nearness.2.1 67 = .ok (.ireturn, 1) := by decide +kernel
theorem jd_Branchwork_conflictsOf_0 : decode mi_Branchwork_conflictsOf.2.1 0 = .ok (.aload_n 0, 1) := by decide +kernel
theorem jd_Branchwork_conflictsOf_1 : decode mi_Branchwork_conflictsOf.2.1 1 = .ok (.iload_n 1, 1) := by decide +kernel
theorem jd_Branchwork_conflictsOf_2 : decode mi_Branchwork_conflictsOf.2.1 2 = .ok (.invokevirtual 180, 3) := by decide +kernel
theorem jd_Branchwork_conflictsOf_5 : decode mi_Branchwork_conflictsOf.2.1 5 = .ok (.aload_n 0, 1) := by decide +kernel
theorem jd_Branchwork_conflictsOf_6 : decode mi_Branchwork_conflictsOf.2.1 6 = .ok (.iload_n 2, 1) := by decide +kernel
theorem jd_Branchwork_conflictsOf_7 : decode mi_Branchwork_conflictsOf.2.1 7 = .ok (.invokevirtual 180, 3) := by decide +kernel
theorem jd_Branchwork_conflictsOf_10 : decode mi_Branchwork_conflictsOf.2.1 10 = .ok (.aload_n 0, 1) := by decide +kernel
theorem jd_Branchwork_conflictsOf_11 : decode mi_Branchwork_conflictsOf.2.1 11 = .ok (.getfield 19, 3) := by decide +kernel
theorem jd_Branchwork_conflictsOf_14 : decode mi_Branchwork_conflictsOf.2.1 14 = .ok (.iload_n 1, 1) := by decide +kernel
theorem jd_Branchwork_conflictsOf_15 : decode mi_Branchwork_conflictsOf.2.1 15 = .ok (.iload_n 2, 1) := by decide +kernel
theorem jd_Branchwork_conflictsOf_16 : decode mi_Branchwork_conflictsOf.2.1 16 = .ok (.invokevirtual 186, 3) := by decide +kernel
theorem jd_Branchwork_conflictsOf_19 : decode mi_Branchwork_conflictsOf.2.1 19 = .ok (.istore_n 3, 1) := by decide +kernel
theorem jd_Branchwork_conflictsOf_20 : decode mi_Branchwork_conflictsOf.2.1 20 = .ok (.aload_n 0, 1) := by decide +kernel
theorem jd_Branchwork_conflictsOf_21 : decode mi_Branchwork_conflictsOf.2.1 21 = .ok (.getfield 26, 3) := by decide +kernel
theorem jd_Branchwork_conflictsOf_24 : decode mi_Branchwork_conflictsOf.2.1 24 = .ok (.aload_n 0, 1) := by decide +kernel
theorem jd_Branchwork_conflictsOf_25 : decode mi_Branchwork_conflictsOf.2.1 25 = .ok (.getfield 19, 3) := by decide +kernel
theorem jd_Branchwork_conflictsOf_28 : decode mi_Branchwork_conflictsOf.2.1 28 = .ok (.iload_n 3, 1) := by decide +kernel
theorem jd_Branchwork_conflictsOf_29 : decode mi_Branchwork_conflictsOf.2.1 29 = .ok (.invokevirtual 140, 3) := by decide +kernel
theorem jd_Branchwork_conflictsOf_32 : decode mi_Branchwork_conflictsOf.2.1 32 = .ok (.aload_n 0, 1) := by decide +kernel
theorem jd_Branchwork_conflictsOf_33 : decode mi_Branchwork_conflictsOf.2.1 33 = .ok (.getfield 19, 3) := by decide +kernel
theorem jd_Branchwork_conflictsOf_36 : decode mi_Branchwork_conflictsOf.2.1 36 = .ok (.iload_n 1, 1) := by decide +kernel
theorem jd_Branchwork_conflictsOf_37 : decode mi_Branchwork_conflictsOf.2.1 37 = .ok (.invokevirtual 140, 3) := by decide +kernel
theorem jd_Branchwork_conflictsOf_40 : decode mi_Branchwork_conflictsOf.2.1 40 = .ok (.aload_n 0, 1) := by decide +kernel
theorem jd_Branchwork_conflictsOf_41 : decode mi_Branchwork_conflictsOf.2.1 41 = .ok (.getfield 19, 3) := by decide +kernel
theorem jd_Branchwork_conflictsOf_44 : decode mi_Branchwork_conflictsOf.2.1 44 = .ok (.iload_n 2, 1) := by decide +kernel
theorem jd_Branchwork_conflictsOf_45 : decode mi_Branchwork_conflictsOf.2.1 45 = .ok (.invokevirtual 140, 3) := by decide +kernel
theorem jd_Branchwork_conflictsOf_48 : decode mi_Branchwork_conflictsOf.2.1 48 = .ok (.invokevirtual 190, 3) := by decide +kernel
theorem jd_Branchwork_conflictsOf_51 : decode mi_Branchwork_conflictsOf.2.1 51 = .ok (.aload_n 0, 1) := by decide +kernel
theorem jd_Branchwork_conflictsOf_52 : decode mi_Branchwork_conflictsOf.2.1 52 = .ok (.getfield 26, 3) := by decide +kernel
theorem jd_Branchwork_conflictsOf_55 : decode mi_Branchwork_conflictsOf.2.1 55 = .ok (.invokevirtual 198, 3) := by decide +kernel
theorem jd_Branchwork_conflictsOf_58 : decode mi_Branchwork_conflictsOf.2.1 58 = .ok (.invokevirtual 153, 3) := by decide +kernel
theorem jd_Branchwork_conflictsOf_61 : decode mi_Branchwork_conflictsOf.2.1 61 = .ok (.ireturn, 1) := by decide +kernel
theorem jd_Merger_told_0 : decode mi_Merger_told.2.1 0 = .ok (.aload_n 0, 1) := by decide +kernel
theorem jd_Merger_told_1 : decode mi_Merger_told.2.1 1 = .ok (.getfield 21, 3) := by decide +kernel
theorem jd_Merger_told_4 : decode mi_Merger_told.2.1 4 = .ok (.areturn, 1) := by decide +kernel
/-! the store as a whole, and what is asked of it -/
def trV (Ts : Nat → zT) (x : Int) : zT := if 0 ≤ x ∧ x < 30 then Ts x.toNat else fun _ => v0
theorem trV_i (Ts : Nat → zT) {i : Nat} (h : i < 30) : trV Ts i = Ts i := by unfold trV; rw [if_pos (by omega)]; rfl
theorem trV_n (Ts : Nat → zT) : trV Ts (-1) = fun _ => v0 := by unfold trV; rw [if_neg (by omega)]
def GS (o : jw_O) (σ : zS) (w : zT) (Ts : Nat → zT) (f g t c : Nat → Int) (n kp : Nat) (l : zK) (tp : Nat → Int) (br cu : Nat) (mg : Int) : Prop :=
  TC o σ (zb o + 1) w ∧ TC o σ (zb o + 31) (fun _ => v0) ∧ HT o σ Ts ∧ HC σ (zb o + 29) f g t c n kp ∧ KC o σ (zb o + 969) l ∧ VC o σ (zb o + 966) v0 ∧ (∀ i, i < 5 → iv σ (zb o + 983) i = tp i) ∧ iv σ (zb o) 7 = br ∧ iv σ (zb o) 8 = cu ∧ iv σ (zb o) 9 = mg
/-- what the numbers keep to -/
def GV (f g : Nat → Int) (n kp : Nat) (tp : Nat → Int) (br cu : Nat) (mg : Int) : Prop := PO f g n ∧ (∀ j, kp.testBit j = true → j < n) ∧ 1 ≤ br ∧ br ≤ 5 ∧ cu < br ∧ (∀ i, -1 ≤ tp i ∧ tp i < n) ∧ -1 ≤ mg ∧ mg < n ∧ n ≤ 30
/-- only what the asking methods write over may differ -/
def zE (o : jw_O) (σ s : zS) : Prop := ∀ a, (a < zb o + 906 ∨ zb o + 966 ≤ a) → a ≠ zb o + 968 → (a < zb o + 972 ∨ zb o + 983 ≤ a) → a ≠ zb o + 64 → s a = σ a
theorem zE.rf {o : jw_O} {σ : zS} : zE o σ σ := fun _ _ _ _ _ => rfl
theorem zE.trans {o : jw_O} {σ s s2 : zS} (h : zE o σ s) (h2 : zE o s s2) : zE o σ s2 := fun a p1 p2 p3 p4 => (h2 a p1 p2 p3 p4).trans (h a p1 p2 p3 p4)
theorem zE.met {o : jw_O} {σ s : zS} (h : zF σ s (zb o + 64) 1) : zE o σ s := fun a _ _ _ p => h a (by omega)
theorem zE.own {o : jw_O} {σ s : zS} {a m : Nat} (h : zF σ s a m) (h1 : zb o + 972 ≤ a) (h2 : a + m ≤ zb o + 983) : zE o σ s := fun b _ _ p _ => h b (by omega)
theorem zE.mg {o : jw_O} {σ s : zS} (h : zF2 σ s (zb o + 906) 60 (zb o + 968) 1) : zE o σ s := fun b p1 p2 _ _ => h b (by omega) (by omega)
theorem tA_rng {o : jw_O} {i : Nat} (h : i < 30) : zb o + 65 ≤ tA o i ∧ tA o i + 28 ≤ zb o + 905 := by unfold tA; omega
section
variable {o : jw_O} {σ s : zS} {w : zT} {Ts : Nat → zT} {f g t c : Nat → Int} {n kp : Nat} {l : zK} {tp : Nat → Int} {br cu : Nat} {mg : Int}
theorem GS.e (h : GS o σ w Ts f g t c n kp l tp br cu mg) (F : zE o σ s) : GS o s w Ts f g t c n kp l tp br cu mg := by
  obtain ⟨h1, h2, h3, ⟨x1, x2, x3, x4, x5, x6, x7⟩, h5, h6, h7, h8, h9, h10⟩ := h
  have F1 : ∀ a, a < zb o + 906 → a ≠ zb o + 64 → s a = σ a := fun a p1 p2 => F a (by omega) (by omega) (by omega) p2
  have F2 : ∀ a, zb o + 969 ≤ a → a < zb o + 972 → s a = σ a := fun a p1 p2 => F a (by omega) (by omega) (by omega) (by omega)
  refine ⟨h1.cells (fun a p1 p2 => F1 a (by omega) (by omega)), h2.cells (fun a p1 p2 => F1 a (by omega) (by omega)), fun i hi => (h3 i hi).cells (fun a p1 p2 => by have := tA_rng (o := o) hi; exact F1 a (by omega) (by omega)), ⟨fun i hi => (iv_cell (F1 _ (by omega) (by omega)) _).trans (x1 i hi), fun i hi => (iv_cell (F1 _ (by omega) (by omega)) _).trans (x2 i hi), fun i hi => (iv_cell (F1 _ (by omega) (by omega)) _).trans (x3 i hi), fun i hi => (iv_cell (F1 _ (by omega) (by omega)) _).trans (x4 i hi), (iv_cell (F1 _ (by omega) (by omega)) _).trans x5, (iv_cell (F1 _ (by omega) (by omega)) _).trans x6, x7⟩, ?_, h6.cell (F _ (by omega) (by omega) (by omega) (by omega)) (F _ (by omega) (by omega) (by omega) (by omega)), fun i hi => (iv_cell (F _ (by omega) (by omega) (by omega) (by omega)) _).trans (h7 i hi), (iv_cell (F1 _ (by omega) (by omega)) _).trans h8, (iv_cell (F1 _ (by omega) (by omega)) _).trans h9, (iv_cell (F1 _ (by omega) (by omega)) _).trans h10⟩
  obtain ⟨y1, y2, y3, y4⟩ := h5
  exact ⟨y1, y2, (iv_cell (F2 _ (by omega) (by omega)) _).trans y3, fun j hj => ⟨(iv_cell (F2 _ (by omega) (by omega)) _).trans (y4 j hj).1, (iv_cell (F2 _ (by omega) (by omega)) _).trans (y4 j hj).2⟩⟩
theorem GS.tree (h : GS o σ w Ts f g t c n kp l tp br cu mg) (x : Int) : TC o σ (trA o x) (trV Ts x) := by
  unfold trA trV
  split
  · exact h.2.2.1 x.toNat (by omega)
  · exact h.2.1
theorem trA_rng {x : Int} : zb o + 31 ≤ trA o x ∧ trA o x + 28 ≤ zb o + 905 := by
  unfold trA tA
  split <;> omega
theorem f_reqPath (p : Nat) (hp : p < 12) : zRo mi_Branchwork_requirePath 0 o [.int (iI p)] σ none := by
  refine z_spec (by decide +kernel) (Nat.le_of_ble_eq_true rfl) rfl (fun k hs hR hE => ?_)
  refine jw_iload_n (pc' := 1) jd_Branchwork_requirePath_0 rfl rfl rfl ?_
  refine zx_if_lt (tgt := 10) (pc' := 4) (by first | exact rg_iv _ _ _ | omega) jd_Branchwork_requirePath_1 (by decide) rfl (fun q => ?_) (fun q => ?_)
  · exfalso; omega
  refine jw_iload_n (pc' := 5) jd_Branchwork_requirePath_4 rfl rfl rfl ?_
  refine zx_bipush (pc' := 7) (n := 12) jd_Branchwork_requirePath_5 (by decide +kernel) rfl ?_
  refine zx_icmp_lt (tgt := 21) (pc' := 10) (by first | exact rg_iv _ _ _ | omega) (by first | exact rg_iv _ _ _ | omega) jd_Branchwork_requirePath_7 (by decide) rfl (fun q2 => ?_) (fun q2 => ?_)
  rotate_left
  · exfalso; omega
  refine zx_vret hE jd_Branchwork_requirePath_21 rfl ?_
  exact ⟨rfl, rfl⟩
theorem f_reqFile {u : Nat} {A : zT} (h : TC o σ u A) (p : Nat) (hp : p < 12) (h0 : ¬ (A p).1 = 0) : zRo mi_Branchwork_requireFile 2 o [.ref u, .int (iI p)] σ none := by
  have h1 := h.1
  have h01 := (h.2 p hp).2.1.p
  refine z_spec (by decide +kernel) (Nat.le_of_ble_eq_true rfl) rfl (fun k hs hR hE => ?_)
  refine jw_aload_n (pc' := 1) jd_Branchwork_requireFile_0 rfl rfl rfl ?_
  refine jw_iload_n (pc' := 2) jd_Branchwork_requireFile_1 rfl rfl rfl ?_
  refine zx_callV0 (pc' := 5) hR (t_has h p hp) jm_Tree_has jq_401 jc_Tree jd_Branchwork_requireFile_2 (mc_Tree _ (by assumption)) rfl rfl (Nat.le_of_ble_eq_true rfl) (by omega) (by decide) rfl rfl ?_
  refine zx_if_ne (tgt := 19) (pc' := 8) (by first | exact rg_iv _ _ _ | omega) jd_Branchwork_requireFile_5 (by decide) rfl (fun q => ?_) (fun q => ?_)
  rotate_left
  · exfalso; omega
  refine zx_vret hE jd_Branchwork_requireFile_19 rfl ?_
  exact ⟨rfl, rfl⟩
theorem f_reqPlace {u : Nat} {a : zV} (h : VC o σ u a) (j : Nat) (hj : j < a.2.1) : zRo mi_Branchwork_requirePlace 1 o [.ref u, .int (iI j)] σ none := by
  have hc := h.1
  have hn := h.2.1.n
  have e2 := h.2.2.2.1
  have hh : zRo mi_Content_holds 0 o [.ref u, .int (iI j)] σ (some (.int (iI 1))) := by
    refine z_spec (by decide +kernel) (Nat.le_of_ble_eq_true rfl) rfl (fun k hs hR hE => ?_)
    refine jw_iload_n (pc' := 1) jd_Content_holds_0 rfl rfl rfl ?_
    refine zx_if_lt (tgt := 22) (pc' := 4) (by first | exact rg_iv _ _ _ | omega) jd_Content_holds_1 (by decide) rfl (fun q => ?_) (fun q => ?_)
    · exfalso; omega
    refine jw_iload_n (pc' := 5) jd_Content_holds_4 rfl rfl rfl ?_
    refine jw_aload_n (pc' := 6) jd_Content_holds_5 rfl rfl rfl ?_
    refine zx_getI (pc' := 9) (kf := 1) jc_Content (by decide) jq_63 jd_Content_holds_6 (mc_Content _ (by assumption)) rfl rfl ?_
    refine zx_icmp_ge (tgt := 22) (pc' := 12) (by first | exact rg_iv _ _ _ | omega) (by first | exact rg_iv _ _ _ | omega) jd_Content_holds_9 (by decide) rfl (fun q2 => ?_) (fun q2 => ?_)
    · exfalso; omega
    refine jw_iload_n (pc' := 13) jd_Content_holds_12 rfl rfl rfl ?_
    refine zx_bipush (pc' := 15) (n := 10) jd_Content_holds_13 (by decide +kernel) rfl ?_
    refine zx_icmp_ge (tgt := 22) (pc' := 18) (by first | exact rg_iv _ _ _ | omega) (by first | exact rg_iv _ _ _ | omega) jd_Content_holds_15 (by decide) rfl (fun q3 => ?_) (fun q3 => ?_)
    · exfalso; omega
    refine zx_iconst (pc' := 19) (n := 1) jd_Content_holds_18 rfl ?_
    refine jw_goto (tgt := 23) jd_Content_holds_19 (by decide) ?_
    refine zx_zret (by first | exact Or.inl rfl | exact Or.inr rfl | assumption | omega) hE jd_Content_holds_23 rfl ?_
    exact ⟨rfl, rfl⟩
  refine z_spec (by decide +kernel) (Nat.le_of_ble_eq_true rfl) rfl (fun k hs hR hE => ?_)
  refine jw_aload_n (pc' := 1) jd_Branchwork_requirePlace_0 rfl rfl rfl ?_
  refine jw_iload_n (pc' := 2) jd_Branchwork_requirePlace_1 rfl rfl rfl ?_
  refine zx_callV0 (pc' := 5) hR (hh) jm_Content_holds jq_829 jc_Content jd_Branchwork_requirePlace_2 (mc_Content _ (by assumption)) rfl rfl (Nat.le_of_ble_eq_true rfl) (by omega) (by decide) rfl rfl ?_
  refine zx_if_ne (tgt := 18) (pc' := 8) (by first | exact rg_iv _ _ _ | omega) jd_Branchwork_requirePlace_5 (by decide) rfl (fun q => ?_) (fun q => ?_)
  rotate_left
  · exfalso; omega
  refine zx_vret hE jd_Branchwork_requirePlace_18 rfl ?_
  exact ⟨rfl, rfl⟩
section
variable (h : GS o σ w Ts f g t c n kp l tp br cu mg)
theorem f_reqCommit (h : GS o σ w Ts f g t c n kp l tp br cu mg) (i : Nat) (hi : i < 30) (hk : kp.testBit i = true) : zRo mi_Branchwork_requireCommit 3 o [.ref (zb o), .int (iI i)] σ none := by
  have h4 := h.2.2.2.1
  refine z_spec (by decide +kernel) (Nat.le_of_ble_eq_true rfl) rfl (fun k hs hR hE => ?_)
  refine jw_aload_n (pc' := 1) jd_Branchwork_requireCommit_0 rfl rfl rfl ?_
  refine jw_get (pc' := 4) (kf := 1) jc_Branchwork (by decide) jq_240 jd_Branchwork_requireCommit_1 (mc_Branchwork _) rfl rfl ?_
  refine jw_iload_n (pc' := 5) jd_Branchwork_requireCommit_4 rfl rfl rfl ?_
  refine zx_callV0 (pc' := 8) hR (h_holds h4 i hi) jm_History_holds jq_757 jc_History jd_Branchwork_requireCommit_5 (mc_History _) rfl rfl (Nat.le_of_ble_eq_true rfl) (by omega) (by decide) rfl rfl ?_
  rw [if_pos hk]
  refine zx_if_ne (tgt := 22) (pc' := 11) (by first | exact rg_iv _ _ _ | omega) jd_Branchwork_requireCommit_8 (by decide) rfl (fun q => ?_) (fun q => ?_)
  rotate_left
  · exfalso; omega
  refine zx_vret hE jd_Branchwork_requireCommit_22 rfl ?_
  exact ⟨rfl, rfl⟩
theorem f_reqBranch (h : GS o σ w Ts f g t c n kp l tp br cu mg) (hv : GV f g n kp tp br cu mg) (b : Nat) (hb : b < br) : zRo mi_Branchwork_requireBranch 0 o [.ref (zb o), .int (iI b)] σ none := by
  have h8 := h.2.2.2.2.2.2.2.1
  have hb5 := hv.2.2.2.1
  refine z_spec (by decide +kernel) (Nat.le_of_ble_eq_true rfl) rfl (fun k hs hR hE => ?_)
  refine jw_iload_n (pc' := 1) jd_Branchwork_requireBranch_0 rfl rfl rfl ?_
  refine zx_if_lt (tgt := 12) (pc' := 4) (by first | exact rg_iv _ _ _ | omega) jd_Branchwork_requireBranch_1 (by decide) rfl (fun q => ?_) (fun q => ?_)
  · exfalso; omega
  refine jw_iload_n (pc' := 5) jd_Branchwork_requireBranch_4 rfl rfl rfl ?_
  refine jw_aload_n (pc' := 6) jd_Branchwork_requireBranch_5 rfl rfl rfl ?_
  refine zx_getI (pc' := 9) (kf := 7) jc_Branchwork (by decide) jq_246 jd_Branchwork_requireBranch_6 (mc_Branchwork _) rfl rfl ?_
  refine zx_icmp_lt (tgt := 23) (pc' := 12) (by first | exact rg_iv _ _ _ | omega) (by first | exact rg_iv _ _ _ | omega) jd_Branchwork_requireBranch_9 (by decide) rfl (fun q2 => ?_) (fun q2 => ?_)
  rotate_left
  · exfalso; omega
  refine zx_vret hE jd_Branchwork_requireBranch_23 rfl ?_
  exact ⟨rfl, rfl⟩
theorem f_reqConf (h : GS o σ w Ts f g t c n kp l tp br cu mg) (j : Nat) (hj : j < l.1) : zRo mi_Branchwork_requireConflict 1 o [.ref (zb o), .int (iI j)] σ none := by
  have h5 := h.2.2.2.2.1
  have h51 := h5.1
  have h24 := h5.2.1
  refine z_spec (by decide +kernel) (Nat.le_of_ble_eq_true rfl) rfl (fun k hs hR hE => ?_)
  refine jw_aload_n (pc' := 1) jd_Branchwork_requireConflict_0 rfl rfl rfl ?_
  refine jw_get (pc' := 4) (kf := 3) jc_Branchwork (by decide) jq_242 jd_Branchwork_requireConflict_1 (mc_Branchwork _) rfl rfl ?_
  refine jw_iload_n (pc' := 5) jd_Branchwork_requireConflict_4 rfl rfl rfl ?_
  refine zx_callV0 (pc' := 8) hR (k_holds h5 j (by omega)) jm_Conflicts_holds jq_676 jc_Conflicts jd_Branchwork_requireConflict_5 (mc_Conflicts _ (by assumption)) rfl rfl (Nat.le_of_ble_eq_true rfl) (by omega) (by decide) rfl rfl ?_
  rw [if_pos hj]
  refine zx_if_ne (tgt := 22) (pc' := 11) (by first | exact rg_iv _ _ _ | omega) jd_Branchwork_requireConflict_8 (by decide) rfl (fun q => ?_) (fun q => ?_)
  rotate_left
  · exfalso; omega
  refine zx_vret hE jd_Branchwork_requireConflict_22 rfl ?_
  exact ⟨rfl, rfl⟩
theorem f_head (h : GS o σ w Ts f g t c n kp l tp br cu mg) (hv : GV f g n kp tp br cu mg) : zRo mi_Branchwork_head 0 o [.ref (zb o)] σ (some (.int (iI (tp cu)))) := by
  obtain ⟨h1, h2, h3, h4, h5, h6, h7, h8, h9, h10⟩ := h
  obtain ⟨v1, v2, v3, v4, v5, v6, v7, v8, v9⟩ := hv
  have e := h7 cu (by omega)
  refine z_spec (by decide +kernel) (Nat.le_of_ble_eq_true rfl) rfl (fun k hs hR hE => ?_)
  refine jw_aload_n (pc' := 1) jd_Branchwork_head_0 rfl rfl rfl ?_
  refine jw_get (pc' := 4) (kf := 6) jc_Branchwork (by decide) jq_245 jd_Branchwork_head_1 (mc_Branchwork _) rfl rfl ?_
  refine jw_aload_n (pc' := 5) jd_Branchwork_head_4 rfl rfl rfl ?_
  refine zx_getI (pc' := 8) (kf := 8) jc_Branchwork (by decide) jq_247 jd_Branchwork_head_5 (mc_Branchwork _) rfl rfl ?_
  refine zx_iald (pc' := 9) (j := cu) jd_Branchwork_head_8 (ml_Branchwork_tips _) h9 (by omega) (Nat.le_of_ble_eq_true rfl) rfl ?_
  refine zx_iret hE jd_Branchwork_head_9 rfl ?_
  exact ⟨by rw [e], rfl⟩
theorem f_isClean (h : GS o σ w Ts f g t c n kp l tp br cu mg) (hv : GV f g n kp tp br cu mg) : zRo mi_Branchwork_isClean 3 o [.ref (zb o)] σ (some (.int (iI (eqT w (trV Ts (tp cu)))))) := by
  have h1 := h.1
  have h11 := h1.1
  have hr := hv.2.2.2.2.2.1 cu
  have hn := hv.2.2.2.2.2.2.2.2
  have e01 := eqT_01 w (trV Ts (tp cu))
  refine z_spec (by decide +kernel) (Nat.le_of_ble_eq_true rfl) rfl (fun k hs hR hE => ?_)
  refine jw_aload_n (pc' := 1) jd_Branchwork_isClean_0 rfl rfl rfl ?_
  refine jw_get (pc' := 4) (kf := 0) jc_Branchwork (by decide) jq_239 jd_Branchwork_isClean_1 (mc_Branchwork _) rfl rfl ?_
  refine jw_aload_n (pc' := 5) jd_Branchwork_isClean_4 rfl rfl rfl ?_
  refine jw_get (pc' := 8) (kf := 1) jc_Branchwork (by decide) jq_240 jd_Branchwork_isClean_5 (mc_Branchwork _) rfl rfl ?_
  refine jw_aload_n (pc' := 9) jd_Branchwork_isClean_8 rfl rfl rfl ?_
  refine zx_callV0 (pc' := 12) hR (f_head h hv) jm_Branchwork_head jq_448 jc_Branchwork jd_Branchwork_isClean_9 (mc_Branchwork _) rfl rfl (Nat.le_of_ble_eq_true rfl) (by omega) (by decide) rfl rfl ?_
  refine zx_callV0 (pc' := 15) hR (h_treeOf _ (by omega)) jm_History_treeOf jq_452 jc_History jd_Branchwork_isClean_12 (mc_History _) rfl rfl (Nat.le_of_ble_eq_true rfl) (by omega) (by decide) rfl rfl ?_
  refine zx_callV0 (pc' := 18) hR (t_sameAs h1 (h.tree (tp cu))) jm_Tree_sameAs jq_456 jc_Tree jd_Branchwork_isClean_15 (mc_Tree _ (by assumption)) rfl rfl (Nat.le_of_ble_eq_true rfl) (by omega) (by decide) rfl rfl ?_
  refine zx_zret (by first | exact Or.inl rfl | exact Or.inr rfl | assumption | omega) hE jd_Branchwork_isClean_18 rfl ?_
  exact ⟨rfl, rfl⟩
theorem f_reqClean (h : GS o σ w Ts f g t c n kp l tp br cu mg) (hv : GV f g n kp tp br cu mg) (hc : eqT w (trV Ts (tp cu)) = 1) (hm : mg = -1) : zRo mi_Branchwork_requireCleanAndUnmerged 4 o [.ref (zb o)] σ none := by
  have h10 := h.2.2.2.2.2.2.2.2.2
  refine z_spec (by decide +kernel) (Nat.le_of_ble_eq_true rfl) rfl (fun k hs hR hE => ?_)
  refine jw_aload_n (pc' := 1) jd_Branchwork_requireCleanAndUnmerged_0 rfl rfl rfl ?_
  refine zx_callV0 (pc' := 4) hR (f_isClean h hv) jm_Branchwork_isClean jq_444 jc_Branchwork jd_Branchwork_requireCleanAndUnmerged_1 (mc_Branchwork _) rfl rfl (Nat.le_of_ble_eq_true rfl) (by omega) (by decide) rfl rfl ?_
  rw [hc]
  refine zx_if_ne (tgt := 18) (pc' := 7) (by first | exact rg_iv _ _ _ | omega) jd_Branchwork_requireCleanAndUnmerged_4 (by decide) rfl (fun q => ?_) (fun q => ?_)
  rotate_left
  · exfalso; omega
  refine jw_aload_n (pc' := 19) jd_Branchwork_requireCleanAndUnmerged_18 rfl rfl rfl ?_
  refine zx_getI (pc' := 22) (kf := 9) jc_Branchwork (by decide) jq_248 jd_Branchwork_requireCleanAndUnmerged_19 (mc_Branchwork _) rfl rfl ?_
  refine zx_iconst (pc' := 23) (n := -1) jd_Branchwork_requireCleanAndUnmerged_22 rfl ?_
  refine zx_icmp_eq (tgt := 37) (pc' := 26) (by first | exact rg_iv _ _ _ | omega) (by first | exact rg_iv _ _ _ | omega) jd_Branchwork_requireCleanAndUnmerged_23 (by decide) rfl (fun q2 => ?_) (fun q2 => ?_)
  rotate_left
  · exfalso; omega
  refine zx_vret hE jd_Branchwork_requireCleanAndUnmerged_37 rfl ?_
  exact ⟨rfl, rfl⟩
def orT (tp : Nat → Int) (m : Nat) : Nat → Nat
  | 0 => m
  | i + 1 => orT tp m i ||| bS (tp i)
theorem orT_lt (tp : Nat → Int) {m : Nat} (hm : m < 2 ^ 30) : ∀ i, orT tp m i < 2 ^ 30
  | 0 => hm
  | i + 1 => Nat.or_lt_two_pow (orT_lt tp hm i) (bS_lt _)
theorem orT_bit (tp : Nat → Int) (m j : Nat) : ∀ i, (orT tp m i).testBit j = true → m.testBit j = true ∨ ∃ a, a < i ∧ tp a = j
  | 0, h => Or.inl h
  | i + 1, h => by
    unfold orT at h
    rw [Nat.testBit_or, Bool.or_eq_true, bS_bit, decide_eq_true_eq] at h
    rcases h with h | h
    · rcases orT_bit tp m j i h with h | ⟨a, h1, h2⟩
      · exact Or.inl h
      · exact Or.inr ⟨a, by omega, h2⟩
    · exact Or.inr ⟨i, by omega, h.1⟩
def rchF (f g tp : Nat → Int) (mg : Int) : Nat := waF f g 30 (orT tp (bS mg) 5)
theorem rchF_lt (f g tp : Nat → Int) (mg : Int) : rchF f g tp mg < 2 ^ 30 := waF_lt 30 _ (orT_lt tp (bS_lt _) 5)
theorem rchF_n (hv : GV f g n kp tp br cu mg) (j : Nat) (hj : (rchF f g tp mg).testBit j = true) : j < n := by
  obtain ⟨v1, v2, v3, v4, v5, v6, v7, v8, v9⟩ := hv
  refine (waF_spec v1 30 (orT tp (bS mg) 5) (by omega) (fun j hj => ?_)).2.2.2 j hj
  rcases orT_bit tp (bS mg) j 5 hj with h | ⟨a, h1, h2⟩
  · rw [bS_bit, decide_eq_true_eq] at h
    omega
  · have := v6 a
    omega
theorem f_reached (h : GS o σ w Ts f g t c n kp l tp br cu mg) : zRo mi_Branchwork_reached 3 o [.ref (zb o)] σ (some (.int (iI (rchF f g tp mg)))) := by
  have hh := h
  obtain ⟨h1, h2, h3, h4, h5, h6, h7, h8, h9, h10⟩ := h
  have r9 := rg_iv σ (zb o) 9
  refine z_spec (by decide +kernel) (Nat.le_of_ble_eq_true rfl) rfl (fun k hs hR hE => ?_)
  refine jw_aload_n (pc' := 1) jd_Branchwork_reached_0 rfl rfl rfl ?_
  refine zx_getI (pc' := 4) (kf := 9) jc_Branchwork (by decide) jq_248 jd_Branchwork_reached_1 (mc_Branchwork _) rfl rfl ?_
  refine zx_callS0 (pc' := 7) hR (h_setOf _ r9) jm_History_setOf jq_721 jd_Branchwork_reached_4 rfl rfl (Nat.le_of_ble_eq_true rfl) (by omega) (by decide) rfl rfl ?_
  rw [h10]
  refine jw_istore_n (pc' := 8) (lc' := [(0, _), (1, _)]) jd_Branchwork_reached_7 rfl (Nat.le_of_ble_eq_true rfl) ⟨rfl, rfl, trivial⟩ rfl ?_
  refine zx_iconst (pc' := 9) (n := 0) jd_Branchwork_reached_8 rfl ?_
  refine jw_istore_n (pc' := 10) (lc' := [(0, _), (1, _), (2, _)]) jd_Branchwork_reached_9 rfl (Nat.le_of_ble_eq_true rfl) ⟨rfl, rfl, rfl, trivial⟩ rfl ?_
  have loop : ∀ (d i : Nat), i + d = 5 → jw_X mi_Branchwork_reached o k 0 0 10 [(0, .ref (zb o)), (1, .int (iI (orT tp (bS mg) i))), (2, .int (iI i))] [] (mm o σ) hs := by
    intro d
    induction d with
    | zero =>
      intro i hi
      refine jw_iload_n (pc' := 11) jd_Branchwork_reached_10 rfl rfl rfl ?_
      refine zx_iconst (pc' := 12) (n := 5) jd_Branchwork_reached_11 rfl ?_
      refine zx_icmp_ge (tgt := 33) (pc' := 15) (by first | exact rg_iv _ _ _ | omega) (by first | exact rg_iv _ _ _ | omega) jd_Branchwork_reached_12 (by decide) rfl (fun q => ?_) (fun q => ?_)
      rotate_left
      · exfalso; omega
      rw [show i = 5 by omega]
      refine jw_aload_n (pc' := 34) jd_Branchwork_reached_33 rfl rfl rfl ?_
      refine jw_get (pc' := 37) (kf := 1) jc_Branchwork (by decide) jq_240 jd_Branchwork_reached_34 (mc_Branchwork _) rfl rfl ?_
      refine jw_iload_n (pc' := 38) jd_Branchwork_reached_37 rfl rfl rfl ?_
      refine zx_callV0 (pc' := 41) hR (h_anc h4 _ (orT_lt tp (bS_lt _) 5)) jm_History_withAncestors jq_722 jc_History jd_Branchwork_reached_38 (mc_History _) rfl rfl (Nat.le_of_ble_eq_true rfl) (by omega) (by decide) rfl rfl ?_
      refine zx_iret hE jd_Branchwork_reached_41 rfl ?_
      exact ⟨rfl, rfl⟩
    | succ d ih =>
      intro i hi
      have e := h7 i (by omega)
      have r := rg_iv σ (zb o + 983) i
      have ih1 := ih (i + 1) (by omega)
      unfold orT at ih1
      refine jw_iload_n (pc' := 11) jd_Branchwork_reached_10 rfl rfl rfl ?_
      refine zx_iconst (pc' := 12) (n := 5) jd_Branchwork_reached_11 rfl ?_
      refine zx_icmp_ge (tgt := 33) (pc' := 15) (by first | exact rg_iv _ _ _ | omega) (by first | exact rg_iv _ _ _ | omega) jd_Branchwork_reached_12 (by decide) rfl (fun q => ?_) (fun q => ?_)
      · exfalso; omega
      refine jw_iload_n (pc' := 16) jd_Branchwork_reached_15 rfl rfl rfl ?_
      refine jw_aload_n (pc' := 17) jd_Branchwork_reached_16 rfl rfl rfl ?_
      refine jw_get (pc' := 20) (kf := 6) jc_Branchwork (by decide) jq_245 jd_Branchwork_reached_17 (mc_Branchwork _) rfl rfl ?_
      refine jw_iload_n (pc' := 21) jd_Branchwork_reached_20 rfl rfl rfl ?_
      refine zx_iald (pc' := 22) jd_Branchwork_reached_21 (ml_Branchwork_tips _) rfl (by omega) (Nat.le_of_ble_eq_true rfl) rfl ?_
      refine zx_callS0 (pc' := 25) hR (h_setOf _ r) jm_History_setOf jq_721 jd_Branchwork_reached_22 rfl rfl (Nat.le_of_ble_eq_true rfl) (by omega) (by decide) rfl rfl ?_
      rw [e]
      refine zx_ior (pc' := 26) jd_Branchwork_reached_25 rfl ?_
      refine jw_istore_n (pc' := 27) (lc' := [(0, _), (1, _), (2, _)]) jd_Branchwork_reached_26 rfl (Nat.le_of_ble_eq_true rfl) ⟨rfl, rfl, rfl, trivial⟩ rfl ?_
      refine zx_iinc (pc' := 30) (lc' := [(0, _), (1, _), (2, _)]) jd_Branchwork_reached_27 rfl (Nat.le_of_ble_eq_true rfl) ⟨rfl, rfl, rfl, trivial⟩ rfl ?_
      refine jw_goto (tgt := 10) jd_Branchwork_reached_30 (by decide) ?_
      exact ih1
  exact loop 5 0 (by omega)
theorem f_garbage (h : GS o σ w Ts f g t c n kp l tp br cu mg) : zSpec mi_Branchwork_garbage 5 o [.ref (zb o)] σ (fun v s => v = some (.int (iI (obF t c kp - obF t c (rchF f g tp mg)))) ∧ zE o σ s) := by
  have h4 := h.2.2.2.1
  have h8 := h4.2.2.2.2.2.2.2
  refine z_spec (by decide +kernel) (Nat.le_of_ble_eq_true rfl) rfl (fun k hs hR hE => ?_)
  refine jw_aload_n (pc' := 1) jd_Branchwork_garbage_0 rfl rfl rfl ?_
  refine jw_get (pc' := 4) (kf := 1) jc_Branchwork (by decide) jq_240 jd_Branchwork_garbage_1 (mc_Branchwork _) rfl rfl ?_
  refine jw_aload_n (pc' := 5) jd_Branchwork_garbage_4 rfl rfl rfl ?_
  refine jw_get (pc' := 8) (kf := 1) jc_Branchwork (by decide) jq_240 jd_Branchwork_garbage_5 (mc_Branchwork _) rfl rfl ?_
  refine zx_callV0 (pc' := 11) hR (h_kept h4) jm_History_kept jq_690 jc_History jd_Branchwork_garbage_8 (mc_History _) rfl rfl (Nat.le_of_ble_eq_true rfl) (by omega) (by decide) rfl rfl ?_
  refine zx_callV (pc' := 14) hR (h_objects h4 kp h8) jm_History_countObjects jq_694 jc_History jd_Branchwork_garbage_11 (mc_History _) rfl rfl (Nat.le_of_ble_eq_true rfl) (by omega) (by decide) rfl (fun v9 s1 q9 => ?_)
  obtain ⟨rfl, F1⟩ := q9
  have E1 := zE.met F1
  refine jw_aload_n (pc' := 15) jd_Branchwork_garbage_14 rfl rfl rfl ?_
  refine jw_get (pc' := 18) (kf := 1) jc_Branchwork (by decide) jq_240 jd_Branchwork_garbage_15 (mc_Branchwork _) rfl rfl ?_
  refine jw_aload_n (pc' := 19) jd_Branchwork_garbage_18 rfl rfl rfl ?_
  refine zx_callV0 (pc' := 22) hR (f_reached (h.e E1)) jm_Branchwork_reached jq_717 jc_Branchwork jd_Branchwork_garbage_19 (mc_Branchwork _) rfl rfl (Nat.le_of_ble_eq_true rfl) (by omega) (by decide) rfl rfl ?_
  refine zx_callV (pc' := 25) hR (h_objects (h.e E1).2.2.2.1 _ (rchF_lt _ _ _ _)) jm_History_countObjects jq_694 jc_History jd_Branchwork_garbage_22 (mc_History _) rfl rfl (Nat.le_of_ble_eq_true rfl) (by omega) (by decide) rfl (fun v9 s2 q9 => ?_)
  obtain ⟨rfl, F2⟩ := q9
  refine zx_isub (pc' := 26) jd_Branchwork_garbage_25 rfl ?_
  refine zx_iret hE jd_Branchwork_garbage_26 rfl ?_
  exact ⟨rfl, E1.trans (zE.met F2)⟩
theorem f_collect (h : GS o σ w Ts f g t c n kp l tp br cu mg) : zSpec mi_Branchwork_collect 6 o [.ref (zb o)] σ (fun v s => v = some (.int (iI (obF t c kp - obF t c (rchF f g tp mg)))) ∧ GS o s w Ts f g t c n (kp &&& rchF f g tp mg) l tp br cu mg) := by
  refine z_spec (by decide +kernel) (Nat.le_of_ble_eq_true rfl) rfl (fun k hs hR hE => ?_)
  refine jw_aload_n (pc' := 1) jd_Branchwork_collect_0 rfl rfl rfl ?_
  refine zx_callV (pc' := 4) hR (f_garbage h) jm_Branchwork_garbage jq_686 jc_Branchwork jd_Branchwork_collect_1 (mc_Branchwork _) rfl rfl (Nat.le_of_ble_eq_true rfl) (by omega) (by decide) rfl (fun v9 s1 q9 => ?_)
  obtain ⟨rfl, E1⟩ := q9
  have g1 := h.e E1
  refine jw_istore_n (pc' := 5) (lc' := [(0, _), (1, _)]) jd_Branchwork_collect_4 rfl (Nat.le_of_ble_eq_true rfl) ⟨rfl, rfl, trivial⟩ rfl ?_
  refine jw_aload_n (pc' := 6) jd_Branchwork_collect_5 rfl rfl rfl ?_
  refine jw_get (pc' := 9) (kf := 1) jc_Branchwork (by decide) jq_240 jd_Branchwork_collect_6 (mc_Branchwork _) rfl rfl ?_
  refine jw_aload_n (pc' := 10) jd_Branchwork_collect_9 rfl rfl rfl ?_
  refine zx_callV0 (pc' := 13) hR (f_reached g1) jm_Branchwork_reached jq_717 jc_Branchwork jd_Branchwork_collect_10 (mc_Branchwork _) rfl rfl (Nat.le_of_ble_eq_true rfl) (by omega) (by decide) rfl rfl ?_
  refine zx_callV (pc' := 16) hR (h_keepOnly g1.2.2.2.1 _ (rchF_lt _ _ _ _)) jm_History_keepOnly jq_723 jc_History jd_Branchwork_collect_13 (mc_History _) rfl rfl (Nat.le_of_ble_eq_true rfl) (by omega) (by decide) rfl (fun v9 s2 q9 => ?_)
  obtain ⟨rfl, hc, F2⟩ := q9
  refine jw_iload_n (pc' := 17) jd_Branchwork_collect_16 rfl rfl rfl ?_
  refine zx_iret hE jd_Branchwork_collect_17 rfl ?_
  obtain ⟨h1, h2, h3, h4, h5, h6, h7, h8, h9, h10⟩ := g1
  refine ⟨rfl, h1.cells (fun a p1 p2 => F2 a (by omega)), h2.cells (fun a p1 p2 => F2 a (by omega)), fun i hi => (h3 i hi).cells (fun a p1 p2 => by have := tA_rng (o := o) hi; exact F2 a (by omega)), hc, ?_, h6.cell (F2 _ (by omega)) (F2 _ (by omega)), fun i hi => (iv_cell (F2 _ (by omega)) _).trans (h7 i hi), (iv_cell (F2 _ (by omega)) _).trans h8, (iv_cell (F2 _ (by omega)) _).trans h9, (iv_cell (F2 _ (by omega)) _).trans h10⟩
  obtain ⟨y1, y2, y3, y4⟩ := h5
  exact ⟨y1, y2, (iv_cell (F2 _ (by omega)) _).trans y3, fun j hj => ⟨(iv_cell (F2 _ (by omega)) _).trans (y4 j hj).1, (iv_cell (F2 _ (by omega)) _).trans (y4 j hj).2⟩⟩
noncomputable def mnF (w : zT) (t c : Nat → Int) (kp : Nat) (l : zK) (br : Nat) : Nat → Int
  | 0 => pcN kp
  | 1 => br
  | 2 => nF w
  | 3 => l.1
  | 4 => pcN (diF t kp 30)
  | _ => sm (metI c kp) 360
theorem f_many (h : GS o σ w Ts f g t c n kp l tp br cu mg) (q : Nat) (hq : q < 6) : zSpec mi_Branchwork_many 4 o [.ref (zb o), .int (iI q)] σ (fun v s => v = some (.int (iI (mnF w t c kp l br q))) ∧ zE o σ s) := by
  have h4 := h.2.2.2.1
  have hk := h4.2.2.2.2.2.2.2
  have h11 := h.1.1
  have i5 := h.2.2.2.2.1.1
  have h8 := h.2.2.2.2.2.2.2.1
  rcases q with _ | _ | _ | _ | _ | _ | q
  · refine z_spec (by decide +kernel) (Nat.le_of_ble_eq_true rfl) rfl (fun k hs hR hE => ?_)
    refine jw_iload_n (pc' := 1) jd_Branchwork_many_0 rfl rfl rfl ?_
    refine jw_tableIn (tgt := 40) (off := 39) jd_Branchwork_many_1 (by decide +kernel) (by decide +kernel) (by decide +kernel) (by decide) ?_
    refine jw_aload_n (pc' := 41) jd_Branchwork_many_40 rfl rfl rfl ?_
    refine jw_get (pc' := 44) (kf := 1) jc_Branchwork (by decide) jq_240 jd_Branchwork_many_41 (mc_Branchwork _) rfl rfl ?_
    refine zx_callV0 (pc' := 47) hR (h_kept h4) jm_History_kept jq_690 jc_History jd_Branchwork_many_44 (mc_History _) rfl rfl (Nat.le_of_ble_eq_true rfl) (by omega) (by decide) rfl rfl ?_
    refine zx_callS0 (pc' := 50) hR (h_bits kp hk) jm_Integer_bitCount jq_731 jd_Branchwork_many_47 rfl rfl (Nat.le_of_ble_eq_true rfl) (by omega) (by decide) rfl rfl ?_
    refine zx_iret hE jd_Branchwork_many_50 rfl ?_
    exact ⟨rfl, zE.rf⟩
  · refine z_spec (by decide +kernel) (Nat.le_of_ble_eq_true rfl) rfl (fun k hs hR hE => ?_)
    refine jw_iload_n (pc' := 1) jd_Branchwork_many_0 rfl rfl rfl ?_
    refine jw_tableIn (tgt := 51) (off := 50) jd_Branchwork_many_1 (by decide +kernel) (by decide +kernel) (by decide +kernel) (by decide) ?_
    refine jw_aload_n (pc' := 52) jd_Branchwork_many_51 rfl rfl rfl ?_
    refine zx_getI (pc' := 55) (kf := 7) jc_Branchwork (by decide) jq_246 jd_Branchwork_many_52 (mc_Branchwork _) rfl rfl ?_
    refine zx_iret hE jd_Branchwork_many_55 rfl ?_
    exact ⟨by rw [h8]; rfl, zE.rf⟩
  · refine z_spec (by decide +kernel) (Nat.le_of_ble_eq_true rfl) rfl (fun k hs hR hE => ?_)
    refine jw_iload_n (pc' := 1) jd_Branchwork_many_0 rfl rfl rfl ?_
    refine jw_tableIn (tgt := 56) (off := 55) jd_Branchwork_many_1 (by decide +kernel) (by decide +kernel) (by decide +kernel) (by decide) ?_
    refine jw_aload_n (pc' := 57) jd_Branchwork_many_56 rfl rfl rfl ?_
    refine jw_get (pc' := 60) (kf := 0) jc_Branchwork (by decide) jq_239 jd_Branchwork_many_57 (mc_Branchwork _) rfl rfl ?_
    refine zx_callV0 (pc' := 63) hR (t_count h.1) jm_Tree_countFiles jq_732 jc_Tree jd_Branchwork_many_60 (mc_Tree _ (by assumption)) rfl rfl (Nat.le_of_ble_eq_true rfl) (by omega) (by decide) rfl rfl ?_
    refine zx_iret hE jd_Branchwork_many_63 rfl ?_
    exact ⟨rfl, zE.rf⟩
  · refine z_spec (by decide +kernel) (Nat.le_of_ble_eq_true rfl) rfl (fun k hs hR hE => ?_)
    refine jw_iload_n (pc' := 1) jd_Branchwork_many_0 rfl rfl rfl ?_
    refine jw_tableIn (tgt := 64) (off := 63) jd_Branchwork_many_1 (by decide +kernel) (by decide +kernel) (by decide +kernel) (by decide) ?_
    refine jw_aload_n (pc' := 65) jd_Branchwork_many_64 rfl rfl rfl ?_
    refine jw_get (pc' := 68) (kf := 3) jc_Branchwork (by decide) jq_242 jd_Branchwork_many_65 (mc_Branchwork _) rfl rfl ?_
    refine zx_callV0 (pc' := 71) hR (k_many h.2.2.2.2.1) jm_Conflicts_howMany jq_439 jc_Conflicts jd_Branchwork_many_68 (mc_Conflicts _ (by assumption)) rfl rfl (Nat.le_of_ble_eq_true rfl) (by omega) (by decide) rfl rfl ?_
    refine zx_iret hE jd_Branchwork_many_71 rfl ?_
    exact ⟨rfl, zE.rf⟩
  · refine z_spec (by decide +kernel) (Nat.le_of_ble_eq_true rfl) rfl (fun k hs hR hE => ?_)
    refine jw_iload_n (pc' := 1) jd_Branchwork_many_0 rfl rfl rfl ?_
    refine jw_tableIn (tgt := 72) (off := 71) jd_Branchwork_many_1 (by decide +kernel) (by decide +kernel) (by decide +kernel) (by decide) ?_
    refine jw_aload_n (pc' := 73) jd_Branchwork_many_72 rfl rfl rfl ?_
    refine jw_get (pc' := 76) (kf := 1) jc_Branchwork (by decide) jq_240 jd_Branchwork_many_73 (mc_Branchwork _) rfl rfl ?_
    refine jw_aload_n (pc' := 77) jd_Branchwork_many_76 rfl rfl rfl ?_
    refine jw_get (pc' := 80) (kf := 1) jc_Branchwork (by decide) jq_240 jd_Branchwork_many_77 (mc_Branchwork _) rfl rfl ?_
    refine zx_callV0 (pc' := 83) hR (h_kept h4) jm_History_kept jq_690 jc_History jd_Branchwork_many_80 (mc_History _) rfl rfl (Nat.le_of_ble_eq_true rfl) (by omega) (by decide) rfl rfl ?_
    refine zx_callV0 (pc' := 86) hR (h_trees h4 kp hk) jm_History_countTrees jq_737 jc_History jd_Branchwork_many_83 (mc_History _) rfl rfl (Nat.le_of_ble_eq_true rfl) (by omega) (by decide) rfl rfl ?_
    refine zx_iret hE jd_Branchwork_many_86 rfl ?_
    exact ⟨rfl, zE.rf⟩
  · refine z_spec (by decide +kernel) (Nat.le_of_ble_eq_true rfl) rfl (fun k hs hR hE => ?_)
    refine jw_iload_n (pc' := 1) jd_Branchwork_many_0 rfl rfl rfl ?_
    refine jw_tableIn (tgt := 87) (off := 86) jd_Branchwork_many_1 (by decide +kernel) (by decide +kernel) (by decide +kernel) (by decide) ?_
    refine jw_aload_n (pc' := 88) jd_Branchwork_many_87 rfl rfl rfl ?_
    refine jw_get (pc' := 91) (kf := 1) jc_Branchwork (by decide) jq_240 jd_Branchwork_many_88 (mc_Branchwork _) rfl rfl ?_
    refine jw_aload_n (pc' := 92) jd_Branchwork_many_91 rfl rfl rfl ?_
    refine jw_get (pc' := 95) (kf := 1) jc_Branchwork (by decide) jq_240 jd_Branchwork_many_92 (mc_Branchwork _) rfl rfl ?_
    refine zx_callV0 (pc' := 98) hR (h_kept h4) jm_History_kept jq_690 jc_History jd_Branchwork_many_95 (mc_History _) rfl rfl (Nat.le_of_ble_eq_true rfl) (by omega) (by decide) rfl rfl ?_
    refine zx_callV (pc' := 101) hR (h_conts h4 kp hk) jm_History_countContents jq_738 jc_History jd_Branchwork_many_98 (mc_History _) rfl rfl (Nat.le_of_ble_eq_true rfl) (by omega) (by decide) rfl (fun v9 s1 q9 => ?_)
    obtain ⟨rfl, F⟩ := q9
    refine zx_iret hE jd_Branchwork_many_101 rfl ?_
    exact ⟨rfl, zE.met F⟩
  · omega
def nwF (tp : Nat → Int) (cu : Nat) (mg : Int) : Nat → Int
  | 0 => cu
  | 1 => tp cu
  | _ => mg
theorem f_now (h : GS o σ w Ts f g t c n kp l tp br cu mg) (hv : GV f g n kp tp br cu mg) (q : Nat) (hq : q < 3) : zRo mi_Branchwork_now 1 o [.ref (zb o), .int (iI q)] σ (some (.int (iI (nwF tp cu mg q)))) := by
  have h9 := h.2.2.2.2.2.2.2.2.1
  have h10 := h.2.2.2.2.2.2.2.2.2
  rcases q with _ | _ | _ | q
  · refine z_spec (by decide +kernel) (Nat.le_of_ble_eq_true rfl) rfl (fun k hs hR hE => ?_)
    refine jw_iload_n (pc' := 1) jd_Branchwork_now_0 rfl rfl rfl ?_
    refine jw_tableIn (tgt := 28) (off := 27) jd_Branchwork_now_1 (by decide +kernel) (by decide +kernel) (by decide +kernel) (by decide) ?_
    refine jw_aload_n (pc' := 29) jd_Branchwork_now_28 rfl rfl rfl ?_
    refine zx_getI (pc' := 32) (kf := 8) jc_Branchwork (by decide) jq_247 jd_Branchwork_now_29 (mc_Branchwork _) rfl rfl ?_
    refine zx_iret hE jd_Branchwork_now_32 rfl ?_
    exact ⟨by rw [h9]; rfl, rfl⟩
  · refine z_spec (by decide +kernel) (Nat.le_of_ble_eq_true rfl) rfl (fun k hs hR hE => ?_)
    refine jw_iload_n (pc' := 1) jd_Branchwork_now_0 rfl rfl rfl ?_
    refine jw_tableIn (tgt := 33) (off := 32) jd_Branchwork_now_1 (by decide +kernel) (by decide +kernel) (by decide +kernel) (by decide) ?_
    refine jw_aload_n (pc' := 34) jd_Branchwork_now_33 rfl rfl rfl ?_
    refine zx_callV0 (pc' := 37) hR (f_head h hv) jm_Branchwork_head jq_448 jc_Branchwork jd_Branchwork_now_34 (mc_Branchwork _) rfl rfl (Nat.le_of_ble_eq_true rfl) (by omega) (by decide) rfl rfl ?_
    refine zx_iret hE jd_Branchwork_now_37 rfl ?_
    exact ⟨rfl, rfl⟩
  · refine z_spec (by decide +kernel) (Nat.le_of_ble_eq_true rfl) rfl (fun k hs hR hE => ?_)
    refine jw_iload_n (pc' := 1) jd_Branchwork_now_0 rfl rfl rfl ?_
    refine jw_tableIn (tgt := 38) (off := 37) jd_Branchwork_now_1 (by decide +kernel) (by decide +kernel) (by decide +kernel) (by decide) ?_
    refine jw_aload_n (pc' := 39) jd_Branchwork_now_38 rfl rfl rfl ?_
    refine zx_getI (pc' := 42) (kf := 9) jc_Branchwork (by decide) jq_248 jd_Branchwork_now_39 (mc_Branchwork _) rfl rfl ?_
    refine zx_iret hE jd_Branchwork_now_42 rfl ?_
    exact ⟨by rw [h10]; rfl, rfl⟩
  · omega
theorem f_at (h : GS o σ w Ts f g t c n kp l tp br cu mg) (hv : GV f g n kp tp br cu mg) (b : Nat) (hb : b < br) : zRo mi_Branchwork_at 1 o [.ref (zb o), .int (iI b)] σ (some (.int (iI (tp b)))) := by
  have h7 := h.2.2.2.2.2.2.1
  have v4 := hv.2.2.2.1
  have e := h7 b (by omega)
  refine z_spec (by decide +kernel) (Nat.le_of_ble_eq_true rfl) rfl (fun k hs hR hE => ?_)
  refine jw_aload_n (pc' := 1) jd_Branchwork_at_0 rfl rfl rfl ?_
  refine jw_iload_n (pc' := 2) jd_Branchwork_at_1 rfl rfl rfl ?_
  refine zx_callV0 (pc' := 5) hR (f_reqBranch h hv b hb) jm_Branchwork_requireBranch jq_500 jc_Branchwork jd_Branchwork_at_2 (mc_Branchwork _) rfl rfl (Nat.le_of_ble_eq_true rfl) (by omega) (by decide) rfl rfl ?_
  refine jw_aload_n (pc' := 6) jd_Branchwork_at_5 rfl rfl rfl ?_
  refine jw_get (pc' := 9) (kf := 6) jc_Branchwork (by decide) jq_245 jd_Branchwork_at_6 (mc_Branchwork _) rfl rfl ?_
  refine jw_iload_n (pc' := 10) jd_Branchwork_at_9 rfl rfl rfl ?_
  refine zx_iald (pc' := 11) jd_Branchwork_at_10 (ml_Branchwork_tips _) rfl (by omega) (Nat.le_of_ble_eq_true rfl) rfl ?_
  refine zx_iret hE jd_Branchwork_at_11 rfl ?_
  exact ⟨by rw [e], rfl⟩
def ofF (Ts : Nat → zT) (f g tp : Nat → Int) (mg nt : Int) (i : Nat) : Nat → Int
  | 0 => f i
  | 1 => g i
  | 2 => nt
  | 3 => nF (Ts i)
  | 4 => pcN (ancF f g i)
  | _ => if (rchF f g tp mg).testBit i then 1 else 0
theorem f_of (h : GS o σ w Ts f g t c n kp l tp br cu mg) (i : Nat) (hi : i < 30) (hk : kp.testBit i = true) (q : Nat) (hq : q < 6) : zRo mi_Branchwork_ofCommit 4 o [.ref (zb o), .int (iI i), .int (iI q)] σ (some (.int (iI (ofF Ts f g tp mg (iv σ (zb o + 59) i) i q)))) := by
  have h3 := h.2.2.1 i hi
  have h31 := h3.1
  have h4 := h.2.2.2.1
  have e1 := h4.1 i hi
  have e2 := h4.2.1 i hi
  rcases q with _ | _ | _ | _ | _ | _ | q
  · refine z_spec (by decide +kernel) (Nat.le_of_ble_eq_true rfl) rfl (fun k hs hR hE => ?_)
    refine jw_aload_n (pc' := 1) jd_Branchwork_ofCommit_0 rfl rfl rfl ?_
    refine jw_iload_n (pc' := 2) jd_Branchwork_ofCommit_1 rfl rfl rfl ?_
    refine zx_callV0 (pc' := 5) hR (f_reqCommit h i hi hk) jm_Branchwork_requireCommit jq_753 jc_Branchwork jd_Branchwork_ofCommit_2 (mc_Branchwork _) rfl rfl (Nat.le_of_ble_eq_true rfl) (by omega) (by decide) rfl rfl ?_
    refine jw_iload_n (pc' := 6) jd_Branchwork_ofCommit_5 rfl rfl rfl ?_
    refine jw_tableIn (tgt := 44) (off := 38) jd_Branchwork_ofCommit_6 (by decide +kernel) (by decide +kernel) (by decide +kernel) (by decide) ?_
    refine jw_aload_n (pc' := 45) jd_Branchwork_ofCommit_44 rfl rfl rfl ?_
    refine jw_get (pc' := 48) (kf := 1) jc_Branchwork (by decide) jq_240 jd_Branchwork_ofCommit_45 (mc_Branchwork _) rfl rfl ?_
    refine jw_iload_n (pc' := 49) jd_Branchwork_ofCommit_48 rfl rfl rfl ?_
    refine zx_callV0 (pc' := 52) hR (h_first i hi) jm_History_firstParent jq_762 jc_History jd_Branchwork_ofCommit_49 (mc_History _) rfl rfl (Nat.le_of_ble_eq_true rfl) (by omega) (by decide) rfl rfl ?_
    refine zx_iret hE jd_Branchwork_ofCommit_52 rfl ?_
    exact ⟨by rw [show iv σ (zb o + 60) i = f i from e1]; rfl, rfl⟩
  · refine z_spec (by decide +kernel) (Nat.le_of_ble_eq_true rfl) rfl (fun k hs hR hE => ?_)
    refine jw_aload_n (pc' := 1) jd_Branchwork_ofCommit_0 rfl rfl rfl ?_
    refine jw_iload_n (pc' := 2) jd_Branchwork_ofCommit_1 rfl rfl rfl ?_
    refine zx_callV0 (pc' := 5) hR (f_reqCommit h i hi hk) jm_Branchwork_requireCommit jq_753 jc_Branchwork jd_Branchwork_ofCommit_2 (mc_Branchwork _) rfl rfl (Nat.le_of_ble_eq_true rfl) (by omega) (by decide) rfl rfl ?_
    refine jw_iload_n (pc' := 6) jd_Branchwork_ofCommit_5 rfl rfl rfl ?_
    refine jw_tableIn (tgt := 53) (off := 47) jd_Branchwork_ofCommit_6 (by decide +kernel) (by decide +kernel) (by decide +kernel) (by decide) ?_
    refine jw_aload_n (pc' := 54) jd_Branchwork_ofCommit_53 rfl rfl rfl ?_
    refine jw_get (pc' := 57) (kf := 1) jc_Branchwork (by decide) jq_240 jd_Branchwork_ofCommit_54 (mc_Branchwork _) rfl rfl ?_
    refine jw_iload_n (pc' := 58) jd_Branchwork_ofCommit_57 rfl rfl rfl ?_
    refine zx_callV0 (pc' := 61) hR (h_second i hi) jm_History_secondParent jq_766 jc_History jd_Branchwork_ofCommit_58 (mc_History _) rfl rfl (Nat.le_of_ble_eq_true rfl) (by omega) (by decide) rfl rfl ?_
    refine zx_iret hE jd_Branchwork_ofCommit_61 rfl ?_
    exact ⟨by rw [show iv σ (zb o + 61) i = g i from e2]; rfl, rfl⟩
  · refine z_spec (by decide +kernel) (Nat.le_of_ble_eq_true rfl) rfl (fun k hs hR hE => ?_)
    refine jw_aload_n (pc' := 1) jd_Branchwork_ofCommit_0 rfl rfl rfl ?_
    refine jw_iload_n (pc' := 2) jd_Branchwork_ofCommit_1 rfl rfl rfl ?_
    refine zx_callV0 (pc' := 5) hR (f_reqCommit h i hi hk) jm_Branchwork_requireCommit jq_753 jc_Branchwork jd_Branchwork_ofCommit_2 (mc_Branchwork _) rfl rfl (Nat.le_of_ble_eq_true rfl) (by omega) (by decide) rfl rfl ?_
    refine jw_iload_n (pc' := 6) jd_Branchwork_ofCommit_5 rfl rfl rfl ?_
    refine jw_tableIn (tgt := 62) (off := 56) jd_Branchwork_ofCommit_6 (by decide +kernel) (by decide +kernel) (by decide +kernel) (by decide) ?_
    refine jw_aload_n (pc' := 63) jd_Branchwork_ofCommit_62 rfl rfl rfl ?_
    refine jw_get (pc' := 66) (kf := 1) jc_Branchwork (by decide) jq_240 jd_Branchwork_ofCommit_63 (mc_Branchwork _) rfl rfl ?_
    refine jw_iload_n (pc' := 67) jd_Branchwork_ofCommit_66 rfl rfl rfl ?_
    refine zx_callV0 (pc' := 70) hR (h_note i hi) jm_History_noteOf jq_770 jc_History jd_Branchwork_ofCommit_67 (mc_History _) rfl rfl (Nat.le_of_ble_eq_true rfl) (by omega) (by decide) rfl rfl ?_
    refine zx_iret hE jd_Branchwork_ofCommit_70 rfl ?_
    exact ⟨rfl, rfl⟩
  · refine z_spec (by decide +kernel) (Nat.le_of_ble_eq_true rfl) rfl (fun k hs hR hE => ?_)
    refine jw_aload_n (pc' := 1) jd_Branchwork_ofCommit_0 rfl rfl rfl ?_
    refine jw_iload_n (pc' := 2) jd_Branchwork_ofCommit_1 rfl rfl rfl ?_
    refine zx_callV0 (pc' := 5) hR (f_reqCommit h i hi hk) jm_Branchwork_requireCommit jq_753 jc_Branchwork jd_Branchwork_ofCommit_2 (mc_Branchwork _) rfl rfl (Nat.le_of_ble_eq_true rfl) (by omega) (by decide) rfl rfl ?_
    refine jw_iload_n (pc' := 6) jd_Branchwork_ofCommit_5 rfl rfl rfl ?_
    refine jw_tableIn (tgt := 71) (off := 65) jd_Branchwork_ofCommit_6 (by decide +kernel) (by decide +kernel) (by decide +kernel) (by decide) ?_
    refine jw_aload_n (pc' := 72) jd_Branchwork_ofCommit_71 rfl rfl rfl ?_
    refine jw_get (pc' := 75) (kf := 1) jc_Branchwork (by decide) jq_240 jd_Branchwork_ofCommit_72 (mc_Branchwork _) rfl rfl ?_
    refine jw_iload_n (pc' := 76) jd_Branchwork_ofCommit_75 rfl rfl rfl ?_
    refine zx_callV0 (pc' := 79) hR (h_treeOf i (by omega)) jm_History_treeOf jq_452 jc_History jd_Branchwork_ofCommit_76 (mc_History _) rfl rfl (Nat.le_of_ble_eq_true rfl) (by omega) (by decide) rfl rfl ?_
    rw [trA_i hi]
    refine zx_callV0 (pc' := 82) hR (t_count h3) jm_Tree_countFiles jq_732 jc_Tree jd_Branchwork_ofCommit_79 (mc_Tree _ (by assumption)) rfl rfl (Nat.le_of_ble_eq_true rfl) (by omega) (by decide) rfl rfl ?_
    refine zx_iret hE jd_Branchwork_ofCommit_82 rfl ?_
    exact ⟨rfl, rfl⟩
  · refine z_spec (by decide +kernel) (Nat.le_of_ble_eq_true rfl) rfl (fun k hs hR hE => ?_)
    refine jw_aload_n (pc' := 1) jd_Branchwork_ofCommit_0 rfl rfl rfl ?_
    refine jw_iload_n (pc' := 2) jd_Branchwork_ofCommit_1 rfl rfl rfl ?_
    refine zx_callV0 (pc' := 5) hR (f_reqCommit h i hi hk) jm_Branchwork_requireCommit jq_753 jc_Branchwork jd_Branchwork_ofCommit_2 (mc_Branchwork _) rfl rfl (Nat.le_of_ble_eq_true rfl) (by omega) (by decide) rfl rfl ?_
    refine jw_iload_n (pc' := 6) jd_Branchwork_ofCommit_5 rfl rfl rfl ?_
    refine jw_tableIn (tgt := 83) (off := 77) jd_Branchwork_ofCommit_6 (by decide +kernel) (by decide +kernel) (by decide +kernel) (by decide) ?_
    refine jw_aload_n (pc' := 84) jd_Branchwork_ofCommit_83 rfl rfl rfl ?_
    refine jw_get (pc' := 87) (kf := 1) jc_Branchwork (by decide) jq_240 jd_Branchwork_ofCommit_84 (mc_Branchwork _) rfl rfl ?_
    refine jw_iload_n (pc' := 88) jd_Branchwork_ofCommit_87 rfl rfl rfl ?_
    refine zx_callV0 (pc' := 91) hR (h_ancOf h4 i (by omega)) jm_History_ancestorsOf jq_774 jc_History jd_Branchwork_ofCommit_88 (mc_History _) rfl rfl (Nat.le_of_ble_eq_true rfl) (by omega) (by decide) rfl rfl ?_
    refine zx_callS0 (pc' := 94) hR (h_bits _ (waF_lt 30 _ (bS_lt _))) jm_Integer_bitCount jq_731 jd_Branchwork_ofCommit_91 rfl rfl (Nat.le_of_ble_eq_true rfl) (by omega) (by decide) rfl rfl ?_
    refine zx_iret hE jd_Branchwork_ofCommit_94 rfl ?_
    exact ⟨rfl, rfl⟩
  · refine z_spec (by decide +kernel) (Nat.le_of_ble_eq_true rfl) rfl (fun k hs hR hE => ?_)
    refine jw_aload_n (pc' := 1) jd_Branchwork_ofCommit_0 rfl rfl rfl ?_
    refine jw_iload_n (pc' := 2) jd_Branchwork_ofCommit_1 rfl rfl rfl ?_
    refine zx_callV0 (pc' := 5) hR (f_reqCommit h i hi hk) jm_Branchwork_requireCommit jq_753 jc_Branchwork jd_Branchwork_ofCommit_2 (mc_Branchwork _) rfl rfl (Nat.le_of_ble_eq_true rfl) (by omega) (by decide) rfl rfl ?_
    refine jw_iload_n (pc' := 6) jd_Branchwork_ofCommit_5 rfl rfl rfl ?_
    refine jw_tableIn (tgt := 95) (off := 89) jd_Branchwork_ofCommit_6 (by decide +kernel) (by decide +kernel) (by decide +kernel) (by decide) ?_
    refine jw_iload_n (pc' := 96) jd_Branchwork_ofCommit_95 rfl rfl rfl ?_
    refine jw_aload_n (pc' := 97) jd_Branchwork_ofCommit_96 rfl rfl rfl ?_
    refine zx_callV0 (pc' := 100) hR (f_reached h) jm_Branchwork_reached jq_717 jc_Branchwork jd_Branchwork_ofCommit_97 (mc_Branchwork _) rfl rfl (Nat.le_of_ble_eq_true rfl) (by omega) (by decide) rfl rfl ?_
    refine zx_callS0 (pc' := 103) hR (h_isIn i _ hi (rchF_lt _ _ _ _)) jm_History_isIn jq_775 jd_Branchwork_ofCommit_100 rfl rfl (Nat.le_of_ble_eq_true rfl) (by omega) (by decide) rfl rfl ?_
    by_cases e : (rchF f g tp mg).testBit i = true
    · rw [if_pos e]
      refine zx_if_eq (tgt := 110) (pc' := 106) (by first | exact rg_iv _ _ _ | omega) jd_Branchwork_ofCommit_103 (by decide) rfl (fun q => ?_) (fun q => ?_)
      · exfalso; omega
      refine zx_iconst (pc' := 107) (n := 1) jd_Branchwork_ofCommit_106 rfl ?_
      refine jw_goto (tgt := 111) jd_Branchwork_ofCommit_107 (by decide) ?_
      refine zx_iret hE jd_Branchwork_ofCommit_111 rfl ?_
      exact ⟨by show some (Value.int (iI 1)) = some (Value.int (iI (if (rchF f g tp mg).testBit i then 1 else 0))); rw [if_pos e], rfl⟩
    · rw [if_neg e]
      refine zx_if_eq (tgt := 110) (pc' := 106) (by first | exact rg_iv _ _ _ | omega) jd_Branchwork_ofCommit_103 (by decide) rfl (fun q => ?_) (fun q => ?_)
      rotate_left
      · exfalso; omega
      refine zx_iconst (pc' := 111) (n := 0) jd_Branchwork_ofCommit_110 rfl ?_
      refine zx_iret hE jd_Branchwork_ofCommit_111 rfl ?_
      exact ⟨by show some (Value.int (iI 0)) = some (Value.int (iI (if (rchF f g tp mg).testBit i then 1 else 0))); rw [if_neg e], rfl⟩
  · omega
def szF (a : zV) : Int := if a.1 = 0 then -1 else a.2.1
theorem f_size (h : GS o σ w Ts f g t c n kp l tp br cu mg) (i p : Nat) (hi : i < 30) (hk : kp.testBit i = true) (hp : p < 12) : zRo mi_Branchwork_size 5 o [.ref (zb o), .int (iI i), .int (iI p)] σ (some (.int (iI (szF (Ts i p))))) := by
  have h3 := h.2.2.1 i hi
  have h31 := h3.1
  have hc := h3.2 p hp
  have hc1 := hc.1
  have o1 := hc.2.1.p
  have hs2 : zRo mi_Branchwork_fileToShow 4 o [.ref (zb o), .int (iI i), .int (iI p)] σ (some (.ref (fA (tA o i) p))) := by
    refine z_spec (by decide +kernel) (Nat.le_of_ble_eq_true rfl) rfl (fun k hs hR hE => ?_)
    refine jw_iload_n (pc' := 1) jd_Branchwork_fileToShow_0 rfl rfl rfl ?_
    refine zx_iconst (pc' := 2) (n := -1) jd_Branchwork_fileToShow_1 rfl ?_
    refine zx_icmp_eq (tgt := 10) (pc' := 5) (by first | exact rg_iv _ _ _ | omega) (by first | exact rg_iv _ _ _ | omega) jd_Branchwork_fileToShow_2 (by decide) rfl (fun q => ?_) (fun q => ?_)
    · exfalso; omega
    refine jw_aload_n (pc' := 6) jd_Branchwork_fileToShow_5 rfl rfl rfl ?_
    refine jw_iload_n (pc' := 7) jd_Branchwork_fileToShow_6 rfl rfl rfl ?_
    refine zx_callV0 (pc' := 10) hR (f_reqCommit h i hi hk) jm_Branchwork_requireCommit jq_753 jc_Branchwork jd_Branchwork_fileToShow_7 (mc_Branchwork _) rfl rfl (Nat.le_of_ble_eq_true rfl) (by omega) (by decide) rfl rfl ?_
    refine jw_iload_n (pc' := 11) jd_Branchwork_fileToShow_10 rfl rfl rfl ?_
    refine zx_callS0 (pc' := 14) hR (f_reqPath p hp) jm_Branchwork_requirePath jq_274 jd_Branchwork_fileToShow_11 rfl rfl (Nat.le_of_ble_eq_true rfl) (by omega) (by decide) rfl rfl ?_
    refine jw_iload_n (pc' := 15) jd_Branchwork_fileToShow_14 rfl rfl rfl ?_
    refine zx_iconst (pc' := 16) (n := -1) jd_Branchwork_fileToShow_15 rfl ?_
    refine zx_icmp_ne (tgt := 30) (pc' := 19) (by first | exact rg_iv _ _ _ | omega) (by first | exact rg_iv _ _ _ | omega) jd_Branchwork_fileToShow_16 (by decide) rfl (fun q2 => ?_) (fun q2 => ?_)
    rotate_left
    · exfalso; omega
    refine jw_aload_n (pc' := 31) jd_Branchwork_fileToShow_30 rfl rfl rfl ?_
    refine jw_get (pc' := 34) (kf := 1) jc_Branchwork (by decide) jq_240 jd_Branchwork_fileToShow_31 (mc_Branchwork _) rfl rfl ?_
    refine jw_iload_n (pc' := 35) jd_Branchwork_fileToShow_34 rfl rfl rfl ?_
    refine zx_callV0 (pc' := 38) hR (h_treeOf i (by omega)) jm_History_treeOf jq_452 jc_History jd_Branchwork_fileToShow_35 (mc_History _) rfl rfl (Nat.le_of_ble_eq_true rfl) (by omega) (by decide) rfl rfl ?_
    rw [trA_i hi]
    refine jw_iload_n (pc' := 39) jd_Branchwork_fileToShow_38 rfl rfl rfl ?_
    refine zx_callV0 (pc' := 42) hR (t_fileAt h31 p hp) jm_Tree_fileAt jq_345 jc_Tree jd_Branchwork_fileToShow_39 (mc_Tree _ (by assumption)) rfl rfl (Nat.le_of_ble_eq_true rfl) (by omega) (by decide) rfl rfl ?_
    refine zx_aret hE jd_Branchwork_fileToShow_42 rfl ?_
    exact ⟨rfl, rfl⟩
  refine z_spec (by decide +kernel) (Nat.le_of_ble_eq_true rfl) rfl (fun k hs hR hE => ?_)
  refine jw_aload_n (pc' := 1) jd_Branchwork_size_0 rfl rfl rfl ?_
  refine jw_iload_n (pc' := 2) jd_Branchwork_size_1 rfl rfl rfl ?_
  refine jw_iload_n (pc' := 3) jd_Branchwork_size_2 rfl rfl rfl ?_
  refine zx_callV0 (pc' := 6) hR (hs2) jm_Branchwork_fileToShow jq_780 jc_Branchwork jd_Branchwork_size_3 (mc_Branchwork _) rfl rfl (Nat.le_of_ble_eq_true rfl) (by omega) (by decide) rfl rfl ?_
  refine jw_astore_n (pc' := 7) (lc' := [(3, _)]) jd_Branchwork_size_6 rfl (Nat.le_of_ble_eq_true rfl) ⟨rfl, trivial⟩ rfl ?_
  refine jw_aload_n (pc' := 8) jd_Branchwork_size_7 rfl rfl rfl ?_
  refine zx_callV0 (pc' := 11) hR (c_exists hc) jm_Content_exists jq_784 jc_Content jd_Branchwork_size_8 (mc_Content _ (by assumption)) rfl rfl (Nat.le_of_ble_eq_true rfl) (by omega) (by decide) rfl rfl ?_
  refine zx_if_eq (tgt := 21) (pc' := 14) (by first | exact rg_iv _ _ _ | omega) jd_Branchwork_size_11 (by decide) rfl (fun q => ?_) (fun q => ?_)
  · refine zx_iconst (pc' := 22) (n := -1) jd_Branchwork_size_21 rfl ?_
    refine zx_iret hE jd_Branchwork_size_22 rfl ?_
    exact ⟨by unfold szF; rw [if_pos q], rfl⟩
  · refine jw_aload_n (pc' := 15) jd_Branchwork_size_14 rfl rfl rfl ?_
    refine zx_callV0 (pc' := 18) hR (c_length hc) jm_Content_length jq_349 jc_Content jd_Branchwork_size_15 (mc_Content _ (by assumption)) rfl rfl (Nat.le_of_ble_eq_true rfl) (by omega) (by decide) rfl rfl ?_
    refine jw_goto (tgt := 22) jd_Branchwork_size_18 (by decide) ?_
    refine zx_iret hE jd_Branchwork_size_22 rfl ?_
    exact ⟨by unfold szF; rw [if_neg q], rfl⟩
theorem f_sizeW (h : GS o σ w Ts f g t c n kp l tp br cu mg) (p : Nat) (hp : p < 12) : zRo mi_Branchwork_size 5 o [.ref (zb o), .int (iI (-1)), .int (iI p)] σ (some (.int (iI (szF (w p))))) := by
  have h3 := h.1
  have h31 := h3.1
  have hc := h3.2 p hp
  have hc1 := hc.1
  have o1 := hc.2.1.p
  have hs2 : zRo mi_Branchwork_fileToShow 4 o [.ref (zb o), .int (iI (-1)), .int (iI p)] σ (some (.ref (fA (zb o + 1) p))) := by
    refine z_spec (by decide +kernel) (Nat.le_of_ble_eq_true rfl) rfl (fun k hs hR hE => ?_)
    refine jw_iload_n (pc' := 1) jd_Branchwork_fileToShow_0 rfl rfl rfl ?_
    refine zx_iconst (pc' := 2) (n := -1) jd_Branchwork_fileToShow_1 rfl ?_
    refine zx_icmp_eq (tgt := 10) (pc' := 5) (by first | exact rg_iv _ _ _ | omega) (by first | exact rg_iv _ _ _ | omega) jd_Branchwork_fileToShow_2 (by decide) rfl (fun q => ?_) (fun q => ?_)
    rotate_left
    · exfalso; omega
    refine jw_iload_n (pc' := 11) jd_Branchwork_fileToShow_10 rfl rfl rfl ?_
    refine zx_callS0 (pc' := 14) hR (f_reqPath p hp) jm_Branchwork_requirePath jq_274 jd_Branchwork_fileToShow_11 rfl rfl (Nat.le_of_ble_eq_true rfl) (by omega) (by decide) rfl rfl ?_
    refine jw_iload_n (pc' := 15) jd_Branchwork_fileToShow_14 rfl rfl rfl ?_
    refine zx_iconst (pc' := 16) (n := -1) jd_Branchwork_fileToShow_15 rfl ?_
    refine zx_icmp_ne (tgt := 30) (pc' := 19) (by first | exact rg_iv _ _ _ | omega) (by first | exact rg_iv _ _ _ | omega) jd_Branchwork_fileToShow_16 (by decide) rfl (fun q2 => ?_) (fun q2 => ?_)
    · exfalso; omega
    refine jw_aload_n (pc' := 20) jd_Branchwork_fileToShow_19 rfl rfl rfl ?_
    refine jw_get (pc' := 23) (kf := 0) jc_Branchwork (by decide) jq_239 jd_Branchwork_fileToShow_20 (mc_Branchwork _) rfl rfl ?_
    refine jw_iload_n (pc' := 24) jd_Branchwork_fileToShow_23 rfl rfl rfl ?_
    refine zx_callV0 (pc' := 27) hR (t_fileAt h31 p hp) jm_Tree_fileAt jq_345 jc_Tree jd_Branchwork_fileToShow_24 (mc_Tree _ (by assumption)) rfl rfl (Nat.le_of_ble_eq_true rfl) (by omega) (by decide) rfl rfl ?_
    refine jw_goto (tgt := 42) jd_Branchwork_fileToShow_27 (by decide) ?_
    refine zx_aret hE jd_Branchwork_fileToShow_42 rfl ?_
    exact ⟨rfl, rfl⟩
  refine z_spec (by decide +kernel) (Nat.le_of_ble_eq_true rfl) rfl (fun k hs hR hE => ?_)
  refine jw_aload_n (pc' := 1) jd_Branchwork_size_0 rfl rfl rfl ?_
  refine jw_iload_n (pc' := 2) jd_Branchwork_size_1 rfl rfl rfl ?_
  refine jw_iload_n (pc' := 3) jd_Branchwork_size_2 rfl rfl rfl ?_
  refine zx_callV0 (pc' := 6) hR (hs2) jm_Branchwork_fileToShow jq_780 jc_Branchwork jd_Branchwork_size_3 (mc_Branchwork _) rfl rfl (Nat.le_of_ble_eq_true rfl) (by omega) (by decide) rfl rfl ?_
  refine jw_astore_n (pc' := 7) (lc' := [(3, _)]) jd_Branchwork_size_6 rfl (Nat.le_of_ble_eq_true rfl) ⟨rfl, trivial⟩ rfl ?_
  refine jw_aload_n (pc' := 8) jd_Branchwork_size_7 rfl rfl rfl ?_
  refine zx_callV0 (pc' := 11) hR (c_exists hc) jm_Content_exists jq_784 jc_Content jd_Branchwork_size_8 (mc_Content _ (by assumption)) rfl rfl (Nat.le_of_ble_eq_true rfl) (by omega) (by decide) rfl rfl ?_
  refine zx_if_eq (tgt := 21) (pc' := 14) (by first | exact rg_iv _ _ _ | omega) jd_Branchwork_size_11 (by decide) rfl (fun q => ?_) (fun q => ?_)
  · refine zx_iconst (pc' := 22) (n := -1) jd_Branchwork_size_21 rfl ?_
    refine zx_iret hE jd_Branchwork_size_22 rfl ?_
    exact ⟨by unfold szF; rw [if_pos q], rfl⟩
  · refine jw_aload_n (pc' := 15) jd_Branchwork_size_14 rfl rfl rfl ?_
    refine zx_callV0 (pc' := 18) hR (c_length hc) jm_Content_length jq_349 jc_Content jd_Branchwork_size_15 (mc_Content _ (by assumption)) rfl rfl (Nat.le_of_ble_eq_true rfl) (by omega) (by decide) rfl rfl ?_
    refine jw_goto (tgt := 22) jd_Branchwork_size_18 (by decide) ?_
    refine zx_iret hE jd_Branchwork_size_22 rfl ?_
    exact ⟨by unfold szF; rw [if_neg q], rfl⟩
noncomputable def stF (a b : zV) : Int := if eqV a b = 0 then (if b.1 = 0 then 1 else if a.1 = 0 then 3 else 2) else 0
theorem stF_0 {a b : zV} : stF a b = 0 ↔ a = b := by
  unfold stF
  by_cases e : eqV a b = 0
  · rw [if_pos e]
    constructor
    · intro z
      split at z
      · cases z
      · split at z <;> cases z
    · intro z
      exact absurd z (eqV_0.mp e)
  · rw [if_neg e]
    constructor
    · intro _
      exact eqV_1.mp (by have := eqV_01 a b; omega)
    · intro _; rfl
theorem f_status (h : GS o σ w Ts f g t c n kp l tp br cu mg) (hv : GV f g n kp tp br cu mg) (p : Nat) (hp : p < 12) : zRo mi_Branchwork_status 2 o [.ref (zb o), .int (iI p)] σ (some (.int (iI (stF (w p) (trV Ts (tp cu) p))))) := by
  have hr := hv.2.2.2.2.2.1 cu
  have hn := hv.2.2.2.2.2.2.2.2
  have h1 := h.1
  have h11 := h1.1
  have h2 := h.tree (tp cu)
  have h21 := h2.1
  have c1 := h1.2 p hp
  have c2 := h2.2 p hp
  have c11 := c1.1
  have c21 := c2.1
  have o1 := c1.2.1.p
  have o2 := c2.2.1.p
  have e01 := eqV_01 (w p) (trV Ts (tp cu) p)
  refine z_spec (by decide +kernel) (Nat.le_of_ble_eq_true rfl) rfl (fun k hs hR hE => ?_)
  refine jw_iload_n (pc' := 1) jd_Branchwork_status_0 rfl rfl rfl ?_
  refine zx_callS0 (pc' := 4) hR (f_reqPath p hp) jm_Branchwork_requirePath jq_274 jd_Branchwork_status_1 rfl rfl (Nat.le_of_ble_eq_true rfl) (by omega) (by decide) rfl rfl ?_
  refine jw_aload_n (pc' := 5) jd_Branchwork_status_4 rfl rfl rfl ?_
  refine jw_get (pc' := 8) (kf := 1) jc_Branchwork (by decide) jq_240 jd_Branchwork_status_5 (mc_Branchwork _) rfl rfl ?_
  refine jw_aload_n (pc' := 9) jd_Branchwork_status_8 rfl rfl rfl ?_
  refine zx_callV0 (pc' := 12) hR (f_head h hv) jm_Branchwork_head jq_448 jc_Branchwork jd_Branchwork_status_9 (mc_Branchwork _) rfl rfl (Nat.le_of_ble_eq_true rfl) (by omega) (by decide) rfl rfl ?_
  refine zx_callV0 (pc' := 15) hR (h_treeOf _ (by omega)) jm_History_treeOf jq_452 jc_History jd_Branchwork_status_12 (mc_History _) rfl rfl (Nat.le_of_ble_eq_true rfl) (by omega) (by decide) rfl rfl ?_
  refine jw_astore_n (pc' := 16) (lc' := [(0, _), (1, _), (2, _)]) jd_Branchwork_status_15 rfl (Nat.le_of_ble_eq_true rfl) ⟨rfl, rfl, rfl, trivial⟩ rfl ?_
  refine jw_aload_n (pc' := 17) jd_Branchwork_status_16 rfl rfl rfl ?_
  refine jw_get (pc' := 20) (kf := 0) jc_Branchwork (by decide) jq_239 jd_Branchwork_status_17 (mc_Branchwork _) rfl rfl ?_
  refine jw_iload_n (pc' := 21) jd_Branchwork_status_20 rfl rfl rfl ?_
  refine zx_callV0 (pc' := 24) hR (t_fileAt h11 p hp) jm_Tree_fileAt jq_345 jc_Tree jd_Branchwork_status_21 (mc_Tree _ (by assumption)) rfl rfl (Nat.le_of_ble_eq_true rfl) (by omega) (by decide) rfl rfl ?_
  refine jw_aload_n (pc' := 25) jd_Branchwork_status_24 rfl rfl rfl ?_
  refine jw_iload_n (pc' := 26) jd_Branchwork_status_25 rfl rfl rfl ?_
  refine zx_callV0 (pc' := 29) hR (t_fileAt h21 p hp) jm_Tree_fileAt jq_345 jc_Tree jd_Branchwork_status_26 (mc_Tree _ (by assumption)) rfl rfl (Nat.le_of_ble_eq_true rfl) (by omega) (by decide) rfl rfl ?_
  refine zx_callV0 (pc' := 32) hR (c_sameAs c1 c2) jm_Content_sameAs jq_811 jc_Content jd_Branchwork_status_29 (mc_Content _ (by assumption)) rfl rfl (Nat.le_of_ble_eq_true rfl) (by omega) (by decide) rfl rfl ?_
  refine zx_if_eq (tgt := 37) (pc' := 35) (by first | exact rg_iv _ _ _ | omega) jd_Branchwork_status_32 (by decide) rfl (fun q => ?_) (fun q => ?_)
  rotate_left
  · refine zx_iconst (pc' := 36) (n := 0) jd_Branchwork_status_35 rfl ?_
    refine zx_iret hE jd_Branchwork_status_36 rfl ?_
    exact ⟨by unfold stF; rw [if_neg q], rfl⟩
  refine jw_aload_n (pc' := 38) jd_Branchwork_status_37 rfl rfl rfl ?_
  refine jw_iload_n (pc' := 39) jd_Branchwork_status_38 rfl rfl rfl ?_
  refine zx_callV0 (pc' := 42) hR (t_has h2 p hp) jm_Tree_has jq_401 jc_Tree jd_Branchwork_status_39 (mc_Tree _ (by assumption)) rfl rfl (Nat.le_of_ble_eq_true rfl) (by omega) (by decide) rfl rfl ?_
  refine zx_if_ne (tgt := 47) (pc' := 45) (by first | exact rg_iv _ _ _ | omega) jd_Branchwork_status_42 (by decide) rfl (fun q2 => ?_) (fun q2 => ?_)
  rotate_left
  · refine zx_iconst (pc' := 46) (n := 1) jd_Branchwork_status_45 rfl ?_
    refine zx_iret hE jd_Branchwork_status_46 rfl ?_
    exact ⟨by unfold stF; rw [if_pos q, if_pos q2], rfl⟩
  refine jw_aload_n (pc' := 48) jd_Branchwork_status_47 rfl rfl rfl ?_
  refine jw_get (pc' := 51) (kf := 0) jc_Branchwork (by decide) jq_239 jd_Branchwork_status_48 (mc_Branchwork _) rfl rfl ?_
  refine jw_iload_n (pc' := 52) jd_Branchwork_status_51 rfl rfl rfl ?_
  refine zx_callV0 (pc' := 55) hR (t_has h1 p hp) jm_Tree_has jq_401 jc_Tree jd_Branchwork_status_52 (mc_Tree _ (by assumption)) rfl rfl (Nat.le_of_ble_eq_true rfl) (by omega) (by decide) rfl rfl ?_
  refine zx_if_eq (tgt := 62) (pc' := 58) (by first | exact rg_iv _ _ _ | omega) jd_Branchwork_status_55 (by decide) rfl (fun q3 => ?_) (fun q3 => ?_)
  · refine zx_iconst (pc' := 63) (n := 3) jd_Branchwork_status_62 rfl ?_
    refine zx_iret hE jd_Branchwork_status_63 rfl ?_
    exact ⟨by unfold stF; rw [if_pos q, if_neg q2, if_pos q3], rfl⟩
  · refine zx_iconst (pc' := 59) (n := 2) jd_Branchwork_status_58 rfl ?_
    refine jw_goto (tgt := 63) jd_Branchwork_status_59 (by decide) ?_
    refine zx_iret hE jd_Branchwork_status_63 rfl ?_
    exact ⟨by unfold stF; rw [if_pos q, if_neg q2, if_neg q3], rfl⟩
theorem f_confl (h : GS o σ w Ts f g t c n kp l tp br cu mg) (j : Nat) (hj : j < l.1) : zRo mi_Branchwork_conflict 2 o [.ref (zb o), .int (iI j), .int (iI 0)] σ (some (.int (iI (l.2 j).1))) ∧ zRo mi_Branchwork_conflict 2 o [.ref (zb o), .int (iI j), .int (iI 1)] σ (some (.int (iI (l.2 j).2))) := by
  have h5 := h.2.2.2.2.1
  have h51 := h5.1
  constructor
  · refine z_spec (by decide +kernel) (Nat.le_of_ble_eq_true rfl) rfl (fun k hs hR hE => ?_)
    refine jw_aload_n (pc' := 1) jd_Branchwork_conflict_0 rfl rfl rfl ?_
    refine jw_iload_n (pc' := 2) jd_Branchwork_conflict_1 rfl rfl rfl ?_
    refine zx_callV0 (pc' := 5) hR (f_reqConf h j hj) jm_Branchwork_requireConflict jq_672 jc_Branchwork jd_Branchwork_conflict_2 (mc_Branchwork _) rfl rfl (Nat.le_of_ble_eq_true rfl) (by omega) (by decide) rfl rfl ?_
    refine jw_iload_n (pc' := 6) jd_Branchwork_conflict_5 rfl rfl rfl ?_
    refine jw_lookup (tgt := 32) (off := 26) jd_Branchwork_conflict_6 (by decide +kernel) (by decide +kernel) (by decide) ?_
    refine jw_aload_n (pc' := 33) jd_Branchwork_conflict_32 rfl rfl rfl ?_
    refine jw_get (pc' := 36) (kf := 3) jc_Branchwork (by decide) jq_242 jd_Branchwork_conflict_33 (mc_Branchwork _) rfl rfl ?_
    refine jw_iload_n (pc' := 37) jd_Branchwork_conflict_36 rfl rfl rfl ?_
    refine zx_callV0 (pc' := 40) hR (k_code h5 j hj) jm_Conflicts_codeOf jq_789 jc_Conflicts jd_Branchwork_conflict_37 (mc_Conflicts _ (by assumption)) rfl rfl (Nat.le_of_ble_eq_true rfl) (by omega) (by decide) rfl rfl ?_
    refine zx_iret hE jd_Branchwork_conflict_40 rfl ?_
    exact ⟨rfl, rfl⟩
  · refine z_spec (by decide +kernel) (Nat.le_of_ble_eq_true rfl) rfl (fun k hs hR hE => ?_)
    refine jw_aload_n (pc' := 1) jd_Branchwork_conflict_0 rfl rfl rfl ?_
    refine jw_iload_n (pc' := 2) jd_Branchwork_conflict_1 rfl rfl rfl ?_
    refine zx_callV0 (pc' := 5) hR (f_reqConf h j hj) jm_Branchwork_requireConflict jq_672 jc_Branchwork jd_Branchwork_conflict_2 (mc_Branchwork _) rfl rfl (Nat.le_of_ble_eq_true rfl) (by omega) (by decide) rfl rfl ?_
    refine jw_iload_n (pc' := 6) jd_Branchwork_conflict_5 rfl rfl rfl ?_
    refine jw_lookup (tgt := 41) (off := 35) jd_Branchwork_conflict_6 (by decide +kernel) (by decide +kernel) (by decide) ?_
    refine jw_aload_n (pc' := 42) jd_Branchwork_conflict_41 rfl rfl rfl ?_
    refine jw_get (pc' := 45) (kf := 3) jc_Branchwork (by decide) jq_242 jd_Branchwork_conflict_42 (mc_Branchwork _) rfl rfl ?_
    refine jw_iload_n (pc' := 46) jd_Branchwork_conflict_45 rfl rfl rfl ?_
    refine zx_callV0 (pc' := 49) hR (k_path h5 j hj) jm_Conflicts_pathOf jq_790 jc_Conflicts jd_Branchwork_conflict_46 (mc_Conflicts _ (by assumption)) rfl rfl (Nat.le_of_ble_eq_true rfl) (by omega) (by decide) rfl rfl ?_
    refine zx_iret hE jd_Branchwork_conflict_49 rfl ?_
    exact ⟨rfl, rfl⟩
theorem f_base (h : GS o σ w Ts f g t c n kp l tp br cu mg) (a b : Nat) (ha : a < 30) (hb : b < 30) (hka : kp.testBit a = true) (hkb : kp.testBit b = true) : zRo mi_Branchwork_base 5 o [.ref (zb o), .int (iI a), .int (iI b)] σ (some (.int (iI (caF f g a b)))) := by
  refine z_spec (by decide +kernel) (Nat.le_of_ble_eq_true rfl) rfl (fun k hs hR hE => ?_)
  refine jw_aload_n (pc' := 1) jd_Branchwork_base_0 rfl rfl rfl ?_
  refine jw_iload_n (pc' := 2) jd_Branchwork_base_1 rfl rfl rfl ?_
  refine zx_callV0 (pc' := 5) hR (f_reqCommit h a ha hka) jm_Branchwork_requireCommit jq_753 jc_Branchwork jd_Branchwork_base_2 (mc_Branchwork _) rfl rfl (Nat.le_of_ble_eq_true rfl) (by omega) (by decide) rfl rfl ?_
  refine jw_aload_n (pc' := 6) jd_Branchwork_base_5 rfl rfl rfl ?_
  refine jw_iload_n (pc' := 7) jd_Branchwork_base_6 rfl rfl rfl ?_
  refine zx_callV0 (pc' := 10) hR (f_reqCommit h b hb hkb) jm_Branchwork_requireCommit jq_753 jc_Branchwork jd_Branchwork_base_7 (mc_Branchwork _) rfl rfl (Nat.le_of_ble_eq_true rfl) (by omega) (by decide) rfl rfl ?_
  refine jw_aload_n (pc' := 11) jd_Branchwork_base_10 rfl rfl rfl ?_
  refine jw_get (pc' := 14) (kf := 1) jc_Branchwork (by decide) jq_240 jd_Branchwork_base_11 (mc_Branchwork _) rfl rfl ?_
  refine jw_iload_n (pc' := 15) jd_Branchwork_base_14 rfl rfl rfl ?_
  refine jw_iload_n (pc' := 16) jd_Branchwork_base_15 rfl rfl rfl ?_
  refine zx_callV0 (pc' := 19) hR (h_common h.2.2.2.1 a b (by omega) (by omega)) jm_History_commonAncestor jq_516 jc_History jd_Branchwork_base_16 (mc_History _) rfl rfl (Nat.le_of_ble_eq_true rfl) (by omega) (by decide) rfl rfl ?_
  refine zx_iret hE jd_Branchwork_base_19 rfl ?_
  exact ⟨rfl, rfl⟩
def weF (A B : zT) (p : Nat) : Int := if (A p).1 = 0 then -2 else (trF A B).1 p
theorem f_went (h : GS o σ w Ts f g t c n kp l tp br cu mg) (a b p : Nat) (ha : a < 30) (hb : b < 30) (hp : p < 12) (hka : kp.testBit a = true) (hkb : kp.testBit b = true) : zSpec mi_Branchwork_went 5 o [.ref (zb o), .int (iI a), .int (iI b), .int (iI p)] σ (fun v s => v = some (.int (iI (weF (Ts a) (Ts b) p))) ∧ zE o σ s) := by
  have h3 := h.2.2.1 a ha
  have h31 := h3.1
  have o1 := (h3.2 p hp).2.1.p
  have ra := tA_rng (o := o) ha
  have rb := tA_rng (o := o) hb
  have ir := isR_own (o := o)
  refine z_spec (by decide +kernel) (Nat.le_of_ble_eq_true rfl) rfl (fun k hs hR hE => ?_)
  refine jw_aload_n (pc' := 1) jd_Branchwork_went_0 rfl rfl rfl ?_
  refine jw_iload_n (pc' := 2) jd_Branchwork_went_1 rfl rfl rfl ?_
  refine zx_callV0 (pc' := 5) hR (f_reqCommit h a ha hka) jm_Branchwork_requireCommit jq_753 jc_Branchwork jd_Branchwork_went_2 (mc_Branchwork _) rfl rfl (Nat.le_of_ble_eq_true rfl) (by omega) (by decide) rfl rfl ?_
  refine jw_aload_n (pc' := 6) jd_Branchwork_went_5 rfl rfl rfl ?_
  refine jw_iload_n (pc' := 7) jd_Branchwork_went_6 rfl rfl rfl ?_
  refine zx_callV0 (pc' := 10) hR (f_reqCommit h b hb hkb) jm_Branchwork_requireCommit jq_753 jc_Branchwork jd_Branchwork_went_7 (mc_Branchwork _) rfl rfl (Nat.le_of_ble_eq_true rfl) (by omega) (by decide) rfl rfl ?_
  refine jw_iload_n (pc' := 11) jd_Branchwork_went_10 rfl rfl rfl ?_
  refine zx_callS0 (pc' := 14) hR (f_reqPath p hp) jm_Branchwork_requirePath jq_274 jd_Branchwork_went_11 rfl rfl (Nat.le_of_ble_eq_true rfl) (by omega) (by decide) rfl rfl ?_
  refine jw_aload_n (pc' := 15) jd_Branchwork_went_14 rfl rfl rfl ?_
  refine jw_get (pc' := 18) (kf := 1) jc_Branchwork (by decide) jq_240 jd_Branchwork_went_15 (mc_Branchwork _) rfl rfl ?_
  refine jw_iload_n (pc' := 19) jd_Branchwork_went_18 rfl rfl rfl ?_
  refine zx_callV0 (pc' := 22) hR (h_treeOf a (by omega)) jm_History_treeOf jq_452 jc_History jd_Branchwork_went_19 (mc_History _) rfl rfl (Nat.le_of_ble_eq_true rfl) (by omega) (by decide) rfl rfl ?_
  rw [trA_i ha]
  refine jw_iload_n (pc' := 23) jd_Branchwork_went_22 rfl rfl rfl ?_
  refine zx_callV0 (pc' := 26) hR (t_has h3 p hp) jm_Tree_has jq_401 jc_Tree jd_Branchwork_went_23 (mc_Tree _ (by assumption)) rfl rfl (Nat.le_of_ble_eq_true rfl) (by omega) (by decide) rfl rfl ?_
  refine zx_if_ne (tgt := 32) (pc' := 29) (by first | exact rg_iv _ _ _ | omega) jd_Branchwork_went_26 (by decide) rfl (fun q => ?_) (fun q => ?_)
  rotate_left
  · refine zx_bipush (pc' := 31) (n := -2) jd_Branchwork_went_29 (by decide +kernel) rfl ?_
    refine zx_iret hE jd_Branchwork_went_31 rfl ?_
    exact ⟨by unfold weF; rw [if_pos q], zE.rf⟩
  refine jw_aload_n (pc' := 33) jd_Branchwork_went_32 rfl rfl rfl ?_
  refine jw_get (pc' := 36) (kf := 4) jc_Branchwork (by decide) jq_243 jd_Branchwork_went_33 (mc_Branchwork _) rfl rfl ?_
  refine jw_aload_n (pc' := 37) jd_Branchwork_went_36 rfl rfl rfl ?_
  refine jw_get (pc' := 40) (kf := 1) jc_Branchwork (by decide) jq_240 jd_Branchwork_went_37 (mc_Branchwork _) rfl rfl ?_
  refine jw_iload_n (pc' := 41) jd_Branchwork_went_40 rfl rfl rfl ?_
  refine zx_callV0 (pc' := 44) hR (h_treeOf a (by omega)) jm_History_treeOf jq_452 jc_History jd_Branchwork_went_41 (mc_History _) rfl rfl (Nat.le_of_ble_eq_true rfl) (by omega) (by decide) rfl rfl ?_
  rw [trA_i ha]
  refine jw_aload_n (pc' := 45) jd_Branchwork_went_44 rfl rfl rfl ?_
  refine jw_get (pc' := 48) (kf := 1) jc_Branchwork (by decide) jq_240 jd_Branchwork_went_45 (mc_Branchwork _) rfl rfl ?_
  refine jw_iload_n (pc' := 49) jd_Branchwork_went_48 rfl rfl rfl ?_
  refine zx_callV0 (pc' := 52) hR (h_treeOf b (by omega)) jm_History_treeOf jq_452 jc_History jd_Branchwork_went_49 (mc_History _) rfl rfl (Nat.le_of_ble_eq_true rfl) (by omega) (by decide) rfl rfl ?_
  rw [trA_i hb]
  refine zx_callV (pc' := 55) hR (r_trace ir h3 (h.2.2.1 b hb) (by omega) (by omega)) jm_Renames_trace jq_800 jc_Renames jd_Branchwork_went_52 (mc_Renames _ (by assumption)) rfl rfl (Nat.le_of_ble_eq_true rfl) (by omega) (by decide) rfl (fun v9 s1 q9 => ?_)
  obtain ⟨rfl, g1, F1⟩ := q9
  refine jw_aload_n (pc' := 56) jd_Branchwork_went_55 rfl rfl rfl ?_
  refine jw_get (pc' := 59) (kf := 4) jc_Branchwork (by decide) jq_243 jd_Branchwork_went_56 (mc_Branchwork _) rfl rfl ?_
  refine jw_iload_n (pc' := 60) jd_Branchwork_went_59 rfl rfl rfl ?_
  refine zx_callV0 (pc' := 63) hR (r_fate g1 p hp) jm_Renames_fateOf jq_801 jc_Renames jd_Branchwork_went_60 (mc_Renames _ (by assumption)) rfl rfl (Nat.le_of_ble_eq_true rfl) (by omega) (by decide) rfl rfl ?_
  refine zx_iret hE jd_Branchwork_went_63 rfl ?_
  exact ⟨by unfold weF; rw [if_neg q], zE.own F1 (by omega) (by omega)⟩
theorem f_changes (h : GS o σ w Ts f g t c n kp l tp br cu mg) (a b : Nat) (ha : a < 30) (hb : b < 30) (hka : kp.testBit a = true) (hkb : kp.testBit b = true) : zSpec mi_Branchwork_changes 5 o [.ref (zb o), .int (iI a), .int (iI b), .int (iI 2)] σ (fun v s => v = some (.int (iI (trF (Ts a) (Ts b)).2.2)) ∧ zE o σ s) := by
  have hA := h.2.2.1 a ha
  have hB := h.2.2.1 b hb
  have ra := tA_rng (o := o) ha
  have rb := tA_rng (o := o) hb
  have ir := isR_own (o := o)
  refine z_spec (by decide +kernel) (Nat.le_of_ble_eq_true rfl) rfl (fun k hs hR hE => ?_)
  refine jw_aload_n (pc' := 1) jd_Branchwork_changes_0 rfl rfl rfl ?_
  refine jw_iload_n (pc' := 2) jd_Branchwork_changes_1 rfl rfl rfl ?_
  refine zx_callV0 (pc' := 5) hR (f_reqCommit h a ha hka) jm_Branchwork_requireCommit jq_753 jc_Branchwork jd_Branchwork_changes_2 (mc_Branchwork _) rfl rfl (Nat.le_of_ble_eq_true rfl) (by omega) (by decide) rfl rfl ?_
  refine jw_aload_n (pc' := 6) jd_Branchwork_changes_5 rfl rfl rfl ?_
  refine jw_iload_n (pc' := 7) jd_Branchwork_changes_6 rfl rfl rfl ?_
  refine zx_callV0 (pc' := 10) hR (f_reqCommit h b hb hkb) jm_Branchwork_requireCommit jq_753 jc_Branchwork jd_Branchwork_changes_7 (mc_Branchwork _) rfl rfl (Nat.le_of_ble_eq_true rfl) (by omega) (by decide) rfl rfl ?_
  refine jw_iload_n (pc' := 11) jd_Branchwork_changes_10 rfl rfl rfl ?_
  refine zx_if_lt (tgt := 19) (pc' := 14) (by first | exact rg_iv _ _ _ | omega) jd_Branchwork_changes_11 (by decide) rfl (fun q => ?_) (fun q => ?_)
  · exfalso; omega
  refine jw_iload_n (pc' := 15) jd_Branchwork_changes_14 rfl rfl rfl ?_
  refine zx_iconst (pc' := 16) (n := 3) jd_Branchwork_changes_15 rfl ?_
  refine zx_icmp_le (tgt := 30) (pc' := 19) (by first | exact rg_iv _ _ _ | omega) (by first | exact rg_iv _ _ _ | omega) jd_Branchwork_changes_16 (by decide) rfl (fun q2 => ?_) (fun q2 => ?_)
  rotate_left
  · exfalso; omega
  refine jw_aload_n (pc' := 31) jd_Branchwork_changes_30 rfl rfl rfl ?_
  refine jw_get (pc' := 34) (kf := 1) jc_Branchwork (by decide) jq_240 jd_Branchwork_changes_31 (mc_Branchwork _) rfl rfl ?_
  refine jw_iload_n (pc' := 35) jd_Branchwork_changes_34 rfl rfl rfl ?_
  refine zx_callV0 (pc' := 38) hR (h_treeOf a (by omega)) jm_History_treeOf jq_452 jc_History jd_Branchwork_changes_35 (mc_History _) rfl rfl (Nat.le_of_ble_eq_true rfl) (by omega) (by decide) rfl rfl ?_
  rw [trA_i ha]
  refine jw_astore (pc' := 40) (lc' := [(0, _), (2, _), (3, _), (4, _)]) jd_Branchwork_changes_38 (Nat.le_of_ble_eq_true rfl) ⟨rfl, rfl, rfl, rfl, trivial⟩ rfl ?_
  refine jw_aload_n (pc' := 41) jd_Branchwork_changes_40 rfl rfl rfl ?_
  refine jw_get (pc' := 44) (kf := 1) jc_Branchwork (by decide) jq_240 jd_Branchwork_changes_41 (mc_Branchwork _) rfl rfl ?_
  refine jw_iload_n (pc' := 45) jd_Branchwork_changes_44 rfl rfl rfl ?_
  refine zx_callV0 (pc' := 48) hR (h_treeOf b (by omega)) jm_History_treeOf jq_452 jc_History jd_Branchwork_changes_45 (mc_History _) rfl rfl (Nat.le_of_ble_eq_true rfl) (by omega) (by decide) rfl rfl ?_
  rw [trA_i hb]
  refine jw_astore (pc' := 50) (lc' := [(0, _), (3, _), (4, _), (5, _)]) jd_Branchwork_changes_48 (Nat.le_of_ble_eq_true rfl) ⟨rfl, rfl, rfl, rfl, trivial⟩ rfl ?_
  refine jw_aload_n (pc' := 51) jd_Branchwork_changes_50 rfl rfl rfl ?_
  refine jw_get (pc' := 54) (kf := 4) jc_Branchwork (by decide) jq_243 jd_Branchwork_changes_51 (mc_Branchwork _) rfl rfl ?_
  refine jw_aload (pc' := 56) jd_Branchwork_changes_54 rfl rfl ?_
  refine jw_aload (pc' := 58) jd_Branchwork_changes_56 rfl rfl ?_
  refine zx_callV (pc' := 61) hR (r_trace ir hA hB (by omega) (by omega)) jm_Renames_trace jq_800 jc_Renames jd_Branchwork_changes_58 (mc_Renames _ (by assumption)) rfl rfl (Nat.le_of_ble_eq_true rfl) (by omega) (by decide) rfl (fun v9 s1 q9 => ?_)
  obtain ⟨rfl, g1, F1⟩ := q9
  refine zx_iconst (pc' := 62) (n := 0) jd_Branchwork_changes_61 rfl ?_
  refine jw_istore (pc' := 64) (lc' := [(0, _), (3, _), (4, _), (5, _), (6, _)]) jd_Branchwork_changes_62 (Nat.le_of_ble_eq_true rfl) ⟨rfl, rfl, rfl, rfl, rfl, trivial⟩ rfl ?_
  refine zx_iconst (pc' := 65) (n := 0) jd_Branchwork_changes_64 rfl ?_
  refine jw_istore (pc' := 67) (lc' := [(0, _), (3, _), (4, _), (5, _), (6, _), (7, _)]) jd_Branchwork_changes_65 (Nat.le_of_ble_eq_true rfl) ⟨rfl, rfl, rfl, rfl, rfl, rfl, trivial⟩ rfl ?_
  have E1 : zE o σ s1 := zE.own F1 (by omega) (by omega)
  have sA := (h.e E1).2.2.1 a ha
  have sB := (h.e E1).2.2.1 b hb
  have sA1 := sA.1
  have sB1 := sB.1
  have okA : ∀ p, p < 12 → okV (Ts a p) := fun p hp => (hA.2 p hp).2.1
  have okB : ∀ p, p < 12 → okV (Ts b p) := fun p hp => (hB.2 p hp).2.1
  obtain ⟨q1, q2, -⟩ := trF_P okA okB
  have kind : ∀ p : Nat, p < 12 → zSpec mi_Branchwork_kindOfChange 2 o [.ref (zb o), .ref (tA o a), .ref (tA o b), .int (iI p)] s1 (fun v s => (∃ x : Int, v = some (.int (iI x)) ∧ ¬ x = 2 ∧ -1 ≤ x ∧ x ≤ 3) ∧ s = s1) := by
    intro p hp
    have o1 := (okA p hp).p
    have o2 := (okB p hp).p
    have r1 := q1 p
    have r2 := q2 p
    have e01 := eqV_01 (Ts a p) (Ts b p)
    have hc1 := (sA.2 p hp).1
    refine z_spec (by decide +kernel) (Nat.le_of_ble_eq_true rfl) rfl (fun k hs hR hE => ?_)
    refine jw_aload_n (pc' := 1) jd_Branchwork_kindOfChange_0 rfl rfl rfl ?_
    refine jw_iload_n (pc' := 2) jd_Branchwork_kindOfChange_1 rfl rfl rfl ?_
    refine zx_callV0 (pc' := 5) hR (t_has sA p hp) jm_Tree_has jq_401 jc_Tree jd_Branchwork_kindOfChange_2 (mc_Tree _ (by assumption)) rfl rfl (Nat.le_of_ble_eq_true rfl) (by omega) (by decide) rfl rfl ?_
    refine zx_if_eq (tgt := 56) (pc' := 8) (by first | exact rg_iv _ _ _ | omega) jd_Branchwork_kindOfChange_5 (by decide) rfl (fun q5 => ?_) (fun q5 => ?_)
    · refine jw_aload_n (pc' := 57) jd_Branchwork_kindOfChange_56 rfl rfl rfl ?_
      refine jw_iload_n (pc' := 58) jd_Branchwork_kindOfChange_57 rfl rfl rfl ?_
      refine zx_callV0 (pc' := 61) hR (t_has sB p hp) jm_Tree_has jq_401 jc_Tree jd_Branchwork_kindOfChange_58 (mc_Tree _ (by assumption)) rfl rfl (Nat.le_of_ble_eq_true rfl) (by omega) (by decide) rfl rfl ?_
      refine zx_if_eq (tgt := 80) (pc' := 64) (by first | exact rg_iv _ _ _ | omega) jd_Branchwork_kindOfChange_61 (by decide) rfl (fun q6 => ?_) (fun q6 => ?_)
      · refine zx_iconst (pc' := 81) (n := -1) jd_Branchwork_kindOfChange_80 rfl ?_
        refine zx_iret hE jd_Branchwork_kindOfChange_81 rfl ?_
        exact ⟨⟨_, rfl, by omega, by omega, by omega⟩, rfl⟩
      refine jw_aload_n (pc' := 65) jd_Branchwork_kindOfChange_64 rfl rfl rfl ?_
      refine jw_get (pc' := 68) (kf := 4) jc_Branchwork (by decide) jq_243 jd_Branchwork_kindOfChange_65 (mc_Branchwork _) rfl rfl ?_
      refine jw_iload_n (pc' := 69) jd_Branchwork_kindOfChange_68 rfl rfl rfl ?_
      refine zx_callV0 (pc' := 72) hR (r_source g1 p hp) jm_Renames_sourceOf jq_812 jc_Renames jd_Branchwork_kindOfChange_69 (mc_Renames _ (by assumption)) rfl rfl (Nat.le_of_ble_eq_true rfl) (by omega) (by decide) rfl rfl ?_
      refine zx_iconst (pc' := 73) (n := -1) jd_Branchwork_kindOfChange_72 rfl ?_
      refine zx_icmp_ne (tgt := 80) (pc' := 76) (by first | exact rg_iv _ _ _ | omega) (by first | exact rg_iv _ _ _ | omega) jd_Branchwork_kindOfChange_73 (by decide) rfl (fun q7 => ?_) (fun q7 => ?_)
      · refine zx_iconst (pc' := 81) (n := -1) jd_Branchwork_kindOfChange_80 rfl ?_
        refine zx_iret hE jd_Branchwork_kindOfChange_81 rfl ?_
        exact ⟨⟨_, rfl, by omega, by omega, by omega⟩, rfl⟩
      · refine zx_iconst (pc' := 77) (n := 0) jd_Branchwork_kindOfChange_76 rfl ?_
        refine jw_goto (tgt := 81) jd_Branchwork_kindOfChange_77 (by decide) ?_
        refine zx_iret hE jd_Branchwork_kindOfChange_81 rfl ?_
        exact ⟨⟨_, rfl, by omega, by omega, by omega⟩, rfl⟩
    refine jw_aload_n (pc' := 9) jd_Branchwork_kindOfChange_8 rfl rfl rfl ?_
    refine jw_iload_n (pc' := 10) jd_Branchwork_kindOfChange_9 rfl rfl rfl ?_
    refine zx_callV0 (pc' := 13) hR (t_has sB p hp) jm_Tree_has jq_401 jc_Tree jd_Branchwork_kindOfChange_10 (mc_Tree _ (by assumption)) rfl rfl (Nat.le_of_ble_eq_true rfl) (by omega) (by decide) rfl rfl ?_
    refine zx_if_eq (tgt := 38) (pc' := 16) (by first | exact rg_iv _ _ _ | omega) jd_Branchwork_kindOfChange_13 (by decide) rfl (fun q6 => ?_) (fun q6 => ?_)
    · refine jw_aload_n (pc' := 39) jd_Branchwork_kindOfChange_38 rfl rfl rfl ?_
      refine jw_get (pc' := 42) (kf := 4) jc_Branchwork (by decide) jq_243 jd_Branchwork_kindOfChange_39 (mc_Branchwork _) rfl rfl ?_
      refine jw_iload_n (pc' := 43) jd_Branchwork_kindOfChange_42 rfl rfl rfl ?_
      refine zx_callV0 (pc' := 46) hR (r_fate g1 p hp) jm_Renames_fateOf jq_801 jc_Renames jd_Branchwork_kindOfChange_43 (mc_Renames _ (by assumption)) rfl rfl (Nat.le_of_ble_eq_true rfl) (by omega) (by decide) rfl rfl ?_
      refine zx_iconst (pc' := 47) (n := -1) jd_Branchwork_kindOfChange_46 rfl ?_
      refine zx_icmp_ne (tgt := 54) (pc' := 50) (by first | exact rg_iv _ _ _ | omega) (by first | exact rg_iv _ _ _ | omega) jd_Branchwork_kindOfChange_47 (by decide) rfl (fun q7 => ?_) (fun q7 => ?_)
      · refine zx_iconst (pc' := 55) (n := -1) jd_Branchwork_kindOfChange_54 rfl ?_
        refine zx_iret hE jd_Branchwork_kindOfChange_55 rfl ?_
        exact ⟨⟨_, rfl, by omega, by omega, by omega⟩, rfl⟩
      · refine zx_iconst (pc' := 51) (n := 1) jd_Branchwork_kindOfChange_50 rfl ?_
        refine jw_goto (tgt := 55) jd_Branchwork_kindOfChange_51 (by decide) ?_
        refine zx_iret hE jd_Branchwork_kindOfChange_55 rfl ?_
        exact ⟨⟨_, rfl, by omega, by omega, by omega⟩, rfl⟩
    refine jw_aload_n (pc' := 17) jd_Branchwork_kindOfChange_16 rfl rfl rfl ?_
    refine jw_iload_n (pc' := 18) jd_Branchwork_kindOfChange_17 rfl rfl rfl ?_
    refine zx_callV0 (pc' := 21) hR (t_fileAt sA1 p hp) jm_Tree_fileAt jq_345 jc_Tree jd_Branchwork_kindOfChange_18 (mc_Tree _ (by assumption)) rfl rfl (Nat.le_of_ble_eq_true rfl) (by omega) (by decide) rfl rfl ?_
    refine jw_aload_n (pc' := 22) jd_Branchwork_kindOfChange_21 rfl rfl rfl ?_
    refine jw_iload_n (pc' := 23) jd_Branchwork_kindOfChange_22 rfl rfl rfl ?_
    refine zx_callV0 (pc' := 26) hR (t_fileAt sB1 p hp) jm_Tree_fileAt jq_345 jc_Tree jd_Branchwork_kindOfChange_23 (mc_Tree _ (by assumption)) rfl rfl (Nat.le_of_ble_eq_true rfl) (by omega) (by decide) rfl rfl ?_
    refine zx_callV0 (pc' := 29) hR (c_sameAs (sA.2 p hp) (sB.2 p hp)) jm_Content_sameAs jq_811 jc_Content jd_Branchwork_kindOfChange_26 (mc_Content _ (by assumption)) rfl rfl (Nat.le_of_ble_eq_true rfl) (by omega) (by decide) rfl rfl ?_
    refine zx_if_eq (tgt := 36) (pc' := 32) (by first | exact rg_iv _ _ _ | omega) jd_Branchwork_kindOfChange_29 (by decide) rfl (fun q7 => ?_) (fun q7 => ?_)
    · refine zx_iconst (pc' := 37) (n := 3) jd_Branchwork_kindOfChange_36 rfl ?_
      refine zx_iret hE jd_Branchwork_kindOfChange_37 rfl ?_
      exact ⟨⟨_, rfl, by omega, by omega, by omega⟩, rfl⟩
    · refine zx_iconst (pc' := 33) (n := -1) jd_Branchwork_kindOfChange_32 rfl ?_
      refine jw_goto (tgt := 37) jd_Branchwork_kindOfChange_33 (by decide) ?_
      refine zx_iret hE jd_Branchwork_kindOfChange_37 rfl ?_
      exact ⟨⟨_, rfl, by omega, by omega, by omega⟩, rfl⟩
  have loop : ∀ (d i : Nat), i + d = 12 → jw_X mi_Branchwork_changes o k 0 0 67 [(0, .ref (zb o)), (3, .int (iI 2)), (4, .ref (tA o a)), (5, .ref (tA o b)), (6, .int (iI 0)), (7, .int (iI i))] [] (mm o s1) hs := by
    intro d
    induction d with
    | zero =>
      intro i hi
      refine jw_iload (pc' := 69) jd_Branchwork_changes_67 rfl rfl ?_
      refine zx_bipush (pc' := 71) (n := 12) jd_Branchwork_changes_69 (by decide +kernel) rfl ?_
      refine zx_icmp_ge (tgt := 97) (pc' := 74) (by first | exact rg_iv _ _ _ | omega) (by first | exact rg_iv _ _ _ | omega) jd_Branchwork_changes_71 (by decide) rfl (fun q => ?_) (fun q => ?_)
      rotate_left
      · exfalso; omega
      refine jw_iload (pc' := 99) jd_Branchwork_changes_97 rfl rfl ?_
      refine jw_iload_n (pc' := 100) jd_Branchwork_changes_99 rfl rfl rfl ?_
      refine zx_iconst (pc' := 101) (n := 2) jd_Branchwork_changes_100 rfl ?_
      refine zx_icmp_ne (tgt := 114) (pc' := 104) (by first | exact rg_iv _ _ _ | omega) (by first | exact rg_iv _ _ _ | omega) jd_Branchwork_changes_101 (by decide) rfl (fun q3 => ?_) (fun q3 => ?_)
      · exfalso; omega
      refine jw_aload_n (pc' := 105) jd_Branchwork_changes_104 rfl rfl rfl ?_
      refine jw_get (pc' := 108) (kf := 4) jc_Branchwork (by decide) jq_243 jd_Branchwork_changes_105 (mc_Branchwork _) rfl rfl ?_
      refine zx_callV0 (pc' := 111) hR (r_many g1) jm_Renames_howMany jq_813 jc_Renames jd_Branchwork_changes_108 (mc_Renames _ (by assumption)) rfl rfl (Nat.le_of_ble_eq_true rfl) (by omega) (by decide) rfl rfl ?_
      refine jw_goto (tgt := 115) jd_Branchwork_changes_111 (by decide) ?_
      refine zx_iadd (pc' := 116) jd_Branchwork_changes_115 rfl ?_
      refine zx_iret hE jd_Branchwork_changes_116 rfl ?_
      refine ⟨?_, E1⟩
      rw [show (0 : Int) + (trF (Ts a) (Ts b)).2.2 = (trF (Ts a) (Ts b)).2.2 by omega]
    | succ d ih =>
      intro i hi
      refine jw_iload (pc' := 69) jd_Branchwork_changes_67 rfl rfl ?_
      refine zx_bipush (pc' := 71) (n := 12) jd_Branchwork_changes_69 (by decide +kernel) rfl ?_
      refine zx_icmp_ge (tgt := 97) (pc' := 74) (by first | exact rg_iv _ _ _ | omega) (by first | exact rg_iv _ _ _ | omega) jd_Branchwork_changes_71 (by decide) rfl (fun q => ?_) (fun q => ?_)
      · exfalso; omega
      refine jw_aload_n (pc' := 75) jd_Branchwork_changes_74 rfl rfl rfl ?_
      refine jw_aload (pc' := 77) jd_Branchwork_changes_75 rfl rfl ?_
      refine jw_aload (pc' := 79) jd_Branchwork_changes_77 rfl rfl ?_
      refine jw_iload (pc' := 81) jd_Branchwork_changes_79 rfl rfl ?_
      refine zx_callV (pc' := 84) hR (kind i (by omega)) jm_Branchwork_kindOfChange jq_807 jc_Branchwork jd_Branchwork_changes_81 (mc_Branchwork _) rfl rfl (Nat.le_of_ble_eq_true rfl) (by omega) (by decide) rfl (fun v9 s2 q9 => ?_)
      obtain ⟨⟨x, rfl, x1, x2, x3⟩, e2⟩ := q9
      rw [e2]
      refine jw_iload_n (pc' := 85) jd_Branchwork_changes_84 rfl rfl rfl ?_
      refine zx_icmp_ne (tgt := 91) (pc' := 88) (by first | exact rg_iv _ _ _ | omega) (by first | exact rg_iv _ _ _ | omega) jd_Branchwork_changes_85 (by decide) rfl (fun q3 => ?_) (fun q3 => ?_)
      rotate_left
      · exfalso; omega
      refine zx_iinc (pc' := 94) (lc' := [(0, _), (3, _), (4, _), (5, _), (6, _), (7, _)]) jd_Branchwork_changes_91 rfl (Nat.le_of_ble_eq_true rfl) ⟨rfl, rfl, rfl, rfl, rfl, rfl, trivial⟩ rfl ?_
      refine jw_goto (tgt := 67) jd_Branchwork_changes_94 (by decide) ?_
      exact ih (i + 1) (by omega)
  exact loop 12 0 (by omega)
theorem f_near (h : GS o σ w Ts f g t c n kp l tp br cu mg) (a p : Nat) (ha : a < 30) (hp : p < 12) (hka : kp.testBit a = true) (h0 : ¬ (Ts a p).1 = 0) : zSpec mi_Branchwork_nearness 4 o [.ref (zb o), .int (iI a), .int (iI p), .int (iI a), .int (iI p)] σ (fun v s => v = some (.int (iI (nearV (Ts a p) (Ts a p)))) ∧ zE o σ s) := by
  have hA := h.2.2.1 a ha
  have hA1 := hA.1
  have ra := tA_rng (o := o) ha
  have im := isM_own (o := o)
  refine z_spec (by decide +kernel) (Nat.le_of_ble_eq_true rfl) rfl (fun k hs hR hE => ?_)
  refine jw_aload_n (pc' := 1) jd_Branchwork_nearness_0 rfl rfl rfl ?_
  refine jw_iload_n (pc' := 2) jd_Branchwork_nearness_1 rfl rfl rfl ?_
  refine zx_callV0 (pc' := 5) hR (f_reqCommit h a ha hka) jm_Branchwork_requireCommit jq_753 jc_Branchwork jd_Branchwork_nearness_2 (mc_Branchwork _) rfl rfl (Nat.le_of_ble_eq_true rfl) (by omega) (by decide) rfl rfl ?_
  refine jw_aload_n (pc' := 6) jd_Branchwork_nearness_5 rfl rfl rfl ?_
  refine jw_get (pc' := 9) (kf := 1) jc_Branchwork (by decide) jq_240 jd_Branchwork_nearness_6 (mc_Branchwork _) rfl rfl ?_
  refine jw_iload_n (pc' := 10) jd_Branchwork_nearness_9 rfl rfl rfl ?_
  refine zx_callV0 (pc' := 13) hR (h_treeOf a (by omega)) jm_History_treeOf jq_452 jc_History jd_Branchwork_nearness_10 (mc_History _) rfl rfl (Nat.le_of_ble_eq_true rfl) (by omega) (by decide) rfl rfl ?_
  rw [trA_i ha]
  refine jw_iload_n (pc' := 14) jd_Branchwork_nearness_13 rfl rfl rfl ?_
  refine zx_callS0 (pc' := 17) hR (f_reqFile hA p hp h0) jm_Branchwork_requireFile jq_398 jd_Branchwork_nearness_14 rfl rfl (Nat.le_of_ble_eq_true rfl) (by omega) (by decide) rfl rfl ?_
  refine jw_aload_n (pc' := 18) jd_Branchwork_nearness_17 rfl rfl rfl ?_
  refine jw_iload_n (pc' := 19) jd_Branchwork_nearness_18 rfl rfl rfl ?_
  refine zx_callV0 (pc' := 22) hR (f_reqCommit h a ha hka) jm_Branchwork_requireCommit jq_753 jc_Branchwork jd_Branchwork_nearness_19 (mc_Branchwork _) rfl rfl (Nat.le_of_ble_eq_true rfl) (by omega) (by decide) rfl rfl ?_
  refine jw_aload_n (pc' := 23) jd_Branchwork_nearness_22 rfl rfl rfl ?_
  refine jw_get (pc' := 26) (kf := 1) jc_Branchwork (by decide) jq_240 jd_Branchwork_nearness_23 (mc_Branchwork _) rfl rfl ?_
  refine jw_iload_n (pc' := 27) jd_Branchwork_nearness_26 rfl rfl rfl ?_
  refine zx_callV0 (pc' := 30) hR (h_treeOf a (by omega)) jm_History_treeOf jq_452 jc_History jd_Branchwork_nearness_27 (mc_History _) rfl rfl (Nat.le_of_ble_eq_true rfl) (by omega) (by decide) rfl rfl ?_
  rw [trA_i ha]
  refine jw_iload (pc' := 32) jd_Branchwork_nearness_30 rfl rfl ?_
  refine zx_callS0 (pc' := 35) hR (f_reqFile hA p hp h0) jm_Branchwork_requireFile jq_398 jd_Branchwork_nearness_32 rfl rfl (Nat.le_of_ble_eq_true rfl) (by omega) (by decide) rfl rfl ?_
  refine jw_aload_n (pc' := 36) jd_Branchwork_nearness_35 rfl rfl rfl ?_
  refine jw_get (pc' := 39) (kf := 5) jc_Branchwork (by decide) jq_244 jd_Branchwork_nearness_36 (mc_Branchwork _) rfl rfl ?_
  refine jw_aload_n (pc' := 40) jd_Branchwork_nearness_39 rfl rfl rfl ?_
  refine jw_get (pc' := 43) (kf := 1) jc_Branchwork (by decide) jq_240 jd_Branchwork_nearness_40 (mc_Branchwork _) rfl rfl ?_
  refine jw_iload_n (pc' := 44) jd_Branchwork_nearness_43 rfl rfl rfl ?_
  refine zx_callV0 (pc' := 47) hR (h_treeOf a (by omega)) jm_History_treeOf jq_452 jc_History jd_Branchwork_nearness_44 (mc_History _) rfl rfl (Nat.le_of_ble_eq_true rfl) (by omega) (by decide) rfl rfl ?_
  rw [trA_i ha]
  refine jw_iload_n (pc' := 48) jd_Branchwork_nearness_47 rfl rfl rfl ?_
  refine zx_callV0 (pc' := 51) hR (t_fileAt hA1 p hp) jm_Tree_fileAt jq_345 jc_Tree jd_Branchwork_nearness_48 (mc_Tree _ (by assumption)) rfl rfl (Nat.le_of_ble_eq_true rfl) (by omega) (by decide) rfl rfl ?_
  refine jw_aload_n (pc' := 52) jd_Branchwork_nearness_51 rfl rfl rfl ?_
  refine jw_get (pc' := 55) (kf := 1) jc_Branchwork (by decide) jq_240 jd_Branchwork_nearness_52 (mc_Branchwork _) rfl rfl ?_
  refine jw_iload_n (pc' := 56) jd_Branchwork_nearness_55 rfl rfl rfl ?_
  refine zx_callV0 (pc' := 59) hR (h_treeOf a (by omega)) jm_History_treeOf jq_452 jc_History jd_Branchwork_nearness_56 (mc_History _) rfl rfl (Nat.le_of_ble_eq_true rfl) (by omega) (by decide) rfl rfl ?_
  rw [trA_i ha]
  refine jw_iload (pc' := 61) jd_Branchwork_nearness_59 rfl rfl ?_
  refine zx_callV0 (pc' := 64) hR (t_fileAt hA1 p hp) jm_Tree_fileAt jq_345 jc_Tree jd_Branchwork_nearness_61 (mc_Tree _ (by assumption)) rfl rfl (Nat.le_of_ble_eq_true rfl) (by omega) (by decide) rfl rfl ?_
  refine zx_callV (pc' := 67) hR (m_near im (hA.2 p hp) (hA.2 p hp) (by unfold fA; omega) (by unfold fA; omega)) jm_Match_nearnessOf jq_821 jc_Match jd_Branchwork_nearness_64 (mc_Match _ (by assumption)) rfl rfl (Nat.le_of_ble_eq_true rfl) (by omega) (by decide) rfl (fun v9 s1 q9 => ?_)
  obtain ⟨rfl, F1⟩ := q9
  refine zx_iret hE jd_Branchwork_nearness_67 rfl ?_
  exact ⟨rfl, zE.own F1 (by omega) (by omega)⟩
theorem f_conflictsOf (h : GS o σ w Ts f g t c n kp l tp br cu mg) (a b : Nat) (ha : a < 30) (hb : b < 30) (hka : kp.testBit a = true) (hkb : kp.testBit b = true) : zSpec mi_Branchwork_conflictsOf 6 o [.ref (zb o), .int (iI a), .int (iI b)] σ (fun v s => v = some (.int (iI (mgF (trV Ts (caF f g a b)) (Ts a) (Ts b)).2.1)) ∧ (mgF (trV Ts (caF f g a b)) (Ts a) (Ts b)).2.1 ≤ 24 ∧ zE o σ s) := by
  have rc := ca_rng f g a b
  have r3 := trA_rng (o := o) (x := caF f g a b)
  have ra := tA_rng (o := o) ha
  have rb := tA_rng (o := o) hb
  have it := isK_told (o := o)
  refine z_spec (by decide +kernel) (Nat.le_of_ble_eq_true rfl) rfl (fun k hs hR hE => ?_)
  refine jw_aload_n (pc' := 1) jd_Branchwork_conflictsOf_0 rfl rfl rfl ?_
  refine jw_iload_n (pc' := 2) jd_Branchwork_conflictsOf_1 rfl rfl rfl ?_
  refine zx_callV0 (pc' := 5) hR (f_reqCommit h a ha hka) jm_Branchwork_requireCommit jq_753 jc_Branchwork jd_Branchwork_conflictsOf_2 (mc_Branchwork _) rfl rfl (Nat.le_of_ble_eq_true rfl) (by omega) (by decide) rfl rfl ?_
  refine jw_aload_n (pc' := 6) jd_Branchwork_conflictsOf_5 rfl rfl rfl ?_
  refine jw_iload_n (pc' := 7) jd_Branchwork_conflictsOf_6 rfl rfl rfl ?_
  refine zx_callV0 (pc' := 10) hR (f_reqCommit h b hb hkb) jm_Branchwork_requireCommit jq_753 jc_Branchwork jd_Branchwork_conflictsOf_7 (mc_Branchwork _) rfl rfl (Nat.le_of_ble_eq_true rfl) (by omega) (by decide) rfl rfl ?_
  refine jw_aload_n (pc' := 11) jd_Branchwork_conflictsOf_10 rfl rfl rfl ?_
  refine jw_get (pc' := 14) (kf := 1) jc_Branchwork (by decide) jq_240 jd_Branchwork_conflictsOf_11 (mc_Branchwork _) rfl rfl ?_
  refine jw_iload_n (pc' := 15) jd_Branchwork_conflictsOf_14 rfl rfl rfl ?_
  refine jw_iload_n (pc' := 16) jd_Branchwork_conflictsOf_15 rfl rfl rfl ?_
  refine zx_callV0 (pc' := 19) hR (h_common h.2.2.2.1 a b (by omega) (by omega)) jm_History_commonAncestor jq_516 jc_History jd_Branchwork_conflictsOf_16 (mc_History _) rfl rfl (Nat.le_of_ble_eq_true rfl) (by omega) (by decide) rfl rfl ?_
  refine jw_istore_n (pc' := 20) (lc' := [(0, _), (1, _), (2, _), (3, _)]) jd_Branchwork_conflictsOf_19 rfl (Nat.le_of_ble_eq_true rfl) ⟨rfl, rfl, rfl, rfl, trivial⟩ rfl ?_
  refine jw_aload_n (pc' := 21) jd_Branchwork_conflictsOf_20 rfl rfl rfl ?_
  refine jw_get (pc' := 24) (kf := 2) jc_Branchwork (by decide) jq_241 jd_Branchwork_conflictsOf_21 (mc_Branchwork _) rfl rfl ?_
  refine jw_aload_n (pc' := 25) jd_Branchwork_conflictsOf_24 rfl rfl rfl ?_
  refine jw_get (pc' := 28) (kf := 1) jc_Branchwork (by decide) jq_240 jd_Branchwork_conflictsOf_25 (mc_Branchwork _) rfl rfl ?_
  refine jw_iload_n (pc' := 29) jd_Branchwork_conflictsOf_28 rfl rfl rfl ?_
  refine zx_callV0 (pc' := 32) hR (h_treeOf _ (by omega)) jm_History_treeOf jq_452 jc_History jd_Branchwork_conflictsOf_29 (mc_History _) rfl rfl (Nat.le_of_ble_eq_true rfl) (by omega) (by decide) rfl rfl ?_
  refine jw_aload_n (pc' := 33) jd_Branchwork_conflictsOf_32 rfl rfl rfl ?_
  refine jw_get (pc' := 36) (kf := 1) jc_Branchwork (by decide) jq_240 jd_Branchwork_conflictsOf_33 (mc_Branchwork _) rfl rfl ?_
  refine jw_iload_n (pc' := 37) jd_Branchwork_conflictsOf_36 rfl rfl rfl ?_
  refine zx_callV0 (pc' := 40) hR (h_treeOf a (by omega)) jm_History_treeOf jq_452 jc_History jd_Branchwork_conflictsOf_37 (mc_History _) rfl rfl (Nat.le_of_ble_eq_true rfl) (by omega) (by decide) rfl rfl ?_
  rw [trA_i ha]
  refine jw_aload_n (pc' := 41) jd_Branchwork_conflictsOf_40 rfl rfl rfl ?_
  refine jw_get (pc' := 44) (kf := 1) jc_Branchwork (by decide) jq_240 jd_Branchwork_conflictsOf_41 (mc_Branchwork _) rfl rfl ?_
  refine jw_iload_n (pc' := 45) jd_Branchwork_conflictsOf_44 rfl rfl rfl ?_
  refine zx_callV0 (pc' := 48) hR (h_treeOf b (by omega)) jm_History_treeOf jq_452 jc_History jd_Branchwork_conflictsOf_45 (mc_History _) rfl rfl (Nat.le_of_ble_eq_true rfl) (by omega) (by decide) rfl rfl ?_
  rw [trA_i hb]
  refine zx_callV (pc' := 51) hR (g_merge h.2.2.2.2.2.1 (h.tree _) (h.2.2.1 a ha) (h.2.2.1 b hb) (by omega) (by omega) (by omega)) jm_Merger_mergeTrees jq_531 jc_Merger jd_Branchwork_conflictsOf_48 (mc_Merger _) rfl rfl (Nat.le_of_ble_eq_true rfl) (by omega) (by decide) rfl (fun v9 s1 q9 => ?_)
  obtain ⟨rfl, g1, F1⟩ := q9
  have ht : zRo mi_Merger_told 0 o [.ref (zb o + 905)] s1 (some (.ref (zb o + 934))) := by
    refine z_spec (by decide +kernel) (Nat.le_of_ble_eq_true rfl) rfl (fun k hs hR hE => ?_)
    refine jw_aload_n (pc' := 1) jd_Merger_told_0 rfl rfl rfl ?_
    refine jw_get (pc' := 4) (kf := 1) jc_Merger (by decide) jq_208 jd_Merger_told_1 (mc_Merger _) rfl rfl ?_
    refine zx_aret hE jd_Merger_told_4 rfl ?_
    exact ⟨rfl, rfl⟩
  refine jw_aload_n (pc' := 52) jd_Branchwork_conflictsOf_51 rfl rfl rfl ?_
  refine jw_get (pc' := 55) (kf := 2) jc_Branchwork (by decide) jq_241 jd_Branchwork_conflictsOf_52 (mc_Branchwork _) rfl rfl ?_
  refine zx_callV0 (pc' := 58) hR (ht) jm_Merger_told jq_645 jc_Merger jd_Branchwork_conflictsOf_55 (mc_Merger _) rfl rfl (Nat.le_of_ble_eq_true rfl) (by omega) (by decide) rfl rfl ?_
  refine zx_callV0 (pc' := 61) hR (k_many g1.2) jm_Conflicts_howMany jq_439 jc_Conflicts jd_Branchwork_conflictsOf_58 (mc_Conflicts _ (by assumption)) rfl rfl (Nat.le_of_ble_eq_true rfl) (by omega) (by decide) rfl rfl ?_
  refine zx_iret hE jd_Branchwork_conflictsOf_61 rfl ?_
  exact ⟨rfl, g1.2.2.1, zE.mg F1⟩
end
end
