theorem jd_History_setOf_0 : decode mi_History_setOf.2.1 0 = .ok (.iload_n 0, 1) := by decide +kernel
theorem jd_History_setOf_1 : decode mi_History_setOf.2.1 1 = .ok (.ifCond .lt 15, 3) := by decide +kernel
theorem jd_History_setOf_4 : decode mi_History_setOf.2.1 4 = .ok (.iload_n 0, 1) := by decide +kernel
theorem jd_History_setOf_5 : decode mi_History_setOf.2.1 5 = .ok (.bipush 30, 2) := by decide +kernel
theorem jd_History_setOf_7 : decode mi_History_setOf.2.1 7 = .ok (.if_icmp .ge 9, 3) := by decide +kernel
theorem jd_History_setOf_10 : decode mi_History_setOf.2.1 10 = .ok (.iconst 1, 1) := by decide +kernel
theorem jd_History_setOf_11 : decode mi_History_setOf.2.1 11 = .ok (.iload_n 0, 1) := by decide +kernel
theorem jd_History_setOf_12 : decode mi_History_setOf.2.1 12 = .ok (.ishl, 1) := by decide +kernel
theorem jd_History_setOf_13 : decode mi_History_setOf.2.1 13 = .ok (.goto 4, 3) := by decide +kernel
theorem jd_History_setOf_16 : decode mi_History_setOf.2.1 16 = .ok (.iconst 0, 1) := by decide +kernel
theorem jd_History_setOf_17 : decode mi_History_setOf.2.1 17 = .ok (.ireturn, 1) := by decide +kernel
theorem jd_History_isIn_0 : decode mi_History_isIn.2.1 0 = .ok (.iload_n 0, 1) := by decide +kernel
theorem jd_History_isIn_1 : decode mi_History_isIn.2.1 1 = .ok (.invokestatic 48, 3) := by decide +kernel
theorem jd_History_isIn_4 : decode mi_History_isIn.2.1 4 = .ok (.iload_n 1, 1) := by decide +kernel
theorem jd_History_isIn_5 : decode mi_History_isIn.2.1 5 = .ok (.iand, 1) := by decide +kernel
theorem jd_History_isIn_6 : decode mi_History_isIn.2.1 6 = .ok (.ifCond .eq 7, 3) := by decide +kernel
theorem jd_History_isIn_9 : decode mi_History_isIn.2.1 9 = .ok (.iconst 1, 1) := by decide +kernel
theorem jd_History_isIn_10 : decode mi_History_isIn.2.1 10 = .ok (.goto 4, 3) := by decide +kernel
theorem jd_History_isIn_13 : decode mi_History_isIn.2.1 13 = .ok (.iconst 0, 1) := by decide +kernel
theorem jd_History_isIn_14 : decode mi_History_isIn.2.1 14 = .ok (.ireturn, 1) := by decide +kernel
theorem jd_History_kept_0 : decode mi_History_kept.2.1 0 = .ok (.aload_n 0, 1) := by decide +kernel
theorem jd_History_kept_1 : decode mi_History_kept.2.1 1 = .ok (.getfield 45, 3) := by decide +kernel
theorem jd_History_kept_4 : decode mi_History_kept.2.1 4 = .ok (.ireturn, 1) := by decide +kernel
theorem jd_History_isFull_0 : decode mi_History_isFull.2.1 0 = .ok (.aload_n 0, 1) := by decide +kernel
theorem jd_History_isFull_1 : decode mi_History_isFull.2.1 1 = .ok (.getfield 41, 3) := by decide +kernel
theorem jd_History_isFull_4 : decode mi_History_isFull.2.1 4 = .ok (.bipush 30, 2) := by decide +kernel
theorem jd_History_isFull_6 : decode mi_History_isFull.2.1 6 = .ok (.if_icmp .lt 7, 3) := by decide +kernel
theorem jd_History_isFull_9 : decode mi_History_isFull.2.1 9 = .ok (.iconst 1, 1) := by decide +kernel
theorem jd_History_isFull_10 : decode mi_History_isFull.2.1 10 = .ok (.goto 4, 3) := by decide +kernel
theorem jd_History_isFull_13 : decode mi_History_isFull.2.1 13 = .ok (.iconst 0, 1) := by decide +kernel
theorem jd_History_isFull_14 : decode mi_History_isFull.2.1 14 = .ok (.ireturn, 1) := by decide +kernel
theorem jd_History_holds_0 : decode mi_History_holds.2.1 0 = .ok (.iload_n 1, 1) := by decide +kernel
theorem jd_History_holds_1 : decode mi_History_holds.2.1 1 = .ok (.aload_n 0, 1) := by decide +kernel
theorem jd_History_holds_2 : decode mi_History_holds.2.1 2 = .ok (.getfield 45, 3) := by decide +kernel
theorem jd_History_holds_5 : decode mi_History_holds.2.1 5 = .ok (.invokestatic 52, 3) := by decide +kernel
theorem jd_History_holds_8 : decode mi_History_holds.2.1 8 = .ok (.ireturn, 1) := by decide +kernel
theorem jd_History_treeOf_0 : decode mi_History_treeOf.2.1 0 = .ok (.iload_n 1, 1) := by decide +kernel
theorem jd_History_treeOf_1 : decode mi_History_treeOf.2.1 1 = .ok (.ifCond .lt 18, 3) := by decide +kernel
theorem jd_History_treeOf_4 : decode mi_History_treeOf.2.1 4 = .ok (.iload_n 1, 1) := by decide +kernel
theorem jd_History_treeOf_5 : decode mi_History_treeOf.2.1 5 = .ok (.bipush 30, 2) := by decide +kernel
theorem jd_History_treeOf_7 : decode mi_History_treeOf.2.1 7 = .ok (.if_icmp .ge 12, 3) := by decide +kernel
theorem jd_History_treeOf_10 : decode mi_History_treeOf.2.1 10 = .ok (.aload_n 0, 1) := by decide +kernel
theorem jd_History_treeOf_11 : decode mi_History_treeOf.2.1 11 = .ok (.getfield 11, 3) := by decide +kernel
theorem jd_History_treeOf_14 : decode mi_History_treeOf.2.1 14 = .ok (.iload_n 1, 1) := by decide +kernel
theorem jd_History_treeOf_15 : decode mi_History_treeOf.2.1 15 = .ok (.aaload, 1) := by decide +kernel
theorem jd_History_treeOf_16 : decode mi_History_treeOf.2.1 16 = .ok (.goto 7, 3) := by decide +kernel
theorem jd_History_treeOf_19 : decode mi_History_treeOf.2.1 19 = .ok (.aload_n 0, 1) := by decide +kernel
theorem jd_History_treeOf_20 : decode mi_History_treeOf.2.1 20 = .ok (.getfield 18, 3) := by decide +kernel
theorem jd_History_treeOf_23 : decode mi_History_treeOf.2.1 23 = .ok (.areturn, 1) := by decide +kernel
theorem jd_History_firstParent_0 : decode mi_History_firstParent.2.1 0 = .ok (.iload_n 1, 1) := by decide +kernel
theorem jd_History_firstParent_1 : decode mi_History_firstParent.2.1 1 = .ok (.ifCond .lt 18, 3) := by decide +kernel
theorem jd_History_firstParent_4 : decode mi_History_firstParent.2.1 4 = .ok (.iload_n 1, 1) := by decide +kernel
theorem jd_History_firstParent_5 : decode mi_History_firstParent.2.1 5 = .ok (.bipush 30, 2) := by decide +kernel
theorem jd_History_firstParent_7 : decode mi_History_firstParent.2.1 7 = .ok (.if_icmp .ge 12, 3) := by decide +kernel
theorem jd_History_firstParent_10 : decode mi_History_firstParent.2.1 10 = .ok (.aload_n 0, 1) := by decide +kernel
theorem jd_History_firstParent_11 : decode mi_History_firstParent.2.1 11 = .ok (.getfield 26, 3) := by decide +kernel
theorem jd_History_firstParent_14 : decode mi_History_firstParent.2.1 14 = .ok (.iload_n 1, 1) := by decide +kernel
theorem jd_History_firstParent_15 : decode mi_History_firstParent.2.1 15 = .ok (.iaload, 1) := by decide +kernel
theorem jd_History_firstParent_16 : decode mi_History_firstParent.2.1 16 = .ok (.goto 4, 3) := by decide +kernel
theorem jd_History_firstParent_19 : decode mi_History_firstParent.2.1 19 = .ok (.iconst (-1), 1) := by decide +kernel
theorem jd_History_firstParent_20 : decode mi_History_firstParent.2.1 20 = .ok (.ireturn, 1) := by decide +kernel
theorem jd_History_secondParent_0 : decode mi_History_secondParent.2.1 0 = .ok (.iload_n 1, 1) := by decide +kernel
theorem jd_History_secondParent_1 : decode mi_History_secondParent.2.1 1 = .ok (.ifCond .lt 18, 3) := by decide +kernel
theorem jd_History_secondParent_4 : decode mi_History_secondParent.2.1 4 = .ok (.iload_n 1, 1) := by decide +kernel
theorem jd_History_secondParent_5 : decode mi_History_secondParent.2.1 5 = .ok (.bipush 30, 2) := by decide +kernel
theorem jd_History_secondParent_7 : decode mi_History_secondParent.2.1 7 = .ok (.if_icmp .ge 12, 3) := by decide +kernel
theorem jd_History_secondParent_10 : decode mi_History_secondParent.2.1 10 = .ok (.aload_n 0, 1) := by decide +kernel
theorem jd_History_secondParent_11 : decode mi_History_secondParent.2.1 11 = .ok (.getfield 29, 3) := by decide +kernel
theorem jd_History_secondParent_14 : decode mi_History_secondParent.2.1 14 = .ok (.iload_n 1, 1) := by decide +kernel
theorem jd_History_secondParent_15 : decode mi_History_secondParent.2.1 15 = .ok (.iaload, 1) := by decide +kernel
theorem jd_History_secondParent_16 : decode mi_History_secondParent.2.1 16 = .ok (.goto 4, 3) := by decide +kernel
theorem jd_History_secondParent_19 : decode mi_History_secondParent.2.1 19 = .ok (.iconst (-1), 1) := by decide +kernel
theorem jd_History_secondParent_20 : decode mi_History_secondParent.2.1 20 = .ok (.ireturn, 1) := by decide +kernel
theorem jd_History_noteOf_0 : decode mi_History_noteOf.2.1 0 = .ok (.iload_n 1, 1) := by decide +kernel
theorem jd_History_noteOf_1 : decode mi_History_noteOf.2.1 1 = .ok (.ifCond .lt 18, 3) := by decide +kernel
theorem jd_History_noteOf_4 : decode mi_History_noteOf.2.1 4 = .ok (.iload_n 1, 1) := by decide +kernel
theorem jd_History_noteOf_5 : decode mi_History_noteOf.2.1 5 = .ok (.bipush 30, 2) := by decide +kernel
theorem jd_History_noteOf_7 : decode mi_History_noteOf.2.1 7 = .ok (.if_icmp .ge 12, 3) := by decide +kernel
theorem jd_History_noteOf_10 : decode mi_History_noteOf.2.1 10 = .ok (.aload_n 0, 1) := by decide +kernel
theorem jd_History_noteOf_11 : decode mi_History_noteOf.2.1 11 = .ok (.getfield 22, 3) := by decide +kernel
theorem jd_History_noteOf_14 : decode mi_History_noteOf.2.1 14 = .ok (.iload_n 1, 1) := by decide +kernel
theorem jd_History_noteOf_15 : decode mi_History_noteOf.2.1 15 = .ok (.iaload, 1) := by decide +kernel
theorem jd_History_noteOf_16 : decode mi_History_noteOf.2.1 16 = .ok (.goto 4, 3) := by decide +kernel
theorem jd_History_noteOf_19 : decode mi_History_noteOf.2.1 19 = .ok (.iconst (-1), 1) := by decide +kernel
theorem jd_History_noteOf_20 : decode mi_History_noteOf.2.1 20 = .ok (.ireturn, 1) := by decide +kernel
theorem jd_History_withAncestors_0 : decode mi_History_withAncestors.2.1 0 = .ok (.iload_n 1, 1) := by decide +kernel
theorem jd_History_withAncestors_1 : decode mi_History_withAncestors.2.1 1 = .ok (.istore_n 2, 1) := by decide +kernel
theorem jd_History_withAncestors_2 : decode mi_History_withAncestors.2.1 2 = .ok (.bipush 29, 2) := by decide +kernel
theorem jd_History_withAncestors_4 : decode mi_History_withAncestors.2.1 4 = .ok (.istore_n 3, 1) := by decide +kernel
theorem jd_History_withAncestors_5 : decode mi_History_withAncestors.2.1 5 = .ok (.iload_n 3, 1) := by decide +kernel
theorem jd_History_withAncestors_6 : decode mi_History_withAncestors.2.1 6 = .ok (.ifCond .lt 39, 3) := by decide +kernel
theorem jd_History_withAncestors_9 : decode mi_History_withAncestors.2.1 9 = .ok (.iload_n 3, 1) := by decide +kernel
theorem jd_History_withAncestors_10 : decode mi_History_withAncestors.2.1 10 = .ok (.iload_n 2, 1) := by decide +kernel
theorem jd_History_withAncestors_11 : decode mi_History_withAncestors.2.1 11 = .ok (.invokestatic 52, 3) := by decide +kernel
theorem jd_History_withAncestors_14 : decode mi_History_withAncestors.2.1 14 = .ok (.ifCond .eq 25, 3) := by decide +kernel
theorem jd_History_withAncestors_17 : decode mi_History_withAncestors.2.1 17 = .ok (.iload_n 2, 1) := by decide +kernel
theorem jd_History_withAncestors_18 : decode mi_History_withAncestors.2.1 18 = .ok (.aload_n 0, 1) := by decide +kernel
theorem jd_History_withAncestors_19 : decode mi_History_withAncestors.2.1 19 = .ok (.getfield 26, 3) := by decide +kernel
theorem jd_History_withAncestors_22 : decode mi_History_withAncestors.2.1 22 = .ok (.iload_n 3, 1) := by decide +kernel
theorem jd_History_withAncestors_23 : decode mi_History_withAncestors.2.1 23 = .ok (.iaload, 1) := by decide +kernel
theorem jd_History_withAncestors_24 : decode mi_History_withAncestors.2.1 24 = .ok (.invokestatic 48, 3) := by decide +kernel
theorem jd_History_withAncestors_27 : decode mi_History_withAncestors.2.1 27 = .ok (.aload_n 0, 1) := by decide +kernel
theorem jd_History_withAncestors_28 : decode mi_History_withAncestors.2.1 28 = .ok (.getfield 29, 3) := by decide +kernel
theorem jd_History_withAncestors_31 : decode mi_History_withAncestors.2.1 31 = .ok (.iload_n 3, 1) := by decide +kernel
theorem jd_History_withAncestors_32 : decode mi_History_withAncestors.2.1 32 = .ok (.iaload, 1) := by decide +kernel
theorem jd_History_withAncestors_33 : decode mi_History_withAncestors.2.1 33 = .ok (.invokestatic 48, 3) := by decide +kernel
theorem jd_History_withAncestors_36 : decode mi_History_withAncestors.2.1 36 = .ok (.ior, 1) := by decide +kernel
theorem jd_History_withAncestors_37 : decode mi_History_withAncestors.2.1 37 = .ok (.ior, 1) := by decide +kernel
theorem jd_History_withAncestors_38 : decode mi_History_withAncestors.2.1 38 = .ok (.istore_n 2, 1) := by decide +kernel
theorem jd_History_withAncestors_39 : decode mi_History_withAncestors.2.1 39 = .ok (.iinc 3 (-1), 3) := by decide +kernel
theorem jd_History_withAncestors_42 : decode mi_History_withAncestors.2.1 42 = .ok (.goto (-37), 3) := by decide +kernel
theorem jd_History_withAncestors_45 : decode mi_History_withAncestors.2.1 45 = .ok (.iload_n 2, 1) := by decide +kernel
theorem jd_History_withAncestors_46 : decode mi_History_withAncestors.2.1 46 = .ok (.ireturn, 1) := by decide +kernel
theorem jd_History_ancestorsOf_0 : decode mi_History_ancestorsOf.2.1 0 = .ok (.aload_n 0, 1) := by decide +kernel
theorem jd_History_ancestorsOf_1 : decode mi_History_ancestorsOf.2.1 1 = .ok (.iload_n 1, 1) := by decide +kernel
theorem jd_History_ancestorsOf_2 : decode mi_History_ancestorsOf.2.1 2 = .ok (.invokestatic 48, 3) := by decide +kernel
theorem jd_History_ancestorsOf_5 : decode mi_History_ancestorsOf.2.1 5 = .ok (.invokevirtual 67, 3) := by decide +kernel
theorem jd_History_ancestorsOf_8 : decode mi_History_ancestorsOf.2.1 8 = .ok (.ireturn, 1) := by decide +kernel
theorem jd_History_commonAncestor_0 : decode mi_History_commonAncestor.2.1 0 = .ok (.aload_n 0, 1) := by decide +kernel
theorem jd_History_commonAncestor_1 : decode mi_History_commonAncestor.2.1 1 = .ok (.iload_n 1, 1) := by decide +kernel
theorem jd_History_commonAncestor_2 : decode mi_History_commonAncestor.2.1 2 = .ok (.invokevirtual 70, 3) := by decide +kernel
theorem jd_History_commonAncestor_5 : decode mi_History_commonAncestor.2.1 5 = .ok (.aload_n 0, 1) := by decide +kernel
theorem jd_History_commonAncestor_6 : decode mi_History_commonAncestor.2.1 6 = .ok (.iload_n 2, 1) := by decide +kernel
theorem jd_History_commonAncestor_7 : decode mi_History_commonAncestor.2.1 7 = .ok (.invokevirtual 70, 3) := by decide +kernel
theorem jd_History_commonAncestor_10 : decode mi_History_commonAncestor.2.1 10 = .ok (.iand, 1) := by decide +kernel
theorem jd_History_commonAncestor_11 : decode mi_History_commonAncestor.2.1 11 = .ok (.istore_n 3, 1) := by decide +kernel
theorem jd_History_commonAncestor_12 : decode mi_History_commonAncestor.2.1 12 = .ok (.bipush 29, 2) := by decide +kernel
theorem jd_History_commonAncestor_14 : decode mi_History_commonAncestor.2.1 14 = .ok (.istore 4, 2) := by decide +kernel
theorem jd_History_commonAncestor_16 : decode mi_History_commonAncestor.2.1 16 = .ok (.iload 4, 2) := by decide +kernel
theorem jd_History_commonAncestor_18 : decode mi_History_commonAncestor.2.1 18 = .ok (.ifCond .lt 21, 3) := by decide +kernel
theorem jd_History_commonAncestor_21 : decode mi_History_commonAncestor.2.1 21 = .ok (.iload 4, 2) := by decide +kernel
theorem jd_History_commonAncestor_23 : decode mi_History_commonAncestor.2.1 23 = .ok (.iload_n 3, 1) := by decide +kernel
theorem jd_History_commonAncestor_24 : decode mi_History_commonAncestor.2.1 24 = .ok (.invokestatic 52, 3) := by decide +kernel
theorem jd_History_commonAncestor_27 : decode mi_History_commonAncestor.2.1 27 = .ok (.ifCond .eq 6, 3) := by decide +kernel
theorem jd_History_commonAncestor_30 : decode mi_History_commonAncestor.2.1 30 = .ok (.iload 4, 2) := by decide +kernel
theorem jd_History_commonAncestor_32 : decode mi_History_commonAncestor.2.1 32 = .ok (.ireturn, 1) := by decide +kernel
theorem jd_History_commonAncestor_33 : decode mi_History_commonAncestor.2.1 33 = .ok (.iinc 4 (-1), 3) := by decide +kernel
theorem jd_History_commonAncestor_36 : decode mi_History_commonAncestor.2.1 36 = .ok (.goto (-20), 3) := by decide +kernel
theorem jd_History_commonAncestor_39 : decode mi_History_commonAncestor.2.1 39 = .ok (.iconst (-1), 1) := by decide +kernel
theorem jd_History_commonAncestor_40 : decode mi_History_commonAncestor.2.1 40 = .ok (.ireturn, 1) := by decide +kernel
theorem jd_History_countTrees_0 : decode mi_History_countTrees.2.1 0 = .ok (.iconst 0, 1) := by decide +kernel
theorem jd_History_countTrees_1 : decode mi_History_countTrees.2.1 1 = .ok (.istore_n 2, 1) := by decide +kernel
theorem jd_History_countTrees_2 : decode mi_History_countTrees.2.1 2 = .ok (.iconst 0, 1) := by decide +kernel
theorem jd_History_countTrees_3 : decode mi_History_countTrees.2.1 3 = .ok (.istore_n 3, 1) := by decide +kernel
theorem jd_History_countTrees_4 : decode mi_History_countTrees.2.1 4 = .ok (.iload_n 3, 1) := by decide +kernel
theorem jd_History_countTrees_5 : decode mi_History_countTrees.2.1 5 = .ok (.bipush 30, 2) := by decide +kernel
theorem jd_History_countTrees_7 : decode mi_History_countTrees.2.1 7 = .ok (.if_icmp .ge 29, 3) := by decide +kernel
theorem jd_History_countTrees_10 : decode mi_History_countTrees.2.1 10 = .ok (.iload_n 3, 1) := by decide +kernel
theorem jd_History_countTrees_11 : decode mi_History_countTrees.2.1 11 = .ok (.iload_n 1, 1) := by decide +kernel
theorem jd_History_countTrees_12 : decode mi_History_countTrees.2.1 12 = .ok (.invokestatic 52, 3) := by decide +kernel
theorem jd_History_countTrees_15 : decode mi_History_countTrees.2.1 15 = .ok (.ifCond .eq 15, 3) := by decide +kernel
theorem jd_History_countTrees_18 : decode mi_History_countTrees.2.1 18 = .ok (.iload_n 2, 1) := by decide +kernel
theorem jd_History_countTrees_19 : decode mi_History_countTrees.2.1 19 = .ok (.aload_n 0, 1) := by decide +kernel
theorem jd_History_countTrees_20 : decode mi_History_countTrees.2.1 20 = .ok (.getfield 32, 3) := by decide +kernel
theorem jd_History_countTrees_23 : decode mi_History_countTrees.2.1 23 = .ok (.iload_n 3, 1) := by decide +kernel
theorem jd_History_countTrees_24 : decode mi_History_countTrees.2.1 24 = .ok (.iaload, 1) := by decide +kernel
theorem jd_History_countTrees_25 : decode mi_History_countTrees.2.1 25 = .ok (.invokestatic 48, 3) := by decide +kernel
theorem jd_History_countTrees_28 : decode mi_History_countTrees.2.1 28 = .ok (.ior, 1) := by decide +kernel
theorem jd_History_countTrees_29 : decode mi_History_countTrees.2.1 29 = .ok (.istore_n 2, 1) := by decide +kernel
theorem jd_History_countTrees_30 : decode mi_History_countTrees.2.1 30 = .ok (.iinc 3 1, 3) := by decide +kernel
theorem jd_History_countTrees_33 : decode mi_History_countTrees.2.1 33 = .ok (.goto (-29), 3) := by decide +kernel
theorem jd_History_countTrees_36 : decode mi_History_countTrees.2.1 36 = .ok (.iload_n 2, 1) := by decide +kernel
theorem jd_History_countTrees_37 : decode mi_History_countTrees.2.1 37 = .ok (.invokestatic 73, 3) := by decide +kernel
theorem jd_History_countTrees_40 : decode mi_History_countTrees.2.1 40 = .ok (.ireturn, 1) := by decide +kernel
theorem jd_History_meetContents_0 : decode mi_History_meetContents.2.1 0 = .ok (.aload_n 0, 1) := by decide +kernel
theorem jd_History_meetContents_1 : decode mi_History_meetContents.2.1 1 = .ok (.getfield 38, 3) := by decide +kernel
theorem jd_History_meetContents_4 : decode mi_History_meetContents.2.1 4 = .ok (.iconst 0, 1) := by decide +kernel
theorem jd_History_meetContents_5 : decode mi_History_meetContents.2.1 5 = .ok (.invokestatic 102, 3) := by decide +kernel
theorem jd_History_meetContents_8 : decode mi_History_meetContents.2.1 8 = .ok (.iconst 0, 1) := by decide +kernel
theorem jd_History_meetContents_9 : decode mi_History_meetContents.2.1 9 = .ok (.istore_n 2, 1) := by decide +kernel
theorem jd_History_meetContents_10 : decode mi_History_meetContents.2.1 10 = .ok (.iload_n 2, 1) := by decide +kernel
theorem jd_History_meetContents_11 : decode mi_History_meetContents.2.1 11 = .ok (.bipush 30, 2) := by decide +kernel
theorem jd_History_meetContents_13 : decode mi_History_meetContents.2.1 13 = .ok (.if_icmp .ge 67, 3) := by decide +kernel
theorem jd_History_meetContents_16 : decode mi_History_meetContents.2.1 16 = .ok (.iconst 0, 1) := by decide +kernel
theorem jd_History_meetContents_17 : decode mi_History_meetContents.2.1 17 = .ok (.istore_n 3, 1) := by decide +kernel
theorem jd_History_meetContents_18 : decode mi_History_meetContents.2.1 18 = .ok (.iload_n 3, 1) := by decide +kernel
theorem jd_History_meetContents_19 : decode mi_History_meetContents.2.1 19 = .ok (.bipush 12, 2) := by decide +kernel
theorem jd_History_meetContents_21 : decode mi_History_meetContents.2.1 21 = .ok (.if_icmp .ge 53, 3) := by decide +kernel
theorem jd_History_meetContents_24 : decode mi_History_meetContents.2.1 24 = .ok (.iload_n 2, 1) := by decide +kernel
theorem jd_History_meetContents_25 : decode mi_History_meetContents.2.1 25 = .ok (.iload_n 1, 1) := by decide +kernel
theorem jd_History_meetContents_26 : decode mi_History_meetContents.2.1 26 = .ok (.invokestatic 52, 3) := by decide +kernel
theorem jd_History_meetContents_29 : decode mi_History_meetContents.2.1 29 = .ok (.ifCond .eq 45, 3) := by decide +kernel
theorem jd_History_meetContents_32 : decode mi_History_meetContents.2.1 32 = .ok (.aload_n 0, 1) := by decide +kernel
theorem jd_History_meetContents_33 : decode mi_History_meetContents.2.1 33 = .ok (.getfield 35, 3) := by decide +kernel
theorem jd_History_meetContents_36 : decode mi_History_meetContents.2.1 36 = .ok (.iload_n 2, 1) := by decide +kernel
theorem jd_History_meetContents_37 : decode mi_History_meetContents.2.1 37 = .ok (.bipush 12, 2) := by decide +kernel
theorem jd_History_meetContents_39 : decode mi_History_meetContents.2.1 39 = .ok (.imul, 1) := by decide +kernel
theorem jd_History_meetContents_40 : decode mi_History_meetContents.2.1 40 = .ok (.iload_n 3, 1) := by decide +kernel
theorem jd_History_meetContents_41 : decode mi_History_meetContents.2.1 41 = .ok (.iadd, 1) := by decide +kernel
theorem jd_History_meetContents_42 : decode mi_History_meetContents.2.1 42 = .ok (.iaload, 1) := by decide +kernel
theorem jd_History_meetContents_43 : decode mi_History_meetContents.2.1 43 = .ok (.istore 4, 2) := by decide +kernel
theorem jd_History_meetContents_45 : decode mi_History_meetContents.2.1 45 = .ok (.iload 4, 2) := by decide +kernel
theorem jd_History_meetContents_47 : decode mi_History_meetContents.2.1 47 = .ok (.ifCond .lt 21, 3) := by decide +kernel
theorem jd_History_meetContents_50 : decode mi_History_meetContents.2.1 50 = .ok (.iload 4, 2) := by decide +kernel
theorem jd_History_meetContents_52 : decode mi_History_meetContents.2.1 52 = .ok (.aload_n 0, 1) := by decide +kernel
theorem jd_History_meetContents_53 : decode mi_History_meetContents.2.1 53 = .ok (.getfield 38, 3) := by decide +kernel
theorem jd_History_meetContents_56 : decode mi_History_meetContents.2.1 56 = .ok (.arraylength, 1) := by decide +kernel
theorem jd_History_meetContents_57 : decode mi_History_meetContents.2.1 57 = .ok (.if_icmp .ge 11, 3) := by decide +kernel
theorem jd_History_meetContents_60 : decode mi_History_meetContents.2.1 60 = .ok (.aload_n 0, 1) := by decide +kernel
theorem jd_History_meetContents_61 : decode mi_History_meetContents.2.1 61 = .ok (.getfield 38, 3) := by decide +kernel
theorem jd_History_meetContents_64 : decode mi_History_meetContents.2.1 64 = .ok (.iload 4, 2) := by decide +kernel
theorem jd_History_meetContents_66 : decode mi_History_meetContents.2.1 66 = .ok (.iconst 1, 1) := by decide +kernel
theorem jd_History_meetContents_67 : decode mi_History_meetContents.2.1 67 = .ok (.iastore, 1) := by decide +kernel
theorem jd_History_meetContents_68 : decode mi_History_meetContents.2.1 68 = .ok (.iinc 3 1, 3) := by decide +kernel
theorem jd_History_meetContents_71 : decode mi_History_meetContents.2.1 71 = .ok (.goto (-53), 3) := by decide +kernel
theorem jd_History_meetContents_74 : decode mi_History_meetContents.2.1 74 = .ok (.iinc 2 1, 3) := by decide +kernel
theorem jd_History_meetContents_77 : decode mi_History_meetContents.2.1 77 = .ok (.goto (-67), 3) := by decide +kernel
theorem jd_History_meetContents_80 : decode mi_History_meetContents.2.1 80 = .ok (.return_, 1) := by decide +kernel
theorem jd_History_countContents_0 : decode mi_History_countContents.2.1 0 = .ok (.aload_n 0, 1) := by decide +kernel
theorem jd_History_countContents_1 : decode mi_History_countContents.2.1 1 = .ok (.iload_n 1, 1) := by decide +kernel
theorem jd_History_countContents_2 : decode mi_History_countContents.2.1 2 = .ok (.invokevirtual 84, 3) := by decide +kernel
theorem jd_History_countContents_5 : decode mi_History_countContents.2.1 5 = .ok (.iconst 0, 1) := by decide +kernel
theorem jd_History_countContents_6 : decode mi_History_countContents.2.1 6 = .ok (.istore_n 2, 1) := by decide +kernel
theorem jd_History_countContents_7 : decode mi_History_countContents.2.1 7 = .ok (.iconst 0, 1) := by decide +kernel
theorem jd_History_countContents_8 : decode mi_History_countContents.2.1 8 = .ok (.istore_n 3, 1) := by decide +kernel
theorem jd_History_countContents_9 : decode mi_History_countContents.2.1 9 = .ok (.iload_n 3, 1) := by decide +kernel
theorem jd_History_countContents_10 : decode mi_History_countContents.2.1 10 = .ok (.aload_n 0, 1) := by decide +kernel
theorem jd_History_countContents_11 : decode mi_History_countContents.2.1 11 = .ok (.getfield 38, 3) := by decide +kernel
theorem jd_History_countContents_14 : decode mi_History_countContents.2.1 14 = .ok (.arraylength, 1) := by decide +kernel
theorem jd_History_countContents_15 : decode mi_History_countContents.2.1 15 = .ok (.if_icmp .ge 18, 3) := by decide +kernel
theorem jd_History_countContents_18 : decode mi_History_countContents.2.1 18 = .ok (.iload_n 2, 1) := by decide +kernel
theorem jd_History_countContents_19 : decode mi_History_countContents.2.1 19 = .ok (.aload_n 0, 1) := by decide +kernel
theorem jd_History_countContents_20 : decode mi_History_countContents.2.1 20 = .ok (.getfield 38, 3) := by decide +kernel
theorem jd_History_countContents_23 : decode mi_History_countContents.2.1 23 = .ok (.iload_n 3, 1) := by decide +kernel
theorem jd_History_countContents_24 : decode mi_History_countContents.2.1 24 = .ok (.iaload, 1) := by decide +kernel
theorem jd_History_countContents_25 : decode mi_History_countContents.2.1 25 = .ok (.iadd, 1) := by decide +kernel
theorem jd_History_countContents_26 : decode mi_History_countContents.2.1 26 = .ok (.istore_n 2, 1) := by decide +kernel
theorem jd_History_countContents_27 : decode mi_History_countContents.2.1 27 = .ok (.iinc 3 1, 3) := by decide +kernel
theorem jd_History_countContents_30 : decode mi_History_countContents.2.1 30 = .ok (.goto (-21), 3) := by decide +kernel
theorem jd_History_countContents_33 : decode mi_History_countContents.2.1 33 = .ok (.iload_n 2, 1) := by decide +kernel
theorem jd_History_countContents_34 : decode mi_History_countContents.2.1 34 = .ok (.ireturn, 1) := by decide +kernel
theorem jd_History_countObjects_0 : decode mi_History_countObjects.2.1 0 = .ok (.iload_n 1, 1) := by decide +kernel
theorem jd_History_countObjects_1 : decode mi_History_countObjects.2.1 1 = .ok (.invokestatic 73, 3) := by decide +kernel
theorem jd_History_countObjects_4 : decode mi_History_countObjects.2.1 4 = .ok (.aload_n 0, 1) := by decide +kernel
theorem jd_History_countObjects_5 : decode mi_History_countObjects.2.1 5 = .ok (.iload_n 1, 1) := by decide +kernel
theorem jd_History_countObjects_6 : decode mi_History_countObjects.2.1 6 = .ok (.invokevirtual 78, 3) := by decide +kernel
theorem jd_History_countObjects_9 : decode mi_History_countObjects.2.1 9 = .ok (.iadd, 1) := by decide +kernel
theorem jd_History_countObjects_10 : decode mi_History_countObjects.2.1 10 = .ok (.aload_n 0, 1) := by decide +kernel
theorem jd_History_countObjects_11 : decode mi_History_countObjects.2.1 11 = .ok (.iload_n 1, 1) := by decide +kernel
theorem jd_History_countObjects_12 : decode mi_History_countObjects.2.1 12 = .ok (.invokevirtual 81, 3) := by decide +kernel
theorem jd_History_countObjects_15 : decode mi_History_countObjects.2.1 15 = .ok (.iadd, 1) := by decide +kernel
theorem jd_History_countObjects_16 : decode mi_History_countObjects.2.1 16 = .ok (.ireturn, 1) := by decide +kernel
theorem jd_History_keepOnly_0 : decode mi_History_keepOnly.2.1 0 = .ok (.aload_n 0, 1) := by decide +kernel
theorem jd_History_keepOnly_1 : decode mi_History_keepOnly.2.1 1 = .ok (.dup, 1) := by decide +kernel
theorem jd_History_keepOnly_2 : decode mi_History_keepOnly.2.1 2 = .ok (.getfield 45, 3) := by decide +kernel
theorem jd_History_keepOnly_5 : decode mi_History_keepOnly.2.1 5 = .ok (.iload_n 1, 1) := by decide +kernel
theorem jd_History_keepOnly_6 : decode mi_History_keepOnly.2.1 6 = .ok (.iand, 1) := by decide +kernel
theorem jd_History_keepOnly_7 : decode mi_History_keepOnly.2.1 7 = .ok (.putfield 45, 3) := by decide +kernel
theorem jd_History_keepOnly_10 : decode mi_History_keepOnly.2.1 10 = .ok (.return_, 1) := by decide +kernel
/-! the commits -/
section
variable {o : jw_O} {σ : zS}
theorem h_setOf (x : Int) (hx : -2147483648 ≤ x ∧ x < 2147483648) : zRo mi_History_setOf 0 o [.int (iI x)] σ (some (.int (iI (bS x)))) := by
  refine z_spec (by decide +kernel) (Nat.le_of_ble_eq_true rfl) rfl (fun k hs hR hE => ?_)
  refine jw_iload_n (pc' := 1) jd_History_setOf_0 rfl rfl rfl ?_
  refine zx_if_lt (tgt := 16) (pc' := 4) (by first | exact rg_iv _ _ _ | omega) jd_History_setOf_1 (by decide) rfl (fun q => ?_) (fun q => ?_)
  · refine zx_iconst (pc' := 17) (n := 0) jd_History_setOf_16 rfl ?_
    refine zx_iret hE jd_History_setOf_17 rfl ?_
    exact ⟨by unfold bS; rw [if_neg (by omega)]; rfl, rfl⟩
  refine jw_iload_n (pc' := 5) jd_History_setOf_4 rfl rfl rfl ?_
  refine zx_bipush (pc' := 7) (n := 30) jd_History_setOf_5 (by decide +kernel) rfl ?_
  refine zx_icmp_ge (tgt := 16) (pc' := 10) (by first | exact rg_iv _ _ _ | omega) (by first | exact rg_iv _ _ _ | omega) jd_History_setOf_7 (by decide) rfl (fun q2 => ?_) (fun q2 => ?_)
  · refine zx_iconst (pc' := 17) (n := 0) jd_History_setOf_16 rfl ?_
    refine zx_iret hE jd_History_setOf_17 rfl ?_
    exact ⟨by unfold bS; rw [if_neg (by omega)]; rfl, rfl⟩
  obtain ⟨i, hi⟩ : ∃ n : Nat, x = n := ⟨x.toNat, by omega⟩
  subst hi
  refine zx_iconst (pc' := 11) (n := 1) jd_History_setOf_10 rfl ?_
  refine jw_iload_n (pc' := 12) jd_History_setOf_11 rfl rfl rfl ?_
  refine zx_shl1 (pc' := 13) jd_History_setOf_12 (by omega) rfl ?_
  refine jw_goto (tgt := 17) jd_History_setOf_13 (by decide) ?_
  refine zx_iret hE jd_History_setOf_17 rfl ?_
  exact ⟨by rw [bS_i (by omega)], rfl⟩
theorem h_isIn (i m : Nat) (hi : i < 30) (hm : m < 2 ^ 30) : zRo mi_History_isIn 1 o [.int (iI i), .int (iI m)] σ (some (.int (iI (if m.testBit i then 1 else 0)))) := by
  have hb := bS_in (m := m) hi
  have hle : bS (i : Int) &&& m ≤ m := Nat.and_le_right
  refine z_spec (by decide +kernel) (Nat.le_of_ble_eq_true rfl) rfl (fun k hs hR hE => ?_)
  refine jw_iload_n (pc' := 1) jd_History_isIn_0 rfl rfl rfl ?_
  refine zx_callS0 (pc' := 4) hR (h_setOf i (by omega)) jm_History_setOf jq_487 jd_History_isIn_1 rfl rfl (Nat.le_of_ble_eq_true rfl) (by omega) (by decide) rfl rfl ?_
  refine jw_iload_n (pc' := 5) jd_History_isIn_4 rfl rfl rfl ?_
  refine zx_iand (pc' := 6) jd_History_isIn_5 rfl ?_
  refine zx_if_eq (tgt := 13) (pc' := 9) (by first | exact rg_iv _ _ _ | omega) jd_History_isIn_6 (by decide) rfl (fun q => ?_) (fun q => ?_)
  · refine zx_iconst (pc' := 14) (n := 0) jd_History_isIn_13 rfl ?_
    refine zx_zret (by first | exact Or.inl rfl | exact Or.inr rfl | assumption | omega) hE jd_History_isIn_14 rfl ?_
    exact ⟨by rw [if_neg (by rw [hb.mp (by omega)]; exact Bool.false_ne_true)], rfl⟩
  · refine zx_iconst (pc' := 10) (n := 1) jd_History_isIn_9 rfl ?_
    refine jw_goto (tgt := 14) jd_History_isIn_10 (by decide) ?_
    refine zx_zret (by first | exact Or.inl rfl | exact Or.inr rfl | assumption | omega) hE jd_History_isIn_14 rfl ?_
    have e : m.testBit i = true := by
      cases hh : m.testBit i
      · exact absurd (hb.mpr hh) (by omega)
      · rfl
    exact ⟨by rw [if_pos e], rfl⟩
theorem bits_lt {m n : Nat} (h : ∀ j, m.testBit j = true → j < n) : m < 2 ^ n := by
  apply Nat.lt_pow_two_of_testBit
  intro i hi
  cases hh : m.testBit i
  · rfl
  · have := h i hh; omega
theorem lt_bits {m n j : Nat} (h : m < 2 ^ n) (hj : m.testBit j = true) : j < n := by
  by_cases q : j < n
  · exact q
  · have h2 : m < 2 ^ j := Nat.lt_of_lt_of_le h (Nat.pow_le_pow_right (by decide) (by omega))
    rw [Nat.testBit_lt_two_pow h2] at hj
    cases hj
theorem bS_lt (x : Int) : bS x < 2 ^ 30 := bits_lt fun j hj => by rw [bS_bit, decide_eq_true_eq] at hj; omega
theorem p30 : (2 : Nat) ^ 30 = 1073741824 := by decide
/-- the History's numbers: first and second parents, the trees' and the contents' numbers, how many, which are kept -/
def HC (σ : zS) (h : Nat) (f g t c : Nat → Int) (n kp : Nat) : Prop := (∀ i, i < 30 → iv σ (h + 31) i = f i) ∧ (∀ i, i < 30 → iv σ (h + 32) i = g i) ∧ (∀ i, i < 30 → iv σ (h + 33) i = t i) ∧ (∀ i, i < 360 → iv σ (h + 34) i = c i) ∧ iv σ h 8 = n ∧ iv σ h 9 = kp ∧ n ≤ 30 ∧ kp < 2 ^ 30
theorem h_kept {f g t c : Nat → Int} {n kp : Nat} (h : HC σ (zb o + 29) f g t c n kp) : zRo mi_History_kept 0 o [.ref (zb o + 29)] σ (some (.int (iI kp))) := by
  obtain ⟨h1, h2, h3, h4, h5, h6, h7, h8⟩ := h
  refine z_spec (by decide +kernel) (Nat.le_of_ble_eq_true rfl) rfl (fun k hs hR hE => ?_)
  refine jw_aload_n (pc' := 1) jd_History_kept_0 rfl rfl rfl ?_
  refine zx_getI (pc' := 4) (kf := 9) jc_History (by decide) jq_98 jd_History_kept_1 (mc_History _) rfl rfl ?_
  refine zx_iret hE jd_History_kept_4 rfl ?_
  exact ⟨by rw [h6], rfl⟩
theorem h_isFull {f g t c : Nat → Int} {n kp : Nat} (h : HC σ (zb o + 29) f g t c n kp) (hn : n < 30) : zRo mi_History_isFull 0 o [.ref (zb o + 29)] σ (some (.int (iI 0))) := by
  obtain ⟨h1, h2, h3, h4, h5, h6, h7, h8⟩ := h
  refine z_spec (by decide +kernel) (Nat.le_of_ble_eq_true rfl) rfl (fun k hs hR hE => ?_)
  refine jw_aload_n (pc' := 1) jd_History_isFull_0 rfl rfl rfl ?_
  refine zx_getI (pc' := 4) (kf := 8) jc_History (by decide) jq_97 jd_History_isFull_1 (mc_History _) rfl rfl ?_
  refine zx_bipush (pc' := 6) (n := 30) jd_History_isFull_4 (by decide +kernel) rfl ?_
  refine zx_icmp_lt (tgt := 13) (pc' := 9) (by first | exact rg_iv _ _ _ | omega) (by first | exact rg_iv _ _ _ | omega) jd_History_isFull_6 (by decide) rfl (fun q => ?_) (fun q => ?_)
  rotate_left
  · exfalso; omega
  refine zx_iconst (pc' := 14) (n := 0) jd_History_isFull_13 rfl ?_
  refine zx_zret (by first | exact Or.inl rfl | exact Or.inr rfl | assumption | omega) hE jd_History_isFull_14 rfl ?_
  exact ⟨rfl, rfl⟩
theorem h_holds {f g t c : Nat → Int} {n kp : Nat} (h : HC σ (zb o + 29) f g t c n kp) (i : Nat) (hi : i < 30) : zRo mi_History_holds 2 o [.ref (zb o + 29), .int (iI i)] σ (some (.int (iI (if kp.testBit i then 1 else 0)))) := by
  obtain ⟨h1, h2, h3, h4, h5, h6, h7, h8⟩ := h
  have h01 : (if kp.testBit i then (1 : Int) else 0) = 0 ∨ (if kp.testBit i then (1 : Int) else 0) = 1 := by split <;> omega
  refine z_spec (by decide +kernel) (Nat.le_of_ble_eq_true rfl) rfl (fun k hs hR hE => ?_)
  refine jw_iload_n (pc' := 1) jd_History_holds_0 rfl rfl rfl ?_
  refine jw_aload_n (pc' := 2) jd_History_holds_1 rfl rfl rfl ?_
  refine zx_getI (pc' := 5) (kf := 9) jc_History (by decide) jq_98 jd_History_holds_2 (mc_History _) rfl rfl ?_
  refine jw_sub (lc' := []) trivial ?_
  rw [h6]
  refine zx_callS0 (pc' := 8) hR (h_isIn i kp hi h8) jm_History_isIn jq_528 jd_History_holds_5 rfl rfl (Nat.le_of_ble_eq_true rfl) (by omega) (by decide) rfl rfl ?_
  refine zx_zret (by first | exact Or.inl rfl | exact Or.inr rfl | assumption | omega) hE jd_History_holds_8 rfl ?_
  exact ⟨rfl, rfl⟩
def trA (o : jw_O) (x : Int) : Nat := if 0 ≤ x ∧ x < 30 then tA o x.toNat else zb o + 31
theorem trA_i {i : Nat} (h : i < 30) : trA o i = tA o i := by unfold trA; rw [if_pos (by omega)]; rfl
theorem trA_n : trA o (-1) = zb o + 31 := by unfold trA; rw [if_neg (by omega)]
theorem h_treeOf (x : Int) (hx : -2147483648 ≤ x ∧ x < 2147483648) : zRo mi_History_treeOf 0 o [.ref (zb o + 29), .int (iI x)] σ (some (.ref (trA o x))) := by
  refine z_spec (by decide +kernel) (Nat.le_of_ble_eq_true rfl) rfl (fun k hs hR hE => ?_)
  refine jw_iload_n (pc' := 1) jd_History_treeOf_0 rfl rfl rfl ?_
  refine zx_if_lt (tgt := 19) (pc' := 4) (by first | exact rg_iv _ _ _ | omega) jd_History_treeOf_1 (by decide) rfl (fun q => ?_) (fun q => ?_)
  · refine jw_aload_n (pc' := 20) jd_History_treeOf_19 rfl rfl rfl ?_
    refine jw_get (pc' := 23) (kf := 1) jc_History (by decide) jq_90 jd_History_treeOf_20 (mc_History _) rfl rfl ?_
    refine zx_aret hE jd_History_treeOf_23 rfl ?_
    exact ⟨by unfold trA; rw [if_neg (by omega)], rfl⟩
  refine jw_iload_n (pc' := 5) jd_History_treeOf_4 rfl rfl rfl ?_
  refine zx_bipush (pc' := 7) (n := 30) jd_History_treeOf_5 (by decide +kernel) rfl ?_
  refine zx_icmp_ge (tgt := 19) (pc' := 10) (by first | exact rg_iv _ _ _ | omega) (by first | exact rg_iv _ _ _ | omega) jd_History_treeOf_7 (by decide) rfl (fun q2 => ?_) (fun q2 => ?_)
  · refine jw_aload_n (pc' := 20) jd_History_treeOf_19 rfl rfl rfl ?_
    refine jw_get (pc' := 23) (kf := 1) jc_History (by decide) jq_90 jd_History_treeOf_20 (mc_History _) rfl rfl ?_
    refine zx_aret hE jd_History_treeOf_23 rfl ?_
    exact ⟨by unfold trA; rw [if_neg (by omega)], rfl⟩
  obtain ⟨i, hi⟩ : ∃ n : Nat, x = n := ⟨x.toNat, by omega⟩
  subst hi
  refine jw_aload_n (pc' := 11) jd_History_treeOf_10 rfl rfl rfl ?_
  refine jw_get (pc' := 14) (kf := 0) jc_History (by decide) jq_89 jd_History_treeOf_11 (mc_History _) rfl rfl ?_
  refine jw_iload_n (pc' := 15) jd_History_treeOf_14 rfl rfl rfl ?_
  refine zx_trees (pc' := 16) jd_History_treeOf_15 rfl (by omega) rfl ?_
  refine jw_goto (tgt := 23) jd_History_treeOf_16 (by decide) ?_
  refine zx_aret hE jd_History_treeOf_23 rfl ?_
  exact ⟨by rw [trA_i (by omega)], rfl⟩
theorem h_first (i : Nat) (hi : i < 30) : zRo mi_History_firstParent 0 o [.ref (zb o + 29), .int (iI i)] σ (some (.int (iI (iv σ (zb o + 60) i)))) := by
  refine z_spec (by decide +kernel) (Nat.le_of_ble_eq_true rfl) rfl (fun k hs hR hE => ?_)
  refine jw_iload_n (pc' := 1) jd_History_firstParent_0 rfl rfl rfl ?_
  refine zx_if_lt (tgt := 19) (pc' := 4) (by first | exact rg_iv _ _ _ | omega) jd_History_firstParent_1 (by decide) rfl (fun q => ?_) (fun q => ?_)
  · exfalso; omega
  refine jw_iload_n (pc' := 5) jd_History_firstParent_4 rfl rfl rfl ?_
  refine zx_bipush (pc' := 7) (n := 30) jd_History_firstParent_5 (by decide +kernel) rfl ?_
  refine zx_icmp_ge (tgt := 19) (pc' := 10) (by first | exact rg_iv _ _ _ | omega) (by first | exact rg_iv _ _ _ | omega) jd_History_firstParent_7 (by decide) rfl (fun q2 => ?_) (fun q2 => ?_)
  · exfalso; omega
  refine jw_aload_n (pc' := 11) jd_History_firstParent_10 rfl rfl rfl ?_
  refine jw_get (pc' := 14) (kf := 3) jc_History (by decide) jq_92 jd_History_firstParent_11 (mc_History _) rfl rfl ?_
  refine jw_iload_n (pc' := 15) jd_History_firstParent_14 rfl rfl rfl ?_
  refine zx_iald (pc' := 16) jd_History_firstParent_15 (ml_History_firstParents _) rfl (by omega) (Nat.le_of_ble_eq_true rfl) rfl ?_
  refine jw_goto (tgt := 20) jd_History_firstParent_16 (by decide) ?_
  refine zx_iret hE jd_History_firstParent_20 rfl ?_
  exact ⟨rfl, rfl⟩
theorem h_second (i : Nat) (hi : i < 30) : zRo mi_History_secondParent 0 o [.ref (zb o + 29), .int (iI i)] σ (some (.int (iI (iv σ (zb o + 61) i)))) := by
  refine z_spec (by decide +kernel) (Nat.le_of_ble_eq_true rfl) rfl (fun k hs hR hE => ?_)
  refine jw_iload_n (pc' := 1) jd_History_secondParent_0 rfl rfl rfl ?_
  refine zx_if_lt (tgt := 19) (pc' := 4) (by first | exact rg_iv _ _ _ | omega) jd_History_secondParent_1 (by decide) rfl (fun q => ?_) (fun q => ?_)
  · exfalso; omega
  refine jw_iload_n (pc' := 5) jd_History_secondParent_4 rfl rfl rfl ?_
  refine zx_bipush (pc' := 7) (n := 30) jd_History_secondParent_5 (by decide +kernel) rfl ?_
  refine zx_icmp_ge (tgt := 19) (pc' := 10) (by first | exact rg_iv _ _ _ | omega) (by first | exact rg_iv _ _ _ | omega) jd_History_secondParent_7 (by decide) rfl (fun q2 => ?_) (fun q2 => ?_)
  · exfalso; omega
  refine jw_aload_n (pc' := 11) jd_History_secondParent_10 rfl rfl rfl ?_
  refine jw_get (pc' := 14) (kf := 4) jc_History (by decide) jq_93 jd_History_secondParent_11 (mc_History _) rfl rfl ?_
  refine jw_iload_n (pc' := 15) jd_History_secondParent_14 rfl rfl rfl ?_
  refine zx_iald (pc' := 16) jd_History_secondParent_15 (ml_History_secondParents _) rfl (by omega) (Nat.le_of_ble_eq_true rfl) rfl ?_
  refine jw_goto (tgt := 20) jd_History_secondParent_16 (by decide) ?_
  refine zx_iret hE jd_History_secondParent_20 rfl ?_
  exact ⟨rfl, rfl⟩
theorem h_note (i : Nat) (hi : i < 30) : zRo mi_History_noteOf 0 o [.ref (zb o + 29), .int (iI i)] σ (some (.int (iI (iv σ (zb o + 59) i)))) := by
  refine z_spec (by decide +kernel) (Nat.le_of_ble_eq_true rfl) rfl (fun k hs hR hE => ?_)
  refine jw_iload_n (pc' := 1) jd_History_noteOf_0 rfl rfl rfl ?_
  refine zx_if_lt (tgt := 19) (pc' := 4) (by first | exact rg_iv _ _ _ | omega) jd_History_noteOf_1 (by decide) rfl (fun q => ?_) (fun q => ?_)
  · exfalso; omega
  refine jw_iload_n (pc' := 5) jd_History_noteOf_4 rfl rfl rfl ?_
  refine zx_bipush (pc' := 7) (n := 30) jd_History_noteOf_5 (by decide +kernel) rfl ?_
  refine zx_icmp_ge (tgt := 19) (pc' := 10) (by first | exact rg_iv _ _ _ | omega) (by first | exact rg_iv _ _ _ | omega) jd_History_noteOf_7 (by decide) rfl (fun q2 => ?_) (fun q2 => ?_)
  · exfalso; omega
  refine jw_aload_n (pc' := 11) jd_History_noteOf_10 rfl rfl rfl ?_
  refine jw_get (pc' := 14) (kf := 2) jc_History (by decide) jq_91 jd_History_noteOf_11 (mc_History _) rfl rfl ?_
  refine jw_iload_n (pc' := 15) jd_History_noteOf_14 rfl rfl rfl ?_
  refine zx_iald (pc' := 16) jd_History_noteOf_15 (ml_History_notes _) rfl (by omega) (Nat.le_of_ble_eq_true rfl) rfl ?_
  refine jw_goto (tgt := 20) jd_History_noteOf_16 (by decide) ?_
  refine zx_iret hE jd_History_noteOf_20 rfl ?_
  exact ⟨rfl, rfl⟩
section
variable {f g t c : Nat → Int} {n kp : Nat}
theorem or3_lt {a b m : Nat} (ha : a < 2 ^ 30) (hb : b < 2 ^ 30) (hm : m < 2 ^ 30) : m ||| (a ||| b) < 2 ^ 30 := Nat.or_lt_two_pow hm (Nat.or_lt_two_pow ha hb)
theorem h_anc (h : HC σ (zb o + 29) f g t c n kp) (m0 : Nat) (hm0 : m0 < 2 ^ 30) : zRo mi_History_withAncestors 2 o [.ref (zb o + 29), .int (iI m0)] σ (some (.int (iI (waF f g 30 m0)))) := by
  obtain ⟨h1, h2, h3, h4, h5, h6, h7, h8⟩ := h
  refine z_spec (by decide +kernel) (Nat.le_of_ble_eq_true rfl) rfl (fun k hs hR hE => ?_)
  refine jw_iload_n (pc' := 1) jd_History_withAncestors_0 rfl rfl rfl ?_
  refine jw_istore_n (pc' := 2) (lc' := [(0, _), (2, _)]) jd_History_withAncestors_1 rfl (Nat.le_of_ble_eq_true rfl) ⟨rfl, rfl, trivial⟩ rfl ?_
  refine zx_bipush (pc' := 4) (n := 29) jd_History_withAncestors_2 (by decide +kernel) rfl ?_
  refine jw_istore_n (pc' := 5) (lc' := [(0, _), (2, _), (3, _)]) jd_History_withAncestors_4 rfl (Nat.le_of_ble_eq_true rfl) ⟨rfl, rfl, rfl, trivial⟩ rfl ?_
  have loop : ∀ (i m : Nat), i ≤ 30 → m < 2 ^ 30 → waF f g i m = waF f g 30 m0 → jw_X mi_History_withAncestors o k 0 0 5 [(0, .ref (zb o + 29)), (2, .int (iI m)), (3, .int (iI (i - 1)))] [] (mm o σ) hs := by
    intro i
    induction i with
    | zero =>
      intro m hi hm he
      refine jw_iload_n (pc' := 6) jd_History_withAncestors_5 rfl rfl rfl ?_
      refine zx_if_lt (tgt := 45) (pc' := 9) (by first | exact rg_iv _ _ _ | omega) jd_History_withAncestors_6 (by decide) rfl (fun q => ?_) (fun q => ?_)
      rotate_left
      · exfalso; omega
      refine jw_iload_n (pc' := 46) jd_History_withAncestors_45 rfl rfl rfl ?_
      refine zx_iret hE jd_History_withAncestors_46 rfl ?_
      have he : m = waF f g 30 m0 := he
      exact ⟨by rw [← he], rfl⟩
    | succ i ih =>
      intro m hi hm he
      have e1 : ((i + 1 : Nat) : Int) - 1 = (i : Int) := by omega
      rw [e1]
      have r1 := rg_iv σ (zb o + 60) i
      have r2 := rg_iv σ (zb o + 61) i
      have g1 := h1 i (by omega)
      have g2 := h2 i (by omega)
      unfold waF at he
      refine jw_iload_n (pc' := 6) jd_History_withAncestors_5 rfl rfl rfl ?_
      refine zx_if_lt (tgt := 45) (pc' := 9) (by first | exact rg_iv _ _ _ | omega) jd_History_withAncestors_6 (by decide) rfl (fun q => ?_) (fun q => ?_)
      · exfalso; omega
      refine jw_iload_n (pc' := 10) jd_History_withAncestors_9 rfl rfl rfl ?_
      refine jw_iload_n (pc' := 11) jd_History_withAncestors_10 rfl rfl rfl ?_
      refine zx_callS0 (pc' := 14) hR (h_isIn i m (by omega) hm) jm_History_isIn jq_528 jd_History_withAncestors_11 rfl rfl (Nat.le_of_ble_eq_true rfl) (by omega) (by decide) rfl rfl ?_
      by_cases e : m.testBit i = true
      · rw [if_pos e] at he ⊢
        refine zx_if_eq (tgt := 39) (pc' := 17) (by first | exact rg_iv _ _ _ | omega) jd_History_withAncestors_14 (by decide) rfl (fun q2 => ?_) (fun q2 => ?_)
        · exfalso; omega
        refine jw_iload_n (pc' := 18) jd_History_withAncestors_17 rfl rfl rfl ?_
        refine jw_aload_n (pc' := 19) jd_History_withAncestors_18 rfl rfl rfl ?_
        refine jw_get (pc' := 22) (kf := 3) jc_History (by decide) jq_92 jd_History_withAncestors_19 (mc_History _) rfl rfl ?_
        refine jw_iload_n (pc' := 23) jd_History_withAncestors_22 rfl rfl rfl ?_
        refine zx_iald (pc' := 24) jd_History_withAncestors_23 (ml_History_firstParents _) rfl (by omega) (Nat.le_of_ble_eq_true rfl) rfl ?_
        refine zx_callS0 (pc' := 27) hR (h_setOf _ r1) jm_History_setOf jq_487 jd_History_withAncestors_24 rfl rfl (Nat.le_of_ble_eq_true rfl) (by omega) (by decide) rfl rfl ?_
        refine jw_aload_n (pc' := 28) jd_History_withAncestors_27 rfl rfl rfl ?_
        refine jw_get (pc' := 31) (kf := 4) jc_History (by decide) jq_93 jd_History_withAncestors_28 (mc_History _) rfl rfl ?_
        refine jw_iload_n (pc' := 32) jd_History_withAncestors_31 rfl rfl rfl ?_
        refine zx_iald (pc' := 33) jd_History_withAncestors_32 (ml_History_secondParents _) rfl (by omega) (Nat.le_of_ble_eq_true rfl) rfl ?_
        refine zx_callS0 (pc' := 36) hR (h_setOf _ r2) jm_History_setOf jq_487 jd_History_withAncestors_33 rfl rfl (Nat.le_of_ble_eq_true rfl) (by omega) (by decide) rfl rfl ?_
        refine zx_ior (pc' := 37) jd_History_withAncestors_36 rfl ?_
        refine zx_ior (pc' := 38) jd_History_withAncestors_37 rfl ?_
        refine jw_istore_n (pc' := 39) (lc' := [(0, _), (2, _), (3, _)]) jd_History_withAncestors_38 rfl (Nat.le_of_ble_eq_true rfl) ⟨rfl, rfl, rfl, trivial⟩ rfl ?_
        refine zx_iinc (pc' := 42) (lc' := [(0, _), (2, _), (3, _)]) jd_History_withAncestors_39 rfl (Nat.le_of_ble_eq_true rfl) ⟨rfl, rfl, rfl, trivial⟩ rfl ?_
        refine jw_goto (tgt := 5) jd_History_withAncestors_42 (by decide) ?_
        rw [show iv σ (zb o + 60) i = f i from g1, show iv σ (zb o + 61) i = g i from g2, show (i : Int) + -1 = i - 1 by omega]
        exact ih _ (by omega) (or3_lt (bS_lt _) (bS_lt _) hm) he
      · rw [if_neg e] at he ⊢
        refine zx_if_eq (tgt := 39) (pc' := 17) (by first | exact rg_iv _ _ _ | omega) jd_History_withAncestors_14 (by decide) rfl (fun q2 => ?_) (fun q2 => ?_)
        rotate_left
        · exfalso; omega
        refine zx_iinc (pc' := 42) (lc' := [(0, _), (2, _), (3, _)]) jd_History_withAncestors_39 rfl (Nat.le_of_ble_eq_true rfl) ⟨rfl, rfl, rfl, trivial⟩ rfl ?_
        refine jw_goto (tgt := 5) jd_History_withAncestors_42 (by decide) ?_
        rw [show (i : Int) + -1 = i - 1 by omega]
        exact ih m (by omega) hm he
  exact loop 30 m0 (by omega) hm0 rfl
theorem h_ancOf (h : HC σ (zb o + 29) f g t c n kp) (x : Int) (hx : -2147483648 ≤ x ∧ x < 2147483648) : zRo mi_History_ancestorsOf 3 o [.ref (zb o + 29), .int (iI x)] σ (some (.int (iI (ancF f g x)))) := by
  refine z_spec (by decide +kernel) (Nat.le_of_ble_eq_true rfl) rfl (fun k hs hR hE => ?_)
  refine jw_aload_n (pc' := 1) jd_History_ancestorsOf_0 rfl rfl rfl ?_
  refine jw_iload_n (pc' := 2) jd_History_ancestorsOf_1 rfl rfl rfl ?_
  refine zx_callS0 (pc' := 5) hR (h_setOf x hx) jm_History_setOf jq_487 jd_History_ancestorsOf_2 rfl rfl (Nat.le_of_ble_eq_true rfl) (by omega) (by decide) rfl rfl ?_
  refine zx_callV0 (pc' := 8) hR (h_anc h _ (bS_lt _)) jm_History_withAncestors jq_524 jc_History jd_History_ancestorsOf_5 (mc_History _) rfl rfl (Nat.le_of_ble_eq_true rfl) (by omega) (by decide) rfl rfl ?_
  refine zx_iret hE jd_History_ancestorsOf_8 rfl ?_
  exact ⟨rfl, rfl⟩
theorem waF_lt {f g : Nat → Int} : ∀ (i m : Nat), m < 2 ^ 30 → waF f g i m < 2 ^ 30
  | 0, _, h => h
  | i + 1, m, h => by
    unfold waF
    split
    · exact waF_lt i _ (or3_lt (bS_lt _) (bS_lt _) h)
    · exact waF_lt i m h
theorem h_common (h : HC σ (zb o + 29) f g t c n kp) (x y : Int) (hx : -2147483648 ≤ x ∧ x < 2147483648) (hy : -2147483648 ≤ y ∧ y < 2147483648) : zRo mi_History_commonAncestor 4 o [.ref (zb o + 29), .int (iI x), .int (iI y)] σ (some (.int (iI (caF f g x y)))) := by
  have hlt : ancF f g x &&& ancF f g y < 2 ^ 30 := Nat.and_lt_two_pow _ (waF_lt 30 _ (bS_lt _))
  refine z_spec (by decide +kernel) (Nat.le_of_ble_eq_true rfl) rfl (fun k hs hR hE => ?_)
  refine jw_aload_n (pc' := 1) jd_History_commonAncestor_0 rfl rfl rfl ?_
  refine jw_iload_n (pc' := 2) jd_History_commonAncestor_1 rfl rfl rfl ?_
  refine zx_callV0 (pc' := 5) hR (h_ancOf h x hx) jm_History_ancestorsOf jq_520 jc_History jd_History_commonAncestor_2 (mc_History _) rfl rfl (Nat.le_of_ble_eq_true rfl) (by omega) (by decide) rfl rfl ?_
  refine jw_aload_n (pc' := 6) jd_History_commonAncestor_5 rfl rfl rfl ?_
  refine jw_iload_n (pc' := 7) jd_History_commonAncestor_6 rfl rfl rfl ?_
  refine zx_callV0 (pc' := 10) hR (h_ancOf h y hy) jm_History_ancestorsOf jq_520 jc_History jd_History_commonAncestor_7 (mc_History _) rfl rfl (Nat.le_of_ble_eq_true rfl) (by omega) (by decide) rfl rfl ?_
  refine zx_iand (pc' := 11) jd_History_commonAncestor_10 rfl ?_
  refine jw_istore_n (pc' := 12) (lc' := [(3, _)]) jd_History_commonAncestor_11 rfl (Nat.le_of_ble_eq_true rfl) ⟨rfl, trivial⟩ rfl ?_
  refine zx_bipush (pc' := 14) (n := 29) jd_History_commonAncestor_12 (by decide +kernel) rfl ?_
  refine jw_istore (pc' := 16) (lc' := [(3, _), (4, _)]) jd_History_commonAncestor_14 (Nat.le_of_ble_eq_true rfl) ⟨rfl, rfl, trivial⟩ rfl ?_
  have loop : ∀ (i : Nat), i ≤ 30 → hiB (ancF f g x &&& ancF f g y) i = caF f g x y → jw_X mi_History_commonAncestor o k 0 0 16 [(3, .int (iI ((ancF f g x &&& ancF f g y : Nat) : Int))), (4, .int (iI (i - 1)))] [] (mm o σ) hs := by
    intro i
    induction i with
    | zero =>
      intro hi he
      refine jw_iload (pc' := 18) jd_History_commonAncestor_16 rfl rfl ?_
      refine zx_if_lt (tgt := 39) (pc' := 21) (by first | exact rg_iv _ _ _ | omega) jd_History_commonAncestor_18 (by decide) rfl (fun q => ?_) (fun q => ?_)
      rotate_left
      · exfalso; omega
      refine zx_iconst (pc' := 40) (n := -1) jd_History_commonAncestor_39 rfl ?_
      refine zx_iret hE jd_History_commonAncestor_40 rfl ?_
      have he : (-1 : Int) = caF f g x y := he
      exact ⟨by rw [← he], rfl⟩
    | succ i ih =>
      intro hi he
      have e1 : ((i + 1 : Nat) : Int) - 1 = (i : Int) := by omega
      rw [e1]
      unfold hiB at he
      refine jw_iload (pc' := 18) jd_History_commonAncestor_16 rfl rfl ?_
      refine zx_if_lt (tgt := 39) (pc' := 21) (by first | exact rg_iv _ _ _ | omega) jd_History_commonAncestor_18 (by decide) rfl (fun q => ?_) (fun q => ?_)
      · exfalso; omega
      refine jw_iload (pc' := 23) jd_History_commonAncestor_21 rfl rfl ?_
      refine jw_iload_n (pc' := 24) jd_History_commonAncestor_23 rfl rfl rfl ?_
      refine zx_callS0 (pc' := 27) hR (h_isIn i _ (by omega) hlt) jm_History_isIn jq_528 jd_History_commonAncestor_24 rfl rfl (Nat.le_of_ble_eq_true rfl) (by omega) (by decide) rfl rfl ?_
      by_cases e : (ancF f g x &&& ancF f g y).testBit i = true
      · rw [if_pos e] at he ⊢
        refine zx_if_eq (tgt := 33) (pc' := 30) (by first | exact rg_iv _ _ _ | omega) jd_History_commonAncestor_27 (by decide) rfl (fun q2 => ?_) (fun q2 => ?_)
        · exfalso; omega
        refine jw_iload (pc' := 32) jd_History_commonAncestor_30 rfl rfl ?_
        refine zx_iret hE jd_History_commonAncestor_32 rfl ?_
        exact ⟨by rw [← he], rfl⟩
      · rw [if_neg e] at he ⊢
        refine zx_if_eq (tgt := 33) (pc' := 30) (by first | exact rg_iv _ _ _ | omega) jd_History_commonAncestor_27 (by decide) rfl (fun q2 => ?_) (fun q2 => ?_)
        rotate_left
        · exfalso; omega
        refine zx_iinc (pc' := 36) (lc' := [(3, _), (4, _)]) jd_History_commonAncestor_33 rfl (Nat.le_of_ble_eq_true rfl) ⟨rfl, rfl, trivial⟩ rfl ?_
        refine jw_goto (tgt := 16) jd_History_commonAncestor_36 (by decide) ?_
        rw [show (i : Int) + -1 = i - 1 by omega]
        exact ih (by omega) he
  exact loop 30 (by omega) rfl
theorem diF_lt (t : Nat → Int) (m : Nat) : ∀ i, diF t m i < 2 ^ 30
  | 0 => by show 0 < _; decide
  | i + 1 => by
    unfold diF
    split
    · exact Nat.or_lt_two_pow (diF_lt t m i) (bS_lt _)
    · exact diF_lt t m i
theorem h_trees (h : HC σ (zb o + 29) f g t c n kp) (m : Nat) (hm : m < 2 ^ 30) : zRo mi_History_countTrees 2 o [.ref (zb o + 29), .int (iI m)] σ (some (.int (iI (pcN (diF t m 30))))) := by
  obtain ⟨h1, h2, h3, h4, h5, h6, h7, h8⟩ := h
  refine z_spec (by decide +kernel) (Nat.le_of_ble_eq_true rfl) rfl (fun k hs hR hE => ?_)
  refine zx_iconst (pc' := 1) (n := 0) jd_History_countTrees_0 rfl ?_
  refine jw_istore_n (pc' := 2) (lc' := [(0, _), (1, _), (2, _)]) jd_History_countTrees_1 rfl (Nat.le_of_ble_eq_true rfl) ⟨rfl, rfl, rfl, trivial⟩ rfl ?_
  refine zx_iconst (pc' := 3) (n := 0) jd_History_countTrees_2 rfl ?_
  refine jw_istore_n (pc' := 4) (lc' := [(0, _), (1, _), (2, _), (3, _)]) jd_History_countTrees_3 rfl (Nat.le_of_ble_eq_true rfl) ⟨rfl, rfl, rfl, rfl, trivial⟩ rfl ?_
  have loop : ∀ (d i : Nat), i + d = 30 → jw_X mi_History_countTrees o k 0 0 4 [(0, .ref (zb o + 29)), (1, .int (iI m)), (2, .int (iI (diF t m i))), (3, .int (iI i))] [] (mm o σ) hs := by
    intro d
    induction d with
    | zero =>
      intro i hi
      refine jw_iload_n (pc' := 5) jd_History_countTrees_4 rfl rfl rfl ?_
      refine zx_bipush (pc' := 7) (n := 30) jd_History_countTrees_5 (by decide +kernel) rfl ?_
      refine zx_icmp_ge (tgt := 36) (pc' := 10) (by first | exact rg_iv _ _ _ | omega) (by first | exact rg_iv _ _ _ | omega) jd_History_countTrees_7 (by decide) rfl (fun q => ?_) (fun q => ?_)
      rotate_left
      · exfalso; omega
      rw [show i = 30 by omega]
      refine jw_iload_n (pc' := 37) jd_History_countTrees_36 rfl rfl rfl ?_
      refine zx_callS0 (pc' := 40) hR (h_bits _ (diF_lt t m 30)) jm_Integer_bitCount jq_698 jd_History_countTrees_37 rfl rfl (Nat.le_of_ble_eq_true rfl) (by omega) (by decide) rfl rfl ?_
      refine zx_iret hE jd_History_countTrees_40 rfl ?_
      exact ⟨rfl, rfl⟩
    | succ d ih =>
      intro i hi
      have r1 := rg_iv σ (zb o + 62) i
      have g1 := h3 i (by omega)
      have ih1 := ih (i + 1) (by omega)
      unfold diF at ih1
      refine jw_iload_n (pc' := 5) jd_History_countTrees_4 rfl rfl rfl ?_
      refine zx_bipush (pc' := 7) (n := 30) jd_History_countTrees_5 (by decide +kernel) rfl ?_
      refine zx_icmp_ge (tgt := 36) (pc' := 10) (by first | exact rg_iv _ _ _ | omega) (by first | exact rg_iv _ _ _ | omega) jd_History_countTrees_7 (by decide) rfl (fun q => ?_) (fun q => ?_)
      · exfalso; omega
      refine jw_iload_n (pc' := 11) jd_History_countTrees_10 rfl rfl rfl ?_
      refine jw_iload_n (pc' := 12) jd_History_countTrees_11 rfl rfl rfl ?_
      refine zx_callS0 (pc' := 15) hR (h_isIn i m (by omega) hm) jm_History_isIn jq_528 jd_History_countTrees_12 rfl rfl (Nat.le_of_ble_eq_true rfl) (by omega) (by decide) rfl rfl ?_
      by_cases e : m.testBit i = true
      · rw [if_pos e] at ih1 ⊢
        refine zx_if_eq (tgt := 30) (pc' := 18) (by first | exact rg_iv _ _ _ | omega) jd_History_countTrees_15 (by decide) rfl (fun q2 => ?_) (fun q2 => ?_)
        · exfalso; omega
        refine jw_iload_n (pc' := 19) jd_History_countTrees_18 rfl rfl rfl ?_
        refine jw_aload_n (pc' := 20) jd_History_countTrees_19 rfl rfl rfl ?_
        refine jw_get (pc' := 23) (kf := 5) jc_History (by decide) jq_94 jd_History_countTrees_20 (mc_History _) rfl rfl ?_
        refine jw_iload_n (pc' := 24) jd_History_countTrees_23 rfl rfl rfl ?_
        refine zx_iald (pc' := 25) jd_History_countTrees_24 (ml_History_treeNumbers _) rfl (by omega) (Nat.le_of_ble_eq_true rfl) rfl ?_
        refine zx_callS0 (pc' := 28) hR (h_setOf _ r1) jm_History_setOf jq_487 jd_History_countTrees_25 rfl rfl (Nat.le_of_ble_eq_true rfl) (by omega) (by decide) rfl rfl ?_
        rw [show iv σ (zb o + 62) i = t i from g1]
        refine zx_ior (pc' := 29) jd_History_countTrees_28 rfl ?_
        refine jw_istore_n (pc' := 30) (lc' := [(0, _), (1, _), (2, _), (3, _)]) jd_History_countTrees_29 rfl (Nat.le_of_ble_eq_true rfl) ⟨rfl, rfl, rfl, rfl, trivial⟩ rfl ?_
        refine zx_iinc (pc' := 33) (lc' := [(0, _), (1, _), (2, _), (3, _)]) jd_History_countTrees_30 rfl (Nat.le_of_ble_eq_true rfl) ⟨rfl, rfl, rfl, rfl, trivial⟩ rfl ?_
        refine jw_goto (tgt := 4) jd_History_countTrees_33 (by decide) ?_
        exact ih1
      · rw [if_neg e] at ih1 ⊢
        refine zx_if_eq (tgt := 30) (pc' := 18) (by first | exact rg_iv _ _ _ | omega) jd_History_countTrees_15 (by decide) rfl (fun q2 => ?_) (fun q2 => ?_)
        rotate_left
        · exfalso; omega
        refine zx_iinc (pc' := 33) (lc' := [(0, _), (1, _), (2, _), (3, _)]) jd_History_countTrees_30 rfl (Nat.le_of_ble_eq_true rfl) ⟨rfl, rfl, rfl, rfl, trivial⟩ rfl ?_
        refine jw_goto (tgt := 4) jd_History_countTrees_33 (by decide) ?_
        exact ih1
  exact loop 30 0 (by omega)
/-- what has been met in the rows before i and, of row i, the places before p -/
def metQ (c : Nat → Int) (m i p j : Nat) : Prop := ∃ a, ∃ b, b < 12 ∧ (a < i ∨ a = i ∧ b < p) ∧ m.testBit a = true ∧ c (a * 12 + b) = j
theorem h_meet (h : HC σ (zb o + 29) f g t c n kp) (m : Nat) (hm : m < 2 ^ 30) : zSpec mi_History_meetContents 2 o [.ref (zb o + 29), .int (iI m)] σ (fun v s => v = none ∧ (∀ j, j < 360 → iv s (zb o + 64) j = metI c m j) ∧ zF σ s (zb o + 64) 1) := by
  obtain ⟨h1, h2, h3, h4, h5, h6, h7, h8⟩ := h
  refine z_spec (by decide +kernel) (Nat.le_of_ble_eq_true rfl) rfl (fun k hs hR hE => ?_)
  refine jw_aload_n (pc' := 1) jd_History_meetContents_0 rfl rfl rfl ?_
  refine jw_get (pc' := 4) (kf := 7) jc_History (by decide) jq_96 jd_History_meetContents_1 (mc_History _) rfl rfl ?_
  refine zx_iconst (pc' := 5) (n := 0) jd_History_meetContents_4 rfl ?_
  refine zx_callS (pc' := 8) hR (z_fill (n := 360) (fun s => ml_History_metContents s) (by omega) (by omega)) jm_Arrays_fill jq_716 jd_History_meetContents_5 rfl rfl (Nat.le_of_ble_eq_true rfl) (by omega) (by decide) rfl (fun v9 s0 q9 => ?_)
  obtain ⟨rfl, f0, F0⟩ := q9
  refine zx_iconst (pc' := 9) (n := 0) jd_History_meetContents_8 rfl ?_
  refine jw_istore_n (pc' := 10) (lc' := [(0, _), (1, _), (2, _)]) jd_History_meetContents_9 rfl (Nat.le_of_ble_eq_true rfl) ⟨rfl, rfl, rfl, trivial⟩ rfl ?_
  have loop : ∀ (d i : Nat) (s : zS), i + d = 30 → (∀ j, j < 360 → (metQ c m i 0 j ∧ iv s (zb o + 64) j = 1 ∨ ¬ metQ c m i 0 j ∧ iv s (zb o + 64) j = 0)) → zF σ s (zb o + 64) 1 → jw_X mi_History_meetContents o k 0 0 10 [(0, .ref (zb o + 29)), (1, .int (iI m)), (2, .int (iI i))] [] (mm o s) hs := by
    intro d
    induction d with
    | zero =>
      intro i s hi hq hF
      refine jw_iload_n (pc' := 11) jd_History_meetContents_10 rfl rfl rfl ?_
      refine zx_bipush (pc' := 13) (n := 30) jd_History_meetContents_11 (by decide +kernel) rfl ?_
      refine zx_icmp_ge (tgt := 80) (pc' := 16) (by first | exact rg_iv _ _ _ | omega) (by first | exact rg_iv _ _ _ | omega) jd_History_meetContents_13 (by decide) rfl (fun q => ?_) (fun q => ?_)
      rotate_left
      · exfalso; omega
      refine zx_vret hE jd_History_meetContents_80 rfl ?_
      refine ⟨rfl, fun j hj => ?_, hF⟩
      have e : metP c m j ↔ metQ c m i 0 j := by
        constructor
        · rintro ⟨a, g1, g2, b, g3, g4⟩
          exact ⟨a, b, g3, Or.inl (by omega), g2, g4⟩
        · rintro ⟨a, b, g3, g1, g2, g4⟩
          exact ⟨a, by omega, g2, b, g3, g4⟩
      unfold metI
      rcases hq j hj with ⟨g1, g2⟩ | ⟨g1, g2⟩
      · rw [if_pos (e.mpr g1)]; exact g2
      · rw [if_neg (fun z => g1 (e.mp z))]; exact g2
    | succ d ih =>
      intro i s hi hq hF
      have inner : ∀ (e p : Nat) (s : zS), p + e = 12 → (∀ j, j < 360 → (metQ c m i p j ∧ iv s (zb o + 64) j = 1 ∨ ¬ metQ c m i p j ∧ iv s (zb o + 64) j = 0)) → zF σ s (zb o + 64) 1 → jw_X mi_History_meetContents o k 0 0 18 [(0, .ref (zb o + 29)), (1, .int (iI m)), (2, .int (iI i)), (3, .int (iI p))] [] (mm o s) hs := by
        intro e
        induction e with
        | zero =>
          intro p s hp hq hF
          refine jw_iload_n (pc' := 19) jd_History_meetContents_18 rfl rfl rfl ?_
          refine zx_bipush (pc' := 21) (n := 12) jd_History_meetContents_19 (by decide +kernel) rfl ?_
          refine zx_icmp_ge (tgt := 74) (pc' := 24) (by first | exact rg_iv _ _ _ | omega) (by first | exact rg_iv _ _ _ | omega) jd_History_meetContents_21 (by decide) rfl (fun q2 => ?_) (fun q2 => ?_)
          rotate_left
          · exfalso; omega
          refine zx_iinc (pc' := 77) (lc' := [(0, _), (1, _), (2, _)]) jd_History_meetContents_74 rfl (Nat.le_of_ble_eq_true rfl) ⟨rfl, rfl, rfl, trivial⟩ rfl ?_
          refine jw_goto (tgt := 10) jd_History_meetContents_77 (by decide) ?_
          refine ih (i + 1) s (by omega) (fun j hj => ?_) hF
          have e : metQ c m (i + 1) 0 j ↔ metQ c m i p j := by
            constructor
            · rintro ⟨a, b, g3, g1, g2⟩
              exact ⟨a, b, g3, by omega, g2⟩
            · rintro ⟨a, b, g3, g1, g2⟩
              exact ⟨a, b, g3, by omega, g2⟩
          rw [e]; exact hq j hj
        | succ e jh =>
          intro p s hp hq hF
          have g4 : iv s (zb o + 63) (i * 12 + p) = c (i * 12 + p) := (iv_cell (hF _ (by omega)) _).trans (h4 (i * 12 + p) (by omega))
          refine jw_iload_n (pc' := 19) jd_History_meetContents_18 rfl rfl rfl ?_
          refine zx_bipush (pc' := 21) (n := 12) jd_History_meetContents_19 (by decide +kernel) rfl ?_
          refine zx_icmp_ge (tgt := 74) (pc' := 24) (by first | exact rg_iv _ _ _ | omega) (by first | exact rg_iv _ _ _ | omega) jd_History_meetContents_21 (by decide) rfl (fun q2 => ?_) (fun q2 => ?_)
          · exfalso; omega
          refine jw_iload_n (pc' := 25) jd_History_meetContents_24 rfl rfl rfl ?_
          refine jw_iload_n (pc' := 26) jd_History_meetContents_25 rfl rfl rfl ?_
          refine zx_callS0 (pc' := 29) hR (h_isIn i m (by omega) hm) jm_History_isIn jq_528 jd_History_meetContents_26 rfl rfl (Nat.le_of_ble_eq_true rfl) (by omega) (by decide) rfl rfl ?_
          by_cases eb : m.testBit i = true
          · rw [if_pos eb]
            refine zx_if_eq (tgt := 74) (pc' := 32) (by first | exact rg_iv _ _ _ | omega) jd_History_meetContents_29 (by decide) rfl (fun q3 => ?_) (fun q3 => ?_)
            · exfalso; omega
            have next : ∀ s2 : zS, (∀ j, j < 360 → iv s2 (zb o + 64) j = if (j : Int) = c (i * 12 + p) then 1 else iv s (zb o + 64) j) → ∀ j, j < 360 → (metQ c m i (p + 1) j ∧ iv s2 (zb o + 64) j = 1 ∨ ¬ metQ c m i (p + 1) j ∧ iv s2 (zb o + 64) j = 0) := by
              intro s2 hs2 j hj
              rw [hs2 j hj]
              by_cases ej : (j : Int) = c (i * 12 + p)
              · rw [if_pos ej]
                exact Or.inl ⟨⟨i, p, by omega, Or.inr ⟨rfl, by omega⟩, eb, ej.symm⟩, rfl⟩
              · rw [if_neg ej]
                have e2 : metQ c m i (p + 1) j ↔ metQ c m i p j := by
                  constructor
                  · rintro ⟨a, b, g3, g1, g2, g5⟩
                    refine ⟨a, b, g3, ?_, g2, g5⟩
                    by_cases z : a = i ∧ b = p
                    · obtain ⟨z1, z2⟩ := z
                      rw [z1, z2] at g5
                      exact absurd g5.symm ej
                    · omega
                  · rintro ⟨a, b, g3, g1, g2⟩
                    exact ⟨a, b, g3, by omega, g2⟩
                rw [e2]; exact hq j hj
            refine jw_aload_n (pc' := 33) jd_History_meetContents_32 rfl rfl rfl ?_
            refine jw_get (pc' := 36) (kf := 6) jc_History (by decide) jq_95 jd_History_meetContents_33 (mc_History _) rfl rfl ?_
            refine jw_iload_n (pc' := 37) jd_History_meetContents_36 rfl rfl rfl ?_
            refine zx_bipush (pc' := 39) (n := 12) jd_History_meetContents_37 (by decide +kernel) rfl ?_
            refine zx_imul (pc' := 40) jd_History_meetContents_39 rfl ?_
            refine jw_iload_n (pc' := 41) jd_History_meetContents_40 rfl rfl rfl ?_
            refine zx_iadd (pc' := 42) jd_History_meetContents_41 rfl ?_
            refine zx_iald (pc' := 43) (j := i * 12 + p) jd_History_meetContents_42 (ml_History_contentNumbers _) (by omega) (by omega) (Nat.le_of_ble_eq_true rfl) rfl ?_
            refine jw_istore (pc' := 45) (lc' := [(0, _), (1, _), (2, _), (3, _), (4, _)]) jd_History_meetContents_43 (Nat.le_of_ble_eq_true rfl) ⟨rfl, rfl, rfl, rfl, rfl, trivial⟩ rfl ?_
            refine jw_iload (pc' := 47) jd_History_meetContents_45 rfl rfl ?_
            refine zx_if_lt (tgt := 68) (pc' := 50) (by first | exact rg_iv _ _ _ | omega) jd_History_meetContents_47 (by decide) rfl (fun q4 => ?_) (fun q4 => ?_)
            · refine zx_iinc (pc' := 71) (lc' := [(0, _), (1, _), (2, _), (3, _)]) jd_History_meetContents_68 rfl (Nat.le_of_ble_eq_true rfl) ⟨rfl, rfl, rfl, rfl, trivial⟩ rfl ?_
              refine jw_goto (tgt := 18) jd_History_meetContents_71 (by decide) ?_
              rw [g4] at q4
              exact jh (p + 1) s (by omega) (next s (fun j hj => by rw [if_neg (by omega)])) hF
            refine jw_iload (pc' := 52) jd_History_meetContents_50 rfl rfl ?_
            refine jw_aload_n (pc' := 53) jd_History_meetContents_52 rfl rfl rfl ?_
            refine jw_get (pc' := 56) (kf := 7) jc_History (by decide) jq_96 jd_History_meetContents_53 (mc_History _) rfl rfl ?_
            refine zx_alen (pc' := 57) (i := 0) jd_History_meetContents_56 (ml_History_metContents _) rfl rfl rfl ?_
            refine zx_icmp_ge (tgt := 68) (pc' := 60) (by first | exact rg_iv _ _ _ | omega) (by first | exact rg_iv _ _ _ | omega) jd_History_meetContents_57 (by decide) rfl (fun q5 => ?_) (fun q5 => ?_)
            · refine zx_iinc (pc' := 71) (lc' := [(0, _), (1, _), (2, _), (3, _)]) jd_History_meetContents_68 rfl (Nat.le_of_ble_eq_true rfl) ⟨rfl, rfl, rfl, rfl, trivial⟩ rfl ?_
              refine jw_goto (tgt := 18) jd_History_meetContents_71 (by decide) ?_
              rw [g4] at q5
              exact jh (p + 1) s (by omega) (next s (fun j hj => by rw [if_neg (by omega)])) hF
            · rw [g4] at q4 q5 ⊢
              obtain ⟨x, hx⟩ : ∃ n : Nat, c (i * 12 + p) = n := ⟨(c (i * 12 + p)).toNat, by omega⟩
              rw [hx]
              refine jw_aload_n (pc' := 61) jd_History_meetContents_60 rfl rfl rfl ?_
              refine jw_get (pc' := 64) (kf := 7) jc_History (by decide) jq_96 jd_History_meetContents_61 (mc_History _) rfl rfl ?_
              refine jw_iload (pc' := 66) jd_History_meetContents_64 rfl rfl ?_
              refine zx_iconst (pc' := 67) (n := 1) jd_History_meetContents_66 rfl ?_
              refine zx_iast (pc' := 68) jd_History_meetContents_67 (ml_History_metContents _) rfl (by omega) (Nat.le_of_ble_eq_true rfl) rfl ?_
              refine zx_iinc (pc' := 71) (lc' := [(0, _), (1, _), (2, _), (3, _)]) jd_History_meetContents_68 rfl (Nat.le_of_ble_eq_true rfl) ⟨rfl, rfl, rfl, rfl, trivial⟩ rfl ?_
              refine jw_goto (tgt := 18) jd_History_meetContents_71 (by decide) ?_
              refine jh (p + 1) _ (by omega) (next _ (fun j hj => ?_)) (hF.si (by omega))
              rw [iv_si (by omega)]
              by_cases ej : j = x
              · rw [if_pos ⟨rfl, ej⟩, if_pos (by omega)]
              · rw [if_neg (fun z => ej z.2), if_neg (by omega)]
          · rw [if_neg eb]
            refine zx_if_eq (tgt := 74) (pc' := 32) (by first | exact rg_iv _ _ _ | omega) jd_History_meetContents_29 (by decide) rfl (fun q3 => ?_) (fun q3 => ?_)
            rotate_left
            · exfalso; omega
            refine zx_iinc (pc' := 77) (lc' := [(0, _), (1, _), (2, _)]) jd_History_meetContents_74 rfl (Nat.le_of_ble_eq_true rfl) ⟨rfl, rfl, rfl, trivial⟩ rfl ?_
            refine jw_goto (tgt := 10) jd_History_meetContents_77 (by decide) ?_
            refine ih (i + 1) s (by omega) (fun j hj => ?_) hF
            have e : metQ c m (i + 1) 0 j ↔ metQ c m i p j := by
              constructor
              · rintro ⟨a, b, g3, g1, g2, g5⟩
                refine ⟨a, b, g3, Or.inl ?_, g2, g5⟩
                by_cases z : a = i
                · rw [z] at g2; exact absurd g2 eb
                · omega
              · rintro ⟨a, b, g3, g1, g2⟩
                exact ⟨a, b, g3, by omega, g2⟩
            rw [e]; exact hq j hj
      refine jw_iload_n (pc' := 11) jd_History_meetContents_10 rfl rfl rfl ?_
      refine zx_bipush (pc' := 13) (n := 30) jd_History_meetContents_11 (by decide +kernel) rfl ?_
      refine zx_icmp_ge (tgt := 80) (pc' := 16) (by first | exact rg_iv _ _ _ | omega) (by first | exact rg_iv _ _ _ | omega) jd_History_meetContents_13 (by decide) rfl (fun q => ?_) (fun q => ?_)
      · exfalso; omega
      refine zx_iconst (pc' := 17) (n := 0) jd_History_meetContents_16 rfl ?_
      refine jw_istore_n (pc' := 18) (lc' := [(0, _), (1, _), (2, _), (3, _)]) jd_History_meetContents_17 rfl (Nat.le_of_ble_eq_true rfl) ⟨rfl, rfl, rfl, rfl, trivial⟩ rfl ?_
      exact inner 12 0 s (by omega) hq hF
  refine loop 30 0 s0 (by omega) (fun j hj => Or.inr ⟨?_, f0 j hj⟩) F0
  rintro ⟨a, b, g3, g1, g2⟩
  omega
theorem h_conts (h : HC σ (zb o + 29) f g t c n kp) (m : Nat) (hm : m < 2 ^ 30) : zSpec mi_History_countContents 3 o [.ref (zb o + 29), .int (iI m)] σ (fun v s => v = some (.int (iI (sm (metI c m) 360))) ∧ zF σ s (zb o + 64) 1) := by
  refine z_spec (by decide +kernel) (Nat.le_of_ble_eq_true rfl) rfl (fun k hs hR hE => ?_)
  refine jw_aload_n (pc' := 1) jd_History_countContents_0 rfl rfl rfl ?_
  refine jw_iload_n (pc' := 2) jd_History_countContents_1 rfl rfl rfl ?_
  refine zx_callV (pc' := 5) hR (h_meet h m hm) jm_History_meetContents jq_712 jc_History jd_History_countContents_2 (mc_History _) rfl rfl (Nat.le_of_ble_eq_true rfl) (by omega) (by decide) rfl (fun v9 s q9 => ?_)
  obtain ⟨rfl, g1, F⟩ := q9
  refine zx_iconst (pc' := 6) (n := 0) jd_History_countContents_5 rfl ?_
  refine jw_istore_n (pc' := 7) (lc' := [(0, _), (2, _)]) jd_History_countContents_6 rfl (Nat.le_of_ble_eq_true rfl) ⟨rfl, rfl, trivial⟩ rfl ?_
  refine zx_iconst (pc' := 8) (n := 0) jd_History_countContents_7 rfl ?_
  refine jw_istore_n (pc' := 9) (lc' := [(0, _), (2, _), (3, _)]) jd_History_countContents_8 rfl (Nat.le_of_ble_eq_true rfl) ⟨rfl, rfl, rfl, trivial⟩ rfl ?_
  have loop : ∀ (d i : Nat), i + d = 360 → jw_X mi_History_countContents o k 0 0 9 [(0, .ref (zb o + 29)), (2, .int (iI (sm (metI c m) i))), (3, .int (iI i))] [] (mm o s) hs := by
    intro d
    induction d with
    | zero =>
      intro i hi
      refine jw_iload_n (pc' := 10) jd_History_countContents_9 rfl rfl rfl ?_
      refine jw_aload_n (pc' := 11) jd_History_countContents_10 rfl rfl rfl ?_
      refine jw_get (pc' := 14) (kf := 7) jc_History (by decide) jq_96 jd_History_countContents_11 (mc_History _) rfl rfl ?_
      refine zx_alen (pc' := 15) (i := 0) jd_History_countContents_14 (ml_History_metContents _) rfl rfl rfl ?_
      refine zx_icmp_ge (tgt := 33) (pc' := 18) (by first | exact rg_iv _ _ _ | omega) (by first | exact rg_iv _ _ _ | omega) jd_History_countContents_15 (by decide) rfl (fun q => ?_) (fun q => ?_)
      rotate_left
      · exfalso; omega
      refine jw_iload_n (pc' := 34) jd_History_countContents_33 rfl rfl rfl ?_
      refine zx_iret hE jd_History_countContents_34 rfl ?_
      rw [show i = 360 by omega]
      exact ⟨rfl, F⟩
    | succ d ih =>
      intro i hi
      have e := g1 i (by omega)
      have ih1 := ih (i + 1) (by omega)
      unfold sm at ih1
      refine jw_iload_n (pc' := 10) jd_History_countContents_9 rfl rfl rfl ?_
      refine jw_aload_n (pc' := 11) jd_History_countContents_10 rfl rfl rfl ?_
      refine jw_get (pc' := 14) (kf := 7) jc_History (by decide) jq_96 jd_History_countContents_11 (mc_History _) rfl rfl ?_
      refine zx_alen (pc' := 15) (i := 0) jd_History_countContents_14 (ml_History_metContents _) rfl rfl rfl ?_
      refine zx_icmp_ge (tgt := 33) (pc' := 18) (by first | exact rg_iv _ _ _ | omega) (by first | exact rg_iv _ _ _ | omega) jd_History_countContents_15 (by decide) rfl (fun q => ?_) (fun q => ?_)
      · exfalso; omega
      refine jw_iload_n (pc' := 19) jd_History_countContents_18 rfl rfl rfl ?_
      refine jw_aload_n (pc' := 20) jd_History_countContents_19 rfl rfl rfl ?_
      refine jw_get (pc' := 23) (kf := 7) jc_History (by decide) jq_96 jd_History_countContents_20 (mc_History _) rfl rfl ?_
      refine jw_iload_n (pc' := 24) jd_History_countContents_23 rfl rfl rfl ?_
      refine zx_iald (pc' := 25) jd_History_countContents_24 (ml_History_metContents _) rfl (by omega) (Nat.le_of_ble_eq_true rfl) rfl ?_
      refine zx_iadd (pc' := 26) jd_History_countContents_25 rfl ?_
      refine jw_istore_n (pc' := 27) (lc' := [(0, _), (2, _), (3, _)]) jd_History_countContents_26 rfl (Nat.le_of_ble_eq_true rfl) ⟨rfl, rfl, rfl, trivial⟩ rfl ?_
      refine zx_iinc (pc' := 30) (lc' := [(0, _), (2, _), (3, _)]) jd_History_countContents_27 rfl (Nat.le_of_ble_eq_true rfl) ⟨rfl, rfl, rfl, trivial⟩ rfl ?_
      refine jw_goto (tgt := 9) jd_History_countContents_30 (by decide) ?_
      rw [e]
      exact ih1
  exact loop 360 0 (by omega)
theorem HC.fr {s : zS} {h b m : Nat} (x : HC σ h f g t c n kp) (F : zF σ s b m) (hd : (b + m ≤ h ∨ h + 36 ≤ b) ∨ h + 35 ≤ b) : HC s h f g t c n kp := by
  obtain ⟨h1, h2, h3, h4, h5, h6, h7⟩ := x
  exact ⟨fun i hi => (iv_cell (F _ (by omega)) _).trans (h1 i hi), fun i hi => (iv_cell (F _ (by omega)) _).trans (h2 i hi), fun i hi => (iv_cell (F _ (by omega)) _).trans (h3 i hi), fun i hi => (iv_cell (F _ (by omega)) _).trans (h4 i hi), (iv_cell (F _ (by omega)) _).trans h5, (iv_cell (F _ (by omega)) _).trans h6, h7⟩
theorem h_objects (h : HC σ (zb o + 29) f g t c n kp) (m : Nat) (hm : m < 2 ^ 30) : zSpec mi_History_countObjects 4 o [.ref (zb o + 29), .int (iI m)] σ (fun v s => v = some (.int (iI (obF t c m))) ∧ zF σ s (zb o + 64) 1) := by
  refine z_spec (by decide +kernel) (Nat.le_of_ble_eq_true rfl) rfl (fun k hs hR hE => ?_)
  refine jw_iload_n (pc' := 1) jd_History_countObjects_0 rfl rfl rfl ?_
  refine zx_callS0 (pc' := 4) hR (h_bits m hm) jm_Integer_bitCount jq_698 jd_History_countObjects_1 rfl rfl (Nat.le_of_ble_eq_true rfl) (by omega) (by decide) rfl rfl ?_
  refine jw_aload_n (pc' := 5) jd_History_countObjects_4 rfl rfl rfl ?_
  refine jw_iload_n (pc' := 6) jd_History_countObjects_5 rfl rfl rfl ?_
  refine zx_callV0 (pc' := 9) hR (h_trees h m hm) jm_History_countTrees jq_704 jc_History jd_History_countObjects_6 (mc_History _) rfl rfl (Nat.le_of_ble_eq_true rfl) (by omega) (by decide) rfl rfl ?_
  refine zx_iadd (pc' := 10) jd_History_countObjects_9 rfl ?_
  refine jw_aload_n (pc' := 11) jd_History_countObjects_10 rfl rfl rfl ?_
  refine jw_iload_n (pc' := 12) jd_History_countObjects_11 rfl rfl rfl ?_
  refine zx_callV (pc' := 15) hR (h_conts h m hm) jm_History_countContents jq_708 jc_History jd_History_countObjects_12 (mc_History _) rfl rfl (Nat.le_of_ble_eq_true rfl) (by omega) (by decide) rfl (fun v9 s q9 => ?_)
  obtain ⟨rfl, F⟩ := q9
  refine zx_iadd (pc' := 16) jd_History_countObjects_15 rfl ?_
  refine zx_iret hE jd_History_countObjects_16 rfl ?_
  exact ⟨rfl, F⟩
theorem h_keepOnly (h : HC σ (zb o + 29) f g t c n kp) (m : Nat) (hm : m < 2 ^ 30) : zSpec mi_History_keepOnly 0 o [.ref (zb o + 29), .int (iI m)] σ (fun v s => v = none ∧ HC s (zb o + 29) f g t c n (kp &&& m) ∧ (∀ q, q ≠ zb o + 29 → s q = σ q)) := by
  obtain ⟨h1, h2, h3, h4, h5, h6, h7, h8⟩ := h
  have hlt : kp &&& m < 2 ^ 30 := Nat.and_lt_two_pow _ hm
  have e30 := p30
  refine z_spec (by decide +kernel) (Nat.le_of_ble_eq_true rfl) rfl (fun k hs hR hE => ?_)
  refine jw_aload_n (pc' := 1) jd_History_keepOnly_0 rfl rfl rfl ?_
  refine jw_dup (pc' := 2) jd_History_keepOnly_1 rfl rfl ?_
  refine zx_getI (pc' := 5) (kf := 9) jc_History (by decide) jq_98 jd_History_keepOnly_2 (mc_History _) rfl rfl ?_
  refine jw_sub (lc' := [(1, _)]) ⟨rfl, trivial⟩ ?_
  rw [h6]
  refine jw_iload_n (pc' := 6) jd_History_keepOnly_5 rfl rfl rfl ?_
  refine zx_iand (pc' := 7) jd_History_keepOnly_6 rfl ?_
  refine zx_putI (pc' := 10) (kf := 9) jc_History (by decide) jq_98 jd_History_keepOnly_7 rfl (by decide +kernel) (mc_History _) rfl rfl ?_
  refine zx_vret hE jd_History_keepOnly_10 rfl ?_
  refine ⟨rfl, ⟨fun i hi => ?_, fun i hi => ?_, fun i hi => ?_, fun i hi => ?_, ?_, ?_, h7, hlt⟩, fun q hq => si_ne hq⟩
  · rw [iv_cell (si_ne (by omega))]; exact h1 i hi
  · rw [iv_cell (si_ne (by omega))]; exact h2 i hi
  · rw [iv_cell (si_ne (by omega))]; exact h3 i hi
  · rw [iv_cell (si_ne (by omega))]; exact h4 i hi
  · rw [iv_si (by omega), if_neg (by omega)]; exact h5
  · rw [iv_si (by omega), if_pos ⟨rfl, rfl⟩]
end
end
