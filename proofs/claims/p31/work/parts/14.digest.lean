theorem jd_Branchwork_spotInParent_0 : decode mi_Branchwork_spotInParent.2.1 0 = .ok (.iload_n 1, 1) := by decide +kernel
theorem jd_Branchwork_spotInParent_1 : decode mi_Branchwork_spotInParent.2.1 1 = .ok (.iconst (-1), 1) := by decide +kernel
theorem jd_Branchwork_spotInParent_2 : decode mi_Branchwork_spotInParent.2.1 2 = .ok (.if_icmp .ne 5, 3) := by decide +kernel
theorem jd_Branchwork_spotInParent_5 : decode mi_Branchwork_spotInParent.2.1 5 = .ok (.iconst (-1), 1) := by decide +kernel
theorem jd_Branchwork_spotInParent_6 : decode mi_Branchwork_spotInParent.2.1 6 = .ok (.ireturn, 1) := by decide +kernel
theorem jd_Branchwork_spotInParent_7 : decode mi_Branchwork_spotInParent.2.1 7 = .ok (.aload_n 0, 1) := by decide +kernel
theorem jd_Branchwork_spotInParent_8 : decode mi_Branchwork_spotInParent.2.1 8 = .ok (.getfield 19, 3) := by decide +kernel
theorem jd_Branchwork_spotInParent_11 : decode mi_Branchwork_spotInParent.2.1 11 = .ok (.iload_n 1, 1) := by decide +kernel
theorem jd_Branchwork_spotInParent_12 : decode mi_Branchwork_spotInParent.2.1 12 = .ok (.invokevirtual 140, 3) := by decide +kernel
theorem jd_Branchwork_spotInParent_15 : decode mi_Branchwork_spotInParent.2.1 15 = .ok (.astore 4, 2) := by decide +kernel
theorem jd_Branchwork_spotInParent_17 : decode mi_Branchwork_spotInParent.2.1 17 = .ok (.aload_n 0, 1) := by decide +kernel
theorem jd_Branchwork_spotInParent_18 : decode mi_Branchwork_spotInParent.2.1 18 = .ok (.getfield 19, 3) := by decide +kernel
theorem jd_Branchwork_spotInParent_21 : decode mi_Branchwork_spotInParent.2.1 21 = .ok (.iload_n 2, 1) := by decide +kernel
theorem jd_Branchwork_spotInParent_22 : decode mi_Branchwork_spotInParent.2.1 22 = .ok (.invokevirtual 140, 3) := by decide +kernel
theorem jd_Branchwork_spotInParent_25 : decode mi_Branchwork_spotInParent.2.1 25 = .ok (.astore 5, 2) := by decide +kernel
theorem jd_Branchwork_spotInParent_27 : decode mi_Branchwork_spotInParent.2.1 27 = .ok (.iload_n 3, 1) := by decide +kernel
theorem jd_Branchwork_spotInParent_28 : decode mi_Branchwork_spotInParent.2.1 28 = .ok (.bipush 10, 2) := by decide +kernel
theorem jd_Branchwork_spotInParent_30 : decode mi_Branchwork_spotInParent.2.1 30 = .ok (.idiv, 1) := by decide +kernel
theorem jd_Branchwork_spotInParent_31 : decode mi_Branchwork_spotInParent.2.1 31 = .ok (.istore 6, 2) := by decide +kernel
theorem jd_Branchwork_spotInParent_33 : decode mi_Branchwork_spotInParent.2.1 33 = .ok (.iload 6, 2) := by decide +kernel
theorem jd_Branchwork_spotInParent_35 : decode mi_Branchwork_spotInParent.2.1 35 = .ok (.istore 7, 2) := by decide +kernel
theorem jd_Branchwork_spotInParent_37 : decode mi_Branchwork_spotInParent.2.1 37 = .ok (.aload 4, 2) := by decide +kernel
theorem jd_Branchwork_spotInParent_39 : decode mi_Branchwork_spotInParent.2.1 39 = .ok (.iload 6, 2) := by decide +kernel
theorem jd_Branchwork_spotInParent_41 : decode mi_Branchwork_spotInParent.2.1 41 = .ok (.invokevirtual 121, 3) := by decide +kernel
theorem jd_Branchwork_spotInParent_44 : decode mi_Branchwork_spotInParent.2.1 44 = .ok (.ifCond .ne 25, 3) := by decide +kernel
theorem jd_Branchwork_spotInParent_47 : decode mi_Branchwork_spotInParent.2.1 47 = .ok (.aload_n 0, 1) := by decide +kernel
theorem jd_Branchwork_spotInParent_48 : decode mi_Branchwork_spotInParent.2.1 48 = .ok (.getfield 40, 3) := by decide +kernel
theorem jd_Branchwork_spotInParent_51 : decode mi_Branchwork_spotInParent.2.1 51 = .ok (.aload 4, 2) := by decide +kernel
theorem jd_Branchwork_spotInParent_53 : decode mi_Branchwork_spotInParent.2.1 53 = .ok (.aload 5, 2) := by decide +kernel
theorem jd_Branchwork_spotInParent_55 : decode mi_Branchwork_spotInParent.2.1 55 = .ok (.invokevirtual 273, 3) := by decide +kernel
theorem jd_Branchwork_spotInParent_58 : decode mi_Branchwork_spotInParent.2.1 58 = .ok (.aload_n 0, 1) := by decide +kernel
theorem jd_Branchwork_spotInParent_59 : decode mi_Branchwork_spotInParent.2.1 59 = .ok (.getfield 40, 3) := by decide +kernel
theorem jd_Branchwork_spotInParent_62 : decode mi_Branchwork_spotInParent.2.1 62 = .ok (.iload 6, 2) := by decide +kernel
theorem jd_Branchwork_spotInParent_64 : decode mi_Branchwork_spotInParent.2.1 64 = .ok (.invokevirtual 343, 3) := by decide +kernel
theorem jd_Branchwork_spotInParent_67 : decode mi_Branchwork_spotInParent.2.1 67 = .ok (.istore 7, 2) := by decide +kernel
theorem jd_Branchwork_spotInParent_69 : decode mi_Branchwork_spotInParent.2.1 69 = .ok (.iload 7, 2) := by decide +kernel
theorem jd_Branchwork_spotInParent_71 : decode mi_Branchwork_spotInParent.2.1 71 = .ok (.iconst (-1), 1) := by decide +kernel
theorem jd_Branchwork_spotInParent_72 : decode mi_Branchwork_spotInParent.2.1 72 = .ok (.if_icmp .ne 5, 3) := by decide +kernel
theorem jd_Branchwork_spotInParent_75 : decode mi_Branchwork_spotInParent.2.1 75 = .ok (.iconst (-1), 1) := by decide +kernel
theorem jd_Branchwork_spotInParent_76 : decode mi_Branchwork_spotInParent.2.1 76 = .ok (.ireturn, 1) := by decide +kernel
theorem jd_Branchwork_spotInParent_77 : decode mi_Branchwork_spotInParent.2.1 77 = .ok (.aload_n 0, 1) := by decide +kernel
theorem jd_Branchwork_spotInParent_78 : decode mi_Branchwork_spotInParent.2.1 78 = .ok (.getfield 47, 3) := by decide +kernel
theorem jd_Branchwork_spotInParent_81 : decode mi_Branchwork_spotInParent.2.1 81 = .ok (.aload 4, 2) := by decide +kernel
theorem jd_Branchwork_spotInParent_83 : decode mi_Branchwork_spotInParent.2.1 83 = .ok (.iload 7, 2) := by decide +kernel
theorem jd_Branchwork_spotInParent_85 : decode mi_Branchwork_spotInParent.2.1 85 = .ok (.invokevirtual 75, 3) := by decide +kernel
theorem jd_Branchwork_spotInParent_88 : decode mi_Branchwork_spotInParent.2.1 88 = .ok (.aload 5, 2) := by decide +kernel
theorem jd_Branchwork_spotInParent_90 : decode mi_Branchwork_spotInParent.2.1 90 = .ok (.iload 6, 2) := by decide +kernel
theorem jd_Branchwork_spotInParent_92 : decode mi_Branchwork_spotInParent.2.1 92 = .ok (.invokevirtual 75, 3) := by decide +kernel
theorem jd_Branchwork_spotInParent_95 : decode mi_Branchwork_spotInParent.2.1 95 = .ok (.invokevirtual 346, 3) := by decide +kernel
theorem jd_Branchwork_spotInParent_98 : decode mi_Branchwork_spotInParent.2.1 98 = .ok (.aload_n 0, 1) := by decide +kernel
theorem jd_Branchwork_spotInParent_99 : decode mi_Branchwork_spotInParent.2.1 99 = .ok (.getfield 47, 3) := by decide +kernel
theorem jd_Branchwork_spotInParent_102 : decode mi_Branchwork_spotInParent.2.1 102 = .ok (.iload_n 3, 1) := by decide +kernel
theorem jd_Branchwork_spotInParent_103 : decode mi_Branchwork_spotInParent.2.1 103 = .ok (.bipush 10, 2) := by decide +kernel
theorem jd_Branchwork_spotInParent_105 : decode mi_Branchwork_spotInParent.2.1 105 = .ok (.irem, 1) := by decide +kernel
theorem jd_Branchwork_spotInParent_106 : decode mi_Branchwork_spotInParent.2.1 106 = .ok (.invokevirtual 350, 3) := by decide +kernel
theorem jd_Branchwork_spotInParent_109 : decode mi_Branchwork_spotInParent.2.1 109 = .ok (.istore 8, 2) := by decide +kernel
theorem jd_Branchwork_spotInParent_111 : decode mi_Branchwork_spotInParent.2.1 111 = .ok (.iload 8, 2) := by decide +kernel
theorem jd_Branchwork_spotInParent_113 : decode mi_Branchwork_spotInParent.2.1 113 = .ok (.iconst (-1), 1) := by decide +kernel
theorem jd_Branchwork_spotInParent_114 : decode mi_Branchwork_spotInParent.2.1 114 = .ok (.if_icmp .ne 7, 3) := by decide +kernel
theorem jd_Branchwork_spotInParent_117 : decode mi_Branchwork_spotInParent.2.1 117 = .ok (.iconst (-1), 1) := by decide +kernel
theorem jd_Branchwork_spotInParent_118 : decode mi_Branchwork_spotInParent.2.1 118 = .ok (.goto 11, 3) := by decide +kernel
theorem jd_Branchwork_spotInParent_121 : decode mi_Branchwork_spotInParent.2.1 121 = .ok (.iload 7, 2) := by decide +kernel
theorem jd_Branchwork_spotInParent_123 : decode mi_Branchwork_spotInParent.2.1 123 = .ok (.bipush 10, 2) := by decide +kernel
theorem jd_Branchwork_spotInParent_125 : decode mi_Branchwork_spotInParent.2.1 125 = .ok (.imul, 1) := by decide +kernel
theorem jd_Branchwork_spotInParent_126 : decode mi_Branchwork_spotInParent.2.1 126 = .ok (.iload 8, 2) := by decide +kernel
theorem jd_Branchwork_spotInParent_128 : decode mi_Branchwork_spotInParent.2.1 128 = .ok (.iadd, 1) := by decide +kernel
theorem jd_Branchwork_spotInParent_129 : decode mi_Branchwork_spotInParent.2.1 129 = .ok (.ireturn, 1) := by decide +kernel
theorem jd_Branchwork_origin_0 : decode mi_Branchwork_origin.2.1 0 = .ok (.aload_n 0, 1) := by decide +kernel
theorem jd_Branchwork_origin_1 : decode mi_Branchwork_origin.2.1 1 = .ok (.iload_n 1, 1) := by decide +kernel
theorem jd_Branchwork_origin_2 : decode mi_Branchwork_origin.2.1 2 = .ok (.invokevirtual 180, 3) := by decide +kernel
theorem jd_Branchwork_origin_5 : decode mi_Branchwork_origin.2.1 5 = .ok (.aload_n 0, 1) := by decide +kernel
theorem jd_Branchwork_origin_6 : decode mi_Branchwork_origin.2.1 6 = .ok (.getfield 19, 3) := by decide +kernel
theorem jd_Branchwork_origin_9 : decode mi_Branchwork_origin.2.1 9 = .ok (.iload_n 1, 1) := by decide +kernel
theorem jd_Branchwork_origin_10 : decode mi_Branchwork_origin.2.1 10 = .ok (.invokevirtual 140, 3) := by decide +kernel
theorem jd_Branchwork_origin_13 : decode mi_Branchwork_origin.2.1 13 = .ok (.iload_n 2, 1) := by decide +kernel
theorem jd_Branchwork_origin_14 : decode mi_Branchwork_origin.2.1 14 = .ok (.invokestatic 110, 3) := by decide +kernel
theorem jd_Branchwork_origin_17 : decode mi_Branchwork_origin.2.1 17 = .ok (.aload_n 0, 1) := by decide +kernel
theorem jd_Branchwork_origin_18 : decode mi_Branchwork_origin.2.1 18 = .ok (.getfield 19, 3) := by decide +kernel
theorem jd_Branchwork_origin_21 : decode mi_Branchwork_origin.2.1 21 = .ok (.iload_n 1, 1) := by decide +kernel
theorem jd_Branchwork_origin_22 : decode mi_Branchwork_origin.2.1 22 = .ok (.invokevirtual 140, 3) := by decide +kernel
theorem jd_Branchwork_origin_25 : decode mi_Branchwork_origin.2.1 25 = .ok (.iload_n 2, 1) := by decide +kernel
theorem jd_Branchwork_origin_26 : decode mi_Branchwork_origin.2.1 26 = .ok (.invokevirtual 75, 3) := by decide +kernel
theorem jd_Branchwork_origin_29 : decode mi_Branchwork_origin.2.1 29 = .ok (.iload_n 3, 1) := by decide +kernel
theorem jd_Branchwork_origin_30 : decode mi_Branchwork_origin.2.1 30 = .ok (.invokestatic 114, 3) := by decide +kernel
theorem jd_Branchwork_origin_33 : decode mi_Branchwork_origin.2.1 33 = .ok (.iload_n 1, 1) := by decide +kernel
theorem jd_Branchwork_origin_34 : decode mi_Branchwork_origin.2.1 34 = .ok (.istore 4, 2) := by decide +kernel
theorem jd_Branchwork_origin_36 : decode mi_Branchwork_origin.2.1 36 = .ok (.iload_n 2, 1) := by decide +kernel
theorem jd_Branchwork_origin_37 : decode mi_Branchwork_origin.2.1 37 = .ok (.bipush 10, 2) := by decide +kernel
theorem jd_Branchwork_origin_39 : decode mi_Branchwork_origin.2.1 39 = .ok (.imul, 1) := by decide +kernel
theorem jd_Branchwork_origin_40 : decode mi_Branchwork_origin.2.1 40 = .ok (.iload_n 3, 1) := by decide +kernel
theorem jd_Branchwork_origin_41 : decode mi_Branchwork_origin.2.1 41 = .ok (.iadd, 1) := by decide +kernel
theorem jd_Branchwork_origin_42 : decode mi_Branchwork_origin.2.1 42 = .ok (.istore 5, 2) := by decide +kernel
theorem jd_Branchwork_origin_44 : decode mi_Branchwork_origin.2.1 44 = .ok (.iconst 0, 1) := by decide +kernel
theorem jd_Branchwork_origin_45 : decode mi_Branchwork_origin.2.1 45 = .ok (.istore 6, 2) := by decide +kernel
theorem jd_Branchwork_origin_47 : decode mi_Branchwork_origin.2.1 47 = .ok (.iload 6, 2) := by decide +kernel
theorem jd_Branchwork_origin_49 : decode mi_Branchwork_origin.2.1 49 = .ok (.bipush 30, 2) := by decide +kernel
theorem jd_Branchwork_origin_51 : decode mi_Branchwork_origin.2.1 51 = .ok (.if_icmp .ge 78, 3) := by decide +kernel
theorem jd_Branchwork_origin_54 : decode mi_Branchwork_origin.2.1 54 = .ok (.aload_n 0, 1) := by decide +kernel
theorem jd_Branchwork_origin_55 : decode mi_Branchwork_origin.2.1 55 = .ok (.getfield 19, 3) := by decide +kernel
theorem jd_Branchwork_origin_58 : decode mi_Branchwork_origin.2.1 58 = .ok (.iload 4, 2) := by decide +kernel
theorem jd_Branchwork_origin_60 : decode mi_Branchwork_origin.2.1 60 = .ok (.invokevirtual 239, 3) := by decide +kernel
theorem jd_Branchwork_origin_63 : decode mi_Branchwork_origin.2.1 63 = .ok (.istore 7, 2) := by decide +kernel
theorem jd_Branchwork_origin_65 : decode mi_Branchwork_origin.2.1 65 = .ok (.aload_n 0, 1) := by decide +kernel
theorem jd_Branchwork_origin_66 : decode mi_Branchwork_origin.2.1 66 = .ok (.iload 7, 2) := by decide +kernel
theorem jd_Branchwork_origin_68 : decode mi_Branchwork_origin.2.1 68 = .ok (.iload 4, 2) := by decide +kernel
theorem jd_Branchwork_origin_70 : decode mi_Branchwork_origin.2.1 70 = .ok (.iload 5, 2) := by decide +kernel
theorem jd_Branchwork_origin_72 : decode mi_Branchwork_origin.2.1 72 = .ok (.invokevirtual 291, 3) := by decide +kernel
theorem jd_Branchwork_origin_75 : decode mi_Branchwork_origin.2.1 75 = .ok (.istore 8, 2) := by decide +kernel
theorem jd_Branchwork_origin_77 : decode mi_Branchwork_origin.2.1 77 = .ok (.iload 8, 2) := by decide +kernel
theorem jd_Branchwork_origin_79 : decode mi_Branchwork_origin.2.1 79 = .ok (.iconst (-1), 1) := by decide +kernel
theorem jd_Branchwork_origin_80 : decode mi_Branchwork_origin.2.1 80 = .ok (.if_icmp .ne 26, 3) := by decide +kernel
theorem jd_Branchwork_origin_83 : decode mi_Branchwork_origin.2.1 83 = .ok (.aload_n 0, 1) := by decide +kernel
theorem jd_Branchwork_origin_84 : decode mi_Branchwork_origin.2.1 84 = .ok (.getfield 19, 3) := by decide +kernel
theorem jd_Branchwork_origin_87 : decode mi_Branchwork_origin.2.1 87 = .ok (.iload 4, 2) := by decide +kernel
theorem jd_Branchwork_origin_89 : decode mi_Branchwork_origin.2.1 89 = .ok (.invokevirtual 242, 3) := by decide +kernel
theorem jd_Branchwork_origin_92 : decode mi_Branchwork_origin.2.1 92 = .ok (.istore 7, 2) := by decide +kernel
theorem jd_Branchwork_origin_94 : decode mi_Branchwork_origin.2.1 94 = .ok (.aload_n 0, 1) := by decide +kernel
theorem jd_Branchwork_origin_95 : decode mi_Branchwork_origin.2.1 95 = .ok (.iload 7, 2) := by decide +kernel
theorem jd_Branchwork_origin_97 : decode mi_Branchwork_origin.2.1 97 = .ok (.iload 4, 2) := by decide +kernel
theorem jd_Branchwork_origin_99 : decode mi_Branchwork_origin.2.1 99 = .ok (.iload 5, 2) := by decide +kernel
theorem jd_Branchwork_origin_101 : decode mi_Branchwork_origin.2.1 101 = .ok (.invokevirtual 291, 3) := by decide +kernel
theorem jd_Branchwork_origin_104 : decode mi_Branchwork_origin.2.1 104 = .ok (.istore 8, 2) := by decide +kernel
theorem jd_Branchwork_origin_106 : decode mi_Branchwork_origin.2.1 106 = .ok (.iload 8, 2) := by decide +kernel
theorem jd_Branchwork_origin_108 : decode mi_Branchwork_origin.2.1 108 = .ok (.iconst (-1), 1) := by decide +kernel
theorem jd_Branchwork_origin_109 : decode mi_Branchwork_origin.2.1 109 = .ok (.if_icmp .ne 6, 3) := by decide +kernel
theorem jd_Branchwork_origin_112 : decode mi_Branchwork_origin.2.1 112 = .ok (.iload 4, 2) := by decide +kernel
theorem jd_Branchwork_origin_114 : decode mi_Branchwork_origin.2.1 114 = .ok (.ireturn, 1) := by decide +kernel
theorem jd_Branchwork_origin_115 : decode mi_Branchwork_origin.2.1 115 = .ok (.iload 7, 2) := by decide +kernel
theorem jd_Branchwork_origin_117 : decode mi_Branchwork_origin.2.1 117 = .ok (.istore 4, 2) := by decide +kernel
theorem jd_Branchwork_origin_119 : decode mi_Branchwork_origin.2.1 119 = .ok (.iload 8, 2) := by decide +kernel
theorem jd_Branchwork_origin_121 : decode mi_Branchwork_origin.2.1 121 = .ok (.istore 5, 2) := by decide +kernel
theorem jd_Branchwork_origin_123 : decode mi_Branchwork_origin.2.1 123 = .ok (.iinc 6 1, 3) := by decide +kernel
theorem jd_Branchwork_origin_126 : decode mi_Branchwork_origin.2.1 126 = .ok (.goto (-79), 3) := by decide +kernel
theorem jd_Branchwork_origin_129 : decode mi_Branchwork_origin.2.1 129 = .ok (.iload 4, 2) := by decide +kernel
theorem jd_Branchwork_origin_131 : decode mi_Branchwork_origin.2.1 131 = .ok (.ireturn, 1) := by decide +kernel
theorem jd_Branchwork_fold_0 : decode mi_Branchwork_fold.2.1 0 = .ok (.lload_n 0, 1) := by decide +kernel
theorem jd_Branchwork_fold_1 : decode mi_Branchwork_fold.2.1 1 = .ok (.ldc2_w 329, 3) := by decide +kernel
theorem jd_Branchwork_fold_4 : decode mi_Branchwork_fold.2.1 4 = .ok (.lmul, 1) := by decide +kernel
theorem jd_Branchwork_fold_5 : decode mi_Branchwork_fold.2.1 5 = .ok (.iload_n 2, 1) := by decide +kernel
theorem jd_Branchwork_fold_6 : decode mi_Branchwork_fold.2.1 6 = .ok (.i2l, 1) := by decide +kernel
theorem jd_Branchwork_fold_7 : decode mi_Branchwork_fold.2.1 7 = .ok (.ladd, 1) := by decide +kernel
theorem jd_Branchwork_fold_8 : decode mi_Branchwork_fold.2.1 8 = .ok (.lreturn, 1) := by decide +kernel
theorem jd_Branchwork_foldTree_0 : decode mi_Branchwork_foldTree.2.1 0 = .ok (.lload_n 0, 1) := by decide +kernel
theorem jd_Branchwork_foldTree_1 : decode mi_Branchwork_foldTree.2.1 1 = .ok (.lstore_n 3, 1) := by decide +kernel
theorem jd_Branchwork_foldTree_2 : decode mi_Branchwork_foldTree.2.1 2 = .ok (.iconst 0, 1) := by decide +kernel
theorem jd_Branchwork_foldTree_3 : decode mi_Branchwork_foldTree.2.1 3 = .ok (.istore 5, 2) := by decide +kernel
theorem jd_Branchwork_foldTree_5 : decode mi_Branchwork_foldTree.2.1 5 = .ok (.iload 5, 2) := by decide +kernel
theorem jd_Branchwork_foldTree_7 : decode mi_Branchwork_foldTree.2.1 7 = .ok (.bipush 12, 2) := by decide +kernel
theorem jd_Branchwork_foldTree_9 : decode mi_Branchwork_foldTree.2.1 9 = .ok (.if_icmp .ge 70, 3) := by decide +kernel
theorem jd_Branchwork_foldTree_12 : decode mi_Branchwork_foldTree.2.1 12 = .ok (.aload_n 2, 1) := by decide +kernel
theorem jd_Branchwork_foldTree_13 : decode mi_Branchwork_foldTree.2.1 13 = .ok (.iload 5, 2) := by decide +kernel
theorem jd_Branchwork_foldTree_15 : decode mi_Branchwork_foldTree.2.1 15 = .ok (.invokevirtual 75, 3) := by decide +kernel
theorem jd_Branchwork_foldTree_18 : decode mi_Branchwork_foldTree.2.1 18 = .ok (.astore 6, 2) := by decide +kernel
theorem jd_Branchwork_foldTree_20 : decode mi_Branchwork_foldTree.2.1 20 = .ok (.lload_n 3, 1) := by decide +kernel
theorem jd_Branchwork_foldTree_21 : decode mi_Branchwork_foldTree.2.1 21 = .ok (.aload 6, 2) := by decide +kernel
theorem jd_Branchwork_foldTree_23 : decode mi_Branchwork_foldTree.2.1 23 = .ok (.invokevirtual 259, 3) := by decide +kernel
theorem jd_Branchwork_foldTree_26 : decode mi_Branchwork_foldTree.2.1 26 = .ok (.ifCond .eq 11, 3) := by decide +kernel
theorem jd_Branchwork_foldTree_29 : decode mi_Branchwork_foldTree.2.1 29 = .ok (.aload 6, 2) := by decide +kernel
theorem jd_Branchwork_foldTree_31 : decode mi_Branchwork_foldTree.2.1 31 = .ok (.invokevirtual 79, 3) := by decide +kernel
theorem jd_Branchwork_foldTree_34 : decode mi_Branchwork_foldTree.2.1 34 = .ok (.goto 4, 3) := by decide +kernel
theorem jd_Branchwork_foldTree_37 : decode mi_Branchwork_foldTree.2.1 37 = .ok (.iconst (-1), 1) := by decide +kernel
theorem jd_Branchwork_foldTree_38 : decode mi_Branchwork_foldTree.2.1 38 = .ok (.invokestatic 306, 3) := by decide +kernel
theorem jd_Branchwork_foldTree_41 : decode mi_Branchwork_foldTree.2.1 41 = .ok (.lstore_n 3, 1) := by decide +kernel
theorem jd_Branchwork_foldTree_42 : decode mi_Branchwork_foldTree.2.1 42 = .ok (.iconst 0, 1) := by decide +kernel
theorem jd_Branchwork_foldTree_43 : decode mi_Branchwork_foldTree.2.1 43 = .ok (.istore 7, 2) := by decide +kernel
theorem jd_Branchwork_foldTree_45 : decode mi_Branchwork_foldTree.2.1 45 = .ok (.iload 7, 2) := by decide +kernel
theorem jd_Branchwork_foldTree_47 : decode mi_Branchwork_foldTree.2.1 47 = .ok (.aload 6, 2) := by decide +kernel
theorem jd_Branchwork_foldTree_49 : decode mi_Branchwork_foldTree.2.1 49 = .ok (.invokevirtual 79, 3) := by decide +kernel
theorem jd_Branchwork_foldTree_52 : decode mi_Branchwork_foldTree.2.1 52 = .ok (.if_icmp .ge 21, 3) := by decide +kernel
theorem jd_Branchwork_foldTree_55 : decode mi_Branchwork_foldTree.2.1 55 = .ok (.lload_n 3, 1) := by decide +kernel
theorem jd_Branchwork_foldTree_56 : decode mi_Branchwork_foldTree.2.1 56 = .ok (.aload 6, 2) := by decide +kernel
theorem jd_Branchwork_foldTree_58 : decode mi_Branchwork_foldTree.2.1 58 = .ok (.iload 7, 2) := by decide +kernel
theorem jd_Branchwork_foldTree_60 : decode mi_Branchwork_foldTree.2.1 60 = .ok (.invokevirtual 262, 3) := by decide +kernel
theorem jd_Branchwork_foldTree_63 : decode mi_Branchwork_foldTree.2.1 63 = .ok (.invokestatic 306, 3) := by decide +kernel
theorem jd_Branchwork_foldTree_66 : decode mi_Branchwork_foldTree.2.1 66 = .ok (.lstore_n 3, 1) := by decide +kernel
theorem jd_Branchwork_foldTree_67 : decode mi_Branchwork_foldTree.2.1 67 = .ok (.iinc 7 1, 3) := by decide +kernel
theorem jd_Branchwork_foldTree_70 : decode mi_Branchwork_foldTree.2.1 70 = .ok (.goto (-25), 3) := by decide +kernel
theorem jd_Branchwork_foldTree_73 : decode mi_Branchwork_foldTree.2.1 73 = .ok (.iinc 5 1, 3) := by decide +kernel
theorem jd_Branchwork_foldTree_76 : decode mi_Branchwork_foldTree.2.1 76 = .ok (.goto (-71), 3) := by decide +kernel
theorem jd_Branchwork_foldTree_79 : decode mi_Branchwork_foldTree.2.1 79 = .ok (.lload_n 3, 1) := by decide +kernel
theorem jd_Branchwork_foldTree_80 : decode mi_Branchwork_foldTree.2.1 80 = .ok (.lreturn, 1) := by decide +kernel
theorem jd_Branchwork_foldCommit_0 : decode mi_Branchwork_foldCommit.2.1 0 = .ok (.lload_n 1, 1) := by decide +kernel
theorem jd_Branchwork_foldCommit_1 : decode mi_Branchwork_foldCommit.2.1 1 = .ok (.iload_n 3, 1) := by decide +kernel
theorem jd_Branchwork_foldCommit_2 : decode mi_Branchwork_foldCommit.2.1 2 = .ok (.invokestatic 306, 3) := by decide +kernel
theorem jd_Branchwork_foldCommit_5 : decode mi_Branchwork_foldCommit.2.1 5 = .ok (.lstore 4, 2) := by decide +kernel
theorem jd_Branchwork_foldCommit_7 : decode mi_Branchwork_foldCommit.2.1 7 = .ok (.iconst 0, 1) := by decide +kernel
theorem jd_Branchwork_foldCommit_8 : decode mi_Branchwork_foldCommit.2.1 8 = .ok (.istore 6, 2) := by decide +kernel
theorem jd_Branchwork_foldCommit_10 : decode mi_Branchwork_foldCommit.2.1 10 = .ok (.iload 6, 2) := by decide +kernel
theorem jd_Branchwork_foldCommit_12 : decode mi_Branchwork_foldCommit.2.1 12 = .ok (.iconst 5, 1) := by decide +kernel
theorem jd_Branchwork_foldCommit_13 : decode mi_Branchwork_foldCommit.2.1 13 = .ok (.if_icmp .gt 23, 3) := by decide +kernel
theorem jd_Branchwork_foldCommit_16 : decode mi_Branchwork_foldCommit.2.1 16 = .ok (.lload 4, 2) := by decide +kernel
theorem jd_Branchwork_foldCommit_18 : decode mi_Branchwork_foldCommit.2.1 18 = .ok (.aload_n 0, 1) := by decide +kernel
theorem jd_Branchwork_foldCommit_19 : decode mi_Branchwork_foldCommit.2.1 19 = .ok (.iload_n 3, 1) := by decide +kernel
theorem jd_Branchwork_foldCommit_20 : decode mi_Branchwork_foldCommit.2.1 20 = .ok (.iload 6, 2) := by decide +kernel
theorem jd_Branchwork_foldCommit_22 : decode mi_Branchwork_foldCommit.2.1 22 = .ok (.invokevirtual 331, 3) := by decide +kernel
theorem jd_Branchwork_foldCommit_25 : decode mi_Branchwork_foldCommit.2.1 25 = .ok (.invokestatic 306, 3) := by decide +kernel
theorem jd_Branchwork_foldCommit_28 : decode mi_Branchwork_foldCommit.2.1 28 = .ok (.lstore 4, 2) := by decide +kernel
theorem jd_Branchwork_foldCommit_30 : decode mi_Branchwork_foldCommit.2.1 30 = .ok (.iinc 6 1, 3) := by decide +kernel
theorem jd_Branchwork_foldCommit_33 : decode mi_Branchwork_foldCommit.2.1 33 = .ok (.goto (-23), 3) := by decide +kernel
theorem jd_Branchwork_foldCommit_36 : decode mi_Branchwork_foldCommit.2.1 36 = .ok (.lload 4, 2) := by decide +kernel
theorem jd_Branchwork_foldCommit_38 : decode mi_Branchwork_foldCommit.2.1 38 = .ok (.aload_n 0, 1) := by decide +kernel
theorem jd_Branchwork_foldCommit_39 : decode mi_Branchwork_foldCommit.2.1 39 = .ok (.getfield 19, 3) := by decide +kernel
theorem jd_Branchwork_foldCommit_42 : decode mi_Branchwork_foldCommit.2.1 42 = .ok (.iload_n 3, 1) := by decide +kernel
theorem jd_Branchwork_foldCommit_43 : decode mi_Branchwork_foldCommit.2.1 43 = .ok (.invokevirtual 140, 3) := by decide +kernel
theorem jd_Branchwork_foldCommit_46 : decode mi_Branchwork_foldCommit.2.1 46 = .ok (.invokestatic 319, 3) := by decide +kernel
theorem jd_Branchwork_foldCommit_49 : decode mi_Branchwork_foldCommit.2.1 49 = .ok (.lreturn, 1) := by decide +kernel
theorem jd_Branchwork_digest_0 : decode mi_Branchwork_digest.2.1 0 = .ok (.ldc2_w 301, 3) := by decide +kernel
theorem jd_Branchwork_digest_3 : decode mi_Branchwork_digest.2.1 3 = .ok (.lstore_n 1, 1) := by decide +kernel
theorem jd_Branchwork_digest_4 : decode mi_Branchwork_digest.2.1 4 = .ok (.iconst 0, 1) := by decide +kernel
theorem jd_Branchwork_digest_5 : decode mi_Branchwork_digest.2.1 5 = .ok (.istore_n 3, 1) := by decide +kernel
theorem jd_Branchwork_digest_6 : decode mi_Branchwork_digest.2.1 6 = .ok (.iload_n 3, 1) := by decide +kernel
theorem jd_Branchwork_digest_7 : decode mi_Branchwork_digest.2.1 7 = .ok (.iconst 5, 1) := by decide +kernel
theorem jd_Branchwork_digest_8 : decode mi_Branchwork_digest.2.1 8 = .ok (.if_icmp .gt 19, 3) := by decide +kernel
theorem jd_Branchwork_digest_11 : decode mi_Branchwork_digest.2.1 11 = .ok (.lload_n 1, 1) := by decide +kernel
theorem jd_Branchwork_digest_12 : decode mi_Branchwork_digest.2.1 12 = .ok (.aload_n 0, 1) := by decide +kernel
theorem jd_Branchwork_digest_13 : decode mi_Branchwork_digest.2.1 13 = .ok (.iload_n 3, 1) := by decide +kernel
theorem jd_Branchwork_digest_14 : decode mi_Branchwork_digest.2.1 14 = .ok (.invokevirtual 303, 3) := by decide +kernel
theorem jd_Branchwork_digest_17 : decode mi_Branchwork_digest.2.1 17 = .ok (.invokestatic 306, 3) := by decide +kernel
theorem jd_Branchwork_digest_20 : decode mi_Branchwork_digest.2.1 20 = .ok (.lstore_n 1, 1) := by decide +kernel
theorem jd_Branchwork_digest_21 : decode mi_Branchwork_digest.2.1 21 = .ok (.iinc 3 1, 3) := by decide +kernel
theorem jd_Branchwork_digest_24 : decode mi_Branchwork_digest.2.1 24 = .ok (.goto (-18), 3) := by decide +kernel
theorem jd_Branchwork_digest_27 : decode mi_Branchwork_digest.2.1 27 = .ok (.iconst 0, 1) := by decide +kernel
theorem jd_Branchwork_digest_28 : decode mi_Branchwork_digest.2.1 28 = .ok (.istore_n 3, 1) := by decide +kernel
theorem jd_Branchwork_digest_29 : decode mi_Branchwork_digest.2.1 29 = .ok (.iload_n 3, 1) := by decide +kernel
theorem jd_Branchwork_digest_30 : decode mi_Branchwork_digest.2.1 30 = .ok (.iconst 2, 1) := by decide +kernel
theorem jd_Branchwork_digest_31 : decode mi_Branchwork_digest.2.1 31 = .ok (.if_icmp .gt 19, 3) := by decide +kernel
theorem jd_Branchwork_digest_34 : decode mi_Branchwork_digest.2.1 34 = .ok (.lload_n 1, 1) := by decide +kernel
theorem jd_Branchwork_digest_35 : decode mi_Branchwork_digest.2.1 35 = .ok (.aload_n 0, 1) := by decide +kernel
theorem jd_Branchwork_digest_36 : decode mi_Branchwork_digest.2.1 36 = .ok (.iload_n 3, 1) := by decide +kernel
theorem jd_Branchwork_digest_37 : decode mi_Branchwork_digest.2.1 37 = .ok (.invokevirtual 310, 3) := by decide +kernel
theorem jd_Branchwork_digest_40 : decode mi_Branchwork_digest.2.1 40 = .ok (.invokestatic 306, 3) := by decide +kernel
theorem jd_Branchwork_digest_43 : decode mi_Branchwork_digest.2.1 43 = .ok (.lstore_n 1, 1) := by decide +kernel
theorem jd_Branchwork_digest_44 : decode mi_Branchwork_digest.2.1 44 = .ok (.iinc 3 1, 3) := by decide +kernel
theorem jd_Branchwork_digest_47 : decode mi_Branchwork_digest.2.1 47 = .ok (.goto (-18), 3) := by decide +kernel
theorem jd_Branchwork_digest_50 : decode mi_Branchwork_digest.2.1 50 = .ok (.iconst 0, 1) := by decide +kernel
theorem jd_Branchwork_digest_51 : decode mi_Branchwork_digest.2.1 51 = .ok (.istore_n 3, 1) := by decide +kernel
theorem jd_Branchwork_digest_52 : decode mi_Branchwork_digest.2.1 52 = .ok (.iload_n 3, 1) := by decide +kernel
theorem jd_Branchwork_digest_53 : decode mi_Branchwork_digest.2.1 53 = .ok (.aload_n 0, 1) := by decide +kernel
theorem jd_Branchwork_digest_54 : decode mi_Branchwork_digest.2.1 54 = .ok (.getfield 55, 3) := by decide +kernel
theorem jd_Branchwork_digest_57 : decode mi_Branchwork_digest.2.1 57 = .ok (.if_icmp .ge 19, 3) := by decide +kernel
theorem jd_Branchwork_digest_60 : decode mi_Branchwork_digest.2.1 60 = .ok (.lload_n 1, 1) := by decide +kernel
theorem jd_Branchwork_digest_61 : decode mi_Branchwork_digest.2.1 61 = .ok (.aload_n 0, 1) := by decide +kernel
theorem jd_Branchwork_digest_62 : decode mi_Branchwork_digest.2.1 62 = .ok (.iload_n 3, 1) := by decide +kernel
theorem jd_Branchwork_digest_63 : decode mi_Branchwork_digest.2.1 63 = .ok (.invokevirtual 313, 3) := by decide +kernel
theorem jd_Branchwork_digest_66 : decode mi_Branchwork_digest.2.1 66 = .ok (.invokestatic 306, 3) := by decide +kernel
theorem jd_Branchwork_digest_69 : decode mi_Branchwork_digest.2.1 69 = .ok (.lstore_n 1, 1) := by decide +kernel
theorem jd_Branchwork_digest_70 : decode mi_Branchwork_digest.2.1 70 = .ok (.iinc 3 1, 3) := by decide +kernel
theorem jd_Branchwork_digest_73 : decode mi_Branchwork_digest.2.1 73 = .ok (.goto (-21), 3) := by decide +kernel
theorem jd_Branchwork_digest_76 : decode mi_Branchwork_digest.2.1 76 = .ok (.iconst 0, 1) := by decide +kernel
theorem jd_Branchwork_digest_77 : decode mi_Branchwork_digest.2.1 77 = .ok (.istore_n 3, 1) := by decide +kernel
theorem jd_Branchwork_digest_78 : decode mi_Branchwork_digest.2.1 78 = .ok (.iload_n 3, 1) := by decide +kernel
theorem jd_Branchwork_digest_79 : decode mi_Branchwork_digest.2.1 79 = .ok (.bipush 12, 2) := by decide +kernel
theorem jd_Branchwork_digest_81 : decode mi_Branchwork_digest.2.1 81 = .ok (.if_icmp .ge 19, 3) := by decide +kernel
theorem jd_Branchwork_digest_84 : decode mi_Branchwork_digest.2.1 84 = .ok (.lload_n 1, 1) := by decide +kernel
theorem jd_Branchwork_digest_85 : decode mi_Branchwork_digest.2.1 85 = .ok (.aload_n 0, 1) := by decide +kernel
theorem jd_Branchwork_digest_86 : decode mi_Branchwork_digest.2.1 86 = .ok (.iload_n 3, 1) := by decide +kernel
theorem jd_Branchwork_digest_87 : decode mi_Branchwork_digest.2.1 87 = .ok (.invokevirtual 316, 3) := by decide +kernel
theorem jd_Branchwork_digest_90 : decode mi_Branchwork_digest.2.1 90 = .ok (.invokestatic 306, 3) := by decide +kernel
theorem jd_Branchwork_digest_93 : decode mi_Branchwork_digest.2.1 93 = .ok (.lstore_n 1, 1) := by decide +kernel
theorem jd_Branchwork_digest_94 : decode mi_Branchwork_digest.2.1 94 = .ok (.iinc 3 1, 3) := by decide +kernel
theorem jd_Branchwork_digest_97 : decode mi_Branchwork_digest.2.1 97 = .ok (.goto (-19), 3) := by decide +kernel
theorem jd_Branchwork_digest_100 : decode mi_Branchwork_digest.2.1 100 = .ok (.lload_n 1, 1) := by decide +kernel
theorem jd_Branchwork_digest_101 : decode mi_Branchwork_digest.2.1 101 = .ok (.aload_n 0, 1) := by decide +kernel
theorem jd_Branchwork_digest_102 : decode mi_Branchwork_digest.2.1 102 = .ok (.getfield 12, 3) := by decide +kernel
theorem jd_Branchwork_digest_105 : decode mi_Branchwork_digest.2.1 105 = .ok (.invokestatic 319, 3) := by decide +kernel
theorem jd_Branchwork_digest_108 : decode mi_Branchwork_digest.2.1 108 = .ok (.lstore_n 1, 1) := by decide +kernel
theorem jd_Branchwork_digest_109 : decode mi_Branchwork_digest.2.1 109 = .ok (.iconst 0, 1) := by decide +kernel
theorem jd_Branchwork_digest_110 : decode mi_Branchwork_digest.2.1 110 = .ok (.istore_n 3, 1) := by decide +kernel
theorem jd_Branchwork_digest_111 : decode mi_Branchwork_digest.2.1 111 = .ok (.iload_n 3, 1) := by decide +kernel
theorem jd_Branchwork_digest_112 : decode mi_Branchwork_digest.2.1 112 = .ok (.bipush 30, 2) := by decide +kernel
theorem jd_Branchwork_digest_114 : decode mi_Branchwork_digest.2.1 114 = .ok (.if_icmp .ge 27, 3) := by decide +kernel
theorem jd_Branchwork_digest_117 : decode mi_Branchwork_digest.2.1 117 = .ok (.aload_n 0, 1) := by decide +kernel
theorem jd_Branchwork_digest_118 : decode mi_Branchwork_digest.2.1 118 = .ok (.getfield 19, 3) := by decide +kernel
theorem jd_Branchwork_digest_121 : decode mi_Branchwork_digest.2.1 121 = .ok (.iload_n 3, 1) := by decide +kernel
theorem jd_Branchwork_digest_122 : decode mi_Branchwork_digest.2.1 122 = .ok (.invokevirtual 323, 3) := by decide +kernel
theorem jd_Branchwork_digest_125 : decode mi_Branchwork_digest.2.1 125 = .ok (.ifCond .eq 10, 3) := by decide +kernel
theorem jd_Branchwork_digest_128 : decode mi_Branchwork_digest.2.1 128 = .ok (.aload_n 0, 1) := by decide +kernel
theorem jd_Branchwork_digest_129 : decode mi_Branchwork_digest.2.1 129 = .ok (.lload_n 1, 1) := by decide +kernel
theorem jd_Branchwork_digest_130 : decode mi_Branchwork_digest.2.1 130 = .ok (.iload_n 3, 1) := by decide +kernel
theorem jd_Branchwork_digest_131 : decode mi_Branchwork_digest.2.1 131 = .ok (.invokevirtual 326, 3) := by decide +kernel
theorem jd_Branchwork_digest_134 : decode mi_Branchwork_digest.2.1 134 = .ok (.lstore_n 1, 1) := by decide +kernel
theorem jd_Branchwork_digest_135 : decode mi_Branchwork_digest.2.1 135 = .ok (.iinc 3 1, 3) := by decide +kernel
theorem jd_Branchwork_digest_138 : decode mi_Branchwork_digest.2.1 138 = .ok (.goto (-27), 3) := by decide +kernel
theorem jd_Branchwork_digest_141 : decode mi_Branchwork_digest.2.1 141 = .ok (.iconst 0, 1) := by decide +kernel
theorem jd_Branchwork_digest_142 : decode mi_Branchwork_digest.2.1 142 = .ok (.istore_n 3, 1) := by decide +kernel
theorem jd_Branchwork_digest_143 : decode mi_Branchwork_digest.2.1 143 = .ok (.iload_n 3, 1) := by decide +kernel
theorem jd_Branchwork_digest_144 : decode mi_Branchwork_digest.2.1 144 = .ok (.aload_n 0, 1) := by decide +kernel
theorem jd_Branchwork_digest_145 : decode mi_Branchwork_digest.2.1 145 = .ok (.getfield 33, 3) := by decide +kernel
theorem jd_Branchwork_digest_148 : decode mi_Branchwork_digest.2.1 148 = .ok (.invokevirtual 153, 3) := by decide +kernel
theorem jd_Branchwork_digest_151 : decode mi_Branchwork_digest.2.1 151 = .ok (.if_icmp .ge 33, 3) := by decide +kernel
theorem jd_Branchwork_digest_154 : decode mi_Branchwork_digest.2.1 154 = .ok (.lload_n 1, 1) := by decide +kernel
theorem jd_Branchwork_digest_155 : decode mi_Branchwork_digest.2.1 155 = .ok (.aload_n 0, 1) := by decide +kernel
theorem jd_Branchwork_digest_156 : decode mi_Branchwork_digest.2.1 156 = .ok (.getfield 33, 3) := by decide +kernel
theorem jd_Branchwork_digest_159 : decode mi_Branchwork_digest.2.1 159 = .ok (.iload_n 3, 1) := by decide +kernel
theorem jd_Branchwork_digest_160 : decode mi_Branchwork_digest.2.1 160 = .ok (.invokevirtual 265, 3) := by decide +kernel
theorem jd_Branchwork_digest_163 : decode mi_Branchwork_digest.2.1 163 = .ok (.invokestatic 306, 3) := by decide +kernel
theorem jd_Branchwork_digest_166 : decode mi_Branchwork_digest.2.1 166 = .ok (.aload_n 0, 1) := by decide +kernel
theorem jd_Branchwork_digest_167 : decode mi_Branchwork_digest.2.1 167 = .ok (.getfield 33, 3) := by decide +kernel
theorem jd_Branchwork_digest_170 : decode mi_Branchwork_digest.2.1 170 = .ok (.iload_n 3, 1) := by decide +kernel
theorem jd_Branchwork_digest_171 : decode mi_Branchwork_digest.2.1 171 = .ok (.invokevirtual 268, 3) := by decide +kernel
theorem jd_Branchwork_digest_174 : decode mi_Branchwork_digest.2.1 174 = .ok (.invokestatic 306, 3) := by decide +kernel
theorem jd_Branchwork_digest_177 : decode mi_Branchwork_digest.2.1 177 = .ok (.lstore_n 1, 1) := by decide +kernel
theorem jd_Branchwork_digest_178 : decode mi_Branchwork_digest.2.1 178 = .ok (.iinc 3 1, 3) := by decide +kernel
theorem jd_Branchwork_digest_181 : decode mi_Branchwork_digest.2.1 181 = .ok (.goto (-38), 3) := by decide +kernel
theorem jd_Branchwork_digest_184 : decode mi_Branchwork_digest.2.1 184 = .ok (.lload_n 1, 1) := by decide +kernel
theorem jd_Branchwork_digest_185 : decode mi_Branchwork_digest.2.1 185 = .ok (.aload_n 0, 1) := by decide +kernel
theorem jd_Branchwork_digest_186 : decode mi_Branchwork_digest.2.1 186 = .ok (.invokevirtual 211, 3) := by decide +kernel
theorem jd_Branchwork_digest_189 : decode mi_Branchwork_digest.2.1 189 = .ok (.invokestatic 306, 3) := by decide +kernel
theorem jd_Branchwork_digest_192 : decode mi_Branchwork_digest.2.1 192 = .ok (.lreturn, 1) := by decide +kernel
/-! from where a line comes; the checksum -/
section
variable {o : jw_O} {σ s : zS} {w : zT} {Ts : Nat → zT} {f g t c : Nat → Int} {n kp : Nat} {l : zK} {tp : Nat → Int} {br cu : Nat} {mg : Int}
theorem f_spot (h : GS o σ w Ts f g t c n kp l tp br cu mg) (x : Int) (hx : -1 ≤ x ∧ x < 30) (i sp : Nat) (hi : i < 30) (hsp : sp < 120) : zSpec mi_Branchwork_spotInParent 5 o [.ref (zb o), .int (iI x), .int (iI i), .int (iI sp)] σ (fun v s => (∃ y : Int, v = some (.int (iI y)) ∧ -1 ≤ y ∧ y < 120 ∧ (x = -1 → y = -1)) ∧ zE o σ s) := by
  have hA := h.tree x
  have hB := h.2.2.1 i hi
  have hA1 := hA.1
  have hB1 := hB.1
  have ra := trA_rng (o := o) (x := x)
  have rb := tA_rng (o := o) hi
  have ir := isR_own (o := o)
  have im := isM_own (o := o)
  have okA : ∀ p, p < 12 → okV (trV Ts x p) := fun p hp => (hA.2 p hp).2.1
  have okB : ∀ p, p < 12 → okV (Ts i p) := fun p hp => (hB.2 p hp).2.1
  have o1 := (okA (sp / 10) (by omega)).p
  obtain ⟨q1, q2, -⟩ := trF_P okA okB
  refine z_spec (by decide +kernel) (Nat.le_of_ble_eq_true rfl) rfl (fun k hs hR hE => ?_)
  refine jw_iload_n (pc' := 1) jd_Branchwork_spotInParent_0 rfl rfl rfl ?_
  refine zx_iconst (pc' := 2) (n := -1) jd_Branchwork_spotInParent_1 rfl ?_
  refine zx_icmp_ne (tgt := 7) (pc' := 5) (by first | exact rg_iv _ _ _ | omega) (by first | exact rg_iv _ _ _ | omega) jd_Branchwork_spotInParent_2 (by decide) rfl (fun q => ?_) (fun q => ?_)
  · refine jw_aload_n (pc' := 8) jd_Branchwork_spotInParent_7 rfl rfl rfl ?_
    refine jw_get (pc' := 11) (kf := 1) jc_Branchwork (by decide) jq_240 jd_Branchwork_spotInParent_8 (mc_Branchwork _) rfl rfl ?_
    refine jw_iload_n (pc' := 12) jd_Branchwork_spotInParent_11 rfl rfl rfl ?_
    refine zx_callV0 (pc' := 15) hR (h_treeOf x (by omega)) jm_History_treeOf jq_452 jc_History jd_Branchwork_spotInParent_12 (mc_History _) rfl rfl (Nat.le_of_ble_eq_true rfl) (by omega) (by decide) rfl rfl ?_
    refine jw_astore (pc' := 17) (lc' := [(0, _), (2, _), (3, _), (4, _)]) jd_Branchwork_spotInParent_15 (Nat.le_of_ble_eq_true rfl) ⟨rfl, rfl, rfl, rfl, trivial⟩ rfl ?_
    refine jw_aload_n (pc' := 18) jd_Branchwork_spotInParent_17 rfl rfl rfl ?_
    refine jw_get (pc' := 21) (kf := 1) jc_Branchwork (by decide) jq_240 jd_Branchwork_spotInParent_18 (mc_Branchwork _) rfl rfl ?_
    refine jw_iload_n (pc' := 22) jd_Branchwork_spotInParent_21 rfl rfl rfl ?_
    refine zx_callV0 (pc' := 25) hR (h_treeOf i (by omega)) jm_History_treeOf jq_452 jc_History jd_Branchwork_spotInParent_22 (mc_History _) rfl rfl (Nat.le_of_ble_eq_true rfl) (by omega) (by decide) rfl rfl ?_
    rw [trA_i hi]
    refine jw_astore (pc' := 27) (lc' := [(0, _), (3, _), (4, _), (5, _)]) jd_Branchwork_spotInParent_25 (Nat.le_of_ble_eq_true rfl) ⟨rfl, rfl, rfl, rfl, trivial⟩ rfl ?_
    refine jw_iload_n (pc' := 28) jd_Branchwork_spotInParent_27 rfl rfl rfl ?_
    refine zx_bipush (pc' := 30) (n := 10) jd_Branchwork_spotInParent_28 (by decide +kernel) rfl ?_
    refine zx_idiv (pc' := 31) jd_Branchwork_spotInParent_30 (by omega) (by omega) rfl ?_
    rw [show (sp : Int) / 10 = ((sp / 10 : Nat) : Int) by omega]
    have part : ∀ (s1 : zS) (y : Int), -1 ≤ y ∧ y ≤ 11 → zE o σ s1 → jw_X mi_Branchwork_spotInParent o k 0 0 69 [(0, .ref (zb o)), (3, .int (iI sp)), (4, .ref (trA o x)), (5, .ref (tA o i)), (6, .int (iI ((sp / 10 : Nat) : Int))), (7, .int (iI y))] [] (mm o s1) hs := by
      intro s1 y hy E1
      have sA := (h.e E1).tree x
      have sB := (h.e E1).2.2.1 i hi
      refine jw_iload (pc' := 71) jd_Branchwork_spotInParent_69 rfl rfl ?_
      refine zx_iconst (pc' := 72) (n := -1) jd_Branchwork_spotInParent_71 rfl ?_
      refine zx_icmp_ne (tgt := 77) (pc' := 75) (by first | exact rg_iv _ _ _ | omega) (by first | exact rg_iv _ _ _ | omega) jd_Branchwork_spotInParent_72 (by decide) rfl (fun q3 => ?_) (fun q3 => ?_)
      rotate_left
      · refine zx_iconst (pc' := 76) (n := -1) jd_Branchwork_spotInParent_75 rfl ?_
        refine zx_iret hE jd_Branchwork_spotInParent_76 rfl ?_
        exact ⟨⟨-1, rfl, by omega, by omega, fun _ => rfl⟩, E1⟩
      obtain ⟨fr, hfr⟩ : ∃ m : Nat, y = m := ⟨y.toNat, by omega⟩
      subst hfr
      refine jw_aload_n (pc' := 78) jd_Branchwork_spotInParent_77 rfl rfl rfl ?_
      refine jw_get (pc' := 81) (kf := 5) jc_Branchwork (by decide) jq_244 jd_Branchwork_spotInParent_78 (mc_Branchwork _) rfl rfl ?_
      refine jw_aload (pc' := 83) jd_Branchwork_spotInParent_81 rfl rfl ?_
      refine jw_iload (pc' := 85) jd_Branchwork_spotInParent_83 rfl rfl ?_
      refine zx_callV0 (pc' := 88) hR (t_fileAt hA1 fr (by omega)) jm_Tree_fileAt jq_345 jc_Tree jd_Branchwork_spotInParent_85 (mc_Tree _ (by assumption)) rfl rfl (Nat.le_of_ble_eq_true rfl) (by omega) (by decide) rfl rfl ?_
      refine jw_aload (pc' := 90) jd_Branchwork_spotInParent_88 rfl rfl ?_
      refine jw_iload (pc' := 92) jd_Branchwork_spotInParent_90 rfl rfl ?_
      refine zx_callV0 (pc' := 95) hR (t_fileAt hB1 (sp / 10) (by omega)) jm_Tree_fileAt jq_345 jc_Tree jd_Branchwork_spotInParent_92 (mc_Tree _ (by assumption)) rfl rfl (Nat.le_of_ble_eq_true rfl) (by omega) (by decide) rfl rfl ?_
      refine zx_callV (pc' := 98) hR (m_pairUp im (sA.2 fr (by omega)) (sB.2 (sp / 10) (by omega)) (by unfold fA; omega) (by unfold fA; omega)) jm_Match_pairUp jq_837 jc_Match jd_Branchwork_spotInParent_95 (mc_Match _ (by assumption)) rfl rfl (Nat.le_of_ble_eq_true rfl) (by omega) (by decide) rfl (fun v9 s2 q9 => ?_)
      obtain ⟨rfl, -, p2, F2⟩ := q9
      have E2 : zE o σ s2 := E1.trans (zE.own F2 (by omega) (by omega))
      have pr := (pairs_rng (okA fr (by omega)) (okB (sp / 10) (by omega))).2 (sp % 10)
      refine jw_aload_n (pc' := 99) jd_Branchwork_spotInParent_98 rfl rfl rfl ?_
      refine jw_get (pc' := 102) (kf := 5) jc_Branchwork (by decide) jq_244 jd_Branchwork_spotInParent_99 (mc_Branchwork _) rfl rfl ?_
      refine jw_iload_n (pc' := 103) jd_Branchwork_spotInParent_102 rfl rfl rfl ?_
      refine zx_bipush (pc' := 105) (n := 10) jd_Branchwork_spotInParent_103 (by decide +kernel) rfl ?_
      refine zx_irem (pc' := 106) jd_Branchwork_spotInParent_105 (by omega) (by omega) rfl ?_
      refine jw_sub (lc' := [(7, _)]) ⟨rfl, trivial⟩ ?_
      rw [show (sp : Int) % 10 = ((sp % 10 : Nat) : Int) by omega]
      refine zx_callV0 (pc' := 109) hR (m_partA im (sp % 10) (by omega)) jm_Match_partnerInA jq_838 jc_Match jd_Branchwork_spotInParent_106 (mc_Match _ (by assumption)) rfl rfl (Nat.le_of_ble_eq_true rfl) (by omega) (by decide) rfl rfl ?_
      rw [show iv s2 (zb o + 979 + 3) (sp % 10) = _ from p2 (sp % 10) (by omega)]
      refine jw_istore (pc' := 111) (lc' := [(7, _), (8, _)]) jd_Branchwork_spotInParent_109 (Nat.le_of_ble_eq_true rfl) ⟨rfl, rfl, trivial⟩ rfl ?_
      refine jw_iload (pc' := 113) jd_Branchwork_spotInParent_111 rfl rfl ?_
      refine zx_iconst (pc' := 114) (n := -1) jd_Branchwork_spotInParent_113 rfl ?_
      refine zx_icmp_ne (tgt := 121) (pc' := 117) (by first | exact rg_iv _ _ _ | omega) (by first | exact rg_iv _ _ _ | omega) jd_Branchwork_spotInParent_114 (by decide) rfl (fun q4 => ?_) (fun q4 => ?_)
      rotate_left
      · refine zx_iconst (pc' := 118) (n := -1) jd_Branchwork_spotInParent_117 rfl ?_
        refine jw_goto (tgt := 129) jd_Branchwork_spotInParent_118 (by decide) ?_
        refine zx_iret hE jd_Branchwork_spotInParent_129 rfl ?_
        exact ⟨⟨-1, rfl, by omega, by omega, fun _ => rfl⟩, E2⟩
      refine jw_iload (pc' := 123) jd_Branchwork_spotInParent_121 rfl rfl ?_
      refine zx_bipush (pc' := 125) (n := 10) jd_Branchwork_spotInParent_123 (by decide +kernel) rfl ?_
      refine zx_imul (pc' := 126) jd_Branchwork_spotInParent_125 rfl ?_
      refine jw_iload (pc' := 128) jd_Branchwork_spotInParent_126 rfl rfl ?_
      refine zx_iadd (pc' := 129) jd_Branchwork_spotInParent_128 rfl ?_
      refine zx_iret hE jd_Branchwork_spotInParent_129 rfl ?_
      exact ⟨⟨_, rfl, by omega, by omega, fun z => absurd z q⟩, E2⟩
    refine jw_istore (pc' := 33) (lc' := [(0, _), (3, _), (4, _), (5, _), (6, _)]) jd_Branchwork_spotInParent_31 (Nat.le_of_ble_eq_true rfl) ⟨rfl, rfl, rfl, rfl, rfl, trivial⟩ rfl ?_
    refine jw_iload (pc' := 35) jd_Branchwork_spotInParent_33 rfl rfl ?_
    refine jw_istore (pc' := 37) (lc' := [(0, _), (3, _), (4, _), (5, _), (6, _), (7, _)]) jd_Branchwork_spotInParent_35 (Nat.le_of_ble_eq_true rfl) ⟨rfl, rfl, rfl, rfl, rfl, rfl, trivial⟩ rfl ?_
    refine jw_aload (pc' := 39) jd_Branchwork_spotInParent_37 rfl rfl ?_
    refine jw_iload (pc' := 41) jd_Branchwork_spotInParent_39 rfl rfl ?_
    refine zx_callV0 (pc' := 44) hR (t_has hA (sp / 10) (by omega)) jm_Tree_has jq_401 jc_Tree jd_Branchwork_spotInParent_41 (mc_Tree _ (by assumption)) rfl rfl (Nat.le_of_ble_eq_true rfl) (by omega) (by decide) rfl rfl ?_
    refine zx_if_ne (tgt := 69) (pc' := 47) (by first | exact rg_iv _ _ _ | omega) jd_Branchwork_spotInParent_44 (by decide) rfl (fun q8 => ?_) (fun q8 => ?_)
    · skip
      exact part σ _ (by omega) zE.rf
    · refine jw_aload_n (pc' := 48) jd_Branchwork_spotInParent_47 rfl rfl rfl ?_
      refine jw_get (pc' := 51) (kf := 4) jc_Branchwork (by decide) jq_243 jd_Branchwork_spotInParent_48 (mc_Branchwork _) rfl rfl ?_
      refine jw_aload (pc' := 53) jd_Branchwork_spotInParent_51 rfl rfl ?_
      refine jw_aload (pc' := 55) jd_Branchwork_spotInParent_53 rfl rfl ?_
      refine zx_callV (pc' := 58) hR (r_trace ir hA hB (by omega) (by omega)) jm_Renames_trace jq_800 jc_Renames jd_Branchwork_spotInParent_55 (mc_Renames _ (by assumption)) rfl rfl (Nat.le_of_ble_eq_true rfl) (by omega) (by decide) rfl (fun v9 s1 q9 => ?_)
      obtain ⟨rfl, g1, F1⟩ := q9
      refine jw_aload_n (pc' := 59) jd_Branchwork_spotInParent_58 rfl rfl rfl ?_
      refine jw_get (pc' := 62) (kf := 4) jc_Branchwork (by decide) jq_243 jd_Branchwork_spotInParent_59 (mc_Branchwork _) rfl rfl ?_
      refine jw_iload (pc' := 64) jd_Branchwork_spotInParent_62 rfl rfl ?_
      refine zx_callV0 (pc' := 67) hR (r_source g1 (sp / 10) (by omega)) jm_Renames_sourceOf jq_812 jc_Renames jd_Branchwork_spotInParent_64 (mc_Renames _ (by assumption)) rfl rfl (Nat.le_of_ble_eq_true rfl) (by omega) (by decide) rfl rfl ?_
      refine jw_istore (pc' := 69) (lc' := [(0, _), (3, _), (4, _), (5, _), (6, _), (7, _)]) jd_Branchwork_spotInParent_67 (Nat.le_of_ble_eq_true rfl) ⟨rfl, rfl, rfl, rfl, rfl, rfl, trivial⟩ rfl ?_
      exact part s1 _ (q2 (sp / 10)) (zE.own F1 (by omega) (by omega))
  refine zx_iconst (pc' := 6) (n := -1) jd_Branchwork_spotInParent_5 rfl ?_
  refine zx_iret hE jd_Branchwork_spotInParent_6 rfl ?_
  exact ⟨⟨-1, rfl, by omega, by omega, fun _ => rfl⟩, zE.rf⟩
theorem f_origin (h : GS o σ w Ts f g t c n kp l tp br cu mg) (hv : GV f g n kp tp br cu mg) (a p j : Nat) (ha : a < n) (hp : p < 12) (hka : kp.testBit a = true) (h0 : ¬ (Ts a p).1 = 0) (hj : j < (Ts a p).2.1) : zSpec mi_Branchwork_origin 6 o [.ref (zb o), .int (iI a), .int (iI p), .int (iI j)] σ (fun v s => (∃ q : Nat, v = some (.int (iI q)) ∧ (ancF f g a).testBit q = true) ∧ zE o σ s) := by
  have hn := hv.2.2.2.2.2.2.2.2
  have hA := h.2.2.1 a (by omega)
  have hA1 := hA.1
  have hjn := (hA.2 p hp).2.1.n
  have PP := hv.1
  refine z_spec (by decide +kernel) (Nat.le_of_ble_eq_true rfl) rfl (fun k hs hR hE => ?_)
  refine jw_aload_n (pc' := 1) jd_Branchwork_origin_0 rfl rfl rfl ?_
  refine jw_iload_n (pc' := 2) jd_Branchwork_origin_1 rfl rfl rfl ?_
  refine zx_callV0 (pc' := 5) hR (f_reqCommit h a (by omega) hka) jm_Branchwork_requireCommit jq_753 jc_Branchwork jd_Branchwork_origin_2 (mc_Branchwork _) rfl rfl (Nat.le_of_ble_eq_true rfl) (by omega) (by decide) rfl rfl ?_
  refine jw_aload_n (pc' := 6) jd_Branchwork_origin_5 rfl rfl rfl ?_
  refine jw_get (pc' := 9) (kf := 1) jc_Branchwork (by decide) jq_240 jd_Branchwork_origin_6 (mc_Branchwork _) rfl rfl ?_
  refine jw_iload_n (pc' := 10) jd_Branchwork_origin_9 rfl rfl rfl ?_
  refine zx_callV0 (pc' := 13) hR (h_treeOf a (by omega)) jm_History_treeOf jq_452 jc_History jd_Branchwork_origin_10 (mc_History _) rfl rfl (Nat.le_of_ble_eq_true rfl) (by omega) (by decide) rfl rfl ?_
  rw [trA_i (show a < 30 by omega)]
  refine jw_iload_n (pc' := 14) jd_Branchwork_origin_13 rfl rfl rfl ?_
  refine zx_callS0 (pc' := 17) hR (f_reqFile hA p hp h0) jm_Branchwork_requireFile jq_398 jd_Branchwork_origin_14 rfl rfl (Nat.le_of_ble_eq_true rfl) (by omega) (by decide) rfl rfl ?_
  refine jw_aload_n (pc' := 18) jd_Branchwork_origin_17 rfl rfl rfl ?_
  refine jw_get (pc' := 21) (kf := 1) jc_Branchwork (by decide) jq_240 jd_Branchwork_origin_18 (mc_Branchwork _) rfl rfl ?_
  refine jw_iload_n (pc' := 22) jd_Branchwork_origin_21 rfl rfl rfl ?_
  refine zx_callV0 (pc' := 25) hR (h_treeOf a (by omega)) jm_History_treeOf jq_452 jc_History jd_Branchwork_origin_22 (mc_History _) rfl rfl (Nat.le_of_ble_eq_true rfl) (by omega) (by decide) rfl rfl ?_
  rw [trA_i (show a < 30 by omega)]
  refine jw_iload_n (pc' := 26) jd_Branchwork_origin_25 rfl rfl rfl ?_
  refine zx_callV0 (pc' := 29) hR (t_fileAt hA1 p hp) jm_Tree_fileAt jq_345 jc_Tree jd_Branchwork_origin_26 (mc_Tree _ (by assumption)) rfl rfl (Nat.le_of_ble_eq_true rfl) (by omega) (by decide) rfl rfl ?_
  refine jw_iload_n (pc' := 30) jd_Branchwork_origin_29 rfl rfl rfl ?_
  refine zx_callS0 (pc' := 33) hR (f_reqPlace (hA.2 p hp) j hj) jm_Branchwork_requirePlace jq_826 jd_Branchwork_origin_30 rfl rfl (Nat.le_of_ble_eq_true rfl) (by omega) (by decide) rfl rfl ?_
  refine jw_iload_n (pc' := 34) jd_Branchwork_origin_33 rfl rfl rfl ?_
  refine jw_istore (pc' := 36) (lc' := [(0, _), (2, _), (3, _), (4, _)]) jd_Branchwork_origin_34 (Nat.le_of_ble_eq_true rfl) ⟨rfl, rfl, rfl, rfl, trivial⟩ rfl ?_
  refine jw_iload_n (pc' := 37) jd_Branchwork_origin_36 rfl rfl rfl ?_
  refine zx_bipush (pc' := 39) (n := 10) jd_Branchwork_origin_37 (by decide +kernel) rfl ?_
  refine zx_imul (pc' := 40) jd_Branchwork_origin_39 rfl ?_
  refine jw_iload_n (pc' := 41) jd_Branchwork_origin_40 rfl rfl rfl ?_
  refine zx_iadd (pc' := 42) jd_Branchwork_origin_41 rfl ?_
  refine jw_istore (pc' := 44) (lc' := [(0, _), (4, _), (5, _)]) jd_Branchwork_origin_42 (Nat.le_of_ble_eq_true rfl) ⟨rfl, rfl, rfl, trivial⟩ rfl ?_
  refine zx_iconst (pc' := 45) (n := 0) jd_Branchwork_origin_44 rfl ?_
  refine jw_istore (pc' := 47) (lc' := [(0, _), (4, _), (5, _), (6, _)]) jd_Branchwork_origin_45 (Nat.le_of_ble_eq_true rfl) ⟨rfl, rfl, rfl, rfl, trivial⟩ rfl ?_
  rw [show (p : Int) * 10 + j = ((p * 10 + j : Nat) : Int) by omega]
  have loop : ∀ (d i wh sp : Nat) (s : zS), i + d = 30 → sp < 120 → (ancF f g a).testBit wh = true → zE o σ s → jw_X mi_Branchwork_origin o k 0 0 47 [(0, .ref (zb o)), (4, .int (iI wh)), (5, .int (iI sp)), (6, .int (iI i))] [] (mm o s) hs := by
    intro d
    induction d with
    | zero =>
      intro i wh sp s hi hsp hw E
      refine jw_iload (pc' := 49) jd_Branchwork_origin_47 rfl rfl ?_
      refine zx_bipush (pc' := 51) (n := 30) jd_Branchwork_origin_49 (by decide +kernel) rfl ?_
      refine zx_icmp_ge (tgt := 129) (pc' := 54) (by first | exact rg_iv _ _ _ | omega) (by first | exact rg_iv _ _ _ | omega) jd_Branchwork_origin_51 (by decide) rfl (fun q => ?_) (fun q => ?_)
      rotate_left
      · exfalso; omega
      refine jw_iload (pc' := 131) jd_Branchwork_origin_129 rfl rfl ?_
      refine zx_iret hE jd_Branchwork_origin_131 rfl ?_
      exact ⟨⟨wh, rfl, hw⟩, E⟩
    | succ d ih =>
      intro i wh sp s hi hsp hw E
      have hle := anc_le PP ha wh hw
      have e1 := (h.e E).2.2.2.1.1 wh (by omega)
      have e2 := (h.e E).2.2.2.1.2.1 wh (by omega)
      have po := PP wh (by omega)
      refine jw_iload (pc' := 49) jd_Branchwork_origin_47 rfl rfl ?_
      refine zx_bipush (pc' := 51) (n := 30) jd_Branchwork_origin_49 (by decide +kernel) rfl ?_
      refine zx_icmp_ge (tgt := 129) (pc' := 54) (by first | exact rg_iv _ _ _ | omega) (by first | exact rg_iv _ _ _ | omega) jd_Branchwork_origin_51 (by decide) rfl (fun q => ?_) (fun q => ?_)
      · exfalso; omega
      refine jw_aload_n (pc' := 55) jd_Branchwork_origin_54 rfl rfl rfl ?_
      refine jw_get (pc' := 58) (kf := 1) jc_Branchwork (by decide) jq_240 jd_Branchwork_origin_55 (mc_Branchwork _) rfl rfl ?_
      refine jw_iload (pc' := 60) jd_Branchwork_origin_58 rfl rfl ?_
      refine zx_callV0 (pc' := 63) hR (h_first wh (by omega)) jm_History_firstParent jq_762 jc_History jd_Branchwork_origin_60 (mc_History _) rfl rfl (Nat.le_of_ble_eq_true rfl) (by omega) (by decide) rfl rfl ?_
      rw [show iv s (zb o + 60) wh = f wh from e1]
      refine jw_istore (pc' := 65) (lc' := [(0, _), (4, _), (5, _), (6, _), (7, _)]) jd_Branchwork_origin_63 (Nat.le_of_ble_eq_true rfl) ⟨rfl, rfl, rfl, rfl, rfl, trivial⟩ rfl ?_
      refine jw_aload_n (pc' := 66) jd_Branchwork_origin_65 rfl rfl rfl ?_
      refine jw_iload (pc' := 68) jd_Branchwork_origin_66 rfl rfl ?_
      refine jw_iload (pc' := 70) jd_Branchwork_origin_68 rfl rfl ?_
      refine jw_iload (pc' := 72) jd_Branchwork_origin_70 rfl rfl ?_
      refine zx_callV (pc' := 75) hR (f_spot (h.e E) (f wh) (by omega) wh sp (by omega) hsp) jm_Branchwork_spotInParent jq_833 jc_Branchwork jd_Branchwork_origin_72 (mc_Branchwork _) rfl rfl (Nat.le_of_ble_eq_true rfl) (by omega) (by decide) rfl (fun v9 s1 q9 => ?_)
      obtain ⟨⟨y, rfl, y1, y2, y3⟩, E1⟩ := q9
      have E2 := E.trans E1
      have fin : ∀ (s3 : zS) (x y : Int), (f wh = x ∨ g wh = x) → -1 ≤ x → (x = -1 → y = -1) → -1 ≤ y → y < 120 → zE o σ s3 → jw_X mi_Branchwork_origin o k 0 0 106 [(0, .ref (zb o)), (4, .int (iI wh)), (6, .int (iI i)), (7, .int (iI x)), (8, .int (iI y))] [] (mm o s3) hs := by
        intro s3 x y hx1 hx2 hxy hy1 hy2 E3
        refine jw_iload (pc' := 108) jd_Branchwork_origin_106 rfl rfl ?_
        refine zx_iconst (pc' := 109) (n := -1) jd_Branchwork_origin_108 rfl ?_
        refine zx_icmp_ne (tgt := 115) (pc' := 112) (by first | exact rg_iv _ _ _ | omega) (by first | exact rg_iv _ _ _ | omega) jd_Branchwork_origin_109 (by decide) rfl (fun q4 => ?_) (fun q4 => ?_)
        · refine jw_sub (lc' := [(0, _), (6, _), (7, _), (8, _)]) ⟨rfl, rfl, rfl, rfl, trivial⟩ ?_
          obtain ⟨x9, hx9⟩ : ∃ m : Nat, x = m := ⟨x.toNat, by omega⟩
          obtain ⟨y9, hy9⟩ : ∃ m : Nat, y = m := ⟨y.toNat, by omega⟩
          subst hx9
          subst hy9
          refine jw_iload (pc' := 117) jd_Branchwork_origin_115 rfl rfl ?_
          refine jw_istore (pc' := 119) (lc' := [(0, _), (4, _), (6, _), (8, _)]) jd_Branchwork_origin_117 (Nat.le_of_ble_eq_true rfl) ⟨rfl, rfl, rfl, rfl, trivial⟩ rfl ?_
          refine jw_iload (pc' := 121) jd_Branchwork_origin_119 rfl rfl ?_
          refine jw_istore (pc' := 123) (lc' := [(0, _), (4, _), (5, _), (6, _)]) jd_Branchwork_origin_121 (Nat.le_of_ble_eq_true rfl) ⟨rfl, rfl, rfl, rfl, trivial⟩ rfl ?_
          refine zx_iinc (pc' := 126) (lc' := [(0, _), (4, _), (5, _), (6, _)]) jd_Branchwork_origin_123 rfl (Nat.le_of_ble_eq_true rfl) ⟨rfl, rfl, rfl, rfl, trivial⟩ rfl ?_
          refine jw_goto (tgt := 47) jd_Branchwork_origin_126 (by decide) ?_
          exact ih (i + 1) x9 y9 s3 (by omega) (by omega) (anc_par PP ha hn wh hw x9 hx1) E3
        · refine jw_iload (pc' := 114) jd_Branchwork_origin_112 rfl rfl ?_
          refine zx_iret hE jd_Branchwork_origin_114 rfl ?_
          exact ⟨⟨wh, rfl, hw⟩, E3⟩
      refine jw_istore (pc' := 77) (lc' := [(0, _), (4, _), (5, _), (6, _), (7, _), (8, _)]) jd_Branchwork_origin_75 (Nat.le_of_ble_eq_true rfl) ⟨rfl, rfl, rfl, rfl, rfl, rfl, trivial⟩ rfl ?_
      refine jw_iload (pc' := 79) jd_Branchwork_origin_77 rfl rfl ?_
      refine zx_iconst (pc' := 80) (n := -1) jd_Branchwork_origin_79 rfl ?_
      refine zx_icmp_ne (tgt := 106) (pc' := 83) (by first | exact rg_iv _ _ _ | omega) (by first | exact rg_iv _ _ _ | omega) jd_Branchwork_origin_80 (by decide) rfl (fun q3 => ?_) (fun q3 => ?_)
      · refine jw_sub (lc' := [(0, _), (4, _), (6, _), (7, _), (8, _)]) ⟨rfl, rfl, rfl, rfl, rfl, trivial⟩ ?_
        exact fin s1 (f wh) y (Or.inl rfl) (by omega) y3 y1 y2 E2
      · refine jw_aload_n (pc' := 84) jd_Branchwork_origin_83 rfl rfl rfl ?_
        refine jw_get (pc' := 87) (kf := 1) jc_Branchwork (by decide) jq_240 jd_Branchwork_origin_84 (mc_Branchwork _) rfl rfl ?_
        refine jw_iload (pc' := 89) jd_Branchwork_origin_87 rfl rfl ?_
        refine zx_callV0 (pc' := 92) hR (h_second wh (by omega)) jm_History_secondParent jq_766 jc_History jd_Branchwork_origin_89 (mc_History _) rfl rfl (Nat.le_of_ble_eq_true rfl) (by omega) (by decide) rfl rfl ?_
        rw [show iv s1 (zb o + 61) wh = g wh from (h.e E2).2.2.2.1.2.1 wh (by omega)]
        refine jw_istore (pc' := 94) (lc' := [(0, _), (4, _), (5, _), (6, _), (7, _)]) jd_Branchwork_origin_92 (Nat.le_of_ble_eq_true rfl) ⟨rfl, rfl, rfl, rfl, rfl, trivial⟩ rfl ?_
        refine jw_aload_n (pc' := 95) jd_Branchwork_origin_94 rfl rfl rfl ?_
        refine jw_iload (pc' := 97) jd_Branchwork_origin_95 rfl rfl ?_
        refine jw_iload (pc' := 99) jd_Branchwork_origin_97 rfl rfl ?_
        refine jw_iload (pc' := 101) jd_Branchwork_origin_99 rfl rfl ?_
        refine zx_callV (pc' := 104) hR (f_spot (h.e E2) (g wh) (by omega) wh sp (by omega) hsp) jm_Branchwork_spotInParent jq_833 jc_Branchwork jd_Branchwork_origin_101 (mc_Branchwork _) rfl rfl (Nat.le_of_ble_eq_true rfl) (by omega) (by decide) rfl (fun v9 s2 q9 => ?_)
        obtain ⟨⟨z, rfl, z1, z2, z3⟩, E4⟩ := q9
        refine jw_istore (pc' := 106) (lc' := [(0, _), (4, _), (6, _), (7, _), (8, _)]) jd_Branchwork_origin_104 (Nat.le_of_ble_eq_true rfl) ⟨rfl, rfl, rfl, rfl, rfl, trivial⟩ rfl ?_
        exact fin s2 (g wh) z (Or.inr rfl) (by omega) z3 z1 z2 (E2.trans E4)
  exact loop 30 0 a (p * 10 + j) σ (by omega) (by omega) (anc_self PP ha hn) zE.rf
def fdF (d : Int64) (x : Int) : Int64 := d * 31 + (iI x).toInt64
theorem d_fold (d : Int64) (x : Int) : zRo mi_Branchwork_fold 0 o [.long d, .int (iI x)] σ (some (.long (fdF d x))) := by
  refine z_spec (by decide +kernel) (Nat.le_of_ble_eq_true rfl) rfl (fun k hs hR hE => ?_)
  refine jw_lload_n (pc' := 1) jd_Branchwork_fold_0 rfl rfl rfl ?_
  refine jw_ldc2 (pc' := 4) jd_Branchwork_fold_1 jq_856 rfl ?_
  refine jw_lmul (pc' := 5) jd_Branchwork_fold_4 rfl rfl ?_
  refine jw_iload_n (pc' := 6) jd_Branchwork_fold_5 rfl rfl rfl ?_
  refine jw_i2l (pc' := 7) jd_Branchwork_fold_6 rfl rfl ?_
  refine jw_ladd (pc' := 8) jd_Branchwork_fold_7 rfl rfl ?_
  refine zx_lret hE jd_Branchwork_fold_8 rfl ?_
  exact ⟨rfl, rfl⟩
def ftS (A : zT) (p : Nat) (d : Int64) : Int64 := it (fun j e => fdF e ((A p).2.2 j)) (A p).2.1 0 (fdF d (szF (A p)))
def ftF (A : zT) (d : Int64) : Int64 := it (ftS A) 12 0 d
theorem d_tree {u : Nat} {A : zT} (h : TC o σ u A) (d : Int64) : zRo mi_Branchwork_foldTree 1 o [.long d, .ref u] σ (some (.long (ftF A d))) := by
  have h1 := h.1
  refine z_spec (by decide +kernel) (Nat.le_of_ble_eq_true rfl) rfl (fun k hs hR hE => ?_)
  refine jw_lload_n (pc' := 1) jd_Branchwork_foldTree_0 rfl rfl rfl ?_
  refine jw_lstore_n (pc' := 2) (lc' := [(2, _), (3, _)]) jd_Branchwork_foldTree_1 rfl (Nat.le_of_ble_eq_true rfl) ⟨rfl, rfl, trivial⟩ rfl ?_
  refine zx_iconst (pc' := 3) (n := 0) jd_Branchwork_foldTree_2 rfl ?_
  refine jw_istore (pc' := 5) (lc' := [(2, _), (3, _), (5, _)]) jd_Branchwork_foldTree_3 (Nat.le_of_ble_eq_true rfl) ⟨rfl, rfl, rfl, trivial⟩ rfl ?_
  have loop : ∀ (m i : Nat) (e : Int64), i + m = 12 → it (ftS A) m i e = ftF A d → jw_X mi_Branchwork_foldTree o k 0 0 5 [(2, .ref u), (3, .long e), (5, .int (iI i))] [] (mm o σ) hs := by
    intro m
    induction m with
    | zero =>
      intro i e hi he
      refine jw_iload (pc' := 7) jd_Branchwork_foldTree_5 rfl rfl ?_
      refine zx_bipush (pc' := 9) (n := 12) jd_Branchwork_foldTree_7 (by decide +kernel) rfl ?_
      refine zx_icmp_ge (tgt := 79) (pc' := 12) (by first | exact rg_iv _ _ _ | omega) (by first | exact rg_iv _ _ _ | omega) jd_Branchwork_foldTree_9 (by decide) rfl (fun q => ?_) (fun q => ?_)
      rotate_left
      · exfalso; omega
      refine jw_lload_n (pc' := 80) jd_Branchwork_foldTree_79 rfl rfl rfl ?_
      refine zx_lret hE jd_Branchwork_foldTree_80 rfl ?_
      have he : e = ftF A d := he
      exact ⟨by rw [he], rfl⟩
    | succ m ih =>
      intro i e hi he
      have he : it (ftS A) m (i + 1) (ftS A i e) = ftF A d := he
      have hc := h.2 i (by omega)
      have hc1 := hc.1
      have hn := hc.2.1.n
      have o1 := hc.2.1.p
      have inner : ∀ (m2 j : Nat) (e2 : Int64), j + m2 = (A i).2.1 → it (fun j e => fdF e ((A i).2.2 j)) m2 j e2 = ftS A i e → jw_X mi_Branchwork_foldTree o k 0 0 45 [(2, .ref u), (3, .long e2), (5, .int (iI i)), (6, .ref (fA u i)), (7, .int (iI j))] [] (mm o σ) hs := by
        intro m2
        induction m2 with
        | zero =>
          intro j e2 hj he2
          have he2 : e2 = ftS A i e := he2
          refine jw_iload (pc' := 47) jd_Branchwork_foldTree_45 rfl rfl ?_
          refine jw_aload (pc' := 49) jd_Branchwork_foldTree_47 rfl rfl ?_
          refine zx_callV0 (pc' := 52) hR (c_length hc) jm_Content_length jq_349 jc_Content jd_Branchwork_foldTree_49 (mc_Content _ (by assumption)) rfl rfl (Nat.le_of_ble_eq_true rfl) (by omega) (by decide) rfl rfl ?_
          refine zx_icmp_ge (tgt := 73) (pc' := 55) (by first | exact rg_iv _ _ _ | omega) (by first | exact rg_iv _ _ _ | omega) jd_Branchwork_foldTree_52 (by decide) rfl (fun q => ?_) (fun q => ?_)
          rotate_left
          · exfalso; omega
          refine zx_iinc (pc' := 76) (lc' := [(2, _), (3, _), (5, _)]) jd_Branchwork_foldTree_73 rfl (Nat.le_of_ble_eq_true rfl) ⟨rfl, rfl, rfl, trivial⟩ rfl ?_
          refine jw_goto (tgt := 5) jd_Branchwork_foldTree_76 (by decide) ?_
          rw [he2]
          exact ih (i + 1) _ (by omega) he
        | succ m2 jh =>
          intro j e2 hj he2
          refine jw_iload (pc' := 47) jd_Branchwork_foldTree_45 rfl rfl ?_
          refine jw_aload (pc' := 49) jd_Branchwork_foldTree_47 rfl rfl ?_
          refine zx_callV0 (pc' := 52) hR (c_length hc) jm_Content_length jq_349 jc_Content jd_Branchwork_foldTree_49 (mc_Content _ (by assumption)) rfl rfl (Nat.le_of_ble_eq_true rfl) (by omega) (by decide) rfl rfl ?_
          refine zx_icmp_ge (tgt := 73) (pc' := 55) (by first | exact rg_iv _ _ _ | omega) (by first | exact rg_iv _ _ _ | omega) jd_Branchwork_foldTree_52 (by decide) rfl (fun q => ?_) (fun q => ?_)
          · exfalso; omega
          refine jw_lload_n (pc' := 56) jd_Branchwork_foldTree_55 rfl rfl rfl ?_
          refine jw_aload (pc' := 58) jd_Branchwork_foldTree_56 rfl rfl ?_
          refine jw_iload (pc' := 60) jd_Branchwork_foldTree_58 rfl rfl ?_
          refine zx_callV0 (pc' := 63) hR (c_lineAt hc j (by omega)) jm_Content_lineAt jq_866 jc_Content jd_Branchwork_foldTree_60 (mc_Content _ (by assumption)) rfl rfl (Nat.le_of_ble_eq_true rfl) (by omega) (by decide) rfl rfl ?_
          refine zx_callS0 (pc' := 66) hR (d_fold e2 _) jm_Branchwork_fold jq_853 jd_Branchwork_foldTree_63 rfl rfl (Nat.le_of_ble_eq_true rfl) (by omega) (by decide) rfl rfl ?_
          refine jw_lstore_n (pc' := 67) (lc' := [(2, _), (3, _), (5, _), (6, _), (7, _)]) jd_Branchwork_foldTree_66 rfl (Nat.le_of_ble_eq_true rfl) ⟨rfl, rfl, rfl, rfl, rfl, trivial⟩ rfl ?_
          refine zx_iinc (pc' := 70) (lc' := [(2, _), (3, _), (5, _), (6, _), (7, _)]) jd_Branchwork_foldTree_67 rfl (Nat.le_of_ble_eq_true rfl) ⟨rfl, rfl, rfl, rfl, rfl, trivial⟩ rfl ?_
          refine jw_goto (tgt := 45) jd_Branchwork_foldTree_70 (by decide) ?_
          exact jh (j + 1) _ (by omega) he2
      refine jw_iload (pc' := 7) jd_Branchwork_foldTree_5 rfl rfl ?_
      refine zx_bipush (pc' := 9) (n := 12) jd_Branchwork_foldTree_7 (by decide +kernel) rfl ?_
      refine zx_icmp_ge (tgt := 79) (pc' := 12) (by first | exact rg_iv _ _ _ | omega) (by first | exact rg_iv _ _ _ | omega) jd_Branchwork_foldTree_9 (by decide) rfl (fun q => ?_) (fun q => ?_)
      · exfalso; omega
      refine jw_aload_n (pc' := 13) jd_Branchwork_foldTree_12 rfl rfl rfl ?_
      refine jw_iload (pc' := 15) jd_Branchwork_foldTree_13 rfl rfl ?_
      refine zx_callV0 (pc' := 18) hR (t_fileAt h1 i (by omega)) jm_Tree_fileAt jq_345 jc_Tree jd_Branchwork_foldTree_15 (mc_Tree _ (by assumption)) rfl rfl (Nat.le_of_ble_eq_true rfl) (by omega) (by decide) rfl rfl ?_
      refine jw_astore (pc' := 20) (lc' := [(2, _), (3, _), (5, _), (6, _)]) jd_Branchwork_foldTree_18 (Nat.le_of_ble_eq_true rfl) ⟨rfl, rfl, rfl, rfl, trivial⟩ rfl ?_
      refine jw_lload_n (pc' := 21) jd_Branchwork_foldTree_20 rfl rfl rfl ?_
      refine jw_aload (pc' := 23) jd_Branchwork_foldTree_21 rfl rfl ?_
      refine zx_callV0 (pc' := 26) hR (c_exists hc) jm_Content_exists jq_784 jc_Content jd_Branchwork_foldTree_23 (mc_Content _ (by assumption)) rfl rfl (Nat.le_of_ble_eq_true rfl) (by omega) (by decide) rfl rfl ?_
      refine zx_if_eq (tgt := 37) (pc' := 29) (by first | exact rg_iv _ _ _ | omega) jd_Branchwork_foldTree_26 (by decide) rfl (fun q2 => ?_) (fun q2 => ?_)
      · refine zx_iconst (pc' := 38) (n := -1) jd_Branchwork_foldTree_37 rfl ?_
        refine zx_callS0 (pc' := 41) hR (d_fold e _) jm_Branchwork_fold jq_853 jd_Branchwork_foldTree_38 rfl rfl (Nat.le_of_ble_eq_true rfl) (by omega) (by decide) rfl rfl ?_
        refine jw_lstore_n (pc' := 42) (lc' := [(2, _), (3, _), (5, _), (6, _)]) jd_Branchwork_foldTree_41 rfl (Nat.le_of_ble_eq_true rfl) ⟨rfl, rfl, rfl, rfl, trivial⟩ rfl ?_
        refine zx_iconst (pc' := 43) (n := 0) jd_Branchwork_foldTree_42 rfl ?_
        refine jw_istore (pc' := 45) (lc' := [(2, _), (3, _), (5, _), (6, _), (7, _)]) jd_Branchwork_foldTree_43 (Nat.le_of_ble_eq_true rfl) ⟨rfl, rfl, rfl, rfl, rfl, trivial⟩ rfl ?_
        exact inner (A i).2.1 0 _ (by omega) (by unfold ftS szF; rw [if_pos q2])
      · refine jw_aload (pc' := 31) jd_Branchwork_foldTree_29 rfl rfl ?_
        refine zx_callV0 (pc' := 34) hR (c_length hc) jm_Content_length jq_349 jc_Content jd_Branchwork_foldTree_31 (mc_Content _ (by assumption)) rfl rfl (Nat.le_of_ble_eq_true rfl) (by omega) (by decide) rfl rfl ?_
        refine jw_goto (tgt := 38) jd_Branchwork_foldTree_34 (by decide) ?_
        refine zx_callS0 (pc' := 41) hR (d_fold e _) jm_Branchwork_fold jq_853 jd_Branchwork_foldTree_38 rfl rfl (Nat.le_of_ble_eq_true rfl) (by omega) (by decide) rfl rfl ?_
        refine jw_lstore_n (pc' := 42) (lc' := [(2, _), (3, _), (5, _), (6, _)]) jd_Branchwork_foldTree_41 rfl (Nat.le_of_ble_eq_true rfl) ⟨rfl, rfl, rfl, rfl, trivial⟩ rfl ?_
        refine zx_iconst (pc' := 43) (n := 0) jd_Branchwork_foldTree_42 rfl ?_
        refine jw_istore (pc' := 45) (lc' := [(2, _), (3, _), (5, _), (6, _), (7, _)]) jd_Branchwork_foldTree_43 (Nat.le_of_ble_eq_true rfl) ⟨rfl, rfl, rfl, rfl, rfl, trivial⟩ rfl ?_
        exact inner (A i).2.1 0 _ (by omega) (by unfold ftS szF; rw [if_neg q2])
  exact loop 12 0 d (by omega) rfl
def fcF (Ts : Nat → zT) (f g tp : Nat → Int) (mg : Int) (nt : Nat → Int) (i : Nat) (d : Int64) : Int64 := ftF (Ts i) (it (fun q e => fdF e (ofF Ts f g tp mg (nt i) i q)) 6 0 (fdF d i))
theorem d_commit (h : GS o σ w Ts f g t c n kp l tp br cu mg) (i : Nat) (hi : i < 30) (hk : kp.testBit i = true) (d : Int64) : zRo mi_Branchwork_foldCommit 5 o [.ref (zb o), .long d, .int (iI i)] σ (some (.long (fcF Ts f g tp mg (fun i => iv σ (zb o + 59) i) i d))) := by
  refine z_spec (by decide +kernel) (Nat.le_of_ble_eq_true rfl) rfl (fun k hs hR hE => ?_)
  refine jw_lload_n (pc' := 1) jd_Branchwork_foldCommit_0 rfl rfl rfl ?_
  refine jw_iload_n (pc' := 2) jd_Branchwork_foldCommit_1 rfl rfl rfl ?_
  refine zx_callS0 (pc' := 5) hR (d_fold d i) jm_Branchwork_fold jq_853 jd_Branchwork_foldCommit_2 rfl rfl (Nat.le_of_ble_eq_true rfl) (by omega) (by decide) rfl rfl ?_
  refine jw_lstore (pc' := 7) (lc' := [(0, _), (3, _), (4, _)]) jd_Branchwork_foldCommit_5 (Nat.le_of_ble_eq_true rfl) ⟨rfl, rfl, rfl, trivial⟩ rfl ?_
  refine zx_iconst (pc' := 8) (n := 0) jd_Branchwork_foldCommit_7 rfl ?_
  refine jw_istore (pc' := 10) (lc' := [(0, _), (3, _), (4, _), (6, _)]) jd_Branchwork_foldCommit_8 (Nat.le_of_ble_eq_true rfl) ⟨rfl, rfl, rfl, rfl, trivial⟩ rfl ?_
  have loop : ∀ (m q : Nat) (e : Int64), q + m = 6 → it (fun q e => fdF e (ofF Ts f g tp mg (iv σ (zb o + 59) i) i q)) m q e = it (fun q e => fdF e (ofF Ts f g tp mg (iv σ (zb o + 59) i) i q)) 6 0 (fdF d i) → jw_X mi_Branchwork_foldCommit o k 0 0 10 [(0, .ref (zb o)), (3, .int (iI i)), (4, .long e), (6, .int (iI q))] [] (mm o σ) hs := by
    intro m
    induction m with
    | zero =>
      intro q e hq he
      have he : e = _ := he
      refine jw_iload (pc' := 12) jd_Branchwork_foldCommit_10 rfl rfl ?_
      refine zx_iconst (pc' := 13) (n := 5) jd_Branchwork_foldCommit_12 rfl ?_
      refine zx_icmp_gt (tgt := 36) (pc' := 16) (by first | exact rg_iv _ _ _ | omega) (by first | exact rg_iv _ _ _ | omega) jd_Branchwork_foldCommit_13 (by decide) rfl (fun q2 => ?_) (fun q2 => ?_)
      rotate_left
      · exfalso; omega
      refine jw_lload (pc' := 38) jd_Branchwork_foldCommit_36 rfl rfl ?_
      refine jw_aload_n (pc' := 39) jd_Branchwork_foldCommit_38 rfl rfl rfl ?_
      refine jw_get (pc' := 42) (kf := 1) jc_Branchwork (by decide) jq_240 jd_Branchwork_foldCommit_39 (mc_Branchwork _) rfl rfl ?_
      refine jw_iload_n (pc' := 43) jd_Branchwork_foldCommit_42 rfl rfl rfl ?_
      refine zx_callV0 (pc' := 46) hR (h_treeOf i (by omega)) jm_History_treeOf jq_452 jc_History jd_Branchwork_foldCommit_43 (mc_History _) rfl rfl (Nat.le_of_ble_eq_true rfl) (by omega) (by decide) rfl rfl ?_
      rw [trA_i hi]
      refine zx_callS0 (pc' := 49) hR (d_tree (h.2.2.1 i hi) e) jm_Branchwork_foldTree jq_863 jd_Branchwork_foldCommit_46 rfl rfl (Nat.le_of_ble_eq_true rfl) (by omega) (by decide) rfl rfl ?_
      refine zx_lret hE jd_Branchwork_foldCommit_49 rfl ?_
      exact ⟨by rw [he]; rfl, rfl⟩
    | succ m ih =>
      intro q e hq he
      refine jw_iload (pc' := 12) jd_Branchwork_foldCommit_10 rfl rfl ?_
      refine zx_iconst (pc' := 13) (n := 5) jd_Branchwork_foldCommit_12 rfl ?_
      refine zx_icmp_gt (tgt := 36) (pc' := 16) (by first | exact rg_iv _ _ _ | omega) (by first | exact rg_iv _ _ _ | omega) jd_Branchwork_foldCommit_13 (by decide) rfl (fun q2 => ?_) (fun q2 => ?_)
      · exfalso; omega
      refine jw_lload (pc' := 18) jd_Branchwork_foldCommit_16 rfl rfl ?_
      refine jw_aload_n (pc' := 19) jd_Branchwork_foldCommit_18 rfl rfl rfl ?_
      refine jw_iload_n (pc' := 20) jd_Branchwork_foldCommit_19 rfl rfl rfl ?_
      refine jw_iload (pc' := 22) jd_Branchwork_foldCommit_20 rfl rfl ?_
      refine zx_callV0 (pc' := 25) hR (f_of h i hi hk q (by omega)) jm_Branchwork_ofCommit jq_871 jc_Branchwork jd_Branchwork_foldCommit_22 (mc_Branchwork _) rfl rfl (Nat.le_of_ble_eq_true rfl) (by omega) (by decide) rfl rfl ?_
      refine zx_callS0 (pc' := 28) hR (d_fold e _) jm_Branchwork_fold jq_853 jd_Branchwork_foldCommit_25 rfl rfl (Nat.le_of_ble_eq_true rfl) (by omega) (by decide) rfl rfl ?_
      refine jw_lstore (pc' := 30) (lc' := [(0, _), (3, _), (4, _), (6, _)]) jd_Branchwork_foldCommit_28 (Nat.le_of_ble_eq_true rfl) ⟨rfl, rfl, rfl, rfl, trivial⟩ rfl ?_
      refine zx_iinc (pc' := 33) (lc' := [(0, _), (3, _), (4, _), (6, _)]) jd_Branchwork_foldCommit_30 rfl (Nat.le_of_ble_eq_true rfl) ⟨rfl, rfl, rfl, rfl, trivial⟩ rfl ?_
      refine jw_goto (tgt := 10) jd_Branchwork_foldCommit_33 (by decide) ?_
      exact ih (q + 1) _ (by omega) he
  exact loop 6 0 _ (by omega) rfl
noncomputable def dgF (w : zT) (Ts : Nat → zT) (f g t c : Nat → Int) (kp : Nat) (l : zK) (tp : Nat → Int) (br cu : Nat) (mg : Int) (nt : Nat → Int) : Int64 :=
  fdF (it (fun i e => if kp.testBit i then fcF Ts f g tp mg nt i e else e) 30 0 (ftF w (it (fun p e => fdF e (stF (w p) (trV Ts (tp cu) p))) 12 0 (it (fun b e => fdF e (tp b)) br 0 (it (fun q e => fdF e (nwF tp cu mg q)) 3 0 (it (fun q e => fdF e (mnF w t c kp l br q)) 6 0 58087)))))) (obF t c kp - obF t c (rchF f g tp mg))
theorem f_digest (h : GS o σ w Ts f g t c n kp l tp br cu mg) (hv : GV f g n kp tp br cu mg) (hl : l.1 = 0) : zSpec mi_Branchwork_digest 6 o [.ref (zb o)] σ (fun v s => v = some (.long (dgF w Ts f g t c kp l tp br cu mg (fun i => iv σ (zb o + 59) i))) ∧ zE o σ s) := by
  have v3 := hv.2.2.1
  have v4 := hv.2.2.2.1
  refine z_spec (by decide +kernel) (Nat.le_of_ble_eq_true rfl) rfl (fun k hs hR hE => ?_)
  refine jw_ldc2 (pc' := 3) jd_Branchwork_digest_0 jq_851 rfl ?_
  refine jw_lstore_n (pc' := 4) (lc' := [(0, _), (1, _)]) jd_Branchwork_digest_3 rfl (Nat.le_of_ble_eq_true rfl) ⟨rfl, rfl, trivial⟩ rfl ?_
  refine zx_iconst (pc' := 5) (n := 0) jd_Branchwork_digest_4 rfl ?_
  refine jw_istore_n (pc' := 6) (lc' := [(0, _), (1, _), (3, _)]) jd_Branchwork_digest_5 rfl (Nat.le_of_ble_eq_true rfl) ⟨rfl, rfl, rfl, trivial⟩ rfl ?_
  have L5 : ∀ (m i : Nat) (e : Int64) (s : zS), i + m = 30 → zE o σ s → fdF (it (fun i e => if kp.testBit i then fcF Ts f g tp mg (fun i => iv σ (zb o + 59) i) i e else e) m i e) (obF t c kp - obF t c (rchF f g tp mg)) = dgF w Ts f g t c kp l tp br cu mg (fun i => iv σ (zb o + 59) i) → jw_X mi_Branchwork_digest o k 0 0 111 [(0, .ref (zb o)), (1, .long e), (3, .int (iI i))] [] (mm o s) hs := by
    intro m
    induction m with
    | zero =>
      intro i e s hi E he
      have hs5 := (h.e E).2.2.2.2.1
      have hs51 := hs5.1
      have he : fdF e (obF t c kp - obF t c (rchF f g tp mg)) = _ := he
      refine jw_iload_n (pc' := 112) jd_Branchwork_digest_111 rfl rfl rfl ?_
      refine zx_bipush (pc' := 114) (n := 30) jd_Branchwork_digest_112 (by decide +kernel) rfl ?_
      refine zx_icmp_ge (tgt := 141) (pc' := 117) (by first | exact rg_iv _ _ _ | omega) (by first | exact rg_iv _ _ _ | omega) jd_Branchwork_digest_114 (by decide) rfl (fun q => ?_) (fun q => ?_)
      rotate_left
      · exfalso; omega
      refine zx_iconst (pc' := 142) (n := 0) jd_Branchwork_digest_141 rfl ?_
      refine jw_istore_n (pc' := 143) (lc' := [(0, _), (1, _), (3, _)]) jd_Branchwork_digest_142 rfl (Nat.le_of_ble_eq_true rfl) ⟨rfl, rfl, rfl, trivial⟩ rfl ?_
      refine jw_iload_n (pc' := 144) jd_Branchwork_digest_143 rfl rfl rfl ?_
      refine jw_aload_n (pc' := 145) jd_Branchwork_digest_144 rfl rfl rfl ?_
      refine jw_get (pc' := 148) (kf := 3) jc_Branchwork (by decide) jq_242 jd_Branchwork_digest_145 (mc_Branchwork _) rfl rfl ?_
      refine zx_callV0 (pc' := 151) hR (k_many hs5) jm_Conflicts_howMany jq_439 jc_Conflicts jd_Branchwork_digest_148 (mc_Conflicts _ (by assumption)) rfl rfl (Nat.le_of_ble_eq_true rfl) (by omega) (by decide) rfl rfl ?_
      rw [hl]
      refine zx_icmp_ge (tgt := 184) (pc' := 154) (by first | exact rg_iv _ _ _ | omega) (by first | exact rg_iv _ _ _ | omega) jd_Branchwork_digest_151 (by decide) rfl (fun q2 => ?_) (fun q2 => ?_)
      rotate_left
      · exfalso; omega
      refine jw_lload_n (pc' := 185) jd_Branchwork_digest_184 rfl rfl rfl ?_
      refine jw_aload_n (pc' := 186) jd_Branchwork_digest_185 rfl rfl rfl ?_
      refine zx_callV (pc' := 189) hR (f_garbage (h.e E)) jm_Branchwork_garbage jq_686 jc_Branchwork jd_Branchwork_digest_186 (mc_Branchwork _) rfl rfl (Nat.le_of_ble_eq_true rfl) (by omega) (by decide) rfl (fun v9 s1 q9 => ?_)
      obtain ⟨rfl, E1⟩ := q9
      refine zx_callS0 (pc' := 192) hR (d_fold e _) jm_Branchwork_fold jq_853 jd_Branchwork_digest_189 rfl rfl (Nat.le_of_ble_eq_true rfl) (by omega) (by decide) rfl rfl ?_
      refine zx_lret hE jd_Branchwork_digest_192 rfl ?_
      exact ⟨by rw [he], E.trans E1⟩
    | succ m ih =>
      intro i e s hi E he
      have hsg := h.e E
      have nt : (fun i => iv s (zb o + 59) i) = (fun i => iv σ (zb o + 59) i) := funext fun i => iv_cell (E _ (by omega) (by omega) (by omega) (by omega)) i
      refine jw_iload_n (pc' := 112) jd_Branchwork_digest_111 rfl rfl rfl ?_
      refine zx_bipush (pc' := 114) (n := 30) jd_Branchwork_digest_112 (by decide +kernel) rfl ?_
      refine zx_icmp_ge (tgt := 141) (pc' := 117) (by first | exact rg_iv _ _ _ | omega) (by first | exact rg_iv _ _ _ | omega) jd_Branchwork_digest_114 (by decide) rfl (fun q => ?_) (fun q => ?_)
      · exfalso; omega
      refine jw_aload_n (pc' := 118) jd_Branchwork_digest_117 rfl rfl rfl ?_
      refine jw_get (pc' := 121) (kf := 1) jc_Branchwork (by decide) jq_240 jd_Branchwork_digest_118 (mc_Branchwork _) rfl rfl ?_
      refine jw_iload_n (pc' := 122) jd_Branchwork_digest_121 rfl rfl rfl ?_
      refine zx_callV0 (pc' := 125) hR (h_holds hsg.2.2.2.1 i (by omega)) jm_History_holds jq_757 jc_History jd_Branchwork_digest_122 (mc_History _) rfl rfl (Nat.le_of_ble_eq_true rfl) (by omega) (by decide) rfl rfl ?_
      by_cases eb : kp.testBit i = true
      · rw [if_pos eb]
        refine zx_if_eq (tgt := 135) (pc' := 128) (by first | exact rg_iv _ _ _ | omega) jd_Branchwork_digest_125 (by decide) rfl (fun q2 => ?_) (fun q2 => ?_)
        · exfalso; omega
        refine jw_aload_n (pc' := 129) jd_Branchwork_digest_128 rfl rfl rfl ?_
        refine jw_lload_n (pc' := 130) jd_Branchwork_digest_129 rfl rfl rfl ?_
        refine jw_iload_n (pc' := 131) jd_Branchwork_digest_130 rfl rfl rfl ?_
        refine zx_callV0 (pc' := 134) hR (d_commit hsg i (by omega) eb e) jm_Branchwork_foldCommit jq_867 jc_Branchwork jd_Branchwork_digest_131 (mc_Branchwork _) rfl rfl (Nat.le_of_ble_eq_true rfl) (by omega) (by decide) rfl rfl ?_
        rw [nt]
        refine jw_lstore_n (pc' := 135) (lc' := [(0, _), (1, _), (3, _)]) jd_Branchwork_digest_134 rfl (Nat.le_of_ble_eq_true rfl) ⟨rfl, rfl, rfl, trivial⟩ rfl ?_
        refine zx_iinc (pc' := 138) (lc' := [(0, _), (1, _), (3, _)]) jd_Branchwork_digest_135 rfl (Nat.le_of_ble_eq_true rfl) ⟨rfl, rfl, rfl, trivial⟩ rfl ?_
        refine jw_goto (tgt := 111) jd_Branchwork_digest_138 (by decide) ?_
        refine ih (i + 1) _ s (by omega) E ?_
        rw [← he]
        simp only [it]
        rw [if_pos eb]
      · rw [if_neg eb]
        refine zx_if_eq (tgt := 135) (pc' := 128) (by first | exact rg_iv _ _ _ | omega) jd_Branchwork_digest_125 (by decide) rfl (fun q2 => ?_) (fun q2 => ?_)
        rotate_left
        · exfalso; omega
        refine zx_iinc (pc' := 138) (lc' := [(0, _), (1, _), (3, _)]) jd_Branchwork_digest_135 rfl (Nat.le_of_ble_eq_true rfl) ⟨rfl, rfl, rfl, trivial⟩ rfl ?_
        refine jw_goto (tgt := 111) jd_Branchwork_digest_138 (by decide) ?_
        refine ih (i + 1) _ s (by omega) E ?_
        rw [← he]
        simp only [it]
        rw [if_neg eb]
  have L4 : ∀ (m i : Nat) (e : Int64) (s : zS), i + m = 12 → zE o σ s → it (fun p e => fdF e (stF (w p) (trV Ts (tp cu) p))) m i e = it (fun p e => fdF e (stF (w p) (trV Ts (tp cu) p))) 12 0 (it (fun b e => fdF e (tp b)) br 0 (it (fun q e => fdF e (nwF tp cu mg q)) 3 0 (it (fun q e => fdF e (mnF w t c kp l br q)) 6 0 58087))) → jw_X mi_Branchwork_digest o k 0 0 78 [(0, .ref (zb o)), (1, .long e), (3, .int (iI i))] [] (mm o s) hs := by
    intro m
    induction m with
    | zero =>
      intro i e s hi E he
      have he : e = _ := he
      refine jw_iload_n (pc' := 79) jd_Branchwork_digest_78 rfl rfl rfl ?_
      refine zx_bipush (pc' := 81) (n := 12) jd_Branchwork_digest_79 (by decide +kernel) rfl ?_
      refine zx_icmp_ge (tgt := 100) (pc' := 84) (by first | exact rg_iv _ _ _ | omega) (by first | exact rg_iv _ _ _ | omega) jd_Branchwork_digest_81 (by decide) rfl (fun q => ?_) (fun q => ?_)
      rotate_left
      · exfalso; omega
      refine jw_lload_n (pc' := 101) jd_Branchwork_digest_100 rfl rfl rfl ?_
      refine jw_aload_n (pc' := 102) jd_Branchwork_digest_101 rfl rfl rfl ?_
      refine jw_get (pc' := 105) (kf := 0) jc_Branchwork (by decide) jq_239 jd_Branchwork_digest_102 (mc_Branchwork _) rfl rfl ?_
      refine zx_callS0 (pc' := 108) hR (d_tree (h.e E).1 e) jm_Branchwork_foldTree jq_863 jd_Branchwork_digest_105 rfl rfl (Nat.le_of_ble_eq_true rfl) (by omega) (by decide) rfl rfl ?_
      refine jw_lstore_n (pc' := 109) (lc' := [(0, _), (1, _)]) jd_Branchwork_digest_108 rfl (Nat.le_of_ble_eq_true rfl) ⟨rfl, rfl, trivial⟩ rfl ?_
      refine zx_iconst (pc' := 110) (n := 0) jd_Branchwork_digest_109 rfl ?_
      refine jw_istore_n (pc' := 111) (lc' := [(0, _), (1, _), (3, _)]) jd_Branchwork_digest_110 rfl (Nat.le_of_ble_eq_true rfl) ⟨rfl, rfl, rfl, trivial⟩ rfl ?_
      exact L5 30 0 _ s (by omega) E (by rw [he]; rfl)
    | succ m ih =>
      intro i e s hi E he
      refine jw_iload_n (pc' := 79) jd_Branchwork_digest_78 rfl rfl rfl ?_
      refine zx_bipush (pc' := 81) (n := 12) jd_Branchwork_digest_79 (by decide +kernel) rfl ?_
      refine zx_icmp_ge (tgt := 100) (pc' := 84) (by first | exact rg_iv _ _ _ | omega) (by first | exact rg_iv _ _ _ | omega) jd_Branchwork_digest_81 (by decide) rfl (fun q => ?_) (fun q => ?_)
      · exfalso; omega
      refine jw_lload_n (pc' := 85) jd_Branchwork_digest_84 rfl rfl rfl ?_
      refine jw_aload_n (pc' := 86) jd_Branchwork_digest_85 rfl rfl rfl ?_
      refine jw_iload_n (pc' := 87) jd_Branchwork_digest_86 rfl rfl rfl ?_
      refine zx_callV0 (pc' := 90) hR (f_status (h.e E) hv i (by omega)) jm_Branchwork_status jq_859 jc_Branchwork jd_Branchwork_digest_87 (mc_Branchwork _) rfl rfl (Nat.le_of_ble_eq_true rfl) (by omega) (by decide) rfl rfl ?_
      refine zx_callS0 (pc' := 93) hR (d_fold e _) jm_Branchwork_fold jq_853 jd_Branchwork_digest_90 rfl rfl (Nat.le_of_ble_eq_true rfl) (by omega) (by decide) rfl rfl ?_
      refine jw_lstore_n (pc' := 94) (lc' := [(0, _), (1, _), (3, _)]) jd_Branchwork_digest_93 rfl (Nat.le_of_ble_eq_true rfl) ⟨rfl, rfl, rfl, trivial⟩ rfl ?_
      refine zx_iinc (pc' := 97) (lc' := [(0, _), (1, _), (3, _)]) jd_Branchwork_digest_94 rfl (Nat.le_of_ble_eq_true rfl) ⟨rfl, rfl, rfl, trivial⟩ rfl ?_
      refine jw_goto (tgt := 78) jd_Branchwork_digest_97 (by decide) ?_
      exact ih (i + 1) _ s (by omega) E he
  have L3 : ∀ (m i : Nat) (e : Int64) (s : zS), i + m = br → zE o σ s → it (fun b e => fdF e (tp b)) m i e = it (fun b e => fdF e (tp b)) br 0 (it (fun q e => fdF e (nwF tp cu mg q)) 3 0 (it (fun q e => fdF e (mnF w t c kp l br q)) 6 0 58087)) → jw_X mi_Branchwork_digest o k 0 0 52 [(0, .ref (zb o)), (1, .long e), (3, .int (iI i))] [] (mm o s) hs := by
    intro m
    induction m with
    | zero =>
      intro i e s hi E he
      have he : e = _ := he
      have h8 := (h.e E).2.2.2.2.2.2.2.1
      refine jw_iload_n (pc' := 53) jd_Branchwork_digest_52 rfl rfl rfl ?_
      refine jw_aload_n (pc' := 54) jd_Branchwork_digest_53 rfl rfl rfl ?_
      refine zx_getI (pc' := 57) (kf := 7) jc_Branchwork (by decide) jq_246 jd_Branchwork_digest_54 (mc_Branchwork _) rfl rfl ?_
      refine zx_icmp_ge (tgt := 76) (pc' := 60) (by first | exact rg_iv _ _ _ | omega) (by first | exact rg_iv _ _ _ | omega) jd_Branchwork_digest_57 (by decide) rfl (fun q => ?_) (fun q => ?_)
      rotate_left
      · exfalso; omega
      refine zx_iconst (pc' := 77) (n := 0) jd_Branchwork_digest_76 rfl ?_
      refine jw_istore_n (pc' := 78) (lc' := [(0, _), (1, _), (3, _)]) jd_Branchwork_digest_77 rfl (Nat.le_of_ble_eq_true rfl) ⟨rfl, rfl, rfl, trivial⟩ rfl ?_
      exact L4 12 0 _ s (by omega) E (by rw [he])
    | succ m ih =>
      intro i e s hi E he
      have h8 := (h.e E).2.2.2.2.2.2.2.1
      refine jw_iload_n (pc' := 53) jd_Branchwork_digest_52 rfl rfl rfl ?_
      refine jw_aload_n (pc' := 54) jd_Branchwork_digest_53 rfl rfl rfl ?_
      refine zx_getI (pc' := 57) (kf := 7) jc_Branchwork (by decide) jq_246 jd_Branchwork_digest_54 (mc_Branchwork _) rfl rfl ?_
      refine zx_icmp_ge (tgt := 76) (pc' := 60) (by first | exact rg_iv _ _ _ | omega) (by first | exact rg_iv _ _ _ | omega) jd_Branchwork_digest_57 (by decide) rfl (fun q => ?_) (fun q => ?_)
      · exfalso; omega
      refine jw_lload_n (pc' := 61) jd_Branchwork_digest_60 rfl rfl rfl ?_
      refine jw_aload_n (pc' := 62) jd_Branchwork_digest_61 rfl rfl rfl ?_
      refine jw_iload_n (pc' := 63) jd_Branchwork_digest_62 rfl rfl rfl ?_
      refine zx_callV0 (pc' := 66) hR (f_at (h.e E) hv i (by omega)) jm_Branchwork_at jq_858 jc_Branchwork jd_Branchwork_digest_63 (mc_Branchwork _) rfl rfl (Nat.le_of_ble_eq_true rfl) (by omega) (by decide) rfl rfl ?_
      refine zx_callS0 (pc' := 69) hR (d_fold e _) jm_Branchwork_fold jq_853 jd_Branchwork_digest_66 rfl rfl (Nat.le_of_ble_eq_true rfl) (by omega) (by decide) rfl rfl ?_
      refine jw_lstore_n (pc' := 70) (lc' := [(0, _), (1, _), (3, _)]) jd_Branchwork_digest_69 rfl (Nat.le_of_ble_eq_true rfl) ⟨rfl, rfl, rfl, trivial⟩ rfl ?_
      refine zx_iinc (pc' := 73) (lc' := [(0, _), (1, _), (3, _)]) jd_Branchwork_digest_70 rfl (Nat.le_of_ble_eq_true rfl) ⟨rfl, rfl, rfl, trivial⟩ rfl ?_
      refine jw_goto (tgt := 52) jd_Branchwork_digest_73 (by decide) ?_
      exact ih (i + 1) _ s (by omega) E he
  have L2 : ∀ (m i : Nat) (e : Int64) (s : zS), i + m = 3 → zE o σ s → it (fun q e => fdF e (nwF tp cu mg q)) m i e = it (fun q e => fdF e (nwF tp cu mg q)) 3 0 (it (fun q e => fdF e (mnF w t c kp l br q)) 6 0 58087) → jw_X mi_Branchwork_digest o k 0 0 29 [(0, .ref (zb o)), (1, .long e), (3, .int (iI i))] [] (mm o s) hs := by
    intro m
    induction m with
    | zero =>
      intro i e s hi E he
      have he : e = _ := he
      refine jw_iload_n (pc' := 30) jd_Branchwork_digest_29 rfl rfl rfl ?_
      refine zx_iconst (pc' := 31) (n := 2) jd_Branchwork_digest_30 rfl ?_
      refine zx_icmp_gt (tgt := 50) (pc' := 34) (by first | exact rg_iv _ _ _ | omega) (by first | exact rg_iv _ _ _ | omega) jd_Branchwork_digest_31 (by decide) rfl (fun q => ?_) (fun q => ?_)
      rotate_left
      · exfalso; omega
      refine zx_iconst (pc' := 51) (n := 0) jd_Branchwork_digest_50 rfl ?_
      refine jw_istore_n (pc' := 52) (lc' := [(0, _), (1, _), (3, _)]) jd_Branchwork_digest_51 rfl (Nat.le_of_ble_eq_true rfl) ⟨rfl, rfl, rfl, trivial⟩ rfl ?_
      exact L3 br 0 _ s (by omega) E (by rw [he])
    | succ m ih =>
      intro i e s hi E he
      refine jw_iload_n (pc' := 30) jd_Branchwork_digest_29 rfl rfl rfl ?_
      refine zx_iconst (pc' := 31) (n := 2) jd_Branchwork_digest_30 rfl ?_
      refine zx_icmp_gt (tgt := 50) (pc' := 34) (by first | exact rg_iv _ _ _ | omega) (by first | exact rg_iv _ _ _ | omega) jd_Branchwork_digest_31 (by decide) rfl (fun q => ?_) (fun q => ?_)
      · exfalso; omega
      refine jw_lload_n (pc' := 35) jd_Branchwork_digest_34 rfl rfl rfl ?_
      refine jw_aload_n (pc' := 36) jd_Branchwork_digest_35 rfl rfl rfl ?_
      refine jw_iload_n (pc' := 37) jd_Branchwork_digest_36 rfl rfl rfl ?_
      refine zx_callV0 (pc' := 40) hR (f_now (h.e E) hv i (by omega)) jm_Branchwork_now jq_857 jc_Branchwork jd_Branchwork_digest_37 (mc_Branchwork _) rfl rfl (Nat.le_of_ble_eq_true rfl) (by omega) (by decide) rfl rfl ?_
      refine zx_callS0 (pc' := 43) hR (d_fold e _) jm_Branchwork_fold jq_853 jd_Branchwork_digest_40 rfl rfl (Nat.le_of_ble_eq_true rfl) (by omega) (by decide) rfl rfl ?_
      refine jw_lstore_n (pc' := 44) (lc' := [(0, _), (1, _), (3, _)]) jd_Branchwork_digest_43 rfl (Nat.le_of_ble_eq_true rfl) ⟨rfl, rfl, rfl, trivial⟩ rfl ?_
      refine zx_iinc (pc' := 47) (lc' := [(0, _), (1, _), (3, _)]) jd_Branchwork_digest_44 rfl (Nat.le_of_ble_eq_true rfl) ⟨rfl, rfl, rfl, trivial⟩ rfl ?_
      refine jw_goto (tgt := 29) jd_Branchwork_digest_47 (by decide) ?_
      exact ih (i + 1) _ s (by omega) E he
  have L1 : ∀ (m i : Nat) (e : Int64) (s : zS), i + m = 6 → zE o σ s → it (fun q e => fdF e (mnF w t c kp l br q)) m i e = it (fun q e => fdF e (mnF w t c kp l br q)) 6 0 58087 → jw_X mi_Branchwork_digest o k 0 0 6 [(0, .ref (zb o)), (1, .long e), (3, .int (iI i))] [] (mm o s) hs := by
    intro m
    induction m with
    | zero =>
      intro i e s hi E he
      have he : e = _ := he
      refine jw_iload_n (pc' := 7) jd_Branchwork_digest_6 rfl rfl rfl ?_
      refine zx_iconst (pc' := 8) (n := 5) jd_Branchwork_digest_7 rfl ?_
      refine zx_icmp_gt (tgt := 27) (pc' := 11) (by first | exact rg_iv _ _ _ | omega) (by first | exact rg_iv _ _ _ | omega) jd_Branchwork_digest_8 (by decide) rfl (fun q => ?_) (fun q => ?_)
      rotate_left
      · exfalso; omega
      refine zx_iconst (pc' := 28) (n := 0) jd_Branchwork_digest_27 rfl ?_
      refine jw_istore_n (pc' := 29) (lc' := [(0, _), (1, _), (3, _)]) jd_Branchwork_digest_28 rfl (Nat.le_of_ble_eq_true rfl) ⟨rfl, rfl, rfl, trivial⟩ rfl ?_
      exact L2 3 0 _ s (by omega) E (by rw [he])
    | succ m ih =>
      intro i e s hi E he
      refine jw_iload_n (pc' := 7) jd_Branchwork_digest_6 rfl rfl rfl ?_
      refine zx_iconst (pc' := 8) (n := 5) jd_Branchwork_digest_7 rfl ?_
      refine zx_icmp_gt (tgt := 27) (pc' := 11) (by first | exact rg_iv _ _ _ | omega) (by first | exact rg_iv _ _ _ | omega) jd_Branchwork_digest_8 (by decide) rfl (fun q => ?_) (fun q => ?_)
      · exfalso; omega
      refine jw_lload_n (pc' := 12) jd_Branchwork_digest_11 rfl rfl rfl ?_
      refine jw_aload_n (pc' := 13) jd_Branchwork_digest_12 rfl rfl rfl ?_
      refine jw_iload_n (pc' := 14) jd_Branchwork_digest_13 rfl rfl rfl ?_
      refine zx_callV (pc' := 17) hR (f_many (h.e E) i (by omega)) jm_Branchwork_many jq_852 jc_Branchwork jd_Branchwork_digest_14 (mc_Branchwork _) rfl rfl (Nat.le_of_ble_eq_true rfl) (by omega) (by decide) rfl (fun v9 s1 q9 => ?_)
      obtain ⟨rfl, E1⟩ := q9
      refine zx_callS0 (pc' := 20) hR (d_fold e _) jm_Branchwork_fold jq_853 jd_Branchwork_digest_17 rfl rfl (Nat.le_of_ble_eq_true rfl) (by omega) (by decide) rfl rfl ?_
      refine jw_lstore_n (pc' := 21) (lc' := [(0, _), (1, _), (3, _)]) jd_Branchwork_digest_20 rfl (Nat.le_of_ble_eq_true rfl) ⟨rfl, rfl, rfl, trivial⟩ rfl ?_
      refine zx_iinc (pc' := 24) (lc' := [(0, _), (1, _), (3, _)]) jd_Branchwork_digest_21 rfl (Nat.le_of_ble_eq_true rfl) ⟨rfl, rfl, rfl, trivial⟩ rfl ?_
      refine jw_goto (tgt := 6) jd_Branchwork_digest_24 (by decide) ?_
      exact ih (i + 1) _ s1 (by omega) (E.trans E1) he
  exact L1 6 0 58087 σ (by omega) zE.rf rfl
end
