theorem jd_Branchwork_put_0 : decode mi_Branchwork_put.2.1 0 = .ok (.iload_n 1, 1) := by decide +kernel
theorem jd_Branchwork_put_1 : decode mi_Branchwork_put.2.1 1 = .ok (.invokestatic 71, 3) := by decide +kernel
theorem jd_Branchwork_put_4 : decode mi_Branchwork_put.2.1 4 = .ok (.aload_n 0, 1) := by decide +kernel
theorem jd_Branchwork_put_5 : decode mi_Branchwork_put.2.1 5 = .ok (.getfield 12, 3) := by decide +kernel
theorem jd_Branchwork_put_8 : decode mi_Branchwork_put.2.1 8 = .ok (.iload_n 1, 1) := by decide +kernel
theorem jd_Branchwork_put_9 : decode mi_Branchwork_put.2.1 9 = .ok (.invokevirtual 75, 3) := by decide +kernel
theorem jd_Branchwork_put_12 : decode mi_Branchwork_put.2.1 12 = .ok (.astore 4, 2) := by decide +kernel
theorem jd_Branchwork_put_14 : decode mi_Branchwork_put.2.1 14 = .ok (.iload_n 2, 1) := by decide +kernel
theorem jd_Branchwork_put_15 : decode mi_Branchwork_put.2.1 15 = .ok (.ifCond .lt 12, 3) := by decide +kernel
theorem jd_Branchwork_put_18 : decode mi_Branchwork_put.2.1 18 = .ok (.iload_n 2, 1) := by decide +kernel
theorem jd_Branchwork_put_19 : decode mi_Branchwork_put.2.1 19 = .ok (.aload 4, 2) := by decide +kernel
theorem jd_Branchwork_put_21 : decode mi_Branchwork_put.2.1 21 = .ok (.invokevirtual 79, 3) := by decide +kernel
theorem jd_Branchwork_put_24 : decode mi_Branchwork_put.2.1 24 = .ok (.if_icmp .le 13, 3) := by decide +kernel
theorem jd_Branchwork_put_27 : decode mi_Branchwork_put.2.1 27 = .ok (.new 85, 3) := by decide +kernel
theorem jd_Branchwork_put_30 : decode mi_Branchwork_put.2.1 30 = .ok (.dup, 1) := by decide +kernel
theorem jd_Branchwork_put_31 : decode mi_Branchwork_put.2.1 31 = .ok (.ldc 87, 2) := by decide +kernel
theorem jd_Branchwork_put_33 : decode mi_Branchwork_put.2.1 33 = .ok (.invokespecial 89, 3) := by decide +kernel
theorem jd_Branchwork_put_36 : decode mi_Branchwork_put.2.1 36 = .ok (.athrow, 1) := by decide +kernel
theorem jd_Branchwork_put_37 : decode mi_Branchwork_put.2.1 37 = .ok (.iload_n 3, 1) := by decide +kernel
theorem jd_Branchwork_put_38 : decode mi_Branchwork_put.2.1 38 = .ok (.ifCond .lt 9, 3) := by decide +kernel
theorem jd_Branchwork_put_41 : decode mi_Branchwork_put.2.1 41 = .ok (.iload_n 3, 1) := by decide +kernel
theorem jd_Branchwork_put_42 : decode mi_Branchwork_put.2.1 42 = .ok (.bipush 99, 2) := by decide +kernel
theorem jd_Branchwork_put_44 : decode mi_Branchwork_put.2.1 44 = .ok (.if_icmp .le 13, 3) := by decide +kernel
theorem jd_Branchwork_put_47 : decode mi_Branchwork_put.2.1 47 = .ok (.new 92, 3) := by decide +kernel
theorem jd_Branchwork_put_50 : decode mi_Branchwork_put.2.1 50 = .ok (.dup, 1) := by decide +kernel
theorem jd_Branchwork_put_51 : decode mi_Branchwork_put.2.1 51 = .ok (.ldc 94, 2) := by decide +kernel
theorem jd_Branchwork_put_53 : decode mi_Branchwork_put.2.1 53 = .ok (.invokespecial 96, 3) := by decide +kernel
theorem jd_Branchwork_put_56 : decode mi_Branchwork_put.2.1 56 = .ok (.athrow, 1) := by decide +kernel
theorem jd_Branchwork_put_57 : decode mi_Branchwork_put.2.1 57 = .ok (.aload 4, 2) := by decide +kernel
theorem jd_Branchwork_put_59 : decode mi_Branchwork_put.2.1 59 = .ok (.invokevirtual 97, 3) := by decide +kernel
theorem jd_Branchwork_put_62 : decode mi_Branchwork_put.2.1 62 = .ok (.ifCond .eq 13, 3) := by decide +kernel
theorem jd_Branchwork_put_65 : decode mi_Branchwork_put.2.1 65 = .ok (.new 101, 3) := by decide +kernel
theorem jd_Branchwork_put_68 : decode mi_Branchwork_put.2.1 68 = .ok (.dup, 1) := by decide +kernel
theorem jd_Branchwork_put_69 : decode mi_Branchwork_put.2.1 69 = .ok (.ldc 103, 2) := by decide +kernel
theorem jd_Branchwork_put_71 : decode mi_Branchwork_put.2.1 71 = .ok (.invokespecial 105, 3) := by decide +kernel
theorem jd_Branchwork_put_74 : decode mi_Branchwork_put.2.1 74 = .ok (.athrow, 1) := by decide +kernel
theorem jd_Branchwork_put_75 : decode mi_Branchwork_put.2.1 75 = .ok (.aload 4, 2) := by decide +kernel
theorem jd_Branchwork_put_77 : decode mi_Branchwork_put.2.1 77 = .ok (.iload_n 2, 1) := by decide +kernel
theorem jd_Branchwork_put_78 : decode mi_Branchwork_put.2.1 78 = .ok (.iload_n 3, 1) := by decide +kernel
theorem jd_Branchwork_put_79 : decode mi_Branchwork_put.2.1 79 = .ok (.invokevirtual 106, 3) := by decide +kernel
theorem jd_Branchwork_put_82 : decode mi_Branchwork_put.2.1 82 = .ok (.aload 4, 2) := by decide +kernel
theorem jd_Branchwork_put_84 : decode mi_Branchwork_put.2.1 84 = .ok (.invokevirtual 79, 3) := by decide +kernel
theorem jd_Branchwork_put_87 : decode mi_Branchwork_put.2.1 87 = .ok (.ireturn, 1) := by decide +kernel
theorem jd_Branchwork_rename_0 : decode mi_Branchwork_rename.2.1 0 = .ok (.aload_n 0, 1) := by decide +kernel
theorem jd_Branchwork_rename_1 : decode mi_Branchwork_rename.2.1 1 = .ok (.getfield 12, 3) := by decide +kernel
theorem jd_Branchwork_rename_4 : decode mi_Branchwork_rename.2.1 4 = .ok (.iload_n 1, 1) := by decide +kernel
theorem jd_Branchwork_rename_5 : decode mi_Branchwork_rename.2.1 5 = .ok (.invokestatic 110, 3) := by decide +kernel
theorem jd_Branchwork_rename_8 : decode mi_Branchwork_rename.2.1 8 = .ok (.iload_n 2, 1) := by decide +kernel
theorem jd_Branchwork_rename_9 : decode mi_Branchwork_rename.2.1 9 = .ok (.invokestatic 71, 3) := by decide +kernel
theorem jd_Branchwork_rename_12 : decode mi_Branchwork_rename.2.1 12 = .ok (.aload_n 0, 1) := by decide +kernel
theorem jd_Branchwork_rename_13 : decode mi_Branchwork_rename.2.1 13 = .ok (.getfield 12, 3) := by decide +kernel
theorem jd_Branchwork_rename_16 : decode mi_Branchwork_rename.2.1 16 = .ok (.iload_n 2, 1) := by decide +kernel
theorem jd_Branchwork_rename_17 : decode mi_Branchwork_rename.2.1 17 = .ok (.invokevirtual 121, 3) := by decide +kernel
theorem jd_Branchwork_rename_20 : decode mi_Branchwork_rename.2.1 20 = .ok (.ifCond .eq 13, 3) := by decide +kernel
theorem jd_Branchwork_rename_23 : decode mi_Branchwork_rename.2.1 23 = .ok (.new 101, 3) := by decide +kernel
theorem jd_Branchwork_rename_26 : decode mi_Branchwork_rename.2.1 26 = .ok (.dup, 1) := by decide +kernel
theorem jd_Branchwork_rename_27 : decode mi_Branchwork_rename.2.1 27 = .ok (.ldc 125, 2) := by decide +kernel
theorem jd_Branchwork_rename_29 : decode mi_Branchwork_rename.2.1 29 = .ok (.invokespecial 105, 3) := by decide +kernel
theorem jd_Branchwork_rename_32 : decode mi_Branchwork_rename.2.1 32 = .ok (.athrow, 1) := by decide +kernel
theorem jd_Branchwork_rename_33 : decode mi_Branchwork_rename.2.1 33 = .ok (.aload_n 0, 1) := by decide +kernel
theorem jd_Branchwork_rename_34 : decode mi_Branchwork_rename.2.1 34 = .ok (.getfield 12, 3) := by decide +kernel
theorem jd_Branchwork_rename_37 : decode mi_Branchwork_rename.2.1 37 = .ok (.iload_n 1, 1) := by decide +kernel
theorem jd_Branchwork_rename_38 : decode mi_Branchwork_rename.2.1 38 = .ok (.invokevirtual 75, 3) := by decide +kernel
theorem jd_Branchwork_rename_41 : decode mi_Branchwork_rename.2.1 41 = .ok (.astore_n 3, 1) := by decide +kernel
theorem jd_Branchwork_rename_42 : decode mi_Branchwork_rename.2.1 42 = .ok (.aload_n 0, 1) := by decide +kernel
theorem jd_Branchwork_rename_43 : decode mi_Branchwork_rename.2.1 43 = .ok (.getfield 12, 3) := by decide +kernel
theorem jd_Branchwork_rename_46 : decode mi_Branchwork_rename.2.1 46 = .ok (.iload_n 2, 1) := by decide +kernel
theorem jd_Branchwork_rename_47 : decode mi_Branchwork_rename.2.1 47 = .ok (.invokevirtual 75, 3) := by decide +kernel
theorem jd_Branchwork_rename_50 : decode mi_Branchwork_rename.2.1 50 = .ok (.aload_n 3, 1) := by decide +kernel
theorem jd_Branchwork_rename_51 : decode mi_Branchwork_rename.2.1 51 = .ok (.invokevirtual 127, 3) := by decide +kernel
theorem jd_Branchwork_rename_54 : decode mi_Branchwork_rename.2.1 54 = .ok (.aload_n 3, 1) := by decide +kernel
theorem jd_Branchwork_rename_55 : decode mi_Branchwork_rename.2.1 55 = .ok (.invokevirtual 131, 3) := by decide +kernel
theorem jd_Branchwork_rename_58 : decode mi_Branchwork_rename.2.1 58 = .ok (.aload_n 0, 1) := by decide +kernel
theorem jd_Branchwork_rename_59 : decode mi_Branchwork_rename.2.1 59 = .ok (.getfield 12, 3) := by decide +kernel
theorem jd_Branchwork_rename_62 : decode mi_Branchwork_rename.2.1 62 = .ok (.iload_n 2, 1) := by decide +kernel
theorem jd_Branchwork_rename_63 : decode mi_Branchwork_rename.2.1 63 = .ok (.invokevirtual 75, 3) := by decide +kernel
theorem jd_Branchwork_rename_66 : decode mi_Branchwork_rename.2.1 66 = .ok (.invokevirtual 79, 3) := by decide +kernel
theorem jd_Branchwork_rename_69 : decode mi_Branchwork_rename.2.1 69 = .ok (.ireturn, 1) := by decide +kernel
theorem jd_Branchwork_commit_0 : decode mi_Branchwork_commit.2.1 0 = .ok (.iload_n 1, 1) := by decide +kernel
theorem jd_Branchwork_commit_1 : decode mi_Branchwork_commit.2.1 1 = .ok (.ifCond .lt 10, 3) := by decide +kernel
theorem jd_Branchwork_commit_4 : decode mi_Branchwork_commit.2.1 4 = .ok (.iload_n 1, 1) := by decide +kernel
theorem jd_Branchwork_commit_5 : decode mi_Branchwork_commit.2.1 5 = .ok (.sipush 999, 3) := by decide +kernel
theorem jd_Branchwork_commit_8 : decode mi_Branchwork_commit.2.1 8 = .ok (.if_icmp .le 13, 3) := by decide +kernel
theorem jd_Branchwork_commit_11 : decode mi_Branchwork_commit.2.1 11 = .ok (.new 92, 3) := by decide +kernel
theorem jd_Branchwork_commit_14 : decode mi_Branchwork_commit.2.1 14 = .ok (.dup, 1) := by decide +kernel
theorem jd_Branchwork_commit_15 : decode mi_Branchwork_commit.2.1 15 = .ok (.ldc 148, 2) := by decide +kernel
theorem jd_Branchwork_commit_17 : decode mi_Branchwork_commit.2.1 17 = .ok (.invokespecial 96, 3) := by decide +kernel
theorem jd_Branchwork_commit_20 : decode mi_Branchwork_commit.2.1 20 = .ok (.athrow, 1) := by decide +kernel
theorem jd_Branchwork_commit_21 : decode mi_Branchwork_commit.2.1 21 = .ok (.aload_n 0, 1) := by decide +kernel
theorem jd_Branchwork_commit_22 : decode mi_Branchwork_commit.2.1 22 = .ok (.getfield 19, 3) := by decide +kernel
theorem jd_Branchwork_commit_25 : decode mi_Branchwork_commit.2.1 25 = .ok (.invokevirtual 150, 3) := by decide +kernel
theorem jd_Branchwork_commit_28 : decode mi_Branchwork_commit.2.1 28 = .ok (.ifCond .eq 13, 3) := by decide +kernel
theorem jd_Branchwork_commit_31 : decode mi_Branchwork_commit.2.1 31 = .ok (.new 101, 3) := by decide +kernel
theorem jd_Branchwork_commit_34 : decode mi_Branchwork_commit.2.1 34 = .ok (.dup, 1) := by decide +kernel
theorem jd_Branchwork_commit_35 : decode mi_Branchwork_commit.2.1 35 = .ok (.ldc 151, 2) := by decide +kernel
theorem jd_Branchwork_commit_37 : decode mi_Branchwork_commit.2.1 37 = .ok (.invokespecial 105, 3) := by decide +kernel
theorem jd_Branchwork_commit_40 : decode mi_Branchwork_commit.2.1 40 = .ok (.athrow, 1) := by decide +kernel
theorem jd_Branchwork_commit_41 : decode mi_Branchwork_commit.2.1 41 = .ok (.aload_n 0, 1) := by decide +kernel
theorem jd_Branchwork_commit_42 : decode mi_Branchwork_commit.2.1 42 = .ok (.getfield 33, 3) := by decide +kernel
theorem jd_Branchwork_commit_45 : decode mi_Branchwork_commit.2.1 45 = .ok (.invokevirtual 153, 3) := by decide +kernel
theorem jd_Branchwork_commit_48 : decode mi_Branchwork_commit.2.1 48 = .ok (.ifCond .le 13, 3) := by decide +kernel
theorem jd_Branchwork_commit_51 : decode mi_Branchwork_commit.2.1 51 = .ok (.new 101, 3) := by decide +kernel
theorem jd_Branchwork_commit_54 : decode mi_Branchwork_commit.2.1 54 = .ok (.dup, 1) := by decide +kernel
theorem jd_Branchwork_commit_55 : decode mi_Branchwork_commit.2.1 55 = .ok (.ldc 156, 2) := by decide +kernel
theorem jd_Branchwork_commit_57 : decode mi_Branchwork_commit.2.1 57 = .ok (.invokespecial 105, 3) := by decide +kernel
theorem jd_Branchwork_commit_60 : decode mi_Branchwork_commit.2.1 60 = .ok (.athrow, 1) := by decide +kernel
theorem jd_Branchwork_commit_61 : decode mi_Branchwork_commit.2.1 61 = .ok (.aload_n 0, 1) := by decide +kernel
theorem jd_Branchwork_commit_62 : decode mi_Branchwork_commit.2.1 62 = .ok (.getfield 62, 3) := by decide +kernel
theorem jd_Branchwork_commit_65 : decode mi_Branchwork_commit.2.1 65 = .ok (.iconst (-1), 1) := by decide +kernel
theorem jd_Branchwork_commit_66 : decode mi_Branchwork_commit.2.1 66 = .ok (.if_icmp .ne 20, 3) := by decide +kernel
theorem jd_Branchwork_commit_69 : decode mi_Branchwork_commit.2.1 69 = .ok (.aload_n 0, 1) := by decide +kernel
theorem jd_Branchwork_commit_70 : decode mi_Branchwork_commit.2.1 70 = .ok (.invokevirtual 158, 3) := by decide +kernel
theorem jd_Branchwork_commit_73 : decode mi_Branchwork_commit.2.1 73 = .ok (.ifCond .eq 13, 3) := by decide +kernel
theorem jd_Branchwork_commit_76 : decode mi_Branchwork_commit.2.1 76 = .ok (.new 101, 3) := by decide +kernel
theorem jd_Branchwork_commit_79 : decode mi_Branchwork_commit.2.1 79 = .ok (.dup, 1) := by decide +kernel
theorem jd_Branchwork_commit_80 : decode mi_Branchwork_commit.2.1 80 = .ok (.ldc 161, 2) := by decide +kernel
theorem jd_Branchwork_commit_82 : decode mi_Branchwork_commit.2.1 82 = .ok (.invokespecial 105, 3) := by decide +kernel
theorem jd_Branchwork_commit_85 : decode mi_Branchwork_commit.2.1 85 = .ok (.athrow, 1) := by decide +kernel
theorem jd_Branchwork_commit_86 : decode mi_Branchwork_commit.2.1 86 = .ok (.aload_n 0, 1) := by decide +kernel
theorem jd_Branchwork_commit_87 : decode mi_Branchwork_commit.2.1 87 = .ok (.getfield 19, 3) := by decide +kernel
theorem jd_Branchwork_commit_90 : decode mi_Branchwork_commit.2.1 90 = .ok (.aload_n 0, 1) := by decide +kernel
theorem jd_Branchwork_commit_91 : decode mi_Branchwork_commit.2.1 91 = .ok (.getfield 12, 3) := by decide +kernel
theorem jd_Branchwork_commit_94 : decode mi_Branchwork_commit.2.1 94 = .ok (.iload_n 1, 1) := by decide +kernel
theorem jd_Branchwork_commit_95 : decode mi_Branchwork_commit.2.1 95 = .ok (.aload_n 0, 1) := by decide +kernel
theorem jd_Branchwork_commit_96 : decode mi_Branchwork_commit.2.1 96 = .ok (.invokevirtual 137, 3) := by decide +kernel
theorem jd_Branchwork_commit_99 : decode mi_Branchwork_commit.2.1 99 = .ok (.aload_n 0, 1) := by decide +kernel
theorem jd_Branchwork_commit_100 : decode mi_Branchwork_commit.2.1 100 = .ok (.getfield 62, 3) := by decide +kernel
theorem jd_Branchwork_commit_103 : decode mi_Branchwork_commit.2.1 103 = .ok (.invokevirtual 163, 3) := by decide +kernel
theorem jd_Branchwork_commit_106 : decode mi_Branchwork_commit.2.1 106 = .ok (.istore_n 2, 1) := by decide +kernel
theorem jd_Branchwork_commit_107 : decode mi_Branchwork_commit.2.1 107 = .ok (.aload_n 0, 1) := by decide +kernel
theorem jd_Branchwork_commit_108 : decode mi_Branchwork_commit.2.1 108 = .ok (.getfield 51, 3) := by decide +kernel
theorem jd_Branchwork_commit_111 : decode mi_Branchwork_commit.2.1 111 = .ok (.aload_n 0, 1) := by decide +kernel
theorem jd_Branchwork_commit_112 : decode mi_Branchwork_commit.2.1 112 = .ok (.getfield 59, 3) := by decide +kernel
theorem jd_Branchwork_commit_115 : decode mi_Branchwork_commit.2.1 115 = .ok (.iload_n 2, 1) := by decide +kernel
theorem jd_Branchwork_commit_116 : decode mi_Branchwork_commit.2.1 116 = .ok (.iastore, 1) := by decide +kernel
theorem jd_Branchwork_commit_117 : decode mi_Branchwork_commit.2.1 117 = .ok (.aload_n 0, 1) := by decide +kernel
theorem jd_Branchwork_commit_118 : decode mi_Branchwork_commit.2.1 118 = .ok (.iconst (-1), 1) := by decide +kernel
theorem jd_Branchwork_commit_119 : decode mi_Branchwork_commit.2.1 119 = .ok (.putfield 62, 3) := by decide +kernel
theorem jd_Branchwork_commit_122 : decode mi_Branchwork_commit.2.1 122 = .ok (.iload_n 2, 1) := by decide +kernel
theorem jd_Branchwork_commit_123 : decode mi_Branchwork_commit.2.1 123 = .ok (.ireturn, 1) := by decide +kernel
theorem jd_Branchwork_branch_0 : decode mi_Branchwork_branch.2.1 0 = .ok (.aload_n 0, 1) := by decide +kernel
theorem jd_Branchwork_branch_1 : decode mi_Branchwork_branch.2.1 1 = .ok (.invokevirtual 137, 3) := by decide +kernel
theorem jd_Branchwork_branch_4 : decode mi_Branchwork_branch.2.1 4 = .ok (.iconst (-1), 1) := by decide +kernel
theorem jd_Branchwork_branch_5 : decode mi_Branchwork_branch.2.1 5 = .ok (.if_icmp .ne 13, 3) := by decide +kernel
theorem jd_Branchwork_branch_8 : decode mi_Branchwork_branch.2.1 8 = .ok (.new 101, 3) := by decide +kernel
theorem jd_Branchwork_branch_11 : decode mi_Branchwork_branch.2.1 11 = .ok (.dup, 1) := by decide +kernel
theorem jd_Branchwork_branch_12 : decode mi_Branchwork_branch.2.1 12 = .ok (.ldc 167, 2) := by decide +kernel
theorem jd_Branchwork_branch_14 : decode mi_Branchwork_branch.2.1 14 = .ok (.invokespecial 105, 3) := by decide +kernel
theorem jd_Branchwork_branch_17 : decode mi_Branchwork_branch.2.1 17 = .ok (.athrow, 1) := by decide +kernel
theorem jd_Branchwork_branch_18 : decode mi_Branchwork_branch.2.1 18 = .ok (.aload_n 0, 1) := by decide +kernel
theorem jd_Branchwork_branch_19 : decode mi_Branchwork_branch.2.1 19 = .ok (.getfield 55, 3) := by decide +kernel
theorem jd_Branchwork_branch_22 : decode mi_Branchwork_branch.2.1 22 = .ok (.iconst 5, 1) := by decide +kernel
theorem jd_Branchwork_branch_23 : decode mi_Branchwork_branch.2.1 23 = .ok (.if_icmp .lt 13, 3) := by decide +kernel
theorem jd_Branchwork_branch_26 : decode mi_Branchwork_branch.2.1 26 = .ok (.new 101, 3) := by decide +kernel
theorem jd_Branchwork_branch_29 : decode mi_Branchwork_branch.2.1 29 = .ok (.dup, 1) := by decide +kernel
theorem jd_Branchwork_branch_30 : decode mi_Branchwork_branch.2.1 30 = .ok (.ldc 169, 2) := by decide +kernel
theorem jd_Branchwork_branch_32 : decode mi_Branchwork_branch.2.1 32 = .ok (.invokespecial 105, 3) := by decide +kernel
theorem jd_Branchwork_branch_35 : decode mi_Branchwork_branch.2.1 35 = .ok (.athrow, 1) := by decide +kernel
theorem jd_Branchwork_branch_36 : decode mi_Branchwork_branch.2.1 36 = .ok (.aload_n 0, 1) := by decide +kernel
theorem jd_Branchwork_branch_37 : decode mi_Branchwork_branch.2.1 37 = .ok (.getfield 51, 3) := by decide +kernel
theorem jd_Branchwork_branch_40 : decode mi_Branchwork_branch.2.1 40 = .ok (.aload_n 0, 1) := by decide +kernel
theorem jd_Branchwork_branch_41 : decode mi_Branchwork_branch.2.1 41 = .ok (.getfield 55, 3) := by decide +kernel
theorem jd_Branchwork_branch_44 : decode mi_Branchwork_branch.2.1 44 = .ok (.aload_n 0, 1) := by decide +kernel
theorem jd_Branchwork_branch_45 : decode mi_Branchwork_branch.2.1 45 = .ok (.invokevirtual 137, 3) := by decide +kernel
theorem jd_Branchwork_branch_48 : decode mi_Branchwork_branch.2.1 48 = .ok (.iastore, 1) := by decide +kernel
theorem jd_Branchwork_branch_49 : decode mi_Branchwork_branch.2.1 49 = .ok (.aload_n 0, 1) := by decide +kernel
theorem jd_Branchwork_branch_50 : decode mi_Branchwork_branch.2.1 50 = .ok (.dup, 1) := by decide +kernel
theorem jd_Branchwork_branch_51 : decode mi_Branchwork_branch.2.1 51 = .ok (.getfield 55, 3) := by decide +kernel
theorem jd_Branchwork_branch_54 : decode mi_Branchwork_branch.2.1 54 = .ok (.iconst 1, 1) := by decide +kernel
theorem jd_Branchwork_branch_55 : decode mi_Branchwork_branch.2.1 55 = .ok (.iadd, 1) := by decide +kernel
theorem jd_Branchwork_branch_56 : decode mi_Branchwork_branch.2.1 56 = .ok (.putfield 55, 3) := by decide +kernel
theorem jd_Branchwork_branch_59 : decode mi_Branchwork_branch.2.1 59 = .ok (.aload_n 0, 1) := by decide +kernel
theorem jd_Branchwork_branch_60 : decode mi_Branchwork_branch.2.1 60 = .ok (.getfield 55, 3) := by decide +kernel
theorem jd_Branchwork_branch_63 : decode mi_Branchwork_branch.2.1 63 = .ok (.iconst 1, 1) := by decide +kernel
theorem jd_Branchwork_branch_64 : decode mi_Branchwork_branch.2.1 64 = .ok (.isub, 1) := by decide +kernel
theorem jd_Branchwork_branch_65 : decode mi_Branchwork_branch.2.1 65 = .ok (.ireturn, 1) := by decide +kernel
theorem jd_Branchwork_change_0 : decode mi_Branchwork_change.2.1 0 = .ok (.aload_n 0, 1) := by decide +kernel
theorem jd_Branchwork_change_1 : decode mi_Branchwork_change.2.1 1 = .ok (.iload_n 1, 1) := by decide +kernel
theorem jd_Branchwork_change_2 : decode mi_Branchwork_change.2.1 2 = .ok (.invokevirtual 171, 3) := by decide +kernel
theorem jd_Branchwork_change_5 : decode mi_Branchwork_change.2.1 5 = .ok (.aload_n 0, 1) := by decide +kernel
theorem jd_Branchwork_change_6 : decode mi_Branchwork_change.2.1 6 = .ok (.invokevirtual 174, 3) := by decide +kernel
theorem jd_Branchwork_change_9 : decode mi_Branchwork_change.2.1 9 = .ok (.aload_n 0, 1) := by decide +kernel
theorem jd_Branchwork_change_10 : decode mi_Branchwork_change.2.1 10 = .ok (.getfield 59, 3) := by decide +kernel
theorem jd_Branchwork_change_13 : decode mi_Branchwork_change.2.1 13 = .ok (.istore_n 2, 1) := by decide +kernel
theorem jd_Branchwork_change_14 : decode mi_Branchwork_change.2.1 14 = .ok (.aload_n 0, 1) := by decide +kernel
theorem jd_Branchwork_change_15 : decode mi_Branchwork_change.2.1 15 = .ok (.iload_n 1, 1) := by decide +kernel
theorem jd_Branchwork_change_16 : decode mi_Branchwork_change.2.1 16 = .ok (.putfield 59, 3) := by decide +kernel
theorem jd_Branchwork_change_19 : decode mi_Branchwork_change.2.1 19 = .ok (.aload_n 0, 1) := by decide +kernel
theorem jd_Branchwork_change_20 : decode mi_Branchwork_change.2.1 20 = .ok (.getfield 12, 3) := by decide +kernel
theorem jd_Branchwork_change_23 : decode mi_Branchwork_change.2.1 23 = .ok (.aload_n 0, 1) := by decide +kernel
theorem jd_Branchwork_change_24 : decode mi_Branchwork_change.2.1 24 = .ok (.getfield 19, 3) := by decide +kernel
theorem jd_Branchwork_change_27 : decode mi_Branchwork_change.2.1 27 = .ok (.aload_n 0, 1) := by decide +kernel
theorem jd_Branchwork_change_28 : decode mi_Branchwork_change.2.1 28 = .ok (.invokevirtual 137, 3) := by decide +kernel
theorem jd_Branchwork_change_31 : decode mi_Branchwork_change.2.1 31 = .ok (.invokevirtual 140, 3) := by decide +kernel
theorem jd_Branchwork_change_34 : decode mi_Branchwork_change.2.1 34 = .ok (.invokevirtual 177, 3) := by decide +kernel
theorem jd_Branchwork_change_37 : decode mi_Branchwork_change.2.1 37 = .ok (.iload_n 2, 1) := by decide +kernel
theorem jd_Branchwork_change_38 : decode mi_Branchwork_change.2.1 38 = .ok (.ireturn, 1) := by decide +kernel
theorem jd_Branchwork_settle_0 : decode mi_Branchwork_settle.2.1 0 = .ok (.aload_n 0, 1) := by decide +kernel
theorem jd_Branchwork_settle_1 : decode mi_Branchwork_settle.2.1 1 = .ok (.iload_n 1, 1) := by decide +kernel
theorem jd_Branchwork_settle_2 : decode mi_Branchwork_settle.2.1 2 = .ok (.invokevirtual 205, 3) := by decide +kernel
theorem jd_Branchwork_settle_5 : decode mi_Branchwork_settle.2.1 5 = .ok (.aload_n 0, 1) := by decide +kernel
theorem jd_Branchwork_settle_6 : decode mi_Branchwork_settle.2.1 6 = .ok (.getfield 33, 3) := by decide +kernel
theorem jd_Branchwork_settle_9 : decode mi_Branchwork_settle.2.1 9 = .ok (.iload_n 1, 1) := by decide +kernel
theorem jd_Branchwork_settle_10 : decode mi_Branchwork_settle.2.1 10 = .ok (.invokevirtual 208, 3) := by decide +kernel
theorem jd_Branchwork_settle_13 : decode mi_Branchwork_settle.2.1 13 = .ok (.aload_n 0, 1) := by decide +kernel
theorem jd_Branchwork_settle_14 : decode mi_Branchwork_settle.2.1 14 = .ok (.getfield 33, 3) := by decide +kernel
theorem jd_Branchwork_settle_17 : decode mi_Branchwork_settle.2.1 17 = .ok (.invokevirtual 153, 3) := by decide +kernel
theorem jd_Branchwork_settle_20 : decode mi_Branchwork_settle.2.1 20 = .ok (.ireturn, 1) := by decide +kernel
theorem jd_Branchwork_merge_0 : decode mi_Branchwork_merge.2.1 0 = .ok (.aload_n 0, 1) := by decide +kernel
theorem jd_Branchwork_merge_1 : decode mi_Branchwork_merge.2.1 1 = .ok (.iload_n 1, 1) := by decide +kernel
theorem jd_Branchwork_merge_2 : decode mi_Branchwork_merge.2.1 2 = .ok (.invokevirtual 171, 3) := by decide +kernel
theorem jd_Branchwork_merge_5 : decode mi_Branchwork_merge.2.1 5 = .ok (.aload_n 0, 1) := by decide +kernel
theorem jd_Branchwork_merge_6 : decode mi_Branchwork_merge.2.1 6 = .ok (.invokevirtual 137, 3) := by decide +kernel
theorem jd_Branchwork_merge_9 : decode mi_Branchwork_merge.2.1 9 = .ok (.iconst (-1), 1) := by decide +kernel
theorem jd_Branchwork_merge_10 : decode mi_Branchwork_merge.2.1 10 = .ok (.if_icmp .ne 13, 3) := by decide +kernel
theorem jd_Branchwork_merge_13 : decode mi_Branchwork_merge.2.1 13 = .ok (.new 101, 3) := by decide +kernel
theorem jd_Branchwork_merge_16 : decode mi_Branchwork_merge.2.1 16 = .ok (.dup, 1) := by decide +kernel
theorem jd_Branchwork_merge_17 : decode mi_Branchwork_merge.2.1 17 = .ok (.ldc 167, 2) := by decide +kernel
theorem jd_Branchwork_merge_19 : decode mi_Branchwork_merge.2.1 19 = .ok (.invokespecial 105, 3) := by decide +kernel
theorem jd_Branchwork_merge_22 : decode mi_Branchwork_merge.2.1 22 = .ok (.athrow, 1) := by decide +kernel
theorem jd_Branchwork_merge_23 : decode mi_Branchwork_merge.2.1 23 = .ok (.aload_n 0, 1) := by decide +kernel
theorem jd_Branchwork_merge_24 : decode mi_Branchwork_merge.2.1 24 = .ok (.invokevirtual 174, 3) := by decide +kernel
theorem jd_Branchwork_merge_27 : decode mi_Branchwork_merge.2.1 27 = .ok (.aload_n 0, 1) := by decide +kernel
theorem jd_Branchwork_merge_28 : decode mi_Branchwork_merge.2.1 28 = .ok (.invokevirtual 137, 3) := by decide +kernel
theorem jd_Branchwork_merge_31 : decode mi_Branchwork_merge.2.1 31 = .ok (.istore_n 2, 1) := by decide +kernel
theorem jd_Branchwork_merge_32 : decode mi_Branchwork_merge.2.1 32 = .ok (.aload_n 0, 1) := by decide +kernel
theorem jd_Branchwork_merge_33 : decode mi_Branchwork_merge.2.1 33 = .ok (.getfield 51, 3) := by decide +kernel
theorem jd_Branchwork_merge_36 : decode mi_Branchwork_merge.2.1 36 = .ok (.iload_n 1, 1) := by decide +kernel
theorem jd_Branchwork_merge_37 : decode mi_Branchwork_merge.2.1 37 = .ok (.iaload, 1) := by decide +kernel
theorem jd_Branchwork_merge_38 : decode mi_Branchwork_merge.2.1 38 = .ok (.istore_n 3, 1) := by decide +kernel
theorem jd_Branchwork_merge_39 : decode mi_Branchwork_merge.2.1 39 = .ok (.aload_n 0, 1) := by decide +kernel
theorem jd_Branchwork_merge_40 : decode mi_Branchwork_merge.2.1 40 = .ok (.getfield 19, 3) := by decide +kernel
theorem jd_Branchwork_merge_43 : decode mi_Branchwork_merge.2.1 43 = .ok (.iload_n 2, 1) := by decide +kernel
theorem jd_Branchwork_merge_44 : decode mi_Branchwork_merge.2.1 44 = .ok (.iload_n 3, 1) := by decide +kernel
theorem jd_Branchwork_merge_45 : decode mi_Branchwork_merge.2.1 45 = .ok (.invokevirtual 186, 3) := by decide +kernel
theorem jd_Branchwork_merge_48 : decode mi_Branchwork_merge.2.1 48 = .ok (.istore 4, 2) := by decide +kernel
theorem jd_Branchwork_merge_50 : decode mi_Branchwork_merge.2.1 50 = .ok (.iload 4, 2) := by decide +kernel
theorem jd_Branchwork_merge_52 : decode mi_Branchwork_merge.2.1 52 = .ok (.iload_n 3, 1) := by decide +kernel
theorem jd_Branchwork_merge_53 : decode mi_Branchwork_merge.2.1 53 = .ok (.if_icmp .ne 5, 3) := by decide +kernel
theorem jd_Branchwork_merge_56 : decode mi_Branchwork_merge.2.1 56 = .ok (.iconst (-1), 1) := by decide +kernel
theorem jd_Branchwork_merge_57 : decode mi_Branchwork_merge.2.1 57 = .ok (.ireturn, 1) := by decide +kernel
theorem jd_Branchwork_merge_58 : decode mi_Branchwork_merge.2.1 58 = .ok (.iload 4, 2) := by decide +kernel
theorem jd_Branchwork_merge_60 : decode mi_Branchwork_merge.2.1 60 = .ok (.iload_n 2, 1) := by decide +kernel
theorem jd_Branchwork_merge_61 : decode mi_Branchwork_merge.2.1 61 = .ok (.if_icmp .ne 31, 3) := by decide +kernel
theorem jd_Branchwork_merge_64 : decode mi_Branchwork_merge.2.1 64 = .ok (.aload_n 0, 1) := by decide +kernel
theorem jd_Branchwork_merge_65 : decode mi_Branchwork_merge.2.1 65 = .ok (.getfield 51, 3) := by decide +kernel
theorem jd_Branchwork_merge_68 : decode mi_Branchwork_merge.2.1 68 = .ok (.aload_n 0, 1) := by decide +kernel
theorem jd_Branchwork_merge_69 : decode mi_Branchwork_merge.2.1 69 = .ok (.getfield 59, 3) := by decide +kernel
theorem jd_Branchwork_merge_72 : decode mi_Branchwork_merge.2.1 72 = .ok (.iload_n 3, 1) := by decide +kernel
theorem jd_Branchwork_merge_73 : decode mi_Branchwork_merge.2.1 73 = .ok (.iastore, 1) := by decide +kernel
theorem jd_Branchwork_merge_74 : decode mi_Branchwork_merge.2.1 74 = .ok (.aload_n 0, 1) := by decide +kernel
theorem jd_Branchwork_merge_75 : decode mi_Branchwork_merge.2.1 75 = .ok (.getfield 12, 3) := by decide +kernel
theorem jd_Branchwork_merge_78 : decode mi_Branchwork_merge.2.1 78 = .ok (.aload_n 0, 1) := by decide +kernel
theorem jd_Branchwork_merge_79 : decode mi_Branchwork_merge.2.1 79 = .ok (.getfield 19, 3) := by decide +kernel
theorem jd_Branchwork_merge_82 : decode mi_Branchwork_merge.2.1 82 = .ok (.iload_n 3, 1) := by decide +kernel
theorem jd_Branchwork_merge_83 : decode mi_Branchwork_merge.2.1 83 = .ok (.invokevirtual 140, 3) := by decide +kernel
theorem jd_Branchwork_merge_86 : decode mi_Branchwork_merge.2.1 86 = .ok (.invokevirtual 177, 3) := by decide +kernel
theorem jd_Branchwork_merge_89 : decode mi_Branchwork_merge.2.1 89 = .ok (.bipush (-2), 2) := by decide +kernel
theorem jd_Branchwork_merge_91 : decode mi_Branchwork_merge.2.1 91 = .ok (.ireturn, 1) := by decide +kernel
theorem jd_Branchwork_merge_92 : decode mi_Branchwork_merge.2.1 92 = .ok (.aload_n 0, 1) := by decide +kernel
theorem jd_Branchwork_merge_93 : decode mi_Branchwork_merge.2.1 93 = .ok (.getfield 26, 3) := by decide +kernel
theorem jd_Branchwork_merge_96 : decode mi_Branchwork_merge.2.1 96 = .ok (.aload_n 0, 1) := by decide +kernel
theorem jd_Branchwork_merge_97 : decode mi_Branchwork_merge.2.1 97 = .ok (.getfield 19, 3) := by decide +kernel
theorem jd_Branchwork_merge_100 : decode mi_Branchwork_merge.2.1 100 = .ok (.iload 4, 2) := by decide +kernel
theorem jd_Branchwork_merge_102 : decode mi_Branchwork_merge.2.1 102 = .ok (.invokevirtual 140, 3) := by decide +kernel
theorem jd_Branchwork_merge_105 : decode mi_Branchwork_merge.2.1 105 = .ok (.aload_n 0, 1) := by decide +kernel
theorem jd_Branchwork_merge_106 : decode mi_Branchwork_merge.2.1 106 = .ok (.getfield 19, 3) := by decide +kernel
theorem jd_Branchwork_merge_109 : decode mi_Branchwork_merge.2.1 109 = .ok (.iload_n 2, 1) := by decide +kernel
theorem jd_Branchwork_merge_110 : decode mi_Branchwork_merge.2.1 110 = .ok (.invokevirtual 140, 3) := by decide +kernel
theorem jd_Branchwork_merge_113 : decode mi_Branchwork_merge.2.1 113 = .ok (.aload_n 0, 1) := by decide +kernel
theorem jd_Branchwork_merge_114 : decode mi_Branchwork_merge.2.1 114 = .ok (.getfield 19, 3) := by decide +kernel
theorem jd_Branchwork_merge_117 : decode mi_Branchwork_merge.2.1 117 = .ok (.iload_n 3, 1) := by decide +kernel
theorem jd_Branchwork_merge_118 : decode mi_Branchwork_merge.2.1 118 = .ok (.invokevirtual 140, 3) := by decide +kernel
theorem jd_Branchwork_merge_121 : decode mi_Branchwork_merge.2.1 121 = .ok (.invokevirtual 190, 3) := by decide +kernel
theorem jd_Branchwork_merge_124 : decode mi_Branchwork_merge.2.1 124 = .ok (.aload_n 0, 1) := by decide +kernel
theorem jd_Branchwork_merge_125 : decode mi_Branchwork_merge.2.1 125 = .ok (.getfield 12, 3) := by decide +kernel
theorem jd_Branchwork_merge_128 : decode mi_Branchwork_merge.2.1 128 = .ok (.aload_n 0, 1) := by decide +kernel
theorem jd_Branchwork_merge_129 : decode mi_Branchwork_merge.2.1 129 = .ok (.getfield 26, 3) := by decide +kernel
theorem jd_Branchwork_merge_132 : decode mi_Branchwork_merge.2.1 132 = .ok (.invokevirtual 194, 3) := by decide +kernel
theorem jd_Branchwork_merge_135 : decode mi_Branchwork_merge.2.1 135 = .ok (.invokevirtual 177, 3) := by decide +kernel
theorem jd_Branchwork_merge_138 : decode mi_Branchwork_merge.2.1 138 = .ok (.aload_n 0, 1) := by decide +kernel
theorem jd_Branchwork_merge_139 : decode mi_Branchwork_merge.2.1 139 = .ok (.getfield 33, 3) := by decide +kernel
theorem jd_Branchwork_merge_142 : decode mi_Branchwork_merge.2.1 142 = .ok (.aload_n 0, 1) := by decide +kernel
theorem jd_Branchwork_merge_143 : decode mi_Branchwork_merge.2.1 143 = .ok (.getfield 26, 3) := by decide +kernel
theorem jd_Branchwork_merge_146 : decode mi_Branchwork_merge.2.1 146 = .ok (.invokevirtual 198, 3) := by decide +kernel
theorem jd_Branchwork_merge_149 : decode mi_Branchwork_merge.2.1 149 = .ok (.invokevirtual 202, 3) := by decide +kernel
theorem jd_Branchwork_merge_152 : decode mi_Branchwork_merge.2.1 152 = .ok (.aload_n 0, 1) := by decide +kernel
theorem jd_Branchwork_merge_153 : decode mi_Branchwork_merge.2.1 153 = .ok (.iload_n 3, 1) := by decide +kernel
theorem jd_Branchwork_merge_154 : decode mi_Branchwork_merge.2.1 154 = .ok (.putfield 62, 3) := by decide +kernel
theorem jd_Branchwork_merge_157 : decode mi_Branchwork_merge.2.1 157 = .ok (.aload_n 0, 1) := by decide +kernel
theorem jd_Branchwork_merge_158 : decode mi_Branchwork_merge.2.1 158 = .ok (.getfield 33, 3) := by decide +kernel
theorem jd_Branchwork_merge_161 : decode mi_Branchwork_merge.2.1 161 = .ok (.invokevirtual 153, 3) := by decide +kernel
theorem jd_Branchwork_merge_164 : decode mi_Branchwork_merge.2.1 164 = .ok (.ireturn, 1) := by decide +kernel
theorem jd_Merger_result_0 : decode mi_Merger_result.2.1 0 = .ok (.aload_n 0, 1) := by decide +kernel
theorem jd_Merger_result_1 : decode mi_Merger_result.2.1 1 = .ok (.getfield 12, 3) := by decide +kernel
theorem jd_Merger_result_4 : decode mi_Merger_result.2.1 4 = .ok (.areturn, 1) := by decide +kernel
/-! what changes the store -/
section
variable {o : jw_O} {σ s : zS} {w : zT} {Ts : Nat → zT} {f g t c : Nat → Int} {n kp : Nat} {l : zK} {tp : Nat → Int} {br cu : Nat} {mg : Int}
theorem GS.work {w2 : zT} (h : GS o σ w Ts f g t c n kp l tp br cu mg) (hw : TC o s (zb o + 1) w2) (F : ∀ a, (a < zb o + 1 ∨ zb o + 29 ≤ a) → s a = σ a) : GS o s w2 Ts f g t c n kp l tp br cu mg := by
  obtain ⟨h1, h2, h3, ⟨x1, x2, x3, x4, x5, x6, x7⟩, ⟨y1, y2, y3, y4⟩, h6, h7, h8, h9, h10⟩ := h
  exact ⟨hw, h2.cells (fun a p1 p2 => F a (by omega)), fun i hi => (h3 i hi).cells (fun a p1 p2 => by have := tA_rng (o := o) hi; exact F a (by omega)), ⟨fun i hi => (iv_cell (F _ (by omega)) _).trans (x1 i hi), fun i hi => (iv_cell (F _ (by omega)) _).trans (x2 i hi), fun i hi => (iv_cell (F _ (by omega)) _).trans (x3 i hi), fun i hi => (iv_cell (F _ (by omega)) _).trans (x4 i hi), (iv_cell (F _ (by omega)) _).trans x5, (iv_cell (F _ (by omega)) _).trans x6, x7⟩, ⟨y1, y2, (iv_cell (F _ (by omega)) _).trans y3, fun j hj => ⟨(iv_cell (F _ (by omega)) _).trans (y4 j hj).1, (iv_cell (F _ (by omega)) _).trans (y4 j hj).2⟩⟩, h6.cell (F _ (by omega)) (F _ (by omega)), fun i hi => (iv_cell (F _ (by omega)) _).trans (h7 i hi), (iv_cell (F _ (by omega)) _).trans h8, (iv_cell (F _ (by omega)) _).trans h9, (iv_cell (F _ (by omega)) _).trans h10⟩
/-- the store's own numbers and the tips changed -/
theorem GS.own {tp2 : Nat → Int} {br2 cu2 : Nat} {mg2 : Int} (h : GS o σ w Ts f g t c n kp l tp br cu mg) (F : ∀ a, a ≠ zb o → a ≠ zb o + 983 → s a = σ a) (e1 : ∀ i, i < 5 → iv s (zb o + 983) i = tp2 i) (e2 : iv s (zb o) 7 = br2) (e3 : iv s (zb o) 8 = cu2) (e4 : iv s (zb o) 9 = mg2) : GS o s w Ts f g t c n kp l tp2 br2 cu2 mg2 := by
  obtain ⟨h1, h2, h3, ⟨x1, x2, x3, x4, x5, x6, x7⟩, ⟨y1, y2, y3, y4⟩, h6, -⟩ := h
  exact ⟨h1.cells (fun a p1 p2 => F a (by omega) (by omega)), h2.cells (fun a p1 p2 => F a (by omega) (by omega)), fun i hi => (h3 i hi).cells (fun a p1 p2 => by have := tA_rng (o := o) hi; exact F a (by omega) (by omega)), ⟨fun i hi => (iv_cell (F _ (by omega) (by omega)) _).trans (x1 i hi), fun i hi => (iv_cell (F _ (by omega) (by omega)) _).trans (x2 i hi), fun i hi => (iv_cell (F _ (by omega) (by omega)) _).trans (x3 i hi), fun i hi => (iv_cell (F _ (by omega) (by omega)) _).trans (x4 i hi), (iv_cell (F _ (by omega) (by omega)) _).trans x5, (iv_cell (F _ (by omega) (by omega)) _).trans x6, x7⟩, ⟨y1, y2, (iv_cell (F _ (by omega) (by omega)) _).trans y3, fun j hj => ⟨(iv_cell (F _ (by omega) (by omega)) _).trans (y4 j hj).1, (iv_cell (F _ (by omega) (by omega)) _).trans (y4 j hj).2⟩⟩, h6.cell (F _ (by omega) (by omega)) (F _ (by omega) (by omega)), e1, e2, e3, e4⟩
theorem GS.confl {l2 : zK} (h : GS o σ w Ts f g t c n kp l tp br cu mg) (hl : KC o s (zb o + 969) l2) (F : zF σ s (zb o + 969) 3) : GS o s w Ts f g t c n kp l2 tp br cu mg := by
  obtain ⟨h1, h2, h3, ⟨x1, x2, x3, x4, x5, x6, x7⟩, -, h6, h7, h8, h9, h10⟩ := h
  exact ⟨h1.cells (fun a p1 p2 => F a (by omega)), h2.cells (fun a p1 p2 => F a (by omega)), fun i hi => (h3 i hi).cells (fun a p1 p2 => by have := tA_rng (o := o) hi; exact F a (by omega)), ⟨fun i hi => (iv_cell (F _ (by omega)) _).trans (x1 i hi), fun i hi => (iv_cell (F _ (by omega)) _).trans (x2 i hi), fun i hi => (iv_cell (F _ (by omega)) _).trans (x3 i hi), fun i hi => (iv_cell (F _ (by omega)) _).trans (x4 i hi), (iv_cell (F _ (by omega)) _).trans x5, (iv_cell (F _ (by omega)) _).trans x6, x7⟩, hl, h6.cell (F _ (by omega)) (F _ (by omega)), fun i hi => (iv_cell (F _ (by omega)) _).trans (h7 i hi), (iv_cell (F _ (by omega)) _).trans h8, (iv_cell (F _ (by omega)) _).trans h9, (iv_cell (F _ (by omega)) _).trans h10⟩
theorem f_put (h : GS o σ w Ts f g t c n kp l tp br cu mg) (p pl : Nat) (x : Int) (hp : p < 12) (hpl : pl ≤ (w p).2.1) (hx : 0 ≤ x ∧ x ≤ 99) (h10 : (w p).2.1 < 10) : zSpec mi_Branchwork_put 1 o [.ref (zb o), .int (iI p), .int (iI pl), .int (iI x)] σ (fun v s => v = some (.int (iI (((w p).2.1 : Int) + 1))) ∧ ∃ w2, GS o s w2 Ts f g t c n kp l tp br cu mg) := by
  have h1 := h.1
  have h11 := h1.1
  have hc := h1.2 p hp
  have hc1 := hc.1
  refine z_spec (by decide +kernel) (Nat.le_of_ble_eq_true rfl) rfl (fun k hs hR hE => ?_)
  refine jw_iload_n (pc' := 1) jd_Branchwork_put_0 rfl rfl rfl ?_
  refine zx_callS0 (pc' := 4) hR (f_reqPath p hp) jm_Branchwork_requirePath jq_274 jd_Branchwork_put_1 rfl rfl (Nat.le_of_ble_eq_true rfl) (by omega) (by decide) rfl rfl ?_
  refine jw_aload_n (pc' := 5) jd_Branchwork_put_4 rfl rfl rfl ?_
  refine jw_get (pc' := 8) (kf := 0) jc_Branchwork (by decide) jq_239 jd_Branchwork_put_5 (mc_Branchwork _) rfl rfl ?_
  refine jw_iload_n (pc' := 9) jd_Branchwork_put_8 rfl rfl rfl ?_
  refine zx_callV0 (pc' := 12) hR (t_fileAt h11 p hp) jm_Tree_fileAt jq_345 jc_Tree jd_Branchwork_put_9 (mc_Tree _ (by assumption)) rfl rfl (Nat.le_of_ble_eq_true rfl) (by omega) (by decide) rfl rfl ?_
  refine jw_astore (pc' := 14) (lc' := [(2, _), (3, _), (4, _)]) jd_Branchwork_put_12 (Nat.le_of_ble_eq_true rfl) ⟨rfl, rfl, rfl, trivial⟩ rfl ?_
  refine jw_iload_n (pc' := 15) jd_Branchwork_put_14 rfl rfl rfl ?_
  refine zx_if_lt (tgt := 27) (pc' := 18) (by first | exact rg_iv _ _ _ | omega) jd_Branchwork_put_15 (by decide) rfl (fun q => ?_) (fun q => ?_)
  · exfalso; omega
  refine jw_iload_n (pc' := 19) jd_Branchwork_put_18 rfl rfl rfl ?_
  refine jw_aload (pc' := 21) jd_Branchwork_put_19 rfl rfl ?_
  refine zx_callV0 (pc' := 24) hR (c_length hc) jm_Content_length jq_349 jc_Content jd_Branchwork_put_21 (mc_Content _ (by assumption)) rfl rfl (Nat.le_of_ble_eq_true rfl) (by omega) (by decide) rfl rfl ?_
  refine zx_icmp_le (tgt := 37) (pc' := 27) (by first | exact rg_iv _ _ _ | omega) (by first | exact rg_iv _ _ _ | omega) jd_Branchwork_put_24 (by decide) rfl (fun q2 => ?_) (fun q2 => ?_)
  rotate_left
  · exfalso; omega
  refine jw_iload_n (pc' := 38) jd_Branchwork_put_37 rfl rfl rfl ?_
  refine zx_if_lt (tgt := 47) (pc' := 41) (by first | exact rg_iv _ _ _ | omega) jd_Branchwork_put_38 (by decide) rfl (fun q3 => ?_) (fun q3 => ?_)
  · exfalso; omega
  refine jw_iload_n (pc' := 42) jd_Branchwork_put_41 rfl rfl rfl ?_
  refine zx_bipush (pc' := 44) (n := 99) jd_Branchwork_put_42 (by decide +kernel) rfl ?_
  refine zx_icmp_le (tgt := 57) (pc' := 47) (by first | exact rg_iv _ _ _ | omega) (by first | exact rg_iv _ _ _ | omega) jd_Branchwork_put_44 (by decide) rfl (fun q4 => ?_) (fun q4 => ?_)
  rotate_left
  · exfalso; omega
  refine jw_aload (pc' := 59) jd_Branchwork_put_57 rfl rfl ?_
  refine zx_callV0 (pc' := 62) hR (c_isFull hc h10) jm_Content_isFull jq_370 jc_Content jd_Branchwork_put_59 (mc_Content _ (by assumption)) rfl rfl (Nat.le_of_ble_eq_true rfl) (by omega) (by decide) rfl rfl ?_
  refine zx_if_eq (tgt := 75) (pc' := 65) (by first | exact rg_iv _ _ _ | omega) jd_Branchwork_put_62 (by decide) rfl (fun q5 => ?_) (fun q5 => ?_)
  rotate_left
  · exfalso; omega
  refine jw_aload (pc' := 77) jd_Branchwork_put_75 rfl rfl ?_
  refine jw_iload_n (pc' := 78) jd_Branchwork_put_77 rfl rfl rfl ?_
  refine jw_iload_n (pc' := 79) jd_Branchwork_put_78 rfl rfl rfl ?_
  refine zx_callV (pc' := 82) hR (c_insert hc h10 pl hpl) jm_Content_insert jq_390 jc_Content jd_Branchwork_put_79 (mc_Content _ (by assumption)) rfl rfl (Nat.le_of_ble_eq_true rfl) (by omega) (by decide) rfl (fun v9 s1 q9 => ?_)
  obtain ⟨rfl, ⟨b, g1, g2, g3⟩, F1⟩ := q9
  refine jw_aload (pc' := 84) jd_Branchwork_put_82 rfl rfl ?_
  refine zx_callV0 (pc' := 87) hR (c_length g1) jm_Content_length jq_349 jc_Content jd_Branchwork_put_84 (mc_Content _ (by assumption)) rfl rfl (Nat.le_of_ble_eq_true rfl) (by omega) (by decide) rfl rfl ?_
  refine zx_iret hE jd_Branchwork_put_87 rfl ?_
  exact ⟨by rw [g3]; rfl, _, h.work (h1.upd g1 (fun a p1 p2 p3 => F1 a p3)) (fun a p1 => F1 a (by unfold fA; omega))⟩
theorem f_rename (h : GS o σ w Ts f g t c n kp l tp br cu mg) (p to : Nat) (hp : p < 12) (hto : to < 12) (hne : p ≠ to) (h0 : ¬ (w p).1 = 0) (h9 : (w to).1 = 0) : zSpec mi_Branchwork_rename 3 o [.ref (zb o), .int (iI p), .int (iI to)] σ (fun v s => v = some (.int (iI ((w p).2.1 : Int))) ∧ ∃ w2, GS o s w2 Ts f g t c n kp l tp br cu mg ∧ w2 to = w p ∧ w2 p = v0) := by
  have h1 := h.1
  have h11 := h1.1
  have hc := h1.2 p hp
  have hd := h1.2 to hto
  have hc1 := hc.1
  have hd1 := hd.1
  have dis : fA (zb o + 1) to + 2 ≤ fA (zb o + 1) p ∨ fA (zb o + 1) p + 2 ≤ fA (zb o + 1) to := by unfold fA; omega
  refine z_spec (by decide +kernel) (Nat.le_of_ble_eq_true rfl) rfl (fun k hs hR hE => ?_)
  refine jw_aload_n (pc' := 1) jd_Branchwork_rename_0 rfl rfl rfl ?_
  refine jw_get (pc' := 4) (kf := 0) jc_Branchwork (by decide) jq_239 jd_Branchwork_rename_1 (mc_Branchwork _) rfl rfl ?_
  refine jw_iload_n (pc' := 5) jd_Branchwork_rename_4 rfl rfl rfl ?_
  refine zx_callS0 (pc' := 8) hR (f_reqFile h1 p hp h0) jm_Branchwork_requireFile jq_398 jd_Branchwork_rename_5 rfl rfl (Nat.le_of_ble_eq_true rfl) (by omega) (by decide) rfl rfl ?_
  refine jw_iload_n (pc' := 9) jd_Branchwork_rename_8 rfl rfl rfl ?_
  refine zx_callS0 (pc' := 12) hR (f_reqPath to hto) jm_Branchwork_requirePath jq_274 jd_Branchwork_rename_9 rfl rfl (Nat.le_of_ble_eq_true rfl) (by omega) (by decide) rfl rfl ?_
  refine jw_aload_n (pc' := 13) jd_Branchwork_rename_12 rfl rfl rfl ?_
  refine jw_get (pc' := 16) (kf := 0) jc_Branchwork (by decide) jq_239 jd_Branchwork_rename_13 (mc_Branchwork _) rfl rfl ?_
  refine jw_iload_n (pc' := 17) jd_Branchwork_rename_16 rfl rfl rfl ?_
  refine zx_callV0 (pc' := 20) hR (t_has h1 to hto) jm_Tree_has jq_401 jc_Tree jd_Branchwork_rename_17 (mc_Tree _ (by assumption)) rfl rfl (Nat.le_of_ble_eq_true rfl) (by omega) (by decide) rfl rfl ?_
  refine zx_if_eq (tgt := 33) (pc' := 23) (by first | exact rg_iv _ _ _ | omega) jd_Branchwork_rename_20 (by decide) rfl (fun q => ?_) (fun q => ?_)
  rotate_left
  · exfalso; omega
  refine jw_aload_n (pc' := 34) jd_Branchwork_rename_33 rfl rfl rfl ?_
  refine jw_get (pc' := 37) (kf := 0) jc_Branchwork (by decide) jq_239 jd_Branchwork_rename_34 (mc_Branchwork _) rfl rfl ?_
  refine jw_iload_n (pc' := 38) jd_Branchwork_rename_37 rfl rfl rfl ?_
  refine zx_callV0 (pc' := 41) hR (t_fileAt h11 p hp) jm_Tree_fileAt jq_345 jc_Tree jd_Branchwork_rename_38 (mc_Tree _ (by assumption)) rfl rfl (Nat.le_of_ble_eq_true rfl) (by omega) (by decide) rfl rfl ?_
  refine jw_astore_n (pc' := 42) (lc' := [(0, _), (2, _), (3, _)]) jd_Branchwork_rename_41 rfl (Nat.le_of_ble_eq_true rfl) ⟨rfl, rfl, rfl, trivial⟩ rfl ?_
  refine jw_aload_n (pc' := 43) jd_Branchwork_rename_42 rfl rfl rfl ?_
  refine jw_get (pc' := 46) (kf := 0) jc_Branchwork (by decide) jq_239 jd_Branchwork_rename_43 (mc_Branchwork _) rfl rfl ?_
  refine jw_iload_n (pc' := 47) jd_Branchwork_rename_46 rfl rfl rfl ?_
  refine zx_callV0 (pc' := 50) hR (t_fileAt h11 to hto) jm_Tree_fileAt jq_345 jc_Tree jd_Branchwork_rename_47 (mc_Tree _ (by assumption)) rfl rfl (Nat.le_of_ble_eq_true rfl) (by omega) (by decide) rfl rfl ?_
  refine jw_aload_n (pc' := 51) jd_Branchwork_rename_50 rfl rfl rfl ?_
  refine zx_callV (pc' := 54) hR (c_copyFrom hd1 hc dis) jm_Content_copyFrom jq_412 jc_Content jd_Branchwork_rename_51 (mc_Content _ (by assumption)) rfl rfl (Nat.le_of_ble_eq_true rfl) (by omega) (by decide) rfl (fun v9 s1 q9 => ?_)
  obtain ⟨rfl, g1, F1⟩ := q9
  refine jw_aload_n (pc' := 55) jd_Branchwork_rename_54 rfl rfl rfl ?_
  refine zx_callV (pc' := 58) hR (c_absent hc1 rfl) jm_Content_becomeAbsent jq_425 jc_Content jd_Branchwork_rename_55 (mc_Content _ (by assumption)) rfl rfl (Nat.le_of_ble_eq_true rfl) (by omega) (by decide) rfl (fun v9 s2 q9 => ?_)
  obtain ⟨rfl, g2, F2⟩ := q9
  have g3 := g1.fr F2 dis
  refine jw_aload_n (pc' := 59) jd_Branchwork_rename_58 rfl rfl rfl ?_
  refine jw_get (pc' := 62) (kf := 0) jc_Branchwork (by decide) jq_239 jd_Branchwork_rename_59 (mc_Branchwork _) rfl rfl ?_
  refine jw_iload_n (pc' := 63) jd_Branchwork_rename_62 rfl rfl rfl ?_
  refine zx_callV0 (pc' := 66) hR (t_fileAt h11 to hto) jm_Tree_fileAt jq_345 jc_Tree jd_Branchwork_rename_63 (mc_Tree _ (by assumption)) rfl rfl (Nat.le_of_ble_eq_true rfl) (by omega) (by decide) rfl rfl ?_
  refine zx_callV0 (pc' := 69) hR (c_length g3) jm_Content_length jq_349 jc_Content jd_Branchwork_rename_66 (mc_Content _ (by assumption)) rfl rfl (Nat.le_of_ble_eq_true rfl) (by omega) (by decide) rfl rfl ?_
  refine zx_iret hE jd_Branchwork_rename_69 rfl ?_
  have t1 := h1.upd g1 (fun a p1 p2 p3 => F1 a p3)
  have t2 := t1.upd g2 (fun a p1 p2 p3 => F2 a p3)
  refine ⟨rfl, _, h.work t2 (fun a p1 => ?_), ?_, ?_⟩
  · rw [F2 a (by unfold fA; omega)]; exact F1 a (by unfold fA; omega)
  · unfold tU; rw [if_neg (Ne.symm hne), if_pos rfl]
  · unfold tU; rw [if_pos rfl]
theorem f_commit (h : GS o σ w Ts f g t c n kp l tp br cu mg) (hv : GV f g n kp tp br cu mg) (x : Int) (hx : 0 ≤ x ∧ x ≤ 999) (hn : n < 30) (hl : l.1 = 0) (hcl : mg = -1 → eqT w (trV Ts (tp cu)) = 0) : zSpec mi_Branchwork_commit 5 o [.ref (zb o), .int (iI x)] σ (fun v s => v = some (.int (iI n)) ∧ ∃ t2 c2, GS o s w (fun i => if i = n then w else Ts i) (fun i => if i = n then tp cu else f i) (fun i => if i = n then mg else g i) t2 c2 (n + 1) (kp ||| 2 ^ n) l (fun i => if i = cu then (n : Int) else tp i) br cu (-1)) := by
  have h4 := h.2.2.2.1
  have h5 := h.2.2.2.2.1
  have h51 := h5.1
  have h7 := h.2.2.2.2.2.2.1
  have h8 := h.2.2.2.2.2.2.2.1
  have h9 := h.2.2.2.2.2.2.2.2.1
  have h10 := h.2.2.2.2.2.2.2.2.2
  have v6 := hv.2.2.2.2.2.1
  have v5 := hv.2.2.2.2.1
  have v4 := hv.2.2.2.1
  have vt := v6 cu
  have e01 := eqT_01 w (trV Ts (tp cu))
  have rm := rg_iv σ (zb o) 9
  have rn := tA_rng (o := o) hn
  refine z_spec (by decide +kernel) (Nat.le_of_ble_eq_true rfl) rfl (fun k hs hR hE => ?_)
  refine jw_iload_n (pc' := 1) jd_Branchwork_commit_0 rfl rfl rfl ?_
  refine zx_if_lt (tgt := 11) (pc' := 4) (by first | exact rg_iv _ _ _ | omega) jd_Branchwork_commit_1 (by decide) rfl (fun q => ?_) (fun q => ?_)
  · exfalso; omega
  refine jw_iload_n (pc' := 5) jd_Branchwork_commit_4 rfl rfl rfl ?_
  refine zx_sipush (pc' := 8) (n := 999) jd_Branchwork_commit_5 (by decide +kernel) rfl ?_
  refine zx_icmp_le (tgt := 21) (pc' := 11) (by first | exact rg_iv _ _ _ | omega) (by first | exact rg_iv _ _ _ | omega) jd_Branchwork_commit_8 (by decide) rfl (fun q2 => ?_) (fun q2 => ?_)
  rotate_left
  · exfalso; omega
  refine jw_aload_n (pc' := 22) jd_Branchwork_commit_21 rfl rfl rfl ?_
  refine jw_get (pc' := 25) (kf := 1) jc_Branchwork (by decide) jq_240 jd_Branchwork_commit_22 (mc_Branchwork _) rfl rfl ?_
  refine zx_callV0 (pc' := 28) hR (h_isFull h4 hn) jm_History_isFull jq_434 jc_History jd_Branchwork_commit_25 (mc_History _) rfl rfl (Nat.le_of_ble_eq_true rfl) (by omega) (by decide) rfl rfl ?_
  refine zx_if_eq (tgt := 41) (pc' := 31) (by first | exact rg_iv _ _ _ | omega) jd_Branchwork_commit_28 (by decide) rfl (fun q3 => ?_) (fun q3 => ?_)
  rotate_left
  · exfalso; omega
  refine jw_aload_n (pc' := 42) jd_Branchwork_commit_41 rfl rfl rfl ?_
  refine jw_get (pc' := 45) (kf := 3) jc_Branchwork (by decide) jq_242 jd_Branchwork_commit_42 (mc_Branchwork _) rfl rfl ?_
  refine zx_callV0 (pc' := 48) hR (k_many h5) jm_Conflicts_howMany jq_439 jc_Conflicts jd_Branchwork_commit_45 (mc_Conflicts _ (by assumption)) rfl rfl (Nat.le_of_ble_eq_true rfl) (by omega) (by decide) rfl rfl ?_
  refine zx_if_le (tgt := 61) (pc' := 51) (by first | exact rg_iv _ _ _ | omega) jd_Branchwork_commit_48 (by decide) rfl (fun q4 => ?_) (fun q4 => ?_)
  rotate_left
  · exfalso; omega
  have part : jw_X mi_Branchwork_commit o k 0 0 86 [(0, .ref (zb o)), (1, .int (iI x))] [] (mm o σ) hs := by
    refine jw_aload_n (pc' := 87) jd_Branchwork_commit_86 rfl rfl rfl ?_
    refine jw_get (pc' := 90) (kf := 1) jc_Branchwork (by decide) jq_240 jd_Branchwork_commit_87 (mc_Branchwork _) rfl rfl ?_
    refine jw_aload_n (pc' := 91) jd_Branchwork_commit_90 rfl rfl rfl ?_
    refine jw_get (pc' := 94) (kf := 0) jc_Branchwork (by decide) jq_239 jd_Branchwork_commit_91 (mc_Branchwork _) rfl rfl ?_
    refine jw_iload_n (pc' := 95) jd_Branchwork_commit_94 rfl rfl rfl ?_
    refine jw_aload_n (pc' := 96) jd_Branchwork_commit_95 rfl rfl rfl ?_
    refine zx_callV0 (pc' := 99) hR (f_head h hv) jm_Branchwork_head jq_448 jc_Branchwork jd_Branchwork_commit_96 (mc_Branchwork _) rfl rfl (Nat.le_of_ble_eq_true rfl) (by omega) (by decide) rfl rfl ?_
    refine jw_aload_n (pc' := 100) jd_Branchwork_commit_99 rfl rfl rfl ?_
    refine zx_getI (pc' := 103) (kf := 9) jc_Branchwork (by decide) jq_248 jd_Branchwork_commit_100 (mc_Branchwork _) rfl rfl ?_
    refine zx_callV (pc' := 106) hR (h_add h4 h.2.2.1 h.1 (by omega) hn (by omega) rm) jm_History_add jq_465 jc_History jd_Branchwork_commit_103 (mc_History _) rfl rfl (Nat.le_of_ble_eq_true rfl) (by omega) (by decide) rfl (fun v9 s1 q9 => ?_)
    obtain ⟨rfl, g1, ⟨t2, c2, g2⟩, F1⟩ := q9
    have k9 : iv s1 (zb o) 8 = cu := (iv_cell (F1 _ (by omega) (by omega) (by omega)) _).trans h9
    refine jw_istore_n (pc' := 107) (lc' := [(0, _), (2, _)]) jd_Branchwork_commit_106 rfl (Nat.le_of_ble_eq_true rfl) ⟨rfl, rfl, trivial⟩ rfl ?_
    refine jw_aload_n (pc' := 108) jd_Branchwork_commit_107 rfl rfl rfl ?_
    refine jw_get (pc' := 111) (kf := 6) jc_Branchwork (by decide) jq_245 jd_Branchwork_commit_108 (mc_Branchwork _) rfl rfl ?_
    refine jw_aload_n (pc' := 112) jd_Branchwork_commit_111 rfl rfl rfl ?_
    refine zx_getI (pc' := 115) (kf := 8) jc_Branchwork (by decide) jq_247 jd_Branchwork_commit_112 (mc_Branchwork _) rfl rfl ?_
    refine jw_iload_n (pc' := 116) jd_Branchwork_commit_115 rfl rfl rfl ?_
    refine zx_iast (pc' := 117) (j := cu) jd_Branchwork_commit_116 (ml_Branchwork_tips _) k9 (by omega) (Nat.le_of_ble_eq_true rfl) rfl ?_
    refine jw_aload_n (pc' := 118) jd_Branchwork_commit_117 rfl rfl rfl ?_
    refine zx_iconst (pc' := 119) (n := -1) jd_Branchwork_commit_118 rfl ?_
    refine zx_putI (pc' := 122) (kf := 9) jc_Branchwork (by decide) jq_248 jd_Branchwork_commit_119 rfl (by decide +kernel) (mc_Branchwork _) rfl rfl ?_
    refine jw_iload_n (pc' := 123) jd_Branchwork_commit_122 rfl rfl rfl ?_
    refine zx_iret hE jd_Branchwork_commit_123 rfl ?_
    rw [h10] at g2
    refine ⟨rfl, t2, c2, ?_⟩
    have A : GS o s1 w (fun i => if i = n then w else Ts i) (fun i => if i = n then tp cu else f i) (fun i => if i = n then mg else g i) t2 c2 (n + 1) (kp ||| 2 ^ n) l tp br cu mg := by
      obtain ⟨z1, z2, z3, z4, z5, z6, z7, z8, z9, z10⟩ := h
      obtain ⟨y1, y2, y3, y4⟩ := z5
      refine ⟨z1.cells (fun a p1 p2 => F1 a (by omega) (by omega) (by omega)), z2.cells (fun a p1 p2 => F1 a (by omega) (by omega) (by omega)), fun i hi => ?_, g2, ⟨y1, y2, (iv_cell (F1 _ (by omega) (by omega) (by omega)) _).trans y3, fun j hj => ⟨(iv_cell (F1 _ (by omega) (by omega) (by omega)) _).trans (y4 j hj).1, (iv_cell (F1 _ (by omega) (by omega) (by omega)) _).trans (y4 j hj).2⟩⟩, z6.cell (F1 _ (by omega) (by omega) (by omega)) (F1 _ (by omega) (by omega) (by omega)), fun i hi => (iv_cell (F1 _ (by omega) (by omega) (by omega)) _).trans (z7 i hi), (iv_cell (F1 _ (by omega) (by omega) (by omega)) _).trans z8, (iv_cell (F1 _ (by omega) (by omega) (by omega)) _).trans z9, (iv_cell (F1 _ (by omega) (by omega) (by omega)) _).trans z10⟩
      dsimp only
      by_cases e : i = n
      · rw [if_pos e, e]; exact g1
      · rw [if_neg e]
        have ri := tA_rng (o := o) hi
        refine (z3 i hi).cells (fun a p1 p2 => F1 a (by omega) (by omega) ?_)
        unfold tA at *
        omega
    refine A.own (fun a p1 p2 => by rw [si_ne p1, si_ne p2]) (fun i hi => ?_) ?_ ?_ ?_
    · rw [iv_cell (si_ne (by omega)), iv_si (by omega)]
      by_cases e : i = cu
      · rw [if_pos ⟨rfl, e⟩, if_pos e]
      · rw [if_neg (fun z => e z.2), if_neg e]; exact A.2.2.2.2.2.2.1 i hi
    · rw [iv_si (by omega), if_neg (by omega), iv_cell (si_ne (by omega))]; exact A.2.2.2.2.2.2.2.1
    · rw [iv_si (by omega), if_neg (by omega), iv_cell (si_ne (by omega))]; exact A.2.2.2.2.2.2.2.2.1
    · rw [iv_si (by omega), if_pos ⟨rfl, rfl⟩]
  refine jw_aload_n (pc' := 62) jd_Branchwork_commit_61 rfl rfl rfl ?_
  refine zx_getI (pc' := 65) (kf := 9) jc_Branchwork (by decide) jq_248 jd_Branchwork_commit_62 (mc_Branchwork _) rfl rfl ?_
  refine zx_iconst (pc' := 66) (n := -1) jd_Branchwork_commit_65 rfl ?_
  refine zx_icmp_ne (tgt := 86) (pc' := 69) (by first | exact rg_iv _ _ _ | omega) (by first | exact rg_iv _ _ _ | omega) jd_Branchwork_commit_66 (by decide) rfl (fun q5 => ?_) (fun q5 => ?_)
  · skip
    exact part
  refine jw_aload_n (pc' := 70) jd_Branchwork_commit_69 rfl rfl rfl ?_
  refine zx_callV0 (pc' := 73) hR (f_isClean h hv) jm_Branchwork_isClean jq_444 jc_Branchwork jd_Branchwork_commit_70 (mc_Branchwork _) rfl rfl (Nat.le_of_ble_eq_true rfl) (by omega) (by decide) rfl rfl ?_
  have := hcl (by omega)
  refine zx_if_eq (tgt := 86) (pc' := 76) (by first | exact rg_iv _ _ _ | omega) jd_Branchwork_commit_73 (by decide) rfl (fun q6 => ?_) (fun q6 => ?_)
  rotate_left
  · exfalso; omega
  exact part
theorem f_branch (h : GS o σ w Ts f g t c n kp l tp br cu mg) (hv : GV f g n kp tp br cu mg) (h0 : ¬ tp cu = -1) (h5 : br < 5) : zSpec mi_Branchwork_branch 1 o [.ref (zb o)] σ (fun v s => v = some (.int (iI br)) ∧ GS o s w Ts f g t c n kp l (fun i => if i = br then tp cu else tp i) (br + 1) cu mg) := by
  have h7 := h.2.2.2.2.2.2.1
  have h8 := h.2.2.2.2.2.2.2.1
  have h9 := h.2.2.2.2.2.2.2.2.1
  have h10 := h.2.2.2.2.2.2.2.2.2
  have v6 := hv.2.2.2.2.2.1
  have v5 := hv.2.2.2.2.1
  have vn := hv.2.2.2.2.2.2.2.2
  have vt := v6 cu
  refine z_spec (by decide +kernel) (Nat.le_of_ble_eq_true rfl) rfl (fun k hs hR hE => ?_)
  refine jw_aload_n (pc' := 1) jd_Branchwork_branch_0 rfl rfl rfl ?_
  refine zx_callV0 (pc' := 4) hR (f_head h hv) jm_Branchwork_head jq_448 jc_Branchwork jd_Branchwork_branch_1 (mc_Branchwork _) rfl rfl (Nat.le_of_ble_eq_true rfl) (by omega) (by decide) rfl rfl ?_
  refine zx_iconst (pc' := 5) (n := -1) jd_Branchwork_branch_4 rfl ?_
  refine zx_icmp_ne (tgt := 18) (pc' := 8) (by first | exact rg_iv _ _ _ | omega) (by first | exact rg_iv _ _ _ | omega) jd_Branchwork_branch_5 (by decide) rfl (fun q => ?_) (fun q => ?_)
  rotate_left
  · exfalso; omega
  refine jw_aload_n (pc' := 19) jd_Branchwork_branch_18 rfl rfl rfl ?_
  refine zx_getI (pc' := 22) (kf := 7) jc_Branchwork (by decide) jq_246 jd_Branchwork_branch_19 (mc_Branchwork _) rfl rfl ?_
  refine zx_iconst (pc' := 23) (n := 5) jd_Branchwork_branch_22 rfl ?_
  refine zx_icmp_lt (tgt := 36) (pc' := 26) (by first | exact rg_iv _ _ _ | omega) (by first | exact rg_iv _ _ _ | omega) jd_Branchwork_branch_23 (by decide) rfl (fun q2 => ?_) (fun q2 => ?_)
  rotate_left
  · exfalso; omega
  refine jw_aload_n (pc' := 37) jd_Branchwork_branch_36 rfl rfl rfl ?_
  refine jw_get (pc' := 40) (kf := 6) jc_Branchwork (by decide) jq_245 jd_Branchwork_branch_37 (mc_Branchwork _) rfl rfl ?_
  refine jw_aload_n (pc' := 41) jd_Branchwork_branch_40 rfl rfl rfl ?_
  refine zx_getI (pc' := 44) (kf := 7) jc_Branchwork (by decide) jq_246 jd_Branchwork_branch_41 (mc_Branchwork _) rfl rfl ?_
  refine jw_aload_n (pc' := 45) jd_Branchwork_branch_44 rfl rfl rfl ?_
  refine zx_callV0 (pc' := 48) hR (f_head h hv) jm_Branchwork_head jq_448 jc_Branchwork jd_Branchwork_branch_45 (mc_Branchwork _) rfl rfl (Nat.le_of_ble_eq_true rfl) (by omega) (by decide) rfl rfl ?_
  refine zx_iast (pc' := 49) (j := br) jd_Branchwork_branch_48 (ml_Branchwork_tips _) h8 (by omega) (Nat.le_of_ble_eq_true rfl) rfl ?_
  refine jw_aload_n (pc' := 50) jd_Branchwork_branch_49 rfl rfl rfl ?_
  refine jw_dup (pc' := 51) jd_Branchwork_branch_50 rfl rfl ?_
  refine zx_getI (pc' := 54) (kf := 7) jc_Branchwork (by decide) jq_246 jd_Branchwork_branch_51 (mc_Branchwork _) rfl rfl ?_
  refine zx_iconst (pc' := 55) (n := 1) jd_Branchwork_branch_54 rfl ?_
  refine zx_iadd (pc' := 56) jd_Branchwork_branch_55 rfl ?_
  refine zx_putI (pc' := 59) (kf := 7) jc_Branchwork (by decide) jq_246 jd_Branchwork_branch_56 rfl (by decide +kernel) (mc_Branchwork _) rfl rfl ?_
  refine jw_aload_n (pc' := 60) jd_Branchwork_branch_59 rfl rfl rfl ?_
  refine zx_getI (pc' := 63) (kf := 7) jc_Branchwork (by decide) jq_246 jd_Branchwork_branch_60 (mc_Branchwork _) rfl rfl ?_
  refine zx_iconst (pc' := 64) (n := 1) jd_Branchwork_branch_63 rfl ?_
  refine zx_isub (pc' := 65) jd_Branchwork_branch_64 rfl ?_
  refine zx_iret hE jd_Branchwork_branch_65 rfl ?_
  have y7 : iv (si σ (zb o + 983) br (tp cu)) (zb o) 7 = br := (iv_cell (si_ne (by omega)) _).trans h8
  rw [y7]
  refine ⟨?_, h.own (fun a p1 p2 => by rw [si_ne p1, si_ne p2]) (fun i hi => ?_) ?_ ?_ ?_⟩
  · rw [iv_si (by omega), if_pos ⟨rfl, rfl⟩, show (br : Int) + 1 - 1 = br by omega]
  · rw [iv_cell (si_ne (by omega)), iv_si (by omega)]
    by_cases e : i = br
    · rw [if_pos ⟨rfl, e⟩, if_pos e]
    · rw [if_neg (fun z => e z.2), if_neg e]; exact h7 i hi
  · rw [iv_si (by omega), if_pos ⟨rfl, rfl⟩]; omega
  · rw [iv_si (by omega), if_neg (by omega), iv_cell (si_ne (by omega))]; exact h9
  · rw [iv_si (by omega), if_neg (by omega), iv_cell (si_ne (by omega))]; exact h10
theorem GV.atB {b : Nat} (hv : GV f g n kp tp br cu mg) (hb : b < br) : GV f g n kp tp br b mg := by
  obtain ⟨v1, v2, v3, v4, v5, v6, v7⟩ := hv
  exact ⟨v1, v2, v3, v4, hb, v6, v7⟩
theorem f_change (h : GS o σ w Ts f g t c n kp l tp br cu mg) (hv : GV f g n kp tp br cu mg) (b : Nat) (hb : b < br) (hc : eqT w (trV Ts (tp cu)) = 1) (hm : mg = -1) : zSpec mi_Branchwork_change 5 o [.ref (zb o), .int (iI b)] σ (fun v s => v = some (.int (iI cu)) ∧ GS o s (trV Ts (tp b)) Ts f g t c n kp l tp br b mg) := by
  have h7 := h.2.2.2.2.2.2.1
  have h8 := h.2.2.2.2.2.2.2.1
  have h9 := h.2.2.2.2.2.2.2.2.1
  have h10 := h.2.2.2.2.2.2.2.2.2
  have v6 := hv.2.2.2.2.2.1
  have v5 := hv.2.2.2.2.1
  have v4 := hv.2.2.2.1
  have vn := hv.2.2.2.2.2.2.2.2
  have vt := v6 b
  have iw := isT_work (o := o)
  have rr := trA_rng (o := o) (x := tp b)
  refine z_spec (by decide +kernel) (Nat.le_of_ble_eq_true rfl) rfl (fun k hs hR hE => ?_)
  refine jw_aload_n (pc' := 1) jd_Branchwork_change_0 rfl rfl rfl ?_
  refine jw_iload_n (pc' := 2) jd_Branchwork_change_1 rfl rfl rfl ?_
  refine zx_callV0 (pc' := 5) hR (f_reqBranch h hv b hb) jm_Branchwork_requireBranch jq_500 jc_Branchwork jd_Branchwork_change_2 (mc_Branchwork _) rfl rfl (Nat.le_of_ble_eq_true rfl) (by omega) (by decide) rfl rfl ?_
  refine jw_aload_n (pc' := 6) jd_Branchwork_change_5 rfl rfl rfl ?_
  refine zx_callV0 (pc' := 9) hR (f_reqClean h hv hc hm) jm_Branchwork_requireCleanAndUnmerged jq_505 jc_Branchwork jd_Branchwork_change_6 (mc_Branchwork _) rfl rfl (Nat.le_of_ble_eq_true rfl) (by omega) (by decide) rfl rfl ?_
  refine jw_aload_n (pc' := 10) jd_Branchwork_change_9 rfl rfl rfl ?_
  refine zx_getI (pc' := 13) (kf := 8) jc_Branchwork (by decide) jq_247 jd_Branchwork_change_10 (mc_Branchwork _) rfl rfl ?_
  refine jw_istore_n (pc' := 14) (lc' := [(0, _), (1, _), (2, _)]) jd_Branchwork_change_13 rfl (Nat.le_of_ble_eq_true rfl) ⟨rfl, rfl, rfl, trivial⟩ rfl ?_
  refine jw_aload_n (pc' := 15) jd_Branchwork_change_14 rfl rfl rfl ?_
  refine jw_iload_n (pc' := 16) jd_Branchwork_change_15 rfl rfl rfl ?_
  refine zx_putI (pc' := 19) (kf := 8) jc_Branchwork (by decide) jq_247 jd_Branchwork_change_16 rfl (by decide +kernel) (mc_Branchwork _) rfl rfl ?_
  refine jw_sub (lc' := [(0, _), (2, _)]) ⟨rfl, rfl, trivial⟩ ?_
  rw [h9]
  have h2 : GS o (si σ (zb o) 8 b) w Ts f g t c n kp l tp br b mg := by
    refine h.own (fun a p1 p2 => si_ne p1) (fun i hi => ?_) ?_ ?_ ?_
    · rw [iv_cell (si_ne (by omega))]; exact h7 i hi
    · rw [iv_si (by omega), if_neg (by omega)]; exact h8
    · rw [iv_si (by omega), if_pos ⟨rfl, rfl⟩]
    · rw [iv_si (by omega), if_neg (by omega)]; exact h10
  refine jw_aload_n (pc' := 20) jd_Branchwork_change_19 rfl rfl rfl ?_
  refine jw_get (pc' := 23) (kf := 0) jc_Branchwork (by decide) jq_239 jd_Branchwork_change_20 (mc_Branchwork _) rfl rfl ?_
  refine jw_aload_n (pc' := 24) jd_Branchwork_change_23 rfl rfl rfl ?_
  refine jw_get (pc' := 27) (kf := 1) jc_Branchwork (by decide) jq_240 jd_Branchwork_change_24 (mc_Branchwork _) rfl rfl ?_
  refine jw_aload_n (pc' := 28) jd_Branchwork_change_27 rfl rfl rfl ?_
  refine zx_callV0 (pc' := 31) hR (f_head h2 (hv.atB hb)) jm_Branchwork_head jq_448 jc_Branchwork jd_Branchwork_change_28 (mc_Branchwork _) rfl rfl (Nat.le_of_ble_eq_true rfl) (by omega) (by decide) rfl rfl ?_
  refine zx_callV0 (pc' := 34) hR (h_treeOf _ (by omega)) jm_History_treeOf jq_452 jc_History jd_Branchwork_change_31 (mc_History _) rfl rfl (Nat.le_of_ble_eq_true rfl) (by omega) (by decide) rfl rfl ?_
  refine zx_callV (pc' := 37) hR (t_copyFrom iw (h2.tree (tp b)) (by omega)) jm_Tree_copyFrom jq_511 jc_Tree jd_Branchwork_change_34 (mc_Tree _ (by assumption)) rfl rfl (Nat.le_of_ble_eq_true rfl) (by omega) (by decide) rfl (fun v9 s2 q9 => ?_)
  obtain ⟨rfl, g2, F2⟩ := q9
  refine jw_iload_n (pc' := 38) jd_Branchwork_change_37 rfl rfl rfl ?_
  refine zx_iret hE jd_Branchwork_change_38 rfl ?_
  exact ⟨rfl, h2.work g2 (fun a p1 => F2 a (by omega))⟩
theorem f_settle (h : GS o σ w Ts f g t c n kp l tp br cu mg) (h0 : 0 < l.1) : zSpec mi_Branchwork_settle 2 o [.ref (zb o), .int (iI 0)] σ (fun v s => (∃ x : Int, v = some (.int (iI x))) ∧ ∃ l2, GS o s w Ts f g t c n kp l2 tp br cu mg ∧ l2.1 = l.1 - 1) := by
  have h5 := h.2.2.2.2.1
  have h51 := h5.1
  refine z_spec (by decide +kernel) (Nat.le_of_ble_eq_true rfl) rfl (fun k hs hR hE => ?_)
  refine jw_aload_n (pc' := 1) jd_Branchwork_settle_0 rfl rfl rfl ?_
  refine jw_iload_n (pc' := 2) jd_Branchwork_settle_1 rfl rfl rfl ?_
  refine zx_callV0 (pc' := 5) hR (f_reqConf h 0 h0) jm_Branchwork_requireConflict jq_672 jc_Branchwork jd_Branchwork_settle_2 (mc_Branchwork _) rfl rfl (Nat.le_of_ble_eq_true rfl) (by omega) (by decide) rfl rfl ?_
  refine jw_aload_n (pc' := 6) jd_Branchwork_settle_5 rfl rfl rfl ?_
  refine jw_get (pc' := 9) (kf := 3) jc_Branchwork (by decide) jq_242 jd_Branchwork_settle_6 (mc_Branchwork _) rfl rfl ?_
  refine jw_iload_n (pc' := 10) jd_Branchwork_settle_9 rfl rfl rfl ?_
  refine zx_callV (pc' := 13) hR (k_drop h5 h0) jm_Conflicts_drop jq_678 jc_Conflicts jd_Branchwork_settle_10 (mc_Conflicts _ (by assumption)) rfl rfl (Nat.le_of_ble_eq_true rfl) (by omega) (by decide) rfl (fun v9 s1 q9 => ?_)
  obtain ⟨rfl, ⟨l2, g1, g2⟩, F1⟩ := q9
  refine jw_aload_n (pc' := 14) jd_Branchwork_settle_13 rfl rfl rfl ?_
  refine jw_get (pc' := 17) (kf := 3) jc_Branchwork (by decide) jq_242 jd_Branchwork_settle_14 (mc_Branchwork _) rfl rfl ?_
  refine zx_callV0 (pc' := 20) hR (k_many g1) jm_Conflicts_howMany jq_439 jc_Conflicts jd_Branchwork_settle_17 (mc_Conflicts _ (by assumption)) rfl rfl (Nat.le_of_ble_eq_true rfl) (by omega) (by decide) rfl rfl ?_
  refine zx_iret hE jd_Branchwork_settle_20 rfl ?_
  exact ⟨⟨_, rfl⟩, l2, h.confl g1 F1, g2⟩
theorem f_merge (h : GS o σ w Ts f g t c n kp l tp br cu mg) (hv : GV f g n kp tp br cu mg) (b : Nat) (hb : b < br) (h0 : ¬ tp cu = -1) (hc : eqT w (trV Ts (tp cu)) = 1) (hm : mg = -1) : zSpec mi_Branchwork_merge 6 o [.ref (zb o), .int (iI b)] σ (fun v s =>
    (caF f g (tp cu) (tp b) = tp b ∧ v = some (.int (iI (-1))) ∧ GS o s w Ts f g t c n kp l tp br cu mg) ∨
    (¬ caF f g (tp cu) (tp b) = tp b ∧ caF f g (tp cu) (tp b) = tp cu ∧ v = some (.int (iI (-2))) ∧ GS o s (trV Ts (tp b)) Ts f g t c n kp l (fun i => if i = cu then tp b else tp i) br cu mg) ∨
    (¬ caF f g (tp cu) (tp b) = tp b ∧ ¬ caF f g (tp cu) (tp b) = tp cu ∧ v = some (.int (iI ((mgF (trV Ts (caF f g (tp cu) (tp b))) (trV Ts (tp cu)) (trV Ts (tp b))).2.1 : Int))) ∧ GS o s (mgF (trV Ts (caF f g (tp cu) (tp b))) (trV Ts (tp cu)) (trV Ts (tp b))).1 Ts f g t c n kp (mgF (trV Ts (caF f g (tp cu) (tp b))) (trV Ts (tp cu)) (trV Ts (tp b))).2 tp br cu (tp b))) := by
  have h7 := h.2.2.2.2.2.2.1
  have h8 := h.2.2.2.2.2.2.2.1
  have h9 := h.2.2.2.2.2.2.2.2.1
  have h10 := h.2.2.2.2.2.2.2.2.2
  have v6 := hv.2.2.2.2.2.1
  have v5 := hv.2.2.2.2.1
  have v4 := hv.2.2.2.1
  have vn := hv.2.2.2.2.2.2.2.2
  have vt := v6 b
  have vc := v6 cu
  have eb := h7 b (by omega)
  have iw := isT_work (o := o)
  have ik := isK_own (o := o)
  have rc := ca_rng f g (tp cu) (tp b)
  have r1 := trA_rng (o := o) (x := caF f g (tp cu) (tp b))
  have r2 := trA_rng (o := o) (x := tp cu)
  have r3 := trA_rng (o := o) (x := tp b)
  refine z_spec (by decide +kernel) (Nat.le_of_ble_eq_true rfl) rfl (fun k hs hR hE => ?_)
  refine jw_aload_n (pc' := 1) jd_Branchwork_merge_0 rfl rfl rfl ?_
  refine jw_iload_n (pc' := 2) jd_Branchwork_merge_1 rfl rfl rfl ?_
  refine zx_callV0 (pc' := 5) hR (f_reqBranch h hv b hb) jm_Branchwork_requireBranch jq_500 jc_Branchwork jd_Branchwork_merge_2 (mc_Branchwork _) rfl rfl (Nat.le_of_ble_eq_true rfl) (by omega) (by decide) rfl rfl ?_
  refine jw_aload_n (pc' := 6) jd_Branchwork_merge_5 rfl rfl rfl ?_
  refine zx_callV0 (pc' := 9) hR (f_head h hv) jm_Branchwork_head jq_448 jc_Branchwork jd_Branchwork_merge_6 (mc_Branchwork _) rfl rfl (Nat.le_of_ble_eq_true rfl) (by omega) (by decide) rfl rfl ?_
  refine zx_iconst (pc' := 10) (n := -1) jd_Branchwork_merge_9 rfl ?_
  refine zx_icmp_ne (tgt := 23) (pc' := 13) (by first | exact rg_iv _ _ _ | omega) (by first | exact rg_iv _ _ _ | omega) jd_Branchwork_merge_10 (by decide) rfl (fun q => ?_) (fun q => ?_)
  rotate_left
  · exfalso; omega
  refine jw_aload_n (pc' := 24) jd_Branchwork_merge_23 rfl rfl rfl ?_
  refine zx_callV0 (pc' := 27) hR (f_reqClean h hv hc hm) jm_Branchwork_requireCleanAndUnmerged jq_505 jc_Branchwork jd_Branchwork_merge_24 (mc_Branchwork _) rfl rfl (Nat.le_of_ble_eq_true rfl) (by omega) (by decide) rfl rfl ?_
  refine jw_aload_n (pc' := 28) jd_Branchwork_merge_27 rfl rfl rfl ?_
  refine zx_callV0 (pc' := 31) hR (f_head h hv) jm_Branchwork_head jq_448 jc_Branchwork jd_Branchwork_merge_28 (mc_Branchwork _) rfl rfl (Nat.le_of_ble_eq_true rfl) (by omega) (by decide) rfl rfl ?_
  refine jw_istore_n (pc' := 32) (lc' := [(0, _), (1, _), (2, _)]) jd_Branchwork_merge_31 rfl (Nat.le_of_ble_eq_true rfl) ⟨rfl, rfl, rfl, trivial⟩ rfl ?_
  refine jw_aload_n (pc' := 33) jd_Branchwork_merge_32 rfl rfl rfl ?_
  refine jw_get (pc' := 36) (kf := 6) jc_Branchwork (by decide) jq_245 jd_Branchwork_merge_33 (mc_Branchwork _) rfl rfl ?_
  refine jw_iload_n (pc' := 37) jd_Branchwork_merge_36 rfl rfl rfl ?_
  refine zx_iald (pc' := 38) jd_Branchwork_merge_37 (ml_Branchwork_tips _) rfl (by omega) (Nat.le_of_ble_eq_true rfl) rfl ?_
  refine jw_istore_n (pc' := 39) (lc' := [(0, _), (2, _), (3, _)]) jd_Branchwork_merge_38 rfl (Nat.le_of_ble_eq_true rfl) ⟨rfl, rfl, rfl, trivial⟩ rfl ?_
  rw [eb]
  refine jw_aload_n (pc' := 40) jd_Branchwork_merge_39 rfl rfl rfl ?_
  refine jw_get (pc' := 43) (kf := 1) jc_Branchwork (by decide) jq_240 jd_Branchwork_merge_40 (mc_Branchwork _) rfl rfl ?_
  refine jw_iload_n (pc' := 44) jd_Branchwork_merge_43 rfl rfl rfl ?_
  refine jw_iload_n (pc' := 45) jd_Branchwork_merge_44 rfl rfl rfl ?_
  refine zx_callV0 (pc' := 48) hR (h_common h.2.2.2.1 _ _ (by omega) (by omega)) jm_History_commonAncestor jq_516 jc_History jd_Branchwork_merge_45 (mc_History _) rfl rfl (Nat.le_of_ble_eq_true rfl) (by omega) (by decide) rfl rfl ?_
  refine jw_istore (pc' := 50) (lc' := [(0, _), (2, _), (3, _), (4, _)]) jd_Branchwork_merge_48 (Nat.le_of_ble_eq_true rfl) ⟨rfl, rfl, rfl, rfl, trivial⟩ rfl ?_
  refine jw_iload (pc' := 52) jd_Branchwork_merge_50 rfl rfl ?_
  refine jw_iload_n (pc' := 53) jd_Branchwork_merge_52 rfl rfl rfl ?_
  refine zx_icmp_ne (tgt := 58) (pc' := 56) (by first | exact rg_iv _ _ _ | omega) (by first | exact rg_iv _ _ _ | omega) jd_Branchwork_merge_53 (by decide) rfl (fun q2 => ?_) (fun q2 => ?_)
  rotate_left
  · refine zx_iconst (pc' := 57) (n := -1) jd_Branchwork_merge_56 rfl ?_
    refine zx_iret hE jd_Branchwork_merge_57 rfl ?_
    exact Or.inl ⟨q2, rfl, h⟩
  refine jw_iload (pc' := 60) jd_Branchwork_merge_58 rfl rfl ?_
  refine jw_iload_n (pc' := 61) jd_Branchwork_merge_60 rfl rfl rfl ?_
  refine zx_icmp_ne (tgt := 92) (pc' := 64) (by first | exact rg_iv _ _ _ | omega) (by first | exact rg_iv _ _ _ | omega) jd_Branchwork_merge_61 (by decide) rfl (fun q3 => ?_) (fun q3 => ?_)
  rotate_left
  · skip
    have h2 : GS o (si σ (zb o + 983) cu (tp b)) w Ts f g t c n kp l (fun i => if i = cu then tp b else tp i) br cu mg := by
      refine h.own (fun a p1 p2 => si_ne p2) (fun i hi => ?_) ?_ ?_ ?_
      · rw [iv_si (by omega)]
        by_cases e : i = cu
        · rw [if_pos ⟨rfl, e⟩, if_pos e]
        · rw [if_neg (fun z => e z.2), if_neg e]; exact h7 i hi
      · rw [iv_cell (si_ne (by omega))]; exact h8
      · rw [iv_cell (si_ne (by omega))]; exact h9
      · rw [iv_cell (si_ne (by omega))]; exact h10
    refine jw_aload_n (pc' := 65) jd_Branchwork_merge_64 rfl rfl rfl ?_
    refine jw_get (pc' := 68) (kf := 6) jc_Branchwork (by decide) jq_245 jd_Branchwork_merge_65 (mc_Branchwork _) rfl rfl ?_
    refine jw_aload_n (pc' := 69) jd_Branchwork_merge_68 rfl rfl rfl ?_
    refine zx_getI (pc' := 72) (kf := 8) jc_Branchwork (by decide) jq_247 jd_Branchwork_merge_69 (mc_Branchwork _) rfl rfl ?_
    refine jw_iload_n (pc' := 73) jd_Branchwork_merge_72 rfl rfl rfl ?_
    refine zx_iast (pc' := 74) (j := cu) jd_Branchwork_merge_73 (ml_Branchwork_tips _) h9 (by omega) (Nat.le_of_ble_eq_true rfl) rfl ?_
    refine jw_aload_n (pc' := 75) jd_Branchwork_merge_74 rfl rfl rfl ?_
    refine jw_get (pc' := 78) (kf := 0) jc_Branchwork (by decide) jq_239 jd_Branchwork_merge_75 (mc_Branchwork _) rfl rfl ?_
    refine jw_aload_n (pc' := 79) jd_Branchwork_merge_78 rfl rfl rfl ?_
    refine jw_get (pc' := 82) (kf := 1) jc_Branchwork (by decide) jq_240 jd_Branchwork_merge_79 (mc_Branchwork _) rfl rfl ?_
    refine jw_iload_n (pc' := 83) jd_Branchwork_merge_82 rfl rfl rfl ?_
    refine zx_callV0 (pc' := 86) hR (h_treeOf _ (by omega)) jm_History_treeOf jq_452 jc_History jd_Branchwork_merge_83 (mc_History _) rfl rfl (Nat.le_of_ble_eq_true rfl) (by omega) (by decide) rfl rfl ?_
    refine zx_callV (pc' := 89) hR (t_copyFrom iw (h2.tree (tp b)) (by omega)) jm_Tree_copyFrom jq_511 jc_Tree jd_Branchwork_merge_86 (mc_Tree _ (by assumption)) rfl rfl (Nat.le_of_ble_eq_true rfl) (by omega) (by decide) rfl (fun v9 s2 q9 => ?_)
    obtain ⟨rfl, g2, F2⟩ := q9
    refine zx_bipush (pc' := 91) (n := -2) jd_Branchwork_merge_89 (by decide +kernel) rfl ?_
    refine zx_iret hE jd_Branchwork_merge_91 rfl ?_
    exact Or.inr (Or.inl ⟨q2, q3, rfl, h2.work g2 (fun a p1 => F2 a (by omega))⟩)
  refine jw_aload_n (pc' := 93) jd_Branchwork_merge_92 rfl rfl rfl ?_
  refine jw_get (pc' := 96) (kf := 2) jc_Branchwork (by decide) jq_241 jd_Branchwork_merge_93 (mc_Branchwork _) rfl rfl ?_
  refine jw_aload_n (pc' := 97) jd_Branchwork_merge_96 rfl rfl rfl ?_
  refine jw_get (pc' := 100) (kf := 1) jc_Branchwork (by decide) jq_240 jd_Branchwork_merge_97 (mc_Branchwork _) rfl rfl ?_
  refine jw_iload (pc' := 102) jd_Branchwork_merge_100 rfl rfl ?_
  refine zx_callV0 (pc' := 105) hR (h_treeOf _ (by omega)) jm_History_treeOf jq_452 jc_History jd_Branchwork_merge_102 (mc_History _) rfl rfl (Nat.le_of_ble_eq_true rfl) (by omega) (by decide) rfl rfl ?_
  refine jw_aload_n (pc' := 106) jd_Branchwork_merge_105 rfl rfl rfl ?_
  refine jw_get (pc' := 109) (kf := 1) jc_Branchwork (by decide) jq_240 jd_Branchwork_merge_106 (mc_Branchwork _) rfl rfl ?_
  refine jw_iload_n (pc' := 110) jd_Branchwork_merge_109 rfl rfl rfl ?_
  refine zx_callV0 (pc' := 113) hR (h_treeOf _ (by omega)) jm_History_treeOf jq_452 jc_History jd_Branchwork_merge_110 (mc_History _) rfl rfl (Nat.le_of_ble_eq_true rfl) (by omega) (by decide) rfl rfl ?_
  refine jw_aload_n (pc' := 114) jd_Branchwork_merge_113 rfl rfl rfl ?_
  refine jw_get (pc' := 117) (kf := 1) jc_Branchwork (by decide) jq_240 jd_Branchwork_merge_114 (mc_Branchwork _) rfl rfl ?_
  refine jw_iload_n (pc' := 118) jd_Branchwork_merge_117 rfl rfl rfl ?_
  refine zx_callV0 (pc' := 121) hR (h_treeOf _ (by omega)) jm_History_treeOf jq_452 jc_History jd_Branchwork_merge_118 (mc_History _) rfl rfl (Nat.le_of_ble_eq_true rfl) (by omega) (by decide) rfl rfl ?_
  refine zx_callV (pc' := 124) hR (g_merge h.2.2.2.2.2.1 (h.tree _) (h.tree (tp cu)) (h.tree (tp b)) (by omega) (by omega) (by omega)) jm_Merger_mergeTrees jq_531 jc_Merger jd_Branchwork_merge_121 (mc_Merger _) rfl rfl (Nat.le_of_ble_eq_true rfl) (by omega) (by decide) rfl (fun v9 s1 q9 => ?_)
  obtain ⟨rfl, g1, F1⟩ := q9
  have hr : zRo mi_Merger_result 0 o [.ref (zb o + 905)] s1 (some (.ref (zb o + 906))) := by
    refine z_spec (by decide +kernel) (Nat.le_of_ble_eq_true rfl) rfl (fun k hs hR hE => ?_)
    refine jw_aload_n (pc' := 1) jd_Merger_result_0 rfl rfl rfl ?_
    refine jw_get (pc' := 4) (kf := 0) jc_Merger (by decide) jq_207 jd_Merger_result_1 (mc_Merger _) rfl rfl ?_
    refine zx_aret hE jd_Merger_result_4 rfl ?_
    exact ⟨rfl, rfl⟩
  have a1 := h.e (zE.mg F1)
  refine jw_aload_n (pc' := 125) jd_Branchwork_merge_124 rfl rfl rfl ?_
  refine jw_get (pc' := 128) (kf := 0) jc_Branchwork (by decide) jq_239 jd_Branchwork_merge_125 (mc_Branchwork _) rfl rfl ?_
  refine jw_aload_n (pc' := 129) jd_Branchwork_merge_128 rfl rfl rfl ?_
  refine jw_get (pc' := 132) (kf := 2) jc_Branchwork (by decide) jq_241 jd_Branchwork_merge_129 (mc_Branchwork _) rfl rfl ?_
  refine zx_callV0 (pc' := 135) hR (hr) jm_Merger_result jq_641 jc_Merger jd_Branchwork_merge_132 (mc_Merger _) rfl rfl (Nat.le_of_ble_eq_true rfl) (by omega) (by decide) rfl rfl ?_
  refine zx_callV (pc' := 138) hR (t_copyFrom iw g1.1 (by omega)) jm_Tree_copyFrom jq_511 jc_Tree jd_Branchwork_merge_135 (mc_Tree _ (by assumption)) rfl rfl (Nat.le_of_ble_eq_true rfl) (by omega) (by decide) rfl (fun v9 s2 q9 => ?_)
  obtain ⟨rfl, g2, F2⟩ := q9
  have a2 := a1.work g2 (fun a p1 => F2 a (by omega))
  have ht : zRo mi_Merger_told 0 o [.ref (zb o + 905)] s2 (some (.ref (zb o + 934))) := by
    refine z_spec (by decide +kernel) (Nat.le_of_ble_eq_true rfl) rfl (fun k hs hR hE => ?_)
    refine jw_aload_n (pc' := 1) jd_Merger_told_0 rfl rfl rfl ?_
    refine jw_get (pc' := 4) (kf := 1) jc_Merger (by decide) jq_208 jd_Merger_told_1 (mc_Merger _) rfl rfl ?_
    refine zx_aret hE jd_Merger_told_4 rfl ?_
    exact ⟨rfl, rfl⟩
  refine jw_aload_n (pc' := 139) jd_Branchwork_merge_138 rfl rfl rfl ?_
  refine jw_get (pc' := 142) (kf := 3) jc_Branchwork (by decide) jq_242 jd_Branchwork_merge_139 (mc_Branchwork _) rfl rfl ?_
  refine jw_aload_n (pc' := 143) jd_Branchwork_merge_142 rfl rfl rfl ?_
  refine jw_get (pc' := 146) (kf := 2) jc_Branchwork (by decide) jq_241 jd_Branchwork_merge_143 (mc_Branchwork _) rfl rfl ?_
  refine zx_callV0 (pc' := 149) hR (ht) jm_Merger_told jq_645 jc_Merger jd_Branchwork_merge_146 (mc_Merger _) rfl rfl (Nat.le_of_ble_eq_true rfl) (by omega) (by decide) rfl rfl ?_
  refine zx_callV (pc' := 152) hR (k_copyFrom ik (g1.2.fr F2 (by omega)) (by omega)) jm_Conflicts_copyFrom jq_649 jc_Conflicts jd_Branchwork_merge_149 (mc_Conflicts _ (by assumption)) rfl rfl (Nat.le_of_ble_eq_true rfl) (by omega) (by decide) rfl (fun v9 s3 q9 => ?_)
  obtain ⟨rfl, g3, F3⟩ := q9
  have a3 := a2.confl g3 F3
  refine jw_aload_n (pc' := 153) jd_Branchwork_merge_152 rfl rfl rfl ?_
  refine jw_iload_n (pc' := 154) jd_Branchwork_merge_153 rfl rfl rfl ?_
  refine zx_putI (pc' := 157) (kf := 9) jc_Branchwork (by decide) jq_248 jd_Branchwork_merge_154 rfl (by decide +kernel) (mc_Branchwork _) rfl rfl ?_
  refine jw_sub (lc' := [(0, _)]) ⟨rfl, trivial⟩ ?_
  have a4 : GS o (si s3 (zb o) 9 (tp b)) (mgF (trV Ts (caF f g (tp cu) (tp b))) (trV Ts (tp cu)) (trV Ts (tp b))).1 Ts f g t c n kp (mgF (trV Ts (caF f g (tp cu) (tp b))) (trV Ts (tp cu)) (trV Ts (tp b))).2 tp br cu (tp b) := by
    refine a3.own (fun a p1 p2 => si_ne p1) (fun i hi => ?_) ?_ ?_ ?_
    · rw [iv_cell (si_ne (by omega))]; exact a3.2.2.2.2.2.2.1 i hi
    · rw [iv_si (by omega), if_neg (by omega)]; exact a3.2.2.2.2.2.2.2.1
    · rw [iv_si (by omega), if_neg (by omega)]; exact a3.2.2.2.2.2.2.2.2.1
    · rw [iv_si (by omega), if_pos ⟨rfl, rfl⟩]
  refine jw_aload_n (pc' := 158) jd_Branchwork_merge_157 rfl rfl rfl ?_
  refine jw_get (pc' := 161) (kf := 3) jc_Branchwork (by decide) jq_242 jd_Branchwork_merge_158 (mc_Branchwork _) rfl rfl ?_
  refine zx_callV0 (pc' := 164) hR (k_many a4.2.2.2.2.1) jm_Conflicts_howMany jq_439 jc_Conflicts jd_Branchwork_merge_161 (mc_Conflicts _ (by assumption)) rfl rfl (Nat.le_of_ble_eq_true rfl) (by omega) (by decide) rfl rfl ?_
  refine zx_iret hE jd_Branchwork_merge_164 rfl ?_
  exact Or.inr (Or.inr ⟨q2, q3, rfl, a4⟩)
end
