theorem jd_Branchwork_collect_0 : decode mi_Branchwork_collect.2.1 0 = .ok (.aload_n 0, 1) := by decide +kernel
theorem jd_Branchwork_collect_1 : decode mi_Branchwork_collect.2.1 1 = .ok (.invokevirtual 211, 3) := by decide +kernel
theorem jd_Branchwork_collect_4 : decode mi_Branchwork_collect.2.1 4 = .ok (.istore_n 1, 1) := by decide +kernel
theorem jd_Branchwork_collect_5 : decode mi_Branchwork_collect.2.1 5 = .ok (.aload_n 0, 1) := by decide +kernel
theorem jd_Branchwork_collect_6 : decode mi_Branchwork_collect.2.1 6 = .ok (.getfield 19, 3) := by decide +kernel
theorem jd_Branchwork_collect_9 : decode mi_Branchwork_collect.2.1 9 = .ok (.aload_n 0, 1) := by decide +kernel
theorem jd_Branchwork_collect_10 : decode mi_Branchwork_collect.2.1 10 = .ok (.invokevirtual 214, 3) := by decide +kernel
theorem jd_Branchwork_collect_13 : decode mi_Branchwork_collect.2.1 13 = .ok (.invokevirtual 217, 3) := by decide +kernel
theorem jd_Branchwork_collect_16 : decode mi_Branchwork_collect.2.1 16 = .ok (.iload_n 1, 1) := by decide +kernel
theorem jd_Branchwork_collect_17 : decode mi_Branchwork_collect.2.1 17 = .ok (.ireturn, 1) := by decide +kernel
theorem jd_History_keepOnly_0 : decode mi_History_keepOnly.2.1 0 = .ok (.aload_n 0, 1) := by decide +kernel
theorem jd_History_keepOnly_1 : decode mi_History_keepOnly.2.1 1 = .ok (.dup, 1) := by decide +kernel
theorem jd_History_keepOnly_2 : decode mi_History_keepOnly.2.1 2 = .ok (.getfield 45, 3) := by decide +kernel
theorem jd_History_keepOnly_5 : decode mi_History_keepOnly.2.1 5 = .ok (.iload_n 1, 1) := by decide +kernel
theorem jd_History_keepOnly_6 : decode mi_History_keepOnly.2.1 6 = .ok (.iand, 1) := by decide +kernel
theorem jd_History_keepOnly_7 : decode mi_History_keepOnly.2.1 7 = .ok (.putfield 45, 3) := by decide +kernel
theorem jd_History_keepOnly_10 : decode mi_History_keepOnly.2.1 10 = .ok (.return_, 1) := by decide +kernel
theorem jd_Branchwork_many_0 : decode mi_Branchwork_many.2.1 0 = .ok (.iload_n 1, 1) := by decide +kernel
theorem jd_Branchwork_many_1 : decode mi_Branchwork_many.2.1 1 = .ok (.tableswitch 101 0 5 #[39, 50, 55, 63, 71, 86], 39) := by decide +kernel
theorem jd_Branchwork_many_40 : decode mi_Branchwork_many.2.1 40 = .ok (.aload_n 0, 1) := by decide +kernel
theorem jd_Branchwork_many_41 : decode mi_Branchwork_many.2.1 41 = .ok (.getfield 19, 3) := by decide +kernel
theorem jd_Branchwork_many_44 : decode mi_Branchwork_many.2.1 44 = .ok (.invokevirtual 220, 3) := by decide +kernel
theorem jd_Branchwork_many_47 : decode mi_Branchwork_many.2.1 47 = .ok (.invokestatic 223, 3) := by decide +kernel
theorem jd_Branchwork_many_50 : decode mi_Branchwork_many.2.1 50 = .ok (.ireturn, 1) := by decide +kernel
theorem jd_Branchwork_many_51 : decode mi_Branchwork_many.2.1 51 = .ok (.aload_n 0, 1) := by decide +kernel
theorem jd_Branchwork_many_52 : decode mi_Branchwork_many.2.1 52 = .ok (.getfield 55, 3) := by decide +kernel
theorem jd_Branchwork_many_55 : decode mi_Branchwork_many.2.1 55 = .ok (.ireturn, 1) := by decide +kernel
theorem jd_Branchwork_many_56 : decode mi_Branchwork_many.2.1 56 = .ok (.aload_n 0, 1) := by decide +kernel
theorem jd_Branchwork_many_57 : decode mi_Branchwork_many.2.1 57 = .ok (.getfield 12, 3) := by decide +kernel
theorem jd_Branchwork_many_60 : decode mi_Branchwork_many.2.1 60 = .ok (.invokevirtual 134, 3) := by decide +kernel
theorem jd_Branchwork_many_63 : decode mi_Branchwork_many.2.1 63 = .ok (.ireturn, 1) := by decide +kernel
theorem jd_Branchwork_many_64 : decode mi_Branchwork_many.2.1 64 = .ok (.aload_n 0, 1) := by decide +kernel
theorem jd_Branchwork_many_65 : decode mi_Branchwork_many.2.1 65 = .ok (.getfield 33, 3) := by decide +kernel
theorem jd_Branchwork_many_68 : decode mi_Branchwork_many.2.1 68 = .ok (.invokevirtual 153, 3) := by decide +kernel
theorem jd_Branchwork_many_71 : decode mi_Branchwork_many.2.1 71 = .ok (.ireturn, 1) := by decide +kernel
theorem jd_Branchwork_many_72 : decode mi_Branchwork_many.2.1 72 = .ok (.aload_n 0, 1) := by decide +kernel
theorem jd_Branchwork_many_73 : decode mi_Branchwork_many.2.1 73 = .ok (.getfield 19, 3) := by decide +kernel
theorem jd_Branchwork_many_76 : decode mi_Branchwork_many.2.1 76 = .ok (.aload_n 0, 1) := by decide +kernel
theorem jd_Branchwork_many_77 : decode mi_Branchwork_many.2.1 77 = .ok (.getfield 19, 3) := by decide +kernel
theorem jd_Branchwork_many_80 : decode mi_Branchwork_many.2.1 80 = .ok (.invokevirtual 220, 3) := by decide +kernel
theorem jd_Branchwork_many_83 : decode mi_Branchwork_many.2.1 83 = .ok (.invokevirtual 229, 3) := by decide +kernel
theorem jd_Branchwork_many_86 : decode mi_Branchwork_many.2.1 86 = .ok (.ireturn, 1) := by decide +kernel
theorem jd_Branchwork_many_87 : decode mi_Branchwork_many.2.1 87 = .ok (.aload_n 0, 1) := by decide +kernel
theorem jd_Branchwork_many_88 : decode mi_Branchwork_many.2.1 88 = .ok (.getfield 19, 3) := by decide +kernel
theorem jd_Branchwork_many_91 : decode mi_Branchwork_many.2.1 91 = .ok (.aload_n 0, 1) := by decide +kernel
theorem jd_Branchwork_many_92 : decode mi_Branchwork_many.2.1 92 = .ok (.getfield 19, 3) := by decide +kernel
theorem jd_Branchwork_many_95 : decode mi_Branchwork_many.2.1 95 = .ok (.invokevirtual 220, 3) := by decide +kernel
theorem jd_Branchwork_many_98 : decode mi_Branchwork_many.2.1 98 = .ok (.invokevirtual 232, 3) := by decide +kernel
theorem jd_Branchwork_many_101 : decode mi_Branchwork_many.2.1 101 = .ok (.ireturn, 1) := by decide +kernel
theorem jd_Branchwork_many_102 : decode mi_Branchwork_many.2.1 102 = .ok (.new 92, 3) := by decide +kernel
theorem jd_Branchwork_many_105 : decode mi_Branchwork_many.2.1 105 = .ok (.dup, 1) := by decide +kernel
theorem jd_Branchwork_many_106 : decode mi_Branchwork_many.2.1 106 = .ok (.ldc 235, 2) := by decide +kernel
theorem jd_Branchwork_many_108 : decode mi_Branchwork_many.2.1 108 = .ok (.invokespecial 96, 3) := by decide +kernel
theorem jd_Branchwork_many_111 : decode mi_Branchwork_many.2.1 111 = .ok (.athrow, 1) := by decide +kernel
theorem jd_Branchwork_now_0 : decode mi_Branchwork_now.2.1 0 = .ok (.iload_n 1, 1) := by decide +kernel
theorem jd_Branchwork_now_1 : decode mi_Branchwork_now.2.1 1 = .ok (.tableswitch 42 0 2 #[27, 32, 37], 27) := by decide +kernel
theorem jd_Branchwork_now_28 : decode mi_Branchwork_now.2.1 28 = .ok (.aload_n 0, 1) := by decide +kernel
theorem jd_Branchwork_now_29 : decode mi_Branchwork_now.2.1 29 = .ok (.getfield 59, 3) := by decide +kernel
theorem jd_Branchwork_now_32 : decode mi_Branchwork_now.2.1 32 = .ok (.ireturn, 1) := by decide +kernel
theorem jd_Branchwork_now_33 : decode mi_Branchwork_now.2.1 33 = .ok (.aload_n 0, 1) := by decide +kernel
theorem jd_Branchwork_now_34 : decode mi_Branchwork_now.2.1 34 = .ok (.invokevirtual 137, 3) := by decide +kernel
theorem jd_Branchwork_now_37 : decode mi_Branchwork_now.2.1 37 = .ok (.ireturn, 1) := by decide +kernel
theorem jd_Branchwork_now_38 : decode mi_Branchwork_now.2.1 38 = .ok (.aload_n 0, 1) := by decide +kernel
theorem jd_Branchwork_now_39 : decode mi_Branchwork_now.2.1 39 = .ok (.getfield 62, 3) := by decide +kernel
theorem jd_Branchwork_now_42 : decode mi_Branchwork_now.2.1 42 = .ok (.ireturn, 1) := by decide +kernel
theorem jd_Branchwork_now_43 : decode mi_Branchwork_now.2.1 43 = .ok (.new 92, 3) := by decide +kernel
theorem jd_Branchwork_now_46 : decode mi_Branchwork_now.2.1 46 = .ok (.dup, 1) := by decide +kernel
theorem jd_Branchwork_now_47 : decode mi_Branchwork_now.2.1 47 = .ok (.ldc 237, 2) := by decide +kernel
theorem jd_Branchwork_now_49 : decode mi_Branchwork_now.2.1 49 = .ok (.invokespecial 96, 3) := by decide +kernel
theorem jd_Branchwork_now_52 : decode mi_Branchwork_now.2.1 52 = .ok (.athrow, 1) := by decide +kernel
theorem jd_Branchwork_at_0 : decode mi_Branchwork_at.2.1 0 = .ok (.aload_n 0, 1) := by decide +kernel
theorem jd_Branchwork_at_1 : decode mi_Branchwork_at.2.1 1 = .ok (.iload_n 1, 1) := by decide +kernel
theorem jd_Branchwork_at_2 : decode mi_Branchwork_at.2.1 2 = .ok (.invokevirtual 171, 3) := by decide +kernel
theorem jd_Branchwork_at_5 : decode mi_Branchwork_at.2.1 5 = .ok (.aload_n 0, 1) := by decide +kernel
theorem jd_Branchwork_at_6 : decode mi_Branchwork_at.2.1 6 = .ok (.getfield 51, 3) := by decide +kernel
theorem jd_Branchwork_at_9 : decode mi_Branchwork_at.2.1 9 = .ok (.iload_n 1, 1) := by decide +kernel
theorem jd_Branchwork_at_10 : decode mi_Branchwork_at.2.1 10 = .ok (.iaload, 1) := by decide +kernel
theorem jd_Branchwork_at_11 : decode mi_Branchwork_at.2.1 11 = .ok (.ireturn, 1) := by decide +kernel
theorem jd_Branchwork_ofCommit_0 : decode mi_Branchwork_ofCommit.2.1 0 = .ok (.aload_n 0, 1) := by decide +kernel
theorem jd_Branchwork_ofCommit_1 : decode mi_Branchwork_ofCommit.2.1 1 = .ok (.iload_n 1, 1) := by decide +kernel
theorem jd_Branchwork_ofCommit_2 : decode mi_Branchwork_ofCommit.2.1 2 = .ok (.invokevirtual 180, 3) := by decide +kernel
theorem jd_Branchwork_ofCommit_5 : decode mi_Branchwork_ofCommit.2.1 5 = .ok (.iload_n 2, 1) := by decide +kernel
theorem jd_Branchwork_ofCommit_6 : decode mi_Branchwork_ofCommit.2.1 6 = .ok (.tableswitch 106 0 5 #[38, 47, 56, 65, 77, 89], 38) := by decide +kernel
theorem jd_Branchwork_ofCommit_44 : decode mi_Branchwork_ofCommit.2.1 44 = .ok (.aload_n 0, 1) := by decide +kernel
theorem jd_Branchwork_ofCommit_45 : decode mi_Branchwork_ofCommit.2.1 45 = .ok (.getfield 19, 3) := by decide +kernel
theorem jd_Branchwork_ofCommit_48 : decode mi_Branchwork_ofCommit.2.1 48 = .ok (.iload_n 1, 1) := by decide +kernel
theorem jd_Branchwork_ofCommit_49 : decode mi_Branchwork_ofCommit.2.1 49 = .ok (.invokevirtual 239, 3) := by decide +kernel
theorem jd_Branchwork_ofCommit_52 : decode mi_Branchwork_ofCommit.2.1 52 = .ok (.ireturn, 1) := by decide +kernel
theorem jd_Branchwork_ofCommit_53 : decode mi_Branchwork_ofCommit.2.1 53 = .ok (.aload_n 0, 1) := by decide +kernel
theorem jd_Branchwork_ofCommit_54 : decode mi_Branchwork_ofCommit.2.1 54 = .ok (.getfield 19, 3) := by decide +kernel
theorem jd_Branchwork_ofCommit_57 : decode mi_Branchwork_ofCommit.2.1 57 = .ok (.iload_n 1, 1) := by decide +kernel
theorem jd_Branchwork_ofCommit_58 : decode mi_Branchwork_ofCommit.2.1 58 = .ok (.invokevirtual 242, 3) := by decide +kernel
theorem jd_Branchwork_ofCommit_61 : decode mi_Branchwork_ofCommit.2.1 61 = .ok (.ireturn, 1) := by decide +kernel
theorem jd_Branchwork_ofCommit_62 : decode mi_Branchwork_ofCommit.2.1 62 = .ok (.aload_n 0, 1) := by decide +kernel
theorem jd_Branchwork_ofCommit_63 : decode mi_Branchwork_ofCommit.2.1 63 = .ok (.getfield 19, 3) := by decide +kernel
theorem jd_Branchwork_ofCommit_66 : decode mi_Branchwork_ofCommit.2.1 66 = .ok (.iload_n 1, 1) := by decide +kernel
theorem jd_Branchwork_ofCommit_67 : decode mi_Branchwork_ofCommit.2.1 67 = .ok (.invokevirtual 245, 3) := by decide +kernel
theorem jd_Branchwork_ofCommit_70 : decode mi_Branchwork_ofCommit.2.1 70 = .ok (.ireturn, 1) := by decide +kernel
theorem jd_Branchwork_ofCommit_71 : decode mi_Branchwork_ofCommit.2.1 71 = .ok (.aload_n 0, 1) := by decide +kernel
theorem jd_Branchwork_ofCommit_72 : decode mi_Branchwork_ofCommit.2.1 72 = .ok (.getfield 19, 3) := by decide +kernel
theorem jd_Branchwork_ofCommit_75 : decode mi_Branchwork_ofCommit.2.1 75 = .ok (.iload_n 1, 1) := by decide +kernel
theorem jd_Branchwork_ofCommit_76 : decode mi_Branchwork_ofCommit.2.1 76 = .ok (.invokevirtual 140, 3) := by decide +kernel
theorem jd_Branchwork_ofCommit_79 : decode mi_Branchwork_ofCommit.2.1 79 = .ok (.invokevirtual 134, 3) := by decide +kernel
theorem jd_Branchwork_ofCommit_82 : decode mi_Branchwork_ofCommit.2.1 82 = .ok (.ireturn, 1) := by decide +kernel
theorem jd_Branchwork_ofCommit_83 : decode mi_Branchwork_ofCommit.2.1 83 = .ok (.aload_n 0, 1) := by decide +kernel
theorem jd_Branchwork_ofCommit_84 : decode mi_Branchwork_ofCommit.2.1 84 = .ok (.getfield 19, 3) := by decide +kernel
theorem jd_Branchwork_ofCommit_87 : decode mi_Branchwork_ofCommit.2.1 87 = .ok (.iload_n 1, 1) := by decide +kernel
theorem jd_Branchwork_ofCommit_88 : decode mi_Branchwork_ofCommit.2.1 88 = .ok (.invokevirtual 248, 3) := by decide +kernel
theorem jd_Branchwork_ofCommit_91 : decode mi_Branchwork_ofCommit.2.1 91 = .ok (.invokestatic 223, 3) := by decide +kernel
theorem jd_Branchwork_ofCommit_94 : decode mi_Branchwork_ofCommit.2.1 94 = .ok (.ireturn, 1) := by decide +kernel
theorem jd_Branchwork_ofCommit_95 : decode mi_Branchwork_ofCommit.2.1 95 = .ok (.iload_n 1, 1) := by decide +kernel
theorem jd_Branchwork_ofCommit_96 : decode mi_Branchwork_ofCommit.2.1 96 = .ok (.aload_n 0, 1) := by decide +kernel
theorem jd_Branchwork_ofCommit_97 : decode mi_Branchwork_ofCommit.2.1 97 = .ok (.invokevirtual 214, 3) := by decide +kernel
theorem jd_Branchwork_ofCommit_100 : decode mi_Branchwork_ofCommit.2.1 100 = .ok (.invokestatic 251, 3) := by decide +kernel
theorem jd_Branchwork_ofCommit_103 : decode mi_Branchwork_ofCommit.2.1 103 = .ok (.ifCond .eq 7, 3) := by decide +kernel
theorem jd_Branchwork_ofCommit_106 : decode mi_Branchwork_ofCommit.2.1 106 = .ok (.iconst 1, 1) := by decide +kernel
theorem jd_Branchwork_ofCommit_107 : decode mi_Branchwork_ofCommit.2.1 107 = .ok (.goto 4, 3) := by decide +kernel
theorem jd_Branchwork_ofCommit_110 : decode mi_Branchwork_ofCommit.2.1 110 = .ok (.iconst 0, 1) := by decide +kernel
theorem jd_Branchwork_ofCommit_111 : decode mi_Branchwork_ofCommit.2.1 111 = .ok (.ireturn, 1) := by decide +kernel
theorem jd_Branchwork_ofCommit_112 : decode mi_Branchwork_ofCommit.2.1 112 = .ok (.new 92, 3) := by decide +kernel
theorem jd_Branchwork_ofCommit_115 : decode mi_Branchwork_ofCommit.2.1 115 = .ok (.dup, 1) := by decide +kernel
theorem jd_Branchwork_ofCommit_116 : decode mi_Branchwork_ofCommit.2.1 116 = .ok (.ldc 235, 2) := by decide +kernel
theorem jd_Branchwork_ofCommit_118 : decode mi_Branchwork_ofCommit.2.1 118 = .ok (.invokespecial 96, 3) := by decide +kernel
theorem jd_Branchwork_ofCommit_121 : decode mi_Branchwork_ofCommit.2.1 121 = .ok (.athrow, 1) := by decide +kernel
theorem jd_Branchwork_line_0 : decode mi_Branchwork_line.2.1 0 = .ok (.aload_n 0, 1) := by decide +kernel
theorem jd_Branchwork_line_1 : decode mi_Branchwork_line.2.1 1 = .ok (.iload_n 1, 1) := by decide +kernel
theorem jd_Branchwork_line_2 : decode mi_Branchwork_line.2.1 2 = .ok (.iload_n 2, 1) := by decide +kernel
theorem jd_Branchwork_line_3 : decode mi_Branchwork_line.2.1 3 = .ok (.invokevirtual 255, 3) := by decide +kernel
theorem jd_Branchwork_line_6 : decode mi_Branchwork_line.2.1 6 = .ok (.astore 4, 2) := by decide +kernel
theorem jd_Branchwork_line_8 : decode mi_Branchwork_line.2.1 8 = .ok (.aload 4, 2) := by decide +kernel
theorem jd_Branchwork_line_10 : decode mi_Branchwork_line.2.1 10 = .ok (.invokevirtual 259, 3) := by decide +kernel
theorem jd_Branchwork_line_13 : decode mi_Branchwork_line.2.1 13 = .ok (.ifCond .eq 12, 3) := by decide +kernel
theorem jd_Branchwork_line_16 : decode mi_Branchwork_line.2.1 16 = .ok (.aload 4, 2) := by decide +kernel
theorem jd_Branchwork_line_18 : decode mi_Branchwork_line.2.1 18 = .ok (.iload_n 3, 1) := by decide +kernel
theorem jd_Branchwork_line_19 : decode mi_Branchwork_line.2.1 19 = .ok (.invokevirtual 262, 3) := by decide +kernel
theorem jd_Branchwork_line_22 : decode mi_Branchwork_line.2.1 22 = .ok (.goto 5, 3) := by decide +kernel
theorem jd_Branchwork_line_25 : decode mi_Branchwork_line.2.1 25 = .ok (.bipush (-2), 2) := by decide +kernel
theorem jd_Branchwork_line_27 : decode mi_Branchwork_line.2.1 27 = .ok (.ireturn, 1) := by decide +kernel
theorem jd_Branchwork_size_0 : decode mi_Branchwork_size.2.1 0 = .ok (.aload_n 0, 1) := by decide +kernel
theorem jd_Branchwork_size_1 : decode mi_Branchwork_size.2.1 1 = .ok (.iload_n 1, 1) := by decide +kernel
theorem jd_Branchwork_size_2 : decode mi_Branchwork_size.2.1 2 = .ok (.iload_n 2, 1) := by decide +kernel
theorem jd_Branchwork_size_3 : decode mi_Branchwork_size.2.1 3 = .ok (.invokevirtual 255, 3) := by decide +kernel
theorem jd_Branchwork_size_6 : decode mi_Branchwork_size.2.1 6 = .ok (.astore_n 3, 1) := by decide +kernel
theorem jd_Branchwork_size_7 : decode mi_Branchwork_size.2.1 7 = .ok (.aload_n 3, 1) := by decide +kernel
theorem jd_Branchwork_size_8 : decode mi_Branchwork_size.2.1 8 = .ok (.invokevirtual 259, 3) := by decide +kernel
theorem jd_Branchwork_size_11 : decode mi_Branchwork_size.2.1 11 = .ok (.ifCond .eq 10, 3) := by decide +kernel
theorem jd_Branchwork_size_14 : decode mi_Branchwork_size.2.1 14 = .ok (.aload_n 3, 1) := by decide +kernel
theorem jd_Branchwork_size_15 : decode mi_Branchwork_size.2.1 15 = .ok (.invokevirtual 79, 3) := by decide +kernel
theorem jd_Branchwork_size_18 : decode mi_Branchwork_size.2.1 18 = .ok (.goto 4, 3) := by decide +kernel
theorem jd_Branchwork_size_21 : decode mi_Branchwork_size.2.1 21 = .ok (.iconst (-1), 1) := by decide +kernel
theorem jd_Branchwork_size_22 : decode mi_Branchwork_size.2.1 22 = .ok (.ireturn, 1) := by decide +kernel
theorem jd_Branchwork_fileToShow_0 : decode mi_Branchwork_fileToShow.2.1 0 = .ok (.iload_n 1, 1) := by decide +kernel
theorem jd_Branchwork_fileToShow_1 : decode mi_Branchwork_fileToShow.2.1 1 = .ok (.iconst (-1), 1) := by decide +kernel
theorem jd_Branchwork_fileToShow_2 : decode mi_Branchwork_fileToShow.2.1 2 = .ok (.if_icmp .eq 8, 3) := by decide +kernel
theorem jd_Branchwork_fileToShow_5 : decode mi_Branchwork_fileToShow.2.1 5 = .ok (.aload_n 0, 1) := by decide +kernel
theorem jd_Branchwork_fileToShow_6 : decode mi_Branchwork_fileToShow.2.1 6 = .ok (.iload_n 1, 1) := by decide +kernel
theorem jd_Branchwork_fileToShow_7 : decode mi_Branchwork_fileToShow.2.1 7 = .ok (.invokevirtual 180, 3) := by decide +kernel
theorem jd_Branchwork_fileToShow_10 : decode mi_Branchwork_fileToShow.2.1 10 = .ok (.iload_n 2, 1) := by decide +kernel
theorem jd_Branchwork_fileToShow_11 : decode mi_Branchwork_fileToShow.2.1 11 = .ok (.invokestatic 71, 3) := by decide +kernel
theorem jd_Branchwork_fileToShow_14 : decode mi_Branchwork_fileToShow.2.1 14 = .ok (.iload_n 1, 1) := by decide +kernel
theorem jd_Branchwork_fileToShow_15 : decode mi_Branchwork_fileToShow.2.1 15 = .ok (.iconst (-1), 1) := by decide +kernel
theorem jd_Branchwork_fileToShow_16 : decode mi_Branchwork_fileToShow.2.1 16 = .ok (.if_icmp .ne 14, 3) := by decide +kernel
theorem jd_Branchwork_fileToShow_19 : decode mi_Branchwork_fileToShow.2.1 19 = .ok (.aload_n 0, 1) := by decide +kernel
theorem jd_Branchwork_fileToShow_20 : decode mi_Branchwork_fileToShow.2.1 20 = .ok (.getfield 12, 3) := by decide +kernel
theorem jd_Branchwork_fileToShow_23 : decode mi_Branchwork_fileToShow.2.1 23 = .ok (.iload_n 2, 1) := by decide +kernel
theorem jd_Branchwork_fileToShow_24 : decode mi_Branchwork_fileToShow.2.1 24 = .ok (.invokevirtual 75, 3) := by decide +kernel
theorem jd_Branchwork_fileToShow_27 : decode mi_Branchwork_fileToShow.2.1 27 = .ok (.goto 15, 3) := by decide +kernel
theorem jd_Branchwork_fileToShow_30 : decode mi_Branchwork_fileToShow.2.1 30 = .ok (.aload_n 0, 1) := by decide +kernel
theorem jd_Branchwork_fileToShow_31 : decode mi_Branchwork_fileToShow.2.1 31 = .ok (.getfield 19, 3) := by decide +kernel
theorem jd_Branchwork_fileToShow_34 : decode mi_Branchwork_fileToShow.2.1 34 = .ok (.iload_n 1, 1) := by decide +kernel
theorem jd_Branchwork_fileToShow_35 : decode mi_Branchwork_fileToShow.2.1 35 = .ok (.invokevirtual 140, 3) := by decide +kernel
theorem jd_Branchwork_fileToShow_38 : decode mi_Branchwork_fileToShow.2.1 38 = .ok (.iload_n 2, 1) := by decide +kernel
theorem jd_Branchwork_fileToShow_39 : decode mi_Branchwork_fileToShow.2.1 39 = .ok (.invokevirtual 75, 3) := by decide +kernel
theorem jd_Branchwork_fileToShow_42 : decode mi_Branchwork_fileToShow.2.1 42 = .ok (.areturn, 1) := by decide +kernel
theorem jd_Branchwork_conflict_0 : decode mi_Branchwork_conflict.2.1 0 = .ok (.aload_n 0, 1) := by decide +kernel
theorem jd_Branchwork_conflict_1 : decode mi_Branchwork_conflict.2.1 1 = .ok (.iload_n 1, 1) := by decide +kernel
theorem jd_Branchwork_conflict_2 : decode mi_Branchwork_conflict.2.1 2 = .ok (.invokevirtual 205, 3) := by decide +kernel
theorem jd_Branchwork_conflict_5 : decode mi_Branchwork_conflict.2.1 5 = .ok (.iload_n 2, 1) := by decide +kernel
theorem jd_Branchwork_conflict_6 : decode mi_Branchwork_conflict.2.1 6 = .ok (.lookupswitch 44 #[(0, 26), (1, 35)], 26) := by decide +kernel
theorem jd_Branchwork_conflict_32 : decode mi_Branchwork_conflict.2.1 32 = .ok (.aload_n 0, 1) := by decide +kernel
theorem jd_Branchwork_conflict_33 : decode mi_Branchwork_conflict.2.1 33 = .ok (.getfield 33, 3) := by decide +kernel
theorem jd_Branchwork_conflict_36 : decode mi_Branchwork_conflict.2.1 36 = .ok (.iload_n 1, 1) := by decide +kernel
theorem jd_Branchwork_conflict_37 : decode mi_Branchwork_conflict.2.1 37 = .ok (.invokevirtual 265, 3) := by decide +kernel
theorem jd_Branchwork_conflict_40 : decode mi_Branchwork_conflict.2.1 40 = .ok (.ireturn, 1) := by decide +kernel
theorem jd_Branchwork_conflict_41 : decode mi_Branchwork_conflict.2.1 41 = .ok (.aload_n 0, 1) := by decide +kernel
theorem jd_Branchwork_conflict_42 : decode mi_Branchwork_conflict.2.1 42 = .ok (.getfield 33, 3) := by decide +kernel
theorem jd_Branchwork_conflict_45 : decode mi_Branchwork_conflict.2.1 45 = .ok (.iload_n 1, 1) := by decide +kernel
theorem jd_Branchwork_conflict_46 : decode mi_Branchwork_conflict.2.1 46 = .ok (.invokevirtual 268, 3) := by decide +kernel
theorem jd_Branchwork_conflict_49 : decode mi_Branchwork_conflict.2.1 49 = .ok (.ireturn, 1) := by decide +kernel
theorem jd_Branchwork_conflict_50 : decode mi_Branchwork_conflict.2.1 50 = .ok (.new 92, 3) := by decide +kernel
theorem jd_Branchwork_conflict_53 : decode mi_Branchwork_conflict.2.1 53 = .ok (.dup, 1) := by decide +kernel
theorem jd_Branchwork_conflict_54 : decode mi_Branchwork_conflict.2.1 54 = .ok (.ldc_w 271, 3) := by decide +kernel
theorem jd_Branchwork_conflict_57 : decode mi_Branchwork_conflict.2.1 57 = .ok (.invokespecial 96, 3) := by decide +kernel
theorem jd_Branchwork_conflict_60 : decode mi_Branchwork_conflict.2.1 60 = .ok (.athrow, 1) := by decide +kernel
theorem jd_Branchwork_base_0 : decode mi_Branchwork_base.2.1 0 = .ok (.aload_n 0, 1) := by decide +kernel
theorem jd_Branchwork_base_1 : decode mi_Branchwork_base.2.1 1 = .ok (.iload_n 1, 1) := by decide +kernel
theorem jd_Branchwork_base_2 : decode mi_Branchwork_base.2.1 2 = .ok (.invokevirtual 180, 3) := by decide +kernel
theorem jd_Branchwork_base_5 : decode mi_Branchwork_base.2.1 5 = .ok (.aload_n 0, 1) := by decide +kernel
theorem jd_Branchwork_base_6 : decode mi_Branchwork_base.2.1 6 = .ok (.iload_n 2, 1) := by decide +kernel
theorem jd_Branchwork_base_7 : decode mi_Branchwork_base.2.1 7 = .ok (.invokevirtual 180, 3) := by decide +kernel
theorem jd_Branchwork_base_10 : decode mi_Branchwork_base.2.1 10 = .ok (.aload_n 0, 1) := by decide +kernel
theorem jd_Branchwork_base_11 : decode mi_Branchwork_base.2.1 11 = .ok (.getfield 19, 3) := by decide +kernel
theorem jd_Branchwork_base_14 : decode mi_Branchwork_base.2.1 14 = .ok (.iload_n 1, 1) := by decide +kernel
theorem jd_Branchwork_base_15 : decode mi_Branchwork_base.2.1 15 = .ok (.iload_n 2, 1) := by decide +kernel
theorem jd_Branchwork_base_16 : decode mi_Branchwork_base.2.1 16 = .ok (.invokevirtual 186, 3) := by decide +kernel
theorem jd_Branchwork_base_19 : decode mi_Branchwork_base.2.1 19 = .ok (.ireturn, 1) := by decide +kernel
theorem jd_Branchwork_went_0 : decode mi_Branchwork_went.2.1 0 = .ok (.aload_n 0, 1) := by decide +kernel
theorem jd_Branchwork_went_1 : decode mi_Branchwork_went.2.1 1 = .ok (.iload_n 1, 1) := by decide +kernel
theorem jd_Branchwork_went_2 : decode mi_Branchwork_went.2.1 2 = .ok (.invokevirtual 180, 3) := by decide +kernel
theorem jd_Branchwork_went_5 : decode mi_Branchwork_went.2.1 5 = .ok (.aload_n 0, 1) := by decide +kernel
theorem jd_Branchwork_went_6 : decode mi_Branchwork_went.2.1 6 = .ok (.iload_n 2, 1) := by decide +kernel
theorem jd_Branchwork_went_7 : decode mi_Branchwork_went.2.1 7 = .ok (.invokevirtual 180, 3) := by decide +kernel
theorem jd_Branchwork_went_10 : decode mi_Branchwork_went.2.1 10 = .ok (.iload_n 3, 1) := by decide +kernel
theorem jd_Branchwork_went_11 : decode mi_Branchwork_went.2.1 11 = .ok (.invokestatic 71, 3) := by decide +kernel
theorem jd_Branchwork_went_14 : decode mi_Branchwork_went.2.1 14 = .ok (.aload_n 0, 1) := by decide +kernel
theorem jd_Branchwork_went_15 : decode mi_Branchwork_went.2.1 15 = .ok (.getfield 19, 3) := by decide +kernel
theorem jd_Branchwork_went_18 : decode mi_Branchwork_went.2.1 18 = .ok (.iload_n 1, 1) := by decide +kernel
theorem jd_Branchwork_went_19 : decode mi_Branchwork_went.2.1 19 = .ok (.invokevirtual 140, 3) := by decide +kernel
theorem jd_Branchwork_went_22 : decode mi_Branchwork_went.2.1 22 = .ok (.iload_n 3, 1) := by decide +kernel
theorem jd_Branchwork_went_23 : decode mi_Branchwork_went.2.1 23 = .ok (.invokevirtual 121, 3) := by decide +kernel
theorem jd_Branchwork_went_26 : decode mi_Branchwork_went.2.1 26 = .ok (.ifCond .ne 6, 3) := by decide +kernel
theorem jd_Branchwork_went_29 : decode mi_Branchwork_went.2.1 29 = .ok (.bipush (-2), 2) := by decide +kernel
theorem jd_Branchwork_went_31 : decode mi_Branchwork_went.2.1 31 = .ok (.ireturn, 1) := by decide +kernel
theorem jd_Branchwork_went_32 : decode mi_Branchwork_went.2.1 32 = .ok (.aload_n 0, 1) := by decide +kernel
theorem jd_Branchwork_went_33 : decode mi_Branchwork_went.2.1 33 = .ok (.getfield 40, 3) := by decide +kernel
theorem jd_Branchwork_went_36 : decode mi_Branchwork_went.2.1 36 = .ok (.aload_n 0, 1) := by decide +kernel
theorem jd_Branchwork_went_37 : decode mi_Branchwork_went.2.1 37 = .ok (.getfield 19, 3) := by decide +kernel
theorem jd_Branchwork_went_40 : decode mi_Branchwork_went.2.1 40 = .ok (.iload_n 1, 1) := by decide +kernel
theorem jd_Branchwork_went_41 : decode mi_Branchwork_went.2.1 41 = .ok (.invokevirtual 140, 3) := by decide +kernel
theorem jd_Branchwork_went_44 : decode mi_Branchwork_went.2.1 44 = .ok (.aload_n 0, 1) := by decide +kernel
theorem jd_Branchwork_went_45 : decode mi_Branchwork_went.2.1 45 = .ok (.getfield 19, 3) := by decide +kernel
theorem jd_Branchwork_went_48 : decode mi_Branchwork_went.2.1 48 = .ok (.iload_n 2, 1) := by decide +kernel
theorem jd_Branchwork_went_49 : decode mi_Branchwork_went.2.1 49 = .ok (.invokevirtual 140, 3) := by decide +kernel
theorem jd_Branchwork_went_52 : decode mi_Branchwork_went.2.1 52 = .ok (.invokevirtual 273, 3) := by decide +kernel
theorem jd_Branchwork_went_55 : decode mi_Branchwork_went.2.1 55 = .ok (.aload_n 0, 1) := by decide +kernel
theorem jd_Branchwork_went_56 : decode mi_Branchwork_went.2.1 56 = .ok (.getfield 40, 3) := by decide +kernel
theorem jd_Branchwork_went_59 : decode mi_Branchwork_went.2.1 59 = .ok (.iload_n 3, 1) := by decide +kernel
theorem jd_Branchwork_went_60 : decode mi_Branchwork_went.2.1 60 = .ok (.invokevirtual 277, 3) := by decide +kernel
theorem jd_Branchwork_went_63 : decode mi_Branchwork_went.2.1 63 = .ok (.ireturn, 1) := by decide +kernel
theorem jd_Branchwork_changes_0 : decode mi_Branchwork_changes.2.1 0 = .ok (.aload_n 0, 1) := by decide +kernel
theorem jd_Branchwork_changes_1 : decode mi_Branchwork_changes.2.1 1 = .ok (.iload_n 1, 1) := by decide +kernel
theorem jd_Branchwork_changes_2 : decode mi_Branchwork_changes.2.1 2 = .ok (.invokevirtual 180, 3) := by decide +kernel
theorem jd_Branchwork_changes_5 : decode mi_Branchwork_changes.2.1 5 = .ok (.aload_n 0, 1) := by decide +kernel
theorem jd_Branchwork_changes_6 : decode mi_Branchwork_changes.2.1 6 = .ok (.iload_n 2, 1) := by decide +kernel
theorem jd_Branchwork_changes_7 : decode mi_Branchwork_changes.2.1 7 = .ok (.invokevirtual 180, 3) := by decide +kernel
theorem jd_Branchwork_changes_10 : decode mi_Branchwork_changes.2.1 10 = .ok (.iload_n 3, 1) := by decide +kernel
theorem jd_Branchwork_changes_11 : decode mi_Branchwork_changes.2.1 11 = .ok (.ifCond .lt 8, 3) := by decide +kernel
theorem jd_Branchwork_changes_14 : decode mi_Branchwork_changes.2.1 14 = .ok (.iload_n 3, 1) := by decide +kernel
theorem jd_Branchwork_changes_15 : decode mi_Branchwork_changes.2.1 15 = .ok (.iconst 3, 1) := by decide +kernel
theorem jd_Branchwork_changes_16 : decode mi_Branchwork_changes.2.1 16 = .ok (.if_icmp .le 14, 3) := by decide +kernel
theorem jd_Branchwork_changes_19 : decode mi_Branchwork_changes.2.1 19 = .ok (.new 92, 3) := by decide +kernel
theorem jd_Branchwork_changes_22 : decode mi_Branchwork_changes.2.1 22 = .ok (.dup, 1) := by decide +kernel
theorem jd_Branchwork_changes_23 : decode mi_Branchwork_changes.2.1 23 = .ok (.ldc_w 280, 3) := by decide +kernel
theorem jd_Branchwork_changes_26 : decode mi_Branchwork_changes.2.1 26 = .ok (.invokespecial 96, 3) := by decide +kernel
theorem jd_Branchwork_changes_29 : decode mi_Branchwork_changes.2.1 29 = .ok (.athrow, 1) := by decide +kernel
theorem jd_Branchwork_changes_30 : decode mi_Branchwork_changes.2.1 30 = .ok (.aload_n 0, 1) := by decide +kernel
theorem jd_Branchwork_changes_31 : decode mi_Branchwork_changes.2.1 31 = .ok (.getfield 19, 3) := by decide +kernel
theorem jd_Branchwork_changes_34 : decode mi_Branchwork_changes.2.1 34 = .ok (.iload_n 1, 1) := by decide +kernel
theorem jd_Branchwork_changes_35 : decode mi_Branchwork_changes.2.1 35 = .ok (.invokevirtual 140, 3) := by decide +kernel
theorem jd_Branchwork_changes_38 : decode mi_Branchwork_changes.2.1 38 = .ok (.astore 4, 2) := by decide +kernel
theorem jd_Branchwork_changes_40 : decode mi_Branchwork_changes.2.1 40 = .ok (.aload_n 0, 1) := by decide +kernel
theorem jd_Branchwork_changes_41 : decode mi_Branchwork_changes.2.1 41 = .ok (.getfield 19, 3) := by decide +kernel
theorem jd_Branchwork_changes_44 : decode mi_Branchwork_changes.2.1 44 = .ok (.iload_n 2, 1) := by decide +kernel
theorem jd_Branchwork_changes_45 : decode mi_Branchwork_changes.2.1 45 = .ok (.invokevirtual 140, 3) := by decide +kernel
theorem jd_Branchwork_changes_48 : decode mi_Branchwork_changes.2.1 48 = .ok (.astore 5, 2) := by decide +kernel
theorem jd_Branchwork_changes_50 : decode mi_Branchwork_changes.2.1 50 = .ok (.aload_n 0, 1) := by decide +kernel
theorem jd_Branchwork_changes_51 : decode mi_Branchwork_changes.2.1 51 = .ok (.getfield 40, 3) := by decide +kernel
theorem jd_Branchwork_changes_54 : decode mi_Branchwork_changes.2.1 54 = .ok (.aload 4, 2) := by decide +kernel
theorem jd_Branchwork_changes_56 : decode mi_Branchwork_changes.2.1 56 = .ok (.aload 5, 2) := by decide +kernel
theorem jd_Branchwork_changes_58 : decode mi_Branchwork_changes.2.1 58 = .ok (.invokevirtual 273, 3) := by decide +kernel
theorem jd_Branchwork_changes_61 : decode mi_Branchwork_changes.2.1 61 = .ok (.iconst 0, 1) := by decide +kernel
theorem jd_Branchwork_changes_62 : decode mi_Branchwork_changes.2.1 62 = .ok (.istore 6, 2) := by decide +kernel
theorem jd_Branchwork_changes_64 : decode mi_Branchwork_changes.2.1 64 = .ok (.iconst 0, 1) := by decide +kernel
theorem jd_Branchwork_changes_65 : decode mi_Branchwork_changes.2.1 65 = .ok (.istore 7, 2) := by decide +kernel
theorem jd_Branchwork_changes_67 : decode mi_Branchwork_changes.2.1 67 = .ok (.iload 7, 2) := by decide +kernel
theorem jd_Branchwork_changes_69 : decode mi_Branchwork_changes.2.1 69 = .ok (.bipush 12, 2) := by decide +kernel
theorem jd_Branchwork_changes_71 : decode mi_Branchwork_changes.2.1 71 = .ok (.if_icmp .ge 26, 3) := by decide +kernel
theorem jd_Branchwork_changes_74 : decode mi_Branchwork_changes.2.1 74 = .ok (.aload_n 0, 1) := by decide +kernel
theorem jd_Branchwork_changes_75 : decode mi_Branchwork_changes.2.1 75 = .ok (.aload 4, 2) := by decide +kernel
theorem jd_Branchwork_changes_77 : decode mi_Branchwork_changes.2.1 77 = .ok (.aload 5, 2) := by decide +kernel
theorem jd_Branchwork_changes_79 : decode mi_Branchwork_changes.2.1 79 = .ok (.iload 7, 2) := by decide +kernel
theorem jd_Branchwork_changes_81 : decode mi_Branchwork_changes.2.1 81 = .ok (.invokevirtual 282, 3) := by decide +kernel
theorem jd_Branchwork_changes_84 : decode mi_Branchwork_changes.2.1 84 = .ok (.iload_n 3, 1) := by decide +kernel
theorem jd_Branchwork_changes_85 : decode mi_Branchwork_changes.2.1 85 = .ok (.if_icmp .ne 6, 3) := by decide +kernel
theorem jd_Branchwork_changes_88 : decode mi_Branchwork_changes.2.1 88 = .ok (.iinc 6 1, 3) := by decide +kernel
theorem jd_Branchwork_changes_91 : decode mi_Branchwork_changes.2.1 91 = .ok (.iinc 7 1, 3) := by decide +kernel
theorem jd_Branchwork_changes_94 : decode mi_Branchwork_changes.2.1 94 = .ok (.goto (-27), 3) := by decide +kernel
theorem jd_Branchwork_changes_97 : decode mi_Branchwork_changes.2.1 97 = .ok (.iload 6, 2) := by decide +kernel
theorem jd_Branchwork_changes_99 : decode mi_Branchwork_changes.2.1 99 = .ok (.iload_n 3, 1) := by decide +kernel
theorem jd_Branchwork_changes_100 : decode mi_Branchwork_changes.2.1 100 = .ok (.iconst 2, 1) := by decide +kernel
theorem jd_Branchwork_changes_101 : decode mi_Branchwork_changes.2.1 101 = .ok (.if_icmp .ne 13, 3) := by decide +kernel
theorem jd_Branchwork_changes_104 : decode mi_Branchwork_changes.2.1 104 = .ok (.aload_n 0, 1) := by decide +kernel
theorem jd_Branchwork_changes_105 : decode mi_Branchwork_changes.2.1 105 = .ok (.getfield 40, 3) := by decide +kernel
theorem jd_Branchwork_changes_108 : decode mi_Branchwork_changes.2.1 108 = .ok (.invokevirtual 286, 3) := by decide +kernel
theorem jd_Branchwork_changes_111 : decode mi_Branchwork_changes.2.1 111 = .ok (.goto 4, 3) := by decide +kernel
theorem jd_Branchwork_changes_114 : decode mi_Branchwork_changes.2.1 114 = .ok (.iconst 0, 1) := by decide +kernel
theorem jd_Branchwork_changes_115 : decode mi_Branchwork_changes.2.1 115 = .ok (.iadd, 1) := by decide +kernel
theorem jd_Branchwork_changes_116 : decode mi_Branchwork_changes.2.1 116 = .ok (.ireturn, 1) := by decide +kernel
theorem jd_Branchwork_nearness_0 : decode mi_Branchwork_nearness.2.1 0 = .ok (.aload_n 0, 1) := by decide +kernel
theorem jd_Branchwork_nearness_1 : decode mi_Branchwork_nearness.2.1 1 = .ok (.iload_n 1, 1) := by decide +kernel
theorem jd_Branchwork_nearness_2 : decode mi_Branchwork_nearness.2.1 2 = .ok (.invokevirtual 180, 3) := by decide +kernel
theorem jd_Branchwork_nearness_5 : decode mi_Branchwork_nearness.2.1 5 = .ok (.aload_n 0, 1) := by decide +kernel
theorem jd_Branchwork_nearness_6 : decode mi_Branchwork_nearness.2.1 6 = .ok (.getfield 19, 3) := by decide +kernel
theorem jd_Branchwork_nearness_9 : decode mi_Branchwork_nearness.2.1 9 = .ok (.iload_n 1, 1) := by decide +kernel
theorem jd_Branchwork_nearness_10 : decode mi_Branchwork_nearness.2.1 10 = .ok (.invokevirtual 140, 3) := by decide +kernel
theorem jd_Branchwork_nearness_13 : decode mi_Branchwork_nearness.2.1 13 = .ok (.iload_n 2, 1) := by decide +kernel
theorem jd_Branchwork_nearness_14 : decode mi_Branchwork_nearness.2.1 14 = .ok (.invokestatic 110, 3) := by decide +kernel
theorem jd_Branchwork_nearness_17 : decode mi_Branchwork_nearness.2.1 17 = .ok (.aload_n 0, 1) := by decide +kernel
theorem jd_Branchwork_nearness_18 : decode mi_Branchwork_nearness.2.1 18 = .ok (.iload_n 3, 1) := by decide +kernel
theorem jd_Branchwork_nearness_19 : decode mi_Branchwork_nearness.2.1 19 = .ok (.invokevirtual 180, 3) := by decide +kernel
theorem jd_Branchwork_nearness_22 : decode mi_Branchwork_nearness.2.1 22 = .ok (.aload_n 0, 1) := by decide +kernel
theorem jd_Branchwork_nearness_23 : decode mi_Branchwork_nearness.2.1 23 = .ok (.getfield 19, 3) := by decide +kernel
theorem jd_Branchwork_nearness_26 : decode mi_Branchwork_nearness.2.1 26 = .ok (.iload_n 3, 1) := by decide +kernel
theorem jd_Branchwork_nearness_27 : decode mi_Branchwork_nearness.2.1 27 = .ok (.invokevirtual 140, 3) := by decide +kernel
theorem jd_Branchwork_nearness_30 : decode mi_Branchwork_nearness.2.1 30 = .ok (.iload 4, 2) := by decide +kernel
theorem jd_Branchwork_nearness_32 : decode mi_Branchwork_nearness.2.1 32 = .ok (.invokestatic 110, 3) := by decide +kernel
theorem jd_Branchwork_nearness_35 : decode mi_Branchwork_nearness.2.1 35 = .ok (.aload_n 0, 1) := by decide +kernel
theorem jd_Branchwork_nearness_36 : decode mi_Branchwork_nearness.2.1 36 = .ok (.getfield 47, 3) := by decide +kernel
theorem jd_Branchwork_nearness_39 : decode mi_Branchwork_nearness.2.1 39 = .ok (.aload_n 0, 1) := by decide +kernel
theorem jd_Branchwork_nearness_40 : decode mi_Branchwork_nearness.2.1 40 = .ok (.getfield 19, 3) := by decide +kernel
theorem jd_Branchwork_nearness_43 : decode mi_Branchwork_nearness.2.1 43 = .ok (.iload_n 1, 1) := by decide +kernel
theorem jd_Branchwork_nearness_44 : decode mi_Branchwork_nearness.2.1 44 = .ok (.invokevirtual 140, 3) := by decide +kernel
theorem jd_Branchwork_nearness_47 : decode mi_Branchwork_nearness.2.1 47 = .ok (.iload_n 2, 1) := by decide +kernel
theorem jd_Branchwork_nearness_48 : decode mi_Branchwork_nearness.2.1 48 = .ok (.invokevirtual 75, 3) := by decide +kernel
theorem jd_Branchwork_nearness_51 : decode mi_Branchwork_nearness.2.1 51 = .ok (.aload_n 0, 1) := by decide +kernel
theorem jd_Branchwork_nearness_52 : decode mi_Branchwork_nearness.2.1 52 = .ok (.getfield 19, 3) := by decide +kernel
theorem jd_Branchwork_nearness_55 : decode mi_Branchwork_nearness.2.1 55 = .ok (.iload_n 3, 1) := by decide +kernel
theorem jd_Branchwork_nearness_56 : decode mi_Branchwork_nearness.2.1 56 = .ok (.invokevirtual 140, 3) := by decide +kernel
theorem jd_Branchwork_nearness_59 : decode mi_Branchwork_nearness.2.1 59 = .ok (.iload 4, 2) := by decide +kernel
theorem jd_Branchwork_nearness_61 : decode mi_Branchwork_nearness.2.1 61 = .ok (.invokevirtual 75, 3) := by decide +kernel
theorem jd_Branchwork_nearness_64 : decode mi_Branchwork_nearness.2.1 64 = .ok (.invokevirtual 287, 3) := by decide +kernel
theorem jd_Branchwork_nearness_67 : decode mi_Branchwork_nearness.2.1 67 = .ok (.ireturn, 1) := by decide +kernel
theorem jd_Branchwork_origin_0 : decode mi_Branchwork_origin.2.1 0 = .ok (.aload_n 0, 1) := by decide +kernel
theorem jd_Branchwork_origin_1 : decode mi_Branchwork_origin.2.1 1 = .ok (.iload_n 1, 1) := by decide +kernel
theorem jd_Branchwork_origin_2 : decode mi_Branchwork_origin.2.1 2 = .ok (.invokevirtual 180, 3) := by decide +kernel
theorem jd_Branchwork_origin_5 : decode mi_Branchwork_origin.2.1 5 = .ok (.aload_n 0, 1) := by decide +kernel
theorem jd_Branchwork_origin_6 : decode mi_Branchwork_origin.2.1 6 = .ok (.getfield 19, 3) := by decide +kernel
theorem jd_Branchwork_origin_9 : decode mi_Branchwork_origin.2.1 9 = .ok (.iload_n 1, 1) := by decide +kernel
theorem jd_Branchwork_origin_10 : decode mi_Branchwork_origin.2.1 10 = .ok (.invokevirtual 140, 3) := by decide +kernel
theorem jd_Branchwork_origin_13 : decode mi_Branchwork_origin.2.1 13 = .ok (.iload_n 2, 1) := by decide +kernel
theorem jd_Branchwork_origin_14 : decode mi_Branchwork_origin.2.1 14 = .ok (.invokestatic 110, 3) := by decide +kernel
theorem jd_Branchwork_origin_17 : decode mi_Branchwork_origin.2.1 17 = .ok (.aload_n 0, 1) := by decide +kernel
theorem jd_Branchwork_origin_18 : decode mi_Branchwork_origin.2.1 18 = .ok (.getfield 19, 3) := by decide +kernel
theorem jd_Branchwork_origin_21 : decode mi_Branchwork_origin.2.1 21 = .ok (.iload_n 1, 1) := by decide +kernel
theorem jd_Branchwork_origin_22 : decode mi_Branchwork_origin.2.1 22 = .ok (.invokevirtual 140, 3) := by decide +kernel
theorem jd_Branchwork_origin_25 : decode mi_Branchwork_origin.2.1 25 = .ok (.iload_n 2, 1) := by decide +kernel
theorem jd_Branchwork_origin_26 : decode mi_Branchwork_origin.2.1 26 = .ok (.invokevirtual 75, 3) := by decide +kernel
theorem jd_Branchwork_origin_29 : decode mi_Branchwork_origin.2.1 29 = .ok (.iload_n 3, 1) := by decide +kernel
theorem jd_Branchwork_origin_30 : decode mi_Branchwork_origin.2.1 30 = .ok (.invokestatic 114, 3) := by decide +kernel
theorem jd_Branchwork_origin_33 : decode mi_Branchwork_origin.2.1 33 = .ok (.iload_n 1, 1) := by decide +kernel
theorem jd_Branchwork_origin_34 : decode mi_Branchwork_origin.2.1 34 = .ok (.istore 4, 2) := by decide +kernel
theorem jd_Branchwork_origin_36 : decode mi_Branchwork_origin.2.1 36 = .ok (.iload_n 2, 1) := by decide +kernel
theorem jd_Branchwork_origin_37 : decode mi_Branchwork_origin.2.1 37 = .ok (.bipush 10, 2) := by decide +kernel
theorem jd_Branchwork_origin_39 : decode mi_Branchwork_origin.2.1 39 = .ok (.imul, 1) := by decide +kernel
theorem jd_Branchwork_origin_40 : decode mi_Branchwork_origin.2.1 40 = .ok (.iload_n 3, 1) := by decide +kernel
theorem jd_Branchwork_origin_41 : decode mi_Branchwork_origin.2.1 41 = .ok (.iadd, 1) := by decide +kernel
theorem jd_Branchwork_origin_42 : decode mi_Branchwork_origin.2.1 42 = .ok (.istore 5, 2) := by decide +kernel
theorem jd_Branchwork_origin_44 : decode mi_Branchwork_origin.2.1 44 = .ok (.iconst 0, 1) := by decide +kernel
theorem jd_Branchwork_origin_45 : decode mi_Branchwork_origin.2.1 45 = .ok (.istore 6, 2) := by decide +kernel
theorem jd_Branchwork_origin_47 : decode mi_Branchwork_origin.2.1 47 = .ok (.iload 6, 2) := by decide +kernel
theorem jd_Branchwork_origin_49 : decode mi_Branchwork_origin.2.1 49 = .ok (.bipush 30, 2) := by decide +kernel
theorem jd_Branchwork_origin_51 : decode mi_Branchwork_origin.2.1 51 = .ok (.if_icmp .ge 78, 3) := by decide +kernel
theorem jd_Branchwork_origin_54 : decode mi_Branchwork_origin.2.1 54 = .ok (.aload_n 0, 1) := by decide +kernel
theorem jd_Branchwork_origin_55 : decode mi_Branchwork_origin.2.1 55 = .ok (.getfield 19, 3) := by decide +kernel
theorem jd_Branchwork_origin_58 : decode mi_Branchwork_origin.2.1 58 = .ok (.iload 4, 2) := by decide +kernel
theorem jd_Branchwork_origin_60 : decode mi_Branchwork_origin.2.1 60 = .ok (.invokevirtual 239, 3) := by decide +kernel
theorem jd_Branchwork_origin_63 : decode mi_Branchwork_origin.2.1 63 = .ok (.istore 7, 2) := by decide +kernel
theorem jd_Branchwork_origin_65 : decode mi_Branchwork_origin.2.1 65 = .ok (.aload_n 0, 1) := by decide +kernel
theorem jd_Branchwork_origin_66 : decode mi_Branchwork_origin.2.1 66 = .ok (.iload 7, 2) := by decide +kernel
theorem jd_Branchwork_origin_68 : decode mi_Branchwork_origin.2.1 68 = .ok (.iload 4, 2) := by decide +kernel
theorem jd_Branchwork_origin_70 : decode mi_Branchwork_origin.2.1 70 = .ok (.iload 5, 2) := by decide +kernel
theorem jd_Branchwork_origin_72 : decode mi_Branchwork_origin.2.1 72 = .ok (.invokevirtual 291, 3) := by decide +kernel
theorem jd_Branchwork_origin_75 : decode mi_Branchwork_origin.2.1 75 = .ok (.istore 8, 2) := by decide +kernel
theorem jd_Branchwork_origin_77 : decode mi_Branchwork_origin.2.1 77 = .ok (.iload 8, 2) := by decide +kernel
theorem jd_Branchwork_origin_79 : decode mi_Branchwork_origin.2.1 79 = .ok (.iconst (-1), 1) := by decide +kernel
theorem jd_Branchwork_origin_80 : decode mi_Branchwork_origin.2.1 80 = .ok (.if_icmp .ne 26, 3) := by decide +kernel
theorem jd_Branchwork_origin_83 : decode mi_Branchwork_origin.2.1 83 = .ok (.aload_n 0, 1) := by decide +kernel
theorem jd_Branchwork_origin_84 : decode mi_Branchwork_origin.2.1 84 = .ok (.getfield 19, 3) := by decide +kernel
theorem jd_Branchwork_origin_87 : decode mi_Branchwork_origin.2.1 87 = .ok (.iload 4, 2) := by decide +kernel
theorem jd_Branchwork_origin_89 : decode mi_Branchwork_origin.2.1 89 = .ok (.invokevirtual 242, 3) := by decide +kernel
theorem jd_Branchwork_origin_92 : decode mi_Branchwork_origin.2.1 92 = .ok (.istore 7, 2) := by decide +kernel
theorem jd_Branchwork_origin_94 : decode mi_Branchwork_origin.2.1 94 = .ok (.aload_n 0, 1) := by decide +kernel
theorem jd_Branchwork_origin_95 : decode mi_Branchwork_origin.2.1 95 = .ok (.iload 7, 2) := by decide +kernel
theorem jd_Branchwork_origin_97 : decode mi_Branchwork_origin.2.1 97 = .ok (.iload 4, 2) := by decide +kernel
theorem jd_Branchwork_origin_99 : decode mi_Branchwork_origin.2.1 99 = .ok (.iload 5, 2) := by decide +kernel
theorem jd_Branchwork_origin_101 : decode mi_Branchwork_origin.2.1 101 = .ok (.invokevirtual 291, 3) := by decide +kernel
theorem jd_Branchwork_origin_104 : decode mi_Branchwork_origin.2.1 104 = .ok (.istore 8, 2) := by decide +kernel
theorem jd_Branchwork_origin_106 : decode mi_Branchwork_origin.2.1 106 = .ok (.iload 8, 2) := by decide +kernel
theorem jd_Branchwork_origin_108 : decode mi_Branchwork_origin.2.1 108 = .ok (.iconst (-1), 1) := by decide +kernel
theorem jd_Branchwork_origin_109 : decode mi_Branchwork_origin.2.1 109 = .ok (.if_icmp .ne 6, 3) := by decide +kernel
theorem jd_Branchwork_origin_112 : decode mi_Branchwork_origin.2.1 112 = .ok (.iload 4, 2) := by decide +kernel
theorem jd_Branchwork_origin_114 : decode mi_Branchwork_origin.2.1 114 = .ok (.ireturn, 1) := by decide +kernel
theorem jd_Branchwork_origin_115 : decode mi_Branchwork_origin.2.1 115 = .ok (.iload 7, 2) := by decide +kernel
theorem jd_Branchwork_origin_117 : decode mi_Branchwork_origin.2.1 117 = .ok (.istore 4, 2) := by decide +kernel
theorem jd_Branchwork_origin_119 : decode mi_Branchwork_origin.2.1 119 = .ok (.iload 8, 2) := by decide +kernel
theorem jd_Branchwork_origin_121 : decode mi_Branchwork_origin.2.1 121 = .ok (.istore 5, 2) := by decide +kernel
theorem jd_Branchwork_origin_123 : decode mi_Branchwork_origin.2.1 123 = .ok (.iinc 6 1, 3) := by decide +kernel
theorem jd_Branchwork_origin_126 : decode mi_Branchwork_origin.2.1 126 = .ok (.goto (-79), 3) := by decide +kernel
theorem jd_Branchwork_origin_129 : decode mi_Branchwork_origin.2.1 129 = .ok (.iload 4, 2) := by decide +kernel
theorem jd_Branchwork_origin_131 : decode mi_Branchwork_origin.2.1 131 = .ok (.ireturn, 1) := by decide +kernel
theorem jd_Branchwork_conflictsOf_0 : decode mi_Branchwork_conflictsOf.2.1 0 = .ok (.aload_n 0, 1) := by decide +kernel
theorem jd_Branchwork_conflictsOf_1 : decode mi_Branchwork_conflictsOf.2.1 1 = .ok (.iload_n 1, 1) := by decide +kernel
theorem jd_Branchwork_conflictsOf_2 : decode mi_Branchwork_conflictsOf.2.1 2 = .ok (.invokevirtual 180, 3) := by decide +kernel
theorem jd_Branchwork_conflictsOf_5 : decode mi_Branchwork_conflictsOf.2.1 5 = .ok (.aload_n 0, 1) := by decide +kernel
theorem jd_Branchwork_conflictsOf_6 : decode mi_Branchwork_conflictsOf.2.1 6 = .ok (.iload_n 2, 1) := by decide +kernel
theorem jd_Branchwork_conflictsOf_7 : decode mi_Branchwork_conflictsOf.2.1 7 = .ok (.invokevirtual 180, 3) := by decide +kernel
theorem jd_Branchwork_conflictsOf_10 : decode mi_Branchwork_conflictsOf.2.1 10 = .ok (.aload_n 0, 1) := by decide +kernel
theorem jd_Branchwork_conflictsOf_11 : decode mi_Branchwork_conflictsOf.2.1 11 = .ok (.getfield 19, 3) := by decide +kernel
theorem jd_Branchwork_conflictsOf_14 : decode mi_Branchwork_conflictsOf.2.1 14 = .ok (.iload_n 1, 1) := by decide +kernel
theorem jd_Branchwork_conflictsOf_15 : decode mi_Branchwork_conflictsOf.2.1 15 = .ok (.iload_n 2, 1) := by decide +kernel
theorem jd_Branchwork_conflictsOf_16 : decode mi_Branchwork_conflictsOf.2.1 16 = .ok (.invokevirtual 186, 3) := by decide +kernel
theorem jd_Branchwork_conflictsOf_19 : decode mi_Branchwork_conflictsOf.2.1 19 = .ok (.istore_n 3, 1) := by decide +kernel
theorem jd_Branchwork_conflictsOf_20 : decode mi_Branchwork_conflictsOf.2.1 20 = .ok (.aload_n 0, 1) := by decide +kernel
theorem jd_Branchwork_conflictsOf_21 : decode mi_Branchwork_conflictsOf.2.1 21 = .ok (.getfield 26, 3) := by decide +kernel
theorem jd_Branchwork_conflictsOf_24 : decode mi_Branchwork_conflictsOf.2.1 24 = .ok (.aload_n 0, 1) := by decide +kernel
theorem jd_Branchwork_conflictsOf_25 : decode mi_Branchwork_conflictsOf.2.1 25 = .ok (.getfield 19, 3) := by decide +kernel
theorem jd_Branchwork_conflictsOf_28 : decode mi_Branchwork_conflictsOf.2.1 28 = .ok (.iload_n 3, 1) := by decide +kernel
theorem jd_Branchwork_conflictsOf_29 : decode mi_Branchwork_conflictsOf.2.1 29 = .ok (.invokevirtual 140, 3) := by decide +kernel
theorem jd_Branchwork_conflictsOf_32 : decode mi_Branchwork_conflictsOf.2.1 32 = .ok (.aload_n 0, 1) := by decide +kernel
theorem jd_Branchwork_conflictsOf_33 : decode mi_Branchwork_conflictsOf.2.1 33 = .ok (.getfield 19, 3) := by decide +kernel
theorem jd_Branchwork_conflictsOf_36 : decode mi_Branchwork_conflictsOf.2.1 36 = .ok (.iload_n 1, 1) := by decide +kernel
theorem jd_Branchwork_conflictsOf_37 : decode mi_Branchwork_conflictsOf.2.1 37 = .ok (.invokevirtual 140, 3) := by decide +kernel
theorem jd_Branchwork_conflictsOf_40 : decode mi_Branchwork_conflictsOf.2.1 40 = .ok (.aload_n 0, 1) := by decide +kernel
theorem jd_Branchwork_conflictsOf_41 : decode mi_Branchwork_conflictsOf.2.1 41 = .ok (.getfield 19, 3) := by decide +kernel
theorem jd_Branchwork_conflictsOf_44 : decode mi_Branchwork_conflictsOf.2.1 44 = .ok (.iload_n 2, 1) := by decide +kernel
theorem jd_Branchwork_conflictsOf_45 : decode mi_Branchwork_conflictsOf.2.1 45 = .ok (.invokevirtual 140, 3) := by decide +kernel
theorem jd_Branchwork_conflictsOf_48 : decode mi_Branchwork_conflictsOf.2.1 48 = .ok (.invokevirtual 190, 3) := by decide +kernel
theorem jd_Branchwork_conflictsOf_51 : decode mi_Branchwork_conflictsOf.2.1 51 = .ok (.aload_n 0, 1) := by decide +kernel
theorem jd_Branchwork_conflictsOf_52 : decode mi_Branchwork_conflictsOf.2.1 52 = .ok (.getfield 26, 3) := by decide +kernel
theorem jd_Branchwork_conflictsOf_55 : decode mi_Branchwork_conflictsOf.2.1 55 = .ok (.invokevirtual 198, 3) := by decide +kernel
theorem jd_Branchwork_conflictsOf_58 : decode mi_Branchwork_conflictsOf.2.1 58 = .ok (.invokevirtual 153, 3) := by decide +kernel
theorem jd_Branchwork_conflictsOf_61 : decode mi_Branchwork_conflictsOf.2.1 61 = .ok (.ireturn, 1) := by decide +kernel
theorem jd_Branchwork_meanLines_0 : decode mi_Branchwork_meanLines.2.1 0 = .ok (.aload_n 0, 1) := by decide +kernel
theorem jd_Branchwork_meanLines_1 : decode mi_Branchwork_meanLines.2.1 1 = .ok (.getfield 19, 3) := by decide +kernel
theorem jd_Branchwork_meanLines_4 : decode mi_Branchwork_meanLines.2.1 4 = .ok (.aload_n 0, 1) := by decide +kernel
theorem jd_Branchwork_meanLines_5 : decode mi_Branchwork_meanLines.2.1 5 = .ok (.getfield 19, 3) := by decide +kernel
theorem jd_Branchwork_meanLines_8 : decode mi_Branchwork_meanLines.2.1 8 = .ok (.invokevirtual 220, 3) := by decide +kernel
theorem jd_Branchwork_meanLines_11 : decode mi_Branchwork_meanLines.2.1 11 = .ok (.invokevirtual 232, 3) := by decide +kernel
theorem jd_Branchwork_meanLines_14 : decode mi_Branchwork_meanLines.2.1 14 = .ok (.istore_n 1, 1) := by decide +kernel
theorem jd_Branchwork_meanLines_15 : decode mi_Branchwork_meanLines.2.1 15 = .ok (.iload_n 1, 1) := by decide +kernel
theorem jd_Branchwork_meanLines_16 : decode mi_Branchwork_meanLines.2.1 16 = .ok (.ifCond .gt 5, 3) := by decide +kernel
theorem jd_Branchwork_meanLines_19 : decode mi_Branchwork_meanLines.2.1 19 = .ok (.dconst 0, 1) := by decide +kernel
theorem jd_Branchwork_meanLines_20 : decode mi_Branchwork_meanLines.2.1 20 = .ok (.dreturn, 1) := by decide +kernel
theorem jd_Branchwork_meanLines_21 : decode mi_Branchwork_meanLines.2.1 21 = .ok (.aload_n 0, 1) := by decide +kernel
theorem jd_Branchwork_meanLines_22 : decode mi_Branchwork_meanLines.2.1 22 = .ok (.getfield 19, 3) := by decide +kernel
theorem jd_Branchwork_meanLines_25 : decode mi_Branchwork_meanLines.2.1 25 = .ok (.aload_n 0, 1) := by decide +kernel
theorem jd_Branchwork_meanLines_26 : decode mi_Branchwork_meanLines.2.1 26 = .ok (.getfield 19, 3) := by decide +kernel
theorem jd_Branchwork_meanLines_29 : decode mi_Branchwork_meanLines.2.1 29 = .ok (.invokevirtual 220, 3) := by decide +kernel
theorem jd_Branchwork_meanLines_32 : decode mi_Branchwork_meanLines.2.1 32 = .ok (.invokevirtual 298, 3) := by decide +kernel
theorem jd_Branchwork_meanLines_35 : decode mi_Branchwork_meanLines.2.1 35 = .ok (.i2d, 1) := by decide +kernel
theorem jd_Branchwork_meanLines_36 : decode mi_Branchwork_meanLines.2.1 36 = .ok (.iload_n 1, 1) := by decide +kernel
theorem jd_Branchwork_meanLines_37 : decode mi_Branchwork_meanLines.2.1 37 = .ok (.i2d, 1) := by decide +kernel
theorem jd_Branchwork_meanLines_38 : decode mi_Branchwork_meanLines.2.1 38 = .ok (.ddiv, 1) := by decide +kernel
theorem jd_Branchwork_meanLines_39 : decode mi_Branchwork_meanLines.2.1 39 = .ok (.dreturn, 1) := by decide +kernel
section
variable {o : jw_O} {μ : jw_Mem} {hs b : Nat}
theorem by_isFull {h : Nat} {N : Nat → Nat → Nat} {Z : Nat → Nat → Int32} {G : Nat → Nat → Nat → Int32} {nt f1 f2 tn cn : Nat → Int32} {kp : Int32} (x : bh_At o μ h N Z G nt f1 f2 tn cn 0 kp) : jw_Ro mi_History_isFull 0 o [.ref h] μ hs (some (.int 0)) := by
  refine jw_ro (by decide +kernel) (Nat.le_of_ble_eq_true rfl) rfl (fun k hR hE => ?_)
  have h0 := x.1
  refine jw_aload_n (pc' := 1) jd_History_isFull_0 rfl rfl rfl ?_
  refine jw_get (pc' := 4) (kf := 8) jc_History (by decide) jq_141 jd_History_isFull_1 (by assumption) rfl rfl ?_
  refine jw_bipush (pc' := 6) (v := nI 30) jd_History_isFull_4 (by decide +kernel) rfl ?_
  refine jw_icmp_lt (tgt := 13) (pc' := 9) jd_History_isFull_6 (by decide) rfl (fun c => ?_) (fun c => ?_)
  · refine jw_iconst (pc' := 14) (v := nI 0) jd_History_isFull_13 (by decide +kernel) rfl ?_
    refine jw_zret hE jd_History_isFull_14 rfl (by first | exact vp_nar_int _ | decide +kernel) (by omega) (by omega) ?_
    exact ⟨rfl, rfl, rfl⟩
  · exact absurd (by decide : (0 : Int32) < nI 30) c
theorem by_howMany {c n : Nat} {f s : Nat → Int32} (x : bk_At o μ c n f s) : jw_Ro mi_Conflicts_howMany 0 o [.ref c] μ hs (some (.int (nI n))) := by
  refine jw_ro (by decide +kernel) (Nat.le_of_ble_eq_true rfl) rfl (fun k hR hE => ?_)
  have h0 := x.1
  refine jw_aload_n (pc' := 1) jd_Conflicts_howMany_0 rfl rfl rfl ?_
  refine jw_get (pc' := 4) (kf := 2) jc_Conflicts (by decide) jq_180 jd_Conflicts_howMany_1 (by assumption) rfl rfl ?_
  refine jw_iret hE jd_Conflicts_howMany_4 rfl (by omega) (by omega) ?_
  exact ⟨rfl, rfl, rfl⟩
def kx_commit (x : Int32) : Nat := if x < 0 ∨ nI 999 < x then 1 else 2
theorem by_commit (h : bw_New o μ b) (x : Int32) : jy_F mi_Branchwork_commit o [.ref b, .int x] μ hs b [jx_IA, jx_IS] (kx_commit x) (.int 0) := by
  refine jw_specX (by decide +kernel) (Nat.le_of_ble_eq_true rfl) rfl (fun k hR hX => ?_)
  have hN := h
  obtain ⟨h0, hT, hH, -, hK, -⟩ := h
  have hH0 := hH.1
  have hK0 := hK.1
  refine jw_iload_n (pc' := 1) jd_Branchwork_commit_0 rfl rfl rfl ?_
  refine jw_if_lt (tgt := 11) (pc' := 4) jd_Branchwork_commit_1 (by decide) rfl (fun c => ?_) (fun c => ?_)
  · refine jw_throwS hR hX jt_IllegalArgumentException js_Branchwork_148 jd_Branchwork_commit_11 jd_Branchwork_commit_14 jd_Branchwork_commit_15 jd_Branchwork_commit_17 jd_Branchwork_commit_20 (Nat.le_of_ble_eq_true rfl) (by omega) (by omega) (by omega) (fun s9 hle9 => ?_)
    exact ⟨⟨0, rfl, by unfold kx_commit; rw [if_pos (Or.inl c)]⟩, jw_Fr.rf⟩
  refine jw_iload_n (pc' := 5) jd_Branchwork_commit_4 rfl rfl rfl ?_
  refine jw_sipush (pc' := 8) (v := nI 999) jd_Branchwork_commit_5 (by decide +kernel) rfl ?_
  refine jw_icmp_le (tgt := 21) (pc' := 11) jd_Branchwork_commit_8 (by decide) rfl (fun c2 => ?_) (fun c2 => ?_)
  rotate_left
  · refine jw_throwS hR hX jt_IllegalArgumentException js_Branchwork_148 jd_Branchwork_commit_11 jd_Branchwork_commit_14 jd_Branchwork_commit_15 jd_Branchwork_commit_17 jd_Branchwork_commit_20 (Nat.le_of_ble_eq_true rfl) (by omega) (by omega) (by omega) (fun s9 hle9 => ?_)
    exact ⟨⟨0, rfl, by unfold kx_commit; rw [if_pos (Or.inr (Int32.not_le.mp c2))]⟩, jw_Fr.rf⟩
  refine jw_aload_n (pc' := 22) jd_Branchwork_commit_21 rfl rfl rfl ?_
  refine jw_get (pc' := 25) (kf := 1) jc_Branchwork (by decide) jq_284 jd_Branchwork_commit_22 (by assumption) rfl rfl ?_
  refine jw_callV0 (pc' := 28) hR (by_isFull hH) jm_History_isFull jq_694 jc_History jd_Branchwork_commit_25 (by assumption) rfl rfl (Nat.le_of_ble_eq_true rfl) (by omega) (by decide) (by omega) (by omega) rfl rfl ?_
  refine jw_if_eq (tgt := 41) (pc' := 31) jd_Branchwork_commit_28 (by decide) rfl (fun c3 => ?_) (fun c3 => ?_)
  rotate_left
  · exact absurd rfl c3
  refine jw_aload_n (pc' := 42) jd_Branchwork_commit_41 rfl rfl rfl ?_
  refine jw_get (pc' := 45) (kf := 3) jc_Branchwork (by decide) jq_286 jd_Branchwork_commit_42 (by assumption) rfl rfl ?_
  refine jw_callV0 (pc' := 48) hR (by_howMany hK) jm_Conflicts_howMany jq_413 jc_Conflicts jd_Branchwork_commit_45 (by assumption) rfl rfl (Nat.le_of_ble_eq_true rfl) (by omega) (by decide) (by omega) (by omega) rfl rfl ?_
  refine jw_if_le (tgt := 61) (pc' := 51) jd_Branchwork_commit_48 (by decide) rfl (fun c4 => ?_) (fun c4 => ?_)
  rotate_left
  · exact absurd (by decide : (nI 0 : Int32) ≤ 0) c4
  refine jw_aload_n (pc' := 62) jd_Branchwork_commit_61 rfl rfl rfl ?_
  refine jw_get (pc' := 65) (kf := 9) jc_Branchwork (by decide) jq_292 jd_Branchwork_commit_62 (by assumption) rfl rfl ?_
  refine jw_iconst (pc' := 66) (v := -1) jd_Branchwork_commit_65 (by decide +kernel) rfl ?_
  refine jw_icmp_ne (tgt := 86) (pc' := 69) jd_Branchwork_commit_66 (by decide) rfl (fun c5 => ?_) (fun c5 => ?_)
  · exact absurd (by decide) c5
  refine jw_aload_n (pc' := 70) jd_Branchwork_commit_69 rfl rfl rfl ?_
  refine jw_callV0 (pc' := 73) hR (by_isClean hN) jm_Branchwork_isClean jq_700 jc_Branchwork jd_Branchwork_commit_70 (by assumption) rfl rfl (Nat.le_of_ble_eq_true rfl) (by omega) (by decide) (by omega) (by omega) rfl rfl ?_
  refine jw_if_eq (tgt := 86) (pc' := 76) jd_Branchwork_commit_73 (by decide) rfl (fun c6 => ?_) (fun c6 => ?_)
  · exact absurd c6 (by decide)
  refine jw_throwS hR hX jt_IllegalStateException js_Branchwork_161 jd_Branchwork_commit_76 jd_Branchwork_commit_79 jd_Branchwork_commit_80 jd_Branchwork_commit_82 jd_Branchwork_commit_85 (Nat.le_of_ble_eq_true rfl) (by omega) (by omega) (by omega) (fun s9 hle9 => ?_)
  exact ⟨⟨1, rfl, by unfold kx_commit; rw [if_neg (fun z => z.elim c (fun z => absurd c2 (Int32.not_le.mpr z)))]⟩, jw_Fr.rf⟩
theorem by_branch (h : bw_New o μ b) : jy_F mi_Branchwork_branch o [.ref b] μ hs b [jx_IS] 1 (.int 0) := by
  refine jw_specX (by decide +kernel) (Nat.le_of_ble_eq_true rfl) rfl (fun k hR hX => ?_)
  have hN := h
  obtain ⟨h0, -⟩ := h
  refine jw_aload_n (pc' := 1) jd_Branchwork_branch_0 rfl rfl rfl ?_
  refine jw_callV0 (pc' := 4) hR (by_head hN) jm_Branchwork_head jq_494 jc_Branchwork jd_Branchwork_branch_1 (by assumption) rfl rfl (Nat.le_of_ble_eq_true rfl) (by omega) (by decide) (by omega) (by omega) rfl rfl ?_
  refine jw_iconst (pc' := 5) (v := -1) jd_Branchwork_branch_4 (by decide +kernel) rfl ?_
  refine jw_icmp_ne (tgt := 18) (pc' := 8) jd_Branchwork_branch_5 (by decide) rfl (fun c => ?_) (fun c => ?_)
  · exact absurd (by decide) c
  refine jw_throwS hR hX jt_IllegalStateException js_Branchwork_167 jd_Branchwork_branch_8 jd_Branchwork_branch_11 jd_Branchwork_branch_12 jd_Branchwork_branch_14 jd_Branchwork_branch_17 (Nat.le_of_ble_eq_true rfl) (by omega) (by omega) (by omega) (fun s9 hle9 => ?_)
  exact ⟨⟨0, rfl, rfl⟩, jw_Fr.rf⟩
def kx_z (x : Int32) : Nat := if x = 0 then 0 else 1
theorem jx_lt1 {x : Int32} (h : ¬ x < 0) (h1 : x < 1) : x = 0 := by
  rcases fa_three x 0 with z | z | z
  · exact absurd z h
  · exact z
  · have a := Int32.lt_iff_toInt_lt.mp z
    have c := Int32.lt_iff_toInt_lt.mp h1
    have d0 : (0 : Int32).toInt = 0 := by decide
    have d1 : (1 : Int32).toInt = 1 := by decide
    omega
theorem by_requireBranch (h : bw_New o μ b) (x : Int32) : jw_SpX mi_Branchwork_requireBranch 6 1 6 o [.ref b, .int x] μ hs (fun v μ' s' => v = none ∧ μ' = μ ∧ s' = hs ∧ x = 0) (fun E μ' s' => E = jx_IO ∧ μ' = μ ∧ kx_z x = 1) := by
  refine jw_specX (by decide +kernel) (Nat.le_of_ble_eq_true rfl) rfl (fun k hR hX => ?_)
  have hE := hX.E
  obtain ⟨h0, -⟩ := h
  refine jw_iload_n (pc' := 1) jd_Branchwork_requireBranch_0 rfl rfl rfl ?_
  refine jw_if_lt (tgt := 12) (pc' := 4) jd_Branchwork_requireBranch_1 (by decide) rfl (fun c => ?_) (fun c => ?_)
  · refine jw_throwSW hR hX jt_IndexOutOfBoundsException js_Branchwork_360 jd_Branchwork_requireBranch_12 jd_Branchwork_requireBranch_15 jd_Branchwork_requireBranch_16 jd_Branchwork_requireBranch_19 jd_Branchwork_requireBranch_22 (Nat.le_of_ble_eq_true rfl) (by omega) (by omega) (by omega) (fun s9 hle9 => ?_)
    exact ⟨rfl, rfl, by unfold kx_z; rw [if_neg (fun e => by rw [e] at c; exact absurd c (by decide))]⟩
  refine jw_iload_n (pc' := 5) jd_Branchwork_requireBranch_4 rfl rfl rfl ?_
  refine jw_aload_n (pc' := 6) jd_Branchwork_requireBranch_5 rfl rfl rfl ?_
  refine jw_get (pc' := 9) (kf := 7) jc_Branchwork (by decide) jq_290 jd_Branchwork_requireBranch_6 (by assumption) rfl rfl ?_
  refine jw_icmp_lt (tgt := 23) (pc' := 12) jd_Branchwork_requireBranch_9 (by decide) rfl (fun c2 => ?_) (fun c2 => ?_)
  · refine jw_vret hE jd_Branchwork_requireBranch_23 rfl (by omega) (by omega) ?_
    exact ⟨rfl, rfl, rfl, jx_lt1 c c2⟩
  · refine jw_throwSW hR hX jt_IndexOutOfBoundsException js_Branchwork_360 jd_Branchwork_requireBranch_12 jd_Branchwork_requireBranch_15 jd_Branchwork_requireBranch_16 jd_Branchwork_requireBranch_19 jd_Branchwork_requireBranch_22 (Nat.le_of_ble_eq_true rfl) (by omega) (by omega) (by omega) (fun s9 hle9 => ?_)
    exact ⟨rfl, rfl, by unfold kx_z; rw [if_neg (fun e => by rw [e] at c2; exact absurd (by decide : (0 : Int32) < 1) c2)]⟩
theorem by_requireClean (h : bw_New o μ b) : jw_SpX mi_Branchwork_requireCleanAndUnmerged 6 1 6 o [.ref b] μ hs (fun v μ' s' => v = none ∧ μ' = μ ∧ s' = hs) (fun E μ' s' => False) := by
  refine jw_specX (by decide +kernel) (Nat.le_of_ble_eq_true rfl) rfl (fun k hR hX => ?_)
  have hE := hX.E
  have hN := h
  obtain ⟨h0, -⟩ := h
  refine jw_aload_n (pc' := 1) jd_Branchwork_requireCleanAndUnmerged_0 rfl rfl rfl ?_
  refine jw_callV0 (pc' := 4) hR (by_isClean hN) jm_Branchwork_isClean jq_700 jc_Branchwork jd_Branchwork_requireCleanAndUnmerged_1 (by assumption) rfl rfl (Nat.le_of_ble_eq_true rfl) (by omega) (by decide) (by omega) (by omega) rfl rfl ?_
  refine jw_if_ne (tgt := 18) (pc' := 7) jd_Branchwork_requireCleanAndUnmerged_4 (by decide) rfl (fun c => ?_) (fun c => ?_)
  rotate_left
  · exact absurd c (by decide)
  refine jw_aload_n (pc' := 19) jd_Branchwork_requireCleanAndUnmerged_18 rfl rfl rfl ?_
  refine jw_get (pc' := 22) (kf := 9) jc_Branchwork (by decide) jq_292 jd_Branchwork_requireCleanAndUnmerged_19 (by assumption) rfl rfl ?_
  refine jw_iconst (pc' := 23) (v := -1) jd_Branchwork_requireCleanAndUnmerged_22 (by decide +kernel) rfl ?_
  refine jw_icmp_eq (tgt := 37) (pc' := 26) jd_Branchwork_requireCleanAndUnmerged_23 (by decide) rfl (fun c2 => ?_) (fun c2 => ?_)
  · refine jw_vret hE jd_Branchwork_requireCleanAndUnmerged_37 rfl (by omega) (by omega) ?_
    exact ⟨rfl, rfl, rfl⟩
  · exact absurd (by decide) c2
section
variable {mi : jw_M} {k : jw_K} {kc ks pc pc' : Nat} {lc : List (Nat × Value)} {rest : List Value}
theorem jw_mmin {d mc ms idx : Nat} {x y v : Int32} (hR : jw_Rm k d mc ms) (hw : Cond.methodLink mi.1.cls idx Lib.Math.min.name ∈ jw_T) (hd : decode mi.2.1 pc = .ok (.invokestatic idx, 3)) (hrs : (rest.map fun v => v.category).sum ≤ 8) (hdd : 1 ≤ d) (h1 : kc ≤ mc) (h2 : ks ≤ ms) (hv : (if y < x then y else x) = v) (hp : pc + 3 = pc') (kk : jw_X mi o k kc ks pc' lc (.int v :: rest) μ hs) : jw_X mi o k kc ks pc lc (.int y :: .int x :: rest) μ hs := by
  subst hp; subst hv
  intro C0 H locs ls e1 e2 e3 e4
  obtain ⟨r1, r2, r3, r4⟩ := hR
  exact va_mmin C0.1 C0.2.1 (C0.2.2.2.1.trans e4.1.symm) C0.own (C0.ts _ hw) (C0.ts _ jq_669) (C0.ts _ jq_71) (C0.ts (Cond.code Lib.Math.min.name Lib.Math.min.code 2 (some .int)) (jw_mem 670 (by decide +kernel) (by decide +kernel))) (Nat.le_trans hdd r1) (by omega) (Nat.le_trans h1 r3) (Nat.le_trans h2 r4) hd (kk C0 H locs ls e1 e2 e3 e4)
theorem jw_mmax {d mc ms idx : Nat} {x y v : Int32} (hR : jw_Rm k d mc ms) (hw : Cond.methodLink mi.1.cls idx Lib.Math.max.name ∈ jw_T) (hd : decode mi.2.1 pc = .ok (.invokestatic idx, 3)) (hrs : (rest.map fun v => v.category).sum ≤ 8) (hdd : 1 ≤ d) (h1 : kc ≤ mc) (h2 : ks ≤ ms) (hv : (if x < y then y else x) = v) (hp : pc + 3 = pc') (kk : jw_X mi o k kc ks pc' lc (.int v :: rest) μ hs) : jw_X mi o k kc ks pc lc (.int y :: .int x :: rest) μ hs := by
  subst hp; subst hv
  intro C0 H locs ls e1 e2 e3 e4
  obtain ⟨r1, r2, r3, r4⟩ := hR
  exact va_mmax C0.1 C0.2.1 (C0.2.2.2.1.trans e4.1.symm) C0.own (C0.ts _ hw) (C0.ts _ jq_809) (C0.ts _ jq_71) (C0.ts (Cond.code Lib.Math.max.name Lib.Math.max.code 2 (some .int)) (jw_mem 810 (by decide +kernel) (by decide +kernel))) (Nat.le_trans hdd r1) (by omega) (Nat.le_trans h1 r3) (Nat.le_trans h2 r4) hd (kk C0 H locs ls e1 e2 e3 e4)
end
theorem bc_copyFrom0 {a q : Nat} {g f : Nat → Int32} (h : bc_At o μ a 0 0 g) (h2 : bc_At o μ q 0 0 f) (hd : q + 2 ≤ a ∨ a + 2 ≤ q) : jw_Spec mi_Content_copyFrom 1 0 0 o [.ref a, .ref q] μ hs (fun v μ' s' => v = none ∧ s' = hs ∧ bc_At o μ' a 0 0 g ∧ jw_Fr μ μ' a 2) := by
  refine jw_spec (by decide +kernel) (Nat.le_of_ble_eq_true rfl) rfl (fun k hR hE => ?_)
  obtain ⟨ha, hb⟩ := h
  have hF : jw_Fr μ μ a 2 := jw_Fr.rf
  have hq := h2.1
  refine jw_aload_n (pc' := 1) jd_Content_copyFrom_0 rfl rfl rfl ?_
  refine jw_aload_n (pc' := 2) jd_Content_copyFrom_1 rfl rfl rfl ?_
  refine jw_callV0 (pc' := 5) hR (bc_length h2) jm_Content_length jq_538 jc_Content jd_Content_copyFrom_2 (by assumption) rfl rfl (Nat.le_of_ble_eq_true rfl) (by omega) (by decide) (by omega) (by omega) rfl rfl ?_
  refine jw_bipush (pc' := 7) (v := nI 10) jd_Content_copyFrom_5 (by decide +kernel) rfl ?_
  refine jw_mmin (pc' := 10) (v := nI 0) hR jq_668 jd_Content_copyFrom_7 (Nat.le_of_ble_eq_true rfl) (by omega) (by omega) (by omega) (by decide) rfl ?_
  refine jw_put (pc' := 13) (kf := 1) (ty := .int) (fs' := [_, _, _]) jc_Content (by decide) jq_107 jd_Content_copyFrom_10 rfl (by decide +kernel) (by assumption) rfl rfl rfl (Nat.le_of_ble_eq_true rfl) rfl (fun μ ha f9 => ?_)
  have hb := (f9 _ (by omega)).trans hb
  have hq := (f9 _ (by omega)).trans hq
  have hF := jw_Fr.step hF f9 (by omega)
  have h2 := h2.fr (jw_Fr.o f9) (by omega)
  refine jw_aload_n (pc' := 14) jd_Content_copyFrom_13 rfl rfl rfl ?_
  refine jw_aload_n (pc' := 15) jd_Content_copyFrom_14 rfl rfl rfl ?_
  refine jw_callV0 (pc' := 18) hR (bc_exists h2 (Or.inl rfl)) jm_Content_exists jq_537 jc_Content jd_Content_copyFrom_15 (by assumption) rfl rfl (Nat.le_of_ble_eq_true rfl) (by omega) (by decide) (by omega) (by omega) rfl rfl ?_
  refine jw_put (pc' := 21) (kf := 2) (ty := .boolean) (fs' := [_, _, _]) jc_Content (by decide) jq_108 jd_Content_copyFrom_18 rfl (by decide +kernel) (by assumption) rfl rfl rfl (Nat.le_of_ble_eq_true rfl) rfl (fun μ ha f9 => ?_)
  have hb := (f9 _ (by omega)).trans hb
  have hq := (f9 _ (by omega)).trans hq
  have hF := jw_Fr.step hF f9 (by omega)
  have h2 := h2.fr (jw_Fr.o f9) (by omega)
  refine jw_iconst (pc' := 22) (v := nI 0) jd_Content_copyFrom_21 (by decide +kernel) rfl ?_
  refine jw_istore_n (pc' := 23) (lc' := [(0, _), (1, _), (2, _)]) jd_Content_copyFrom_22 rfl (Nat.le_of_ble_eq_true rfl) ⟨rfl, rfl, rfl, trivial⟩ rfl ?_
  refine jw_iload_n (pc' := 24) jd_Content_copyFrom_23 rfl rfl rfl ?_
  refine jw_aload_n (pc' := 25) jd_Content_copyFrom_24 rfl rfl rfl ?_
  refine jw_get (pc' := 28) (kf := 1) jc_Content (by decide) jq_107 jd_Content_copyFrom_25 (by assumption) rfl rfl ?_
  refine jw_icmp_ge (tgt := 48) (pc' := 31) jd_Content_copyFrom_28 (by decide) rfl (fun c => ?_) (fun c => ?_)
  · refine jw_vret hE jd_Content_copyFrom_48 rfl (by omega) (by omega) ?_
    exact ⟨rfl, rfl, ⟨ha, hb⟩, hF⟩
  · exact absurd (by decide) c
theorem bt_copyFrom0 {t u : Nat} (h : bt_At o μ t (fun _ => 0) (fun _ => 0) (fun _ _ => 0)) (h2 : bt_At o μ u (fun _ => 0) (fun _ => 0) (fun _ _ => 0)) (hd : u + 28 ≤ t ∨ t + 28 ≤ u) : jw_Spec mi_Tree_copyFrom 2 0 0 o [.ref t, .ref u] μ hs (fun v μ' s' => v = none ∧ s' = hs ∧ jw_Fr μ μ' t 28) := by
  refine jw_spec (by decide +kernel) (Nat.le_of_ble_eq_true rfl) rfl (fun k hR hE => ?_)
  obtain ⟨μ0, hμ0⟩ : ∃ z, z = μ := ⟨_, rfl⟩
  have hF : jw_Fr μ0 μ t 28 := by rw [hμ0]; exact jw_Fr.rf
  have hU := h2.1
  have h0 := h.1
  obtain ⟨F, h1, hFp⟩ := h.2.1
  have hA := h.2.2.2.1
  refine jw_iconst (pc' := 1) (v := nI 0) jd_Tree_copyFrom_0 (by decide +kernel) rfl ?_
  refine jw_istore_n (pc' := 2) (lc' := [(0, _), (1, _), (2, _)]) jd_Tree_copyFrom_1 rfl (Nat.le_of_ble_eq_true rfl) ⟨rfl, rfl, rfl, trivial⟩ rfl ?_
  have loop : ∀ d i : Nat, i + d = 12 → ∀ (μ : jw_Mem), jw_Fr μ0 μ t 28 → μ t = some (.inr (1, [.ref (t + 1), .ref (t + 2)])) → μ (t + 1) = some (.inl (o.2.2.1 2, 12, .inr (.inr (.inr (.inr F))))) → (∀ p, p < 12 → bc_At o μ (t + 4 + 2 * p) 0 0 (fun _ => 0)) → bt_At o μ u (fun _ => 0) (fun _ => 0) (fun _ _ => 0) → jw_X mi_Tree_copyFrom o k 0 0 2 [(0, .ref t), (1, .ref u), (2, .int (nI i))] [] μ hs := by
    intro d
    induction d with
    | zero =>
      intro i hi μ hF h0 h1 hA h2
      refine jw_iload_n (pc' := 3) jd_Tree_copyFrom_2 rfl rfl rfl ?_
      refine jw_bipush (pc' := 5) (v := nI 12) jd_Tree_copyFrom_3 (by decide +kernel) rfl ?_
      refine jw_icmp_ge (tgt := 28) (pc' := 8) jd_Tree_copyFrom_5 (by decide) rfl (fun c => ?_) (fun c => ?_)
      · refine jw_vret hE jd_Tree_copyFrom_28 rfl (by omega) (by omega) ?_
        exact ⟨rfl, rfl, hμ0 ▸ hF⟩
      · exact absurd (nI_le (by omega) (by omega)) c
    | succ d ih =>
      intro i hi μ hF h0 h1 hA h2
      have hC := hA i (by omega)
      have hC0 := hC.1
      have hU := h2.1
      refine jw_iload_n (pc' := 3) jd_Tree_copyFrom_2 rfl rfl rfl ?_
      refine jw_bipush (pc' := 5) (v := nI 12) jd_Tree_copyFrom_3 (by decide +kernel) rfl ?_
      refine jw_icmp_ge (tgt := 28) (pc' := 8) jd_Tree_copyFrom_5 (by decide) rfl (fun c => ?_) (fun c => ?_)
      · exact absurd ((nI_leI (a := 12) (by omega) (by omega)).mp c) (by omega)
      refine jw_aload_n (pc' := 9) jd_Tree_copyFrom_8 rfl rfl rfl ?_
      refine jw_get (pc' := 12) (kf := 0) jc_Tree (by decide) jq_117 jd_Tree_copyFrom_9 (by assumption) rfl rfl ?_
      refine jw_iload_n (pc' := 13) jd_Tree_copyFrom_12 rfl rfl rfl ?_
      refine jw_aald (pc' := 14) (i := 2) jd_Tree_copyFrom_13 (by assumption) rfl (vp_in_nI (by omega) (by omega)) (jw_rf (hFp i (by omega)) (by omega)) rfl ?_
      refine jw_aload_n (pc' := 15) jd_Tree_copyFrom_14 rfl rfl rfl ?_
      refine jw_iload_n (pc' := 16) jd_Tree_copyFrom_15 rfl rfl rfl ?_
      refine jw_callV0 (pc' := 19) hR (bt_fileAt h2 (by omega)) jm_Tree_fileAt jq_408 jc_Tree jd_Tree_copyFrom_16 (by assumption) rfl rfl (Nat.le_of_ble_eq_true rfl) (by omega) (by decide) (by omega) (by omega) rfl rfl ?_
      refine jw_callV (pc' := 22) hR (bc_copyFrom0 hC (h2.2.2.2.1 i (by omega)) (by omega)) jm_Content_copyFrom jq_718 jc_Content jd_Tree_copyFrom_19 (by assumption) rfl rfl (Nat.le_of_ble_eq_true rfl) (by omega) (by decide) (by omega) (by omega) rfl (fun v μ9 s9 q9 hle => ?_)
      obtain ⟨rfl, rfl, hC1, f9⟩ := q9
      refine jw_iinc (pc' := 25) (lc' := [(0, _), (1, _), (2, _)]) jd_Tree_copyFrom_22 rfl (nI_1 _) (Nat.le_of_ble_eq_true rfl) ⟨rfl, rfl, rfl, trivial⟩ rfl ?_
      refine jw_goto (tgt := 2) jd_Tree_copyFrom_25 (by decide) ?_
      refine ih (i + 1) (by omega) _ (hF.trans f9 (by omega) (by omega)) ((f9 _ (by omega)).trans h0) ((f9 _ (by omega)).trans h1) (fun p hp => ?_) (h2.fr f9 (by omega))
      by_cases e : p = i
      · rw [e]; exact hC1
      · exact (hA p hp).fr f9 (by omega)
  exact loop 12 0 (by omega) μ hF h0 h1 hA h2
theorem by_change (h : bw_New o μ b) (x : Int32) : jy_F mi_Branchwork_change o [.ref b, .int x] μ hs b [jx_IO, jx_IS] (kx_z x) (.int 0) := by
  refine jw_specX (by decide +kernel) (Nat.le_of_ble_eq_true rfl) rfl (fun k hR hX => ?_)
  have hE := hX.E
  have hN := h
  obtain ⟨h0, hT, hH, -, -, -, -, ⟨f, hf, hf1⟩⟩ := h
  have hF : jw_Fr μ μ b 984 := jw_Fr.rf
  refine jw_aload_n (pc' := 1) jd_Branchwork_change_0 rfl rfl rfl ?_
  refine jw_iload_n (pc' := 2) jd_Branchwork_change_1 rfl rfl rfl ?_
  refine jw_callVX (pc' := 5) hR (by_requireBranch hN x) jm_Branchwork_requireBranch jq_503 jc_Branchwork jd_Branchwork_change_2 (by assumption) rfl rfl (Nat.le_of_ble_eq_true rfl) (by omega) (by decide) (by omega) (by omega) rfl (fun E9 q9 μ s9 hΨ hle9 => jw_out hX (by omega) (by omega) ?_) (fun v μ9 s9 q9 hle => ?_)
  · obtain ⟨rfl, rfl, hin⟩ := hΨ
    exact ⟨⟨0, rfl, hin⟩, jw_Fr.rf⟩
  obtain ⟨rfl, rfl, rfl, rfl⟩ := q9
  refine jw_aload_n (pc' := 6) jd_Branchwork_change_5 rfl rfl rfl ?_
  refine jw_callVX (pc' := 9) hR (by_requireClean hN) jm_Branchwork_requireCleanAndUnmerged jq_746 jc_Branchwork jd_Branchwork_change_6 (by assumption) rfl rfl (Nat.le_of_ble_eq_true rfl) (by omega) (by decide) (by omega) (by omega) rfl (fun E9 q9 μ s9 hΨ hle9 => jw_out hX (by omega) (by omega) ?_) (fun v μ9 s9 q9 hle => ?_)
  · exact hΨ.elim
  obtain ⟨rfl, rfl, rfl⟩ := q9
  refine jw_aload_n (pc' := 10) jd_Branchwork_change_9 rfl rfl rfl ?_
  refine jw_get (pc' := 13) (kf := 8) jc_Branchwork (by decide) jq_291 jd_Branchwork_change_10 (by assumption) rfl rfl ?_
  refine jw_istore_n (pc' := 14) (lc' := [(0, _), (1, _), (2, _)]) jd_Branchwork_change_13 rfl (Nat.le_of_ble_eq_true rfl) ⟨rfl, rfl, rfl, trivial⟩ rfl ?_
  refine jw_aload_n (pc' := 15) jd_Branchwork_change_14 rfl rfl rfl ?_
  refine jw_iload_n (pc' := 16) jd_Branchwork_change_15 rfl rfl rfl ?_
  refine jw_put (pc' := 19) (kf := 8) (ty := .int) (fs' := [_, _, _, _, _, _, _, _, _, _]) jc_Branchwork (by decide) jq_291 jd_Branchwork_change_16 rfl (by decide +kernel) (by assumption) rfl rfl rfl (Nat.le_of_ble_eq_true rfl) rfl (fun μ h0 f9 => ?_)
  have hF := jw_Fr.step hF f9 (by omega)
  have hT := hT.fr (jw_Fr.o f9) (by omega)
  have hH := hH.fr (jw_Fr.o f9) (by omega)
  have hf := hf.fr (jw_Fr.o f9) (by omega)
  refine jw_aload_n (pc' := 20) jd_Branchwork_change_19 rfl rfl rfl ?_
  refine jw_get (pc' := 23) (kf := 0) jc_Branchwork (by decide) jq_283 jd_Branchwork_change_20 (by assumption) rfl rfl ?_
  refine jw_aload_n (pc' := 24) jd_Branchwork_change_23 rfl rfl rfl ?_
  refine jw_get (pc' := 27) (kf := 1) jc_Branchwork (by decide) jq_284 jd_Branchwork_change_24 (by assumption) rfl rfl ?_
  refine jw_aload_n (pc' := 28) jd_Branchwork_change_27 rfl rfl rfl ?_
  have hN1 : jw_Ro mi_Branchwork_head 0 o [.ref b] μ s9 (some (.int (-1))) := by
    refine jw_ro (by decide +kernel) (Nat.le_of_ble_eq_true rfl) rfl (fun k hR hE => ?_)
    have hf9 : μ (b + 983) = some (.inl (o.2.2.1 0, 5, .inl f)) := hf
    refine jw_aload_n (pc' := 1) jd_Branchwork_head_0 rfl rfl rfl ?_
    refine jw_get (pc' := 4) (kf := 6) jc_Branchwork (by decide) jq_289 jd_Branchwork_head_1 (by assumption) rfl rfl ?_
    refine jw_aload_n (pc' := 5) jd_Branchwork_head_4 rfl rfl rfl ?_
    refine jw_get (pc' := 8) (kf := 8) jc_Branchwork (by decide) jq_291 jd_Branchwork_head_5 (by assumption) rfl rfl ?_
    refine jw_iald (pc' := 9) (i := 0) jd_Branchwork_head_8 (by assumption) rfl (vp_in_nI (n := 0) (by omega) (by omega)) ((congrArg f (nI_clamp (n := 0) (by omega))).trans (hf1 0 (by omega))) rfl ?_
    refine jw_iret hE jd_Branchwork_head_9 rfl (by omega) (by omega) ?_
    exact ⟨rfl, rfl, rfl⟩
  have hT0 := hT.1
  have hH0 := hH.1
  refine jw_callV0 (pc' := 31) hR (hN1) jm_Branchwork_head jq_494 jc_Branchwork jd_Branchwork_change_28 (by assumption) rfl rfl (Nat.le_of_ble_eq_true rfl) (by omega) (by decide) (by omega) (by omega) rfl rfl ?_
  refine jw_callV0 (pc' := 34) hR (by_treeOf hH (by decide)) jm_History_treeOf jq_531 jc_History jd_Branchwork_change_31 (by assumption) rfl rfl (Nat.le_of_ble_eq_true rfl) (by omega) (by decide) (by omega) (by omega) rfl rfl ?_
  refine jw_callV (pc' := 37) hR (bt_copyFrom0 hT hH.2.2.1 (by omega)) jm_Tree_copyFrom jq_752 jc_Tree jd_Branchwork_change_34 (by assumption) rfl rfl (Nat.le_of_ble_eq_true rfl) (by omega) (by decide) (by omega) (by omega) rfl (fun v μ9 s8 q9 hle => ?_)
  obtain ⟨rfl, rfl, f9⟩ := q9
  have hF := hF.trans f9 (by omega) (by omega)
  refine jw_iload_n (pc' := 38) jd_Branchwork_change_37 rfl rfl rfl ?_
  refine jw_iret hE jd_Branchwork_change_38 rfl (by omega) (by omega) ?_
  exact ⟨rfl, rfl, hF⟩
theorem by_requireCommit (h : bw_New o μ b) (x : Int32) : jw_SpX mi_Branchwork_requireCommit 6 1 6 o [.ref b, .int x] μ hs (fun v μ' s' => False) (fun E μ' s' => E = jx_IO ∧ μ' = μ) := by
  refine jw_specX (by decide +kernel) (Nat.le_of_ble_eq_true rfl) rfl (fun k hR hX => ?_)
  obtain ⟨h0, -, hH, -⟩ := h
  have hH0 := hH.1
  have hh : jw_Ro mi_History_holds 2 o [.ref (b + 29), .int x] μ hs (some (.int 0)) := by
    refine jw_ro (by decide +kernel) (Nat.le_of_ble_eq_true rfl) rfl (fun k hR hE => ?_)
    refine jw_iload_n (pc' := 1) jd_History_holds_0 rfl rfl rfl ?_
    refine jw_aload_n (pc' := 2) jd_History_holds_1 rfl rfl rfl ?_
    refine jw_get (pc' := 5) (kf := 9) jc_History (by decide) jq_142 jd_History_holds_2 (by assumption) rfl rfl ?_
    refine jw_callS0 (pc' := 8) hR (bs_isIn0 x) jm_History_isIn jq_340 jd_History_holds_5 rfl rfl (Nat.le_of_ble_eq_true rfl) (by omega) (by decide) (by omega) (by omega) rfl rfl ?_
    exact jw_zret hE jd_History_holds_8 rfl (by decide) (by omega) (by omega) ⟨rfl, rfl, rfl⟩
  refine jw_aload_n (pc' := 1) jd_Branchwork_requireCommit_0 rfl rfl rfl ?_
  refine jw_get (pc' := 4) (kf := 1) jc_Branchwork (by decide) jq_284 jd_Branchwork_requireCommit_1 (by assumption) rfl rfl ?_
  refine jw_iload_n (pc' := 5) jd_Branchwork_requireCommit_4 rfl rfl rfl ?_
  refine jw_callV0 (pc' := 8) hR (hh) jm_History_holds jq_550 jc_History jd_Branchwork_requireCommit_5 (by assumption) rfl rfl (Nat.le_of_ble_eq_true rfl) (by omega) (by decide) (by omega) (by omega) rfl rfl ?_
  refine jw_if_ne (tgt := 22) (pc' := 11) jd_Branchwork_requireCommit_8 (by decide) rfl (fun c => ?_) (fun c => ?_)
  · exact absurd rfl c
  refine jw_throwSW hR hX jt_IndexOutOfBoundsException js_Branchwork_358 jd_Branchwork_requireCommit_11 jd_Branchwork_requireCommit_14 jd_Branchwork_requireCommit_15 jd_Branchwork_requireCommit_18 jd_Branchwork_requireCommit_21 (Nat.le_of_ble_eq_true rfl) (by omega) (by omega) (by omega) (fun s9 hle9 => ?_)
  exact ⟨rfl, rfl⟩
theorem by_reset (h : bw_New o μ b) (x : Int32) : jy_F mi_Branchwork_reset o [.ref b, .int x] μ hs b [jx_IO] 1 (.int 0) := by
  refine jw_specX (by decide +kernel) (Nat.le_of_ble_eq_true rfl) rfl (fun k hR hX => ?_)
  have h0 := h.1
  refine jw_aload_n (pc' := 1) jd_Branchwork_reset_0 rfl rfl rfl ?_
  refine jw_iload_n (pc' := 2) jd_Branchwork_reset_1 rfl rfl rfl ?_
  refine jw_callVX (pc' := 5) hR (by_requireCommit h x) jm_Branchwork_requireCommit jq_562 jc_Branchwork jd_Branchwork_reset_2 (by assumption) rfl rfl (Nat.le_of_ble_eq_true rfl) (by omega) (by decide) (by omega) (by omega) rfl (fun E9 q9 μ s9 hΨ hle9 => jw_out hX (by omega) (by omega) ?_) (fun v μ9 s9 q9 hle => ?_)
  · obtain ⟨rfl, rfl⟩ := hΨ
    exact ⟨⟨0, rfl, rfl⟩, jw_Fr.rf⟩
  · exact q9.elim
def kx_merge (x : Int32) : Nat := if x = 0 then 2 else 1
theorem by_merge (h : bw_New o μ b) (x : Int32) : jy_F mi_Branchwork_merge o [.ref b, .int x] μ hs b [jx_IO, jx_IS] (kx_merge x) (.int 0) := by
  refine jw_specX (by decide +kernel) (Nat.le_of_ble_eq_true rfl) rfl (fun k hR hX => ?_)
  have h0 := h.1
  refine jw_aload_n (pc' := 1) jd_Branchwork_merge_0 rfl rfl rfl ?_
  refine jw_iload_n (pc' := 2) jd_Branchwork_merge_1 rfl rfl rfl ?_
  refine jw_callVX (pc' := 5) hR (by_requireBranch h x) jm_Branchwork_requireBranch jq_503 jc_Branchwork jd_Branchwork_merge_2 (by assumption) rfl rfl (Nat.le_of_ble_eq_true rfl) (by omega) (by decide) (by omega) (by omega) rfl (fun E9 q9 μ s9 hΨ hle9 => jw_out hX (by omega) (by omega) ?_) (fun v μ9 s9 q9 hle => ?_)
  · obtain ⟨rfl, rfl, hin⟩ := hΨ
    refine ⟨⟨0, rfl, ?_⟩, jw_Fr.rf⟩
    unfold kx_z at hin
    unfold kx_merge
    by_cases e : x = 0
    · rw [if_pos e] at hin; exact absurd hin (by decide)
    · rw [if_neg e]
  obtain ⟨rfl, rfl, rfl, rfl⟩ := q9
  refine jw_aload_n (pc' := 6) jd_Branchwork_merge_5 rfl rfl rfl ?_
  refine jw_callV0 (pc' := 9) hR (by_head h) jm_Branchwork_head jq_494 jc_Branchwork jd_Branchwork_merge_6 (by assumption) rfl rfl (Nat.le_of_ble_eq_true rfl) (by omega) (by decide) (by omega) (by omega) rfl rfl ?_
  refine jw_iconst (pc' := 10) (v := -1) jd_Branchwork_merge_9 (by decide +kernel) rfl ?_
  refine jw_icmp_ne (tgt := 23) (pc' := 13) jd_Branchwork_merge_10 (by decide) rfl (fun c => ?_) (fun c => ?_)
  · exact absurd (by decide) c
  refine jw_throwS hR hX jt_IllegalStateException js_Branchwork_167 jd_Branchwork_merge_13 jd_Branchwork_merge_16 jd_Branchwork_merge_17 jd_Branchwork_merge_19 jd_Branchwork_merge_22 (Nat.le_of_ble_eq_true rfl) (by omega) (by omega) (by omega) (fun s9 hle9 => ?_)
  exact ⟨⟨1, rfl, rfl⟩, jw_Fr.rf⟩
theorem by_requireConflict (h : bw_New o μ b) (x : Int32) : jw_SpX mi_Branchwork_requireConflict 6 1 6 o [.ref b, .int x] μ hs (fun v μ' s' => False) (fun E μ' s' => E = jx_IO ∧ μ' = μ) := by
  refine jw_specX (by decide +kernel) (Nat.le_of_ble_eq_true rfl) rfl (fun k hR hX => ?_)
  obtain ⟨h0, -, -, -, hK, -⟩ := h
  have hK0 := hK.1
  have hh : jw_Ro mi_Conflicts_holds 2 o [.ref (b + 969), .int x] μ hs (some (.int 0)) := by
    refine jw_ro (by decide +kernel) (Nat.le_of_ble_eq_true rfl) rfl (fun k hR hE => ?_)
    refine jw_iload_n (pc' := 1) jd_Conflicts_holds_0 rfl rfl rfl ?_
    refine jw_if_lt (tgt := 22) (pc' := 4) jd_Conflicts_holds_1 (by decide) rfl (fun c => ?_) (fun c => ?_)
    · refine jw_iconst (pc' := 23) (v := nI 0) jd_Conflicts_holds_22 (by decide +kernel) rfl ?_
      refine jw_zret hE jd_Conflicts_holds_23 rfl (by first | exact vp_nar_int _ | decide +kernel) (by omega) (by omega) ?_
      exact ⟨rfl, rfl, rfl⟩
    refine jw_iload_n (pc' := 5) jd_Conflicts_holds_4 rfl rfl rfl ?_
    refine jw_aload_n (pc' := 6) jd_Conflicts_holds_5 rfl rfl rfl ?_
    refine jw_get (pc' := 9) (kf := 2) jc_Conflicts (by decide) jq_180 jd_Conflicts_holds_6 (by assumption) rfl rfl ?_
    refine jw_icmp_ge (tgt := 22) (pc' := 12) jd_Conflicts_holds_9 (by decide) rfl (fun c2 => ?_) (fun c2 => ?_)
    · refine jw_iconst (pc' := 23) (v := nI 0) jd_Conflicts_holds_22 (by decide +kernel) rfl ?_
      refine jw_zret hE jd_Conflicts_holds_23 rfl (by first | exact vp_nar_int _ | decide +kernel) (by omega) (by omega) ?_
      exact ⟨rfl, rfl, rfl⟩
    · exact absurd (Int32.not_lt.mp c) c2
  refine jw_aload_n (pc' := 1) jd_Branchwork_requireConflict_0 rfl rfl rfl ?_
  refine jw_get (pc' := 4) (kf := 3) jc_Branchwork (by decide) jq_286 jd_Branchwork_requireConflict_1 (by assumption) rfl rfl ?_
  refine jw_iload_n (pc' := 5) jd_Branchwork_requireConflict_4 rfl rfl rfl ?_
  refine jw_callV0 (pc' := 8) hR (hh) jm_Conflicts_holds jq_911 jc_Conflicts jd_Branchwork_requireConflict_5 (by assumption) rfl rfl (Nat.le_of_ble_eq_true rfl) (by omega) (by decide) (by omega) (by omega) rfl rfl ?_
  refine jw_if_ne (tgt := 22) (pc' := 11) jd_Branchwork_requireConflict_8 (by decide) rfl (fun c => ?_) (fun c => ?_)
  · exact absurd rfl c
  refine jw_throwSW hR hX jt_IndexOutOfBoundsException js_Branchwork_363 jd_Branchwork_requireConflict_11 jd_Branchwork_requireConflict_14 jd_Branchwork_requireConflict_15 jd_Branchwork_requireConflict_18 jd_Branchwork_requireConflict_21 (Nat.le_of_ble_eq_true rfl) (by omega) (by omega) (by omega) (fun s9 hle9 => ?_)
  exact ⟨rfl, rfl⟩
theorem by_settle (h : bw_New o μ b) (x0 : Int32) : jy_F mi_Branchwork_settle o [.ref b, .int x0] μ hs b [jx_IO] 1 (.int 0) := by
  refine jw_specX (by decide +kernel) (Nat.le_of_ble_eq_true rfl) rfl (fun k hR hX => ?_)
  have h0 := h.1
  refine jw_aload_n (pc' := 1) jd_Branchwork_settle_0 rfl rfl rfl ?_
  refine jw_iload_n (pc' := 2) jd_Branchwork_settle_1 rfl rfl rfl ?_
  refine jw_callVX (pc' := 5) hR (by_requireConflict h x0) jm_Branchwork_requireConflict jq_907 jc_Branchwork jd_Branchwork_settle_2 (by assumption) rfl rfl (Nat.le_of_ble_eq_true rfl) (by omega) (by decide) (by omega) (by omega) rfl (fun E9 q9 μ s9 hΨ hle9 => jw_out hX (by omega) (by omega) ?_) (fun v μ9 s9 q9 hle => ?_)
  · obtain ⟨rfl, rfl⟩ := hΨ
    exact ⟨⟨0, rfl, rfl⟩, jw_Fr.rf⟩
  · exact q9.elim
theorem by_ofCommit (h : bw_New o μ b) (x0 x1 : Int32) : jy_F mi_Branchwork_ofCommit o [.ref b, .int x0, .int x1] μ hs b [jx_IO, jx_IA] 1 (.int 0) := by
  refine jw_specX (by decide +kernel) (Nat.le_of_ble_eq_true rfl) rfl (fun k hR hX => ?_)
  have h0 := h.1
  refine jw_aload_n (pc' := 1) jd_Branchwork_ofCommit_0 rfl rfl rfl ?_
  refine jw_iload_n (pc' := 2) jd_Branchwork_ofCommit_1 rfl rfl rfl ?_
  refine jw_callVX (pc' := 5) hR (by_requireCommit h x0) jm_Branchwork_requireCommit jq_562 jc_Branchwork jd_Branchwork_ofCommit_2 (by assumption) rfl rfl (Nat.le_of_ble_eq_true rfl) (by omega) (by decide) (by omega) (by omega) rfl (fun E9 q9 μ s9 hΨ hle9 => jw_out hX (by omega) (by omega) ?_) (fun v μ9 s9 q9 hle => ?_)
  · obtain ⟨rfl, rfl⟩ := hΨ
    exact ⟨⟨0, rfl, rfl⟩, jw_Fr.rf⟩
  · exact q9.elim
theorem by_conflict (h : bw_New o μ b) (x0 x1 : Int32) : jy_F mi_Branchwork_conflict o [.ref b, .int x0, .int x1] μ hs b [jx_IO, jx_IA] 1 (.int 0) := by
  refine jw_specX (by decide +kernel) (Nat.le_of_ble_eq_true rfl) rfl (fun k hR hX => ?_)
  have h0 := h.1
  refine jw_aload_n (pc' := 1) jd_Branchwork_conflict_0 rfl rfl rfl ?_
  refine jw_iload_n (pc' := 2) jd_Branchwork_conflict_1 rfl rfl rfl ?_
  refine jw_callVX (pc' := 5) hR (by_requireConflict h x0) jm_Branchwork_requireConflict jq_907 jc_Branchwork jd_Branchwork_conflict_2 (by assumption) rfl rfl (Nat.le_of_ble_eq_true rfl) (by omega) (by decide) (by omega) (by omega) rfl (fun E9 q9 μ s9 hΨ hle9 => jw_out hX (by omega) (by omega) ?_) (fun v μ9 s9 q9 hle => ?_)
  · obtain ⟨rfl, rfl⟩ := hΨ
    exact ⟨⟨0, rfl, rfl⟩, jw_Fr.rf⟩
  · exact q9.elim
theorem by_base (h : bw_New o μ b) (x0 x1 : Int32) : jy_F mi_Branchwork_base o [.ref b, .int x0, .int x1] μ hs b [jx_IO] 1 (.int 0) := by
  refine jw_specX (by decide +kernel) (Nat.le_of_ble_eq_true rfl) rfl (fun k hR hX => ?_)
  have h0 := h.1
  refine jw_aload_n (pc' := 1) jd_Branchwork_base_0 rfl rfl rfl ?_
  refine jw_iload_n (pc' := 2) jd_Branchwork_base_1 rfl rfl rfl ?_
  refine jw_callVX (pc' := 5) hR (by_requireCommit h x0) jm_Branchwork_requireCommit jq_562 jc_Branchwork jd_Branchwork_base_2 (by assumption) rfl rfl (Nat.le_of_ble_eq_true rfl) (by omega) (by decide) (by omega) (by omega) rfl (fun E9 q9 μ s9 hΨ hle9 => jw_out hX (by omega) (by omega) ?_) (fun v μ9 s9 q9 hle => ?_)
  · obtain ⟨rfl, rfl⟩ := hΨ
    exact ⟨⟨0, rfl, rfl⟩, jw_Fr.rf⟩
  · exact q9.elim
theorem by_went (h : bw_New o μ b) (x0 x1 x2 : Int32) : jy_F mi_Branchwork_went o [.ref b, .int x0, .int x1, .int x2] μ hs b [jx_IO] 1 (.int 0) := by
  refine jw_specX (by decide +kernel) (Nat.le_of_ble_eq_true rfl) rfl (fun k hR hX => ?_)
  have h0 := h.1
  refine jw_aload_n (pc' := 1) jd_Branchwork_went_0 rfl rfl rfl ?_
  refine jw_iload_n (pc' := 2) jd_Branchwork_went_1 rfl rfl rfl ?_
  refine jw_callVX (pc' := 5) hR (by_requireCommit h x0) jm_Branchwork_requireCommit jq_562 jc_Branchwork jd_Branchwork_went_2 (by assumption) rfl rfl (Nat.le_of_ble_eq_true rfl) (by omega) (by decide) (by omega) (by omega) rfl (fun E9 q9 μ s9 hΨ hle9 => jw_out hX (by omega) (by omega) ?_) (fun v μ9 s9 q9 hle => ?_)
  · obtain ⟨rfl, rfl⟩ := hΨ
    exact ⟨⟨0, rfl, rfl⟩, jw_Fr.rf⟩
  · exact q9.elim
theorem by_changes (h : bw_New o μ b) (x0 x1 x2 : Int32) : jy_F mi_Branchwork_changes o [.ref b, .int x0, .int x1, .int x2] μ hs b [jx_IO, jx_IA] 1 (.int 0) := by
  refine jw_specX (by decide +kernel) (Nat.le_of_ble_eq_true rfl) rfl (fun k hR hX => ?_)
  have h0 := h.1
  refine jw_aload_n (pc' := 1) jd_Branchwork_changes_0 rfl rfl rfl ?_
  refine jw_iload_n (pc' := 2) jd_Branchwork_changes_1 rfl rfl rfl ?_
  refine jw_callVX (pc' := 5) hR (by_requireCommit h x0) jm_Branchwork_requireCommit jq_562 jc_Branchwork jd_Branchwork_changes_2 (by assumption) rfl rfl (Nat.le_of_ble_eq_true rfl) (by omega) (by decide) (by omega) (by omega) rfl (fun E9 q9 μ s9 hΨ hle9 => jw_out hX (by omega) (by omega) ?_) (fun v μ9 s9 q9 hle => ?_)
  · obtain ⟨rfl, rfl⟩ := hΨ
    exact ⟨⟨0, rfl, rfl⟩, jw_Fr.rf⟩
  · exact q9.elim
theorem by_nearness (h : bw_New o μ b) (x0 x1 x2 x3 : Int32) : jy_F mi_Branchwork_nearness o [.ref b, .int x0, .int x1, .int x2, .int x3] μ hs b [jx_IO] 1 (.int 0) := by
  refine jw_specX (by decide +kernel) (Nat.le_of_ble_eq_true rfl) rfl (fun k hR hX => ?_)
  have h0 := h.1
  refine jw_aload_n (pc' := 1) jd_Branchwork_nearness_0 rfl rfl rfl ?_
  refine jw_iload_n (pc' := 2) jd_Branchwork_nearness_1 rfl rfl rfl ?_
  refine jw_callVX (pc' := 5) hR (by_requireCommit h x0) jm_Branchwork_requireCommit jq_562 jc_Branchwork jd_Branchwork_nearness_2 (by assumption) rfl rfl (Nat.le_of_ble_eq_true rfl) (by omega) (by decide) (by omega) (by omega) rfl (fun E9 q9 μ s9 hΨ hle9 => jw_out hX (by omega) (by omega) ?_) (fun v μ9 s9 q9 hle => ?_)
  · obtain ⟨rfl, rfl⟩ := hΨ
    exact ⟨⟨0, rfl, rfl⟩, jw_Fr.rf⟩
  · exact q9.elim
theorem by_origin (h : bw_New o μ b) (x0 x1 x2 : Int32) : jy_F mi_Branchwork_origin o [.ref b, .int x0, .int x1, .int x2] μ hs b [jx_IO] 1 (.int 0) := by
  refine jw_specX (by decide +kernel) (Nat.le_of_ble_eq_true rfl) rfl (fun k hR hX => ?_)
  have h0 := h.1
  refine jw_aload_n (pc' := 1) jd_Branchwork_origin_0 rfl rfl rfl ?_
  refine jw_iload_n (pc' := 2) jd_Branchwork_origin_1 rfl rfl rfl ?_
  refine jw_callVX (pc' := 5) hR (by_requireCommit h x0) jm_Branchwork_requireCommit jq_562 jc_Branchwork jd_Branchwork_origin_2 (by assumption) rfl rfl (Nat.le_of_ble_eq_true rfl) (by omega) (by decide) (by omega) (by omega) rfl (fun E9 q9 μ s9 hΨ hle9 => jw_out hX (by omega) (by omega) ?_) (fun v μ9 s9 q9 hle => ?_)
  · obtain ⟨rfl, rfl⟩ := hΨ
    exact ⟨⟨0, rfl, rfl⟩, jw_Fr.rf⟩
  · exact q9.elim
theorem by_conflictsOf (h : bw_New o μ b) (x0 x1 : Int32) : jy_F mi_Branchwork_conflictsOf o [.ref b, .int x0, .int x1] μ hs b [jx_IO] 1 (.int 0) := by
  refine jw_specX (by decide +kernel) (Nat.le_of_ble_eq_true rfl) rfl (fun k hR hX => ?_)
  have h0 := h.1
  refine jw_aload_n (pc' := 1) jd_Branchwork_conflictsOf_0 rfl rfl rfl ?_
  refine jw_iload_n (pc' := 2) jd_Branchwork_conflictsOf_1 rfl rfl rfl ?_
  refine jw_callVX (pc' := 5) hR (by_requireCommit h x0) jm_Branchwork_requireCommit jq_562 jc_Branchwork jd_Branchwork_conflictsOf_2 (by assumption) rfl rfl (Nat.le_of_ble_eq_true rfl) (by omega) (by decide) (by omega) (by omega) rfl (fun E9 q9 μ s9 hΨ hle9 => jw_out hX (by omega) (by omega) ?_) (fun v μ9 s9 q9 hle => ?_)
  · obtain ⟨rfl, rfl⟩ := hΨ
    exact ⟨⟨0, rfl, rfl⟩, jw_Fr.rf⟩
  · exact q9.elim
end
