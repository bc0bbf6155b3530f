theorem jd_Branchwork_requirePath_0 : decode mi_Branchwork_requirePath.2.1 0 = .ok (.iload_n 0, 1) := by decide +kernel
theorem jd_Branchwork_requirePath_1 : decode mi_Branchwork_requirePath.2.1 1 = .ok (.ifCond .lt 9, 3) := by decide +kernel
theorem jd_Branchwork_requirePath_4 : decode mi_Branchwork_requirePath.2.1 4 = .ok (.iload_n 0, 1) := by decide +kernel
theorem jd_Branchwork_requirePath_5 : decode mi_Branchwork_requirePath.2.1 5 = .ok (.bipush 12, 2) := by decide +kernel
theorem jd_Branchwork_requirePath_7 : decode mi_Branchwork_requirePath.2.1 7 = .ok (.if_icmp .lt 14, 3) := by decide +kernel
theorem jd_Branchwork_requirePath_10 : decode mi_Branchwork_requirePath.2.1 10 = .ok (.new 85, 3) := by decide +kernel
theorem jd_Branchwork_requirePath_13 : decode mi_Branchwork_requirePath.2.1 13 = .ok (.dup, 1) := by decide +kernel
theorem jd_Branchwork_requirePath_14 : decode mi_Branchwork_requirePath.2.1 14 = .ok (.ldc_w 353, 3) := by decide +kernel
theorem jd_Branchwork_requirePath_17 : decode mi_Branchwork_requirePath.2.1 17 = .ok (.invokespecial 89, 3) := by decide +kernel
theorem jd_Branchwork_requirePath_20 : decode mi_Branchwork_requirePath.2.1 20 = .ok (.athrow, 1) := by decide +kernel
theorem jd_Branchwork_requirePath_21 : decode mi_Branchwork_requirePath.2.1 21 = .ok (.return_, 1) := by decide +kernel
theorem jd_Branchwork_put_0 : decode mi_Branchwork_put.2.1 0 = .ok (.iload_n 1, 1) := by decide +kernel
theorem jd_Branchwork_put_1 : decode mi_Branchwork_put.2.1 1 = .ok (.invokestatic 71, 3) := by decide +kernel
theorem jd_Branchwork_put_4 : decode mi_Branchwork_put.2.1 4 = .ok (.aload_n 0, 1) := by decide +kernel
theorem jd_Branchwork_put_5 : decode mi_Branchwork_put.2.1 5 = .ok (.getfield 12, 3) := by decide +kernel
theorem jd_Branchwork_put_8 : decode mi_Branchwork_put.2.1 8 = .ok (.iload_n 1, 1) := by decide +kernel
theorem jd_Branchwork_put_9 : decode mi_Branchwork_put.2.1 9 = .ok (.invokevirtual 75, 3) := by decide +kernel
theorem jd_Branchwork_put_12 : decode mi_Branchwork_put.2.1 12 = .ok (.astore 4, 2) := by decide +kernel
theorem jd_Branchwork_put_14 : decode mi_Branchwork_put.2.1 14 = .ok (.iload_n 2, 1) := by decide +kernel
theorem jd_Branchwork_put_15 : decode mi_Branchwork_put.2.1 15 = .ok (.ifCond .lt 12, 3) := by decide +kernel
theorem jd_Branchwork_put_18 : decode mi_Branchwork_put.2.1 18 = .ok (.iload_n 2, 1) := by decide +kernel
theorem jd_Branchwork_put_19 : decode mi_Branchwork_put.2.1 19 = .ok (.aload 4, 2) := by decide +kernel
theorem jd_Branchwork_put_21 : decode mi_Branchwork_put.2.1 21 = .ok (.invokevirtual 79, 3) := by decide +kernel
theorem jd_Branchwork_put_24 : decode mi_Branchwork_put.2.1 24 = .ok (.if_icmp .le 13, 3) := by decide +kernel
theorem jd_Branchwork_put_27 : decode mi_Branchwork_put.2.1 27 = .ok (.new 85, 3) := by decide +kernel
theorem jd_Branchwork_put_30 : decode mi_Branchwork_put.2.1 30 = .ok (.dup, 1) := by decide +kernel
theorem jd_Branchwork_put_31 : decode mi_Branchwork_put.2.1 31 = .ok (.ldc 87, 2) := by decide +kernel
theorem jd_Branchwork_put_33 : decode mi_Branchwork_put.2.1 33 = .ok (.invokespecial 89, 3) := by decide +kernel
theorem jd_Branchwork_put_36 : decode mi_Branchwork_put.2.1 36 = .ok (.athrow, 1) := by decide +kernel
theorem jd_Branchwork_put_37 : decode mi_Branchwork_put.2.1 37 = .ok (.iload_n 3, 1) := by decide +kernel
theorem jd_Branchwork_put_38 : decode mi_Branchwork_put.2.1 38 = .ok (.ifCond .lt 9, 3) := by decide +kernel
theorem jd_Branchwork_put_41 : decode mi_Branchwork_put.2.1 41 = .ok (.iload_n 3, 1) := by decide +kernel
theorem jd_Branchwork_put_42 : decode mi_Branchwork_put.2.1 42 = .ok (.bipush 99, 2) := by decide +kernel
theorem jd_Branchwork_put_44 : decode mi_Branchwork_put.2.1 44 = .ok (.if_icmp .le 13, 3) := by decide +kernel
theorem jd_Branchwork_put_47 : decode mi_Branchwork_put.2.1 47 = .ok (.new 92, 3) := by decide +kernel
theorem jd_Branchwork_put_50 : decode mi_Branchwork_put.2.1 50 = .ok (.dup, 1) := by decide +kernel
theorem jd_Branchwork_put_51 : decode mi_Branchwork_put.2.1 51 = .ok (.ldc 94, 2) := by decide +kernel
theorem jd_Branchwork_put_53 : decode mi_Branchwork_put.2.1 53 = .ok (.invokespecial 96, 3) := by decide +kernel
theorem jd_Branchwork_put_56 : decode mi_Branchwork_put.2.1 56 = .ok (.athrow, 1) := by decide +kernel
theorem jd_Branchwork_put_57 : decode mi_Branchwork_put.2.1 57 = .ok (.aload 4, 2) := by decide +kernel
theorem jd_Branchwork_put_59 : decode mi_Branchwork_put.2.1 59 = .ok (.invokevirtual 97, 3) := by decide +kernel
theorem jd_Branchwork_put_62 : decode mi_Branchwork_put.2.1 62 = .ok (.ifCond .eq 13, 3) := by decide +kernel
theorem jd_Branchwork_put_65 : decode mi_Branchwork_put.2.1 65 = .ok (.new 101, 3) := by decide +kernel
theorem jd_Branchwork_put_68 : decode mi_Branchwork_put.2.1 68 = .ok (.dup, 1) := by decide +kernel
theorem jd_Branchwork_put_69 : decode mi_Branchwork_put.2.1 69 = .ok (.ldc 103, 2) := by decide +kernel
theorem jd_Branchwork_put_71 : decode mi_Branchwork_put.2.1 71 = .ok (.invokespecial 105, 3) := by decide +kernel
theorem jd_Branchwork_put_74 : decode mi_Branchwork_put.2.1 74 = .ok (.athrow, 1) := by decide +kernel
theorem jd_Branchwork_put_75 : decode mi_Branchwork_put.2.1 75 = .ok (.aload 4, 2) := by decide +kernel
theorem jd_Branchwork_put_77 : decode mi_Branchwork_put.2.1 77 = .ok (.iload_n 2, 1) := by decide +kernel
theorem jd_Branchwork_put_78 : decode mi_Branchwork_put.2.1 78 = .ok (.iload_n 3, 1) := by decide +kernel
theorem jd_Branchwork_put_79 : decode mi_Branchwork_put.2.1 79 = .ok (.invokevirtual 106, 3) := by decide +kernel
theorem jd_Branchwork_put_82 : decode mi_Branchwork_put.2.1 82 = .ok (.aload 4, 2) := by decide +kernel
theorem jd_Branchwork_put_84 : decode mi_Branchwork_put.2.1 84 = .ok (.invokevirtual 79, 3) := by decide +kernel
theorem jd_Branchwork_put_87 : decode mi_Branchwork_put.2.1 87 = .ok (.ireturn, 1) := by decide +kernel
theorem jd_Branchwork_requireFile_0 : decode mi_Branchwork_requireFile.2.1 0 = .ok (.aload_n 0, 1) := by decide +kernel
theorem jd_Branchwork_requireFile_1 : decode mi_Branchwork_requireFile.2.1 1 = .ok (.iload_n 1, 1) := by decide +kernel
theorem jd_Branchwork_requireFile_2 : decode mi_Branchwork_requireFile.2.1 2 = .ok (.invokevirtual 121, 3) := by decide +kernel
theorem jd_Branchwork_requireFile_5 : decode mi_Branchwork_requireFile.2.1 5 = .ok (.ifCond .ne 14, 3) := by decide +kernel
theorem jd_Branchwork_requireFile_8 : decode mi_Branchwork_requireFile.2.1 8 = .ok (.new 85, 3) := by decide +kernel
theorem jd_Branchwork_requireFile_11 : decode mi_Branchwork_requireFile.2.1 11 = .ok (.dup, 1) := by decide +kernel
theorem jd_Branchwork_requireFile_12 : decode mi_Branchwork_requireFile.2.1 12 = .ok (.ldc_w 355, 3) := by decide +kernel
theorem jd_Branchwork_requireFile_15 : decode mi_Branchwork_requireFile.2.1 15 = .ok (.invokespecial 89, 3) := by decide +kernel
theorem jd_Branchwork_requireFile_18 : decode mi_Branchwork_requireFile.2.1 18 = .ok (.athrow, 1) := by decide +kernel
theorem jd_Branchwork_requireFile_19 : decode mi_Branchwork_requireFile.2.1 19 = .ok (.return_, 1) := by decide +kernel
theorem jd_Branchwork_cut_0 : decode mi_Branchwork_cut.2.1 0 = .ok (.aload_n 0, 1) := by decide +kernel
theorem jd_Branchwork_cut_1 : decode mi_Branchwork_cut.2.1 1 = .ok (.getfield 12, 3) := by decide +kernel
theorem jd_Branchwork_cut_4 : decode mi_Branchwork_cut.2.1 4 = .ok (.iload_n 1, 1) := by decide +kernel
theorem jd_Branchwork_cut_5 : decode mi_Branchwork_cut.2.1 5 = .ok (.invokestatic 110, 3) := by decide +kernel
theorem jd_Branchwork_cut_8 : decode mi_Branchwork_cut.2.1 8 = .ok (.aload_n 0, 1) := by decide +kernel
theorem jd_Branchwork_cut_9 : decode mi_Branchwork_cut.2.1 9 = .ok (.getfield 12, 3) := by decide +kernel
theorem jd_Branchwork_cut_12 : decode mi_Branchwork_cut.2.1 12 = .ok (.iload_n 1, 1) := by decide +kernel
theorem jd_Branchwork_cut_13 : decode mi_Branchwork_cut.2.1 13 = .ok (.invokevirtual 75, 3) := by decide +kernel
theorem jd_Branchwork_cut_16 : decode mi_Branchwork_cut.2.1 16 = .ok (.astore_n 3, 1) := by decide +kernel
theorem jd_Branchwork_cut_17 : decode mi_Branchwork_cut.2.1 17 = .ok (.aload_n 3, 1) := by decide +kernel
theorem jd_Branchwork_cut_18 : decode mi_Branchwork_cut.2.1 18 = .ok (.iload_n 2, 1) := by decide +kernel
theorem jd_Branchwork_cut_19 : decode mi_Branchwork_cut.2.1 19 = .ok (.invokestatic 114, 3) := by decide +kernel
theorem jd_Branchwork_cut_22 : decode mi_Branchwork_cut.2.1 22 = .ok (.aload_n 3, 1) := by decide +kernel
theorem jd_Branchwork_cut_23 : decode mi_Branchwork_cut.2.1 23 = .ok (.iload_n 2, 1) := by decide +kernel
theorem jd_Branchwork_cut_24 : decode mi_Branchwork_cut.2.1 24 = .ok (.invokevirtual 118, 3) := by decide +kernel
theorem jd_Branchwork_cut_27 : decode mi_Branchwork_cut.2.1 27 = .ok (.aload_n 3, 1) := by decide +kernel
theorem jd_Branchwork_cut_28 : decode mi_Branchwork_cut.2.1 28 = .ok (.invokevirtual 79, 3) := by decide +kernel
theorem jd_Branchwork_cut_31 : decode mi_Branchwork_cut.2.1 31 = .ok (.ireturn, 1) := by decide +kernel
theorem jd_Branchwork_rename_0 : decode mi_Branchwork_rename.2.1 0 = .ok (.aload_n 0, 1) := by decide +kernel
theorem jd_Branchwork_rename_1 : decode mi_Branchwork_rename.2.1 1 = .ok (.getfield 12, 3) := by decide +kernel
theorem jd_Branchwork_rename_4 : decode mi_Branchwork_rename.2.1 4 = .ok (.iload_n 1, 1) := by decide +kernel
theorem jd_Branchwork_rename_5 : decode mi_Branchwork_rename.2.1 5 = .ok (.invokestatic 110, 3) := by decide +kernel
theorem jd_Branchwork_rename_8 : decode mi_Branchwork_rename.2.1 8 = .ok (.iload_n 2, 1) := by decide +kernel
theorem jd_Branchwork_rename_9 : decode mi_Branchwork_rename.2.1 9 = .ok (.invokestatic 71, 3) := by decide +kernel
theorem jd_Branchwork_rename_12 : decode mi_Branchwork_rename.2.1 12 = .ok (.aload_n 0, 1) := by decide +kernel
theorem jd_Branchwork_rename_13 : decode mi_Branchwork_rename.2.1 13 = .ok (.getfield 12, 3) := by decide +kernel
theorem jd_Branchwork_rename_16 : decode mi_Branchwork_rename.2.1 16 = .ok (.iload_n 2, 1) := by decide +kernel
theorem jd_Branchwork_rename_17 : decode mi_Branchwork_rename.2.1 17 = .ok (.invokevirtual 121, 3) := by decide +kernel
theorem jd_Branchwork_rename_20 : decode mi_Branchwork_rename.2.1 20 = .ok (.ifCond .eq 13, 3) := by decide +kernel
theorem jd_Branchwork_rename_23 : decode mi_Branchwork_rename.2.1 23 = .ok (.new 101, 3) := by decide +kernel
theorem jd_Branchwork_rename_26 : decode mi_Branchwork_rename.2.1 26 = .ok (.dup, 1) := by decide +kernel
theorem jd_Branchwork_rename_27 : decode mi_Branchwork_rename.2.1 27 = .ok (.ldc 125, 2) := by decide +kernel
theorem jd_Branchwork_rename_29 : decode mi_Branchwork_rename.2.1 29 = .ok (.invokespecial 105, 3) := by decide +kernel
theorem jd_Branchwork_rename_32 : decode mi_Branchwork_rename.2.1 32 = .ok (.athrow, 1) := by decide +kernel
theorem jd_Branchwork_rename_33 : decode mi_Branchwork_rename.2.1 33 = .ok (.aload_n 0, 1) := by decide +kernel
theorem jd_Branchwork_rename_34 : decode mi_Branchwork_rename.2.1 34 = .ok (.getfield 12, 3) := by decide +kernel
theorem jd_Branchwork_rename_37 : decode mi_Branchwork_rename.2.1 37 = .ok (.iload_n 1, 1) := by decide +kernel
theorem jd_Branchwork_rename_38 : decode mi_Branchwork_rename.2.1 38 = .ok (.invokevirtual 75, 3) := by decide +kernel
theorem jd_Branchwork_rename_41 : decode mi_Branchwork_rename.2.1 41 = .ok (.astore_n 3, 1) := by decide +kernel
theorem jd_Branchwork_rename_42 : decode mi_Branchwork_rename.2.1 42 = .ok (.aload_n 0, 1) := by decide +kernel
theorem jd_Branchwork_rename_43 : decode mi_Branchwork_rename.2.1 43 = .ok (.getfield 12, 3) := by decide +kernel
theorem jd_Branchwork_rename_46 : decode mi_Branchwork_rename.2.1 46 = .ok (.iload_n 2, 1) := by decide +kernel
theorem jd_Branchwork_rename_47 : decode mi_Branchwork_rename.2.1 47 = .ok (.invokevirtual 75, 3) := by decide +kernel
theorem jd_Branchwork_rename_50 : decode mi_Branchwork_rename.2.1 50 = .ok (.aload_n 3, 1) := by decide +kernel
theorem jd_Branchwork_rename_51 : decode mi_Branchwork_rename.2.1 51 = .ok (.invokevirtual 127, 3) := by decide +kernel
theorem jd_Branchwork_rename_54 : decode mi_Branchwork_rename.2.1 54 = .ok (.aload_n 3, 1) := by decide +kernel
theorem jd_Branchwork_rename_55 : decode mi_Branchwork_rename.2.1 55 = .ok (.invokevirtual 131, 3) := by decide +kernel
theorem jd_Branchwork_rename_58 : decode mi_Branchwork_rename.2.1 58 = .ok (.aload_n 0, 1) := by decide +kernel
theorem jd_Branchwork_rename_59 : decode mi_Branchwork_rename.2.1 59 = .ok (.getfield 12, 3) := by decide +kernel
theorem jd_Branchwork_rename_62 : decode mi_Branchwork_rename.2.1 62 = .ok (.iload_n 2, 1) := by decide +kernel
theorem jd_Branchwork_rename_63 : decode mi_Branchwork_rename.2.1 63 = .ok (.invokevirtual 75, 3) := by decide +kernel
theorem jd_Branchwork_rename_66 : decode mi_Branchwork_rename.2.1 66 = .ok (.invokevirtual 79, 3) := by decide +kernel
theorem jd_Branchwork_rename_69 : decode mi_Branchwork_rename.2.1 69 = .ok (.ireturn, 1) := by decide +kernel
theorem jd_Branchwork_remove_0 : decode mi_Branchwork_remove.2.1 0 = .ok (.aload_n 0, 1) := by decide +kernel
theorem jd_Branchwork_remove_1 : decode mi_Branchwork_remove.2.1 1 = .ok (.getfield 12, 3) := by decide +kernel
theorem jd_Branchwork_remove_4 : decode mi_Branchwork_remove.2.1 4 = .ok (.iload_n 1, 1) := by decide +kernel
theorem jd_Branchwork_remove_5 : decode mi_Branchwork_remove.2.1 5 = .ok (.invokestatic 110, 3) := by decide +kernel
theorem jd_Branchwork_remove_8 : decode mi_Branchwork_remove.2.1 8 = .ok (.aload_n 0, 1) := by decide +kernel
theorem jd_Branchwork_remove_9 : decode mi_Branchwork_remove.2.1 9 = .ok (.getfield 12, 3) := by decide +kernel
theorem jd_Branchwork_remove_12 : decode mi_Branchwork_remove.2.1 12 = .ok (.iload_n 1, 1) := by decide +kernel
theorem jd_Branchwork_remove_13 : decode mi_Branchwork_remove.2.1 13 = .ok (.invokevirtual 75, 3) := by decide +kernel
theorem jd_Branchwork_remove_16 : decode mi_Branchwork_remove.2.1 16 = .ok (.invokevirtual 131, 3) := by decide +kernel
theorem jd_Branchwork_remove_19 : decode mi_Branchwork_remove.2.1 19 = .ok (.aload_n 0, 1) := by decide +kernel
theorem jd_Branchwork_remove_20 : decode mi_Branchwork_remove.2.1 20 = .ok (.getfield 12, 3) := by decide +kernel
theorem jd_Branchwork_remove_23 : decode mi_Branchwork_remove.2.1 23 = .ok (.invokevirtual 134, 3) := by decide +kernel
theorem jd_Branchwork_remove_26 : decode mi_Branchwork_remove.2.1 26 = .ok (.ireturn, 1) := by decide +kernel
theorem jd_Branchwork_status_0 : decode mi_Branchwork_status.2.1 0 = .ok (.iload_n 1, 1) := by decide +kernel
theorem jd_Branchwork_status_1 : decode mi_Branchwork_status.2.1 1 = .ok (.invokestatic 71, 3) := by decide +kernel
theorem jd_Branchwork_status_4 : decode mi_Branchwork_status.2.1 4 = .ok (.aload_n 0, 1) := by decide +kernel
theorem jd_Branchwork_status_5 : decode mi_Branchwork_status.2.1 5 = .ok (.getfield 19, 3) := by decide +kernel
theorem jd_Branchwork_status_8 : decode mi_Branchwork_status.2.1 8 = .ok (.aload_n 0, 1) := by decide +kernel
theorem jd_Branchwork_status_9 : decode mi_Branchwork_status.2.1 9 = .ok (.invokevirtual 137, 3) := by decide +kernel
theorem jd_Branchwork_status_12 : decode mi_Branchwork_status.2.1 12 = .ok (.invokevirtual 140, 3) := by decide +kernel
theorem jd_Branchwork_status_15 : decode mi_Branchwork_status.2.1 15 = .ok (.astore_n 2, 1) := by decide +kernel
theorem jd_Branchwork_status_16 : decode mi_Branchwork_status.2.1 16 = .ok (.aload_n 0, 1) := by decide +kernel
theorem jd_Branchwork_status_17 : decode mi_Branchwork_status.2.1 17 = .ok (.getfield 12, 3) := by decide +kernel
theorem jd_Branchwork_status_20 : decode mi_Branchwork_status.2.1 20 = .ok (.iload_n 1, 1) := by decide +kernel
theorem jd_Branchwork_status_21 : decode mi_Branchwork_status.2.1 21 = .ok (.invokevirtual 75, 3) := by decide +kernel
theorem jd_Branchwork_status_24 : decode mi_Branchwork_status.2.1 24 = .ok (.aload_n 2, 1) := by decide +kernel
theorem jd_Branchwork_status_25 : decode mi_Branchwork_status.2.1 25 = .ok (.iload_n 1, 1) := by decide +kernel
theorem jd_Branchwork_status_26 : decode mi_Branchwork_status.2.1 26 = .ok (.invokevirtual 75, 3) := by decide +kernel
theorem jd_Branchwork_status_29 : decode mi_Branchwork_status.2.1 29 = .ok (.invokevirtual 144, 3) := by decide +kernel
theorem jd_Branchwork_status_32 : decode mi_Branchwork_status.2.1 32 = .ok (.ifCond .eq 5, 3) := by decide +kernel
theorem jd_Branchwork_status_35 : decode mi_Branchwork_status.2.1 35 = .ok (.iconst 0, 1) := by decide +kernel
theorem jd_Branchwork_status_36 : decode mi_Branchwork_status.2.1 36 = .ok (.ireturn, 1) := by decide +kernel
theorem jd_Branchwork_status_37 : decode mi_Branchwork_status.2.1 37 = .ok (.aload_n 2, 1) := by decide +kernel
theorem jd_Branchwork_status_38 : decode mi_Branchwork_status.2.1 38 = .ok (.iload_n 1, 1) := by decide +kernel
theorem jd_Branchwork_status_39 : decode mi_Branchwork_status.2.1 39 = .ok (.invokevirtual 121, 3) := by decide +kernel
theorem jd_Branchwork_status_42 : decode mi_Branchwork_status.2.1 42 = .ok (.ifCond .ne 5, 3) := by decide +kernel
theorem jd_Branchwork_status_45 : decode mi_Branchwork_status.2.1 45 = .ok (.iconst 1, 1) := by decide +kernel
theorem jd_Branchwork_status_46 : decode mi_Branchwork_status.2.1 46 = .ok (.ireturn, 1) := by decide +kernel
theorem jd_Branchwork_status_47 : decode mi_Branchwork_status.2.1 47 = .ok (.aload_n 0, 1) := by decide +kernel
theorem jd_Branchwork_status_48 : decode mi_Branchwork_status.2.1 48 = .ok (.getfield 12, 3) := by decide +kernel
theorem jd_Branchwork_status_51 : decode mi_Branchwork_status.2.1 51 = .ok (.iload_n 1, 1) := by decide +kernel
theorem jd_Branchwork_status_52 : decode mi_Branchwork_status.2.1 52 = .ok (.invokevirtual 121, 3) := by decide +kernel
theorem jd_Branchwork_status_55 : decode mi_Branchwork_status.2.1 55 = .ok (.ifCond .eq 7, 3) := by decide +kernel
theorem jd_Branchwork_status_58 : decode mi_Branchwork_status.2.1 58 = .ok (.iconst 2, 1) := by decide +kernel
theorem jd_Branchwork_status_59 : decode mi_Branchwork_status.2.1 59 = .ok (.goto 4, 3) := by decide +kernel
theorem jd_Branchwork_status_62 : decode mi_Branchwork_status.2.1 62 = .ok (.iconst 3, 1) := by decide +kernel
theorem jd_Branchwork_status_63 : decode mi_Branchwork_status.2.1 63 = .ok (.ireturn, 1) := by decide +kernel
theorem jd_Branchwork_commit_0 : decode mi_Branchwork_commit.2.1 0 = .ok (.iload_n 1, 1) := by decide +kernel
theorem jd_Branchwork_commit_1 : decode mi_Branchwork_commit.2.1 1 = .ok (.ifCond .lt 10, 3) := by decide +kernel
theorem jd_Branchwork_commit_4 : decode mi_Branchwork_commit.2.1 4 = .ok (.iload_n 1, 1) := by decide +kernel
theorem jd_Branchwork_commit_5 : decode mi_Branchwork_commit.2.1 5 = .ok (.sipush 999, 3) := by decide +kernel
theorem jd_Branchwork_commit_8 : decode mi_Branchwork_commit.2.1 8 = .ok (.if_icmp .le 13, 3) := by decide +kernel
theorem jd_Branchwork_commit_11 : decode mi_Branchwork_commit.2.1 11 = .ok (.new 92, 3) := by decide +kernel
theorem jd_Branchwork_commit_14 : decode mi_Branchwork_commit.2.1 14 = .ok (.dup, 1) := by decide +kernel
theorem jd_Branchwork_commit_15 : decode mi_Branchwork_commit.2.1 15 = .ok (.ldc 148, 2) := by decide +kernel
theorem jd_Branchwork_commit_17 : decode mi_Branchwork_commit.2.1 17 = .ok (.invokespecial 96, 3) := by decide +kernel
theorem jd_Branchwork_commit_20 : decode mi_Branchwork_commit.2.1 20 = .ok (.athrow, 1) := by decide +kernel
theorem jd_Branchwork_commit_21 : decode mi_Branchwork_commit.2.1 21 = .ok (.aload_n 0, 1) := by decide +kernel
theorem jd_Branchwork_commit_22 : decode mi_Branchwork_commit.2.1 22 = .ok (.getfield 19, 3) := by decide +kernel
theorem jd_Branchwork_commit_25 : decode mi_Branchwork_commit.2.1 25 = .ok (.invokevirtual 150, 3) := by decide +kernel
theorem jd_Branchwork_commit_28 : decode mi_Branchwork_commit.2.1 28 = .ok (.ifCond .eq 13, 3) := by decide +kernel
theorem jd_Branchwork_commit_31 : decode mi_Branchwork_commit.2.1 31 = .ok (.new 101, 3) := by decide +kernel
theorem jd_Branchwork_commit_34 : decode mi_Branchwork_commit.2.1 34 = .ok (.dup, 1) := by decide +kernel
theorem jd_Branchwork_commit_35 : decode mi_Branchwork_commit.2.1 35 = .ok (.ldc 151, 2) := by decide +kernel
theorem jd_Branchwork_commit_37 : decode mi_Branchwork_commit.2.1 37 = .ok (.invokespecial 105, 3) := by decide +kernel
theorem jd_Branchwork_commit_40 : decode mi_Branchwork_commit.2.1 40 = .ok (.athrow, 1) := by decide +kernel
theorem jd_Branchwork_commit_41 : decode mi_Branchwork_commit.2.1 41 = .ok (.aload_n 0, 1) := by decide +kernel
theorem jd_Branchwork_commit_42 : decode mi_Branchwork_commit.2.1 42 = .ok (.getfield 33, 3) := by decide +kernel
theorem jd_Branchwork_commit_45 : decode mi_Branchwork_commit.2.1 45 = .ok (.invokevirtual 153, 3) := by decide +kernel
theorem jd_Branchwork_commit_48 : decode mi_Branchwork_commit.2.1 48 = .ok (.ifCond .le 13, 3) := by decide +kernel
theorem jd_Branchwork_commit_51 : decode mi_Branchwork_commit.2.1 51 = .ok (.new 101, 3) := by decide +kernel
theorem jd_Branchwork_commit_54 : decode mi_Branchwork_commit.2.1 54 = .ok (.dup, 1) := by decide +kernel
theorem jd_Branchwork_commit_55 : decode mi_Branchwork_commit.2.1 55 = .ok (.ldc 156, 2) := by decide +kernel
theorem jd_Branchwork_commit_57 : decode mi_Branchwork_commit.2.1 57 = .ok (.invokespecial 105, 3) := by decide +kernel
theorem jd_Branchwork_commit_60 : decode mi_Branchwork_commit.2.1 60 = .ok (.athrow, 1) := by decide +kernel
theorem jd_Branchwork_commit_61 : decode mi_Branchwork_commit.2.1 61 = .ok (.aload_n 0, 1) := by decide +kernel
theorem jd_Branchwork_commit_62 : decode mi_Branchwork_commit.2.1 62 = .ok (.getfield 62, 3) := by decide +kernel
theorem jd_Branchwork_commit_65 : decode mi_Branchwork_commit.2.1 65 = .ok (.iconst (-1), 1) := by decide +kernel
theorem jd_Branchwork_commit_66 : decode mi_Branchwork_commit.2.1 66 = .ok (.if_icmp .ne 20, 3) := by decide +kernel
theorem jd_Branchwork_commit_69 : decode mi_Branchwork_commit.2.1 69 = .ok (.aload_n 0, 1) := by decide +kernel
theorem jd_Branchwork_commit_70 : decode mi_Branchwork_commit.2.1 70 = .ok (.invokevirtual 158, 3) := by decide +kernel
theorem jd_Branchwork_commit_73 : decode mi_Branchwork_commit.2.1 73 = .ok (.ifCond .eq 13, 3) := by decide +kernel
theorem jd_Branchwork_commit_76 : decode mi_Branchwork_commit.2.1 76 = .ok (.new 101, 3) := by decide +kernel
theorem jd_Branchwork_commit_79 : decode mi_Branchwork_commit.2.1 79 = .ok (.dup, 1) := by decide +kernel
theorem jd_Branchwork_commit_80 : decode mi_Branchwork_commit.2.1 80 = .ok (.ldc 161, 2) := by decide +kernel
theorem jd_Branchwork_commit_82 : decode mi_Branchwork_commit.2.1 82 = .ok (.invokespecial 105, 3) := by decide +kernel
theorem jd_Branchwork_commit_85 : decode mi_Branchwork_commit.2.1 85 = .ok (.athrow, 1) := by decide +kernel
theorem jd_Branchwork_commit_86 : decode mi_Branchwork_commit.2.1 86 = .ok (.aload_n 0, 1) := by decide +kernel
theorem jd_Branchwork_commit_87 : decode mi_Branchwork_commit.2.1 87 = .ok (.getfield 19, 3) := by decide +kernel
theorem jd_Branchwork_commit_90 : decode mi_Branchwork_commit.2.1 90 = .ok (.aload_n 0, 1) := by decide +kernel
theorem jd_Branchwork_commit_91 : decode mi_Branchwork_commit.2.1 91 = .ok (.getfield 12, 3) := by decide +kernel
theorem jd_Branchwork_commit_94 : decode mi_Branchwork_commit.2.1 94 = .ok (.iload_n 1, 1) := by decide +kernel
theorem jd_Branchwork_commit_95 : decode mi_Branchwork_commit.2.1 95 = .ok (.aload_n 0, 1) := by decide +kernel
theorem jd_Branchwork_commit_96 : decode mi_Branchwork_commit.2.1 96 = .ok (.invokevirtual 137, 3) := by decide +kernel
theorem jd_Branchwork_commit_99 : decode mi_Branchwork_commit.2.1 99 = .ok (.aload_n 0, 1) := by decide +kernel
theorem jd_Branchwork_commit_100 : decode mi_Branchwork_commit.2.1 100 = .ok (.getfield 62, 3) := by decide +kernel
theorem jd_Branchwork_commit_103 : decode mi_Branchwork_commit.2.1 103 = .ok (.invokevirtual 163, 3) := by decide +kernel
theorem jd_Branchwork_commit_106 : decode mi_Branchwork_commit.2.1 106 = .ok (.istore_n 2, 1) := by decide +kernel
theorem jd_Branchwork_commit_107 : decode mi_Branchwork_commit.2.1 107 = .ok (.aload_n 0, 1) := by decide +kernel
theorem jd_Branchwork_commit_108 : decode mi_Branchwork_commit.2.1 108 = .ok (.getfield 51, 3) := by decide +kernel
theorem jd_Branchwork_commit_111 : decode mi_Branchwork_commit.2.1 111 = .ok (.aload_n 0, 1) := by decide +kernel
theorem jd_Branchwork_commit_112 : decode mi_Branchwork_commit.2.1 112 = .ok (.getfield 59, 3) := by decide +kernel
theorem jd_Branchwork_commit_115 : decode mi_Branchwork_commit.2.1 115 = .ok (.iload_n 2, 1) := by decide +kernel
theorem jd_Branchwork_commit_116 : decode mi_Branchwork_commit.2.1 116 = .ok (.iastore, 1) := by decide +kernel
theorem jd_Branchwork_commit_117 : decode mi_Branchwork_commit.2.1 117 = .ok (.aload_n 0, 1) := by decide +kernel
theorem jd_Branchwork_commit_118 : decode mi_Branchwork_commit.2.1 118 = .ok (.iconst (-1), 1) := by decide +kernel
theorem jd_Branchwork_commit_119 : decode mi_Branchwork_commit.2.1 119 = .ok (.putfield 62, 3) := by decide +kernel
theorem jd_Branchwork_commit_122 : decode mi_Branchwork_commit.2.1 122 = .ok (.iload_n 2, 1) := by decide +kernel
theorem jd_Branchwork_commit_123 : decode mi_Branchwork_commit.2.1 123 = .ok (.ireturn, 1) := by decide +kernel
theorem jd_Branchwork_isClean_0 : decode mi_Branchwork_isClean.2.1 0 = .ok (.aload_n 0, 1) := by decide +kernel
theorem jd_Branchwork_isClean_1 : decode mi_Branchwork_isClean.2.1 1 = .ok (.getfield 12, 3) := by decide +kernel
theorem jd_Branchwork_isClean_4 : decode mi_Branchwork_isClean.2.1 4 = .ok (.aload_n 0, 1) := by decide +kernel
theorem jd_Branchwork_isClean_5 : decode mi_Branchwork_isClean.2.1 5 = .ok (.getfield 19, 3) := by decide +kernel
theorem jd_Branchwork_isClean_8 : decode mi_Branchwork_isClean.2.1 8 = .ok (.aload_n 0, 1) := by decide +kernel
theorem jd_Branchwork_isClean_9 : decode mi_Branchwork_isClean.2.1 9 = .ok (.invokevirtual 137, 3) := by decide +kernel
theorem jd_Branchwork_isClean_12 : decode mi_Branchwork_isClean.2.1 12 = .ok (.invokevirtual 140, 3) := by decide +kernel
theorem jd_Branchwork_isClean_15 : decode mi_Branchwork_isClean.2.1 15 = .ok (.invokevirtual 334, 3) := by decide +kernel
theorem jd_Branchwork_isClean_18 : decode mi_Branchwork_isClean.2.1 18 = .ok (.ireturn, 1) := by decide +kernel
theorem jd_History_treeOf_0 : decode mi_History_treeOf.2.1 0 = .ok (.iload_n 1, 1) := by decide +kernel
theorem jd_History_treeOf_1 : decode mi_History_treeOf.2.1 1 = .ok (.ifCond .lt 18, 3) := by decide +kernel
theorem jd_History_treeOf_4 : decode mi_History_treeOf.2.1 4 = .ok (.iload_n 1, 1) := by decide +kernel
theorem jd_History_treeOf_5 : decode mi_History_treeOf.2.1 5 = .ok (.bipush 30, 2) := by decide +kernel
theorem jd_History_treeOf_7 : decode mi_History_treeOf.2.1 7 = .ok (.if_icmp .ge 12, 3) := by decide +kernel
theorem jd_History_treeOf_10 : decode mi_History_treeOf.2.1 10 = .ok (.aload_n 0, 1) := by decide +kernel
theorem jd_History_treeOf_11 : decode mi_History_treeOf.2.1 11 = .ok (.getfield 11, 3) := by decide +kernel
theorem jd_History_treeOf_14 : decode mi_History_treeOf.2.1 14 = .ok (.iload_n 1, 1) := by decide +kernel
theorem jd_History_treeOf_15 : decode mi_History_treeOf.2.1 15 = .ok (.aaload, 1) := by decide +kernel
theorem jd_History_treeOf_16 : decode mi_History_treeOf.2.1 16 = .ok (.goto 7, 3) := by decide +kernel
theorem jd_History_treeOf_19 : decode mi_History_treeOf.2.1 19 = .ok (.aload_n 0, 1) := by decide +kernel
theorem jd_History_treeOf_20 : decode mi_History_treeOf.2.1 20 = .ok (.getfield 18, 3) := by decide +kernel
theorem jd_History_treeOf_23 : decode mi_History_treeOf.2.1 23 = .ok (.areturn, 1) := by decide +kernel
theorem jd_Branchwork_head_0 : decode mi_Branchwork_head.2.1 0 = .ok (.aload_n 0, 1) := by decide +kernel
theorem jd_Branchwork_head_1 : decode mi_Branchwork_head.2.1 1 = .ok (.getfield 51, 3) := by decide +kernel
theorem jd_Branchwork_head_4 : decode mi_Branchwork_head.2.1 4 = .ok (.aload_n 0, 1) := by decide +kernel
theorem jd_Branchwork_head_5 : decode mi_Branchwork_head.2.1 5 = .ok (.getfield 59, 3) := by decide +kernel
theorem jd_Branchwork_head_8 : decode mi_Branchwork_head.2.1 8 = .ok (.iaload, 1) := by decide +kernel
theorem jd_Branchwork_head_9 : decode mi_Branchwork_head.2.1 9 = .ok (.ireturn, 1) := by decide +kernel
theorem jd_History_isFull_0 : decode mi_History_isFull.2.1 0 = .ok (.aload_n 0, 1) := by decide +kernel
theorem jd_History_isFull_1 : decode mi_History_isFull.2.1 1 = .ok (.getfield 41, 3) := by decide +kernel
theorem jd_History_isFull_4 : decode mi_History_isFull.2.1 4 = .ok (.bipush 30, 2) := by decide +kernel
theorem jd_History_isFull_6 : decode mi_History_isFull.2.1 6 = .ok (.if_icmp .lt 7, 3) := by decide +kernel
theorem jd_History_isFull_9 : decode mi_History_isFull.2.1 9 = .ok (.iconst 1, 1) := by decide +kernel
theorem jd_History_isFull_10 : decode mi_History_isFull.2.1 10 = .ok (.goto 4, 3) := by decide +kernel
theorem jd_History_isFull_13 : decode mi_History_isFull.2.1 13 = .ok (.iconst 0, 1) := by decide +kernel
theorem jd_History_isFull_14 : decode mi_History_isFull.2.1 14 = .ok (.ireturn, 1) := by decide +kernel
theorem jd_Conflicts_howMany_0 : decode mi_Conflicts_howMany.2.1 0 = .ok (.aload_n 0, 1) := by decide +kernel
theorem jd_Conflicts_howMany_1 : decode mi_Conflicts_howMany.2.1 1 = .ok (.getfield 18, 3) := by decide +kernel
theorem jd_Conflicts_howMany_4 : decode mi_Conflicts_howMany.2.1 4 = .ok (.ireturn, 1) := by decide +kernel
theorem jd_History_setOf_0 : decode mi_History_setOf.2.1 0 = .ok (.iload_n 0, 1) := by decide +kernel
theorem jd_History_setOf_1 : decode mi_History_setOf.2.1 1 = .ok (.ifCond .lt 15, 3) := by decide +kernel
theorem jd_History_setOf_4 : decode mi_History_setOf.2.1 4 = .ok (.iload_n 0, 1) := by decide +kernel
theorem jd_History_setOf_5 : decode mi_History_setOf.2.1 5 = .ok (.bipush 30, 2) := by decide +kernel
theorem jd_History_setOf_7 : decode mi_History_setOf.2.1 7 = .ok (.if_icmp .ge 9, 3) := by decide +kernel
theorem jd_History_setOf_10 : decode mi_History_setOf.2.1 10 = .ok (.iconst 1, 1) := by decide +kernel
theorem jd_History_setOf_11 : decode mi_History_setOf.2.1 11 = .ok (.iload_n 0, 1) := by decide +kernel
theorem jd_History_setOf_12 : decode mi_History_setOf.2.1 12 = .ok (.ishl, 1) := by decide +kernel
theorem jd_History_setOf_13 : decode mi_History_setOf.2.1 13 = .ok (.goto 4, 3) := by decide +kernel
theorem jd_History_setOf_16 : decode mi_History_setOf.2.1 16 = .ok (.iconst 0, 1) := by decide +kernel
theorem jd_History_setOf_17 : decode mi_History_setOf.2.1 17 = .ok (.ireturn, 1) := by decide +kernel
theorem jd_History_isIn_0 : decode mi_History_isIn.2.1 0 = .ok (.iload_n 0, 1) := by decide +kernel
theorem jd_History_isIn_1 : decode mi_History_isIn.2.1 1 = .ok (.invokestatic 48, 3) := by decide +kernel
theorem jd_History_isIn_4 : decode mi_History_isIn.2.1 4 = .ok (.iload_n 1, 1) := by decide +kernel
theorem jd_History_isIn_5 : decode mi_History_isIn.2.1 5 = .ok (.iand, 1) := by decide +kernel
theorem jd_History_isIn_6 : decode mi_History_isIn.2.1 6 = .ok (.ifCond .eq 7, 3) := by decide +kernel
theorem jd_History_isIn_9 : decode mi_History_isIn.2.1 9 = .ok (.iconst 1, 1) := by decide +kernel
theorem jd_History_isIn_10 : decode mi_History_isIn.2.1 10 = .ok (.goto 4, 3) := by decide +kernel
theorem jd_History_isIn_13 : decode mi_History_isIn.2.1 13 = .ok (.iconst 0, 1) := by decide +kernel
theorem jd_History_isIn_14 : decode mi_History_isIn.2.1 14 = .ok (.ireturn, 1) := by decide +kernel
theorem jd_History_holds_0 : decode mi_History_holds.2.1 0 = .ok (.iload_n 1, 1) := by decide +kernel
theorem jd_History_holds_1 : decode mi_History_holds.2.1 1 = .ok (.aload_n 0, 1) := by decide +kernel
theorem jd_History_holds_2 : decode mi_History_holds.2.1 2 = .ok (.getfield 45, 3) := by decide +kernel
theorem jd_History_holds_5 : decode mi_History_holds.2.1 5 = .ok (.invokestatic 52, 3) := by decide +kernel
theorem jd_History_holds_8 : decode mi_History_holds.2.1 8 = .ok (.ireturn, 1) := by decide +kernel
theorem jd_Branchwork_requireCommit_0 : decode mi_Branchwork_requireCommit.2.1 0 = .ok (.aload_n 0, 1) := by decide +kernel
theorem jd_Branchwork_requireCommit_1 : decode mi_Branchwork_requireCommit.2.1 1 = .ok (.getfield 19, 3) := by decide +kernel
theorem jd_Branchwork_requireCommit_4 : decode mi_Branchwork_requireCommit.2.1 4 = .ok (.iload_n 1, 1) := by decide +kernel
theorem jd_Branchwork_requireCommit_5 : decode mi_Branchwork_requireCommit.2.1 5 = .ok (.invokevirtual 323, 3) := by decide +kernel
theorem jd_Branchwork_requireCommit_8 : decode mi_Branchwork_requireCommit.2.1 8 = .ok (.ifCond .ne 14, 3) := by decide +kernel
theorem jd_Branchwork_requireCommit_11 : decode mi_Branchwork_requireCommit.2.1 11 = .ok (.new 85, 3) := by decide +kernel
theorem jd_Branchwork_requireCommit_14 : decode mi_Branchwork_requireCommit.2.1 14 = .ok (.dup, 1) := by decide +kernel
theorem jd_Branchwork_requireCommit_15 : decode mi_Branchwork_requireCommit.2.1 15 = .ok (.ldc_w 358, 3) := by decide +kernel
theorem jd_Branchwork_requireCommit_18 : decode mi_Branchwork_requireCommit.2.1 18 = .ok (.invokespecial 89, 3) := by decide +kernel
theorem jd_Branchwork_requireCommit_21 : decode mi_Branchwork_requireCommit.2.1 21 = .ok (.athrow, 1) := by decide +kernel
theorem jd_Branchwork_requireCommit_22 : decode mi_Branchwork_requireCommit.2.1 22 = .ok (.return_, 1) := by decide +kernel
theorem jd_Branchwork_requireBranch_0 : decode mi_Branchwork_requireBranch.2.1 0 = .ok (.iload_n 1, 1) := by decide +kernel
theorem jd_Branchwork_requireBranch_1 : decode mi_Branchwork_requireBranch.2.1 1 = .ok (.ifCond .lt 11, 3) := by decide +kernel
theorem jd_Branchwork_requireBranch_4 : decode mi_Branchwork_requireBranch.2.1 4 = .ok (.iload_n 1, 1) := by decide +kernel
theorem jd_Branchwork_requireBranch_5 : decode mi_Branchwork_requireBranch.2.1 5 = .ok (.aload_n 0, 1) := by decide +kernel
theorem jd_Branchwork_requireBranch_6 : decode mi_Branchwork_requireBranch.2.1 6 = .ok (.getfield 55, 3) := by decide +kernel
theorem jd_Branchwork_requireBranch_9 : decode mi_Branchwork_requireBranch.2.1 9 = .ok (.if_icmp .lt 14, 3) := by decide +kernel
theorem jd_Branchwork_requireBranch_12 : decode mi_Branchwork_requireBranch.2.1 12 = .ok (.new 85, 3) := by decide +kernel
theorem jd_Branchwork_requireBranch_15 : decode mi_Branchwork_requireBranch.2.1 15 = .ok (.dup, 1) := by decide +kernel
theorem jd_Branchwork_requireBranch_16 : decode mi_Branchwork_requireBranch.2.1 16 = .ok (.ldc_w 360, 3) := by decide +kernel
theorem jd_Branchwork_requireBranch_19 : decode mi_Branchwork_requireBranch.2.1 19 = .ok (.invokespecial 89, 3) := by decide +kernel
theorem jd_Branchwork_requireBranch_22 : decode mi_Branchwork_requireBranch.2.1 22 = .ok (.athrow, 1) := by decide +kernel
theorem jd_Branchwork_requireBranch_23 : decode mi_Branchwork_requireBranch.2.1 23 = .ok (.return_, 1) := by decide +kernel
theorem jd_Branchwork_requireConflict_0 : decode mi_Branchwork_requireConflict.2.1 0 = .ok (.aload_n 0, 1) := by decide +kernel
theorem jd_Branchwork_requireConflict_1 : decode mi_Branchwork_requireConflict.2.1 1 = .ok (.getfield 33, 3) := by decide +kernel
theorem jd_Branchwork_requireConflict_4 : decode mi_Branchwork_requireConflict.2.1 4 = .ok (.iload_n 1, 1) := by decide +kernel
theorem jd_Branchwork_requireConflict_5 : decode mi_Branchwork_requireConflict.2.1 5 = .ok (.invokevirtual 362, 3) := by decide +kernel
theorem jd_Branchwork_requireConflict_8 : decode mi_Branchwork_requireConflict.2.1 8 = .ok (.ifCond .ne 14, 3) := by decide +kernel
theorem jd_Branchwork_requireConflict_11 : decode mi_Branchwork_requireConflict.2.1 11 = .ok (.new 85, 3) := by decide +kernel
theorem jd_Branchwork_requireConflict_14 : decode mi_Branchwork_requireConflict.2.1 14 = .ok (.dup, 1) := by decide +kernel
theorem jd_Branchwork_requireConflict_15 : decode mi_Branchwork_requireConflict.2.1 15 = .ok (.ldc_w 363, 3) := by decide +kernel
theorem jd_Branchwork_requireConflict_18 : decode mi_Branchwork_requireConflict.2.1 18 = .ok (.invokespecial 89, 3) := by decide +kernel
theorem jd_Branchwork_requireConflict_21 : decode mi_Branchwork_requireConflict.2.1 21 = .ok (.athrow, 1) := by decide +kernel
theorem jd_Branchwork_requireConflict_22 : decode mi_Branchwork_requireConflict.2.1 22 = .ok (.return_, 1) := by decide +kernel
theorem jd_Conflicts_holds_0 : decode mi_Conflicts_holds.2.1 0 = .ok (.iload_n 1, 1) := by decide +kernel
theorem jd_Conflicts_holds_1 : decode mi_Conflicts_holds.2.1 1 = .ok (.ifCond .lt 21, 3) := by decide +kernel
theorem jd_Conflicts_holds_4 : decode mi_Conflicts_holds.2.1 4 = .ok (.iload_n 1, 1) := by decide +kernel
theorem jd_Conflicts_holds_5 : decode mi_Conflicts_holds.2.1 5 = .ok (.aload_n 0, 1) := by decide +kernel
theorem jd_Conflicts_holds_6 : decode mi_Conflicts_holds.2.1 6 = .ok (.getfield 18, 3) := by decide +kernel
theorem jd_Conflicts_holds_9 : decode mi_Conflicts_holds.2.1 9 = .ok (.if_icmp .ge 13, 3) := by decide +kernel
theorem jd_Conflicts_holds_12 : decode mi_Conflicts_holds.2.1 12 = .ok (.iload_n 1, 1) := by decide +kernel
theorem jd_Conflicts_holds_13 : decode mi_Conflicts_holds.2.1 13 = .ok (.bipush 24, 2) := by decide +kernel
theorem jd_Conflicts_holds_15 : decode mi_Conflicts_holds.2.1 15 = .ok (.if_icmp .ge 7, 3) := by decide +kernel
theorem jd_Conflicts_holds_18 : decode mi_Conflicts_holds.2.1 18 = .ok (.iconst 1, 1) := by decide +kernel
theorem jd_Conflicts_holds_19 : decode mi_Conflicts_holds.2.1 19 = .ok (.goto 4, 3) := by decide +kernel
theorem jd_Conflicts_holds_22 : decode mi_Conflicts_holds.2.1 22 = .ok (.iconst 0, 1) := by decide +kernel
theorem jd_Conflicts_holds_23 : decode mi_Conflicts_holds.2.1 23 = .ok (.ireturn, 1) := by decide +kernel
theorem jd_Branchwork_requireCleanAndUnmerged_0 : decode mi_Branchwork_requireCleanAndUnmerged.2.1 0 = .ok (.aload_n 0, 1) := by decide +kernel
theorem jd_Branchwork_requireCleanAndUnmerged_1 : decode mi_Branchwork_requireCleanAndUnmerged.2.1 1 = .ok (.invokevirtual 158, 3) := by decide +kernel
theorem jd_Branchwork_requireCleanAndUnmerged_4 : decode mi_Branchwork_requireCleanAndUnmerged.2.1 4 = .ok (.ifCond .ne 14, 3) := by decide +kernel
theorem jd_Branchwork_requireCleanAndUnmerged_7 : decode mi_Branchwork_requireCleanAndUnmerged.2.1 7 = .ok (.new 101, 3) := by decide +kernel
theorem jd_Branchwork_requireCleanAndUnmerged_10 : decode mi_Branchwork_requireCleanAndUnmerged.2.1 10 = .ok (.dup, 1) := by decide +kernel
theorem jd_Branchwork_requireCleanAndUnmerged_11 : decode mi_Branchwork_requireCleanAndUnmerged.2.1 11 = .ok (.ldc_w 365, 3) := by decide +kernel
theorem jd_Branchwork_requireCleanAndUnmerged_14 : decode mi_Branchwork_requireCleanAndUnmerged.2.1 14 = .ok (.invokespecial 105, 3) := by decide +kernel
theorem jd_Branchwork_requireCleanAndUnmerged_17 : decode mi_Branchwork_requireCleanAndUnmerged.2.1 17 = .ok (.athrow, 1) := by decide +kernel
theorem jd_Branchwork_requireCleanAndUnmerged_18 : decode mi_Branchwork_requireCleanAndUnmerged.2.1 18 = .ok (.aload_n 0, 1) := by decide +kernel
theorem jd_Branchwork_requireCleanAndUnmerged_19 : decode mi_Branchwork_requireCleanAndUnmerged.2.1 19 = .ok (.getfield 62, 3) := by decide +kernel
theorem jd_Branchwork_requireCleanAndUnmerged_22 : decode mi_Branchwork_requireCleanAndUnmerged.2.1 22 = .ok (.iconst (-1), 1) := by decide +kernel
theorem jd_Branchwork_requireCleanAndUnmerged_23 : decode mi_Branchwork_requireCleanAndUnmerged.2.1 23 = .ok (.if_icmp .eq 14, 3) := by decide +kernel
theorem jd_Branchwork_requireCleanAndUnmerged_26 : decode mi_Branchwork_requireCleanAndUnmerged.2.1 26 = .ok (.new 101, 3) := by decide +kernel
theorem jd_Branchwork_requireCleanAndUnmerged_29 : decode mi_Branchwork_requireCleanAndUnmerged.2.1 29 = .ok (.dup, 1) := by decide +kernel
theorem jd_Branchwork_requireCleanAndUnmerged_30 : decode mi_Branchwork_requireCleanAndUnmerged.2.1 30 = .ok (.ldc_w 367, 3) := by decide +kernel
theorem jd_Branchwork_requireCleanAndUnmerged_33 : decode mi_Branchwork_requireCleanAndUnmerged.2.1 33 = .ok (.invokespecial 105, 3) := by decide +kernel
theorem jd_Branchwork_requireCleanAndUnmerged_36 : decode mi_Branchwork_requireCleanAndUnmerged.2.1 36 = .ok (.athrow, 1) := by decide +kernel
theorem jd_Branchwork_requireCleanAndUnmerged_37 : decode mi_Branchwork_requireCleanAndUnmerged.2.1 37 = .ok (.return_, 1) := by decide +kernel
theorem jd_Branchwork_branch_0 : decode mi_Branchwork_branch.2.1 0 = .ok (.aload_n 0, 1) := by decide +kernel
theorem jd_Branchwork_branch_1 : decode mi_Branchwork_branch.2.1 1 = .ok (.invokevirtual 137, 3) := by decide +kernel
theorem jd_Branchwork_branch_4 : decode mi_Branchwork_branch.2.1 4 = .ok (.iconst (-1), 1) := by decide +kernel
theorem jd_Branchwork_branch_5 : decode mi_Branchwork_branch.2.1 5 = .ok (.if_icmp .ne 13, 3) := by decide +kernel
theorem jd_Branchwork_branch_8 : decode mi_Branchwork_branch.2.1 8 = .ok (.new 101, 3) := by decide +kernel
theorem jd_Branchwork_branch_11 : decode mi_Branchwork_branch.2.1 11 = .ok (.dup, 1) := by decide +kernel
theorem jd_Branchwork_branch_12 : decode mi_Branchwork_branch.2.1 12 = .ok (.ldc 167, 2) := by decide +kernel
theorem jd_Branchwork_branch_14 : decode mi_Branchwork_branch.2.1 14 = .ok (.invokespecial 105, 3) := by decide +kernel
theorem jd_Branchwork_branch_17 : decode mi_Branchwork_branch.2.1 17 = .ok (.athrow, 1) := by decide +kernel
theorem jd_Branchwork_branch_18 : decode mi_Branchwork_branch.2.1 18 = .ok (.aload_n 0, 1) := by decide +kernel
theorem jd_Branchwork_branch_19 : decode mi_Branchwork_branch.2.1 19 = .ok (.getfield 55, 3) := by decide +kernel
theorem jd_Branchwork_branch_22 : decode mi_Branchwork_branch.2.1 22 = .ok (.iconst 5, 1) := by decide +kernel
theorem jd_Branchwork_branch_23 : decode mi_Branchwork_branch.2.1 23 = .ok (.if_icmp .lt 13, 3) := by decide +kernel
theorem jd_Branchwork_branch_26 : decode mi_Branchwork_branch.2.1 26 = .ok (.new 101, 3) := by decide +kernel
theorem jd_Branchwork_branch_29 : decode mi_Branchwork_branch.2.1 29 = .ok (.dup, 1) := by decide +kernel
theorem jd_Branchwork_branch_30 : decode mi_Branchwork_branch.2.1 30 = .ok (.ldc 169, 2) := by decide +kernel
theorem jd_Branchwork_branch_32 : decode mi_Branchwork_branch.2.1 32 = .ok (.invokespecial 105, 3) := by decide +kernel
theorem jd_Branchwork_branch_35 : decode mi_Branchwork_branch.2.1 35 = .ok (.athrow, 1) := by decide +kernel
theorem jd_Branchwork_branch_36 : decode mi_Branchwork_branch.2.1 36 = .ok (.aload_n 0, 1) := by decide +kernel
theorem jd_Branchwork_branch_37 : decode mi_Branchwork_branch.2.1 37 = .ok (.getfield 51, 3) := by decide +kernel
theorem jd_Branchwork_branch_40 : decode mi_Branchwork_branch.2.1 40 = .ok (.aload_n 0, 1) := by decide +kernel
theorem jd_Branchwork_branch_41 : decode mi_Branchwork_branch.2.1 41 = .ok (.getfield 55, 3) := by decide +kernel
theorem jd_Branchwork_branch_44 : decode mi_Branchwork_branch.2.1 44 = .ok (.aload_n 0, 1) := by decide +kernel
theorem jd_Branchwork_branch_45 : decode mi_Branchwork_branch.2.1 45 = .ok (.invokevirtual 137, 3) := by decide +kernel
theorem jd_Branchwork_branch_48 : decode mi_Branchwork_branch.2.1 48 = .ok (.iastore, 1) := by decide +kernel
theorem jd_Branchwork_branch_49 : decode mi_Branchwork_branch.2.1 49 = .ok (.aload_n 0, 1) := by decide +kernel
theorem jd_Branchwork_branch_50 : decode mi_Branchwork_branch.2.1 50 = .ok (.dup, 1) := by decide +kernel
theorem jd_Branchwork_branch_51 : decode mi_Branchwork_branch.2.1 51 = .ok (.getfield 55, 3) := by decide +kernel
theorem jd_Branchwork_branch_54 : decode mi_Branchwork_branch.2.1 54 = .ok (.iconst 1, 1) := by decide +kernel
theorem jd_Branchwork_branch_55 : decode mi_Branchwork_branch.2.1 55 = .ok (.iadd, 1) := by decide +kernel
theorem jd_Branchwork_branch_56 : decode mi_Branchwork_branch.2.1 56 = .ok (.putfield 55, 3) := by decide +kernel
theorem jd_Branchwork_branch_59 : decode mi_Branchwork_branch.2.1 59 = .ok (.aload_n 0, 1) := by decide +kernel
theorem jd_Branchwork_branch_60 : decode mi_Branchwork_branch.2.1 60 = .ok (.getfield 55, 3) := by decide +kernel
theorem jd_Branchwork_branch_63 : decode mi_Branchwork_branch.2.1 63 = .ok (.iconst 1, 1) := by decide +kernel
theorem jd_Branchwork_branch_64 : decode mi_Branchwork_branch.2.1 64 = .ok (.isub, 1) := by decide +kernel
theorem jd_Branchwork_branch_65 : decode mi_Branchwork_branch.2.1 65 = .ok (.ireturn, 1) := by decide +kernel
theorem jd_Branchwork_change_0 : decode mi_Branchwork_change.2.1 0 = .ok (.aload_n 0, 1) := by decide +kernel
theorem jd_Branchwork_change_1 : decode mi_Branchwork_change.2.1 1 = .ok (.iload_n 1, 1) := by decide +kernel
theorem jd_Branchwork_change_2 : decode mi_Branchwork_change.2.1 2 = .ok (.invokevirtual 171, 3) := by decide +kernel
theorem jd_Branchwork_change_5 : decode mi_Branchwork_change.2.1 5 = .ok (.aload_n 0, 1) := by decide +kernel
theorem jd_Branchwork_change_6 : decode mi_Branchwork_change.2.1 6 = .ok (.invokevirtual 174, 3) := by decide +kernel
theorem jd_Branchwork_change_9 : decode mi_Branchwork_change.2.1 9 = .ok (.aload_n 0, 1) := by decide +kernel
theorem jd_Branchwork_change_10 : decode mi_Branchwork_change.2.1 10 = .ok (.getfield 59, 3) := by decide +kernel
theorem jd_Branchwork_change_13 : decode mi_Branchwork_change.2.1 13 = .ok (.istore_n 2, 1) := by decide +kernel
theorem jd_Branchwork_change_14 : decode mi_Branchwork_change.2.1 14 = .ok (.aload_n 0, 1) := by decide +kernel
theorem jd_Branchwork_change_15 : decode mi_Branchwork_change.2.1 15 = .ok (.iload_n 1, 1) := by decide +kernel
theorem jd_Branchwork_change_16 : decode mi_Branchwork_change.2.1 16 = .ok (.putfield 59, 3) := by decide +kernel
theorem jd_Branchwork_change_19 : decode mi_Branchwork_change.2.1 19 = .ok (.aload_n 0, 1) := by decide +kernel
theorem jd_Branchwork_change_20 : decode mi_Branchwork_change.2.1 20 = .ok (.getfield 12, 3) := by decide +kernel
theorem jd_Branchwork_change_23 : decode mi_Branchwork_change.2.1 23 = .ok (.aload_n 0, 1) := by decide +kernel
theorem jd_Branchwork_change_24 : decode mi_Branchwork_change.2.1 24 = .ok (.getfield 19, 3) := by decide +kernel
theorem jd_Branchwork_change_27 : decode mi_Branchwork_change.2.1 27 = .ok (.aload_n 0, 1) := by decide +kernel
theorem jd_Branchwork_change_28 : decode mi_Branchwork_change.2.1 28 = .ok (.invokevirtual 137, 3) := by decide +kernel
theorem jd_Branchwork_change_31 : decode mi_Branchwork_change.2.1 31 = .ok (.invokevirtual 140, 3) := by decide +kernel
theorem jd_Branchwork_change_34 : decode mi_Branchwork_change.2.1 34 = .ok (.invokevirtual 177, 3) := by decide +kernel
theorem jd_Branchwork_change_37 : decode mi_Branchwork_change.2.1 37 = .ok (.iload_n 2, 1) := by decide +kernel
theorem jd_Branchwork_change_38 : decode mi_Branchwork_change.2.1 38 = .ok (.ireturn, 1) := by decide +kernel
theorem jd_Branchwork_reset_0 : decode mi_Branchwork_reset.2.1 0 = .ok (.aload_n 0, 1) := by decide +kernel
theorem jd_Branchwork_reset_1 : decode mi_Branchwork_reset.2.1 1 = .ok (.iload_n 1, 1) := by decide +kernel
theorem jd_Branchwork_reset_2 : decode mi_Branchwork_reset.2.1 2 = .ok (.invokevirtual 180, 3) := by decide +kernel
theorem jd_Branchwork_reset_5 : decode mi_Branchwork_reset.2.1 5 = .ok (.aload_n 0, 1) := by decide +kernel
theorem jd_Branchwork_reset_6 : decode mi_Branchwork_reset.2.1 6 = .ok (.invokevirtual 137, 3) := by decide +kernel
theorem jd_Branchwork_reset_9 : decode mi_Branchwork_reset.2.1 9 = .ok (.istore_n 2, 1) := by decide +kernel
theorem jd_Branchwork_reset_10 : decode mi_Branchwork_reset.2.1 10 = .ok (.aload_n 0, 1) := by decide +kernel
theorem jd_Branchwork_reset_11 : decode mi_Branchwork_reset.2.1 11 = .ok (.getfield 51, 3) := by decide +kernel
theorem jd_Branchwork_reset_14 : decode mi_Branchwork_reset.2.1 14 = .ok (.aload_n 0, 1) := by decide +kernel
theorem jd_Branchwork_reset_15 : decode mi_Branchwork_reset.2.1 15 = .ok (.getfield 59, 3) := by decide +kernel
theorem jd_Branchwork_reset_18 : decode mi_Branchwork_reset.2.1 18 = .ok (.iload_n 1, 1) := by decide +kernel
theorem jd_Branchwork_reset_19 : decode mi_Branchwork_reset.2.1 19 = .ok (.iastore, 1) := by decide +kernel
theorem jd_Branchwork_reset_20 : decode mi_Branchwork_reset.2.1 20 = .ok (.aload_n 0, 1) := by decide +kernel
theorem jd_Branchwork_reset_21 : decode mi_Branchwork_reset.2.1 21 = .ok (.getfield 12, 3) := by decide +kernel
theorem jd_Branchwork_reset_24 : decode mi_Branchwork_reset.2.1 24 = .ok (.aload_n 0, 1) := by decide +kernel
theorem jd_Branchwork_reset_25 : decode mi_Branchwork_reset.2.1 25 = .ok (.getfield 19, 3) := by decide +kernel
theorem jd_Branchwork_reset_28 : decode mi_Branchwork_reset.2.1 28 = .ok (.iload_n 1, 1) := by decide +kernel
theorem jd_Branchwork_reset_29 : decode mi_Branchwork_reset.2.1 29 = .ok (.invokevirtual 140, 3) := by decide +kernel
theorem jd_Branchwork_reset_32 : decode mi_Branchwork_reset.2.1 32 = .ok (.invokevirtual 177, 3) := by decide +kernel
theorem jd_Branchwork_reset_35 : decode mi_Branchwork_reset.2.1 35 = .ok (.aload_n 0, 1) := by decide +kernel
theorem jd_Branchwork_reset_36 : decode mi_Branchwork_reset.2.1 36 = .ok (.iconst (-1), 1) := by decide +kernel
theorem jd_Branchwork_reset_37 : decode mi_Branchwork_reset.2.1 37 = .ok (.putfield 62, 3) := by decide +kernel
theorem jd_Branchwork_reset_40 : decode mi_Branchwork_reset.2.1 40 = .ok (.aload_n 0, 1) := by decide +kernel
theorem jd_Branchwork_reset_41 : decode mi_Branchwork_reset.2.1 41 = .ok (.getfield 33, 3) := by decide +kernel
theorem jd_Branchwork_reset_44 : decode mi_Branchwork_reset.2.1 44 = .ok (.invokevirtual 183, 3) := by decide +kernel
theorem jd_Branchwork_reset_47 : decode mi_Branchwork_reset.2.1 47 = .ok (.iload_n 2, 1) := by decide +kernel
theorem jd_Branchwork_reset_48 : decode mi_Branchwork_reset.2.1 48 = .ok (.ireturn, 1) := by decide +kernel
theorem jd_Branchwork_merge_0 : decode mi_Branchwork_merge.2.1 0 = .ok (.aload_n 0, 1) := by decide +kernel
theorem jd_Branchwork_merge_1 : decode mi_Branchwork_merge.2.1 1 = .ok (.iload_n 1, 1) := by decide +kernel
theorem jd_Branchwork_merge_2 : decode mi_Branchwork_merge.2.1 2 = .ok (.invokevirtual 171, 3) := by decide +kernel
theorem jd_Branchwork_merge_5 : decode mi_Branchwork_merge.2.1 5 = .ok (.aload_n 0, 1) := by decide +kernel
theorem jd_Branchwork_merge_6 : decode mi_Branchwork_merge.2.1 6 = .ok (.invokevirtual 137, 3) := by decide +kernel
theorem jd_Branchwork_merge_9 : decode mi_Branchwork_merge.2.1 9 = .ok (.iconst (-1), 1) := by decide +kernel
theorem jd_Branchwork_merge_10 : decode mi_Branchwork_merge.2.1 10 = .ok (.if_icmp .ne 13, 3) := by decide +kernel
theorem jd_Branchwork_merge_13 : decode mi_Branchwork_merge.2.1 13 = .ok (.new 101, 3) := by decide +kernel
theorem jd_Branchwork_merge_16 : decode mi_Branchwork_merge.2.1 16 = .ok (.dup, 1) := by decide +kernel
theorem jd_Branchwork_merge_17 : decode mi_Branchwork_merge.2.1 17 = .ok (.ldc 167, 2) := by decide +kernel
theorem jd_Branchwork_merge_19 : decode mi_Branchwork_merge.2.1 19 = .ok (.invokespecial 105, 3) := by decide +kernel
theorem jd_Branchwork_merge_22 : decode mi_Branchwork_merge.2.1 22 = .ok (.athrow, 1) := by decide +kernel
theorem jd_Branchwork_merge_23 : decode mi_Branchwork_merge.2.1 23 = .ok (.aload_n 0, 1) := by decide +kernel
theorem jd_Branchwork_merge_24 : decode mi_Branchwork_merge.2.1 24 = .ok (.invokevirtual 174, 3) := by decide +kernel
theorem jd_Branchwork_merge_27 : decode mi_Branchwork_merge.2.1 27 = .ok (.aload_n 0, 1) := by decide +kernel
theorem jd_Branchwork_merge_28 : decode mi_Branchwork_merge.2.1 28 = .ok (.invokevirtual 137, 3) := by decide +kernel
theorem jd_Branchwork_merge_31 : decode mi_Branchwork_merge.2.1 31 = .ok (.istore_n 2, 1) := by decide +kernel
theorem jd_Branchwork_merge_32 : decode mi_Branchwork_merge.2.1 32 = .ok (.aload_n 0, 1) := by decide +kernel
theorem jd_Branchwork_merge_33 : decode mi_Branchwork_merge.2.1 33 = .ok (.getfield 51, 3) := by decide +kernel
theorem jd_Branchwork_merge_36 : decode mi_Branchwork_merge.2.1 36 = .ok (.iload_n 1, 1) := by decide +kernel
theorem jd_Branchwork_merge_37 : decode mi_Branchwork_merge.2.1 37 = .ok (.iaload, 1) := by decide +kernel
theorem jd_Branchwork_merge_38 : decode mi_Branchwork_merge.2.1 38 = .ok (.istore_n 3, 1) := by decide +kernel
theorem jd_Branchwork_merge_39 : decode mi_Branchwork_merge.2.1 39 = .ok (.aload_n 0, 1) := by decide +kernel
theorem jd_Branchwork_merge_40 : decode mi_Branchwork_merge.2.1 40 = .ok (.getfield 19, 3) := by decide +kernel
theorem jd_Branchwork_merge_43 : decode mi_Branchwork_merge.2.1 43 = .ok (.iload_n 2, 1) := by decide +kernel
theorem jd_Branchwork_merge_44 : decode mi_Branchwork_merge.2.1 44 = .ok (.iload_n 3, 1) := by decide +kernel
theorem jd_Branchwork_merge_45 : decode mi_Branchwork_merge.2.1 45 = .ok (.invokevirtual 186, 3) := by decide +kernel
theorem jd_Branchwork_merge_48 : decode mi_Branchwork_merge.2.1 48 = .ok (.istore 4, 2) := by decide +kernel
theorem jd_Branchwork_merge_50 : decode mi_Branchwork_merge.2.1 50 = .ok (.iload 4, 2) := by decide +kernel
theorem jd_Branchwork_merge_52 : decode mi_Branchwork_merge.2.1 52 = .ok (.iload_n 3, 1) := by decide +kernel
theorem jd_Branchwork_merge_53 : decode mi_Branchwork_merge.2.1 53 = .ok (.if_icmp .ne 5, 3) := by decide +kernel
theorem jd_Branchwork_merge_56 : decode mi_Branchwork_merge.2.1 56 = .ok (.iconst (-1), 1) := by decide +kernel
theorem jd_Branchwork_merge_57 : decode mi_Branchwork_merge.2.1 57 = .ok (.ireturn, 1) := by decide +kernel
theorem jd_Branchwork_merge_58 : decode mi_Branchwork_merge.2.1 58 = .ok (.iload 4, 2) := by decide +kernel
theorem jd_Branchwork_merge_60 : decode mi_Branchwork_merge.2.1 60 = .ok (.iload_n 2, 1) := by decide +kernel
theorem jd_Branchwork_merge_61 : decode mi_Branchwork_merge.2.1 61 = .ok (.if_icmp .ne 31, 3) := by decide +kernel
theorem jd_Branchwork_merge_64 : decode mi_Branchwork_merge.2.1 64 = .ok (.aload_n 0, 1) := by decide +kernel
theorem jd_Branchwork_merge_65 : decode mi_Branchwork_merge.2.1 65 = .ok (.getfield 51, 3) := by decide +kernel
theorem jd_Branchwork_merge_68 : decode mi_Branchwork_merge.2.1 68 = .ok (.aload_n 0, 1) := by decide +kernel
theorem jd_Branchwork_merge_69 : decode mi_Branchwork_merge.2.1 69 = .ok (.getfield 59, 3) := by decide +kernel
theorem jd_Branchwork_merge_72 : decode mi_Branchwork_merge.2.1 72 = .ok (.iload_n 3, 1) := by decide +kernel
theorem jd_Branchwork_merge_73 : decode mi_Branchwork_merge.2.1 73 = .ok (.iastore, 1) := by decide +kernel
theorem jd_Branchwork_merge_74 : decode mi_Branchwork_merge.2.1 74 = .ok (.aload_n 0, 1) := by decide +kernel
theorem jd_Branchwork_merge_75 : decode mi_Branchwork_merge.2.1 75 = .ok (.getfield 12, 3) := by decide +kernel
theorem jd_Branchwork_merge_78 : decode mi_Branchwork_merge.2.1 78 = .ok (.aload_n 0, 1) := by decide +kernel
theorem jd_Branchwork_merge_79 : decode mi_Branchwork_merge.2.1 79 = .ok (.getfield 19, 3) := by decide +kernel
theorem jd_Branchwork_merge_82 : decode mi_Branchwork_merge.2.1 82 = .ok (.iload_n 3, 1) := by decide +kernel
theorem jd_Branchwork_merge_83 : decode mi_Branchwork_merge.2.1 83 = .ok (.invokevirtual 140, 3) := by decide +kernel
theorem jd_Branchwork_merge_86 : decode mi_Branchwork_merge.2.1 86 = .ok (.invokevirtual 177, 3) := by decide +kernel
theorem jd_Branchwork_merge_89 : decode mi_Branchwork_merge.2.1 89 = .ok (.bipush (-2), 2) := by decide +kernel
theorem jd_Branchwork_merge_91 : decode mi_Branchwork_merge.2.1 91 = .ok (.ireturn, 1) := by decide +kernel
theorem jd_Branchwork_merge_92 : decode mi_Branchwork_merge.2.1 92 = .ok (.aload_n 0, 1) := by decide +kernel
theorem jd_Branchwork_merge_93 : decode mi_Branchwork_merge.2.1 93 = .ok (.getfield 26, 3) := by decide +kernel
theorem jd_Branchwork_merge_96 : decode mi_Branchwork_merge.2.1 96 = .ok (.aload_n 0, 1) := by decide +kernel
theorem jd_Branchwork_merge_97 : decode mi_Branchwork_merge.2.1 97 = .ok (.getfield 19, 3) := by decide +kernel
theorem jd_Branchwork_merge_100 : decode mi_Branchwork_merge.2.1 100 = .ok (.iload 4, 2) := by decide +kernel
theorem jd_Branchwork_merge_102 : decode mi_Branchwork_merge.2.1 102 = .ok (.invokevirtual 140, 3) := by decide +kernel
theorem jd_Branchwork_merge_105 : decode mi_Branchwork_merge.2.1 105 = .ok (.aload_n 0, 1) := by decide +kernel
theorem jd_Branchwork_merge_106 : decode mi_Branchwork_merge.2.1 106 = .ok (.getfield 19, 3) := by decide +kernel
theorem jd_Branchwork_merge_109 : decode mi_Branchwork_merge.2.1 109 = .ok (.iload_n 2, 1) := by decide +kernel
theorem jd_Branchwork_merge_110 : decode mi_Branchwork_merge.2.1 110 = .ok (.invokevirtual 140, 3) := by decide +kernel
theorem jd_Branchwork_merge_113 : decode mi_Branchwork_merge.2.1 113 = .ok (.aload_n 0, 1) := by decide +kernel
theorem jd_Branchwork_merge_114 : decode mi_Branchwork_merge.2.1 114 = .ok (.getfield 19, 3) := by decide +kernel
theorem jd_Branchwork_merge_117 : decode mi_Branchwork_merge.2.1 117 = .ok (.iload_n 3, 1) := by decide +kernel
theorem jd_Branchwork_merge_118 : decode mi_Branchwork_merge.2.1 118 = .ok (.invokevirtual 140, 3) := by decide +kernel
theorem jd_Branchwork_merge_121 : decode mi_Branchwork_merge.2.1 121 = .ok (.invokevirtual 190, 3) := by decide +kernel
theorem jd_Branchwork_merge_124 : decode mi_Branchwork_merge.2.1 124 = .ok (.aload_n 0, 1) := by decide +kernel
theorem jd_Branchwork_merge_125 : decode mi_Branchwork_merge.2.1 125 = .ok (.getfield 12, 3) := by decide +kernel
theorem jd_Branchwork_merge_128 : decode mi_Branchwork_merge.2.1 128 = .ok (.aload_n 0, 1) := by decide +kernel
theorem jd_Branchwork_merge_129 : decode mi_Branchwork_merge.2.1 129 = .ok (.getfield 26, 3) := by decide +kernel
theorem jd_Branchwork_merge_132 : decode mi_Branchwork_merge.2.1 132 = .ok (.invokevirtual 194, 3) := by decide +kernel
theorem jd_Branchwork_merge_135 : decode mi_Branchwork_merge.2.1 135 = .ok (.invokevirtual 177, 3) := by decide +kernel
theorem jd_Branchwork_merge_138 : decode mi_Branchwork_merge.2.1 138 = .ok (.aload_n 0, 1) := by decide +kernel
theorem jd_Branchwork_merge_139 : decode mi_Branchwork_merge.2.1 139 = .ok (.getfield 33, 3) := by decide +kernel
theorem jd_Branchwork_merge_142 : decode mi_Branchwork_merge.2.1 142 = .ok (.aload_n 0, 1) := by decide +kernel
theorem jd_Branchwork_merge_143 : decode mi_Branchwork_merge.2.1 143 = .ok (.getfield 26, 3) := by decide +kernel
theorem jd_Branchwork_merge_146 : decode mi_Branchwork_merge.2.1 146 = .ok (.invokevirtual 198, 3) := by decide +kernel
theorem jd_Branchwork_merge_149 : decode mi_Branchwork_merge.2.1 149 = .ok (.invokevirtual 202, 3) := by decide +kernel
theorem jd_Branchwork_merge_152 : decode mi_Branchwork_merge.2.1 152 = .ok (.aload_n 0, 1) := by decide +kernel
theorem jd_Branchwork_merge_153 : decode mi_Branchwork_merge.2.1 153 = .ok (.iload_n 3, 1) := by decide +kernel
theorem jd_Branchwork_merge_154 : decode mi_Branchwork_merge.2.1 154 = .ok (.putfield 62, 3) := by decide +kernel
theorem jd_Branchwork_merge_157 : decode mi_Branchwork_merge.2.1 157 = .ok (.aload_n 0, 1) := by decide +kernel
theorem jd_Branchwork_merge_158 : decode mi_Branchwork_merge.2.1 158 = .ok (.getfield 33, 3) := by decide +kernel
theorem jd_Branchwork_merge_161 : decode mi_Branchwork_merge.2.1 161 = .ok (.invokevirtual 153, 3) := by decide +kernel
theorem jd_Branchwork_merge_164 : decode mi_Branchwork_merge.2.1 164 = .ok (.ireturn, 1) := by decide +kernel
theorem jd_Branchwork_settle_0 : decode mi_Branchwork_settle.2.1 0 = .ok (.aload_n 0, 1) := by decide +kernel
theorem jd_Branchwork_settle_1 : decode mi_Branchwork_settle.2.1 1 = .ok (.iload_n 1, 1) := by decide +kernel
theorem jd_Branchwork_settle_2 : decode mi_Branchwork_settle.2.1 2 = .ok (.invokevirtual 205, 3) := by decide +kernel
theorem jd_Branchwork_settle_5 : decode mi_Branchwork_settle.2.1 5 = .ok (.aload_n 0, 1) := by decide +kernel
theorem jd_Branchwork_settle_6 : decode mi_Branchwork_settle.2.1 6 = .ok (.getfield 33, 3) := by decide +kernel
theorem jd_Branchwork_settle_9 : decode mi_Branchwork_settle.2.1 9 = .ok (.iload_n 1, 1) := by decide +kernel
theorem jd_Branchwork_settle_10 : decode mi_Branchwork_settle.2.1 10 = .ok (.invokevirtual 208, 3) := by decide +kernel
theorem jd_Branchwork_settle_13 : decode mi_Branchwork_settle.2.1 13 = .ok (.aload_n 0, 1) := by decide +kernel
theorem jd_Branchwork_settle_14 : decode mi_Branchwork_settle.2.1 14 = .ok (.getfield 33, 3) := by decide +kernel
theorem jd_Branchwork_settle_17 : decode mi_Branchwork_settle.2.1 17 = .ok (.invokevirtual 153, 3) := by decide +kernel
theorem jd_Branchwork_settle_20 : decode mi_Branchwork_settle.2.1 20 = .ok (.ireturn, 1) := by decide +kernel
theorem fa_three (a b : Int32) : a < b ∨ a = b ∨ b < a := by
  rcases Int.lt_trichotomy a.toInt b.toInt with h | h | h
  · exact Or.inl (Int32.lt_iff_toInt_lt.mpr h)
  · exact Or.inr (Or.inl (Int32.toInt_inj.mp h))
  · exact Or.inr (Or.inr (Int32.lt_iff_toInt_lt.mpr h))
def jx_IO : String := "java/lang/IndexOutOfBoundsException"
def jx_IA : String := "java/lang/IllegalArgumentException"
def jx_IS : String := "java/lang/IllegalStateException"
abbrev jx_in (x : Int32) : Prop := ¬ x < 0 ∧ x < nI 12
theorem jx_in.nat {x : Int32} (h : jx_in x) : ∃ p, p < 12 ∧ x = nI p := by
  obtain ⟨j, hj, rfl⟩ := nI_of h.1
  exact ⟨j, (nI_ltI hj (by omega)).mp h.2, rfl⟩
theorem jx_out {x : Int32} (h : ¬ jx_in x) : x < 0 ∨ nI 12 ≤ x := by
  by_cases h0 : x < 0
  · exact Or.inl h0
  · refine Or.inr ?_
    by_cases h1 : x < nI 12
    · exact absurd ⟨h0, h1⟩ h
    · exact Int32.not_lt.mp h1
section
variable {o : jw_O} {μ : jw_Mem} {hs b : Nat}
theorem by_requirePath (x : Int32) : jw_SpX mi_Branchwork_requirePath 6 1 6 o [.int x] μ hs (fun v μ' s' => v = none ∧ μ' = μ ∧ s' = hs ∧ jx_in x) (fun E μ' s' => E = jx_IO ∧ μ' = μ ∧ ¬ jx_in x) := by
  refine jw_specX (by decide +kernel) (Nat.le_of_ble_eq_true rfl) rfl (fun k hR hX => ?_)
  have hE := hX.E
  refine jw_iload_n (pc' := 1) jd_Branchwork_requirePath_0 rfl rfl rfl ?_
  refine jw_if_lt (tgt := 10) (pc' := 4) jd_Branchwork_requirePath_1 (by decide) rfl (fun c => ?_) (fun c => ?_)
  · refine jw_throwSW hR hX jt_IndexOutOfBoundsException js_Branchwork_353 jd_Branchwork_requirePath_10 jd_Branchwork_requirePath_13 jd_Branchwork_requirePath_14 jd_Branchwork_requirePath_17 jd_Branchwork_requirePath_20 (Nat.le_of_ble_eq_true rfl) (by omega) (by omega) (by omega) (fun s9 hle9 => ?_)
    exact ⟨rfl, rfl, fun z => z.1 c⟩
  refine jw_iload_n (pc' := 5) jd_Branchwork_requirePath_4 rfl rfl rfl ?_
  refine jw_bipush (pc' := 7) (v := nI 12) jd_Branchwork_requirePath_5 (by decide +kernel) rfl ?_
  refine jw_icmp_lt (tgt := 21) (pc' := 10) jd_Branchwork_requirePath_7 (by decide) rfl (fun c2 => ?_) (fun c2 => ?_)
  · refine jw_vret hE jd_Branchwork_requirePath_21 rfl (by omega) (by omega) ?_
    exact ⟨rfl, rfl, rfl, c, c2⟩
  · refine jw_throwSW hR hX jt_IndexOutOfBoundsException js_Branchwork_353 jd_Branchwork_requirePath_10 jd_Branchwork_requirePath_13 jd_Branchwork_requirePath_14 jd_Branchwork_requirePath_17 jd_Branchwork_requirePath_20 (Nat.le_of_ble_eq_true rfl) (by omega) (by omega) (by omega) (fun s9 hle9 => ?_)
    exact ⟨rfl, rfl, fun z => c2 z.2⟩
theorem by_head (h : bw_New o μ b) : jw_Ro mi_Branchwork_head 0 o [.ref b] μ hs (some (.int (-1))) := by
  refine jw_ro (by decide +kernel) (Nat.le_of_ble_eq_true rfl) rfl (fun k hR hE => ?_)
  obtain ⟨h0, -, -, -, -, -, -, ⟨f, hf, hf1⟩⟩ := h
  have hf9 : μ (b + 983) = some (.inl (o.2.2.1 0, 5, .inl f)) := hf
  refine jw_aload_n (pc' := 1) jd_Branchwork_head_0 rfl rfl rfl ?_
  refine jw_get (pc' := 4) (kf := 6) jc_Branchwork (by decide) jq_289 jd_Branchwork_head_1 (by assumption) rfl rfl ?_
  refine jw_aload_n (pc' := 5) jd_Branchwork_head_4 rfl rfl rfl ?_
  refine jw_get (pc' := 8) (kf := 8) jc_Branchwork (by decide) jq_291 jd_Branchwork_head_5 (by assumption) rfl rfl ?_
  refine jw_iald (pc' := 9) (i := 0) jd_Branchwork_head_8 (by assumption) rfl (vp_in_nI (n := 0) (by omega) (by omega)) ((congrArg f (nI_clamp (n := 0) (by omega))).trans (hf1 0 (by omega))) rfl ?_
  refine jw_iret hE jd_Branchwork_head_9 rfl (by omega) (by omega) ?_
  exact ⟨rfl, rfl, rfl⟩
theorem by_treeOf {x : Int32} {N : Nat → Nat → Nat} {Z : Nat → Nat → Int32} {G : Nat → Nat → Nat → Int32} {nt f1 f2 tn cn : Nat → Int32} {c kp : Int32} (h : bh_At o μ b N Z G nt f1 f2 tn cn c kp) (hx : x < 0) : jw_Ro mi_History_treeOf 0 o [.ref b, .int x] μ hs (some (.ref (b + 2))) := by
  refine jw_ro (by decide +kernel) (Nat.le_of_ble_eq_true rfl) rfl (fun k hR hE => ?_)
  have h0 := h.1
  refine jw_iload_n (pc' := 1) jd_History_treeOf_0 rfl rfl rfl ?_
  refine jw_if_lt (tgt := 19) (pc' := 4) jd_History_treeOf_1 (by decide) rfl (fun c => ?_) (fun c => ?_)
  · refine jw_aload_n (pc' := 20) jd_History_treeOf_19 rfl rfl rfl ?_
    refine jw_get (pc' := 23) (kf := 1) jc_History (by decide) jq_134 jd_History_treeOf_20 (by assumption) rfl rfl ?_
    refine jw_aret hE jd_History_treeOf_23 rfl (by first | exact Or.inl ⟨_, rfl⟩ | exact Or.inr ⟨_, rfl⟩) (by first | exact Or.inr ⟨_, rfl⟩ | exact Or.inl rfl) (by omega) (by omega) ?_
    exact ⟨rfl, rfl, rfl⟩
  · exact absurd hx c
theorem by_zero : bt_same (fun _ => 0) (fun _ => 0) (fun _ => 0) (fun _ => 0) (fun _ _ => 0) (fun _ _ => 0) := fun p _ => ⟨rfl, rfl, fun j _ => rfl⟩
theorem by_isClean (h : bw_New o μ b) : jw_Ro mi_Branchwork_isClean 3 o [.ref b] μ hs (some (.int 1)) := by
  refine jw_ro (by decide +kernel) (Nat.le_of_ble_eq_true rfl) rfl (fun k hR hE => ?_)
  have hN := h
  obtain ⟨h0, hT, hH, -⟩ := h
  have hH0 := hH.1
  have hT0 := hT.1
  refine jw_aload_n (pc' := 1) jd_Branchwork_isClean_0 rfl rfl rfl ?_
  refine jw_get (pc' := 4) (kf := 0) jc_Branchwork (by decide) jq_283 jd_Branchwork_isClean_1 (by assumption) rfl rfl ?_
  refine jw_aload_n (pc' := 5) jd_Branchwork_isClean_4 rfl rfl rfl ?_
  refine jw_get (pc' := 8) (kf := 1) jc_Branchwork (by decide) jq_284 jd_Branchwork_isClean_5 (by assumption) rfl rfl ?_
  refine jw_aload_n (pc' := 9) jd_Branchwork_isClean_8 rfl rfl rfl ?_
  refine jw_callV0 (pc' := 12) hR (by_head hN) jm_Branchwork_head jq_494 jc_Branchwork jd_Branchwork_isClean_9 (by assumption) rfl rfl (Nat.le_of_ble_eq_true rfl) (by omega) (by decide) (by omega) (by omega) rfl rfl ?_
  refine jw_callV0 (pc' := 15) hR (by_treeOf hH (by decide)) jm_History_treeOf jq_531 jc_History jd_Branchwork_isClean_12 (by assumption) rfl rfl (Nat.le_of_ble_eq_true rfl) (by omega) (by decide) (by omega) (by omega) rfl rfl ?_
  refine jw_callV0 (pc' := 18) hR (bt_sameAs hT hH.2.2.1 (Or.inl ⟨rfl, by_zero⟩)) jm_Tree_sameAs jq_704 jc_Tree jd_Branchwork_isClean_15 (by assumption) rfl rfl (Nat.le_of_ble_eq_true rfl) (by omega) (by decide) (by omega) (by omega) rfl rfl ?_
  exact jw_zret hE jd_Branchwork_isClean_18 rfl (by decide) (by omega) (by omega) ⟨rfl, rfl, rfl⟩
theorem by_insert0 {a : Nat} {p y : Int32} {g : Nat → Int32} (h : bc_At o μ a 0 p g) : jw_Spec mi_Content_insert 0 0 0 o [.ref a, .int 0, .int y] μ hs (fun v μ' s' => v = none ∧ s' = hs ∧ (∃ g', bc_At o μ' a 1 1 g') ∧ jw_Fr μ μ' a 2) := by
  refine jw_spec (by decide +kernel) (Nat.le_of_ble_eq_true rfl) rfl (fun k hR hE => ?_)
  obtain ⟨ha, hb⟩ := h
  have hF : jw_Fr μ μ a 2 := jw_Fr.rf
  refine jw_iload_n (pc' := 1) jd_Content_insert_0 rfl rfl rfl ?_
  refine jw_if_lt (tgt := 21) (pc' := 4) jd_Content_insert_1 (by decide) rfl (fun c => ?_) (fun c => ?_)
  · exact absurd c (by decide)
  refine jw_iload_n (pc' := 5) jd_Content_insert_4 rfl rfl rfl ?_
  refine jw_aload_n (pc' := 6) jd_Content_insert_5 rfl rfl rfl ?_
  refine jw_get (pc' := 9) (kf := 1) jc_Content (by decide) jq_107 jd_Content_insert_6 (by assumption) rfl rfl ?_
  refine jw_icmp_gt (tgt := 21) (pc' := 12) jd_Content_insert_9 (by decide) rfl (fun c => ?_) (fun c => ?_)
  · exact absurd c (by decide)
  refine jw_aload_n (pc' := 13) jd_Content_insert_12 rfl rfl rfl ?_
  refine jw_get (pc' := 16) (kf := 1) jc_Content (by decide) jq_107 jd_Content_insert_13 (by assumption) rfl rfl ?_
  refine jw_bipush (pc' := 18) (v := nI 10) jd_Content_insert_16 (by decide +kernel) rfl ?_
  refine jw_icmp_lt (tgt := 22) (pc' := 21) jd_Content_insert_18 (by decide) rfl (fun c => ?_) (fun c => ?_)
  rotate_left
  · exact absurd (nI_lt (a := 0) (b := 10) (by omega) (by omega)) c
  refine jw_aload_n (pc' := 23) jd_Content_insert_22 rfl rfl rfl ?_
  refine jw_get (pc' := 26) (kf := 1) jc_Content (by decide) jq_107 jd_Content_insert_23 (by assumption) rfl rfl ?_
  refine jw_istore_n (pc' := 27) (lc' := [(0, _), (1, _), (2, _), (3, _)]) jd_Content_insert_26 rfl (Nat.le_of_ble_eq_true rfl) ⟨rfl, rfl, rfl, rfl, trivial⟩ rfl ?_
  refine jw_iload_n (pc' := 28) jd_Content_insert_27 rfl rfl rfl ?_
  refine jw_iload_n (pc' := 29) jd_Content_insert_28 rfl rfl rfl ?_
  refine jw_icmp_le (tgt := 52) (pc' := 32) jd_Content_insert_29 (by decide) rfl (fun c => ?_) (fun c => ?_)
  rotate_left
  · exact absurd (by decide : (nI 0 : Int32) ≤ 0) c
  refine jw_aload_n (pc' := 53) jd_Content_insert_52 rfl rfl rfl ?_
  refine jw_get (pc' := 56) (kf := 0) jc_Content (by decide) jq_106 jd_Content_insert_53 (by assumption) rfl rfl ?_
  refine jw_iload_n (pc' := 57) jd_Content_insert_56 rfl rfl rfl ?_
  refine jw_iload_n (pc' := 58) jd_Content_insert_57 rfl rfl rfl ?_
  refine jw_iast (pc' := 59) (i := 0) jd_Content_insert_58 (by assumption) rfl (vp_in_nI (n := 0) (by omega) (by omega)) rfl (fun μ hb f9 => ?_)
  have ha := (f9 _ (by omega)).trans ha
  have hF := jw_Fr.step hF f9 (by omega)
  refine jw_aload_n (pc' := 60) jd_Content_insert_59 rfl rfl rfl ?_
  refine jw_dup (pc' := 61) jd_Content_insert_60 rfl rfl ?_
  refine jw_get (pc' := 64) (kf := 1) jc_Content (by decide) jq_107 jd_Content_insert_61 (by assumption) rfl rfl ?_
  refine jw_iconst (pc' := 65) (v := nI 1) jd_Content_insert_64 (by decide +kernel) rfl ?_
  refine jw_iadd (pc' := 66) jd_Content_insert_65 (nI_1 0) rfl ?_
  refine jw_put (pc' := 69) (kf := 1) (ty := .int) (fs' := [_, _, _]) jc_Content (by decide) jq_107 jd_Content_insert_66 rfl (by decide +kernel) (by assumption) rfl rfl rfl (Nat.le_of_ble_eq_true rfl) rfl (fun μ ha f9 => ?_)
  have hb := (f9 _ (by omega)).trans hb
  have hF := jw_Fr.step hF f9 (by omega)
  refine jw_aload_n (pc' := 70) jd_Content_insert_69 rfl rfl rfl ?_
  refine jw_iconst (pc' := 71) (v := nI 1) jd_Content_insert_70 (by decide +kernel) rfl ?_
  refine jw_put (pc' := 74) (kf := 2) (ty := .boolean) (fs' := [_, _, _]) jc_Content (by decide) jq_108 jd_Content_insert_71 rfl (by decide +kernel) (by assumption) rfl rfl rfl (Nat.le_of_ble_eq_true rfl) rfl (fun μ ha f9 => ?_)
  have hb := (f9 _ (by omega)).trans hb
  have hF := jw_Fr.step hF f9 (by omega)
  refine jw_vret hE jd_Content_insert_74 rfl (by omega) (by omega) ?_
  exact ⟨rfl, rfl, ⟨_, ha, hb⟩, hF⟩
/-- the face's contracts on a new store: n is 0 (it returns v with r v) or the number of the exception among cs -/
def jy_F (mi : jw_M) (o : jw_O) (As : List Value) (μ : jw_Mem) (hs b : Nat) (cs : List String) (n : Nat) (r : Value) : Prop := jw_SpX mi 9 8 48 o As μ hs (fun v μ' s' => v = some r ∧ n = 0 ∧ jw_Fr μ μ' b 984) (fun E μ' s' => (∃ i, cs[i]? = some E ∧ n = i + 1) ∧ jw_Fr μ μ' b 984)
def kx_put (x y z : Int32) : Nat := if ¬ jx_in x ∨ y ≠ 0 then 1 else if z < 0 ∨ nI 99 < z then 2 else 0
theorem by_put (h : bw_New o μ b) (x y z : Int32) : jy_F mi_Branchwork_put o [.ref b, .int x, .int y, .int z] μ hs b [jx_IO, jx_IA, jx_IS] (kx_put x y z) (.int (nI 1)) := by
  refine jw_specX (by decide +kernel) (Nat.le_of_ble_eq_true rfl) rfl (fun k hR hX => ?_)
  have hE := hX.E
  obtain ⟨h0, hT, -⟩ := h
  have hT0 := hT.1
  have hF : jw_Fr μ μ b 984 := jw_Fr.rf
  refine jw_iload_n (pc' := 1) jd_Branchwork_put_0 rfl rfl rfl ?_
  refine jw_callSX (pc' := 4) hR (by_requirePath x) jm_Branchwork_requirePath jq_527 jd_Branchwork_put_1 rfl rfl (Nat.le_of_ble_eq_true rfl) (by omega) (by decide) (by omega) (by omega) rfl (fun E9 q9 μ s9 hΨ hle9 => jw_out hX (by omega) (by omega) ?_) (fun v μ9 s9 q9 hle => ?_)
  · obtain ⟨rfl, rfl, hin⟩ := hΨ
    exact ⟨⟨0, rfl, by unfold kx_put; rw [if_pos (Or.inl hin)]⟩, hF⟩
  obtain ⟨rfl, rfl, rfl, hin⟩ := q9
  obtain ⟨p, hp, rfl⟩ := hin.nat
  have hC := hT.2.2.2.1 p hp
  have hC0 := hC.1
  refine jw_aload_n (pc' := 5) jd_Branchwork_put_4 rfl rfl rfl ?_
  refine jw_get (pc' := 8) (kf := 0) jc_Branchwork (by decide) jq_283 jd_Branchwork_put_5 (by assumption) rfl rfl ?_
  refine jw_iload_n (pc' := 9) jd_Branchwork_put_8 rfl rfl rfl ?_
  refine jw_callV0 (pc' := 12) hR (bt_fileAt hT hp) jm_Tree_fileAt jq_532 jc_Tree jd_Branchwork_put_9 (by assumption) rfl rfl (Nat.le_of_ble_eq_true rfl) (by omega) (by decide) (by omega) (by omega) rfl rfl ?_
  refine jw_astore (pc' := 14) (lc' := [(0, _), (1, _), (2, _), (3, _), (4, _)]) jd_Branchwork_put_12 (Nat.le_of_ble_eq_true rfl) ⟨rfl, rfl, rfl, rfl, rfl, trivial⟩ rfl ?_
  refine jw_iload_n (pc' := 15) jd_Branchwork_put_14 rfl rfl rfl ?_
  refine jw_if_lt (tgt := 27) (pc' := 18) jd_Branchwork_put_15 (by decide) rfl (fun c => ?_) (fun c => ?_)
  · refine jw_throwS hR hX jt_IndexOutOfBoundsException js_Branchwork_87 jd_Branchwork_put_27 jd_Branchwork_put_30 jd_Branchwork_put_31 jd_Branchwork_put_33 jd_Branchwork_put_36 (Nat.le_of_ble_eq_true rfl) (by omega) (by omega) (by omega) (fun s9 hle9 => ?_)
    have hy : y ≠ 0 := fun e => by rw [e] at c; exact absurd c (by decide)
    exact ⟨⟨0, rfl, by unfold kx_put; rw [if_pos (Or.inr hy)]⟩, hF⟩
  refine jw_iload_n (pc' := 19) jd_Branchwork_put_18 rfl rfl rfl ?_
  refine jw_aload (pc' := 21) jd_Branchwork_put_19 rfl rfl ?_
  refine jw_callV0 (pc' := 24) hR (bc_length hC) jm_Content_length jq_548 jc_Content jd_Branchwork_put_21 (by assumption) rfl rfl (Nat.le_of_ble_eq_true rfl) (by omega) (by decide) (by omega) (by omega) rfl rfl ?_
  refine jw_icmp_le (tgt := 37) (pc' := 27) jd_Branchwork_put_24 (by decide) rfl (fun c1 => ?_) (fun c1 => ?_)
  rotate_left
  · refine jw_throwS hR hX jt_IndexOutOfBoundsException js_Branchwork_87 jd_Branchwork_put_27 jd_Branchwork_put_30 jd_Branchwork_put_31 jd_Branchwork_put_33 jd_Branchwork_put_36 (Nat.le_of_ble_eq_true rfl) (by omega) (by omega) (by omega) (fun s9 hle9 => ?_)
    have hy : y ≠ 0 := fun e => by rw [e] at c1; exact absurd (by decide : (0 : Int32) ≤ nI 0) c1
    exact ⟨⟨0, rfl, by unfold kx_put; rw [if_pos (Or.inr hy)]⟩, hF⟩
  have hy : y = 0 := by
    rcases fa_three y 0 with z1 | z1 | z1
    · exact absurd z1 c
    · exact z1
    · exact absurd c1 (Int32.not_le.mpr z1)
  subst hy
  have hn1 : ¬ (¬ jx_in (nI p) ∨ (0 : Int32) ≠ 0) := fun z => z.elim (fun z => z hin) (fun z => z rfl)
  refine jw_iload_n (pc' := 38) jd_Branchwork_put_37 rfl rfl rfl ?_
  refine jw_if_lt (tgt := 47) (pc' := 41) jd_Branchwork_put_38 (by decide) rfl (fun c2 => ?_) (fun c2 => ?_)
  · refine jw_throwS hR hX jt_IllegalArgumentException js_Branchwork_94 jd_Branchwork_put_47 jd_Branchwork_put_50 jd_Branchwork_put_51 jd_Branchwork_put_53 jd_Branchwork_put_56 (Nat.le_of_ble_eq_true rfl) (by omega) (by omega) (by omega) (fun s9 hle9 => ?_)
    exact ⟨⟨1, rfl, by unfold kx_put; rw [if_neg hn1, if_pos (Or.inl c2)]⟩, hF⟩
  refine jw_iload_n (pc' := 42) jd_Branchwork_put_41 rfl rfl rfl ?_
  refine jw_bipush (pc' := 44) (v := nI 99) jd_Branchwork_put_42 (by decide +kernel) rfl ?_
  refine jw_icmp_le (tgt := 57) (pc' := 47) jd_Branchwork_put_44 (by decide) rfl (fun c3 => ?_) (fun c3 => ?_)
  rotate_left
  · refine jw_throwS hR hX jt_IllegalArgumentException js_Branchwork_94 jd_Branchwork_put_47 jd_Branchwork_put_50 jd_Branchwork_put_51 jd_Branchwork_put_53 jd_Branchwork_put_56 (Nat.le_of_ble_eq_true rfl) (by omega) (by omega) (by omega) (fun s9 hle9 => ?_)
    exact ⟨⟨1, rfl, by unfold kx_put; rw [if_neg hn1, if_pos (Or.inr (Int32.not_le.mp c3))]⟩, hF⟩
  refine jw_aload (pc' := 59) jd_Branchwork_put_57 rfl rfl ?_
  refine jw_callV0 (pc' := 62) hR (bc_isFull hC (Nat.zero_le _)) jm_Content_isFull jq_609 jc_Content jd_Branchwork_put_59 (by assumption) rfl rfl (Nat.le_of_ble_eq_true rfl) (by omega) (by decide) (by omega) (by omega) rfl rfl ?_
  refine jw_if_eq (tgt := 75) (pc' := 65) jd_Branchwork_put_62 (by decide) rfl (fun c4 => ?_) (fun c4 => ?_)
  rotate_left
  · exact absurd rfl c4
  refine jw_aload (pc' := 77) jd_Branchwork_put_75 rfl rfl ?_
  refine jw_iload_n (pc' := 78) jd_Branchwork_put_77 rfl rfl rfl ?_
  refine jw_iload_n (pc' := 79) jd_Branchwork_put_78 rfl rfl rfl ?_
  refine jw_callV (pc' := 82) hR (by_insert0 hC) jm_Content_insert jq_629 jc_Content jd_Branchwork_put_79 (by assumption) rfl rfl (Nat.le_of_ble_eq_true rfl) (by omega) (by decide) (by omega) (by omega) rfl (fun v μ9 s9 q9 hle => ?_)
  obtain ⟨rfl, rfl, ⟨g', hC⟩, f9⟩ := q9
  have hF := hF.trans f9 (by omega) (by omega)
  have hC0 := hC.1
  refine jw_aload (pc' := 84) jd_Branchwork_put_82 rfl rfl ?_
  refine jw_callV0 (pc' := 87) hR (bc_length hC) jm_Content_length jq_548 jc_Content jd_Branchwork_put_84 (by assumption) rfl rfl (Nat.le_of_ble_eq_true rfl) (by omega) (by decide) (by omega) (by omega) rfl rfl ?_
  refine jw_iret hE jd_Branchwork_put_87 rfl (by omega) (by omega) ?_
  exact ⟨rfl, by unfold kx_put; rw [if_neg hn1, if_neg (fun z => z.elim c2 (fun z => absurd c3 (Int32.not_le.mpr z)))], hF⟩
end
