theorem jd_BranchworkModel_put_0 : decode mi_BranchworkModel_put.2.1 0 = .ok (.aload_n 0, 1) := by decide +kernel
theorem jd_BranchworkModel_put_1 : decode mi_BranchworkModel_put.2.1 1 = .ok (.iload_n 1, 1) := by decide +kernel
theorem jd_BranchworkModel_put_2 : decode mi_BranchworkModel_put.2.1 2 = .ok (.invokestatic 63, 3) := by decide +kernel
theorem jd_BranchworkModel_put_5 : decode mi_BranchworkModel_put.2.1 5 = .ok (.iconst 1, 1) := by decide +kernel
theorem jd_BranchworkModel_put_6 : decode mi_BranchworkModel_put.2.1 6 = .ok (.invokevirtual 108, 3) := by decide +kernel
theorem jd_BranchworkModel_put_9 : decode mi_BranchworkModel_put.2.1 9 = .ok (.ifCond .eq 5, 3) := by decide +kernel
theorem jd_BranchworkModel_put_12 : decode mi_BranchworkModel_put.2.1 12 = .ok (.iconst 0, 1) := by decide +kernel
theorem jd_BranchworkModel_put_13 : decode mi_BranchworkModel_put.2.1 13 = .ok (.ireturn, 1) := by decide +kernel
theorem jd_BranchworkModel_put_14 : decode mi_BranchworkModel_put.2.1 14 = .ok (.aload_n 0, 1) := by decide +kernel
theorem jd_BranchworkModel_put_15 : decode mi_BranchworkModel_put.2.1 15 = .ok (.getfield 40, 3) := by decide +kernel
theorem jd_BranchworkModel_put_18 : decode mi_BranchworkModel_put.2.1 18 = .ok (.iload_n 1, 1) := by decide +kernel
theorem jd_BranchworkModel_put_19 : decode mi_BranchworkModel_put.2.1 19 = .ok (.invokevirtual 67, 3) := by decide +kernel
theorem jd_BranchworkModel_put_22 : decode mi_BranchworkModel_put.2.1 22 = .ok (.ifCond .eq 15, 3) := by decide +kernel
theorem jd_BranchworkModel_put_25 : decode mi_BranchworkModel_put.2.1 25 = .ok (.aload_n 0, 1) := by decide +kernel
theorem jd_BranchworkModel_put_26 : decode mi_BranchworkModel_put.2.1 26 = .ok (.getfield 40, 3) := by decide +kernel
theorem jd_BranchworkModel_put_29 : decode mi_BranchworkModel_put.2.1 29 = .ok (.getfield 105, 3) := by decide +kernel
theorem jd_BranchworkModel_put_32 : decode mi_BranchworkModel_put.2.1 32 = .ok (.iload_n 1, 1) := by decide +kernel
theorem jd_BranchworkModel_put_33 : decode mi_BranchworkModel_put.2.1 33 = .ok (.aaload, 1) := by decide +kernel
theorem jd_BranchworkModel_put_34 : decode mi_BranchworkModel_put.2.1 34 = .ok (.goto 6, 3) := by decide +kernel
theorem jd_BranchworkModel_put_37 : decode mi_BranchworkModel_put.2.1 37 = .ok (.iconst 0, 1) := by decide +kernel
theorem jd_BranchworkModel_put_38 : decode mi_BranchworkModel_put.2.1 38 = .ok (.newarray .int, 2) := by decide +kernel
theorem jd_BranchworkModel_put_40 : decode mi_BranchworkModel_put.2.1 40 = .ok (.astore 4, 2) := by decide +kernel
theorem jd_BranchworkModel_put_42 : decode mi_BranchworkModel_put.2.1 42 = .ok (.aload_n 0, 1) := by decide +kernel
theorem jd_BranchworkModel_put_43 : decode mi_BranchworkModel_put.2.1 43 = .ok (.iload_n 2, 1) := by decide +kernel
theorem jd_BranchworkModel_put_44 : decode mi_BranchworkModel_put.2.1 44 = .ok (.iconst 0, 1) := by decide +kernel
theorem jd_BranchworkModel_put_45 : decode mi_BranchworkModel_put.2.1 45 = .ok (.aload 4, 2) := by decide +kernel
theorem jd_BranchworkModel_put_47 : decode mi_BranchworkModel_put.2.1 47 = .ok (.arraylength, 1) := by decide +kernel
theorem jd_BranchworkModel_put_48 : decode mi_BranchworkModel_put.2.1 48 = .ok (.invokestatic 59, 3) := by decide +kernel
theorem jd_BranchworkModel_put_51 : decode mi_BranchworkModel_put.2.1 51 = .ok (.ifCond .ne 7, 3) := by decide +kernel
theorem jd_BranchworkModel_put_54 : decode mi_BranchworkModel_put.2.1 54 = .ok (.iconst 1, 1) := by decide +kernel
theorem jd_BranchworkModel_put_55 : decode mi_BranchworkModel_put.2.1 55 = .ok (.goto 4, 3) := by decide +kernel
theorem jd_BranchworkModel_put_58 : decode mi_BranchworkModel_put.2.1 58 = .ok (.iconst 0, 1) := by decide +kernel
theorem jd_BranchworkModel_put_59 : decode mi_BranchworkModel_put.2.1 59 = .ok (.iconst 1, 1) := by decide +kernel
theorem jd_BranchworkModel_put_60 : decode mi_BranchworkModel_put.2.1 60 = .ok (.invokevirtual 55, 3) := by decide +kernel
theorem jd_BranchworkModel_put_63 : decode mi_BranchworkModel_put.2.1 63 = .ok (.ifCond .ne 47, 3) := by decide +kernel
theorem jd_BranchworkModel_put_66 : decode mi_BranchworkModel_put.2.1 66 = .ok (.aload_n 0, 1) := by decide +kernel
theorem jd_BranchworkModel_put_67 : decode mi_BranchworkModel_put.2.1 67 = .ok (.iload_n 3, 1) := by decide +kernel
theorem jd_BranchworkModel_put_68 : decode mi_BranchworkModel_put.2.1 68 = .ok (.iconst 0, 1) := by decide +kernel
theorem jd_BranchworkModel_put_69 : decode mi_BranchworkModel_put.2.1 69 = .ok (.bipush 99, 2) := by decide +kernel
theorem jd_BranchworkModel_put_71 : decode mi_BranchworkModel_put.2.1 71 = .ok (.invokestatic 59, 3) := by decide +kernel
theorem jd_BranchworkModel_put_74 : decode mi_BranchworkModel_put.2.1 74 = .ok (.ifCond .ne 7, 3) := by decide +kernel
theorem jd_BranchworkModel_put_77 : decode mi_BranchworkModel_put.2.1 77 = .ok (.iconst 1, 1) := by decide +kernel
theorem jd_BranchworkModel_put_78 : decode mi_BranchworkModel_put.2.1 78 = .ok (.goto 4, 3) := by decide +kernel
theorem jd_BranchworkModel_put_81 : decode mi_BranchworkModel_put.2.1 81 = .ok (.iconst 0, 1) := by decide +kernel
theorem jd_BranchworkModel_put_82 : decode mi_BranchworkModel_put.2.1 82 = .ok (.iconst 2, 1) := by decide +kernel
theorem jd_BranchworkModel_put_83 : decode mi_BranchworkModel_put.2.1 83 = .ok (.invokevirtual 55, 3) := by decide +kernel
theorem jd_BranchworkModel_put_86 : decode mi_BranchworkModel_put.2.1 86 = .ok (.ifCond .ne 24, 3) := by decide +kernel
theorem jd_BranchworkModel_put_89 : decode mi_BranchworkModel_put.2.1 89 = .ok (.aload_n 0, 1) := by decide +kernel
theorem jd_BranchworkModel_put_90 : decode mi_BranchworkModel_put.2.1 90 = .ok (.aload 4, 2) := by decide +kernel
theorem jd_BranchworkModel_put_92 : decode mi_BranchworkModel_put.2.1 92 = .ok (.arraylength, 1) := by decide +kernel
theorem jd_BranchworkModel_put_93 : decode mi_BranchworkModel_put.2.1 93 = .ok (.bipush 10, 2) := by decide +kernel
theorem jd_BranchworkModel_put_95 : decode mi_BranchworkModel_put.2.1 95 = .ok (.if_icmp .ne 7, 3) := by decide +kernel
theorem jd_BranchworkModel_put_98 : decode mi_BranchworkModel_put.2.1 98 = .ok (.iconst 1, 1) := by decide +kernel
theorem jd_BranchworkModel_put_99 : decode mi_BranchworkModel_put.2.1 99 = .ok (.goto 4, 3) := by decide +kernel
theorem jd_BranchworkModel_put_102 : decode mi_BranchworkModel_put.2.1 102 = .ok (.iconst 0, 1) := by decide +kernel
theorem jd_BranchworkModel_put_103 : decode mi_BranchworkModel_put.2.1 103 = .ok (.iconst 3, 1) := by decide +kernel
theorem jd_BranchworkModel_put_104 : decode mi_BranchworkModel_put.2.1 104 = .ok (.invokevirtual 55, 3) := by decide +kernel
theorem jd_BranchworkModel_put_107 : decode mi_BranchworkModel_put.2.1 107 = .ok (.ifCond .eq 5, 3) := by decide +kernel
theorem jd_BranchworkModel_put_110 : decode mi_BranchworkModel_put.2.1 110 = .ok (.iconst 0, 1) := by decide +kernel
theorem jd_BranchworkModel_put_111 : decode mi_BranchworkModel_put.2.1 111 = .ok (.ireturn, 1) := by decide +kernel
theorem jd_BranchworkModel_put_112 : decode mi_BranchworkModel_put.2.1 112 = .ok (.aload_n 0, 1) := by decide +kernel
theorem jd_BranchworkModel_put_113 : decode mi_BranchworkModel_put.2.1 113 = .ok (.iload_n 1, 1) := by decide +kernel
theorem jd_BranchworkModel_put_114 : decode mi_BranchworkModel_put.2.1 114 = .ok (.aload 4, 2) := by decide +kernel
theorem jd_BranchworkModel_put_116 : decode mi_BranchworkModel_put.2.1 116 = .ok (.iconst 0, 1) := by decide +kernel
theorem jd_BranchworkModel_put_117 : decode mi_BranchworkModel_put.2.1 117 = .ok (.iload_n 2, 1) := by decide +kernel
theorem jd_BranchworkModel_put_118 : decode mi_BranchworkModel_put.2.1 118 = .ok (.invokestatic 111, 3) := by decide +kernel
theorem jd_BranchworkModel_put_121 : decode mi_BranchworkModel_put.2.1 121 = .ok (.iconst 1, 1) := by decide +kernel
theorem jd_BranchworkModel_put_122 : decode mi_BranchworkModel_put.2.1 122 = .ok (.newarray .int, 2) := by decide +kernel
theorem jd_BranchworkModel_put_124 : decode mi_BranchworkModel_put.2.1 124 = .ok (.dup, 1) := by decide +kernel
theorem jd_BranchworkModel_put_125 : decode mi_BranchworkModel_put.2.1 125 = .ok (.iconst 0, 1) := by decide +kernel
theorem jd_BranchworkModel_put_126 : decode mi_BranchworkModel_put.2.1 126 = .ok (.iload_n 3, 1) := by decide +kernel
theorem jd_BranchworkModel_put_127 : decode mi_BranchworkModel_put.2.1 127 = .ok (.iastore, 1) := by decide +kernel
theorem jd_BranchworkModel_put_128 : decode mi_BranchworkModel_put.2.1 128 = .ok (.invokestatic 115, 3) := by decide +kernel
theorem jd_BranchworkModel_put_131 : decode mi_BranchworkModel_put.2.1 131 = .ok (.aload 4, 2) := by decide +kernel
theorem jd_BranchworkModel_put_133 : decode mi_BranchworkModel_put.2.1 133 = .ok (.iload_n 2, 1) := by decide +kernel
theorem jd_BranchworkModel_put_134 : decode mi_BranchworkModel_put.2.1 134 = .ok (.aload 4, 2) := by decide +kernel
theorem jd_BranchworkModel_put_136 : decode mi_BranchworkModel_put.2.1 136 = .ok (.arraylength, 1) := by decide +kernel
theorem jd_BranchworkModel_put_137 : decode mi_BranchworkModel_put.2.1 137 = .ok (.invokestatic 111, 3) := by decide +kernel
theorem jd_BranchworkModel_put_140 : decode mi_BranchworkModel_put.2.1 140 = .ok (.invokestatic 115, 3) := by decide +kernel
theorem jd_BranchworkModel_put_143 : decode mi_BranchworkModel_put.2.1 143 = .ok (.invokevirtual 118, 3) := by decide +kernel
theorem jd_BranchworkModel_put_146 : decode mi_BranchworkModel_put.2.1 146 = .ok (.aload 4, 2) := by decide +kernel
theorem jd_BranchworkModel_put_148 : decode mi_BranchworkModel_put.2.1 148 = .ok (.arraylength, 1) := by decide +kernel
theorem jd_BranchworkModel_put_149 : decode mi_BranchworkModel_put.2.1 149 = .ok (.iconst 1, 1) := by decide +kernel
theorem jd_BranchworkModel_put_150 : decode mi_BranchworkModel_put.2.1 150 = .ok (.iadd, 1) := by decide +kernel
theorem jd_BranchworkModel_put_151 : decode mi_BranchworkModel_put.2.1 151 = .ok (.ireturn, 1) := by decide +kernel
theorem jd_BranchworkModel_cut0_0 : decode mi_BranchworkModel_cut0.2.1 0 = .ok (.aload_n 0, 1) := by decide +kernel
theorem jd_BranchworkModel_cut0_1 : decode mi_BranchworkModel_cut0.2.1 1 = .ok (.aload_n 0, 1) := by decide +kernel
theorem jd_BranchworkModel_cut0_2 : decode mi_BranchworkModel_cut0.2.1 2 = .ok (.iload_n 1, 1) := by decide +kernel
theorem jd_BranchworkModel_cut0_3 : decode mi_BranchworkModel_cut0.2.1 3 = .ok (.invokevirtual 122, 3) := by decide +kernel
theorem jd_BranchworkModel_cut0_6 : decode mi_BranchworkModel_cut0.2.1 6 = .ok (.iconst 1, 1) := by decide +kernel
theorem jd_BranchworkModel_cut0_7 : decode mi_BranchworkModel_cut0.2.1 7 = .ok (.invokevirtual 108, 3) := by decide +kernel
theorem jd_BranchworkModel_cut0_10 : decode mi_BranchworkModel_cut0.2.1 10 = .ok (.ifCond .ne 36, 3) := by decide +kernel
theorem jd_BranchworkModel_cut0_13 : decode mi_BranchworkModel_cut0.2.1 13 = .ok (.aload_n 0, 1) := by decide +kernel
theorem jd_BranchworkModel_cut0_14 : decode mi_BranchworkModel_cut0.2.1 14 = .ok (.iload_n 2, 1) := by decide +kernel
theorem jd_BranchworkModel_cut0_15 : decode mi_BranchworkModel_cut0.2.1 15 = .ok (.iconst 0, 1) := by decide +kernel
theorem jd_BranchworkModel_cut0_16 : decode mi_BranchworkModel_cut0.2.1 16 = .ok (.aload_n 0, 1) := by decide +kernel
theorem jd_BranchworkModel_cut0_17 : decode mi_BranchworkModel_cut0.2.1 17 = .ok (.getfield 40, 3) := by decide +kernel
theorem jd_BranchworkModel_cut0_20 : decode mi_BranchworkModel_cut0.2.1 20 = .ok (.getfield 105, 3) := by decide +kernel
theorem jd_BranchworkModel_cut0_23 : decode mi_BranchworkModel_cut0.2.1 23 = .ok (.iload_n 1, 1) := by decide +kernel
theorem jd_BranchworkModel_cut0_24 : decode mi_BranchworkModel_cut0.2.1 24 = .ok (.aaload, 1) := by decide +kernel
theorem jd_BranchworkModel_cut0_25 : decode mi_BranchworkModel_cut0.2.1 25 = .ok (.arraylength, 1) := by decide +kernel
theorem jd_BranchworkModel_cut0_26 : decode mi_BranchworkModel_cut0.2.1 26 = .ok (.iconst 1, 1) := by decide +kernel
theorem jd_BranchworkModel_cut0_27 : decode mi_BranchworkModel_cut0.2.1 27 = .ok (.isub, 1) := by decide +kernel
theorem jd_BranchworkModel_cut0_28 : decode mi_BranchworkModel_cut0.2.1 28 = .ok (.invokestatic 59, 3) := by decide +kernel
theorem jd_BranchworkModel_cut0_31 : decode mi_BranchworkModel_cut0.2.1 31 = .ok (.ifCond .ne 7, 3) := by decide +kernel
theorem jd_BranchworkModel_cut0_34 : decode mi_BranchworkModel_cut0.2.1 34 = .ok (.iconst 1, 1) := by decide +kernel
theorem jd_BranchworkModel_cut0_35 : decode mi_BranchworkModel_cut0.2.1 35 = .ok (.goto 4, 3) := by decide +kernel
theorem jd_BranchworkModel_cut0_38 : decode mi_BranchworkModel_cut0.2.1 38 = .ok (.iconst 0, 1) := by decide +kernel
theorem jd_BranchworkModel_cut0_39 : decode mi_BranchworkModel_cut0.2.1 39 = .ok (.iconst 1, 1) := by decide +kernel
theorem jd_BranchworkModel_cut0_40 : decode mi_BranchworkModel_cut0.2.1 40 = .ok (.invokevirtual 55, 3) := by decide +kernel
theorem jd_BranchworkModel_cut0_43 : decode mi_BranchworkModel_cut0.2.1 43 = .ok (.ifCond .eq 5, 3) := by decide +kernel
theorem jd_BranchworkModel_cut0_46 : decode mi_BranchworkModel_cut0.2.1 46 = .ok (.iconst 0, 1) := by decide +kernel
theorem jd_BranchworkModel_cut0_47 : decode mi_BranchworkModel_cut0.2.1 47 = .ok (.ireturn, 1) := by decide +kernel
theorem jd_BranchworkModel_cut0_48 : decode mi_BranchworkModel_cut0.2.1 48 = .ok (.aload_n 0, 1) := by decide +kernel
theorem jd_BranchworkModel_cut0_49 : decode mi_BranchworkModel_cut0.2.1 49 = .ok (.getfield 40, 3) := by decide +kernel
theorem jd_BranchworkModel_cut0_52 : decode mi_BranchworkModel_cut0.2.1 52 = .ok (.getfield 105, 3) := by decide +kernel
theorem jd_BranchworkModel_cut0_55 : decode mi_BranchworkModel_cut0.2.1 55 = .ok (.iload_n 1, 1) := by decide +kernel
theorem jd_BranchworkModel_cut0_56 : decode mi_BranchworkModel_cut0.2.1 56 = .ok (.aaload, 1) := by decide +kernel
theorem jd_BranchworkModel_cut0_57 : decode mi_BranchworkModel_cut0.2.1 57 = .ok (.astore_n 3, 1) := by decide +kernel
theorem jd_BranchworkModel_cut0_58 : decode mi_BranchworkModel_cut0.2.1 58 = .ok (.aload_n 0, 1) := by decide +kernel
theorem jd_BranchworkModel_cut0_59 : decode mi_BranchworkModel_cut0.2.1 59 = .ok (.iload_n 1, 1) := by decide +kernel
theorem jd_BranchworkModel_cut0_60 : decode mi_BranchworkModel_cut0.2.1 60 = .ok (.aload_n 3, 1) := by decide +kernel
theorem jd_BranchworkModel_cut0_61 : decode mi_BranchworkModel_cut0.2.1 61 = .ok (.iconst 0, 1) := by decide +kernel
theorem jd_BranchworkModel_cut0_62 : decode mi_BranchworkModel_cut0.2.1 62 = .ok (.iload_n 2, 1) := by decide +kernel
theorem jd_BranchworkModel_cut0_63 : decode mi_BranchworkModel_cut0.2.1 63 = .ok (.invokestatic 111, 3) := by decide +kernel
theorem jd_BranchworkModel_cut0_66 : decode mi_BranchworkModel_cut0.2.1 66 = .ok (.aload_n 3, 1) := by decide +kernel
theorem jd_BranchworkModel_cut0_67 : decode mi_BranchworkModel_cut0.2.1 67 = .ok (.iload_n 2, 1) := by decide +kernel
theorem jd_BranchworkModel_cut0_68 : decode mi_BranchworkModel_cut0.2.1 68 = .ok (.iconst 1, 1) := by decide +kernel
theorem jd_BranchworkModel_cut0_69 : decode mi_BranchworkModel_cut0.2.1 69 = .ok (.iadd, 1) := by decide +kernel
theorem jd_BranchworkModel_cut0_70 : decode mi_BranchworkModel_cut0.2.1 70 = .ok (.aload_n 3, 1) := by decide +kernel
theorem jd_BranchworkModel_cut0_71 : decode mi_BranchworkModel_cut0.2.1 71 = .ok (.arraylength, 1) := by decide +kernel
theorem jd_BranchworkModel_cut0_72 : decode mi_BranchworkModel_cut0.2.1 72 = .ok (.invokestatic 111, 3) := by decide +kernel
theorem jd_BranchworkModel_cut0_75 : decode mi_BranchworkModel_cut0.2.1 75 = .ok (.invokestatic 115, 3) := by decide +kernel
theorem jd_BranchworkModel_cut0_78 : decode mi_BranchworkModel_cut0.2.1 78 = .ok (.invokevirtual 118, 3) := by decide +kernel
theorem jd_BranchworkModel_cut0_81 : decode mi_BranchworkModel_cut0.2.1 81 = .ok (.aload_n 3, 1) := by decide +kernel
theorem jd_BranchworkModel_cut0_82 : decode mi_BranchworkModel_cut0.2.1 82 = .ok (.arraylength, 1) := by decide +kernel
theorem jd_BranchworkModel_cut0_83 : decode mi_BranchworkModel_cut0.2.1 83 = .ok (.iconst 1, 1) := by decide +kernel
theorem jd_BranchworkModel_cut0_84 : decode mi_BranchworkModel_cut0.2.1 84 = .ok (.isub, 1) := by decide +kernel
theorem jd_BranchworkModel_cut0_85 : decode mi_BranchworkModel_cut0.2.1 85 = .ok (.ireturn, 1) := by decide +kernel
theorem jd_BranchworkModel_rename_0 : decode mi_BranchworkModel_rename.2.1 0 = .ok (.aload_n 0, 1) := by decide +kernel
theorem jd_BranchworkModel_rename_1 : decode mi_BranchworkModel_rename.2.1 1 = .ok (.aload_n 0, 1) := by decide +kernel
theorem jd_BranchworkModel_rename_2 : decode mi_BranchworkModel_rename.2.1 2 = .ok (.iload_n 1, 1) := by decide +kernel
theorem jd_BranchworkModel_rename_3 : decode mi_BranchworkModel_rename.2.1 3 = .ok (.invokevirtual 122, 3) := by decide +kernel
theorem jd_BranchworkModel_rename_6 : decode mi_BranchworkModel_rename.2.1 6 = .ok (.ifCond .ne 10, 3) := by decide +kernel
theorem jd_BranchworkModel_rename_9 : decode mi_BranchworkModel_rename.2.1 9 = .ok (.iload_n 2, 1) := by decide +kernel
theorem jd_BranchworkModel_rename_10 : decode mi_BranchworkModel_rename.2.1 10 = .ok (.invokestatic 63, 3) := by decide +kernel
theorem jd_BranchworkModel_rename_13 : decode mi_BranchworkModel_rename.2.1 13 = .ok (.ifCond .eq 7, 3) := by decide +kernel
theorem jd_BranchworkModel_rename_16 : decode mi_BranchworkModel_rename.2.1 16 = .ok (.iconst 1, 1) := by decide +kernel
theorem jd_BranchworkModel_rename_17 : decode mi_BranchworkModel_rename.2.1 17 = .ok (.goto 4, 3) := by decide +kernel
theorem jd_BranchworkModel_rename_20 : decode mi_BranchworkModel_rename.2.1 20 = .ok (.iconst 0, 1) := by decide +kernel
theorem jd_BranchworkModel_rename_21 : decode mi_BranchworkModel_rename.2.1 21 = .ok (.iconst 1, 1) := by decide +kernel
theorem jd_BranchworkModel_rename_22 : decode mi_BranchworkModel_rename.2.1 22 = .ok (.invokevirtual 108, 3) := by decide +kernel
theorem jd_BranchworkModel_rename_25 : decode mi_BranchworkModel_rename.2.1 25 = .ok (.ifCond .ne 19, 3) := by decide +kernel
theorem jd_BranchworkModel_rename_28 : decode mi_BranchworkModel_rename.2.1 28 = .ok (.aload_n 0, 1) := by decide +kernel
theorem jd_BranchworkModel_rename_29 : decode mi_BranchworkModel_rename.2.1 29 = .ok (.aload_n 0, 1) := by decide +kernel
theorem jd_BranchworkModel_rename_30 : decode mi_BranchworkModel_rename.2.1 30 = .ok (.getfield 40, 3) := by decide +kernel
theorem jd_BranchworkModel_rename_33 : decode mi_BranchworkModel_rename.2.1 33 = .ok (.iload_n 2, 1) := by decide +kernel
theorem jd_BranchworkModel_rename_34 : decode mi_BranchworkModel_rename.2.1 34 = .ok (.invokevirtual 67, 3) := by decide +kernel
theorem jd_BranchworkModel_rename_37 : decode mi_BranchworkModel_rename.2.1 37 = .ok (.iconst 2, 1) := by decide +kernel
theorem jd_BranchworkModel_rename_38 : decode mi_BranchworkModel_rename.2.1 38 = .ok (.invokevirtual 55, 3) := by decide +kernel
theorem jd_BranchworkModel_rename_41 : decode mi_BranchworkModel_rename.2.1 41 = .ok (.ifCond .eq 5, 3) := by decide +kernel
theorem jd_BranchworkModel_rename_44 : decode mi_BranchworkModel_rename.2.1 44 = .ok (.iconst 0, 1) := by decide +kernel
theorem jd_BranchworkModel_rename_45 : decode mi_BranchworkModel_rename.2.1 45 = .ok (.ireturn, 1) := by decide +kernel
theorem jd_BranchworkModel_rename_46 : decode mi_BranchworkModel_rename.2.1 46 = .ok (.aload_n 0, 1) := by decide +kernel
theorem jd_BranchworkModel_rename_47 : decode mi_BranchworkModel_rename.2.1 47 = .ok (.getfield 40, 3) := by decide +kernel
theorem jd_BranchworkModel_rename_50 : decode mi_BranchworkModel_rename.2.1 50 = .ok (.getfield 105, 3) := by decide +kernel
theorem jd_BranchworkModel_rename_53 : decode mi_BranchworkModel_rename.2.1 53 = .ok (.iload_n 1, 1) := by decide +kernel
theorem jd_BranchworkModel_rename_54 : decode mi_BranchworkModel_rename.2.1 54 = .ok (.aaload, 1) := by decide +kernel
theorem jd_BranchworkModel_rename_55 : decode mi_BranchworkModel_rename.2.1 55 = .ok (.astore_n 3, 1) := by decide +kernel
theorem jd_BranchworkModel_rename_56 : decode mi_BranchworkModel_rename.2.1 56 = .ok (.aload_n 0, 1) := by decide +kernel
theorem jd_BranchworkModel_rename_57 : decode mi_BranchworkModel_rename.2.1 57 = .ok (.iload_n 2, 1) := by decide +kernel
theorem jd_BranchworkModel_rename_58 : decode mi_BranchworkModel_rename.2.1 58 = .ok (.aload_n 3, 1) := by decide +kernel
theorem jd_BranchworkModel_rename_59 : decode mi_BranchworkModel_rename.2.1 59 = .ok (.invokevirtual 118, 3) := by decide +kernel
theorem jd_BranchworkModel_rename_62 : decode mi_BranchworkModel_rename.2.1 62 = .ok (.aload_n 0, 1) := by decide +kernel
theorem jd_BranchworkModel_rename_63 : decode mi_BranchworkModel_rename.2.1 63 = .ok (.iload_n 1, 1) := by decide +kernel
theorem jd_BranchworkModel_rename_64 : decode mi_BranchworkModel_rename.2.1 64 = .ok (.aconst_null, 1) := by decide +kernel
theorem jd_BranchworkModel_rename_65 : decode mi_BranchworkModel_rename.2.1 65 = .ok (.invokevirtual 118, 3) := by decide +kernel
theorem jd_BranchworkModel_rename_68 : decode mi_BranchworkModel_rename.2.1 68 = .ok (.aload_n 3, 1) := by decide +kernel
theorem jd_BranchworkModel_rename_69 : decode mi_BranchworkModel_rename.2.1 69 = .ok (.arraylength, 1) := by decide +kernel
theorem jd_BranchworkModel_rename_70 : decode mi_BranchworkModel_rename.2.1 70 = .ok (.ireturn, 1) := by decide +kernel
theorem jd_BranchworkModel_remove_0 : decode mi_BranchworkModel_remove.2.1 0 = .ok (.aload_n 0, 1) := by decide +kernel
theorem jd_BranchworkModel_remove_1 : decode mi_BranchworkModel_remove.2.1 1 = .ok (.aload_n 0, 1) := by decide +kernel
theorem jd_BranchworkModel_remove_2 : decode mi_BranchworkModel_remove.2.1 2 = .ok (.iload_n 1, 1) := by decide +kernel
theorem jd_BranchworkModel_remove_3 : decode mi_BranchworkModel_remove.2.1 3 = .ok (.invokevirtual 122, 3) := by decide +kernel
theorem jd_BranchworkModel_remove_6 : decode mi_BranchworkModel_remove.2.1 6 = .ok (.iconst 1, 1) := by decide +kernel
theorem jd_BranchworkModel_remove_7 : decode mi_BranchworkModel_remove.2.1 7 = .ok (.invokevirtual 108, 3) := by decide +kernel
theorem jd_BranchworkModel_remove_10 : decode mi_BranchworkModel_remove.2.1 10 = .ok (.ifCond .eq 5, 3) := by decide +kernel
theorem jd_BranchworkModel_remove_13 : decode mi_BranchworkModel_remove.2.1 13 = .ok (.iconst 0, 1) := by decide +kernel
theorem jd_BranchworkModel_remove_14 : decode mi_BranchworkModel_remove.2.1 14 = .ok (.ireturn, 1) := by decide +kernel
theorem jd_BranchworkModel_remove_15 : decode mi_BranchworkModel_remove.2.1 15 = .ok (.aload_n 0, 1) := by decide +kernel
theorem jd_BranchworkModel_remove_16 : decode mi_BranchworkModel_remove.2.1 16 = .ok (.iload_n 1, 1) := by decide +kernel
theorem jd_BranchworkModel_remove_17 : decode mi_BranchworkModel_remove.2.1 17 = .ok (.aconst_null, 1) := by decide +kernel
theorem jd_BranchworkModel_remove_18 : decode mi_BranchworkModel_remove.2.1 18 = .ok (.invokevirtual 118, 3) := by decide +kernel
theorem jd_BranchworkModel_remove_21 : decode mi_BranchworkModel_remove.2.1 21 = .ok (.aload_n 0, 1) := by decide +kernel
theorem jd_BranchworkModel_remove_22 : decode mi_BranchworkModel_remove.2.1 22 = .ok (.getfield 40, 3) := by decide +kernel
theorem jd_BranchworkModel_remove_25 : decode mi_BranchworkModel_remove.2.1 25 = .ok (.invokevirtual 125, 3) := by decide +kernel
theorem jd_BranchworkModel_remove_28 : decode mi_BranchworkModel_remove.2.1 28 = .ok (.ireturn, 1) := by decide +kernel
theorem jd_BranchworkModel_status_0 : decode mi_BranchworkModel_status.2.1 0 = .ok (.aload_n 0, 1) := by decide +kernel
theorem jd_BranchworkModel_status_1 : decode mi_BranchworkModel_status.2.1 1 = .ok (.iload_n 1, 1) := by decide +kernel
theorem jd_BranchworkModel_status_2 : decode mi_BranchworkModel_status.2.1 2 = .ok (.invokestatic 63, 3) := by decide +kernel
theorem jd_BranchworkModel_status_5 : decode mi_BranchworkModel_status.2.1 5 = .ok (.iconst 1, 1) := by decide +kernel
theorem jd_BranchworkModel_status_6 : decode mi_BranchworkModel_status.2.1 6 = .ok (.invokevirtual 108, 3) := by decide +kernel
theorem jd_BranchworkModel_status_9 : decode mi_BranchworkModel_status.2.1 9 = .ok (.ifCond .eq 7, 3) := by decide +kernel
theorem jd_BranchworkModel_status_12 : decode mi_BranchworkModel_status.2.1 12 = .ok (.iconst 0, 1) := by decide +kernel
theorem jd_BranchworkModel_status_13 : decode mi_BranchworkModel_status.2.1 13 = .ok (.goto 8, 3) := by decide +kernel
theorem jd_BranchworkModel_status_16 : decode mi_BranchworkModel_status.2.1 16 = .ok (.aload_n 0, 1) := by decide +kernel
theorem jd_BranchworkModel_status_17 : decode mi_BranchworkModel_status.2.1 17 = .ok (.iload_n 1, 1) := by decide +kernel
theorem jd_BranchworkModel_status_18 : decode mi_BranchworkModel_status.2.1 18 = .ok (.invokevirtual 130, 3) := by decide +kernel
theorem jd_BranchworkModel_status_21 : decode mi_BranchworkModel_status.2.1 21 = .ok (.ireturn, 1) := by decide +kernel
theorem jd_BranchworkModel_commit_0 : decode mi_BranchworkModel_commit.2.1 0 = .ok (.aload_n 0, 1) := by decide +kernel
theorem jd_BranchworkModel_commit_1 : decode mi_BranchworkModel_commit.2.1 1 = .ok (.iload_n 1, 1) := by decide +kernel
theorem jd_BranchworkModel_commit_2 : decode mi_BranchworkModel_commit.2.1 2 = .ok (.iconst 0, 1) := by decide +kernel
theorem jd_BranchworkModel_commit_3 : decode mi_BranchworkModel_commit.2.1 3 = .ok (.sipush 999, 3) := by decide +kernel
theorem jd_BranchworkModel_commit_6 : decode mi_BranchworkModel_commit.2.1 6 = .ok (.invokestatic 59, 3) := by decide +kernel
theorem jd_BranchworkModel_commit_9 : decode mi_BranchworkModel_commit.2.1 9 = .ok (.ifCond .ne 7, 3) := by decide +kernel
theorem jd_BranchworkModel_commit_12 : decode mi_BranchworkModel_commit.2.1 12 = .ok (.iconst 1, 1) := by decide +kernel
theorem jd_BranchworkModel_commit_13 : decode mi_BranchworkModel_commit.2.1 13 = .ok (.goto 4, 3) := by decide +kernel
theorem jd_BranchworkModel_commit_16 : decode mi_BranchworkModel_commit.2.1 16 = .ok (.iconst 0, 1) := by decide +kernel
theorem jd_BranchworkModel_commit_17 : decode mi_BranchworkModel_commit.2.1 17 = .ok (.iconst 1, 1) := by decide +kernel
theorem jd_BranchworkModel_commit_18 : decode mi_BranchworkModel_commit.2.1 18 = .ok (.invokevirtual 108, 3) := by decide +kernel
theorem jd_BranchworkModel_commit_21 : decode mi_BranchworkModel_commit.2.1 21 = .ok (.ifCond .ne 52, 3) := by decide +kernel
theorem jd_BranchworkModel_commit_24 : decode mi_BranchworkModel_commit.2.1 24 = .ok (.aload_n 0, 1) := by decide +kernel
theorem jd_BranchworkModel_commit_25 : decode mi_BranchworkModel_commit.2.1 25 = .ok (.aload_n 0, 1) := by decide +kernel
theorem jd_BranchworkModel_commit_26 : decode mi_BranchworkModel_commit.2.1 26 = .ok (.getfield 30, 3) := by decide +kernel
theorem jd_BranchworkModel_commit_29 : decode mi_BranchworkModel_commit.2.1 29 = .ok (.invokevirtual 70, 3) := by decide +kernel
theorem jd_BranchworkModel_commit_32 : decode mi_BranchworkModel_commit.2.1 32 = .ok (.bipush 30, 2) := by decide +kernel
theorem jd_BranchworkModel_commit_34 : decode mi_BranchworkModel_commit.2.1 34 = .ok (.if_icmp .eq 27, 3) := by decide +kernel
theorem jd_BranchworkModel_commit_37 : decode mi_BranchworkModel_commit.2.1 37 = .ok (.aload_n 0, 1) := by decide +kernel
theorem jd_BranchworkModel_commit_38 : decode mi_BranchworkModel_commit.2.1 38 = .ok (.getfield 44, 3) := by decide +kernel
theorem jd_BranchworkModel_commit_41 : decode mi_BranchworkModel_commit.2.1 41 = .ok (.invokevirtual 138, 3) := by decide +kernel
theorem jd_BranchworkModel_commit_44 : decode mi_BranchworkModel_commit.2.1 44 = .ok (.ifCond .eq 17, 3) := by decide +kernel
theorem jd_BranchworkModel_commit_47 : decode mi_BranchworkModel_commit.2.1 47 = .ok (.aload_n 0, 1) := by decide +kernel
theorem jd_BranchworkModel_commit_48 : decode mi_BranchworkModel_commit.2.1 48 = .ok (.invokevirtual 142, 3) := by decide +kernel
theorem jd_BranchworkModel_commit_51 : decode mi_BranchworkModel_commit.2.1 51 = .ok (.ifCond .eq 14, 3) := by decide +kernel
theorem jd_BranchworkModel_commit_54 : decode mi_BranchworkModel_commit.2.1 54 = .ok (.aload_n 0, 1) := by decide +kernel
theorem jd_BranchworkModel_commit_55 : decode mi_BranchworkModel_commit.2.1 55 = .ok (.getfield 145, 3) := by decide +kernel
theorem jd_BranchworkModel_commit_58 : decode mi_BranchworkModel_commit.2.1 58 = .ok (.ifnonnull 7, 3) := by decide +kernel
theorem jd_BranchworkModel_commit_61 : decode mi_BranchworkModel_commit.2.1 61 = .ok (.iconst 1, 1) := by decide +kernel
theorem jd_BranchworkModel_commit_62 : decode mi_BranchworkModel_commit.2.1 62 = .ok (.goto 4, 3) := by decide +kernel
theorem jd_BranchworkModel_commit_65 : decode mi_BranchworkModel_commit.2.1 65 = .ok (.iconst 0, 1) := by decide +kernel
theorem jd_BranchworkModel_commit_66 : decode mi_BranchworkModel_commit.2.1 66 = .ok (.iconst 2, 1) := by decide +kernel
theorem jd_BranchworkModel_commit_67 : decode mi_BranchworkModel_commit.2.1 67 = .ok (.invokevirtual 55, 3) := by decide +kernel
theorem jd_BranchworkModel_commit_70 : decode mi_BranchworkModel_commit.2.1 70 = .ok (.ifCond .eq 5, 3) := by decide +kernel
theorem jd_BranchworkModel_commit_73 : decode mi_BranchworkModel_commit.2.1 73 = .ok (.iconst 0, 1) := by decide +kernel
theorem jd_BranchworkModel_commit_74 : decode mi_BranchworkModel_commit.2.1 74 = .ok (.ireturn, 1) := by decide +kernel
theorem jd_BranchworkModel_commit_75 : decode mi_BranchworkModel_commit.2.1 75 = .ok (.new 78, 3) := by decide +kernel
theorem jd_BranchworkModel_commit_78 : decode mi_BranchworkModel_commit.2.1 78 = .ok (.dup, 1) := by decide +kernel
theorem jd_BranchworkModel_commit_79 : decode mi_BranchworkModel_commit.2.1 79 = .ok (.aload_n 0, 1) := by decide +kernel
theorem jd_BranchworkModel_commit_80 : decode mi_BranchworkModel_commit.2.1 80 = .ok (.getfield 30, 3) := by decide +kernel
theorem jd_BranchworkModel_commit_83 : decode mi_BranchworkModel_commit.2.1 83 = .ok (.invokevirtual 70, 3) := by decide +kernel
theorem jd_BranchworkModel_commit_86 : decode mi_BranchworkModel_commit.2.1 86 = .ok (.aload_n 0, 1) := by decide +kernel
theorem jd_BranchworkModel_commit_87 : decode mi_BranchworkModel_commit.2.1 87 = .ok (.getfield 40, 3) := by decide +kernel
theorem jd_BranchworkModel_commit_90 : decode mi_BranchworkModel_commit.2.1 90 = .ok (.iload_n 1, 1) := by decide +kernel
theorem jd_BranchworkModel_commit_91 : decode mi_BranchworkModel_commit.2.1 91 = .ok (.aload_n 0, 1) := by decide +kernel
theorem jd_BranchworkModel_commit_92 : decode mi_BranchworkModel_commit.2.1 92 = .ok (.invokevirtual 87, 3) := by decide +kernel
theorem jd_BranchworkModel_commit_95 : decode mi_BranchworkModel_commit.2.1 95 = .ok (.aload_n 0, 1) := by decide +kernel
theorem jd_BranchworkModel_commit_96 : decode mi_BranchworkModel_commit.2.1 96 = .ok (.getfield 145, 3) := by decide +kernel
theorem jd_BranchworkModel_commit_99 : decode mi_BranchworkModel_commit.2.1 99 = .ok (.invokespecial 149, 3) := by decide +kernel
theorem jd_BranchworkModel_commit_102 : decode mi_BranchworkModel_commit.2.1 102 = .ok (.astore_n 2, 1) := by decide +kernel
theorem jd_BranchworkModel_commit_103 : decode mi_BranchworkModel_commit.2.1 103 = .ok (.aload_n 0, 1) := by decide +kernel
theorem jd_BranchworkModel_commit_104 : decode mi_BranchworkModel_commit.2.1 104 = .ok (.getfield 30, 3) := by decide +kernel
theorem jd_BranchworkModel_commit_107 : decode mi_BranchworkModel_commit.2.1 107 = .ok (.aload_n 2, 1) := by decide +kernel
theorem jd_BranchworkModel_commit_108 : decode mi_BranchworkModel_commit.2.1 108 = .ok (.invokevirtual 47, 3) := by decide +kernel
theorem jd_BranchworkModel_commit_111 : decode mi_BranchworkModel_commit.2.1 111 = .ok (.pop, 1) := by decide +kernel
theorem jd_BranchworkModel_commit_112 : decode mi_BranchworkModel_commit.2.1 112 = .ok (.aload_n 0, 1) := by decide +kernel
theorem jd_BranchworkModel_commit_113 : decode mi_BranchworkModel_commit.2.1 113 = .ok (.aconst_null, 1) := by decide +kernel
theorem jd_BranchworkModel_commit_114 : decode mi_BranchworkModel_commit.2.1 114 = .ok (.putfield 145, 3) := by decide +kernel
theorem jd_BranchworkModel_commit_117 : decode mi_BranchworkModel_commit.2.1 117 = .ok (.aload_n 0, 1) := by decide +kernel
theorem jd_BranchworkModel_commit_118 : decode mi_BranchworkModel_commit.2.1 118 = .ok (.getfield 34, 3) := by decide +kernel
theorem jd_BranchworkModel_commit_121 : decode mi_BranchworkModel_commit.2.1 121 = .ok (.aload_n 0, 1) := by decide +kernel
theorem jd_BranchworkModel_commit_122 : decode mi_BranchworkModel_commit.2.1 122 = .ok (.getfield 84, 3) := by decide +kernel
theorem jd_BranchworkModel_commit_125 : decode mi_BranchworkModel_commit.2.1 125 = .ok (.aload_n 2, 1) := by decide +kernel
theorem jd_BranchworkModel_commit_126 : decode mi_BranchworkModel_commit.2.1 126 = .ok (.invokevirtual 134, 3) := by decide +kernel
theorem jd_BranchworkModel_commit_129 : decode mi_BranchworkModel_commit.2.1 129 = .ok (.pop, 1) := by decide +kernel
theorem jd_BranchworkModel_commit_130 : decode mi_BranchworkModel_commit.2.1 130 = .ok (.aload_n 2, 1) := by decide +kernel
theorem jd_BranchworkModel_commit_131 : decode mi_BranchworkModel_commit.2.1 131 = .ok (.getfield 152, 3) := by decide +kernel
theorem jd_BranchworkModel_commit_134 : decode mi_BranchworkModel_commit.2.1 134 = .ok (.ireturn, 1) := by decide +kernel
theorem jd_BranchworkModel_branch_0 : decode mi_BranchworkModel_branch.2.1 0 = .ok (.aload_n 0, 1) := by decide +kernel
theorem jd_BranchworkModel_branch_1 : decode mi_BranchworkModel_branch.2.1 1 = .ok (.aload_n 0, 1) := by decide +kernel
theorem jd_BranchworkModel_branch_2 : decode mi_BranchworkModel_branch.2.1 2 = .ok (.invokevirtual 87, 3) := by decide +kernel
theorem jd_BranchworkModel_branch_5 : decode mi_BranchworkModel_branch.2.1 5 = .ok (.ifnull 14, 3) := by decide +kernel
theorem jd_BranchworkModel_branch_8 : decode mi_BranchworkModel_branch.2.1 8 = .ok (.aload_n 0, 1) := by decide +kernel
theorem jd_BranchworkModel_branch_9 : decode mi_BranchworkModel_branch.2.1 9 = .ok (.getfield 34, 3) := by decide +kernel
theorem jd_BranchworkModel_branch_12 : decode mi_BranchworkModel_branch.2.1 12 = .ok (.invokevirtual 70, 3) := by decide +kernel
theorem jd_BranchworkModel_branch_15 : decode mi_BranchworkModel_branch.2.1 15 = .ok (.iconst 5, 1) := by decide +kernel
theorem jd_BranchworkModel_branch_16 : decode mi_BranchworkModel_branch.2.1 16 = .ok (.if_icmp .ne 7, 3) := by decide +kernel
theorem jd_BranchworkModel_branch_19 : decode mi_BranchworkModel_branch.2.1 19 = .ok (.iconst 1, 1) := by decide +kernel
theorem jd_BranchworkModel_branch_20 : decode mi_BranchworkModel_branch.2.1 20 = .ok (.goto 4, 3) := by decide +kernel
theorem jd_BranchworkModel_branch_23 : decode mi_BranchworkModel_branch.2.1 23 = .ok (.iconst 0, 1) := by decide +kernel
theorem jd_BranchworkModel_branch_24 : decode mi_BranchworkModel_branch.2.1 24 = .ok (.iconst 1, 1) := by decide +kernel
theorem jd_BranchworkModel_branch_25 : decode mi_BranchworkModel_branch.2.1 25 = .ok (.invokevirtual 108, 3) := by decide +kernel
theorem jd_BranchworkModel_branch_28 : decode mi_BranchworkModel_branch.2.1 28 = .ok (.ifCond .eq 5, 3) := by decide +kernel
theorem jd_BranchworkModel_branch_31 : decode mi_BranchworkModel_branch.2.1 31 = .ok (.iconst 0, 1) := by decide +kernel
theorem jd_BranchworkModel_branch_32 : decode mi_BranchworkModel_branch.2.1 32 = .ok (.ireturn, 1) := by decide +kernel
theorem jd_BranchworkModel_branch_33 : decode mi_BranchworkModel_branch.2.1 33 = .ok (.aload_n 0, 1) := by decide +kernel
theorem jd_BranchworkModel_branch_34 : decode mi_BranchworkModel_branch.2.1 34 = .ok (.getfield 34, 3) := by decide +kernel
theorem jd_BranchworkModel_branch_37 : decode mi_BranchworkModel_branch.2.1 37 = .ok (.aload_n 0, 1) := by decide +kernel
theorem jd_BranchworkModel_branch_38 : decode mi_BranchworkModel_branch.2.1 38 = .ok (.invokevirtual 87, 3) := by decide +kernel
theorem jd_BranchworkModel_branch_41 : decode mi_BranchworkModel_branch.2.1 41 = .ok (.invokevirtual 47, 3) := by decide +kernel
theorem jd_BranchworkModel_branch_44 : decode mi_BranchworkModel_branch.2.1 44 = .ok (.pop, 1) := by decide +kernel
theorem jd_BranchworkModel_branch_45 : decode mi_BranchworkModel_branch.2.1 45 = .ok (.aload_n 0, 1) := by decide +kernel
theorem jd_BranchworkModel_branch_46 : decode mi_BranchworkModel_branch.2.1 46 = .ok (.getfield 34, 3) := by decide +kernel
theorem jd_BranchworkModel_branch_49 : decode mi_BranchworkModel_branch.2.1 49 = .ok (.invokevirtual 70, 3) := by decide +kernel
theorem jd_BranchworkModel_branch_52 : decode mi_BranchworkModel_branch.2.1 52 = .ok (.iconst 1, 1) := by decide +kernel
theorem jd_BranchworkModel_branch_53 : decode mi_BranchworkModel_branch.2.1 53 = .ok (.isub, 1) := by decide +kernel
theorem jd_BranchworkModel_branch_54 : decode mi_BranchworkModel_branch.2.1 54 = .ok (.ireturn, 1) := by decide +kernel
theorem jd_BranchworkModel_change_0 : decode mi_BranchworkModel_change.2.1 0 = .ok (.aload_n 0, 1) := by decide +kernel
theorem jd_BranchworkModel_change_1 : decode mi_BranchworkModel_change.2.1 1 = .ok (.iload_n 1, 1) := by decide +kernel
theorem jd_BranchworkModel_change_2 : decode mi_BranchworkModel_change.2.1 2 = .ok (.invokevirtual 155, 3) := by decide +kernel
theorem jd_BranchworkModel_change_5 : decode mi_BranchworkModel_change.2.1 5 = .ok (.ifCond .ne 30, 3) := by decide +kernel
theorem jd_BranchworkModel_change_8 : decode mi_BranchworkModel_change.2.1 8 = .ok (.aload_n 0, 1) := by decide +kernel
theorem jd_BranchworkModel_change_9 : decode mi_BranchworkModel_change.2.1 9 = .ok (.aload_n 0, 1) := by decide +kernel
theorem jd_BranchworkModel_change_10 : decode mi_BranchworkModel_change.2.1 10 = .ok (.invokevirtual 142, 3) := by decide +kernel
theorem jd_BranchworkModel_change_13 : decode mi_BranchworkModel_change.2.1 13 = .ok (.ifCond .eq 10, 3) := by decide +kernel
theorem jd_BranchworkModel_change_16 : decode mi_BranchworkModel_change.2.1 16 = .ok (.aload_n 0, 1) := by decide +kernel
theorem jd_BranchworkModel_change_17 : decode mi_BranchworkModel_change.2.1 17 = .ok (.getfield 145, 3) := by decide +kernel
theorem jd_BranchworkModel_change_20 : decode mi_BranchworkModel_change.2.1 20 = .ok (.ifnull 7, 3) := by decide +kernel
theorem jd_BranchworkModel_change_23 : decode mi_BranchworkModel_change.2.1 23 = .ok (.iconst 1, 1) := by decide +kernel
theorem jd_BranchworkModel_change_24 : decode mi_BranchworkModel_change.2.1 24 = .ok (.goto 4, 3) := by decide +kernel
theorem jd_BranchworkModel_change_27 : decode mi_BranchworkModel_change.2.1 27 = .ok (.iconst 0, 1) := by decide +kernel
theorem jd_BranchworkModel_change_28 : decode mi_BranchworkModel_change.2.1 28 = .ok (.iconst 2, 1) := by decide +kernel
theorem jd_BranchworkModel_change_29 : decode mi_BranchworkModel_change.2.1 29 = .ok (.invokevirtual 55, 3) := by decide +kernel
theorem jd_BranchworkModel_change_32 : decode mi_BranchworkModel_change.2.1 32 = .ok (.ifCond .eq 5, 3) := by decide +kernel
theorem jd_BranchworkModel_change_35 : decode mi_BranchworkModel_change.2.1 35 = .ok (.iconst 0, 1) := by decide +kernel
theorem jd_BranchworkModel_change_36 : decode mi_BranchworkModel_change.2.1 36 = .ok (.ireturn, 1) := by decide +kernel
theorem jd_BranchworkModel_change_37 : decode mi_BranchworkModel_change.2.1 37 = .ok (.aload_n 0, 1) := by decide +kernel
theorem jd_BranchworkModel_change_38 : decode mi_BranchworkModel_change.2.1 38 = .ok (.getfield 84, 3) := by decide +kernel
theorem jd_BranchworkModel_change_41 : decode mi_BranchworkModel_change.2.1 41 = .ok (.istore_n 2, 1) := by decide +kernel
theorem jd_BranchworkModel_change_42 : decode mi_BranchworkModel_change.2.1 42 = .ok (.aload_n 0, 1) := by decide +kernel
theorem jd_BranchworkModel_change_43 : decode mi_BranchworkModel_change.2.1 43 = .ok (.iload_n 1, 1) := by decide +kernel
theorem jd_BranchworkModel_change_44 : decode mi_BranchworkModel_change.2.1 44 = .ok (.putfield 84, 3) := by decide +kernel
theorem jd_BranchworkModel_change_47 : decode mi_BranchworkModel_change.2.1 47 = .ok (.aload_n 0, 1) := by decide +kernel
theorem jd_BranchworkModel_change_48 : decode mi_BranchworkModel_change.2.1 48 = .ok (.aload_n 0, 1) := by decide +kernel
theorem jd_BranchworkModel_change_49 : decode mi_BranchworkModel_change.2.1 49 = .ok (.invokevirtual 94, 3) := by decide +kernel
theorem jd_BranchworkModel_change_52 : decode mi_BranchworkModel_change.2.1 52 = .ok (.putfield 40, 3) := by decide +kernel
theorem jd_BranchworkModel_change_55 : decode mi_BranchworkModel_change.2.1 55 = .ok (.iload_n 2, 1) := by decide +kernel
theorem jd_BranchworkModel_change_56 : decode mi_BranchworkModel_change.2.1 56 = .ok (.ireturn, 1) := by decide +kernel
theorem jd_BranchworkModel_reset_0 : decode mi_BranchworkModel_reset.2.1 0 = .ok (.aload_n 0, 1) := by decide +kernel
theorem jd_BranchworkModel_reset_1 : decode mi_BranchworkModel_reset.2.1 1 = .ok (.aload_n 0, 1) := by decide +kernel
theorem jd_BranchworkModel_reset_2 : decode mi_BranchworkModel_reset.2.1 2 = .ok (.iload_n 1, 1) := by decide +kernel
theorem jd_BranchworkModel_reset_3 : decode mi_BranchworkModel_reset.2.1 3 = .ok (.invokevirtual 158, 3) := by decide +kernel
theorem jd_BranchworkModel_reset_6 : decode mi_BranchworkModel_reset.2.1 6 = .ok (.iconst 1, 1) := by decide +kernel
theorem jd_BranchworkModel_reset_7 : decode mi_BranchworkModel_reset.2.1 7 = .ok (.invokevirtual 108, 3) := by decide +kernel
theorem jd_BranchworkModel_reset_10 : decode mi_BranchworkModel_reset.2.1 10 = .ok (.ifCond .eq 5, 3) := by decide +kernel
theorem jd_BranchworkModel_reset_13 : decode mi_BranchworkModel_reset.2.1 13 = .ok (.iconst 0, 1) := by decide +kernel
theorem jd_BranchworkModel_reset_14 : decode mi_BranchworkModel_reset.2.1 14 = .ok (.ireturn, 1) := by decide +kernel
theorem jd_BranchworkModel_reset_15 : decode mi_BranchworkModel_reset.2.1 15 = .ok (.aload_n 0, 1) := by decide +kernel
theorem jd_BranchworkModel_reset_16 : decode mi_BranchworkModel_reset.2.1 16 = .ok (.invokevirtual 87, 3) := by decide +kernel
theorem jd_BranchworkModel_reset_19 : decode mi_BranchworkModel_reset.2.1 19 = .ok (.ifnonnull 7, 3) := by decide +kernel
theorem jd_BranchworkModel_reset_22 : decode mi_BranchworkModel_reset.2.1 22 = .ok (.iconst (-1), 1) := by decide +kernel
theorem jd_BranchworkModel_reset_23 : decode mi_BranchworkModel_reset.2.1 23 = .ok (.goto 10, 3) := by decide +kernel
theorem jd_BranchworkModel_reset_26 : decode mi_BranchworkModel_reset.2.1 26 = .ok (.aload_n 0, 1) := by decide +kernel
theorem jd_BranchworkModel_reset_27 : decode mi_BranchworkModel_reset.2.1 27 = .ok (.invokevirtual 87, 3) := by decide +kernel
theorem jd_BranchworkModel_reset_30 : decode mi_BranchworkModel_reset.2.1 30 = .ok (.getfield 152, 3) := by decide +kernel
theorem jd_BranchworkModel_reset_33 : decode mi_BranchworkModel_reset.2.1 33 = .ok (.istore_n 2, 1) := by decide +kernel
theorem jd_BranchworkModel_reset_34 : decode mi_BranchworkModel_reset.2.1 34 = .ok (.aload_n 0, 1) := by decide +kernel
theorem jd_BranchworkModel_reset_35 : decode mi_BranchworkModel_reset.2.1 35 = .ok (.aload_n 0, 1) := by decide +kernel
theorem jd_BranchworkModel_reset_36 : decode mi_BranchworkModel_reset.2.1 36 = .ok (.getfield 30, 3) := by decide +kernel
theorem jd_BranchworkModel_reset_39 : decode mi_BranchworkModel_reset.2.1 39 = .ok (.iload_n 1, 1) := by decide +kernel
theorem jd_BranchworkModel_reset_40 : decode mi_BranchworkModel_reset.2.1 40 = .ok (.invokevirtual 74, 3) := by decide +kernel
theorem jd_BranchworkModel_reset_43 : decode mi_BranchworkModel_reset.2.1 43 = .ok (.checkcast 78, 3) := by decide +kernel
theorem jd_BranchworkModel_reset_46 : decode mi_BranchworkModel_reset.2.1 46 = .ok (.invokevirtual 161, 3) := by decide +kernel
theorem jd_BranchworkModel_reset_49 : decode mi_BranchworkModel_reset.2.1 49 = .ok (.aload_n 0, 1) := by decide +kernel
theorem jd_BranchworkModel_reset_50 : decode mi_BranchworkModel_reset.2.1 50 = .ok (.aconst_null, 1) := by decide +kernel
theorem jd_BranchworkModel_reset_51 : decode mi_BranchworkModel_reset.2.1 51 = .ok (.putfield 145, 3) := by decide +kernel
theorem jd_BranchworkModel_reset_54 : decode mi_BranchworkModel_reset.2.1 54 = .ok (.aload_n 0, 1) := by decide +kernel
theorem jd_BranchworkModel_reset_55 : decode mi_BranchworkModel_reset.2.1 55 = .ok (.getfield 44, 3) := by decide +kernel
theorem jd_BranchworkModel_reset_58 : decode mi_BranchworkModel_reset.2.1 58 = .ok (.invokevirtual 164, 3) := by decide +kernel
theorem jd_BranchworkModel_reset_61 : decode mi_BranchworkModel_reset.2.1 61 = .ok (.iload_n 2, 1) := by decide +kernel
theorem jd_BranchworkModel_reset_62 : decode mi_BranchworkModel_reset.2.1 62 = .ok (.ireturn, 1) := by decide +kernel
theorem jd_BranchworkModel_merge_0 : decode mi_BranchworkModel_merge.2.1 0 = .ok (.aload_n 0, 1) := by decide +kernel
theorem jd_BranchworkModel_merge_1 : decode mi_BranchworkModel_merge.2.1 1 = .ok (.iload_n 1, 1) := by decide +kernel
theorem jd_BranchworkModel_merge_2 : decode mi_BranchworkModel_merge.2.1 2 = .ok (.invokevirtual 155, 3) := by decide +kernel
theorem jd_BranchworkModel_merge_5 : decode mi_BranchworkModel_merge.2.1 5 = .ok (.ifCond .ne 37, 3) := by decide +kernel
theorem jd_BranchworkModel_merge_8 : decode mi_BranchworkModel_merge.2.1 8 = .ok (.aload_n 0, 1) := by decide +kernel
theorem jd_BranchworkModel_merge_9 : decode mi_BranchworkModel_merge.2.1 9 = .ok (.aload_n 0, 1) := by decide +kernel
theorem jd_BranchworkModel_merge_10 : decode mi_BranchworkModel_merge.2.1 10 = .ok (.invokevirtual 87, 3) := by decide +kernel
theorem jd_BranchworkModel_merge_13 : decode mi_BranchworkModel_merge.2.1 13 = .ok (.ifnull 17, 3) := by decide +kernel
theorem jd_BranchworkModel_merge_16 : decode mi_BranchworkModel_merge.2.1 16 = .ok (.aload_n 0, 1) := by decide +kernel
theorem jd_BranchworkModel_merge_17 : decode mi_BranchworkModel_merge.2.1 17 = .ok (.invokevirtual 142, 3) := by decide +kernel
theorem jd_BranchworkModel_merge_20 : decode mi_BranchworkModel_merge.2.1 20 = .ok (.ifCond .eq 10, 3) := by decide +kernel
theorem jd_BranchworkModel_merge_23 : decode mi_BranchworkModel_merge.2.1 23 = .ok (.aload_n 0, 1) := by decide +kernel
theorem jd_BranchworkModel_merge_24 : decode mi_BranchworkModel_merge.2.1 24 = .ok (.getfield 145, 3) := by decide +kernel
theorem jd_BranchworkModel_merge_27 : decode mi_BranchworkModel_merge.2.1 27 = .ok (.ifnull 7, 3) := by decide +kernel
theorem jd_BranchworkModel_merge_30 : decode mi_BranchworkModel_merge.2.1 30 = .ok (.iconst 1, 1) := by decide +kernel
theorem jd_BranchworkModel_merge_31 : decode mi_BranchworkModel_merge.2.1 31 = .ok (.goto 4, 3) := by decide +kernel
theorem jd_BranchworkModel_merge_34 : decode mi_BranchworkModel_merge.2.1 34 = .ok (.iconst 0, 1) := by decide +kernel
theorem jd_BranchworkModel_merge_35 : decode mi_BranchworkModel_merge.2.1 35 = .ok (.iconst 2, 1) := by decide +kernel
theorem jd_BranchworkModel_merge_36 : decode mi_BranchworkModel_merge.2.1 36 = .ok (.invokevirtual 55, 3) := by decide +kernel
theorem jd_BranchworkModel_merge_39 : decode mi_BranchworkModel_merge.2.1 39 = .ok (.ifCond .eq 5, 3) := by decide +kernel
theorem jd_BranchworkModel_merge_42 : decode mi_BranchworkModel_merge.2.1 42 = .ok (.iconst 0, 1) := by decide +kernel
theorem jd_BranchworkModel_merge_43 : decode mi_BranchworkModel_merge.2.1 43 = .ok (.ireturn, 1) := by decide +kernel
theorem jd_BranchworkModel_merge_44 : decode mi_BranchworkModel_merge.2.1 44 = .ok (.aload_n 0, 1) := by decide +kernel
theorem jd_BranchworkModel_merge_45 : decode mi_BranchworkModel_merge.2.1 45 = .ok (.getfield 34, 3) := by decide +kernel
theorem jd_BranchworkModel_merge_48 : decode mi_BranchworkModel_merge.2.1 48 = .ok (.iload_n 1, 1) := by decide +kernel
theorem jd_BranchworkModel_merge_49 : decode mi_BranchworkModel_merge.2.1 49 = .ok (.invokevirtual 74, 3) := by decide +kernel
theorem jd_BranchworkModel_merge_52 : decode mi_BranchworkModel_merge.2.1 52 = .ok (.checkcast 78, 3) := by decide +kernel
theorem jd_BranchworkModel_merge_55 : decode mi_BranchworkModel_merge.2.1 55 = .ok (.astore_n 2, 1) := by decide +kernel
theorem jd_BranchworkModel_merge_56 : decode mi_BranchworkModel_merge.2.1 56 = .ok (.aload_n 0, 1) := by decide +kernel
theorem jd_BranchworkModel_merge_57 : decode mi_BranchworkModel_merge.2.1 57 = .ok (.invokevirtual 87, 3) := by decide +kernel
theorem jd_BranchworkModel_merge_60 : decode mi_BranchworkModel_merge.2.1 60 = .ok (.aload_n 2, 1) := by decide +kernel
theorem jd_BranchworkModel_merge_61 : decode mi_BranchworkModel_merge.2.1 61 = .ok (.invokevirtual 167, 3) := by decide +kernel
theorem jd_BranchworkModel_merge_64 : decode mi_BranchworkModel_merge.2.1 64 = .ok (.ifCond .eq 5, 3) := by decide +kernel
theorem jd_BranchworkModel_merge_67 : decode mi_BranchworkModel_merge.2.1 67 = .ok (.iconst (-1), 1) := by decide +kernel
theorem jd_BranchworkModel_merge_68 : decode mi_BranchworkModel_merge.2.1 68 = .ok (.ireturn, 1) := by decide +kernel
theorem jd_BranchworkModel_merge_69 : decode mi_BranchworkModel_merge.2.1 69 = .ok (.aload_n 2, 1) := by decide +kernel
theorem jd_BranchworkModel_merge_70 : decode mi_BranchworkModel_merge.2.1 70 = .ok (.aload_n 0, 1) := by decide +kernel
theorem jd_BranchworkModel_merge_71 : decode mi_BranchworkModel_merge.2.1 71 = .ok (.invokevirtual 87, 3) := by decide +kernel
theorem jd_BranchworkModel_merge_74 : decode mi_BranchworkModel_merge.2.1 74 = .ok (.invokevirtual 167, 3) := by decide +kernel
theorem jd_BranchworkModel_merge_77 : decode mi_BranchworkModel_merge.2.1 77 = .ok (.ifCond .eq 11, 3) := by decide +kernel
theorem jd_BranchworkModel_merge_80 : decode mi_BranchworkModel_merge.2.1 80 = .ok (.aload_n 0, 1) := by decide +kernel
theorem jd_BranchworkModel_merge_81 : decode mi_BranchworkModel_merge.2.1 81 = .ok (.aload_n 2, 1) := by decide +kernel
theorem jd_BranchworkModel_merge_82 : decode mi_BranchworkModel_merge.2.1 82 = .ok (.invokevirtual 161, 3) := by decide +kernel
theorem jd_BranchworkModel_merge_85 : decode mi_BranchworkModel_merge.2.1 85 = .ok (.bipush (-2), 2) := by decide +kernel
theorem jd_BranchworkModel_merge_87 : decode mi_BranchworkModel_merge.2.1 87 = .ok (.ireturn, 1) := by decide +kernel
theorem jd_BranchworkModel_merge_88 : decode mi_BranchworkModel_merge.2.1 88 = .ok (.new 171, 3) := by decide +kernel
theorem jd_BranchworkModel_merge_91 : decode mi_BranchworkModel_merge.2.1 91 = .ok (.dup, 1) := by decide +kernel
theorem jd_BranchworkModel_merge_92 : decode mi_BranchworkModel_merge.2.1 92 = .ok (.aload_n 0, 1) := by decide +kernel
theorem jd_BranchworkModel_merge_93 : decode mi_BranchworkModel_merge.2.1 93 = .ok (.aload_n 0, 1) := by decide +kernel
theorem jd_BranchworkModel_merge_94 : decode mi_BranchworkModel_merge.2.1 94 = .ok (.invokevirtual 87, 3) := by decide +kernel
theorem jd_BranchworkModel_merge_97 : decode mi_BranchworkModel_merge.2.1 97 = .ok (.aload_n 2, 1) := by decide +kernel
theorem jd_BranchworkModel_merge_98 : decode mi_BranchworkModel_merge.2.1 98 = .ok (.invokevirtual 173, 3) := by decide +kernel
theorem jd_BranchworkModel_merge_101 : decode mi_BranchworkModel_merge.2.1 101 = .ok (.aload_n 0, 1) := by decide +kernel
theorem jd_BranchworkModel_merge_102 : decode mi_BranchworkModel_merge.2.1 102 = .ok (.invokevirtual 87, 3) := by decide +kernel
theorem jd_BranchworkModel_merge_105 : decode mi_BranchworkModel_merge.2.1 105 = .ok (.getfield 91, 3) := by decide +kernel
theorem jd_BranchworkModel_merge_108 : decode mi_BranchworkModel_merge.2.1 108 = .ok (.aload_n 2, 1) := by decide +kernel
theorem jd_BranchworkModel_merge_109 : decode mi_BranchworkModel_merge.2.1 109 = .ok (.getfield 91, 3) := by decide +kernel
theorem jd_BranchworkModel_merge_112 : decode mi_BranchworkModel_merge.2.1 112 = .ok (.invokespecial 177, 3) := by decide +kernel
theorem jd_BranchworkModel_merge_115 : decode mi_BranchworkModel_merge.2.1 115 = .ok (.astore_n 3, 1) := by decide +kernel
theorem jd_BranchworkModel_merge_116 : decode mi_BranchworkModel_merge.2.1 116 = .ok (.aload_n 0, 1) := by decide +kernel
theorem jd_BranchworkModel_merge_117 : decode mi_BranchworkModel_merge.2.1 117 = .ok (.aload_n 3, 1) := by decide +kernel
theorem jd_BranchworkModel_merge_118 : decode mi_BranchworkModel_merge.2.1 118 = .ok (.getfield 180, 3) := by decide +kernel
theorem jd_BranchworkModel_merge_121 : decode mi_BranchworkModel_merge.2.1 121 = .ok (.putfield 40, 3) := by decide +kernel
theorem jd_BranchworkModel_merge_124 : decode mi_BranchworkModel_merge.2.1 124 = .ok (.aload_n 0, 1) := by decide +kernel
theorem jd_BranchworkModel_merge_125 : decode mi_BranchworkModel_merge.2.1 125 = .ok (.getfield 44, 3) := by decide +kernel
theorem jd_BranchworkModel_merge_128 : decode mi_BranchworkModel_merge.2.1 128 = .ok (.aload_n 3, 1) := by decide +kernel
theorem jd_BranchworkModel_merge_129 : decode mi_BranchworkModel_merge.2.1 129 = .ok (.getfield 183, 3) := by decide +kernel
theorem jd_BranchworkModel_merge_132 : decode mi_BranchworkModel_merge.2.1 132 = .ok (.invokevirtual 184, 3) := by decide +kernel
theorem jd_BranchworkModel_merge_135 : decode mi_BranchworkModel_merge.2.1 135 = .ok (.pop, 1) := by decide +kernel
theorem jd_BranchworkModel_merge_136 : decode mi_BranchworkModel_merge.2.1 136 = .ok (.aload_n 0, 1) := by decide +kernel
theorem jd_BranchworkModel_merge_137 : decode mi_BranchworkModel_merge.2.1 137 = .ok (.aload_n 2, 1) := by decide +kernel
theorem jd_BranchworkModel_merge_138 : decode mi_BranchworkModel_merge.2.1 138 = .ok (.putfield 145, 3) := by decide +kernel
theorem jd_BranchworkModel_merge_141 : decode mi_BranchworkModel_merge.2.1 141 = .ok (.aload_n 0, 1) := by decide +kernel
theorem jd_BranchworkModel_merge_142 : decode mi_BranchworkModel_merge.2.1 142 = .ok (.getfield 44, 3) := by decide +kernel
theorem jd_BranchworkModel_merge_145 : decode mi_BranchworkModel_merge.2.1 145 = .ok (.invokevirtual 70, 3) := by decide +kernel
theorem jd_BranchworkModel_merge_148 : decode mi_BranchworkModel_merge.2.1 148 = .ok (.ireturn, 1) := by decide +kernel
theorem jd_BranchworkModel_settle_0 : decode mi_BranchworkModel_settle.2.1 0 = .ok (.aload_n 0, 1) := by decide +kernel
theorem jd_BranchworkModel_settle_1 : decode mi_BranchworkModel_settle.2.1 1 = .ok (.iload_n 1, 1) := by decide +kernel
theorem jd_BranchworkModel_settle_2 : decode mi_BranchworkModel_settle.2.1 2 = .ok (.iconst 0, 1) := by decide +kernel
theorem jd_BranchworkModel_settle_3 : decode mi_BranchworkModel_settle.2.1 3 = .ok (.aload_n 0, 1) := by decide +kernel
theorem jd_BranchworkModel_settle_4 : decode mi_BranchworkModel_settle.2.1 4 = .ok (.getfield 44, 3) := by decide +kernel
theorem jd_BranchworkModel_settle_7 : decode mi_BranchworkModel_settle.2.1 7 = .ok (.invokevirtual 70, 3) := by decide +kernel
theorem jd_BranchworkModel_settle_10 : decode mi_BranchworkModel_settle.2.1 10 = .ok (.iconst 1, 1) := by decide +kernel
theorem jd_BranchworkModel_settle_11 : decode mi_BranchworkModel_settle.2.1 11 = .ok (.isub, 1) := by decide +kernel
theorem jd_BranchworkModel_settle_12 : decode mi_BranchworkModel_settle.2.1 12 = .ok (.invokestatic 59, 3) := by decide +kernel
theorem jd_BranchworkModel_settle_15 : decode mi_BranchworkModel_settle.2.1 15 = .ok (.ifCond .ne 7, 3) := by decide +kernel
theorem jd_BranchworkModel_settle_18 : decode mi_BranchworkModel_settle.2.1 18 = .ok (.iconst 1, 1) := by decide +kernel
theorem jd_BranchworkModel_settle_19 : decode mi_BranchworkModel_settle.2.1 19 = .ok (.goto 4, 3) := by decide +kernel
theorem jd_BranchworkModel_settle_22 : decode mi_BranchworkModel_settle.2.1 22 = .ok (.iconst 0, 1) := by decide +kernel
theorem jd_BranchworkModel_settle_23 : decode mi_BranchworkModel_settle.2.1 23 = .ok (.iconst 1, 1) := by decide +kernel
theorem jd_BranchworkModel_settle_24 : decode mi_BranchworkModel_settle.2.1 24 = .ok (.invokevirtual 108, 3) := by decide +kernel
theorem jd_BranchworkModel_settle_27 : decode mi_BranchworkModel_settle.2.1 27 = .ok (.ifCond .eq 5, 3) := by decide +kernel
theorem jd_BranchworkModel_settle_30 : decode mi_BranchworkModel_settle.2.1 30 = .ok (.iconst 0, 1) := by decide +kernel
theorem jd_BranchworkModel_settle_31 : decode mi_BranchworkModel_settle.2.1 31 = .ok (.ireturn, 1) := by decide +kernel
theorem jd_BranchworkModel_settle_32 : decode mi_BranchworkModel_settle.2.1 32 = .ok (.aload_n 0, 1) := by decide +kernel
theorem jd_BranchworkModel_settle_33 : decode mi_BranchworkModel_settle.2.1 33 = .ok (.getfield 44, 3) := by decide +kernel
theorem jd_BranchworkModel_settle_36 : decode mi_BranchworkModel_settle.2.1 36 = .ok (.iload_n 1, 1) := by decide +kernel
theorem jd_BranchworkModel_settle_37 : decode mi_BranchworkModel_settle.2.1 37 = .ok (.invokevirtual 188, 3) := by decide +kernel
theorem jd_BranchworkModel_settle_40 : decode mi_BranchworkModel_settle.2.1 40 = .ok (.pop, 1) := by decide +kernel
theorem jd_BranchworkModel_settle_41 : decode mi_BranchworkModel_settle.2.1 41 = .ok (.aload_n 0, 1) := by decide +kernel
theorem jd_BranchworkModel_settle_42 : decode mi_BranchworkModel_settle.2.1 42 = .ok (.getfield 44, 3) := by decide +kernel
theorem jd_BranchworkModel_settle_45 : decode mi_BranchworkModel_settle.2.1 45 = .ok (.invokevirtual 70, 3) := by decide +kernel
theorem jd_BranchworkModel_settle_48 : decode mi_BranchworkModel_settle.2.1 48 = .ok (.ireturn, 1) := by decide +kernel
theorem jd_BranchworkModel_ofCommit_0 : decode mi_BranchworkModel_ofCommit.2.1 0 = .ok (.aload_n 0, 1) := by decide +kernel
theorem jd_BranchworkModel_ofCommit_1 : decode mi_BranchworkModel_ofCommit.2.1 1 = .ok (.aload_n 0, 1) := by decide +kernel
theorem jd_BranchworkModel_ofCommit_2 : decode mi_BranchworkModel_ofCommit.2.1 2 = .ok (.iload_n 1, 1) := by decide +kernel
theorem jd_BranchworkModel_ofCommit_3 : decode mi_BranchworkModel_ofCommit.2.1 3 = .ok (.invokevirtual 158, 3) := by decide +kernel
theorem jd_BranchworkModel_ofCommit_6 : decode mi_BranchworkModel_ofCommit.2.1 6 = .ok (.iconst 1, 1) := by decide +kernel
theorem jd_BranchworkModel_ofCommit_7 : decode mi_BranchworkModel_ofCommit.2.1 7 = .ok (.invokevirtual 108, 3) := by decide +kernel
theorem jd_BranchworkModel_ofCommit_10 : decode mi_BranchworkModel_ofCommit.2.1 10 = .ok (.ifCond .ne 25, 3) := by decide +kernel
theorem jd_BranchworkModel_ofCommit_13 : decode mi_BranchworkModel_ofCommit.2.1 13 = .ok (.aload_n 0, 1) := by decide +kernel
theorem jd_BranchworkModel_ofCommit_14 : decode mi_BranchworkModel_ofCommit.2.1 14 = .ok (.iload_n 2, 1) := by decide +kernel
theorem jd_BranchworkModel_ofCommit_15 : decode mi_BranchworkModel_ofCommit.2.1 15 = .ok (.iconst 0, 1) := by decide +kernel
theorem jd_BranchworkModel_ofCommit_16 : decode mi_BranchworkModel_ofCommit.2.1 16 = .ok (.iconst 5, 1) := by decide +kernel
theorem jd_BranchworkModel_ofCommit_17 : decode mi_BranchworkModel_ofCommit.2.1 17 = .ok (.invokestatic 59, 3) := by decide +kernel
theorem jd_BranchworkModel_ofCommit_20 : decode mi_BranchworkModel_ofCommit.2.1 20 = .ok (.ifCond .ne 7, 3) := by decide +kernel
theorem jd_BranchworkModel_ofCommit_23 : decode mi_BranchworkModel_ofCommit.2.1 23 = .ok (.iconst 1, 1) := by decide +kernel
theorem jd_BranchworkModel_ofCommit_24 : decode mi_BranchworkModel_ofCommit.2.1 24 = .ok (.goto 4, 3) := by decide +kernel
theorem jd_BranchworkModel_ofCommit_27 : decode mi_BranchworkModel_ofCommit.2.1 27 = .ok (.iconst 0, 1) := by decide +kernel
theorem jd_BranchworkModel_ofCommit_28 : decode mi_BranchworkModel_ofCommit.2.1 28 = .ok (.iconst 2, 1) := by decide +kernel
theorem jd_BranchworkModel_ofCommit_29 : decode mi_BranchworkModel_ofCommit.2.1 29 = .ok (.invokevirtual 55, 3) := by decide +kernel
theorem jd_BranchworkModel_ofCommit_32 : decode mi_BranchworkModel_ofCommit.2.1 32 = .ok (.ifCond .eq 7, 3) := by decide +kernel
theorem jd_BranchworkModel_ofCommit_35 : decode mi_BranchworkModel_ofCommit.2.1 35 = .ok (.iconst 0, 1) := by decide +kernel
theorem jd_BranchworkModel_ofCommit_36 : decode mi_BranchworkModel_ofCommit.2.1 36 = .ok (.goto 19, 3) := by decide +kernel
theorem jd_BranchworkModel_ofCommit_39 : decode mi_BranchworkModel_ofCommit.2.1 39 = .ok (.aload_n 0, 1) := by decide +kernel
theorem jd_BranchworkModel_ofCommit_40 : decode mi_BranchworkModel_ofCommit.2.1 40 = .ok (.aload_n 0, 1) := by decide +kernel
theorem jd_BranchworkModel_ofCommit_41 : decode mi_BranchworkModel_ofCommit.2.1 41 = .ok (.getfield 30, 3) := by decide +kernel
theorem jd_BranchworkModel_ofCommit_44 : decode mi_BranchworkModel_ofCommit.2.1 44 = .ok (.iload_n 1, 1) := by decide +kernel
theorem jd_BranchworkModel_ofCommit_45 : decode mi_BranchworkModel_ofCommit.2.1 45 = .ok (.invokevirtual 74, 3) := by decide +kernel
theorem jd_BranchworkModel_ofCommit_48 : decode mi_BranchworkModel_ofCommit.2.1 48 = .ok (.checkcast 78, 3) := by decide +kernel
theorem jd_BranchworkModel_ofCommit_51 : decode mi_BranchworkModel_ofCommit.2.1 51 = .ok (.iload_n 2, 1) := by decide +kernel
theorem jd_BranchworkModel_ofCommit_52 : decode mi_BranchworkModel_ofCommit.2.1 52 = .ok (.invokevirtual 240, 3) := by decide +kernel
theorem jd_BranchworkModel_ofCommit_55 : decode mi_BranchworkModel_ofCommit.2.1 55 = .ok (.ireturn, 1) := by decide +kernel
theorem jd_BranchworkModel_isNoTree_0 : decode mi_BranchworkModel_isNoTree.2.1 0 = .ok (.aload_n 0, 1) := by decide +kernel
theorem jd_BranchworkModel_isNoTree_1 : decode mi_BranchworkModel_isNoTree.2.1 1 = .ok (.iload_n 1, 1) := by decide +kernel
theorem jd_BranchworkModel_isNoTree_2 : decode mi_BranchworkModel_isNoTree.2.1 2 = .ok (.iconst (-1), 1) := by decide +kernel
theorem jd_BranchworkModel_isNoTree_3 : decode mi_BranchworkModel_isNoTree.2.1 3 = .ok (.if_icmp .eq 11, 3) := by decide +kernel
theorem jd_BranchworkModel_isNoTree_6 : decode mi_BranchworkModel_isNoTree.2.1 6 = .ok (.aload_n 0, 1) := by decide +kernel
theorem jd_BranchworkModel_isNoTree_7 : decode mi_BranchworkModel_isNoTree.2.1 7 = .ok (.iload_n 1, 1) := by decide +kernel
theorem jd_BranchworkModel_isNoTree_8 : decode mi_BranchworkModel_isNoTree.2.1 8 = .ok (.invokevirtual 158, 3) := by decide +kernel
theorem jd_BranchworkModel_isNoTree_11 : decode mi_BranchworkModel_isNoTree.2.1 11 = .ok (.ifCond .ne 10, 3) := by decide +kernel
theorem jd_BranchworkModel_isNoTree_14 : decode mi_BranchworkModel_isNoTree.2.1 14 = .ok (.iload_n 2, 1) := by decide +kernel
theorem jd_BranchworkModel_isNoTree_15 : decode mi_BranchworkModel_isNoTree.2.1 15 = .ok (.invokestatic 63, 3) := by decide +kernel
theorem jd_BranchworkModel_isNoTree_18 : decode mi_BranchworkModel_isNoTree.2.1 18 = .ok (.ifCond .eq 7, 3) := by decide +kernel
theorem jd_BranchworkModel_isNoTree_21 : decode mi_BranchworkModel_isNoTree.2.1 21 = .ok (.iconst 1, 1) := by decide +kernel
theorem jd_BranchworkModel_isNoTree_22 : decode mi_BranchworkModel_isNoTree.2.1 22 = .ok (.goto 4, 3) := by decide +kernel
theorem jd_BranchworkModel_isNoTree_25 : decode mi_BranchworkModel_isNoTree.2.1 25 = .ok (.iconst 0, 1) := by decide +kernel
theorem jd_BranchworkModel_isNoTree_26 : decode mi_BranchworkModel_isNoTree.2.1 26 = .ok (.iconst 1, 1) := by decide +kernel
theorem jd_BranchworkModel_isNoTree_27 : decode mi_BranchworkModel_isNoTree.2.1 27 = .ok (.invokevirtual 108, 3) := by decide +kernel
theorem jd_BranchworkModel_isNoTree_30 : decode mi_BranchworkModel_isNoTree.2.1 30 = .ok (.ireturn, 1) := by decide +kernel
theorem jd_BranchworkModel_tree_0 : decode mi_BranchworkModel_tree.2.1 0 = .ok (.iload_n 1, 1) := by decide +kernel
theorem jd_BranchworkModel_tree_1 : decode mi_BranchworkModel_tree.2.1 1 = .ok (.iconst (-1), 1) := by decide +kernel
theorem jd_BranchworkModel_tree_2 : decode mi_BranchworkModel_tree.2.1 2 = .ok (.if_icmp .ne 10, 3) := by decide +kernel
theorem jd_BranchworkModel_tree_5 : decode mi_BranchworkModel_tree.2.1 5 = .ok (.aload_n 0, 1) := by decide +kernel
theorem jd_BranchworkModel_tree_6 : decode mi_BranchworkModel_tree.2.1 6 = .ok (.getfield 40, 3) := by decide +kernel
theorem jd_BranchworkModel_tree_9 : decode mi_BranchworkModel_tree.2.1 9 = .ok (.goto 17, 3) := by decide +kernel
theorem jd_BranchworkModel_tree_12 : decode mi_BranchworkModel_tree.2.1 12 = .ok (.aload_n 0, 1) := by decide +kernel
theorem jd_BranchworkModel_tree_13 : decode mi_BranchworkModel_tree.2.1 13 = .ok (.getfield 30, 3) := by decide +kernel
theorem jd_BranchworkModel_tree_16 : decode mi_BranchworkModel_tree.2.1 16 = .ok (.iload_n 1, 1) := by decide +kernel
theorem jd_BranchworkModel_tree_17 : decode mi_BranchworkModel_tree.2.1 17 = .ok (.invokevirtual 74, 3) := by decide +kernel
theorem jd_BranchworkModel_tree_20 : decode mi_BranchworkModel_tree.2.1 20 = .ok (.checkcast 78, 3) := by decide +kernel
theorem jd_BranchworkModel_tree_23 : decode mi_BranchworkModel_tree.2.1 23 = .ok (.getfield 91, 3) := by decide +kernel
theorem jd_BranchworkModel_tree_26 : decode mi_BranchworkModel_tree.2.1 26 = .ok (.areturn, 1) := by decide +kernel
theorem jd_BranchworkModel_line_0 : decode mi_BranchworkModel_line.2.1 0 = .ok (.aload_n 0, 1) := by decide +kernel
theorem jd_BranchworkModel_line_1 : decode mi_BranchworkModel_line.2.1 1 = .ok (.iload_n 1, 1) := by decide +kernel
theorem jd_BranchworkModel_line_2 : decode mi_BranchworkModel_line.2.1 2 = .ok (.iload_n 2, 1) := by decide +kernel
theorem jd_BranchworkModel_line_3 : decode mi_BranchworkModel_line.2.1 3 = .ok (.invokevirtual 244, 3) := by decide +kernel
theorem jd_BranchworkModel_line_6 : decode mi_BranchworkModel_line.2.1 6 = .ok (.ifCond .eq 5, 3) := by decide +kernel
theorem jd_BranchworkModel_line_9 : decode mi_BranchworkModel_line.2.1 9 = .ok (.iconst 0, 1) := by decide +kernel
theorem jd_BranchworkModel_line_10 : decode mi_BranchworkModel_line.2.1 10 = .ok (.ireturn, 1) := by decide +kernel
theorem jd_BranchworkModel_line_11 : decode mi_BranchworkModel_line.2.1 11 = .ok (.aload_n 0, 1) := by decide +kernel
theorem jd_BranchworkModel_line_12 : decode mi_BranchworkModel_line.2.1 12 = .ok (.iload_n 1, 1) := by decide +kernel
theorem jd_BranchworkModel_line_13 : decode mi_BranchworkModel_line.2.1 13 = .ok (.invokevirtual 248, 3) := by decide +kernel
theorem jd_BranchworkModel_line_16 : decode mi_BranchworkModel_line.2.1 16 = .ok (.getfield 105, 3) := by decide +kernel
theorem jd_BranchworkModel_line_19 : decode mi_BranchworkModel_line.2.1 19 = .ok (.iload_n 2, 1) := by decide +kernel
theorem jd_BranchworkModel_line_20 : decode mi_BranchworkModel_line.2.1 20 = .ok (.aaload, 1) := by decide +kernel
theorem jd_BranchworkModel_line_21 : decode mi_BranchworkModel_line.2.1 21 = .ok (.astore 4, 2) := by decide +kernel
theorem jd_BranchworkModel_line_23 : decode mi_BranchworkModel_line.2.1 23 = .ok (.aload 4, 2) := by decide +kernel
theorem jd_BranchworkModel_line_25 : decode mi_BranchworkModel_line.2.1 25 = .ok (.ifnonnull 8, 3) := by decide +kernel
theorem jd_BranchworkModel_line_28 : decode mi_BranchworkModel_line.2.1 28 = .ok (.bipush (-2), 2) := by decide +kernel
theorem jd_BranchworkModel_line_30 : decode mi_BranchworkModel_line.2.1 30 = .ok (.goto 24, 3) := by decide +kernel
theorem jd_BranchworkModel_line_33 : decode mi_BranchworkModel_line.2.1 33 = .ok (.iload_n 3, 1) := by decide +kernel
theorem jd_BranchworkModel_line_34 : decode mi_BranchworkModel_line.2.1 34 = .ok (.iconst 0, 1) := by decide +kernel
theorem jd_BranchworkModel_line_35 : decode mi_BranchworkModel_line.2.1 35 = .ok (.aload 4, 2) := by decide +kernel
theorem jd_BranchworkModel_line_37 : decode mi_BranchworkModel_line.2.1 37 = .ok (.arraylength, 1) := by decide +kernel
theorem jd_BranchworkModel_line_38 : decode mi_BranchworkModel_line.2.1 38 = .ok (.iconst 1, 1) := by decide +kernel
theorem jd_BranchworkModel_line_39 : decode mi_BranchworkModel_line.2.1 39 = .ok (.isub, 1) := by decide +kernel
theorem jd_BranchworkModel_line_40 : decode mi_BranchworkModel_line.2.1 40 = .ok (.invokestatic 59, 3) := by decide +kernel
theorem jd_BranchworkModel_line_43 : decode mi_BranchworkModel_line.2.1 43 = .ok (.ifCond .eq 10, 3) := by decide +kernel
theorem jd_BranchworkModel_line_46 : decode mi_BranchworkModel_line.2.1 46 = .ok (.aload 4, 2) := by decide +kernel
theorem jd_BranchworkModel_line_48 : decode mi_BranchworkModel_line.2.1 48 = .ok (.iload_n 3, 1) := by decide +kernel
theorem jd_BranchworkModel_line_49 : decode mi_BranchworkModel_line.2.1 49 = .ok (.iaload, 1) := by decide +kernel
theorem jd_BranchworkModel_line_50 : decode mi_BranchworkModel_line.2.1 50 = .ok (.goto 4, 3) := by decide +kernel
theorem jd_BranchworkModel_line_53 : decode mi_BranchworkModel_line.2.1 53 = .ok (.iconst (-1), 1) := by decide +kernel
theorem jd_BranchworkModel_line_54 : decode mi_BranchworkModel_line.2.1 54 = .ok (.ireturn, 1) := by decide +kernel
theorem jd_BranchworkModel_size_0 : decode mi_BranchworkModel_size.2.1 0 = .ok (.aload_n 0, 1) := by decide +kernel
theorem jd_BranchworkModel_size_1 : decode mi_BranchworkModel_size.2.1 1 = .ok (.iload_n 1, 1) := by decide +kernel
theorem jd_BranchworkModel_size_2 : decode mi_BranchworkModel_size.2.1 2 = .ok (.iload_n 2, 1) := by decide +kernel
theorem jd_BranchworkModel_size_3 : decode mi_BranchworkModel_size.2.1 3 = .ok (.invokevirtual 244, 3) := by decide +kernel
theorem jd_BranchworkModel_size_6 : decode mi_BranchworkModel_size.2.1 6 = .ok (.ifCond .eq 7, 3) := by decide +kernel
theorem jd_BranchworkModel_size_9 : decode mi_BranchworkModel_size.2.1 9 = .ok (.iconst 0, 1) := by decide +kernel
theorem jd_BranchworkModel_size_10 : decode mi_BranchworkModel_size.2.1 10 = .ok (.goto 30, 3) := by decide +kernel
theorem jd_BranchworkModel_size_13 : decode mi_BranchworkModel_size.2.1 13 = .ok (.aload_n 0, 1) := by decide +kernel
theorem jd_BranchworkModel_size_14 : decode mi_BranchworkModel_size.2.1 14 = .ok (.iload_n 1, 1) := by decide +kernel
theorem jd_BranchworkModel_size_15 : decode mi_BranchworkModel_size.2.1 15 = .ok (.invokevirtual 248, 3) := by decide +kernel
theorem jd_BranchworkModel_size_18 : decode mi_BranchworkModel_size.2.1 18 = .ok (.iload_n 2, 1) := by decide +kernel
theorem jd_BranchworkModel_size_19 : decode mi_BranchworkModel_size.2.1 19 = .ok (.invokevirtual 67, 3) := by decide +kernel
theorem jd_BranchworkModel_size_22 : decode mi_BranchworkModel_size.2.1 22 = .ok (.ifCond .eq 17, 3) := by decide +kernel
theorem jd_BranchworkModel_size_25 : decode mi_BranchworkModel_size.2.1 25 = .ok (.aload_n 0, 1) := by decide +kernel
theorem jd_BranchworkModel_size_26 : decode mi_BranchworkModel_size.2.1 26 = .ok (.iload_n 1, 1) := by decide +kernel
theorem jd_BranchworkModel_size_27 : decode mi_BranchworkModel_size.2.1 27 = .ok (.invokevirtual 248, 3) := by decide +kernel
theorem jd_BranchworkModel_size_30 : decode mi_BranchworkModel_size.2.1 30 = .ok (.getfield 105, 3) := by decide +kernel
theorem jd_BranchworkModel_size_33 : decode mi_BranchworkModel_size.2.1 33 = .ok (.iload_n 2, 1) := by decide +kernel
theorem jd_BranchworkModel_size_34 : decode mi_BranchworkModel_size.2.1 34 = .ok (.aaload, 1) := by decide +kernel
theorem jd_BranchworkModel_size_35 : decode mi_BranchworkModel_size.2.1 35 = .ok (.arraylength, 1) := by decide +kernel
theorem jd_BranchworkModel_size_36 : decode mi_BranchworkModel_size.2.1 36 = .ok (.goto 4, 3) := by decide +kernel
theorem jd_BranchworkModel_size_39 : decode mi_BranchworkModel_size.2.1 39 = .ok (.iconst (-1), 1) := by decide +kernel
theorem jd_BranchworkModel_size_40 : decode mi_BranchworkModel_size.2.1 40 = .ok (.ireturn, 1) := by decide +kernel
theorem jd_BranchworkModel_conflict_0 : decode mi_BranchworkModel_conflict.2.1 0 = .ok (.aload_n 0, 1) := by decide +kernel
theorem jd_BranchworkModel_conflict_1 : decode mi_BranchworkModel_conflict.2.1 1 = .ok (.iload_n 1, 1) := by decide +kernel
theorem jd_BranchworkModel_conflict_2 : decode mi_BranchworkModel_conflict.2.1 2 = .ok (.iconst 0, 1) := by decide +kernel
theorem jd_BranchworkModel_conflict_3 : decode mi_BranchworkModel_conflict.2.1 3 = .ok (.aload_n 0, 1) := by decide +kernel
theorem jd_BranchworkModel_conflict_4 : decode mi_BranchworkModel_conflict.2.1 4 = .ok (.getfield 44, 3) := by decide +kernel
theorem jd_BranchworkModel_conflict_7 : decode mi_BranchworkModel_conflict.2.1 7 = .ok (.invokevirtual 70, 3) := by decide +kernel
theorem jd_BranchworkModel_conflict_10 : decode mi_BranchworkModel_conflict.2.1 10 = .ok (.iconst 1, 1) := by decide +kernel
theorem jd_BranchworkModel_conflict_11 : decode mi_BranchworkModel_conflict.2.1 11 = .ok (.isub, 1) := by decide +kernel
theorem jd_BranchworkModel_conflict_12 : decode mi_BranchworkModel_conflict.2.1 12 = .ok (.invokestatic 59, 3) := by decide +kernel
theorem jd_BranchworkModel_conflict_15 : decode mi_BranchworkModel_conflict.2.1 15 = .ok (.ifCond .ne 7, 3) := by decide +kernel
theorem jd_BranchworkModel_conflict_18 : decode mi_BranchworkModel_conflict.2.1 18 = .ok (.iconst 1, 1) := by decide +kernel
theorem jd_BranchworkModel_conflict_19 : decode mi_BranchworkModel_conflict.2.1 19 = .ok (.goto 4, 3) := by decide +kernel
theorem jd_BranchworkModel_conflict_22 : decode mi_BranchworkModel_conflict.2.1 22 = .ok (.iconst 0, 1) := by decide +kernel
theorem jd_BranchworkModel_conflict_23 : decode mi_BranchworkModel_conflict.2.1 23 = .ok (.iconst 1, 1) := by decide +kernel
theorem jd_BranchworkModel_conflict_24 : decode mi_BranchworkModel_conflict.2.1 24 = .ok (.invokevirtual 108, 3) := by decide +kernel
theorem jd_BranchworkModel_conflict_27 : decode mi_BranchworkModel_conflict.2.1 27 = .ok (.ifCond .ne 25, 3) := by decide +kernel
theorem jd_BranchworkModel_conflict_30 : decode mi_BranchworkModel_conflict.2.1 30 = .ok (.aload_n 0, 1) := by decide +kernel
theorem jd_BranchworkModel_conflict_31 : decode mi_BranchworkModel_conflict.2.1 31 = .ok (.iload_n 2, 1) := by decide +kernel
theorem jd_BranchworkModel_conflict_32 : decode mi_BranchworkModel_conflict.2.1 32 = .ok (.iconst 0, 1) := by decide +kernel
theorem jd_BranchworkModel_conflict_33 : decode mi_BranchworkModel_conflict.2.1 33 = .ok (.iconst 1, 1) := by decide +kernel
theorem jd_BranchworkModel_conflict_34 : decode mi_BranchworkModel_conflict.2.1 34 = .ok (.invokestatic 59, 3) := by decide +kernel
theorem jd_BranchworkModel_conflict_37 : decode mi_BranchworkModel_conflict.2.1 37 = .ok (.ifCond .ne 7, 3) := by decide +kernel
theorem jd_BranchworkModel_conflict_40 : decode mi_BranchworkModel_conflict.2.1 40 = .ok (.iconst 1, 1) := by decide +kernel
theorem jd_BranchworkModel_conflict_41 : decode mi_BranchworkModel_conflict.2.1 41 = .ok (.goto 4, 3) := by decide +kernel
theorem jd_BranchworkModel_conflict_44 : decode mi_BranchworkModel_conflict.2.1 44 = .ok (.iconst 0, 1) := by decide +kernel
theorem jd_BranchworkModel_conflict_45 : decode mi_BranchworkModel_conflict.2.1 45 = .ok (.iconst 2, 1) := by decide +kernel
theorem jd_BranchworkModel_conflict_46 : decode mi_BranchworkModel_conflict.2.1 46 = .ok (.invokevirtual 55, 3) := by decide +kernel
theorem jd_BranchworkModel_conflict_49 : decode mi_BranchworkModel_conflict.2.1 49 = .ok (.ifCond .eq 7, 3) := by decide +kernel
theorem jd_BranchworkModel_conflict_52 : decode mi_BranchworkModel_conflict.2.1 52 = .ok (.iconst 0, 1) := by decide +kernel
theorem jd_BranchworkModel_conflict_53 : decode mi_BranchworkModel_conflict.2.1 53 = .ok (.goto 16, 3) := by decide +kernel
theorem jd_BranchworkModel_conflict_56 : decode mi_BranchworkModel_conflict.2.1 56 = .ok (.aload_n 0, 1) := by decide +kernel
theorem jd_BranchworkModel_conflict_57 : decode mi_BranchworkModel_conflict.2.1 57 = .ok (.getfield 44, 3) := by decide +kernel
theorem jd_BranchworkModel_conflict_60 : decode mi_BranchworkModel_conflict.2.1 60 = .ok (.iload_n 1, 1) := by decide +kernel
theorem jd_BranchworkModel_conflict_61 : decode mi_BranchworkModel_conflict.2.1 61 = .ok (.invokevirtual 74, 3) := by decide +kernel
theorem jd_BranchworkModel_conflict_64 : decode mi_BranchworkModel_conflict.2.1 64 = .ok (.checkcast 199, 3) := by decide +kernel
theorem jd_BranchworkModel_conflict_67 : decode mi_BranchworkModel_conflict.2.1 67 = .ok (.iload_n 2, 1) := by decide +kernel
theorem jd_BranchworkModel_conflict_68 : decode mi_BranchworkModel_conflict.2.1 68 = .ok (.iaload, 1) := by decide +kernel
theorem jd_BranchworkModel_conflict_69 : decode mi_BranchworkModel_conflict.2.1 69 = .ok (.ireturn, 1) := by decide +kernel
theorem jd_BranchworkModel_base_0 : decode mi_BranchworkModel_base.2.1 0 = .ok (.aload_n 0, 1) := by decide +kernel
theorem jd_BranchworkModel_base_1 : decode mi_BranchworkModel_base.2.1 1 = .ok (.aload_n 0, 1) := by decide +kernel
theorem jd_BranchworkModel_base_2 : decode mi_BranchworkModel_base.2.1 2 = .ok (.iload_n 1, 1) := by decide +kernel
theorem jd_BranchworkModel_base_3 : decode mi_BranchworkModel_base.2.1 3 = .ok (.invokevirtual 158, 3) := by decide +kernel
theorem jd_BranchworkModel_base_6 : decode mi_BranchworkModel_base.2.1 6 = .ok (.ifCond .ne 11, 3) := by decide +kernel
theorem jd_BranchworkModel_base_9 : decode mi_BranchworkModel_base.2.1 9 = .ok (.aload_n 0, 1) := by decide +kernel
theorem jd_BranchworkModel_base_10 : decode mi_BranchworkModel_base.2.1 10 = .ok (.iload_n 2, 1) := by decide +kernel
theorem jd_BranchworkModel_base_11 : decode mi_BranchworkModel_base.2.1 11 = .ok (.invokevirtual 158, 3) := by decide +kernel
theorem jd_BranchworkModel_base_14 : decode mi_BranchworkModel_base.2.1 14 = .ok (.ifCond .eq 7, 3) := by decide +kernel
theorem jd_BranchworkModel_base_17 : decode mi_BranchworkModel_base.2.1 17 = .ok (.iconst 1, 1) := by decide +kernel
theorem jd_BranchworkModel_base_18 : decode mi_BranchworkModel_base.2.1 18 = .ok (.goto 4, 3) := by decide +kernel
theorem jd_BranchworkModel_base_21 : decode mi_BranchworkModel_base.2.1 21 = .ok (.iconst 0, 1) := by decide +kernel
theorem jd_BranchworkModel_base_22 : decode mi_BranchworkModel_base.2.1 22 = .ok (.iconst 1, 1) := by decide +kernel
theorem jd_BranchworkModel_base_23 : decode mi_BranchworkModel_base.2.1 23 = .ok (.invokevirtual 108, 3) := by decide +kernel
theorem jd_BranchworkModel_base_26 : decode mi_BranchworkModel_base.2.1 26 = .ok (.ifCond .eq 7, 3) := by decide +kernel
theorem jd_BranchworkModel_base_29 : decode mi_BranchworkModel_base.2.1 29 = .ok (.iconst 0, 1) := by decide +kernel
theorem jd_BranchworkModel_base_30 : decode mi_BranchworkModel_base.2.1 30 = .ok (.goto 32, 3) := by decide +kernel
theorem jd_BranchworkModel_base_33 : decode mi_BranchworkModel_base.2.1 33 = .ok (.aload_n 0, 1) := by decide +kernel
theorem jd_BranchworkModel_base_34 : decode mi_BranchworkModel_base.2.1 34 = .ok (.aload_n 0, 1) := by decide +kernel
theorem jd_BranchworkModel_base_35 : decode mi_BranchworkModel_base.2.1 35 = .ok (.getfield 30, 3) := by decide +kernel
theorem jd_BranchworkModel_base_38 : decode mi_BranchworkModel_base.2.1 38 = .ok (.iload_n 1, 1) := by decide +kernel
theorem jd_BranchworkModel_base_39 : decode mi_BranchworkModel_base.2.1 39 = .ok (.invokevirtual 74, 3) := by decide +kernel
theorem jd_BranchworkModel_base_42 : decode mi_BranchworkModel_base.2.1 42 = .ok (.checkcast 78, 3) := by decide +kernel
theorem jd_BranchworkModel_base_45 : decode mi_BranchworkModel_base.2.1 45 = .ok (.aload_n 0, 1) := by decide +kernel
theorem jd_BranchworkModel_base_46 : decode mi_BranchworkModel_base.2.1 46 = .ok (.getfield 30, 3) := by decide +kernel
theorem jd_BranchworkModel_base_49 : decode mi_BranchworkModel_base.2.1 49 = .ok (.iload_n 2, 1) := by decide +kernel
theorem jd_BranchworkModel_base_50 : decode mi_BranchworkModel_base.2.1 50 = .ok (.invokevirtual 74, 3) := by decide +kernel
theorem jd_BranchworkModel_base_53 : decode mi_BranchworkModel_base.2.1 53 = .ok (.checkcast 78, 3) := by decide +kernel
theorem jd_BranchworkModel_base_56 : decode mi_BranchworkModel_base.2.1 56 = .ok (.invokevirtual 251, 3) := by decide +kernel
theorem jd_BranchworkModel_base_59 : decode mi_BranchworkModel_base.2.1 59 = .ok (.invokestatic 222, 3) := by decide +kernel
theorem jd_BranchworkModel_base_62 : decode mi_BranchworkModel_base.2.1 62 = .ok (.ireturn, 1) := by decide +kernel
theorem jd_BranchworkModel_went_0 : decode mi_BranchworkModel_went.2.1 0 = .ok (.aload_n 0, 1) := by decide +kernel
theorem jd_BranchworkModel_went_1 : decode mi_BranchworkModel_went.2.1 1 = .ok (.aload_n 0, 1) := by decide +kernel
theorem jd_BranchworkModel_went_2 : decode mi_BranchworkModel_went.2.1 2 = .ok (.iload_n 1, 1) := by decide +kernel
theorem jd_BranchworkModel_went_3 : decode mi_BranchworkModel_went.2.1 3 = .ok (.invokevirtual 158, 3) := by decide +kernel
theorem jd_BranchworkModel_went_6 : decode mi_BranchworkModel_went.2.1 6 = .ok (.ifCond .ne 18, 3) := by decide +kernel
theorem jd_BranchworkModel_went_9 : decode mi_BranchworkModel_went.2.1 9 = .ok (.aload_n 0, 1) := by decide +kernel
theorem jd_BranchworkModel_went_10 : decode mi_BranchworkModel_went.2.1 10 = .ok (.iload_n 2, 1) := by decide +kernel
theorem jd_BranchworkModel_went_11 : decode mi_BranchworkModel_went.2.1 11 = .ok (.invokevirtual 158, 3) := by decide +kernel
theorem jd_BranchworkModel_went_14 : decode mi_BranchworkModel_went.2.1 14 = .ok (.ifCond .ne 10, 3) := by decide +kernel
theorem jd_BranchworkModel_went_17 : decode mi_BranchworkModel_went.2.1 17 = .ok (.iload_n 3, 1) := by decide +kernel
theorem jd_BranchworkModel_went_18 : decode mi_BranchworkModel_went.2.1 18 = .ok (.invokestatic 63, 3) := by decide +kernel
theorem jd_BranchworkModel_went_21 : decode mi_BranchworkModel_went.2.1 21 = .ok (.ifCond .eq 7, 3) := by decide +kernel
theorem jd_BranchworkModel_went_24 : decode mi_BranchworkModel_went.2.1 24 = .ok (.iconst 1, 1) := by decide +kernel
theorem jd_BranchworkModel_went_25 : decode mi_BranchworkModel_went.2.1 25 = .ok (.goto 4, 3) := by decide +kernel
theorem jd_BranchworkModel_went_28 : decode mi_BranchworkModel_went.2.1 28 = .ok (.iconst 0, 1) := by decide +kernel
theorem jd_BranchworkModel_went_29 : decode mi_BranchworkModel_went.2.1 29 = .ok (.iconst 1, 1) := by decide +kernel
theorem jd_BranchworkModel_went_30 : decode mi_BranchworkModel_went.2.1 30 = .ok (.invokevirtual 108, 3) := by decide +kernel
theorem jd_BranchworkModel_went_33 : decode mi_BranchworkModel_went.2.1 33 = .ok (.ifCond .eq 5, 3) := by decide +kernel
theorem jd_BranchworkModel_went_36 : decode mi_BranchworkModel_went.2.1 36 = .ok (.iconst 0, 1) := by decide +kernel
theorem jd_BranchworkModel_went_37 : decode mi_BranchworkModel_went.2.1 37 = .ok (.ireturn, 1) := by decide +kernel
theorem jd_BranchworkModel_went_38 : decode mi_BranchworkModel_went.2.1 38 = .ok (.aload_n 0, 1) := by decide +kernel
theorem jd_BranchworkModel_went_39 : decode mi_BranchworkModel_went.2.1 39 = .ok (.getfield 30, 3) := by decide +kernel
theorem jd_BranchworkModel_went_42 : decode mi_BranchworkModel_went.2.1 42 = .ok (.iload_n 1, 1) := by decide +kernel
theorem jd_BranchworkModel_went_43 : decode mi_BranchworkModel_went.2.1 43 = .ok (.invokevirtual 74, 3) := by decide +kernel
theorem jd_BranchworkModel_went_46 : decode mi_BranchworkModel_went.2.1 46 = .ok (.checkcast 78, 3) := by decide +kernel
theorem jd_BranchworkModel_went_49 : decode mi_BranchworkModel_went.2.1 49 = .ok (.getfield 91, 3) := by decide +kernel
theorem jd_BranchworkModel_went_52 : decode mi_BranchworkModel_went.2.1 52 = .ok (.astore 4, 2) := by decide +kernel
theorem jd_BranchworkModel_went_54 : decode mi_BranchworkModel_went.2.1 54 = .ok (.aload 4, 2) := by decide +kernel
theorem jd_BranchworkModel_went_56 : decode mi_BranchworkModel_went.2.1 56 = .ok (.iload_n 3, 1) := by decide +kernel
theorem jd_BranchworkModel_went_57 : decode mi_BranchworkModel_went.2.1 57 = .ok (.invokevirtual 67, 3) := by decide +kernel
theorem jd_BranchworkModel_went_60 : decode mi_BranchworkModel_went.2.1 60 = .ok (.ifCond .eq 26, 3) := by decide +kernel
theorem jd_BranchworkModel_went_63 : decode mi_BranchworkModel_went.2.1 63 = .ok (.aload 4, 2) := by decide +kernel
theorem jd_BranchworkModel_went_65 : decode mi_BranchworkModel_went.2.1 65 = .ok (.aload_n 0, 1) := by decide +kernel
theorem jd_BranchworkModel_went_66 : decode mi_BranchworkModel_went.2.1 66 = .ok (.getfield 30, 3) := by decide +kernel
theorem jd_BranchworkModel_went_69 : decode mi_BranchworkModel_went.2.1 69 = .ok (.iload_n 2, 1) := by decide +kernel
theorem jd_BranchworkModel_went_70 : decode mi_BranchworkModel_went.2.1 70 = .ok (.invokevirtual 74, 3) := by decide +kernel
theorem jd_BranchworkModel_went_73 : decode mi_BranchworkModel_went.2.1 73 = .ok (.checkcast 78, 3) := by decide +kernel
theorem jd_BranchworkModel_went_76 : decode mi_BranchworkModel_went.2.1 76 = .ok (.getfield 91, 3) := by decide +kernel
theorem jd_BranchworkModel_went_79 : decode mi_BranchworkModel_went.2.1 79 = .ok (.iload_n 3, 1) := by decide +kernel
theorem jd_BranchworkModel_went_80 : decode mi_BranchworkModel_went.2.1 80 = .ok (.invokevirtual 255, 3) := by decide +kernel
theorem jd_BranchworkModel_went_83 : decode mi_BranchworkModel_went.2.1 83 = .ok (.goto 5, 3) := by decide +kernel
theorem jd_BranchworkModel_went_86 : decode mi_BranchworkModel_went.2.1 86 = .ok (.bipush (-2), 2) := by decide +kernel
theorem jd_BranchworkModel_went_88 : decode mi_BranchworkModel_went.2.1 88 = .ok (.ireturn, 1) := by decide +kernel
theorem jd_BranchworkModel_changes_0 : decode mi_BranchworkModel_changes.2.1 0 = .ok (.aload_n 0, 1) := by decide +kernel
theorem jd_BranchworkModel_changes_1 : decode mi_BranchworkModel_changes.2.1 1 = .ok (.aload_n 0, 1) := by decide +kernel
theorem jd_BranchworkModel_changes_2 : decode mi_BranchworkModel_changes.2.1 2 = .ok (.iload_n 1, 1) := by decide +kernel
theorem jd_BranchworkModel_changes_3 : decode mi_BranchworkModel_changes.2.1 3 = .ok (.invokevirtual 158, 3) := by decide +kernel
theorem jd_BranchworkModel_changes_6 : decode mi_BranchworkModel_changes.2.1 6 = .ok (.ifCond .ne 11, 3) := by decide +kernel
theorem jd_BranchworkModel_changes_9 : decode mi_BranchworkModel_changes.2.1 9 = .ok (.aload_n 0, 1) := by decide +kernel
theorem jd_BranchworkModel_changes_10 : decode mi_BranchworkModel_changes.2.1 10 = .ok (.iload_n 2, 1) := by decide +kernel
theorem jd_BranchworkModel_changes_11 : decode mi_BranchworkModel_changes.2.1 11 = .ok (.invokevirtual 158, 3) := by decide +kernel
theorem jd_BranchworkModel_changes_14 : decode mi_BranchworkModel_changes.2.1 14 = .ok (.ifCond .eq 7, 3) := by decide +kernel
theorem jd_BranchworkModel_changes_17 : decode mi_BranchworkModel_changes.2.1 17 = .ok (.iconst 1, 1) := by decide +kernel
theorem jd_BranchworkModel_changes_18 : decode mi_BranchworkModel_changes.2.1 18 = .ok (.goto 4, 3) := by decide +kernel
theorem jd_BranchworkModel_changes_21 : decode mi_BranchworkModel_changes.2.1 21 = .ok (.iconst 0, 1) := by decide +kernel
theorem jd_BranchworkModel_changes_22 : decode mi_BranchworkModel_changes.2.1 22 = .ok (.iconst 1, 1) := by decide +kernel
theorem jd_BranchworkModel_changes_23 : decode mi_BranchworkModel_changes.2.1 23 = .ok (.invokevirtual 108, 3) := by decide +kernel
theorem jd_BranchworkModel_changes_26 : decode mi_BranchworkModel_changes.2.1 26 = .ok (.ifCond .ne 25, 3) := by decide +kernel
theorem jd_BranchworkModel_changes_29 : decode mi_BranchworkModel_changes.2.1 29 = .ok (.aload_n 0, 1) := by decide +kernel
theorem jd_BranchworkModel_changes_30 : decode mi_BranchworkModel_changes.2.1 30 = .ok (.iload_n 3, 1) := by decide +kernel
theorem jd_BranchworkModel_changes_31 : decode mi_BranchworkModel_changes.2.1 31 = .ok (.iconst 0, 1) := by decide +kernel
theorem jd_BranchworkModel_changes_32 : decode mi_BranchworkModel_changes.2.1 32 = .ok (.iconst 3, 1) := by decide +kernel
theorem jd_BranchworkModel_changes_33 : decode mi_BranchworkModel_changes.2.1 33 = .ok (.invokestatic 59, 3) := by decide +kernel
theorem jd_BranchworkModel_changes_36 : decode mi_BranchworkModel_changes.2.1 36 = .ok (.ifCond .ne 7, 3) := by decide +kernel
theorem jd_BranchworkModel_changes_39 : decode mi_BranchworkModel_changes.2.1 39 = .ok (.iconst 1, 1) := by decide +kernel
theorem jd_BranchworkModel_changes_40 : decode mi_BranchworkModel_changes.2.1 40 = .ok (.goto 4, 3) := by decide +kernel
theorem jd_BranchworkModel_changes_43 : decode mi_BranchworkModel_changes.2.1 43 = .ok (.iconst 0, 1) := by decide +kernel
theorem jd_BranchworkModel_changes_44 : decode mi_BranchworkModel_changes.2.1 44 = .ok (.iconst 2, 1) := by decide +kernel
theorem jd_BranchworkModel_changes_45 : decode mi_BranchworkModel_changes.2.1 45 = .ok (.invokevirtual 55, 3) := by decide +kernel
theorem jd_BranchworkModel_changes_48 : decode mi_BranchworkModel_changes.2.1 48 = .ok (.ifCond .eq 5, 3) := by decide +kernel
theorem jd_BranchworkModel_changes_51 : decode mi_BranchworkModel_changes.2.1 51 = .ok (.iconst 0, 1) := by decide +kernel
theorem jd_BranchworkModel_changes_52 : decode mi_BranchworkModel_changes.2.1 52 = .ok (.ireturn, 1) := by decide +kernel
theorem jd_BranchworkModel_changes_53 : decode mi_BranchworkModel_changes.2.1 53 = .ok (.aload_n 0, 1) := by decide +kernel
theorem jd_BranchworkModel_changes_54 : decode mi_BranchworkModel_changes.2.1 54 = .ok (.getfield 30, 3) := by decide +kernel
theorem jd_BranchworkModel_changes_57 : decode mi_BranchworkModel_changes.2.1 57 = .ok (.iload_n 1, 1) := by decide +kernel
theorem jd_BranchworkModel_changes_58 : decode mi_BranchworkModel_changes.2.1 58 = .ok (.invokevirtual 74, 3) := by decide +kernel
theorem jd_BranchworkModel_changes_61 : decode mi_BranchworkModel_changes.2.1 61 = .ok (.checkcast 78, 3) := by decide +kernel
theorem jd_BranchworkModel_changes_64 : decode mi_BranchworkModel_changes.2.1 64 = .ok (.getfield 91, 3) := by decide +kernel
theorem jd_BranchworkModel_changes_67 : decode mi_BranchworkModel_changes.2.1 67 = .ok (.astore 4, 2) := by decide +kernel
theorem jd_BranchworkModel_changes_69 : decode mi_BranchworkModel_changes.2.1 69 = .ok (.aload_n 0, 1) := by decide +kernel
theorem jd_BranchworkModel_changes_70 : decode mi_BranchworkModel_changes.2.1 70 = .ok (.getfield 30, 3) := by decide +kernel
theorem jd_BranchworkModel_changes_73 : decode mi_BranchworkModel_changes.2.1 73 = .ok (.iload_n 2, 1) := by decide +kernel
theorem jd_BranchworkModel_changes_74 : decode mi_BranchworkModel_changes.2.1 74 = .ok (.invokevirtual 74, 3) := by decide +kernel
theorem jd_BranchworkModel_changes_77 : decode mi_BranchworkModel_changes.2.1 77 = .ok (.checkcast 78, 3) := by decide +kernel
theorem jd_BranchworkModel_changes_80 : decode mi_BranchworkModel_changes.2.1 80 = .ok (.getfield 91, 3) := by decide +kernel
theorem jd_BranchworkModel_changes_83 : decode mi_BranchworkModel_changes.2.1 83 = .ok (.astore 5, 2) := by decide +kernel
theorem jd_BranchworkModel_changes_85 : decode mi_BranchworkModel_changes.2.1 85 = .ok (.aload 4, 2) := by decide +kernel
theorem jd_BranchworkModel_changes_87 : decode mi_BranchworkModel_changes.2.1 87 = .ok (.aload 5, 2) := by decide +kernel
theorem jd_BranchworkModel_changes_89 : decode mi_BranchworkModel_changes.2.1 89 = .ok (.invokevirtual 259, 3) := by decide +kernel
theorem jd_BranchworkModel_changes_92 : decode mi_BranchworkModel_changes.2.1 92 = .ok (.astore 6, 2) := by decide +kernel
theorem jd_BranchworkModel_changes_94 : decode mi_BranchworkModel_changes.2.1 94 = .ok (.iconst 4, 1) := by decide +kernel
theorem jd_BranchworkModel_changes_95 : decode mi_BranchworkModel_changes.2.1 95 = .ok (.newarray .int, 2) := by decide +kernel
theorem jd_BranchworkModel_changes_97 : decode mi_BranchworkModel_changes.2.1 97 = .ok (.astore 7, 2) := by decide +kernel
theorem jd_BranchworkModel_changes_99 : decode mi_BranchworkModel_changes.2.1 99 = .ok (.iconst 0, 1) := by decide +kernel
theorem jd_BranchworkModel_changes_100 : decode mi_BranchworkModel_changes.2.1 100 = .ok (.istore 8, 2) := by decide +kernel
theorem jd_BranchworkModel_changes_102 : decode mi_BranchworkModel_changes.2.1 102 = .ok (.iload 8, 2) := by decide +kernel
theorem jd_BranchworkModel_changes_104 : decode mi_BranchworkModel_changes.2.1 104 = .ok (.bipush 12, 2) := by decide +kernel
theorem jd_BranchworkModel_changes_106 : decode mi_BranchworkModel_changes.2.1 106 = .ok (.if_icmp .ge 114, 3) := by decide +kernel
theorem jd_BranchworkModel_changes_109 : decode mi_BranchworkModel_changes.2.1 109 = .ok (.aload 7, 2) := by decide +kernel
theorem jd_BranchworkModel_changes_111 : decode mi_BranchworkModel_changes.2.1 111 = .ok (.iconst 0, 1) := by decide +kernel
theorem jd_BranchworkModel_changes_112 : decode mi_BranchworkModel_changes.2.1 112 = .ok (.dup2, 1) := by decide +kernel
theorem jd_BranchworkModel_changes_113 : decode mi_BranchworkModel_changes.2.1 113 = .ok (.iaload, 1) := by decide +kernel
theorem jd_BranchworkModel_changes_114 : decode mi_BranchworkModel_changes.2.1 114 = .ok (.aload 5, 2) := by decide +kernel
theorem jd_BranchworkModel_changes_116 : decode mi_BranchworkModel_changes.2.1 116 = .ok (.aload 4, 2) := by decide +kernel
theorem jd_BranchworkModel_changes_118 : decode mi_BranchworkModel_changes.2.1 118 = .ok (.iload 8, 2) := by decide +kernel
theorem jd_BranchworkModel_changes_120 : decode mi_BranchworkModel_changes.2.1 120 = .ok (.invokevirtual 263, 3) := by decide +kernel
theorem jd_BranchworkModel_changes_123 : decode mi_BranchworkModel_changes.2.1 123 = .ok (.ifCond .eq 7, 3) := by decide +kernel
theorem jd_BranchworkModel_changes_126 : decode mi_BranchworkModel_changes.2.1 126 = .ok (.iconst 1, 1) := by decide +kernel
theorem jd_BranchworkModel_changes_127 : decode mi_BranchworkModel_changes.2.1 127 = .ok (.goto 4, 3) := by decide +kernel
theorem jd_BranchworkModel_changes_130 : decode mi_BranchworkModel_changes.2.1 130 = .ok (.iconst 0, 1) := by decide +kernel
theorem jd_BranchworkModel_changes_131 : decode mi_BranchworkModel_changes.2.1 131 = .ok (.iadd, 1) := by decide +kernel
theorem jd_BranchworkModel_changes_132 : decode mi_BranchworkModel_changes.2.1 132 = .ok (.iastore, 1) := by decide +kernel
theorem jd_BranchworkModel_changes_133 : decode mi_BranchworkModel_changes.2.1 133 = .ok (.aload 4, 2) := by decide +kernel
theorem jd_BranchworkModel_changes_135 : decode mi_BranchworkModel_changes.2.1 135 = .ok (.iload 8, 2) := by decide +kernel
theorem jd_BranchworkModel_changes_137 : decode mi_BranchworkModel_changes.2.1 137 = .ok (.invokevirtual 67, 3) := by decide +kernel
theorem jd_BranchworkModel_changes_140 : decode mi_BranchworkModel_changes.2.1 140 = .ok (.ifCond .ne 6, 3) := by decide +kernel
theorem jd_BranchworkModel_changes_143 : decode mi_BranchworkModel_changes.2.1 143 = .ok (.goto 71, 3) := by decide +kernel
theorem jd_BranchworkModel_changes_146 : decode mi_BranchworkModel_changes.2.1 146 = .ok (.aload 5, 2) := by decide +kernel
theorem jd_BranchworkModel_changes_148 : decode mi_BranchworkModel_changes.2.1 148 = .ok (.iload 8, 2) := by decide +kernel
theorem jd_BranchworkModel_changes_150 : decode mi_BranchworkModel_changes.2.1 150 = .ok (.invokevirtual 67, 3) := by decide +kernel
theorem jd_BranchworkModel_changes_153 : decode mi_BranchworkModel_changes.2.1 153 = .ok (.ifCond .eq 40, 3) := by decide +kernel
theorem jd_BranchworkModel_changes_156 : decode mi_BranchworkModel_changes.2.1 156 = .ok (.aload 7, 2) := by decide +kernel
theorem jd_BranchworkModel_changes_158 : decode mi_BranchworkModel_changes.2.1 158 = .ok (.iconst 3, 1) := by decide +kernel
theorem jd_BranchworkModel_changes_159 : decode mi_BranchworkModel_changes.2.1 159 = .ok (.dup2, 1) := by decide +kernel
theorem jd_BranchworkModel_changes_160 : decode mi_BranchworkModel_changes.2.1 160 = .ok (.iaload, 1) := by decide +kernel
theorem jd_BranchworkModel_changes_161 : decode mi_BranchworkModel_changes.2.1 161 = .ok (.aload 4, 2) := by decide +kernel
theorem jd_BranchworkModel_changes_163 : decode mi_BranchworkModel_changes.2.1 163 = .ok (.getfield 105, 3) := by decide +kernel
theorem jd_BranchworkModel_changes_166 : decode mi_BranchworkModel_changes.2.1 166 = .ok (.iload 8, 2) := by decide +kernel
theorem jd_BranchworkModel_changes_168 : decode mi_BranchworkModel_changes.2.1 168 = .ok (.aaload, 1) := by decide +kernel
theorem jd_BranchworkModel_changes_169 : decode mi_BranchworkModel_changes.2.1 169 = .ok (.aload 5, 2) := by decide +kernel
theorem jd_BranchworkModel_changes_171 : decode mi_BranchworkModel_changes.2.1 171 = .ok (.getfield 105, 3) := by decide +kernel
theorem jd_BranchworkModel_changes_174 : decode mi_BranchworkModel_changes.2.1 174 = .ok (.iload 8, 2) := by decide +kernel
theorem jd_BranchworkModel_changes_176 : decode mi_BranchworkModel_changes.2.1 176 = .ok (.aaload, 1) := by decide +kernel
theorem jd_BranchworkModel_changes_177 : decode mi_BranchworkModel_changes.2.1 177 = .ok (.invokestatic 126, 3) := by decide +kernel
theorem jd_BranchworkModel_changes_180 : decode mi_BranchworkModel_changes.2.1 180 = .ok (.ifCond .eq 7, 3) := by decide +kernel
theorem jd_BranchworkModel_changes_183 : decode mi_BranchworkModel_changes.2.1 183 = .ok (.iconst 0, 1) := by decide +kernel
theorem jd_BranchworkModel_changes_184 : decode mi_BranchworkModel_changes.2.1 184 = .ok (.goto 4, 3) := by decide +kernel
theorem jd_BranchworkModel_changes_187 : decode mi_BranchworkModel_changes.2.1 187 = .ok (.iconst 1, 1) := by decide +kernel
theorem jd_BranchworkModel_changes_188 : decode mi_BranchworkModel_changes.2.1 188 = .ok (.iadd, 1) := by decide +kernel
theorem jd_BranchworkModel_changes_189 : decode mi_BranchworkModel_changes.2.1 189 = .ok (.iastore, 1) := by decide +kernel
theorem jd_BranchworkModel_changes_190 : decode mi_BranchworkModel_changes.2.1 190 = .ok (.goto 24, 3) := by decide +kernel
theorem jd_BranchworkModel_changes_193 : decode mi_BranchworkModel_changes.2.1 193 = .ok (.aload 7, 2) := by decide +kernel
theorem jd_BranchworkModel_changes_195 : decode mi_BranchworkModel_changes.2.1 195 = .ok (.aload 6, 2) := by decide +kernel
theorem jd_BranchworkModel_changes_197 : decode mi_BranchworkModel_changes.2.1 197 = .ok (.iload 8, 2) := by decide +kernel
theorem jd_BranchworkModel_changes_199 : decode mi_BranchworkModel_changes.2.1 199 = .ok (.iaload, 1) := by decide +kernel
theorem jd_BranchworkModel_changes_200 : decode mi_BranchworkModel_changes.2.1 200 = .ok (.iconst (-1), 1) := by decide +kernel
theorem jd_BranchworkModel_changes_201 : decode mi_BranchworkModel_changes.2.1 201 = .ok (.if_icmp .ne 7, 3) := by decide +kernel
theorem jd_BranchworkModel_changes_204 : decode mi_BranchworkModel_changes.2.1 204 = .ok (.iconst 1, 1) := by decide +kernel
theorem jd_BranchworkModel_changes_205 : decode mi_BranchworkModel_changes.2.1 205 = .ok (.goto 4, 3) := by decide +kernel
theorem jd_BranchworkModel_changes_208 : decode mi_BranchworkModel_changes.2.1 208 = .ok (.iconst 2, 1) := by decide +kernel
theorem jd_BranchworkModel_changes_209 : decode mi_BranchworkModel_changes.2.1 209 = .ok (.dup2, 1) := by decide +kernel
theorem jd_BranchworkModel_changes_210 : decode mi_BranchworkModel_changes.2.1 210 = .ok (.iaload, 1) := by decide +kernel
theorem jd_BranchworkModel_changes_211 : decode mi_BranchworkModel_changes.2.1 211 = .ok (.iconst 1, 1) := by decide +kernel
theorem jd_BranchworkModel_changes_212 : decode mi_BranchworkModel_changes.2.1 212 = .ok (.iadd, 1) := by decide +kernel
theorem jd_BranchworkModel_changes_213 : decode mi_BranchworkModel_changes.2.1 213 = .ok (.iastore, 1) := by decide +kernel
theorem jd_BranchworkModel_changes_214 : decode mi_BranchworkModel_changes.2.1 214 = .ok (.iinc 8 1, 3) := by decide +kernel
theorem jd_BranchworkModel_changes_217 : decode mi_BranchworkModel_changes.2.1 217 = .ok (.goto (-115), 3) := by decide +kernel
theorem jd_BranchworkModel_changes_220 : decode mi_BranchworkModel_changes.2.1 220 = .ok (.aload 7, 2) := by decide +kernel
theorem jd_BranchworkModel_changes_222 : decode mi_BranchworkModel_changes.2.1 222 = .ok (.iload_n 3, 1) := by decide +kernel
theorem jd_BranchworkModel_changes_223 : decode mi_BranchworkModel_changes.2.1 223 = .ok (.iaload, 1) := by decide +kernel
theorem jd_BranchworkModel_changes_224 : decode mi_BranchworkModel_changes.2.1 224 = .ok (.ireturn, 1) := by decide +kernel
theorem jd_BranchworkModel_nearness0_0 : decode mi_BranchworkModel_nearness0.2.1 0 = .ok (.aload_n 0, 1) := by decide +kernel
theorem jd_BranchworkModel_nearness0_1 : decode mi_BranchworkModel_nearness0.2.1 1 = .ok (.aload_n 0, 1) := by decide +kernel
theorem jd_BranchworkModel_nearness0_2 : decode mi_BranchworkModel_nearness0.2.1 2 = .ok (.iload_n 1, 1) := by decide +kernel
theorem jd_BranchworkModel_nearness0_3 : decode mi_BranchworkModel_nearness0.2.1 3 = .ok (.invokevirtual 158, 3) := by decide +kernel
theorem jd_BranchworkModel_nearness0_6 : decode mi_BranchworkModel_nearness0.2.1 6 = .ok (.ifCond .ne 26, 3) := by decide +kernel
theorem jd_BranchworkModel_nearness0_9 : decode mi_BranchworkModel_nearness0.2.1 9 = .ok (.aload_n 0, 1) := by decide +kernel
theorem jd_BranchworkModel_nearness0_10 : decode mi_BranchworkModel_nearness0.2.1 10 = .ok (.iload_n 3, 1) := by decide +kernel
theorem jd_BranchworkModel_nearness0_11 : decode mi_BranchworkModel_nearness0.2.1 11 = .ok (.invokevirtual 158, 3) := by decide +kernel
theorem jd_BranchworkModel_nearness0_14 : decode mi_BranchworkModel_nearness0.2.1 14 = .ok (.ifCond .ne 18, 3) := by decide +kernel
theorem jd_BranchworkModel_nearness0_17 : decode mi_BranchworkModel_nearness0.2.1 17 = .ok (.iload_n 2, 1) := by decide +kernel
theorem jd_BranchworkModel_nearness0_18 : decode mi_BranchworkModel_nearness0.2.1 18 = .ok (.invokestatic 63, 3) := by decide +kernel
theorem jd_BranchworkModel_nearness0_21 : decode mi_BranchworkModel_nearness0.2.1 21 = .ok (.ifCond .ne 11, 3) := by decide +kernel
theorem jd_BranchworkModel_nearness0_24 : decode mi_BranchworkModel_nearness0.2.1 24 = .ok (.iload 4, 2) := by decide +kernel
theorem jd_BranchworkModel_nearness0_26 : decode mi_BranchworkModel_nearness0.2.1 26 = .ok (.invokestatic 63, 3) := by decide +kernel
theorem jd_BranchworkModel_nearness0_29 : decode mi_BranchworkModel_nearness0.2.1 29 = .ok (.ifCond .eq 7, 3) := by decide +kernel
theorem jd_BranchworkModel_nearness0_32 : decode mi_BranchworkModel_nearness0.2.1 32 = .ok (.iconst 1, 1) := by decide +kernel
theorem jd_BranchworkModel_nearness0_33 : decode mi_BranchworkModel_nearness0.2.1 33 = .ok (.goto 4, 3) := by decide +kernel
theorem jd_BranchworkModel_nearness0_36 : decode mi_BranchworkModel_nearness0.2.1 36 = .ok (.iconst 0, 1) := by decide +kernel
theorem jd_BranchworkModel_nearness0_37 : decode mi_BranchworkModel_nearness0.2.1 37 = .ok (.iconst 1, 1) := by decide +kernel
theorem jd_BranchworkModel_nearness0_38 : decode mi_BranchworkModel_nearness0.2.1 38 = .ok (.invokevirtual 108, 3) := by decide +kernel
theorem jd_BranchworkModel_nearness0_41 : decode mi_BranchworkModel_nearness0.2.1 41 = .ok (.ifCond .eq 5, 3) := by decide +kernel
theorem jd_BranchworkModel_nearness0_44 : decode mi_BranchworkModel_nearness0.2.1 44 = .ok (.iconst 0, 1) := by decide +kernel
theorem jd_BranchworkModel_nearness0_45 : decode mi_BranchworkModel_nearness0.2.1 45 = .ok (.ireturn, 1) := by decide +kernel
theorem jd_BranchworkModel_nearness0_46 : decode mi_BranchworkModel_nearness0.2.1 46 = .ok (.aload_n 0, 1) := by decide +kernel
theorem jd_BranchworkModel_nearness0_47 : decode mi_BranchworkModel_nearness0.2.1 47 = .ok (.getfield 30, 3) := by decide +kernel
theorem jd_BranchworkModel_nearness0_50 : decode mi_BranchworkModel_nearness0.2.1 50 = .ok (.iload_n 1, 1) := by decide +kernel
theorem jd_BranchworkModel_nearness0_51 : decode mi_BranchworkModel_nearness0.2.1 51 = .ok (.invokevirtual 74, 3) := by decide +kernel
theorem jd_BranchworkModel_nearness0_54 : decode mi_BranchworkModel_nearness0.2.1 54 = .ok (.checkcast 78, 3) := by decide +kernel
theorem jd_BranchworkModel_nearness0_57 : decode mi_BranchworkModel_nearness0.2.1 57 = .ok (.getfield 91, 3) := by decide +kernel
theorem jd_BranchworkModel_nearness0_60 : decode mi_BranchworkModel_nearness0.2.1 60 = .ok (.getfield 105, 3) := by decide +kernel
theorem jd_BranchworkModel_nearness0_63 : decode mi_BranchworkModel_nearness0.2.1 63 = .ok (.iload_n 2, 1) := by decide +kernel
theorem jd_BranchworkModel_nearness0_64 : decode mi_BranchworkModel_nearness0.2.1 64 = .ok (.aaload, 1) := by decide +kernel
theorem jd_BranchworkModel_nearness0_65 : decode mi_BranchworkModel_nearness0.2.1 65 = .ok (.astore 5, 2) := by decide +kernel
theorem jd_BranchworkModel_nearness0_67 : decode mi_BranchworkModel_nearness0.2.1 67 = .ok (.aload_n 0, 1) := by decide +kernel
theorem jd_BranchworkModel_nearness0_68 : decode mi_BranchworkModel_nearness0.2.1 68 = .ok (.getfield 30, 3) := by decide +kernel
theorem jd_BranchworkModel_nearness0_71 : decode mi_BranchworkModel_nearness0.2.1 71 = .ok (.iload_n 3, 1) := by decide +kernel
theorem jd_BranchworkModel_nearness0_72 : decode mi_BranchworkModel_nearness0.2.1 72 = .ok (.invokevirtual 74, 3) := by decide +kernel
theorem jd_BranchworkModel_nearness0_75 : decode mi_BranchworkModel_nearness0.2.1 75 = .ok (.checkcast 78, 3) := by decide +kernel
theorem jd_BranchworkModel_nearness0_78 : decode mi_BranchworkModel_nearness0.2.1 78 = .ok (.getfield 91, 3) := by decide +kernel
theorem jd_BranchworkModel_nearness0_81 : decode mi_BranchworkModel_nearness0.2.1 81 = .ok (.getfield 105, 3) := by decide +kernel
theorem jd_BranchworkModel_nearness0_84 : decode mi_BranchworkModel_nearness0.2.1 84 = .ok (.iload 4, 2) := by decide +kernel
theorem jd_BranchworkModel_nearness0_86 : decode mi_BranchworkModel_nearness0.2.1 86 = .ok (.aaload, 1) := by decide +kernel
theorem jd_BranchworkModel_nearness0_87 : decode mi_BranchworkModel_nearness0.2.1 87 = .ok (.astore 6, 2) := by decide +kernel
theorem jd_BranchworkModel_nearness0_89 : decode mi_BranchworkModel_nearness0.2.1 89 = .ok (.aload_n 0, 1) := by decide +kernel
theorem jd_BranchworkModel_nearness0_90 : decode mi_BranchworkModel_nearness0.2.1 90 = .ok (.aload 5, 2) := by decide +kernel
theorem jd_BranchworkModel_nearness0_92 : decode mi_BranchworkModel_nearness0.2.1 92 = .ok (.ifnull 8, 3) := by decide +kernel
theorem jd_BranchworkModel_nearness0_95 : decode mi_BranchworkModel_nearness0.2.1 95 = .ok (.aload 6, 2) := by decide +kernel
theorem jd_BranchworkModel_nearness0_97 : decode mi_BranchworkModel_nearness0.2.1 97 = .ok (.ifnonnull 7, 3) := by decide +kernel
theorem jd_BranchworkModel_nearness0_100 : decode mi_BranchworkModel_nearness0.2.1 100 = .ok (.iconst 1, 1) := by decide +kernel
theorem jd_BranchworkModel_nearness0_101 : decode mi_BranchworkModel_nearness0.2.1 101 = .ok (.goto 4, 3) := by decide +kernel
theorem jd_BranchworkModel_nearness0_104 : decode mi_BranchworkModel_nearness0.2.1 104 = .ok (.iconst 0, 1) := by decide +kernel
theorem jd_BranchworkModel_nearness0_105 : decode mi_BranchworkModel_nearness0.2.1 105 = .ok (.iconst 1, 1) := by decide +kernel
theorem jd_BranchworkModel_nearness0_106 : decode mi_BranchworkModel_nearness0.2.1 106 = .ok (.invokevirtual 55, 3) := by decide +kernel
theorem jd_BranchworkModel_nearness0_109 : decode mi_BranchworkModel_nearness0.2.1 109 = .ok (.ifCond .eq 7, 3) := by decide +kernel
theorem jd_BranchworkModel_nearness0_112 : decode mi_BranchworkModel_nearness0.2.1 112 = .ok (.iconst 0, 1) := by decide +kernel
theorem jd_BranchworkModel_nearness0_113 : decode mi_BranchworkModel_nearness0.2.1 113 = .ok (.goto 10, 3) := by decide +kernel
theorem jd_BranchworkModel_nearness0_116 : decode mi_BranchworkModel_nearness0.2.1 116 = .ok (.aload 5, 2) := by decide +kernel
theorem jd_BranchworkModel_nearness0_118 : decode mi_BranchworkModel_nearness0.2.1 118 = .ok (.aload 6, 2) := by decide +kernel
theorem jd_BranchworkModel_nearness0_120 : decode mi_BranchworkModel_nearness0.2.1 120 = .ok (.invokestatic 267, 3) := by decide +kernel
theorem jd_BranchworkModel_nearness0_123 : decode mi_BranchworkModel_nearness0.2.1 123 = .ok (.ireturn, 1) := by decide +kernel
theorem jd_BranchworkModel_origin_0 : decode mi_BranchworkModel_origin.2.1 0 = .ok (.aload_n 0, 1) := by decide +kernel
theorem jd_BranchworkModel_origin_1 : decode mi_BranchworkModel_origin.2.1 1 = .ok (.aload_n 0, 1) := by decide +kernel
theorem jd_BranchworkModel_origin_2 : decode mi_BranchworkModel_origin.2.1 2 = .ok (.iload_n 1, 1) := by decide +kernel
theorem jd_BranchworkModel_origin_3 : decode mi_BranchworkModel_origin.2.1 3 = .ok (.invokevirtual 158, 3) := by decide +kernel
theorem jd_BranchworkModel_origin_6 : decode mi_BranchworkModel_origin.2.1 6 = .ok (.ifCond .ne 10, 3) := by decide +kernel
theorem jd_BranchworkModel_origin_9 : decode mi_BranchworkModel_origin.2.1 9 = .ok (.iload_n 2, 1) := by decide +kernel
theorem jd_BranchworkModel_origin_10 : decode mi_BranchworkModel_origin.2.1 10 = .ok (.invokestatic 63, 3) := by decide +kernel
theorem jd_BranchworkModel_origin_13 : decode mi_BranchworkModel_origin.2.1 13 = .ok (.ifCond .eq 7, 3) := by decide +kernel
theorem jd_BranchworkModel_origin_16 : decode mi_BranchworkModel_origin.2.1 16 = .ok (.iconst 1, 1) := by decide +kernel
theorem jd_BranchworkModel_origin_17 : decode mi_BranchworkModel_origin.2.1 17 = .ok (.goto 4, 3) := by decide +kernel
theorem jd_BranchworkModel_origin_20 : decode mi_BranchworkModel_origin.2.1 20 = .ok (.iconst 0, 1) := by decide +kernel
theorem jd_BranchworkModel_origin_21 : decode mi_BranchworkModel_origin.2.1 21 = .ok (.iconst 1, 1) := by decide +kernel
theorem jd_BranchworkModel_origin_22 : decode mi_BranchworkModel_origin.2.1 22 = .ok (.invokevirtual 108, 3) := by decide +kernel
theorem jd_BranchworkModel_origin_25 : decode mi_BranchworkModel_origin.2.1 25 = .ok (.ifCond .eq 5, 3) := by decide +kernel
theorem jd_BranchworkModel_origin_28 : decode mi_BranchworkModel_origin.2.1 28 = .ok (.iconst 0, 1) := by decide +kernel
theorem jd_BranchworkModel_origin_29 : decode mi_BranchworkModel_origin.2.1 29 = .ok (.ireturn, 1) := by decide +kernel
theorem jd_BranchworkModel_origin_30 : decode mi_BranchworkModel_origin.2.1 30 = .ok (.aload_n 0, 1) := by decide +kernel
theorem jd_BranchworkModel_origin_31 : decode mi_BranchworkModel_origin.2.1 31 = .ok (.getfield 30, 3) := by decide +kernel
theorem jd_BranchworkModel_origin_34 : decode mi_BranchworkModel_origin.2.1 34 = .ok (.iload_n 1, 1) := by decide +kernel
theorem jd_BranchworkModel_origin_35 : decode mi_BranchworkModel_origin.2.1 35 = .ok (.invokevirtual 74, 3) := by decide +kernel
theorem jd_BranchworkModel_origin_38 : decode mi_BranchworkModel_origin.2.1 38 = .ok (.checkcast 78, 3) := by decide +kernel
theorem jd_BranchworkModel_origin_41 : decode mi_BranchworkModel_origin.2.1 41 = .ok (.astore 4, 2) := by decide +kernel
theorem jd_BranchworkModel_origin_43 : decode mi_BranchworkModel_origin.2.1 43 = .ok (.aload_n 0, 1) := by decide +kernel
theorem jd_BranchworkModel_origin_44 : decode mi_BranchworkModel_origin.2.1 44 = .ok (.aload 4, 2) := by decide +kernel
theorem jd_BranchworkModel_origin_46 : decode mi_BranchworkModel_origin.2.1 46 = .ok (.getfield 91, 3) := by decide +kernel
theorem jd_BranchworkModel_origin_49 : decode mi_BranchworkModel_origin.2.1 49 = .ok (.iload_n 2, 1) := by decide +kernel
theorem jd_BranchworkModel_origin_50 : decode mi_BranchworkModel_origin.2.1 50 = .ok (.invokevirtual 67, 3) := by decide +kernel
theorem jd_BranchworkModel_origin_53 : decode mi_BranchworkModel_origin.2.1 53 = .ok (.ifCond .eq 24, 3) := by decide +kernel
theorem jd_BranchworkModel_origin_56 : decode mi_BranchworkModel_origin.2.1 56 = .ok (.iload_n 3, 1) := by decide +kernel
theorem jd_BranchworkModel_origin_57 : decode mi_BranchworkModel_origin.2.1 57 = .ok (.iconst 0, 1) := by decide +kernel
theorem jd_BranchworkModel_origin_58 : decode mi_BranchworkModel_origin.2.1 58 = .ok (.aload 4, 2) := by decide +kernel
theorem jd_BranchworkModel_origin_60 : decode mi_BranchworkModel_origin.2.1 60 = .ok (.getfield 91, 3) := by decide +kernel
theorem jd_BranchworkModel_origin_63 : decode mi_BranchworkModel_origin.2.1 63 = .ok (.getfield 105, 3) := by decide +kernel
theorem jd_BranchworkModel_origin_66 : decode mi_BranchworkModel_origin.2.1 66 = .ok (.iload_n 2, 1) := by decide +kernel
theorem jd_BranchworkModel_origin_67 : decode mi_BranchworkModel_origin.2.1 67 = .ok (.aaload, 1) := by decide +kernel
theorem jd_BranchworkModel_origin_68 : decode mi_BranchworkModel_origin.2.1 68 = .ok (.arraylength, 1) := by decide +kernel
theorem jd_BranchworkModel_origin_69 : decode mi_BranchworkModel_origin.2.1 69 = .ok (.iconst 1, 1) := by decide +kernel
theorem jd_BranchworkModel_origin_70 : decode mi_BranchworkModel_origin.2.1 70 = .ok (.isub, 1) := by decide +kernel
theorem jd_BranchworkModel_origin_71 : decode mi_BranchworkModel_origin.2.1 71 = .ok (.invokestatic 59, 3) := by decide +kernel
theorem jd_BranchworkModel_origin_74 : decode mi_BranchworkModel_origin.2.1 74 = .ok (.ifCond .ne 7, 3) := by decide +kernel
theorem jd_BranchworkModel_origin_77 : decode mi_BranchworkModel_origin.2.1 77 = .ok (.iconst 1, 1) := by decide +kernel
theorem jd_BranchworkModel_origin_78 : decode mi_BranchworkModel_origin.2.1 78 = .ok (.goto 4, 3) := by decide +kernel
theorem jd_BranchworkModel_origin_81 : decode mi_BranchworkModel_origin.2.1 81 = .ok (.iconst 0, 1) := by decide +kernel
theorem jd_BranchworkModel_origin_82 : decode mi_BranchworkModel_origin.2.1 82 = .ok (.iconst 1, 1) := by decide +kernel
theorem jd_BranchworkModel_origin_83 : decode mi_BranchworkModel_origin.2.1 83 = .ok (.invokevirtual 55, 3) := by decide +kernel
theorem jd_BranchworkModel_origin_86 : decode mi_BranchworkModel_origin.2.1 86 = .ok (.ifCond .eq 7, 3) := by decide +kernel
theorem jd_BranchworkModel_origin_89 : decode mi_BranchworkModel_origin.2.1 89 = .ok (.iconst 0, 1) := by decide +kernel
theorem jd_BranchworkModel_origin_90 : decode mi_BranchworkModel_origin.2.1 90 = .ok (.goto 10, 3) := by decide +kernel
theorem jd_BranchworkModel_origin_93 : decode mi_BranchworkModel_origin.2.1 93 = .ok (.aload 4, 2) := by decide +kernel
theorem jd_BranchworkModel_origin_95 : decode mi_BranchworkModel_origin.2.1 95 = .ok (.iload_n 2, 1) := by decide +kernel
theorem jd_BranchworkModel_origin_96 : decode mi_BranchworkModel_origin.2.1 96 = .ok (.iload_n 3, 1) := by decide +kernel
theorem jd_BranchworkModel_origin_97 : decode mi_BranchworkModel_origin.2.1 97 = .ok (.invokestatic 279, 3) := by decide +kernel
theorem jd_BranchworkModel_origin_100 : decode mi_BranchworkModel_origin.2.1 100 = .ok (.ireturn, 1) := by decide +kernel
theorem jd_BranchworkModel_conflictsOf_0 : decode mi_BranchworkModel_conflictsOf.2.1 0 = .ok (.aload_n 0, 1) := by decide +kernel
theorem jd_BranchworkModel_conflictsOf_1 : decode mi_BranchworkModel_conflictsOf.2.1 1 = .ok (.aload_n 0, 1) := by decide +kernel
theorem jd_BranchworkModel_conflictsOf_2 : decode mi_BranchworkModel_conflictsOf.2.1 2 = .ok (.iload_n 1, 1) := by decide +kernel
theorem jd_BranchworkModel_conflictsOf_3 : decode mi_BranchworkModel_conflictsOf.2.1 3 = .ok (.invokevirtual 158, 3) := by decide +kernel
theorem jd_BranchworkModel_conflictsOf_6 : decode mi_BranchworkModel_conflictsOf.2.1 6 = .ok (.ifCond .ne 11, 3) := by decide +kernel
theorem jd_BranchworkModel_conflictsOf_9 : decode mi_BranchworkModel_conflictsOf.2.1 9 = .ok (.aload_n 0, 1) := by decide +kernel
theorem jd_BranchworkModel_conflictsOf_10 : decode mi_BranchworkModel_conflictsOf.2.1 10 = .ok (.iload_n 2, 1) := by decide +kernel
theorem jd_BranchworkModel_conflictsOf_11 : decode mi_BranchworkModel_conflictsOf.2.1 11 = .ok (.invokevirtual 158, 3) := by decide +kernel
theorem jd_BranchworkModel_conflictsOf_14 : decode mi_BranchworkModel_conflictsOf.2.1 14 = .ok (.ifCond .eq 7, 3) := by decide +kernel
theorem jd_BranchworkModel_conflictsOf_17 : decode mi_BranchworkModel_conflictsOf.2.1 17 = .ok (.iconst 1, 1) := by decide +kernel
theorem jd_BranchworkModel_conflictsOf_18 : decode mi_BranchworkModel_conflictsOf.2.1 18 = .ok (.goto 4, 3) := by decide +kernel
theorem jd_BranchworkModel_conflictsOf_21 : decode mi_BranchworkModel_conflictsOf.2.1 21 = .ok (.iconst 0, 1) := by decide +kernel
theorem jd_BranchworkModel_conflictsOf_22 : decode mi_BranchworkModel_conflictsOf.2.1 22 = .ok (.iconst 1, 1) := by decide +kernel
theorem jd_BranchworkModel_conflictsOf_23 : decode mi_BranchworkModel_conflictsOf.2.1 23 = .ok (.invokevirtual 108, 3) := by decide +kernel
theorem jd_BranchworkModel_conflictsOf_26 : decode mi_BranchworkModel_conflictsOf.2.1 26 = .ok (.ifCond .eq 5, 3) := by decide +kernel
theorem jd_BranchworkModel_conflictsOf_29 : decode mi_BranchworkModel_conflictsOf.2.1 29 = .ok (.iconst 0, 1) := by decide +kernel
theorem jd_BranchworkModel_conflictsOf_30 : decode mi_BranchworkModel_conflictsOf.2.1 30 = .ok (.ireturn, 1) := by decide +kernel
theorem jd_BranchworkModel_conflictsOf_31 : decode mi_BranchworkModel_conflictsOf.2.1 31 = .ok (.aload_n 0, 1) := by decide +kernel
theorem jd_BranchworkModel_conflictsOf_32 : decode mi_BranchworkModel_conflictsOf.2.1 32 = .ok (.getfield 30, 3) := by decide +kernel
theorem jd_BranchworkModel_conflictsOf_35 : decode mi_BranchworkModel_conflictsOf.2.1 35 = .ok (.iload_n 1, 1) := by decide +kernel
theorem jd_BranchworkModel_conflictsOf_36 : decode mi_BranchworkModel_conflictsOf.2.1 36 = .ok (.invokevirtual 74, 3) := by decide +kernel
theorem jd_BranchworkModel_conflictsOf_39 : decode mi_BranchworkModel_conflictsOf.2.1 39 = .ok (.checkcast 78, 3) := by decide +kernel
theorem jd_BranchworkModel_conflictsOf_42 : decode mi_BranchworkModel_conflictsOf.2.1 42 = .ok (.astore_n 3, 1) := by decide +kernel
theorem jd_BranchworkModel_conflictsOf_43 : decode mi_BranchworkModel_conflictsOf.2.1 43 = .ok (.aload_n 0, 1) := by decide +kernel
theorem jd_BranchworkModel_conflictsOf_44 : decode mi_BranchworkModel_conflictsOf.2.1 44 = .ok (.getfield 30, 3) := by decide +kernel
theorem jd_BranchworkModel_conflictsOf_47 : decode mi_BranchworkModel_conflictsOf.2.1 47 = .ok (.iload_n 2, 1) := by decide +kernel
theorem jd_BranchworkModel_conflictsOf_48 : decode mi_BranchworkModel_conflictsOf.2.1 48 = .ok (.invokevirtual 74, 3) := by decide +kernel
theorem jd_BranchworkModel_conflictsOf_51 : decode mi_BranchworkModel_conflictsOf.2.1 51 = .ok (.checkcast 78, 3) := by decide +kernel
theorem jd_BranchworkModel_conflictsOf_54 : decode mi_BranchworkModel_conflictsOf.2.1 54 = .ok (.astore 4, 2) := by decide +kernel
theorem jd_BranchworkModel_conflictsOf_56 : decode mi_BranchworkModel_conflictsOf.2.1 56 = .ok (.new 171, 3) := by decide +kernel
theorem jd_BranchworkModel_conflictsOf_59 : decode mi_BranchworkModel_conflictsOf.2.1 59 = .ok (.dup, 1) := by decide +kernel
theorem jd_BranchworkModel_conflictsOf_60 : decode mi_BranchworkModel_conflictsOf.2.1 60 = .ok (.aload_n 0, 1) := by decide +kernel
theorem jd_BranchworkModel_conflictsOf_61 : decode mi_BranchworkModel_conflictsOf.2.1 61 = .ok (.aload_n 3, 1) := by decide +kernel
theorem jd_BranchworkModel_conflictsOf_62 : decode mi_BranchworkModel_conflictsOf.2.1 62 = .ok (.aload 4, 2) := by decide +kernel
theorem jd_BranchworkModel_conflictsOf_64 : decode mi_BranchworkModel_conflictsOf.2.1 64 = .ok (.invokevirtual 173, 3) := by decide +kernel
theorem jd_BranchworkModel_conflictsOf_67 : decode mi_BranchworkModel_conflictsOf.2.1 67 = .ok (.aload_n 3, 1) := by decide +kernel
theorem jd_BranchworkModel_conflictsOf_68 : decode mi_BranchworkModel_conflictsOf.2.1 68 = .ok (.getfield 91, 3) := by decide +kernel
theorem jd_BranchworkModel_conflictsOf_71 : decode mi_BranchworkModel_conflictsOf.2.1 71 = .ok (.aload 4, 2) := by decide +kernel
theorem jd_BranchworkModel_conflictsOf_73 : decode mi_BranchworkModel_conflictsOf.2.1 73 = .ok (.getfield 91, 3) := by decide +kernel
theorem jd_BranchworkModel_conflictsOf_76 : decode mi_BranchworkModel_conflictsOf.2.1 76 = .ok (.invokespecial 177, 3) := by decide +kernel
theorem jd_BranchworkModel_conflictsOf_79 : decode mi_BranchworkModel_conflictsOf.2.1 79 = .ok (.getfield 183, 3) := by decide +kernel
theorem jd_BranchworkModel_conflictsOf_82 : decode mi_BranchworkModel_conflictsOf.2.1 82 = .ok (.invokevirtual 70, 3) := by decide +kernel
theorem jd_BranchworkModel_conflictsOf_85 : decode mi_BranchworkModel_conflictsOf.2.1 85 = .ok (.ireturn, 1) := by decide +kernel
/-- a call of the reference on its new state: n is thrown() then; where that is 0 it answers val -/
def jr_F (mi : jw_M) (o : jw_O) (As : List Value) (μ : jw_Mem) (hs r n : Nat) (val : Int32) : Prop := jw_Spec mi 12 64 1000 o As μ hs (fun v μ' s' => (∃ x, v = some (.int x) ∧ (n = 0 → x = val)) ∧ (∃ c', μ' r = some (.inr (9, .int (nI n) :: c'))) ∧ ∀ q, (q < r ∨ r + 7 ≤ q) → q < hs → μ' q = μ q)
section
variable {o : jw_O} {μ : jw_Mem} {hs r : Nat}
theorem br_cut0 {th : Int32} (h : bq_At o μ r th) (x0 x1 : Int32) : jr_F mi_BranchworkModel_cut0 o [.ref r, .int x0, .int x1] μ hs r 1 0 := by
  refine jw_spec (by decide +kernel) (Nat.le_of_ble_eq_true rfl) rfl (fun k hR hE => ?_)
  have h0 := h.1
  refine jw_aload_n (pc' := 1) jd_BranchworkModel_cut0_0 rfl rfl rfl ?_
  refine jw_aload_n (pc' := 2) jd_BranchworkModel_cut0_1 rfl rfl rfl ?_
  refine jw_iload_n (pc' := 3) jd_BranchworkModel_cut0_2 rfl rfl rfl ?_
  refine jw_callV0 (pc' := 6) hR (bq_isNoFile h x0) jm_BranchworkModel_isNoFile jq_1200 jc_BranchworkModel jd_BranchworkModel_cut0_3 (by assumption) rfl rfl (Nat.le_of_ble_eq_true rfl) (by omega) (by decide) (by omega) (by omega) rfl rfl ?_
  refine jw_iconst (pc' := 7) (v := nI 1) jd_BranchworkModel_cut0_6 (by decide +kernel) rfl ?_
  refine jw_callV (pc' := 10) hR (bq_start1 h (w := 1) (by omega) (by omega)) jm_BranchworkModel_start jq_1166 jc_BranchworkModel jd_BranchworkModel_cut0_7 (by assumption) rfl rfl (Nat.le_of_ble_eq_true rfl) (by omega) (by decide) (by omega) (by omega) rfl (fun v μ s9 q9 hle => ?_)
  obtain ⟨rfl, rfl, h, f8⟩ := q9
  refine jw_if_ne (tgt := 46) (pc' := 13) jd_BranchworkModel_cut0_10 (by decide) rfl (fun c => ?_) (fun c => ?_)
  rotate_left
  · exact absurd c (by decide)
  refine jw_iconst (pc' := 47) (v := nI 0) jd_BranchworkModel_cut0_46 (by decide +kernel) rfl ?_
  refine jw_iret hE jd_BranchworkModel_cut0_47 rfl (by omega) (by omega) ?_
  exact ⟨⟨_, rfl, fun z => absurd z (by decide)⟩, ⟨_, h.1⟩, fun q z _ => f8 q (by omega)⟩
theorem br_rename {th : Int32} (h : bq_At o μ r th) (x0 x1 : Int32) : jr_F mi_BranchworkModel_rename o [.ref r, .int x0, .int x1] μ hs r 1 0 := by
  refine jw_spec (by decide +kernel) (Nat.le_of_ble_eq_true rfl) rfl (fun k hR hE => ?_)
  have h0 := h.1
  refine jw_aload_n (pc' := 1) jd_BranchworkModel_rename_0 rfl rfl rfl ?_
  refine jw_aload_n (pc' := 2) jd_BranchworkModel_rename_1 rfl rfl rfl ?_
  refine jw_iload_n (pc' := 3) jd_BranchworkModel_rename_2 rfl rfl rfl ?_
  refine jw_callV0 (pc' := 6) hR (bq_isNoFile h x0) jm_BranchworkModel_isNoFile jq_1200 jc_BranchworkModel jd_BranchworkModel_rename_3 (by assumption) rfl rfl (Nat.le_of_ble_eq_true rfl) (by omega) (by decide) (by omega) (by omega) rfl rfl ?_
  refine jw_if_ne (tgt := 16) (pc' := 9) jd_BranchworkModel_rename_6 (by decide) rfl (fun c0 => ?_) (fun c0 => ?_)
  rotate_left
  · exact absurd c0 (by decide)
  refine jw_iconst (pc' := 17) (v := nI 1) jd_BranchworkModel_rename_16 (by decide +kernel) rfl ?_
  refine jw_goto (tgt := 21) jd_BranchworkModel_rename_17 (by decide) ?_
  refine jw_iconst (pc' := 22) (v := nI 1) jd_BranchworkModel_rename_21 (by decide +kernel) rfl ?_
  refine jw_callV (pc' := 25) hR (bq_start1 h (w := 1) (by omega) (by omega)) jm_BranchworkModel_start jq_1166 jc_BranchworkModel jd_BranchworkModel_rename_22 (by assumption) rfl rfl (Nat.le_of_ble_eq_true rfl) (by omega) (by decide) (by omega) (by omega) rfl (fun v μ s9 q9 hle => ?_)
  obtain ⟨rfl, rfl, h, f8⟩ := q9
  refine jw_if_ne (tgt := 44) (pc' := 28) jd_BranchworkModel_rename_25 (by decide) rfl (fun c => ?_) (fun c => ?_)
  rotate_left
  · exact absurd c (by decide)
  refine jw_iconst (pc' := 45) (v := nI 0) jd_BranchworkModel_rename_44 (by decide +kernel) rfl ?_
  refine jw_iret hE jd_BranchworkModel_rename_45 rfl (by omega) (by omega) ?_
  exact ⟨⟨_, rfl, fun z => absurd z (by decide)⟩, ⟨_, h.1⟩, fun q z _ => f8 q (by omega)⟩
theorem br_remove {th : Int32} (h : bq_At o μ r th) (x0 : Int32) : jr_F mi_BranchworkModel_remove o [.ref r, .int x0] μ hs r 1 0 := by
  refine jw_spec (by decide +kernel) (Nat.le_of_ble_eq_true rfl) rfl (fun k hR hE => ?_)
  have h0 := h.1
  refine jw_aload_n (pc' := 1) jd_BranchworkModel_remove_0 rfl rfl rfl ?_
  refine jw_aload_n (pc' := 2) jd_BranchworkModel_remove_1 rfl rfl rfl ?_
  refine jw_iload_n (pc' := 3) jd_BranchworkModel_remove_2 rfl rfl rfl ?_
  refine jw_callV0 (pc' := 6) hR (bq_isNoFile h x0) jm_BranchworkModel_isNoFile jq_1200 jc_BranchworkModel jd_BranchworkModel_remove_3 (by assumption) rfl rfl (Nat.le_of_ble_eq_true rfl) (by omega) (by decide) (by omega) (by omega) rfl rfl ?_
  refine jw_iconst (pc' := 7) (v := nI 1) jd_BranchworkModel_remove_6 (by decide +kernel) rfl ?_
  refine jw_callV (pc' := 10) hR (bq_start1 h (w := 1) (by omega) (by omega)) jm_BranchworkModel_start jq_1166 jc_BranchworkModel jd_BranchworkModel_remove_7 (by assumption) rfl rfl (Nat.le_of_ble_eq_true rfl) (by omega) (by decide) (by omega) (by omega) rfl (fun v μ s9 q9 hle => ?_)
  obtain ⟨rfl, rfl, h, f8⟩ := q9
  refine jw_if_eq (tgt := 15) (pc' := 13) jd_BranchworkModel_remove_10 (by decide) rfl (fun c => ?_) (fun c => ?_)
  · exact absurd c (by decide)
  refine jw_iconst (pc' := 14) (v := nI 0) jd_BranchworkModel_remove_13 (by decide +kernel) rfl ?_
  refine jw_iret hE jd_BranchworkModel_remove_14 rfl (by omega) (by omega) ?_
  exact ⟨⟨_, rfl, fun z => absurd z (by decide)⟩, ⟨_, h.1⟩, fun q z _ => f8 q (by omega)⟩
theorem br_reset {th : Int32} (h : bq_At o μ r th) (x0 : Int32) : jr_F mi_BranchworkModel_reset o [.ref r, .int x0] μ hs r 1 0 := by
  refine jw_spec (by decide +kernel) (Nat.le_of_ble_eq_true rfl) rfl (fun k hR hE => ?_)
  have h0 := h.1
  refine jw_aload_n (pc' := 1) jd_BranchworkModel_reset_0 rfl rfl rfl ?_
  refine jw_aload_n (pc' := 2) jd_BranchworkModel_reset_1 rfl rfl rfl ?_
  refine jw_iload_n (pc' := 3) jd_BranchworkModel_reset_2 rfl rfl rfl ?_
  refine jw_callV0 (pc' := 6) hR (bq_isNoCommit h x0) jm_BranchworkModel_isNoCommit jq_1321 jc_BranchworkModel jd_BranchworkModel_reset_3 (by assumption) rfl rfl (Nat.le_of_ble_eq_true rfl) (by omega) (by decide) (by omega) (by omega) rfl rfl ?_
  refine jw_iconst (pc' := 7) (v := nI 1) jd_BranchworkModel_reset_6 (by decide +kernel) rfl ?_
  refine jw_callV (pc' := 10) hR (bq_start1 h (w := 1) (by omega) (by omega)) jm_BranchworkModel_start jq_1166 jc_BranchworkModel jd_BranchworkModel_reset_7 (by assumption) rfl rfl (Nat.le_of_ble_eq_true rfl) (by omega) (by decide) (by omega) (by omega) rfl (fun v μ s9 q9 hle => ?_)
  obtain ⟨rfl, rfl, h, f8⟩ := q9
  refine jw_if_eq (tgt := 15) (pc' := 13) jd_BranchworkModel_reset_10 (by decide) rfl (fun c => ?_) (fun c => ?_)
  · exact absurd c (by decide)
  refine jw_iconst (pc' := 14) (v := nI 0) jd_BranchworkModel_reset_13 (by decide +kernel) rfl ?_
  refine jw_iret hE jd_BranchworkModel_reset_14 rfl (by omega) (by omega) ?_
  exact ⟨⟨_, rfl, fun z => absurd z (by decide)⟩, ⟨_, h.1⟩, fun q z _ => f8 q (by omega)⟩
theorem br_ofCommit {th : Int32} (h : bq_At o μ r th) (x0 x1 : Int32) : jr_F mi_BranchworkModel_ofCommit o [.ref r, .int x0, .int x1] μ hs r 1 0 := by
  refine jw_spec (by decide +kernel) (Nat.le_of_ble_eq_true rfl) rfl (fun k hR hE => ?_)
  have h0 := h.1
  refine jw_aload_n (pc' := 1) jd_BranchworkModel_ofCommit_0 rfl rfl rfl ?_
  refine jw_aload_n (pc' := 2) jd_BranchworkModel_ofCommit_1 rfl rfl rfl ?_
  refine jw_iload_n (pc' := 3) jd_BranchworkModel_ofCommit_2 rfl rfl rfl ?_
  refine jw_callV0 (pc' := 6) hR (bq_isNoCommit h x0) jm_BranchworkModel_isNoCommit jq_1321 jc_BranchworkModel jd_BranchworkModel_ofCommit_3 (by assumption) rfl rfl (Nat.le_of_ble_eq_true rfl) (by omega) (by decide) (by omega) (by omega) rfl rfl ?_
  refine jw_iconst (pc' := 7) (v := nI 1) jd_BranchworkModel_ofCommit_6 (by decide +kernel) rfl ?_
  refine jw_callV (pc' := 10) hR (bq_start1 h (w := 1) (by omega) (by omega)) jm_BranchworkModel_start jq_1166 jc_BranchworkModel jd_BranchworkModel_ofCommit_7 (by assumption) rfl rfl (Nat.le_of_ble_eq_true rfl) (by omega) (by decide) (by omega) (by omega) rfl (fun v μ s9 q9 hle => ?_)
  obtain ⟨rfl, rfl, h, f8⟩ := q9
  refine jw_if_ne (tgt := 35) (pc' := 13) jd_BranchworkModel_ofCommit_10 (by decide) rfl (fun c => ?_) (fun c => ?_)
  rotate_left
  · exact absurd c (by decide)
  refine jw_iconst (pc' := 36) (v := nI 0) jd_BranchworkModel_ofCommit_35 (by decide +kernel) rfl ?_
  refine jw_goto (tgt := 55) jd_BranchworkModel_ofCommit_36 (by decide) ?_
  refine jw_iret hE jd_BranchworkModel_ofCommit_55 rfl (by omega) (by omega) ?_
  exact ⟨⟨_, rfl, fun z => absurd z (by decide)⟩, ⟨_, h.1⟩, fun q z _ => f8 q (by omega)⟩
theorem br_base {th : Int32} (h : bq_At o μ r th) (x0 x1 : Int32) : jr_F mi_BranchworkModel_base o [.ref r, .int x0, .int x1] μ hs r 1 0 := by
  refine jw_spec (by decide +kernel) (Nat.le_of_ble_eq_true rfl) rfl (fun k hR hE => ?_)
  have h0 := h.1
  refine jw_aload_n (pc' := 1) jd_BranchworkModel_base_0 rfl rfl rfl ?_
  refine jw_aload_n (pc' := 2) jd_BranchworkModel_base_1 rfl rfl rfl ?_
  refine jw_iload_n (pc' := 3) jd_BranchworkModel_base_2 rfl rfl rfl ?_
  refine jw_callV0 (pc' := 6) hR (bq_isNoCommit h x0) jm_BranchworkModel_isNoCommit jq_1321 jc_BranchworkModel jd_BranchworkModel_base_3 (by assumption) rfl rfl (Nat.le_of_ble_eq_true rfl) (by omega) (by decide) (by omega) (by omega) rfl rfl ?_
  refine jw_if_ne (tgt := 17) (pc' := 9) jd_BranchworkModel_base_6 (by decide) rfl (fun c0 => ?_) (fun c0 => ?_)
  rotate_left
  · exact absurd c0 (by decide)
  refine jw_iconst (pc' := 18) (v := nI 1) jd_BranchworkModel_base_17 (by decide +kernel) rfl ?_
  refine jw_goto (tgt := 22) jd_BranchworkModel_base_18 (by decide) ?_
  refine jw_iconst (pc' := 23) (v := nI 1) jd_BranchworkModel_base_22 (by decide +kernel) rfl ?_
  refine jw_callV (pc' := 26) hR (bq_start1 h (w := 1) (by omega) (by omega)) jm_BranchworkModel_start jq_1166 jc_BranchworkModel jd_BranchworkModel_base_23 (by assumption) rfl rfl (Nat.le_of_ble_eq_true rfl) (by omega) (by decide) (by omega) (by omega) rfl (fun v μ s9 q9 hle => ?_)
  obtain ⟨rfl, rfl, h, f8⟩ := q9
  refine jw_if_eq (tgt := 33) (pc' := 29) jd_BranchworkModel_base_26 (by decide) rfl (fun c => ?_) (fun c => ?_)
  · exact absurd c (by decide)
  refine jw_iconst (pc' := 30) (v := nI 0) jd_BranchworkModel_base_29 (by decide +kernel) rfl ?_
  refine jw_goto (tgt := 62) jd_BranchworkModel_base_30 (by decide) ?_
  refine jw_iret hE jd_BranchworkModel_base_62 rfl (by omega) (by omega) ?_
  exact ⟨⟨_, rfl, fun z => absurd z (by decide)⟩, ⟨_, h.1⟩, fun q z _ => f8 q (by omega)⟩
theorem br_went {th : Int32} (h : bq_At o μ r th) (x0 x1 x2 : Int32) : jr_F mi_BranchworkModel_went o [.ref r, .int x0, .int x1, .int x2] μ hs r 1 0 := by
  refine jw_spec (by decide +kernel) (Nat.le_of_ble_eq_true rfl) rfl (fun k hR hE => ?_)
  have h0 := h.1
  refine jw_aload_n (pc' := 1) jd_BranchworkModel_went_0 rfl rfl rfl ?_
  refine jw_aload_n (pc' := 2) jd_BranchworkModel_went_1 rfl rfl rfl ?_
  refine jw_iload_n (pc' := 3) jd_BranchworkModel_went_2 rfl rfl rfl ?_
  refine jw_callV0 (pc' := 6) hR (bq_isNoCommit h x0) jm_BranchworkModel_isNoCommit jq_1321 jc_BranchworkModel jd_BranchworkModel_went_3 (by assumption) rfl rfl (Nat.le_of_ble_eq_true rfl) (by omega) (by decide) (by omega) (by omega) rfl rfl ?_
  refine jw_if_ne (tgt := 24) (pc' := 9) jd_BranchworkModel_went_6 (by decide) rfl (fun c0 => ?_) (fun c0 => ?_)
  rotate_left
  · exact absurd c0 (by decide)
  refine jw_iconst (pc' := 25) (v := nI 1) jd_BranchworkModel_went_24 (by decide +kernel) rfl ?_
  refine jw_goto (tgt := 29) jd_BranchworkModel_went_25 (by decide) ?_
  refine jw_iconst (pc' := 30) (v := nI 1) jd_BranchworkModel_went_29 (by decide +kernel) rfl ?_
  refine jw_callV (pc' := 33) hR (bq_start1 h (w := 1) (by omega) (by omega)) jm_BranchworkModel_start jq_1166 jc_BranchworkModel jd_BranchworkModel_went_30 (by assumption) rfl rfl (Nat.le_of_ble_eq_true rfl) (by omega) (by decide) (by omega) (by omega) rfl (fun v μ s9 q9 hle => ?_)
  obtain ⟨rfl, rfl, h, f8⟩ := q9
  refine jw_if_eq (tgt := 38) (pc' := 36) jd_BranchworkModel_went_33 (by decide) rfl (fun c => ?_) (fun c => ?_)
  · exact absurd c (by decide)
  refine jw_iconst (pc' := 37) (v := nI 0) jd_BranchworkModel_went_36 (by decide +kernel) rfl ?_
  refine jw_iret hE jd_BranchworkModel_went_37 rfl (by omega) (by omega) ?_
  exact ⟨⟨_, rfl, fun z => absurd z (by decide)⟩, ⟨_, h.1⟩, fun q z _ => f8 q (by omega)⟩
theorem br_changes {th : Int32} (h : bq_At o μ r th) (x0 x1 x2 : Int32) : jr_F mi_BranchworkModel_changes o [.ref r, .int x0, .int x1, .int x2] μ hs r 1 0 := by
  refine jw_spec (by decide +kernel) (Nat.le_of_ble_eq_true rfl) rfl (fun k hR hE => ?_)
  have h0 := h.1
  refine jw_aload_n (pc' := 1) jd_BranchworkModel_changes_0 rfl rfl rfl ?_
  refine jw_aload_n (pc' := 2) jd_BranchworkModel_changes_1 rfl rfl rfl ?_
  refine jw_iload_n (pc' := 3) jd_BranchworkModel_changes_2 rfl rfl rfl ?_
  refine jw_callV0 (pc' := 6) hR (bq_isNoCommit h x0) jm_BranchworkModel_isNoCommit jq_1321 jc_BranchworkModel jd_BranchworkModel_changes_3 (by assumption) rfl rfl (Nat.le_of_ble_eq_true rfl) (by omega) (by decide) (by omega) (by omega) rfl rfl ?_
  refine jw_if_ne (tgt := 17) (pc' := 9) jd_BranchworkModel_changes_6 (by decide) rfl (fun c0 => ?_) (fun c0 => ?_)
  rotate_left
  · exact absurd c0 (by decide)
  refine jw_iconst (pc' := 18) (v := nI 1) jd_BranchworkModel_changes_17 (by decide +kernel) rfl ?_
  refine jw_goto (tgt := 22) jd_BranchworkModel_changes_18 (by decide) ?_
  refine jw_iconst (pc' := 23) (v := nI 1) jd_BranchworkModel_changes_22 (by decide +kernel) rfl ?_
  refine jw_callV (pc' := 26) hR (bq_start1 h (w := 1) (by omega) (by omega)) jm_BranchworkModel_start jq_1166 jc_BranchworkModel jd_BranchworkModel_changes_23 (by assumption) rfl rfl (Nat.le_of_ble_eq_true rfl) (by omega) (by decide) (by omega) (by omega) rfl (fun v μ s9 q9 hle => ?_)
  obtain ⟨rfl, rfl, h, f8⟩ := q9
  refine jw_if_ne (tgt := 51) (pc' := 29) jd_BranchworkModel_changes_26 (by decide) rfl (fun c => ?_) (fun c => ?_)
  rotate_left
  · exact absurd c (by decide)
  refine jw_iconst (pc' := 52) (v := nI 0) jd_BranchworkModel_changes_51 (by decide +kernel) rfl ?_
  refine jw_iret hE jd_BranchworkModel_changes_52 rfl (by omega) (by omega) ?_
  exact ⟨⟨_, rfl, fun z => absurd z (by decide)⟩, ⟨_, h.1⟩, fun q z _ => f8 q (by omega)⟩
theorem br_origin {th : Int32} (h : bq_At o μ r th) (x0 x1 x2 : Int32) : jr_F mi_BranchworkModel_origin o [.ref r, .int x0, .int x1, .int x2] μ hs r 1 0 := by
  refine jw_spec (by decide +kernel) (Nat.le_of_ble_eq_true rfl) rfl (fun k hR hE => ?_)
  have h0 := h.1
  refine jw_aload_n (pc' := 1) jd_BranchworkModel_origin_0 rfl rfl rfl ?_
  refine jw_aload_n (pc' := 2) jd_BranchworkModel_origin_1 rfl rfl rfl ?_
  refine jw_iload_n (pc' := 3) jd_BranchworkModel_origin_2 rfl rfl rfl ?_
  refine jw_callV0 (pc' := 6) hR (bq_isNoCommit h x0) jm_BranchworkModel_isNoCommit jq_1321 jc_BranchworkModel jd_BranchworkModel_origin_3 (by assumption) rfl rfl (Nat.le_of_ble_eq_true rfl) (by omega) (by decide) (by omega) (by omega) rfl rfl ?_
  refine jw_if_ne (tgt := 16) (pc' := 9) jd_BranchworkModel_origin_6 (by decide) rfl (fun c0 => ?_) (fun c0 => ?_)
  rotate_left
  · exact absurd c0 (by decide)
  refine jw_iconst (pc' := 17) (v := nI 1) jd_BranchworkModel_origin_16 (by decide +kernel) rfl ?_
  refine jw_goto (tgt := 21) jd_BranchworkModel_origin_17 (by decide) ?_
  refine jw_iconst (pc' := 22) (v := nI 1) jd_BranchworkModel_origin_21 (by decide +kernel) rfl ?_
  refine jw_callV (pc' := 25) hR (bq_start1 h (w := 1) (by omega) (by omega)) jm_BranchworkModel_start jq_1166 jc_BranchworkModel jd_BranchworkModel_origin_22 (by assumption) rfl rfl (Nat.le_of_ble_eq_true rfl) (by omega) (by decide) (by omega) (by omega) rfl (fun v μ s9 q9 hle => ?_)
  obtain ⟨rfl, rfl, h, f8⟩ := q9
  refine jw_if_eq (tgt := 30) (pc' := 28) jd_BranchworkModel_origin_25 (by decide) rfl (fun c => ?_) (fun c => ?_)
  · exact absurd c (by decide)
  refine jw_iconst (pc' := 29) (v := nI 0) jd_BranchworkModel_origin_28 (by decide +kernel) rfl ?_
  refine jw_iret hE jd_BranchworkModel_origin_29 rfl (by omega) (by omega) ?_
  exact ⟨⟨_, rfl, fun z => absurd z (by decide)⟩, ⟨_, h.1⟩, fun q z _ => f8 q (by omega)⟩
theorem br_conflictsOf {th : Int32} (h : bq_At o μ r th) (x0 x1 : Int32) : jr_F mi_BranchworkModel_conflictsOf o [.ref r, .int x0, .int x1] μ hs r 1 0 := by
  refine jw_spec (by decide +kernel) (Nat.le_of_ble_eq_true rfl) rfl (fun k hR hE => ?_)
  have h0 := h.1
  refine jw_aload_n (pc' := 1) jd_BranchworkModel_conflictsOf_0 rfl rfl rfl ?_
  refine jw_aload_n (pc' := 2) jd_BranchworkModel_conflictsOf_1 rfl rfl rfl ?_
  refine jw_iload_n (pc' := 3) jd_BranchworkModel_conflictsOf_2 rfl rfl rfl ?_
  refine jw_callV0 (pc' := 6) hR (bq_isNoCommit h x0) jm_BranchworkModel_isNoCommit jq_1321 jc_BranchworkModel jd_BranchworkModel_conflictsOf_3 (by assumption) rfl rfl (Nat.le_of_ble_eq_true rfl) (by omega) (by decide) (by omega) (by omega) rfl rfl ?_
  refine jw_if_ne (tgt := 17) (pc' := 9) jd_BranchworkModel_conflictsOf_6 (by decide) rfl (fun c0 => ?_) (fun c0 => ?_)
  rotate_left
  · exact absurd c0 (by decide)
  refine jw_iconst (pc' := 18) (v := nI 1) jd_BranchworkModel_conflictsOf_17 (by decide +kernel) rfl ?_
  refine jw_goto (tgt := 22) jd_BranchworkModel_conflictsOf_18 (by decide) ?_
  refine jw_iconst (pc' := 23) (v := nI 1) jd_BranchworkModel_conflictsOf_22 (by decide +kernel) rfl ?_
  refine jw_callV (pc' := 26) hR (bq_start1 h (w := 1) (by omega) (by omega)) jm_BranchworkModel_start jq_1166 jc_BranchworkModel jd_BranchworkModel_conflictsOf_23 (by assumption) rfl rfl (Nat.le_of_ble_eq_true rfl) (by omega) (by decide) (by omega) (by omega) rfl (fun v μ s9 q9 hle => ?_)
  obtain ⟨rfl, rfl, h, f8⟩ := q9
  refine jw_if_eq (tgt := 31) (pc' := 29) jd_BranchworkModel_conflictsOf_26 (by decide) rfl (fun c => ?_) (fun c => ?_)
  · exact absurd c (by decide)
  refine jw_iconst (pc' := 30) (v := nI 0) jd_BranchworkModel_conflictsOf_29 (by decide +kernel) rfl ?_
  refine jw_iret hE jd_BranchworkModel_conflictsOf_30 rfl (by omega) (by omega) ?_
  exact ⟨⟨_, rfl, fun z => absurd z (by decide)⟩, ⟨_, h.1⟩, fun q z _ => f8 q (by omega)⟩
theorem br_settle {th : Int32} (h : bq_At o μ r th) (x0 : Int32) : jr_F mi_BranchworkModel_settle o [.ref r, .int x0] μ hs r 1 0 := by
  refine jw_spec (by decide +kernel) (Nat.le_of_ble_eq_true rfl) rfl (fun k hR hE => ?_)
  have h0 := h.1
  have hC := h.2.2.2.2.1
  obtain ⟨c9, hC0⟩ := hC.raw
  refine jw_aload_n (pc' := 1) jd_BranchworkModel_settle_0 rfl rfl rfl ?_
  refine jw_iload_n (pc' := 2) jd_BranchworkModel_settle_1 rfl rfl rfl ?_
  refine jw_iconst (pc' := 3) (v := nI 0) jd_BranchworkModel_settle_2 (by decide +kernel) rfl ?_
  refine jw_aload_n (pc' := 4) jd_BranchworkModel_settle_3 rfl rfl rfl ?_
  refine jw_get (pc' := 7) (kf := 6) jc_BranchworkModel (by decide) jq_1136 jd_BranchworkModel_settle_4 (by assumption) rfl rfl ?_
  refine jw_callV0 (pc' := 10) hR (bl_size hC) jm_ArrayList_size jq_1255 jc_ArrayList jd_BranchworkModel_settle_7 (by assumption) rfl rfl (Nat.le_of_ble_eq_true rfl) (by omega) (by decide) (by omega) (by omega) rfl rfl ?_
  refine jw_iconst (pc' := 11) (v := nI 1) jd_BranchworkModel_settle_10 (by decide +kernel) rfl ?_
  refine jw_isub (pc' := 12) jd_BranchworkModel_settle_11 rfl rfl ?_
  refine jw_callS0 (pc' := 15) hR (bq_isIn (v := 0) (Or.inr ⟨rfl, jx_m1lt x0⟩)) jm_BranchworkModel_isIn jq_1163 jd_BranchworkModel_settle_12 rfl rfl (Nat.le_of_ble_eq_true rfl) (by omega) (by decide) (by omega) (by omega) rfl rfl ?_
  refine jw_if_ne (tgt := 22) (pc' := 18) jd_BranchworkModel_settle_15 (by decide) rfl (fun c0 => ?_) (fun c0 => ?_)
  · exact absurd rfl c0
  refine jw_iconst (pc' := 19) (v := nI 1) jd_BranchworkModel_settle_18 (by decide +kernel) rfl ?_
  refine jw_goto (tgt := 23) jd_BranchworkModel_settle_19 (by decide) ?_
  refine jw_iconst (pc' := 24) (v := nI 1) jd_BranchworkModel_settle_23 (by decide +kernel) rfl ?_
  refine jw_callV (pc' := 27) hR (bq_start1 h (w := 1) (by omega) (by omega)) jm_BranchworkModel_start jq_1166 jc_BranchworkModel jd_BranchworkModel_settle_24 (by assumption) rfl rfl (Nat.le_of_ble_eq_true rfl) (by omega) (by decide) (by omega) (by omega) rfl (fun v μ s9 q9 hle => ?_)
  obtain ⟨rfl, rfl, h, f8⟩ := q9
  refine jw_if_eq (tgt := 32) (pc' := 30) jd_BranchworkModel_settle_27 (by decide) rfl (fun c => ?_) (fun c => ?_)
  · exact absurd c (by decide)
  refine jw_iconst (pc' := 31) (v := nI 0) jd_BranchworkModel_settle_30 (by decide +kernel) rfl ?_
  refine jw_iret hE jd_BranchworkModel_settle_31 rfl (by omega) (by omega) ?_
  exact ⟨⟨_, rfl, fun z => absurd z (by decide)⟩, ⟨_, h.1⟩, fun q z _ => f8 q (by omega)⟩
theorem br_conflict {th : Int32} (h : bq_At o μ r th) (x0 x1 : Int32) : jr_F mi_BranchworkModel_conflict o [.ref r, .int x0, .int x1] μ hs r 1 0 := by
  refine jw_spec (by decide +kernel) (Nat.le_of_ble_eq_true rfl) rfl (fun k hR hE => ?_)
  have h0 := h.1
  have hC := h.2.2.2.2.1
  obtain ⟨c9, hC0⟩ := hC.raw
  refine jw_aload_n (pc' := 1) jd_BranchworkModel_conflict_0 rfl rfl rfl ?_
  refine jw_iload_n (pc' := 2) jd_BranchworkModel_conflict_1 rfl rfl rfl ?_
  refine jw_iconst (pc' := 3) (v := nI 0) jd_BranchworkModel_conflict_2 (by decide +kernel) rfl ?_
  refine jw_aload_n (pc' := 4) jd_BranchworkModel_conflict_3 rfl rfl rfl ?_
  refine jw_get (pc' := 7) (kf := 6) jc_BranchworkModel (by decide) jq_1136 jd_BranchworkModel_conflict_4 (by assumption) rfl rfl ?_
  refine jw_callV0 (pc' := 10) hR (bl_size hC) jm_ArrayList_size jq_1255 jc_ArrayList jd_BranchworkModel_conflict_7 (by assumption) rfl rfl (Nat.le_of_ble_eq_true rfl) (by omega) (by decide) (by omega) (by omega) rfl rfl ?_
  refine jw_iconst (pc' := 11) (v := nI 1) jd_BranchworkModel_conflict_10 (by decide +kernel) rfl ?_
  refine jw_isub (pc' := 12) jd_BranchworkModel_conflict_11 rfl rfl ?_
  refine jw_callS0 (pc' := 15) hR (bq_isIn (v := 0) (Or.inr ⟨rfl, jx_m1lt x0⟩)) jm_BranchworkModel_isIn jq_1163 jd_BranchworkModel_conflict_12 rfl rfl (Nat.le_of_ble_eq_true rfl) (by omega) (by decide) (by omega) (by omega) rfl rfl ?_
  refine jw_if_ne (tgt := 22) (pc' := 18) jd_BranchworkModel_conflict_15 (by decide) rfl (fun c0 => ?_) (fun c0 => ?_)
  · exact absurd rfl c0
  refine jw_iconst (pc' := 19) (v := nI 1) jd_BranchworkModel_conflict_18 (by decide +kernel) rfl ?_
  refine jw_goto (tgt := 23) jd_BranchworkModel_conflict_19 (by decide) ?_
  refine jw_iconst (pc' := 24) (v := nI 1) jd_BranchworkModel_conflict_23 (by decide +kernel) rfl ?_
  refine jw_callV (pc' := 27) hR (bq_start1 h (w := 1) (by omega) (by omega)) jm_BranchworkModel_start jq_1166 jc_BranchworkModel jd_BranchworkModel_conflict_24 (by assumption) rfl rfl (Nat.le_of_ble_eq_true rfl) (by omega) (by decide) (by omega) (by omega) rfl (fun v μ s9 q9 hle => ?_)
  obtain ⟨rfl, rfl, h, f8⟩ := q9
  refine jw_if_ne (tgt := 52) (pc' := 30) jd_BranchworkModel_conflict_27 (by decide) rfl (fun c => ?_) (fun c => ?_)
  rotate_left
  · exact absurd c (by decide)
  refine jw_iconst (pc' := 53) (v := nI 0) jd_BranchworkModel_conflict_52 (by decide +kernel) rfl ?_
  refine jw_goto (tgt := 69) jd_BranchworkModel_conflict_53 (by decide) ?_
  refine jw_iret hE jd_BranchworkModel_conflict_69 rfl (by omega) (by omega) ?_
  exact ⟨⟨_, rfl, fun z => absurd z (by decide)⟩, ⟨_, h.1⟩, fun q z _ => f8 q (by omega)⟩
theorem br_statusOf {th : Int32} (h : bq_At o μ r th) (hr : r + 7 ≤ hs) {p : Nat} (hp : p < 12) : jw_Spec mi_BranchworkModel_statusOf 5 2 13 o [.ref r, .int (nI p)] μ hs (fun v μ' s' => v = some (.int (nI 0)) ∧ s' = hs + 2 ∧ jw_Nw μ μ' hs) := by
  refine jw_spec (by decide +kernel) (Nat.le_of_ble_eq_true rfl) rfl (fun k hR hE => ?_)
  have h0 := h.1
  refine jw_aload_n (pc' := 1) jd_BranchworkModel_statusOf_0 rfl rfl rfl ?_
  refine jw_callV (pc' := 4) hR (bq_headTree h hr) jm_BranchworkModel_headTree jq_1225 jc_BranchworkModel jd_BranchworkModel_statusOf_1 (by assumption) rfl rfl (Nat.le_of_ble_eq_true rfl) (by omega) (by decide) (by omega) (by omega) rfl (fun v μ s9 q9 hle => ?_)
  obtain ⟨rfl, rfl, hU, f8⟩ := q9
  have h := h.nw f8 hr
  have h0 := h.1
  have hT := h.2.2.2.1
  have hT0 := hT.1
  have hU0 := hU.1
  obtain ⟨f, hf, hf0⟩ := hT.2
  obtain ⟨g, hg, hg0⟩ := hU.2
  refine jw_astore_n (pc' := 5) (lc' := [(0, _), (1, _), (2, _)]) jd_BranchworkModel_statusOf_4 rfl (Nat.le_of_ble_eq_true rfl) ⟨rfl, rfl, rfl, trivial⟩ rfl ?_
  refine jw_aload_n (pc' := 6) jd_BranchworkModel_statusOf_5 rfl rfl rfl ?_
  refine jw_get (pc' := 9) (kf := 4) jc_BranchworkModel (by decide) jq_1134 jd_BranchworkModel_statusOf_6 (by assumption) rfl rfl ?_
  refine jw_iload_n (pc' := 10) jd_BranchworkModel_statusOf_9 rfl rfl rfl ?_
  refine jw_callV0 (pc' := 13) hR (bz_has hT hp) jm_MTree_has jq_1174 jc_MTree jd_BranchworkModel_statusOf_10 (by assumption) rfl rfl (Nat.le_of_ble_eq_true rfl) (by omega) (by decide) (by omega) (by omega) rfl rfl ?_
  refine jw_aload_n (pc' := 14) jd_BranchworkModel_statusOf_13 rfl rfl rfl ?_
  refine jw_iload_n (pc' := 15) jd_BranchworkModel_statusOf_14 rfl rfl rfl ?_
  refine jw_callV0 (pc' := 18) hR (bz_has hU hp) jm_MTree_has jq_1174 jc_MTree jd_BranchworkModel_statusOf_15 (by assumption) rfl rfl (Nat.le_of_ble_eq_true rfl) (by omega) (by decide) (by omega) (by omega) rfl rfl ?_
  refine jw_icmp_eq (tgt := 38) (pc' := 21) jd_BranchworkModel_statusOf_18 (by decide) rfl (fun c => ?_) (fun c => ?_)
  rotate_left
  · exact absurd rfl c
  refine jw_aload_n (pc' := 39) jd_BranchworkModel_statusOf_38 rfl rfl rfl ?_
  refine jw_get (pc' := 42) (kf := 4) jc_BranchworkModel (by decide) jq_1134 jd_BranchworkModel_statusOf_39 (by assumption) rfl rfl ?_
  refine jw_get (pc' := 45) (kf := 0) jc_MTree (by decide) jq_1065 jd_BranchworkModel_statusOf_42 (by assumption) rfl rfl ?_
  refine jw_iload_n (pc' := 46) jd_BranchworkModel_statusOf_45 rfl rfl rfl ?_
  refine jw_aaldA (pc' := 47) jd_BranchworkModel_statusOf_46 hf (vp_in_nI hp (by omega)) (by rw [nI_clamp (by omega), hf0 p hp]; rfl : va_rf (f (nI p).toNatClampNeg) = .null) rfl ?_
  refine jw_aload_n (pc' := 48) jd_BranchworkModel_statusOf_47 rfl rfl rfl ?_
  refine jw_get (pc' := 51) (kf := 0) jc_MTree (by decide) jq_1065 jd_BranchworkModel_statusOf_48 (by assumption) rfl rfl ?_
  refine jw_iload_n (pc' := 52) jd_BranchworkModel_statusOf_51 rfl rfl rfl ?_
  refine jw_aaldA (pc' := 53) jd_BranchworkModel_statusOf_52 hg (vp_in_nI hp (by omega)) (by rw [nI_clamp (by omega), hg0 p hp]; rfl : va_rf (g (nI p).toNatClampNeg) = .null) rfl ?_
  refine jw_callS0 (pc' := 56) hR (bz_areSame) jm_BranchworkModel_areSame jq_1248 jd_BranchworkModel_statusOf_53 rfl rfl (Nat.le_of_ble_eq_true rfl) (by omega) (by decide) (by omega) (by omega) rfl rfl ?_
  refine jw_if_eq (tgt := 63) (pc' := 59) jd_BranchworkModel_statusOf_56 (by decide) rfl (fun c1 => ?_) (fun c1 => ?_)
  · exact absurd c1 (by decide)
  refine jw_iconst (pc' := 60) (v := nI 0) jd_BranchworkModel_statusOf_59 (by decide +kernel) rfl ?_
  refine jw_goto (tgt := 64) jd_BranchworkModel_statusOf_60 (by decide) ?_
  refine jw_iret hE jd_BranchworkModel_statusOf_64 rfl (by omega) (by omega) ?_
  exact ⟨rfl, rfl, f8⟩
theorem br_status {th : Int32} (h : bq_At o μ r th) (hr : r + 7 ≤ hs) (x : Int32) : jr_F mi_BranchworkModel_status o [.ref r, .int x] μ hs r (kx_path x) (nI 0) := by
  refine jw_spec (by decide +kernel) (Nat.le_of_ble_eq_true rfl) rfl (fun k hR hE => ?_)
  have h0 := h.1
  refine jw_aload_n (pc' := 1) jd_BranchworkModel_status_0 rfl rfl rfl ?_
  refine jw_iload_n (pc' := 2) jd_BranchworkModel_status_1 rfl rfl rfl ?_
  refine jw_callS0 (pc' := 5) hR (bq_isNoPath x rfl) jm_BranchworkModel_isNoPath jq_1160 jd_BranchworkModel_status_2 rfl rfl (Nat.le_of_ble_eq_true rfl) (by omega) (by decide) (by omega) (by omega) rfl rfl ?_
  refine jw_iconst (pc' := 6) (v := nI 1) jd_BranchworkModel_status_5 (by decide +kernel) rfl ?_
  by_cases hx : jx_in x
  · have e : kx_path x = 0 := by unfold kx_path; rw [if_neg (fun z => z hx)]
    rw [e] at hE ⊢
    obtain ⟨p, hp, rfl⟩ := hx.nat
    refine jw_callV (pc' := 9) hR (bq_start0 h _) jm_BranchworkModel_start jq_1166 jc_BranchworkModel jd_BranchworkModel_status_6 (by assumption) rfl rfl (Nat.le_of_ble_eq_true rfl) (by omega) (by decide) (by omega) (by omega) rfl (fun v μ s9 q9 hle => ?_)
    obtain ⟨rfl, rfl, h, f8⟩ := q9
    have h0 := h.1
    refine jw_if_eq (tgt := 16) (pc' := 12) jd_BranchworkModel_status_9 (by decide) rfl (fun c => ?_) (fun c => ?_)
    rotate_left
    · exact absurd rfl c
    refine jw_aload_n (pc' := 17) jd_BranchworkModel_status_16 rfl rfl rfl ?_
    refine jw_iload_n (pc' := 18) jd_BranchworkModel_status_17 rfl rfl rfl ?_
    refine jw_callV (pc' := 21) hR (br_statusOf h hr hp) jm_BranchworkModel_statusOf jq_1221 jc_BranchworkModel jd_BranchworkModel_status_18 (by assumption) rfl rfl (Nat.le_of_ble_eq_true rfl) (by omega) (by decide) (by omega) (by omega) rfl (fun v μ s9 q9 hle => ?_)
    obtain ⟨rfl, rfl, f7⟩ := q9
    have h := h.nw f7 hr
    refine jw_iret hE jd_BranchworkModel_status_21 rfl (by omega) (by omega) ?_
    exact ⟨⟨_, rfl, fun _ => rfl⟩, ⟨_, h.1⟩, fun q z z2 => (f7 q (by omega)).trans (f8 q (by omega))⟩
  · have e : kx_path x = 1 := by unfold kx_path; rw [if_pos hx]
    rw [e] at hE ⊢
    refine jw_callV (pc' := 9) hR (bq_start1 h (w := 1) (by omega) (by omega)) jm_BranchworkModel_start jq_1166 jc_BranchworkModel jd_BranchworkModel_status_6 (by assumption) rfl rfl (Nat.le_of_ble_eq_true rfl) (by omega) (by decide) (by omega) (by omega) rfl (fun v μ s9 q9 hle => ?_)
    obtain ⟨rfl, rfl, h, f8⟩ := q9
    refine jw_if_eq (tgt := 16) (pc' := 12) jd_BranchworkModel_status_9 (by decide) rfl (fun c => ?_) (fun c => ?_)
    · exact absurd c (by decide)
    refine jw_iconst (pc' := 13) (v := nI 0) jd_BranchworkModel_status_12 (by decide +kernel) rfl ?_
    refine jw_goto (tgt := 21) jd_BranchworkModel_status_13 (by decide) ?_
    refine jw_iret hE jd_BranchworkModel_status_21 rfl (by omega) (by omega) ?_
    exact ⟨⟨_, rfl, fun z => absurd z (by decide)⟩, ⟨_, h.1⟩, fun q z _ => f8 q (by omega)⟩
theorem br_commit {th : Int32} (h : bq_At o μ r th) (hr : r + 7 ≤ hs) (x : Int32) : jr_F mi_BranchworkModel_commit o [.ref r, .int x] μ hs r (kx_commit x) 0 := by
  refine jw_spec (by decide +kernel) (Nat.le_of_ble_eq_true rfl) rfl (fun k hR hE => ?_)
  have h0 := h.1
  refine jw_aload_n (pc' := 1) jd_BranchworkModel_commit_0 rfl rfl rfl ?_
  refine jw_iload_n (pc' := 2) jd_BranchworkModel_commit_1 rfl rfl rfl ?_
  refine jw_iconst (pc' := 3) (v := nI 0) jd_BranchworkModel_commit_2 (by decide +kernel) rfl ?_
  refine jw_sipush (pc' := 6) (v := nI 999) jd_BranchworkModel_commit_3 (by decide +kernel) rfl ?_
  by_cases hx : x < 0 ∨ nI 999 < x
  · have e : kx_commit x = 1 := by unfold kx_commit; rw [if_pos hx]
    rw [e] at hE
    refine jw_callS0 (pc' := 9) hR (bq_isIn (v := 0) (Or.inr ⟨rfl, hx⟩)) jm_BranchworkModel_isIn jq_1163 jd_BranchworkModel_commit_6 rfl rfl (Nat.le_of_ble_eq_true rfl) (by omega) (by decide) (by omega) (by omega) rfl rfl ?_
    refine jw_if_ne (tgt := 16) (pc' := 12) jd_BranchworkModel_commit_9 (by decide) rfl (fun c => ?_) (fun c => ?_)
    · exact absurd rfl c
    refine jw_iconst (pc' := 13) (v := nI 1) jd_BranchworkModel_commit_12 (by decide +kernel) rfl ?_
    refine jw_goto (tgt := 17) jd_BranchworkModel_commit_13 (by decide) ?_
    refine jw_iconst (pc' := 18) (v := nI 1) jd_BranchworkModel_commit_17 (by decide +kernel) rfl ?_
    refine jw_callV (pc' := 21) hR (bq_start1 h (w := 1) (by omega) (by omega)) jm_BranchworkModel_start jq_1166 jc_BranchworkModel jd_BranchworkModel_commit_18 (by assumption) rfl rfl (Nat.le_of_ble_eq_true rfl) (by omega) (by decide) (by omega) (by omega) rfl (fun v μ s9 q9 hle => ?_)
    obtain ⟨rfl, rfl, h, f8⟩ := q9
    refine jw_if_ne (tgt := 73) (pc' := 24) jd_BranchworkModel_commit_21 (by decide) rfl (fun c1 => ?_) (fun c1 => ?_)
    rotate_left
    · exact absurd c1 (by decide)
    refine jw_iconst (pc' := 74) (v := nI 0) jd_BranchworkModel_commit_73 (by decide +kernel) rfl ?_
    refine jw_iret hE jd_BranchworkModel_commit_74 rfl (by omega) (by omega) ?_
    exact ⟨⟨_, rfl, fun z => absurd z (by decide)⟩, ⟨_, h.1⟩, fun q z _ => f8 q (by omega)⟩
  · have e : kx_commit x = 2 := by unfold kx_commit; rw [if_neg hx]
    rw [e] at hE
    refine jw_callS0 (pc' := 9) hR (bq_isIn (v := 1) (Or.inl ⟨rfl, fun z => hx (Or.inl z), fun z => hx (Or.inr z)⟩)) jm_BranchworkModel_isIn jq_1163 jd_BranchworkModel_commit_6 rfl rfl (Nat.le_of_ble_eq_true rfl) (by omega) (by decide) (by omega) (by omega) rfl rfl ?_
    refine jw_if_ne (tgt := 16) (pc' := 12) jd_BranchworkModel_commit_9 (by decide) rfl (fun c => ?_) (fun c => ?_)
    rotate_left
    · exact absurd c (by decide)
    refine jw_iconst (pc' := 17) (v := nI 0) jd_BranchworkModel_commit_16 (by decide +kernel) rfl ?_
    refine jw_iconst (pc' := 18) (v := nI 1) jd_BranchworkModel_commit_17 (by decide +kernel) rfl ?_
    refine jw_callV (pc' := 21) hR (bq_start0 h _) jm_BranchworkModel_start jq_1166 jc_BranchworkModel jd_BranchworkModel_commit_18 (by assumption) rfl rfl (Nat.le_of_ble_eq_true rfl) (by omega) (by decide) (by omega) (by omega) rfl (fun v μ s9 q9 hle => ?_)
    obtain ⟨rfl, rfl, h, f8⟩ := q9
    have h0 := h.1
    have hA := h.2.1
    have hC := h.2.2.2.2.1
    obtain ⟨a9, hA0⟩ := hA.raw
    obtain ⟨c9, hC0⟩ := hC.raw
    refine jw_if_ne (tgt := 73) (pc' := 24) jd_BranchworkModel_commit_21 (by decide) rfl (fun c1 => ?_) (fun c1 => ?_)
    · exact absurd rfl c1
    refine jw_aload_n (pc' := 25) jd_BranchworkModel_commit_24 rfl rfl rfl ?_
    refine jw_aload_n (pc' := 26) jd_BranchworkModel_commit_25 rfl rfl rfl ?_
    refine jw_get (pc' := 29) (kf := 1) jc_BranchworkModel (by decide) jq_1131 jd_BranchworkModel_commit_26 (by assumption) rfl rfl ?_
    refine jw_callV0 (pc' := 32) hR (bl_size hA) jm_ArrayList_size jq_1255 jc_ArrayList jd_BranchworkModel_commit_29 (by assumption) rfl rfl (Nat.le_of_ble_eq_true rfl) (by omega) (by decide) (by omega) (by omega) rfl rfl ?_
    refine jw_bipush (pc' := 34) (v := nI 30) jd_BranchworkModel_commit_32 (by decide +kernel) rfl ?_
    refine jw_icmp_eq (tgt := 61) (pc' := 37) jd_BranchworkModel_commit_34 (by decide) rfl (fun c2 => ?_) (fun c2 => ?_)
    · exact absurd c2 (by decide)
    refine jw_aload_n (pc' := 38) jd_BranchworkModel_commit_37 rfl rfl rfl ?_
    refine jw_get (pc' := 41) (kf := 6) jc_BranchworkModel (by decide) jq_1136 jd_BranchworkModel_commit_38 (by assumption) rfl rfl ?_
    refine jw_callV0 (pc' := 44) hR (bl_isEmpty hC) jm_ArrayList_isEmpty jq_1259 jc_ArrayList jd_BranchworkModel_commit_41 (by assumption) rfl rfl (Nat.le_of_ble_eq_true rfl) (by omega) (by decide) (by omega) (by omega) rfl rfl ?_
    refine jw_if_eq (tgt := 61) (pc' := 47) jd_BranchworkModel_commit_44 (by decide) rfl (fun c3 => ?_) (fun c3 => ?_)
    · exact absurd c3 (by decide)
    refine jw_aload_n (pc' := 48) jd_BranchworkModel_commit_47 rfl rfl rfl ?_
    refine jw_callV (pc' := 51) hR (bq_isClean h hr) jm_BranchworkModel_isClean jq_1263 jc_BranchworkModel jd_BranchworkModel_commit_48 (by assumption) rfl rfl (Nat.le_of_ble_eq_true rfl) (by omega) (by decide) (by omega) (by omega) rfl (fun v μ s9 q9 hle => ?_)
    obtain ⟨rfl, rfl, f7⟩ := q9
    have h := h.nw f7 hr
    have h0 := h.1
    refine jw_if_eq (tgt := 65) (pc' := 54) jd_BranchworkModel_commit_51 (by decide) rfl (fun c4 => ?_) (fun c4 => ?_)
    · exact absurd c4 (by decide)
    refine jw_aload_n (pc' := 55) jd_BranchworkModel_commit_54 rfl rfl rfl ?_
    refine jw_get (pc' := 58) (kf := 5) jc_BranchworkModel (by decide) jq_1135 jd_BranchworkModel_commit_55 (by assumption) rfl rfl ?_
    refine jw_ifnonnullN (pc' := 61) jd_BranchworkModel_commit_58 rfl ?_
    refine jw_iconst (pc' := 62) (v := nI 1) jd_BranchworkModel_commit_61 (by decide +kernel) rfl ?_
    refine jw_goto (tgt := 66) jd_BranchworkModel_commit_62 (by decide) ?_
    refine jw_iconst (pc' := 67) (v := nI 2) jd_BranchworkModel_commit_66 (by decide +kernel) rfl ?_
    refine jw_callV (pc' := 70) hR (bq_refuse1 h (w := 2) (by omega) (by omega)) jm_BranchworkModel_refuse jq_1170 jc_BranchworkModel jd_BranchworkModel_commit_67 (by assumption) rfl rfl (Nat.le_of_ble_eq_true rfl) (by omega) (by decide) (by omega) (by omega) rfl (fun v μ s9 q9 hle => ?_)
    obtain ⟨rfl, rfl, h, f6⟩ := q9
    refine jw_if_eq (tgt := 75) (pc' := 73) jd_BranchworkModel_commit_70 (by decide) rfl (fun c5 => ?_) (fun c5 => ?_)
    · exact absurd c5 (by decide)
    refine jw_iconst (pc' := 74) (v := nI 0) jd_BranchworkModel_commit_73 (by decide +kernel) rfl ?_
    refine jw_iret hE jd_BranchworkModel_commit_74 rfl (by omega) (by omega) ?_
    exact ⟨⟨_, rfl, fun z => absurd z (by decide)⟩, ⟨_, h.1⟩, fun q z z2 => (f6 q (by omega)).trans ((f7 q (by omega)).trans (f8 q (by omega)))⟩
theorem br_branch {th : Int32} (h : bq_At o μ r th) : jr_F mi_BranchworkModel_branch o [.ref r] μ hs r 1 0 := by
  refine jw_spec (by decide +kernel) (Nat.le_of_ble_eq_true rfl) rfl (fun k hR hE => ?_)
  have h0 := h.1
  refine jw_aload_n (pc' := 1) jd_BranchworkModel_branch_0 rfl rfl rfl ?_
  refine jw_aload_n (pc' := 2) jd_BranchworkModel_branch_1 rfl rfl rfl ?_
  refine jw_callV0 (pc' := 5) hR (bq_head h) jm_BranchworkModel_head jq_1229 jc_BranchworkModel jd_BranchworkModel_branch_2 (by assumption) rfl rfl (Nat.le_of_ble_eq_true rfl) (by omega) (by decide) (by omega) (by omega) rfl rfl ?_
  refine jw_ifnullN (tgt := 19) jd_BranchworkModel_branch_5 (by decide) ?_
  refine jw_iconst (pc' := 20) (v := nI 1) jd_BranchworkModel_branch_19 (by decide +kernel) rfl ?_
  refine jw_goto (tgt := 24) jd_BranchworkModel_branch_20 (by decide) ?_
  refine jw_iconst (pc' := 25) (v := nI 1) jd_BranchworkModel_branch_24 (by decide +kernel) rfl ?_
  refine jw_callV (pc' := 28) hR (bq_start1 h (w := 1) (by omega) (by omega)) jm_BranchworkModel_start jq_1166 jc_BranchworkModel jd_BranchworkModel_branch_25 (by assumption) rfl rfl (Nat.le_of_ble_eq_true rfl) (by omega) (by decide) (by omega) (by omega) rfl (fun v μ s9 q9 hle => ?_)
  obtain ⟨rfl, rfl, h, f8⟩ := q9
  refine jw_if_eq (tgt := 33) (pc' := 31) jd_BranchworkModel_branch_28 (by decide) rfl (fun c => ?_) (fun c => ?_)
  · exact absurd c (by decide)
  refine jw_iconst (pc' := 32) (v := nI 0) jd_BranchworkModel_branch_31 (by decide +kernel) rfl ?_
  refine jw_iret hE jd_BranchworkModel_branch_32 rfl (by omega) (by omega) ?_
  exact ⟨⟨_, rfl, fun z => absurd z (by decide)⟩, ⟨_, h.1⟩, fun q z _ => f8 q (by omega)⟩
theorem br_change {th : Int32} (h : bq_At o μ r th) (hr : r + 7 ≤ hs) (x : Int32) : jr_F mi_BranchworkModel_change o [.ref r, .int x] μ hs r (kx_z x) 0 := by
  refine jw_spec (by decide +kernel) (Nat.le_of_ble_eq_true rfl) rfl (fun k hR hE => ?_)
  have h0 := h.1
  refine jw_aload_n (pc' := 1) jd_BranchworkModel_change_0 rfl rfl rfl ?_
  refine jw_iload_n (pc' := 2) jd_BranchworkModel_change_1 rfl rfl rfl ?_
  by_cases hx : x = 0
  · subst hx
    have e : kx_z 0 = 0 := by decide
    rw [e] at hE
    refine jw_callV (pc' := 5) hR (bq_isNoBranch h 0) jm_BranchworkModel_isNoBranch jq_1313 jc_BranchworkModel jd_BranchworkModel_change_2 (by assumption) rfl rfl (Nat.le_of_ble_eq_true rfl) (by omega) (by decide) (by omega) (by omega) rfl (fun v μ s9 q9 hle => ?_)
    rw [e] at q9
    obtain ⟨rfl, rfl, h, f8⟩ := q9
    have h0 := h.1
    refine jw_if_ne (tgt := 35) (pc' := 8) jd_BranchworkModel_change_5 (by decide) rfl (fun c => ?_) (fun c => ?_)
    · exact absurd rfl c
    refine jw_aload_n (pc' := 9) jd_BranchworkModel_change_8 rfl rfl rfl ?_
    refine jw_aload_n (pc' := 10) jd_BranchworkModel_change_9 rfl rfl rfl ?_
    refine jw_callV (pc' := 13) hR (bq_isClean h hr) jm_BranchworkModel_isClean jq_1263 jc_BranchworkModel jd_BranchworkModel_change_10 (by assumption) rfl rfl (Nat.le_of_ble_eq_true rfl) (by omega) (by decide) (by omega) (by omega) rfl (fun v μ s9 q9 hle => ?_)
    obtain ⟨rfl, rfl, f7⟩ := q9
    have h := h.nw f7 hr
    have h0 := h.1
    refine jw_if_eq (tgt := 23) (pc' := 16) jd_BranchworkModel_change_13 (by decide) rfl (fun c1 => ?_) (fun c1 => ?_)
    · exact absurd c1 (by decide)
    refine jw_aload_n (pc' := 17) jd_BranchworkModel_change_16 rfl rfl rfl ?_
    refine jw_get (pc' := 20) (kf := 5) jc_BranchworkModel (by decide) jq_1135 jd_BranchworkModel_change_17 (by assumption) rfl rfl ?_
    refine jw_ifnullN (tgt := 27) jd_BranchworkModel_change_20 (by decide) ?_
    refine jw_iconst (pc' := 28) (v := nI 0) jd_BranchworkModel_change_27 (by decide +kernel) rfl ?_
    refine jw_iconst (pc' := 29) (v := nI 2) jd_BranchworkModel_change_28 (by decide +kernel) rfl ?_
    refine jw_callV0 (pc' := 32) hR (bq_refuse0 h _) jm_BranchworkModel_refuse jq_1170 jc_BranchworkModel jd_BranchworkModel_change_29 (by assumption) rfl rfl (Nat.le_of_ble_eq_true rfl) (by omega) (by decide) (by omega) (by omega) rfl rfl ?_
    refine jw_if_eq (tgt := 37) (pc' := 35) jd_BranchworkModel_change_32 (by decide) rfl (fun c2 => ?_) (fun c2 => ?_)
    rotate_left
    · exact absurd rfl c2
    refine jw_aload_n (pc' := 38) jd_BranchworkModel_change_37 rfl rfl rfl ?_
    refine jw_get (pc' := 41) (kf := 3) jc_BranchworkModel (by decide) jq_1133 jd_BranchworkModel_change_38 (by assumption) rfl rfl ?_
    refine jw_istore_n (pc' := 42) (lc' := [(0, _), (1, _), (2, _)]) jd_BranchworkModel_change_41 rfl (Nat.le_of_ble_eq_true rfl) ⟨rfl, rfl, rfl, trivial⟩ rfl ?_
    refine jw_aload_n (pc' := 43) jd_BranchworkModel_change_42 rfl rfl rfl ?_
    refine jw_iload_n (pc' := 44) jd_BranchworkModel_change_43 rfl rfl rfl ?_
    refine jw_put (pc' := 47) (kf := 3) (ty := .int) (fs' := [_, _, _, _, _, _, _]) jc_BranchworkModel (by decide) jq_1133 jd_BranchworkModel_change_44 rfl (by decide +kernel) (by assumption) rfl rfl rfl (Nat.le_of_ble_eq_true rfl) rfl (fun μ h0 f9 => ?_)
    refine jw_aload_n (pc' := 48) jd_BranchworkModel_change_47 rfl rfl rfl ?_
    refine jw_aload_n (pc' := 49) jd_BranchworkModel_change_48 rfl rfl rfl ?_
    have h := h.th (jw_Fr.o f9) h0
    have f5 := f9
    refine jw_callV (pc' := 52) hR (bq_headTree h (by omega)) jm_BranchworkModel_headTree jq_1225 jc_BranchworkModel jd_BranchworkModel_change_49 (by assumption) rfl rfl (Nat.le_of_ble_eq_true rfl) (by omega) (by decide) (by omega) (by omega) rfl (fun v μ s9 q9 hle => ?_)
    obtain ⟨rfl, rfl, hU, f4⟩ := q9
    have h := h.nw f4 (by omega)
    have h0 := h.1
    have hU0 := hU.1
    refine jw_put (pc' := 55) (kf := 4) (ty := (.object "BranchworkModel$Tree")) (fs' := [_, _, _, _, _, _, _]) jc_BranchworkModel (by decide) jq_1134 jd_BranchworkModel_change_52 rfl (by decide +kernel) (by assumption) rfl rfl rfl (Nat.le_of_ble_eq_true rfl) rfl (fun μ h0 f9 => ?_)
    refine jw_iload_n (pc' := 56) jd_BranchworkModel_change_55 rfl rfl rfl ?_
    refine jw_iret hE jd_BranchworkModel_change_56 rfl (by omega) (by omega) ?_
    refine ⟨⟨_, rfl, fun _ => rfl⟩, ⟨_, h0⟩, fun q z z2 => (f9 q (by omega)).trans ((f4 q (by omega)).trans ((f5 q (by omega)).trans ((f7 q (by omega)).trans (f8 q (by omega)))))⟩
  · have e : kx_z x = 1 := by unfold kx_z; rw [if_neg hx]
    rw [e] at hE
    refine jw_callV (pc' := 5) hR (bq_isNoBranch h x) jm_BranchworkModel_isNoBranch jq_1313 jc_BranchworkModel jd_BranchworkModel_change_2 (by assumption) rfl rfl (Nat.le_of_ble_eq_true rfl) (by omega) (by decide) (by omega) (by omega) rfl (fun v μ s9 q9 hle => ?_)
    rw [e] at q9
    obtain ⟨rfl, rfl, h, f8⟩ := q9
    refine jw_if_ne (tgt := 35) (pc' := 8) jd_BranchworkModel_change_5 (by decide) rfl (fun c => ?_) (fun c => ?_)
    rotate_left
    · exact absurd c (by decide)
    refine jw_iconst (pc' := 36) (v := nI 0) jd_BranchworkModel_change_35 (by decide +kernel) rfl ?_
    refine jw_iret hE jd_BranchworkModel_change_36 rfl (by omega) (by omega) ?_
    exact ⟨⟨_, rfl, fun z => absurd z (by decide)⟩, ⟨_, h.1⟩, fun q z _ => f8 q (by omega)⟩
theorem br_merge {th : Int32} (h : bq_At o μ r th) (x : Int32) : jr_F mi_BranchworkModel_merge o [.ref r, .int x] μ hs r (kx_merge x) 0 := by
  refine jw_spec (by decide +kernel) (Nat.le_of_ble_eq_true rfl) rfl (fun k hR hE => ?_)
  have h0 := h.1
  refine jw_aload_n (pc' := 1) jd_BranchworkModel_merge_0 rfl rfl rfl ?_
  refine jw_iload_n (pc' := 2) jd_BranchworkModel_merge_1 rfl rfl rfl ?_
  by_cases hx : x = 0
  · subst hx
    have e : kx_z 0 = 0 := by decide
    have e2 : kx_merge 0 = 2 := by decide
    rw [e2] at hE
    refine jw_callV (pc' := 5) hR (bq_isNoBranch h 0) jm_BranchworkModel_isNoBranch jq_1313 jc_BranchworkModel jd_BranchworkModel_merge_2 (by assumption) rfl rfl (Nat.le_of_ble_eq_true rfl) (by omega) (by decide) (by omega) (by omega) rfl (fun v μ s9 q9 hle => ?_)
    rw [e] at q9
    obtain ⟨rfl, rfl, h, f8⟩ := q9
    have h0 := h.1
    refine jw_if_ne (tgt := 42) (pc' := 8) jd_BranchworkModel_merge_5 (by decide) rfl (fun c => ?_) (fun c => ?_)
    · exact absurd rfl c
    refine jw_aload_n (pc' := 9) jd_BranchworkModel_merge_8 rfl rfl rfl ?_
    refine jw_aload_n (pc' := 10) jd_BranchworkModel_merge_9 rfl rfl rfl ?_
    refine jw_callV0 (pc' := 13) hR (bq_head h) jm_BranchworkModel_head jq_1229 jc_BranchworkModel jd_BranchworkModel_merge_10 (by assumption) rfl rfl (Nat.le_of_ble_eq_true rfl) (by omega) (by decide) (by omega) (by omega) rfl rfl ?_
    refine jw_ifnullN (tgt := 30) jd_BranchworkModel_merge_13 (by decide) ?_
    refine jw_iconst (pc' := 31) (v := nI 1) jd_BranchworkModel_merge_30 (by decide +kernel) rfl ?_
    refine jw_goto (tgt := 35) jd_BranchworkModel_merge_31 (by decide) ?_
    refine jw_iconst (pc' := 36) (v := nI 2) jd_BranchworkModel_merge_35 (by decide +kernel) rfl ?_
    refine jw_callV (pc' := 39) hR (bq_refuse1 h (w := 2) (by omega) (by omega)) jm_BranchworkModel_refuse jq_1170 jc_BranchworkModel jd_BranchworkModel_merge_36 (by assumption) rfl rfl (Nat.le_of_ble_eq_true rfl) (by omega) (by decide) (by omega) (by omega) rfl (fun v μ s9 q9 hle => ?_)
    obtain ⟨rfl, rfl, h, f6⟩ := q9
    refine jw_if_eq (tgt := 44) (pc' := 42) jd_BranchworkModel_merge_39 (by decide) rfl (fun c5 => ?_) (fun c5 => ?_)
    · exact absurd c5 (by decide)
    refine jw_iconst (pc' := 43) (v := nI 0) jd_BranchworkModel_merge_42 (by decide +kernel) rfl ?_
    refine jw_iret hE jd_BranchworkModel_merge_43 rfl (by omega) (by omega) ?_
    exact ⟨⟨_, rfl, fun z => absurd z (by decide)⟩, ⟨_, h.1⟩, fun q z z2 => (f6 q (by omega)).trans (f8 q (by omega))⟩
  · have e : kx_z x = 1 := by unfold kx_z; rw [if_neg hx]
    have e2 : kx_merge x = 1 := by unfold kx_merge; rw [if_neg hx]
    rw [e2] at hE
    refine jw_callV (pc' := 5) hR (bq_isNoBranch h x) jm_BranchworkModel_isNoBranch jq_1313 jc_BranchworkModel jd_BranchworkModel_merge_2 (by assumption) rfl rfl (Nat.le_of_ble_eq_true rfl) (by omega) (by decide) (by omega) (by omega) rfl (fun v μ s9 q9 hle => ?_)
    rw [e] at q9
    obtain ⟨rfl, rfl, h, f8⟩ := q9
    refine jw_if_ne (tgt := 42) (pc' := 8) jd_BranchworkModel_merge_5 (by decide) rfl (fun c => ?_) (fun c => ?_)
    rotate_left
    · exact absurd c (by decide)
    refine jw_iconst (pc' := 43) (v := nI 0) jd_BranchworkModel_merge_42 (by decide +kernel) rfl ?_
    refine jw_iret hE jd_BranchworkModel_merge_43 rfl (by omega) (by omega) ?_
    exact ⟨⟨_, rfl, fun z => absurd z (by decide)⟩, ⟨_, h.1⟩, fun q z _ => f8 q (by omega)⟩
theorem br_isNoTree {th : Int32} (h : bq_At o μ r th) (c x : Int32) : jw_Spec mi_BranchworkModel_isNoTree 2 0 0 o [.ref r, .int c, .int x] μ hs (fun v μ' s' => v = some (.int (nI (kx_show c x))) ∧ s' = hs ∧ bq_At o μ' r (nI (kx_show c x)) ∧ jw_Fr μ μ' r 1) := by
  refine jw_spec (by decide +kernel) (Nat.le_of_ble_eq_true rfl) rfl (fun k hR hE => ?_)
  have h0 := h.1
  refine jw_aload_n (pc' := 1) jd_BranchworkModel_isNoTree_0 rfl rfl rfl ?_
  refine jw_iload_n (pc' := 2) jd_BranchworkModel_isNoTree_1 rfl rfl rfl ?_
  refine jw_iconst (pc' := 3) (v := -1) jd_BranchworkModel_isNoTree_2 (by decide +kernel) rfl ?_
  refine jw_icmp_eq (tgt := 14) (pc' := 6) jd_BranchworkModel_isNoTree_3 (by decide) rfl (fun c1 => ?_) (fun c1 => ?_)
  rotate_left
  · have e : kx_show c x = 1 := by unfold kx_show; rw [if_pos (Or.inl c1)]
    rw [e] at hE
    refine jw_aload_n (pc' := 7) jd_BranchworkModel_isNoTree_6 rfl rfl rfl ?_
    refine jw_iload_n (pc' := 8) jd_BranchworkModel_isNoTree_7 rfl rfl rfl ?_
    refine jw_callV0 (pc' := 11) hR (bq_isNoCommit h c) jm_BranchworkModel_isNoCommit jq_1321 jc_BranchworkModel jd_BranchworkModel_isNoTree_8 (by assumption) rfl rfl (Nat.le_of_ble_eq_true rfl) (by omega) (by decide) (by omega) (by omega) rfl rfl ?_
    refine jw_if_ne (tgt := 21) (pc' := 14) jd_BranchworkModel_isNoTree_11 (by decide) rfl (fun c2 => ?_) (fun c2 => ?_)
    rotate_left
    · exact absurd c2 (by decide)
    refine jw_iconst (pc' := 22) (v := nI 1) jd_BranchworkModel_isNoTree_21 (by decide +kernel) rfl ?_
    refine jw_goto (tgt := 26) jd_BranchworkModel_isNoTree_22 (by decide) ?_
    refine jw_iconst (pc' := 27) (v := nI 1) jd_BranchworkModel_isNoTree_26 (by decide +kernel) rfl ?_
    refine jw_callV (pc' := 30) hR (bq_start1 h (w := 1) (by omega) (by omega)) jm_BranchworkModel_start jq_1166 jc_BranchworkModel jd_BranchworkModel_isNoTree_27 (by assumption) rfl rfl (Nat.le_of_ble_eq_true rfl) (by omega) (by decide) (by omega) (by omega) rfl (fun v μ s9 q9 hle => ?_)
    obtain ⟨rfl, q9⟩ := q9
    exact jw_zret hE jd_BranchworkModel_isNoTree_30 rfl (by decide) (by omega) (by omega) ⟨rfl, q9⟩
  subst c1
  refine jw_iload_n (pc' := 15) jd_BranchworkModel_isNoTree_14 rfl rfl rfl ?_
  refine jw_callS0 (pc' := 18) hR (bq_isNoPath x rfl) jm_BranchworkModel_isNoPath jq_1160 jd_BranchworkModel_isNoTree_15 rfl rfl (Nat.le_of_ble_eq_true rfl) (by omega) (by decide) (by omega) (by omega) rfl rfl ?_
  by_cases hx : jx_in x
  · have e : kx_path x = 0 := by unfold kx_path; rw [if_neg (fun z => z hx)]
    have e2 : kx_show (-1) x = 0 := by unfold kx_show; rw [if_neg (fun z => z.elim (fun z => z rfl) (fun z => z hx))]
    rw [e2] at hE
    rw [e]
    refine jw_if_eq (tgt := 25) (pc' := 21) jd_BranchworkModel_isNoTree_18 (by decide) rfl (fun c2 => ?_) (fun c2 => ?_)
    rotate_left
    · exact absurd rfl c2
    refine jw_iconst (pc' := 26) (v := nI 0) jd_BranchworkModel_isNoTree_25 (by decide +kernel) rfl ?_
    refine jw_iconst (pc' := 27) (v := nI 1) jd_BranchworkModel_isNoTree_26 (by decide +kernel) rfl ?_
    refine jw_callV (pc' := 30) hR (bq_start0 h _) jm_BranchworkModel_start jq_1166 jc_BranchworkModel jd_BranchworkModel_isNoTree_27 (by assumption) rfl rfl (Nat.le_of_ble_eq_true rfl) (by omega) (by decide) (by omega) (by omega) rfl (fun v μ s9 q9 hle => ?_)
    obtain ⟨rfl, q9⟩ := q9
    exact jw_zret hE jd_BranchworkModel_isNoTree_30 rfl (by decide) (by omega) (by omega) ⟨rfl, q9⟩
  · have e : kx_path x = 1 := by unfold kx_path; rw [if_pos hx]
    have e2 : kx_show (-1) x = 1 := by unfold kx_show; rw [if_pos (Or.inr hx)]
    rw [e2] at hE
    rw [e]
    refine jw_if_eq (tgt := 25) (pc' := 21) jd_BranchworkModel_isNoTree_18 (by decide) rfl (fun c2 => ?_) (fun c2 => ?_)
    · exact absurd c2 (by decide)
    refine jw_iconst (pc' := 22) (v := nI 1) jd_BranchworkModel_isNoTree_21 (by decide +kernel) rfl ?_
    refine jw_goto (tgt := 26) jd_BranchworkModel_isNoTree_22 (by decide) ?_
    refine jw_iconst (pc' := 27) (v := nI 1) jd_BranchworkModel_isNoTree_26 (by decide +kernel) rfl ?_
    refine jw_callV (pc' := 30) hR (bq_start1 h (w := 1) (by omega) (by omega)) jm_BranchworkModel_start jq_1166 jc_BranchworkModel jd_BranchworkModel_isNoTree_27 (by assumption) rfl rfl (Nat.le_of_ble_eq_true rfl) (by omega) (by decide) (by omega) (by omega) rfl (fun v μ s9 q9 hle => ?_)
    obtain ⟨rfl, q9⟩ := q9
    exact jw_zret hE jd_BranchworkModel_isNoTree_30 rfl (by decide) (by omega) (by omega) ⟨rfl, q9⟩
theorem br_tree {th : Int32} (h : bq_At o μ r th) : jw_Ro mi_BranchworkModel_tree 0 o [.ref r, .int (-1)] μ hs (some (.ref (r + 3))) := by
  refine jw_ro (by decide +kernel) (Nat.le_of_ble_eq_true rfl) rfl (fun k hR hE => ?_)
  have h0 := h.1
  refine jw_iload_n (pc' := 1) jd_BranchworkModel_tree_0 rfl rfl rfl ?_
  refine jw_iconst (pc' := 2) (v := -1) jd_BranchworkModel_tree_1 (by decide +kernel) rfl ?_
  refine jw_icmp_ne (tgt := 12) (pc' := 5) jd_BranchworkModel_tree_2 (by decide) rfl (fun c => ?_) (fun c => ?_)
  · exact absurd rfl c
  refine jw_aload_n (pc' := 6) jd_BranchworkModel_tree_5 rfl rfl rfl ?_
  refine jw_get (pc' := 9) (kf := 4) jc_BranchworkModel (by decide) jq_1134 jd_BranchworkModel_tree_6 (by assumption) rfl rfl ?_
  refine jw_goto (tgt := 26) jd_BranchworkModel_tree_9 (by decide) ?_
  refine jw_aret hE jd_BranchworkModel_tree_26 rfl (by first | exact Or.inl ⟨_, rfl⟩ | exact Or.inr ⟨_, rfl⟩) (by first | exact Or.inr ⟨_, rfl⟩ | exact Or.inl rfl) (by omega) (by omega) ?_
  exact ⟨rfl, rfl, rfl⟩
theorem kx_show0 {c x : Int32} (h : kx_show c x = 0) : c = -1 ∧ jx_in x := by
  unfold kx_show at h
  by_cases z : c ≠ -1 ∨ ¬ jx_in x
  · rw [if_pos z] at h; exact absurd h (by decide)
  · refine ⟨Classical.byContradiction fun y => z (Or.inl y), Classical.byContradiction fun y => z (Or.inr y)⟩
theorem kx_show01 (c x : Int32) : kx_show c x = 0 ∨ kx_show c x = 1 := by
  unfold kx_show
  split
  · exact Or.inr rfl
  · exact Or.inl rfl
theorem br_line {th : Int32} (h : bq_At o μ r th) (c x y : Int32) : jr_F mi_BranchworkModel_line o [.ref r, .int c, .int x, .int y] μ hs r (kx_show c x) (-2) := by
  refine jw_spec (by decide +kernel) (Nat.le_of_ble_eq_true rfl) rfl (fun k hR hE => ?_)
  have h0 := h.1
  refine jw_aload_n (pc' := 1) jd_BranchworkModel_line_0 rfl rfl rfl ?_
  refine jw_iload_n (pc' := 2) jd_BranchworkModel_line_1 rfl rfl rfl ?_
  refine jw_iload_n (pc' := 3) jd_BranchworkModel_line_2 rfl rfl rfl ?_
  refine jw_callV (pc' := 6) hR (br_isNoTree h c x) jm_BranchworkModel_isNoTree jq_1526 jc_BranchworkModel jd_BranchworkModel_line_3 (by assumption) rfl rfl (Nat.le_of_ble_eq_true rfl) (by omega) (by decide) (by omega) (by omega) rfl (fun v μ s9 q9 hle => ?_)
  obtain ⟨rfl, rfl, h, f8⟩ := q9
  have h0 := h.1
  rcases kx_show01 c x with e | e
  · obtain ⟨rfl, hin⟩ := kx_show0 e
    obtain ⟨p, hp, rfl⟩ := hin.nat
    rw [e] at hE h
    rw [e]
    have h0 := h.1
    have hT := h.2.2.2.1
    have hT0 := hT.1
    obtain ⟨f, hf, hf0⟩ := hT.2
    refine jw_if_eq (tgt := 11) (pc' := 9) jd_BranchworkModel_line_6 (by decide) rfl (fun c1 => ?_) (fun c1 => ?_)
    rotate_left
    · exact absurd rfl c1
    refine jw_aload_n (pc' := 12) jd_BranchworkModel_line_11 rfl rfl rfl ?_
    refine jw_iload_n (pc' := 13) jd_BranchworkModel_line_12 rfl rfl rfl ?_
    refine jw_callV0 (pc' := 16) hR (br_tree h) jm_BranchworkModel_tree jq_1530 jc_BranchworkModel jd_BranchworkModel_line_13 (by assumption) rfl rfl (Nat.le_of_ble_eq_true rfl) (by omega) (by decide) (by omega) (by omega) rfl rfl ?_
    refine jw_get (pc' := 19) (kf := 0) jc_MTree (by decide) jq_1065 jd_BranchworkModel_line_16 (by assumption) rfl rfl ?_
    refine jw_iload_n (pc' := 20) jd_BranchworkModel_line_19 rfl rfl rfl ?_
    refine jw_aaldA (pc' := 21) jd_BranchworkModel_line_20 hf (vp_in_nI hp (by omega)) (by rw [nI_clamp (by omega), hf0 p hp]; rfl : va_rf (f (nI p).toNatClampNeg) = .null) rfl ?_
    refine jw_astoreN (pc' := 23) (lc' := [(0, _), (1, _), (2, _), (3, _), (4, _)]) jd_BranchworkModel_line_21 (Nat.le_of_ble_eq_true rfl) ⟨rfl, rfl, rfl, rfl, rfl, trivial⟩ rfl ?_
    refine jw_aloadN (pc' := 25) jd_BranchworkModel_line_23 rfl rfl ?_
    refine jw_ifnonnullN (pc' := 28) jd_BranchworkModel_line_25 rfl ?_
    refine jw_bipush (pc' := 30) (v := (-2)) jd_BranchworkModel_line_28 (by decide +kernel) rfl ?_
    refine jw_goto (tgt := 54) jd_BranchworkModel_line_30 (by decide) ?_
    refine jw_iret hE jd_BranchworkModel_line_54 rfl (by omega) (by omega) ?_
    exact ⟨⟨_, rfl, fun _ => rfl⟩, ⟨_, h.1⟩, fun q z _ => f8 q (by omega)⟩
  · rw [e] at hE h
    rw [e]
    refine jw_if_eq (tgt := 11) (pc' := 9) jd_BranchworkModel_line_6 (by decide) rfl (fun c1 => ?_) (fun c1 => ?_)
    · exact absurd c1 (by decide)
    refine jw_iconst (pc' := 10) (v := nI 0) jd_BranchworkModel_line_9 (by decide +kernel) rfl ?_
    refine jw_iret hE jd_BranchworkModel_line_10 rfl (by omega) (by omega) ?_
    exact ⟨⟨_, rfl, fun z => absurd z (by decide)⟩, ⟨_, h.1⟩, fun q z _ => f8 q (by omega)⟩
theorem br_size {th : Int32} (h : bq_At o μ r th) (c x : Int32) : jr_F mi_BranchworkModel_size o [.ref r, .int c, .int x] μ hs r (kx_show c x) (-1) := by
  refine jw_spec (by decide +kernel) (Nat.le_of_ble_eq_true rfl) rfl (fun k hR hE => ?_)
  have h0 := h.1
  refine jw_aload_n (pc' := 1) jd_BranchworkModel_size_0 rfl rfl rfl ?_
  refine jw_iload_n (pc' := 2) jd_BranchworkModel_size_1 rfl rfl rfl ?_
  refine jw_iload_n (pc' := 3) jd_BranchworkModel_size_2 rfl rfl rfl ?_
  refine jw_callV (pc' := 6) hR (br_isNoTree h c x) jm_BranchworkModel_isNoTree jq_1526 jc_BranchworkModel jd_BranchworkModel_size_3 (by assumption) rfl rfl (Nat.le_of_ble_eq_true rfl) (by omega) (by decide) (by omega) (by omega) rfl (fun v μ s9 q9 hle => ?_)
  obtain ⟨rfl, rfl, h, f8⟩ := q9
  rcases kx_show01 c x with e | e
  · obtain ⟨rfl, hin⟩ := kx_show0 e
    obtain ⟨p, hp, rfl⟩ := hin.nat
    rw [e] at hE h
    rw [e]
    have h0 := h.1
    have hT := h.2.2.2.1
    have hT0 := hT.1
    refine jw_if_eq (tgt := 13) (pc' := 9) jd_BranchworkModel_size_6 (by decide) rfl (fun c1 => ?_) (fun c1 => ?_)
    rotate_left
    · exact absurd rfl c1
    refine jw_aload_n (pc' := 14) jd_BranchworkModel_size_13 rfl rfl rfl ?_
    refine jw_iload_n (pc' := 15) jd_BranchworkModel_size_14 rfl rfl rfl ?_
    refine jw_callV0 (pc' := 18) hR (br_tree h) jm_BranchworkModel_tree jq_1530 jc_BranchworkModel jd_BranchworkModel_size_15 (by assumption) rfl rfl (Nat.le_of_ble_eq_true rfl) (by omega) (by decide) (by omega) (by omega) rfl rfl ?_
    refine jw_iload_n (pc' := 19) jd_BranchworkModel_size_18 rfl rfl rfl ?_
    refine jw_callV0 (pc' := 22) hR (bz_has hT hp) jm_MTree_has jq_1174 jc_MTree jd_BranchworkModel_size_19 (by assumption) rfl rfl (Nat.le_of_ble_eq_true rfl) (by omega) (by decide) (by omega) (by omega) rfl rfl ?_
    refine jw_if_eq (tgt := 39) (pc' := 25) jd_BranchworkModel_size_22 (by decide) rfl (fun c2 => ?_) (fun c2 => ?_)
    rotate_left
    · exact absurd rfl c2
    refine jw_iconst (pc' := 40) (v := -1) jd_BranchworkModel_size_39 (by decide +kernel) rfl ?_
    refine jw_iret hE jd_BranchworkModel_size_40 rfl (by omega) (by omega) ?_
    exact ⟨⟨_, rfl, fun _ => rfl⟩, ⟨_, h.1⟩, fun q z _ => f8 q (by omega)⟩
  · rw [e] at hE h
    rw [e]
    refine jw_if_eq (tgt := 13) (pc' := 9) jd_BranchworkModel_size_6 (by decide) rfl (fun c1 => ?_) (fun c1 => ?_)
    · exact absurd c1 (by decide)
    refine jw_iconst (pc' := 10) (v := nI 0) jd_BranchworkModel_size_9 (by decide +kernel) rfl ?_
    refine jw_goto (tgt := 40) jd_BranchworkModel_size_10 (by decide) ?_
    refine jw_iret hE jd_BranchworkModel_size_40 rfl (by omega) (by omega) ?_
    exact ⟨⟨_, rfl, fun z => absurd z (by decide)⟩, ⟨_, h.1⟩, fun q z _ => f8 q (by omega)⟩
end
