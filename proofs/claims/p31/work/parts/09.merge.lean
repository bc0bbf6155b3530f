theorem jd_Merger_bring_0 : decode mi_Merger_bring.2.1 0 = .ok (.aload_n 0, 1) := by decide +kernel
theorem jd_Merger_bring_1 : decode mi_Merger_bring.2.1 1 = .ok (.getfield 12, 3) := by decide +kernel
theorem jd_Merger_bring_4 : decode mi_Merger_bring.2.1 4 = .ok (.iload_n 2, 1) := by decide +kernel
theorem jd_Merger_bring_5 : decode mi_Merger_bring.2.1 5 = .ok (.invokevirtual 61, 3) := by decide +kernel
theorem jd_Merger_bring_8 : decode mi_Merger_bring.2.1 8 = .ok (.ifCond .eq 14, 3) := by decide +kernel
theorem jd_Merger_bring_11 : decode mi_Merger_bring.2.1 11 = .ok (.aload_n 0, 1) := by decide +kernel
theorem jd_Merger_bring_12 : decode mi_Merger_bring.2.1 12 = .ok (.getfield 21, 3) := by decide +kernel
theorem jd_Merger_bring_15 : decode mi_Merger_bring.2.1 15 = .ok (.iconst 5, 1) := by decide +kernel
theorem jd_Merger_bring_16 : decode mi_Merger_bring.2.1 16 = .ok (.iload_n 2, 1) := by decide +kernel
theorem jd_Merger_bring_17 : decode mi_Merger_bring.2.1 17 = .ok (.invokevirtual 96, 3) := by decide +kernel
theorem jd_Merger_bring_20 : decode mi_Merger_bring.2.1 20 = .ok (.iconst 0, 1) := by decide +kernel
theorem jd_Merger_bring_21 : decode mi_Merger_bring.2.1 21 = .ok (.ireturn, 1) := by decide +kernel
theorem jd_Merger_bring_22 : decode mi_Merger_bring.2.1 22 = .ok (.aload_n 0, 1) := by decide +kernel
theorem jd_Merger_bring_23 : decode mi_Merger_bring.2.1 23 = .ok (.getfield 12, 3) := by decide +kernel
theorem jd_Merger_bring_26 : decode mi_Merger_bring.2.1 26 = .ok (.iload_n 2, 1) := by decide +kernel
theorem jd_Merger_bring_27 : decode mi_Merger_bring.2.1 27 = .ok (.invokevirtual 73, 3) := by decide +kernel
theorem jd_Merger_bring_30 : decode mi_Merger_bring.2.1 30 = .ok (.aload_n 1, 1) := by decide +kernel
theorem jd_Merger_bring_31 : decode mi_Merger_bring.2.1 31 = .ok (.invokevirtual 108, 3) := by decide +kernel
theorem jd_Merger_bring_34 : decode mi_Merger_bring.2.1 34 = .ok (.iconst 1, 1) := by decide +kernel
theorem jd_Merger_bring_35 : decode mi_Merger_bring.2.1 35 = .ok (.ireturn, 1) := by decide +kernel
theorem jd_Merger_mergeLeftOut_0 : decode mi_Merger_mergeLeftOut.2.1 0 = .ok (.iload 4, 2) := by decide +kernel
theorem jd_Merger_mergeLeftOut_2 : decode mi_Merger_mergeLeftOut.2.1 2 = .ok (.iload_n 3, 1) := by decide +kernel
theorem jd_Merger_mergeLeftOut_3 : decode mi_Merger_mergeLeftOut.2.1 3 = .ok (.if_icmp .ne 23, 3) := by decide +kernel
theorem jd_Merger_mergeLeftOut_6 : decode mi_Merger_mergeLeftOut.2.1 6 = .ok (.aload_n 2, 1) := by decide +kernel
theorem jd_Merger_mergeLeftOut_7 : decode mi_Merger_mergeLeftOut.2.1 7 = .ok (.iload_n 3, 1) := by decide +kernel
theorem jd_Merger_mergeLeftOut_8 : decode mi_Merger_mergeLeftOut.2.1 8 = .ok (.invokevirtual 73, 3) := by decide +kernel
theorem jd_Merger_mergeLeftOut_11 : decode mi_Merger_mergeLeftOut.2.1 11 = .ok (.aload_n 1, 1) := by decide +kernel
theorem jd_Merger_mergeLeftOut_12 : decode mi_Merger_mergeLeftOut.2.1 12 = .ok (.iload_n 3, 1) := by decide +kernel
theorem jd_Merger_mergeLeftOut_13 : decode mi_Merger_mergeLeftOut.2.1 13 = .ok (.invokevirtual 73, 3) := by decide +kernel
theorem jd_Merger_mergeLeftOut_16 : decode mi_Merger_mergeLeftOut.2.1 16 = .ok (.invokevirtual 104, 3) := by decide +kernel
theorem jd_Merger_mergeLeftOut_19 : decode mi_Merger_mergeLeftOut.2.1 19 = .ok (.ifCond .eq 7, 3) := by decide +kernel
theorem jd_Merger_mergeLeftOut_22 : decode mi_Merger_mergeLeftOut.2.1 22 = .ok (.iconst 1, 1) := by decide +kernel
theorem jd_Merger_mergeLeftOut_23 : decode mi_Merger_mergeLeftOut.2.1 23 = .ok (.goto 4, 3) := by decide +kernel
theorem jd_Merger_mergeLeftOut_26 : decode mi_Merger_mergeLeftOut.2.1 26 = .ok (.iconst 0, 1) := by decide +kernel
theorem jd_Merger_mergeLeftOut_27 : decode mi_Merger_mergeLeftOut.2.1 27 = .ok (.istore 5, 2) := by decide +kernel
theorem jd_Merger_mergeLeftOut_29 : decode mi_Merger_mergeLeftOut.2.1 29 = .ok (.iload 5, 2) := by decide +kernel
theorem jd_Merger_mergeLeftOut_31 : decode mi_Merger_mergeLeftOut.2.1 31 = .ok (.ifCond .ne 28, 3) := by decide +kernel
theorem jd_Merger_mergeLeftOut_34 : decode mi_Merger_mergeLeftOut.2.1 34 = .ok (.aload_n 0, 1) := by decide +kernel
theorem jd_Merger_mergeLeftOut_35 : decode mi_Merger_mergeLeftOut.2.1 35 = .ok (.aload_n 2, 1) := by decide +kernel
theorem jd_Merger_mergeLeftOut_36 : decode mi_Merger_mergeLeftOut.2.1 36 = .ok (.iload 4, 2) := by decide +kernel
theorem jd_Merger_mergeLeftOut_38 : decode mi_Merger_mergeLeftOut.2.1 38 = .ok (.invokevirtual 73, 3) := by decide +kernel
theorem jd_Merger_mergeLeftOut_41 : decode mi_Merger_mergeLeftOut.2.1 41 = .ok (.iload 4, 2) := by decide +kernel
theorem jd_Merger_mergeLeftOut_43 : decode mi_Merger_mergeLeftOut.2.1 43 = .ok (.invokevirtual 77, 3) := by decide +kernel
theorem jd_Merger_mergeLeftOut_46 : decode mi_Merger_mergeLeftOut.2.1 46 = .ok (.ifCond .eq 13, 3) := by decide +kernel
theorem jd_Merger_mergeLeftOut_49 : decode mi_Merger_mergeLeftOut.2.1 49 = .ok (.aload_n 0, 1) := by decide +kernel
theorem jd_Merger_mergeLeftOut_50 : decode mi_Merger_mergeLeftOut.2.1 50 = .ok (.getfield 21, 3) := by decide +kernel
theorem jd_Merger_mergeLeftOut_53 : decode mi_Merger_mergeLeftOut.2.1 53 = .ok (.iconst 1, 1) := by decide +kernel
theorem jd_Merger_mergeLeftOut_54 : decode mi_Merger_mergeLeftOut.2.1 54 = .ok (.iload 4, 2) := by decide +kernel
theorem jd_Merger_mergeLeftOut_56 : decode mi_Merger_mergeLeftOut.2.1 56 = .ok (.invokevirtual 96, 3) := by decide +kernel
theorem jd_Merger_mergeLeftOut_59 : decode mi_Merger_mergeLeftOut.2.1 59 = .ok (.return_, 1) := by decide +kernel
theorem jd_Merger_joinNew_0 : decode mi_Merger_joinNew.2.1 0 = .ok (.aload_n 1, 1) := by decide +kernel
theorem jd_Merger_joinNew_1 : decode mi_Merger_joinNew.2.1 1 = .ok (.aload_n 2, 1) := by decide +kernel
theorem jd_Merger_joinNew_2 : decode mi_Merger_joinNew.2.1 2 = .ok (.invokevirtual 104, 3) := by decide +kernel
theorem jd_Merger_joinNew_5 : decode mi_Merger_joinNew.2.1 5 = .ok (.ifCond .ne 34, 3) := by decide +kernel
theorem jd_Merger_joinNew_8 : decode mi_Merger_joinNew.2.1 8 = .ok (.aload_n 0, 1) := by decide +kernel
theorem jd_Merger_joinNew_9 : decode mi_Merger_joinNew.2.1 9 = .ok (.getfield 38, 3) := by decide +kernel
theorem jd_Merger_joinNew_12 : decode mi_Merger_joinNew.2.1 12 = .ok (.aload_n 0, 1) := by decide +kernel
theorem jd_Merger_joinNew_13 : decode mi_Merger_joinNew.2.1 13 = .ok (.getfield 12, 3) := by decide +kernel
theorem jd_Merger_joinNew_16 : decode mi_Merger_joinNew.2.1 16 = .ok (.iload_n 3, 1) := by decide +kernel
theorem jd_Merger_joinNew_17 : decode mi_Merger_joinNew.2.1 17 = .ok (.invokevirtual 73, 3) := by decide +kernel
theorem jd_Merger_joinNew_20 : decode mi_Merger_joinNew.2.1 20 = .ok (.aload_n 0, 1) := by decide +kernel
theorem jd_Merger_joinNew_21 : decode mi_Merger_joinNew.2.1 21 = .ok (.getfield 45, 3) := by decide +kernel
theorem jd_Merger_joinNew_24 : decode mi_Merger_joinNew.2.1 24 = .ok (.aload_n 1, 1) := by decide +kernel
theorem jd_Merger_joinNew_25 : decode mi_Merger_joinNew.2.1 25 = .ok (.aload_n 2, 1) := by decide +kernel
theorem jd_Merger_joinNew_26 : decode mi_Merger_joinNew.2.1 26 = .ok (.invokevirtual 100, 3) := by decide +kernel
theorem jd_Merger_joinNew_29 : decode mi_Merger_joinNew.2.1 29 = .ok (.pop, 1) := by decide +kernel
theorem jd_Merger_joinNew_30 : decode mi_Merger_joinNew.2.1 30 = .ok (.aload_n 0, 1) := by decide +kernel
theorem jd_Merger_joinNew_31 : decode mi_Merger_joinNew.2.1 31 = .ok (.getfield 21, 3) := by decide +kernel
theorem jd_Merger_joinNew_34 : decode mi_Merger_joinNew.2.1 34 = .ok (.iconst 4, 1) := by decide +kernel
theorem jd_Merger_joinNew_35 : decode mi_Merger_joinNew.2.1 35 = .ok (.iload_n 3, 1) := by decide +kernel
theorem jd_Merger_joinNew_36 : decode mi_Merger_joinNew.2.1 36 = .ok (.invokevirtual 96, 3) := by decide +kernel
theorem jd_Merger_joinNew_39 : decode mi_Merger_joinNew.2.1 39 = .ok (.return_, 1) := by decide +kernel
theorem jd_Merger_mergeFile_0 : decode mi_Merger_mergeFile.2.1 0 = .ok (.aload_n 0, 1) := by decide +kernel
theorem jd_Merger_mergeFile_1 : decode mi_Merger_mergeFile.2.1 1 = .ok (.getfield 28, 3) := by decide +kernel
theorem jd_Merger_mergeFile_4 : decode mi_Merger_mergeFile.2.1 4 = .ok (.iload 4, 2) := by decide +kernel
theorem jd_Merger_mergeFile_6 : decode mi_Merger_mergeFile.2.1 6 = .ok (.invokevirtual 89, 3) := by decide +kernel
theorem jd_Merger_mergeFile_9 : decode mi_Merger_mergeFile.2.1 9 = .ok (.istore 5, 2) := by decide +kernel
theorem jd_Merger_mergeFile_11 : decode mi_Merger_mergeFile.2.1 11 = .ok (.aload_n 0, 1) := by decide +kernel
theorem jd_Merger_mergeFile_12 : decode mi_Merger_mergeFile.2.1 12 = .ok (.getfield 32, 3) := by decide +kernel
theorem jd_Merger_mergeFile_15 : decode mi_Merger_mergeFile.2.1 15 = .ok (.iload 4, 2) := by decide +kernel
theorem jd_Merger_mergeFile_17 : decode mi_Merger_mergeFile.2.1 17 = .ok (.invokevirtual 89, 3) := by decide +kernel
theorem jd_Merger_mergeFile_20 : decode mi_Merger_mergeFile.2.1 20 = .ok (.istore 6, 2) := by decide +kernel
theorem jd_Merger_mergeFile_22 : decode mi_Merger_mergeFile.2.1 22 = .ok (.iload 5, 2) := by decide +kernel
theorem jd_Merger_mergeFile_24 : decode mi_Merger_mergeFile.2.1 24 = .ok (.iconst (-1), 1) := by decide +kernel
theorem jd_Merger_mergeFile_25 : decode mi_Merger_mergeFile.2.1 25 = .ok (.if_icmp .ne 10, 3) := by decide +kernel
theorem jd_Merger_mergeFile_28 : decode mi_Merger_mergeFile.2.1 28 = .ok (.iload 6, 2) := by decide +kernel
theorem jd_Merger_mergeFile_30 : decode mi_Merger_mergeFile.2.1 30 = .ok (.iconst (-1), 1) := by decide +kernel
theorem jd_Merger_mergeFile_31 : decode mi_Merger_mergeFile.2.1 31 = .ok (.if_icmp .ne 4, 3) := by decide +kernel
theorem jd_Merger_mergeFile_34 : decode mi_Merger_mergeFile.2.1 34 = .ok (.return_, 1) := by decide +kernel
theorem jd_Merger_mergeFile_35 : decode mi_Merger_mergeFile.2.1 35 = .ok (.iload 5, 2) := by decide +kernel
theorem jd_Merger_mergeFile_37 : decode mi_Merger_mergeFile.2.1 37 = .ok (.iconst (-1), 1) := by decide +kernel
theorem jd_Merger_mergeFile_38 : decode mi_Merger_mergeFile.2.1 38 = .ok (.if_icmp .ne 14, 3) := by decide +kernel
theorem jd_Merger_mergeFile_41 : decode mi_Merger_mergeFile.2.1 41 = .ok (.aload_n 0, 1) := by decide +kernel
theorem jd_Merger_mergeFile_42 : decode mi_Merger_mergeFile.2.1 42 = .ok (.aload_n 1, 1) := by decide +kernel
theorem jd_Merger_mergeFile_43 : decode mi_Merger_mergeFile.2.1 43 = .ok (.aload_n 3, 1) := by decide +kernel
theorem jd_Merger_mergeFile_44 : decode mi_Merger_mergeFile.2.1 44 = .ok (.iload 4, 2) := by decide +kernel
theorem jd_Merger_mergeFile_46 : decode mi_Merger_mergeFile.2.1 46 = .ok (.iload 6, 2) := by decide +kernel
theorem jd_Merger_mergeFile_48 : decode mi_Merger_mergeFile.2.1 48 = .ok (.invokevirtual 92, 3) := by decide +kernel
theorem jd_Merger_mergeFile_51 : decode mi_Merger_mergeFile.2.1 51 = .ok (.return_, 1) := by decide +kernel
theorem jd_Merger_mergeFile_52 : decode mi_Merger_mergeFile.2.1 52 = .ok (.iload 6, 2) := by decide +kernel
theorem jd_Merger_mergeFile_54 : decode mi_Merger_mergeFile.2.1 54 = .ok (.iconst (-1), 1) := by decide +kernel
theorem jd_Merger_mergeFile_55 : decode mi_Merger_mergeFile.2.1 55 = .ok (.if_icmp .ne 14, 3) := by decide +kernel
theorem jd_Merger_mergeFile_58 : decode mi_Merger_mergeFile.2.1 58 = .ok (.aload_n 0, 1) := by decide +kernel
theorem jd_Merger_mergeFile_59 : decode mi_Merger_mergeFile.2.1 59 = .ok (.aload_n 1, 1) := by decide +kernel
theorem jd_Merger_mergeFile_60 : decode mi_Merger_mergeFile.2.1 60 = .ok (.aload_n 2, 1) := by decide +kernel
theorem jd_Merger_mergeFile_61 : decode mi_Merger_mergeFile.2.1 61 = .ok (.iload 4, 2) := by decide +kernel
theorem jd_Merger_mergeFile_63 : decode mi_Merger_mergeFile.2.1 63 = .ok (.iload 5, 2) := by decide +kernel
theorem jd_Merger_mergeFile_65 : decode mi_Merger_mergeFile.2.1 65 = .ok (.invokevirtual 92, 3) := by decide +kernel
theorem jd_Merger_mergeFile_68 : decode mi_Merger_mergeFile.2.1 68 = .ok (.return_, 1) := by decide +kernel
theorem jd_Merger_mergeFile_69 : decode mi_Merger_mergeFile.2.1 69 = .ok (.iload 5, 2) := by decide +kernel
theorem jd_Merger_mergeFile_71 : decode mi_Merger_mergeFile.2.1 71 = .ok (.iload 4, 2) := by decide +kernel
theorem jd_Merger_mergeFile_73 : decode mi_Merger_mergeFile.2.1 73 = .ok (.if_icmp .ne 8, 3) := by decide +kernel
theorem jd_Merger_mergeFile_76 : decode mi_Merger_mergeFile.2.1 76 = .ok (.iload 6, 2) := by decide +kernel
theorem jd_Merger_mergeFile_78 : decode mi_Merger_mergeFile.2.1 78 = .ok (.goto 5, 3) := by decide +kernel
theorem jd_Merger_mergeFile_81 : decode mi_Merger_mergeFile.2.1 81 = .ok (.iload 5, 2) := by decide +kernel
theorem jd_Merger_mergeFile_83 : decode mi_Merger_mergeFile.2.1 83 = .ok (.istore 7, 2) := by decide +kernel
theorem jd_Merger_mergeFile_85 : decode mi_Merger_mergeFile.2.1 85 = .ok (.aload_n 0, 1) := by decide +kernel
theorem jd_Merger_mergeFile_86 : decode mi_Merger_mergeFile.2.1 86 = .ok (.getfield 12, 3) := by decide +kernel
theorem jd_Merger_mergeFile_89 : decode mi_Merger_mergeFile.2.1 89 = .ok (.iload 7, 2) := by decide +kernel
theorem jd_Merger_mergeFile_91 : decode mi_Merger_mergeFile.2.1 91 = .ok (.invokevirtual 61, 3) := by decide +kernel
theorem jd_Merger_mergeFile_94 : decode mi_Merger_mergeFile.2.1 94 = .ok (.ifCond .eq 14, 3) := by decide +kernel
theorem jd_Merger_mergeFile_97 : decode mi_Merger_mergeFile.2.1 97 = .ok (.aload_n 0, 1) := by decide +kernel
theorem jd_Merger_mergeFile_98 : decode mi_Merger_mergeFile.2.1 98 = .ok (.getfield 21, 3) := by decide +kernel
theorem jd_Merger_mergeFile_101 : decode mi_Merger_mergeFile.2.1 101 = .ok (.iconst 5, 1) := by decide +kernel
theorem jd_Merger_mergeFile_102 : decode mi_Merger_mergeFile.2.1 102 = .ok (.iload 7, 2) := by decide +kernel
theorem jd_Merger_mergeFile_104 : decode mi_Merger_mergeFile.2.1 104 = .ok (.invokevirtual 96, 3) := by decide +kernel
theorem jd_Merger_mergeFile_107 : decode mi_Merger_mergeFile.2.1 107 = .ok (.return_, 1) := by decide +kernel
theorem jd_Merger_mergeFile_108 : decode mi_Merger_mergeFile.2.1 108 = .ok (.iload 6, 2) := by decide +kernel
theorem jd_Merger_mergeFile_110 : decode mi_Merger_mergeFile.2.1 110 = .ok (.iload 7, 2) := by decide +kernel
theorem jd_Merger_mergeFile_112 : decode mi_Merger_mergeFile.2.1 112 = .ok (.if_icmp .eq 20, 3) := by decide +kernel
theorem jd_Merger_mergeFile_115 : decode mi_Merger_mergeFile.2.1 115 = .ok (.iload 6, 2) := by decide +kernel
theorem jd_Merger_mergeFile_117 : decode mi_Merger_mergeFile.2.1 117 = .ok (.iload 4, 2) := by decide +kernel
theorem jd_Merger_mergeFile_119 : decode mi_Merger_mergeFile.2.1 119 = .ok (.if_icmp .eq 13, 3) := by decide +kernel
theorem jd_Merger_mergeFile_122 : decode mi_Merger_mergeFile.2.1 122 = .ok (.aload_n 0, 1) := by decide +kernel
theorem jd_Merger_mergeFile_123 : decode mi_Merger_mergeFile.2.1 123 = .ok (.getfield 21, 3) := by decide +kernel
theorem jd_Merger_mergeFile_126 : decode mi_Merger_mergeFile.2.1 126 = .ok (.iconst 2, 1) := by decide +kernel
theorem jd_Merger_mergeFile_127 : decode mi_Merger_mergeFile.2.1 127 = .ok (.iload 7, 2) := by decide +kernel
theorem jd_Merger_mergeFile_129 : decode mi_Merger_mergeFile.2.1 129 = .ok (.invokevirtual 96, 3) := by decide +kernel
theorem jd_Merger_mergeFile_132 : decode mi_Merger_mergeFile.2.1 132 = .ok (.aload_n 0, 1) := by decide +kernel
theorem jd_Merger_mergeFile_133 : decode mi_Merger_mergeFile.2.1 133 = .ok (.getfield 12, 3) := by decide +kernel
theorem jd_Merger_mergeFile_136 : decode mi_Merger_mergeFile.2.1 136 = .ok (.iload 7, 2) := by decide +kernel
theorem jd_Merger_mergeFile_138 : decode mi_Merger_mergeFile.2.1 138 = .ok (.invokevirtual 73, 3) := by decide +kernel
theorem jd_Merger_mergeFile_141 : decode mi_Merger_mergeFile.2.1 141 = .ok (.astore 8, 2) := by decide +kernel
theorem jd_Merger_mergeFile_143 : decode mi_Merger_mergeFile.2.1 143 = .ok (.aload_n 0, 1) := by decide +kernel
theorem jd_Merger_mergeFile_144 : decode mi_Merger_mergeFile.2.1 144 = .ok (.getfield 38, 3) := by decide +kernel
theorem jd_Merger_mergeFile_147 : decode mi_Merger_mergeFile.2.1 147 = .ok (.aload 8, 2) := by decide +kernel
theorem jd_Merger_mergeFile_149 : decode mi_Merger_mergeFile.2.1 149 = .ok (.aload_n 1, 1) := by decide +kernel
theorem jd_Merger_mergeFile_150 : decode mi_Merger_mergeFile.2.1 150 = .ok (.iload 4, 2) := by decide +kernel
theorem jd_Merger_mergeFile_152 : decode mi_Merger_mergeFile.2.1 152 = .ok (.invokevirtual 73, 3) := by decide +kernel
theorem jd_Merger_mergeFile_155 : decode mi_Merger_mergeFile.2.1 155 = .ok (.aload_n 2, 1) := by decide +kernel
theorem jd_Merger_mergeFile_156 : decode mi_Merger_mergeFile.2.1 156 = .ok (.iload 5, 2) := by decide +kernel
theorem jd_Merger_mergeFile_158 : decode mi_Merger_mergeFile.2.1 158 = .ok (.invokevirtual 73, 3) := by decide +kernel
theorem jd_Merger_mergeFile_161 : decode mi_Merger_mergeFile.2.1 161 = .ok (.aload_n 3, 1) := by decide +kernel
theorem jd_Merger_mergeFile_162 : decode mi_Merger_mergeFile.2.1 162 = .ok (.iload 6, 2) := by decide +kernel
theorem jd_Merger_mergeFile_164 : decode mi_Merger_mergeFile.2.1 164 = .ok (.invokevirtual 73, 3) := by decide +kernel
theorem jd_Merger_mergeFile_167 : decode mi_Merger_mergeFile.2.1 167 = .ok (.invokevirtual 100, 3) := by decide +kernel
theorem jd_Merger_mergeFile_170 : decode mi_Merger_mergeFile.2.1 170 = .ok (.ifCond .eq 13, 3) := by decide +kernel
theorem jd_Merger_mergeFile_173 : decode mi_Merger_mergeFile.2.1 173 = .ok (.aload_n 0, 1) := by decide +kernel
theorem jd_Merger_mergeFile_174 : decode mi_Merger_mergeFile.2.1 174 = .ok (.getfield 21, 3) := by decide +kernel
theorem jd_Merger_mergeFile_177 : decode mi_Merger_mergeFile.2.1 177 = .ok (.iconst 3, 1) := by decide +kernel
theorem jd_Merger_mergeFile_178 : decode mi_Merger_mergeFile.2.1 178 = .ok (.iload 7, 2) := by decide +kernel
theorem jd_Merger_mergeFile_180 : decode mi_Merger_mergeFile.2.1 180 = .ok (.invokevirtual 96, 3) := by decide +kernel
theorem jd_Merger_mergeFile_183 : decode mi_Merger_mergeFile.2.1 183 = .ok (.return_, 1) := by decide +kernel
theorem jd_Merger_isNew_0 : decode mi_Merger_isNew.2.1 0 = .ok (.aload_n 1, 1) := by decide +kernel
theorem jd_Merger_isNew_1 : decode mi_Merger_isNew.2.1 1 = .ok (.iload_n 3, 1) := by decide +kernel
theorem jd_Merger_isNew_2 : decode mi_Merger_isNew.2.1 2 = .ok (.invokevirtual 61, 3) := by decide +kernel
theorem jd_Merger_isNew_5 : decode mi_Merger_isNew.2.1 5 = .ok (.ifCond .eq 24, 3) := by decide +kernel
theorem jd_Merger_isNew_8 : decode mi_Merger_isNew.2.1 8 = .ok (.aload_n 0, 1) := by decide +kernel
theorem jd_Merger_isNew_9 : decode mi_Merger_isNew.2.1 9 = .ok (.iload_n 3, 1) := by decide +kernel
theorem jd_Merger_isNew_10 : decode mi_Merger_isNew.2.1 10 = .ok (.invokevirtual 61, 3) := by decide +kernel
theorem jd_Merger_isNew_13 : decode mi_Merger_isNew.2.1 13 = .ok (.ifCond .ne 16, 3) := by decide +kernel
theorem jd_Merger_isNew_16 : decode mi_Merger_isNew.2.1 16 = .ok (.aload_n 2, 1) := by decide +kernel
theorem jd_Merger_isNew_17 : decode mi_Merger_isNew.2.1 17 = .ok (.iload_n 3, 1) := by decide +kernel
theorem jd_Merger_isNew_18 : decode mi_Merger_isNew.2.1 18 = .ok (.invokevirtual 85, 3) := by decide +kernel
theorem jd_Merger_isNew_21 : decode mi_Merger_isNew.2.1 21 = .ok (.iconst (-1), 1) := by decide +kernel
theorem jd_Merger_isNew_22 : decode mi_Merger_isNew.2.1 22 = .ok (.if_icmp .ne 7, 3) := by decide +kernel
theorem jd_Merger_isNew_25 : decode mi_Merger_isNew.2.1 25 = .ok (.iconst 1, 1) := by decide +kernel
theorem jd_Merger_isNew_26 : decode mi_Merger_isNew.2.1 26 = .ok (.goto 4, 3) := by decide +kernel
theorem jd_Merger_isNew_29 : decode mi_Merger_isNew.2.1 29 = .ok (.iconst 0, 1) := by decide +kernel
theorem jd_Merger_isNew_30 : decode mi_Merger_isNew.2.1 30 = .ok (.ireturn, 1) := by decide +kernel
theorem jd_Merger_mergeTrees_0 : decode mi_Merger_mergeTrees.2.1 0 = .ok (.aload_n 0, 1) := by decide +kernel
theorem jd_Merger_mergeTrees_1 : decode mi_Merger_mergeTrees.2.1 1 = .ok (.getfield 12, 3) := by decide +kernel
theorem jd_Merger_mergeTrees_4 : decode mi_Merger_mergeTrees.2.1 4 = .ok (.invokevirtual 53, 3) := by decide +kernel
theorem jd_Merger_mergeTrees_7 : decode mi_Merger_mergeTrees.2.1 7 = .ok (.aload_n 0, 1) := by decide +kernel
theorem jd_Merger_mergeTrees_8 : decode mi_Merger_mergeTrees.2.1 8 = .ok (.getfield 21, 3) := by decide +kernel
theorem jd_Merger_mergeTrees_11 : decode mi_Merger_mergeTrees.2.1 11 = .ok (.invokevirtual 56, 3) := by decide +kernel
theorem jd_Merger_mergeTrees_14 : decode mi_Merger_mergeTrees.2.1 14 = .ok (.aload_n 0, 1) := by decide +kernel
theorem jd_Merger_mergeTrees_15 : decode mi_Merger_mergeTrees.2.1 15 = .ok (.getfield 28, 3) := by decide +kernel
theorem jd_Merger_mergeTrees_18 : decode mi_Merger_mergeTrees.2.1 18 = .ok (.aload_n 1, 1) := by decide +kernel
theorem jd_Merger_mergeTrees_19 : decode mi_Merger_mergeTrees.2.1 19 = .ok (.aload_n 2, 1) := by decide +kernel
theorem jd_Merger_mergeTrees_20 : decode mi_Merger_mergeTrees.2.1 20 = .ok (.invokevirtual 57, 3) := by decide +kernel
theorem jd_Merger_mergeTrees_23 : decode mi_Merger_mergeTrees.2.1 23 = .ok (.aload_n 0, 1) := by decide +kernel
theorem jd_Merger_mergeTrees_24 : decode mi_Merger_mergeTrees.2.1 24 = .ok (.getfield 32, 3) := by decide +kernel
theorem jd_Merger_mergeTrees_27 : decode mi_Merger_mergeTrees.2.1 27 = .ok (.aload_n 1, 1) := by decide +kernel
theorem jd_Merger_mergeTrees_28 : decode mi_Merger_mergeTrees.2.1 28 = .ok (.aload_n 3, 1) := by decide +kernel
theorem jd_Merger_mergeTrees_29 : decode mi_Merger_mergeTrees.2.1 29 = .ok (.invokevirtual 57, 3) := by decide +kernel
theorem jd_Merger_mergeTrees_32 : decode mi_Merger_mergeTrees.2.1 32 = .ok (.iconst 0, 1) := by decide +kernel
theorem jd_Merger_mergeTrees_33 : decode mi_Merger_mergeTrees.2.1 33 = .ok (.istore 4, 2) := by decide +kernel
theorem jd_Merger_mergeTrees_35 : decode mi_Merger_mergeTrees.2.1 35 = .ok (.iload 4, 2) := by decide +kernel
theorem jd_Merger_mergeTrees_37 : decode mi_Merger_mergeTrees.2.1 37 = .ok (.bipush 12, 2) := by decide +kernel
theorem jd_Merger_mergeTrees_39 : decode mi_Merger_mergeTrees.2.1 39 = .ok (.if_icmp .ge 27, 3) := by decide +kernel
theorem jd_Merger_mergeTrees_42 : decode mi_Merger_mergeTrees.2.1 42 = .ok (.aload_n 1, 1) := by decide +kernel
theorem jd_Merger_mergeTrees_43 : decode mi_Merger_mergeTrees.2.1 43 = .ok (.iload 4, 2) := by decide +kernel
theorem jd_Merger_mergeTrees_45 : decode mi_Merger_mergeTrees.2.1 45 = .ok (.invokevirtual 61, 3) := by decide +kernel
theorem jd_Merger_mergeTrees_48 : decode mi_Merger_mergeTrees.2.1 48 = .ok (.ifCond .eq 12, 3) := by decide +kernel
theorem jd_Merger_mergeTrees_51 : decode mi_Merger_mergeTrees.2.1 51 = .ok (.aload_n 0, 1) := by decide +kernel
theorem jd_Merger_mergeTrees_52 : decode mi_Merger_mergeTrees.2.1 52 = .ok (.aload_n 1, 1) := by decide +kernel
theorem jd_Merger_mergeTrees_53 : decode mi_Merger_mergeTrees.2.1 53 = .ok (.aload_n 2, 1) := by decide +kernel
theorem jd_Merger_mergeTrees_54 : decode mi_Merger_mergeTrees.2.1 54 = .ok (.aload_n 3, 1) := by decide +kernel
theorem jd_Merger_mergeTrees_55 : decode mi_Merger_mergeTrees.2.1 55 = .ok (.iload 4, 2) := by decide +kernel
theorem jd_Merger_mergeTrees_57 : decode mi_Merger_mergeTrees.2.1 57 = .ok (.invokevirtual 65, 3) := by decide +kernel
theorem jd_Merger_mergeTrees_60 : decode mi_Merger_mergeTrees.2.1 60 = .ok (.iinc 4 1, 3) := by decide +kernel
theorem jd_Merger_mergeTrees_63 : decode mi_Merger_mergeTrees.2.1 63 = .ok (.goto (-28), 3) := by decide +kernel
theorem jd_Merger_mergeTrees_66 : decode mi_Merger_mergeTrees.2.1 66 = .ok (.iconst 0, 1) := by decide +kernel
theorem jd_Merger_mergeTrees_67 : decode mi_Merger_mergeTrees.2.1 67 = .ok (.istore 4, 2) := by decide +kernel
theorem jd_Merger_mergeTrees_69 : decode mi_Merger_mergeTrees.2.1 69 = .ok (.iload 4, 2) := by decide +kernel
theorem jd_Merger_mergeTrees_71 : decode mi_Merger_mergeTrees.2.1 71 = .ok (.bipush 12, 2) := by decide +kernel
theorem jd_Merger_mergeTrees_73 : decode mi_Merger_mergeTrees.2.1 73 = .ok (.if_icmp .ge 50, 3) := by decide +kernel
theorem jd_Merger_mergeTrees_76 : decode mi_Merger_mergeTrees.2.1 76 = .ok (.aload_n 0, 1) := by decide +kernel
theorem jd_Merger_mergeTrees_77 : decode mi_Merger_mergeTrees.2.1 77 = .ok (.getfield 49, 3) := by decide +kernel
theorem jd_Merger_mergeTrees_80 : decode mi_Merger_mergeTrees.2.1 80 = .ok (.iload 4, 2) := by decide +kernel
theorem jd_Merger_mergeTrees_82 : decode mi_Merger_mergeTrees.2.1 82 = .ok (.aload_n 1, 1) := by decide +kernel
theorem jd_Merger_mergeTrees_83 : decode mi_Merger_mergeTrees.2.1 83 = .ok (.aload_n 2, 1) := by decide +kernel
theorem jd_Merger_mergeTrees_84 : decode mi_Merger_mergeTrees.2.1 84 = .ok (.aload_n 0, 1) := by decide +kernel
theorem jd_Merger_mergeTrees_85 : decode mi_Merger_mergeTrees.2.1 85 = .ok (.getfield 28, 3) := by decide +kernel
theorem jd_Merger_mergeTrees_88 : decode mi_Merger_mergeTrees.2.1 88 = .ok (.iload 4, 2) := by decide +kernel
theorem jd_Merger_mergeTrees_90 : decode mi_Merger_mergeTrees.2.1 90 = .ok (.invokestatic 69, 3) := by decide +kernel
theorem jd_Merger_mergeTrees_93 : decode mi_Merger_mergeTrees.2.1 93 = .ok (.ifCond .eq 22, 3) := by decide +kernel
theorem jd_Merger_mergeTrees_96 : decode mi_Merger_mergeTrees.2.1 96 = .ok (.aload_n 0, 1) := by decide +kernel
theorem jd_Merger_mergeTrees_97 : decode mi_Merger_mergeTrees.2.1 97 = .ok (.aload_n 2, 1) := by decide +kernel
theorem jd_Merger_mergeTrees_98 : decode mi_Merger_mergeTrees.2.1 98 = .ok (.iload 4, 2) := by decide +kernel
theorem jd_Merger_mergeTrees_100 : decode mi_Merger_mergeTrees.2.1 100 = .ok (.invokevirtual 73, 3) := by decide +kernel
theorem jd_Merger_mergeTrees_103 : decode mi_Merger_mergeTrees.2.1 103 = .ok (.iload 4, 2) := by decide +kernel
theorem jd_Merger_mergeTrees_105 : decode mi_Merger_mergeTrees.2.1 105 = .ok (.invokevirtual 77, 3) := by decide +kernel
theorem jd_Merger_mergeTrees_108 : decode mi_Merger_mergeTrees.2.1 108 = .ok (.ifCond .eq 7, 3) := by decide +kernel
theorem jd_Merger_mergeTrees_111 : decode mi_Merger_mergeTrees.2.1 111 = .ok (.iconst 1, 1) := by decide +kernel
theorem jd_Merger_mergeTrees_112 : decode mi_Merger_mergeTrees.2.1 112 = .ok (.goto 4, 3) := by decide +kernel
theorem jd_Merger_mergeTrees_115 : decode mi_Merger_mergeTrees.2.1 115 = .ok (.iconst 0, 1) := by decide +kernel
theorem jd_Merger_mergeTrees_116 : decode mi_Merger_mergeTrees.2.1 116 = .ok (.bastore, 1) := by decide +kernel
theorem jd_Merger_mergeTrees_117 : decode mi_Merger_mergeTrees.2.1 117 = .ok (.iinc 4 1, 3) := by decide +kernel
theorem jd_Merger_mergeTrees_120 : decode mi_Merger_mergeTrees.2.1 120 = .ok (.goto (-51), 3) := by decide +kernel
theorem jd_Merger_mergeTrees_123 : decode mi_Merger_mergeTrees.2.1 123 = .ok (.iconst 0, 1) := by decide +kernel
theorem jd_Merger_mergeTrees_124 : decode mi_Merger_mergeTrees.2.1 124 = .ok (.istore 4, 2) := by decide +kernel
theorem jd_Merger_mergeTrees_126 : decode mi_Merger_mergeTrees.2.1 126 = .ok (.iload 4, 2) := by decide +kernel
theorem jd_Merger_mergeTrees_128 : decode mi_Merger_mergeTrees.2.1 128 = .ok (.bipush 12, 2) := by decide +kernel
theorem jd_Merger_mergeTrees_130 : decode mi_Merger_mergeTrees.2.1 130 = .ok (.if_icmp .ge 67, 3) := by decide +kernel
theorem jd_Merger_mergeTrees_133 : decode mi_Merger_mergeTrees.2.1 133 = .ok (.aload_n 1, 1) := by decide +kernel
theorem jd_Merger_mergeTrees_134 : decode mi_Merger_mergeTrees.2.1 134 = .ok (.aload_n 3, 1) := by decide +kernel
theorem jd_Merger_mergeTrees_135 : decode mi_Merger_mergeTrees.2.1 135 = .ok (.aload_n 0, 1) := by decide +kernel
theorem jd_Merger_mergeTrees_136 : decode mi_Merger_mergeTrees.2.1 136 = .ok (.getfield 32, 3) := by decide +kernel
theorem jd_Merger_mergeTrees_139 : decode mi_Merger_mergeTrees.2.1 139 = .ok (.iload 4, 2) := by decide +kernel
theorem jd_Merger_mergeTrees_141 : decode mi_Merger_mergeTrees.2.1 141 = .ok (.invokestatic 69, 3) := by decide +kernel
theorem jd_Merger_mergeTrees_144 : decode mi_Merger_mergeTrees.2.1 144 = .ok (.ifCond .eq 47, 3) := by decide +kernel
theorem jd_Merger_mergeTrees_147 : decode mi_Merger_mergeTrees.2.1 147 = .ok (.aload_n 0, 1) := by decide +kernel
theorem jd_Merger_mergeTrees_148 : decode mi_Merger_mergeTrees.2.1 148 = .ok (.getfield 49, 3) := by decide +kernel
theorem jd_Merger_mergeTrees_151 : decode mi_Merger_mergeTrees.2.1 151 = .ok (.iload 4, 2) := by decide +kernel
theorem jd_Merger_mergeTrees_153 : decode mi_Merger_mergeTrees.2.1 153 = .ok (.baload, 1) := by decide +kernel
theorem jd_Merger_mergeTrees_154 : decode mi_Merger_mergeTrees.2.1 154 = .ok (.ifCond .eq 24, 3) := by decide +kernel
theorem jd_Merger_mergeTrees_157 : decode mi_Merger_mergeTrees.2.1 157 = .ok (.aload_n 0, 1) := by decide +kernel
theorem jd_Merger_mergeTrees_158 : decode mi_Merger_mergeTrees.2.1 158 = .ok (.aload_n 2, 1) := by decide +kernel
theorem jd_Merger_mergeTrees_159 : decode mi_Merger_mergeTrees.2.1 159 = .ok (.iload 4, 2) := by decide +kernel
theorem jd_Merger_mergeTrees_161 : decode mi_Merger_mergeTrees.2.1 161 = .ok (.invokevirtual 73, 3) := by decide +kernel
theorem jd_Merger_mergeTrees_164 : decode mi_Merger_mergeTrees.2.1 164 = .ok (.aload_n 3, 1) := by decide +kernel
theorem jd_Merger_mergeTrees_165 : decode mi_Merger_mergeTrees.2.1 165 = .ok (.iload 4, 2) := by decide +kernel
theorem jd_Merger_mergeTrees_167 : decode mi_Merger_mergeTrees.2.1 167 = .ok (.invokevirtual 73, 3) := by decide +kernel
theorem jd_Merger_mergeTrees_170 : decode mi_Merger_mergeTrees.2.1 170 = .ok (.iload 4, 2) := by decide +kernel
theorem jd_Merger_mergeTrees_172 : decode mi_Merger_mergeTrees.2.1 172 = .ok (.invokevirtual 81, 3) := by decide +kernel
theorem jd_Merger_mergeTrees_175 : decode mi_Merger_mergeTrees.2.1 175 = .ok (.goto 16, 3) := by decide +kernel
theorem jd_Merger_mergeTrees_178 : decode mi_Merger_mergeTrees.2.1 178 = .ok (.aload_n 0, 1) := by decide +kernel
theorem jd_Merger_mergeTrees_179 : decode mi_Merger_mergeTrees.2.1 179 = .ok (.aload_n 3, 1) := by decide +kernel
theorem jd_Merger_mergeTrees_180 : decode mi_Merger_mergeTrees.2.1 180 = .ok (.iload 4, 2) := by decide +kernel
theorem jd_Merger_mergeTrees_182 : decode mi_Merger_mergeTrees.2.1 182 = .ok (.invokevirtual 73, 3) := by decide +kernel
theorem jd_Merger_mergeTrees_185 : decode mi_Merger_mergeTrees.2.1 185 = .ok (.iload 4, 2) := by decide +kernel
theorem jd_Merger_mergeTrees_187 : decode mi_Merger_mergeTrees.2.1 187 = .ok (.invokevirtual 77, 3) := by decide +kernel
theorem jd_Merger_mergeTrees_190 : decode mi_Merger_mergeTrees.2.1 190 = .ok (.pop, 1) := by decide +kernel
theorem jd_Merger_mergeTrees_191 : decode mi_Merger_mergeTrees.2.1 191 = .ok (.iinc 4 1, 3) := by decide +kernel
theorem jd_Merger_mergeTrees_194 : decode mi_Merger_mergeTrees.2.1 194 = .ok (.goto (-68), 3) := by decide +kernel
theorem jd_Merger_mergeTrees_197 : decode mi_Merger_mergeTrees.2.1 197 = .ok (.return_, 1) := by decide +kernel
/-! the merging of three trees -/
abbrev zM : Type := zT × zK
def tU (A : zT) (p : Nat) (v : zV) : zT := fun q => if q = p then v else A q
def MC (o : jw_O) (σ : zS) (M : zM) : Prop := TC o σ (zb o + 906) M.1 ∧ KC o σ (zb o + 934) M.2
theorem MC.fr2 {o : jw_O} {σ σ' : zS} {a n b m : Nat} {M : zM} (h : MC o σ M) (f : zF2 σ σ' a n b m) (hd : zb o + 937 ≤ a ∨ a + n ≤ zb o + 906) (hd2 : zb o + 937 ≤ b ∨ b + m ≤ zb o + 906) : MC o σ' M := ⟨h.1.fr2 f (by omega) (by omega), h.2.fr2 f (by omega) (by omega)⟩
theorem TC.upd {o : jw_O} {σ s : zS} {t p : Nat} {A : zT} {v : zV} (h : TC o σ t A) (hv : VC o s (fA t p) v) (f : ∀ x, t ≤ x → x < t + 28 → (x < fA t p ∨ fA t p + 2 ≤ x) → s x = σ x) : TC o s t (tU A p v) := by
  refine ⟨h.1, fun q hq => ?_⟩
  unfold tU
  by_cases e : q = p
  · rw [if_pos e, e]; exact hv
  · rw [if_neg e]
    exact (h.2 q hq).cell (f _ (by unfold fA; omega) (by unfold fA; omega) (by unfold fA; omega)) (f _ (by unfold fA; omega) (by unfold fA; omega) (by unfold fA; omega))
noncomputable def mBring (v : zV) (p : Nat) (M : zM) : Int × zM := if (M.1 p).1 = 0 then (1, (tU M.1 p v, M.2)) else (0, (M.1, kTell M.2 5 p))
noncomputable def mLeft (A K : zT) (p ik : Nat) (M : zM) : zM := if ik = p ∧ eqV (K p) (A p) = 1 then M else if (mBring (K ik) ik M).1 = 0 then (mBring (K ik) ik M).2 else ((mBring (K ik) ik M).2.1, kTell (mBring (K ik) ik M).2.2 1 ik)
noncomputable def mJoin (w t : zV) (p : Nat) (M : zM) : zM := if eqV w t = 1 then M else (tU M.1 p (blF v0 w t).1, kTell M.2 4 p)
noncomputable def mBoth (A B C : zT) (p io it : Nat) (M : zM) (to : Nat) : zM := if (M.1 to).1 = 0 then (tU M.1 to (blF (A p) (B io) (C it)).1, if (blF (A p) (B io) (C it)).2.1 = 0 then (if ¬ it = to ∧ ¬ it = p then kTell M.2 2 to else M.2) else kTell (if ¬ it = to ∧ ¬ it = p then kTell M.2 2 to else M.2) 3 to) else (M.1, kTell M.2 5 to)
noncomputable def mFile (A B C : zT) (F G : Nat → Int) (p : Nat) (M : zM) : zM :=
  if F p = -1 then (if G p = -1 then M else mLeft A C p (G p).toNat M) else if G p = -1 then mLeft A B p (F p).toNat M else mBoth A B C p (F p).toNat (G p).toNat M (if F p = p then (G p).toNat else (F p).toNat)
def mNew (A B : zT) (S : Nat → Int) (p : Nat) : Int := if (B p).1 = 0 then 0 else if (A p).1 = 0 then (if S p = -1 then 1 else 0) else 0
noncomputable def mg1 (A B C : zT) : Nat → zM → zM := fun p M => if (A p).1 = 0 then M else mFile A B C (trF A B).1 (trF A C).1 p M
noncomputable def mg2 (A B : zT) : Nat → zM × (Nat → Int) → zM × (Nat → Int) := fun p u => if mNew A B (trF A B).2.1 p = 0 then (u.1, fun q => if q = p then 0 else u.2 q) else ((mBring (B p) p u.1).2, fun q => if q = p then (mBring (B p) p u.1).1 else u.2 q)
noncomputable def mg3 (A B C : zT) (N : Nat → Int) : Nat → zM → zM := fun p M => if mNew A C (trF A C).2.1 p = 0 then M else if N p = 0 then (mBring (C p) p M).2 else mJoin (B p) (C p) p M
noncomputable def mgA (A B C : zT) : zM := it (mg1 A B C) 12 0 (fun _ => v0, (0, fun _ => (0, 0)))
noncomputable def mgB (A B C : zT) : zM × (Nat → Int) := it (mg2 A B) 12 0 (mgA A B C, fun _ => 0)
noncomputable def mgF (A B C : zT) : zM := it (mg3 A B C (mgB A B C).2) 12 0 (mgB A B C).1
theorem mBring_01 (v : zV) (p : Nat) (M : zM) : (mBring v p M).1 = 0 ∨ (mBring v p M).1 = 1 := by
  unfold mBring
  split
  · exact Or.inr rfl
  · exact Or.inl rfl
section
variable {o : jw_O} {σ : zS} {M : zM}
theorem g_bring {c : Nat} {v : zV} (hM : MC o σ M) (hv : VC o σ c v) (hd : c + 2 ≤ zb o + 905 ∨ zb o + 966 ≤ c) (p : Nat) (hp : p < 12) : zSpec mi_Merger_bring 2 o [.ref (zb o + 905), .ref c, .int (iI p)] σ (fun w s => w = some (.int (iI (mBring v p M).1)) ∧ MC o s (mBring v p M).2 ∧ zF2 σ s (zb o + 906) 31 (zb o + 951) 15) := by
  obtain ⟨hT, hK⟩ := hM
  have i1 := isT_res (o := o)
  have i2 := isK_told (o := o)
  have i3 := i1.f hp
  have h01 := (hT.2 p hp).2.1.p
  refine z_spec (by decide +kernel) (Nat.le_of_ble_eq_true rfl) rfl (fun k hs hR hE => ?_)
  refine jw_aload_n (pc' := 1) jd_Merger_bring_0 rfl rfl rfl ?_
  refine jw_get (pc' := 4) (kf := 0) jc_Merger (by decide) jq_207 jd_Merger_bring_1 (mc_Merger _) rfl rfl ?_
  refine jw_iload_n (pc' := 5) jd_Merger_bring_4 rfl rfl rfl ?_
  refine zx_callV0 (pc' := 8) hR (t_has hT p hp) jm_Tree_has jq_569 jc_Tree jd_Merger_bring_5 (mc_Tree _ (by assumption)) rfl rfl (Nat.le_of_ble_eq_true rfl) (by omega) (by decide) rfl rfl ?_
  refine zx_if_eq (tgt := 22) (pc' := 11) (by first | exact rg_iv _ _ _ | omega) jd_Merger_bring_8 (by decide) rfl (fun q => ?_) (fun q => ?_)
  · refine jw_aload_n (pc' := 23) jd_Merger_bring_22 rfl rfl rfl ?_
    refine jw_get (pc' := 26) (kf := 0) jc_Merger (by decide) jq_207 jd_Merger_bring_23 (mc_Merger _) rfl rfl ?_
    refine jw_iload_n (pc' := 27) jd_Merger_bring_26 rfl rfl rfl ?_
    refine zx_callV0 (pc' := 30) hR (t_fileAt i1 p hp) jm_Tree_fileAt jq_582 jc_Tree jd_Merger_bring_27 (mc_Tree _ (by assumption)) rfl rfl (Nat.le_of_ble_eq_true rfl) (by omega) (by decide) rfl rfl ?_
    refine jw_aload_n (pc' := 31) jd_Merger_bring_30 rfl rfl rfl ?_
    refine zx_callV (pc' := 34) hR (c_copyFrom i3 hv (by unfold fA; omega)) jm_Content_copyFrom jq_592 jc_Content jd_Merger_bring_31 (mc_Content _ (by assumption)) rfl rfl (Nat.le_of_ble_eq_true rfl) (by omega) (by decide) rfl (fun v9 s1 q9 => ?_)
    obtain ⟨rfl, g1, f1⟩ := q9
    refine zx_iconst (pc' := 35) (n := 1) jd_Merger_bring_34 rfl ?_
    refine zx_zret (by first | exact Or.inl rfl | exact Or.inr rfl | assumption | omega) hE jd_Merger_bring_35 rfl ?_
    have e : mBring v p M = (1, (tU M.1 p v, M.2)) := by unfold mBring; rw [if_pos q]
    rw [e]
    exact ⟨rfl, ⟨hT.upd g1 (fun x h1 h2 h3 => f1 x h3), hK.fr f1 (by unfold fA; omega)⟩, (f1.mono (by unfold fA; omega) (by unfold fA; omega) : zF σ s1 (zb o + 906) 31).l⟩
  · refine jw_aload_n (pc' := 12) jd_Merger_bring_11 rfl rfl rfl ?_
    refine jw_get (pc' := 15) (kf := 1) jc_Merger (by decide) jq_208 jd_Merger_bring_12 (mc_Merger _) rfl rfl ?_
    refine zx_iconst (pc' := 16) (n := 5) jd_Merger_bring_15 rfl ?_
    refine jw_iload_n (pc' := 17) jd_Merger_bring_16 rfl rfl rfl ?_
    refine zx_callV (pc' := 20) hR (k_tell hK (by omega) (by omega)) jm_Conflicts_tell jq_588 jc_Conflicts jd_Merger_bring_17 (mc_Conflicts _ (by assumption)) rfl rfl (Nat.le_of_ble_eq_true rfl) (by omega) (by decide) rfl (fun v9 s1 q9 => ?_)
    obtain ⟨rfl, g1, f1⟩ := q9
    refine zx_iconst (pc' := 21) (n := 0) jd_Merger_bring_20 rfl ?_
    refine zx_zret (by first | exact Or.inl rfl | exact Or.inr rfl | assumption | omega) hE jd_Merger_bring_21 rfl ?_
    have e : mBring v p M = (0, (M.1, kTell M.2 5 p)) := by unfold mBring; rw [if_neg q]
    rw [e]
    exact ⟨rfl, ⟨hT.fr f1 (by omega), g1⟩, (f1.mono (by omega) (by omega) : zF σ s1 (zb o + 906) 31).l⟩
theorem g_left {t1 t2 : Nat} {A K : zT} (hM : MC o σ M) (hA : TC o σ t1 A) (hK : TC o σ t2 K) (d1 : t1 + 28 ≤ zb o + 905) (d2 : t2 + 28 ≤ zb o + 905) (p ik : Nat) (hp : p < 12) (hik : ik < 12) : zSpec mi_Merger_mergeLeftOut 3 o [.ref (zb o + 905), .ref t1, .ref t2, .int (iI p), .int (iI ik)] σ (fun w s => w = none ∧ MC o s (mLeft A K p ik M) ∧ zF2 σ s (zb o + 906) 31 (zb o + 951) 15) := by
  have hA1 := hA.1
  have hK1 := hK.1
  have c1 := hA1.f hp
  have c2 := hK1.f hp
  have i2 := isK_told (o := o)
  have e01 := eqV_01 (K p) (A p)
  have b01 := mBring_01 (K ik) ik M
  refine z_spec (by decide +kernel) (Nat.le_of_ble_eq_true rfl) rfl (fun k hs hR hE => ?_)
  have part : ¬ (ik = p ∧ eqV (K p) (A p) = 1) → jw_X mi_Merger_mergeLeftOut o k 0 0 29 [(0, .ref (zb o + 905)), (2, .ref t2), (4, .int (iI ik)), (5, .int (iI 0))] [] (mm o σ) hs := by
    intro hno
    refine jw_iload (pc' := 31) jd_Merger_mergeLeftOut_29 rfl rfl ?_
    refine zx_if_ne (tgt := 59) (pc' := 34) (by first | exact rg_iv _ _ _ | omega) jd_Merger_mergeLeftOut_31 (by decide) rfl (fun q => ?_) (fun q => ?_)
    · exfalso; omega
    refine jw_aload_n (pc' := 35) jd_Merger_mergeLeftOut_34 rfl rfl rfl ?_
    refine jw_aload_n (pc' := 36) jd_Merger_mergeLeftOut_35 rfl rfl rfl ?_
    refine jw_iload (pc' := 38) jd_Merger_mergeLeftOut_36 rfl rfl ?_
    refine zx_callV0 (pc' := 41) hR (t_fileAt hK1 ik hik) jm_Tree_fileAt jq_582 jc_Tree jd_Merger_mergeLeftOut_38 (mc_Tree _ (by assumption)) rfl rfl (Nat.le_of_ble_eq_true rfl) (by omega) (by decide) rfl rfl ?_
    refine jw_iload (pc' := 43) jd_Merger_mergeLeftOut_41 rfl rfl ?_
    refine zx_callV (pc' := 46) hR (g_bring hM (hK.2 ik hik) (by unfold fA; omega) ik hik) jm_Merger_bring jq_584 jc_Merger jd_Merger_mergeLeftOut_43 (mc_Merger _) rfl rfl (Nat.le_of_ble_eq_true rfl) (by omega) (by decide) rfl (fun v9 s1 q9 => ?_)
    obtain ⟨rfl, g1, f1⟩ := q9
    refine zx_if_eq (tgt := 59) (pc' := 49) (by first | exact rg_iv _ _ _ | omega) jd_Merger_mergeLeftOut_46 (by decide) rfl (fun q2 => ?_) (fun q2 => ?_)
    · refine zx_vret hE jd_Merger_mergeLeftOut_59 rfl ?_
      have e : mLeft A K p ik M = (mBring (K ik) ik M).2 := by unfold mLeft; rw [if_neg hno, if_pos q2]
      rw [e]; exact ⟨rfl, g1, f1⟩
    · refine jw_aload_n (pc' := 50) jd_Merger_mergeLeftOut_49 rfl rfl rfl ?_
      refine jw_get (pc' := 53) (kf := 1) jc_Merger (by decide) jq_208 jd_Merger_mergeLeftOut_50 (mc_Merger _) rfl rfl ?_
      refine zx_iconst (pc' := 54) (n := 1) jd_Merger_mergeLeftOut_53 rfl ?_
      refine jw_iload (pc' := 56) jd_Merger_mergeLeftOut_54 rfl rfl ?_
      refine zx_callV (pc' := 59) hR (k_tell g1.2 (by omega) (by omega)) jm_Conflicts_tell jq_588 jc_Conflicts jd_Merger_mergeLeftOut_56 (mc_Conflicts _ (by assumption)) rfl rfl (Nat.le_of_ble_eq_true rfl) (by omega) (by decide) rfl (fun v9 s2 q9 => ?_)
      obtain ⟨rfl, g2, f2⟩ := q9
      refine zx_vret hE jd_Merger_mergeLeftOut_59 rfl ?_
      have e : mLeft A K p ik M = ((mBring (K ik) ik M).2.1, kTell (mBring (K ik) ik M).2.2 1 ik) := by unfold mLeft; rw [if_neg hno, if_neg q2]
      rw [e]; exact ⟨rfl, ⟨g1.1.fr f2 (by omega), g2⟩, f1.tl f2 (by omega) (by omega)⟩
  refine jw_iload (pc' := 2) jd_Merger_mergeLeftOut_0 rfl rfl ?_
  refine jw_iload_n (pc' := 3) jd_Merger_mergeLeftOut_2 rfl rfl rfl ?_
  refine zx_icmp_ne (tgt := 26) (pc' := 6) (by first | exact rg_iv _ _ _ | omega) (by first | exact rg_iv _ _ _ | omega) jd_Merger_mergeLeftOut_3 (by decide) rfl (fun q => ?_) (fun q => ?_)
  · refine zx_iconst (pc' := 27) (n := 0) jd_Merger_mergeLeftOut_26 rfl ?_
    refine jw_istore (pc' := 29) (lc' := [(0, _), (2, _), (4, _), (5, _)]) jd_Merger_mergeLeftOut_27 (Nat.le_of_ble_eq_true rfl) ⟨rfl, rfl, rfl, rfl, trivial⟩ rfl ?_
    exact part (fun z => q (by omega))
  · refine jw_aload_n (pc' := 7) jd_Merger_mergeLeftOut_6 rfl rfl rfl ?_
    refine jw_iload_n (pc' := 8) jd_Merger_mergeLeftOut_7 rfl rfl rfl ?_
    refine zx_callV0 (pc' := 11) hR (t_fileAt hK1 p hp) jm_Tree_fileAt jq_582 jc_Tree jd_Merger_mergeLeftOut_8 (mc_Tree _ (by assumption)) rfl rfl (Nat.le_of_ble_eq_true rfl) (by omega) (by decide) rfl rfl ?_
    refine jw_aload_n (pc' := 12) jd_Merger_mergeLeftOut_11 rfl rfl rfl ?_
    refine jw_iload_n (pc' := 13) jd_Merger_mergeLeftOut_12 rfl rfl rfl ?_
    refine zx_callV0 (pc' := 16) hR (t_fileAt hA1 p hp) jm_Tree_fileAt jq_582 jc_Tree jd_Merger_mergeLeftOut_13 (mc_Tree _ (by assumption)) rfl rfl (Nat.le_of_ble_eq_true rfl) (by omega) (by decide) rfl rfl ?_
    refine zx_callV0 (pc' := 19) hR (c_sameAs (hK.2 p hp) (hA.2 p hp)) jm_Content_sameAs jq_583 jc_Content jd_Merger_mergeLeftOut_16 (mc_Content _ (by assumption)) rfl rfl (Nat.le_of_ble_eq_true rfl) (by omega) (by decide) rfl rfl ?_
    refine zx_if_eq (tgt := 26) (pc' := 22) (by first | exact rg_iv _ _ _ | omega) jd_Merger_mergeLeftOut_19 (by decide) rfl (fun q2 => ?_) (fun q2 => ?_)
    · refine zx_iconst (pc' := 27) (n := 0) jd_Merger_mergeLeftOut_26 rfl ?_
      refine jw_istore (pc' := 29) (lc' := [(0, _), (2, _), (4, _), (5, _)]) jd_Merger_mergeLeftOut_27 (Nat.le_of_ble_eq_true rfl) ⟨rfl, rfl, rfl, rfl, trivial⟩ rfl ?_
      exact part (fun z => by omega)
    · refine zx_iconst (pc' := 23) (n := 1) jd_Merger_mergeLeftOut_22 rfl ?_
      refine jw_goto (tgt := 27) jd_Merger_mergeLeftOut_23 (by decide) ?_
      refine jw_istore (pc' := 29) (lc' := [(0, _), (2, _), (4, _), (5, _)]) jd_Merger_mergeLeftOut_27 (Nat.le_of_ble_eq_true rfl) ⟨rfl, rfl, rfl, rfl, trivial⟩ rfl ?_
      refine jw_iload (pc' := 31) jd_Merger_mergeLeftOut_29 rfl rfl ?_
      refine zx_if_ne (tgt := 59) (pc' := 34) (by first | exact rg_iv _ _ _ | omega) jd_Merger_mergeLeftOut_31 (by decide) rfl (fun q3 => ?_) (fun q3 => ?_)
      rotate_left
      · exfalso; omega
      refine zx_vret hE jd_Merger_mergeLeftOut_59 rfl ?_
      have e : mLeft A K p ik M = M := by unfold mLeft; rw [if_pos (by omega)]
      rw [e]; exact ⟨rfl, hM, fun _ _ _ => rfl⟩
theorem g_join {c1 c2 : Nat} {w t : zV} (hM : MC o σ M) (hn : VC o σ (zb o + 966) v0) (hw : VC o σ c1 w) (ht : VC o σ c2 t) (d1 : c1 + 2 ≤ zb o + 905) (d2 : c2 + 2 ≤ zb o + 905) (p : Nat) (hp : p < 12) : zSpec mi_Merger_joinNew 4 o [.ref (zb o + 905), .ref c1, .ref c2, .int (iI p)] σ (fun r s => r = none ∧ MC o s (mJoin w t p M) ∧ zF2 σ s (zb o + 906) 31 (zb o + 951) 15) := by
  have i1 := isT_res (o := o)
  have i2 := isK_told (o := o)
  have i3 := i1.f hp
  have e01 := eqV_01 w t
  have hw1 := hw.1
  obtain ⟨hT, hK⟩ := hM
  refine z_spec (by decide +kernel) (Nat.le_of_ble_eq_true rfl) rfl (fun k hs hR hE => ?_)
  refine jw_aload_n (pc' := 1) jd_Merger_joinNew_0 rfl rfl rfl ?_
  refine jw_aload_n (pc' := 2) jd_Merger_joinNew_1 rfl rfl rfl ?_
  refine zx_callV0 (pc' := 5) hR (c_sameAs hw ht) jm_Content_sameAs jq_583 jc_Content jd_Merger_joinNew_2 (mc_Content _ (by assumption)) rfl rfl (Nat.le_of_ble_eq_true rfl) (by omega) (by decide) rfl rfl ?_
  refine zx_if_ne (tgt := 39) (pc' := 8) (by first | exact rg_iv _ _ _ | omega) jd_Merger_joinNew_5 (by decide) rfl (fun q => ?_) (fun q => ?_)
  · refine zx_vret hE jd_Merger_joinNew_39 rfl ?_
    have e : mJoin w t p M = M := by unfold mJoin; rw [if_pos (by omega)]
    rw [e]; exact ⟨rfl, ⟨hT, hK⟩, fun _ _ _ => rfl⟩
  · refine jw_aload_n (pc' := 9) jd_Merger_joinNew_8 rfl rfl rfl ?_
    refine jw_get (pc' := 12) (kf := 4) jc_Merger (by decide) jq_211 jd_Merger_joinNew_9 (mc_Merger _) rfl rfl ?_
    refine jw_aload_n (pc' := 13) jd_Merger_joinNew_12 rfl rfl rfl ?_
    refine jw_get (pc' := 16) (kf := 0) jc_Merger (by decide) jq_207 jd_Merger_joinNew_13 (mc_Merger _) rfl rfl ?_
    refine jw_iload_n (pc' := 17) jd_Merger_joinNew_16 rfl rfl rfl ?_
    refine zx_callV0 (pc' := 20) hR (t_fileAt i1 p hp) jm_Tree_fileAt jq_582 jc_Tree jd_Merger_joinNew_17 (mc_Tree _ (by assumption)) rfl rfl (Nat.le_of_ble_eq_true rfl) (by omega) (by decide) rfl rfl ?_
    refine jw_aload_n (pc' := 21) jd_Merger_joinNew_20 rfl rfl rfl ?_
    refine jw_get (pc' := 24) (kf := 5) jc_Merger (by decide) jq_212 jd_Merger_joinNew_21 (mc_Merger _) rfl rfl ?_
    refine jw_aload_n (pc' := 25) jd_Merger_joinNew_24 rfl rfl rfl ?_
    refine jw_aload_n (pc' := 26) jd_Merger_joinNew_25 rfl rfl rfl ?_
    refine zx_callV (pc' := 29) hR (b_into i3 hn hw ht (by unfold fA; omega) (by unfold fA; omega) (by unfold fA; omega) (by unfold fA; omega) (by omega) (by omega) (by omega)) jm_Blender_blendInto jq_593 jc_Blender jd_Merger_joinNew_26 (mc_Blender _) rfl rfl (Nat.le_of_ble_eq_true rfl) (by omega) (by decide) rfl (fun v9 s1 q9 => ?_)
    obtain ⟨rfl, g1, f1⟩ := q9
    have hK1 := hK.fr2 f1 (by omega) (by unfold fA; omega)
    refine jw_pop (pc' := 30) jd_Merger_joinNew_29 rfl rfl ?_
    refine jw_aload_n (pc' := 31) jd_Merger_joinNew_30 rfl rfl rfl ?_
    refine jw_get (pc' := 34) (kf := 1) jc_Merger (by decide) jq_208 jd_Merger_joinNew_31 (mc_Merger _) rfl rfl ?_
    refine zx_iconst (pc' := 35) (n := 4) jd_Merger_joinNew_34 rfl ?_
    refine jw_iload_n (pc' := 36) jd_Merger_joinNew_35 rfl rfl rfl ?_
    refine zx_callV (pc' := 39) hR (k_tell hK1 (by omega) (by omega)) jm_Conflicts_tell jq_588 jc_Conflicts jd_Merger_joinNew_36 (mc_Conflicts _ (by assumption)) rfl rfl (Nat.le_of_ble_eq_true rfl) (by omega) (by decide) rfl (fun v9 s2 q9 => ?_)
    obtain ⟨rfl, g2, f2⟩ := q9
    refine zx_vret hE jd_Merger_joinNew_39 rfl ?_
    have e : mJoin w t p M = (tU M.1 p (blF v0 w t).1, kTell M.2 4 p) := by unfold mJoin; rw [if_neg (by omega)]
    rw [e]
    refine ⟨rfl, ⟨hT.upd (g1.fr f2 (by unfold fA; omega)) (fun x h1 h2 h3 => ?_), g2⟩, fun x h1 h2 => ?_⟩
    · rw [f2 x (by omega)]; exact f1 x (by omega) h3
    · rw [f2 x (by omega)]; exact f1 x (by omega) (by unfold fA; omega)
theorem g_both {t1 t2 t3 : Nat} {A B C : zT} (hM : MC o σ M) (hA : TC o σ t1 A) (hB : TC o σ t2 B) (hC : TC o σ t3 C) (d1 : t1 + 28 ≤ zb o + 905) (d2 : t2 + 28 ≤ zb o + 905) (d3 : t3 + 28 ≤ zb o + 905) (p io iq to : Nat) (hp : p < 12) (hio : io < 12) (hit : iq < 12) (hto : to < 12) {k : jw_K} {hs : Nat} {Φ : Option Value → zS → Prop} (hR : jw_Rm k 4 0 0) (hE : jw_E o k 0 0 (zP o hs Φ)) (hΦ : ∀ s, MC o s (mBoth A B C p io iq M to) → zF2 σ s (zb o + 906) 31 (zb o + 951) 15 → Φ none s) : jw_X mi_Merger_mergeFile o k 0 0 85 [(0, .ref (zb o + 905)), (1, .ref t1), (2, .ref t2), (3, .ref t3), (4, .int (iI p)), (5, .int (iI io)), (6, .int (iI iq)), (7, .int (iI to))] [] (mm o σ) hs := by
  have i1 := isT_res (o := o)
  have i2 := isK_told (o := o)
  have i3 := i1.f hto
  have hA1 := hA.1
  have hB1 := hB.1
  have hC1 := hC.1
  have h01 := (hM.1.2 to hto).2.1.p
  have hQ := blF_Q (hA.2 p hp).2.1 (hB.2 io hio).2.1 (hC.2 iq hit).2.1
  have t01 := hQ.2.2.1
  have part : ∀ (l : zK) (s : zS), (M.1 to).1 = 0 → l = (if ¬ iq = to ∧ ¬ iq = p then kTell M.2 2 to else M.2) → KC o s (zb o + 934) l → zF σ s (zb o + 934) 3 → jw_X mi_Merger_mergeFile o k 0 0 132 [(0, .ref (zb o + 905)), (1, .ref t1), (2, .ref t2), (3, .ref t3), (4, .int (iI p)), (5, .int (iI io)), (6, .int (iI iq)), (7, .int (iI to))] [] (mm o s) hs := by
    intro l s h0 hl hK F
    have e : mBoth A B C p io iq M to = (tU M.1 to (blF (A p) (B io) (C iq)).1, if (blF (A p) (B io) (C iq)).2.1 = 0 then l else kTell l 3 to) := by unfold mBoth; rw [if_pos h0, ← hl]
    have sA := hA.fr F (by omega)
    have sB := hB.fr F (by omega)
    have sC := hC.fr F (by omega)
    have sT := hM.1.fr F (by omega)
    refine jw_aload_n (pc' := 133) jd_Merger_mergeFile_132 rfl rfl rfl ?_
    refine jw_get (pc' := 136) (kf := 0) jc_Merger (by decide) jq_207 jd_Merger_mergeFile_133 (mc_Merger _) rfl rfl ?_
    refine jw_iload (pc' := 138) jd_Merger_mergeFile_136 rfl rfl ?_
    refine zx_callV0 (pc' := 141) hR (t_fileAt i1 to hto) jm_Tree_fileAt jq_582 jc_Tree jd_Merger_mergeFile_138 (mc_Tree _ (by assumption)) rfl rfl (Nat.le_of_ble_eq_true rfl) (by omega) (by decide) rfl rfl ?_
    refine jw_astore (pc' := 143) (lc' := [(0, _), (1, _), (2, _), (3, _), (4, _), (5, _), (6, _), (7, _), (8, _)]) jd_Merger_mergeFile_141 (Nat.le_of_ble_eq_true rfl) ⟨rfl, rfl, rfl, rfl, rfl, rfl, rfl, rfl, rfl, trivial⟩ rfl ?_
    refine jw_aload_n (pc' := 144) jd_Merger_mergeFile_143 rfl rfl rfl ?_
    refine jw_get (pc' := 147) (kf := 4) jc_Merger (by decide) jq_211 jd_Merger_mergeFile_144 (mc_Merger _) rfl rfl ?_
    refine jw_aload (pc' := 149) jd_Merger_mergeFile_147 rfl rfl ?_
    refine jw_aload_n (pc' := 150) jd_Merger_mergeFile_149 rfl rfl rfl ?_
    refine jw_iload (pc' := 152) jd_Merger_mergeFile_150 rfl rfl ?_
    refine zx_callV0 (pc' := 155) hR (t_fileAt hA1 p hp) jm_Tree_fileAt jq_582 jc_Tree jd_Merger_mergeFile_152 (mc_Tree _ (by assumption)) rfl rfl (Nat.le_of_ble_eq_true rfl) (by omega) (by decide) rfl rfl ?_
    refine jw_aload_n (pc' := 156) jd_Merger_mergeFile_155 rfl rfl rfl ?_
    refine jw_iload (pc' := 158) jd_Merger_mergeFile_156 rfl rfl ?_
    refine zx_callV0 (pc' := 161) hR (t_fileAt hB1 io hio) jm_Tree_fileAt jq_582 jc_Tree jd_Merger_mergeFile_158 (mc_Tree _ (by assumption)) rfl rfl (Nat.le_of_ble_eq_true rfl) (by omega) (by decide) rfl rfl ?_
    refine jw_aload_n (pc' := 162) jd_Merger_mergeFile_161 rfl rfl rfl ?_
    refine jw_iload (pc' := 164) jd_Merger_mergeFile_162 rfl rfl ?_
    refine zx_callV0 (pc' := 167) hR (t_fileAt hC1 iq hit) jm_Tree_fileAt jq_582 jc_Tree jd_Merger_mergeFile_164 (mc_Tree _ (by assumption)) rfl rfl (Nat.le_of_ble_eq_true rfl) (by omega) (by decide) rfl rfl ?_
    refine zx_callV (pc' := 170) hR (b_into i3 (sA.2 p hp) (sB.2 io hio) (sC.2 iq hit) (by unfold fA; omega) (by unfold fA; omega) (by unfold fA; omega) (by unfold fA; omega) (by unfold fA; omega) (by unfold fA; omega) (by unfold fA; omega)) jm_Blender_blendInto jq_593 jc_Blender jd_Merger_mergeFile_167 (mc_Blender _) rfl rfl (Nat.le_of_ble_eq_true rfl) (by omega) (by decide) rfl (fun v9 s1 q9 => ?_)
    obtain ⟨rfl, g1, f1⟩ := q9
    have hK1 := hK.fr2 f1 (by omega) (by unfold fA; omega)
    refine zx_if_eq (tgt := 183) (pc' := 173) (by first | exact rg_iv _ _ _ | omega) jd_Merger_mergeFile_170 (by decide) rfl (fun q => ?_) (fun q => ?_)
    · refine zx_vret hE jd_Merger_mergeFile_183 rfl ?_
      rw [if_pos q] at e
      refine hΦ _ ?_ (fun x h1 h2 => ?_)
      · rw [e]; exact ⟨sT.upd g1 (fun x h1 h2 h3 => f1 x (by omega) h3), hK1⟩
      · rw [f1 x (by omega) (by unfold fA; omega)]; exact F x (by omega)
    · refine jw_aload_n (pc' := 174) jd_Merger_mergeFile_173 rfl rfl rfl ?_
      refine jw_get (pc' := 177) (kf := 1) jc_Merger (by decide) jq_208 jd_Merger_mergeFile_174 (mc_Merger _) rfl rfl ?_
      refine zx_iconst (pc' := 178) (n := 3) jd_Merger_mergeFile_177 rfl ?_
      refine jw_iload (pc' := 180) jd_Merger_mergeFile_178 rfl rfl ?_
      refine zx_callV (pc' := 183) hR (k_tell hK1 (by omega) (by omega)) jm_Conflicts_tell jq_588 jc_Conflicts jd_Merger_mergeFile_180 (mc_Conflicts _ (by assumption)) rfl rfl (Nat.le_of_ble_eq_true rfl) (by omega) (by decide) rfl (fun v9 s2 q9 => ?_)
      obtain ⟨rfl, g2, f2⟩ := q9
      refine zx_vret hE jd_Merger_mergeFile_183 rfl ?_
      rw [if_neg q] at e
      refine hΦ _ ?_ (fun x h1 h2 => ?_)
      · rw [e]; exact ⟨sT.upd (g1.fr f2 (by unfold fA; omega)) (fun x h1 h2 h3 => by rw [f2 x (by omega)]; exact f1 x (by omega) h3), g2⟩
      · rw [f2 x (by omega), f1 x (by omega) (by unfold fA; omega)]; exact F x (by omega)
  refine jw_aload_n (pc' := 86) jd_Merger_mergeFile_85 rfl rfl rfl ?_
  refine jw_get (pc' := 89) (kf := 0) jc_Merger (by decide) jq_207 jd_Merger_mergeFile_86 (mc_Merger _) rfl rfl ?_
  refine jw_iload (pc' := 91) jd_Merger_mergeFile_89 rfl rfl ?_
  refine zx_callV0 (pc' := 94) hR (t_has hM.1 to hto) jm_Tree_has jq_569 jc_Tree jd_Merger_mergeFile_91 (mc_Tree _ (by assumption)) rfl rfl (Nat.le_of_ble_eq_true rfl) (by omega) (by decide) rfl rfl ?_
  refine zx_if_eq (tgt := 108) (pc' := 97) (by first | exact rg_iv _ _ _ | omega) jd_Merger_mergeFile_94 (by decide) rfl (fun q => ?_) (fun q => ?_)
  rotate_left
  · refine jw_aload_n (pc' := 98) jd_Merger_mergeFile_97 rfl rfl rfl ?_
    refine jw_get (pc' := 101) (kf := 1) jc_Merger (by decide) jq_208 jd_Merger_mergeFile_98 (mc_Merger _) rfl rfl ?_
    refine zx_iconst (pc' := 102) (n := 5) jd_Merger_mergeFile_101 rfl ?_
    refine jw_iload (pc' := 104) jd_Merger_mergeFile_102 rfl rfl ?_
    refine zx_callV (pc' := 107) hR (k_tell hM.2 (by omega) (by omega)) jm_Conflicts_tell jq_588 jc_Conflicts jd_Merger_mergeFile_104 (mc_Conflicts _ (by assumption)) rfl rfl (Nat.le_of_ble_eq_true rfl) (by omega) (by decide) rfl (fun v9 s1 q9 => ?_)
    obtain ⟨rfl, g1, f1⟩ := q9
    refine zx_vret hE jd_Merger_mergeFile_107 rfl ?_
    have e : mBoth A B C p io iq M to = (M.1, kTell M.2 5 to) := by unfold mBoth; rw [if_neg q]
    exact hΦ _ (by rw [e]; exact ⟨hM.1.fr f1 (by omega), g1⟩) (f1.mono (by omega) (by omega) : zF σ s1 (zb o + 906) 31).l
  refine jw_iload (pc' := 110) jd_Merger_mergeFile_108 rfl rfl ?_
  refine jw_iload (pc' := 112) jd_Merger_mergeFile_110 rfl rfl ?_
  refine zx_icmp_eq (tgt := 132) (pc' := 115) (by first | exact rg_iv _ _ _ | omega) (by first | exact rg_iv _ _ _ | omega) jd_Merger_mergeFile_112 (by decide) rfl (fun q2 => ?_) (fun q2 => ?_)
  · skip
    exact part _ σ q (by rw [if_neg (by omega)]) hM.2 zF.rf
  refine jw_iload (pc' := 117) jd_Merger_mergeFile_115 rfl rfl ?_
  refine jw_iload (pc' := 119) jd_Merger_mergeFile_117 rfl rfl ?_
  refine zx_icmp_eq (tgt := 132) (pc' := 122) (by first | exact rg_iv _ _ _ | omega) (by first | exact rg_iv _ _ _ | omega) jd_Merger_mergeFile_119 (by decide) rfl (fun q3 => ?_) (fun q3 => ?_)
  · skip
    exact part _ σ q (by rw [if_neg (by omega)]) hM.2 zF.rf
  · refine jw_aload_n (pc' := 123) jd_Merger_mergeFile_122 rfl rfl rfl ?_
    refine jw_get (pc' := 126) (kf := 1) jc_Merger (by decide) jq_208 jd_Merger_mergeFile_123 (mc_Merger _) rfl rfl ?_
    refine zx_iconst (pc' := 127) (n := 2) jd_Merger_mergeFile_126 rfl ?_
    refine jw_iload (pc' := 129) jd_Merger_mergeFile_127 rfl rfl ?_
    refine zx_callV (pc' := 132) hR (k_tell hM.2 (by omega) (by omega)) jm_Conflicts_tell jq_588 jc_Conflicts jd_Merger_mergeFile_129 (mc_Conflicts _ (by assumption)) rfl rfl (Nat.le_of_ble_eq_true rfl) (by omega) (by decide) rfl (fun v9 s1 q9 => ?_)
    obtain ⟨rfl, g1, f1⟩ := q9
    exact part _ s1 q (by rw [if_pos (by omega)]) g1 f1
theorem g_file {t1 t2 t3 : Nat} {A B C : zT} {u w : zN} (hM : MC o σ M) (hu : RC o σ (zb o + 937) u) (hw : RC o σ (zb o + 944) w) (hu2 : ∀ q, -1 ≤ u.1 q ∧ u.1 q ≤ 11) (hw2 : ∀ q, -1 ≤ w.1 q ∧ w.1 q ≤ 11) (hA : TC o σ t1 A) (hB : TC o σ t2 B) (hC : TC o σ t3 C) (d1 : t1 + 28 ≤ zb o + 905) (d2 : t2 + 28 ≤ zb o + 905) (d3 : t3 + 28 ≤ zb o + 905) (p : Nat) (hp : p < 12) : zSpec mi_Merger_mergeFile 4 o [.ref (zb o + 905), .ref t1, .ref t2, .ref t3, .int (iI p)] σ (fun r s => r = none ∧ MC o s (mFile A B C u.1 w.1 p M) ∧ zF2 σ s (zb o + 906) 31 (zb o + 951) 15) := by
  have i1 := isR_ours (o := o)
  have i2 := isR_theirs (o := o)
  have r1 := hu2 p
  have r2 := hw2 p
  refine z_spec (by decide +kernel) (Nat.le_of_ble_eq_true rfl) rfl (fun k hs hR hE => ?_)
  refine jw_aload_n (pc' := 1) jd_Merger_mergeFile_0 rfl rfl rfl ?_
  refine jw_get (pc' := 4) (kf := 2) jc_Merger (by decide) jq_209 jd_Merger_mergeFile_1 (mc_Merger _) rfl rfl ?_
  refine jw_iload (pc' := 6) jd_Merger_mergeFile_4 rfl rfl ?_
  refine zx_callV0 (pc' := 9) hR (r_fate hu p hp) jm_Renames_fateOf jq_574 jc_Renames jd_Merger_mergeFile_6 (mc_Renames _ (by assumption)) rfl rfl (Nat.le_of_ble_eq_true rfl) (by omega) (by decide) rfl rfl ?_
  refine jw_istore (pc' := 11) (lc' := [(0, _), (1, _), (2, _), (3, _), (4, _), (5, _)]) jd_Merger_mergeFile_9 (Nat.le_of_ble_eq_true rfl) ⟨rfl, rfl, rfl, rfl, rfl, rfl, trivial⟩ rfl ?_
  refine jw_aload_n (pc' := 12) jd_Merger_mergeFile_11 rfl rfl rfl ?_
  refine jw_get (pc' := 15) (kf := 3) jc_Merger (by decide) jq_210 jd_Merger_mergeFile_12 (mc_Merger _) rfl rfl ?_
  refine jw_iload (pc' := 17) jd_Merger_mergeFile_15 rfl rfl ?_
  refine zx_callV0 (pc' := 20) hR (r_fate hw p hp) jm_Renames_fateOf jq_574 jc_Renames jd_Merger_mergeFile_17 (mc_Renames _ (by assumption)) rfl rfl (Nat.le_of_ble_eq_true rfl) (by omega) (by decide) rfl rfl ?_
  have rest35 : ¬ (u.1 p = -1 ∧ w.1 p = -1) → jw_X mi_Merger_mergeFile o k 0 0 35 [(0, .ref (zb o + 905)), (1, .ref t1), (2, .ref t2), (3, .ref t3), (4, .int (iI p)), (5, .int (iI (u.1 p))), (6, .int (iI (w.1 p)))] [] (mm o σ) hs := by
    intro hno
    refine jw_iload (pc' := 37) jd_Merger_mergeFile_35 rfl rfl ?_
    refine zx_iconst (pc' := 38) (n := -1) jd_Merger_mergeFile_37 rfl ?_
    refine zx_icmp_ne (tgt := 52) (pc' := 41) (by first | exact rg_iv _ _ _ | omega) (by first | exact rg_iv _ _ _ | omega) jd_Merger_mergeFile_38 (by decide) rfl (fun q => ?_) (fun q => ?_)
    rotate_left
    · obtain ⟨ik, hik⟩ : ∃ n : Nat, w.1 p = n := ⟨(w.1 p).toNat, by omega⟩
      have e : mFile A B C u.1 w.1 p M = mLeft A C p ik M := by unfold mFile; rw [if_pos q, if_neg (by omega), hik]; rfl
      rw [hik]
      refine jw_aload_n (pc' := 42) jd_Merger_mergeFile_41 rfl rfl rfl ?_
      refine jw_aload_n (pc' := 43) jd_Merger_mergeFile_42 rfl rfl rfl ?_
      refine jw_aload_n (pc' := 44) jd_Merger_mergeFile_43 rfl rfl rfl ?_
      refine jw_iload (pc' := 46) jd_Merger_mergeFile_44 rfl rfl ?_
      refine jw_iload (pc' := 48) jd_Merger_mergeFile_46 rfl rfl ?_
      refine zx_callV (pc' := 51) hR (g_left hM hA hC d1 d3 p ik hp (by omega)) jm_Merger_mergeLeftOut jq_578 jc_Merger jd_Merger_mergeFile_48 (mc_Merger _) rfl rfl (Nat.le_of_ble_eq_true rfl) (by omega) (by decide) rfl (fun v9 s1 q9 => ?_)
      obtain ⟨rfl, g1, f1⟩ := q9
      refine zx_vret hE jd_Merger_mergeFile_51 rfl ?_
      exact ⟨rfl, by rw [e]; exact g1, f1⟩
    obtain ⟨io, hio⟩ : ∃ n : Nat, u.1 p = n := ⟨(u.1 p).toNat, by omega⟩
    rw [hio]
    refine jw_iload (pc' := 54) jd_Merger_mergeFile_52 rfl rfl ?_
    refine zx_iconst (pc' := 55) (n := -1) jd_Merger_mergeFile_54 rfl ?_
    refine zx_icmp_ne (tgt := 69) (pc' := 58) (by first | exact rg_iv _ _ _ | omega) (by first | exact rg_iv _ _ _ | omega) jd_Merger_mergeFile_55 (by decide) rfl (fun q2 => ?_) (fun q2 => ?_)
    rotate_left
    · have e : mFile A B C u.1 w.1 p M = mLeft A B p io M := by unfold mFile; rw [if_neg q, if_pos q2, hio]; rfl
      refine jw_aload_n (pc' := 59) jd_Merger_mergeFile_58 rfl rfl rfl ?_
      refine jw_aload_n (pc' := 60) jd_Merger_mergeFile_59 rfl rfl rfl ?_
      refine jw_aload_n (pc' := 61) jd_Merger_mergeFile_60 rfl rfl rfl ?_
      refine jw_iload (pc' := 63) jd_Merger_mergeFile_61 rfl rfl ?_
      refine jw_iload (pc' := 65) jd_Merger_mergeFile_63 rfl rfl ?_
      refine zx_callV (pc' := 68) hR (g_left hM hA hB d1 d2 p io hp (by omega)) jm_Merger_mergeLeftOut jq_578 jc_Merger jd_Merger_mergeFile_65 (mc_Merger _) rfl rfl (Nat.le_of_ble_eq_true rfl) (by omega) (by decide) rfl (fun v9 s1 q9 => ?_)
      obtain ⟨rfl, g1, f1⟩ := q9
      refine zx_vret hE jd_Merger_mergeFile_68 rfl ?_
      exact ⟨rfl, by rw [e]; exact g1, f1⟩
    obtain ⟨iq, hiq⟩ : ∃ n : Nat, w.1 p = n := ⟨(w.1 p).toNat, by omega⟩
    rw [hiq]
    have e : mFile A B C u.1 w.1 p M = mBoth A B C p io iq M (if io = p then iq else io) := by
      unfold mFile; rw [if_neg q, if_neg q2, hio, hiq]
      by_cases z : io = p
      · rw [if_pos (by omega), if_pos z]; rfl
      · rw [if_neg (by omega), if_neg z]; rfl
    refine jw_iload (pc' := 71) jd_Merger_mergeFile_69 rfl rfl ?_
    refine jw_iload (pc' := 73) jd_Merger_mergeFile_71 rfl rfl ?_
    refine zx_icmp_ne (tgt := 81) (pc' := 76) (by first | exact rg_iv _ _ _ | omega) (by first | exact rg_iv _ _ _ | omega) jd_Merger_mergeFile_73 (by decide) rfl (fun q3 => ?_) (fun q3 => ?_)
    · refine jw_iload (pc' := 83) jd_Merger_mergeFile_81 rfl rfl ?_
      refine jw_istore (pc' := 85) (lc' := [(0, _), (1, _), (2, _), (3, _), (4, _), (5, _), (6, _), (7, _)]) jd_Merger_mergeFile_83 (Nat.le_of_ble_eq_true rfl) ⟨rfl, rfl, rfl, rfl, rfl, rfl, rfl, rfl, trivial⟩ rfl ?_
      exact g_both hM hA hB hC d1 d2 d3 p io iq io hp (by omega) (by omega) (by omega) hR hE (fun s h1 h2 => ⟨rfl, by rw [e, if_neg (by omega)]; exact h1, h2⟩)
    · refine jw_iload (pc' := 78) jd_Merger_mergeFile_76 rfl rfl ?_
      refine jw_goto (tgt := 83) jd_Merger_mergeFile_78 (by decide) ?_
      refine jw_istore (pc' := 85) (lc' := [(0, _), (1, _), (2, _), (3, _), (4, _), (5, _), (6, _), (7, _)]) jd_Merger_mergeFile_83 (Nat.le_of_ble_eq_true rfl) ⟨rfl, rfl, rfl, rfl, rfl, rfl, rfl, rfl, trivial⟩ rfl ?_
      exact g_both hM hA hB hC d1 d2 d3 p io iq iq hp (by omega) (by omega) (by omega) hR hE (fun s h1 h2 => ⟨rfl, by rw [e, if_pos (by omega)]; exact h1, h2⟩)
  refine jw_istore (pc' := 22) (lc' := [(0, _), (1, _), (2, _), (3, _), (4, _), (5, _), (6, _)]) jd_Merger_mergeFile_20 (Nat.le_of_ble_eq_true rfl) ⟨rfl, rfl, rfl, rfl, rfl, rfl, rfl, trivial⟩ rfl ?_
  refine jw_iload (pc' := 24) jd_Merger_mergeFile_22 rfl rfl ?_
  refine zx_iconst (pc' := 25) (n := -1) jd_Merger_mergeFile_24 rfl ?_
  refine zx_icmp_ne (tgt := 35) (pc' := 28) (by first | exact rg_iv _ _ _ | omega) (by first | exact rg_iv _ _ _ | omega) jd_Merger_mergeFile_25 (by decide) rfl (fun q => ?_) (fun q => ?_)
  · skip
    exact rest35 (by omega)
  refine jw_iload (pc' := 30) jd_Merger_mergeFile_28 rfl rfl ?_
  refine zx_iconst (pc' := 31) (n := -1) jd_Merger_mergeFile_30 rfl ?_
  refine zx_icmp_ne (tgt := 35) (pc' := 34) (by first | exact rg_iv _ _ _ | omega) (by first | exact rg_iv _ _ _ | omega) jd_Merger_mergeFile_31 (by decide) rfl (fun q2 => ?_) (fun q2 => ?_)
  · skip
    exact rest35 (by omega)
  · refine zx_vret hE jd_Merger_mergeFile_34 rfl ?_
    have e : mFile A B C u.1 w.1 p M = M := by unfold mFile; rw [if_pos q, if_pos q2]
    rw [e]; exact ⟨rfl, hM, fun _ _ _ => rfl⟩
theorem g_isNew {t1 t2 r : Nat} {A B : zT} {u : zN} (hA : TC o σ t1 A) (hB : TC o σ t2 B) (hu : RC o σ r u) (p : Nat) (hp : p < 12) (h2 : -1 ≤ u.2.1 p ∧ u.2.1 p ≤ 11) : zRo mi_Merger_isNew 2 o [.ref t1, .ref t2, .ref r, .int (iI p)] σ (some (.int (iI (mNew A B u.2.1 p)))) := by
  have hA1 := hA.1
  have hB1 := hB.1
  have hr := hu.1
  have o1 := (hA.2 p hp).2.1.p
  have o2 := (hB.2 p hp).2.1.p
  refine z_spec (by decide +kernel) (Nat.le_of_ble_eq_true rfl) rfl (fun k hs hR hE => ?_)
  refine jw_aload_n (pc' := 1) jd_Merger_isNew_0 rfl rfl rfl ?_
  refine jw_iload_n (pc' := 2) jd_Merger_isNew_1 rfl rfl rfl ?_
  refine zx_callV0 (pc' := 5) hR (t_has hB p hp) jm_Tree_has jq_569 jc_Tree jd_Merger_isNew_2 (mc_Tree _ (by assumption)) rfl rfl (Nat.le_of_ble_eq_true rfl) (by omega) (by decide) rfl rfl ?_
  refine zx_if_eq (tgt := 29) (pc' := 8) (by first | exact rg_iv _ _ _ | omega) jd_Merger_isNew_5 (by decide) rfl (fun q => ?_) (fun q => ?_)
  · refine zx_iconst (pc' := 30) (n := 0) jd_Merger_isNew_29 rfl ?_
    refine zx_zret (by first | exact Or.inl rfl | exact Or.inr rfl | assumption | omega) hE jd_Merger_isNew_30 rfl ?_
    exact ⟨by unfold mNew; rw [if_pos q], rfl⟩
  refine jw_aload_n (pc' := 9) jd_Merger_isNew_8 rfl rfl rfl ?_
  refine jw_iload_n (pc' := 10) jd_Merger_isNew_9 rfl rfl rfl ?_
  refine zx_callV0 (pc' := 13) hR (t_has hA p hp) jm_Tree_has jq_569 jc_Tree jd_Merger_isNew_10 (mc_Tree _ (by assumption)) rfl rfl (Nat.le_of_ble_eq_true rfl) (by omega) (by decide) rfl rfl ?_
  refine zx_if_ne (tgt := 29) (pc' := 16) (by first | exact rg_iv _ _ _ | omega) jd_Merger_isNew_13 (by decide) rfl (fun q2 => ?_) (fun q2 => ?_)
  · refine zx_iconst (pc' := 30) (n := 0) jd_Merger_isNew_29 rfl ?_
    refine zx_zret (by first | exact Or.inl rfl | exact Or.inr rfl | assumption | omega) hE jd_Merger_isNew_30 rfl ?_
    exact ⟨by unfold mNew; rw [if_neg q, if_neg q2], rfl⟩
  refine jw_aload_n (pc' := 17) jd_Merger_isNew_16 rfl rfl rfl ?_
  refine jw_iload_n (pc' := 18) jd_Merger_isNew_17 rfl rfl rfl ?_
  refine zx_callV0 (pc' := 21) hR (r_source hu p hp) jm_Renames_sourceOf jq_633 jc_Renames jd_Merger_isNew_18 (mc_Renames _ (by assumption)) rfl rfl (Nat.le_of_ble_eq_true rfl) (by omega) (by decide) rfl rfl ?_
  refine zx_iconst (pc' := 22) (n := -1) jd_Merger_isNew_21 rfl ?_
  refine zx_icmp_ne (tgt := 29) (pc' := 25) (by first | exact rg_iv _ _ _ | omega) (by first | exact rg_iv _ _ _ | omega) jd_Merger_isNew_22 (by decide) rfl (fun q3 => ?_) (fun q3 => ?_)
  · refine zx_iconst (pc' := 30) (n := 0) jd_Merger_isNew_29 rfl ?_
    refine zx_zret (by first | exact Or.inl rfl | exact Or.inr rfl | assumption | omega) hE jd_Merger_isNew_30 rfl ?_
    exact ⟨by unfold mNew; rw [if_neg q, if_pos q2, if_neg q3], rfl⟩
  · refine zx_iconst (pc' := 26) (n := 1) jd_Merger_isNew_25 rfl ?_
    refine jw_goto (tgt := 30) jd_Merger_isNew_26 (by decide) ?_
    refine zx_zret (by first | exact Or.inl rfl | exact Or.inr rfl | assumption | omega) hE jd_Merger_isNew_30 rfl ?_
    exact ⟨by unfold mNew; rw [if_neg q, if_pos q2, if_pos q3], rfl⟩
theorem mNew_01 (A B : zT) (S : Nat → Int) (p : Nat) : mNew A B S p = 0 ∨ mNew A B S p = 1 := by
  unfold mNew
  split
  · exact Or.inl rfl
  · split
    · split
      · exact Or.inr rfl
      · exact Or.inl rfl
    · exact Or.inl rfl
theorem g_merge {t1 t2 t3 : Nat} {A B C : zT} (hn : VC o σ (zb o + 966) v0) (hA : TC o σ t1 A) (hB : TC o σ t2 B) (hC : TC o σ t3 C) (d1 : t1 + 28 ≤ zb o + 905) (d2 : t2 + 28 ≤ zb o + 905) (d3 : t3 + 28 ≤ zb o + 905) : zSpec mi_Merger_mergeTrees 5 o [.ref (zb o + 905), .ref t1, .ref t2, .ref t3] σ (fun r s => r = none ∧ MC o s (mgF A B C) ∧ zF2 σ s (zb o + 906) 60 (zb o + 968) 1) := by
  have i1 := isR_ours (o := o)
  have i2 := isR_theirs (o := o)
  have i3 := isT_res (o := o)
  have i4 := isK_told (o := o)
  have hA1 := hA.1
  have hB1 := hB.1
  have hC1 := hC.1
  have okA : ∀ p, p < 12 → okV (A p) := fun p hp => (hA.2 p hp).2.1
  have okB : ∀ p, p < 12 → okV (B p) := fun p hp => (hB.2 p hp).2.1
  have okC : ∀ p, p < 12 → okV (C p) := fun p hp => (hC.2 p hp).2.1
  obtain ⟨pu1, pu2, -⟩ := trF_P okA okB
  obtain ⟨pw1, pw2, -⟩ := trF_P okA okC
  have big : ∀ {s s2 : zS}, zF2 σ s (zb o + 906) 60 (zb o + 968) 1 → zF2 s s2 (zb o + 906) 31 (zb o + 951) 15 → zF2 σ s2 (zb o + 906) 60 (zb o + 968) 1 := fun h f x h1 h2 => (f x (by omega) (by omega)).trans (h x h1 h2)
  refine z_spec (by decide +kernel) (Nat.le_of_ble_eq_true rfl) rfl (fun k hs hR hE => ?_)
  refine jw_aload_n (pc' := 1) jd_Merger_mergeTrees_0 rfl rfl rfl ?_
  refine jw_get (pc' := 4) (kf := 0) jc_Merger (by decide) jq_207 jd_Merger_mergeTrees_1 (mc_Merger _) rfl rfl ?_
  refine zx_callV (pc' := 7) hR (t_clear i3) jm_Tree_clear jq_535 jc_Tree jd_Merger_mergeTrees_4 (mc_Tree _ (by assumption)) rfl rfl (Nat.le_of_ble_eq_true rfl) (by omega) (by decide) rfl (fun v9 s1 q9 => ?_)
  obtain ⟨rfl, g1, f1⟩ := q9
  refine jw_aload_n (pc' := 8) jd_Merger_mergeTrees_7 rfl rfl rfl ?_
  refine jw_get (pc' := 11) (kf := 1) jc_Merger (by decide) jq_208 jd_Merger_mergeTrees_8 (mc_Merger _) rfl rfl ?_
  refine zx_callV (pc' := 14) hR (k_clear i4) jm_Conflicts_clear jq_540 jc_Conflicts jd_Merger_mergeTrees_11 (mc_Conflicts _ (by assumption)) rfl rfl (Nat.le_of_ble_eq_true rfl) (by omega) (by decide) rfl (fun v9 s2 q9 => ?_)
  obtain ⟨rfl, g2, f2⟩ := q9
  have F2 : zF2 σ s2 (zb o + 906) 60 (zb o + 968) 1 := ((f1.mono (by omega) (by omega) : zF σ s1 (zb o + 906) 60).l).tl f2 (by omega) (by omega)
  refine jw_aload_n (pc' := 15) jd_Merger_mergeTrees_14 rfl rfl rfl ?_
  refine jw_get (pc' := 18) (kf := 2) jc_Merger (by decide) jq_209 jd_Merger_mergeTrees_15 (mc_Merger _) rfl rfl ?_
  refine jw_aload_n (pc' := 19) jd_Merger_mergeTrees_18 rfl rfl rfl ?_
  refine jw_aload_n (pc' := 20) jd_Merger_mergeTrees_19 rfl rfl rfl ?_
  refine zx_callV (pc' := 23) hR (r_trace i1 (hA.fr2 F2 (by omega) (by omega)) (hB.fr2 F2 (by omega) (by omega)) (by omega) (by omega)) jm_Renames_trace jq_544 jc_Renames jd_Merger_mergeTrees_20 (mc_Renames _ (by assumption)) rfl rfl (Nat.le_of_ble_eq_true rfl) (by omega) (by decide) rfl (fun v9 s3 q9 => ?_)
  obtain ⟨rfl, g3, f3⟩ := q9
  have F3 := F2.tl f3 (by omega) (by omega)
  refine jw_aload_n (pc' := 24) jd_Merger_mergeTrees_23 rfl rfl rfl ?_
  refine jw_get (pc' := 27) (kf := 3) jc_Merger (by decide) jq_210 jd_Merger_mergeTrees_24 (mc_Merger _) rfl rfl ?_
  refine jw_aload_n (pc' := 28) jd_Merger_mergeTrees_27 rfl rfl rfl ?_
  refine jw_aload_n (pc' := 29) jd_Merger_mergeTrees_28 rfl rfl rfl ?_
  refine zx_callV (pc' := 32) hR (r_trace i2 (hA.fr2 F3 (by omega) (by omega)) (hC.fr2 F3 (by omega) (by omega)) (by omega) (by omega)) jm_Renames_trace jq_544 jc_Renames jd_Merger_mergeTrees_29 (mc_Renames _ (by assumption)) rfl rfl (Nat.le_of_ble_eq_true rfl) (by omega) (by decide) rfl (fun v9 s4 q9 => ?_)
  obtain ⟨rfl, g4, f4⟩ := q9
  have F4 := F3.tl f4 (by omega) (by omega)
  refine zx_iconst (pc' := 33) (n := 0) jd_Merger_mergeTrees_32 rfl ?_
  refine jw_istore (pc' := 35) (lc' := [(0, _), (1, _), (2, _), (3, _), (4, _)]) jd_Merger_mergeTrees_33 (Nat.le_of_ble_eq_true rfl) ⟨rfl, rfl, rfl, rfl, rfl, trivial⟩ rfl ?_
  have loop3 : ∀ (m i : Nat) (s : zS) (M : zM), i + m = 12 → MC o s M → RC o s (zb o + 944) (trF A C) → (∀ q, q < 12 → iv s (zb o + 968) q = (mgB A B C).2 q) → (∀ q, (mgB A B C).2 q = 0 ∨ (mgB A B C).2 q = 1) → zF2 σ s (zb o + 906) 60 (zb o + 968) 1 → it (mg3 A B C (mgB A B C).2) m i M = mgF A B C → jw_X mi_Merger_mergeTrees o k 0 0 126 [(0, .ref (zb o + 905)), (1, .ref t1), (2, .ref t2), (3, .ref t3), (4, .int (iI i))] [] (mm o s) hs := by
    intro m
    induction m with
    | zero =>
      intro i s M hi hM hr hN hN2 hF he
      refine jw_iload (pc' := 128) jd_Merger_mergeTrees_126 rfl rfl ?_
      refine zx_bipush (pc' := 130) (n := 12) jd_Merger_mergeTrees_128 (by decide +kernel) rfl ?_
      refine zx_icmp_ge (tgt := 197) (pc' := 133) (by first | exact rg_iv _ _ _ | omega) (by first | exact rg_iv _ _ _ | omega) jd_Merger_mergeTrees_130 (by decide) rfl (fun q => ?_) (fun q => ?_)
      rotate_left
      · exfalso; omega
      refine zx_vret hE jd_Merger_mergeTrees_197 rfl ?_
      have he : M = mgF A B C := he
      exact ⟨rfl, he ▸ hM, hF⟩
    | succ m ih =>
      intro i s M hi hM hr hN hN2 hF he
      have he : it (mg3 A B C (mgB A B C).2) m (i + 1) (mg3 A B C (mgB A B C).2 i M) = mgF A B C := he
      have sA := hA.fr2 hF (by omega) (by omega)
      have sB := hB.fr2 hF (by omega) (by omega)
      have sC := hC.fr2 hF (by omega) (by omega)
      have n01 := mNew_01 A C (trF A C).2.1 i
      have h2 := hN2 i
      have h3 := hN i (by omega)
      refine jw_iload (pc' := 128) jd_Merger_mergeTrees_126 rfl rfl ?_
      refine zx_bipush (pc' := 130) (n := 12) jd_Merger_mergeTrees_128 (by decide +kernel) rfl ?_
      refine zx_icmp_ge (tgt := 197) (pc' := 133) (by first | exact rg_iv _ _ _ | omega) (by first | exact rg_iv _ _ _ | omega) jd_Merger_mergeTrees_130 (by decide) rfl (fun q => ?_) (fun q => ?_)
      · exfalso; omega
      refine jw_aload_n (pc' := 134) jd_Merger_mergeTrees_133 rfl rfl rfl ?_
      refine jw_aload_n (pc' := 135) jd_Merger_mergeTrees_134 rfl rfl rfl ?_
      refine jw_aload_n (pc' := 136) jd_Merger_mergeTrees_135 rfl rfl rfl ?_
      refine jw_get (pc' := 139) (kf := 3) jc_Merger (by decide) jq_210 jd_Merger_mergeTrees_136 (mc_Merger _) rfl rfl ?_
      refine jw_iload (pc' := 141) jd_Merger_mergeTrees_139 rfl rfl ?_
      refine zx_callS0 (pc' := 144) hR (g_isNew sA sC hr i (by omega) (pw2 i)) jm_Merger_isNew jq_630 jd_Merger_mergeTrees_141 rfl rfl (Nat.le_of_ble_eq_true rfl) (by omega) (by decide) rfl rfl ?_
      refine zx_if_eq (tgt := 191) (pc' := 147) (by first | exact rg_iv _ _ _ | omega) jd_Merger_mergeTrees_144 (by decide) rfl (fun q2 => ?_) (fun q2 => ?_)
      · refine zx_iinc (pc' := 194) (lc' := [(0, _), (1, _), (2, _), (3, _), (4, _)]) jd_Merger_mergeTrees_191 rfl (Nat.le_of_ble_eq_true rfl) ⟨rfl, rfl, rfl, rfl, rfl, trivial⟩ rfl ?_
        refine jw_goto (tgt := 126) jd_Merger_mergeTrees_194 (by decide) ?_
        have e : mg3 A B C (mgB A B C).2 i M = M := by unfold mg3; rw [if_pos q2]
        rw [e] at he
        exact ih (i + 1) s M (by omega) hM hr hN hN2 hF he
      refine jw_aload_n (pc' := 148) jd_Merger_mergeTrees_147 rfl rfl rfl ?_
      refine jw_get (pc' := 151) (kf := 6) jc_Merger (by decide) jq_213 jd_Merger_mergeTrees_148 (mc_Merger _) rfl rfl ?_
      refine jw_iload (pc' := 153) jd_Merger_mergeTrees_151 rfl rfl ?_
      refine zx_zald (pc' := 154) jd_Merger_mergeTrees_153 (ml_Merger_newFromOurs _) rfl (by omega) (Nat.le_of_ble_eq_true rfl) rfl ?_
      refine zx_if_eq (tgt := 178) (pc' := 157) (by first | exact rg_iv _ _ _ | omega) jd_Merger_mergeTrees_154 (by decide) rfl (fun q3 => ?_) (fun q3 => ?_)
      · refine jw_aload_n (pc' := 179) jd_Merger_mergeTrees_178 rfl rfl rfl ?_
        refine jw_aload_n (pc' := 180) jd_Merger_mergeTrees_179 rfl rfl rfl ?_
        refine jw_iload (pc' := 182) jd_Merger_mergeTrees_180 rfl rfl ?_
        refine zx_callV0 (pc' := 185) hR (t_fileAt hC1 i (by omega)) jm_Tree_fileAt jq_582 jc_Tree jd_Merger_mergeTrees_182 (mc_Tree _ (by assumption)) rfl rfl (Nat.le_of_ble_eq_true rfl) (by omega) (by decide) rfl rfl ?_
        refine jw_iload (pc' := 187) jd_Merger_mergeTrees_185 rfl rfl ?_
        refine zx_callV (pc' := 190) hR (g_bring hM (sC.2 i (by omega)) (by unfold fA; omega) i (by omega)) jm_Merger_bring jq_584 jc_Merger jd_Merger_mergeTrees_187 (mc_Merger _) rfl rfl (Nat.le_of_ble_eq_true rfl) (by omega) (by decide) rfl (fun v9 s5 q9 => ?_)
        obtain ⟨rfl, g5, f5⟩ := q9
        refine jw_pop (pc' := 191) jd_Merger_mergeTrees_190 rfl rfl ?_
        refine zx_iinc (pc' := 194) (lc' := [(0, _), (1, _), (2, _), (3, _), (4, _)]) jd_Merger_mergeTrees_191 rfl (Nat.le_of_ble_eq_true rfl) ⟨rfl, rfl, rfl, rfl, rfl, trivial⟩ rfl ?_
        refine jw_goto (tgt := 126) jd_Merger_mergeTrees_194 (by decide) ?_
        have e : mg3 A B C (mgB A B C).2 i M = (mBring (C i) i M).2 := by unfold mg3; rw [if_neg q2, if_pos (by omega)]
        rw [e] at he
        exact ih (i + 1) s5 _ (by omega) g5 (by exact ⟨hr.1, fun q hq => (iv_cell (f5 _ (by omega) (by omega)) q).trans (hr.2.1 q hq), fun q hq => (iv_cell (f5 _ (by omega) (by omega)) q).trans (hr.2.2.1 q hq), (iv_cell (f5 _ (by omega) (by omega)) _).trans hr.2.2.2⟩) (fun q hq => (iv_cell (f5 _ (by omega) (by omega)) q).trans (hN q hq)) hN2 (big hF f5) he
      · refine jw_aload_n (pc' := 158) jd_Merger_mergeTrees_157 rfl rfl rfl ?_
        refine jw_aload_n (pc' := 159) jd_Merger_mergeTrees_158 rfl rfl rfl ?_
        refine jw_iload (pc' := 161) jd_Merger_mergeTrees_159 rfl rfl ?_
        refine zx_callV0 (pc' := 164) hR (t_fileAt hB1 i (by omega)) jm_Tree_fileAt jq_582 jc_Tree jd_Merger_mergeTrees_161 (mc_Tree _ (by assumption)) rfl rfl (Nat.le_of_ble_eq_true rfl) (by omega) (by decide) rfl rfl ?_
        refine jw_aload_n (pc' := 165) jd_Merger_mergeTrees_164 rfl rfl rfl ?_
        refine jw_iload (pc' := 167) jd_Merger_mergeTrees_165 rfl rfl ?_
        refine zx_callV0 (pc' := 170) hR (t_fileAt hC1 i (by omega)) jm_Tree_fileAt jq_582 jc_Tree jd_Merger_mergeTrees_167 (mc_Tree _ (by assumption)) rfl rfl (Nat.le_of_ble_eq_true rfl) (by omega) (by decide) rfl rfl ?_
        refine jw_iload (pc' := 172) jd_Merger_mergeTrees_170 rfl rfl ?_
        refine zx_callV (pc' := 175) hR (g_join hM (hn.fr2 hF (by omega) (by omega)) (sB.2 i (by omega)) (sC.2 i (by omega)) (by unfold fA; omega) (by unfold fA; omega) i (by omega)) jm_Merger_joinNew jq_637 jc_Merger jd_Merger_mergeTrees_172 (mc_Merger _) rfl rfl (Nat.le_of_ble_eq_true rfl) (by omega) (by decide) rfl (fun v9 s5 q9 => ?_)
        obtain ⟨rfl, g5, f5⟩ := q9
        refine jw_goto (tgt := 191) jd_Merger_mergeTrees_175 (by decide) ?_
        refine zx_iinc (pc' := 194) (lc' := [(0, _), (1, _), (2, _), (3, _), (4, _)]) jd_Merger_mergeTrees_191 rfl (Nat.le_of_ble_eq_true rfl) ⟨rfl, rfl, rfl, rfl, rfl, trivial⟩ rfl ?_
        refine jw_goto (tgt := 126) jd_Merger_mergeTrees_194 (by decide) ?_
        have e : mg3 A B C (mgB A B C).2 i M = mJoin (B i) (C i) i M := by unfold mg3; rw [if_neg q2, if_neg (by omega)]
        rw [e] at he
        exact ih (i + 1) s5 _ (by omega) g5 (by exact ⟨hr.1, fun q hq => (iv_cell (f5 _ (by omega) (by omega)) q).trans (hr.2.1 q hq), fun q hq => (iv_cell (f5 _ (by omega) (by omega)) q).trans (hr.2.2.1 q hq), (iv_cell (f5 _ (by omega) (by omega)) _).trans hr.2.2.2⟩) (fun q hq => (iv_cell (f5 _ (by omega) (by omega)) q).trans (hN q hq)) hN2 (big hF f5) he
  have loop2 : ∀ (m i : Nat) (s : zS) (u : zM × (Nat → Int)), i + m = 12 → MC o s u.1 → RC o s (zb o + 937) (trF A B) → RC o s (zb o + 944) (trF A C) → (∀ q, q < i → iv s (zb o + 968) q = u.2 q) → (∀ q, u.2 q = 0 ∨ u.2 q = 1) → zF2 σ s (zb o + 906) 60 (zb o + 968) 1 → it (mg2 A B) m i u = mgB A B C → jw_X mi_Merger_mergeTrees o k 0 0 69 [(0, .ref (zb o + 905)), (1, .ref t1), (2, .ref t2), (3, .ref t3), (4, .int (iI i))] [] (mm o s) hs := by
    intro m
    induction m with
    | zero =>
      intro i s u hi hM hr hr2 hN hN2 hF he
      have he : u = mgB A B C := he
      refine jw_iload (pc' := 71) jd_Merger_mergeTrees_69 rfl rfl ?_
      refine zx_bipush (pc' := 73) (n := 12) jd_Merger_mergeTrees_71 (by decide +kernel) rfl ?_
      refine zx_icmp_ge (tgt := 123) (pc' := 76) (by first | exact rg_iv _ _ _ | omega) (by first | exact rg_iv _ _ _ | omega) jd_Merger_mergeTrees_73 (by decide) rfl (fun q => ?_) (fun q => ?_)
      rotate_left
      · exfalso; omega
      refine zx_iconst (pc' := 124) (n := 0) jd_Merger_mergeTrees_123 rfl ?_
      refine jw_istore (pc' := 126) (lc' := [(0, _), (1, _), (2, _), (3, _), (4, _)]) jd_Merger_mergeTrees_124 (Nat.le_of_ble_eq_true rfl) ⟨rfl, rfl, rfl, rfl, rfl, trivial⟩ rfl ?_
      rw [he] at hM hN hN2
      exact loop3 12 0 s (mgB A B C).1 (by omega) hM hr2 (fun q hq => hN q (by omega)) hN2 hF rfl
    | succ m ih =>
      intro i s u hi hM hr hr2 hN hN2 hF he
      have he : it (mg2 A B) m (i + 1) (mg2 A B i u) = mgB A B C := he
      have sA := hA.fr2 hF (by omega) (by omega)
      have sB := hB.fr2 hF (by omega) (by omega)
      have n01 := mNew_01 A B (trF A B).2.1 i
      have b01 := mBring_01 (B i) i u.1
      have store : ∀ (s5 : zS) (x : Int) (M5 : zM), (x = 0 ∨ x = 1) → mg2 A B i u = (M5, fun q => if q = i then x else u.2 q) → MC o s5 M5 → zF2 s s5 (zb o + 906) 31 (zb o + 951) 15 → jw_X mi_Merger_mergeTrees o k 0 0 116 [(0, .ref (zb o + 905)), (1, .ref t1), (2, .ref t2), (3, .ref t3), (4, .int (iI i))] [.int (iI x), .int (iI i), .ref (zb o + 968)] (mm o s5) hs := by
        intro s5 x M5 hx e g5 f5
        rw [e] at he
        refine zx_zast (pc' := 117) (by first | exact Or.inl rfl | exact Or.inr rfl | assumption | omega) jd_Merger_mergeTrees_116 (ml_Merger_newFromOurs _) rfl (by omega) (Nat.le_of_ble_eq_true rfl) rfl ?_
        refine zx_iinc (pc' := 120) (lc' := [(0, _), (1, _), (2, _), (3, _), (4, _)]) jd_Merger_mergeTrees_117 rfl (Nat.le_of_ble_eq_true rfl) ⟨rfl, rfl, rfl, rfl, rfl, trivial⟩ rfl ?_
        refine jw_goto (tgt := 69) jd_Merger_mergeTrees_120 (by decide) ?_
        refine ih (i + 1) _ (M5, fun q => if q = i then x else u.2 q) (by omega) ⟨g5.1.fr (zF.rf.si (a := zb o + 968) (n := 1) (b := zb o + 968) (by omega)) (by omega), g5.2.fr (zF.rf.si (a := zb o + 968) (n := 1) (b := zb o + 968) (by omega)) (by omega)⟩ ?_ ?_ (fun q hq => ?_) (fun q => ?_) ((big hF f5).tr (zF.rf.si (a := zb o + 968) (n := 1) (b := zb o + 968) (by omega)) (by omega) (by omega)) he
        · exact ⟨hr.1, fun q hq => (iv_cell ((si_ne (by omega)).trans (f5 _ (by omega) (by omega))) q).trans (hr.2.1 q hq), fun q hq => (iv_cell ((si_ne (by omega)).trans (f5 _ (by omega) (by omega))) q).trans (hr.2.2.1 q hq), (iv_cell ((si_ne (by omega)).trans (f5 _ (by omega) (by omega))) _).trans hr.2.2.2⟩
        · exact ⟨hr2.1, fun q hq => (iv_cell ((si_ne (by omega)).trans (f5 _ (by omega) (by omega))) q).trans (hr2.2.1 q hq), fun q hq => (iv_cell ((si_ne (by omega)).trans (f5 _ (by omega) (by omega))) q).trans (hr2.2.2.1 q hq), (iv_cell ((si_ne (by omega)).trans (f5 _ (by omega) (by omega))) _).trans hr2.2.2.2⟩
        · rw [iv_si (by omega)]
          by_cases q9 : q = i
          · rw [if_pos ⟨rfl, q9⟩]; dsimp only; rw [if_pos q9]
          · rw [if_neg (fun z => q9 z.2)]; dsimp only; rw [if_neg q9, iv_cell (f5 _ (by omega) (by omega))]; exact hN q (by omega)
        · dsimp only
          split
          · exact hx
          · exact hN2 q
      refine jw_iload (pc' := 71) jd_Merger_mergeTrees_69 rfl rfl ?_
      refine zx_bipush (pc' := 73) (n := 12) jd_Merger_mergeTrees_71 (by decide +kernel) rfl ?_
      refine zx_icmp_ge (tgt := 123) (pc' := 76) (by first | exact rg_iv _ _ _ | omega) (by first | exact rg_iv _ _ _ | omega) jd_Merger_mergeTrees_73 (by decide) rfl (fun q => ?_) (fun q => ?_)
      · exfalso; omega
      refine jw_aload_n (pc' := 77) jd_Merger_mergeTrees_76 rfl rfl rfl ?_
      refine jw_get (pc' := 80) (kf := 6) jc_Merger (by decide) jq_213 jd_Merger_mergeTrees_77 (mc_Merger _) rfl rfl ?_
      refine jw_iload (pc' := 82) jd_Merger_mergeTrees_80 rfl rfl ?_
      refine jw_aload_n (pc' := 83) jd_Merger_mergeTrees_82 rfl rfl rfl ?_
      refine jw_aload_n (pc' := 84) jd_Merger_mergeTrees_83 rfl rfl rfl ?_
      refine jw_aload_n (pc' := 85) jd_Merger_mergeTrees_84 rfl rfl rfl ?_
      refine jw_get (pc' := 88) (kf := 2) jc_Merger (by decide) jq_209 jd_Merger_mergeTrees_85 (mc_Merger _) rfl rfl ?_
      refine jw_iload (pc' := 90) jd_Merger_mergeTrees_88 rfl rfl ?_
      refine zx_callS0 (pc' := 93) hR (g_isNew sA sB hr i (by omega) (pu2 i)) jm_Merger_isNew jq_630 jd_Merger_mergeTrees_90 rfl rfl (Nat.le_of_ble_eq_true rfl) (by omega) (by decide) rfl rfl ?_
      refine zx_if_eq (tgt := 115) (pc' := 96) (by first | exact rg_iv _ _ _ | omega) jd_Merger_mergeTrees_93 (by decide) rfl (fun q2 => ?_) (fun q2 => ?_)
      · refine zx_iconst (pc' := 116) (n := 0) jd_Merger_mergeTrees_115 rfl ?_
        exact store s 0 u.1 (Or.inl rfl) (by unfold mg2; rw [if_pos q2]) hM (fun _ _ _ => rfl)
      have e : mg2 A B i u = ((mBring (B i) i u.1).2, fun q => if q = i then (mBring (B i) i u.1).1 else u.2 q) := by unfold mg2; rw [if_neg q2]
      refine jw_aload_n (pc' := 97) jd_Merger_mergeTrees_96 rfl rfl rfl ?_
      refine jw_aload_n (pc' := 98) jd_Merger_mergeTrees_97 rfl rfl rfl ?_
      refine jw_iload (pc' := 100) jd_Merger_mergeTrees_98 rfl rfl ?_
      refine zx_callV0 (pc' := 103) hR (t_fileAt hB1 i (by omega)) jm_Tree_fileAt jq_582 jc_Tree jd_Merger_mergeTrees_100 (mc_Tree _ (by assumption)) rfl rfl (Nat.le_of_ble_eq_true rfl) (by omega) (by decide) rfl rfl ?_
      refine jw_iload (pc' := 105) jd_Merger_mergeTrees_103 rfl rfl ?_
      refine zx_callV (pc' := 108) hR (g_bring hM (sB.2 i (by omega)) (by unfold fA; omega) i (by omega)) jm_Merger_bring jq_584 jc_Merger jd_Merger_mergeTrees_105 (mc_Merger _) rfl rfl (Nat.le_of_ble_eq_true rfl) (by omega) (by decide) rfl (fun v9 s5 q9 => ?_)
      obtain ⟨rfl, g5, f5⟩ := q9
      refine zx_if_eq (tgt := 115) (pc' := 111) (by first | exact rg_iv _ _ _ | omega) jd_Merger_mergeTrees_108 (by decide) rfl (fun q3 => ?_) (fun q3 => ?_)
      · refine zx_iconst (pc' := 116) (n := 0) jd_Merger_mergeTrees_115 rfl ?_
        rw [q3] at e
        exact store s5 0 _ (Or.inl rfl) e g5 f5
      · refine zx_iconst (pc' := 112) (n := 1) jd_Merger_mergeTrees_111 rfl ?_
        refine jw_goto (tgt := 116) jd_Merger_mergeTrees_112 (by decide) ?_
        rw [show (mBring (B i) i u.1).1 = 1 by omega] at e
        exact store s5 1 _ (Or.inr rfl) e g5 f5
  have loop1 : ∀ (m i : Nat) (s : zS) (M : zM), i + m = 12 → MC o s M → RC o s (zb o + 937) (trF A B) → RC o s (zb o + 944) (trF A C) → zF2 σ s (zb o + 906) 60 (zb o + 968) 1 → it (mg1 A B C) m i M = mgA A B C → jw_X mi_Merger_mergeTrees o k 0 0 35 [(0, .ref (zb o + 905)), (1, .ref t1), (2, .ref t2), (3, .ref t3), (4, .int (iI i))] [] (mm o s) hs := by
    intro m
    induction m with
    | zero =>
      intro i s M hi hM hr hr2 hF he
      have he : M = mgA A B C := he
      refine jw_iload (pc' := 37) jd_Merger_mergeTrees_35 rfl rfl ?_
      refine zx_bipush (pc' := 39) (n := 12) jd_Merger_mergeTrees_37 (by decide +kernel) rfl ?_
      refine zx_icmp_ge (tgt := 66) (pc' := 42) (by first | exact rg_iv _ _ _ | omega) (by first | exact rg_iv _ _ _ | omega) jd_Merger_mergeTrees_39 (by decide) rfl (fun q => ?_) (fun q => ?_)
      rotate_left
      · exfalso; omega
      refine zx_iconst (pc' := 67) (n := 0) jd_Merger_mergeTrees_66 rfl ?_
      refine jw_istore (pc' := 69) (lc' := [(0, _), (1, _), (2, _), (3, _), (4, _)]) jd_Merger_mergeTrees_67 (Nat.le_of_ble_eq_true rfl) ⟨rfl, rfl, rfl, rfl, rfl, trivial⟩ rfl ?_
      rw [he] at hM
      exact loop2 12 0 s (mgA A B C, fun _ => 0) (by omega) hM hr hr2 (fun q hq => absurd hq (by omega)) (fun q => Or.inl rfl) hF rfl
    | succ m ih =>
      intro i s M hi hM hr hr2 hF he
      have he : it (mg1 A B C) m (i + 1) (mg1 A B C i M) = mgA A B C := he
      have sA := hA.fr2 hF (by omega) (by omega)
      have sB := hB.fr2 hF (by omega) (by omega)
      have sC := hC.fr2 hF (by omega) (by omega)
      have o1 := (okA i (by omega)).p
      refine jw_iload (pc' := 37) jd_Merger_mergeTrees_35 rfl rfl ?_
      refine zx_bipush (pc' := 39) (n := 12) jd_Merger_mergeTrees_37 (by decide +kernel) rfl ?_
      refine zx_icmp_ge (tgt := 66) (pc' := 42) (by first | exact rg_iv _ _ _ | omega) (by first | exact rg_iv _ _ _ | omega) jd_Merger_mergeTrees_39 (by decide) rfl (fun q => ?_) (fun q => ?_)
      · exfalso; omega
      refine jw_aload_n (pc' := 43) jd_Merger_mergeTrees_42 rfl rfl rfl ?_
      refine jw_iload (pc' := 45) jd_Merger_mergeTrees_43 rfl rfl ?_
      refine zx_callV0 (pc' := 48) hR (t_has sA i (by omega)) jm_Tree_has jq_569 jc_Tree jd_Merger_mergeTrees_45 (mc_Tree _ (by assumption)) rfl rfl (Nat.le_of_ble_eq_true rfl) (by omega) (by decide) rfl rfl ?_
      refine zx_if_eq (tgt := 60) (pc' := 51) (by first | exact rg_iv _ _ _ | omega) jd_Merger_mergeTrees_48 (by decide) rfl (fun q2 => ?_) (fun q2 => ?_)
      · refine zx_iinc (pc' := 63) (lc' := [(0, _), (1, _), (2, _), (3, _), (4, _)]) jd_Merger_mergeTrees_60 rfl (Nat.le_of_ble_eq_true rfl) ⟨rfl, rfl, rfl, rfl, rfl, trivial⟩ rfl ?_
        refine jw_goto (tgt := 35) jd_Merger_mergeTrees_63 (by decide) ?_
        have e : mg1 A B C i M = M := by unfold mg1; rw [if_pos q2]
        rw [e] at he
        exact ih (i + 1) s M (by omega) hM hr hr2 hF he
      · refine jw_aload_n (pc' := 52) jd_Merger_mergeTrees_51 rfl rfl rfl ?_
        refine jw_aload_n (pc' := 53) jd_Merger_mergeTrees_52 rfl rfl rfl ?_
        refine jw_aload_n (pc' := 54) jd_Merger_mergeTrees_53 rfl rfl rfl ?_
        refine jw_aload_n (pc' := 55) jd_Merger_mergeTrees_54 rfl rfl rfl ?_
        refine jw_iload (pc' := 57) jd_Merger_mergeTrees_55 rfl rfl ?_
        refine zx_callV (pc' := 60) hR (g_file hM hr hr2 pu1 pw1 sA sB sC d1 d2 d3 i (by omega)) jm_Merger_mergeFile jq_570 jc_Merger jd_Merger_mergeTrees_57 (mc_Merger _) rfl rfl (Nat.le_of_ble_eq_true rfl) (by omega) (by decide) rfl (fun v9 s5 q9 => ?_)
        obtain ⟨rfl, g5, f5⟩ := q9
        refine zx_iinc (pc' := 63) (lc' := [(0, _), (1, _), (2, _), (3, _), (4, _)]) jd_Merger_mergeTrees_60 rfl (Nat.le_of_ble_eq_true rfl) ⟨rfl, rfl, rfl, rfl, rfl, trivial⟩ rfl ?_
        refine jw_goto (tgt := 35) jd_Merger_mergeTrees_63 (by decide) ?_
        have e : mg1 A B C i M = mFile A B C (trF A B).1 (trF A C).1 i M := by unfold mg1; rw [if_neg q2]
        rw [e] at he
        refine ih (i + 1) s5 _ (by omega) g5 ?_ ?_ (big hF f5) he
        · exact ⟨hr.1, fun q hq => (iv_cell (f5 _ (by omega) (by omega)) q).trans (hr.2.1 q hq), fun q hq => (iv_cell (f5 _ (by omega) (by omega)) q).trans (hr.2.2.1 q hq), (iv_cell (f5 _ (by omega) (by omega)) _).trans hr.2.2.2⟩
        · exact ⟨hr2.1, fun q hq => (iv_cell (f5 _ (by omega) (by omega)) q).trans (hr2.2.1 q hq), fun q hq => (iv_cell (f5 _ (by omega) (by omega)) q).trans (hr2.2.2.1 q hq), (iv_cell (f5 _ (by omega) (by omega)) _).trans hr2.2.2.2⟩
  refine loop1 12 0 s4 (fun _ => v0, (0, fun _ => (0, 0))) (by omega) ⟨((g1.fr f2 (by omega)).fr f3 (by omega)).fr f4 (by omega), (g2.fr f3 (by omega)).fr f4 (by omega)⟩ (g3.fr f4 (by omega)) g4 F4 rfl
end
