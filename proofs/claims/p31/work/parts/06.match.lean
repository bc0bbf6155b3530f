theorem jd_Match_measure_0 : decode mi_Match_measure.2.1 0 = .ok (.aload_n 0, 1) := by decide +kernel
theorem jd_Match_measure_1 : decode mi_Match_measure.2.1 1 = .ok (.getfield 11, 3) := by decide +kernel
theorem jd_Match_measure_4 : decode mi_Match_measure.2.1 4 = .ok (.iconst 0, 1) := by decide +kernel
theorem jd_Match_measure_5 : decode mi_Match_measure.2.1 5 = .ok (.invokestatic 31, 3) := by decide +kernel
theorem jd_Match_measure_8 : decode mi_Match_measure.2.1 8 = .ok (.aload_n 1, 1) := by decide +kernel
theorem jd_Match_measure_9 : decode mi_Match_measure.2.1 9 = .ok (.invokevirtual 21, 3) := by decide +kernel
theorem jd_Match_measure_12 : decode mi_Match_measure.2.1 12 = .ok (.iconst 1, 1) := by decide +kernel
theorem jd_Match_measure_13 : decode mi_Match_measure.2.1 13 = .ok (.isub, 1) := by decide +kernel
theorem jd_Match_measure_14 : decode mi_Match_measure.2.1 14 = .ok (.istore_n 3, 1) := by decide +kernel
theorem jd_Match_measure_15 : decode mi_Match_measure.2.1 15 = .ok (.iload_n 3, 1) := by decide +kernel
theorem jd_Match_measure_16 : decode mi_Match_measure.2.1 16 = .ok (.ifCond .lt 108, 3) := by decide +kernel
theorem jd_Match_measure_19 : decode mi_Match_measure.2.1 19 = .ok (.aload_n 1, 1) := by decide +kernel
theorem jd_Match_measure_20 : decode mi_Match_measure.2.1 20 = .ok (.iload_n 3, 1) := by decide +kernel
theorem jd_Match_measure_21 : decode mi_Match_measure.2.1 21 = .ok (.invokevirtual 37, 3) := by decide +kernel
theorem jd_Match_measure_24 : decode mi_Match_measure.2.1 24 = .ok (.istore 4, 2) := by decide +kernel
theorem jd_Match_measure_26 : decode mi_Match_measure.2.1 26 = .ok (.aload_n 2, 1) := by decide +kernel
theorem jd_Match_measure_27 : decode mi_Match_measure.2.1 27 = .ok (.invokevirtual 21, 3) := by decide +kernel
theorem jd_Match_measure_30 : decode mi_Match_measure.2.1 30 = .ok (.iconst 1, 1) := by decide +kernel
theorem jd_Match_measure_31 : decode mi_Match_measure.2.1 31 = .ok (.isub, 1) := by decide +kernel
theorem jd_Match_measure_32 : decode mi_Match_measure.2.1 32 = .ok (.istore 5, 2) := by decide +kernel
theorem jd_Match_measure_34 : decode mi_Match_measure.2.1 34 = .ok (.iload 5, 2) := by decide +kernel
theorem jd_Match_measure_36 : decode mi_Match_measure.2.1 36 = .ok (.ifCond .lt 82, 3) := by decide +kernel
theorem jd_Match_measure_39 : decode mi_Match_measure.2.1 39 = .ok (.iload_n 3, 1) := by decide +kernel
theorem jd_Match_measure_40 : decode mi_Match_measure.2.1 40 = .ok (.bipush 11, 2) := by decide +kernel
theorem jd_Match_measure_42 : decode mi_Match_measure.2.1 42 = .ok (.imul, 1) := by decide +kernel
theorem jd_Match_measure_43 : decode mi_Match_measure.2.1 43 = .ok (.iload 5, 2) := by decide +kernel
theorem jd_Match_measure_45 : decode mi_Match_measure.2.1 45 = .ok (.iadd, 1) := by decide +kernel
theorem jd_Match_measure_46 : decode mi_Match_measure.2.1 46 = .ok (.istore 6, 2) := by decide +kernel
theorem jd_Match_measure_48 : decode mi_Match_measure.2.1 48 = .ok (.iload 4, 2) := by decide +kernel
theorem jd_Match_measure_50 : decode mi_Match_measure.2.1 50 = .ok (.aload_n 2, 1) := by decide +kernel
theorem jd_Match_measure_51 : decode mi_Match_measure.2.1 51 = .ok (.iload 5, 2) := by decide +kernel
theorem jd_Match_measure_53 : decode mi_Match_measure.2.1 53 = .ok (.invokevirtual 37, 3) := by decide +kernel
theorem jd_Match_measure_56 : decode mi_Match_measure.2.1 56 = .ok (.if_icmp .ne 27, 3) := by decide +kernel
theorem jd_Match_measure_59 : decode mi_Match_measure.2.1 59 = .ok (.aload_n 0, 1) := by decide +kernel
theorem jd_Match_measure_60 : decode mi_Match_measure.2.1 60 = .ok (.getfield 11, 3) := by decide +kernel
theorem jd_Match_measure_63 : decode mi_Match_measure.2.1 63 = .ok (.iload 6, 2) := by decide +kernel
theorem jd_Match_measure_65 : decode mi_Match_measure.2.1 65 = .ok (.aload_n 0, 1) := by decide +kernel
theorem jd_Match_measure_66 : decode mi_Match_measure.2.1 66 = .ok (.getfield 11, 3) := by decide +kernel
theorem jd_Match_measure_69 : decode mi_Match_measure.2.1 69 = .ok (.iload 6, 2) := by decide +kernel
theorem jd_Match_measure_71 : decode mi_Match_measure.2.1 71 = .ok (.bipush 11, 2) := by decide +kernel
theorem jd_Match_measure_73 : decode mi_Match_measure.2.1 73 = .ok (.iadd, 1) := by decide +kernel
theorem jd_Match_measure_74 : decode mi_Match_measure.2.1 74 = .ok (.iconst 1, 1) := by decide +kernel
theorem jd_Match_measure_75 : decode mi_Match_measure.2.1 75 = .ok (.iadd, 1) := by decide +kernel
theorem jd_Match_measure_76 : decode mi_Match_measure.2.1 76 = .ok (.iaload, 1) := by decide +kernel
theorem jd_Match_measure_77 : decode mi_Match_measure.2.1 77 = .ok (.iconst 1, 1) := by decide +kernel
theorem jd_Match_measure_78 : decode mi_Match_measure.2.1 78 = .ok (.iadd, 1) := by decide +kernel
theorem jd_Match_measure_79 : decode mi_Match_measure.2.1 79 = .ok (.iastore, 1) := by decide +kernel
theorem jd_Match_measure_80 : decode mi_Match_measure.2.1 80 = .ok (.goto 32, 3) := by decide +kernel
theorem jd_Match_measure_83 : decode mi_Match_measure.2.1 83 = .ok (.aload_n 0, 1) := by decide +kernel
theorem jd_Match_measure_84 : decode mi_Match_measure.2.1 84 = .ok (.getfield 11, 3) := by decide +kernel
theorem jd_Match_measure_87 : decode mi_Match_measure.2.1 87 = .ok (.iload 6, 2) := by decide +kernel
theorem jd_Match_measure_89 : decode mi_Match_measure.2.1 89 = .ok (.aload_n 0, 1) := by decide +kernel
theorem jd_Match_measure_90 : decode mi_Match_measure.2.1 90 = .ok (.getfield 11, 3) := by decide +kernel
theorem jd_Match_measure_93 : decode mi_Match_measure.2.1 93 = .ok (.iload 6, 2) := by decide +kernel
theorem jd_Match_measure_95 : decode mi_Match_measure.2.1 95 = .ok (.bipush 11, 2) := by decide +kernel
theorem jd_Match_measure_97 : decode mi_Match_measure.2.1 97 = .ok (.iadd, 1) := by decide +kernel
theorem jd_Match_measure_98 : decode mi_Match_measure.2.1 98 = .ok (.iaload, 1) := by decide +kernel
theorem jd_Match_measure_99 : decode mi_Match_measure.2.1 99 = .ok (.aload_n 0, 1) := by decide +kernel
theorem jd_Match_measure_100 : decode mi_Match_measure.2.1 100 = .ok (.getfield 11, 3) := by decide +kernel
theorem jd_Match_measure_103 : decode mi_Match_measure.2.1 103 = .ok (.iload 6, 2) := by decide +kernel
theorem jd_Match_measure_105 : decode mi_Match_measure.2.1 105 = .ok (.iconst 1, 1) := by decide +kernel
theorem jd_Match_measure_106 : decode mi_Match_measure.2.1 106 = .ok (.iadd, 1) := by decide +kernel
theorem jd_Match_measure_107 : decode mi_Match_measure.2.1 107 = .ok (.iaload, 1) := by decide +kernel
theorem jd_Match_measure_108 : decode mi_Match_measure.2.1 108 = .ok (.invokestatic 41, 3) := by decide +kernel
theorem jd_Match_measure_111 : decode mi_Match_measure.2.1 111 = .ok (.iastore, 1) := by decide +kernel
theorem jd_Match_measure_112 : decode mi_Match_measure.2.1 112 = .ok (.iinc 5 (-1), 3) := by decide +kernel
theorem jd_Match_measure_115 : decode mi_Match_measure.2.1 115 = .ok (.goto (-81), 3) := by decide +kernel
theorem jd_Match_measure_118 : decode mi_Match_measure.2.1 118 = .ok (.iinc 3 (-1), 3) := by decide +kernel
theorem jd_Match_measure_121 : decode mi_Match_measure.2.1 121 = .ok (.goto (-106), 3) := by decide +kernel
theorem jd_Match_measure_124 : decode mi_Match_measure.2.1 124 = .ok (.return_, 1) := by decide +kernel
theorem jd_Match_nearnessOf_0 : decode mi_Match_nearnessOf.2.1 0 = .ok (.aload_n 1, 1) := by decide +kernel
theorem jd_Match_nearnessOf_1 : decode mi_Match_nearnessOf.2.1 1 = .ok (.invokevirtual 21, 3) := by decide +kernel
theorem jd_Match_nearnessOf_4 : decode mi_Match_nearnessOf.2.1 4 = .ok (.aload_n 2, 1) := by decide +kernel
theorem jd_Match_nearnessOf_5 : decode mi_Match_nearnessOf.2.1 5 = .ok (.invokevirtual 21, 3) := by decide +kernel
theorem jd_Match_nearnessOf_8 : decode mi_Match_nearnessOf.2.1 8 = .ok (.iadd, 1) := by decide +kernel
theorem jd_Match_nearnessOf_9 : decode mi_Match_nearnessOf.2.1 9 = .ok (.istore_n 3, 1) := by decide +kernel
theorem jd_Match_nearnessOf_10 : decode mi_Match_nearnessOf.2.1 10 = .ok (.iload_n 3, 1) := by decide +kernel
theorem jd_Match_nearnessOf_11 : decode mi_Match_nearnessOf.2.1 11 = .ok (.ifCond .gt 6, 3) := by decide +kernel
theorem jd_Match_nearnessOf_14 : decode mi_Match_nearnessOf.2.1 14 = .ok (.bipush 100, 2) := by decide +kernel
theorem jd_Match_nearnessOf_16 : decode mi_Match_nearnessOf.2.1 16 = .ok (.ireturn, 1) := by decide +kernel
theorem jd_Match_nearnessOf_17 : decode mi_Match_nearnessOf.2.1 17 = .ok (.aload_n 0, 1) := by decide +kernel
theorem jd_Match_nearnessOf_18 : decode mi_Match_nearnessOf.2.1 18 = .ok (.aload_n 1, 1) := by decide +kernel
theorem jd_Match_nearnessOf_19 : decode mi_Match_nearnessOf.2.1 19 = .ok (.aload_n 2, 1) := by decide +kernel
theorem jd_Match_nearnessOf_20 : decode mi_Match_nearnessOf.2.1 20 = .ok (.invokevirtual 27, 3) := by decide +kernel
theorem jd_Match_nearnessOf_23 : decode mi_Match_nearnessOf.2.1 23 = .ok (.sipush 200, 3) := by decide +kernel
theorem jd_Match_nearnessOf_26 : decode mi_Match_nearnessOf.2.1 26 = .ok (.aload_n 0, 1) := by decide +kernel
theorem jd_Match_nearnessOf_27 : decode mi_Match_nearnessOf.2.1 27 = .ok (.getfield 11, 3) := by decide +kernel
theorem jd_Match_nearnessOf_30 : decode mi_Match_nearnessOf.2.1 30 = .ok (.iconst 0, 1) := by decide +kernel
theorem jd_Match_nearnessOf_31 : decode mi_Match_nearnessOf.2.1 31 = .ok (.iaload, 1) := by decide +kernel
theorem jd_Match_nearnessOf_32 : decode mi_Match_nearnessOf.2.1 32 = .ok (.imul, 1) := by decide +kernel
theorem jd_Match_nearnessOf_33 : decode mi_Match_nearnessOf.2.1 33 = .ok (.iload_n 3, 1) := by decide +kernel
theorem jd_Match_nearnessOf_34 : decode mi_Match_nearnessOf.2.1 34 = .ok (.idiv, 1) := by decide +kernel
theorem jd_Match_nearnessOf_35 : decode mi_Match_nearnessOf.2.1 35 = .ok (.ireturn, 1) := by decide +kernel
theorem jd_Match_partnerInB_0 : decode mi_Match_partnerInB.2.1 0 = .ok (.iload_n 1, 1) := by decide +kernel
theorem jd_Match_partnerInB_1 : decode mi_Match_partnerInB.2.1 1 = .ok (.ifCond .lt 18, 3) := by decide +kernel
theorem jd_Match_partnerInB_4 : decode mi_Match_partnerInB.2.1 4 = .ok (.iload_n 1, 1) := by decide +kernel
theorem jd_Match_partnerInB_5 : decode mi_Match_partnerInB.2.1 5 = .ok (.bipush 10, 2) := by decide +kernel
theorem jd_Match_partnerInB_7 : decode mi_Match_partnerInB.2.1 7 = .ok (.if_icmp .ge 12, 3) := by decide +kernel
theorem jd_Match_partnerInB_10 : decode mi_Match_partnerInB.2.1 10 = .ok (.aload_n 0, 1) := by decide +kernel
theorem jd_Match_partnerInB_11 : decode mi_Match_partnerInB.2.1 11 = .ok (.getfield 15, 3) := by decide +kernel
theorem jd_Match_partnerInB_14 : decode mi_Match_partnerInB.2.1 14 = .ok (.iload_n 1, 1) := by decide +kernel
theorem jd_Match_partnerInB_15 : decode mi_Match_partnerInB.2.1 15 = .ok (.iaload, 1) := by decide +kernel
theorem jd_Match_partnerInB_16 : decode mi_Match_partnerInB.2.1 16 = .ok (.goto 4, 3) := by decide +kernel
theorem jd_Match_partnerInB_19 : decode mi_Match_partnerInB.2.1 19 = .ok (.iconst (-1), 1) := by decide +kernel
theorem jd_Match_partnerInB_20 : decode mi_Match_partnerInB.2.1 20 = .ok (.ireturn, 1) := by decide +kernel
theorem jd_Match_partnerInA_0 : decode mi_Match_partnerInA.2.1 0 = .ok (.iload_n 1, 1) := by decide +kernel
theorem jd_Match_partnerInA_1 : decode mi_Match_partnerInA.2.1 1 = .ok (.ifCond .lt 18, 3) := by decide +kernel
theorem jd_Match_partnerInA_4 : decode mi_Match_partnerInA.2.1 4 = .ok (.iload_n 1, 1) := by decide +kernel
theorem jd_Match_partnerInA_5 : decode mi_Match_partnerInA.2.1 5 = .ok (.bipush 10, 2) := by decide +kernel
theorem jd_Match_partnerInA_7 : decode mi_Match_partnerInA.2.1 7 = .ok (.if_icmp .ge 12, 3) := by decide +kernel
theorem jd_Match_partnerInA_10 : decode mi_Match_partnerInA.2.1 10 = .ok (.aload_n 0, 1) := by decide +kernel
theorem jd_Match_partnerInA_11 : decode mi_Match_partnerInA.2.1 11 = .ok (.getfield 18, 3) := by decide +kernel
theorem jd_Match_partnerInA_14 : decode mi_Match_partnerInA.2.1 14 = .ok (.iload_n 1, 1) := by decide +kernel
theorem jd_Match_partnerInA_15 : decode mi_Match_partnerInA.2.1 15 = .ok (.iaload, 1) := by decide +kernel
theorem jd_Match_partnerInA_16 : decode mi_Match_partnerInA.2.1 16 = .ok (.goto 4, 3) := by decide +kernel
theorem jd_Match_partnerInA_19 : decode mi_Match_partnerInA.2.1 19 = .ok (.iconst (-1), 1) := by decide +kernel
theorem jd_Match_partnerInA_20 : decode mi_Match_partnerInA.2.1 20 = .ok (.ireturn, 1) := by decide +kernel
theorem jd_Match_pairUp_0 : decode mi_Match_pairUp.2.1 0 = .ok (.aload_n 0, 1) := by decide +kernel
theorem jd_Match_pairUp_1 : decode mi_Match_pairUp.2.1 1 = .ok (.aload_n 1, 1) := by decide +kernel
theorem jd_Match_pairUp_2 : decode mi_Match_pairUp.2.1 2 = .ok (.aload_n 2, 1) := by decide +kernel
theorem jd_Match_pairUp_3 : decode mi_Match_pairUp.2.1 3 = .ok (.invokevirtual 27, 3) := by decide +kernel
theorem jd_Match_pairUp_6 : decode mi_Match_pairUp.2.1 6 = .ok (.aload_n 0, 1) := by decide +kernel
theorem jd_Match_pairUp_7 : decode mi_Match_pairUp.2.1 7 = .ok (.getfield 18, 3) := by decide +kernel
theorem jd_Match_pairUp_10 : decode mi_Match_pairUp.2.1 10 = .ok (.iconst (-1), 1) := by decide +kernel
theorem jd_Match_pairUp_11 : decode mi_Match_pairUp.2.1 11 = .ok (.invokestatic 31, 3) := by decide +kernel
theorem jd_Match_pairUp_14 : decode mi_Match_pairUp.2.1 14 = .ok (.aload_n 0, 1) := by decide +kernel
theorem jd_Match_pairUp_15 : decode mi_Match_pairUp.2.1 15 = .ok (.getfield 15, 3) := by decide +kernel
theorem jd_Match_pairUp_18 : decode mi_Match_pairUp.2.1 18 = .ok (.iconst (-1), 1) := by decide +kernel
theorem jd_Match_pairUp_19 : decode mi_Match_pairUp.2.1 19 = .ok (.invokestatic 31, 3) := by decide +kernel
theorem jd_Match_pairUp_22 : decode mi_Match_pairUp.2.1 22 = .ok (.iconst 0, 1) := by decide +kernel
theorem jd_Match_pairUp_23 : decode mi_Match_pairUp.2.1 23 = .ok (.istore_n 3, 1) := by decide +kernel
theorem jd_Match_pairUp_24 : decode mi_Match_pairUp.2.1 24 = .ok (.iconst 0, 1) := by decide +kernel
theorem jd_Match_pairUp_25 : decode mi_Match_pairUp.2.1 25 = .ok (.istore 4, 2) := by decide +kernel
theorem jd_Match_pairUp_27 : decode mi_Match_pairUp.2.1 27 = .ok (.iload_n 3, 1) := by decide +kernel
theorem jd_Match_pairUp_28 : decode mi_Match_pairUp.2.1 28 = .ok (.aload_n 1, 1) := by decide +kernel
theorem jd_Match_pairUp_29 : decode mi_Match_pairUp.2.1 29 = .ok (.invokevirtual 21, 3) := by decide +kernel
theorem jd_Match_pairUp_32 : decode mi_Match_pairUp.2.1 32 = .ok (.if_icmp .ge 94, 3) := by decide +kernel
theorem jd_Match_pairUp_35 : decode mi_Match_pairUp.2.1 35 = .ok (.iload 4, 2) := by decide +kernel
theorem jd_Match_pairUp_37 : decode mi_Match_pairUp.2.1 37 = .ok (.aload_n 2, 1) := by decide +kernel
theorem jd_Match_pairUp_38 : decode mi_Match_pairUp.2.1 38 = .ok (.invokevirtual 21, 3) := by decide +kernel
theorem jd_Match_pairUp_41 : decode mi_Match_pairUp.2.1 41 = .ok (.if_icmp .ge 85, 3) := by decide +kernel
theorem jd_Match_pairUp_44 : decode mi_Match_pairUp.2.1 44 = .ok (.aload_n 1, 1) := by decide +kernel
theorem jd_Match_pairUp_45 : decode mi_Match_pairUp.2.1 45 = .ok (.iload_n 3, 1) := by decide +kernel
theorem jd_Match_pairUp_46 : decode mi_Match_pairUp.2.1 46 = .ok (.invokevirtual 37, 3) := by decide +kernel
theorem jd_Match_pairUp_49 : decode mi_Match_pairUp.2.1 49 = .ok (.aload_n 2, 1) := by decide +kernel
theorem jd_Match_pairUp_50 : decode mi_Match_pairUp.2.1 50 = .ok (.iload 4, 2) := by decide +kernel
theorem jd_Match_pairUp_52 : decode mi_Match_pairUp.2.1 52 = .ok (.invokevirtual 37, 3) := by decide +kernel
theorem jd_Match_pairUp_55 : decode mi_Match_pairUp.2.1 55 = .ok (.if_icmp .ne 28, 3) := by decide +kernel
theorem jd_Match_pairUp_58 : decode mi_Match_pairUp.2.1 58 = .ok (.aload_n 0, 1) := by decide +kernel
theorem jd_Match_pairUp_59 : decode mi_Match_pairUp.2.1 59 = .ok (.getfield 15, 3) := by decide +kernel
theorem jd_Match_pairUp_62 : decode mi_Match_pairUp.2.1 62 = .ok (.iload_n 3, 1) := by decide +kernel
theorem jd_Match_pairUp_63 : decode mi_Match_pairUp.2.1 63 = .ok (.iload 4, 2) := by decide +kernel
theorem jd_Match_pairUp_65 : decode mi_Match_pairUp.2.1 65 = .ok (.iastore, 1) := by decide +kernel
theorem jd_Match_pairUp_66 : decode mi_Match_pairUp.2.1 66 = .ok (.aload_n 0, 1) := by decide +kernel
theorem jd_Match_pairUp_67 : decode mi_Match_pairUp.2.1 67 = .ok (.getfield 18, 3) := by decide +kernel
theorem jd_Match_pairUp_70 : decode mi_Match_pairUp.2.1 70 = .ok (.iload 4, 2) := by decide +kernel
theorem jd_Match_pairUp_72 : decode mi_Match_pairUp.2.1 72 = .ok (.iload_n 3, 1) := by decide +kernel
theorem jd_Match_pairUp_73 : decode mi_Match_pairUp.2.1 73 = .ok (.iastore, 1) := by decide +kernel
theorem jd_Match_pairUp_74 : decode mi_Match_pairUp.2.1 74 = .ok (.iinc 3 1, 3) := by decide +kernel
theorem jd_Match_pairUp_77 : decode mi_Match_pairUp.2.1 77 = .ok (.iinc 4 1, 3) := by decide +kernel
theorem jd_Match_pairUp_80 : decode mi_Match_pairUp.2.1 80 = .ok (.goto (-53), 3) := by decide +kernel
theorem jd_Match_pairUp_83 : decode mi_Match_pairUp.2.1 83 = .ok (.aload_n 0, 1) := by decide +kernel
theorem jd_Match_pairUp_84 : decode mi_Match_pairUp.2.1 84 = .ok (.getfield 11, 3) := by decide +kernel
theorem jd_Match_pairUp_87 : decode mi_Match_pairUp.2.1 87 = .ok (.iload_n 3, 1) := by decide +kernel
theorem jd_Match_pairUp_88 : decode mi_Match_pairUp.2.1 88 = .ok (.iconst 1, 1) := by decide +kernel
theorem jd_Match_pairUp_89 : decode mi_Match_pairUp.2.1 89 = .ok (.iadd, 1) := by decide +kernel
theorem jd_Match_pairUp_90 : decode mi_Match_pairUp.2.1 90 = .ok (.bipush 11, 2) := by decide +kernel
theorem jd_Match_pairUp_92 : decode mi_Match_pairUp.2.1 92 = .ok (.imul, 1) := by decide +kernel
theorem jd_Match_pairUp_93 : decode mi_Match_pairUp.2.1 93 = .ok (.iload 4, 2) := by decide +kernel
theorem jd_Match_pairUp_95 : decode mi_Match_pairUp.2.1 95 = .ok (.iadd, 1) := by decide +kernel
theorem jd_Match_pairUp_96 : decode mi_Match_pairUp.2.1 96 = .ok (.iaload, 1) := by decide +kernel
theorem jd_Match_pairUp_97 : decode mi_Match_pairUp.2.1 97 = .ok (.aload_n 0, 1) := by decide +kernel
theorem jd_Match_pairUp_98 : decode mi_Match_pairUp.2.1 98 = .ok (.getfield 11, 3) := by decide +kernel
theorem jd_Match_pairUp_101 : decode mi_Match_pairUp.2.1 101 = .ok (.iload_n 3, 1) := by decide +kernel
theorem jd_Match_pairUp_102 : decode mi_Match_pairUp.2.1 102 = .ok (.bipush 11, 2) := by decide +kernel
theorem jd_Match_pairUp_104 : decode mi_Match_pairUp.2.1 104 = .ok (.imul, 1) := by decide +kernel
theorem jd_Match_pairUp_105 : decode mi_Match_pairUp.2.1 105 = .ok (.iload 4, 2) := by decide +kernel
theorem jd_Match_pairUp_107 : decode mi_Match_pairUp.2.1 107 = .ok (.iadd, 1) := by decide +kernel
theorem jd_Match_pairUp_108 : decode mi_Match_pairUp.2.1 108 = .ok (.iconst 1, 1) := by decide +kernel
theorem jd_Match_pairUp_109 : decode mi_Match_pairUp.2.1 109 = .ok (.iadd, 1) := by decide +kernel
theorem jd_Match_pairUp_110 : decode mi_Match_pairUp.2.1 110 = .ok (.iaload, 1) := by decide +kernel
theorem jd_Match_pairUp_111 : decode mi_Match_pairUp.2.1 111 = .ok (.if_icmp .lt 9, 3) := by decide +kernel
theorem jd_Match_pairUp_114 : decode mi_Match_pairUp.2.1 114 = .ok (.iinc 3 1, 3) := by decide +kernel
theorem jd_Match_pairUp_117 : decode mi_Match_pairUp.2.1 117 = .ok (.goto (-90), 3) := by decide +kernel
theorem jd_Match_pairUp_120 : decode mi_Match_pairUp.2.1 120 = .ok (.iinc 4 1, 3) := by decide +kernel
theorem jd_Match_pairUp_123 : decode mi_Match_pairUp.2.1 123 = .ok (.goto (-96), 3) := by decide +kernel
theorem jd_Match_pairUp_126 : decode mi_Match_pairUp.2.1 126 = .ok (.return_, 1) := by decide +kernel
/-! the match of two contents -/
def msS (a b : zV) (i j : Nat) (T : Nat → Int) : Nat → Int := fun q => if q = i * 11 + j then (if a.2.2 i = b.2.2 j then T (i * 11 + j + 12) + 1 else max (T (i * 11 + j + 11)) (T (i * 11 + j + 1))) else T q
def msJ (a b : zV) (i : Nat) : Nat → (Nat → Int) → Nat → Int
  | 0, T => T
  | j + 1, T => msJ a b i j (msS a b i j T)
def msI (a b : zV) : Nat → (Nat → Int) → Nat → Int
  | 0, T => T
  | i + 1, T => msI a b i (msJ a b i b.2.1 T)
def msT (a b : zV) : Nat → Int := msI a b a.2.1 (fun _ => 0)
def ms1 (T : Nat → Int) (i : Nat) : Prop := ∀ q, 0 ≤ T q ∧ T q ≤ 10 - i
def ms2 (T : Nat → Int) (i : Nat) : Prop := (∀ q, 0 ≤ T q ∧ T q ≤ 10 - i) ∧ ∀ q, (i + 1) * 11 ≤ q → T q ≤ 9 - i
theorem ms12 {T : Nat → Int} {i : Nat} (h : ms1 T (i + 1)) : ms2 T i := ⟨fun q => by have := h q; omega, fun q _ => by have := h q; omega⟩
theorem msS_2 {a b : zV} {T : Nat → Int} {i j : Nat} (h : ms2 T i) (hj : j ≤ 9) : ms2 (msS a b i j T) i := by
  constructor
  · intro q
    unfold msS
    split
    · split
      · have := h.1 (i * 11 + j + 12)
        have := h.2 (i * 11 + j + 12) (by omega)
        omega
      · have := h.1 (i * 11 + j + 11)
        have := h.1 (i * 11 + j + 1)
        omega
    · exact h.1 q
  · intro q hq
    unfold msS
    rw [if_neg (by omega)]
    exact h.2 q hq
theorem msJ_2 {a b : zV} {i : Nat} : ∀ (j : Nat) {T : Nat → Int}, j ≤ 10 → ms2 T i → ms2 (msJ a b i j T) i
  | 0, _, _, h => h
  | j + 1, _, hj, h => msJ_2 j (by omega) (msS_2 h (by omega))
theorem msI_1 {a b : zV} (hb : b.2.1 ≤ 10) : ∀ (i : Nat) {T : Nat → Int}, ms1 T i → ms1 (msI a b i T) 0
  | 0, _, h => h
  | i + 1, _, h => msI_1 hb i (msJ_2 b.2.1 hb (ms12 h)).1
theorem msT_rng {a b : zV} (ha : okV a) (hb : okV b) (q : Nat) : 0 ≤ msT a b q ∧ msT a b q ≤ 10 := by
  have := msI_1 (a := a) (b := b) hb.n a.2.1 (T := fun _ => 0) (fun q => by have := ha.n; show (0:Int) ≤ 0 ∧ (0:Int) ≤ _; omega) q
  unfold msT
  omega
def nearV (a b : zV) : Int := if a.2.1 + b.2.1 = 0 then 100 else 200 * msT a b 0 / ((a.2.1 : Int) + b.2.1)
def pw (a b : zV) (T : Nat → Int) : Nat → Nat → Nat → (Nat → Int) → (Nat → Int) → (Nat → Int) × (Nat → Int)
  | 0, _, _, F, G => (F, G)
  | d + 1, i, j, F, G => if i < a.2.1 ∧ j < b.2.1 then (if a.2.2 i = b.2.2 j then pw a b T d (i + 1) (j + 1) (fun q => if q = i then (j : Int) else F q) (fun q => if q = j then (i : Int) else G q) else if T (i * 11 + j + 1) ≤ T ((i + 1) * 11 + j) then pw a b T d (i + 1) j F G else pw a b T d i (j + 1) F G) else (F, G)
def pairs (a b : zV) : (Nat → Int) × (Nat → Int) := pw a b (msT a b) 21 0 0 (fun _ => -1) (fun _ => -1)
theorem pw_rng {a b : zV} {T : Nat → Int} (ha : a.2.1 ≤ 10) (hb : b.2.1 ≤ 10) : ∀ (d i j : Nat) {F G : Nat → Int}, (∀ q, -1 ≤ F q ∧ F q ≤ 9) → (∀ q, -1 ≤ G q ∧ G q ≤ 9) → (∀ q, -1 ≤ (pw a b T d i j F G).1 q ∧ (pw a b T d i j F G).1 q ≤ 9) ∧ ∀ q, -1 ≤ (pw a b T d i j F G).2 q ∧ (pw a b T d i j F G).2 q ≤ 9
  | 0, _, _, _, _, h1, h2 => ⟨h1, h2⟩
  | d + 1, i, j, F, G, h1, h2 => by
    unfold pw
    split
    · rename_i hh
      split
      · exact pw_rng ha hb d _ _ (fun q => by split; omega; exact h1 q) (fun q => by split; omega; exact h2 q)
      · split
        · exact pw_rng ha hb d _ _ h1 h2
        · exact pw_rng ha hb d _ _ h1 h2
    · exact ⟨h1, h2⟩
theorem pairs_rng {a b : zV} (ha : okV a) (hb : okV b) : (∀ q, -1 ≤ (pairs a b).1 q ∧ (pairs a b).1 q ≤ 9) ∧ ∀ q, -1 ≤ (pairs a b).2 q ∧ (pairs a b).2 q ≤ 9 := pw_rng ha.n hb.n 21 0 0 (fun q => by omega) (fun q => by omega)
section
variable {o : jw_O} {σ : zS} {m c d : Nat} {a b : zV}
theorem m_measure (hm : isM o m) (h : VC o σ c a) (h2 : VC o σ d b) (hc : m + 4 ≤ c ∨ c + 2 ≤ m) (hd : m + 4 ≤ d ∨ d + 2 ≤ m) : zSpec mi_Match_measure 1 o [.ref m, .ref c, .ref d] σ (fun v s => v = none ∧ (∀ q, q < 121 → iv s (m + 1) q = msT a b q) ∧ zF σ s (m + 1) 1) := by
  have hcc := h.1
  have hdd := h2.1
  have han := h.2.1.n
  have hbn := h2.2.1.n
  refine z_spec (by decide +kernel) (Nat.le_of_ble_eq_true rfl) rfl (fun k hs hR hE => ?_)
  refine jw_aload_n (pc' := 1) jd_Match_measure_0 rfl rfl rfl ?_
  refine jw_get (pc' := 4) (kf := 0) jc_Match (by decide) jq_156 jd_Match_measure_1 (mc_Match _ (by assumption)) rfl rfl ?_
  refine zx_iconst (pc' := 5) (n := 0) jd_Match_measure_4 rfl ?_
  refine zx_callS (pc' := 8) hR (z_fill (n := 121) (fun s => ml_Match_common s hm) (by omega) (by omega)) jm_Arrays_fill jq_564 jd_Match_measure_5 rfl rfl (Nat.le_of_ble_eq_true rfl) (by omega) (by decide) rfl (fun v9 s0 q9 => ?_)
  obtain ⟨rfl, hf0, hF0⟩ := q9
  refine jw_aload_n (pc' := 9) jd_Match_measure_8 rfl rfl rfl ?_
  refine zx_callV0 (pc' := 12) hR (c_length (h.fr hF0 (by omega))) jm_Content_length jq_559 jc_Content jd_Match_measure_9 (mc_Content _ (by assumption)) rfl rfl (Nat.le_of_ble_eq_true rfl) (by omega) (by decide) rfl rfl ?_
  refine zx_iconst (pc' := 13) (n := 1) jd_Match_measure_12 rfl ?_
  refine zx_isub (pc' := 14) jd_Match_measure_13 rfl ?_
  refine jw_istore_n (pc' := 15) (lc' := [(0, _), (1, _), (2, _), (3, _)]) jd_Match_measure_14 rfl (Nat.le_of_ble_eq_true rfl) ⟨rfl, rfl, rfl, rfl, trivial⟩ rfl ?_
  have loop : ∀ (i : Nat) (s : zS) (T : Nat → Int), i ≤ a.2.1 → (∀ q, q < 121 → iv s (m + 1) q = T q) → ms1 T i → msI a b i T = msT a b → zF σ s (m + 1) 1 → jw_X mi_Match_measure o k 0 0 15 [(0, .ref m), (1, .ref c), (2, .ref d), (3, .int (iI (i - 1)))] [] (mm o s) hs := by
    intro i
    induction i with
    | zero =>
      intro s T hi hT h1 he hF
      refine jw_iload_n (pc' := 16) jd_Match_measure_15 rfl rfl rfl ?_
      refine zx_if_lt (tgt := 124) (pc' := 19) (by first | exact rg_iv _ _ _ | omega) jd_Match_measure_16 (by decide) rfl (fun q => ?_) (fun q => ?_)
      rotate_left
      · exfalso; omega
      refine zx_vret hE jd_Match_measure_124 rfl ?_
      exact ⟨rfl, fun q hq => by rw [hT q hq, ← he]; rfl, hF⟩
    | succ i ih =>
      intro s T hi hT h1 he hF
      have hsA := h.fr hF (by omega)
      have hs2 := h2.fr hF (by omega)
      have e1 : ((i + 1 : Nat) : Int) - 1 = (i : Int) := by omega
      rw [e1]
      refine jw_iload_n (pc' := 16) jd_Match_measure_15 rfl rfl rfl ?_
      refine zx_if_lt (tgt := 124) (pc' := 19) (by first | exact rg_iv _ _ _ | omega) jd_Match_measure_16 (by decide) rfl (fun q => ?_) (fun q => ?_)
      · exfalso; omega
      refine jw_aload_n (pc' := 20) jd_Match_measure_19 rfl rfl rfl ?_
      refine jw_iload_n (pc' := 21) jd_Match_measure_20 rfl rfl rfl ?_
      refine zx_callV0 (pc' := 24) hR (c_lineAt hsA i (by omega)) jm_Content_lineAt jq_565 jc_Content jd_Match_measure_21 (mc_Content _ (by assumption)) rfl rfl (Nat.le_of_ble_eq_true rfl) (by omega) (by decide) rfl rfl ?_
      refine jw_istore (pc' := 26) (lc' := [(0, _), (1, _), (2, _), (3, _), (4, _)]) jd_Match_measure_24 (Nat.le_of_ble_eq_true rfl) ⟨rfl, rfl, rfl, rfl, rfl, trivial⟩ rfl ?_
      refine jw_aload_n (pc' := 27) jd_Match_measure_26 rfl rfl rfl ?_
      refine zx_callV0 (pc' := 30) hR (c_length hs2) jm_Content_length jq_559 jc_Content jd_Match_measure_27 (mc_Content _ (by assumption)) rfl rfl (Nat.le_of_ble_eq_true rfl) (by omega) (by decide) rfl rfl ?_
      refine zx_iconst (pc' := 31) (n := 1) jd_Match_measure_30 rfl ?_
      refine zx_isub (pc' := 32) jd_Match_measure_31 rfl ?_
      refine jw_istore (pc' := 34) (lc' := [(0, _), (1, _), (2, _), (3, _), (4, _), (5, _)]) jd_Match_measure_32 (Nat.le_of_ble_eq_true rfl) ⟨rfl, rfl, rfl, rfl, rfl, rfl, trivial⟩ rfl ?_
      have inner : ∀ (j : Nat) (s : zS) (T : Nat → Int), j ≤ b.2.1 → (∀ q, q < 121 → iv s (m + 1) q = T q) → ms2 T i → msI a b i (msJ a b i j T) = msT a b → zF σ s (m + 1) 1 → jw_X mi_Match_measure o k 0 0 34 [(0, .ref m), (1, .ref c), (2, .ref d), (3, .int (iI i)), (4, .int (iI (a.2.2 i))), (5, .int (iI (j - 1)))] [] (mm o s) hs := by
        intro j
        induction j with
        | zero =>
          intro s T hj hT h2 he hF
          refine jw_iload (pc' := 36) jd_Match_measure_34 rfl rfl ?_
          refine zx_if_lt (tgt := 118) (pc' := 39) (by first | exact rg_iv _ _ _ | omega) jd_Match_measure_36 (by decide) rfl (fun q => ?_) (fun q => ?_)
          rotate_left
          · exfalso; omega
          refine zx_iinc (pc' := 121) (lc' := [(0, _), (1, _), (2, _), (3, _)]) jd_Match_measure_118 rfl (Nat.le_of_ble_eq_true rfl) ⟨rfl, rfl, rfl, rfl, trivial⟩ rfl ?_
          refine jw_goto (tgt := 15) jd_Match_measure_121 (by decide) ?_
          exact ih s T (by omega) hT h2.1 he hF
        | succ j jh =>
          intro s T hj hT h3 he hF
          have hs2 := h2.fr hF (by omega)
          have e1 : ((j + 1 : Nat) : Int) - 1 = (j : Int) := by omega
          rw [e1]
          have ra := h.2.1.2.1 i
          have rb := h2.2.1.2.1 j
          refine jw_iload (pc' := 36) jd_Match_measure_34 rfl rfl ?_
          refine zx_if_lt (tgt := 118) (pc' := 39) (by first | exact rg_iv _ _ _ | omega) jd_Match_measure_36 (by decide) rfl (fun q => ?_) (fun q => ?_)
          · exfalso; omega
          refine jw_iload_n (pc' := 40) jd_Match_measure_39 rfl rfl rfl ?_
          refine zx_bipush (pc' := 42) (n := 11) jd_Match_measure_40 (by decide +kernel) rfl ?_
          refine zx_imul (pc' := 43) jd_Match_measure_42 rfl ?_
          refine jw_iload (pc' := 45) jd_Match_measure_43 rfl rfl ?_
          refine zx_iadd (pc' := 46) jd_Match_measure_45 rfl ?_
          refine jw_istore (pc' := 48) (lc' := [(0, _), (1, _), (2, _), (3, _), (4, _), (5, _), (6, _)]) jd_Match_measure_46 (Nat.le_of_ble_eq_true rfl) ⟨rfl, rfl, rfl, rfl, rfl, rfl, rfl, trivial⟩ rfl ?_
          refine jw_iload (pc' := 50) jd_Match_measure_48 rfl rfl ?_
          refine jw_aload_n (pc' := 51) jd_Match_measure_50 rfl rfl rfl ?_
          refine jw_iload (pc' := 53) jd_Match_measure_51 rfl rfl ?_
          refine zx_callV0 (pc' := 56) hR (c_lineAt hs2 j (by omega)) jm_Content_lineAt jq_565 jc_Content jd_Match_measure_53 (mc_Content _ (by assumption)) rfl rfl (Nat.le_of_ble_eq_true rfl) (by omega) (by decide) rfl rfl ?_
          have g := (msS_2 (a := a) (b := b) h3 (show j ≤ 9 by omega)).1 (i * 11 + j)
          refine zx_icmp_ne (tgt := 83) (pc' := 59) (by first | exact rg_iv _ _ _ | omega) (by first | exact rg_iv _ _ _ | omega) jd_Match_measure_56 (by decide) rfl (fun q2 => ?_) (fun q2 => ?_)
          · skip
            refine jw_aload_n (pc' := 84) jd_Match_measure_83 rfl rfl rfl ?_
            refine jw_get (pc' := 87) (kf := 0) jc_Match (by decide) jq_156 jd_Match_measure_84 (mc_Match _ (by assumption)) rfl rfl ?_
            refine jw_iload (pc' := 89) jd_Match_measure_87 rfl rfl ?_
            refine jw_aload_n (pc' := 90) jd_Match_measure_89 rfl rfl rfl ?_
            refine jw_get (pc' := 93) (kf := 0) jc_Match (by decide) jq_156 jd_Match_measure_90 (mc_Match _ (by assumption)) rfl rfl ?_
            refine jw_iload (pc' := 95) jd_Match_measure_93 rfl rfl ?_
            refine zx_bipush (pc' := 97) (n := 11) jd_Match_measure_95 (by decide +kernel) rfl ?_
            refine zx_iadd (pc' := 98) jd_Match_measure_97 rfl ?_
            refine zx_iald (pc' := 99) (j := i * 11 + j + 11) jd_Match_measure_98 (ml_Match_common _ (by assumption)) (by omega) (by omega) (Nat.le_of_ble_eq_true rfl) rfl ?_
            refine jw_aload_n (pc' := 100) jd_Match_measure_99 rfl rfl rfl ?_
            refine jw_get (pc' := 103) (kf := 0) jc_Match (by decide) jq_156 jd_Match_measure_100 (mc_Match _ (by assumption)) rfl rfl ?_
            refine jw_iload (pc' := 105) jd_Match_measure_103 rfl rfl ?_
            refine zx_iconst (pc' := 106) (n := 1) jd_Match_measure_105 rfl ?_
            refine zx_iadd (pc' := 107) jd_Match_measure_106 rfl ?_
            refine zx_iald (pc' := 108) (j := i * 11 + j + 1) jd_Match_measure_107 (ml_Match_common _ (by assumption)) (by omega) (by omega) (Nat.le_of_ble_eq_true rfl) rfl ?_
            refine zx_mmax (pc' := 111) (by first | exact rg_iv _ _ _ | omega) (by first | exact rg_iv _ _ _ | omega) hR jq_566 jd_Match_measure_108 (Nat.le_of_ble_eq_true rfl) (by omega) (Nat.le_refl _) (Nat.le_refl _) rfl ?_
            refine zx_iast (pc' := 112) (j := i * 11 + j) jd_Match_measure_111 (ml_Match_common _ (by assumption)) (by omega) (by omega) (Nat.le_of_ble_eq_true rfl) rfl ?_
            refine zx_iinc (pc' := 115) (lc' := [(0, _), (1, _), (2, _), (3, _), (4, _), (5, _)]) jd_Match_measure_112 rfl (Nat.le_of_ble_eq_true rfl) ⟨rfl, rfl, rfl, rfl, rfl, rfl, trivial⟩ rfl ?_
            refine jw_goto (tgt := 34) jd_Match_measure_115 (by decide) ?_
            have g2 : msS a b i j T (i * 11 + j) = max (iv s (m + 1) (i * 11 + j + 11)) (iv s (m + 1) (i * 11 + j + 1)) := by
              unfold msS; rw [if_pos rfl, if_neg q2, hT _ (by omega), hT _ (by omega)]
            rw [show (j : Int) + -1 = j - 1 by omega]
            refine jh _ (msS a b i j T) (by omega) (fun q hq => ?_) (msS_2 h3 (by omega)) he (hF.si (by omega))
            rw [iv_si (by omega)]
            by_cases q9 : q = i * 11 + j
            · rw [if_pos ⟨rfl, q9⟩, q9, g2]
            · rw [if_neg (fun z => q9 z.2), hT q hq]; unfold msS; rw [if_neg q9]
          · skip
            refine jw_aload_n (pc' := 60) jd_Match_measure_59 rfl rfl rfl ?_
            refine jw_get (pc' := 63) (kf := 0) jc_Match (by decide) jq_156 jd_Match_measure_60 (mc_Match _ (by assumption)) rfl rfl ?_
            refine jw_iload (pc' := 65) jd_Match_measure_63 rfl rfl ?_
            refine jw_aload_n (pc' := 66) jd_Match_measure_65 rfl rfl rfl ?_
            refine jw_get (pc' := 69) (kf := 0) jc_Match (by decide) jq_156 jd_Match_measure_66 (mc_Match _ (by assumption)) rfl rfl ?_
            refine jw_iload (pc' := 71) jd_Match_measure_69 rfl rfl ?_
            refine zx_bipush (pc' := 73) (n := 11) jd_Match_measure_71 (by decide +kernel) rfl ?_
            refine zx_iadd (pc' := 74) jd_Match_measure_73 rfl ?_
            refine zx_iconst (pc' := 75) (n := 1) jd_Match_measure_74 rfl ?_
            refine zx_iadd (pc' := 76) jd_Match_measure_75 rfl ?_
            refine zx_iald (pc' := 77) (j := i * 11 + j + 12) jd_Match_measure_76 (ml_Match_common _ (by assumption)) (by omega) (by omega) (Nat.le_of_ble_eq_true rfl) rfl ?_
            refine zx_iconst (pc' := 78) (n := 1) jd_Match_measure_77 rfl ?_
            refine zx_iadd (pc' := 79) jd_Match_measure_78 rfl ?_
            refine zx_iast (pc' := 80) (j := i * 11 + j) jd_Match_measure_79 (ml_Match_common _ (by assumption)) (by omega) (by omega) (Nat.le_of_ble_eq_true rfl) rfl ?_
            refine jw_goto (tgt := 112) jd_Match_measure_80 (by decide) ?_
            refine zx_iinc (pc' := 115) (lc' := [(0, _), (1, _), (2, _), (3, _), (4, _), (5, _)]) jd_Match_measure_112 rfl (Nat.le_of_ble_eq_true rfl) ⟨rfl, rfl, rfl, rfl, rfl, rfl, trivial⟩ rfl ?_
            refine jw_goto (tgt := 34) jd_Match_measure_115 (by decide) ?_
            have g2 : msS a b i j T (i * 11 + j) = iv s (m + 1) (i * 11 + j + 12) + 1 := by
              unfold msS; rw [if_pos rfl, if_pos q2, hT _ (by omega)]
            rw [show (j : Int) + -1 = j - 1 by omega]
            refine jh _ (msS a b i j T) (by omega) (fun q hq => ?_) (msS_2 h3 (by omega)) he (hF.si (by omega))
            rw [iv_si (by omega)]
            by_cases q9 : q = i * 11 + j
            · rw [if_pos ⟨rfl, q9⟩, q9, g2]
            · rw [if_neg (fun z => q9 z.2), hT q hq]; unfold msS; rw [if_neg q9]
      exact inner b.2.1 s T (by omega) hT (ms12 h1) he hF
  exact loop a.2.1 s0 (fun _ => 0) (by omega) hf0 (fun q => by show (0:Int) ≤ 0 ∧ (0:Int) ≤ _; omega) rfl hF0
theorem m_near (hm : isM o m) (h : VC o σ c a) (h2 : VC o σ d b) (hc : m + 4 ≤ c ∨ c + 2 ≤ m) (hd : m + 4 ≤ d ∨ d + 2 ≤ m) : zSpec mi_Match_nearnessOf 2 o [.ref m, .ref c, .ref d] σ (fun v s => v = some (.int (iI (nearV a b))) ∧ zF σ s (m + 1) 1) := by
  have hcc := h.1
  have hdd := h2.1
  have han := h.2.1.n
  have hbn := h2.2.1.n
  have g := msT_rng h.2.1 h2.2.1 0
  refine z_spec (by decide +kernel) (Nat.le_of_ble_eq_true rfl) rfl (fun k hs hR hE => ?_)
  refine jw_aload_n (pc' := 1) jd_Match_nearnessOf_0 rfl rfl rfl ?_
  refine zx_callV0 (pc' := 4) hR (c_length h) jm_Content_length jq_559 jc_Content jd_Match_nearnessOf_1 (mc_Content _ (by assumption)) rfl rfl (Nat.le_of_ble_eq_true rfl) (by omega) (by decide) rfl rfl ?_
  refine jw_aload_n (pc' := 5) jd_Match_nearnessOf_4 rfl rfl rfl ?_
  refine zx_callV0 (pc' := 8) hR (c_length h2) jm_Content_length jq_559 jc_Content jd_Match_nearnessOf_5 (mc_Content _ (by assumption)) rfl rfl (Nat.le_of_ble_eq_true rfl) (by omega) (by decide) rfl rfl ?_
  refine zx_iadd (pc' := 9) jd_Match_nearnessOf_8 rfl ?_
  refine jw_istore_n (pc' := 10) (lc' := [(0, _), (1, _), (2, _), (3, _)]) jd_Match_nearnessOf_9 rfl (Nat.le_of_ble_eq_true rfl) ⟨rfl, rfl, rfl, rfl, trivial⟩ rfl ?_
  refine jw_iload_n (pc' := 11) jd_Match_nearnessOf_10 rfl rfl rfl ?_
  refine zx_if_gt (tgt := 17) (pc' := 14) (by first | exact rg_iv _ _ _ | omega) jd_Match_nearnessOf_11 (by decide) rfl (fun q => ?_) (fun q => ?_)
  rotate_left
  · refine zx_bipush (pc' := 16) (n := 100) jd_Match_nearnessOf_14 (by decide +kernel) rfl ?_
    refine zx_iret hE jd_Match_nearnessOf_16 rfl ?_
    exact ⟨by unfold nearV; rw [if_pos (by omega)], zF.rf⟩
  refine jw_aload_n (pc' := 18) jd_Match_nearnessOf_17 rfl rfl rfl ?_
  refine jw_aload_n (pc' := 19) jd_Match_nearnessOf_18 rfl rfl rfl ?_
  refine jw_aload_n (pc' := 20) jd_Match_nearnessOf_19 rfl rfl rfl ?_
  refine zx_callV (pc' := 23) hR (m_measure hm h h2 hc hd) jm_Match_measure jq_560 jc_Match jd_Match_nearnessOf_20 (mc_Match _ (by assumption)) rfl rfl (Nat.le_of_ble_eq_true rfl) (by omega) (by decide) rfl (fun v9 s1 q9 => ?_)
  obtain ⟨rfl, h1, f1⟩ := q9
  have e := h1 0 (by omega)
  refine zx_sipush (pc' := 26) (n := 200) jd_Match_nearnessOf_23 (by decide +kernel) rfl ?_
  refine jw_aload_n (pc' := 27) jd_Match_nearnessOf_26 rfl rfl rfl ?_
  refine jw_get (pc' := 30) (kf := 0) jc_Match (by decide) jq_156 jd_Match_nearnessOf_27 (mc_Match _ (by assumption)) rfl rfl ?_
  refine zx_iconst (pc' := 31) (n := 0) jd_Match_nearnessOf_30 rfl ?_
  refine zx_iald (pc' := 32) (j := 0) jd_Match_nearnessOf_31 (ml_Match_common _ (by assumption)) rfl (by omega) (Nat.le_of_ble_eq_true rfl) rfl ?_
  refine zx_imul (pc' := 33) jd_Match_nearnessOf_32 rfl ?_
  refine jw_iload_n (pc' := 34) jd_Match_nearnessOf_33 rfl rfl rfl ?_
  refine zx_idiv (pc' := 35) jd_Match_nearnessOf_34 (by omega) (by omega) rfl ?_
  refine zx_iret hE jd_Match_nearnessOf_35 rfl ?_
  refine ⟨?_, f1⟩
  unfold nearV
  rw [if_neg (by omega), e]
theorem m_partB (hm : isM o m) (p : Nat) (hp : p < 10) : zRo mi_Match_partnerInB 0 o [.ref m, .int (iI p)] σ (some (.int (iI (iv σ (m + 2) p)))) := by
  refine z_spec (by decide +kernel) (Nat.le_of_ble_eq_true rfl) rfl (fun k hs hR hE => ?_)
  refine jw_iload_n (pc' := 1) jd_Match_partnerInB_0 rfl rfl rfl ?_
  refine zx_if_lt (tgt := 19) (pc' := 4) (by first | exact rg_iv _ _ _ | omega) jd_Match_partnerInB_1 (by decide) rfl (fun q => ?_) (fun q => ?_)
  · exfalso; omega
  refine jw_iload_n (pc' := 5) jd_Match_partnerInB_4 rfl rfl rfl ?_
  refine zx_bipush (pc' := 7) (n := 10) jd_Match_partnerInB_5 (by decide +kernel) rfl ?_
  refine zx_icmp_ge (tgt := 19) (pc' := 10) (by first | exact rg_iv _ _ _ | omega) (by first | exact rg_iv _ _ _ | omega) jd_Match_partnerInB_7 (by decide) rfl (fun q2 => ?_) (fun q2 => ?_)
  · exfalso; omega
  refine jw_aload_n (pc' := 11) jd_Match_partnerInB_10 rfl rfl rfl ?_
  refine jw_get (pc' := 14) (kf := 1) jc_Match (by decide) jq_157 jd_Match_partnerInB_11 (mc_Match _ (by assumption)) rfl rfl ?_
  refine jw_iload_n (pc' := 15) jd_Match_partnerInB_14 rfl rfl rfl ?_
  refine zx_iald (pc' := 16) jd_Match_partnerInB_15 (ml_Match_partnersInB _ (by assumption)) rfl (by omega) (Nat.le_of_ble_eq_true rfl) rfl ?_
  refine jw_goto (tgt := 20) jd_Match_partnerInB_16 (by decide) ?_
  refine zx_iret hE jd_Match_partnerInB_20 rfl ?_
  exact ⟨rfl, rfl⟩
theorem m_partA (hm : isM o m) (p : Nat) (hp : p < 10) : zRo mi_Match_partnerInA 0 o [.ref m, .int (iI p)] σ (some (.int (iI (iv σ (m + 3) p)))) := by
  refine z_spec (by decide +kernel) (Nat.le_of_ble_eq_true rfl) rfl (fun k hs hR hE => ?_)
  refine jw_iload_n (pc' := 1) jd_Match_partnerInA_0 rfl rfl rfl ?_
  refine zx_if_lt (tgt := 19) (pc' := 4) (by first | exact rg_iv _ _ _ | omega) jd_Match_partnerInA_1 (by decide) rfl (fun q => ?_) (fun q => ?_)
  · exfalso; omega
  refine jw_iload_n (pc' := 5) jd_Match_partnerInA_4 rfl rfl rfl ?_
  refine zx_bipush (pc' := 7) (n := 10) jd_Match_partnerInA_5 (by decide +kernel) rfl ?_
  refine zx_icmp_ge (tgt := 19) (pc' := 10) (by first | exact rg_iv _ _ _ | omega) (by first | exact rg_iv _ _ _ | omega) jd_Match_partnerInA_7 (by decide) rfl (fun q2 => ?_) (fun q2 => ?_)
  · exfalso; omega
  refine jw_aload_n (pc' := 11) jd_Match_partnerInA_10 rfl rfl rfl ?_
  refine jw_get (pc' := 14) (kf := 2) jc_Match (by decide) jq_158 jd_Match_partnerInA_11 (mc_Match _ (by assumption)) rfl rfl ?_
  refine jw_iload_n (pc' := 15) jd_Match_partnerInA_14 rfl rfl rfl ?_
  refine zx_iald (pc' := 16) jd_Match_partnerInA_15 (ml_Match_partnersInA _ (by assumption)) rfl (by omega) (Nat.le_of_ble_eq_true rfl) rfl ?_
  refine jw_goto (tgt := 20) jd_Match_partnerInA_16 (by decide) ?_
  refine zx_iret hE jd_Match_partnerInA_20 rfl ?_
  exact ⟨rfl, rfl⟩
theorem m_pairUp (hm : isM o m) (h : VC o σ c a) (h2 : VC o σ d b) (hc : m + 4 ≤ c ∨ c + 2 ≤ m) (hd : m + 4 ≤ d ∨ d + 2 ≤ m) : zSpec mi_Match_pairUp 2 o [.ref m, .ref c, .ref d] σ (fun v s => v = none ∧ (∀ q, q < 10 → iv s (m + 2) q = (pairs a b).1 q) ∧ (∀ q, q < 10 → iv s (m + 3) q = (pairs a b).2 q) ∧ zF σ s (m + 1) 3) := by
  have hcc := h.1
  have hdd := h2.1
  have han := h.2.1.n
  have hbn := h2.2.1.n
  refine z_spec (by decide +kernel) (Nat.le_of_ble_eq_true rfl) rfl (fun k hs hR hE => ?_)
  refine jw_aload_n (pc' := 1) jd_Match_pairUp_0 rfl rfl rfl ?_
  refine jw_aload_n (pc' := 2) jd_Match_pairUp_1 rfl rfl rfl ?_
  refine jw_aload_n (pc' := 3) jd_Match_pairUp_2 rfl rfl rfl ?_
  refine zx_callV (pc' := 6) hR (m_measure hm h h2 hc hd) jm_Match_measure jq_560 jc_Match jd_Match_pairUp_3 (mc_Match _ (by assumption)) rfl rfl (Nat.le_of_ble_eq_true rfl) (by omega) (by decide) rfl (fun v9 s1 q9 => ?_)
  obtain ⟨rfl, h1, f1⟩ := q9
  refine jw_aload_n (pc' := 7) jd_Match_pairUp_6 rfl rfl rfl ?_
  refine jw_get (pc' := 10) (kf := 2) jc_Match (by decide) jq_158 jd_Match_pairUp_7 (mc_Match _ (by assumption)) rfl rfl ?_
  refine zx_iconst (pc' := 11) (n := -1) jd_Match_pairUp_10 rfl ?_
  refine zx_callS (pc' := 14) hR (z_fill (n := 10) (fun s => ml_Match_partnersInA s hm) (by omega) (by omega)) jm_Arrays_fill jq_564 jd_Match_pairUp_11 rfl rfl (Nat.le_of_ble_eq_true rfl) (by omega) (by decide) rfl (fun v9 s2 q9 => ?_)
  obtain ⟨rfl, h4, f2⟩ := q9
  refine jw_aload_n (pc' := 15) jd_Match_pairUp_14 rfl rfl rfl ?_
  refine jw_get (pc' := 18) (kf := 1) jc_Match (by decide) jq_157 jd_Match_pairUp_15 (mc_Match _ (by assumption)) rfl rfl ?_
  refine zx_iconst (pc' := 19) (n := -1) jd_Match_pairUp_18 rfl ?_
  refine zx_callS (pc' := 22) hR (z_fill (n := 10) (fun s => ml_Match_partnersInB s hm) (by omega) (by omega)) jm_Arrays_fill jq_564 jd_Match_pairUp_19 rfl rfl (Nat.le_of_ble_eq_true rfl) (by omega) (by decide) rfl (fun v9 s3 q9 => ?_)
  obtain ⟨rfl, h5, f3⟩ := q9
  refine zx_iconst (pc' := 23) (n := 0) jd_Match_pairUp_22 rfl ?_
  refine jw_istore_n (pc' := 24) (lc' := [(0, _), (1, _), (2, _), (3, _)]) jd_Match_pairUp_23 rfl (Nat.le_of_ble_eq_true rfl) ⟨rfl, rfl, rfl, rfl, trivial⟩ rfl ?_
  refine zx_iconst (pc' := 25) (n := 0) jd_Match_pairUp_24 rfl ?_
  refine jw_istore (pc' := 27) (lc' := [(0, _), (1, _), (2, _), (3, _), (4, _)]) jd_Match_pairUp_25 (Nat.le_of_ble_eq_true rfl) ⟨rfl, rfl, rfl, rfl, rfl, trivial⟩ rfl ?_
  have hF3 : zF σ s3 (m + 1) 3 := ((f1.mono (by omega) (by omega) : zF σ s1 (m + 1) 3).trans f2 (by omega) (by omega)).trans f3 (by omega) (by omega)
  have loop : ∀ (d9 i j : Nat) (s : zS) (F G : Nat → Int), (a.2.1 - i) + (b.2.1 - j) < d9 → i ≤ 10 → j ≤ 10 → (∀ q, q < 121 → iv s (m + 1) q = msT a b q) → (∀ q, q < 10 → iv s (m + 2) q = F q) → (∀ q, q < 10 → iv s (m + 3) q = G q) → pw a b (msT a b) d9 i j F G = pairs a b → zF σ s (m + 1) 3 → jw_X mi_Match_pairUp o k 0 0 27 [(0, .ref m), (1, .ref c), (2, .ref d), (3, .int (iI i)), (4, .int (iI j))] [] (mm o s) hs := by
    intro d9
    induction d9 with
    | zero => intro i j s F G hi; omega
    | succ d9 ih =>
      intro i j s F G hi hi1 hj1 hT hB hA he hF
      have hsA := h.fr hF (by omega)
      have hs2 := h2.fr hF (by omega)
      have ra := h.2.1.2.1 i
      have rb := h2.2.1.2.1 j
      unfold pw at he
      refine jw_iload_n (pc' := 28) jd_Match_pairUp_27 rfl rfl rfl ?_
      refine jw_aload_n (pc' := 29) jd_Match_pairUp_28 rfl rfl rfl ?_
      refine zx_callV0 (pc' := 32) hR (c_length hsA) jm_Content_length jq_559 jc_Content jd_Match_pairUp_29 (mc_Content _ (by assumption)) rfl rfl (Nat.le_of_ble_eq_true rfl) (by omega) (by decide) rfl rfl ?_
      refine zx_icmp_ge (tgt := 126) (pc' := 35) (by first | exact rg_iv _ _ _ | omega) (by first | exact rg_iv _ _ _ | omega) jd_Match_pairUp_32 (by decide) rfl (fun q => ?_) (fun q => ?_)
      · refine zx_vret hE jd_Match_pairUp_126 rfl ?_
        rw [if_neg (by omega)] at he
        refine ⟨rfl, fun q hq => ?_, fun q hq => ?_, hF⟩
        · rw [hB q hq, ← he]
        · rw [hA q hq, ← he]
      refine jw_iload (pc' := 37) jd_Match_pairUp_35 rfl rfl ?_
      refine jw_aload_n (pc' := 38) jd_Match_pairUp_37 rfl rfl rfl ?_
      refine zx_callV0 (pc' := 41) hR (c_length hs2) jm_Content_length jq_559 jc_Content jd_Match_pairUp_38 (mc_Content _ (by assumption)) rfl rfl (Nat.le_of_ble_eq_true rfl) (by omega) (by decide) rfl rfl ?_
      refine zx_icmp_ge (tgt := 126) (pc' := 44) (by first | exact rg_iv _ _ _ | omega) (by first | exact rg_iv _ _ _ | omega) jd_Match_pairUp_41 (by decide) rfl (fun q2 => ?_) (fun q2 => ?_)
      · refine zx_vret hE jd_Match_pairUp_126 rfl ?_
        rw [if_neg (by omega)] at he
        refine ⟨rfl, fun q hq => ?_, fun q hq => ?_, hF⟩
        · rw [hB q hq, ← he]
        · rw [hA q hq, ← he]
      rw [if_pos (by omega)] at he
      refine jw_aload_n (pc' := 45) jd_Match_pairUp_44 rfl rfl rfl ?_
      refine jw_iload_n (pc' := 46) jd_Match_pairUp_45 rfl rfl rfl ?_
      refine zx_callV0 (pc' := 49) hR (c_lineAt hsA i (by omega)) jm_Content_lineAt jq_565 jc_Content jd_Match_pairUp_46 (mc_Content _ (by assumption)) rfl rfl (Nat.le_of_ble_eq_true rfl) (by omega) (by decide) rfl rfl ?_
      refine jw_aload_n (pc' := 50) jd_Match_pairUp_49 rfl rfl rfl ?_
      refine jw_iload (pc' := 52) jd_Match_pairUp_50 rfl rfl ?_
      refine zx_callV0 (pc' := 55) hR (c_lineAt hs2 j (by omega)) jm_Content_lineAt jq_565 jc_Content jd_Match_pairUp_52 (mc_Content _ (by assumption)) rfl rfl (Nat.le_of_ble_eq_true rfl) (by omega) (by decide) rfl rfl ?_
      refine zx_icmp_ne (tgt := 83) (pc' := 58) (by first | exact rg_iv _ _ _ | omega) (by first | exact rg_iv _ _ _ | omega) jd_Match_pairUp_55 (by decide) rfl (fun q3 => ?_) (fun q3 => ?_)
      · skip
        refine jw_aload_n (pc' := 84) jd_Match_pairUp_83 rfl rfl rfl ?_
        refine jw_get (pc' := 87) (kf := 0) jc_Match (by decide) jq_156 jd_Match_pairUp_84 (mc_Match _ (by assumption)) rfl rfl ?_
        refine jw_iload_n (pc' := 88) jd_Match_pairUp_87 rfl rfl rfl ?_
        refine zx_iconst (pc' := 89) (n := 1) jd_Match_pairUp_88 rfl ?_
        refine zx_iadd (pc' := 90) jd_Match_pairUp_89 rfl ?_
        refine zx_bipush (pc' := 92) (n := 11) jd_Match_pairUp_90 (by decide +kernel) rfl ?_
        refine zx_imul (pc' := 93) jd_Match_pairUp_92 rfl ?_
        refine jw_iload (pc' := 95) jd_Match_pairUp_93 rfl rfl ?_
        refine zx_iadd (pc' := 96) jd_Match_pairUp_95 rfl ?_
        refine zx_iald (pc' := 97) (j := (i + 1) * 11 + j) jd_Match_pairUp_96 (ml_Match_common _ (by assumption)) (by omega) (by omega) (Nat.le_of_ble_eq_true rfl) rfl ?_
        refine jw_aload_n (pc' := 98) jd_Match_pairUp_97 rfl rfl rfl ?_
        refine jw_get (pc' := 101) (kf := 0) jc_Match (by decide) jq_156 jd_Match_pairUp_98 (mc_Match _ (by assumption)) rfl rfl ?_
        refine jw_iload_n (pc' := 102) jd_Match_pairUp_101 rfl rfl rfl ?_
        refine zx_bipush (pc' := 104) (n := 11) jd_Match_pairUp_102 (by decide +kernel) rfl ?_
        refine zx_imul (pc' := 105) jd_Match_pairUp_104 rfl ?_
        refine jw_iload (pc' := 107) jd_Match_pairUp_105 rfl rfl ?_
        refine zx_iadd (pc' := 108) jd_Match_pairUp_107 rfl ?_
        refine zx_iconst (pc' := 109) (n := 1) jd_Match_pairUp_108 rfl ?_
        refine zx_iadd (pc' := 110) jd_Match_pairUp_109 rfl ?_
        refine zx_iald (pc' := 111) (j := i * 11 + j + 1) jd_Match_pairUp_110 (ml_Match_common _ (by assumption)) (by omega) (by omega) (Nat.le_of_ble_eq_true rfl) rfl ?_
        refine zx_icmp_lt (tgt := 120) (pc' := 114) (by first | exact rg_iv _ _ _ | omega) (by first | exact rg_iv _ _ _ | omega) jd_Match_pairUp_111 (by decide) rfl (fun q4 => ?_) (fun q4 => ?_)
        · refine zx_iinc (pc' := 123) (lc' := [(0, _), (1, _), (2, _), (3, _), (4, _)]) jd_Match_pairUp_120 rfl (Nat.le_of_ble_eq_true rfl) ⟨rfl, rfl, rfl, rfl, rfl, trivial⟩ rfl ?_
          refine jw_goto (tgt := 27) jd_Match_pairUp_123 (by decide) ?_
          rw [hT _ (by omega), hT _ (by omega)] at q4
          rw [if_neg q3, if_neg (by omega)] at he
          exact ih i (j + 1) s F G (by omega) (by omega) (by omega) hT hB hA he hF
        · refine zx_iinc (pc' := 117) (lc' := [(0, _), (1, _), (2, _), (3, _), (4, _)]) jd_Match_pairUp_114 rfl (Nat.le_of_ble_eq_true rfl) ⟨rfl, rfl, rfl, rfl, rfl, trivial⟩ rfl ?_
          refine jw_goto (tgt := 27) jd_Match_pairUp_117 (by decide) ?_
          rw [hT _ (by omega), hT _ (by omega)] at q4
          rw [if_neg q3, if_pos (by omega)] at he
          exact ih (i + 1) j s F G (by omega) (by omega) (by omega) hT hB hA he hF
      · refine jw_aload_n (pc' := 59) jd_Match_pairUp_58 rfl rfl rfl ?_
        refine jw_get (pc' := 62) (kf := 1) jc_Match (by decide) jq_157 jd_Match_pairUp_59 (mc_Match _ (by assumption)) rfl rfl ?_
        refine jw_iload_n (pc' := 63) jd_Match_pairUp_62 rfl rfl rfl ?_
        refine jw_iload (pc' := 65) jd_Match_pairUp_63 rfl rfl ?_
        refine zx_iast (pc' := 66) jd_Match_pairUp_65 (ml_Match_partnersInB _ (by assumption)) rfl (by omega) (Nat.le_of_ble_eq_true rfl) rfl ?_
        refine jw_aload_n (pc' := 67) jd_Match_pairUp_66 rfl rfl rfl ?_
        refine jw_get (pc' := 70) (kf := 2) jc_Match (by decide) jq_158 jd_Match_pairUp_67 (mc_Match _ (by assumption)) rfl rfl ?_
        refine jw_iload (pc' := 72) jd_Match_pairUp_70 rfl rfl ?_
        refine jw_iload_n (pc' := 73) jd_Match_pairUp_72 rfl rfl rfl ?_
        refine zx_iast (pc' := 74) jd_Match_pairUp_73 (ml_Match_partnersInA _ (by assumption)) rfl (by omega) (Nat.le_of_ble_eq_true rfl) rfl ?_
        refine zx_iinc (pc' := 77) (lc' := [(0, _), (1, _), (2, _), (3, _), (4, _)]) jd_Match_pairUp_74 rfl (Nat.le_of_ble_eq_true rfl) ⟨rfl, rfl, rfl, rfl, rfl, trivial⟩ rfl ?_
        refine zx_iinc (pc' := 80) (lc' := [(0, _), (1, _), (2, _), (3, _), (4, _)]) jd_Match_pairUp_77 rfl (Nat.le_of_ble_eq_true rfl) ⟨rfl, rfl, rfl, rfl, rfl, trivial⟩ rfl ?_
        refine jw_goto (tgt := 27) jd_Match_pairUp_80 (by decide) ?_
        rw [if_pos q3] at he
        refine ih (i + 1) (j + 1) _ _ _ (by omega) (by omega) (by omega) (fun q hq => ?_) (fun q hq => ?_) (fun q hq => ?_) he ((hF.si (by omega)).si (by omega))
        · rw [iv_si (by omega), if_neg (by omega), iv_si (by omega), if_neg (by omega)]; exact hT q hq
        · rw [iv_si (by omega), if_neg (by omega), iv_si (by omega)]
          by_cases q9 : q = i
          · rw [if_pos ⟨rfl, q9⟩, if_pos q9]
          · rw [if_neg (fun z => q9 z.2), if_neg q9]; exact hB q hq
        · rw [iv_si (by omega)]
          by_cases q9 : q = j
          · rw [if_pos ⟨rfl, q9⟩, if_pos q9]
          · rw [if_neg (fun z => q9 z.2), if_neg q9, iv_si (by omega), if_neg (by omega)]; exact hA q hq
  refine loop 21 0 0 s3 (fun _ => -1) (fun _ => -1) (by omega) (by omega) (by omega) (fun q hq => ?_) h5 (fun q hq => ?_) rfl hF3
  · rw [iv_cell (f3 _ (by omega)), iv_cell (f2 _ (by omega))]; exact h1 q hq
  · rw [iv_cell (f3 _ (by omega))]; exact h4 q hq
end
