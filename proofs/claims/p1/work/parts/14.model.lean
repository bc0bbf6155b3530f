theorem jd_BranchworkModel_init_0 : decode mi_BranchworkModel_init.2.1 0 = .ok (.aload_n 0, 1) := by decide +kernel
theorem jd_BranchworkModel_init_1 : decode mi_BranchworkModel_init.2.1 1 = .ok (.invokespecial 21, 3) := by decide +kernel
theorem jd_BranchworkModel_init_4 : decode mi_BranchworkModel_init.2.1 4 = .ok (.aload_n 0, 1) := by decide +kernel
theorem jd_BranchworkModel_init_5 : decode mi_BranchworkModel_init.2.1 5 = .ok (.new 27, 3) := by decide +kernel
theorem jd_BranchworkModel_init_8 : decode mi_BranchworkModel_init.2.1 8 = .ok (.dup, 1) := by decide +kernel
theorem jd_BranchworkModel_init_9 : decode mi_BranchworkModel_init.2.1 9 = .ok (.invokespecial 29, 3) := by decide +kernel
theorem jd_BranchworkModel_init_12 : decode mi_BranchworkModel_init.2.1 12 = .ok (.putfield 30, 3) := by decide +kernel
theorem jd_BranchworkModel_init_15 : decode mi_BranchworkModel_init.2.1 15 = .ok (.aload_n 0, 1) := by decide +kernel
theorem jd_BranchworkModel_init_16 : decode mi_BranchworkModel_init.2.1 16 = .ok (.new 27, 3) := by decide +kernel
theorem jd_BranchworkModel_init_19 : decode mi_BranchworkModel_init.2.1 19 = .ok (.dup, 1) := by decide +kernel
theorem jd_BranchworkModel_init_20 : decode mi_BranchworkModel_init.2.1 20 = .ok (.invokespecial 29, 3) := by decide +kernel
theorem jd_BranchworkModel_init_23 : decode mi_BranchworkModel_init.2.1 23 = .ok (.putfield 34, 3) := by decide +kernel
theorem jd_BranchworkModel_init_26 : decode mi_BranchworkModel_init.2.1 26 = .ok (.aload_n 0, 1) := by decide +kernel
theorem jd_BranchworkModel_init_27 : decode mi_BranchworkModel_init.2.1 27 = .ok (.new 37, 3) := by decide +kernel
theorem jd_BranchworkModel_init_30 : decode mi_BranchworkModel_init.2.1 30 = .ok (.dup, 1) := by decide +kernel
theorem jd_BranchworkModel_init_31 : decode mi_BranchworkModel_init.2.1 31 = .ok (.invokespecial 39, 3) := by decide +kernel
theorem jd_BranchworkModel_init_34 : decode mi_BranchworkModel_init.2.1 34 = .ok (.putfield 40, 3) := by decide +kernel
theorem jd_BranchworkModel_init_37 : decode mi_BranchworkModel_init.2.1 37 = .ok (.aload_n 0, 1) := by decide +kernel
theorem jd_BranchworkModel_init_38 : decode mi_BranchworkModel_init.2.1 38 = .ok (.new 27, 3) := by decide +kernel
theorem jd_BranchworkModel_init_41 : decode mi_BranchworkModel_init.2.1 41 = .ok (.dup, 1) := by decide +kernel
theorem jd_BranchworkModel_init_42 : decode mi_BranchworkModel_init.2.1 42 = .ok (.invokespecial 29, 3) := by decide +kernel
theorem jd_BranchworkModel_init_45 : decode mi_BranchworkModel_init.2.1 45 = .ok (.putfield 44, 3) := by decide +kernel
theorem jd_BranchworkModel_init_48 : decode mi_BranchworkModel_init.2.1 48 = .ok (.aload_n 0, 1) := by decide +kernel
theorem jd_BranchworkModel_init_49 : decode mi_BranchworkModel_init.2.1 49 = .ok (.getfield 34, 3) := by decide +kernel
theorem jd_BranchworkModel_init_52 : decode mi_BranchworkModel_init.2.1 52 = .ok (.aconst_null, 1) := by decide +kernel
theorem jd_BranchworkModel_init_53 : decode mi_BranchworkModel_init.2.1 53 = .ok (.invokevirtual 47, 3) := by decide +kernel
theorem jd_BranchworkModel_init_56 : decode mi_BranchworkModel_init.2.1 56 = .ok (.pop, 1) := by decide +kernel
theorem jd_BranchworkModel_init_57 : decode mi_BranchworkModel_init.2.1 57 = .ok (.return_, 1) := by decide +kernel
theorem jd_MTree_init_0 : decode mi_MTree_init.2.1 0 = .ok (.aload_n 0, 1) := by decide +kernel
theorem jd_MTree_init_1 : decode mi_MTree_init.2.1 1 = .ok (.invokespecial 3, 3) := by decide +kernel
theorem jd_MTree_init_4 : decode mi_MTree_init.2.1 4 = .ok (.aload_n 0, 1) := by decide +kernel
theorem jd_MTree_init_5 : decode mi_MTree_init.2.1 5 = .ok (.bipush 12, 2) := by decide +kernel
theorem jd_MTree_init_7 : decode mi_MTree_init.2.1 7 = .ok (.anewarray 9, 3) := by decide +kernel
theorem jd_MTree_init_10 : decode mi_MTree_init.2.1 10 = .ok (.putfield 11, 3) := by decide +kernel
theorem jd_MTree_init_13 : decode mi_MTree_init.2.1 13 = .ok (.return_, 1) := by decide +kernel
theorem jd_MTree_has_0 : decode mi_MTree_has.2.1 0 = .ok (.aload_n 0, 1) := by decide +kernel
theorem jd_MTree_has_1 : decode mi_MTree_has.2.1 1 = .ok (.getfield 11, 3) := by decide +kernel
theorem jd_MTree_has_4 : decode mi_MTree_has.2.1 4 = .ok (.iload_n 1, 1) := by decide +kernel
theorem jd_MTree_has_5 : decode mi_MTree_has.2.1 5 = .ok (.aaload, 1) := by decide +kernel
theorem jd_MTree_has_6 : decode mi_MTree_has.2.1 6 = .ok (.ifnull 7, 3) := by decide +kernel
theorem jd_MTree_has_9 : decode mi_MTree_has.2.1 9 = .ok (.iconst 1, 1) := by decide +kernel
theorem jd_MTree_has_10 : decode mi_MTree_has.2.1 10 = .ok (.goto 4, 3) := by decide +kernel
theorem jd_MTree_has_13 : decode mi_MTree_has.2.1 13 = .ok (.iconst 0, 1) := by decide +kernel
theorem jd_MTree_has_14 : decode mi_MTree_has.2.1 14 = .ok (.ireturn, 1) := by decide +kernel
theorem jd_MTree_isAs_0 : decode mi_MTree_isAs.2.1 0 = .ok (.iconst 0, 1) := by decide +kernel
theorem jd_MTree_isAs_1 : decode mi_MTree_isAs.2.1 1 = .ok (.istore_n 2, 1) := by decide +kernel
theorem jd_MTree_isAs_2 : decode mi_MTree_isAs.2.1 2 = .ok (.iload_n 2, 1) := by decide +kernel
theorem jd_MTree_isAs_3 : decode mi_MTree_isAs.2.1 3 = .ok (.bipush 12, 2) := by decide +kernel
theorem jd_MTree_isAs_5 : decode mi_MTree_isAs.2.1 5 = .ok (.if_icmp .ge 29, 3) := by decide +kernel
theorem jd_MTree_isAs_8 : decode mi_MTree_isAs.2.1 8 = .ok (.aload_n 0, 1) := by decide +kernel
theorem jd_MTree_isAs_9 : decode mi_MTree_isAs.2.1 9 = .ok (.getfield 11, 3) := by decide +kernel
theorem jd_MTree_isAs_12 : decode mi_MTree_isAs.2.1 12 = .ok (.iload_n 2, 1) := by decide +kernel
theorem jd_MTree_isAs_13 : decode mi_MTree_isAs.2.1 13 = .ok (.aaload, 1) := by decide +kernel
theorem jd_MTree_isAs_14 : decode mi_MTree_isAs.2.1 14 = .ok (.aload_n 1, 1) := by decide +kernel
theorem jd_MTree_isAs_15 : decode mi_MTree_isAs.2.1 15 = .ok (.getfield 11, 3) := by decide +kernel
theorem jd_MTree_isAs_18 : decode mi_MTree_isAs.2.1 18 = .ok (.iload_n 2, 1) := by decide +kernel
theorem jd_MTree_isAs_19 : decode mi_MTree_isAs.2.1 19 = .ok (.aaload, 1) := by decide +kernel
theorem jd_MTree_isAs_20 : decode mi_MTree_isAs.2.1 20 = .ok (.invokestatic 24, 3) := by decide +kernel
theorem jd_MTree_isAs_23 : decode mi_MTree_isAs.2.1 23 = .ok (.ifCond .ne 5, 3) := by decide +kernel
theorem jd_MTree_isAs_26 : decode mi_MTree_isAs.2.1 26 = .ok (.iconst 0, 1) := by decide +kernel
theorem jd_MTree_isAs_27 : decode mi_MTree_isAs.2.1 27 = .ok (.ireturn, 1) := by decide +kernel
theorem jd_MTree_isAs_28 : decode mi_MTree_isAs.2.1 28 = .ok (.iinc 2 1, 3) := by decide +kernel
theorem jd_MTree_isAs_31 : decode mi_MTree_isAs.2.1 31 = .ok (.goto (-29), 3) := by decide +kernel
theorem jd_MTree_isAs_34 : decode mi_MTree_isAs.2.1 34 = .ok (.iconst 1, 1) := by decide +kernel
theorem jd_MTree_isAs_35 : decode mi_MTree_isAs.2.1 35 = .ok (.ireturn, 1) := by decide +kernel
theorem jd_MTree_size_0 : decode mi_MTree_size.2.1 0 = .ok (.iconst 0, 1) := by decide +kernel
theorem jd_MTree_size_1 : decode mi_MTree_size.2.1 1 = .ok (.istore_n 1, 1) := by decide +kernel
theorem jd_MTree_size_2 : decode mi_MTree_size.2.1 2 = .ok (.iconst 0, 1) := by decide +kernel
theorem jd_MTree_size_3 : decode mi_MTree_size.2.1 3 = .ok (.istore_n 2, 1) := by decide +kernel
theorem jd_MTree_size_4 : decode mi_MTree_size.2.1 4 = .ok (.iload_n 2, 1) := by decide +kernel
theorem jd_MTree_size_5 : decode mi_MTree_size.2.1 5 = .ok (.bipush 12, 2) := by decide +kernel
theorem jd_MTree_size_7 : decode mi_MTree_size.2.1 7 = .ok (.if_icmp .ge 25, 3) := by decide +kernel
theorem jd_MTree_size_10 : decode mi_MTree_size.2.1 10 = .ok (.iload_n 1, 1) := by decide +kernel
theorem jd_MTree_size_11 : decode mi_MTree_size.2.1 11 = .ok (.aload_n 0, 1) := by decide +kernel
theorem jd_MTree_size_12 : decode mi_MTree_size.2.1 12 = .ok (.iload_n 2, 1) := by decide +kernel
theorem jd_MTree_size_13 : decode mi_MTree_size.2.1 13 = .ok (.invokevirtual 28, 3) := by decide +kernel
theorem jd_MTree_size_16 : decode mi_MTree_size.2.1 16 = .ok (.ifCond .eq 7, 3) := by decide +kernel
theorem jd_MTree_size_19 : decode mi_MTree_size.2.1 19 = .ok (.iconst 1, 1) := by decide +kernel
theorem jd_MTree_size_20 : decode mi_MTree_size.2.1 20 = .ok (.goto 4, 3) := by decide +kernel
theorem jd_MTree_size_23 : decode mi_MTree_size.2.1 23 = .ok (.iconst 0, 1) := by decide +kernel
theorem jd_MTree_size_24 : decode mi_MTree_size.2.1 24 = .ok (.iadd, 1) := by decide +kernel
theorem jd_MTree_size_25 : decode mi_MTree_size.2.1 25 = .ok (.istore_n 1, 1) := by decide +kernel
theorem jd_MTree_size_26 : decode mi_MTree_size.2.1 26 = .ok (.iinc 2 1, 3) := by decide +kernel
theorem jd_MTree_size_29 : decode mi_MTree_size.2.1 29 = .ok (.goto (-25), 3) := by decide +kernel
theorem jd_MTree_size_32 : decode mi_MTree_size.2.1 32 = .ok (.iload_n 1, 1) := by decide +kernel
theorem jd_MTree_size_33 : decode mi_MTree_size.2.1 33 = .ok (.ireturn, 1) := by decide +kernel
theorem jd_BranchworkModel_areSame_0 : decode mi_BranchworkModel_areSame.2.1 0 = .ok (.aload_n 0, 1) := by decide +kernel
theorem jd_BranchworkModel_areSame_1 : decode mi_BranchworkModel_areSame.2.1 1 = .ok (.ifnull 7, 3) := by decide +kernel
theorem jd_BranchworkModel_areSame_4 : decode mi_BranchworkModel_areSame.2.1 4 = .ok (.aload_n 1, 1) := by decide +kernel
theorem jd_BranchworkModel_areSame_5 : decode mi_BranchworkModel_areSame.2.1 5 = .ok (.ifnonnull 14, 3) := by decide +kernel
theorem jd_BranchworkModel_areSame_8 : decode mi_BranchworkModel_areSame.2.1 8 = .ok (.aload_n 0, 1) := by decide +kernel
theorem jd_BranchworkModel_areSame_9 : decode mi_BranchworkModel_areSame.2.1 9 = .ok (.aload_n 1, 1) := by decide +kernel
theorem jd_BranchworkModel_areSame_10 : decode mi_BranchworkModel_areSame.2.1 10 = .ok (.if_acmp .ne 7, 3) := by decide +kernel
theorem jd_BranchworkModel_areSame_13 : decode mi_BranchworkModel_areSame.2.1 13 = .ok (.iconst 1, 1) := by decide +kernel
theorem jd_BranchworkModel_areSame_14 : decode mi_BranchworkModel_areSame.2.1 14 = .ok (.goto 4, 3) := by decide +kernel
theorem jd_BranchworkModel_areSame_17 : decode mi_BranchworkModel_areSame.2.1 17 = .ok (.iconst 0, 1) := by decide +kernel
theorem jd_BranchworkModel_areSame_18 : decode mi_BranchworkModel_areSame.2.1 18 = .ok (.ireturn, 1) := by decide +kernel
theorem jd_BranchworkModel_areSame_19 : decode mi_BranchworkModel_areSame.2.1 19 = .ok (.aload_n 0, 1) := by decide +kernel
theorem jd_BranchworkModel_areSame_20 : decode mi_BranchworkModel_areSame.2.1 20 = .ok (.arraylength, 1) := by decide +kernel
theorem jd_BranchworkModel_areSame_21 : decode mi_BranchworkModel_areSame.2.1 21 = .ok (.aload_n 1, 1) := by decide +kernel
theorem jd_BranchworkModel_areSame_22 : decode mi_BranchworkModel_areSame.2.1 22 = .ok (.arraylength, 1) := by decide +kernel
theorem jd_BranchworkModel_areSame_23 : decode mi_BranchworkModel_areSame.2.1 23 = .ok (.if_icmp .eq 5, 3) := by decide +kernel
theorem jd_BranchworkModel_areSame_26 : decode mi_BranchworkModel_areSame.2.1 26 = .ok (.iconst 0, 1) := by decide +kernel
theorem jd_BranchworkModel_areSame_27 : decode mi_BranchworkModel_areSame.2.1 27 = .ok (.ireturn, 1) := by decide +kernel
theorem jd_BranchworkModel_areSame_28 : decode mi_BranchworkModel_areSame.2.1 28 = .ok (.iconst 0, 1) := by decide +kernel
theorem jd_BranchworkModel_areSame_29 : decode mi_BranchworkModel_areSame.2.1 29 = .ok (.istore_n 2, 1) := by decide +kernel
theorem jd_BranchworkModel_areSame_30 : decode mi_BranchworkModel_areSame.2.1 30 = .ok (.iload_n 2, 1) := by decide +kernel
theorem jd_BranchworkModel_areSame_31 : decode mi_BranchworkModel_areSame.2.1 31 = .ok (.aload_n 0, 1) := by decide +kernel
theorem jd_BranchworkModel_areSame_32 : decode mi_BranchworkModel_areSame.2.1 32 = .ok (.arraylength, 1) := by decide +kernel
theorem jd_BranchworkModel_areSame_33 : decode mi_BranchworkModel_areSame.2.1 33 = .ok (.if_icmp .ge 20, 3) := by decide +kernel
theorem jd_BranchworkModel_areSame_36 : decode mi_BranchworkModel_areSame.2.1 36 = .ok (.aload_n 0, 1) := by decide +kernel
theorem jd_BranchworkModel_areSame_37 : decode mi_BranchworkModel_areSame.2.1 37 = .ok (.iload_n 2, 1) := by decide +kernel
theorem jd_BranchworkModel_areSame_38 : decode mi_BranchworkModel_areSame.2.1 38 = .ok (.iaload, 1) := by decide +kernel
theorem jd_BranchworkModel_areSame_39 : decode mi_BranchworkModel_areSame.2.1 39 = .ok (.aload_n 1, 1) := by decide +kernel
theorem jd_BranchworkModel_areSame_40 : decode mi_BranchworkModel_areSame.2.1 40 = .ok (.iload_n 2, 1) := by decide +kernel
theorem jd_BranchworkModel_areSame_41 : decode mi_BranchworkModel_areSame.2.1 41 = .ok (.iaload, 1) := by decide +kernel
theorem jd_BranchworkModel_areSame_42 : decode mi_BranchworkModel_areSame.2.1 42 = .ok (.if_icmp .eq 5, 3) := by decide +kernel
theorem jd_BranchworkModel_areSame_45 : decode mi_BranchworkModel_areSame.2.1 45 = .ok (.iconst 0, 1) := by decide +kernel
theorem jd_BranchworkModel_areSame_46 : decode mi_BranchworkModel_areSame.2.1 46 = .ok (.ireturn, 1) := by decide +kernel
theorem jd_BranchworkModel_areSame_47 : decode mi_BranchworkModel_areSame.2.1 47 = .ok (.iinc 2 1, 3) := by decide +kernel
theorem jd_BranchworkModel_areSame_50 : decode mi_BranchworkModel_areSame.2.1 50 = .ok (.goto (-20), 3) := by decide +kernel
theorem jd_BranchworkModel_areSame_53 : decode mi_BranchworkModel_areSame.2.1 53 = .ok (.iconst 1, 1) := by decide +kernel
theorem jd_BranchworkModel_areSame_54 : decode mi_BranchworkModel_areSame.2.1 54 = .ok (.ireturn, 1) := by decide +kernel
theorem jd_BranchworkModel_thrown_0 : decode mi_BranchworkModel_thrown.2.1 0 = .ok (.aload_n 0, 1) := by decide +kernel
theorem jd_BranchworkModel_thrown_1 : decode mi_BranchworkModel_thrown.2.1 1 = .ok (.getfield 51, 3) := by decide +kernel
theorem jd_BranchworkModel_thrown_4 : decode mi_BranchworkModel_thrown.2.1 4 = .ok (.ireturn, 1) := by decide +kernel
theorem jd_BranchworkModel_isIn_0 : decode mi_BranchworkModel_isIn.2.1 0 = .ok (.iload_n 0, 1) := by decide +kernel
theorem jd_BranchworkModel_isIn_1 : decode mi_BranchworkModel_isIn.2.1 1 = .ok (.iload_n 1, 1) := by decide +kernel
theorem jd_BranchworkModel_isIn_2 : decode mi_BranchworkModel_isIn.2.1 2 = .ok (.if_icmp .lt 12, 3) := by decide +kernel
theorem jd_BranchworkModel_isIn_5 : decode mi_BranchworkModel_isIn.2.1 5 = .ok (.iload_n 0, 1) := by decide +kernel
theorem jd_BranchworkModel_isIn_6 : decode mi_BranchworkModel_isIn.2.1 6 = .ok (.iload_n 2, 1) := by decide +kernel
theorem jd_BranchworkModel_isIn_7 : decode mi_BranchworkModel_isIn.2.1 7 = .ok (.if_icmp .gt 7, 3) := by decide +kernel
theorem jd_BranchworkModel_isIn_10 : decode mi_BranchworkModel_isIn.2.1 10 = .ok (.iconst 1, 1) := by decide +kernel
theorem jd_BranchworkModel_isIn_11 : decode mi_BranchworkModel_isIn.2.1 11 = .ok (.goto 4, 3) := by decide +kernel
theorem jd_BranchworkModel_isIn_14 : decode mi_BranchworkModel_isIn.2.1 14 = .ok (.iconst 0, 1) := by decide +kernel
theorem jd_BranchworkModel_isIn_15 : decode mi_BranchworkModel_isIn.2.1 15 = .ok (.ireturn, 1) := by decide +kernel
theorem jd_BranchworkModel_refuse_0 : decode mi_BranchworkModel_refuse.2.1 0 = .ok (.iload_n 1, 1) := by decide +kernel
theorem jd_BranchworkModel_refuse_1 : decode mi_BranchworkModel_refuse.2.1 1 = .ok (.ifCond .eq 15, 3) := by decide +kernel
theorem jd_BranchworkModel_refuse_4 : decode mi_BranchworkModel_refuse.2.1 4 = .ok (.aload_n 0, 1) := by decide +kernel
theorem jd_BranchworkModel_refuse_5 : decode mi_BranchworkModel_refuse.2.1 5 = .ok (.getfield 51, 3) := by decide +kernel
theorem jd_BranchworkModel_refuse_8 : decode mi_BranchworkModel_refuse.2.1 8 = .ok (.ifCond .ne 8, 3) := by decide +kernel
theorem jd_BranchworkModel_refuse_11 : decode mi_BranchworkModel_refuse.2.1 11 = .ok (.aload_n 0, 1) := by decide +kernel
theorem jd_BranchworkModel_refuse_12 : decode mi_BranchworkModel_refuse.2.1 12 = .ok (.iload_n 2, 1) := by decide +kernel
theorem jd_BranchworkModel_refuse_13 : decode mi_BranchworkModel_refuse.2.1 13 = .ok (.putfield 51, 3) := by decide +kernel
theorem jd_BranchworkModel_refuse_16 : decode mi_BranchworkModel_refuse.2.1 16 = .ok (.aload_n 0, 1) := by decide +kernel
theorem jd_BranchworkModel_refuse_17 : decode mi_BranchworkModel_refuse.2.1 17 = .ok (.getfield 51, 3) := by decide +kernel
theorem jd_BranchworkModel_refuse_20 : decode mi_BranchworkModel_refuse.2.1 20 = .ok (.ifCond .le 7, 3) := by decide +kernel
theorem jd_BranchworkModel_refuse_23 : decode mi_BranchworkModel_refuse.2.1 23 = .ok (.iconst 1, 1) := by decide +kernel
theorem jd_BranchworkModel_refuse_24 : decode mi_BranchworkModel_refuse.2.1 24 = .ok (.goto 4, 3) := by decide +kernel
theorem jd_BranchworkModel_refuse_27 : decode mi_BranchworkModel_refuse.2.1 27 = .ok (.iconst 0, 1) := by decide +kernel
theorem jd_BranchworkModel_refuse_28 : decode mi_BranchworkModel_refuse.2.1 28 = .ok (.ireturn, 1) := by decide +kernel
theorem jd_BranchworkModel_start_0 : decode mi_BranchworkModel_start.2.1 0 = .ok (.aload_n 0, 1) := by decide +kernel
theorem jd_BranchworkModel_start_1 : decode mi_BranchworkModel_start.2.1 1 = .ok (.iconst 0, 1) := by decide +kernel
theorem jd_BranchworkModel_start_2 : decode mi_BranchworkModel_start.2.1 2 = .ok (.putfield 51, 3) := by decide +kernel
theorem jd_BranchworkModel_start_5 : decode mi_BranchworkModel_start.2.1 5 = .ok (.aload_n 0, 1) := by decide +kernel
theorem jd_BranchworkModel_start_6 : decode mi_BranchworkModel_start.2.1 6 = .ok (.iload_n 1, 1) := by decide +kernel
theorem jd_BranchworkModel_start_7 : decode mi_BranchworkModel_start.2.1 7 = .ok (.iload_n 2, 1) := by decide +kernel
theorem jd_BranchworkModel_start_8 : decode mi_BranchworkModel_start.2.1 8 = .ok (.invokevirtual 55, 3) := by decide +kernel
theorem jd_BranchworkModel_start_11 : decode mi_BranchworkModel_start.2.1 11 = .ok (.ireturn, 1) := by decide +kernel
theorem jd_BranchworkModel_isNoPath_0 : decode mi_BranchworkModel_isNoPath.2.1 0 = .ok (.iload_n 0, 1) := by decide +kernel
theorem jd_BranchworkModel_isNoPath_1 : decode mi_BranchworkModel_isNoPath.2.1 1 = .ok (.iconst 0, 1) := by decide +kernel
theorem jd_BranchworkModel_isNoPath_2 : decode mi_BranchworkModel_isNoPath.2.1 2 = .ok (.bipush 11, 2) := by decide +kernel
theorem jd_BranchworkModel_isNoPath_4 : decode mi_BranchworkModel_isNoPath.2.1 4 = .ok (.invokestatic 59, 3) := by decide +kernel
theorem jd_BranchworkModel_isNoPath_7 : decode mi_BranchworkModel_isNoPath.2.1 7 = .ok (.ifCond .ne 7, 3) := by decide +kernel
theorem jd_BranchworkModel_isNoPath_10 : decode mi_BranchworkModel_isNoPath.2.1 10 = .ok (.iconst 1, 1) := by decide +kernel
theorem jd_BranchworkModel_isNoPath_11 : decode mi_BranchworkModel_isNoPath.2.1 11 = .ok (.goto 4, 3) := by decide +kernel
theorem jd_BranchworkModel_isNoPath_14 : decode mi_BranchworkModel_isNoPath.2.1 14 = .ok (.iconst 0, 1) := by decide +kernel
theorem jd_BranchworkModel_isNoPath_15 : decode mi_BranchworkModel_isNoPath.2.1 15 = .ok (.ireturn, 1) := by decide +kernel
theorem jd_BranchworkModel_isNoFile_0 : decode mi_BranchworkModel_isNoFile.2.1 0 = .ok (.iload_n 1, 1) := by decide +kernel
theorem jd_BranchworkModel_isNoFile_1 : decode mi_BranchworkModel_isNoFile.2.1 1 = .ok (.invokestatic 63, 3) := by decide +kernel
theorem jd_BranchworkModel_isNoFile_4 : decode mi_BranchworkModel_isNoFile.2.1 4 = .ok (.ifCond .ne 14, 3) := by decide +kernel
theorem jd_BranchworkModel_isNoFile_7 : decode mi_BranchworkModel_isNoFile.2.1 7 = .ok (.aload_n 0, 1) := by decide +kernel
theorem jd_BranchworkModel_isNoFile_8 : decode mi_BranchworkModel_isNoFile.2.1 8 = .ok (.getfield 40, 3) := by decide +kernel
theorem jd_BranchworkModel_isNoFile_11 : decode mi_BranchworkModel_isNoFile.2.1 11 = .ok (.iload_n 1, 1) := by decide +kernel
theorem jd_BranchworkModel_isNoFile_12 : decode mi_BranchworkModel_isNoFile.2.1 12 = .ok (.invokevirtual 67, 3) := by decide +kernel
theorem jd_BranchworkModel_isNoFile_15 : decode mi_BranchworkModel_isNoFile.2.1 15 = .ok (.ifCond .ne 7, 3) := by decide +kernel
theorem jd_BranchworkModel_isNoFile_18 : decode mi_BranchworkModel_isNoFile.2.1 18 = .ok (.iconst 1, 1) := by decide +kernel
theorem jd_BranchworkModel_isNoFile_19 : decode mi_BranchworkModel_isNoFile.2.1 19 = .ok (.goto 4, 3) := by decide +kernel
theorem jd_BranchworkModel_isNoFile_22 : decode mi_BranchworkModel_isNoFile.2.1 22 = .ok (.iconst 0, 1) := by decide +kernel
theorem jd_BranchworkModel_isNoFile_23 : decode mi_BranchworkModel_isNoFile.2.1 23 = .ok (.ireturn, 1) := by decide +kernel
theorem jd_BranchworkModel_isNoCommit_0 : decode mi_BranchworkModel_isNoCommit.2.1 0 = .ok (.iload_n 1, 1) := by decide +kernel
theorem jd_BranchworkModel_isNoCommit_1 : decode mi_BranchworkModel_isNoCommit.2.1 1 = .ok (.iconst 0, 1) := by decide +kernel
theorem jd_BranchworkModel_isNoCommit_2 : decode mi_BranchworkModel_isNoCommit.2.1 2 = .ok (.aload_n 0, 1) := by decide +kernel
theorem jd_BranchworkModel_isNoCommit_3 : decode mi_BranchworkModel_isNoCommit.2.1 3 = .ok (.getfield 30, 3) := by decide +kernel
theorem jd_BranchworkModel_isNoCommit_6 : decode mi_BranchworkModel_isNoCommit.2.1 6 = .ok (.invokevirtual 70, 3) := by decide +kernel
theorem jd_BranchworkModel_isNoCommit_9 : decode mi_BranchworkModel_isNoCommit.2.1 9 = .ok (.iconst 1, 1) := by decide +kernel
theorem jd_BranchworkModel_isNoCommit_10 : decode mi_BranchworkModel_isNoCommit.2.1 10 = .ok (.isub, 1) := by decide +kernel
theorem jd_BranchworkModel_isNoCommit_11 : decode mi_BranchworkModel_isNoCommit.2.1 11 = .ok (.invokestatic 59, 3) := by decide +kernel
theorem jd_BranchworkModel_isNoCommit_14 : decode mi_BranchworkModel_isNoCommit.2.1 14 = .ok (.ifCond .eq 20, 3) := by decide +kernel
theorem jd_BranchworkModel_isNoCommit_17 : decode mi_BranchworkModel_isNoCommit.2.1 17 = .ok (.aload_n 0, 1) := by decide +kernel
theorem jd_BranchworkModel_isNoCommit_18 : decode mi_BranchworkModel_isNoCommit.2.1 18 = .ok (.getfield 30, 3) := by decide +kernel
theorem jd_BranchworkModel_isNoCommit_21 : decode mi_BranchworkModel_isNoCommit.2.1 21 = .ok (.iload_n 1, 1) := by decide +kernel
theorem jd_BranchworkModel_isNoCommit_22 : decode mi_BranchworkModel_isNoCommit.2.1 22 = .ok (.invokevirtual 74, 3) := by decide +kernel
theorem jd_BranchworkModel_isNoCommit_25 : decode mi_BranchworkModel_isNoCommit.2.1 25 = .ok (.checkcast 78, 3) := by decide +kernel
theorem jd_BranchworkModel_isNoCommit_28 : decode mi_BranchworkModel_isNoCommit.2.1 28 = .ok (.getfield 80, 3) := by decide +kernel
theorem jd_BranchworkModel_isNoCommit_31 : decode mi_BranchworkModel_isNoCommit.2.1 31 = .ok (.ifCond .eq 7, 3) := by decide +kernel
theorem jd_BranchworkModel_isNoCommit_34 : decode mi_BranchworkModel_isNoCommit.2.1 34 = .ok (.iconst 1, 1) := by decide +kernel
theorem jd_BranchworkModel_isNoCommit_35 : decode mi_BranchworkModel_isNoCommit.2.1 35 = .ok (.goto 4, 3) := by decide +kernel
theorem jd_BranchworkModel_isNoCommit_38 : decode mi_BranchworkModel_isNoCommit.2.1 38 = .ok (.iconst 0, 1) := by decide +kernel
theorem jd_BranchworkModel_isNoCommit_39 : decode mi_BranchworkModel_isNoCommit.2.1 39 = .ok (.ireturn, 1) := by decide +kernel
theorem jd_BranchworkModel_head_0 : decode mi_BranchworkModel_head.2.1 0 = .ok (.aload_n 0, 1) := by decide +kernel
theorem jd_BranchworkModel_head_1 : decode mi_BranchworkModel_head.2.1 1 = .ok (.getfield 34, 3) := by decide +kernel
theorem jd_BranchworkModel_head_4 : decode mi_BranchworkModel_head.2.1 4 = .ok (.aload_n 0, 1) := by decide +kernel
theorem jd_BranchworkModel_head_5 : decode mi_BranchworkModel_head.2.1 5 = .ok (.getfield 84, 3) := by decide +kernel
theorem jd_BranchworkModel_head_8 : decode mi_BranchworkModel_head.2.1 8 = .ok (.invokevirtual 74, 3) := by decide +kernel
theorem jd_BranchworkModel_head_11 : decode mi_BranchworkModel_head.2.1 11 = .ok (.checkcast 78, 3) := by decide +kernel
theorem jd_BranchworkModel_head_14 : decode mi_BranchworkModel_head.2.1 14 = .ok (.areturn, 1) := by decide +kernel
theorem jd_BranchworkModel_headTree_0 : decode mi_BranchworkModel_headTree.2.1 0 = .ok (.aload_n 0, 1) := by decide +kernel
theorem jd_BranchworkModel_headTree_1 : decode mi_BranchworkModel_headTree.2.1 1 = .ok (.invokevirtual 87, 3) := by decide +kernel
theorem jd_BranchworkModel_headTree_4 : decode mi_BranchworkModel_headTree.2.1 4 = .ok (.ifnonnull 13, 3) := by decide +kernel
theorem jd_BranchworkModel_headTree_7 : decode mi_BranchworkModel_headTree.2.1 7 = .ok (.new 37, 3) := by decide +kernel
theorem jd_BranchworkModel_headTree_10 : decode mi_BranchworkModel_headTree.2.1 10 = .ok (.dup, 1) := by decide +kernel
theorem jd_BranchworkModel_headTree_11 : decode mi_BranchworkModel_headTree.2.1 11 = .ok (.invokespecial 39, 3) := by decide +kernel
theorem jd_BranchworkModel_headTree_14 : decode mi_BranchworkModel_headTree.2.1 14 = .ok (.goto 10, 3) := by decide +kernel
theorem jd_BranchworkModel_headTree_17 : decode mi_BranchworkModel_headTree.2.1 17 = .ok (.aload_n 0, 1) := by decide +kernel
theorem jd_BranchworkModel_headTree_18 : decode mi_BranchworkModel_headTree.2.1 18 = .ok (.invokevirtual 87, 3) := by decide +kernel
theorem jd_BranchworkModel_headTree_21 : decode mi_BranchworkModel_headTree.2.1 21 = .ok (.getfield 91, 3) := by decide +kernel
theorem jd_BranchworkModel_headTree_24 : decode mi_BranchworkModel_headTree.2.1 24 = .ok (.areturn, 1) := by decide +kernel
theorem jd_BranchworkModel_isClean_0 : decode mi_BranchworkModel_isClean.2.1 0 = .ok (.aload_n 0, 1) := by decide +kernel
theorem jd_BranchworkModel_isClean_1 : decode mi_BranchworkModel_isClean.2.1 1 = .ok (.getfield 40, 3) := by decide +kernel
theorem jd_BranchworkModel_isClean_4 : decode mi_BranchworkModel_isClean.2.1 4 = .ok (.aload_n 0, 1) := by decide +kernel
theorem jd_BranchworkModel_isClean_5 : decode mi_BranchworkModel_isClean.2.1 5 = .ok (.invokevirtual 94, 3) := by decide +kernel
theorem jd_BranchworkModel_isClean_8 : decode mi_BranchworkModel_isClean.2.1 8 = .ok (.invokevirtual 98, 3) := by decide +kernel
theorem jd_BranchworkModel_isClean_11 : decode mi_BranchworkModel_isClean.2.1 11 = .ok (.ireturn, 1) := by decide +kernel
/-- the reference's tree without files: 2 cells -/
def bz_At (o : jw_O) (μ : jw_Mem) (t : Nat) : Prop := μ t = some (.inr (10, [.ref (t + 1)])) ∧ ∃ f : Nat → Option Nat, μ (t + 1) = some (.inl (o.2.2.1 5, 12, .inr (.inr (.inr (.inr f))))) ∧ ∀ p, p < 12 → f p = none
/-- the reference as it is made, with 'thrown' th: 7 cells -/
def bq_At (o : jw_O) (μ : jw_Mem) (r : Nat) (th : Int32) : Prop :=
  μ r = some (.inr (9, [.int th, .ref (r + 1), .ref (r + 2), .int 0, .ref (r + 3), .null, .ref (r + 5)])) ∧ bl_At μ (r + 1) o.2.2.2.2 0 ∧ bl_At μ (r + 2) (r + 6) 1 ∧ bz_At o μ (r + 3) ∧ bl_At μ (r + 5) o.2.2.2.2 0 ∧ ∃ f : Nat → Option Nat, μ (r + 6) = some (.inl (o.2.2.1 6, 10, .inr (.inr (.inr (.inr f))))) ∧ f 0 = none
theorem bl_At.fr {μ μ' : jw_Mem} {a e n b m : Nat} (h : bl_At μ a e n) (q : jw_Fr μ μ' b m) (hd : a < b ∨ b + m ≤ a) : bl_At μ' a e n := by
  obtain ⟨c, h⟩ := h
  exact ⟨c, (q _ (by omega)).trans h⟩
theorem bz_At.fr {o : jw_O} {μ μ' : jw_Mem} {a b m : Nat} (h : bz_At o μ a) (q : jw_Fr μ μ' b m) (hd : a + 2 ≤ b ∨ b + m ≤ a) : bz_At o μ' a := by
  obtain ⟨h1, f, h2, h3⟩ := h
  exact ⟨(q _ (by omega)).trans h1, f, (q _ (by omega)).trans h2, h3⟩
theorem bz_At.nw {o : jw_O} {μ μ' : jw_Mem} {a h : Nat} (x : bz_At o μ a) (q : jw_Nw μ μ' h) (hd : a + 2 ≤ h) : bz_At o μ' a := by
  obtain ⟨h1, f, h2, h3⟩ := x
  exact ⟨(q _ (by omega)).trans h1, f, (q _ (by omega)).trans h2, h3⟩
theorem bl_At.nw {μ μ' : jw_Mem} {a e n h : Nat} (x : bl_At μ a e n) (q : jw_Nw μ μ' h) (hd : a < h) : bl_At μ' a e n := by
  obtain ⟨c, x⟩ := x
  exact ⟨c, (q _ hd).trans x⟩
theorem bq_At.nw {o : jw_O} {μ μ' : jw_Mem} {r h : Nat} {th : Int32} (x : bq_At o μ r th) (q : jw_Nw μ μ' h) (hd : r + 7 ≤ h) : bq_At o μ' r th := by
  obtain ⟨h1, h2, h3, h4, h5, f, h6, h7⟩ := x
  exact ⟨(q _ (by omega)).trans h1, h2.nw q (by omega), h3.nw q (by omega), h4.nw q (by omega), h5.nw q (by omega), f, (q _ (by omega)).trans h6, h7⟩
/-- only the reference's own cell has changed, and it holds th now -/
theorem bq_At.th {o : jw_O} {μ μ' : jw_Mem} {r : Nat} {th t2 : Int32} (x : bq_At o μ r th) (q : jw_Fr μ μ' r 1) (h : μ' r = some (.inr (9, [.int t2, .ref (r + 1), .ref (r + 2), .int 0, .ref (r + 3), .null, .ref (r + 5)]))) : bq_At o μ' r t2 := by
  obtain ⟨h1, h2, h3, h4, h5, f, h6, h7⟩ := x
  exact ⟨h, h2.fr q (by omega), h3.fr q (by omega), h4.fr q (by omega), h5.fr q (by omega), f, (q _ (by omega)).trans h6, h7⟩
theorem bl_At.raw {μ : jw_Mem} {a e n : Nat} (h : bl_At μ a e n) : ∃ c : Int32, μ a = some (.inr (11, [.int c, .ref e, .int (nI n)])) := h
section
variable {o : jw_O} {μ : jw_Mem} {hs r : Nat}
theorem bz_init {v : Value} (h0 : μ r = some (.inr (10, [v]))) : jw_Spec mi_MTree_init 1 1 12 o [.ref r] μ (r + 1) (fun v μ' s' => v = none ∧ s' = r + 2 ∧ bz_At o μ' r ∧ jw_Fr μ μ' r 2) := by
  refine jw_spec (by decide +kernel) (Nat.le_of_ble_eq_true rfl) rfl (fun k hR hE => ?_)
  have hF : jw_Fr μ μ r 2 := jw_Fr.rf
  refine jw_aload_n (pc' := 1) jd_MTree_init_0 rfl rfl rfl ?_
  refine jw_objInit (pc' := 4) hR jq_1060 jd_MTree_init_1 (Nat.le_of_ble_eq_true rfl) (by omega) rfl ?_
  refine jw_aload_n (pc' := 5) jd_MTree_init_4 rfl rfl rfl ?_
  refine jw_bipush (pc' := 7) (v := nI 12) jd_MTree_init_5 (by decide +kernel) rfl ?_
  refine jw_newqA (pc' := 10) (N := 12) hR jq_1061 jd_MTree_init_7 (by decide +kernel) (by decide +kernel) (by decide +kernel) (by omega) (by omega) rfl (fun μ h1 f9 => ?_)
  have hF := jw_Fr.step hF f9 (by omega)
  have h0 := (f9 _ (by omega)).trans h0
  refine jw_putF (pc' := 13) (kf := 0) (ty := (.array (.array .int))) (fs' := [_]) jc_MTree (by decide) jq_1063 jd_MTree_init_10 rfl rfl rfl (by decide +kernel) (by assumption) rfl rfl rfl (Nat.le_of_ble_eq_true rfl) rfl (fun μ h0 f9 => ?_)
  have h1 := (f9 _ (by omega)).trans h1
  have hF := jw_Fr.step hF f9 (by omega)
  refine jw_vret hE jd_MTree_init_13 rfl (by omega) (by omega) ?_
  exact ⟨rfl, rfl, ⟨h0, _, h1, fun _ _ => rfl⟩, hF⟩
theorem bz_has {t p : Nat} (h : bz_At o μ t) (hp : p < 12) : jw_Ro mi_MTree_has 0 o [.ref t, .int (nI p)] μ hs (some (.int (nI 0))) := by
  refine jw_ro (by decide +kernel) (Nat.le_of_ble_eq_true rfl) rfl (fun k hR hE => ?_)
  obtain ⟨h0, f, h1, hf⟩ := h
  refine jw_aload_n (pc' := 1) jd_MTree_has_0 rfl rfl rfl ?_
  refine jw_get (pc' := 4) (kf := 0) jc_MTree (by decide) jq_1063 jd_MTree_has_1 (by assumption) rfl rfl ?_
  refine jw_iload_n (pc' := 5) jd_MTree_has_4 rfl rfl rfl ?_
  refine jw_aaldA (pc' := 6) jd_MTree_has_5 h1 (vp_in_nI hp (by omega)) (by rw [nI_clamp (by omega), hf p hp]; rfl : va_rf (f (nI p).toNatClampNeg) = .null) rfl ?_
  refine jw_ifnullN (tgt := 13) jd_MTree_has_6 (by decide) ?_
  refine jw_iconst (pc' := 14) (v := nI 0) jd_MTree_has_13 (by decide +kernel) rfl ?_
  refine jw_zret hE jd_MTree_has_14 rfl (by first | exact vp_nar_int _ | decide +kernel) (by omega) (by omega) ?_
  exact ⟨rfl, rfl, rfl⟩
theorem bz_areSame : jw_Ro mi_BranchworkModel_areSame 0 o [.null, .null] μ hs (some (.int (nI 1))) := by
  refine jw_ro (by decide +kernel) (Nat.le_of_ble_eq_true rfl) rfl (fun k hR hE => ?_)
  refine jw_aload_nN (pc' := 1) jd_BranchworkModel_areSame_0 rfl rfl rfl ?_
  refine jw_ifnullN (tgt := 8) jd_BranchworkModel_areSame_1 (by decide) ?_
  refine jw_aload_nN (pc' := 9) jd_BranchworkModel_areSame_8 rfl rfl rfl ?_
  refine jw_aload_nN (pc' := 10) jd_BranchworkModel_areSame_9 rfl rfl rfl ?_
  refine jw_acmp_ne (tgt := 17) (pc' := 13) (rx := none) (ry := none) jd_BranchworkModel_areSame_10 (by decide) rfl (fun c => ?_) (fun c => ?_)
  · exact absurd rfl c
  refine jw_iconst (pc' := 14) (v := nI 1) jd_BranchworkModel_areSame_13 (by decide +kernel) rfl ?_
  refine jw_goto (tgt := 18) jd_BranchworkModel_areSame_14 (by decide) ?_
  refine jw_zret hE jd_BranchworkModel_areSame_18 rfl (by first | exact vp_nar_int _ | decide +kernel) (by omega) (by omega) ?_
  exact ⟨rfl, rfl, rfl⟩
theorem bz_isAs {t u : Nat} (h : bz_At o μ t) (h2 : bz_At o μ u) : jw_Ro mi_MTree_isAs 1 o [.ref t, .ref u] μ hs (some (.int (nI 1))) := by
  refine jw_ro (by decide +kernel) (Nat.le_of_ble_eq_true rfl) rfl (fun k hR hE => ?_)
  obtain ⟨h0, f, h1, hf⟩ := h
  obtain ⟨g0, g, g1, hg⟩ := h2
  refine jw_iconst (pc' := 1) (v := nI 0) jd_MTree_isAs_0 (by decide +kernel) rfl ?_
  refine jw_istore_n (pc' := 2) (lc' := [(0, _), (1, _), (2, _)]) jd_MTree_isAs_1 rfl (Nat.le_of_ble_eq_true rfl) ⟨rfl, rfl, rfl, trivial⟩ rfl ?_
  have loop : ∀ d i : Nat, i + d = 12 → jw_X mi_MTree_isAs o k 0 0 2 [(0, .ref t), (1, .ref u), (2, .int (nI i))] [] μ hs := by
    intro d
    induction d with
    | zero =>
      intro i hi
      refine jw_iload_n (pc' := 3) jd_MTree_isAs_2 rfl rfl rfl ?_
      refine jw_bipush (pc' := 5) (v := nI 12) jd_MTree_isAs_3 (by decide +kernel) rfl ?_
      refine jw_icmp_ge (tgt := 34) (pc' := 8) jd_MTree_isAs_5 (by decide) rfl (fun c => ?_) (fun c => ?_)
      · refine jw_iconst (pc' := 35) (v := nI 1) jd_MTree_isAs_34 (by decide +kernel) rfl ?_
        refine jw_zret hE jd_MTree_isAs_35 rfl (by first | exact vp_nar_int _ | decide +kernel) (by omega) (by omega) ?_
        exact ⟨rfl, rfl, rfl⟩
      · exact absurd (nI_le (by omega) (by omega)) c
    | succ d ih =>
      intro i hi
      refine jw_iload_n (pc' := 3) jd_MTree_isAs_2 rfl rfl rfl ?_
      refine jw_bipush (pc' := 5) (v := nI 12) jd_MTree_isAs_3 (by decide +kernel) rfl ?_
      refine jw_icmp_ge (tgt := 34) (pc' := 8) jd_MTree_isAs_5 (by decide) rfl (fun c => ?_) (fun c => ?_)
      · exact absurd ((nI_leI (a := 12) (by omega) (by omega)).mp c) (by omega)
      refine jw_aload_n (pc' := 9) jd_MTree_isAs_8 rfl rfl rfl ?_
      refine jw_get (pc' := 12) (kf := 0) jc_MTree (by decide) jq_1063 jd_MTree_isAs_9 (by assumption) rfl rfl ?_
      refine jw_iload_n (pc' := 13) jd_MTree_isAs_12 rfl rfl rfl ?_
      refine jw_aaldA (pc' := 14) jd_MTree_isAs_13 h1 (vp_in_nI (by omega) (by omega)) (by rw [nI_clamp (by omega), hf i (by omega)]; rfl : va_rf (f (nI i).toNatClampNeg) = .null) rfl ?_
      refine jw_aload_n (pc' := 15) jd_MTree_isAs_14 rfl rfl rfl ?_
      refine jw_get (pc' := 18) (kf := 0) jc_MTree (by decide) jq_1063 jd_MTree_isAs_15 (by assumption) rfl rfl ?_
      refine jw_iload_n (pc' := 19) jd_MTree_isAs_18 rfl rfl rfl ?_
      refine jw_aaldA (pc' := 20) jd_MTree_isAs_19 g1 (vp_in_nI (by omega) (by omega)) (by rw [nI_clamp (by omega), hg i (by omega)]; rfl : va_rf (g (nI i).toNatClampNeg) = .null) rfl ?_
      refine jw_callSN0 (pc' := 23) hR (bz_areSame) jm_BranchworkModel_areSame jn_MTree_24 jd_MTree_isAs_20 rfl rfl (Nat.le_of_ble_eq_true rfl) (by omega) (by decide) (by omega) (by omega) rfl rfl ?_
      refine jw_if_ne (tgt := 28) (pc' := 26) jd_MTree_isAs_23 (by decide) rfl (fun c1 => ?_) (fun c1 => ?_)
      · refine jw_iinc (pc' := 31) (lc' := [(0, _), (1, _), (2, _)]) jd_MTree_isAs_28 rfl (nI_1 _) (Nat.le_of_ble_eq_true rfl) ⟨rfl, rfl, rfl, trivial⟩ rfl ?_
        refine jw_goto (tgt := 2) jd_MTree_isAs_31 (by decide) ?_
        exact ih (i + 1) (by omega)
      · exact absurd c1 (by decide)
  exact loop 12 0 (by omega)
theorem bz_size {t : Nat} (h : bz_At o μ t) : jw_Ro mi_MTree_size 1 o [.ref t] μ hs (some (.int (nI 0))) := by
  refine jw_ro (by decide +kernel) (Nat.le_of_ble_eq_true rfl) rfl (fun k hR hE => ?_)
  have h0 := h.1
  refine jw_iconst (pc' := 1) (v := nI 0) jd_MTree_size_0 (by decide +kernel) rfl ?_
  refine jw_istore_n (pc' := 2) (lc' := [(0, _), (1, _)]) jd_MTree_size_1 rfl (Nat.le_of_ble_eq_true rfl) ⟨rfl, rfl, trivial⟩ rfl ?_
  refine jw_iconst (pc' := 3) (v := nI 0) jd_MTree_size_2 (by decide +kernel) rfl ?_
  refine jw_istore_n (pc' := 4) (lc' := [(0, _), (1, _), (2, _)]) jd_MTree_size_3 rfl (Nat.le_of_ble_eq_true rfl) ⟨rfl, rfl, rfl, trivial⟩ rfl ?_
  have loop : ∀ d i : Nat, i + d = 12 → jw_X mi_MTree_size o k 0 0 4 [(0, .ref t), (1, .int (nI 0)), (2, .int (nI i))] [] μ hs := by
    intro d
    induction d with
    | zero =>
      intro i hi
      refine jw_iload_n (pc' := 5) jd_MTree_size_4 rfl rfl rfl ?_
      refine jw_bipush (pc' := 7) (v := nI 12) jd_MTree_size_5 (by decide +kernel) rfl ?_
      refine jw_icmp_ge (tgt := 32) (pc' := 10) jd_MTree_size_7 (by decide) rfl (fun c => ?_) (fun c => ?_)
      · refine jw_iload_n (pc' := 33) jd_MTree_size_32 rfl rfl rfl ?_
        refine jw_iret hE jd_MTree_size_33 rfl (by omega) (by omega) ?_
        exact ⟨rfl, rfl, rfl⟩
      · exact absurd (nI_le (by omega) (by omega)) c
    | succ d ih =>
      intro i hi
      refine jw_iload_n (pc' := 5) jd_MTree_size_4 rfl rfl rfl ?_
      refine jw_bipush (pc' := 7) (v := nI 12) jd_MTree_size_5 (by decide +kernel) rfl ?_
      refine jw_icmp_ge (tgt := 32) (pc' := 10) jd_MTree_size_7 (by decide) rfl (fun c => ?_) (fun c => ?_)
      · exact absurd ((nI_leI (a := 12) (by omega) (by omega)).mp c) (by omega)
      refine jw_iload_n (pc' := 11) jd_MTree_size_10 rfl rfl rfl ?_
      refine jw_aload_n (pc' := 12) jd_MTree_size_11 rfl rfl rfl ?_
      refine jw_iload_n (pc' := 13) jd_MTree_size_12 rfl rfl rfl ?_
      refine jw_callV0 (pc' := 16) hR (bz_has h (by omega)) jm_MTree_has jq_1216 jc_MTree jd_MTree_size_13 (by assumption) rfl rfl (Nat.le_of_ble_eq_true rfl) (by omega) (by decide) (by omega) (by omega) rfl rfl ?_
      refine jw_if_eq (tgt := 23) (pc' := 19) jd_MTree_size_16 (by decide) rfl (fun c1 => ?_) (fun c1 => ?_)
      rotate_left
      · exact absurd rfl c1
      refine jw_iconst (pc' := 24) (v := nI 0) jd_MTree_size_23 (by decide +kernel) rfl ?_
      refine jw_iadd (pc' := 25) jd_MTree_size_24 (by decide : nI 0 + nI 0 = nI 0) rfl ?_
      refine jw_istore_n (pc' := 26) (lc' := [(0, _), (1, _), (2, _)]) jd_MTree_size_25 rfl (Nat.le_of_ble_eq_true rfl) ⟨rfl, rfl, rfl, trivial⟩ rfl ?_
      refine jw_iinc (pc' := 29) (lc' := [(0, _), (1, _), (2, _)]) jd_MTree_size_26 rfl (nI_1 _) (Nat.le_of_ble_eq_true rfl) ⟨rfl, rfl, rfl, trivial⟩ rfl ?_
      refine jw_goto (tgt := 4) jd_MTree_size_29 (by decide) ?_
      exact ih (i + 1) (by omega)
  exact loop 12 0 (by omega)
theorem bq_init {x1 x2 x3 x4 x5 : Value} {p q : Int32} (h0 : μ r = some (.inr (9, [.int 0, x1, x2, .int 0, x3, .null, x4]))) : jw_Spec mi_BranchworkModel_init 5 6 32 o [.ref r] μ (r + 1) (fun v μ' s' => v = none ∧ s' = r + 7 ∧ bq_At o μ' r 0 ∧ jw_Fr μ μ' r 7) := by
  refine jw_spec (by decide +kernel) (Nat.le_of_ble_eq_true rfl) rfl (fun k hR hE => ?_)
  have hF : jw_Fr μ μ r 7 := jw_Fr.rf
  refine jw_aload_n (pc' := 1) jd_BranchworkModel_init_0 rfl rfl rfl ?_
  refine jw_objInit (pc' := 4) hR jq_1028 jd_BranchworkModel_init_1 (Nat.le_of_ble_eq_true rfl) (by omega) rfl ?_
  refine jw_aload_n (pc' := 5) jd_BranchworkModel_init_4 rfl rfl rfl ?_
  refine jw_new (pc' := 8) (fs := [.int 0, .null, .int 0]) hR jc_ArrayList jq_1029 jq_1030 jq_68 jd_BranchworkModel_init_5 (by decide +kernel) (by omega) (by omega) rfl (fun μ h1 f9 => ?_)
  have h0 := (f9 _ (by omega)).trans h0
  have hF := jw_Fr.step hF f9 (by omega)
  refine jw_dup (pc' := 9) jd_BranchworkModel_init_8 rfl rfl ?_
  refine jw_callI (pc' := 12) hR (bl_init h1) jm_ArrayList_init jq_1031 jd_BranchworkModel_init_9 rfl rfl (Nat.le_of_ble_eq_true rfl) (by omega) (by decide) (by omega) (by omega) rfl (fun v μ s9 q9 hle => ?_)
  obtain ⟨rfl, rfl, hA, f9⟩ := q9
  have hF := hF.trans f9 (by omega) (by omega)
  have h0 := (f9 _ (by omega)).trans h0
  refine jw_putF (pc' := 15) (kf := 1) (ty := (.object "java/util/ArrayList")) (fs' := [_, _, _, _, _, _, _]) jc_BranchworkModel (by decide) jq_1131 jd_BranchworkModel_init_12 rfl rfl rfl (by decide +kernel) (by assumption) rfl rfl rfl (Nat.le_of_ble_eq_true rfl) rfl (fun μ h0 f9 => ?_)
  have hF := jw_Fr.step hF f9 (by omega)
  have hA := hA.fr (jw_Fr.o f9) (by omega)
  refine jw_aload_n (pc' := 16) jd_BranchworkModel_init_15 rfl rfl rfl ?_
  refine jw_new (pc' := 19) (fs := [.int 0, .null, .int 0]) hR jc_ArrayList jq_1029 jq_1030 jq_68 jd_BranchworkModel_init_16 (by decide +kernel) (by omega) (by omega) rfl (fun μ h1 f9 => ?_)
  have h0 := (f9 _ (by omega)).trans h0
  have hF := jw_Fr.step hF f9 (by omega)
  have hA := hA.fr (jw_Fr.o f9) (by omega)
  refine jw_dup (pc' := 20) jd_BranchworkModel_init_19 rfl rfl ?_
  refine jw_callI (pc' := 23) hR (bl_init h1) jm_ArrayList_init jq_1031 jd_BranchworkModel_init_20 rfl rfl (Nat.le_of_ble_eq_true rfl) (by omega) (by decide) (by omega) (by omega) rfl (fun v μ s9 q9 hle => ?_)
  obtain ⟨rfl, rfl, hB, f9⟩ := q9
  have hF := hF.trans f9 (by omega) (by omega)
  have h0 := (f9 _ (by omega)).trans h0
  have hA := hA.fr f9 (by omega)
  refine jw_putF (pc' := 26) (kf := 2) (ty := (.object "java/util/ArrayList")) (fs' := [_, _, _, _, _, _, _]) jc_BranchworkModel (by decide) jq_1132 jd_BranchworkModel_init_23 rfl rfl rfl (by decide +kernel) (by assumption) rfl rfl rfl (Nat.le_of_ble_eq_true rfl) rfl (fun μ h0 f9 => ?_)
  have hF := jw_Fr.step hF f9 (by omega)
  have hA := hA.fr (jw_Fr.o f9) (by omega)
  have hB := hB.fr (jw_Fr.o f9) (by omega)
  refine jw_aload_n (pc' := 27) jd_BranchworkModel_init_26 rfl rfl rfl ?_
  refine jw_new (pc' := 30) (fs := [.null]) hR jc_MTree jq_1055 jq_1056 jq_69 jd_BranchworkModel_init_27 (by decide +kernel) (by omega) (by omega) rfl (fun μ h1 f9 => ?_)
  have h0 := (f9 _ (by omega)).trans h0
  have hF := jw_Fr.step hF f9 (by omega)
  have hA := hA.fr (jw_Fr.o f9) (by omega)
  have hB := hB.fr (jw_Fr.o f9) (by omega)
  refine jw_dup (pc' := 31) jd_BranchworkModel_init_30 rfl rfl ?_
  refine jw_callIN (pc' := 34) hR (bz_init h1) jm_MTree_init jn_BranchworkModel_39 jd_BranchworkModel_init_31 rfl rfl (Nat.le_of_ble_eq_true rfl) (by omega) (by decide) (by omega) (by omega) rfl (fun v μ s9 q9 hle => ?_)
  obtain ⟨rfl, rfl, hT, f9⟩ := q9
  have hF := hF.trans f9 (by omega) (by omega)
  have h0 := (f9 _ (by omega)).trans h0
  have hA := hA.fr f9 (by omega)
  have hB := hB.fr f9 (by omega)
  refine jw_put (pc' := 37) (kf := 4) (ty := (.object "BranchworkModel$Tree")) (fs' := [_, _, _, _, _, _, _]) jc_BranchworkModel (by decide) jq_1134 jd_BranchworkModel_init_34 rfl (by decide +kernel) (by assumption) rfl rfl rfl (Nat.le_of_ble_eq_true rfl) rfl (fun μ h0 f9 => ?_)
  have hF := jw_Fr.step hF f9 (by omega)
  have hA := hA.fr (jw_Fr.o f9) (by omega)
  have hB := hB.fr (jw_Fr.o f9) (by omega)
  have hT := hT.fr (jw_Fr.o f9) (by omega)
  refine jw_aload_n (pc' := 38) jd_BranchworkModel_init_37 rfl rfl rfl ?_
  refine jw_new (pc' := 41) (fs := [.int 0, .null, .int 0]) hR jc_ArrayList jq_1029 jq_1030 jq_68 jd_BranchworkModel_init_38 (by decide +kernel) (by omega) (by omega) rfl (fun μ h1 f9 => ?_)
  have h0 := (f9 _ (by omega)).trans h0
  have hF := jw_Fr.step hF f9 (by omega)
  have hA := hA.fr (jw_Fr.o f9) (by omega)
  have hB := hB.fr (jw_Fr.o f9) (by omega)
  have hT := hT.fr (jw_Fr.o f9) (by omega)
  refine jw_dup (pc' := 42) jd_BranchworkModel_init_41 rfl rfl ?_
  refine jw_callI (pc' := 45) hR (bl_init h1) jm_ArrayList_init jq_1031 jd_BranchworkModel_init_42 rfl rfl (Nat.le_of_ble_eq_true rfl) (by omega) (by decide) (by omega) (by omega) rfl (fun v μ s9 q9 hle => ?_)
  obtain ⟨rfl, rfl, hC, f9⟩ := q9
  have hF := hF.trans f9 (by omega) (by omega)
  have h0 := (f9 _ (by omega)).trans h0
  have hA := hA.fr f9 (by omega)
  have hB := hB.fr f9 (by omega)
  have hT := hT.fr f9 (by omega)
  refine jw_putF (pc' := 48) (kf := 6) (ty := (.object "java/util/ArrayList")) (fs' := [_, _, _, _, _, _, _]) jc_BranchworkModel (by decide) jq_1136 jd_BranchworkModel_init_45 rfl rfl rfl (by decide +kernel) (by assumption) rfl rfl rfl (Nat.le_of_ble_eq_true rfl) rfl (fun μ h0 f9 => ?_)
  have hF := jw_Fr.step hF f9 (by omega)
  have hA := hA.fr (jw_Fr.o f9) (by omega)
  have hB := hB.fr (jw_Fr.o f9) (by omega)
  have hT := hT.fr (jw_Fr.o f9) (by omega)
  have hC := hC.fr (jw_Fr.o f9) (by omega)
  refine jw_aload_n (pc' := 49) jd_BranchworkModel_init_48 rfl rfl rfl ?_
  refine jw_get (pc' := 52) (kf := 2) jc_BranchworkModel (by decide) jq_1132 jd_BranchworkModel_init_49 (by assumption) rfl rfl ?_
  refine jw_null (pc' := 53) jd_BranchworkModel_init_52 rfl ?_
  obtain ⟨c, hB⟩ := hB
  have hB0 : μ (r + 2) = some (.inr (11, [.int c, .ref o.2.2.2.2, .int (nI 0)])) := hB
  refine jw_callV (pc' := 56) hR (bl_add hB0 (by omega)) jm_ArrayList_add0 jq_1069 jc_ArrayList jd_BranchworkModel_init_53 (by assumption) rfl rfl (Nat.le_of_ble_eq_true rfl) (by omega) (by decide) (by omega) (by omega) rfl (fun v μ s9 q9 hle => ?_)
  obtain ⟨rfl, rfl, hB, ⟨f, hf, hf0⟩, f7⟩ := q9
  refine jw_pop (pc' := 57) jd_BranchworkModel_init_56 rfl rfl ?_
  refine jw_vret hE jd_BranchworkModel_init_57 rfl (by omega) (by omega) ?_
  obtain ⟨c1, hA⟩ := hA
  obtain ⟨c2, hC⟩ := hC
  obtain ⟨t0, g, t1, hg⟩ := hT
  refine ⟨rfl, rfl, ⟨(f7 _ (by omega) (by omega)).trans h0, ⟨c1, (f7 _ (by omega) (by omega)).trans hA⟩, hB, ⟨(f7 _ (by omega) (by omega)).trans t0, g, (f7 _ (by omega) (by omega)).trans t1, hg⟩, ⟨c2, (f7 _ (by omega) (by omega)).trans hC⟩, f, hf, hf0⟩, fun q hq => (f7 q (by omega) (by omega)).trans (hF q hq)⟩
end
