theorem jd_Conflicts_howMany_0 : decode mi_Conflicts_howMany.2.1 0 = .ok (.aload_n 0, 1) := by decide +kernel
theorem jd_Conflicts_howMany_1 : decode mi_Conflicts_howMany.2.1 1 = .ok (.getfield 18, 3) := by decide +kernel
theorem jd_Conflicts_howMany_4 : decode mi_Conflicts_howMany.2.1 4 = .ok (.ireturn, 1) := by decide +kernel
theorem jd_Conflicts_holds_0 : decode mi_Conflicts_holds.2.1 0 = .ok (.iload_n 1, 1) := by decide +kernel
theorem jd_Conflicts_holds_1 : decode mi_Conflicts_holds.2.1 1 = .ok (.ifCond .lt 21, 3) := by decide +kernel
theorem jd_Conflicts_holds_4 : decode mi_Conflicts_holds.2.1 4 = .ok (.iload_n 1, 1) := by decide +kernel
theorem jd_Conflicts_holds_5 : decode mi_Conflicts_holds.2.1 5 = .ok (.aload_n 0, 1) := by decide +kernel
theorem jd_Conflicts_holds_6 : decode mi_Conflicts_holds.2.1 6 = .ok (.getfield 18, 3) := by decide +kernel
theorem jd_Conflicts_holds_9 : decode mi_Conflicts_holds.2.1 9 = .ok (.if_icmp .ge 13, 3) := by decide +kernel
theorem jd_Conflicts_holds_12 : decode mi_Conflicts_holds.2.1 12 = .ok (.iload_n 1, 1) := by decide +kernel
theorem jd_Conflicts_holds_13 : decode mi_Conflicts_holds.2.1 13 = .ok (.bipush 24, 2) := by decide +kernel
theorem jd_Conflicts_holds_15 : decode mi_Conflicts_holds.2.1 15 = .ok (.if_icmp .ge 7, 3) := by decide +kernel
theorem jd_Conflicts_holds_18 : decode mi_Conflicts_holds.2.1 18 = .ok (.iconst 1, 1) := by decide +kernel
theorem jd_Conflicts_holds_19 : decode mi_Conflicts_holds.2.1 19 = .ok (.goto 4, 3) := by decide +kernel
theorem jd_Conflicts_holds_22 : decode mi_Conflicts_holds.2.1 22 = .ok (.iconst 0, 1) := by decide +kernel
theorem jd_Conflicts_holds_23 : decode mi_Conflicts_holds.2.1 23 = .ok (.ireturn, 1) := by decide +kernel
theorem jd_Conflicts_codeOf_0 : decode mi_Conflicts_codeOf.2.1 0 = .ok (.aload_n 0, 1) := by decide +kernel
theorem jd_Conflicts_codeOf_1 : decode mi_Conflicts_codeOf.2.1 1 = .ok (.iload_n 1, 1) := by decide +kernel
theorem jd_Conflicts_codeOf_2 : decode mi_Conflicts_codeOf.2.1 2 = .ok (.invokevirtual 22, 3) := by decide +kernel
theorem jd_Conflicts_codeOf_5 : decode mi_Conflicts_codeOf.2.1 5 = .ok (.ifCond .eq 12, 3) := by decide +kernel
theorem jd_Conflicts_codeOf_8 : decode mi_Conflicts_codeOf.2.1 8 = .ok (.aload_n 0, 1) := by decide +kernel
theorem jd_Conflicts_codeOf_9 : decode mi_Conflicts_codeOf.2.1 9 = .ok (.getfield 9, 3) := by decide +kernel
theorem jd_Conflicts_codeOf_12 : decode mi_Conflicts_codeOf.2.1 12 = .ok (.iload_n 1, 1) := by decide +kernel
theorem jd_Conflicts_codeOf_13 : decode mi_Conflicts_codeOf.2.1 13 = .ok (.iaload, 1) := by decide +kernel
theorem jd_Conflicts_codeOf_14 : decode mi_Conflicts_codeOf.2.1 14 = .ok (.goto 4, 3) := by decide +kernel
theorem jd_Conflicts_codeOf_17 : decode mi_Conflicts_codeOf.2.1 17 = .ok (.iconst (-1), 1) := by decide +kernel
theorem jd_Conflicts_codeOf_18 : decode mi_Conflicts_codeOf.2.1 18 = .ok (.ireturn, 1) := by decide +kernel
theorem jd_Conflicts_pathOf_0 : decode mi_Conflicts_pathOf.2.1 0 = .ok (.aload_n 0, 1) := by decide +kernel
theorem jd_Conflicts_pathOf_1 : decode mi_Conflicts_pathOf.2.1 1 = .ok (.iload_n 1, 1) := by decide +kernel
theorem jd_Conflicts_pathOf_2 : decode mi_Conflicts_pathOf.2.1 2 = .ok (.invokevirtual 22, 3) := by decide +kernel
theorem jd_Conflicts_pathOf_5 : decode mi_Conflicts_pathOf.2.1 5 = .ok (.ifCond .eq 12, 3) := by decide +kernel
theorem jd_Conflicts_pathOf_8 : decode mi_Conflicts_pathOf.2.1 8 = .ok (.aload_n 0, 1) := by decide +kernel
theorem jd_Conflicts_pathOf_9 : decode mi_Conflicts_pathOf.2.1 9 = .ok (.getfield 15, 3) := by decide +kernel
theorem jd_Conflicts_pathOf_12 : decode mi_Conflicts_pathOf.2.1 12 = .ok (.iload_n 1, 1) := by decide +kernel
theorem jd_Conflicts_pathOf_13 : decode mi_Conflicts_pathOf.2.1 13 = .ok (.iaload, 1) := by decide +kernel
theorem jd_Conflicts_pathOf_14 : decode mi_Conflicts_pathOf.2.1 14 = .ok (.goto 4, 3) := by decide +kernel
theorem jd_Conflicts_pathOf_17 : decode mi_Conflicts_pathOf.2.1 17 = .ok (.iconst (-1), 1) := by decide +kernel
theorem jd_Conflicts_pathOf_18 : decode mi_Conflicts_pathOf.2.1 18 = .ok (.ireturn, 1) := by decide +kernel
theorem jd_Conflicts_tell_0 : decode mi_Conflicts_tell.2.1 0 = .ok (.aload_n 0, 1) := by decide +kernel
theorem jd_Conflicts_tell_1 : decode mi_Conflicts_tell.2.1 1 = .ok (.getfield 18, 3) := by decide +kernel
theorem jd_Conflicts_tell_4 : decode mi_Conflicts_tell.2.1 4 = .ok (.bipush 24, 2) := by decide +kernel
theorem jd_Conflicts_tell_6 : decode mi_Conflicts_tell.2.1 6 = .ok (.if_icmp .ge 33, 3) := by decide +kernel
theorem jd_Conflicts_tell_9 : decode mi_Conflicts_tell.2.1 9 = .ok (.aload_n 0, 1) := by decide +kernel
theorem jd_Conflicts_tell_10 : decode mi_Conflicts_tell.2.1 10 = .ok (.getfield 9, 3) := by decide +kernel
theorem jd_Conflicts_tell_13 : decode mi_Conflicts_tell.2.1 13 = .ok (.aload_n 0, 1) := by decide +kernel
theorem jd_Conflicts_tell_14 : decode mi_Conflicts_tell.2.1 14 = .ok (.getfield 18, 3) := by decide +kernel
theorem jd_Conflicts_tell_17 : decode mi_Conflicts_tell.2.1 17 = .ok (.iload_n 1, 1) := by decide +kernel
theorem jd_Conflicts_tell_18 : decode mi_Conflicts_tell.2.1 18 = .ok (.iastore, 1) := by decide +kernel
theorem jd_Conflicts_tell_19 : decode mi_Conflicts_tell.2.1 19 = .ok (.aload_n 0, 1) := by decide +kernel
theorem jd_Conflicts_tell_20 : decode mi_Conflicts_tell.2.1 20 = .ok (.getfield 15, 3) := by decide +kernel
theorem jd_Conflicts_tell_23 : decode mi_Conflicts_tell.2.1 23 = .ok (.aload_n 0, 1) := by decide +kernel
theorem jd_Conflicts_tell_24 : decode mi_Conflicts_tell.2.1 24 = .ok (.getfield 18, 3) := by decide +kernel
theorem jd_Conflicts_tell_27 : decode mi_Conflicts_tell.2.1 27 = .ok (.iload_n 2, 1) := by decide +kernel
theorem jd_Conflicts_tell_28 : decode mi_Conflicts_tell.2.1 28 = .ok (.iastore, 1) := by decide +kernel
theorem jd_Conflicts_tell_29 : decode mi_Conflicts_tell.2.1 29 = .ok (.aload_n 0, 1) := by decide +kernel
theorem jd_Conflicts_tell_30 : decode mi_Conflicts_tell.2.1 30 = .ok (.dup, 1) := by decide +kernel
theorem jd_Conflicts_tell_31 : decode mi_Conflicts_tell.2.1 31 = .ok (.getfield 18, 3) := by decide +kernel
theorem jd_Conflicts_tell_34 : decode mi_Conflicts_tell.2.1 34 = .ok (.iconst 1, 1) := by decide +kernel
theorem jd_Conflicts_tell_35 : decode mi_Conflicts_tell.2.1 35 = .ok (.iadd, 1) := by decide +kernel
theorem jd_Conflicts_tell_36 : decode mi_Conflicts_tell.2.1 36 = .ok (.putfield 18, 3) := by decide +kernel
theorem jd_Conflicts_tell_39 : decode mi_Conflicts_tell.2.1 39 = .ok (.return_, 1) := by decide +kernel
theorem jd_Conflicts_clear_0 : decode mi_Conflicts_clear.2.1 0 = .ok (.aload_n 0, 1) := by decide +kernel
theorem jd_Conflicts_clear_1 : decode mi_Conflicts_clear.2.1 1 = .ok (.iconst 0, 1) := by decide +kernel
theorem jd_Conflicts_clear_2 : decode mi_Conflicts_clear.2.1 2 = .ok (.putfield 18, 3) := by decide +kernel
theorem jd_Conflicts_clear_5 : decode mi_Conflicts_clear.2.1 5 = .ok (.return_, 1) := by decide +kernel
theorem jd_Conflicts_drop_0 : decode mi_Conflicts_drop.2.1 0 = .ok (.aload_n 0, 1) := by decide +kernel
theorem jd_Conflicts_drop_1 : decode mi_Conflicts_drop.2.1 1 = .ok (.iload_n 1, 1) := by decide +kernel
theorem jd_Conflicts_drop_2 : decode mi_Conflicts_drop.2.1 2 = .ok (.invokevirtual 22, 3) := by decide +kernel
theorem jd_Conflicts_drop_5 : decode mi_Conflicts_drop.2.1 5 = .ok (.ifCond .ne 4, 3) := by decide +kernel
theorem jd_Conflicts_drop_8 : decode mi_Conflicts_drop.2.1 8 = .ok (.return_, 1) := by decide +kernel
theorem jd_Conflicts_drop_9 : decode mi_Conflicts_drop.2.1 9 = .ok (.iload_n 1, 1) := by decide +kernel
theorem jd_Conflicts_drop_10 : decode mi_Conflicts_drop.2.1 10 = .ok (.istore_n 2, 1) := by decide +kernel
theorem jd_Conflicts_drop_11 : decode mi_Conflicts_drop.2.1 11 = .ok (.iload_n 2, 1) := by decide +kernel
theorem jd_Conflicts_drop_12 : decode mi_Conflicts_drop.2.1 12 = .ok (.aload_n 0, 1) := by decide +kernel
theorem jd_Conflicts_drop_13 : decode mi_Conflicts_drop.2.1 13 = .ok (.getfield 18, 3) := by decide +kernel
theorem jd_Conflicts_drop_16 : decode mi_Conflicts_drop.2.1 16 = .ok (.iconst 1, 1) := by decide +kernel
theorem jd_Conflicts_drop_17 : decode mi_Conflicts_drop.2.1 17 = .ok (.isub, 1) := by decide +kernel
theorem jd_Conflicts_drop_18 : decode mi_Conflicts_drop.2.1 18 = .ok (.if_icmp .ge 37, 3) := by decide +kernel
theorem jd_Conflicts_drop_21 : decode mi_Conflicts_drop.2.1 21 = .ok (.aload_n 0, 1) := by decide +kernel
theorem jd_Conflicts_drop_22 : decode mi_Conflicts_drop.2.1 22 = .ok (.getfield 9, 3) := by decide +kernel
theorem jd_Conflicts_drop_25 : decode mi_Conflicts_drop.2.1 25 = .ok (.iload_n 2, 1) := by decide +kernel
theorem jd_Conflicts_drop_26 : decode mi_Conflicts_drop.2.1 26 = .ok (.aload_n 0, 1) := by decide +kernel
theorem jd_Conflicts_drop_27 : decode mi_Conflicts_drop.2.1 27 = .ok (.getfield 9, 3) := by decide +kernel
theorem jd_Conflicts_drop_30 : decode mi_Conflicts_drop.2.1 30 = .ok (.iload_n 2, 1) := by decide +kernel
theorem jd_Conflicts_drop_31 : decode mi_Conflicts_drop.2.1 31 = .ok (.iconst 1, 1) := by decide +kernel
theorem jd_Conflicts_drop_32 : decode mi_Conflicts_drop.2.1 32 = .ok (.iadd, 1) := by decide +kernel
theorem jd_Conflicts_drop_33 : decode mi_Conflicts_drop.2.1 33 = .ok (.iaload, 1) := by decide +kernel
theorem jd_Conflicts_drop_34 : decode mi_Conflicts_drop.2.1 34 = .ok (.iastore, 1) := by decide +kernel
theorem jd_Conflicts_drop_35 : decode mi_Conflicts_drop.2.1 35 = .ok (.aload_n 0, 1) := by decide +kernel
theorem jd_Conflicts_drop_36 : decode mi_Conflicts_drop.2.1 36 = .ok (.getfield 15, 3) := by decide +kernel
theorem jd_Conflicts_drop_39 : decode mi_Conflicts_drop.2.1 39 = .ok (.iload_n 2, 1) := by decide +kernel
theorem jd_Conflicts_drop_40 : decode mi_Conflicts_drop.2.1 40 = .ok (.aload_n 0, 1) := by decide +kernel
theorem jd_Conflicts_drop_41 : decode mi_Conflicts_drop.2.1 41 = .ok (.getfield 15, 3) := by decide +kernel
theorem jd_Conflicts_drop_44 : decode mi_Conflicts_drop.2.1 44 = .ok (.iload_n 2, 1) := by decide +kernel
theorem jd_Conflicts_drop_45 : decode mi_Conflicts_drop.2.1 45 = .ok (.iconst 1, 1) := by decide +kernel
theorem jd_Conflicts_drop_46 : decode mi_Conflicts_drop.2.1 46 = .ok (.iadd, 1) := by decide +kernel
theorem jd_Conflicts_drop_47 : decode mi_Conflicts_drop.2.1 47 = .ok (.iaload, 1) := by decide +kernel
theorem jd_Conflicts_drop_48 : decode mi_Conflicts_drop.2.1 48 = .ok (.iastore, 1) := by decide +kernel
theorem jd_Conflicts_drop_49 : decode mi_Conflicts_drop.2.1 49 = .ok (.iinc 2 1, 3) := by decide +kernel
theorem jd_Conflicts_drop_52 : decode mi_Conflicts_drop.2.1 52 = .ok (.goto (-41), 3) := by decide +kernel
theorem jd_Conflicts_drop_55 : decode mi_Conflicts_drop.2.1 55 = .ok (.aload_n 0, 1) := by decide +kernel
theorem jd_Conflicts_drop_56 : decode mi_Conflicts_drop.2.1 56 = .ok (.dup, 1) := by decide +kernel
theorem jd_Conflicts_drop_57 : decode mi_Conflicts_drop.2.1 57 = .ok (.getfield 18, 3) := by decide +kernel
theorem jd_Conflicts_drop_60 : decode mi_Conflicts_drop.2.1 60 = .ok (.iconst 1, 1) := by decide +kernel
theorem jd_Conflicts_drop_61 : decode mi_Conflicts_drop.2.1 61 = .ok (.isub, 1) := by decide +kernel
theorem jd_Conflicts_drop_62 : decode mi_Conflicts_drop.2.1 62 = .ok (.putfield 18, 3) := by decide +kernel
theorem jd_Conflicts_drop_65 : decode mi_Conflicts_drop.2.1 65 = .ok (.return_, 1) := by decide +kernel
theorem jd_Conflicts_copyFrom_0 : decode mi_Conflicts_copyFrom.2.1 0 = .ok (.aload_n 0, 1) := by decide +kernel
theorem jd_Conflicts_copyFrom_1 : decode mi_Conflicts_copyFrom.2.1 1 = .ok (.invokevirtual 26, 3) := by decide +kernel
theorem jd_Conflicts_copyFrom_4 : decode mi_Conflicts_copyFrom.2.1 4 = .ok (.iconst 0, 1) := by decide +kernel
theorem jd_Conflicts_copyFrom_5 : decode mi_Conflicts_copyFrom.2.1 5 = .ok (.istore_n 2, 1) := by decide +kernel
theorem jd_Conflicts_copyFrom_6 : decode mi_Conflicts_copyFrom.2.1 6 = .ok (.iload_n 2, 1) := by decide +kernel
theorem jd_Conflicts_copyFrom_7 : decode mi_Conflicts_copyFrom.2.1 7 = .ok (.aload_n 1, 1) := by decide +kernel
theorem jd_Conflicts_copyFrom_8 : decode mi_Conflicts_copyFrom.2.1 8 = .ok (.invokevirtual 29, 3) := by decide +kernel
theorem jd_Conflicts_copyFrom_11 : decode mi_Conflicts_copyFrom.2.1 11 = .ok (.if_icmp .ge 23, 3) := by decide +kernel
theorem jd_Conflicts_copyFrom_14 : decode mi_Conflicts_copyFrom.2.1 14 = .ok (.aload_n 0, 1) := by decide +kernel
theorem jd_Conflicts_copyFrom_15 : decode mi_Conflicts_copyFrom.2.1 15 = .ok (.aload_n 1, 1) := by decide +kernel
theorem jd_Conflicts_copyFrom_16 : decode mi_Conflicts_copyFrom.2.1 16 = .ok (.iload_n 2, 1) := by decide +kernel
theorem jd_Conflicts_copyFrom_17 : decode mi_Conflicts_copyFrom.2.1 17 = .ok (.invokevirtual 33, 3) := by decide +kernel
theorem jd_Conflicts_copyFrom_20 : decode mi_Conflicts_copyFrom.2.1 20 = .ok (.aload_n 1, 1) := by decide +kernel
theorem jd_Conflicts_copyFrom_21 : decode mi_Conflicts_copyFrom.2.1 21 = .ok (.iload_n 2, 1) := by decide +kernel
theorem jd_Conflicts_copyFrom_22 : decode mi_Conflicts_copyFrom.2.1 22 = .ok (.invokevirtual 37, 3) := by decide +kernel
theorem jd_Conflicts_copyFrom_25 : decode mi_Conflicts_copyFrom.2.1 25 = .ok (.invokevirtual 40, 3) := by decide +kernel
theorem jd_Conflicts_copyFrom_28 : decode mi_Conflicts_copyFrom.2.1 28 = .ok (.iinc 2 1, 3) := by decide +kernel
theorem jd_Conflicts_copyFrom_31 : decode mi_Conflicts_copyFrom.2.1 31 = .ok (.goto (-25), 3) := by decide +kernel
theorem jd_Conflicts_copyFrom_34 : decode mi_Conflicts_copyFrom.2.1 34 = .ok (.return_, 1) := by decide +kernel
theorem jd_Blender_blendParts_0 : decode mi_Blender_blendParts.2.1 0 = .ok (.aload_n 0, 1) := by decide +kernel
theorem jd_Blender_blendParts_1 : decode mi_Blender_blendParts.2.1 1 = .ok (.getfield 28, 3) := by decide +kernel
theorem jd_Blender_blendParts_4 : decode mi_Blender_blendParts.2.1 4 = .ok (.aload_n 0, 1) := by decide +kernel
theorem jd_Blender_blendParts_5 : decode mi_Blender_blendParts.2.1 5 = .ok (.getfield 24, 3) := by decide +kernel
theorem jd_Blender_blendParts_8 : decode mi_Blender_blendParts.2.1 8 = .ok (.invokevirtual 64, 3) := by decide +kernel
theorem jd_Blender_blendParts_11 : decode mi_Blender_blendParts.2.1 11 = .ok (.ifCond .eq 13, 3) := by decide +kernel
theorem jd_Blender_blendParts_14 : decode mi_Blender_blendParts.2.1 14 = .ok (.aload_n 1, 1) := by decide +kernel
theorem jd_Blender_blendParts_15 : decode mi_Blender_blendParts.2.1 15 = .ok (.aload_n 0, 1) := by decide +kernel
theorem jd_Blender_blendParts_16 : decode mi_Blender_blendParts.2.1 16 = .ok (.getfield 31, 3) := by decide +kernel
theorem jd_Blender_blendParts_19 : decode mi_Blender_blendParts.2.1 19 = .ok (.invokevirtual 67, 3) := by decide +kernel
theorem jd_Blender_blendParts_22 : decode mi_Blender_blendParts.2.1 22 = .ok (.iconst 0, 1) := by decide +kernel
theorem jd_Blender_blendParts_23 : decode mi_Blender_blendParts.2.1 23 = .ok (.ireturn, 1) := by decide +kernel
theorem jd_Blender_blendParts_24 : decode mi_Blender_blendParts.2.1 24 = .ok (.aload_n 1, 1) := by decide +kernel
theorem jd_Blender_blendParts_25 : decode mi_Blender_blendParts.2.1 25 = .ok (.aload_n 0, 1) := by decide +kernel
theorem jd_Blender_blendParts_26 : decode mi_Blender_blendParts.2.1 26 = .ok (.getfield 28, 3) := by decide +kernel
theorem jd_Blender_blendParts_29 : decode mi_Blender_blendParts.2.1 29 = .ok (.invokevirtual 67, 3) := by decide +kernel
theorem jd_Blender_blendParts_32 : decode mi_Blender_blendParts.2.1 32 = .ok (.aload_n 0, 1) := by decide +kernel
theorem jd_Blender_blendParts_33 : decode mi_Blender_blendParts.2.1 33 = .ok (.getfield 31, 3) := by decide +kernel
theorem jd_Blender_blendParts_36 : decode mi_Blender_blendParts.2.1 36 = .ok (.aload_n 0, 1) := by decide +kernel
theorem jd_Blender_blendParts_37 : decode mi_Blender_blendParts.2.1 37 = .ok (.getfield 24, 3) := by decide +kernel
theorem jd_Blender_blendParts_40 : decode mi_Blender_blendParts.2.1 40 = .ok (.invokevirtual 64, 3) := by decide +kernel
theorem jd_Blender_blendParts_43 : decode mi_Blender_blendParts.2.1 43 = .ok (.ifCond .ne 17, 3) := by decide +kernel
theorem jd_Blender_blendParts_46 : decode mi_Blender_blendParts.2.1 46 = .ok (.aload_n 0, 1) := by decide +kernel
theorem jd_Blender_blendParts_47 : decode mi_Blender_blendParts.2.1 47 = .ok (.getfield 31, 3) := by decide +kernel
theorem jd_Blender_blendParts_50 : decode mi_Blender_blendParts.2.1 50 = .ok (.aload_n 0, 1) := by decide +kernel
theorem jd_Blender_blendParts_51 : decode mi_Blender_blendParts.2.1 51 = .ok (.getfield 28, 3) := by decide +kernel
theorem jd_Blender_blendParts_54 : decode mi_Blender_blendParts.2.1 54 = .ok (.invokevirtual 64, 3) := by decide +kernel
theorem jd_Blender_blendParts_57 : decode mi_Blender_blendParts.2.1 57 = .ok (.ifCond .eq 5, 3) := by decide +kernel
theorem jd_Blender_blendParts_60 : decode mi_Blender_blendParts.2.1 60 = .ok (.iconst 0, 1) := by decide +kernel
theorem jd_Blender_blendParts_61 : decode mi_Blender_blendParts.2.1 61 = .ok (.ireturn, 1) := by decide +kernel
theorem jd_Blender_blendParts_62 : decode mi_Blender_blendParts.2.1 62 = .ok (.aload_n 1, 1) := by decide +kernel
theorem jd_Blender_blendParts_63 : decode mi_Blender_blendParts.2.1 63 = .ok (.aload_n 0, 1) := by decide +kernel
theorem jd_Blender_blendParts_64 : decode mi_Blender_blendParts.2.1 64 = .ok (.getfield 31, 3) := by decide +kernel
theorem jd_Blender_blendParts_67 : decode mi_Blender_blendParts.2.1 67 = .ok (.invokevirtual 67, 3) := by decide +kernel
theorem jd_Blender_blendParts_70 : decode mi_Blender_blendParts.2.1 70 = .ok (.iconst 1, 1) := by decide +kernel
theorem jd_Blender_blendParts_71 : decode mi_Blender_blendParts.2.1 71 = .ok (.ireturn, 1) := by decide +kernel
theorem jd_Blender_blendInto_0 : decode mi_Blender_blendInto.2.1 0 = .ok (.aload_n 0, 1) := by decide +kernel
theorem jd_Blender_blendInto_1 : decode mi_Blender_blendInto.2.1 1 = .ok (.getfield 12, 3) := by decide +kernel
theorem jd_Blender_blendInto_4 : decode mi_Blender_blendInto.2.1 4 = .ok (.aload_n 2, 1) := by decide +kernel
theorem jd_Blender_blendInto_5 : decode mi_Blender_blendInto.2.1 5 = .ok (.aload_n 3, 1) := by decide +kernel
theorem jd_Blender_blendInto_6 : decode mi_Blender_blendInto.2.1 6 = .ok (.invokevirtual 34, 3) := by decide +kernel
theorem jd_Blender_blendInto_9 : decode mi_Blender_blendInto.2.1 9 = .ok (.aload_n 0, 1) := by decide +kernel
theorem jd_Blender_blendInto_10 : decode mi_Blender_blendInto.2.1 10 = .ok (.getfield 18, 3) := by decide +kernel
theorem jd_Blender_blendInto_13 : decode mi_Blender_blendInto.2.1 13 = .ok (.aload_n 2, 1) := by decide +kernel
theorem jd_Blender_blendInto_14 : decode mi_Blender_blendInto.2.1 14 = .ok (.aload 4, 2) := by decide +kernel
theorem jd_Blender_blendInto_16 : decode mi_Blender_blendInto.2.1 16 = .ok (.invokevirtual 34, 3) := by decide +kernel
theorem jd_Blender_blendInto_19 : decode mi_Blender_blendInto.2.1 19 = .ok (.aload_n 1, 1) := by decide +kernel
theorem jd_Blender_blendInto_20 : decode mi_Blender_blendInto.2.1 20 = .ok (.invokevirtual 38, 3) := by decide +kernel
theorem jd_Blender_blendInto_23 : decode mi_Blender_blendInto.2.1 23 = .ok (.iconst 0, 1) := by decide +kernel
theorem jd_Blender_blendInto_24 : decode mi_Blender_blendInto.2.1 24 = .ok (.istore 5, 2) := by decide +kernel
theorem jd_Blender_blendInto_26 : decode mi_Blender_blendInto.2.1 26 = .ok (.iconst 0, 1) := by decide +kernel
theorem jd_Blender_blendInto_27 : decode mi_Blender_blendInto.2.1 27 = .ok (.istore 6, 2) := by decide +kernel
theorem jd_Blender_blendInto_29 : decode mi_Blender_blendInto.2.1 29 = .ok (.iconst 0, 1) := by decide +kernel
theorem jd_Blender_blendInto_30 : decode mi_Blender_blendInto.2.1 30 = .ok (.istore 7, 2) := by decide +kernel
theorem jd_Blender_blendInto_32 : decode mi_Blender_blendInto.2.1 32 = .ok (.iconst 0, 1) := by decide +kernel
theorem jd_Blender_blendInto_33 : decode mi_Blender_blendInto.2.1 33 = .ok (.istore 8, 2) := by decide +kernel
theorem jd_Blender_blendInto_35 : decode mi_Blender_blendInto.2.1 35 = .ok (.iconst 0, 1) := by decide +kernel
theorem jd_Blender_blendInto_36 : decode mi_Blender_blendInto.2.1 36 = .ok (.istore 9, 2) := by decide +kernel
theorem jd_Blender_blendInto_38 : decode mi_Blender_blendInto.2.1 38 = .ok (.iload 9, 2) := by decide +kernel
theorem jd_Blender_blendInto_40 : decode mi_Blender_blendInto.2.1 40 = .ok (.aload_n 2, 1) := by decide +kernel
theorem jd_Blender_blendInto_41 : decode mi_Blender_blendInto.2.1 41 = .ok (.invokevirtual 41, 3) := by decide +kernel
theorem jd_Blender_blendInto_44 : decode mi_Blender_blendInto.2.1 44 = .ok (.if_icmp .gt 174, 3) := by decide +kernel
theorem jd_Blender_blendInto_47 : decode mi_Blender_blendInto.2.1 47 = .ok (.iload 9, 2) := by decide +kernel
theorem jd_Blender_blendInto_49 : decode mi_Blender_blendInto.2.1 49 = .ok (.aload_n 2, 1) := by decide +kernel
theorem jd_Blender_blendInto_50 : decode mi_Blender_blendInto.2.1 50 = .ok (.invokevirtual 41, 3) := by decide +kernel
theorem jd_Blender_blendInto_53 : decode mi_Blender_blendInto.2.1 53 = .ok (.if_icmp .ne 7, 3) := by decide +kernel
theorem jd_Blender_blendInto_56 : decode mi_Blender_blendInto.2.1 56 = .ok (.iconst 1, 1) := by decide +kernel
theorem jd_Blender_blendInto_57 : decode mi_Blender_blendInto.2.1 57 = .ok (.goto 4, 3) := by decide +kernel
theorem jd_Blender_blendInto_60 : decode mi_Blender_blendInto.2.1 60 = .ok (.iconst 0, 1) := by decide +kernel
theorem jd_Blender_blendInto_61 : decode mi_Blender_blendInto.2.1 61 = .ok (.istore 10, 2) := by decide +kernel
theorem jd_Blender_blendInto_63 : decode mi_Blender_blendInto.2.1 63 = .ok (.iload 10, 2) := by decide +kernel
theorem jd_Blender_blendInto_65 : decode mi_Blender_blendInto.2.1 65 = .ok (.ifCond .eq 10, 3) := by decide +kernel
theorem jd_Blender_blendInto_68 : decode mi_Blender_blendInto.2.1 68 = .ok (.aload_n 3, 1) := by decide +kernel
theorem jd_Blender_blendInto_69 : decode mi_Blender_blendInto.2.1 69 = .ok (.invokevirtual 41, 3) := by decide +kernel
theorem jd_Blender_blendInto_72 : decode mi_Blender_blendInto.2.1 72 = .ok (.goto 12, 3) := by decide +kernel
theorem jd_Blender_blendInto_75 : decode mi_Blender_blendInto.2.1 75 = .ok (.aload_n 0, 1) := by decide +kernel
theorem jd_Blender_blendInto_76 : decode mi_Blender_blendInto.2.1 76 = .ok (.getfield 12, 3) := by decide +kernel
theorem jd_Blender_blendInto_79 : decode mi_Blender_blendInto.2.1 79 = .ok (.iload 9, 2) := by decide +kernel
theorem jd_Blender_blendInto_81 : decode mi_Blender_blendInto.2.1 81 = .ok (.invokevirtual 45, 3) := by decide +kernel
theorem jd_Blender_blendInto_84 : decode mi_Blender_blendInto.2.1 84 = .ok (.istore 11, 2) := by decide +kernel
theorem jd_Blender_blendInto_86 : decode mi_Blender_blendInto.2.1 86 = .ok (.iload 10, 2) := by decide +kernel
theorem jd_Blender_blendInto_88 : decode mi_Blender_blendInto.2.1 88 = .ok (.ifCond .eq 11, 3) := by decide +kernel
theorem jd_Blender_blendInto_91 : decode mi_Blender_blendInto.2.1 91 = .ok (.aload 4, 2) := by decide +kernel
theorem jd_Blender_blendInto_93 : decode mi_Blender_blendInto.2.1 93 = .ok (.invokevirtual 41, 3) := by decide +kernel
theorem jd_Blender_blendInto_96 : decode mi_Blender_blendInto.2.1 96 = .ok (.goto 12, 3) := by decide +kernel
theorem jd_Blender_blendInto_99 : decode mi_Blender_blendInto.2.1 99 = .ok (.aload_n 0, 1) := by decide +kernel
theorem jd_Blender_blendInto_100 : decode mi_Blender_blendInto.2.1 100 = .ok (.getfield 18, 3) := by decide +kernel
theorem jd_Blender_blendInto_103 : decode mi_Blender_blendInto.2.1 103 = .ok (.iload 9, 2) := by decide +kernel
theorem jd_Blender_blendInto_105 : decode mi_Blender_blendInto.2.1 105 = .ok (.invokevirtual 45, 3) := by decide +kernel
theorem jd_Blender_blendInto_108 : decode mi_Blender_blendInto.2.1 108 = .ok (.istore 12, 2) := by decide +kernel
theorem jd_Blender_blendInto_110 : decode mi_Blender_blendInto.2.1 110 = .ok (.iload 11, 2) := by decide +kernel
theorem jd_Blender_blendInto_112 : decode mi_Blender_blendInto.2.1 112 = .ok (.iconst (-1), 1) := by decide +kernel
theorem jd_Blender_blendInto_113 : decode mi_Blender_blendInto.2.1 113 = .ok (.if_icmp .eq 99, 3) := by decide +kernel
theorem jd_Blender_blendInto_116 : decode mi_Blender_blendInto.2.1 116 = .ok (.iload 12, 2) := by decide +kernel
theorem jd_Blender_blendInto_118 : decode mi_Blender_blendInto.2.1 118 = .ok (.iconst (-1), 1) := by decide +kernel
theorem jd_Blender_blendInto_119 : decode mi_Blender_blendInto.2.1 119 = .ok (.if_icmp .eq 93, 3) := by decide +kernel
theorem jd_Blender_blendInto_122 : decode mi_Blender_blendInto.2.1 122 = .ok (.aload_n 0, 1) := by decide +kernel
theorem jd_Blender_blendInto_123 : decode mi_Blender_blendInto.2.1 123 = .ok (.getfield 24, 3) := by decide +kernel
theorem jd_Blender_blendInto_126 : decode mi_Blender_blendInto.2.1 126 = .ok (.aload_n 2, 1) := by decide +kernel
theorem jd_Blender_blendInto_127 : decode mi_Blender_blendInto.2.1 127 = .ok (.iload 6, 2) := by decide +kernel
theorem jd_Blender_blendInto_129 : decode mi_Blender_blendInto.2.1 129 = .ok (.iload 9, 2) := by decide +kernel
theorem jd_Blender_blendInto_131 : decode mi_Blender_blendInto.2.1 131 = .ok (.invokevirtual 49, 3) := by decide +kernel
theorem jd_Blender_blendInto_134 : decode mi_Blender_blendInto.2.1 134 = .ok (.aload_n 0, 1) := by decide +kernel
theorem jd_Blender_blendInto_135 : decode mi_Blender_blendInto.2.1 135 = .ok (.getfield 28, 3) := by decide +kernel
theorem jd_Blender_blendInto_138 : decode mi_Blender_blendInto.2.1 138 = .ok (.aload_n 3, 1) := by decide +kernel
theorem jd_Blender_blendInto_139 : decode mi_Blender_blendInto.2.1 139 = .ok (.iload 7, 2) := by decide +kernel
theorem jd_Blender_blendInto_141 : decode mi_Blender_blendInto.2.1 141 = .ok (.iload 11, 2) := by decide +kernel
theorem jd_Blender_blendInto_143 : decode mi_Blender_blendInto.2.1 143 = .ok (.invokevirtual 49, 3) := by decide +kernel
theorem jd_Blender_blendInto_146 : decode mi_Blender_blendInto.2.1 146 = .ok (.aload_n 0, 1) := by decide +kernel
theorem jd_Blender_blendInto_147 : decode mi_Blender_blendInto.2.1 147 = .ok (.getfield 31, 3) := by decide +kernel
theorem jd_Blender_blendInto_150 : decode mi_Blender_blendInto.2.1 150 = .ok (.aload 4, 2) := by decide +kernel
theorem jd_Blender_blendInto_152 : decode mi_Blender_blendInto.2.1 152 = .ok (.iload 8, 2) := by decide +kernel
theorem jd_Blender_blendInto_154 : decode mi_Blender_blendInto.2.1 154 = .ok (.iload 12, 2) := by decide +kernel
theorem jd_Blender_blendInto_156 : decode mi_Blender_blendInto.2.1 156 = .ok (.invokevirtual 49, 3) := by decide +kernel
theorem jd_Blender_blendInto_159 : decode mi_Blender_blendInto.2.1 159 = .ok (.aload_n 0, 1) := by decide +kernel
theorem jd_Blender_blendInto_160 : decode mi_Blender_blendInto.2.1 160 = .ok (.aload_n 1, 1) := by decide +kernel
theorem jd_Blender_blendInto_161 : decode mi_Blender_blendInto.2.1 161 = .ok (.invokevirtual 53, 3) := by decide +kernel
theorem jd_Blender_blendInto_164 : decode mi_Blender_blendInto.2.1 164 = .ok (.ifCond .ne 8, 3) := by decide +kernel
theorem jd_Blender_blendInto_167 : decode mi_Blender_blendInto.2.1 167 = .ok (.iload 5, 2) := by decide +kernel
theorem jd_Blender_blendInto_169 : decode mi_Blender_blendInto.2.1 169 = .ok (.ifCond .eq 7, 3) := by decide +kernel
theorem jd_Blender_blendInto_172 : decode mi_Blender_blendInto.2.1 172 = .ok (.iconst 1, 1) := by decide +kernel
theorem jd_Blender_blendInto_173 : decode mi_Blender_blendInto.2.1 173 = .ok (.goto 4, 3) := by decide +kernel
theorem jd_Blender_blendInto_176 : decode mi_Blender_blendInto.2.1 176 = .ok (.iconst 0, 1) := by decide +kernel
theorem jd_Blender_blendInto_177 : decode mi_Blender_blendInto.2.1 177 = .ok (.istore 5, 2) := by decide +kernel
theorem jd_Blender_blendInto_179 : decode mi_Blender_blendInto.2.1 179 = .ok (.iload 10, 2) := by decide +kernel
theorem jd_Blender_blendInto_181 : decode mi_Blender_blendInto.2.1 181 = .ok (.ifCond .ne 13, 3) := by decide +kernel
theorem jd_Blender_blendInto_184 : decode mi_Blender_blendInto.2.1 184 = .ok (.aload_n 1, 1) := by decide +kernel
theorem jd_Blender_blendInto_185 : decode mi_Blender_blendInto.2.1 185 = .ok (.aload_n 2, 1) := by decide +kernel
theorem jd_Blender_blendInto_186 : decode mi_Blender_blendInto.2.1 186 = .ok (.iload 9, 2) := by decide +kernel
theorem jd_Blender_blendInto_188 : decode mi_Blender_blendInto.2.1 188 = .ok (.invokevirtual 57, 3) := by decide +kernel
theorem jd_Blender_blendInto_191 : decode mi_Blender_blendInto.2.1 191 = .ok (.invokevirtual 60, 3) := by decide +kernel
theorem jd_Blender_blendInto_194 : decode mi_Blender_blendInto.2.1 194 = .ok (.iload 9, 2) := by decide +kernel
theorem jd_Blender_blendInto_196 : decode mi_Blender_blendInto.2.1 196 = .ok (.iconst 1, 1) := by decide +kernel
theorem jd_Blender_blendInto_197 : decode mi_Blender_blendInto.2.1 197 = .ok (.iadd, 1) := by decide +kernel
theorem jd_Blender_blendInto_198 : decode mi_Blender_blendInto.2.1 198 = .ok (.istore 6, 2) := by decide +kernel
theorem jd_Blender_blendInto_200 : decode mi_Blender_blendInto.2.1 200 = .ok (.iload 11, 2) := by decide +kernel
theorem jd_Blender_blendInto_202 : decode mi_Blender_blendInto.2.1 202 = .ok (.iconst 1, 1) := by decide +kernel
theorem jd_Blender_blendInto_203 : decode mi_Blender_blendInto.2.1 203 = .ok (.iadd, 1) := by decide +kernel
theorem jd_Blender_blendInto_204 : decode mi_Blender_blendInto.2.1 204 = .ok (.istore 7, 2) := by decide +kernel
theorem jd_Blender_blendInto_206 : decode mi_Blender_blendInto.2.1 206 = .ok (.iload 12, 2) := by decide +kernel
theorem jd_Blender_blendInto_208 : decode mi_Blender_blendInto.2.1 208 = .ok (.iconst 1, 1) := by decide +kernel
theorem jd_Blender_blendInto_209 : decode mi_Blender_blendInto.2.1 209 = .ok (.iadd, 1) := by decide +kernel
theorem jd_Blender_blendInto_210 : decode mi_Blender_blendInto.2.1 210 = .ok (.istore 8, 2) := by decide +kernel
theorem jd_Blender_blendInto_212 : decode mi_Blender_blendInto.2.1 212 = .ok (.iinc 9 1, 3) := by decide +kernel
theorem jd_Blender_blendInto_215 : decode mi_Blender_blendInto.2.1 215 = .ok (.goto (-177), 3) := by decide +kernel
theorem jd_Blender_blendInto_218 : decode mi_Blender_blendInto.2.1 218 = .ok (.iload 5, 2) := by decide +kernel
theorem jd_Blender_blendInto_220 : decode mi_Blender_blendInto.2.1 220 = .ok (.ireturn, 1) := by decide +kernel
/-! conflicts, and the blending of three contents -/
abbrev zK : Type := Nat × (Nat → Int × Int)
def KC (o : jw_O) (σ : zS) (c : Nat) (l : zK) : Prop := isK o c ∧ l.1 ≤ 24 ∧ iv σ c 2 = l.1 ∧ ∀ j, j < l.1 → iv σ (c + 1) j = (l.2 j).1 ∧ iv σ (c + 2) j = (l.2 j).2
theorem KC.fr {o : jw_O} {σ σ' : zS} {c b m : Nat} {l : zK} (h : KC o σ c l) (f : zF σ σ' b m) (hd : c + 3 ≤ b ∨ b + m ≤ c) : KC o σ' c l := ⟨h.1, h.2.1, (iv_cell (f _ (by omega)) _).trans h.2.2.1, fun j hj => ⟨(iv_cell (f _ (by omega)) _).trans (h.2.2.2 j hj).1, (iv_cell (f _ (by omega)) _).trans (h.2.2.2 j hj).2⟩⟩
def kTell (l : zK) (x y : Int) : zK := if l.1 < 24 then (l.1 + 1, fun j => if j = l.1 then (x, y) else l.2 j) else l
section
variable {o : jw_O} {σ : zS} {c : Nat} {l : zK}
theorem k_many (h : KC o σ c l) : zRo mi_Conflicts_howMany 0 o [.ref c] σ (some (.int (iI l.1))) := by
  obtain ⟨hc, h1, h2, h3⟩ := h
  refine z_spec (by decide +kernel) (Nat.le_of_ble_eq_true rfl) rfl (fun k hs hR hE => ?_)
  refine jw_aload_n (pc' := 1) jd_Conflicts_howMany_0 rfl rfl rfl ?_
  refine zx_getI (pc' := 4) (kf := 2) jc_Conflicts (by decide) jq_136 jd_Conflicts_howMany_1 (mc_Conflicts _ (by assumption)) rfl rfl ?_
  refine zx_iret hE jd_Conflicts_howMany_4 rfl ?_
  exact ⟨by rw [h2], rfl⟩
theorem k_holds (h : KC o σ c l) (j : Nat) (hj : j < 1000) : zRo mi_Conflicts_holds 0 o [.ref c, .int (iI j)] σ (some (.int (iI (if j < l.1 then 1 else 0)))) := by
  obtain ⟨hc, h1, h2, h3⟩ := h
  refine z_spec (by decide +kernel) (Nat.le_of_ble_eq_true rfl) rfl (fun k hs hR hE => ?_)
  refine jw_iload_n (pc' := 1) jd_Conflicts_holds_0 rfl rfl rfl ?_
  refine zx_if_lt (tgt := 22) (pc' := 4) (by first | exact rg_iv _ _ _ | omega) jd_Conflicts_holds_1 (by decide) rfl (fun q => ?_) (fun q => ?_)
  · exfalso; omega
  refine jw_iload_n (pc' := 5) jd_Conflicts_holds_4 rfl rfl rfl ?_
  refine jw_aload_n (pc' := 6) jd_Conflicts_holds_5 rfl rfl rfl ?_
  refine zx_getI (pc' := 9) (kf := 2) jc_Conflicts (by decide) jq_136 jd_Conflicts_holds_6 (mc_Conflicts _ (by assumption)) rfl rfl ?_
  refine zx_icmp_ge (tgt := 22) (pc' := 12) (by first | exact rg_iv _ _ _ | omega) (by first | exact rg_iv _ _ _ | omega) jd_Conflicts_holds_9 (by decide) rfl (fun q2 => ?_) (fun q2 => ?_)
  · refine zx_iconst (pc' := 23) (n := 0) jd_Conflicts_holds_22 rfl ?_
    refine zx_zret (by first | exact Or.inl rfl | exact Or.inr rfl | assumption | omega) hE jd_Conflicts_holds_23 rfl ?_
    exact ⟨by rw [if_neg (by omega)], rfl⟩
  refine jw_iload_n (pc' := 13) jd_Conflicts_holds_12 rfl rfl rfl ?_
  refine zx_bipush (pc' := 15) (n := 24) jd_Conflicts_holds_13 (by decide +kernel) rfl ?_
  refine zx_icmp_ge (tgt := 22) (pc' := 18) (by first | exact rg_iv _ _ _ | omega) (by first | exact rg_iv _ _ _ | omega) jd_Conflicts_holds_15 (by decide) rfl (fun q3 => ?_) (fun q3 => ?_)
  · exfalso; omega
  refine zx_iconst (pc' := 19) (n := 1) jd_Conflicts_holds_18 rfl ?_
  refine jw_goto (tgt := 23) jd_Conflicts_holds_19 (by decide) ?_
  refine zx_zret (by first | exact Or.inl rfl | exact Or.inr rfl | assumption | omega) hE jd_Conflicts_holds_23 rfl ?_
  exact ⟨by rw [if_pos (by omega)], rfl⟩
theorem k_code (h : KC o σ c l) (j : Nat) (hj : j < l.1) : zRo mi_Conflicts_codeOf 1 o [.ref c, .int (iI j)] σ (some (.int (iI (l.2 j).1))) := by
  have h0 := h
  obtain ⟨hc, h1, h2, h3⟩ := h0
  have e := (h3 j hj).1
  refine z_spec (by decide +kernel) (Nat.le_of_ble_eq_true rfl) rfl (fun k hs hR hE => ?_)
  refine jw_aload_n (pc' := 1) jd_Conflicts_codeOf_0 rfl rfl rfl ?_
  refine jw_iload_n (pc' := 2) jd_Conflicts_codeOf_1 rfl rfl rfl ?_
  refine zx_callV0 (pc' := 5) hR (k_holds h j (by omega)) jm_Conflicts_holds jq_659 jc_Conflicts jd_Conflicts_codeOf_2 (mc_Conflicts _ (by assumption)) rfl rfl (Nat.le_of_ble_eq_true rfl) (by omega) (by decide) rfl rfl ?_
  rw [if_pos hj]
  refine zx_if_eq (tgt := 17) (pc' := 8) (by first | exact rg_iv _ _ _ | omega) jd_Conflicts_codeOf_5 (by decide) rfl (fun q => ?_) (fun q => ?_)
  · exfalso; omega
  refine jw_aload_n (pc' := 9) jd_Conflicts_codeOf_8 rfl rfl rfl ?_
  refine jw_get (pc' := 12) (kf := 0) jc_Conflicts (by decide) jq_134 jd_Conflicts_codeOf_9 (mc_Conflicts _ (by assumption)) rfl rfl ?_
  refine jw_iload_n (pc' := 13) jd_Conflicts_codeOf_12 rfl rfl rfl ?_
  refine zx_iald (pc' := 14) jd_Conflicts_codeOf_13 (ml_Conflicts_codes _ (by assumption)) rfl (by omega) (Nat.le_of_ble_eq_true rfl) rfl ?_
  refine jw_goto (tgt := 18) jd_Conflicts_codeOf_14 (by decide) ?_
  refine zx_iret hE jd_Conflicts_codeOf_18 rfl ?_
  exact ⟨by rw [e], rfl⟩
theorem k_path (h : KC o σ c l) (j : Nat) (hj : j < l.1) : zRo mi_Conflicts_pathOf 1 o [.ref c, .int (iI j)] σ (some (.int (iI (l.2 j).2))) := by
  have h0 := h
  obtain ⟨hc, h1, h2, h3⟩ := h0
  have e := (h3 j hj).2
  refine z_spec (by decide +kernel) (Nat.le_of_ble_eq_true rfl) rfl (fun k hs hR hE => ?_)
  refine jw_aload_n (pc' := 1) jd_Conflicts_pathOf_0 rfl rfl rfl ?_
  refine jw_iload_n (pc' := 2) jd_Conflicts_pathOf_1 rfl rfl rfl ?_
  refine zx_callV0 (pc' := 5) hR (k_holds h j (by omega)) jm_Conflicts_holds jq_659 jc_Conflicts jd_Conflicts_pathOf_2 (mc_Conflicts _ (by assumption)) rfl rfl (Nat.le_of_ble_eq_true rfl) (by omega) (by decide) rfl rfl ?_
  rw [if_pos hj]
  refine zx_if_eq (tgt := 17) (pc' := 8) (by first | exact rg_iv _ _ _ | omega) jd_Conflicts_pathOf_5 (by decide) rfl (fun q => ?_) (fun q => ?_)
  · exfalso; omega
  refine jw_aload_n (pc' := 9) jd_Conflicts_pathOf_8 rfl rfl rfl ?_
  refine jw_get (pc' := 12) (kf := 1) jc_Conflicts (by decide) jq_135 jd_Conflicts_pathOf_9 (mc_Conflicts _ (by assumption)) rfl rfl ?_
  refine jw_iload_n (pc' := 13) jd_Conflicts_pathOf_12 rfl rfl rfl ?_
  refine zx_iald (pc' := 14) jd_Conflicts_pathOf_13 (ml_Conflicts_paths _ (by assumption)) rfl (by omega) (Nat.le_of_ble_eq_true rfl) rfl ?_
  refine jw_goto (tgt := 18) jd_Conflicts_pathOf_14 (by decide) ?_
  refine zx_iret hE jd_Conflicts_pathOf_18 rfl ?_
  exact ⟨by rw [e], rfl⟩
theorem k_tell {x y : Int} (h : KC o σ c l) (hx : -2147483648 ≤ x ∧ x < 2147483648) (hy : -2147483648 ≤ y ∧ y < 2147483648) : zSpec mi_Conflicts_tell 0 o [.ref c, .int (iI x), .int (iI y)] σ (fun v s => v = none ∧ KC o s c (kTell l x y) ∧ zF σ s c 3) := by
  have h0 := h
  obtain ⟨hc, h1, h2, h3⟩ := h0
  refine z_spec (by decide +kernel) (Nat.le_of_ble_eq_true rfl) rfl (fun k hs hR hE => ?_)
  refine jw_aload_n (pc' := 1) jd_Conflicts_tell_0 rfl rfl rfl ?_
  refine zx_getI (pc' := 4) (kf := 2) jc_Conflicts (by decide) jq_136 jd_Conflicts_tell_1 (mc_Conflicts _ (by assumption)) rfl rfl ?_
  refine zx_bipush (pc' := 6) (n := 24) jd_Conflicts_tell_4 (by decide +kernel) rfl ?_
  refine zx_icmp_ge (tgt := 39) (pc' := 9) (by first | exact rg_iv _ _ _ | omega) (by first | exact rg_iv _ _ _ | omega) jd_Conflicts_tell_6 (by decide) rfl (fun q => ?_) (fun q => ?_)
  · refine zx_vret hE jd_Conflicts_tell_39 rfl ?_
    refine ⟨rfl, ?_, zF.rf⟩
    unfold kTell; rw [if_neg (by omega)]; exact h
  · skip
    refine jw_aload_n (pc' := 10) jd_Conflicts_tell_9 rfl rfl rfl ?_
    refine jw_get (pc' := 13) (kf := 0) jc_Conflicts (by decide) jq_134 jd_Conflicts_tell_10 (mc_Conflicts _ (by assumption)) rfl rfl ?_
    refine jw_aload_n (pc' := 14) jd_Conflicts_tell_13 rfl rfl rfl ?_
    refine zx_getI (pc' := 17) (kf := 2) jc_Conflicts (by decide) jq_136 jd_Conflicts_tell_14 (mc_Conflicts _ (by assumption)) rfl rfl ?_
    refine jw_iload_n (pc' := 18) jd_Conflicts_tell_17 rfl rfl rfl ?_
    refine zx_iast (pc' := 19) (j := l.1) jd_Conflicts_tell_18 (ml_Conflicts_codes _ (by assumption)) h2 (by omega) (Nat.le_of_ble_eq_true rfl) rfl ?_
    refine jw_aload_n (pc' := 20) jd_Conflicts_tell_19 rfl rfl rfl ?_
    refine jw_get (pc' := 23) (kf := 1) jc_Conflicts (by decide) jq_135 jd_Conflicts_tell_20 (mc_Conflicts _ (by assumption)) rfl rfl ?_
    refine jw_aload_n (pc' := 24) jd_Conflicts_tell_23 rfl rfl rfl ?_
    refine zx_getI (pc' := 27) (kf := 2) jc_Conflicts (by decide) jq_136 jd_Conflicts_tell_24 (mc_Conflicts _ (by assumption)) rfl rfl ?_
    refine jw_iload_n (pc' := 28) jd_Conflicts_tell_27 rfl rfl rfl ?_
    refine zx_iast (pc' := 29) (j := l.1) jd_Conflicts_tell_28 (ml_Conflicts_paths _ (by assumption)) ((iv_cell (si_ne (by omega)) _).trans h2) (by omega) (Nat.le_of_ble_eq_true rfl) rfl ?_
    refine jw_aload_n (pc' := 30) jd_Conflicts_tell_29 rfl rfl rfl ?_
    refine jw_dup (pc' := 31) jd_Conflicts_tell_30 rfl rfl ?_
    refine zx_getI (pc' := 34) (kf := 2) jc_Conflicts (by decide) jq_136 jd_Conflicts_tell_31 (mc_Conflicts _ (by assumption)) rfl rfl ?_
    refine zx_iconst (pc' := 35) (n := 1) jd_Conflicts_tell_34 rfl ?_
    refine zx_iadd (pc' := 36) jd_Conflicts_tell_35 rfl ?_
    refine zx_putI (pc' := 39) (kf := 2) jc_Conflicts (by decide) jq_136 jd_Conflicts_tell_36 rfl (by decide +kernel) (mc_Conflicts _ (by assumption)) rfl rfl ?_
    refine zx_vret hE jd_Conflicts_tell_39 rfl ?_
    have e : iv (si (si σ (c + 1) l.1 x) (c + 2) l.1 y) c 2 = l.1 := (iv_cell (si_ne (by omega)) _).trans ((iv_cell (si_ne (by omega)) _).trans h2)
    refine ⟨rfl, ⟨hc, ?_, ?_, fun j hj => ?_⟩, ((zF.rf.si (by omega)).si (by omega)).si (by omega)⟩
    · unfold kTell; rw [if_pos (by omega)]; dsimp only; omega
    · rw [iv_si (by omega), if_pos ⟨rfl, rfl⟩, e]
      unfold kTell; rw [if_pos (by omega)]; dsimp only; omega
    · have g1 : iv (si (si (si σ (c + 1) l.1 x) (c + 2) l.1 y) c 2 (iv (si (si σ (c + 1) l.1 x) (c + 2) l.1 y) c 2 + 1)) (c + 1) j = if j = l.1 then x else iv σ (c + 1) j := by
        rw [iv_cell (si_ne (by omega)), iv_cell (si_ne (by omega)), iv_si hx]
        by_cases q9 : j = l.1
        · rw [if_pos ⟨rfl, q9⟩, if_pos q9]
        · rw [if_neg (fun z => q9 z.2), if_neg q9]
      have g2 : iv (si (si (si σ (c + 1) l.1 x) (c + 2) l.1 y) c 2 (iv (si (si σ (c + 1) l.1 x) (c + 2) l.1 y) c 2 + 1)) (c + 2) j = if j = l.1 then y else iv σ (c + 2) j := by
        rw [iv_cell (si_ne (by omega)), iv_si hy]
        by_cases q9 : j = l.1
        · rw [if_pos ⟨rfl, q9⟩, if_pos q9]
        · rw [if_neg (fun z => q9 z.2), if_neg q9, iv_cell (si_ne (by omega))]
      have hk : kTell l x y = (l.1 + 1, fun j => if j = l.1 then (x, y) else l.2 j) := by unfold kTell; rw [if_pos (by omega)]
      rw [hk] at hj ⊢
      rw [g1, g2]
      dsimp only at hj ⊢
      by_cases q9 : j = l.1
      · rw [if_pos q9, if_pos q9, if_pos q9]; exact ⟨rfl, rfl⟩
      · rw [if_neg q9, if_neg q9, if_neg q9]; exact h3 j (by omega)
theorem k_clear (hc : isK o c) : zSpec mi_Conflicts_clear 0 o [.ref c] σ (fun v s => v = none ∧ KC o s c (0, fun _ => (0, 0)) ∧ zF σ s c 3) := by
  refine z_spec (by decide +kernel) (Nat.le_of_ble_eq_true rfl) rfl (fun k hs hR hE => ?_)
  refine jw_aload_n (pc' := 1) jd_Conflicts_clear_0 rfl rfl rfl ?_
  refine zx_iconst (pc' := 2) (n := 0) jd_Conflicts_clear_1 rfl ?_
  refine zx_putI (pc' := 5) (kf := 2) jc_Conflicts (by decide) jq_136 jd_Conflicts_clear_2 rfl (by decide +kernel) (mc_Conflicts _ (by assumption)) rfl rfl ?_
  refine zx_vret hE jd_Conflicts_clear_5 rfl ?_
  exact ⟨rfl, ⟨hc, by simp, by rw [iv_si (by omega), if_pos ⟨rfl, rfl⟩]; rfl, fun j hj => absurd hj (by simp)⟩, zF.rf.si (by omega)⟩
theorem k_drop (h : KC o σ c l) (h0 : 0 < l.1) : zSpec mi_Conflicts_drop 1 o [.ref c, .int (iI 0)] σ (fun v s => v = none ∧ (∃ l2, KC o s c l2 ∧ l2.1 = l.1 - 1) ∧ zF σ s c 3) := by
  have h9 := h
  obtain ⟨hc, h1, h2, h3⟩ := h9
  refine z_spec (by decide +kernel) (Nat.le_of_ble_eq_true rfl) rfl (fun k hs hR hE => ?_)
  refine jw_aload_n (pc' := 1) jd_Conflicts_drop_0 rfl rfl rfl ?_
  refine jw_iload_n (pc' := 2) jd_Conflicts_drop_1 rfl rfl rfl ?_
  refine zx_callV0 (pc' := 5) hR (k_holds h 0 (by omega)) jm_Conflicts_holds jq_659 jc_Conflicts jd_Conflicts_drop_2 (mc_Conflicts _ (by assumption)) rfl rfl (Nat.le_of_ble_eq_true rfl) (by omega) (by decide) rfl rfl ?_
  rw [if_pos h0]
  refine zx_if_ne (tgt := 9) (pc' := 8) (by first | exact rg_iv _ _ _ | omega) jd_Conflicts_drop_5 (by decide) rfl (fun q => ?_) (fun q => ?_)
  rotate_left
  · exfalso; omega
  refine jw_iload_n (pc' := 10) jd_Conflicts_drop_9 rfl rfl rfl ?_
  refine jw_istore_n (pc' := 11) (lc' := [(0, _), (2, _)]) jd_Conflicts_drop_10 rfl (Nat.le_of_ble_eq_true rfl) ⟨rfl, rfl, trivial⟩ rfl ?_
  have loop : ∀ (m i : Nat) (s : zS), i + m = l.1 - 1 → iv s c 2 = l.1 → zF σ s c 3 → jw_X mi_Conflicts_drop o k 0 0 11 [(0, .ref c), (2, .int (iI i))] [] (mm o s) hs := by
    intro m
    induction m with
    | zero =>
      intro i s hi e hF
      refine jw_iload_n (pc' := 12) jd_Conflicts_drop_11 rfl rfl rfl ?_
      refine jw_aload_n (pc' := 13) jd_Conflicts_drop_12 rfl rfl rfl ?_
      refine zx_getI (pc' := 16) (kf := 2) jc_Conflicts (by decide) jq_136 jd_Conflicts_drop_13 (mc_Conflicts _ (by assumption)) rfl rfl ?_
      refine zx_iconst (pc' := 17) (n := 1) jd_Conflicts_drop_16 rfl ?_
      refine zx_isub (pc' := 18) jd_Conflicts_drop_17 rfl ?_
      refine zx_icmp_ge (tgt := 55) (pc' := 21) (by first | exact rg_iv _ _ _ | omega) (by first | exact rg_iv _ _ _ | omega) jd_Conflicts_drop_18 (by decide) rfl (fun q2 => ?_) (fun q2 => ?_)
      rotate_left
      · exfalso; omega
      refine jw_aload_n (pc' := 56) jd_Conflicts_drop_55 rfl rfl rfl ?_
      refine jw_dup (pc' := 57) jd_Conflicts_drop_56 rfl rfl ?_
      refine zx_getI (pc' := 60) (kf := 2) jc_Conflicts (by decide) jq_136 jd_Conflicts_drop_57 (mc_Conflicts _ (by assumption)) rfl rfl ?_
      refine zx_iconst (pc' := 61) (n := 1) jd_Conflicts_drop_60 rfl ?_
      refine zx_isub (pc' := 62) jd_Conflicts_drop_61 rfl ?_
      refine zx_putI (pc' := 65) (kf := 2) jc_Conflicts (by decide) jq_136 jd_Conflicts_drop_62 rfl (by decide +kernel) (mc_Conflicts _ (by assumption)) rfl rfl ?_
      refine zx_vret hE jd_Conflicts_drop_65 rfl ?_
      refine ⟨rfl, ⟨(l.1 - 1, fun j => (iv s (c + 1) j, iv s (c + 2) j)), ⟨hc, by simp only; omega, ?_, fun j hj => ⟨?_, ?_⟩⟩, rfl⟩, hF.si (by omega)⟩
      · rw [iv_si (by omega), if_pos ⟨rfl, rfl⟩]; simp only; omega
      · rw [iv_si (by omega), if_neg (by omega)]
      · rw [iv_si (by omega), if_neg (by omega)]
    | succ m ih =>
      intro i s hi e hF
      refine jw_iload_n (pc' := 12) jd_Conflicts_drop_11 rfl rfl rfl ?_
      refine jw_aload_n (pc' := 13) jd_Conflicts_drop_12 rfl rfl rfl ?_
      refine zx_getI (pc' := 16) (kf := 2) jc_Conflicts (by decide) jq_136 jd_Conflicts_drop_13 (mc_Conflicts _ (by assumption)) rfl rfl ?_
      refine zx_iconst (pc' := 17) (n := 1) jd_Conflicts_drop_16 rfl ?_
      refine zx_isub (pc' := 18) jd_Conflicts_drop_17 rfl ?_
      refine zx_icmp_ge (tgt := 55) (pc' := 21) (by first | exact rg_iv _ _ _ | omega) (by first | exact rg_iv _ _ _ | omega) jd_Conflicts_drop_18 (by decide) rfl (fun q2 => ?_) (fun q2 => ?_)
      · exfalso; omega
      refine jw_aload_n (pc' := 22) jd_Conflicts_drop_21 rfl rfl rfl ?_
      refine jw_get (pc' := 25) (kf := 0) jc_Conflicts (by decide) jq_134 jd_Conflicts_drop_22 (mc_Conflicts _ (by assumption)) rfl rfl ?_
      refine jw_iload_n (pc' := 26) jd_Conflicts_drop_25 rfl rfl rfl ?_
      refine jw_aload_n (pc' := 27) jd_Conflicts_drop_26 rfl rfl rfl ?_
      refine jw_get (pc' := 30) (kf := 0) jc_Conflicts (by decide) jq_134 jd_Conflicts_drop_27 (mc_Conflicts _ (by assumption)) rfl rfl ?_
      refine jw_iload_n (pc' := 31) jd_Conflicts_drop_30 rfl rfl rfl ?_
      refine zx_iconst (pc' := 32) (n := 1) jd_Conflicts_drop_31 rfl ?_
      refine zx_iadd (pc' := 33) jd_Conflicts_drop_32 rfl ?_
      refine zx_iald (pc' := 34) (j := i + 1) jd_Conflicts_drop_33 (ml_Conflicts_codes _ (by assumption)) (by omega) (by omega) (Nat.le_of_ble_eq_true rfl) rfl ?_
      refine zx_iast (pc' := 35) jd_Conflicts_drop_34 (ml_Conflicts_codes _ (by assumption)) rfl (by omega) (Nat.le_of_ble_eq_true rfl) rfl ?_
      refine jw_aload_n (pc' := 36) jd_Conflicts_drop_35 rfl rfl rfl ?_
      refine jw_get (pc' := 39) (kf := 1) jc_Conflicts (by decide) jq_135 jd_Conflicts_drop_36 (mc_Conflicts _ (by assumption)) rfl rfl ?_
      refine jw_iload_n (pc' := 40) jd_Conflicts_drop_39 rfl rfl rfl ?_
      refine jw_aload_n (pc' := 41) jd_Conflicts_drop_40 rfl rfl rfl ?_
      refine jw_get (pc' := 44) (kf := 1) jc_Conflicts (by decide) jq_135 jd_Conflicts_drop_41 (mc_Conflicts _ (by assumption)) rfl rfl ?_
      refine jw_iload_n (pc' := 45) jd_Conflicts_drop_44 rfl rfl rfl ?_
      refine zx_iconst (pc' := 46) (n := 1) jd_Conflicts_drop_45 rfl ?_
      refine zx_iadd (pc' := 47) jd_Conflicts_drop_46 rfl ?_
      refine zx_iald (pc' := 48) (j := i + 1) jd_Conflicts_drop_47 (ml_Conflicts_paths _ (by assumption)) (by omega) (by omega) (Nat.le_of_ble_eq_true rfl) rfl ?_
      refine zx_iast (pc' := 49) jd_Conflicts_drop_48 (ml_Conflicts_paths _ (by assumption)) rfl (by omega) (Nat.le_of_ble_eq_true rfl) rfl ?_
      refine zx_iinc (pc' := 52) (lc' := [(0, _), (2, _)]) jd_Conflicts_drop_49 rfl (Nat.le_of_ble_eq_true rfl) ⟨rfl, rfl, trivial⟩ rfl ?_
      refine jw_goto (tgt := 11) jd_Conflicts_drop_52 (by decide) ?_
      exact ih (i + 1) _ (by omega) ((iv_cell (si_ne (by omega)) _).trans ((iv_cell (si_ne (by omega)) _).trans e)) ((hF.si (by omega)).si (by omega))
  exact loop (l.1 - 1) 0 σ (by omega) h2 zF.rf
theorem k_copyFrom {d : Nat} {b : zK} (hc : isK o c) (h2 : KC o σ d b) (hd : c + 3 ≤ d ∨ d + 3 ≤ c) : zSpec mi_Conflicts_copyFrom 2 o [.ref c, .ref d] σ (fun v s => v = none ∧ KC o s c b ∧ zF σ s c 3) := by
  have hdd := h2.1
  have hb := h2.2.1
  refine z_spec (by decide +kernel) (Nat.le_of_ble_eq_true rfl) rfl (fun k hs hR hE => ?_)
  refine jw_aload_n (pc' := 1) jd_Conflicts_copyFrom_0 rfl rfl rfl ?_
  refine zx_callV (pc' := 4) hR (k_clear hc) jm_Conflicts_clear jq_653 jc_Conflicts jd_Conflicts_copyFrom_1 (mc_Conflicts _ (by assumption)) rfl rfl (Nat.le_of_ble_eq_true rfl) (by omega) (by decide) rfl (fun v9 s1 q9 => ?_)
  obtain ⟨rfl, h1, f1⟩ := q9
  refine zx_iconst (pc' := 5) (n := 0) jd_Conflicts_copyFrom_4 rfl ?_
  refine jw_istore_n (pc' := 6) (lc' := [(0, _), (1, _), (2, _)]) jd_Conflicts_copyFrom_5 rfl (Nat.le_of_ble_eq_true rfl) ⟨rfl, rfl, rfl, trivial⟩ rfl ?_
  have loop : ∀ (m i : Nat) (s : zS) (l : zK), i + m = b.1 → KC o s c l → l.1 = i → (∀ j, j < i → l.2 j = b.2 j) → zF σ s c 3 → jw_X mi_Conflicts_copyFrom o k 0 0 6 [(0, .ref c), (1, .ref d), (2, .int (iI i))] [] (mm o s) hs := by
    intro m
    induction m with
    | zero =>
      intro i s l hi hl hl1 hl2 hF
      refine jw_iload_n (pc' := 7) jd_Conflicts_copyFrom_6 rfl rfl rfl ?_
      refine jw_aload_n (pc' := 8) jd_Conflicts_copyFrom_7 rfl rfl rfl ?_
      refine zx_callV0 (pc' := 11) hR (k_many (h2.fr hF (by omega))) jm_Conflicts_howMany jq_654 jc_Conflicts jd_Conflicts_copyFrom_8 (mc_Conflicts _ (by assumption)) rfl rfl (Nat.le_of_ble_eq_true rfl) (by omega) (by decide) rfl rfl ?_
      refine zx_icmp_ge (tgt := 34) (pc' := 14) (by first | exact rg_iv _ _ _ | omega) (by first | exact rg_iv _ _ _ | omega) jd_Conflicts_copyFrom_11 (by decide) rfl (fun q => ?_) (fun q => ?_)
      rotate_left
      · exfalso; omega
      refine zx_vret hE jd_Conflicts_copyFrom_34 rfl ?_
      obtain ⟨x1, x2, x3, x4⟩ := hl
      exact ⟨rfl, ⟨x1, hb, by omega, fun j hj => by rw [← hl2 j (by omega)]; exact x4 j (by omega)⟩, hF⟩
    | succ m ih =>
      intro i s l hi hl hl1 hl2 hF
      have h3 := h2.fr hF (by omega)
      have r1 : -2147483648 ≤ (b.2 i).1 ∧ (b.2 i).1 < 2147483648 := by rw [← (h2.2.2.2 i (by omega)).1]; exact rg_iv _ _ _
      have r2 : -2147483648 ≤ (b.2 i).2 ∧ (b.2 i).2 < 2147483648 := by rw [← (h2.2.2.2 i (by omega)).2]; exact rg_iv _ _ _
      refine jw_iload_n (pc' := 7) jd_Conflicts_copyFrom_6 rfl rfl rfl ?_
      refine jw_aload_n (pc' := 8) jd_Conflicts_copyFrom_7 rfl rfl rfl ?_
      refine zx_callV0 (pc' := 11) hR (k_many h3) jm_Conflicts_howMany jq_654 jc_Conflicts jd_Conflicts_copyFrom_8 (mc_Conflicts _ (by assumption)) rfl rfl (Nat.le_of_ble_eq_true rfl) (by omega) (by decide) rfl rfl ?_
      refine zx_icmp_ge (tgt := 34) (pc' := 14) (by first | exact rg_iv _ _ _ | omega) (by first | exact rg_iv _ _ _ | omega) jd_Conflicts_copyFrom_11 (by decide) rfl (fun q => ?_) (fun q => ?_)
      · exfalso; omega
      refine jw_aload_n (pc' := 15) jd_Conflicts_copyFrom_14 rfl rfl rfl ?_
      refine jw_aload_n (pc' := 16) jd_Conflicts_copyFrom_15 rfl rfl rfl ?_
      refine jw_iload_n (pc' := 17) jd_Conflicts_copyFrom_16 rfl rfl rfl ?_
      refine zx_callV0 (pc' := 20) hR (k_code h3 i (by omega)) jm_Conflicts_codeOf jq_655 jc_Conflicts jd_Conflicts_copyFrom_17 (mc_Conflicts _ (by assumption)) rfl rfl (Nat.le_of_ble_eq_true rfl) (by omega) (by decide) rfl rfl ?_
      refine jw_aload_n (pc' := 21) jd_Conflicts_copyFrom_20 rfl rfl rfl ?_
      refine jw_iload_n (pc' := 22) jd_Conflicts_copyFrom_21 rfl rfl rfl ?_
      refine zx_callV0 (pc' := 25) hR (k_path h3 i (by omega)) jm_Conflicts_pathOf jq_663 jc_Conflicts jd_Conflicts_copyFrom_22 (mc_Conflicts _ (by assumption)) rfl rfl (Nat.le_of_ble_eq_true rfl) (by omega) (by decide) rfl rfl ?_
      refine zx_callV (pc' := 28) hR (k_tell hl r1 r2) jm_Conflicts_tell jq_667 jc_Conflicts jd_Conflicts_copyFrom_25 (mc_Conflicts _ (by assumption)) rfl rfl (Nat.le_of_ble_eq_true rfl) (by omega) (by decide) rfl (fun v9 s2 q9 => ?_)
      obtain ⟨rfl, h4, f4⟩ := q9
      refine zx_iinc (pc' := 31) (lc' := [(0, _), (1, _), (2, _)]) jd_Conflicts_copyFrom_28 rfl (Nat.le_of_ble_eq_true rfl) ⟨rfl, rfl, rfl, trivial⟩ rfl ?_
      refine jw_goto (tgt := 6) jd_Conflicts_copyFrom_31 (by decide) ?_
      refine ih (i + 1) s2 _ (by omega) h4 ?_ (fun j hj => ?_) (hF.trans f4 (by omega) (by omega))
      · unfold kTell; rw [if_pos (by omega)]; dsimp only; omega
      · unfold kTell; rw [if_pos (by omega)]; dsimp only
        by_cases q9 : j = i
        · rw [if_pos (by omega), q9]
        · rw [if_neg (by omega)]; exact hl2 j (by omega)
  exact loop b.1 0 s1 _ (by omega) h1 rfl (fun j hj => absurd hj (by omega)) f1
end
noncomputable def blP (into bp op tp : zV) : Int × zV := @ite _ (op = bp) (Classical.propDecidable _) (0, vAll into tp) (@ite _ (tp = bp ∨ tp = op) (Classical.propDecidable _) (0, vAll into op) (1, vAll (vAll into op) tp))
theorem vAll_ok {a b : zV} (ha : okV a) (h1 : a.1 = 1) (hb : okV b) : okV (vAll a b) ∧ (vAll a b).1 = 1 := app_it hb.2.1 b.2.1 0 a ha h1
theorem v1_ok : okV v1 ∧ v1.1 = 1 := ⟨⟨Or.inr ⟨rfl, by simp [v1]⟩, fun j => by simp [v1], fun j _ => rfl⟩, rfl⟩
theorem v0_ok : okV v0 := ⟨Or.inl ⟨rfl, rfl⟩, fun j => by simp [v0], fun j _ => rfl⟩
theorem vPart_ok {w : zV} {f e : Nat} (hw : okV w) : okV (vPart w f e) ∧ (vPart w f e).1 = 1 := app_it hw.2.1 (e - f) f v1 v1_ok.1 v1_ok.2
theorem blP_ok {i b p t : zV} (hi : okV i) (h1 : i.1 = 1) (hp : okV p) (ht : okV t) : okV (blP i b p t).2 ∧ (blP i b p t).2.1 = 1 ∧ ((blP i b p t).1 = 0 ∨ (blP i b p t).1 = 1) := by
  unfold blP
  split
  · exact ⟨(vAll_ok hi h1 ht).1, (vAll_ok hi h1 ht).2, Or.inl rfl⟩
  · split
    · exact ⟨(vAll_ok hi h1 hp).1, (vAll_ok hi h1 hp).2, Or.inl rfl⟩
    · have h := vAll_ok hi h1 hp
      exact ⟨(vAll_ok h.1 h.2 ht).1, (vAll_ok h.1 h.2 ht).2, Or.inr rfl⟩
abbrev zB : Type := zV × Int × Nat × Nat × Nat
def blE (w : zV) (F : Nat → Int) (b : zV) (i : Nat) : Int := if i = b.2.1 then (w.2.1 : Int) else F i
noncomputable def blStep (b w t : zV) (F G : Nat → Int) (i : Nat) (u : zB) : zB :=
  if blE w F b i = -1 then u else if blE t G b i = -1 then u else
    (if i = b.2.1 then (blP u.1 (vPart b u.2.2.1 i) (vPart w u.2.2.2.1 (blE w F b i).toNat) (vPart t u.2.2.2.2 (blE t G b i).toNat)).2 else vApp (blP u.1 (vPart b u.2.2.1 i) (vPart w u.2.2.2.1 (blE w F b i).toNat) (vPart t u.2.2.2.2 (blE t G b i).toNat)).2 (b.2.2 i),
     if (blP u.1 (vPart b u.2.2.1 i) (vPart w u.2.2.2.1 (blE w F b i).toNat) (vPart t u.2.2.2.2 (blE t G b i).toNat)).1 = 0 then u.2.1 else 1, i + 1, (blE w F b i).toNat + 1, (blE t G b i).toNat + 1)
noncomputable def blF (b w t : zV) : zB := it (blStep b w t (pairs b w).1 (pairs b t).1) (b.2.1 + 1) 0 (v1, 0, 0, 0, 0)
def blQ (u : zB) : Prop := okV u.1 ∧ u.1.1 = 1 ∧ (u.2.1 = 0 ∨ u.2.1 = 1) ∧ u.2.2.1 ≤ 11 ∧ u.2.2.2.1 ≤ 11 ∧ u.2.2.2.2 ≤ 11
theorem blE_rng {b w : zV} (hb : okV b) (hw : okV w) (i : Nat) : -1 ≤ blE w (pairs b w).1 b i ∧ blE w (pairs b w).1 b i ≤ 10 := by
  have h := (pairs_rng hb hw).1 i
  have := hw.n
  unfold blE
  split <;> omega
theorem blStep_Q {b w t : zV} (hb : okV b) (hw : okV w) (ht : okV t) (i : Nat) (hi : i ≤ 10) (u : zB) (h : blQ u) : blQ (blStep b w t (pairs b w).1 (pairs b t).1 i u) := by
  obtain ⟨h1, h2, h3, h4, h5, h6⟩ := h
  have hp := blP_ok (b := vPart b u.2.2.1 i) h1 h2 (vPart_ok (f := u.2.2.2.1) (e := (blE w (pairs b w).1 b i).toNat) hw).1 (vPart_ok (f := u.2.2.2.2) (e := (blE t (pairs b t).1 b i).toNat) ht).1
  have r1 := blE_rng hb hw i
  have r2 := blE_rng hb ht i
  unfold blStep
  split
  · exact ⟨h1, h2, h3, h4, h5, h6⟩
  · split
    · exact ⟨h1, h2, h3, h4, h5, h6⟩
    · refine ⟨?_, ?_, ?_, by dsimp only; omega, by dsimp only; omega, by dsimp only; omega⟩
      · dsimp only; split
        · exact hp.1
        · exact (vApp_ok hp.1 hp.2.1 (hb.2.1 i)).1
      · dsimp only; split
        · exact hp.2.1
        · exact (vApp_ok hp.1 hp.2.1 (hb.2.1 i)).2
      · dsimp only; split
        · exact h3
        · exact Or.inr rfl
theorem bl0_Q : blQ (v1, 0, 0, 0, 0) := ⟨v1_ok.1, v1_ok.2, Or.inl rfl, by simp, by simp, by simp⟩
theorem blF_Q {b w t : zV} (hb : okV b) (hw : okV w) (ht : okV t) : blQ (blF b w t) := it_inv (N := b.2.1 + 1) (Q := fun _ u => blQ u) (fun i u hi h => blStep_Q hb hw ht i (by have := hb.n; omega) u h) _ 0 _ (by omega) bl0_Q
/-- equal sides are never torn -/
theorem blF_same (b w : zV) : (blF b w w).2.1 = 0 := by
  refine it_inv (N := b.2.1 + 1) (Q := fun _ (u : zB) => u.2.1 = 0 ∧ u.2.2.2.1 = u.2.2.2.2) (fun i u hi h => ?_) (b.2.1 + 1) 0 (v1, 0, 0, 0, 0) (by omega) ⟨rfl, rfl⟩ |>.1
  obtain ⟨h1, h2⟩ := h
  have hp : (blP u.1 (vPart b u.2.2.1 i) (vPart w u.2.2.2.1 (blE w (pairs b w).1 b i).toNat) (vPart w u.2.2.2.2 (blE w (pairs b w).1 b i).toNat)).1 = 0 := by
    rw [← h2]
    unfold blP
    split
    · rfl
    · rw [if_pos (Or.inr rfl)]
  unfold blStep
  by_cases q : blE w (pairs b w).1 b i = -1
  · rw [if_pos q]; exact ⟨h1, h2⟩
  · rw [if_neg q, if_neg q]; dsimp only; rw [if_pos hp]; exact ⟨h1, rfl⟩
def zF2 (σ σ' : zS) (a n b m : Nat) : Prop := ∀ q, (q < a ∨ a + n ≤ q) → (q < b ∨ b + m ≤ q) → σ' q = σ q
theorem zF.l {σ s : zS} {a n b m : Nat} (h : zF σ s a n) : zF2 σ s a n b m := fun q h1 _ => h q h1
theorem zF.r {σ s : zS} {a n b m : Nat} (h : zF σ s b m) : zF2 σ s a n b m := fun q _ h1 => h q h1
theorem zF2.trans {σ s s2 : zS} {a n b m : Nat} (h : zF2 σ s a n b m) (f : zF2 s s2 a n b m) : zF2 σ s2 a n b m := fun q h1 h2 => (f q h1 h2).trans (h q h1 h2)
theorem zF2.tl {σ s s2 : zS} {a n b m c k : Nat} (h : zF2 σ s a n b m) (f : zF s s2 c k) (h1 : a ≤ c) (h2 : c + k ≤ a + n) : zF2 σ s2 a n b m := fun q g1 g2 => (f q (by omega)).trans (h q g1 g2)
theorem zF2.tr {σ s s2 : zS} {a n b m c k : Nat} (h : zF2 σ s a n b m) (f : zF s s2 c k) (h1 : b ≤ c) (h2 : c + k ≤ b + m) : zF2 σ s2 a n b m := fun q g1 g2 => (f q (by omega)).trans (h q g1 g2)
theorem VC.fr2 {o : jw_O} {σ σ' : zS} {c a n b m : Nat} {v : zV} (h : VC o σ c v) (f : zF2 σ σ' a n b m) (hd : c + 2 ≤ a ∨ a + n ≤ c) (hd2 : c + 2 ≤ b ∨ b + m ≤ c) : VC o σ' c v := h.cell (f _ (by omega) (by omega)) (f _ (by omega) (by omega))
theorem TC.fr2 {o : jw_O} {σ σ' : zS} {t a n b m : Nat} {A : zT} (h : TC o σ t A) (f : zF2 σ σ' a n b m) (hd : t + 28 ≤ a ∨ a + n ≤ t) (hd2 : t + 28 ≤ b ∨ b + m ≤ t) : TC o σ' t A := ⟨h.1, fun p hp => (h.2 p hp).fr2 f (by unfold fA; omega) (by unfold fA; omega)⟩
theorem KC.fr2 {o : jw_O} {σ σ' : zS} {c a n b m : Nat} {l : zK} (h : KC o σ c l) (f : zF2 σ σ' a n b m) (hd : c + 3 ≤ a ∨ a + n ≤ c) (hd2 : c + 3 ≤ b ∨ b + m ≤ c) : KC o σ' c l := ⟨h.1, h.2.1, (iv_cell (f _ (by omega) (by omega)) _).trans h.2.2.1, fun j hj => ⟨(iv_cell (f _ (by omega) (by omega)) _).trans (h.2.2.2 j hj).1, (iv_cell (f _ (by omega) (by omega)) _).trans (h.2.2.2 j hj).2⟩⟩
section
variable {o : jw_O} {σ : zS} {c : Nat}
theorem b_parts {a b p t : zV} (hc : VC o σ c a) (h1 : a.1 = 1) (hb : VC o σ (zb o + 960) b) (hp : VC o σ (zb o + 962) p) (ht : VC o σ (zb o + 964) t) (hd : c + 2 ≤ zb o + 951 ∨ zb o + 966 ≤ c) : zSpec mi_Blender_blendParts 2 o [.ref (zb o + 951), .ref c] σ (fun v s => v = some (.int (iI (blP a b p t).1)) ∧ VC o s c (blP a b p t).2 ∧ zF σ s c 2) := by
  have hcc := hc.1
  have hbb := hb.1
  have hpp := hp.1
  have htt := ht.1
  have e1 := eqV_01 p b
  have e2 := eqV_01 t b
  have e3 := eqV_01 t p
  refine z_spec (by decide +kernel) (Nat.le_of_ble_eq_true rfl) rfl (fun k hs hR hE => ?_)
  refine jw_aload_n (pc' := 1) jd_Blender_blendParts_0 rfl rfl rfl ?_
  refine jw_get (pc' := 4) (kf := 3) jc_Blender (by decide) jq_192 jd_Blender_blendParts_1 (mc_Blender _) rfl rfl ?_
  refine jw_aload_n (pc' := 5) jd_Blender_blendParts_4 rfl rfl rfl ?_
  refine jw_get (pc' := 8) (kf := 2) jc_Blender (by decide) jq_191 jd_Blender_blendParts_5 (mc_Blender _) rfl rfl ?_
  refine zx_callV0 (pc' := 11) hR (c_sameAs hp hb) jm_Content_sameAs jq_623 jc_Content jd_Blender_blendParts_8 (mc_Content _ (by assumption)) rfl rfl (Nat.le_of_ble_eq_true rfl) (by omega) (by decide) rfl rfl ?_
  refine zx_if_eq (tgt := 24) (pc' := 14) (by first | exact rg_iv _ _ _ | omega) jd_Blender_blendParts_11 (by decide) rfl (fun q => ?_) (fun q => ?_)
  rotate_left
  · refine jw_aload_n (pc' := 15) jd_Blender_blendParts_14 rfl rfl rfl ?_
    refine jw_aload_n (pc' := 16) jd_Blender_blendParts_15 rfl rfl rfl ?_
    refine jw_get (pc' := 19) (kf := 4) jc_Blender (by decide) jq_193 jd_Blender_blendParts_16 (mc_Blender _) rfl rfl ?_
    refine zx_callV (pc' := 22) hR (c_appendAll hc h1 ht (by omega)) jm_Content_appendAll jq_624 jc_Content jd_Blender_blendParts_19 (mc_Content _ (by assumption)) rfl rfl (Nat.le_of_ble_eq_true rfl) (by omega) (by decide) rfl (fun v9 s1 q9 => ?_)
    obtain ⟨rfl, g1, f1⟩ := q9
    refine zx_iconst (pc' := 23) (n := 0) jd_Blender_blendParts_22 rfl ?_
    refine zx_zret (by first | exact Or.inl rfl | exact Or.inr rfl | assumption | omega) hE jd_Blender_blendParts_23 rfl ?_
    have e : blP a b p t = (0, vAll a t) := by unfold blP; rw [if_pos (eqV_1.mp (by omega))]
    rw [e]; exact ⟨rfl, g1, f1⟩
  have q0 : ¬ p = b := eqV_0.mp q
  refine jw_aload_n (pc' := 25) jd_Blender_blendParts_24 rfl rfl rfl ?_
  refine jw_aload_n (pc' := 26) jd_Blender_blendParts_25 rfl rfl rfl ?_
  refine jw_get (pc' := 29) (kf := 3) jc_Blender (by decide) jq_192 jd_Blender_blendParts_26 (mc_Blender _) rfl rfl ?_
  refine zx_callV (pc' := 32) hR (c_appendAll hc h1 hp (by omega)) jm_Content_appendAll jq_624 jc_Content jd_Blender_blendParts_29 (mc_Content _ (by assumption)) rfl rfl (Nat.le_of_ble_eq_true rfl) (by omega) (by decide) rfl (fun v9 s1 q9 => ?_)
  obtain ⟨rfl, g1, f1⟩ := q9
  refine jw_aload_n (pc' := 33) jd_Blender_blendParts_32 rfl rfl rfl ?_
  refine jw_get (pc' := 36) (kf := 4) jc_Blender (by decide) jq_193 jd_Blender_blendParts_33 (mc_Blender _) rfl rfl ?_
  refine jw_aload_n (pc' := 37) jd_Blender_blendParts_36 rfl rfl rfl ?_
  refine jw_get (pc' := 40) (kf := 2) jc_Blender (by decide) jq_191 jd_Blender_blendParts_37 (mc_Blender _) rfl rfl ?_
  refine zx_callV0 (pc' := 43) hR (c_sameAs (ht.fr f1 (by omega)) (hb.fr f1 (by omega))) jm_Content_sameAs jq_623 jc_Content jd_Blender_blendParts_40 (mc_Content _ (by assumption)) rfl rfl (Nat.le_of_ble_eq_true rfl) (by omega) (by decide) rfl rfl ?_
  refine zx_if_ne (tgt := 60) (pc' := 46) (by first | exact rg_iv _ _ _ | omega) jd_Blender_blendParts_43 (by decide) rfl (fun q2 => ?_) (fun q2 => ?_)
  · refine zx_iconst (pc' := 61) (n := 0) jd_Blender_blendParts_60 rfl ?_
    refine zx_zret (by first | exact Or.inl rfl | exact Or.inr rfl | assumption | omega) hE jd_Blender_blendParts_61 rfl ?_
    have e : blP a b p t = (0, vAll a p) := by unfold blP; rw [if_neg q0, if_pos (Or.inl (eqV_1.mp (by omega)))]
    rw [e]; exact ⟨rfl, g1, f1⟩
  refine jw_aload_n (pc' := 47) jd_Blender_blendParts_46 rfl rfl rfl ?_
  refine jw_get (pc' := 50) (kf := 4) jc_Blender (by decide) jq_193 jd_Blender_blendParts_47 (mc_Blender _) rfl rfl ?_
  refine jw_aload_n (pc' := 51) jd_Blender_blendParts_50 rfl rfl rfl ?_
  refine jw_get (pc' := 54) (kf := 3) jc_Blender (by decide) jq_192 jd_Blender_blendParts_51 (mc_Blender _) rfl rfl ?_
  refine zx_callV0 (pc' := 57) hR (c_sameAs (ht.fr f1 (by omega)) (hp.fr f1 (by omega))) jm_Content_sameAs jq_623 jc_Content jd_Blender_blendParts_54 (mc_Content _ (by assumption)) rfl rfl (Nat.le_of_ble_eq_true rfl) (by omega) (by decide) rfl rfl ?_
  refine zx_if_eq (tgt := 62) (pc' := 60) (by first | exact rg_iv _ _ _ | omega) jd_Blender_blendParts_57 (by decide) rfl (fun q3 => ?_) (fun q3 => ?_)
  rotate_left
  · refine zx_iconst (pc' := 61) (n := 0) jd_Blender_blendParts_60 rfl ?_
    refine zx_zret (by first | exact Or.inl rfl | exact Or.inr rfl | assumption | omega) hE jd_Blender_blendParts_61 rfl ?_
    have e : blP a b p t = (0, vAll a p) := by unfold blP; rw [if_neg q0, if_pos (Or.inr (eqV_1.mp (by omega)))]
    rw [e]; exact ⟨rfl, g1, f1⟩
  refine jw_aload_n (pc' := 63) jd_Blender_blendParts_62 rfl rfl rfl ?_
  refine jw_aload_n (pc' := 64) jd_Blender_blendParts_63 rfl rfl rfl ?_
  refine jw_get (pc' := 67) (kf := 4) jc_Blender (by decide) jq_193 jd_Blender_blendParts_64 (mc_Blender _) rfl rfl ?_
  refine zx_callV (pc' := 70) hR (c_appendAll g1 (vAll_ok hc.2.1 h1 hp.2.1).2 (ht.fr f1 (by omega)) (by omega)) jm_Content_appendAll jq_624 jc_Content jd_Blender_blendParts_67 (mc_Content _ (by assumption)) rfl rfl (Nat.le_of_ble_eq_true rfl) (by omega) (by decide) rfl (fun v9 s2 q9 => ?_)
  obtain ⟨rfl, g2, f2⟩ := q9
  refine zx_iconst (pc' := 71) (n := 1) jd_Blender_blendParts_70 rfl ?_
  refine zx_zret (by first | exact Or.inl rfl | exact Or.inr rfl | assumption | omega) hE jd_Blender_blendParts_71 rfl ?_
  have e : blP a b p t = (1, vAll (vAll a p) t) := by unfold blP; rw [if_neg q0, if_neg (fun z => z.elim (eqV_0.mp q2) (eqV_0.mp q3))]
  rw [e]; exact ⟨rfl, g2, f1.trans f2 (by omega) (by omega)⟩
theorem b_into {cb cw ct : Nat} {b w t : zV} (hc : isC o c) (hb : VC o σ cb b) (hw : VC o σ cw w) (ht : VC o σ ct t) (d1 : c + 2 ≤ cb ∨ cb + 2 ≤ c) (d2 : c + 2 ≤ cw ∨ cw + 2 ≤ c) (d3 : c + 2 ≤ ct ∨ ct + 2 ≤ c) (d4 : c + 2 ≤ zb o + 951 ∨ zb o + 966 ≤ c) (d5 : cb + 2 ≤ zb o + 951 ∨ zb o + 966 ≤ cb) (d6 : cw + 2 ≤ zb o + 951 ∨ zb o + 966 ≤ cw) (d7 : ct + 2 ≤ zb o + 951 ∨ zb o + 966 ≤ ct) : zSpec mi_Blender_blendInto 3 o [.ref (zb o + 951), .ref c, .ref cb, .ref cw, .ref ct] σ (fun v s => v = some (.int (iI (blF b w t).2.1)) ∧ VC o s c (blF b w t).1 ∧ zF2 σ s (zb o + 951) 15 c 2) := by
  have hbb := hb.1
  have hww := hw.1
  have htt := ht.1
  have hbn := hb.2.1.n
  have hwn := hw.2.1.n
  have htn := ht.2.1.n
  have i1 := isM_ours (o := o)
  have i2 := isM_theirs (o := o)
  have i3 := isC_base (o := o)
  have i4 := isC_our (o := o)
  have i5 := isC_their (o := o)
  refine z_spec (by decide +kernel) (Nat.le_of_ble_eq_true rfl) rfl (fun k hs hR hE => ?_)
  refine jw_aload_n (pc' := 1) jd_Blender_blendInto_0 rfl rfl rfl ?_
  refine jw_get (pc' := 4) (kf := 0) jc_Blender (by decide) jq_189 jd_Blender_blendInto_1 (mc_Blender _) rfl rfl ?_
  refine jw_aload_n (pc' := 5) jd_Blender_blendInto_4 rfl rfl rfl ?_
  refine jw_aload_n (pc' := 6) jd_Blender_blendInto_5 rfl rfl rfl ?_
  refine zx_callV (pc' := 9) hR (m_pairUp i1 hb hw (by omega) (by omega)) jm_Match_pairUp jq_597 jc_Match jd_Blender_blendInto_6 (mc_Match _ (by assumption)) rfl rfl (Nat.le_of_ble_eq_true rfl) (by omega) (by decide) rfl (fun v9 s1 q9 => ?_)
  obtain ⟨rfl, p1, -, f1⟩ := q9
  have F1 : zF2 σ s1 (zb o + 951) 15 c 2 := (f1.mono (by omega) (by omega) : zF σ s1 (zb o + 951) 15).l
  refine jw_aload_n (pc' := 10) jd_Blender_blendInto_9 rfl rfl rfl ?_
  refine jw_get (pc' := 13) (kf := 1) jc_Blender (by decide) jq_190 jd_Blender_blendInto_10 (mc_Blender _) rfl rfl ?_
  refine jw_aload_n (pc' := 14) jd_Blender_blendInto_13 rfl rfl rfl ?_
  refine jw_aload (pc' := 16) jd_Blender_blendInto_14 rfl rfl ?_
  refine zx_callV (pc' := 19) hR (m_pairUp i2 (hb.fr2 F1 (by omega) (by omega)) (ht.fr2 F1 (by omega) (by omega)) (by omega) (by omega)) jm_Match_pairUp jq_597 jc_Match jd_Blender_blendInto_16 (mc_Match _ (by assumption)) rfl rfl (Nat.le_of_ble_eq_true rfl) (by omega) (by decide) rfl (fun v9 s2 q9 => ?_)
  obtain ⟨rfl, p2, -, f2⟩ := q9
  refine jw_aload_n (pc' := 20) jd_Blender_blendInto_19 rfl rfl rfl ?_
  refine zx_callV (pc' := 23) hR (c_empty hc) jm_Content_becomeEmpty jq_601 jc_Content jd_Blender_blendInto_20 (mc_Content _ (by assumption)) rfl rfl (Nat.le_of_ble_eq_true rfl) (by omega) (by decide) rfl (fun v9 s3 q9 => ?_)
  obtain ⟨rfl, p3, f3⟩ := q9
  have F3 : zF2 σ s3 (zb o + 951) 15 c 2 := (F1.tl f2 (by omega) (by omega)).tr f3 (by omega) (by omega)
  refine zx_iconst (pc' := 24) (n := 0) jd_Blender_blendInto_23 rfl ?_
  refine jw_istore (pc' := 26) (lc' := [(0, _), (1, _), (2, _), (3, _), (4, _), (5, _)]) jd_Blender_blendInto_24 (Nat.le_of_ble_eq_true rfl) ⟨rfl, rfl, rfl, rfl, rfl, rfl, trivial⟩ rfl ?_
  refine zx_iconst (pc' := 27) (n := 0) jd_Blender_blendInto_26 rfl ?_
  refine jw_istore (pc' := 29) (lc' := [(0, _), (1, _), (2, _), (3, _), (4, _), (5, _), (6, _)]) jd_Blender_blendInto_27 (Nat.le_of_ble_eq_true rfl) ⟨rfl, rfl, rfl, rfl, rfl, rfl, rfl, trivial⟩ rfl ?_
  refine zx_iconst (pc' := 30) (n := 0) jd_Blender_blendInto_29 rfl ?_
  refine jw_istore (pc' := 32) (lc' := [(0, _), (1, _), (2, _), (3, _), (4, _), (5, _), (6, _), (7, _)]) jd_Blender_blendInto_30 (Nat.le_of_ble_eq_true rfl) ⟨rfl, rfl, rfl, rfl, rfl, rfl, rfl, rfl, trivial⟩ rfl ?_
  refine zx_iconst (pc' := 33) (n := 0) jd_Blender_blendInto_32 rfl ?_
  refine jw_istore (pc' := 35) (lc' := [(0, _), (1, _), (2, _), (3, _), (4, _), (5, _), (6, _), (7, _), (8, _)]) jd_Blender_blendInto_33 (Nat.le_of_ble_eq_true rfl) ⟨rfl, rfl, rfl, rfl, rfl, rfl, rfl, rfl, rfl, trivial⟩ rfl ?_
  refine zx_iconst (pc' := 36) (n := 0) jd_Blender_blendInto_35 rfl ?_
  refine jw_istore (pc' := 38) (lc' := [(0, _), (1, _), (2, _), (3, _), (4, _), (5, _), (6, _), (7, _), (8, _), (9, _)]) jd_Blender_blendInto_36 (Nat.le_of_ble_eq_true rfl) ⟨rfl, rfl, rfl, rfl, rfl, rfl, rfl, rfl, rfl, rfl, trivial⟩ rfl ?_
  have loop : ∀ (m i : Nat) (s : zS) (u : zB), i + m = b.2.1 + 1 → blQ u → VC o s c u.1 → (∀ q, q < 10 → iv s (zb o + 954) q = (pairs b w).1 q) → (∀ q, q < 10 → iv s (zb o + 958) q = (pairs b t).1 q) → zF2 σ s (zb o + 951) 15 c 2 → it (blStep b w t (pairs b w).1 (pairs b t).1) m i u = blF b w t → jw_X mi_Blender_blendInto o k 0 0 38 [(0, .ref (zb o + 951)), (1, .ref c), (2, .ref cb), (3, .ref cw), (4, .ref ct), (5, .int (iI u.2.1)), (6, .int (iI u.2.2.1)), (7, .int (iI u.2.2.2.1)), (8, .int (iI u.2.2.2.2)), (9, .int (iI i))] [] (mm o s) hs := by
    intro m
    induction m with
    | zero =>
      intro i s u hi hQ hV hp1 hp2 hF he
      have sb2 := hb.fr2 hF (by omega) (by omega)
      have h01 := hQ.2.2.1
      refine jw_iload (pc' := 40) jd_Blender_blendInto_38 rfl rfl ?_
      refine jw_aload_n (pc' := 41) jd_Blender_blendInto_40 rfl rfl rfl ?_
      refine zx_callV0 (pc' := 44) hR (c_length sb2) jm_Content_length jq_605 jc_Content jd_Blender_blendInto_41 (mc_Content _ (by assumption)) rfl rfl (Nat.le_of_ble_eq_true rfl) (by omega) (by decide) rfl rfl ?_
      refine zx_icmp_gt (tgt := 218) (pc' := 47) (by first | exact rg_iv _ _ _ | omega) (by first | exact rg_iv _ _ _ | omega) jd_Blender_blendInto_44 (by decide) rfl (fun q => ?_) (fun q => ?_)
      rotate_left
      · exfalso; omega
      refine jw_iload (pc' := 220) jd_Blender_blendInto_218 rfl rfl ?_
      refine zx_zret (by first | exact Or.inl rfl | exact Or.inr rfl | assumption | omega) hE jd_Blender_blendInto_220 rfl ?_
      have he : u = blF b w t := he
      rw [← he]; exact ⟨rfl, hV, hF⟩
    | succ m ih =>
      intro i s u hi hQ hV hp1 hp2 hF he
      have sb2 := hb.fr2 hF (by omega) (by omega)
      have sw2 := hw.fr2 hF (by omega) (by omega)
      have st2 := ht.fr2 hF (by omega) (by omega)
      have hst := blStep_Q hb.2.1 hw.2.1 ht.2.1 i (by omega) u hQ
      have he : it (blStep b w t (pairs b w).1 (pairs b t).1) m (i + 1) (blStep b w t (pairs b w).1 (pairs b t).1 i u) = blF b w t := he
      have r1 := blE_rng hb.2.1 hw.2.1 i
      have r2 := blE_rng hb.2.1 ht.2.1 i
      obtain ⟨z1, z2, z3, z4, z5, z6⟩ := hQ
      -- from the two ends on
      have part2 : ∀ (x : Int), (x = 1 ∧ i = b.2.1 ∨ x = 0 ∧ ¬ i = b.2.1) → jw_X mi_Blender_blendInto o k 0 0 110 [(0, .ref (zb o + 951)), (1, .ref c), (2, .ref cb), (3, .ref cw), (4, .ref ct), (5, .int (iI u.2.1)), (6, .int (iI u.2.2.1)), (7, .int (iI u.2.2.2.1)), (8, .int (iI u.2.2.2.2)), (9, .int (iI i)), (10, .int (iI x)), (11, .int (iI (blE w (pairs b w).1 b i))), (12, .int (iI (blE t (pairs b t).1 b i)))] [] (mm o s) hs := by
        intro x hx
        refine jw_iload (pc' := 112) jd_Blender_blendInto_110 rfl rfl ?_
        refine zx_iconst (pc' := 113) (n := -1) jd_Blender_blendInto_112 rfl ?_
        refine zx_icmp_eq (tgt := 212) (pc' := 116) (by first | exact rg_iv _ _ _ | omega) (by first | exact rg_iv _ _ _ | omega) jd_Blender_blendInto_113 (by decide) rfl (fun q1 => ?_) (fun q1 => ?_)
        · refine zx_iinc (pc' := 215) (lc' := [(0, _), (1, _), (2, _), (3, _), (4, _), (5, _), (6, _), (7, _), (8, _), (9, _)]) jd_Blender_blendInto_212 rfl (Nat.le_of_ble_eq_true rfl) ⟨rfl, rfl, rfl, rfl, rfl, rfl, rfl, rfl, rfl, rfl, trivial⟩ rfl ?_
          refine jw_goto (tgt := 38) jd_Blender_blendInto_215 (by decide) ?_
          have e : blStep b w t (pairs b w).1 (pairs b t).1 i u = u := by unfold blStep; rw [if_pos q1]
          rw [e] at he
          exact ih (i + 1) s u (by omega) ⟨z1, z2, z3, z4, z5, z6⟩ hV hp1 hp2 hF he
        refine jw_iload (pc' := 118) jd_Blender_blendInto_116 rfl rfl ?_
        refine zx_iconst (pc' := 119) (n := -1) jd_Blender_blendInto_118 rfl ?_
        refine zx_icmp_eq (tgt := 212) (pc' := 122) (by first | exact rg_iv _ _ _ | omega) (by first | exact rg_iv _ _ _ | omega) jd_Blender_blendInto_119 (by decide) rfl (fun q2 => ?_) (fun q2 => ?_)
        · refine zx_iinc (pc' := 215) (lc' := [(0, _), (1, _), (2, _), (3, _), (4, _), (5, _), (6, _), (7, _), (8, _), (9, _)]) jd_Blender_blendInto_212 rfl (Nat.le_of_ble_eq_true rfl) ⟨rfl, rfl, rfl, rfl, rfl, rfl, rfl, rfl, rfl, rfl, trivial⟩ rfl ?_
          refine jw_goto (tgt := 38) jd_Blender_blendInto_215 (by decide) ?_
          have e : blStep b w t (pairs b w).1 (pairs b t).1 i u = u := by unfold blStep; rw [if_neg q1, if_pos q2]
          rw [e] at he
          exact ih (i + 1) s u (by omega) ⟨z1, z2, z3, z4, z5, z6⟩ hV hp1 hp2 hF he
        obtain ⟨eO, heO⟩ : ∃ n : Nat, blE w (pairs b w).1 b i = n := ⟨(blE w (pairs b w).1 b i).toNat, by omega⟩
        obtain ⟨eT, heT⟩ : ∃ n : Nat, blE t (pairs b t).1 b i = n := ⟨(blE t (pairs b t).1 b i).toNat, by omega⟩
        have hstep : blStep b w t (pairs b w).1 (pairs b t).1 i u = (if i = b.2.1 then (blP u.1 (vPart b u.2.2.1 i) (vPart w u.2.2.2.1 eO) (vPart t u.2.2.2.2 eT)).2 else vApp (blP u.1 (vPart b u.2.2.1 i) (vPart w u.2.2.2.1 eO) (vPart t u.2.2.2.2 eT)).2 (b.2.2 i), if (blP u.1 (vPart b u.2.2.1 i) (vPart w u.2.2.2.1 eO) (vPart t u.2.2.2.2 eT)).1 = 0 then u.2.1 else 1, i + 1, eO + 1, eT + 1) := by
          unfold blStep
          rw [if_neg q1, if_neg q2, heO, heT]
          simp only [Int.toNat_natCast]
        rw [hstep] at he hst
        rw [heO, heT]
        rw [heO] at r1
        rw [heT] at r2
        have hP := blP_ok (b := vPart b u.2.2.1 i) z1 z2 (vPart_ok (f := u.2.2.2.1) (e := eO) hw.2.1).1 (vPart_ok (f := u.2.2.2.2) (e := eT) ht.2.1).1
        refine jw_aload_n (pc' := 123) jd_Blender_blendInto_122 rfl rfl rfl ?_
        refine jw_get (pc' := 126) (kf := 2) jc_Blender (by decide) jq_191 jd_Blender_blendInto_123 (mc_Blender _) rfl rfl ?_
        refine jw_aload_n (pc' := 127) jd_Blender_blendInto_126 rfl rfl rfl ?_
        refine jw_iload (pc' := 129) jd_Blender_blendInto_127 rfl rfl ?_
        refine jw_iload (pc' := 131) jd_Blender_blendInto_129 rfl rfl ?_
        refine zx_callV (pc' := 134) hR (c_part i3 sb2 (by omega) u.2.2.1 i (by omega) (by omega)) jm_Content_becomePart jq_610 jc_Content jd_Blender_blendInto_131 (mc_Content _ (by assumption)) rfl rfl (Nat.le_of_ble_eq_true rfl) (by omega) (by decide) rfl (fun v9 sa q9 => ?_)
        obtain ⟨rfl, ga, fa⟩ := q9
        have Fa : zF2 σ sa (zb o + 951) 15 c 2 := hF.tl fa (by omega) (by omega)
        refine jw_aload_n (pc' := 135) jd_Blender_blendInto_134 rfl rfl rfl ?_
        refine jw_get (pc' := 138) (kf := 3) jc_Blender (by decide) jq_192 jd_Blender_blendInto_135 (mc_Blender _) rfl rfl ?_
        refine jw_aload_n (pc' := 139) jd_Blender_blendInto_138 rfl rfl rfl ?_
        refine jw_iload (pc' := 141) jd_Blender_blendInto_139 rfl rfl ?_
        refine jw_iload (pc' := 143) jd_Blender_blendInto_141 rfl rfl ?_
        refine zx_callV (pc' := 146) hR (c_part i4 (hw.fr2 Fa (by omega) (by omega)) (by omega) u.2.2.2.1 eO (by omega) (by omega)) jm_Content_becomePart jq_610 jc_Content jd_Blender_blendInto_143 (mc_Content _ (by assumption)) rfl rfl (Nat.le_of_ble_eq_true rfl) (by omega) (by decide) rfl (fun v9 sc q9 => ?_)
        obtain ⟨rfl, gc, fc⟩ := q9
        have Fc : zF2 σ sc (zb o + 951) 15 c 2 := Fa.tl fc (by omega) (by omega)
        refine jw_aload_n (pc' := 147) jd_Blender_blendInto_146 rfl rfl rfl ?_
        refine jw_get (pc' := 150) (kf := 4) jc_Blender (by decide) jq_193 jd_Blender_blendInto_147 (mc_Blender _) rfl rfl ?_
        refine jw_aload (pc' := 152) jd_Blender_blendInto_150 rfl rfl ?_
        refine jw_iload (pc' := 154) jd_Blender_blendInto_152 rfl rfl ?_
        refine jw_iload (pc' := 156) jd_Blender_blendInto_154 rfl rfl ?_
        refine zx_callV (pc' := 159) hR (c_part i5 (ht.fr2 Fc (by omega) (by omega)) (by omega) u.2.2.2.2 eT (by omega) (by omega)) jm_Content_becomePart jq_610 jc_Content jd_Blender_blendInto_156 (mc_Content _ (by assumption)) rfl rfl (Nat.le_of_ble_eq_true rfl) (by omega) (by decide) rfl (fun v9 sd q9 => ?_)
        obtain ⟨rfl, gd, fd⟩ := q9
        have Fd : zF2 σ sd (zb o + 951) 15 c 2 := Fc.tl fd (by omega) (by omega)
        have hVd := ((hV.fr fa (by omega)).fr fc (by omega)).fr fd (by omega)
        refine jw_aload_n (pc' := 160) jd_Blender_blendInto_159 rfl rfl rfl ?_
        refine jw_aload_n (pc' := 161) jd_Blender_blendInto_160 rfl rfl rfl ?_
        refine zx_callV (pc' := 164) hR (b_parts hVd z2 ((ga.fr fc (by omega)).fr fd (by omega)) (gc.fr fd (by omega)) gd d4) jm_Blender_blendParts jq_619 jc_Blender jd_Blender_blendInto_161 (mc_Blender _) rfl rfl (Nat.le_of_ble_eq_true rfl) (by omega) (by decide) rfl (fun v9 se q9 => ?_)
        obtain ⟨rfl, ge, fe⟩ := q9
        have Fe : zF2 σ se (zb o + 951) 15 c 2 := Fd.tr fe (by omega) (by omega)
        have hpe1 : ∀ q, q < 10 → iv se (zb o + 954) q = (pairs b w).1 q := fun q hq => by
          rw [iv_cell (fe _ (by omega)), iv_cell (fd _ (by omega)), iv_cell (fc _ (by omega)), iv_cell (fa _ (by omega))]; exact hp1 q hq
        have hpe2 : ∀ q, q < 10 → iv se (zb o + 958) q = (pairs b t).1 q := fun q hq => by
          rw [iv_cell (fe _ (by omega)), iv_cell (fd _ (by omega)), iv_cell (fc _ (by omega)), iv_cell (fa _ (by omega))]; exact hp2 q hq
        have h01 := hP.2.2
        have part3 : ∀ (y : Int), y = (if (blP u.1 (vPart b u.2.2.1 i) (vPart w u.2.2.2.1 eO) (vPart t u.2.2.2.2 eT)).1 = 0 then u.2.1 else 1) → jw_X mi_Blender_blendInto o k 0 0 179 [(0, .ref (zb o + 951)), (1, .ref c), (2, .ref cb), (3, .ref cw), (4, .ref ct), (5, .int (iI y)), (9, .int (iI i)), (10, .int (iI x)), (11, .int (iI eO)), (12, .int (iI eT))] [] (mm o se) hs := by
          intro y hy
          refine jw_iload (pc' := 181) jd_Blender_blendInto_179 rfl rfl ?_
          refine zx_if_ne (tgt := 194) (pc' := 184) (by first | exact rg_iv _ _ _ | omega) jd_Blender_blendInto_181 (by decide) rfl (fun q5 => ?_) (fun q5 => ?_)
          · refine jw_iload (pc' := 196) jd_Blender_blendInto_194 rfl rfl ?_
            refine zx_iconst (pc' := 197) (n := 1) jd_Blender_blendInto_196 rfl ?_
            refine zx_iadd (pc' := 198) jd_Blender_blendInto_197 rfl ?_
            refine jw_istore (pc' := 200) (lc' := [(0, _), (1, _), (2, _), (3, _), (4, _), (5, _), (6, _), (9, _), (11, _), (12, _)]) jd_Blender_blendInto_198 (Nat.le_of_ble_eq_true rfl) ⟨rfl, rfl, rfl, rfl, rfl, rfl, rfl, rfl, rfl, rfl, trivial⟩ rfl ?_
            refine jw_iload (pc' := 202) jd_Blender_blendInto_200 rfl rfl ?_
            refine zx_iconst (pc' := 203) (n := 1) jd_Blender_blendInto_202 rfl ?_
            refine zx_iadd (pc' := 204) jd_Blender_blendInto_203 rfl ?_
            refine jw_istore (pc' := 206) (lc' := [(0, _), (1, _), (2, _), (3, _), (4, _), (5, _), (6, _), (7, _), (9, _), (12, _)]) jd_Blender_blendInto_204 (Nat.le_of_ble_eq_true rfl) ⟨rfl, rfl, rfl, rfl, rfl, rfl, rfl, rfl, rfl, rfl, trivial⟩ rfl ?_
            refine jw_iload (pc' := 208) jd_Blender_blendInto_206 rfl rfl ?_
            refine zx_iconst (pc' := 209) (n := 1) jd_Blender_blendInto_208 rfl ?_
            refine zx_iadd (pc' := 210) jd_Blender_blendInto_209 rfl ?_
            refine jw_istore (pc' := 212) (lc' := [(0, _), (1, _), (2, _), (3, _), (4, _), (5, _), (6, _), (7, _), (8, _), (9, _)]) jd_Blender_blendInto_210 (Nat.le_of_ble_eq_true rfl) ⟨rfl, rfl, rfl, rfl, rfl, rfl, rfl, rfl, rfl, rfl, trivial⟩ rfl ?_
            refine zx_iinc (pc' := 215) (lc' := [(0, _), (1, _), (2, _), (3, _), (4, _), (5, _), (6, _), (7, _), (8, _), (9, _)]) jd_Blender_blendInto_212 rfl (Nat.le_of_ble_eq_true rfl) ⟨rfl, rfl, rfl, rfl, rfl, rfl, rfl, rfl, rfl, rfl, trivial⟩ rfl ?_
            refine jw_goto (tgt := 38) jd_Blender_blendInto_215 (by decide) ?_
            rw [if_pos (show i = b.2.1 by omega), ← hy] at he hst
            exact ih (i + 1) se _ (by omega) hst ge hpe1 hpe2 Fe he
          · have sbe := hb.fr2 Fe (by omega) (by omega)
            refine jw_aload_n (pc' := 185) jd_Blender_blendInto_184 rfl rfl rfl ?_
            refine jw_aload_n (pc' := 186) jd_Blender_blendInto_185 rfl rfl rfl ?_
            refine jw_iload (pc' := 188) jd_Blender_blendInto_186 rfl rfl ?_
            refine zx_callV0 (pc' := 191) hR (c_lineAt sbe i (by omega)) jm_Content_lineAt jq_628 jc_Content jd_Blender_blendInto_188 (mc_Content _ (by assumption)) rfl rfl (Nat.le_of_ble_eq_true rfl) (by omega) (by decide) rfl rfl ?_
            refine zx_callV (pc' := 194) hR (c_append ge hP.2.1 (hb.2.1.2.1 i)) jm_Content_append jq_629 jc_Content jd_Blender_blendInto_191 (mc_Content _ (by assumption)) rfl rfl (Nat.le_of_ble_eq_true rfl) (by omega) (by decide) rfl (fun v9 sg q9 => ?_)
            obtain ⟨rfl, gg, fg⟩ := q9
            refine jw_iload (pc' := 196) jd_Blender_blendInto_194 rfl rfl ?_
            refine zx_iconst (pc' := 197) (n := 1) jd_Blender_blendInto_196 rfl ?_
            refine zx_iadd (pc' := 198) jd_Blender_blendInto_197 rfl ?_
            refine jw_istore (pc' := 200) (lc' := [(0, _), (1, _), (2, _), (3, _), (4, _), (5, _), (6, _), (9, _), (11, _), (12, _)]) jd_Blender_blendInto_198 (Nat.le_of_ble_eq_true rfl) ⟨rfl, rfl, rfl, rfl, rfl, rfl, rfl, rfl, rfl, rfl, trivial⟩ rfl ?_
            refine jw_iload (pc' := 202) jd_Blender_blendInto_200 rfl rfl ?_
            refine zx_iconst (pc' := 203) (n := 1) jd_Blender_blendInto_202 rfl ?_
            refine zx_iadd (pc' := 204) jd_Blender_blendInto_203 rfl ?_
            refine jw_istore (pc' := 206) (lc' := [(0, _), (1, _), (2, _), (3, _), (4, _), (5, _), (6, _), (7, _), (9, _), (12, _)]) jd_Blender_blendInto_204 (Nat.le_of_ble_eq_true rfl) ⟨rfl, rfl, rfl, rfl, rfl, rfl, rfl, rfl, rfl, rfl, trivial⟩ rfl ?_
            refine jw_iload (pc' := 208) jd_Blender_blendInto_206 rfl rfl ?_
            refine zx_iconst (pc' := 209) (n := 1) jd_Blender_blendInto_208 rfl ?_
            refine zx_iadd (pc' := 210) jd_Blender_blendInto_209 rfl ?_
            refine jw_istore (pc' := 212) (lc' := [(0, _), (1, _), (2, _), (3, _), (4, _), (5, _), (6, _), (7, _), (8, _), (9, _)]) jd_Blender_blendInto_210 (Nat.le_of_ble_eq_true rfl) ⟨rfl, rfl, rfl, rfl, rfl, rfl, rfl, rfl, rfl, rfl, trivial⟩ rfl ?_
            refine zx_iinc (pc' := 215) (lc' := [(0, _), (1, _), (2, _), (3, _), (4, _), (5, _), (6, _), (7, _), (8, _), (9, _)]) jd_Blender_blendInto_212 rfl (Nat.le_of_ble_eq_true rfl) ⟨rfl, rfl, rfl, rfl, rfl, rfl, rfl, rfl, rfl, rfl, trivial⟩ rfl ?_
            refine jw_goto (tgt := 38) jd_Blender_blendInto_215 (by decide) ?_
            rw [if_neg (show ¬ i = b.2.1 by omega), ← hy] at he hst
            refine ih (i + 1) sg _ (by omega) hst gg (fun q hq => ?_) (fun q hq => ?_) (Fe.tr fg (by omega) (by omega)) he
            · rw [iv_cell (fg _ (by omega))]; exact hpe1 q hq
            · rw [iv_cell (fg _ (by omega))]; exact hpe2 q hq
        refine zx_if_ne (tgt := 172) (pc' := 167) (by first | exact rg_iv _ _ _ | omega) jd_Blender_blendInto_164 (by decide) rfl (fun q3 => ?_) (fun q3 => ?_)
        · refine zx_iconst (pc' := 173) (n := 1) jd_Blender_blendInto_172 rfl ?_
          refine jw_goto (tgt := 177) jd_Blender_blendInto_173 (by decide) ?_
          refine jw_istore (pc' := 179) (lc' := [(0, _), (1, _), (2, _), (3, _), (4, _), (5, _), (9, _), (10, _), (11, _), (12, _)]) jd_Blender_blendInto_177 (Nat.le_of_ble_eq_true rfl) ⟨rfl, rfl, rfl, rfl, rfl, rfl, rfl, rfl, rfl, rfl, trivial⟩ rfl ?_
          exact part3 1 (by rw [if_neg q3])
        refine jw_iload (pc' := 169) jd_Blender_blendInto_167 rfl rfl ?_
        refine zx_if_eq (tgt := 176) (pc' := 172) (by first | exact rg_iv _ _ _ | omega) jd_Blender_blendInto_169 (by decide) rfl (fun q4 => ?_) (fun q4 => ?_)
        · refine zx_iconst (pc' := 177) (n := 0) jd_Blender_blendInto_176 rfl ?_
          refine jw_istore (pc' := 179) (lc' := [(0, _), (1, _), (2, _), (3, _), (4, _), (5, _), (9, _), (10, _), (11, _), (12, _)]) jd_Blender_blendInto_177 (Nat.le_of_ble_eq_true rfl) ⟨rfl, rfl, rfl, rfl, rfl, rfl, rfl, rfl, rfl, rfl, trivial⟩ rfl ?_
          exact part3 0 (by rw [if_pos q3]; omega)
        · refine zx_iconst (pc' := 173) (n := 1) jd_Blender_blendInto_172 rfl ?_
          refine jw_goto (tgt := 177) jd_Blender_blendInto_173 (by decide) ?_
          refine jw_istore (pc' := 179) (lc' := [(0, _), (1, _), (2, _), (3, _), (4, _), (5, _), (9, _), (10, _), (11, _), (12, _)]) jd_Blender_blendInto_177 (Nat.le_of_ble_eq_true rfl) ⟨rfl, rfl, rfl, rfl, rfl, rfl, rfl, rfl, rfl, rfl, trivial⟩ rfl ?_
          exact part3 1 (by rw [if_pos q3]; omega)
      have part1 : ∀ (x : Int), (x = 1 ∧ i = b.2.1 ∨ x = 0 ∧ ¬ i = b.2.1) → jw_X mi_Blender_blendInto o k 0 0 63 [(0, .ref (zb o + 951)), (1, .ref c), (2, .ref cb), (3, .ref cw), (4, .ref ct), (5, .int (iI u.2.1)), (6, .int (iI u.2.2.1)), (7, .int (iI u.2.2.2.1)), (8, .int (iI u.2.2.2.2)), (9, .int (iI i)), (10, .int (iI x))] [] (mm o s) hs := by
        intro x hx
        refine jw_iload (pc' := 65) jd_Blender_blendInto_63 rfl rfl ?_
        refine zx_if_eq (tgt := 75) (pc' := 68) (by first | exact rg_iv _ _ _ | omega) jd_Blender_blendInto_65 (by decide) rfl (fun q1 => ?_) (fun q1 => ?_)
        · have e1 : iv s (zb o + 952 + 2) i = blE w (pairs b w).1 b i := by unfold blE; rw [if_neg (by omega)]; exact hp1 i (by omega)
          have e2 : iv s (zb o + 956 + 2) i = blE t (pairs b t).1 b i := by unfold blE; rw [if_neg (by omega)]; exact hp2 i (by omega)
          refine jw_aload_n (pc' := 76) jd_Blender_blendInto_75 rfl rfl rfl ?_
          refine jw_get (pc' := 79) (kf := 0) jc_Blender (by decide) jq_189 jd_Blender_blendInto_76 (mc_Blender _) rfl rfl ?_
          refine jw_iload (pc' := 81) jd_Blender_blendInto_79 rfl rfl ?_
          refine zx_callV0 (pc' := 84) hR (m_partB i1 i (by omega)) jm_Match_partnerInB jq_606 jc_Match jd_Blender_blendInto_81 (mc_Match _ (by assumption)) rfl rfl (Nat.le_of_ble_eq_true rfl) (by omega) (by decide) rfl rfl ?_
          rw [e1]
          refine jw_istore (pc' := 86) (lc' := [(0, _), (1, _), (2, _), (3, _), (4, _), (5, _), (6, _), (7, _), (8, _), (9, _), (10, _), (11, _)]) jd_Blender_blendInto_84 (Nat.le_of_ble_eq_true rfl) ⟨rfl, rfl, rfl, rfl, rfl, rfl, rfl, rfl, rfl, rfl, rfl, rfl, trivial⟩ rfl ?_
          refine jw_iload (pc' := 88) jd_Blender_blendInto_86 rfl rfl ?_
          refine zx_if_eq (tgt := 99) (pc' := 91) (by first | exact rg_iv _ _ _ | omega) jd_Blender_blendInto_88 (by decide) rfl (fun q2 => ?_) (fun q2 => ?_)
          rotate_left
          · exfalso; omega
          refine jw_aload_n (pc' := 100) jd_Blender_blendInto_99 rfl rfl rfl ?_
          refine jw_get (pc' := 103) (kf := 1) jc_Blender (by decide) jq_190 jd_Blender_blendInto_100 (mc_Blender _) rfl rfl ?_
          refine jw_iload (pc' := 105) jd_Blender_blendInto_103 rfl rfl ?_
          refine zx_callV0 (pc' := 108) hR (m_partB i2 i (by omega)) jm_Match_partnerInB jq_606 jc_Match jd_Blender_blendInto_105 (mc_Match _ (by assumption)) rfl rfl (Nat.le_of_ble_eq_true rfl) (by omega) (by decide) rfl rfl ?_
          rw [e2]
          refine jw_istore (pc' := 110) (lc' := [(0, _), (1, _), (2, _), (3, _), (4, _), (5, _), (6, _), (7, _), (8, _), (9, _), (10, _), (11, _), (12, _)]) jd_Blender_blendInto_108 (Nat.le_of_ble_eq_true rfl) ⟨rfl, rfl, rfl, rfl, rfl, rfl, rfl, rfl, rfl, rfl, rfl, rfl, rfl, trivial⟩ rfl ?_
          exact part2 x hx
        · have e1 : (w.2.1 : Int) = blE w (pairs b w).1 b i := by unfold blE; rw [if_pos (by omega)]
          have e2 : (t.2.1 : Int) = blE t (pairs b t).1 b i := by unfold blE; rw [if_pos (by omega)]
          refine jw_aload_n (pc' := 69) jd_Blender_blendInto_68 rfl rfl rfl ?_
          refine zx_callV0 (pc' := 72) hR (c_length sw2) jm_Content_length jq_605 jc_Content jd_Blender_blendInto_69 (mc_Content _ (by assumption)) rfl rfl (Nat.le_of_ble_eq_true rfl) (by omega) (by decide) rfl rfl ?_
          rw [e1]
          refine jw_goto (tgt := 84) jd_Blender_blendInto_72 (by decide) ?_
          refine jw_istore (pc' := 86) (lc' := [(0, _), (1, _), (2, _), (3, _), (4, _), (5, _), (6, _), (7, _), (8, _), (9, _), (10, _), (11, _)]) jd_Blender_blendInto_84 (Nat.le_of_ble_eq_true rfl) ⟨rfl, rfl, rfl, rfl, rfl, rfl, rfl, rfl, rfl, rfl, rfl, rfl, trivial⟩ rfl ?_
          refine jw_iload (pc' := 88) jd_Blender_blendInto_86 rfl rfl ?_
          refine zx_if_eq (tgt := 99) (pc' := 91) (by first | exact rg_iv _ _ _ | omega) jd_Blender_blendInto_88 (by decide) rfl (fun q2 => ?_) (fun q2 => ?_)
          · exfalso; omega
          refine jw_aload (pc' := 93) jd_Blender_blendInto_91 rfl rfl ?_
          refine zx_callV0 (pc' := 96) hR (c_length st2) jm_Content_length jq_605 jc_Content jd_Blender_blendInto_93 (mc_Content _ (by assumption)) rfl rfl (Nat.le_of_ble_eq_true rfl) (by omega) (by decide) rfl rfl ?_
          rw [e2]
          refine jw_goto (tgt := 108) jd_Blender_blendInto_96 (by decide) ?_
          refine jw_istore (pc' := 110) (lc' := [(0, _), (1, _), (2, _), (3, _), (4, _), (5, _), (6, _), (7, _), (8, _), (9, _), (10, _), (11, _), (12, _)]) jd_Blender_blendInto_108 (Nat.le_of_ble_eq_true rfl) ⟨rfl, rfl, rfl, rfl, rfl, rfl, rfl, rfl, rfl, rfl, rfl, rfl, rfl, trivial⟩ rfl ?_
          exact part2 x hx
      refine jw_iload (pc' := 40) jd_Blender_blendInto_38 rfl rfl ?_
      refine jw_aload_n (pc' := 41) jd_Blender_blendInto_40 rfl rfl rfl ?_
      refine zx_callV0 (pc' := 44) hR (c_length sb2) jm_Content_length jq_605 jc_Content jd_Blender_blendInto_41 (mc_Content _ (by assumption)) rfl rfl (Nat.le_of_ble_eq_true rfl) (by omega) (by decide) rfl rfl ?_
      refine zx_icmp_gt (tgt := 218) (pc' := 47) (by first | exact rg_iv _ _ _ | omega) (by first | exact rg_iv _ _ _ | omega) jd_Blender_blendInto_44 (by decide) rfl (fun q => ?_) (fun q => ?_)
      · exfalso; omega
      refine jw_iload (pc' := 49) jd_Blender_blendInto_47 rfl rfl ?_
      refine jw_aload_n (pc' := 50) jd_Blender_blendInto_49 rfl rfl rfl ?_
      refine zx_callV0 (pc' := 53) hR (c_length sb2) jm_Content_length jq_605 jc_Content jd_Blender_blendInto_50 (mc_Content _ (by assumption)) rfl rfl (Nat.le_of_ble_eq_true rfl) (by omega) (by decide) rfl rfl ?_
      refine zx_icmp_ne (tgt := 60) (pc' := 56) (by first | exact rg_iv _ _ _ | omega) (by first | exact rg_iv _ _ _ | omega) jd_Blender_blendInto_53 (by decide) rfl (fun q0 => ?_) (fun q0 => ?_)
      · refine zx_iconst (pc' := 61) (n := 0) jd_Blender_blendInto_60 rfl ?_
        refine jw_istore (pc' := 63) (lc' := [(0, _), (1, _), (2, _), (3, _), (4, _), (5, _), (6, _), (7, _), (8, _), (9, _), (10, _)]) jd_Blender_blendInto_61 (Nat.le_of_ble_eq_true rfl) ⟨rfl, rfl, rfl, rfl, rfl, rfl, rfl, rfl, rfl, rfl, rfl, trivial⟩ rfl ?_
        exact part1 0 (by omega)
      · refine zx_iconst (pc' := 57) (n := 1) jd_Blender_blendInto_56 rfl ?_
        refine jw_goto (tgt := 61) jd_Blender_blendInto_57 (by decide) ?_
        refine jw_istore (pc' := 63) (lc' := [(0, _), (1, _), (2, _), (3, _), (4, _), (5, _), (6, _), (7, _), (8, _), (9, _), (10, _)]) jd_Blender_blendInto_61 (Nat.le_of_ble_eq_true rfl) ⟨rfl, rfl, rfl, rfl, rfl, rfl, rfl, rfl, rfl, rfl, rfl, trivial⟩ rfl ?_
        exact part1 1 (by omega)
  exact loop (b.2.1 + 1) 0 s3 (v1, 0, 0, 0, 0) (by omega) bl0_Q p3 (fun q hq => by rw [iv_cell (f3 _ (by omega)), iv_cell (f2 _ (by omega))]; exact p1 q hq) (fun q hq => by rw [iv_cell (f3 _ (by omega))]; exact p2 q hq) F3 rfl
end
