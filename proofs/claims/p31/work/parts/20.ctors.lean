theorem jd_Content_init_0 : decode mi_Content_init.2.1 0 = .ok (.aload_n 0, 1) := by decide +kernel
theorem jd_Content_init_1 : decode mi_Content_init.2.1 1 = .ok (.invokespecial 3, 3) := by decide +kernel
theorem jd_Content_init_4 : decode mi_Content_init.2.1 4 = .ok (.aload_n 0, 1) := by decide +kernel
theorem jd_Content_init_5 : decode mi_Content_init.2.1 5 = .ok (.bipush 10, 2) := by decide +kernel
theorem jd_Content_init_7 : decode mi_Content_init.2.1 7 = .ok (.newarray .int, 2) := by decide +kernel
theorem jd_Content_init_9 : decode mi_Content_init.2.1 9 = .ok (.putfield 9, 3) := by decide +kernel
theorem jd_Content_init_12 : decode mi_Content_init.2.1 12 = .ok (.aload_n 0, 1) := by decide +kernel
theorem jd_Content_init_13 : decode mi_Content_init.2.1 13 = .ok (.iconst 0, 1) := by decide +kernel
theorem jd_Content_init_14 : decode mi_Content_init.2.1 14 = .ok (.putfield 15, 3) := by decide +kernel
theorem jd_Content_init_17 : decode mi_Content_init.2.1 17 = .ok (.aload_n 0, 1) := by decide +kernel
theorem jd_Content_init_18 : decode mi_Content_init.2.1 18 = .ok (.iconst 0, 1) := by decide +kernel
theorem jd_Content_init_19 : decode mi_Content_init.2.1 19 = .ok (.putfield 19, 3) := by decide +kernel
theorem jd_Content_init_22 : decode mi_Content_init.2.1 22 = .ok (.return_, 1) := by decide +kernel
theorem jd_Tree_init_0 : decode mi_Tree_init.2.1 0 = .ok (.aload_n 0, 1) := by decide +kernel
theorem jd_Tree_init_1 : decode mi_Tree_init.2.1 1 = .ok (.invokespecial 3, 3) := by decide +kernel
theorem jd_Tree_init_4 : decode mi_Tree_init.2.1 4 = .ok (.aload_n 0, 1) := by decide +kernel
theorem jd_Tree_init_5 : decode mi_Tree_init.2.1 5 = .ok (.bipush 12, 2) := by decide +kernel
theorem jd_Tree_init_7 : decode mi_Tree_init.2.1 7 = .ok (.anewarray 9, 3) := by decide +kernel
theorem jd_Tree_init_10 : decode mi_Tree_init.2.1 10 = .ok (.putfield 11, 3) := by decide +kernel
theorem jd_Tree_init_13 : decode mi_Tree_init.2.1 13 = .ok (.aload_n 0, 1) := by decide +kernel
theorem jd_Tree_init_14 : decode mi_Tree_init.2.1 14 = .ok (.new 9, 3) := by decide +kernel
theorem jd_Tree_init_17 : decode mi_Tree_init.2.1 17 = .ok (.dup, 1) := by decide +kernel
theorem jd_Tree_init_18 : decode mi_Tree_init.2.1 18 = .ok (.invokespecial 17, 3) := by decide +kernel
theorem jd_Tree_init_21 : decode mi_Tree_init.2.1 21 = .ok (.putfield 18, 3) := by decide +kernel
theorem jd_Tree_init_24 : decode mi_Tree_init.2.1 24 = .ok (.iconst 0, 1) := by decide +kernel
theorem jd_Tree_init_25 : decode mi_Tree_init.2.1 25 = .ok (.istore_n 1, 1) := by decide +kernel
theorem jd_Tree_init_26 : decode mi_Tree_init.2.1 26 = .ok (.iload_n 1, 1) := by decide +kernel
theorem jd_Tree_init_27 : decode mi_Tree_init.2.1 27 = .ok (.bipush 12, 2) := by decide +kernel
theorem jd_Tree_init_29 : decode mi_Tree_init.2.1 29 = .ok (.if_icmp .ge 22, 3) := by decide +kernel
theorem jd_Tree_init_32 : decode mi_Tree_init.2.1 32 = .ok (.aload_n 0, 1) := by decide +kernel
theorem jd_Tree_init_33 : decode mi_Tree_init.2.1 33 = .ok (.getfield 11, 3) := by decide +kernel
theorem jd_Tree_init_36 : decode mi_Tree_init.2.1 36 = .ok (.iload_n 1, 1) := by decide +kernel
theorem jd_Tree_init_37 : decode mi_Tree_init.2.1 37 = .ok (.new 9, 3) := by decide +kernel
theorem jd_Tree_init_40 : decode mi_Tree_init.2.1 40 = .ok (.dup, 1) := by decide +kernel
theorem jd_Tree_init_41 : decode mi_Tree_init.2.1 41 = .ok (.invokespecial 17, 3) := by decide +kernel
theorem jd_Tree_init_44 : decode mi_Tree_init.2.1 44 = .ok (.aastore, 1) := by decide +kernel
theorem jd_Tree_init_45 : decode mi_Tree_init.2.1 45 = .ok (.iinc 1 1, 3) := by decide +kernel
theorem jd_Tree_init_48 : decode mi_Tree_init.2.1 48 = .ok (.goto (-22), 3) := by decide +kernel
theorem jd_Tree_init_51 : decode mi_Tree_init.2.1 51 = .ok (.return_, 1) := by decide +kernel
theorem jd_Match_init_0 : decode mi_Match_init.2.1 0 = .ok (.aload_n 0, 1) := by decide +kernel
theorem jd_Match_init_1 : decode mi_Match_init.2.1 1 = .ok (.invokespecial 3, 3) := by decide +kernel
theorem jd_Match_init_4 : decode mi_Match_init.2.1 4 = .ok (.aload_n 0, 1) := by decide +kernel
theorem jd_Match_init_5 : decode mi_Match_init.2.1 5 = .ok (.bipush 121, 2) := by decide +kernel
theorem jd_Match_init_7 : decode mi_Match_init.2.1 7 = .ok (.newarray .int, 2) := by decide +kernel
theorem jd_Match_init_9 : decode mi_Match_init.2.1 9 = .ok (.putfield 11, 3) := by decide +kernel
theorem jd_Match_init_12 : decode mi_Match_init.2.1 12 = .ok (.aload_n 0, 1) := by decide +kernel
theorem jd_Match_init_13 : decode mi_Match_init.2.1 13 = .ok (.bipush 10, 2) := by decide +kernel
theorem jd_Match_init_15 : decode mi_Match_init.2.1 15 = .ok (.newarray .int, 2) := by decide +kernel
theorem jd_Match_init_17 : decode mi_Match_init.2.1 17 = .ok (.putfield 15, 3) := by decide +kernel
theorem jd_Match_init_20 : decode mi_Match_init.2.1 20 = .ok (.aload_n 0, 1) := by decide +kernel
theorem jd_Match_init_21 : decode mi_Match_init.2.1 21 = .ok (.bipush 10, 2) := by decide +kernel
theorem jd_Match_init_23 : decode mi_Match_init.2.1 23 = .ok (.newarray .int, 2) := by decide +kernel
theorem jd_Match_init_25 : decode mi_Match_init.2.1 25 = .ok (.putfield 18, 3) := by decide +kernel
theorem jd_Match_init_28 : decode mi_Match_init.2.1 28 = .ok (.return_, 1) := by decide +kernel
theorem jd_Renames_init_0 : decode mi_Renames_init.2.1 0 = .ok (.aload_n 0, 1) := by decide +kernel
theorem jd_Renames_init_1 : decode mi_Renames_init.2.1 1 = .ok (.invokespecial 3, 3) := by decide +kernel
theorem jd_Renames_init_4 : decode mi_Renames_init.2.1 4 = .ok (.aload_n 0, 1) := by decide +kernel
theorem jd_Renames_init_5 : decode mi_Renames_init.2.1 5 = .ok (.bipush 12, 2) := by decide +kernel
theorem jd_Renames_init_7 : decode mi_Renames_init.2.1 7 = .ok (.newarray .int, 2) := by decide +kernel
theorem jd_Renames_init_9 : decode mi_Renames_init.2.1 9 = .ok (.putfield 9, 3) := by decide +kernel
theorem jd_Renames_init_12 : decode mi_Renames_init.2.1 12 = .ok (.aload_n 0, 1) := by decide +kernel
theorem jd_Renames_init_13 : decode mi_Renames_init.2.1 13 = .ok (.bipush 12, 2) := by decide +kernel
theorem jd_Renames_init_15 : decode mi_Renames_init.2.1 15 = .ok (.newarray .int, 2) := by decide +kernel
theorem jd_Renames_init_17 : decode mi_Renames_init.2.1 17 = .ok (.putfield 15, 3) := by decide +kernel
theorem jd_Renames_init_20 : decode mi_Renames_init.2.1 20 = .ok (.aload_n 0, 1) := by decide +kernel
theorem jd_Renames_init_21 : decode mi_Renames_init.2.1 21 = .ok (.new 18, 3) := by decide +kernel
theorem jd_Renames_init_24 : decode mi_Renames_init.2.1 24 = .ok (.dup, 1) := by decide +kernel
theorem jd_Renames_init_25 : decode mi_Renames_init.2.1 25 = .ok (.invokespecial 20, 3) := by decide +kernel
theorem jd_Renames_init_28 : decode mi_Renames_init.2.1 28 = .ok (.putfield 21, 3) := by decide +kernel
theorem jd_Renames_init_31 : decode mi_Renames_init.2.1 31 = .ok (.aload_n 0, 1) := by decide +kernel
theorem jd_Renames_init_32 : decode mi_Renames_init.2.1 32 = .ok (.iconst 0, 1) := by decide +kernel
theorem jd_Renames_init_33 : decode mi_Renames_init.2.1 33 = .ok (.putfield 25, 3) := by decide +kernel
theorem jd_Renames_init_36 : decode mi_Renames_init.2.1 36 = .ok (.return_, 1) := by decide +kernel
theorem jd_Conflicts_init_0 : decode mi_Conflicts_init.2.1 0 = .ok (.aload_n 0, 1) := by decide +kernel
theorem jd_Conflicts_init_1 : decode mi_Conflicts_init.2.1 1 = .ok (.invokespecial 3, 3) := by decide +kernel
theorem jd_Conflicts_init_4 : decode mi_Conflicts_init.2.1 4 = .ok (.aload_n 0, 1) := by decide +kernel
theorem jd_Conflicts_init_5 : decode mi_Conflicts_init.2.1 5 = .ok (.bipush 24, 2) := by decide +kernel
theorem jd_Conflicts_init_7 : decode mi_Conflicts_init.2.1 7 = .ok (.newarray .int, 2) := by decide +kernel
theorem jd_Conflicts_init_9 : decode mi_Conflicts_init.2.1 9 = .ok (.putfield 9, 3) := by decide +kernel
theorem jd_Conflicts_init_12 : decode mi_Conflicts_init.2.1 12 = .ok (.aload_n 0, 1) := by decide +kernel
theorem jd_Conflicts_init_13 : decode mi_Conflicts_init.2.1 13 = .ok (.bipush 24, 2) := by decide +kernel
theorem jd_Conflicts_init_15 : decode mi_Conflicts_init.2.1 15 = .ok (.newarray .int, 2) := by decide +kernel
theorem jd_Conflicts_init_17 : decode mi_Conflicts_init.2.1 17 = .ok (.putfield 15, 3) := by decide +kernel
theorem jd_Conflicts_init_20 : decode mi_Conflicts_init.2.1 20 = .ok (.aload_n 0, 1) := by decide +kernel
theorem jd_Conflicts_init_21 : decode mi_Conflicts_init.2.1 21 = .ok (.iconst 0, 1) := by decide +kernel
theorem jd_Conflicts_init_22 : decode mi_Conflicts_init.2.1 22 = .ok (.putfield 18, 3) := by decide +kernel
theorem jd_Conflicts_init_25 : decode mi_Conflicts_init.2.1 25 = .ok (.return_, 1) := by decide +kernel
theorem jd_Blender_init_0 : decode mi_Blender_init.2.1 0 = .ok (.aload_n 0, 1) := by decide +kernel
theorem jd_Blender_init_1 : decode mi_Blender_init.2.1 1 = .ok (.invokespecial 3, 3) := by decide +kernel
theorem jd_Blender_init_4 : decode mi_Blender_init.2.1 4 = .ok (.aload_n 0, 1) := by decide +kernel
theorem jd_Blender_init_5 : decode mi_Blender_init.2.1 5 = .ok (.new 9, 3) := by decide +kernel
theorem jd_Blender_init_8 : decode mi_Blender_init.2.1 8 = .ok (.dup, 1) := by decide +kernel
theorem jd_Blender_init_9 : decode mi_Blender_init.2.1 9 = .ok (.invokespecial 11, 3) := by decide +kernel
theorem jd_Blender_init_12 : decode mi_Blender_init.2.1 12 = .ok (.putfield 12, 3) := by decide +kernel
theorem jd_Blender_init_15 : decode mi_Blender_init.2.1 15 = .ok (.aload_n 0, 1) := by decide +kernel
theorem jd_Blender_init_16 : decode mi_Blender_init.2.1 16 = .ok (.new 9, 3) := by decide +kernel
theorem jd_Blender_init_19 : decode mi_Blender_init.2.1 19 = .ok (.dup, 1) := by decide +kernel
theorem jd_Blender_init_20 : decode mi_Blender_init.2.1 20 = .ok (.invokespecial 11, 3) := by decide +kernel
theorem jd_Blender_init_23 : decode mi_Blender_init.2.1 23 = .ok (.putfield 18, 3) := by decide +kernel
theorem jd_Blender_init_26 : decode mi_Blender_init.2.1 26 = .ok (.aload_n 0, 1) := by decide +kernel
theorem jd_Blender_init_27 : decode mi_Blender_init.2.1 27 = .ok (.new 21, 3) := by decide +kernel
theorem jd_Blender_init_30 : decode mi_Blender_init.2.1 30 = .ok (.dup, 1) := by decide +kernel
theorem jd_Blender_init_31 : decode mi_Blender_init.2.1 31 = .ok (.invokespecial 23, 3) := by decide +kernel
theorem jd_Blender_init_34 : decode mi_Blender_init.2.1 34 = .ok (.putfield 24, 3) := by decide +kernel
theorem jd_Blender_init_37 : decode mi_Blender_init.2.1 37 = .ok (.aload_n 0, 1) := by decide +kernel
theorem jd_Blender_init_38 : decode mi_Blender_init.2.1 38 = .ok (.new 21, 3) := by decide +kernel
theorem jd_Blender_init_41 : decode mi_Blender_init.2.1 41 = .ok (.dup, 1) := by decide +kernel
theorem jd_Blender_init_42 : decode mi_Blender_init.2.1 42 = .ok (.invokespecial 23, 3) := by decide +kernel
theorem jd_Blender_init_45 : decode mi_Blender_init.2.1 45 = .ok (.putfield 28, 3) := by decide +kernel
theorem jd_Blender_init_48 : decode mi_Blender_init.2.1 48 = .ok (.aload_n 0, 1) := by decide +kernel
theorem jd_Blender_init_49 : decode mi_Blender_init.2.1 49 = .ok (.new 21, 3) := by decide +kernel
theorem jd_Blender_init_52 : decode mi_Blender_init.2.1 52 = .ok (.dup, 1) := by decide +kernel
theorem jd_Blender_init_53 : decode mi_Blender_init.2.1 53 = .ok (.invokespecial 23, 3) := by decide +kernel
theorem jd_Blender_init_56 : decode mi_Blender_init.2.1 56 = .ok (.putfield 31, 3) := by decide +kernel
theorem jd_Blender_init_59 : decode mi_Blender_init.2.1 59 = .ok (.return_, 1) := by decide +kernel
theorem jd_Merger_init_0 : decode mi_Merger_init.2.1 0 = .ok (.aload_n 0, 1) := by decide +kernel
theorem jd_Merger_init_1 : decode mi_Merger_init.2.1 1 = .ok (.invokespecial 3, 3) := by decide +kernel
theorem jd_Merger_init_4 : decode mi_Merger_init.2.1 4 = .ok (.aload_n 0, 1) := by decide +kernel
theorem jd_Merger_init_5 : decode mi_Merger_init.2.1 5 = .ok (.new 9, 3) := by decide +kernel
theorem jd_Merger_init_8 : decode mi_Merger_init.2.1 8 = .ok (.dup, 1) := by decide +kernel
theorem jd_Merger_init_9 : decode mi_Merger_init.2.1 9 = .ok (.invokespecial 11, 3) := by decide +kernel
theorem jd_Merger_init_12 : decode mi_Merger_init.2.1 12 = .ok (.putfield 12, 3) := by decide +kernel
theorem jd_Merger_init_15 : decode mi_Merger_init.2.1 15 = .ok (.aload_n 0, 1) := by decide +kernel
theorem jd_Merger_init_16 : decode mi_Merger_init.2.1 16 = .ok (.new 18, 3) := by decide +kernel
theorem jd_Merger_init_19 : decode mi_Merger_init.2.1 19 = .ok (.dup, 1) := by decide +kernel
theorem jd_Merger_init_20 : decode mi_Merger_init.2.1 20 = .ok (.invokespecial 20, 3) := by decide +kernel
theorem jd_Merger_init_23 : decode mi_Merger_init.2.1 23 = .ok (.putfield 21, 3) := by decide +kernel
theorem jd_Merger_init_26 : decode mi_Merger_init.2.1 26 = .ok (.aload_n 0, 1) := by decide +kernel
theorem jd_Merger_init_27 : decode mi_Merger_init.2.1 27 = .ok (.new 25, 3) := by decide +kernel
theorem jd_Merger_init_30 : decode mi_Merger_init.2.1 30 = .ok (.dup, 1) := by decide +kernel
theorem jd_Merger_init_31 : decode mi_Merger_init.2.1 31 = .ok (.invokespecial 27, 3) := by decide +kernel
theorem jd_Merger_init_34 : decode mi_Merger_init.2.1 34 = .ok (.putfield 28, 3) := by decide +kernel
theorem jd_Merger_init_37 : decode mi_Merger_init.2.1 37 = .ok (.aload_n 0, 1) := by decide +kernel
theorem jd_Merger_init_38 : decode mi_Merger_init.2.1 38 = .ok (.new 25, 3) := by decide +kernel
theorem jd_Merger_init_41 : decode mi_Merger_init.2.1 41 = .ok (.dup, 1) := by decide +kernel
theorem jd_Merger_init_42 : decode mi_Merger_init.2.1 42 = .ok (.invokespecial 27, 3) := by decide +kernel
theorem jd_Merger_init_45 : decode mi_Merger_init.2.1 45 = .ok (.putfield 32, 3) := by decide +kernel
theorem jd_Merger_init_48 : decode mi_Merger_init.2.1 48 = .ok (.aload_n 0, 1) := by decide +kernel
theorem jd_Merger_init_49 : decode mi_Merger_init.2.1 49 = .ok (.new 35, 3) := by decide +kernel
theorem jd_Merger_init_52 : decode mi_Merger_init.2.1 52 = .ok (.dup, 1) := by decide +kernel
theorem jd_Merger_init_53 : decode mi_Merger_init.2.1 53 = .ok (.invokespecial 37, 3) := by decide +kernel
theorem jd_Merger_init_56 : decode mi_Merger_init.2.1 56 = .ok (.putfield 38, 3) := by decide +kernel
theorem jd_Merger_init_59 : decode mi_Merger_init.2.1 59 = .ok (.aload_n 0, 1) := by decide +kernel
theorem jd_Merger_init_60 : decode mi_Merger_init.2.1 60 = .ok (.new 42, 3) := by decide +kernel
theorem jd_Merger_init_63 : decode mi_Merger_init.2.1 63 = .ok (.dup, 1) := by decide +kernel
theorem jd_Merger_init_64 : decode mi_Merger_init.2.1 64 = .ok (.invokespecial 44, 3) := by decide +kernel
theorem jd_Merger_init_67 : decode mi_Merger_init.2.1 67 = .ok (.putfield 45, 3) := by decide +kernel
theorem jd_Merger_init_70 : decode mi_Merger_init.2.1 70 = .ok (.aload_n 0, 1) := by decide +kernel
theorem jd_Merger_init_71 : decode mi_Merger_init.2.1 71 = .ok (.bipush 12, 2) := by decide +kernel
theorem jd_Merger_init_73 : decode mi_Merger_init.2.1 73 = .ok (.newarray .boolean, 2) := by decide +kernel
theorem jd_Merger_init_75 : decode mi_Merger_init.2.1 75 = .ok (.putfield 49, 3) := by decide +kernel
theorem jd_Merger_init_78 : decode mi_Merger_init.2.1 78 = .ok (.return_, 1) := by decide +kernel
theorem jd_History_init_0 : decode mi_History_init.2.1 0 = .ok (.aload_n 0, 1) := by decide +kernel
theorem jd_History_init_1 : decode mi_History_init.2.1 1 = .ok (.invokespecial 3, 3) := by decide +kernel
theorem jd_History_init_4 : decode mi_History_init.2.1 4 = .ok (.aload_n 0, 1) := by decide +kernel
theorem jd_History_init_5 : decode mi_History_init.2.1 5 = .ok (.bipush 30, 2) := by decide +kernel
theorem jd_History_init_7 : decode mi_History_init.2.1 7 = .ok (.anewarray 9, 3) := by decide +kernel
theorem jd_History_init_10 : decode mi_History_init.2.1 10 = .ok (.putfield 11, 3) := by decide +kernel
theorem jd_History_init_13 : decode mi_History_init.2.1 13 = .ok (.aload_n 0, 1) := by decide +kernel
theorem jd_History_init_14 : decode mi_History_init.2.1 14 = .ok (.new 9, 3) := by decide +kernel
theorem jd_History_init_17 : decode mi_History_init.2.1 17 = .ok (.dup, 1) := by decide +kernel
theorem jd_History_init_18 : decode mi_History_init.2.1 18 = .ok (.invokespecial 17, 3) := by decide +kernel
theorem jd_History_init_21 : decode mi_History_init.2.1 21 = .ok (.putfield 18, 3) := by decide +kernel
theorem jd_History_init_24 : decode mi_History_init.2.1 24 = .ok (.aload_n 0, 1) := by decide +kernel
theorem jd_History_init_25 : decode mi_History_init.2.1 25 = .ok (.bipush 30, 2) := by decide +kernel
theorem jd_History_init_27 : decode mi_History_init.2.1 27 = .ok (.newarray .int, 2) := by decide +kernel
theorem jd_History_init_29 : decode mi_History_init.2.1 29 = .ok (.putfield 22, 3) := by decide +kernel
theorem jd_History_init_32 : decode mi_History_init.2.1 32 = .ok (.aload_n 0, 1) := by decide +kernel
theorem jd_History_init_33 : decode mi_History_init.2.1 33 = .ok (.bipush 30, 2) := by decide +kernel
theorem jd_History_init_35 : decode mi_History_init.2.1 35 = .ok (.newarray .int, 2) := by decide +kernel
theorem jd_History_init_37 : decode mi_History_init.2.1 37 = .ok (.putfield 26, 3) := by decide +kernel
theorem jd_History_init_40 : decode mi_History_init.2.1 40 = .ok (.aload_n 0, 1) := by decide +kernel
theorem jd_History_init_41 : decode mi_History_init.2.1 41 = .ok (.bipush 30, 2) := by decide +kernel
theorem jd_History_init_43 : decode mi_History_init.2.1 43 = .ok (.newarray .int, 2) := by decide +kernel
theorem jd_History_init_45 : decode mi_History_init.2.1 45 = .ok (.putfield 29, 3) := by decide +kernel
theorem jd_History_init_48 : decode mi_History_init.2.1 48 = .ok (.aload_n 0, 1) := by decide +kernel
theorem jd_History_init_49 : decode mi_History_init.2.1 49 = .ok (.bipush 30, 2) := by decide +kernel
theorem jd_History_init_51 : decode mi_History_init.2.1 51 = .ok (.newarray .int, 2) := by decide +kernel
theorem jd_History_init_53 : decode mi_History_init.2.1 53 = .ok (.putfield 32, 3) := by decide +kernel
theorem jd_History_init_56 : decode mi_History_init.2.1 56 = .ok (.aload_n 0, 1) := by decide +kernel
theorem jd_History_init_57 : decode mi_History_init.2.1 57 = .ok (.sipush 360, 3) := by decide +kernel
theorem jd_History_init_60 : decode mi_History_init.2.1 60 = .ok (.newarray .int, 2) := by decide +kernel
theorem jd_History_init_62 : decode mi_History_init.2.1 62 = .ok (.putfield 35, 3) := by decide +kernel
theorem jd_History_init_65 : decode mi_History_init.2.1 65 = .ok (.aload_n 0, 1) := by decide +kernel
theorem jd_History_init_66 : decode mi_History_init.2.1 66 = .ok (.sipush 360, 3) := by decide +kernel
theorem jd_History_init_69 : decode mi_History_init.2.1 69 = .ok (.newarray .int, 2) := by decide +kernel
theorem jd_History_init_71 : decode mi_History_init.2.1 71 = .ok (.putfield 38, 3) := by decide +kernel
theorem jd_History_init_74 : decode mi_History_init.2.1 74 = .ok (.aload_n 0, 1) := by decide +kernel
theorem jd_History_init_75 : decode mi_History_init.2.1 75 = .ok (.iconst 0, 1) := by decide +kernel
theorem jd_History_init_76 : decode mi_History_init.2.1 76 = .ok (.putfield 41, 3) := by decide +kernel
theorem jd_History_init_79 : decode mi_History_init.2.1 79 = .ok (.aload_n 0, 1) := by decide +kernel
theorem jd_History_init_80 : decode mi_History_init.2.1 80 = .ok (.iconst 0, 1) := by decide +kernel
theorem jd_History_init_81 : decode mi_History_init.2.1 81 = .ok (.putfield 45, 3) := by decide +kernel
theorem jd_History_init_84 : decode mi_History_init.2.1 84 = .ok (.iconst 0, 1) := by decide +kernel
theorem jd_History_init_85 : decode mi_History_init.2.1 85 = .ok (.istore_n 1, 1) := by decide +kernel
theorem jd_History_init_86 : decode mi_History_init.2.1 86 = .ok (.iload_n 1, 1) := by decide +kernel
theorem jd_History_init_87 : decode mi_History_init.2.1 87 = .ok (.bipush 30, 2) := by decide +kernel
theorem jd_History_init_89 : decode mi_History_init.2.1 89 = .ok (.if_icmp .ge 22, 3) := by decide +kernel
theorem jd_History_init_92 : decode mi_History_init.2.1 92 = .ok (.aload_n 0, 1) := by decide +kernel
theorem jd_History_init_93 : decode mi_History_init.2.1 93 = .ok (.getfield 11, 3) := by decide +kernel
theorem jd_History_init_96 : decode mi_History_init.2.1 96 = .ok (.iload_n 1, 1) := by decide +kernel
theorem jd_History_init_97 : decode mi_History_init.2.1 97 = .ok (.new 9, 3) := by decide +kernel
theorem jd_History_init_100 : decode mi_History_init.2.1 100 = .ok (.dup, 1) := by decide +kernel
theorem jd_History_init_101 : decode mi_History_init.2.1 101 = .ok (.invokespecial 17, 3) := by decide +kernel
theorem jd_History_init_104 : decode mi_History_init.2.1 104 = .ok (.aastore, 1) := by decide +kernel
theorem jd_History_init_105 : decode mi_History_init.2.1 105 = .ok (.iinc 1 1, 3) := by decide +kernel
theorem jd_History_init_108 : decode mi_History_init.2.1 108 = .ok (.goto (-22), 3) := by decide +kernel
theorem jd_History_init_111 : decode mi_History_init.2.1 111 = .ok (.return_, 1) := by decide +kernel
theorem jd_Branchwork_init_0 : decode mi_Branchwork_init.2.1 0 = .ok (.aload_n 0, 1) := by decide +kernel
theorem jd_Branchwork_init_1 : decode mi_Branchwork_init.2.1 1 = .ok (.invokespecial 3, 3) := by decide +kernel
theorem jd_Branchwork_init_4 : decode mi_Branchwork_init.2.1 4 = .ok (.aload_n 0, 1) := by decide +kernel
theorem jd_Branchwork_init_5 : decode mi_Branchwork_init.2.1 5 = .ok (.new 9, 3) := by decide +kernel
theorem jd_Branchwork_init_8 : decode mi_Branchwork_init.2.1 8 = .ok (.dup, 1) := by decide +kernel
theorem jd_Branchwork_init_9 : decode mi_Branchwork_init.2.1 9 = .ok (.invokespecial 11, 3) := by decide +kernel
theorem jd_Branchwork_init_12 : decode mi_Branchwork_init.2.1 12 = .ok (.putfield 12, 3) := by decide +kernel
theorem jd_Branchwork_init_15 : decode mi_Branchwork_init.2.1 15 = .ok (.aload_n 0, 1) := by decide +kernel
theorem jd_Branchwork_init_16 : decode mi_Branchwork_init.2.1 16 = .ok (.new 16, 3) := by decide +kernel
theorem jd_Branchwork_init_19 : decode mi_Branchwork_init.2.1 19 = .ok (.dup, 1) := by decide +kernel
theorem jd_Branchwork_init_20 : decode mi_Branchwork_init.2.1 20 = .ok (.invokespecial 18, 3) := by decide +kernel
theorem jd_Branchwork_init_23 : decode mi_Branchwork_init.2.1 23 = .ok (.putfield 19, 3) := by decide +kernel
theorem jd_Branchwork_init_26 : decode mi_Branchwork_init.2.1 26 = .ok (.aload_n 0, 1) := by decide +kernel
theorem jd_Branchwork_init_27 : decode mi_Branchwork_init.2.1 27 = .ok (.new 23, 3) := by decide +kernel
theorem jd_Branchwork_init_30 : decode mi_Branchwork_init.2.1 30 = .ok (.dup, 1) := by decide +kernel
theorem jd_Branchwork_init_31 : decode mi_Branchwork_init.2.1 31 = .ok (.invokespecial 25, 3) := by decide +kernel
theorem jd_Branchwork_init_34 : decode mi_Branchwork_init.2.1 34 = .ok (.putfield 26, 3) := by decide +kernel
theorem jd_Branchwork_init_37 : decode mi_Branchwork_init.2.1 37 = .ok (.aload_n 0, 1) := by decide +kernel
theorem jd_Branchwork_init_38 : decode mi_Branchwork_init.2.1 38 = .ok (.new 30, 3) := by decide +kernel
theorem jd_Branchwork_init_41 : decode mi_Branchwork_init.2.1 41 = .ok (.dup, 1) := by decide +kernel
theorem jd_Branchwork_init_42 : decode mi_Branchwork_init.2.1 42 = .ok (.invokespecial 32, 3) := by decide +kernel
theorem jd_Branchwork_init_45 : decode mi_Branchwork_init.2.1 45 = .ok (.putfield 33, 3) := by decide +kernel
theorem jd_Branchwork_init_48 : decode mi_Branchwork_init.2.1 48 = .ok (.aload_n 0, 1) := by decide +kernel
theorem jd_Branchwork_init_49 : decode mi_Branchwork_init.2.1 49 = .ok (.new 37, 3) := by decide +kernel
theorem jd_Branchwork_init_52 : decode mi_Branchwork_init.2.1 52 = .ok (.dup, 1) := by decide +kernel
theorem jd_Branchwork_init_53 : decode mi_Branchwork_init.2.1 53 = .ok (.invokespecial 39, 3) := by decide +kernel
theorem jd_Branchwork_init_56 : decode mi_Branchwork_init.2.1 56 = .ok (.putfield 40, 3) := by decide +kernel
theorem jd_Branchwork_init_59 : decode mi_Branchwork_init.2.1 59 = .ok (.aload_n 0, 1) := by decide +kernel
theorem jd_Branchwork_init_60 : decode mi_Branchwork_init.2.1 60 = .ok (.new 44, 3) := by decide +kernel
theorem jd_Branchwork_init_63 : decode mi_Branchwork_init.2.1 63 = .ok (.dup, 1) := by decide +kernel
theorem jd_Branchwork_init_64 : decode mi_Branchwork_init.2.1 64 = .ok (.invokespecial 46, 3) := by decide +kernel
theorem jd_Branchwork_init_67 : decode mi_Branchwork_init.2.1 67 = .ok (.putfield 47, 3) := by decide +kernel
theorem jd_Branchwork_init_70 : decode mi_Branchwork_init.2.1 70 = .ok (.aload_n 0, 1) := by decide +kernel
theorem jd_Branchwork_init_71 : decode mi_Branchwork_init.2.1 71 = .ok (.iconst 5, 1) := by decide +kernel
theorem jd_Branchwork_init_72 : decode mi_Branchwork_init.2.1 72 = .ok (.newarray .int, 2) := by decide +kernel
theorem jd_Branchwork_init_74 : decode mi_Branchwork_init.2.1 74 = .ok (.putfield 51, 3) := by decide +kernel
theorem jd_Branchwork_init_77 : decode mi_Branchwork_init.2.1 77 = .ok (.aload_n 0, 1) := by decide +kernel
theorem jd_Branchwork_init_78 : decode mi_Branchwork_init.2.1 78 = .ok (.iconst 1, 1) := by decide +kernel
theorem jd_Branchwork_init_79 : decode mi_Branchwork_init.2.1 79 = .ok (.putfield 55, 3) := by decide +kernel
theorem jd_Branchwork_init_82 : decode mi_Branchwork_init.2.1 82 = .ok (.aload_n 0, 1) := by decide +kernel
theorem jd_Branchwork_init_83 : decode mi_Branchwork_init.2.1 83 = .ok (.iconst 0, 1) := by decide +kernel
theorem jd_Branchwork_init_84 : decode mi_Branchwork_init.2.1 84 = .ok (.putfield 59, 3) := by decide +kernel
theorem jd_Branchwork_init_87 : decode mi_Branchwork_init.2.1 87 = .ok (.aload_n 0, 1) := by decide +kernel
theorem jd_Branchwork_init_88 : decode mi_Branchwork_init.2.1 88 = .ok (.iconst (-1), 1) := by decide +kernel
theorem jd_Branchwork_init_89 : decode mi_Branchwork_init.2.1 89 = .ok (.putfield 62, 3) := by decide +kernel
theorem jd_Branchwork_init_92 : decode mi_Branchwork_init.2.1 92 = .ok (.aload_n 0, 1) := by decide +kernel
theorem jd_Branchwork_init_93 : decode mi_Branchwork_init.2.1 93 = .ok (.getfield 51, 3) := by decide +kernel
theorem jd_Branchwork_init_96 : decode mi_Branchwork_init.2.1 96 = .ok (.iconst (-1), 1) := by decide +kernel
theorem jd_Branchwork_init_97 : decode mi_Branchwork_init.2.1 97 = .ok (.invokestatic 65, 3) := by decide +kernel
theorem jd_Branchwork_init_100 : decode mi_Branchwork_init.2.1 100 = .ok (.return_, 1) := by decide +kernel
/-- a Content object's two cells: n lines of g, p: whether there is a file -/
def bc_At (o : jw_O) (μ : jw_Mem) (a n : Nat) (p : Int32) (g : Nat → Int32) : Prop := μ a = some (.inr (0, [.ref (a + 1), .int (nI n), .int p])) ∧ μ (a + 1) = some (.inl (o.2.2.1 0, 10, .inl g))
def b01 (p : Int32) : Prop := p = 0 ∨ p = 1
theorem b01.nz {p : Int32} (h : b01 p) : narrow .boolean (.int p) = .int p := by rcases h with rfl | rfl <;> decide
theorem b01.fit {p : Int32} (h : b01 p) : fits .boolean (.int p) = true := by rcases h with rfl | rfl <;> decide
theorem b01.if_ (c : Prop) [Decidable c] : b01 (if c then 1 else 0) := by by_cases h : c <;> simp [b01, h]
theorem bc_At.fr {o : jw_O} {μ μ' : jw_Mem} {a n b m : Nat} {p : Int32} {g : Nat → Int32} (h : bc_At o μ a n p g) (f : jw_Fr μ μ' b m) (hd : a + 2 ≤ b ∨ b + m ≤ a) : bc_At o μ' a n p g := ⟨(f _ (by omega)).trans h.1, (f _ (by omega)).trans h.2⟩
section
variable {o : jw_O} {μ : jw_Mem} {hs a n : Nat} {p : Int32} {g : Nat → Int32}
theorem bc_init {v : Value} {x y : Int32} (ha : μ a = some (.inr (0, [v, .int x, .int y]))) : jw_Spec mi_Content_init 1 1 10 o [.ref a] μ (a + 1) (fun v μ' s' => v = none ∧ s' = a + 2 ∧ bc_At o μ' a 0 0 (fun _ => 0) ∧ jw_Fr μ μ' a 2) := by
  refine jw_spec (by decide +kernel) (Nat.le_of_ble_eq_true rfl) rfl (fun k hR hE => ?_)
  have hF : jw_Fr μ μ a 2 := jw_Fr.rf
  refine jw_aload_n (pc' := 1) jd_Content_init_0 rfl rfl rfl ?_
  refine jw_objInit (pc' := 4) hR jq_61 jd_Content_init_1 (Nat.le_of_ble_eq_true rfl) (by omega) rfl ?_
  refine jw_aload_n (pc' := 5) jd_Content_init_4 rfl rfl rfl ?_
  refine jw_bipush (pc' := 7) (v := nI 10) jd_Content_init_5 (by decide +kernel) rfl ?_
  refine jw_newa (pc' := 9) (N := 10) (i := 0) (a0 := (10, .inl (fun _ => 0))) (ty := .int) (atype := .int) hR jq_72 rfl rfl jd_Content_init_7 (fun _ => rfl) (by decide +kernel) (by decide +kernel) (by decide +kernel) (by omega) (by omega) rfl (fun μ hb f9 => ?_)
  have ha := (f9 _ (by omega)).trans ha
  have hF := jw_Fr.step hF f9 (by omega)
  refine jw_putF (pc' := 12) (kf := 0) (ty := (.array .int)) (fs' := [_, _, _]) jc_Content (by decide) jq_62 jd_Content_init_9 rfl rfl rfl (by decide +kernel) (by assumption) rfl rfl rfl (Nat.le_of_ble_eq_true rfl) rfl (fun μ ha f9 => ?_)
  have hb := (f9 _ (by omega)).trans hb
  have hF := jw_Fr.step hF f9 (by omega)
  refine jw_aload_n (pc' := 13) jd_Content_init_12 rfl rfl rfl ?_
  refine jw_iconst (pc' := 14) (v := nI 0) jd_Content_init_13 (by decide +kernel) rfl ?_
  refine jw_put (pc' := 17) (kf := 1) (ty := .int) (fs' := [_, _, _]) jc_Content (by decide) jq_63 jd_Content_init_14 rfl (by decide +kernel) (by assumption) rfl rfl rfl (Nat.le_of_ble_eq_true rfl) rfl (fun μ ha f9 => ?_)
  have hb := (f9 _ (by omega)).trans hb
  have hF := jw_Fr.step hF f9 (by omega)
  refine jw_aload_n (pc' := 18) jd_Content_init_17 rfl rfl rfl ?_
  refine jw_iconst (pc' := 19) (v := nI 0) jd_Content_init_18 (by decide +kernel) rfl ?_
  refine jw_put (pc' := 22) (kf := 2) (ty := .boolean) (fs' := [_, _, _]) jc_Content (by decide) jq_64 jd_Content_init_19 rfl (by decide +kernel) (by assumption) rfl rfl rfl (Nat.le_of_ble_eq_true rfl) rfl (fun μ ha f9 => ?_)
  have hb := (f9 _ (by omega)).trans hb
  have hF := jw_Fr.step hF f9 (by omega)
  refine jw_vret hE jd_Content_init_22 rfl (by omega) (by omega) ?_
  exact ⟨rfl, rfl, ⟨ha, hb⟩, hF⟩
end
/-- a Tree's 28 cells: of each path the lines (N, G) and whether there is a file (Z) -/
def bt_At (o : jw_O) (μ : jw_Mem) (t : Nat) (N : Nat → Nat) (Z : Nat → Int32) (G : Nat → Nat → Int32) : Prop :=
  μ t = some (.inr (1, [.ref (t + 1), .ref (t + 2)])) ∧ (∃ F : Nat → Option Nat, μ (t + 1) = some (.inl (o.2.2.1 2, 12, .inr (.inr (.inr (.inr F))))) ∧ ∀ p, p < 12 → F p = some (t + 4 + 2 * p)) ∧ bc_At o μ (t + 2) 0 0 (fun _ => 0) ∧ (∀ p, p < 12 → bc_At o μ (t + 4 + 2 * p) (N p) (Z p) (G p)) ∧ ∀ p, p < 12 → N p ≤ 10 ∧ b01 (Z p)
theorem bt_At.fr {o : jw_O} {μ μ' : jw_Mem} {t b m : Nat} {N : Nat → Nat} {Z : Nat → Int32} {G : Nat → Nat → Int32} (h : bt_At o μ t N Z G) (f : jw_Fr μ μ' b m) (hd : t + 28 ≤ b ∨ b + m ≤ t) : bt_At o μ' t N Z G := by
  obtain ⟨h1, ⟨F, h2, h3⟩, h4, h5, h6⟩ := h
  exact ⟨(f _ (by omega)).trans h1, ⟨F, (f _ (by omega)).trans h2, h3⟩, h4.fr f (by omega), fun p hp => (h5 p hp).fr f (by omega), h6⟩
section
variable {o : jw_O} {μ : jw_Mem} {hs t : Nat} {N : Nat → Nat} {Z : Nat → Int32} {G : Nat → Nat → Int32}
theorem bt_init {x y : Value} (h0 : μ t = some (.inr (1, [x, y]))) : jw_Spec mi_Tree_init 2 27 181 o [.ref t] μ (t + 1) (fun v μ' s' => v = none ∧ s' = t + 28 ∧ bt_At o μ' t (fun _ => 0) (fun _ => 0) (fun _ _ => 0) ∧ jw_Fr μ μ' t 28) := by
  refine jw_spec (by decide +kernel) (Nat.le_of_ble_eq_true rfl) rfl (fun k hR hE => ?_)
  obtain ⟨μ0, hμ0⟩ : ∃ z, z = μ := ⟨_, rfl⟩
  have hF : jw_Fr μ0 μ t 28 := by rw [hμ0]; exact jw_Fr.rf
  refine jw_aload_n (pc' := 1) jd_Tree_init_0 rfl rfl rfl ?_
  refine jw_objInit (pc' := 4) hR jq_54 jd_Tree_init_1 (Nat.le_of_ble_eq_true rfl) (by omega) rfl ?_
  refine jw_aload_n (pc' := 5) jd_Tree_init_4 rfl rfl rfl ?_
  refine jw_bipush (pc' := 7) (v := nI 12) jd_Tree_init_5 (by decide +kernel) rfl ?_
  refine jw_newq (pc' := 10) (N := 12) (i := 2) (C := "Branchwork$Content") hR jq_55 (by decide +kernel) rfl jd_Tree_init_7 (by decide +kernel) (by decide +kernel) (by decide +kernel) (by omega) (by omega) rfl (fun μ h1 f9 => ?_)
  have h0 := (f9 _ (by omega)).trans h0
  have hF := jw_Fr.step hF f9 (by omega)
  refine jw_putF (pc' := 13) (kf := 0) (ty := (.array (.object "Branchwork$Content"))) (fs' := [_, _]) jc_Tree (by decide) jq_73 jd_Tree_init_10 rfl rfl rfl (by decide +kernel) (by assumption) rfl rfl rfl (Nat.le_of_ble_eq_true rfl) rfl (fun μ h0 f9 => ?_)
  have h1 := (f9 _ (by omega)).trans h1
  have hF := jw_Fr.step hF f9 (by omega)
  refine jw_aload_n (pc' := 14) jd_Tree_init_13 rfl rfl rfl ?_
  refine jw_new (pc' := 17) (fs := [.null, .int 0, .int 0]) hR jc_Content jq_55 jq_57 jq_25 jd_Tree_init_14 (by decide +kernel) (by omega) (by omega) rfl (fun μ hc f9 => ?_)
  have h0 := (f9 _ (by omega)).trans h0
  have h1 := (f9 _ (by omega)).trans h1
  have hF := jw_Fr.step hF f9 (by omega)
  refine jw_dup (pc' := 18) jd_Tree_init_17 rfl rfl ?_
  refine jw_callIN (pc' := 21) hR (bc_init hc) jm_Content_init jn_Tree_17 jd_Tree_init_18 rfl rfl (Nat.le_of_ble_eq_true rfl) (by omega) (by decide) (by omega) (by omega) rfl (fun v μ2 s2 q hle => ?_)
  obtain ⟨rfl, rfl, hC, f9⟩ := q
  have hF := hF.trans f9 (by omega) (by omega)
  have h0 := (f9 _ (by omega)).trans h0
  have h1 := (f9 _ (by omega)).trans h1
  refine jw_putF (pc' := 24) (kf := 1) (ty := (.object "Branchwork$Content")) (fs' := [_, _]) jc_Tree (by decide) jq_74 jd_Tree_init_21 rfl rfl rfl (by decide +kernel) (by assumption) rfl rfl rfl (Nat.le_of_ble_eq_true rfl) rfl (fun μ h0 f9 => ?_)
  have h1 := (f9 _ (by omega)).trans h1
  have hF := jw_Fr.step hF f9 (by omega)
  have hC := hC.fr (μ' := μ) (b := t) (m := 1) (fun q hq => f9 q (by omega)) (by omega)
  refine jw_iconst (pc' := 25) (v := nI 0) jd_Tree_init_24 (by decide +kernel) rfl ?_
  refine jw_istore_n (pc' := 26) (lc' := [(0, _), (1, _)]) jd_Tree_init_25 rfl (Nat.le_of_ble_eq_true rfl) ⟨rfl, rfl, trivial⟩ rfl ?_
  have loop : ∀ d i : Nat, i + d = 12 → ∀ (μ : jw_Mem), jw_Fr μ0 μ t 28 → μ t = some (.inr (1, [.ref (t + 1), .ref (t + 1 + 1)])) → (∃ F : Nat → Option Nat, μ (t + 1) = some (.inl (o.2.2.1 2, 12, .inr (.inr (.inr (.inr F))))) ∧ ∀ p, p < i → F p = some (t + 4 + 2 * p)) → bc_At o μ (t + 1 + 1) 0 0 (fun _ => 0) → (∀ p, p < i → bc_At o μ (t + 4 + 2 * p) 0 0 (fun _ => 0)) →
      jw_X mi_Tree_init o k (3 + 2 * i) (25 + 13 * i) 26 [(0, .ref t), (1, .int (nI i))] [] μ (t + 4 + 2 * i) := by
    intro d
    induction d with
    | zero =>
      intro i hi μ hF h0 h1 hC hA
      obtain rfl : i = 12 := by omega
      obtain ⟨F, h1, hFp⟩ := h1
      refine jw_iload_n (pc' := 27) jd_Tree_init_26 rfl rfl rfl ?_
      refine jw_bipush (pc' := 29) (v := nI 12) jd_Tree_init_27 (by decide +kernel) rfl ?_
      refine jw_icmp_ge (tgt := 51) (pc' := 32) jd_Tree_init_29 (by decide) rfl (fun c => ?_) (fun c => ?_)
      · refine jw_vret hE jd_Tree_init_51 rfl (by omega) (by omega) ?_
        exact ⟨rfl, rfl, ⟨h0, ⟨F, h1, hFp⟩, hC, hA, fun p _ => ⟨Nat.zero_le _, Or.inl rfl⟩⟩, hμ0 ▸ hF⟩
      · exact absurd (nI_le (by omega) (by omega)) c
    | succ d ih =>
      intro i hi μ hF h0 h1 hC hA
      obtain ⟨F, h1, hFp⟩ := h1
      obtain ⟨μ1, hμ1⟩ : ∃ z, z = μ := ⟨_, rfl⟩
      have hG : jw_Fr μ1 μ (t + 4 + 2 * i) 2 := by rw [hμ1]; exact jw_Fr.rf
      rw [← hμ1] at hC hA
      refine jw_iload_n (pc' := 27) jd_Tree_init_26 rfl rfl rfl ?_
      refine jw_bipush (pc' := 29) (v := nI 12) jd_Tree_init_27 (by decide +kernel) rfl ?_
      refine jw_icmp_ge (tgt := 51) (pc' := 32) jd_Tree_init_29 (by decide) rfl (fun c => ?_) (fun c => ?_)
      · exact absurd ((nI_leI (a := 12) (by omega) (by omega)).mp c) (by omega)
      refine jw_aload_n (pc' := 33) jd_Tree_init_32 rfl rfl rfl ?_
      refine jw_get (pc' := 36) (kf := 0) jc_Tree (by decide) jq_73 jd_Tree_init_33 (by assumption) rfl rfl ?_
      refine jw_iload_n (pc' := 37) jd_Tree_init_36 rfl rfl rfl ?_
      refine jw_new (pc' := 40) (fs := [.null, .int 0, .int 0]) hR jc_Content jq_55 jq_57 jq_25 jd_Tree_init_37 (by decide +kernel) (by omega) (by omega) rfl (fun μ hc f9 => ?_)
      have h0 := (f9 _ (by omega)).trans h0
      have h1 := (f9 _ (by omega)).trans h1
      have hF := jw_Fr.step hF f9 (by omega)
      refine jw_dup (pc' := 41) jd_Tree_init_40 rfl rfl ?_
      have hG := jw_Fr.step hG f9 (by omega)
      refine jw_callIN (pc' := 44) hR (bc_init hc) jm_Content_init jn_Tree_17 jd_Tree_init_41 rfl rfl (Nat.le_of_ble_eq_true rfl) (by omega) (by decide) (by omega) (by omega) rfl (fun v μ2 s2 q hle => ?_)
      obtain ⟨rfl, rfl, hD, f9⟩ := q
      have hF := hF.trans f9 (by omega) (by omega)
      have hG := hG.trans f9 (by omega) (by omega)
      have h0 := (f9 _ (by omega)).trans h0
      have h1 := (f9 _ (by omega)).trans h1
      have hc := hD.1
      refine jw_aast (pc' := 45) (i := 2) (ci := 0) (r := ("Branchwork$Content", F_Content, 3)) jd_Tree_init_44 (by assumption) rfl hc jc_Content (vp_in_nI (by omega) (by omega)) rfl (fun μ h1 f9 => ?_)
      have hF := jw_Fr.step hF f9 (by omega)
      have h0 := (f9 _ (by omega)).trans h0
      refine jw_iinc (pc' := 48) (lc' := [(0, _), (1, _)]) jd_Tree_init_45 rfl (nI_1 _) (Nat.le_of_ble_eq_true rfl) ⟨rfl, rfl, trivial⟩ rfl ?_
      refine jw_goto (tgt := 26) jd_Tree_init_48 (by decide) ?_
      refine jw_cnt (kc' := 3 + 2 * (i + 1)) (ks' := 25 + 13 * (i + 1)) (by omega) (by omega) ?_
      refine jw_hs (hs' := t + 4 + 2 * (i + 1)) (by omega) ?_
      have hD1 := hD.fr (jw_Fr.o f9) (by omega)
      refine ih (i + 1) (by omega) _ hF h0 ⟨_, h1, fun p hp => ?_⟩ ((hC.fr hG (by omega)).fr (b := t + 1) (m := 1) (fun q hq => f9 q (by omega)) (by omega)) (fun p hp => ?_)
      · rw [nI_clamp (by omega)]
        by_cases e : p = i
        · rw [e, va_up_self]
        · rw [va_up_ne _ _ e]; exact hFp p (by omega)
      · by_cases e : p = i
        · rw [e]; exact hD1
        · exact ((hA p (by omega)).fr hG (by omega)).fr (b := t + 1) (m := 1) (fun q hq => f9 q (by omega)) (by omega)
  exact jw_hs (hs' := t + 4 + 2 * 0) (by omega) (loop 12 0 (by omega) _ hF h0 ⟨_, h1, fun p hp => absurd hp (by omega)⟩ hC (fun p hp => absurd hp (by omega)))
end
def bi_At (o : jw_O) (μ : jw_Mem) (a n : Nat) (f : Nat → Int32) : Prop := μ a = some (.inl (o.2.2.1 0, n, .inl f))
theorem bi_At.fr {o : jw_O} {μ μ' : jw_Mem} {a n b m : Nat} {f : Nat → Int32} (h : bi_At o μ a n f) (q : jw_Fr μ μ' b m) (hd : a < b ∨ b + m ≤ a) : bi_At o μ' a n f := (q _ (by omega)).trans h
/-- a Match's 4 cells -/
def bm_At (o : jw_O) (μ : jw_Mem) (m : Nat) : Prop := μ m = some (.inr (2, [.ref (m + 1), .ref (m + 2), .ref (m + 3)])) ∧ (∃ f, bi_At o μ (m + 1) 121 f) ∧ (∃ f, bi_At o μ (m + 2) 10 f) ∧ ∃ f, bi_At o μ (m + 3) 10 f
theorem bm_At.fr {o : jw_O} {μ μ' : jw_Mem} {a b m : Nat} (h : bm_At o μ a) (q : jw_Fr μ μ' b m) (hd : a + 4 ≤ b ∨ b + m ≤ a) : bm_At o μ' a := by
  obtain ⟨h1, ⟨f, h2⟩, ⟨g, h3⟩, ⟨e, h4⟩⟩ := h
  exact ⟨(q _ (by omega)).trans h1, ⟨f, h2.fr q (by omega)⟩, ⟨g, h3.fr q (by omega)⟩, ⟨e, h4.fr q (by omega)⟩⟩
def bc_Ex (o : jw_O) (μ : jw_Mem) (a : Nat) : Prop := ∃ n p g, bc_At o μ a n p g ∧ n ≤ 10 ∧ b01 p
theorem bc_Ex.fr {o : jw_O} {μ μ' : jw_Mem} {a b m : Nat} (h : bc_Ex o μ a) (q : jw_Fr μ μ' b m) (hd : a + 2 ≤ b ∨ b + m ≤ a) : bc_Ex o μ' a := by
  obtain ⟨n, p, g, h1, h2⟩ := h
  exact ⟨n, p, g, h1.fr q hd, h2⟩
/-- a Renames' 7 cells -/
def bn_At (o : jw_O) (μ : jw_Mem) (r : Nat) (f s : Nat → Int32) (c : Int32) : Prop := μ r = some (.inr (3, [.ref (r + 1), .ref (r + 2), .ref (r + 3), .int c])) ∧ bi_At o μ (r + 1) 12 f ∧ bi_At o μ (r + 2) 12 s ∧ bm_At o μ (r + 3)
theorem bn_At.fr {o : jw_O} {μ μ' : jw_Mem} {a b m : Nat} {f s : Nat → Int32} {c : Int32} (h : bn_At o μ a f s c) (q : jw_Fr μ μ' b m) (hd : a + 7 ≤ b ∨ b + m ≤ a) : bn_At o μ' a f s c := ⟨(q _ (by omega)).trans h.1, h.2.1.fr q (by omega), h.2.2.1.fr q (by omega), h.2.2.2.fr q (by omega)⟩
/-- a Conflicts' 3 cells -/
def bk_At (o : jw_O) (μ : jw_Mem) (c n : Nat) (f s : Nat → Int32) : Prop := μ c = some (.inr (5, [.ref (c + 1), .ref (c + 2), .int (nI n)])) ∧ bi_At o μ (c + 1) 24 f ∧ bi_At o μ (c + 2) 24 s
theorem bk_At.fr {o : jw_O} {μ μ' : jw_Mem} {a n b m : Nat} {f s : Nat → Int32} (h : bk_At o μ a n f s) (q : jw_Fr μ μ' b m) (hd : a + 3 ≤ b ∨ b + m ≤ a) : bk_At o μ' a n f s := ⟨(q _ (by omega)).trans h.1, h.2.1.fr q (by omega), h.2.2.fr q (by omega)⟩
/-- a Blender's 15 cells -/
def bb_At (o : jw_O) (μ : jw_Mem) (b : Nat) : Prop := μ b = some (.inr (4, [.ref (b + 1), .ref (b + 5), .ref (b + 9), .ref (b + 11), .ref (b + 13)])) ∧ bm_At o μ (b + 1) ∧ bm_At o μ (b + 5) ∧ bc_Ex o μ (b + 9) ∧ bc_Ex o μ (b + 11) ∧ bc_Ex o μ (b + 13)
theorem bb_At.fr {o : jw_O} {μ μ' : jw_Mem} {a b m : Nat} (h : bb_At o μ a) (q : jw_Fr μ μ' b m) (hd : a + 15 ≤ b ∨ b + m ≤ a) : bb_At o μ' a := ⟨(q _ (by omega)).trans h.1, h.2.1.fr q (by omega), h.2.2.1.fr q (by omega), h.2.2.2.1.fr q (by omega), h.2.2.2.2.1.fr q (by omega), h.2.2.2.2.2.fr q (by omega)⟩
section
variable {o : jw_O} {μ : jw_Mem} {hs a : Nat}
theorem bm_init {x y z : Value} (h0 : μ a = some (.inr (2, [x, y, z]))) : jw_Spec mi_Match_init 1 3 141 o [.ref a] μ (a + 1) (fun v μ' s' => v = none ∧ s' = a + 4 ∧ bm_At o μ' a ∧ jw_Fr μ μ' a 4) := by
  refine jw_spec (by decide +kernel) (Nat.le_of_ble_eq_true rfl) rfl (fun k hR hE => ?_)
  have hF : jw_Fr μ μ a 4 := jw_Fr.rf
  refine jw_aload_n (pc' := 1) jd_Match_init_0 rfl rfl rfl ?_
  refine jw_objInit (pc' := 4) hR jq_155 jd_Match_init_1 (Nat.le_of_ble_eq_true rfl) (by omega) rfl ?_
  refine jw_aload_n (pc' := 5) jd_Match_init_4 rfl rfl rfl ?_
  refine jw_bipush (pc' := 7) (v := nI 121) jd_Match_init_5 (by decide +kernel) rfl ?_
  refine jw_newa (pc' := 9) (N := 121) (i := 0) (a0 := (121, .inl (fun _ => 0))) (ty := .int) (atype := .int) hR jq_72 rfl rfl jd_Match_init_7 (fun _ => rfl) (by decide +kernel) (by decide +kernel) (by decide +kernel) (by omega) (by omega) rfl (fun μ h1 f9 => ?_)
  have h0 := (f9 _ (by omega)).trans h0
  have hF := jw_Fr.step hF f9 (by omega)
  refine jw_putF (pc' := 12) (kf := 0) (ty := (.array .int)) (fs' := [_, _, _]) jc_Match (by decide) jq_156 jd_Match_init_9 rfl rfl rfl (by decide +kernel) (by assumption) rfl rfl rfl (Nat.le_of_ble_eq_true rfl) rfl (fun μ h0 f9 => ?_)
  have h1 := (f9 _ (by omega)).trans h1
  have hF := jw_Fr.step hF f9 (by omega)
  refine jw_aload_n (pc' := 13) jd_Match_init_12 rfl rfl rfl ?_
  refine jw_bipush (pc' := 15) (v := nI 10) jd_Match_init_13 (by decide +kernel) rfl ?_
  refine jw_newa (pc' := 17) (N := 10) (i := 0) (a0 := (10, .inl (fun _ => 0))) (ty := .int) (atype := .int) hR jq_72 rfl rfl jd_Match_init_15 (fun _ => rfl) (by decide +kernel) (by decide +kernel) (by decide +kernel) (by omega) (by omega) rfl (fun μ h2 f9 => ?_)
  have h0 := (f9 _ (by omega)).trans h0
  have h1 := (f9 _ (by omega)).trans h1
  have hF := jw_Fr.step hF f9 (by omega)
  refine jw_putF (pc' := 20) (kf := 1) (ty := (.array .int)) (fs' := [_, _, _]) jc_Match (by decide) jq_157 jd_Match_init_17 rfl rfl rfl (by decide +kernel) (by assumption) rfl rfl rfl (Nat.le_of_ble_eq_true rfl) rfl (fun μ h0 f9 => ?_)
  have h1 := (f9 _ (by omega)).trans h1
  have h2 := (f9 _ (by omega)).trans h2
  have hF := jw_Fr.step hF f9 (by omega)
  refine jw_aload_n (pc' := 21) jd_Match_init_20 rfl rfl rfl ?_
  refine jw_bipush (pc' := 23) (v := nI 10) jd_Match_init_21 (by decide +kernel) rfl ?_
  refine jw_newa (pc' := 25) (N := 10) (i := 0) (a0 := (10, .inl (fun _ => 0))) (ty := .int) (atype := .int) hR jq_72 rfl rfl jd_Match_init_23 (fun _ => rfl) (by decide +kernel) (by decide +kernel) (by decide +kernel) (by omega) (by omega) rfl (fun μ h3 f9 => ?_)
  have h0 := (f9 _ (by omega)).trans h0
  have h1 := (f9 _ (by omega)).trans h1
  have h2 := (f9 _ (by omega)).trans h2
  have hF := jw_Fr.step hF f9 (by omega)
  refine jw_putF (pc' := 28) (kf := 2) (ty := (.array .int)) (fs' := [_, _, _]) jc_Match (by decide) jq_158 jd_Match_init_25 rfl rfl rfl (by decide +kernel) (by assumption) rfl rfl rfl (Nat.le_of_ble_eq_true rfl) rfl (fun μ h0 f9 => ?_)
  have h1 := (f9 _ (by omega)).trans h1
  have h2 := (f9 _ (by omega)).trans h2
  have h3 := (f9 _ (by omega)).trans h3
  have hF := jw_Fr.step hF f9 (by omega)
  refine jw_vret hE jd_Match_init_28 rfl (by omega) (by omega) ?_
  exact ⟨rfl, rfl, ⟨h0, ⟨_, h1⟩, ⟨_, h2⟩, ⟨_, h3⟩⟩, hF⟩
theorem bn_init {x y z : Value} {w : Int32} (h0 : μ a = some (.inr (3, [x, y, z, .int w]))) : jw_Spec mi_Renames_init 2 6 168 o [.ref a] μ (a + 1) (fun v μ' s' => v = none ∧ s' = a + 7 ∧ bn_At o μ' a (fun _ => 0) (fun _ => 0) 0 ∧ jw_Fr μ μ' a 7) := by
  refine jw_spec (by decide +kernel) (Nat.le_of_ble_eq_true rfl) rfl (fun k hR hE => ?_)
  have hF : jw_Fr μ μ a 7 := jw_Fr.rf
  refine jw_aload_n (pc' := 1) jd_Renames_init_0 rfl rfl rfl ?_
  refine jw_objInit (pc' := 4) hR jq_149 jd_Renames_init_1 (Nat.le_of_ble_eq_true rfl) (by omega) rfl ?_
  refine jw_aload_n (pc' := 5) jd_Renames_init_4 rfl rfl rfl ?_
  refine jw_bipush (pc' := 7) (v := nI 12) jd_Renames_init_5 (by decide +kernel) rfl ?_
  refine jw_newa (pc' := 9) (N := 12) (i := 0) (a0 := (12, .inl (fun _ => 0))) (ty := .int) (atype := .int) hR jq_72 rfl rfl jd_Renames_init_7 (fun _ => rfl) (by decide +kernel) (by decide +kernel) (by decide +kernel) (by omega) (by omega) rfl (fun μ h1 f9 => ?_)
  have h0 := (f9 _ (by omega)).trans h0
  have hF := jw_Fr.step hF f9 (by omega)
  refine jw_putF (pc' := 12) (kf := 0) (ty := (.array .int)) (fs' := [_, _, _, _]) jc_Renames (by decide) jq_166 jd_Renames_init_9 rfl rfl rfl (by decide +kernel) (by assumption) rfl rfl rfl (Nat.le_of_ble_eq_true rfl) rfl (fun μ h0 f9 => ?_)
  have h1 := (f9 _ (by omega)).trans h1
  have hF := jw_Fr.step hF f9 (by omega)
  refine jw_aload_n (pc' := 13) jd_Renames_init_12 rfl rfl rfl ?_
  refine jw_bipush (pc' := 15) (v := nI 12) jd_Renames_init_13 (by decide +kernel) rfl ?_
  refine jw_newa (pc' := 17) (N := 12) (i := 0) (a0 := (12, .inl (fun _ => 0))) (ty := .int) (atype := .int) hR jq_72 rfl rfl jd_Renames_init_15 (fun _ => rfl) (by decide +kernel) (by decide +kernel) (by decide +kernel) (by omega) (by omega) rfl (fun μ h2 f9 => ?_)
  have h0 := (f9 _ (by omega)).trans h0
  have h1 := (f9 _ (by omega)).trans h1
  have hF := jw_Fr.step hF f9 (by omega)
  refine jw_putF (pc' := 20) (kf := 1) (ty := (.array .int)) (fs' := [_, _, _, _]) jc_Renames (by decide) jq_167 jd_Renames_init_17 rfl rfl rfl (by decide +kernel) (by assumption) rfl rfl rfl (Nat.le_of_ble_eq_true rfl) rfl (fun μ h0 f9 => ?_)
  have h1 := (f9 _ (by omega)).trans h1
  have h2 := (f9 _ (by omega)).trans h2
  have hF := jw_Fr.step hF f9 (by omega)
  refine jw_aload_n (pc' := 21) jd_Renames_init_20 rfl rfl rfl ?_
  refine jw_new (pc' := 24) (fs := [.null, .null, .null]) hR jc_Match jq_150 jq_151 jq_30 jd_Renames_init_21 (by decide +kernel) (by omega) (by omega) rfl (fun μ h3 f9 => ?_)
  have h0 := (f9 _ (by omega)).trans h0
  have h1 := (f9 _ (by omega)).trans h1
  have h2 := (f9 _ (by omega)).trans h2
  have hF := jw_Fr.step hF f9 (by omega)
  refine jw_dup (pc' := 25) jd_Renames_init_24 rfl rfl ?_
  refine jw_callIN (pc' := 28) hR (bm_init h3) jm_Match_init jn_Renames_20 jd_Renames_init_25 rfl rfl (Nat.le_of_ble_eq_true rfl) (by omega) (by decide) (by omega) (by omega) rfl (fun v μ s9 q9 hle => ?_)
  obtain ⟨rfl, rfl, hM, f9⟩ := q9
  have hF := hF.trans f9 (by omega) (by omega)
  have h0 := (f9 _ (by omega)).trans h0
  have h1 := (f9 _ (by omega)).trans h1
  have h2 := (f9 _ (by omega)).trans h2
  refine jw_putF (pc' := 31) (kf := 2) (ty := (.object "Branchwork$Match")) (fs' := [_, _, _, _]) jc_Renames (by decide) jq_168 jd_Renames_init_28 rfl rfl rfl (by decide +kernel) (by assumption) rfl rfl rfl (Nat.le_of_ble_eq_true rfl) rfl (fun μ h0 f9 => ?_)
  have h1 := (f9 _ (by omega)).trans h1
  have h2 := (f9 _ (by omega)).trans h2
  have hF := jw_Fr.step hF f9 (by omega)
  have hM := hM.fr (jw_Fr.o f9) (by omega)
  refine jw_aload_n (pc' := 32) jd_Renames_init_31 rfl rfl rfl ?_
  refine jw_iconst (pc' := 33) (v := nI 0) jd_Renames_init_32 (by decide +kernel) rfl ?_
  refine jw_put (pc' := 36) (kf := 3) (ty := .int) (fs' := [_, _, _, _]) jc_Renames (by decide) jq_169 jd_Renames_init_33 rfl (by decide +kernel) (by assumption) rfl rfl rfl (Nat.le_of_ble_eq_true rfl) rfl (fun μ h0 f9 => ?_)
  have h1 := (f9 _ (by omega)).trans h1
  have h2 := (f9 _ (by omega)).trans h2
  have hF := jw_Fr.step hF f9 (by omega)
  have hM := hM.fr (jw_Fr.o f9) (by omega)
  refine jw_vret hE jd_Renames_init_36 rfl (by omega) (by omega) ?_
  exact ⟨rfl, rfl, ⟨h0, h1, h2, hM⟩, hF⟩
theorem bk_init {x y : Value} {w : Int32} (h0 : μ a = some (.inr (5, [x, y, .int w]))) : jw_Spec mi_Conflicts_init 1 2 48 o [.ref a] μ (a + 1) (fun v μ' s' => v = none ∧ s' = a + 3 ∧ bk_At o μ' a 0 (fun _ => 0) (fun _ => 0) ∧ jw_Fr μ μ' a 3) := by
  refine jw_spec (by decide +kernel) (Nat.le_of_ble_eq_true rfl) rfl (fun k hR hE => ?_)
  have hF : jw_Fr μ μ a 3 := jw_Fr.rf
  refine jw_aload_n (pc' := 1) jd_Conflicts_init_0 rfl rfl rfl ?_
  refine jw_objInit (pc' := 4) hR jq_133 jd_Conflicts_init_1 (Nat.le_of_ble_eq_true rfl) (by omega) rfl ?_
  refine jw_aload_n (pc' := 5) jd_Conflicts_init_4 rfl rfl rfl ?_
  refine jw_bipush (pc' := 7) (v := nI 24) jd_Conflicts_init_5 (by decide +kernel) rfl ?_
  refine jw_newa (pc' := 9) (N := 24) (i := 0) (a0 := (24, .inl (fun _ => 0))) (ty := .int) (atype := .int) hR jq_72 rfl rfl jd_Conflicts_init_7 (fun _ => rfl) (by decide +kernel) (by decide +kernel) (by decide +kernel) (by omega) (by omega) rfl (fun μ h1 f9 => ?_)
  have h0 := (f9 _ (by omega)).trans h0
  have hF := jw_Fr.step hF f9 (by omega)
  refine jw_putF (pc' := 12) (kf := 0) (ty := (.array .int)) (fs' := [_, _, _]) jc_Conflicts (by decide) jq_134 jd_Conflicts_init_9 rfl rfl rfl (by decide +kernel) (by assumption) rfl rfl rfl (Nat.le_of_ble_eq_true rfl) rfl (fun μ h0 f9 => ?_)
  have h1 := (f9 _ (by omega)).trans h1
  have hF := jw_Fr.step hF f9 (by omega)
  refine jw_aload_n (pc' := 13) jd_Conflicts_init_12 rfl rfl rfl ?_
  refine jw_bipush (pc' := 15) (v := nI 24) jd_Conflicts_init_13 (by decide +kernel) rfl ?_
  refine jw_newa (pc' := 17) (N := 24) (i := 0) (a0 := (24, .inl (fun _ => 0))) (ty := .int) (atype := .int) hR jq_72 rfl rfl jd_Conflicts_init_15 (fun _ => rfl) (by decide +kernel) (by decide +kernel) (by decide +kernel) (by omega) (by omega) rfl (fun μ h2 f9 => ?_)
  have h0 := (f9 _ (by omega)).trans h0
  have h1 := (f9 _ (by omega)).trans h1
  have hF := jw_Fr.step hF f9 (by omega)
  refine jw_putF (pc' := 20) (kf := 1) (ty := (.array .int)) (fs' := [_, _, _]) jc_Conflicts (by decide) jq_135 jd_Conflicts_init_17 rfl rfl rfl (by decide +kernel) (by assumption) rfl rfl rfl (Nat.le_of_ble_eq_true rfl) rfl (fun μ h0 f9 => ?_)
  have h1 := (f9 _ (by omega)).trans h1
  have h2 := (f9 _ (by omega)).trans h2
  have hF := jw_Fr.step hF f9 (by omega)
  refine jw_aload_n (pc' := 21) jd_Conflicts_init_20 rfl rfl rfl ?_
  refine jw_iconst (pc' := 22) (v := nI 0) jd_Conflicts_init_21 (by decide +kernel) rfl ?_
  refine jw_put (pc' := 25) (kf := 2) (ty := .int) (fs' := [_, _, _]) jc_Conflicts (by decide) jq_136 jd_Conflicts_init_22 rfl (by decide +kernel) (by assumption) rfl rfl rfl (Nat.le_of_ble_eq_true rfl) rfl (fun μ h0 f9 => ?_)
  have h1 := (f9 _ (by omega)).trans h1
  have h2 := (f9 _ (by omega)).trans h2
  have hF := jw_Fr.step hF f9 (by omega)
  refine jw_vret hE jd_Conflicts_init_25 rfl (by omega) (by omega) ?_
  exact ⟨rfl, rfl, ⟨h0, h1, h2⟩, hF⟩
theorem bb_init {v w x y z : Value} (h0 : μ a = some (.inr (4, [v, w, x, y, z]))) : jw_Spec mi_Blender_init 2 14 327 o [.ref a] μ (a + 1) (fun v μ' s' => v = none ∧ s' = a + 15 ∧ bb_At o μ' a ∧ jw_Fr μ μ' a 15) := by
  refine jw_spec (by decide +kernel) (Nat.le_of_ble_eq_true rfl) rfl (fun k hR hE => ?_)
  have hF : jw_Fr μ μ a 15 := jw_Fr.rf
  refine jw_aload_n (pc' := 1) jd_Blender_init_0 rfl rfl rfl ?_
  refine jw_objInit (pc' := 4) hR jq_184 jd_Blender_init_1 (Nat.le_of_ble_eq_true rfl) (by omega) rfl ?_
  refine jw_aload_n (pc' := 5) jd_Blender_init_4 rfl rfl rfl ?_
  refine jw_new (pc' := 8) (fs := [.null, .null, .null]) hR jc_Match jq_185 jq_151 jq_30 jd_Blender_init_5 (by decide +kernel) (by omega) (by omega) rfl (fun μ h1 f9 => ?_)
  have h0 := (f9 _ (by omega)).trans h0
  have hF := jw_Fr.step hF f9 (by omega)
  refine jw_dup (pc' := 9) jd_Blender_init_8 rfl rfl ?_
  refine jw_callIN (pc' := 12) hR (bm_init h1) jm_Match_init jn_Blender_11 jd_Blender_init_9 rfl rfl (Nat.le_of_ble_eq_true rfl) (by omega) (by decide) (by omega) (by omega) rfl (fun v μ s9 q9 hle => ?_)
  obtain ⟨rfl, rfl, hM1, f9⟩ := q9
  have hF := hF.trans f9 (by omega) (by omega)
  have h0 := (f9 _ (by omega)).trans h0
  refine jw_putF (pc' := 15) (kf := 0) (ty := (.object "Branchwork$Match")) (fs' := [_, _, _, _, _]) jc_Blender (by decide) jq_189 jd_Blender_init_12 rfl rfl rfl (by decide +kernel) (by assumption) rfl rfl rfl (Nat.le_of_ble_eq_true rfl) rfl (fun μ h0 f9 => ?_)
  have hF := jw_Fr.step hF f9 (by omega)
  have hM1 := hM1.fr (jw_Fr.o f9) (by omega)
  refine jw_aload_n (pc' := 16) jd_Blender_init_15 rfl rfl rfl ?_
  refine jw_new (pc' := 19) (fs := [.null, .null, .null]) hR jc_Match jq_185 jq_151 jq_30 jd_Blender_init_16 (by decide +kernel) (by omega) (by omega) rfl (fun μ h1 f9 => ?_)
  have h0 := (f9 _ (by omega)).trans h0
  have hF := jw_Fr.step hF f9 (by omega)
  have hM1 := hM1.fr (jw_Fr.o f9) (by omega)
  refine jw_dup (pc' := 20) jd_Blender_init_19 rfl rfl ?_
  refine jw_callIN (pc' := 23) hR (bm_init h1) jm_Match_init jn_Blender_11 jd_Blender_init_20 rfl rfl (Nat.le_of_ble_eq_true rfl) (by omega) (by decide) (by omega) (by omega) rfl (fun v μ s9 q9 hle => ?_)
  obtain ⟨rfl, rfl, hM2, f9⟩ := q9
  have hF := hF.trans f9 (by omega) (by omega)
  have h0 := (f9 _ (by omega)).trans h0
  have hM1 := hM1.fr f9 (by omega)
  refine jw_putF (pc' := 26) (kf := 1) (ty := (.object "Branchwork$Match")) (fs' := [_, _, _, _, _]) jc_Blender (by decide) jq_190 jd_Blender_init_23 rfl rfl rfl (by decide +kernel) (by assumption) rfl rfl rfl (Nat.le_of_ble_eq_true rfl) rfl (fun μ h0 f9 => ?_)
  have hF := jw_Fr.step hF f9 (by omega)
  have hM1 := hM1.fr (jw_Fr.o f9) (by omega)
  have hM2 := hM2.fr (jw_Fr.o f9) (by omega)
  refine jw_aload_n (pc' := 27) jd_Blender_init_26 rfl rfl rfl ?_
  refine jw_new (pc' := 30) (fs := [.null, .int 0, .int 0]) hR jc_Content jq_187 jq_57 jq_25 jd_Blender_init_27 (by decide +kernel) (by omega) (by omega) rfl (fun μ h1 f9 => ?_)
  have h0 := (f9 _ (by omega)).trans h0
  have hF := jw_Fr.step hF f9 (by omega)
  have hM1 := hM1.fr (jw_Fr.o f9) (by omega)
  have hM2 := hM2.fr (jw_Fr.o f9) (by omega)
  refine jw_dup (pc' := 31) jd_Blender_init_30 rfl rfl ?_
  refine jw_callIN (pc' := 34) hR (bc_init h1) jm_Content_init jn_Blender_23 jd_Blender_init_31 rfl rfl (Nat.le_of_ble_eq_true rfl) (by omega) (by decide) (by omega) (by omega) rfl (fun v μ s9 q9 hle => ?_)
  obtain ⟨rfl, rfl, hC1, f9⟩ := q9
  have hF := hF.trans f9 (by omega) (by omega)
  have h0 := (f9 _ (by omega)).trans h0
  have hM1 := hM1.fr f9 (by omega)
  have hM2 := hM2.fr f9 (by omega)
  refine jw_putF (pc' := 37) (kf := 2) (ty := (.object "Branchwork$Content")) (fs' := [_, _, _, _, _]) jc_Blender (by decide) jq_191 jd_Blender_init_34 rfl rfl rfl (by decide +kernel) (by assumption) rfl rfl rfl (Nat.le_of_ble_eq_true rfl) rfl (fun μ h0 f9 => ?_)
  have hF := jw_Fr.step hF f9 (by omega)
  have hM1 := hM1.fr (jw_Fr.o f9) (by omega)
  have hM2 := hM2.fr (jw_Fr.o f9) (by omega)
  have hC1 := hC1.fr (jw_Fr.o f9) (by omega)
  refine jw_aload_n (pc' := 38) jd_Blender_init_37 rfl rfl rfl ?_
  refine jw_new (pc' := 41) (fs := [.null, .int 0, .int 0]) hR jc_Content jq_187 jq_57 jq_25 jd_Blender_init_38 (by decide +kernel) (by omega) (by omega) rfl (fun μ h1 f9 => ?_)
  have h0 := (f9 _ (by omega)).trans h0
  have hF := jw_Fr.step hF f9 (by omega)
  have hM1 := hM1.fr (jw_Fr.o f9) (by omega)
  have hM2 := hM2.fr (jw_Fr.o f9) (by omega)
  have hC1 := hC1.fr (jw_Fr.o f9) (by omega)
  refine jw_dup (pc' := 42) jd_Blender_init_41 rfl rfl ?_
  refine jw_callIN (pc' := 45) hR (bc_init h1) jm_Content_init jn_Blender_23 jd_Blender_init_42 rfl rfl (Nat.le_of_ble_eq_true rfl) (by omega) (by decide) (by omega) (by omega) rfl (fun v μ s9 q9 hle => ?_)
  obtain ⟨rfl, rfl, hC2, f9⟩ := q9
  have hF := hF.trans f9 (by omega) (by omega)
  have h0 := (f9 _ (by omega)).trans h0
  have hM1 := hM1.fr f9 (by omega)
  have hM2 := hM2.fr f9 (by omega)
  have hC1 := hC1.fr f9 (by omega)
  refine jw_putF (pc' := 48) (kf := 3) (ty := (.object "Branchwork$Content")) (fs' := [_, _, _, _, _]) jc_Blender (by decide) jq_192 jd_Blender_init_45 rfl rfl rfl (by decide +kernel) (by assumption) rfl rfl rfl (Nat.le_of_ble_eq_true rfl) rfl (fun μ h0 f9 => ?_)
  have hF := jw_Fr.step hF f9 (by omega)
  have hM1 := hM1.fr (jw_Fr.o f9) (by omega)
  have hM2 := hM2.fr (jw_Fr.o f9) (by omega)
  have hC1 := hC1.fr (jw_Fr.o f9) (by omega)
  have hC2 := hC2.fr (jw_Fr.o f9) (by omega)
  refine jw_aload_n (pc' := 49) jd_Blender_init_48 rfl rfl rfl ?_
  refine jw_new (pc' := 52) (fs := [.null, .int 0, .int 0]) hR jc_Content jq_187 jq_57 jq_25 jd_Blender_init_49 (by decide +kernel) (by omega) (by omega) rfl (fun μ h1 f9 => ?_)
  have h0 := (f9 _ (by omega)).trans h0
  have hF := jw_Fr.step hF f9 (by omega)
  have hM1 := hM1.fr (jw_Fr.o f9) (by omega)
  have hM2 := hM2.fr (jw_Fr.o f9) (by omega)
  have hC1 := hC1.fr (jw_Fr.o f9) (by omega)
  have hC2 := hC2.fr (jw_Fr.o f9) (by omega)
  refine jw_dup (pc' := 53) jd_Blender_init_52 rfl rfl ?_
  refine jw_callIN (pc' := 56) hR (bc_init h1) jm_Content_init jn_Blender_23 jd_Blender_init_53 rfl rfl (Nat.le_of_ble_eq_true rfl) (by omega) (by decide) (by omega) (by omega) rfl (fun v μ s9 q9 hle => ?_)
  obtain ⟨rfl, rfl, hC3, f9⟩ := q9
  have hF := hF.trans f9 (by omega) (by omega)
  have h0 := (f9 _ (by omega)).trans h0
  have hM1 := hM1.fr f9 (by omega)
  have hM2 := hM2.fr f9 (by omega)
  have hC1 := hC1.fr f9 (by omega)
  have hC2 := hC2.fr f9 (by omega)
  refine jw_putF (pc' := 59) (kf := 4) (ty := (.object "Branchwork$Content")) (fs' := [_, _, _, _, _]) jc_Blender (by decide) jq_193 jd_Blender_init_56 rfl rfl rfl (by decide +kernel) (by assumption) rfl rfl rfl (Nat.le_of_ble_eq_true rfl) rfl (fun μ h0 f9 => ?_)
  have hF := jw_Fr.step hF f9 (by omega)
  have hM1 := hM1.fr (jw_Fr.o f9) (by omega)
  have hM2 := hM2.fr (jw_Fr.o f9) (by omega)
  have hC1 := hC1.fr (jw_Fr.o f9) (by omega)
  have hC2 := hC2.fr (jw_Fr.o f9) (by omega)
  have hC3 := hC3.fr (jw_Fr.o f9) (by omega)
  refine jw_vret hE jd_Blender_init_59 rfl (by omega) (by omega) ?_
  exact ⟨rfl, rfl, ⟨h0, hM1, hM2, ⟨_, _, _, hC1, Nat.zero_le _, Or.inl rfl⟩, ⟨_, _, _, hC2, Nat.zero_le _, Or.inl rfl⟩, ⟨_, _, _, hC3, Nat.zero_le _, Or.inl rfl⟩⟩, hF⟩
/-- a Merger's 64 cells, with its tree and its conflicts -/
def bg_At (o : jw_O) (μ : jw_Mem) (g : Nat) (N : Nat → Nat) (Z : Nat → Int32) (G : Nat → Nat → Int32) (n : Nat) (cf cs : Nat → Int32) : Prop := μ g = some (.inr (6, [.ref (g + 1), .ref (g + 29), .ref (g + 32), .ref (g + 39), .ref (g + 46), .ref (g + 61), .ref (g + 63)])) ∧ bt_At o μ (g + 1) N Z G ∧ bk_At o μ (g + 29) n cf cs ∧ (∃ f s c, bn_At o μ (g + 32) f s c) ∧ (∃ f s c, bn_At o μ (g + 39) f s c) ∧ bb_At o μ (g + 46) ∧ bc_At o μ (g + 61) 0 0 (fun _ => 0) ∧ ∃ f, μ (g + 63) = some (.inl (o.2.2.1 1, 12, .inl f))
theorem bg_At.fr {o : jw_O} {μ μ' : jw_Mem} {a b m n : Nat} {N : Nat → Nat} {Z : Nat → Int32} {G : Nat → Nat → Int32} {cf cs : Nat → Int32} (h : bg_At o μ a N Z G n cf cs) (q : jw_Fr μ μ' b m) (hd : a + 64 ≤ b ∨ b + m ≤ a) : bg_At o μ' a N Z G n cf cs := by
  obtain ⟨h1, h2, h3, ⟨_, _, _, h4⟩, ⟨_, _, _, h5⟩, h6, h7, ⟨_, h8⟩⟩ := h
  exact ⟨(q _ (by omega)).trans h1, h2.fr q (by omega), h3.fr q (by omega), ⟨_, _, _, h4.fr q (by omega)⟩, ⟨_, _, _, h5.fr q (by omega)⟩, h6.fr q (by omega), h7.fr q (by omega), ⟨_, (q _ (by omega)).trans h8⟩⟩
theorem bg_init {t v w x y z u : Value} (h0 : μ a = some (.inr (6, [t, v, w, x, y, z, u]))) : jw_Spec mi_Merger_init 3 63 935 o [.ref a] μ (a + 1) (fun v μ' s' => v = none ∧ s' = a + 64 ∧ bg_At o μ' a (fun _ => 0) (fun _ => 0) (fun _ _ => 0) 0 (fun _ => 0) (fun _ => 0) ∧ jw_Fr μ μ' a 64) := by
  refine jw_spec (by decide +kernel) (Nat.le_of_ble_eq_true rfl) rfl (fun k hR hE => ?_)
  have hF : jw_Fr μ μ a 64 := jw_Fr.rf
  refine jw_aload_n (pc' := 1) jd_Merger_init_0 rfl rfl rfl ?_
  refine jw_objInit (pc' := 4) hR jq_125 jd_Merger_init_1 (Nat.le_of_ble_eq_true rfl) (by omega) rfl ?_
  refine jw_aload_n (pc' := 5) jd_Merger_init_4 rfl rfl rfl ?_
  refine jw_new (pc' := 8) (fs := [.null, .null]) hR jc_Tree jq_126 jq_50 jq_24 jd_Merger_init_5 (by decide +kernel) (by omega) (by omega) rfl (fun μ h1 f9 => ?_)
  have h0 := (f9 _ (by omega)).trans h0
  have hF := jw_Fr.step hF f9 (by omega)
  refine jw_dup (pc' := 9) jd_Merger_init_8 rfl rfl ?_
  refine jw_callI (pc' := 12) hR (bt_init h1) jm_Tree_init jq_127 jd_Merger_init_9 rfl rfl (Nat.le_of_ble_eq_true rfl) (by omega) (by decide) (by omega) (by omega) rfl (fun v μ s9 q9 hle => ?_)
  obtain ⟨rfl, rfl, hT, f9⟩ := q9
  have hF := hF.trans f9 (by omega) (by omega)
  have h0 := (f9 _ (by omega)).trans h0
  refine jw_putF (pc' := 15) (kf := 0) (ty := (.object "Branchwork$Tree")) (fs' := [_, _, _, _, _, _, _]) jc_Merger (by decide) jq_207 jd_Merger_init_12 rfl rfl rfl (by decide +kernel) (by assumption) rfl rfl rfl (Nat.le_of_ble_eq_true rfl) rfl (fun μ h0 f9 => ?_)
  have hF := jw_Fr.step hF f9 (by omega)
  have hT := hT.fr (jw_Fr.o f9) (by omega)
  refine jw_aload_n (pc' := 16) jd_Merger_init_15 rfl rfl rfl ?_
  refine jw_new (pc' := 19) (fs := [.null, .null, .int 0]) hR jc_Conflicts jq_128 jq_129 jq_28 jd_Merger_init_16 (by decide +kernel) (by omega) (by omega) rfl (fun μ h1 f9 => ?_)
  have h0 := (f9 _ (by omega)).trans h0
  have hF := jw_Fr.step hF f9 (by omega)
  have hT := hT.fr (jw_Fr.o f9) (by omega)
  refine jw_dup (pc' := 20) jd_Merger_init_19 rfl rfl ?_
  refine jw_callIN (pc' := 23) hR (bk_init h1) jm_Conflicts_init jn_Merger_20 jd_Merger_init_20 rfl rfl (Nat.le_of_ble_eq_true rfl) (by omega) (by decide) (by omega) (by omega) rfl (fun v μ s9 q9 hle => ?_)
  obtain ⟨rfl, rfl, hK, f9⟩ := q9
  have hF := hF.trans f9 (by omega) (by omega)
  have h0 := (f9 _ (by omega)).trans h0
  have hT := hT.fr f9 (by omega)
  refine jw_putF (pc' := 26) (kf := 1) (ty := (.object "Branchwork$Conflicts")) (fs' := [_, _, _, _, _, _, _]) jc_Merger (by decide) jq_208 jd_Merger_init_23 rfl rfl rfl (by decide +kernel) (by assumption) rfl rfl rfl (Nat.le_of_ble_eq_true rfl) rfl (fun μ h0 f9 => ?_)
  have hF := jw_Fr.step hF f9 (by omega)
  have hT := hT.fr (jw_Fr.o f9) (by omega)
  have hK := hK.fr (jw_Fr.o f9) (by omega)
  refine jw_aload_n (pc' := 27) jd_Merger_init_26 rfl rfl rfl ?_
  refine jw_new (pc' := 30) (fs := [.null, .null, .null, .int 0]) hR jc_Renames jq_144 jq_145 jq_29 jd_Merger_init_27 (by decide +kernel) (by omega) (by omega) rfl (fun μ h1 f9 => ?_)
  have h0 := (f9 _ (by omega)).trans h0
  have hF := jw_Fr.step hF f9 (by omega)
  have hT := hT.fr (jw_Fr.o f9) (by omega)
  have hK := hK.fr (jw_Fr.o f9) (by omega)
  refine jw_dup (pc' := 31) jd_Merger_init_30 rfl rfl ?_
  refine jw_callIN (pc' := 34) hR (bn_init h1) jm_Renames_init jn_Merger_27 jd_Merger_init_31 rfl rfl (Nat.le_of_ble_eq_true rfl) (by omega) (by decide) (by omega) (by omega) rfl (fun v μ s9 q9 hle => ?_)
  obtain ⟨rfl, rfl, hN1, f9⟩ := q9
  have hF := hF.trans f9 (by omega) (by omega)
  have h0 := (f9 _ (by omega)).trans h0
  have hT := hT.fr f9 (by omega)
  have hK := hK.fr f9 (by omega)
  refine jw_putF (pc' := 37) (kf := 2) (ty := (.object "Branchwork$Renames")) (fs' := [_, _, _, _, _, _, _]) jc_Merger (by decide) jq_209 jd_Merger_init_34 rfl rfl rfl (by decide +kernel) (by assumption) rfl rfl rfl (Nat.le_of_ble_eq_true rfl) rfl (fun μ h0 f9 => ?_)
  have hF := jw_Fr.step hF f9 (by omega)
  have hT := hT.fr (jw_Fr.o f9) (by omega)
  have hK := hK.fr (jw_Fr.o f9) (by omega)
  have hN1 := hN1.fr (jw_Fr.o f9) (by omega)
  refine jw_aload_n (pc' := 38) jd_Merger_init_37 rfl rfl rfl ?_
  refine jw_new (pc' := 41) (fs := [.null, .null, .null, .int 0]) hR jc_Renames jq_144 jq_145 jq_29 jd_Merger_init_38 (by decide +kernel) (by omega) (by omega) rfl (fun μ h1 f9 => ?_)
  have h0 := (f9 _ (by omega)).trans h0
  have hF := jw_Fr.step hF f9 (by omega)
  have hT := hT.fr (jw_Fr.o f9) (by omega)
  have hK := hK.fr (jw_Fr.o f9) (by omega)
  have hN1 := hN1.fr (jw_Fr.o f9) (by omega)
  refine jw_dup (pc' := 42) jd_Merger_init_41 rfl rfl ?_
  refine jw_callIN (pc' := 45) hR (bn_init h1) jm_Renames_init jn_Merger_27 jd_Merger_init_42 rfl rfl (Nat.le_of_ble_eq_true rfl) (by omega) (by decide) (by omega) (by omega) rfl (fun v μ s9 q9 hle => ?_)
  obtain ⟨rfl, rfl, hN2, f9⟩ := q9
  have hF := hF.trans f9 (by omega) (by omega)
  have h0 := (f9 _ (by omega)).trans h0
  have hT := hT.fr f9 (by omega)
  have hK := hK.fr f9 (by omega)
  have hN1 := hN1.fr f9 (by omega)
  refine jw_putF (pc' := 48) (kf := 3) (ty := (.object "Branchwork$Renames")) (fs' := [_, _, _, _, _, _, _]) jc_Merger (by decide) jq_210 jd_Merger_init_45 rfl rfl rfl (by decide +kernel) (by assumption) rfl rfl rfl (Nat.le_of_ble_eq_true rfl) rfl (fun μ h0 f9 => ?_)
  have hF := jw_Fr.step hF f9 (by omega)
  have hT := hT.fr (jw_Fr.o f9) (by omega)
  have hK := hK.fr (jw_Fr.o f9) (by omega)
  have hN1 := hN1.fr (jw_Fr.o f9) (by omega)
  have hN2 := hN2.fr (jw_Fr.o f9) (by omega)
  refine jw_aload_n (pc' := 49) jd_Merger_init_48 rfl rfl rfl ?_
  refine jw_new (pc' := 52) (fs := [.null, .null, .null, .null, .null]) hR jc_Blender jq_179 jq_180 jq_31 jd_Merger_init_49 (by decide +kernel) (by omega) (by omega) rfl (fun μ h1 f9 => ?_)
  have h0 := (f9 _ (by omega)).trans h0
  have hF := jw_Fr.step hF f9 (by omega)
  have hT := hT.fr (jw_Fr.o f9) (by omega)
  have hK := hK.fr (jw_Fr.o f9) (by omega)
  have hN1 := hN1.fr (jw_Fr.o f9) (by omega)
  have hN2 := hN2.fr (jw_Fr.o f9) (by omega)
  refine jw_dup (pc' := 53) jd_Merger_init_52 rfl rfl ?_
  refine jw_callIN (pc' := 56) hR (bb_init h1) jm_Blender_init jn_Merger_37 jd_Merger_init_53 rfl rfl (Nat.le_of_ble_eq_true rfl) (by omega) (by decide) (by omega) (by omega) rfl (fun v μ s9 q9 hle => ?_)
  obtain ⟨rfl, rfl, hB, f9⟩ := q9
  have hF := hF.trans f9 (by omega) (by omega)
  have h0 := (f9 _ (by omega)).trans h0
  have hT := hT.fr f9 (by omega)
  have hK := hK.fr f9 (by omega)
  have hN1 := hN1.fr f9 (by omega)
  have hN2 := hN2.fr f9 (by omega)
  refine jw_putF (pc' := 59) (kf := 4) (ty := (.object "Branchwork$Blender")) (fs' := [_, _, _, _, _, _, _]) jc_Merger (by decide) jq_211 jd_Merger_init_56 rfl rfl rfl (by decide +kernel) (by assumption) rfl rfl rfl (Nat.le_of_ble_eq_true rfl) rfl (fun μ h0 f9 => ?_)
  have hF := jw_Fr.step hF f9 (by omega)
  have hT := hT.fr (jw_Fr.o f9) (by omega)
  have hK := hK.fr (jw_Fr.o f9) (by omega)
  have hN1 := hN1.fr (jw_Fr.o f9) (by omega)
  have hN2 := hN2.fr (jw_Fr.o f9) (by omega)
  have hB := hB.fr (jw_Fr.o f9) (by omega)
  refine jw_aload_n (pc' := 60) jd_Merger_init_59 rfl rfl rfl ?_
  refine jw_new (pc' := 63) (fs := [.null, .int 0, .int 0]) hR jc_Content jq_205 jq_57 jq_25 jd_Merger_init_60 (by decide +kernel) (by omega) (by omega) rfl (fun μ h1 f9 => ?_)
  have h0 := (f9 _ (by omega)).trans h0
  have hF := jw_Fr.step hF f9 (by omega)
  have hT := hT.fr (jw_Fr.o f9) (by omega)
  have hK := hK.fr (jw_Fr.o f9) (by omega)
  have hN1 := hN1.fr (jw_Fr.o f9) (by omega)
  have hN2 := hN2.fr (jw_Fr.o f9) (by omega)
  have hB := hB.fr (jw_Fr.o f9) (by omega)
  refine jw_dup (pc' := 64) jd_Merger_init_63 rfl rfl ?_
  refine jw_callIN (pc' := 67) hR (bc_init h1) jm_Content_init jn_Merger_44 jd_Merger_init_64 rfl rfl (Nat.le_of_ble_eq_true rfl) (by omega) (by decide) (by omega) (by omega) rfl (fun v μ s9 q9 hle => ?_)
  obtain ⟨rfl, rfl, hC, f9⟩ := q9
  have hF := hF.trans f9 (by omega) (by omega)
  have h0 := (f9 _ (by omega)).trans h0
  have hT := hT.fr f9 (by omega)
  have hK := hK.fr f9 (by omega)
  have hN1 := hN1.fr f9 (by omega)
  have hN2 := hN2.fr f9 (by omega)
  have hB := hB.fr f9 (by omega)
  refine jw_putF (pc' := 70) (kf := 5) (ty := (.object "Branchwork$Content")) (fs' := [_, _, _, _, _, _, _]) jc_Merger (by decide) jq_212 jd_Merger_init_67 rfl rfl rfl (by decide +kernel) (by assumption) rfl rfl rfl (Nat.le_of_ble_eq_true rfl) rfl (fun μ h0 f9 => ?_)
  have hF := jw_Fr.step hF f9 (by omega)
  have hT := hT.fr (jw_Fr.o f9) (by omega)
  have hK := hK.fr (jw_Fr.o f9) (by omega)
  have hN1 := hN1.fr (jw_Fr.o f9) (by omega)
  have hN2 := hN2.fr (jw_Fr.o f9) (by omega)
  have hB := hB.fr (jw_Fr.o f9) (by omega)
  have hC := hC.fr (jw_Fr.o f9) (by omega)
  refine jw_aload_n (pc' := 71) jd_Merger_init_70 rfl rfl rfl ?_
  refine jw_bipush (pc' := 73) (v := nI 12) jd_Merger_init_71 (by decide +kernel) rfl ?_
  refine jw_newa (pc' := 75) (N := 12) (i := 1) (a0 := (12, .inl (fun _ => 0))) (ty := .boolean) (atype := .boolean) hR jq_229 rfl rfl jd_Merger_init_73 (fun _ => rfl) (by decide +kernel) (by decide +kernel) (by decide +kernel) (by omega) (by omega) rfl (fun μ h2 f9 => ?_)
  have h0 := (f9 _ (by omega)).trans h0
  have hF := jw_Fr.step hF f9 (by omega)
  have hT := hT.fr (jw_Fr.o f9) (by omega)
  have hK := hK.fr (jw_Fr.o f9) (by omega)
  have hN1 := hN1.fr (jw_Fr.o f9) (by omega)
  have hN2 := hN2.fr (jw_Fr.o f9) (by omega)
  have hB := hB.fr (jw_Fr.o f9) (by omega)
  have hC := hC.fr (jw_Fr.o f9) (by omega)
  refine jw_putF (pc' := 78) (kf := 6) (ty := (.array .boolean)) (fs' := [_, _, _, _, _, _, _]) jc_Merger (by decide) jq_213 jd_Merger_init_75 rfl rfl rfl (by decide +kernel) (by assumption) rfl rfl rfl (Nat.le_of_ble_eq_true rfl) rfl (fun μ h0 f9 => ?_)
  have h2 := (f9 _ (by omega)).trans h2
  have hF := jw_Fr.step hF f9 (by omega)
  have hT := hT.fr (jw_Fr.o f9) (by omega)
  have hK := hK.fr (jw_Fr.o f9) (by omega)
  have hN1 := hN1.fr (jw_Fr.o f9) (by omega)
  have hN2 := hN2.fr (jw_Fr.o f9) (by omega)
  have hB := hB.fr (jw_Fr.o f9) (by omega)
  have hC := hC.fr (jw_Fr.o f9) (by omega)
  refine jw_vret hE jd_Merger_init_78 rfl (by omega) (by omega) ?_
  exact ⟨rfl, rfl, ⟨h0, hT, hK, ⟨_, _, _, hN1⟩, ⟨_, _, _, hN2⟩, hB, hC, ⟨_, h2⟩⟩, hF⟩
end
/-- a History's 876 cells -/
def bh_At (o : jw_O) (μ : jw_Mem) (h : Nat) (N : Nat → Nat → Nat) (Z : Nat → Nat → Int32) (G : Nat → Nat → Nat → Int32) (nt f1 f2 tn cn : Nat → Int32) (c kp : Int32) : Prop :=
  μ h = some (.inr (7, [.ref (h + 1), .ref (h + 2), .ref (h + 30), .ref (h + 31), .ref (h + 32), .ref (h + 33), .ref (h + 34), .ref (h + 35), .int c, .int kp])) ∧ (∃ F : Nat → Option Nat, μ (h + 1) = some (.inl (o.2.2.1 3, 30, .inr (.inr (.inr (.inr F))))) ∧ ∀ i, i < 30 → F i = some (h + 36 + 28 * i)) ∧ bt_At o μ (h + 2) (fun _ => 0) (fun _ => 0) (fun _ _ => 0) ∧ bi_At o μ (h + 30) 30 nt ∧ bi_At o μ (h + 31) 30 f1 ∧ bi_At o μ (h + 32) 30 f2 ∧ bi_At o μ (h + 33) 30 tn ∧ bi_At o μ (h + 34) 360 cn ∧ (∃ f, bi_At o μ (h + 35) 360 f) ∧ ∀ i, i < 30 → bt_At o μ (h + 36 + 28 * i) (N i) (Z i) (G i)
theorem bh_At.fr {o : jw_O} {μ μ' : jw_Mem} {h b m : Nat} {N : Nat → Nat → Nat} {Z : Nat → Nat → Int32} {G : Nat → Nat → Nat → Int32} {nt f1 f2 tn cn : Nat → Int32} {c kp : Int32} (x : bh_At o μ h N Z G nt f1 f2 tn cn c kp) (q : jw_Fr μ μ' b m) (hd : h + 876 ≤ b ∨ b + m ≤ h) : bh_At o μ' h N Z G nt f1 f2 tn cn c kp := by
  obtain ⟨x1, ⟨F, x2, x3⟩, x4, x5, x6, x7, x8, x9, ⟨e, x10⟩, x11⟩ := x
  exact ⟨(q _ (by omega)).trans x1, ⟨F, (q _ (by omega)).trans x2, x3⟩, x4.fr q (by omega), x5.fr q (by omega), x6.fr q (by omega), x7.fr q (by omega), x8.fr q (by omega), x9.fr q (by omega), ⟨e, x10.fr q (by omega)⟩, fun i hi => (x11 i hi).fr q (by omega)⟩
section
variable {o : jw_O} {μ : jw_Mem} {hs a : Nat}
theorem bi_fill {n : Nat} {f : Nat → Int32} {v : Int32} (h : bi_At o μ a n f) (hn : n < 2 ^ 31) : jw_Spec mi_Arrays_fill 0 0 0 o [.ref a, .int v] μ hs (fun r μ' s' => r = none ∧ s' = hs ∧ (∃ f', bi_At o μ' a n f' ∧ ∀ j, j < n → f' j = v) ∧ jw_Fr μ μ' a 1) := by
  refine jw_spec (by decide +kernel) (Nat.le_of_ble_eq_true rfl) rfl (fun k hR hE => ?_)
  have ha : μ a = some (.inl (o.2.2.1 0, n, .inl f)) := h
  obtain ⟨μ0, hμ0⟩ : ∃ z, z = μ := ⟨_, rfl⟩
  have hF : jw_Fr μ0 μ a 1 := by rw [hμ0]; exact jw_Fr.rf
  refine jw_iconst (pc' := 1) (v := nI 0) jd_Arrays_fill_0 (by decide +kernel) rfl ?_
  refine jw_istore_n (pc' := 2) (lc' := [(0, _), (1, _), (2, _)]) jd_Arrays_fill_1 rfl (Nat.le_of_ble_eq_true rfl) ⟨rfl, rfl, rfl, trivial⟩ rfl ?_
  refine jw_aload_n (pc' := 3) jd_Arrays_fill_2 rfl rfl rfl ?_
  refine jw_alen (pc' := 4) (i := 0) jd_Arrays_fill_3 (by assumption) rfl rfl rfl ?_
  refine jw_istore_n (pc' := 5) (lc' := [(0, _), (1, _), (2, _), (3, _)]) jd_Arrays_fill_4 rfl (Nat.le_of_ble_eq_true rfl) ⟨rfl, rfl, rfl, rfl, trivial⟩ rfl ?_
  have loop : ∀ d i : Nat, i + d = n → ∀ (μ : jw_Mem) (f : Nat → Int32), μ a = some (.inl (o.2.2.1 0, n, .inl f)) → (∀ j, j < i → f j = v) → jw_Fr μ0 μ a 1 → jw_X mi_Arrays_fill o k 0 0 5 [(0, .ref a), (1, .int v), (2, .int (nI i)), (3, .int (nI n))] [] μ hs := by
    intro d
    induction d with
    | zero =>
      intro i hi μ f ha hf hF
      refine jw_iload_n (pc' := 6) jd_Arrays_fill_5 rfl rfl rfl ?_
      refine jw_iload_n (pc' := 7) jd_Arrays_fill_6 rfl rfl rfl ?_
      refine jw_icmp_ge (tgt := 20) (pc' := 10) jd_Arrays_fill_7 (by decide) rfl (fun c => ?_) (fun c => ?_)
      · refine jw_vret hE jd_Arrays_fill_20 rfl (by omega) (by omega) ?_
        exact ⟨rfl, rfl, ⟨f, ha, fun j hj => hf j (by omega)⟩, hμ0 ▸ hF⟩
      · exact absurd (nI_le (by omega) (by omega)) c
    | succ d ih =>
      intro i hi μ f ha hf hF
      refine jw_iload_n (pc' := 6) jd_Arrays_fill_5 rfl rfl rfl ?_
      refine jw_iload_n (pc' := 7) jd_Arrays_fill_6 rfl rfl rfl ?_
      refine jw_icmp_ge (tgt := 20) (pc' := 10) jd_Arrays_fill_7 (by decide) rfl (fun c => ?_) (fun c => ?_)
      · exact absurd ((nI_leI (by omega) (by omega)).mp c) (by omega)
      refine jw_aload_n (pc' := 11) jd_Arrays_fill_10 rfl rfl rfl ?_
      refine jw_iload_n (pc' := 12) jd_Arrays_fill_11 rfl rfl rfl ?_
      refine jw_iload_n (pc' := 13) jd_Arrays_fill_12 rfl rfl rfl ?_
      refine jw_iast (pc' := 14) (i := 0) jd_Arrays_fill_13 (by assumption) rfl (vp_in_nI (by omega) (by omega)) rfl (fun μ ha f9 => ?_)
      have hF := jw_Fr.step hF f9 (by omega)
      refine jw_iinc (pc' := 17) (lc' := [(0, _), (1, _), (2, _), (3, _)]) jd_Arrays_fill_14 rfl (nI_1 _) (Nat.le_of_ble_eq_true rfl) ⟨rfl, rfl, rfl, rfl, trivial⟩ rfl ?_
      refine jw_goto (tgt := 5) jd_Arrays_fill_17 (by decide) ?_
      refine ih (i + 1) (by omega) _ _ ha (fun j hj => ?_) hF
      rw [nI_clamp (by omega)]
      by_cases e : j = i
      · rw [e]; exact pk_us
      · rw [pk_un e]; exact hf j (by omega)
  exact loop n 0 (by omega) μ f ha (fun j hj => absurd hj (by omega)) hF
theorem bh_init {x1 x2 x3 x4 x5 x6 x7 x8 : Value} {c kp : Int32} (h0 : μ a = some (.inr (7, [x1, x2, x3, x4, x5, x6, x7, x8, .int c, .int kp]))) : jw_Spec mi_History_init 3 875 6543 o [.ref a] μ (a + 1) (fun v μ' s' => v = none ∧ s' = a + 876 ∧ bh_At o μ' a (fun _ _ => 0) (fun _ _ => 0) (fun _ _ _ => 0) (fun _ => 0) (fun _ => 0) (fun _ => 0) (fun _ => 0) (fun _ => 0) 0 0 ∧ jw_Fr μ μ' a 876) := by
  refine jw_spec (by decide +kernel) (Nat.le_of_ble_eq_true rfl) rfl (fun k hR hE => ?_)
  obtain ⟨μ0, hμ0⟩ : ∃ z, z = μ := ⟨_, rfl⟩
  have hF : jw_Fr μ0 μ a 876 := by rw [hμ0]; exact jw_Fr.rf
  refine jw_aload_n (pc' := 1) jd_History_init_0 rfl rfl rfl ?_
  refine jw_objInit (pc' := 4) hR jq_85 jd_History_init_1 (Nat.le_of_ble_eq_true rfl) (by omega) rfl ?_
  refine jw_aload_n (pc' := 5) jd_History_init_4 rfl rfl rfl ?_
  refine jw_bipush (pc' := 7) (v := nI 30) jd_History_init_5 (by decide +kernel) rfl ?_
  refine jw_newq (pc' := 10) (N := 30) (i := 3) (C := "Branchwork$Tree") hR jq_86 (by decide +kernel) rfl jd_History_init_7 (by decide +kernel) (by decide +kernel) (by decide +kernel) (by omega) (by omega) rfl (fun μ h1 f9 => ?_)
  have h0 := (f9 _ (by omega)).trans h0
  have hF := jw_Fr.step hF f9 (by omega)
  refine jw_putF (pc' := 13) (kf := 0) (ty := (.array (.object "Branchwork$Tree"))) (fs' := [_, _, _, _, _, _, _, _, _, _]) jc_History (by decide) jq_89 jd_History_init_10 rfl rfl rfl (by decide +kernel) (by assumption) rfl rfl rfl (Nat.le_of_ble_eq_true rfl) rfl (fun μ h0 f9 => ?_)
  have h1 := (f9 _ (by omega)).trans h1
  have hF := jw_Fr.step hF f9 (by omega)
  refine jw_aload_n (pc' := 14) jd_History_init_13 rfl rfl rfl ?_
  refine jw_new (pc' := 17) (fs := [.null, .null]) hR jc_Tree jq_86 jq_50 jq_24 jd_History_init_14 (by decide +kernel) (by omega) (by omega) rfl (fun μ hc f9 => ?_)
  have h0 := (f9 _ (by omega)).trans h0
  have h1 := (f9 _ (by omega)).trans h1
  have hF := jw_Fr.step hF f9 (by omega)
  refine jw_dup (pc' := 18) jd_History_init_17 rfl rfl ?_
  refine jw_callI (pc' := 21) hR (bt_init hc) jm_Tree_init jq_88 jd_History_init_18 rfl rfl (Nat.le_of_ble_eq_true rfl) (by omega) (by decide) (by omega) (by omega) rfl (fun v μ s9 q9 hle => ?_)
  obtain ⟨rfl, rfl, hT, f9⟩ := q9
  have hF := hF.trans f9 (by omega) (by omega)
  have h0 := (f9 _ (by omega)).trans h0
  have h1 := (f9 _ (by omega)).trans h1
  refine jw_putF (pc' := 24) (kf := 1) (ty := (.object "Branchwork$Tree")) (fs' := [_, _, _, _, _, _, _, _, _, _]) jc_History (by decide) jq_90 jd_History_init_21 rfl rfl rfl (by decide +kernel) (by assumption) rfl rfl rfl (Nat.le_of_ble_eq_true rfl) rfl (fun μ h0 f9 => ?_)
  have h1 := (f9 _ (by omega)).trans h1
  have hF := jw_Fr.step hF f9 (by omega)
  have hT := hT.fr (jw_Fr.o f9) (by omega)
  refine jw_aload_n (pc' := 25) jd_History_init_24 rfl rfl rfl ?_
  refine jw_bipush (pc' := 27) (v := nI 30) jd_History_init_25 (by decide +kernel) rfl ?_
  refine jw_newa (pc' := 29) (N := 30) (i := 0) (a0 := (30, .inl (fun _ => 0))) (ty := .int) (atype := .int) hR jq_72 rfl rfl jd_History_init_27 (fun _ => rfl) (by decide +kernel) (by decide +kernel) (by decide +kernel) (by omega) (by omega) rfl (fun μ a1 f9 => ?_)
  have h0 := (f9 _ (by omega)).trans h0
  have h1 := (f9 _ (by omega)).trans h1
  have hF := jw_Fr.step hF f9 (by omega)
  have hT := hT.fr (jw_Fr.o f9) (by omega)
  refine jw_putF (pc' := 32) (kf := 2) (ty := (.array .int)) (fs' := [_, _, _, _, _, _, _, _, _, _]) jc_History (by decide) jq_91 jd_History_init_29 rfl rfl rfl (by decide +kernel) (by assumption) rfl rfl rfl (Nat.le_of_ble_eq_true rfl) rfl (fun μ h0 f9 => ?_)
  have h1 := (f9 _ (by omega)).trans h1
  have a1 := (f9 _ (by omega)).trans a1
  have hF := jw_Fr.step hF f9 (by omega)
  have hT := hT.fr (jw_Fr.o f9) (by omega)
  refine jw_aload_n (pc' := 33) jd_History_init_32 rfl rfl rfl ?_
  refine jw_bipush (pc' := 35) (v := nI 30) jd_History_init_33 (by decide +kernel) rfl ?_
  refine jw_newa (pc' := 37) (N := 30) (i := 0) (a0 := (30, .inl (fun _ => 0))) (ty := .int) (atype := .int) hR jq_72 rfl rfl jd_History_init_35 (fun _ => rfl) (by decide +kernel) (by decide +kernel) (by decide +kernel) (by omega) (by omega) rfl (fun μ a2 f9 => ?_)
  have h0 := (f9 _ (by omega)).trans h0
  have h1 := (f9 _ (by omega)).trans h1
  have a1 := (f9 _ (by omega)).trans a1
  have hF := jw_Fr.step hF f9 (by omega)
  have hT := hT.fr (jw_Fr.o f9) (by omega)
  refine jw_putF (pc' := 40) (kf := 3) (ty := (.array .int)) (fs' := [_, _, _, _, _, _, _, _, _, _]) jc_History (by decide) jq_92 jd_History_init_37 rfl rfl rfl (by decide +kernel) (by assumption) rfl rfl rfl (Nat.le_of_ble_eq_true rfl) rfl (fun μ h0 f9 => ?_)
  have h1 := (f9 _ (by omega)).trans h1
  have a1 := (f9 _ (by omega)).trans a1
  have a2 := (f9 _ (by omega)).trans a2
  have hF := jw_Fr.step hF f9 (by omega)
  have hT := hT.fr (jw_Fr.o f9) (by omega)
  refine jw_aload_n (pc' := 41) jd_History_init_40 rfl rfl rfl ?_
  refine jw_bipush (pc' := 43) (v := nI 30) jd_History_init_41 (by decide +kernel) rfl ?_
  refine jw_newa (pc' := 45) (N := 30) (i := 0) (a0 := (30, .inl (fun _ => 0))) (ty := .int) (atype := .int) hR jq_72 rfl rfl jd_History_init_43 (fun _ => rfl) (by decide +kernel) (by decide +kernel) (by decide +kernel) (by omega) (by omega) rfl (fun μ a3 f9 => ?_)
  have h0 := (f9 _ (by omega)).trans h0
  have h1 := (f9 _ (by omega)).trans h1
  have a1 := (f9 _ (by omega)).trans a1
  have a2 := (f9 _ (by omega)).trans a2
  have hF := jw_Fr.step hF f9 (by omega)
  have hT := hT.fr (jw_Fr.o f9) (by omega)
  refine jw_putF (pc' := 48) (kf := 4) (ty := (.array .int)) (fs' := [_, _, _, _, _, _, _, _, _, _]) jc_History (by decide) jq_93 jd_History_init_45 rfl rfl rfl (by decide +kernel) (by assumption) rfl rfl rfl (Nat.le_of_ble_eq_true rfl) rfl (fun μ h0 f9 => ?_)
  have h1 := (f9 _ (by omega)).trans h1
  have a1 := (f9 _ (by omega)).trans a1
  have a2 := (f9 _ (by omega)).trans a2
  have a3 := (f9 _ (by omega)).trans a3
  have hF := jw_Fr.step hF f9 (by omega)
  have hT := hT.fr (jw_Fr.o f9) (by omega)
  refine jw_aload_n (pc' := 49) jd_History_init_48 rfl rfl rfl ?_
  refine jw_bipush (pc' := 51) (v := nI 30) jd_History_init_49 (by decide +kernel) rfl ?_
  refine jw_newa (pc' := 53) (N := 30) (i := 0) (a0 := (30, .inl (fun _ => 0))) (ty := .int) (atype := .int) hR jq_72 rfl rfl jd_History_init_51 (fun _ => rfl) (by decide +kernel) (by decide +kernel) (by decide +kernel) (by omega) (by omega) rfl (fun μ a4 f9 => ?_)
  have h0 := (f9 _ (by omega)).trans h0
  have h1 := (f9 _ (by omega)).trans h1
  have a1 := (f9 _ (by omega)).trans a1
  have a2 := (f9 _ (by omega)).trans a2
  have a3 := (f9 _ (by omega)).trans a3
  have hF := jw_Fr.step hF f9 (by omega)
  have hT := hT.fr (jw_Fr.o f9) (by omega)
  refine jw_putF (pc' := 56) (kf := 5) (ty := (.array .int)) (fs' := [_, _, _, _, _, _, _, _, _, _]) jc_History (by decide) jq_94 jd_History_init_53 rfl rfl rfl (by decide +kernel) (by assumption) rfl rfl rfl (Nat.le_of_ble_eq_true rfl) rfl (fun μ h0 f9 => ?_)
  have h1 := (f9 _ (by omega)).trans h1
  have a1 := (f9 _ (by omega)).trans a1
  have a2 := (f9 _ (by omega)).trans a2
  have a3 := (f9 _ (by omega)).trans a3
  have a4 := (f9 _ (by omega)).trans a4
  have hF := jw_Fr.step hF f9 (by omega)
  have hT := hT.fr (jw_Fr.o f9) (by omega)
  refine jw_aload_n (pc' := 57) jd_History_init_56 rfl rfl rfl ?_
  refine jw_sipush (pc' := 60) (v := nI 360) jd_History_init_57 (by decide +kernel) rfl ?_
  refine jw_newa (pc' := 62) (N := 360) (i := 0) (a0 := (360, .inl (fun _ => 0))) (ty := .int) (atype := .int) hR jq_72 rfl rfl jd_History_init_60 (fun _ => rfl) (by decide +kernel) (by decide +kernel) (by decide +kernel) (by omega) (by omega) rfl (fun μ a5 f9 => ?_)
  have h0 := (f9 _ (by omega)).trans h0
  have h1 := (f9 _ (by omega)).trans h1
  have a1 := (f9 _ (by omega)).trans a1
  have a2 := (f9 _ (by omega)).trans a2
  have a3 := (f9 _ (by omega)).trans a3
  have a4 := (f9 _ (by omega)).trans a4
  have hF := jw_Fr.step hF f9 (by omega)
  have hT := hT.fr (jw_Fr.o f9) (by omega)
  refine jw_putF (pc' := 65) (kf := 6) (ty := (.array .int)) (fs' := [_, _, _, _, _, _, _, _, _, _]) jc_History (by decide) jq_95 jd_History_init_62 rfl rfl rfl (by decide +kernel) (by assumption) rfl rfl rfl (Nat.le_of_ble_eq_true rfl) rfl (fun μ h0 f9 => ?_)
  have h1 := (f9 _ (by omega)).trans h1
  have a1 := (f9 _ (by omega)).trans a1
  have a2 := (f9 _ (by omega)).trans a2
  have a3 := (f9 _ (by omega)).trans a3
  have a4 := (f9 _ (by omega)).trans a4
  have a5 := (f9 _ (by omega)).trans a5
  have hF := jw_Fr.step hF f9 (by omega)
  have hT := hT.fr (jw_Fr.o f9) (by omega)
  refine jw_aload_n (pc' := 66) jd_History_init_65 rfl rfl rfl ?_
  refine jw_sipush (pc' := 69) (v := nI 360) jd_History_init_66 (by decide +kernel) rfl ?_
  refine jw_newa (pc' := 71) (N := 360) (i := 0) (a0 := (360, .inl (fun _ => 0))) (ty := .int) (atype := .int) hR jq_72 rfl rfl jd_History_init_69 (fun _ => rfl) (by decide +kernel) (by decide +kernel) (by decide +kernel) (by omega) (by omega) rfl (fun μ a6 f9 => ?_)
  have h0 := (f9 _ (by omega)).trans h0
  have h1 := (f9 _ (by omega)).trans h1
  have a1 := (f9 _ (by omega)).trans a1
  have a2 := (f9 _ (by omega)).trans a2
  have a3 := (f9 _ (by omega)).trans a3
  have a4 := (f9 _ (by omega)).trans a4
  have a5 := (f9 _ (by omega)).trans a5
  have hF := jw_Fr.step hF f9 (by omega)
  have hT := hT.fr (jw_Fr.o f9) (by omega)
  refine jw_putF (pc' := 74) (kf := 7) (ty := (.array .int)) (fs' := [_, _, _, _, _, _, _, _, _, _]) jc_History (by decide) jq_96 jd_History_init_71 rfl rfl rfl (by decide +kernel) (by assumption) rfl rfl rfl (Nat.le_of_ble_eq_true rfl) rfl (fun μ h0 f9 => ?_)
  have h1 := (f9 _ (by omega)).trans h1
  have a1 := (f9 _ (by omega)).trans a1
  have a2 := (f9 _ (by omega)).trans a2
  have a3 := (f9 _ (by omega)).trans a3
  have a4 := (f9 _ (by omega)).trans a4
  have a5 := (f9 _ (by omega)).trans a5
  have a6 := (f9 _ (by omega)).trans a6
  have hF := jw_Fr.step hF f9 (by omega)
  have hT := hT.fr (jw_Fr.o f9) (by omega)
  refine jw_aload_n (pc' := 75) jd_History_init_74 rfl rfl rfl ?_
  refine jw_iconst (pc' := 76) (v := nI 0) jd_History_init_75 (by decide +kernel) rfl ?_
  refine jw_put (pc' := 79) (kf := 8) (ty := .int) (fs' := [_, _, _, _, _, _, _, _, _, _]) jc_History (by decide) jq_97 jd_History_init_76 rfl (by decide +kernel) (by assumption) rfl rfl rfl (Nat.le_of_ble_eq_true rfl) rfl (fun μ h0 f9 => ?_)
  have h1 := (f9 _ (by omega)).trans h1
  have a1 := (f9 _ (by omega)).trans a1
  have a2 := (f9 _ (by omega)).trans a2
  have a3 := (f9 _ (by omega)).trans a3
  have a4 := (f9 _ (by omega)).trans a4
  have a5 := (f9 _ (by omega)).trans a5
  have a6 := (f9 _ (by omega)).trans a6
  have hF := jw_Fr.step hF f9 (by omega)
  have hT := hT.fr (jw_Fr.o f9) (by omega)
  refine jw_aload_n (pc' := 80) jd_History_init_79 rfl rfl rfl ?_
  refine jw_iconst (pc' := 81) (v := nI 0) jd_History_init_80 (by decide +kernel) rfl ?_
  refine jw_put (pc' := 84) (kf := 9) (ty := .int) (fs' := [_, _, _, _, _, _, _, _, _, _]) jc_History (by decide) jq_98 jd_History_init_81 rfl (by decide +kernel) (by assumption) rfl rfl rfl (Nat.le_of_ble_eq_true rfl) rfl (fun μ h0 f9 => ?_)
  have h1 := (f9 _ (by omega)).trans h1
  have a1 := (f9 _ (by omega)).trans a1
  have a2 := (f9 _ (by omega)).trans a2
  have a3 := (f9 _ (by omega)).trans a3
  have a4 := (f9 _ (by omega)).trans a4
  have a5 := (f9 _ (by omega)).trans a5
  have a6 := (f9 _ (by omega)).trans a6
  have hF := jw_Fr.step hF f9 (by omega)
  have hT := hT.fr (jw_Fr.o f9) (by omega)
  refine jw_iconst (pc' := 85) (v := nI 0) jd_History_init_84 (by decide +kernel) rfl ?_
  refine jw_istore_n (pc' := 86) (lc' := [(0, _), (1, _)]) jd_History_init_85 rfl (Nat.le_of_ble_eq_true rfl) ⟨rfl, rfl, trivial⟩ rfl ?_
  have loop : ∀ d i : Nat, i + d = 30 → ∀ (μ : jw_Mem), jw_Fr μ0 μ a 876 → μ a = some (.inr (7, [.ref (a + 1), .ref (a + 2), .ref (a + 30), .ref (a + 31), .ref (a + 32), .ref (a + 33), .ref (a + 34), .ref (a + 35), .int 0, .int 0])) → (∃ F : Nat → Option Nat, μ (a + 1) = some (.inl (o.2.2.1 3, 30, .inr (.inr (.inr (.inr F))))) ∧ ∀ p, p < i → F p = some (a + 36 + 28 * p)) → bt_At o μ (a + 2) (fun _ => 0) (fun _ => 0) (fun _ _ => 0) → bi_At o μ (a + 30) 30 (fun _ => 0) → bi_At o μ (a + 31) 30 (fun _ => 0) → bi_At o μ (a + 32) 30 (fun _ => 0) → bi_At o μ (a + 33) 30 (fun _ => 0) → bi_At o μ (a + 34) 360 (fun _ => 0) → bi_At o μ (a + 35) 360 (fun _ => 0) → (∀ p, p < i → bt_At o μ (a + 36 + 28 * p) (fun _ => 0) (fun _ => 0) (fun _ _ => 0)) →
      jw_X mi_History_init o k (35 + 28 * i) (1053 + 183 * i) 86 [(0, .ref a), (1, .int (nI i))] [] μ (a + 36 + 28 * i) := by
    intro d
    induction d with
    | zero =>
      intro i hi μ hF h0 h1 hT b1 b2 b3 b4 b5 b6 hA
      obtain rfl : i = 30 := by omega
      obtain ⟨F, h1, hFp⟩ := h1
      refine jw_iload_n (pc' := 87) jd_History_init_86 rfl rfl rfl ?_
      refine jw_bipush (pc' := 89) (v := nI 30) jd_History_init_87 (by decide +kernel) rfl ?_
      refine jw_icmp_ge (tgt := 111) (pc' := 92) jd_History_init_89 (by decide) rfl (fun c => ?_) (fun c => ?_)
      · refine jw_vret hE jd_History_init_111 rfl (by omega) (by omega) ?_
        exact ⟨rfl, rfl, ⟨h0, ⟨F, h1, hFp⟩, hT, b1, b2, b3, b4, b5, ⟨_, b6⟩, hA⟩, hμ0 ▸ hF⟩
      · exact absurd (nI_le (by omega) (by omega)) c
    | succ d ih =>
      intro i hi μ hF h0 h1 hT b1 b2 b3 b4 b5 b6 hA
      obtain ⟨F, h1, hFp⟩ := h1
      obtain ⟨μ1, hμ1⟩ : ∃ z, z = μ := ⟨_, rfl⟩
      have hG : jw_Fr μ1 μ (a + 36 + 28 * i) 28 := by rw [hμ1]; exact jw_Fr.rf
      rw [← hμ1] at hA
      refine jw_iload_n (pc' := 87) jd_History_init_86 rfl rfl rfl ?_
      refine jw_bipush (pc' := 89) (v := nI 30) jd_History_init_87 (by decide +kernel) rfl ?_
      refine jw_icmp_ge (tgt := 111) (pc' := 92) jd_History_init_89 (by decide) rfl (fun c => ?_) (fun c => ?_)
      · exact absurd ((nI_leI (a := 30) (by omega) (by omega)).mp c) (by omega)
      refine jw_aload_n (pc' := 93) jd_History_init_92 rfl rfl rfl ?_
      refine jw_get (pc' := 96) (kf := 0) jc_History (by decide) jq_89 jd_History_init_93 (by assumption) rfl rfl ?_
      refine jw_iload_n (pc' := 97) jd_History_init_96 rfl rfl rfl ?_
      refine jw_new (pc' := 100) (fs := [.null, .null]) hR jc_Tree jq_86 jq_50 jq_24 jd_History_init_97 (by decide +kernel) (by omega) (by omega) rfl (fun μ hc f9 => ?_)
      have h0 := (f9 _ (by omega)).trans h0
      have h1 := (f9 _ (by omega)).trans h1
      have hF := jw_Fr.step hF f9 (by omega)
      have hT := hT.fr (jw_Fr.o f9) (by omega)
      have b1 := b1.fr (jw_Fr.o f9) (by omega)
      have b2 := b2.fr (jw_Fr.o f9) (by omega)
      have b3 := b3.fr (jw_Fr.o f9) (by omega)
      have b4 := b4.fr (jw_Fr.o f9) (by omega)
      have b5 := b5.fr (jw_Fr.o f9) (by omega)
      have b6 := b6.fr (jw_Fr.o f9) (by omega)
      refine jw_dup (pc' := 101) jd_History_init_100 rfl rfl ?_
      have hG := jw_Fr.step hG f9 (by omega)
      refine jw_callI (pc' := 104) hR (bt_init hc) jm_Tree_init jq_88 jd_History_init_101 rfl rfl (Nat.le_of_ble_eq_true rfl) (by omega) (by decide) (by omega) (by omega) rfl (fun v μ s9 q9 hle => ?_)
      obtain ⟨rfl, rfl, hD, f9⟩ := q9
      have hF := hF.trans f9 (by omega) (by omega)
      have h0 := (f9 _ (by omega)).trans h0
      have h1 := (f9 _ (by omega)).trans h1
      have hT := hT.fr f9 (by omega)
      have b1 := b1.fr f9 (by omega)
      have b2 := b2.fr f9 (by omega)
      have b3 := b3.fr f9 (by omega)
      have b4 := b4.fr f9 (by omega)
      have b5 := b5.fr f9 (by omega)
      have b6 := b6.fr f9 (by omega)
      have hG := hG.trans f9 (by omega) (by omega)
      have hc := hD.1
      refine jw_aast (pc' := 105) (i := 3) (ci := 1) (r := ("Branchwork$Tree", F_Tree, 2)) jd_History_init_104 (by assumption) rfl hc jc_Tree (vp_in_nI (by omega) (by omega)) rfl (fun μ h1 f9 => ?_)
      have hF := jw_Fr.step hF f9 (by omega)
      have h0 := (f9 _ (by omega)).trans h0
      have hT := hT.fr (jw_Fr.o f9) (by omega)
      have b1 := b1.fr (jw_Fr.o f9) (by omega)
      have b2 := b2.fr (jw_Fr.o f9) (by omega)
      have b3 := b3.fr (jw_Fr.o f9) (by omega)
      have b4 := b4.fr (jw_Fr.o f9) (by omega)
      have b5 := b5.fr (jw_Fr.o f9) (by omega)
      have b6 := b6.fr (jw_Fr.o f9) (by omega)
      refine jw_iinc (pc' := 108) (lc' := [(0, _), (1, _)]) jd_History_init_105 rfl (nI_1 _) (Nat.le_of_ble_eq_true rfl) ⟨rfl, rfl, trivial⟩ rfl ?_
      refine jw_goto (tgt := 86) jd_History_init_108 (by decide) ?_
      refine jw_cnt (kc' := 35 + 28 * (i + 1)) (ks' := 1053 + 183 * (i + 1)) (by omega) (by omega) ?_
      refine jw_hs (hs' := a + 36 + 28 * (i + 1)) (by omega) ?_
      have hD1 := hD.fr (jw_Fr.o f9) (by omega)
      refine ih (i + 1) (by omega) _ hF h0 ⟨_, h1, fun p hp => ?_⟩ hT b1 b2 b3 b4 b5 b6 (fun p hp => ?_)
      · rw [nI_clamp (by omega)]
        by_cases e : p = i
        · rw [e, va_up_self]
        · rw [va_up_ne _ _ e]; exact hFp p (by omega)
      · by_cases e : p = i
        · rw [e]; exact hD1
        · exact ((hA p (by omega)).fr hG (by omega)).fr (jw_Fr.o f9) (by omega)
  exact jw_hs (hs' := a + 36 + 28 * 0) (by omega) (loop 30 0 (by omega) _ hF h0 ⟨_, h1, fun p hp => absurd hp (by omega)⟩ hT a1 a2 a3 a4 a5 a6 (fun p hp => absurd hp (by omega)))
/-- the whole store as it is made -/
def bw_New (o : jw_O) (μ : jw_Mem) (b : Nat) : Prop :=
  μ b = some (.inr (8, [.ref (b + 1), .ref (b + 29), .ref (b + 905), .ref (b + 969), .ref (b + 972), .ref (b + 979), .ref (b + 983), .int 1, .int 0, .int (-1)])) ∧ bt_At o μ (b + 1) (fun _ => 0) (fun _ => 0) (fun _ _ => 0) ∧ bh_At o μ (b + 29) (fun _ _ => 0) (fun _ _ => 0) (fun _ _ _ => 0) (fun _ => 0) (fun _ => 0) (fun _ => 0) (fun _ => 0) (fun _ => 0) 0 0 ∧ bg_At o μ (b + 905) (fun _ => 0) (fun _ => 0) (fun _ _ => 0) 0 (fun _ => 0) (fun _ => 0) ∧ bk_At o μ (b + 969) 0 (fun _ => 0) (fun _ => 0) ∧ bn_At o μ (b + 972) (fun _ => 0) (fun _ => 0) 0 ∧ bm_At o μ (b + 979) ∧ ∃ f, bi_At o μ (b + 983) 5 f ∧ ∀ j, j < 5 → f j = -1
theorem bw_New.fr {o : jw_O} {μ μ' : jw_Mem} {h b m : Nat} (x : bw_New o μ h) (q : jw_Fr μ μ' b m) (hd : h + 984 ≤ b ∨ b + m ≤ h) : bw_New o μ' h := by
  obtain ⟨x1, x2, x3, x4, x5, x6, x7, ⟨f, x8, x9⟩⟩ := x
  exact ⟨(q _ (by omega)).trans x1, x2.fr q (by omega), x3.fr q (by omega), x4.fr q (by omega), x5.fr q (by omega), x6.fr q (by omega), x7.fr q (by omega), ⟨f, x8.fr q (by omega), x9⟩⟩
theorem bw_init {x1 x2 x3 x4 x5 x6 x7 : Value} {p q r : Int32} (h0 : μ a = some (.inr (8, [x1, x2, x3, x4, x5, x6, x7, .int p, .int q, .int r]))) : jw_Spec mi_Branchwork_init 4 983 8050 o [.ref a] μ (a + 1) (fun v μ' s' => v = none ∧ s' = a + 984 ∧ bw_New o μ' a ∧ jw_Fr μ μ' a 984) := by
  refine jw_spec (by decide +kernel) (Nat.le_of_ble_eq_true rfl) rfl (fun k hR hE => ?_)
  have hF : jw_Fr μ μ a 984 := jw_Fr.rf
  refine jw_aload_n (pc' := 1) jd_Branchwork_init_0 rfl rfl rfl ?_
  refine jw_objInit (pc' := 4) hR jq_46 jd_Branchwork_init_1 (Nat.le_of_ble_eq_true rfl) (by omega) rfl ?_
  refine jw_aload_n (pc' := 5) jd_Branchwork_init_4 rfl rfl rfl ?_
  refine jw_new (pc' := 8) (fs := [.null, .null]) hR jc_Tree jq_49 jq_50 jq_24 jd_Branchwork_init_5 (by decide +kernel) (by omega) (by omega) rfl (fun μ h1 f9 => ?_)
  have h0 := (f9 _ (by omega)).trans h0
  have hF := jw_Fr.step hF f9 (by omega)
  refine jw_dup (pc' := 9) jd_Branchwork_init_8 rfl rfl ?_
  refine jw_callI (pc' := 12) hR (bt_init h1) jm_Tree_init jq_51 jd_Branchwork_init_9 rfl rfl (Nat.le_of_ble_eq_true rfl) (by omega) (by decide) (by omega) (by omega) rfl (fun v μ s9 q9 hle => ?_)
  obtain ⟨rfl, rfl, hT, f9⟩ := q9
  have hF := hF.trans f9 (by omega) (by omega)
  have h0 := (f9 _ (by omega)).trans h0
  refine jw_putF (pc' := 15) (kf := 0) (ty := (.object "Branchwork$Tree")) (fs' := [_, _, _, _, _, _, _, _, _, _]) jc_Branchwork (by decide) jq_239 jd_Branchwork_init_12 rfl rfl rfl (by decide +kernel) (by assumption) rfl rfl rfl (Nat.le_of_ble_eq_true rfl) rfl (fun μ h0 f9 => ?_)
  have hF := jw_Fr.step hF f9 (by omega)
  have hT := hT.fr (jw_Fr.o f9) (by omega)
  refine jw_aload_n (pc' := 16) jd_Branchwork_init_15 rfl rfl rfl ?_
  refine jw_new (pc' := 19) (fs := [.null, .null, .null, .null, .null, .null, .null, .null, .int 0, .int 0]) hR jc_History jq_80 jq_81 jq_26 jd_Branchwork_init_16 (by decide +kernel) (by omega) (by omega) rfl (fun μ h1 f9 => ?_)
  have h0 := (f9 _ (by omega)).trans h0
  have hF := jw_Fr.step hF f9 (by omega)
  have hT := hT.fr (jw_Fr.o f9) (by omega)
  refine jw_dup (pc' := 20) jd_Branchwork_init_19 rfl rfl ?_
  refine jw_callI (pc' := 23) hR (bh_init h1) jm_History_init jq_82 jd_Branchwork_init_20 rfl rfl (Nat.le_of_ble_eq_true rfl) (by omega) (by decide) (by omega) (by omega) rfl (fun v μ s9 q9 hle => ?_)
  obtain ⟨rfl, rfl, hH, f9⟩ := q9
  have hF := hF.trans f9 (by omega) (by omega)
  have h0 := (f9 _ (by omega)).trans h0
  have hT := hT.fr f9 (by omega)
  refine jw_putF (pc' := 26) (kf := 1) (ty := (.object "Branchwork$History")) (fs' := [_, _, _, _, _, _, _, _, _, _]) jc_Branchwork (by decide) jq_240 jd_Branchwork_init_23 rfl rfl rfl (by decide +kernel) (by assumption) rfl rfl rfl (Nat.le_of_ble_eq_true rfl) rfl (fun μ h0 f9 => ?_)
  have hF := jw_Fr.step hF f9 (by omega)
  have hT := hT.fr (jw_Fr.o f9) (by omega)
  have hH := hH.fr (jw_Fr.o f9) (by omega)
  refine jw_aload_n (pc' := 27) jd_Branchwork_init_26 rfl rfl rfl ?_
  refine jw_new (pc' := 30) (fs := [.null, .null, .null, .null, .null, .null, .null]) hR jc_Merger jq_120 jq_121 jq_27 jd_Branchwork_init_27 (by decide +kernel) (by omega) (by omega) rfl (fun μ h1 f9 => ?_)
  have h0 := (f9 _ (by omega)).trans h0
  have hF := jw_Fr.step hF f9 (by omega)
  have hT := hT.fr (jw_Fr.o f9) (by omega)
  have hH := hH.fr (jw_Fr.o f9) (by omega)
  refine jw_dup (pc' := 31) jd_Branchwork_init_30 rfl rfl ?_
  refine jw_callIN (pc' := 34) hR (bg_init h1) jm_Merger_init jn_Branchwork_25 jd_Branchwork_init_31 rfl rfl (Nat.le_of_ble_eq_true rfl) (by omega) (by decide) (by omega) (by omega) rfl (fun v μ s9 q9 hle => ?_)
  obtain ⟨rfl, rfl, hG, f9⟩ := q9
  have hF := hF.trans f9 (by omega) (by omega)
  have h0 := (f9 _ (by omega)).trans h0
  have hT := hT.fr f9 (by omega)
  have hH := hH.fr f9 (by omega)
  refine jw_putF (pc' := 37) (kf := 2) (ty := (.object "Branchwork$Merger")) (fs' := [_, _, _, _, _, _, _, _, _, _]) jc_Branchwork (by decide) jq_241 jd_Branchwork_init_34 rfl rfl rfl (by decide +kernel) (by assumption) rfl rfl rfl (Nat.le_of_ble_eq_true rfl) rfl (fun μ h0 f9 => ?_)
  have hF := jw_Fr.step hF f9 (by omega)
  have hT := hT.fr (jw_Fr.o f9) (by omega)
  have hH := hH.fr (jw_Fr.o f9) (by omega)
  have hG := hG.fr (jw_Fr.o f9) (by omega)
  refine jw_aload_n (pc' := 38) jd_Branchwork_init_37 rfl rfl rfl ?_
  refine jw_new (pc' := 41) (fs := [.null, .null, .int 0]) hR jc_Conflicts jq_230 jq_129 jq_28 jd_Branchwork_init_38 (by decide +kernel) (by omega) (by omega) rfl (fun μ h1 f9 => ?_)
  have h0 := (f9 _ (by omega)).trans h0
  have hF := jw_Fr.step hF f9 (by omega)
  have hT := hT.fr (jw_Fr.o f9) (by omega)
  have hH := hH.fr (jw_Fr.o f9) (by omega)
  have hG := hG.fr (jw_Fr.o f9) (by omega)
  refine jw_dup (pc' := 42) jd_Branchwork_init_41 rfl rfl ?_
  refine jw_callIN (pc' := 45) hR (bk_init h1) jm_Conflicts_init jn_Branchwork_32 jd_Branchwork_init_42 rfl rfl (Nat.le_of_ble_eq_true rfl) (by omega) (by decide) (by omega) (by omega) rfl (fun v μ s9 q9 hle => ?_)
  obtain ⟨rfl, rfl, hK, f9⟩ := q9
  have hF := hF.trans f9 (by omega) (by omega)
  have h0 := (f9 _ (by omega)).trans h0
  have hT := hT.fr f9 (by omega)
  have hH := hH.fr f9 (by omega)
  have hG := hG.fr f9 (by omega)
  refine jw_putF (pc' := 48) (kf := 3) (ty := (.object "Branchwork$Conflicts")) (fs' := [_, _, _, _, _, _, _, _, _, _]) jc_Branchwork (by decide) jq_242 jd_Branchwork_init_45 rfl rfl rfl (by decide +kernel) (by assumption) rfl rfl rfl (Nat.le_of_ble_eq_true rfl) rfl (fun μ h0 f9 => ?_)
  have hF := jw_Fr.step hF f9 (by omega)
  have hT := hT.fr (jw_Fr.o f9) (by omega)
  have hH := hH.fr (jw_Fr.o f9) (by omega)
  have hG := hG.fr (jw_Fr.o f9) (by omega)
  have hK := hK.fr (jw_Fr.o f9) (by omega)
  refine jw_aload_n (pc' := 49) jd_Branchwork_init_48 rfl rfl rfl ?_
  refine jw_new (pc' := 52) (fs := [.null, .null, .null, .int 0]) hR jc_Renames jq_232 jq_145 jq_29 jd_Branchwork_init_49 (by decide +kernel) (by omega) (by omega) rfl (fun μ h1 f9 => ?_)
  have h0 := (f9 _ (by omega)).trans h0
  have hF := jw_Fr.step hF f9 (by omega)
  have hT := hT.fr (jw_Fr.o f9) (by omega)
  have hH := hH.fr (jw_Fr.o f9) (by omega)
  have hG := hG.fr (jw_Fr.o f9) (by omega)
  have hK := hK.fr (jw_Fr.o f9) (by omega)
  refine jw_dup (pc' := 53) jd_Branchwork_init_52 rfl rfl ?_
  refine jw_callIN (pc' := 56) hR (bn_init h1) jm_Renames_init jn_Branchwork_39 jd_Branchwork_init_53 rfl rfl (Nat.le_of_ble_eq_true rfl) (by omega) (by decide) (by omega) (by omega) rfl (fun v μ s9 q9 hle => ?_)
  obtain ⟨rfl, rfl, hN, f9⟩ := q9
  have hF := hF.trans f9 (by omega) (by omega)
  have h0 := (f9 _ (by omega)).trans h0
  have hT := hT.fr f9 (by omega)
  have hH := hH.fr f9 (by omega)
  have hG := hG.fr f9 (by omega)
  have hK := hK.fr f9 (by omega)
  refine jw_putF (pc' := 59) (kf := 4) (ty := (.object "Branchwork$Renames")) (fs' := [_, _, _, _, _, _, _, _, _, _]) jc_Branchwork (by decide) jq_243 jd_Branchwork_init_56 rfl rfl rfl (by decide +kernel) (by assumption) rfl rfl rfl (Nat.le_of_ble_eq_true rfl) rfl (fun μ h0 f9 => ?_)
  have hF := jw_Fr.step hF f9 (by omega)
  have hT := hT.fr (jw_Fr.o f9) (by omega)
  have hH := hH.fr (jw_Fr.o f9) (by omega)
  have hG := hG.fr (jw_Fr.o f9) (by omega)
  have hK := hK.fr (jw_Fr.o f9) (by omega)
  have hN := hN.fr (jw_Fr.o f9) (by omega)
  refine jw_aload_n (pc' := 60) jd_Branchwork_init_59 rfl rfl rfl ?_
  refine jw_new (pc' := 63) (fs := [.null, .null, .null]) hR jc_Match jq_234 jq_151 jq_30 jd_Branchwork_init_60 (by decide +kernel) (by omega) (by omega) rfl (fun μ h1 f9 => ?_)
  have h0 := (f9 _ (by omega)).trans h0
  have hF := jw_Fr.step hF f9 (by omega)
  have hT := hT.fr (jw_Fr.o f9) (by omega)
  have hH := hH.fr (jw_Fr.o f9) (by omega)
  have hG := hG.fr (jw_Fr.o f9) (by omega)
  have hK := hK.fr (jw_Fr.o f9) (by omega)
  have hN := hN.fr (jw_Fr.o f9) (by omega)
  refine jw_dup (pc' := 64) jd_Branchwork_init_63 rfl rfl ?_
  refine jw_callIN (pc' := 67) hR (bm_init h1) jm_Match_init jn_Branchwork_46 jd_Branchwork_init_64 rfl rfl (Nat.le_of_ble_eq_true rfl) (by omega) (by decide) (by omega) (by omega) rfl (fun v μ s9 q9 hle => ?_)
  obtain ⟨rfl, rfl, hM, f9⟩ := q9
  have hF := hF.trans f9 (by omega) (by omega)
  have h0 := (f9 _ (by omega)).trans h0
  have hT := hT.fr f9 (by omega)
  have hH := hH.fr f9 (by omega)
  have hG := hG.fr f9 (by omega)
  have hK := hK.fr f9 (by omega)
  have hN := hN.fr f9 (by omega)
  refine jw_putF (pc' := 70) (kf := 5) (ty := (.object "Branchwork$Match")) (fs' := [_, _, _, _, _, _, _, _, _, _]) jc_Branchwork (by decide) jq_244 jd_Branchwork_init_67 rfl rfl rfl (by decide +kernel) (by assumption) rfl rfl rfl (Nat.le_of_ble_eq_true rfl) rfl (fun μ h0 f9 => ?_)
  have hF := jw_Fr.step hF f9 (by omega)
  have hT := hT.fr (jw_Fr.o f9) (by omega)
  have hH := hH.fr (jw_Fr.o f9) (by omega)
  have hG := hG.fr (jw_Fr.o f9) (by omega)
  have hK := hK.fr (jw_Fr.o f9) (by omega)
  have hN := hN.fr (jw_Fr.o f9) (by omega)
  have hM := hM.fr (jw_Fr.o f9) (by omega)
  refine jw_aload_n (pc' := 71) jd_Branchwork_init_70 rfl rfl rfl ?_
  refine jw_iconst (pc' := 72) (v := nI 5) jd_Branchwork_init_71 (by decide +kernel) rfl ?_
  refine jw_newa (pc' := 74) (N := 5) (i := 0) (a0 := (5, .inl (fun _ => 0))) (ty := .int) (atype := .int) hR jq_72 rfl rfl jd_Branchwork_init_72 (fun _ => rfl) (by decide +kernel) (by decide +kernel) (by decide +kernel) (by omega) (by omega) rfl (fun μ h2 f9 => ?_)
  have h0 := (f9 _ (by omega)).trans h0
  have hF := jw_Fr.step hF f9 (by omega)
  have hT := hT.fr (jw_Fr.o f9) (by omega)
  have hH := hH.fr (jw_Fr.o f9) (by omega)
  have hG := hG.fr (jw_Fr.o f9) (by omega)
  have hK := hK.fr (jw_Fr.o f9) (by omega)
  have hN := hN.fr (jw_Fr.o f9) (by omega)
  have hM := hM.fr (jw_Fr.o f9) (by omega)
  refine jw_putF (pc' := 77) (kf := 6) (ty := (.array .int)) (fs' := [_, _, _, _, _, _, _, _, _, _]) jc_Branchwork (by decide) jq_245 jd_Branchwork_init_74 rfl rfl rfl (by decide +kernel) (by assumption) rfl rfl rfl (Nat.le_of_ble_eq_true rfl) rfl (fun μ h0 f9 => ?_)
  have h2 := (f9 _ (by omega)).trans h2
  have hF := jw_Fr.step hF f9 (by omega)
  have hT := hT.fr (jw_Fr.o f9) (by omega)
  have hH := hH.fr (jw_Fr.o f9) (by omega)
  have hG := hG.fr (jw_Fr.o f9) (by omega)
  have hK := hK.fr (jw_Fr.o f9) (by omega)
  have hN := hN.fr (jw_Fr.o f9) (by omega)
  have hM := hM.fr (jw_Fr.o f9) (by omega)
  refine jw_aload_n (pc' := 78) jd_Branchwork_init_77 rfl rfl rfl ?_
  refine jw_iconst (pc' := 79) (v := nI 1) jd_Branchwork_init_78 (by decide +kernel) rfl ?_
  refine jw_put (pc' := 82) (kf := 7) (ty := .int) (fs' := [_, _, _, _, _, _, _, _, _, _]) jc_Branchwork (by decide) jq_246 jd_Branchwork_init_79 rfl (by decide +kernel) (by assumption) rfl rfl rfl (Nat.le_of_ble_eq_true rfl) rfl (fun μ h0 f9 => ?_)
  have h2 := (f9 _ (by omega)).trans h2
  have hF := jw_Fr.step hF f9 (by omega)
  have hT := hT.fr (jw_Fr.o f9) (by omega)
  have hH := hH.fr (jw_Fr.o f9) (by omega)
  have hG := hG.fr (jw_Fr.o f9) (by omega)
  have hK := hK.fr (jw_Fr.o f9) (by omega)
  have hN := hN.fr (jw_Fr.o f9) (by omega)
  have hM := hM.fr (jw_Fr.o f9) (by omega)
  refine jw_aload_n (pc' := 83) jd_Branchwork_init_82 rfl rfl rfl ?_
  refine jw_iconst (pc' := 84) (v := nI 0) jd_Branchwork_init_83 (by decide +kernel) rfl ?_
  refine jw_put (pc' := 87) (kf := 8) (ty := .int) (fs' := [_, _, _, _, _, _, _, _, _, _]) jc_Branchwork (by decide) jq_247 jd_Branchwork_init_84 rfl (by decide +kernel) (by assumption) rfl rfl rfl (Nat.le_of_ble_eq_true rfl) rfl (fun μ h0 f9 => ?_)
  have h2 := (f9 _ (by omega)).trans h2
  have hF := jw_Fr.step hF f9 (by omega)
  have hT := hT.fr (jw_Fr.o f9) (by omega)
  have hH := hH.fr (jw_Fr.o f9) (by omega)
  have hG := hG.fr (jw_Fr.o f9) (by omega)
  have hK := hK.fr (jw_Fr.o f9) (by omega)
  have hN := hN.fr (jw_Fr.o f9) (by omega)
  have hM := hM.fr (jw_Fr.o f9) (by omega)
  refine jw_aload_n (pc' := 88) jd_Branchwork_init_87 rfl rfl rfl ?_
  refine jw_iconst (pc' := 89) (v := -1) jd_Branchwork_init_88 (by decide +kernel) rfl ?_
  refine jw_put (pc' := 92) (kf := 9) (ty := .int) (fs' := [_, _, _, _, _, _, _, _, _, _]) jc_Branchwork (by decide) jq_248 jd_Branchwork_init_89 rfl (by decide +kernel) (by assumption) rfl rfl rfl (Nat.le_of_ble_eq_true rfl) rfl (fun μ h0 f9 => ?_)
  have h2 := (f9 _ (by omega)).trans h2
  have hF := jw_Fr.step hF f9 (by omega)
  have hT := hT.fr (jw_Fr.o f9) (by omega)
  have hH := hH.fr (jw_Fr.o f9) (by omega)
  have hG := hG.fr (jw_Fr.o f9) (by omega)
  have hK := hK.fr (jw_Fr.o f9) (by omega)
  have hN := hN.fr (jw_Fr.o f9) (by omega)
  have hM := hM.fr (jw_Fr.o f9) (by omega)
  refine jw_aload_n (pc' := 93) jd_Branchwork_init_92 rfl rfl rfl ?_
  refine jw_get (pc' := 96) (kf := 6) jc_Branchwork (by decide) jq_245 jd_Branchwork_init_93 (by assumption) rfl rfl ?_
  refine jw_iconst (pc' := 97) (v := -1) jd_Branchwork_init_96 (by decide +kernel) rfl ?_
  refine jw_callS (pc' := 100) hR (bi_fill (n := 5) h2 (by omega)) jm_Arrays_fill jq_236 jd_Branchwork_init_97 rfl rfl (Nat.le_of_ble_eq_true rfl) (by omega) (by decide) (by omega) (by omega) rfl (fun v μ s9 q9 hle => ?_)
  obtain ⟨rfl, rfl, ⟨f, hI, hIf⟩, f9⟩ := q9
  have hF := hF.trans f9 (by omega) (by omega)
  have h0 := (f9 _ (by omega)).trans h0
  have hT := hT.fr f9 (by omega)
  have hH := hH.fr f9 (by omega)
  have hG := hG.fr f9 (by omega)
  have hK := hK.fr f9 (by omega)
  have hN := hN.fr f9 (by omega)
  have hM := hM.fr f9 (by omega)
  refine jw_vret hE jd_Branchwork_init_100 rfl (by omega) (by omega) ?_
  exact ⟨rfl, rfl, ⟨h0, hT, hH, hG, hK, hN, hM, ⟨f, hI, hIf⟩⟩, hF⟩
end
