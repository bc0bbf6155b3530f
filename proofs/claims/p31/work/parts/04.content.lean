theorem jd_Content_exists_0 : decode mi_Content_exists.2.1 0 = .ok (.aload_n 0, 1) := by decide +kernel
theorem jd_Content_exists_1 : decode mi_Content_exists.2.1 1 = .ok (.getfield 19, 3) := by decide +kernel
theorem jd_Content_exists_4 : decode mi_Content_exists.2.1 4 = .ok (.ireturn, 1) := by decide +kernel
theorem jd_Content_length_0 : decode mi_Content_length.2.1 0 = .ok (.aload_n 0, 1) := by decide +kernel
theorem jd_Content_length_1 : decode mi_Content_length.2.1 1 = .ok (.getfield 15, 3) := by decide +kernel
theorem jd_Content_length_4 : decode mi_Content_length.2.1 4 = .ok (.ireturn, 1) := by decide +kernel
theorem jd_Content_isFull_0 : decode mi_Content_isFull.2.1 0 = .ok (.aload_n 0, 1) := by decide +kernel
theorem jd_Content_isFull_1 : decode mi_Content_isFull.2.1 1 = .ok (.getfield 15, 3) := by decide +kernel
theorem jd_Content_isFull_4 : decode mi_Content_isFull.2.1 4 = .ok (.bipush 10, 2) := by decide +kernel
theorem jd_Content_isFull_6 : decode mi_Content_isFull.2.1 6 = .ok (.if_icmp .lt 7, 3) := by decide +kernel
theorem jd_Content_isFull_9 : decode mi_Content_isFull.2.1 9 = .ok (.iconst 1, 1) := by decide +kernel
theorem jd_Content_isFull_10 : decode mi_Content_isFull.2.1 10 = .ok (.goto 4, 3) := by decide +kernel
theorem jd_Content_isFull_13 : decode mi_Content_isFull.2.1 13 = .ok (.iconst 0, 1) := by decide +kernel
theorem jd_Content_isFull_14 : decode mi_Content_isFull.2.1 14 = .ok (.ireturn, 1) := by decide +kernel
theorem jd_Content_lineAt_0 : decode mi_Content_lineAt.2.1 0 = .ok (.iload_n 1, 1) := by decide +kernel
theorem jd_Content_lineAt_1 : decode mi_Content_lineAt.2.1 1 = .ok (.ifCond .lt 26, 3) := by decide +kernel
theorem jd_Content_lineAt_4 : decode mi_Content_lineAt.2.1 4 = .ok (.iload_n 1, 1) := by decide +kernel
theorem jd_Content_lineAt_5 : decode mi_Content_lineAt.2.1 5 = .ok (.aload_n 0, 1) := by decide +kernel
theorem jd_Content_lineAt_6 : decode mi_Content_lineAt.2.1 6 = .ok (.getfield 15, 3) := by decide +kernel
theorem jd_Content_lineAt_9 : decode mi_Content_lineAt.2.1 9 = .ok (.if_icmp .ge 18, 3) := by decide +kernel
theorem jd_Content_lineAt_12 : decode mi_Content_lineAt.2.1 12 = .ok (.iload_n 1, 1) := by decide +kernel
theorem jd_Content_lineAt_13 : decode mi_Content_lineAt.2.1 13 = .ok (.bipush 10, 2) := by decide +kernel
theorem jd_Content_lineAt_15 : decode mi_Content_lineAt.2.1 15 = .ok (.if_icmp .ge 12, 3) := by decide +kernel
theorem jd_Content_lineAt_18 : decode mi_Content_lineAt.2.1 18 = .ok (.aload_n 0, 1) := by decide +kernel
theorem jd_Content_lineAt_19 : decode mi_Content_lineAt.2.1 19 = .ok (.getfield 9, 3) := by decide +kernel
theorem jd_Content_lineAt_22 : decode mi_Content_lineAt.2.1 22 = .ok (.iload_n 1, 1) := by decide +kernel
theorem jd_Content_lineAt_23 : decode mi_Content_lineAt.2.1 23 = .ok (.iaload, 1) := by decide +kernel
theorem jd_Content_lineAt_24 : decode mi_Content_lineAt.2.1 24 = .ok (.goto 4, 3) := by decide +kernel
theorem jd_Content_lineAt_27 : decode mi_Content_lineAt.2.1 27 = .ok (.iconst (-1), 1) := by decide +kernel
theorem jd_Content_lineAt_28 : decode mi_Content_lineAt.2.1 28 = .ok (.ireturn, 1) := by decide +kernel
theorem jd_Content_becomeAbsent_0 : decode mi_Content_becomeAbsent.2.1 0 = .ok (.aload_n 0, 1) := by decide +kernel
theorem jd_Content_becomeAbsent_1 : decode mi_Content_becomeAbsent.2.1 1 = .ok (.iconst 0, 1) := by decide +kernel
theorem jd_Content_becomeAbsent_2 : decode mi_Content_becomeAbsent.2.1 2 = .ok (.putfield 15, 3) := by decide +kernel
theorem jd_Content_becomeAbsent_5 : decode mi_Content_becomeAbsent.2.1 5 = .ok (.aload_n 0, 1) := by decide +kernel
theorem jd_Content_becomeAbsent_6 : decode mi_Content_becomeAbsent.2.1 6 = .ok (.iconst 0, 1) := by decide +kernel
theorem jd_Content_becomeAbsent_7 : decode mi_Content_becomeAbsent.2.1 7 = .ok (.putfield 19, 3) := by decide +kernel
theorem jd_Content_becomeAbsent_10 : decode mi_Content_becomeAbsent.2.1 10 = .ok (.return_, 1) := by decide +kernel
theorem jd_Content_becomeEmpty_0 : decode mi_Content_becomeEmpty.2.1 0 = .ok (.aload_n 0, 1) := by decide +kernel
theorem jd_Content_becomeEmpty_1 : decode mi_Content_becomeEmpty.2.1 1 = .ok (.iconst 0, 1) := by decide +kernel
theorem jd_Content_becomeEmpty_2 : decode mi_Content_becomeEmpty.2.1 2 = .ok (.putfield 15, 3) := by decide +kernel
theorem jd_Content_becomeEmpty_5 : decode mi_Content_becomeEmpty.2.1 5 = .ok (.aload_n 0, 1) := by decide +kernel
theorem jd_Content_becomeEmpty_6 : decode mi_Content_becomeEmpty.2.1 6 = .ok (.iconst 1, 1) := by decide +kernel
theorem jd_Content_becomeEmpty_7 : decode mi_Content_becomeEmpty.2.1 7 = .ok (.putfield 19, 3) := by decide +kernel
theorem jd_Content_becomeEmpty_10 : decode mi_Content_becomeEmpty.2.1 10 = .ok (.return_, 1) := by decide +kernel
theorem jd_Content_append_0 : decode mi_Content_append.2.1 0 = .ok (.aload_n 0, 1) := by decide +kernel
theorem jd_Content_append_1 : decode mi_Content_append.2.1 1 = .ok (.getfield 15, 3) := by decide +kernel
theorem jd_Content_append_4 : decode mi_Content_append.2.1 4 = .ok (.bipush 10, 2) := by decide +kernel
theorem jd_Content_append_6 : decode mi_Content_append.2.1 6 = .ok (.if_icmp .ge 23, 3) := by decide +kernel
theorem jd_Content_append_9 : decode mi_Content_append.2.1 9 = .ok (.aload_n 0, 1) := by decide +kernel
theorem jd_Content_append_10 : decode mi_Content_append.2.1 10 = .ok (.getfield 9, 3) := by decide +kernel
theorem jd_Content_append_13 : decode mi_Content_append.2.1 13 = .ok (.aload_n 0, 1) := by decide +kernel
theorem jd_Content_append_14 : decode mi_Content_append.2.1 14 = .ok (.getfield 15, 3) := by decide +kernel
theorem jd_Content_append_17 : decode mi_Content_append.2.1 17 = .ok (.iload_n 1, 1) := by decide +kernel
theorem jd_Content_append_18 : decode mi_Content_append.2.1 18 = .ok (.iastore, 1) := by decide +kernel
theorem jd_Content_append_19 : decode mi_Content_append.2.1 19 = .ok (.aload_n 0, 1) := by decide +kernel
theorem jd_Content_append_20 : decode mi_Content_append.2.1 20 = .ok (.dup, 1) := by decide +kernel
theorem jd_Content_append_21 : decode mi_Content_append.2.1 21 = .ok (.getfield 15, 3) := by decide +kernel
theorem jd_Content_append_24 : decode mi_Content_append.2.1 24 = .ok (.iconst 1, 1) := by decide +kernel
theorem jd_Content_append_25 : decode mi_Content_append.2.1 25 = .ok (.iadd, 1) := by decide +kernel
theorem jd_Content_append_26 : decode mi_Content_append.2.1 26 = .ok (.putfield 15, 3) := by decide +kernel
theorem jd_Content_append_29 : decode mi_Content_append.2.1 29 = .ok (.return_, 1) := by decide +kernel
theorem jd_Content_appendAll_0 : decode mi_Content_appendAll.2.1 0 = .ok (.iconst 0, 1) := by decide +kernel
theorem jd_Content_appendAll_1 : decode mi_Content_appendAll.2.1 1 = .ok (.istore_n 2, 1) := by decide +kernel
theorem jd_Content_appendAll_2 : decode mi_Content_appendAll.2.1 2 = .ok (.iload_n 2, 1) := by decide +kernel
theorem jd_Content_appendAll_3 : decode mi_Content_appendAll.2.1 3 = .ok (.aload_n 1, 1) := by decide +kernel
theorem jd_Content_appendAll_4 : decode mi_Content_appendAll.2.1 4 = .ok (.invokevirtual 27, 3) := by decide +kernel
theorem jd_Content_appendAll_7 : decode mi_Content_appendAll.2.1 7 = .ok (.if_icmp .ge 18, 3) := by decide +kernel
theorem jd_Content_appendAll_10 : decode mi_Content_appendAll.2.1 10 = .ok (.aload_n 0, 1) := by decide +kernel
theorem jd_Content_appendAll_11 : decode mi_Content_appendAll.2.1 11 = .ok (.aload_n 1, 1) := by decide +kernel
theorem jd_Content_appendAll_12 : decode mi_Content_appendAll.2.1 12 = .ok (.iload_n 2, 1) := by decide +kernel
theorem jd_Content_appendAll_13 : decode mi_Content_appendAll.2.1 13 = .ok (.invokevirtual 31, 3) := by decide +kernel
theorem jd_Content_appendAll_16 : decode mi_Content_appendAll.2.1 16 = .ok (.invokevirtual 35, 3) := by decide +kernel
theorem jd_Content_appendAll_19 : decode mi_Content_appendAll.2.1 19 = .ok (.iinc 2 1, 3) := by decide +kernel
theorem jd_Content_appendAll_22 : decode mi_Content_appendAll.2.1 22 = .ok (.goto (-20), 3) := by decide +kernel
theorem jd_Content_appendAll_25 : decode mi_Content_appendAll.2.1 25 = .ok (.return_, 1) := by decide +kernel
theorem jd_Content_becomePart_0 : decode mi_Content_becomePart.2.1 0 = .ok (.aload_n 0, 1) := by decide +kernel
theorem jd_Content_becomePart_1 : decode mi_Content_becomePart.2.1 1 = .ok (.invokevirtual 39, 3) := by decide +kernel
theorem jd_Content_becomePart_4 : decode mi_Content_becomePart.2.1 4 = .ok (.iload_n 2, 1) := by decide +kernel
theorem jd_Content_becomePart_5 : decode mi_Content_becomePart.2.1 5 = .ok (.istore 4, 2) := by decide +kernel
theorem jd_Content_becomePart_7 : decode mi_Content_becomePart.2.1 7 = .ok (.iload 4, 2) := by decide +kernel
theorem jd_Content_becomePart_9 : decode mi_Content_becomePart.2.1 9 = .ok (.iload_n 3, 1) := by decide +kernel
theorem jd_Content_becomePart_10 : decode mi_Content_becomePart.2.1 10 = .ok (.if_icmp .ge 19, 3) := by decide +kernel
theorem jd_Content_becomePart_13 : decode mi_Content_becomePart.2.1 13 = .ok (.aload_n 0, 1) := by decide +kernel
theorem jd_Content_becomePart_14 : decode mi_Content_becomePart.2.1 14 = .ok (.aload_n 1, 1) := by decide +kernel
theorem jd_Content_becomePart_15 : decode mi_Content_becomePart.2.1 15 = .ok (.iload 4, 2) := by decide +kernel
theorem jd_Content_becomePart_17 : decode mi_Content_becomePart.2.1 17 = .ok (.invokevirtual 31, 3) := by decide +kernel
theorem jd_Content_becomePart_20 : decode mi_Content_becomePart.2.1 20 = .ok (.invokevirtual 35, 3) := by decide +kernel
theorem jd_Content_becomePart_23 : decode mi_Content_becomePart.2.1 23 = .ok (.iinc 4 1, 3) := by decide +kernel
theorem jd_Content_becomePart_26 : decode mi_Content_becomePart.2.1 26 = .ok (.goto (-19), 3) := by decide +kernel
theorem jd_Content_becomePart_29 : decode mi_Content_becomePart.2.1 29 = .ok (.return_, 1) := by decide +kernel
theorem jd_Content_copyFrom_0 : decode mi_Content_copyFrom.2.1 0 = .ok (.aload_n 0, 1) := by decide +kernel
theorem jd_Content_copyFrom_1 : decode mi_Content_copyFrom.2.1 1 = .ok (.aload_n 1, 1) := by decide +kernel
theorem jd_Content_copyFrom_2 : decode mi_Content_copyFrom.2.1 2 = .ok (.invokevirtual 27, 3) := by decide +kernel
theorem jd_Content_copyFrom_5 : decode mi_Content_copyFrom.2.1 5 = .ok (.bipush 10, 2) := by decide +kernel
theorem jd_Content_copyFrom_7 : decode mi_Content_copyFrom.2.1 7 = .ok (.invokestatic 42, 3) := by decide +kernel
theorem jd_Content_copyFrom_10 : decode mi_Content_copyFrom.2.1 10 = .ok (.putfield 15, 3) := by decide +kernel
theorem jd_Content_copyFrom_13 : decode mi_Content_copyFrom.2.1 13 = .ok (.aload_n 0, 1) := by decide +kernel
theorem jd_Content_copyFrom_14 : decode mi_Content_copyFrom.2.1 14 = .ok (.aload_n 1, 1) := by decide +kernel
theorem jd_Content_copyFrom_15 : decode mi_Content_copyFrom.2.1 15 = .ok (.invokevirtual 48, 3) := by decide +kernel
theorem jd_Content_copyFrom_18 : decode mi_Content_copyFrom.2.1 18 = .ok (.putfield 19, 3) := by decide +kernel
theorem jd_Content_copyFrom_21 : decode mi_Content_copyFrom.2.1 21 = .ok (.iconst 0, 1) := by decide +kernel
theorem jd_Content_copyFrom_22 : decode mi_Content_copyFrom.2.1 22 = .ok (.istore_n 2, 1) := by decide +kernel
theorem jd_Content_copyFrom_23 : decode mi_Content_copyFrom.2.1 23 = .ok (.iload_n 2, 1) := by decide +kernel
theorem jd_Content_copyFrom_24 : decode mi_Content_copyFrom.2.1 24 = .ok (.aload_n 0, 1) := by decide +kernel
theorem jd_Content_copyFrom_25 : decode mi_Content_copyFrom.2.1 25 = .ok (.getfield 15, 3) := by decide +kernel
theorem jd_Content_copyFrom_28 : decode mi_Content_copyFrom.2.1 28 = .ok (.if_icmp .ge 20, 3) := by decide +kernel
theorem jd_Content_copyFrom_31 : decode mi_Content_copyFrom.2.1 31 = .ok (.aload_n 0, 1) := by decide +kernel
theorem jd_Content_copyFrom_32 : decode mi_Content_copyFrom.2.1 32 = .ok (.getfield 9, 3) := by decide +kernel
theorem jd_Content_copyFrom_35 : decode mi_Content_copyFrom.2.1 35 = .ok (.iload_n 2, 1) := by decide +kernel
theorem jd_Content_copyFrom_36 : decode mi_Content_copyFrom.2.1 36 = .ok (.aload_n 1, 1) := by decide +kernel
theorem jd_Content_copyFrom_37 : decode mi_Content_copyFrom.2.1 37 = .ok (.iload_n 2, 1) := by decide +kernel
theorem jd_Content_copyFrom_38 : decode mi_Content_copyFrom.2.1 38 = .ok (.invokevirtual 31, 3) := by decide +kernel
theorem jd_Content_copyFrom_41 : decode mi_Content_copyFrom.2.1 41 = .ok (.iastore, 1) := by decide +kernel
theorem jd_Content_copyFrom_42 : decode mi_Content_copyFrom.2.1 42 = .ok (.iinc 2 1, 3) := by decide +kernel
theorem jd_Content_copyFrom_45 : decode mi_Content_copyFrom.2.1 45 = .ok (.goto (-22), 3) := by decide +kernel
theorem jd_Content_copyFrom_48 : decode mi_Content_copyFrom.2.1 48 = .ok (.return_, 1) := by decide +kernel
theorem jd_Content_sameAs_0 : decode mi_Content_sameAs.2.1 0 = .ok (.aload_n 0, 1) := by decide +kernel
theorem jd_Content_sameAs_1 : decode mi_Content_sameAs.2.1 1 = .ok (.getfield 19, 3) := by decide +kernel
theorem jd_Content_sameAs_4 : decode mi_Content_sameAs.2.1 4 = .ok (.aload_n 1, 1) := by decide +kernel
theorem jd_Content_sameAs_5 : decode mi_Content_sameAs.2.1 5 = .ok (.invokevirtual 48, 3) := by decide +kernel
theorem jd_Content_sameAs_8 : decode mi_Content_sameAs.2.1 8 = .ok (.if_icmp .ne 14, 3) := by decide +kernel
theorem jd_Content_sameAs_11 : decode mi_Content_sameAs.2.1 11 = .ok (.aload_n 0, 1) := by decide +kernel
theorem jd_Content_sameAs_12 : decode mi_Content_sameAs.2.1 12 = .ok (.getfield 15, 3) := by decide +kernel
theorem jd_Content_sameAs_15 : decode mi_Content_sameAs.2.1 15 = .ok (.aload_n 1, 1) := by decide +kernel
theorem jd_Content_sameAs_16 : decode mi_Content_sameAs.2.1 16 = .ok (.invokevirtual 27, 3) := by decide +kernel
theorem jd_Content_sameAs_19 : decode mi_Content_sameAs.2.1 19 = .ok (.if_icmp .eq 5, 3) := by decide +kernel
theorem jd_Content_sameAs_22 : decode mi_Content_sameAs.2.1 22 = .ok (.iconst 0, 1) := by decide +kernel
theorem jd_Content_sameAs_23 : decode mi_Content_sameAs.2.1 23 = .ok (.ireturn, 1) := by decide +kernel
theorem jd_Content_sameAs_24 : decode mi_Content_sameAs.2.1 24 = .ok (.iconst 0, 1) := by decide +kernel
theorem jd_Content_sameAs_25 : decode mi_Content_sameAs.2.1 25 = .ok (.istore_n 2, 1) := by decide +kernel
theorem jd_Content_sameAs_26 : decode mi_Content_sameAs.2.1 26 = .ok (.iload_n 2, 1) := by decide +kernel
theorem jd_Content_sameAs_27 : decode mi_Content_sameAs.2.1 27 = .ok (.aload_n 0, 1) := by decide +kernel
theorem jd_Content_sameAs_28 : decode mi_Content_sameAs.2.1 28 = .ok (.getfield 15, 3) := by decide +kernel
theorem jd_Content_sameAs_31 : decode mi_Content_sameAs.2.1 31 = .ok (.if_icmp .ge 25, 3) := by decide +kernel
theorem jd_Content_sameAs_34 : decode mi_Content_sameAs.2.1 34 = .ok (.aload_n 0, 1) := by decide +kernel
theorem jd_Content_sameAs_35 : decode mi_Content_sameAs.2.1 35 = .ok (.getfield 9, 3) := by decide +kernel
theorem jd_Content_sameAs_38 : decode mi_Content_sameAs.2.1 38 = .ok (.iload_n 2, 1) := by decide +kernel
theorem jd_Content_sameAs_39 : decode mi_Content_sameAs.2.1 39 = .ok (.iaload, 1) := by decide +kernel
theorem jd_Content_sameAs_40 : decode mi_Content_sameAs.2.1 40 = .ok (.aload_n 1, 1) := by decide +kernel
theorem jd_Content_sameAs_41 : decode mi_Content_sameAs.2.1 41 = .ok (.iload_n 2, 1) := by decide +kernel
theorem jd_Content_sameAs_42 : decode mi_Content_sameAs.2.1 42 = .ok (.invokevirtual 31, 3) := by decide +kernel
theorem jd_Content_sameAs_45 : decode mi_Content_sameAs.2.1 45 = .ok (.if_icmp .eq 5, 3) := by decide +kernel
theorem jd_Content_sameAs_48 : decode mi_Content_sameAs.2.1 48 = .ok (.iconst 0, 1) := by decide +kernel
theorem jd_Content_sameAs_49 : decode mi_Content_sameAs.2.1 49 = .ok (.ireturn, 1) := by decide +kernel
theorem jd_Content_sameAs_50 : decode mi_Content_sameAs.2.1 50 = .ok (.iinc 2 1, 3) := by decide +kernel
theorem jd_Content_sameAs_53 : decode mi_Content_sameAs.2.1 53 = .ok (.goto (-27), 3) := by decide +kernel
theorem jd_Content_sameAs_56 : decode mi_Content_sameAs.2.1 56 = .ok (.iconst 1, 1) := by decide +kernel
theorem jd_Content_sameAs_57 : decode mi_Content_sameAs.2.1 57 = .ok (.ireturn, 1) := by decide +kernel
theorem jd_Content_insert_0 : decode mi_Content_insert.2.1 0 = .ok (.iload_n 1, 1) := by decide +kernel
theorem jd_Content_insert_1 : decode mi_Content_insert.2.1 1 = .ok (.ifCond .lt 20, 3) := by decide +kernel
theorem jd_Content_insert_4 : decode mi_Content_insert.2.1 4 = .ok (.iload_n 1, 1) := by decide +kernel
theorem jd_Content_insert_5 : decode mi_Content_insert.2.1 5 = .ok (.aload_n 0, 1) := by decide +kernel
theorem jd_Content_insert_6 : decode mi_Content_insert.2.1 6 = .ok (.getfield 15, 3) := by decide +kernel
theorem jd_Content_insert_9 : decode mi_Content_insert.2.1 9 = .ok (.if_icmp .gt 12, 3) := by decide +kernel
theorem jd_Content_insert_12 : decode mi_Content_insert.2.1 12 = .ok (.aload_n 0, 1) := by decide +kernel
theorem jd_Content_insert_13 : decode mi_Content_insert.2.1 13 = .ok (.getfield 15, 3) := by decide +kernel
theorem jd_Content_insert_16 : decode mi_Content_insert.2.1 16 = .ok (.bipush 10, 2) := by decide +kernel
theorem jd_Content_insert_18 : decode mi_Content_insert.2.1 18 = .ok (.if_icmp .lt 4, 3) := by decide +kernel
theorem jd_Content_insert_21 : decode mi_Content_insert.2.1 21 = .ok (.return_, 1) := by decide +kernel
theorem jd_Content_insert_22 : decode mi_Content_insert.2.1 22 = .ok (.aload_n 0, 1) := by decide +kernel
theorem jd_Content_insert_23 : decode mi_Content_insert.2.1 23 = .ok (.getfield 15, 3) := by decide +kernel
theorem jd_Content_insert_26 : decode mi_Content_insert.2.1 26 = .ok (.istore_n 3, 1) := by decide +kernel
theorem jd_Content_insert_27 : decode mi_Content_insert.2.1 27 = .ok (.iload_n 3, 1) := by decide +kernel
theorem jd_Content_insert_28 : decode mi_Content_insert.2.1 28 = .ok (.iload_n 1, 1) := by decide +kernel
theorem jd_Content_insert_29 : decode mi_Content_insert.2.1 29 = .ok (.if_icmp .le 23, 3) := by decide +kernel
theorem jd_Content_insert_32 : decode mi_Content_insert.2.1 32 = .ok (.aload_n 0, 1) := by decide +kernel
theorem jd_Content_insert_33 : decode mi_Content_insert.2.1 33 = .ok (.getfield 9, 3) := by decide +kernel
theorem jd_Content_insert_36 : decode mi_Content_insert.2.1 36 = .ok (.iload_n 3, 1) := by decide +kernel
theorem jd_Content_insert_37 : decode mi_Content_insert.2.1 37 = .ok (.aload_n 0, 1) := by decide +kernel
theorem jd_Content_insert_38 : decode mi_Content_insert.2.1 38 = .ok (.getfield 9, 3) := by decide +kernel
theorem jd_Content_insert_41 : decode mi_Content_insert.2.1 41 = .ok (.iload_n 3, 1) := by decide +kernel
theorem jd_Content_insert_42 : decode mi_Content_insert.2.1 42 = .ok (.iconst 1, 1) := by decide +kernel
theorem jd_Content_insert_43 : decode mi_Content_insert.2.1 43 = .ok (.isub, 1) := by decide +kernel
theorem jd_Content_insert_44 : decode mi_Content_insert.2.1 44 = .ok (.iaload, 1) := by decide +kernel
theorem jd_Content_insert_45 : decode mi_Content_insert.2.1 45 = .ok (.iastore, 1) := by decide +kernel
theorem jd_Content_insert_46 : decode mi_Content_insert.2.1 46 = .ok (.iinc 3 (-1), 3) := by decide +kernel
theorem jd_Content_insert_49 : decode mi_Content_insert.2.1 49 = .ok (.goto (-22), 3) := by decide +kernel
theorem jd_Content_insert_52 : decode mi_Content_insert.2.1 52 = .ok (.aload_n 0, 1) := by decide +kernel
theorem jd_Content_insert_53 : decode mi_Content_insert.2.1 53 = .ok (.getfield 9, 3) := by decide +kernel
theorem jd_Content_insert_56 : decode mi_Content_insert.2.1 56 = .ok (.iload_n 1, 1) := by decide +kernel
theorem jd_Content_insert_57 : decode mi_Content_insert.2.1 57 = .ok (.iload_n 2, 1) := by decide +kernel
theorem jd_Content_insert_58 : decode mi_Content_insert.2.1 58 = .ok (.iastore, 1) := by decide +kernel
theorem jd_Content_insert_59 : decode mi_Content_insert.2.1 59 = .ok (.aload_n 0, 1) := by decide +kernel
theorem jd_Content_insert_60 : decode mi_Content_insert.2.1 60 = .ok (.dup, 1) := by decide +kernel
theorem jd_Content_insert_61 : decode mi_Content_insert.2.1 61 = .ok (.getfield 15, 3) := by decide +kernel
theorem jd_Content_insert_64 : decode mi_Content_insert.2.1 64 = .ok (.iconst 1, 1) := by decide +kernel
theorem jd_Content_insert_65 : decode mi_Content_insert.2.1 65 = .ok (.iadd, 1) := by decide +kernel
theorem jd_Content_insert_66 : decode mi_Content_insert.2.1 66 = .ok (.putfield 15, 3) := by decide +kernel
theorem jd_Content_insert_69 : decode mi_Content_insert.2.1 69 = .ok (.aload_n 0, 1) := by decide +kernel
theorem jd_Content_insert_70 : decode mi_Content_insert.2.1 70 = .ok (.iconst 1, 1) := by decide +kernel
theorem jd_Content_insert_71 : decode mi_Content_insert.2.1 71 = .ok (.putfield 19, 3) := by decide +kernel
theorem jd_Content_insert_74 : decode mi_Content_insert.2.1 74 = .ok (.return_, 1) := by decide +kernel
/-! the contents: VC o σ c a: the content at c is a = (1 if there is a file, how many lines, the lines; -1 beside them) -/
section
variable {mi : jw_M} {o : jw_O} {k : jw_K} {kc ks pc pc' : Nat} {lc lc' : List (Nat × Value)} {st rest : List Value} {σ : zS} {hs : Nat}
theorem zx_files {t j : Nat} {x : Int} (h : isT o t) (hd : decode mi.2.1 pc = .ok (.aaload, 1)) (hx : x = (j : Int)) (hj : j < 12) (hp : pc + 1 = pc') (kk : jw_X mi o k kc ks pc' lc (.ref (fA t j) :: rest) (mm o σ) hs) : jw_X mi o k kc ks pc lc (.int (iI x) :: .ref (t + 1) :: rest) (mm o σ) hs := by
  obtain ⟨f, h1, h2⟩ := ml_Tree_files σ h
  exact zx_aald (i := 2) (C := "Branchwork$Content") hd h1 rfl hx hj (Nat.le_of_ble_eq_true rfl) (h2 j hj) hp kk
theorem zx_trees {j : Nat} {x : Int} (hd : decode mi.2.1 pc = .ok (.aaload, 1)) (hx : x = (j : Int)) (hj : j < 30) (hp : pc + 1 = pc') (kk : jw_X mi o k kc ks pc' lc (.ref (tA o j) :: rest) (mm o σ) hs) : jw_X mi o k kc ks pc lc (.int (iI x) :: .ref (zb o + 30) :: rest) (mm o σ) hs := by
  obtain ⟨f, h1, h2⟩ := ml_History_trees (o := o) σ
  exact zx_aald (i := 3) (C := "Branchwork$Tree") hd h1 rfl hx hj (Nat.le_of_ble_eq_true rfl) (h2 j hj) hp kk
end
def it {α : Type} (f : Nat → α → α) : Nat → Nat → α → α
  | 0, _, s => s
  | k + 1, i, s => it f k (i + 1) (f i s)
abbrev zV : Type := Int × Nat × (Nat → Int)
def okV (a : zV) : Prop := (a.1 = 0 ∧ a.2.1 = 0 ∨ a.1 = 1 ∧ a.2.1 ≤ 10) ∧ (∀ j, -2147483648 ≤ a.2.2 j ∧ a.2.2 j < 2147483648) ∧ ∀ j, a.2.1 ≤ j → a.2.2 j = -1
theorem okV.n {a : zV} (h : okV a) : a.2.1 ≤ 10 := by rcases h.1 with q | q <;> omega
theorem okV.p {a : zV} (h : okV a) : a.1 = 0 ∨ a.1 = 1 := by rcases h.1 with q | q <;> omega
theorem okV.z {a : zV} (h : okV a) (h0 : a.1 = 0) : a.2.1 = 0 := by rcases h.1 with q | q <;> omega
def VC (o : jw_O) (σ : zS) (c : Nat) (a : zV) : Prop := isC o c ∧ okV a ∧ iv σ c 2 = a.1 ∧ iv σ c 1 = a.2.1 ∧ ∀ j, j < a.2.1 → iv σ (c + 1) j = a.2.2 j
theorem VC.cell {o : jw_O} {σ σ' : zS} {c : Nat} {a : zV} (h : VC o σ c a) (h1 : σ' c = σ c) (h2 : σ' (c + 1) = σ (c + 1)) : VC o σ' c a := by
  obtain ⟨x1, x2, x3, x4, x5⟩ := h
  exact ⟨x1, x2, (iv_cell h1 _).trans x3, (iv_cell h1 _).trans x4, fun j hj => (iv_cell h2 _).trans (x5 j hj)⟩
theorem VC.fr {o : jw_O} {σ σ' : zS} {c b m : Nat} {a : zV} (h : VC o σ c a) (f : zF σ σ' b m) (hd : c + 2 ≤ b ∨ b + m ≤ c) : VC o σ' c a := h.cell (f _ (by omega)) (f _ (by omega))
theorem VC.eq {o : jw_O} {σ : zS} {c : Nat} {a b : zV} (h : VC o σ c a) (h' : VC o σ c b) : a = b := by
  obtain ⟨-, x2, x3, x4, x5⟩ := h
  obtain ⟨-, y2, y3, y4, y5⟩ := h'
  obtain ⟨a1, a2, a3⟩ := a
  obtain ⟨b1, b2, b3⟩ := b
  simp only at x3 x4 x5 y3 y4 y5
  have e1 : a1 = b1 := by omega
  have e2 : a2 = b2 := by omega
  have z1 : ∀ j, a2 ≤ j → a3 j = -1 := x2.2.2
  have z2 : ∀ j, b2 ≤ j → b3 j = -1 := y2.2.2
  have e3 : a3 = b3 := by
    funext j
    by_cases hj : j < a2
    · rw [← x5 j hj, y5 j (by omega)]
    · rw [z1 j (by omega), z2 j (by omega)]
  rw [e1, e2, e3]
/-- the value out of the cells -/
def cv (σ : zS) (c : Nat) : zV := (iv σ c 2, (iv σ c 1).toNat, fun j => if (j : Int) < iv σ c 1 then iv σ (c + 1) j else -1)
theorem VC.mk {o : jw_O} {σ : zS} {c : Nat} (hc : isC o c) (h : iv σ c 2 = 0 ∧ iv σ c 1 = 0 ∨ iv σ c 2 = 1 ∧ 0 ≤ iv σ c 1 ∧ iv σ c 1 ≤ 10) : VC o σ c (cv σ c) := by
  refine ⟨hc, ⟨?_, fun j => ?_, fun j hj => ?_⟩, rfl, ?_, fun j hj => ?_⟩
  · unfold cv; simp only; omega
  · unfold cv; simp only; split
    · exact rg_iv _ _ _
    · omega
  · unfold cv at hj ⊢; simp only at hj ⊢; rw [if_neg (by omega)]
  · unfold cv; simp only; omega
  · unfold cv at hj ⊢; simp only at hj ⊢; rw [if_pos (by omega)]
def v0 : zV := (0, 0, fun _ => -1)
def v1 : zV := (1, 0, fun _ => -1)
def vApp (a : zV) (x : Int) : zV := if a.2.1 < 10 then (a.1, a.2.1 + 1, fun j => if j = a.2.1 then x else a.2.2 j) else a
def vAll (a b : zV) : zV := it (fun i u => vApp u (b.2.2 i)) b.2.1 0 a
def vPart (w : zV) (f e : Nat) : zV := it (fun i u => vApp u (w.2.2 i)) (e - f) f v1
noncomputable def eqV (a b : zV) : Int := @ite _ (a = b) (Classical.propDecidable _) 1 0
theorem eqV_t {a b : zV} (h : a = b) : eqV a b = 1 := by unfold eqV; rw [if_pos h]
theorem eqV_f {a b : zV} (h : ¬ a = b) : eqV a b = 0 := by unfold eqV; rw [if_neg h]
theorem eqV_01 (a b : zV) : eqV a b = 0 ∨ eqV a b = 1 := by
  by_cases h : a = b
  · exact Or.inr (eqV_t h)
  · exact Or.inl (eqV_f h)
theorem eqV_1 {a b : zV} : eqV a b = 1 ↔ a = b := by
  by_cases h : a = b
  · simp only [eqV_t h, true_iff]; exact h
  · simp [eqV_f h, h]
theorem eqV_0 {a b : zV} : eqV a b = 0 ↔ ¬ a = b := by
  by_cases h : a = b
  · simp [eqV_t h]; exact h
  · simp [eqV_f h, h]
section
variable {o : jw_O} {σ : zS} {c : Nat} {a : zV}
theorem c_exists (h : VC o σ c a) : zRo mi_Content_exists 0 o [.ref c] σ (some (.int (iI a.1))) := by
  obtain ⟨hc, hk, e1, e2, e3⟩ := h
  have := hk.p
  refine z_spec (by decide +kernel) (Nat.le_of_ble_eq_true rfl) rfl (fun k hs hR hE => ?_)
  refine jw_aload_n (pc' := 1) jd_Content_exists_0 rfl rfl rfl ?_
  refine zx_getI (pc' := 4) (kf := 2) jc_Content (by decide) jq_64 jd_Content_exists_1 (mc_Content _ (by assumption)) rfl rfl ?_
  refine zx_zret (by first | exact Or.inl rfl | exact Or.inr rfl | assumption | omega) hE jd_Content_exists_4 rfl ?_
  exact ⟨by rw [e1], rfl⟩
theorem c_length (h : VC o σ c a) : zRo mi_Content_length 0 o [.ref c] σ (some (.int (iI a.2.1))) := by
  obtain ⟨hc, hk, e1, e2, e3⟩ := h
  refine z_spec (by decide +kernel) (Nat.le_of_ble_eq_true rfl) rfl (fun k hs hR hE => ?_)
  refine jw_aload_n (pc' := 1) jd_Content_length_0 rfl rfl rfl ?_
  refine zx_getI (pc' := 4) (kf := 1) jc_Content (by decide) jq_63 jd_Content_length_1 (mc_Content _ (by assumption)) rfl rfl ?_
  refine zx_iret hE jd_Content_length_4 rfl ?_
  exact ⟨by rw [e2], rfl⟩
theorem c_isFull (h : VC o σ c a) (hn : a.2.1 < 10) : zRo mi_Content_isFull 0 o [.ref c] σ (some (.int (iI 0))) := by
  obtain ⟨hc, hk, e1, e2, e3⟩ := h
  refine z_spec (by decide +kernel) (Nat.le_of_ble_eq_true rfl) rfl (fun k hs hR hE => ?_)
  refine jw_aload_n (pc' := 1) jd_Content_isFull_0 rfl rfl rfl ?_
  refine zx_getI (pc' := 4) (kf := 1) jc_Content (by decide) jq_63 jd_Content_isFull_1 (mc_Content _ (by assumption)) rfl rfl ?_
  refine zx_bipush (pc' := 6) (n := 10) jd_Content_isFull_4 (by decide +kernel) rfl ?_
  refine zx_icmp_lt (tgt := 13) (pc' := 9) (by first | exact rg_iv _ _ _ | omega) (by first | exact rg_iv _ _ _ | omega) jd_Content_isFull_6 (by decide) rfl (fun q => ?_) (fun q => ?_)
  rotate_left
  · exfalso; omega
  refine zx_iconst (pc' := 14) (n := 0) jd_Content_isFull_13 rfl ?_
  refine zx_zret (by first | exact Or.inl rfl | exact Or.inr rfl | assumption | omega) hE jd_Content_isFull_14 rfl ?_
  exact ⟨rfl, rfl⟩
theorem c_lineAt (h : VC o σ c a) (j : Nat) (hj : j < 1000) : zRo mi_Content_lineAt 0 o [.ref c, .int (iI j)] σ (some (.int (iI (a.2.2 j)))) := by
  obtain ⟨hc, hk, e1, e2, e3⟩ := h
  have hn := hk.n
  refine z_spec (by decide +kernel) (Nat.le_of_ble_eq_true rfl) rfl (fun k hs hR hE => ?_)
  refine jw_iload_n (pc' := 1) jd_Content_lineAt_0 rfl rfl rfl ?_
  refine zx_if_lt (tgt := 27) (pc' := 4) (by first | exact rg_iv _ _ _ | omega) jd_Content_lineAt_1 (by decide) rfl (fun q => ?_) (fun q => ?_)
  · exfalso; omega
  refine jw_iload_n (pc' := 5) jd_Content_lineAt_4 rfl rfl rfl ?_
  refine jw_aload_n (pc' := 6) jd_Content_lineAt_5 rfl rfl rfl ?_
  refine zx_getI (pc' := 9) (kf := 1) jc_Content (by decide) jq_63 jd_Content_lineAt_6 (mc_Content _ (by assumption)) rfl rfl ?_
  refine zx_icmp_ge (tgt := 27) (pc' := 12) (by first | exact rg_iv _ _ _ | omega) (by first | exact rg_iv _ _ _ | omega) jd_Content_lineAt_9 (by decide) rfl (fun q2 => ?_) (fun q2 => ?_)
  · refine zx_iconst (pc' := 28) (n := -1) jd_Content_lineAt_27 rfl ?_
    refine zx_iret hE jd_Content_lineAt_28 rfl ?_
    exact ⟨by rw [hk.2.2 j (by omega)], rfl⟩
  · refine jw_iload_n (pc' := 13) jd_Content_lineAt_12 rfl rfl rfl ?_
    refine zx_bipush (pc' := 15) (n := 10) jd_Content_lineAt_13 (by decide +kernel) rfl ?_
    refine zx_icmp_ge (tgt := 27) (pc' := 18) (by first | exact rg_iv _ _ _ | omega) (by first | exact rg_iv _ _ _ | omega) jd_Content_lineAt_15 (by decide) rfl (fun q3 => ?_) (fun q3 => ?_)
    · exfalso; omega
    refine jw_aload_n (pc' := 19) jd_Content_lineAt_18 rfl rfl rfl ?_
    refine jw_get (pc' := 22) (kf := 0) jc_Content (by decide) jq_62 jd_Content_lineAt_19 (mc_Content _ (by assumption)) rfl rfl ?_
    refine jw_iload_n (pc' := 23) jd_Content_lineAt_22 rfl rfl rfl ?_
    refine zx_iald (pc' := 24) jd_Content_lineAt_23 (ml_Content_lines _ (by assumption)) rfl (by omega) (Nat.le_of_ble_eq_true rfl) rfl ?_
    refine jw_goto (tgt := 28) jd_Content_lineAt_24 (by decide) ?_
    refine zx_iret hE jd_Content_lineAt_28 rfl ?_
    exact ⟨by rw [e3 j (by omega)], rfl⟩
theorem c_absent {n : Int} (hc : isC o c) (h : iv σ c 1 = n) : zSpec mi_Content_becomeAbsent 0 o [.ref c] σ (fun v s => v = none ∧ VC o s c v0 ∧ zF σ s c 2) := by
  refine z_spec (by decide +kernel) (Nat.le_of_ble_eq_true rfl) rfl (fun k hs hR hE => ?_)
  refine jw_aload_n (pc' := 1) jd_Content_becomeAbsent_0 rfl rfl rfl ?_
  refine zx_iconst (pc' := 2) (n := 0) jd_Content_becomeAbsent_1 rfl ?_
  refine zx_putI (pc' := 5) (kf := 1) jc_Content (by decide) jq_63 jd_Content_becomeAbsent_2 rfl (by decide +kernel) (mc_Content _ (by assumption)) rfl rfl ?_
  refine jw_aload_n (pc' := 6) jd_Content_becomeAbsent_5 rfl rfl rfl ?_
  refine zx_iconst (pc' := 7) (n := 0) jd_Content_becomeAbsent_6 rfl ?_
  refine zx_putZ (pc' := 10) (kf := 2) (by first | exact Or.inl rfl | exact Or.inr rfl | assumption | omega) jc_Content (by decide) jq_64 jd_Content_becomeAbsent_7 rfl (by decide +kernel) (mc_Content _ (by assumption)) rfl rfl ?_
  refine zx_vret hE jd_Content_becomeAbsent_10 rfl ?_
  refine ⟨rfl, ⟨hc, ⟨Or.inl ⟨rfl, rfl⟩, fun j => by simp [v0], fun j _ => rfl⟩, ?_, ?_, fun j hj => absurd hj (by simp [v0])⟩, (zF.rf.si (by omega)).si (by omega)⟩
  · rw [iv_si (by omega), if_pos ⟨rfl, rfl⟩]; rfl
  · rw [iv_si (by omega), if_neg (by omega), iv_si (by omega), if_pos ⟨rfl, rfl⟩]; rfl
theorem c_empty (hc : isC o c) : zSpec mi_Content_becomeEmpty 0 o [.ref c] σ (fun v s => v = none ∧ VC o s c v1 ∧ zF σ s c 2) := by
  refine z_spec (by decide +kernel) (Nat.le_of_ble_eq_true rfl) rfl (fun k hs hR hE => ?_)
  refine jw_aload_n (pc' := 1) jd_Content_becomeEmpty_0 rfl rfl rfl ?_
  refine zx_iconst (pc' := 2) (n := 0) jd_Content_becomeEmpty_1 rfl ?_
  refine zx_putI (pc' := 5) (kf := 1) jc_Content (by decide) jq_63 jd_Content_becomeEmpty_2 rfl (by decide +kernel) (mc_Content _ (by assumption)) rfl rfl ?_
  refine jw_aload_n (pc' := 6) jd_Content_becomeEmpty_5 rfl rfl rfl ?_
  refine zx_iconst (pc' := 7) (n := 1) jd_Content_becomeEmpty_6 rfl ?_
  refine zx_putZ (pc' := 10) (kf := 2) (by first | exact Or.inl rfl | exact Or.inr rfl | assumption | omega) jc_Content (by decide) jq_64 jd_Content_becomeEmpty_7 rfl (by decide +kernel) (mc_Content _ (by assumption)) rfl rfl ?_
  refine zx_vret hE jd_Content_becomeEmpty_10 rfl ?_
  refine ⟨rfl, ⟨hc, ⟨Or.inr ⟨rfl, by simp [v1]⟩, fun j => by simp [v1], fun j _ => rfl⟩, ?_, ?_, fun j hj => absurd hj (by simp [v1])⟩, (zF.rf.si (by omega)).si (by omega)⟩
  · rw [iv_si (by omega), if_pos ⟨rfl, rfl⟩]; rfl
  · rw [iv_si (by omega), if_neg (by omega), iv_si (by omega), if_pos ⟨rfl, rfl⟩]; rfl
theorem vApp_ok {x : Int} (h : okV a) (h1 : a.1 = 1) (hx : -2147483648 ≤ x ∧ x < 2147483648) : okV (vApp a x) ∧ (vApp a x).1 = 1 := by
  unfold vApp
  split
  · refine ⟨⟨Or.inr ⟨h1, by simp only; omega⟩, fun j => ?_, fun j hj => ?_⟩, h1⟩
    · simp only; split
      · exact hx
      · exact h.2.1 j
    · simp only at hj ⊢; rw [if_neg (by omega)]; exact h.2.2 j (by omega)
  · exact ⟨h, h1⟩
theorem c_append {x : Int} (h : VC o σ c a) (h1 : a.1 = 1) (hx : -2147483648 ≤ x ∧ x < 2147483648) : zSpec mi_Content_append 0 o [.ref c, .int (iI x)] σ (fun v s => v = none ∧ VC o s c (vApp a x) ∧ zF σ s c 2) := by
  have hok := (vApp_ok h.2.1 h1 hx).1
  obtain ⟨hc, hk, e1, e2, e3⟩ := h
  have hn := hk.n
  refine z_spec (by decide +kernel) (Nat.le_of_ble_eq_true rfl) rfl (fun k hs hR hE => ?_)
  refine jw_aload_n (pc' := 1) jd_Content_append_0 rfl rfl rfl ?_
  refine zx_getI (pc' := 4) (kf := 1) jc_Content (by decide) jq_63 jd_Content_append_1 (mc_Content _ (by assumption)) rfl rfl ?_
  refine zx_bipush (pc' := 6) (n := 10) jd_Content_append_4 (by decide +kernel) rfl ?_
  refine zx_icmp_ge (tgt := 29) (pc' := 9) (by first | exact rg_iv _ _ _ | omega) (by first | exact rg_iv _ _ _ | omega) jd_Content_append_6 (by decide) rfl (fun q => ?_) (fun q => ?_)
  · refine zx_vret hE jd_Content_append_29 rfl ?_
    refine ⟨rfl, ?_, zF.rf⟩
    unfold vApp
    rw [if_neg (by omega)]
    exact ⟨hc, hk, e1, e2, e3⟩
  · skip
    refine jw_aload_n (pc' := 10) jd_Content_append_9 rfl rfl rfl ?_
    refine jw_get (pc' := 13) (kf := 0) jc_Content (by decide) jq_62 jd_Content_append_10 (mc_Content _ (by assumption)) rfl rfl ?_
    refine jw_aload_n (pc' := 14) jd_Content_append_13 rfl rfl rfl ?_
    refine zx_getI (pc' := 17) (kf := 1) jc_Content (by decide) jq_63 jd_Content_append_14 (mc_Content _ (by assumption)) rfl rfl ?_
    refine jw_iload_n (pc' := 18) jd_Content_append_17 rfl rfl rfl ?_
    refine zx_iast (pc' := 19) (j := a.2.1) jd_Content_append_18 (ml_Content_lines _ (by assumption)) e2 (by omega) (Nat.le_of_ble_eq_true rfl) rfl ?_
    refine jw_aload_n (pc' := 20) jd_Content_append_19 rfl rfl rfl ?_
    refine jw_dup (pc' := 21) jd_Content_append_20 rfl rfl ?_
    refine zx_getI (pc' := 24) (kf := 1) jc_Content (by decide) jq_63 jd_Content_append_21 (mc_Content _ (by assumption)) rfl rfl ?_
    refine zx_iconst (pc' := 25) (n := 1) jd_Content_append_24 rfl ?_
    refine zx_iadd (pc' := 26) jd_Content_append_25 rfl ?_
    refine zx_putI (pc' := 29) (kf := 1) jc_Content (by decide) jq_63 jd_Content_append_26 rfl (by decide +kernel) (mc_Content _ (by assumption)) rfl rfl ?_
    refine zx_vret hE jd_Content_append_29 rfl ?_
    have hlt : a.2.1 < 10 := by omega
    refine ⟨rfl, ⟨hc, hok, ?_, ?_, fun j hj => ?_⟩, (zF.rf.si (by omega)).si (by omega)⟩
    · rw [iv_si (by rw [iv_si hx, if_neg (by omega)]; omega), if_neg (by omega), iv_si hx, if_neg (by omega), e1]
      unfold vApp; rw [if_pos hlt]
    · rw [iv_si (by rw [iv_si hx, if_neg (by omega)]; omega), if_pos ⟨rfl, rfl⟩, iv_si hx, if_neg (by omega), e2]
      unfold vApp; rw [if_pos hlt]; simp
    · rw [iv_si (by rw [iv_si hx, if_neg (by omega)]; omega), if_neg (by omega), iv_si hx]
      unfold vApp at hj ⊢; rw [if_pos hlt] at hj ⊢; simp only at hj ⊢
      by_cases q9 : j = a.2.1
      · rw [if_pos ⟨trivial, q9⟩, if_pos q9]
      · rw [if_neg (fun z => q9 z.2), if_neg q9]; exact e3 j (by omega)
/-- a loop that appends lines of w -/
theorem app_it {w : zV} (hw : ∀ j, -2147483648 ≤ w.2.2 j ∧ w.2.2 j < 2147483648) : ∀ (d i : Nat) (a : zV), okV a → a.1 = 1 → okV (it (fun i u => vApp u (w.2.2 i)) d i a) ∧ (it (fun i u => vApp u (w.2.2 i)) d i a).1 = 1
  | 0, _, _, h, h1 => ⟨h, h1⟩
  | d + 1, i, a, h, h1 => app_it hw d (i + 1) _ (vApp_ok h h1 (hw i)).1 (vApp_ok h h1 (hw i)).2
theorem c_appendAll {d : Nat} {b : zV} (h : VC o σ c a) (h1 : a.1 = 1) (h2 : VC o σ d b) (hd : c + 2 ≤ d ∨ d + 2 ≤ c) : zSpec mi_Content_appendAll 1 o [.ref c, .ref d] σ (fun v s => v = none ∧ VC o s c (vAll a b) ∧ zF σ s c 2) := by
  have hbn := h2.2.1.n
  have hcc := h.1
  have hdd := h2.1
  refine z_spec (by decide +kernel) (Nat.le_of_ble_eq_true rfl) rfl (fun k hs hR hE => ?_)
  refine zx_iconst (pc' := 1) (n := 0) jd_Content_appendAll_0 rfl ?_
  refine jw_istore_n (pc' := 2) (lc' := [(0, _), (1, _), (2, _)]) jd_Content_appendAll_1 rfl (Nat.le_of_ble_eq_true rfl) ⟨rfl, rfl, rfl, trivial⟩ rfl ?_
  have loop : ∀ (m i : Nat) (s : zS) (u : zV), i + m = b.2.1 → VC o s c u → u.1 = 1 → zF σ s c 2 → it (fun i u => vApp u (b.2.2 i)) m i u = vAll a b → jw_X mi_Content_appendAll o k 0 0 2 [(0, .ref c), (1, .ref d), (2, .int (iI i))] [] (mm o s) hs := by
    intro m
    induction m with
    | zero =>
      intro i s u hi hu hu1 hF he
      have hs2 := h2.fr hF (by omega)
      refine jw_iload_n (pc' := 3) jd_Content_appendAll_2 rfl rfl rfl ?_
      refine jw_aload_n (pc' := 4) jd_Content_appendAll_3 rfl rfl rfl ?_
      refine zx_callV0 (pc' := 7) hR (c_length hs2) jm_Content_length jq_416 jc_Content jd_Content_appendAll_4 (mc_Content _ (by assumption)) rfl rfl (Nat.le_of_ble_eq_true rfl) (by omega) (by decide) rfl rfl ?_
      refine zx_icmp_ge (tgt := 25) (pc' := 10) (by first | exact rg_iv _ _ _ | omega) (by first | exact rg_iv _ _ _ | omega) jd_Content_appendAll_7 (by decide) rfl (fun q => ?_) (fun q => ?_)
      rotate_left
      · exfalso; omega
      refine zx_vret hE jd_Content_appendAll_25 rfl ?_
      refine ⟨rfl, ?_, hF⟩
      rw [← he]; exact hu
    | succ m ih =>
      intro i s u hi hu hu1 hF he
      have hs2 := h2.fr hF (by omega)
      refine jw_iload_n (pc' := 3) jd_Content_appendAll_2 rfl rfl rfl ?_
      refine jw_aload_n (pc' := 4) jd_Content_appendAll_3 rfl rfl rfl ?_
      refine zx_callV0 (pc' := 7) hR (c_length hs2) jm_Content_length jq_416 jc_Content jd_Content_appendAll_4 (mc_Content _ (by assumption)) rfl rfl (Nat.le_of_ble_eq_true rfl) (by omega) (by decide) rfl rfl ?_
      refine zx_icmp_ge (tgt := 25) (pc' := 10) (by first | exact rg_iv _ _ _ | omega) (by first | exact rg_iv _ _ _ | omega) jd_Content_appendAll_7 (by decide) rfl (fun q => ?_) (fun q => ?_)
      · exfalso; omega
      refine jw_aload_n (pc' := 11) jd_Content_appendAll_10 rfl rfl rfl ?_
      refine jw_aload_n (pc' := 12) jd_Content_appendAll_11 rfl rfl rfl ?_
      refine jw_iload_n (pc' := 13) jd_Content_appendAll_12 rfl rfl rfl ?_
      refine zx_callV0 (pc' := 16) hR (c_lineAt hs2 i (by omega)) jm_Content_lineAt jq_421 jc_Content jd_Content_appendAll_13 (mc_Content _ (by assumption)) rfl rfl (Nat.le_of_ble_eq_true rfl) (by omega) (by decide) rfl rfl ?_
      refine zx_callV (pc' := 19) hR (c_append hu hu1 (hs2.2.1.2.1 i)) jm_Content_append jq_615 jc_Content jd_Content_appendAll_16 (mc_Content _ (by assumption)) rfl rfl (Nat.le_of_ble_eq_true rfl) (by omega) (by decide) rfl (fun v9 s1 q9 => ?_)
      obtain ⟨rfl, hv, hf⟩ := q9
      refine zx_iinc (pc' := 22) (lc' := [(0, _), (1, _), (2, _)]) jd_Content_appendAll_19 rfl (Nat.le_of_ble_eq_true rfl) ⟨rfl, rfl, rfl, trivial⟩ rfl ?_
      refine jw_goto (tgt := 2) jd_Content_appendAll_22 (by decide) ?_
      exact ih (i + 1) s1 _ (by omega) hv (vApp_ok hu.2.1 hu1 (hs2.2.1.2.1 i)).2 (hF.trans hf (by omega) (by omega)) he
  exact loop b.2.1 0 σ a (by omega) h h1 zF.rf rfl
theorem c_part {w : Nat} {b : zV} (hc : isC o c) (h2 : VC o σ w b) (hd : c + 2 ≤ w ∨ w + 2 ≤ c) (f e : Nat) (hf : f < 100) (he : e < 100) : zSpec mi_Content_becomePart 1 o [.ref c, .ref w, .int (iI f), .int (iI e)] σ (fun v s => v = none ∧ VC o s c (vPart b f e) ∧ zF σ s c 2) := by
  have hww := h2.1
  refine z_spec (by decide +kernel) (Nat.le_of_ble_eq_true rfl) rfl (fun k hs hR hE => ?_)
  refine jw_aload_n (pc' := 1) jd_Content_becomePart_0 rfl rfl rfl ?_
  refine zx_callV (pc' := 4) hR (c_empty hc) jm_Content_becomeEmpty jq_614 jc_Content jd_Content_becomePart_1 (mc_Content _ (by assumption)) rfl rfl (Nat.le_of_ble_eq_true rfl) (by omega) (by decide) rfl (fun v9 s1 q9 => ?_)
  obtain ⟨rfl, hv1, hf1⟩ := q9
  refine jw_iload_n (pc' := 5) jd_Content_becomePart_4 rfl rfl rfl ?_
  refine jw_istore (pc' := 7) (lc' := [(0, _), (1, _), (3, _), (4, _)]) jd_Content_becomePart_5 (Nat.le_of_ble_eq_true rfl) ⟨rfl, rfl, rfl, rfl, trivial⟩ rfl ?_
  have loop : ∀ (m i : Nat) (s : zS) (u : zV), m = e - i → VC o s c u → u.1 = 1 → zF σ s c 2 → i < 200 → it (fun i u => vApp u (b.2.2 i)) m i u = vPart b f e → jw_X mi_Content_becomePart o k 0 0 7 [(0, .ref c), (1, .ref w), (3, .int (iI e)), (4, .int (iI i))] [] (mm o s) hs := by
    intro m
    induction m with
    | zero =>
      intro i s u hi hu hu1 hF h200 he2
      refine jw_iload (pc' := 9) jd_Content_becomePart_7 rfl rfl ?_
      refine jw_iload_n (pc' := 10) jd_Content_becomePart_9 rfl rfl rfl ?_
      refine zx_icmp_ge (tgt := 29) (pc' := 13) (by first | exact rg_iv _ _ _ | omega) (by first | exact rg_iv _ _ _ | omega) jd_Content_becomePart_10 (by decide) rfl (fun q => ?_) (fun q => ?_)
      rotate_left
      · exfalso; omega
      refine zx_vret hE jd_Content_becomePart_29 rfl ?_
      refine ⟨rfl, ?_, hF⟩
      rw [← he2]; exact hu
    | succ m ih =>
      intro i s u hi hu hu1 hF h200 he2
      have hs2 := h2.fr hF (by omega)
      refine jw_iload (pc' := 9) jd_Content_becomePart_7 rfl rfl ?_
      refine jw_iload_n (pc' := 10) jd_Content_becomePart_9 rfl rfl rfl ?_
      refine zx_icmp_ge (tgt := 29) (pc' := 13) (by first | exact rg_iv _ _ _ | omega) (by first | exact rg_iv _ _ _ | omega) jd_Content_becomePart_10 (by decide) rfl (fun q => ?_) (fun q => ?_)
      · exfalso; omega
      refine jw_aload_n (pc' := 14) jd_Content_becomePart_13 rfl rfl rfl ?_
      refine jw_aload_n (pc' := 15) jd_Content_becomePart_14 rfl rfl rfl ?_
      refine jw_iload (pc' := 17) jd_Content_becomePart_15 rfl rfl ?_
      refine zx_callV0 (pc' := 20) hR (c_lineAt hs2 i (by omega)) jm_Content_lineAt jq_421 jc_Content jd_Content_becomePart_17 (mc_Content _ (by assumption)) rfl rfl (Nat.le_of_ble_eq_true rfl) (by omega) (by decide) rfl rfl ?_
      refine zx_callV (pc' := 23) hR (c_append hu hu1 (hs2.2.1.2.1 i)) jm_Content_append jq_615 jc_Content jd_Content_becomePart_20 (mc_Content _ (by assumption)) rfl rfl (Nat.le_of_ble_eq_true rfl) (by omega) (by decide) rfl (fun v9 s2 q9 => ?_)
      obtain ⟨rfl, hv, hf⟩ := q9
      refine zx_iinc (pc' := 26) (lc' := [(0, _), (1, _), (3, _), (4, _)]) jd_Content_becomePart_23 rfl (Nat.le_of_ble_eq_true rfl) ⟨rfl, rfl, rfl, rfl, trivial⟩ rfl ?_
      refine jw_goto (tgt := 7) jd_Content_becomePart_26 (by decide) ?_
      exact ih (i + 1) s2 _ (by omega) hv (vApp_ok hu.2.1 hu1 (hs2.2.1.2.1 i)).2 (hF.trans hf (by omega) (by omega)) (by omega) he2
  exact loop (e - f) f s1 v1 rfl hv1 rfl hf1 (by omega) rfl
theorem c_copyFrom {d : Nat} {b : zV} (hc : isC o c) (h2 : VC o σ d b) (hd : c + 2 ≤ d ∨ d + 2 ≤ c) : zSpec mi_Content_copyFrom 1 o [.ref c, .ref d] σ (fun v s => v = none ∧ VC o s c b ∧ zF σ s c 2) := by
  have hdd := h2.1
  have hbn := h2.2.1.n
  have hbp := h2.2.1.p
  refine z_spec (by decide +kernel) (Nat.le_of_ble_eq_true rfl) rfl (fun k hs hR hE => ?_)
  refine jw_aload_n (pc' := 1) jd_Content_copyFrom_0 rfl rfl rfl ?_
  refine jw_aload_n (pc' := 2) jd_Content_copyFrom_1 rfl rfl rfl ?_
  refine zx_callV0 (pc' := 5) hR (c_length h2) jm_Content_length jq_416 jc_Content jd_Content_copyFrom_2 (mc_Content _ (by assumption)) rfl rfl (Nat.le_of_ble_eq_true rfl) (by omega) (by decide) rfl rfl ?_
  refine zx_bipush (pc' := 7) (n := 10) jd_Content_copyFrom_5 (by decide +kernel) rfl ?_
  refine zx_mmin (pc' := 10) (by first | exact rg_iv _ _ _ | omega) (by first | exact rg_iv _ _ _ | omega) hR jq_417 jd_Content_copyFrom_7 (Nat.le_of_ble_eq_true rfl) (by omega) (Nat.le_refl _) (Nat.le_refl _) rfl ?_
  refine zx_putI (pc' := 13) (kf := 1) jc_Content (by decide) jq_63 jd_Content_copyFrom_10 rfl (by decide +kernel) (mc_Content _ (by assumption)) rfl rfl ?_
  refine jw_aload_n (pc' := 14) jd_Content_copyFrom_13 rfl rfl rfl ?_
  refine jw_aload_n (pc' := 15) jd_Content_copyFrom_14 rfl rfl rfl ?_
  refine zx_callV0 (pc' := 18) hR (c_exists (h2.fr (zF.rf.si (a := c) (n := 2) (b := c) (by omega)) hd.symm)) jm_Content_exists jq_420 jc_Content jd_Content_copyFrom_15 (mc_Content _ (by assumption)) rfl rfl (Nat.le_of_ble_eq_true rfl) (by omega) (by decide) rfl rfl ?_
  refine zx_putZ (pc' := 21) (kf := 2) (by first | exact Or.inl rfl | exact Or.inr rfl | assumption | omega) jc_Content (by decide) jq_64 jd_Content_copyFrom_18 rfl (by decide +kernel) (mc_Content _ (by assumption)) rfl rfl ?_
  refine zx_iconst (pc' := 22) (n := 0) jd_Content_copyFrom_21 rfl ?_
  refine jw_istore_n (pc' := 23) (lc' := [(0, _), (1, _), (2, _)]) jd_Content_copyFrom_22 rfl (Nat.le_of_ble_eq_true rfl) ⟨rfl, rfl, rfl, trivial⟩ rfl ?_
  have hmin : min (b.2.1 : Int) 10 = b.2.1 := by omega
  have loop : ∀ (m i : Nat) (s : zS), i + m = b.2.1 → iv s c 1 = b.2.1 → iv s c 2 = b.1 → (∀ j, j < i → iv s (c + 1) j = b.2.2 j) → zF σ s c 2 → jw_X mi_Content_copyFrom o k 0 0 23 [(0, .ref c), (1, .ref d), (2, .int (iI i))] [] (mm o s) hs := by
    intro m
    induction m with
    | zero =>
      intro i s hi e1 e2 e3 hF
      refine jw_iload_n (pc' := 24) jd_Content_copyFrom_23 rfl rfl rfl ?_
      refine jw_aload_n (pc' := 25) jd_Content_copyFrom_24 rfl rfl rfl ?_
      refine zx_getI (pc' := 28) (kf := 1) jc_Content (by decide) jq_63 jd_Content_copyFrom_25 (mc_Content _ (by assumption)) rfl rfl ?_
      refine zx_icmp_ge (tgt := 48) (pc' := 31) (by first | exact rg_iv _ _ _ | omega) (by first | exact rg_iv _ _ _ | omega) jd_Content_copyFrom_28 (by decide) rfl (fun q => ?_) (fun q => ?_)
      rotate_left
      · exfalso; omega
      refine zx_vret hE jd_Content_copyFrom_48 rfl ?_
      exact ⟨rfl, ⟨hc, h2.2.1, e2, e1, fun j hj => e3 j (by omega)⟩, hF⟩
    | succ m ih =>
      intro i s hi e1 e2 e3 hF
      have hs2 := h2.fr hF (by omega)
      refine jw_iload_n (pc' := 24) jd_Content_copyFrom_23 rfl rfl rfl ?_
      refine jw_aload_n (pc' := 25) jd_Content_copyFrom_24 rfl rfl rfl ?_
      refine zx_getI (pc' := 28) (kf := 1) jc_Content (by decide) jq_63 jd_Content_copyFrom_25 (mc_Content _ (by assumption)) rfl rfl ?_
      refine zx_icmp_ge (tgt := 48) (pc' := 31) (by first | exact rg_iv _ _ _ | omega) (by first | exact rg_iv _ _ _ | omega) jd_Content_copyFrom_28 (by decide) rfl (fun q => ?_) (fun q => ?_)
      · exfalso; omega
      refine jw_aload_n (pc' := 32) jd_Content_copyFrom_31 rfl rfl rfl ?_
      refine jw_get (pc' := 35) (kf := 0) jc_Content (by decide) jq_62 jd_Content_copyFrom_32 (mc_Content _ (by assumption)) rfl rfl ?_
      refine jw_iload_n (pc' := 36) jd_Content_copyFrom_35 rfl rfl rfl ?_
      refine jw_aload_n (pc' := 37) jd_Content_copyFrom_36 rfl rfl rfl ?_
      refine jw_iload_n (pc' := 38) jd_Content_copyFrom_37 rfl rfl rfl ?_
      refine zx_callV0 (pc' := 41) hR (c_lineAt hs2 i (by omega)) jm_Content_lineAt jq_421 jc_Content jd_Content_copyFrom_38 (mc_Content _ (by assumption)) rfl rfl (Nat.le_of_ble_eq_true rfl) (by omega) (by decide) rfl rfl ?_
      refine zx_iast (pc' := 42) jd_Content_copyFrom_41 (ml_Content_lines _ (by assumption)) rfl (by omega) (Nat.le_of_ble_eq_true rfl) rfl ?_
      refine zx_iinc (pc' := 45) (lc' := [(0, _), (1, _), (2, _)]) jd_Content_copyFrom_42 rfl (Nat.le_of_ble_eq_true rfl) ⟨rfl, rfl, rfl, trivial⟩ rfl ?_
      refine jw_goto (tgt := 23) jd_Content_copyFrom_45 (by decide) ?_
      refine ih (i + 1) _ (by omega) ?_ ?_ (fun j hj => ?_) (hF.si (by omega))
      · rw [iv_si (hs2.2.1.2.1 i), if_neg (by omega)]; exact e1
      · rw [iv_si (hs2.2.1.2.1 i), if_neg (by omega)]; exact e2
      · rw [iv_si (hs2.2.1.2.1 i)]
        by_cases q9 : j = i
        · rw [if_pos ⟨rfl, q9⟩, q9]
        · rw [if_neg (fun z => q9 z.2)]; exact e3 j (by omega)
  refine loop b.2.1 0 _ (by omega) ?_ ?_ (fun j hj => absurd hj (by omega)) ((zF.rf.si (by omega)).si (by omega))
  · rw [iv_si (by omega), if_neg (by omega), iv_si (by omega), if_pos ⟨rfl, rfl⟩]; exact hmin
  · rw [iv_si (by omega), if_pos ⟨rfl, rfl⟩]
theorem c_sameAs {d : Nat} {b : zV} (h : VC o σ c a) (h2 : VC o σ d b) : zRo mi_Content_sameAs 1 o [.ref c, .ref d] σ (some (.int (iI (eqV a b)))) := by
  have h0 := h
  obtain ⟨hc, hk, e1, e2, e3⟩ := h0
  have hdd := h2.1
  have hbn := h2.2.1.n
  have hbp := h2.2.1.p
  have han := hk.n
  have hap := hk.p
  have hno : ¬ a = b → iI 0 = iI (eqV a b) := fun z => by rw [eqV_f z]
  refine z_spec (by decide +kernel) (Nat.le_of_ble_eq_true rfl) rfl (fun k hs hR hE => ?_)
  refine jw_aload_n (pc' := 1) jd_Content_sameAs_0 rfl rfl rfl ?_
  refine zx_getI (pc' := 4) (kf := 2) jc_Content (by decide) jq_64 jd_Content_sameAs_1 (mc_Content _ (by assumption)) rfl rfl ?_
  refine jw_aload_n (pc' := 5) jd_Content_sameAs_4 rfl rfl rfl ?_
  refine zx_callV0 (pc' := 8) hR (c_exists h2) jm_Content_exists jq_420 jc_Content jd_Content_sameAs_5 (mc_Content _ (by assumption)) rfl rfl (Nat.le_of_ble_eq_true rfl) (by omega) (by decide) rfl rfl ?_
  refine zx_icmp_ne (tgt := 22) (pc' := 11) (by first | exact rg_iv _ _ _ | omega) (by first | exact rg_iv _ _ _ | omega) jd_Content_sameAs_8 (by decide) rfl (fun q => ?_) (fun q => ?_)
  · refine zx_iconst (pc' := 23) (n := 0) jd_Content_sameAs_22 rfl ?_
    refine zx_zret (by first | exact Or.inl rfl | exact Or.inr rfl | assumption | omega) hE jd_Content_sameAs_23 rfl ?_
    exact ⟨by rw [hno (fun z => q (by rw [e1, z]))], rfl⟩
  refine jw_aload_n (pc' := 12) jd_Content_sameAs_11 rfl rfl rfl ?_
  refine zx_getI (pc' := 15) (kf := 1) jc_Content (by decide) jq_63 jd_Content_sameAs_12 (mc_Content _ (by assumption)) rfl rfl ?_
  refine jw_aload_n (pc' := 16) jd_Content_sameAs_15 rfl rfl rfl ?_
  refine zx_callV0 (pc' := 19) hR (c_length h2) jm_Content_length jq_416 jc_Content jd_Content_sameAs_16 (mc_Content _ (by assumption)) rfl rfl (Nat.le_of_ble_eq_true rfl) (by omega) (by decide) rfl rfl ?_
  refine zx_icmp_eq (tgt := 24) (pc' := 22) (by first | exact rg_iv _ _ _ | omega) (by first | exact rg_iv _ _ _ | omega) jd_Content_sameAs_19 (by decide) rfl (fun q2 => ?_) (fun q2 => ?_)
  rotate_left
  · refine zx_iconst (pc' := 23) (n := 0) jd_Content_sameAs_22 rfl ?_
    refine zx_zret (by first | exact Or.inl rfl | exact Or.inr rfl | assumption | omega) hE jd_Content_sameAs_23 rfl ?_
    exact ⟨by rw [hno (fun z => q2 (by rw [e2, z]))], rfl⟩
  refine zx_iconst (pc' := 25) (n := 0) jd_Content_sameAs_24 rfl ?_
  refine jw_istore_n (pc' := 26) (lc' := [(0, _), (1, _), (2, _)]) jd_Content_sameAs_25 rfl (Nat.le_of_ble_eq_true rfl) ⟨rfl, rfl, rfl, trivial⟩ rfl ?_
  have loop : ∀ (m i : Nat), i + m = a.2.1 → (∀ j, j < i → a.2.2 j = b.2.2 j) → jw_X mi_Content_sameAs o k 0 0 26 [(0, .ref c), (1, .ref d), (2, .int (iI i))] [] (mm o σ) hs := by
    intro m
    induction m with
    | zero =>
      intro i hi hj
      refine jw_iload_n (pc' := 27) jd_Content_sameAs_26 rfl rfl rfl ?_
      refine jw_aload_n (pc' := 28) jd_Content_sameAs_27 rfl rfl rfl ?_
      refine zx_getI (pc' := 31) (kf := 1) jc_Content (by decide) jq_63 jd_Content_sameAs_28 (mc_Content _ (by assumption)) rfl rfl ?_
      refine zx_icmp_ge (tgt := 56) (pc' := 34) (by first | exact rg_iv _ _ _ | omega) (by first | exact rg_iv _ _ _ | omega) jd_Content_sameAs_31 (by decide) rfl (fun q3 => ?_) (fun q3 => ?_)
      rotate_left
      · exfalso; omega
      refine zx_iconst (pc' := 57) (n := 1) jd_Content_sameAs_56 rfl ?_
      refine zx_zret (by first | exact Or.inl rfl | exact Or.inr rfl | assumption | omega) hE jd_Content_sameAs_57 rfl ?_
      have e : a = b := by
        obtain ⟨a1, a2, a3⟩ := a
        obtain ⟨b1, b2, b3⟩ := b
        have z1 : ∀ j, a2 ≤ j → a3 j = -1 := hk.2.2
        have z2 : ∀ j, b2 ≤ j → b3 j = -1 := h2.2.1.2.2
        simp only at e1 e2 q q2 hi hj
        have g1 : a1 = b1 := by omega
        have g2 : a2 = b2 := by omega
        have g3 : a3 = b3 := by
          funext j
          by_cases q9 : j < a2
          · exact hj j (by omega)
          · rw [z1 j (by omega), z2 j (by omega)]
        rw [g1, g2, g3]
      exact ⟨by rw [eqV_t e], rfl⟩
    | succ m ih =>
      intro i hi hj
      refine jw_iload_n (pc' := 27) jd_Content_sameAs_26 rfl rfl rfl ?_
      refine jw_aload_n (pc' := 28) jd_Content_sameAs_27 rfl rfl rfl ?_
      refine zx_getI (pc' := 31) (kf := 1) jc_Content (by decide) jq_63 jd_Content_sameAs_28 (mc_Content _ (by assumption)) rfl rfl ?_
      refine zx_icmp_ge (tgt := 56) (pc' := 34) (by first | exact rg_iv _ _ _ | omega) (by first | exact rg_iv _ _ _ | omega) jd_Content_sameAs_31 (by decide) rfl (fun q3 => ?_) (fun q3 => ?_)
      · exfalso; omega
      refine jw_aload_n (pc' := 35) jd_Content_sameAs_34 rfl rfl rfl ?_
      refine jw_get (pc' := 38) (kf := 0) jc_Content (by decide) jq_62 jd_Content_sameAs_35 (mc_Content _ (by assumption)) rfl rfl ?_
      refine jw_iload_n (pc' := 39) jd_Content_sameAs_38 rfl rfl rfl ?_
      refine zx_iald (pc' := 40) jd_Content_sameAs_39 (ml_Content_lines _ (by assumption)) rfl (by omega) (Nat.le_of_ble_eq_true rfl) rfl ?_
      refine jw_aload_n (pc' := 41) jd_Content_sameAs_40 rfl rfl rfl ?_
      refine jw_iload_n (pc' := 42) jd_Content_sameAs_41 rfl rfl rfl ?_
      refine zx_callV0 (pc' := 45) hR (c_lineAt h2 i (by omega)) jm_Content_lineAt jq_421 jc_Content jd_Content_sameAs_42 (mc_Content _ (by assumption)) rfl rfl (Nat.le_of_ble_eq_true rfl) (by omega) (by decide) rfl rfl ?_
      have e9 := e3 i (by omega)
      have r9 := h2.2.1.2.1 i
      refine zx_icmp_eq (tgt := 50) (pc' := 48) (by first | exact rg_iv _ _ _ | omega) (by first | exact rg_iv _ _ _ | omega) jd_Content_sameAs_45 (by decide) rfl (fun q4 => ?_) (fun q4 => ?_)
      · refine zx_iinc (pc' := 53) (lc' := [(0, _), (1, _), (2, _)]) jd_Content_sameAs_50 rfl (Nat.le_of_ble_eq_true rfl) ⟨rfl, rfl, rfl, trivial⟩ rfl ?_
        refine jw_goto (tgt := 26) jd_Content_sameAs_53 (by decide) ?_
        exact ih (i + 1) (by omega) (fun j hj2 => by
          by_cases q9 : j = i
          · rw [q9, ← e9]; exact q4
          · exact hj j (by omega))
      · refine zx_iconst (pc' := 49) (n := 0) jd_Content_sameAs_48 rfl ?_
        refine zx_zret (by first | exact Or.inl rfl | exact Or.inr rfl | assumption | omega) hE jd_Content_sameAs_49 rfl ?_
        exact ⟨by rw [hno (fun z => q4 (by rw [e9, z]))], rfl⟩
  exact loop a.2.1 0 (by omega) (fun j hj => absurd hj (by omega))
theorem c_insert {x : Int} (h : VC o σ c a) (hn : a.2.1 < 10) (p : Nat) (hp : p ≤ a.2.1) : zSpec mi_Content_insert 0 o [.ref c, .int (iI p), .int (iI x)] σ (fun v s => v = none ∧ (∃ b, VC o s c b ∧ b.1 = 1 ∧ b.2.1 = a.2.1 + 1) ∧ zF σ s c 2) := by
  obtain ⟨hc, hk, e1, e2, e3⟩ := h
  refine z_spec (by decide +kernel) (Nat.le_of_ble_eq_true rfl) rfl (fun k hs hR hE => ?_)
  refine jw_iload_n (pc' := 1) jd_Content_insert_0 rfl rfl rfl ?_
  refine zx_if_lt (tgt := 21) (pc' := 4) (by first | exact rg_iv _ _ _ | omega) jd_Content_insert_1 (by decide) rfl (fun q1 => ?_) (fun q1 => ?_)
  · exfalso; omega
  refine jw_iload_n (pc' := 5) jd_Content_insert_4 rfl rfl rfl ?_
  refine jw_aload_n (pc' := 6) jd_Content_insert_5 rfl rfl rfl ?_
  refine zx_getI (pc' := 9) (kf := 1) jc_Content (by decide) jq_63 jd_Content_insert_6 (mc_Content _ (by assumption)) rfl rfl ?_
  refine zx_icmp_gt (tgt := 21) (pc' := 12) (by first | exact rg_iv _ _ _ | omega) (by first | exact rg_iv _ _ _ | omega) jd_Content_insert_9 (by decide) rfl (fun q2 => ?_) (fun q2 => ?_)
  · exfalso; omega
  refine jw_aload_n (pc' := 13) jd_Content_insert_12 rfl rfl rfl ?_
  refine zx_getI (pc' := 16) (kf := 1) jc_Content (by decide) jq_63 jd_Content_insert_13 (mc_Content _ (by assumption)) rfl rfl ?_
  refine zx_bipush (pc' := 18) (n := 10) jd_Content_insert_16 (by decide +kernel) rfl ?_
  refine zx_icmp_lt (tgt := 22) (pc' := 21) (by first | exact rg_iv _ _ _ | omega) (by first | exact rg_iv _ _ _ | omega) jd_Content_insert_18 (by decide) rfl (fun q3 => ?_) (fun q3 => ?_)
  rotate_left
  · exfalso; omega
  refine jw_aload_n (pc' := 23) jd_Content_insert_22 rfl rfl rfl ?_
  refine zx_getI (pc' := 26) (kf := 1) jc_Content (by decide) jq_63 jd_Content_insert_23 (mc_Content _ (by assumption)) rfl rfl ?_
  refine jw_istore_n (pc' := 27) (lc' := [(0, _), (1, _), (2, _), (3, _)]) jd_Content_insert_26 rfl (Nat.le_of_ble_eq_true rfl) ⟨rfl, rfl, rfl, rfl, trivial⟩ rfl ?_
  have loop : ∀ (m i : Nat) (s : zS), i = p + m → i < 10 → iv s c 1 = a.2.1 → zF σ s c 2 → jw_X mi_Content_insert o k 0 0 27 [(0, .ref c), (1, .int (iI p)), (2, .int (iI x)), (3, .int (iI i))] [] (mm o s) hs := by
    intro m
    induction m with
    | zero =>
      intro i s hi h10 e hF
      refine jw_iload_n (pc' := 28) jd_Content_insert_27 rfl rfl rfl ?_
      refine jw_iload_n (pc' := 29) jd_Content_insert_28 rfl rfl rfl ?_
      refine zx_icmp_le (tgt := 52) (pc' := 32) (by first | exact rg_iv _ _ _ | omega) (by first | exact rg_iv _ _ _ | omega) jd_Content_insert_29 (by decide) rfl (fun q => ?_) (fun q => ?_)
      rotate_left
      · exfalso; omega
      refine jw_aload_n (pc' := 53) jd_Content_insert_52 rfl rfl rfl ?_
      refine jw_get (pc' := 56) (kf := 0) jc_Content (by decide) jq_62 jd_Content_insert_53 (mc_Content _ (by assumption)) rfl rfl ?_
      refine jw_iload_n (pc' := 57) jd_Content_insert_56 rfl rfl rfl ?_
      refine jw_iload_n (pc' := 58) jd_Content_insert_57 rfl rfl rfl ?_
      refine zx_iast (pc' := 59) jd_Content_insert_58 (ml_Content_lines _ (by assumption)) rfl (by omega) (Nat.le_of_ble_eq_true rfl) rfl ?_
      refine jw_aload_n (pc' := 60) jd_Content_insert_59 rfl rfl rfl ?_
      refine jw_dup (pc' := 61) jd_Content_insert_60 rfl rfl ?_
      refine zx_getI (pc' := 64) (kf := 1) jc_Content (by decide) jq_63 jd_Content_insert_61 (mc_Content _ (by assumption)) rfl rfl ?_
      refine zx_iconst (pc' := 65) (n := 1) jd_Content_insert_64 rfl ?_
      refine zx_iadd (pc' := 66) jd_Content_insert_65 rfl ?_
      refine zx_putI (pc' := 69) (kf := 1) jc_Content (by decide) jq_63 jd_Content_insert_66 rfl (by decide +kernel) (mc_Content _ (by assumption)) rfl rfl ?_
      refine jw_aload_n (pc' := 70) jd_Content_insert_69 rfl rfl rfl ?_
      refine zx_iconst (pc' := 71) (n := 1) jd_Content_insert_70 rfl ?_
      refine zx_putZ (pc' := 74) (kf := 2) (by first | exact Or.inl rfl | exact Or.inr rfl | assumption | omega) jc_Content (by decide) jq_64 jd_Content_insert_71 rfl (by decide +kernel) (mc_Content _ (by assumption)) rfl rfl ?_
      refine zx_vret hE jd_Content_insert_74 rfl ?_
      have hF1 : zF σ (si s (c + 1) p x) c 2 := hF.si (by omega)
      have f1 : iv (si s (c + 1) p x) c 1 = a.2.1 := (iv_cell (si_ne (by omega)) _).trans e
      refine ⟨rfl, ⟨_, VC.mk hc (Or.inr ⟨?_, ?_⟩), ?_, ?_⟩, (hF1.si (by omega)).si (by omega)⟩
      · rw [iv_si (by omega), if_pos ⟨rfl, rfl⟩]
      · rw [iv_si (by omega), if_neg (by omega), iv_si (by omega), if_pos ⟨rfl, rfl⟩, f1]; omega
      · show iv _ c 2 = 1
        rw [iv_si (by omega), if_pos ⟨rfl, rfl⟩]
      · show (iv _ c 1).toNat = _
        rw [iv_si (by omega), if_neg (by omega), iv_si (by omega), if_pos ⟨rfl, rfl⟩, f1]; omega
    | succ m ih =>
      intro i s hi h10 e hF
      refine jw_iload_n (pc' := 28) jd_Content_insert_27 rfl rfl rfl ?_
      refine jw_iload_n (pc' := 29) jd_Content_insert_28 rfl rfl rfl ?_
      refine zx_icmp_le (tgt := 52) (pc' := 32) (by first | exact rg_iv _ _ _ | omega) (by first | exact rg_iv _ _ _ | omega) jd_Content_insert_29 (by decide) rfl (fun q => ?_) (fun q => ?_)
      · exfalso; omega
      refine jw_aload_n (pc' := 33) jd_Content_insert_32 rfl rfl rfl ?_
      refine jw_get (pc' := 36) (kf := 0) jc_Content (by decide) jq_62 jd_Content_insert_33 (mc_Content _ (by assumption)) rfl rfl ?_
      refine jw_iload_n (pc' := 37) jd_Content_insert_36 rfl rfl rfl ?_
      refine jw_aload_n (pc' := 38) jd_Content_insert_37 rfl rfl rfl ?_
      refine jw_get (pc' := 41) (kf := 0) jc_Content (by decide) jq_62 jd_Content_insert_38 (mc_Content _ (by assumption)) rfl rfl ?_
      refine jw_iload_n (pc' := 42) jd_Content_insert_41 rfl rfl rfl ?_
      refine zx_iconst (pc' := 43) (n := 1) jd_Content_insert_42 rfl ?_
      refine zx_isub (pc' := 44) jd_Content_insert_43 rfl ?_
      refine zx_iald (pc' := 45) (j := i - 1) jd_Content_insert_44 (ml_Content_lines _ (by assumption)) (by omega) (by omega) (Nat.le_of_ble_eq_true rfl) rfl ?_
      refine zx_iast (pc' := 46) jd_Content_insert_45 (ml_Content_lines _ (by assumption)) rfl (by omega) (Nat.le_of_ble_eq_true rfl) rfl ?_
      refine zx_iinc (pc' := 49) (lc' := [(0, _), (1, _), (2, _), (3, _)]) jd_Content_insert_46 rfl (Nat.le_of_ble_eq_true rfl) ⟨rfl, rfl, rfl, rfl, trivial⟩ rfl ?_
      refine jw_goto (tgt := 27) jd_Content_insert_49 (by decide) ?_
      have e9 : (i : Int) + -1 = ((i - 1 : Nat) : Int) := by omega
      rw [e9]
      exact ih (i - 1) _ (by omega) (by omega) ((iv_cell (si_ne (by omega)) _).trans e) (hF.si (by omega))
  rw [e2]
  exact loop (a.2.1 - p) a.2.1 σ (by omega) hn e2 zF.rf
end
