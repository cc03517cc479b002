/-! Decode rows. (Printed by gen_names.py.) -/
theorem d_V_init_0 : decode prog_1_method_1_code 0 = .ok (.aload_n 0, 1) := by decide +kernel
theorem d_V_init_1 : decode prog_1_method_1_code 1 = .ok (.invokespecial 1, 3) := by decide +kernel
theorem d_V_init_4 : decode prog_1_method_1_code 4 = .ok (.aload_n 0, 1) := by decide +kernel
theorem d_V_init_5 : decode prog_1_method_1_code 5 = .ok (.new 7, 3) := by decide +kernel
theorem d_V_init_8 : decode prog_1_method_1_code 8 = .ok (.dup, 1) := by decide +kernel
theorem d_V_init_9 : decode prog_1_method_1_code 9 = .ok (.invokespecial 9, 3) := by decide +kernel
theorem d_V_init_12 : decode prog_1_method_1_code 12 = .ok (.putfield 10, 3) := by decide +kernel
theorem d_V_init_15 : decode prog_1_method_1_code 15 = .ok (.aload_n 0, 1) := by decide +kernel
theorem d_V_init_16 : decode prog_1_method_1_code 16 = .ok (.iconst 2, 1) := by decide +kernel
theorem d_V_init_17 : decode prog_1_method_1_code 17 = .ok (.anewarray 16, 3) := by decide +kernel
theorem d_V_init_20 : decode prog_1_method_1_code 20 = .ok (.putfield 18, 3) := by decide +kernel
theorem d_V_init_23 : decode prog_1_method_1_code 23 = .ok (.iconst 0, 1) := by decide +kernel
theorem d_V_init_24 : decode prog_1_method_1_code 24 = .ok (.istore_n 1, 1) := by decide +kernel
theorem d_V_init_25 : decode prog_1_method_1_code 25 = .ok (.iload_n 1, 1) := by decide +kernel
theorem d_V_init_26 : decode prog_1_method_1_code 26 = .ok (.iconst 2, 1) := by decide +kernel
theorem d_V_init_27 : decode prog_1_method_1_code 27 = .ok (.if_icmp .ge 22, 3) := by decide +kernel
theorem d_V_init_30 : decode prog_1_method_1_code 30 = .ok (.aload_n 0, 1) := by decide +kernel
theorem d_V_init_31 : decode prog_1_method_1_code 31 = .ok (.getfield 18, 3) := by decide +kernel
theorem d_V_init_34 : decode prog_1_method_1_code 34 = .ok (.iload_n 1, 1) := by decide +kernel
theorem d_V_init_35 : decode prog_1_method_1_code 35 = .ok (.new 16, 3) := by decide +kernel
theorem d_V_init_38 : decode prog_1_method_1_code 38 = .ok (.dup, 1) := by decide +kernel
theorem d_V_init_39 : decode prog_1_method_1_code 39 = .ok (.invokespecial 22, 3) := by decide +kernel
theorem d_V_init_42 : decode prog_1_method_1_code 42 = .ok (.aastore, 1) := by decide +kernel
theorem d_V_init_43 : decode prog_1_method_1_code 43 = .ok (.iinc 1 1, 3) := by decide +kernel
theorem d_V_init_46 : decode prog_1_method_1_code 46 = .ok (.goto (-21), 3) := by decide +kernel
theorem d_V_init_49 : decode prog_1_method_1_code 49 = .ok (.aload_n 0, 1) := by decide +kernel
theorem d_V_init_50 : decode prog_1_method_1_code 50 = .ok (.new 23, 3) := by decide +kernel
theorem d_V_init_53 : decode prog_1_method_1_code 53 = .ok (.dup, 1) := by decide +kernel
theorem d_V_init_54 : decode prog_1_method_1_code 54 = .ok (.invokespecial 25, 3) := by decide +kernel
theorem d_V_init_57 : decode prog_1_method_1_code 57 = .ok (.putfield 26, 3) := by decide +kernel
theorem d_V_init_60 : decode prog_1_method_1_code 60 = .ok (.return_, 1) := by decide +kernel
theorem d_V_write_0 : decode prog_1_method_2_code 0 = .ok (.iload_n 1, 1) := by decide +kernel
theorem d_V_write_1 : decode prog_1_method_2_code 1 = .ok (.invokestatic 30, 3) := by decide +kernel
theorem d_V_write_4 : decode prog_1_method_2_code 4 = .ok (.ifCond .eq 22, 3) := by decide +kernel
theorem d_V_write_7 : decode prog_1_method_2_code 7 = .ok (.iload_n 2, 1) := by decide +kernel
theorem d_V_write_8 : decode prog_1_method_2_code 8 = .ok (.invokestatic 34, 3) := by decide +kernel
theorem d_V_write_11 : decode prog_1_method_2_code 11 = .ok (.ifCond .eq 15, 3) := by decide +kernel
theorem d_V_write_14 : decode prog_1_method_2_code 14 = .ok (.iload 5, 2) := by decide +kernel
theorem d_V_write_16 : decode prog_1_method_2_code 16 = .ok (.ifCond .lt 10, 3) := by decide +kernel
theorem d_V_write_19 : decode prog_1_method_2_code 19 = .ok (.iload 5, 2) := by decide +kernel
theorem d_V_write_21 : decode prog_1_method_2_code 21 = .ok (.bipush 8, 2) := by decide +kernel
theorem d_V_write_23 : decode prog_1_method_2_code 23 = .ok (.if_icmp .le 5, 3) := by decide +kernel
theorem d_V_write_26 : decode prog_1_method_2_code 26 = .ok (.iconst 0, 1) := by decide +kernel
theorem d_V_write_27 : decode prog_1_method_2_code 27 = .ok (.ireturn, 1) := by decide +kernel
theorem d_V_write_28 : decode prog_1_method_2_code 28 = .ok (.aload_n 0, 1) := by decide +kernel
theorem d_V_write_29 : decode prog_1_method_2_code 29 = .ok (.getfield 18, 3) := by decide +kernel
theorem d_V_write_32 : decode prog_1_method_2_code 32 = .ok (.iload_n 1, 1) := by decide +kernel
theorem d_V_write_33 : decode prog_1_method_2_code 33 = .ok (.aaload, 1) := by decide +kernel
theorem d_V_write_34 : decode prog_1_method_2_code 34 = .ok (.getfield 37, 3) := by decide +kernel
theorem d_V_write_37 : decode prog_1_method_2_code 37 = .ok (.iload_n 2, 1) := by decide +kernel
theorem d_V_write_38 : decode prog_1_method_2_code 38 = .ok (.lload_n 3, 1) := by decide +kernel
theorem d_V_write_39 : decode prog_1_method_2_code 39 = .ok (.iload 5, 2) := by decide +kernel
theorem d_V_write_41 : decode prog_1_method_2_code 41 = .ok (.invokestatic 41, 3) := by decide +kernel
theorem d_V_write_44 : decode prog_1_method_2_code 44 = .ok (.lastore, 1) := by decide +kernel
theorem d_V_write_45 : decode prog_1_method_2_code 45 = .ok (.iconst 1, 1) := by decide +kernel
theorem d_V_write_46 : decode prog_1_method_2_code 46 = .ok (.ireturn, 1) := by decide +kernel
theorem d_V_isRepository_0 : decode prog_1_method_23_code 0 = .ok (.iload_n 0, 1) := by decide +kernel
theorem d_V_isRepository_1 : decode prog_1_method_23_code 1 = .ok (.ifCond .lt 12, 3) := by decide +kernel
theorem d_V_isRepository_4 : decode prog_1_method_23_code 4 = .ok (.iload_n 0, 1) := by decide +kernel
theorem d_V_isRepository_5 : decode prog_1_method_23_code 5 = .ok (.iconst 2, 1) := by decide +kernel
theorem d_V_isRepository_6 : decode prog_1_method_23_code 6 = .ok (.if_icmp .ge 7, 3) := by decide +kernel
theorem d_V_isRepository_9 : decode prog_1_method_23_code 9 = .ok (.iconst 1, 1) := by decide +kernel
theorem d_V_isRepository_10 : decode prog_1_method_23_code 10 = .ok (.goto 4, 3) := by decide +kernel
theorem d_V_isRepository_13 : decode prog_1_method_23_code 13 = .ok (.iconst 0, 1) := by decide +kernel
theorem d_V_isRepository_14 : decode prog_1_method_23_code 14 = .ok (.ireturn, 1) := by decide +kernel
theorem d_V_isFile_0 : decode prog_1_method_25_code 0 = .ok (.iload_n 0, 1) := by decide +kernel
theorem d_V_isFile_1 : decode prog_1_method_25_code 1 = .ok (.ifCond .lt 12, 3) := by decide +kernel
theorem d_V_isFile_4 : decode prog_1_method_25_code 4 = .ok (.iload_n 0, 1) := by decide +kernel
theorem d_V_isFile_5 : decode prog_1_method_25_code 5 = .ok (.iconst 4, 1) := by decide +kernel
theorem d_V_isFile_6 : decode prog_1_method_25_code 6 = .ok (.if_icmp .ge 7, 3) := by decide +kernel
theorem d_V_isFile_9 : decode prog_1_method_25_code 9 = .ok (.iconst 1, 1) := by decide +kernel
theorem d_V_isFile_10 : decode prog_1_method_25_code 10 = .ok (.goto 4, 3) := by decide +kernel
theorem d_V_isFile_13 : decode prog_1_method_25_code 13 = .ok (.iconst 0, 1) := by decide +kernel
theorem d_V_isFile_14 : decode prog_1_method_25_code 14 = .ok (.ireturn, 1) := by decide +kernel
theorem d_V_remove_0 : decode prog_1_method_3_code 0 = .ok (.iload_n 1, 1) := by decide +kernel
theorem d_V_remove_1 : decode prog_1_method_3_code 1 = .ok (.invokestatic 30, 3) := by decide +kernel
theorem d_V_remove_4 : decode prog_1_method_3_code 4 = .ok (.ifCond .eq 10, 3) := by decide +kernel
theorem d_V_remove_7 : decode prog_1_method_3_code 7 = .ok (.iload_n 2, 1) := by decide +kernel
theorem d_V_remove_8 : decode prog_1_method_3_code 8 = .ok (.invokestatic 34, 3) := by decide +kernel
theorem d_V_remove_11 : decode prog_1_method_3_code 11 = .ok (.ifCond .ne 5, 3) := by decide +kernel
theorem d_V_remove_14 : decode prog_1_method_3_code 14 = .ok (.iconst 0, 1) := by decide +kernel
theorem d_V_remove_15 : decode prog_1_method_3_code 15 = .ok (.ireturn, 1) := by decide +kernel
theorem d_V_remove_16 : decode prog_1_method_3_code 16 = .ok (.aload_n 0, 1) := by decide +kernel
theorem d_V_remove_17 : decode prog_1_method_3_code 17 = .ok (.getfield 18, 3) := by decide +kernel
theorem d_V_remove_20 : decode prog_1_method_3_code 20 = .ok (.iload_n 1, 1) := by decide +kernel
theorem d_V_remove_21 : decode prog_1_method_3_code 21 = .ok (.aaload, 1) := by decide +kernel
theorem d_V_remove_22 : decode prog_1_method_3_code 22 = .ok (.getfield 37, 3) := by decide +kernel
theorem d_V_remove_25 : decode prog_1_method_3_code 25 = .ok (.iload_n 2, 1) := by decide +kernel
theorem d_V_remove_26 : decode prog_1_method_3_code 26 = .ok (.ldc2_w 47, 3) := by decide +kernel
theorem d_V_remove_29 : decode prog_1_method_3_code 29 = .ok (.lastore, 1) := by decide +kernel
theorem d_V_remove_30 : decode prog_1_method_3_code 30 = .ok (.iconst 1, 1) := by decide +kernel
theorem d_V_remove_31 : decode prog_1_method_3_code 31 = .ok (.ireturn, 1) := by decide +kernel
theorem d_V_stage_0 : decode prog_1_method_4_code 0 = .ok (.iload_n 1, 1) := by decide +kernel
theorem d_V_stage_1 : decode prog_1_method_4_code 1 = .ok (.invokestatic 30, 3) := by decide +kernel
theorem d_V_stage_4 : decode prog_1_method_4_code 4 = .ok (.ifCond .eq 10, 3) := by decide +kernel
theorem d_V_stage_7 : decode prog_1_method_4_code 7 = .ok (.iload_n 2, 1) := by decide +kernel
theorem d_V_stage_8 : decode prog_1_method_4_code 8 = .ok (.invokestatic 34, 3) := by decide +kernel
theorem d_V_stage_11 : decode prog_1_method_4_code 11 = .ok (.ifCond .ne 5, 3) := by decide +kernel
theorem d_V_stage_14 : decode prog_1_method_4_code 14 = .ok (.iconst 0, 1) := by decide +kernel
theorem d_V_stage_15 : decode prog_1_method_4_code 15 = .ok (.ireturn, 1) := by decide +kernel
theorem d_V_stage_16 : decode prog_1_method_4_code 16 = .ok (.aload_n 0, 1) := by decide +kernel
theorem d_V_stage_17 : decode prog_1_method_4_code 17 = .ok (.getfield 18, 3) := by decide +kernel
theorem d_V_stage_20 : decode prog_1_method_4_code 20 = .ok (.iload_n 1, 1) := by decide +kernel
theorem d_V_stage_21 : decode prog_1_method_4_code 21 = .ok (.aaload, 1) := by decide +kernel
theorem d_V_stage_22 : decode prog_1_method_4_code 22 = .ok (.astore_n 3, 1) := by decide +kernel
theorem d_V_stage_23 : decode prog_1_method_4_code 23 = .ok (.aload_n 3, 1) := by decide +kernel
theorem d_V_stage_24 : decode prog_1_method_4_code 24 = .ok (.getfield 49, 3) := by decide +kernel
theorem d_V_stage_27 : decode prog_1_method_4_code 27 = .ok (.iload_n 2, 1) := by decide +kernel
theorem d_V_stage_28 : decode prog_1_method_4_code 28 = .ok (.aload_n 3, 1) := by decide +kernel
theorem d_V_stage_29 : decode prog_1_method_4_code 29 = .ok (.getfield 37, 3) := by decide +kernel
theorem d_V_stage_32 : decode prog_1_method_4_code 32 = .ok (.iload_n 2, 1) := by decide +kernel
theorem d_V_stage_33 : decode prog_1_method_4_code 33 = .ok (.laload, 1) := by decide +kernel
theorem d_V_stage_34 : decode prog_1_method_4_code 34 = .ok (.lastore, 1) := by decide +kernel
theorem d_V_stage_35 : decode prog_1_method_4_code 35 = .ok (.iconst 1, 1) := by decide +kernel
theorem d_V_stage_36 : decode prog_1_method_4_code 36 = .ok (.ireturn, 1) := by decide +kernel
theorem d_V_commit_0 : decode prog_1_method_5_code 0 = .ok (.iload_n 1, 1) := by decide +kernel
theorem d_V_commit_1 : decode prog_1_method_5_code 1 = .ok (.invokestatic 30, 3) := by decide +kernel
theorem d_V_commit_4 : decode prog_1_method_5_code 4 = .ok (.ifCond .ne 5, 3) := by decide +kernel
theorem d_V_commit_7 : decode prog_1_method_5_code 7 = .ok (.iconst (-1), 1) := by decide +kernel
theorem d_V_commit_8 : decode prog_1_method_5_code 8 = .ok (.ireturn, 1) := by decide +kernel
theorem d_V_commit_9 : decode prog_1_method_5_code 9 = .ok (.aload_n 0, 1) := by decide +kernel
theorem d_V_commit_10 : decode prog_1_method_5_code 10 = .ok (.getfield 18, 3) := by decide +kernel
theorem d_V_commit_13 : decode prog_1_method_5_code 13 = .ok (.iload_n 1, 1) := by decide +kernel
theorem d_V_commit_14 : decode prog_1_method_5_code 14 = .ok (.aaload, 1) := by decide +kernel
theorem d_V_commit_15 : decode prog_1_method_5_code 15 = .ok (.astore_n 2, 1) := by decide +kernel
theorem d_V_commit_16 : decode prog_1_method_5_code 16 = .ok (.aload_n 2, 1) := by decide +kernel
theorem d_V_commit_17 : decode prog_1_method_5_code 17 = .ok (.invokevirtual 52, 3) := by decide +kernel
theorem d_V_commit_20 : decode prog_1_method_5_code 20 = .ok (.istore_n 3, 1) := by decide +kernel
theorem d_V_commit_21 : decode prog_1_method_5_code 21 = .ok (.aload_n 0, 1) := by decide +kernel
theorem d_V_commit_22 : decode prog_1_method_5_code 22 = .ok (.getfield 10, 3) := by decide +kernel
theorem d_V_commit_25 : decode prog_1_method_5_code 25 = .ok (.iload_n 3, 1) := by decide +kernel
theorem d_V_commit_26 : decode prog_1_method_5_code 26 = .ok (.aload_n 2, 1) := by decide +kernel
theorem d_V_commit_27 : decode prog_1_method_5_code 27 = .ok (.getfield 49, 3) := by decide +kernel
theorem d_V_commit_30 : decode prog_1_method_5_code 30 = .ok (.invokevirtual 56, 3) := by decide +kernel
theorem d_V_commit_33 : decode prog_1_method_5_code 33 = .ok (.ifCond .eq 6, 3) := by decide +kernel
theorem d_V_commit_36 : decode prog_1_method_5_code 36 = .ok (.bipush (-4), 2) := by decide +kernel
theorem d_V_commit_38 : decode prog_1_method_5_code 38 = .ok (.ireturn, 1) := by decide +kernel
theorem d_V_commit_39 : decode prog_1_method_5_code 39 = .ok (.aload_n 0, 1) := by decide +kernel
theorem d_V_commit_40 : decode prog_1_method_5_code 40 = .ok (.getfield 10, 3) := by decide +kernel
theorem d_V_commit_43 : decode prog_1_method_5_code 43 = .ok (.aload_n 2, 1) := by decide +kernel
theorem d_V_commit_44 : decode prog_1_method_5_code 44 = .ok (.getfield 49, 3) := by decide +kernel
theorem d_V_commit_47 : decode prog_1_method_5_code 47 = .ok (.iload_n 3, 1) := by decide +kernel
theorem d_V_commit_48 : decode prog_1_method_5_code 48 = .ok (.bipush (-2), 2) := by decide +kernel
theorem d_V_commit_50 : decode prog_1_method_5_code 50 = .ok (.invokevirtual 60, 3) := by decide +kernel
theorem d_V_commit_53 : decode prog_1_method_5_code 53 = .ok (.istore 4, 2) := by decide +kernel
theorem d_V_commit_55 : decode prog_1_method_5_code 55 = .ok (.iload 4, 2) := by decide +kernel
theorem d_V_commit_57 : decode prog_1_method_5_code 57 = .ok (.bipush (-6), 2) := by decide +kernel
theorem d_V_commit_59 : decode prog_1_method_5_code 59 = .ok (.if_icmp .eq 32, 3) := by decide +kernel
theorem d_V_commit_62 : decode prog_1_method_5_code 62 = .ok (.aload_n 2, 1) := by decide +kernel
theorem d_V_commit_63 : decode prog_1_method_5_code 63 = .ok (.dup, 1) := by decide +kernel
theorem d_V_commit_64 : decode prog_1_method_5_code 64 = .ok (.getfield 64, 3) := by decide +kernel
theorem d_V_commit_67 : decode prog_1_method_5_code 67 = .ok (.aload_n 0, 1) := by decide +kernel
theorem d_V_commit_68 : decode prog_1_method_5_code 68 = .ok (.getfield 10, 3) := by decide +kernel
theorem d_V_commit_71 : decode prog_1_method_5_code 71 = .ok (.iload 4, 2) := by decide +kernel
theorem d_V_commit_73 : decode prog_1_method_5_code 73 = .ok (.invokevirtual 68, 3) := by decide +kernel
theorem d_V_commit_76 : decode prog_1_method_5_code 76 = .ok (.lor, 1) := by decide +kernel
theorem d_V_commit_77 : decode prog_1_method_5_code 77 = .ok (.putfield 64, 3) := by decide +kernel
theorem d_V_commit_80 : decode prog_1_method_5_code 80 = .ok (.aload_n 2, 1) := by decide +kernel
theorem d_V_commit_81 : decode prog_1_method_5_code 81 = .ok (.getfield 72, 3) := by decide +kernel
theorem d_V_commit_84 : decode prog_1_method_5_code 84 = .ok (.aload_n 2, 1) := by decide +kernel
theorem d_V_commit_85 : decode prog_1_method_5_code 85 = .ok (.getfield 76, 3) := by decide +kernel
theorem d_V_commit_88 : decode prog_1_method_5_code 88 = .ok (.iload 4, 2) := by decide +kernel
theorem d_V_commit_90 : decode prog_1_method_5_code 90 = .ok (.iastore, 1) := by decide +kernel
theorem d_V_commit_91 : decode prog_1_method_5_code 91 = .ok (.iload 4, 2) := by decide +kernel
theorem d_V_commit_93 : decode prog_1_method_5_code 93 = .ok (.ireturn, 1) := by decide +kernel
theorem d_V_branch_0 : decode prog_1_method_6_code 0 = .ok (.iload_n 1, 1) := by decide +kernel
theorem d_V_branch_1 : decode prog_1_method_6_code 1 = .ok (.invokestatic 30, 3) := by decide +kernel
theorem d_V_branch_4 : decode prog_1_method_6_code 4 = .ok (.ifCond .eq 10, 3) := by decide +kernel
theorem d_V_branch_7 : decode prog_1_method_6_code 7 = .ok (.iload_n 2, 1) := by decide +kernel
theorem d_V_branch_8 : decode prog_1_method_6_code 8 = .ok (.invokestatic 80, 3) := by decide +kernel
theorem d_V_branch_11 : decode prog_1_method_6_code 11 = .ok (.ifCond .ne 5, 3) := by decide +kernel
theorem d_V_branch_14 : decode prog_1_method_6_code 14 = .ok (.iconst 0, 1) := by decide +kernel
theorem d_V_branch_15 : decode prog_1_method_6_code 15 = .ok (.ireturn, 1) := by decide +kernel
theorem d_V_branch_16 : decode prog_1_method_6_code 16 = .ok (.aload_n 0, 1) := by decide +kernel
theorem d_V_branch_17 : decode prog_1_method_6_code 17 = .ok (.getfield 18, 3) := by decide +kernel
theorem d_V_branch_20 : decode prog_1_method_6_code 20 = .ok (.iload_n 1, 1) := by decide +kernel
theorem d_V_branch_21 : decode prog_1_method_6_code 21 = .ok (.aaload, 1) := by decide +kernel
theorem d_V_branch_22 : decode prog_1_method_6_code 22 = .ok (.astore_n 3, 1) := by decide +kernel
theorem d_V_branch_23 : decode prog_1_method_6_code 23 = .ok (.aload_n 3, 1) := by decide +kernel
theorem d_V_branch_24 : decode prog_1_method_6_code 24 = .ok (.getfield 72, 3) := by decide +kernel
theorem d_V_branch_27 : decode prog_1_method_6_code 27 = .ok (.iload_n 2, 1) := by decide +kernel
theorem d_V_branch_28 : decode prog_1_method_6_code 28 = .ok (.iaload, 1) := by decide +kernel
theorem d_V_branch_29 : decode prog_1_method_6_code 29 = .ok (.bipush (-2), 2) := by decide +kernel
theorem d_V_branch_31 : decode prog_1_method_6_code 31 = .ok (.if_icmp .ne 12, 3) := by decide +kernel
theorem d_V_branch_34 : decode prog_1_method_6_code 34 = .ok (.aload_n 3, 1) := by decide +kernel
theorem d_V_branch_35 : decode prog_1_method_6_code 35 = .ok (.invokevirtual 52, 3) := by decide +kernel
theorem d_V_branch_38 : decode prog_1_method_6_code 38 = .ok (.bipush (-2), 2) := by decide +kernel
theorem d_V_branch_40 : decode prog_1_method_6_code 40 = .ok (.if_icmp .ne 5, 3) := by decide +kernel
theorem d_V_branch_43 : decode prog_1_method_6_code 43 = .ok (.iconst 0, 1) := by decide +kernel
theorem d_V_branch_44 : decode prog_1_method_6_code 44 = .ok (.ireturn, 1) := by decide +kernel
theorem d_V_branch_45 : decode prog_1_method_6_code 45 = .ok (.aload_n 3, 1) := by decide +kernel
theorem d_V_branch_46 : decode prog_1_method_6_code 46 = .ok (.getfield 72, 3) := by decide +kernel
theorem d_V_branch_49 : decode prog_1_method_6_code 49 = .ok (.iload_n 2, 1) := by decide +kernel
theorem d_V_branch_50 : decode prog_1_method_6_code 50 = .ok (.aload_n 3, 1) := by decide +kernel
theorem d_V_branch_51 : decode prog_1_method_6_code 51 = .ok (.invokevirtual 52, 3) := by decide +kernel
theorem d_V_branch_54 : decode prog_1_method_6_code 54 = .ok (.iastore, 1) := by decide +kernel
theorem d_V_branch_55 : decode prog_1_method_6_code 55 = .ok (.iconst 1, 1) := by decide +kernel
theorem d_V_branch_56 : decode prog_1_method_6_code 56 = .ok (.ireturn, 1) := by decide +kernel
theorem d_V_isBranch_0 : decode prog_1_method_24_code 0 = .ok (.iload_n 0, 1) := by decide +kernel
theorem d_V_isBranch_1 : decode prog_1_method_24_code 1 = .ok (.ifCond .lt 12, 3) := by decide +kernel
theorem d_V_isBranch_4 : decode prog_1_method_24_code 4 = .ok (.iload_n 0, 1) := by decide +kernel
theorem d_V_isBranch_5 : decode prog_1_method_24_code 5 = .ok (.iconst 4, 1) := by decide +kernel
theorem d_V_isBranch_6 : decode prog_1_method_24_code 6 = .ok (.if_icmp .ge 7, 3) := by decide +kernel
theorem d_V_isBranch_9 : decode prog_1_method_24_code 9 = .ok (.iconst 1, 1) := by decide +kernel
theorem d_V_isBranch_10 : decode prog_1_method_24_code 10 = .ok (.goto 4, 3) := by decide +kernel
theorem d_V_isBranch_13 : decode prog_1_method_24_code 13 = .ok (.iconst 0, 1) := by decide +kernel
theorem d_V_isBranch_14 : decode prog_1_method_24_code 14 = .ok (.ireturn, 1) := by decide +kernel
theorem d_V_drop_0 : decode prog_1_method_7_code 0 = .ok (.iload_n 1, 1) := by decide +kernel
theorem d_V_drop_1 : decode prog_1_method_7_code 1 = .ok (.invokestatic 30, 3) := by decide +kernel
theorem d_V_drop_4 : decode prog_1_method_7_code 4 = .ok (.ifCond .eq 10, 3) := by decide +kernel
theorem d_V_drop_7 : decode prog_1_method_7_code 7 = .ok (.iload_n 2, 1) := by decide +kernel
theorem d_V_drop_8 : decode prog_1_method_7_code 8 = .ok (.invokestatic 80, 3) := by decide +kernel
theorem d_V_drop_11 : decode prog_1_method_7_code 11 = .ok (.ifCond .ne 5, 3) := by decide +kernel
theorem d_V_drop_14 : decode prog_1_method_7_code 14 = .ok (.iconst 0, 1) := by decide +kernel
theorem d_V_drop_15 : decode prog_1_method_7_code 15 = .ok (.ireturn, 1) := by decide +kernel
theorem d_V_drop_16 : decode prog_1_method_7_code 16 = .ok (.aload_n 0, 1) := by decide +kernel
theorem d_V_drop_17 : decode prog_1_method_7_code 17 = .ok (.getfield 18, 3) := by decide +kernel
theorem d_V_drop_20 : decode prog_1_method_7_code 20 = .ok (.iload_n 1, 1) := by decide +kernel
theorem d_V_drop_21 : decode prog_1_method_7_code 21 = .ok (.aaload, 1) := by decide +kernel
theorem d_V_drop_22 : decode prog_1_method_7_code 22 = .ok (.astore_n 3, 1) := by decide +kernel
theorem d_V_drop_23 : decode prog_1_method_7_code 23 = .ok (.aload_n 3, 1) := by decide +kernel
theorem d_V_drop_24 : decode prog_1_method_7_code 24 = .ok (.getfield 72, 3) := by decide +kernel
theorem d_V_drop_27 : decode prog_1_method_7_code 27 = .ok (.iload_n 2, 1) := by decide +kernel
theorem d_V_drop_28 : decode prog_1_method_7_code 28 = .ok (.iaload, 1) := by decide +kernel
theorem d_V_drop_29 : decode prog_1_method_7_code 29 = .ok (.bipush (-2), 2) := by decide +kernel
theorem d_V_drop_31 : decode prog_1_method_7_code 31 = .ok (.if_icmp .eq 11, 3) := by decide +kernel
theorem d_V_drop_34 : decode prog_1_method_7_code 34 = .ok (.aload_n 3, 1) := by decide +kernel
theorem d_V_drop_35 : decode prog_1_method_7_code 35 = .ok (.getfield 76, 3) := by decide +kernel
theorem d_V_drop_38 : decode prog_1_method_7_code 38 = .ok (.iload_n 2, 1) := by decide +kernel
theorem d_V_drop_39 : decode prog_1_method_7_code 39 = .ok (.if_icmp .ne 5, 3) := by decide +kernel
theorem d_V_drop_42 : decode prog_1_method_7_code 42 = .ok (.iconst 0, 1) := by decide +kernel
theorem d_V_drop_43 : decode prog_1_method_7_code 43 = .ok (.ireturn, 1) := by decide +kernel
theorem d_V_drop_44 : decode prog_1_method_7_code 44 = .ok (.aload_n 3, 1) := by decide +kernel
theorem d_V_drop_45 : decode prog_1_method_7_code 45 = .ok (.getfield 72, 3) := by decide +kernel
theorem d_V_drop_48 : decode prog_1_method_7_code 48 = .ok (.iload_n 2, 1) := by decide +kernel
theorem d_V_drop_49 : decode prog_1_method_7_code 49 = .ok (.bipush (-2), 2) := by decide +kernel
theorem d_V_drop_51 : decode prog_1_method_7_code 51 = .ok (.iastore, 1) := by decide +kernel
theorem d_V_drop_52 : decode prog_1_method_7_code 52 = .ok (.iconst 1, 1) := by decide +kernel
theorem d_V_drop_53 : decode prog_1_method_7_code 53 = .ok (.ireturn, 1) := by decide +kernel
theorem d_V_checkout_0 : decode prog_1_method_8_code 0 = .ok (.iload_n 1, 1) := by decide +kernel
theorem d_V_checkout_1 : decode prog_1_method_8_code 1 = .ok (.invokestatic 30, 3) := by decide +kernel
theorem d_V_checkout_4 : decode prog_1_method_8_code 4 = .ok (.ifCond .eq 10, 3) := by decide +kernel
theorem d_V_checkout_7 : decode prog_1_method_8_code 7 = .ok (.iload_n 2, 1) := by decide +kernel
theorem d_V_checkout_8 : decode prog_1_method_8_code 8 = .ok (.invokestatic 80, 3) := by decide +kernel
theorem d_V_checkout_11 : decode prog_1_method_8_code 11 = .ok (.ifCond .ne 5, 3) := by decide +kernel
theorem d_V_checkout_14 : decode prog_1_method_8_code 14 = .ok (.iconst (-1), 1) := by decide +kernel
theorem d_V_checkout_15 : decode prog_1_method_8_code 15 = .ok (.ireturn, 1) := by decide +kernel
theorem d_V_checkout_16 : decode prog_1_method_8_code 16 = .ok (.aload_n 0, 1) := by decide +kernel
theorem d_V_checkout_17 : decode prog_1_method_8_code 17 = .ok (.getfield 18, 3) := by decide +kernel
theorem d_V_checkout_20 : decode prog_1_method_8_code 20 = .ok (.iload_n 1, 1) := by decide +kernel
theorem d_V_checkout_21 : decode prog_1_method_8_code 21 = .ok (.aaload, 1) := by decide +kernel
theorem d_V_checkout_22 : decode prog_1_method_8_code 22 = .ok (.astore_n 3, 1) := by decide +kernel
theorem d_V_checkout_23 : decode prog_1_method_8_code 23 = .ok (.aload_n 3, 1) := by decide +kernel
theorem d_V_checkout_24 : decode prog_1_method_8_code 24 = .ok (.getfield 72, 3) := by decide +kernel
theorem d_V_checkout_27 : decode prog_1_method_8_code 27 = .ok (.iload_n 2, 1) := by decide +kernel
theorem d_V_checkout_28 : decode prog_1_method_8_code 28 = .ok (.iaload, 1) := by decide +kernel
theorem d_V_checkout_29 : decode prog_1_method_8_code 29 = .ok (.istore 4, 2) := by decide +kernel
theorem d_V_checkout_31 : decode prog_1_method_8_code 31 = .ok (.iload 4, 2) := by decide +kernel
theorem d_V_checkout_33 : decode prog_1_method_8_code 33 = .ok (.bipush (-2), 2) := by decide +kernel
theorem d_V_checkout_35 : decode prog_1_method_8_code 35 = .ok (.if_icmp .ne 6, 3) := by decide +kernel
theorem d_V_checkout_38 : decode prog_1_method_8_code 38 = .ok (.bipush (-2), 2) := by decide +kernel
theorem d_V_checkout_40 : decode prog_1_method_8_code 40 = .ok (.ireturn, 1) := by decide +kernel
theorem d_V_checkout_41 : decode prog_1_method_8_code 41 = .ok (.aload_n 0, 1) := by decide +kernel
theorem d_V_checkout_42 : decode prog_1_method_8_code 42 = .ok (.aload_n 3, 1) := by decide +kernel
theorem d_V_checkout_43 : decode prog_1_method_8_code 43 = .ok (.invokevirtual 83, 3) := by decide +kernel
theorem d_V_checkout_46 : decode prog_1_method_8_code 46 = .ok (.ifCond .ne 6, 3) := by decide +kernel
theorem d_V_checkout_49 : decode prog_1_method_8_code 49 = .ok (.bipush (-3), 2) := by decide +kernel
theorem d_V_checkout_51 : decode prog_1_method_8_code 51 = .ok (.ireturn, 1) := by decide +kernel
theorem d_V_checkout_52 : decode prog_1_method_8_code 52 = .ok (.aload_n 3, 1) := by decide +kernel
theorem d_V_checkout_53 : decode prog_1_method_8_code 53 = .ok (.iload_n 2, 1) := by decide +kernel
theorem d_V_checkout_54 : decode prog_1_method_8_code 54 = .ok (.putfield 76, 3) := by decide +kernel
theorem d_V_checkout_57 : decode prog_1_method_8_code 57 = .ok (.aload_n 0, 1) := by decide +kernel
theorem d_V_checkout_58 : decode prog_1_method_8_code 58 = .ok (.aload_n 3, 1) := by decide +kernel
theorem d_V_checkout_59 : decode prog_1_method_8_code 59 = .ok (.iload 4, 2) := by decide +kernel
theorem d_V_checkout_61 : decode prog_1_method_8_code 61 = .ok (.invokevirtual 87, 3) := by decide +kernel
theorem d_V_checkout_64 : decode prog_1_method_8_code 64 = .ok (.iload 4, 2) := by decide +kernel
theorem d_V_checkout_66 : decode prog_1_method_8_code 66 = .ok (.ireturn, 1) := by decide +kernel
theorem d_V_isClean_0 : decode prog_1_method_27_code 0 = .ok (.aload_n 1, 1) := by decide +kernel
theorem d_V_isClean_1 : decode prog_1_method_27_code 1 = .ok (.invokevirtual 52, 3) := by decide +kernel
theorem d_V_isClean_4 : decode prog_1_method_27_code 4 = .ok (.istore_n 2, 1) := by decide +kernel
theorem d_V_isClean_5 : decode prog_1_method_27_code 5 = .ok (.aload_n 0, 1) := by decide +kernel
theorem d_V_isClean_6 : decode prog_1_method_27_code 6 = .ok (.getfield 10, 3) := by decide +kernel
theorem d_V_isClean_9 : decode prog_1_method_27_code 9 = .ok (.iload_n 2, 1) := by decide +kernel
theorem d_V_isClean_10 : decode prog_1_method_27_code 10 = .ok (.aload_n 1, 1) := by decide +kernel
theorem d_V_isClean_11 : decode prog_1_method_27_code 11 = .ok (.getfield 37, 3) := by decide +kernel
theorem d_V_isClean_14 : decode prog_1_method_27_code 14 = .ok (.invokevirtual 56, 3) := by decide +kernel
theorem d_V_isClean_17 : decode prog_1_method_27_code 17 = .ok (.ifCond .eq 22, 3) := by decide +kernel
theorem d_V_isClean_20 : decode prog_1_method_27_code 20 = .ok (.aload_n 0, 1) := by decide +kernel
theorem d_V_isClean_21 : decode prog_1_method_27_code 21 = .ok (.getfield 10, 3) := by decide +kernel
theorem d_V_isClean_24 : decode prog_1_method_27_code 24 = .ok (.iload_n 2, 1) := by decide +kernel
theorem d_V_isClean_25 : decode prog_1_method_27_code 25 = .ok (.aload_n 1, 1) := by decide +kernel
theorem d_V_isClean_26 : decode prog_1_method_27_code 26 = .ok (.getfield 49, 3) := by decide +kernel
theorem d_V_isClean_29 : decode prog_1_method_27_code 29 = .ok (.invokevirtual 56, 3) := by decide +kernel
theorem d_V_isClean_32 : decode prog_1_method_27_code 32 = .ok (.ifCond .eq 7, 3) := by decide +kernel
theorem d_V_isClean_35 : decode prog_1_method_27_code 35 = .ok (.iconst 1, 1) := by decide +kernel
theorem d_V_isClean_36 : decode prog_1_method_27_code 36 = .ok (.goto 4, 3) := by decide +kernel
theorem d_V_isClean_39 : decode prog_1_method_27_code 39 = .ok (.iconst 0, 1) := by decide +kernel
theorem d_V_isClean_40 : decode prog_1_method_27_code 40 = .ok (.ireturn, 1) := by decide +kernel
theorem d_V_moveTo_0 : decode prog_1_method_29_code 0 = .ok (.aload_n 1, 1) := by decide +kernel
theorem d_V_moveTo_1 : decode prog_1_method_29_code 1 = .ok (.dup, 1) := by decide +kernel
theorem d_V_moveTo_2 : decode prog_1_method_29_code 2 = .ok (.getfield 64, 3) := by decide +kernel
theorem d_V_moveTo_5 : decode prog_1_method_29_code 5 = .ok (.aload_n 0, 1) := by decide +kernel
theorem d_V_moveTo_6 : decode prog_1_method_29_code 6 = .ok (.getfield 10, 3) := by decide +kernel
theorem d_V_moveTo_9 : decode prog_1_method_29_code 9 = .ok (.iload_n 2, 1) := by decide +kernel
theorem d_V_moveTo_10 : decode prog_1_method_29_code 10 = .ok (.invokevirtual 68, 3) := by decide +kernel
theorem d_V_moveTo_13 : decode prog_1_method_29_code 13 = .ok (.lor, 1) := by decide +kernel
theorem d_V_moveTo_14 : decode prog_1_method_29_code 14 = .ok (.putfield 64, 3) := by decide +kernel
theorem d_V_moveTo_17 : decode prog_1_method_29_code 17 = .ok (.aload_n 1, 1) := by decide +kernel
theorem d_V_moveTo_18 : decode prog_1_method_29_code 18 = .ok (.getfield 72, 3) := by decide +kernel
theorem d_V_moveTo_21 : decode prog_1_method_29_code 21 = .ok (.aload_n 1, 1) := by decide +kernel
theorem d_V_moveTo_22 : decode prog_1_method_29_code 22 = .ok (.getfield 76, 3) := by decide +kernel
theorem d_V_moveTo_25 : decode prog_1_method_29_code 25 = .ok (.iload_n 2, 1) := by decide +kernel
theorem d_V_moveTo_26 : decode prog_1_method_29_code 26 = .ok (.iastore, 1) := by decide +kernel
theorem d_V_moveTo_27 : decode prog_1_method_29_code 27 = .ok (.aload_n 0, 1) := by decide +kernel
theorem d_V_moveTo_28 : decode prog_1_method_29_code 28 = .ok (.getfield 10, 3) := by decide +kernel
theorem d_V_moveTo_31 : decode prog_1_method_29_code 31 = .ok (.iload_n 2, 1) := by decide +kernel
theorem d_V_moveTo_32 : decode prog_1_method_29_code 32 = .ok (.aload_n 1, 1) := by decide +kernel
theorem d_V_moveTo_33 : decode prog_1_method_29_code 33 = .ok (.getfield 37, 3) := by decide +kernel
theorem d_V_moveTo_36 : decode prog_1_method_29_code 36 = .ok (.invokevirtual 149, 3) := by decide +kernel
theorem d_V_moveTo_39 : decode prog_1_method_29_code 39 = .ok (.aload_n 0, 1) := by decide +kernel
theorem d_V_moveTo_40 : decode prog_1_method_29_code 40 = .ok (.getfield 10, 3) := by decide +kernel
theorem d_V_moveTo_43 : decode prog_1_method_29_code 43 = .ok (.iload_n 2, 1) := by decide +kernel
theorem d_V_moveTo_44 : decode prog_1_method_29_code 44 = .ok (.aload_n 1, 1) := by decide +kernel
theorem d_V_moveTo_45 : decode prog_1_method_29_code 45 = .ok (.getfield 49, 3) := by decide +kernel
theorem d_V_moveTo_48 : decode prog_1_method_29_code 48 = .ok (.invokevirtual 149, 3) := by decide +kernel
theorem d_V_moveTo_51 : decode prog_1_method_29_code 51 = .ok (.return_, 1) := by decide +kernel
theorem d_V_merge_0 : decode prog_1_method_9_code 0 = .ok (.aload_n 0, 1) := by decide +kernel
theorem d_V_merge_1 : decode prog_1_method_9_code 1 = .ok (.iload_n 1, 1) := by decide +kernel
theorem d_V_merge_2 : decode prog_1_method_9_code 2 = .ok (.iload_n 2, 1) := by decide +kernel
theorem d_V_merge_3 : decode prog_1_method_9_code 3 = .ok (.invokevirtual 91, 3) := by decide +kernel
theorem d_V_merge_6 : decode prog_1_method_9_code 6 = .ok (.istore_n 3, 1) := by decide +kernel
theorem d_V_merge_7 : decode prog_1_method_9_code 7 = .ok (.iload_n 3, 1) := by decide +kernel
theorem d_V_merge_8 : decode prog_1_method_9_code 8 = .ok (.ifCond .eq 5, 3) := by decide +kernel
theorem d_V_merge_11 : decode prog_1_method_9_code 11 = .ok (.iload_n 3, 1) := by decide +kernel
theorem d_V_merge_12 : decode prog_1_method_9_code 12 = .ok (.ireturn, 1) := by decide +kernel
theorem d_V_merge_13 : decode prog_1_method_9_code 13 = .ok (.aload_n 0, 1) := by decide +kernel
theorem d_V_merge_14 : decode prog_1_method_9_code 14 = .ok (.getfield 18, 3) := by decide +kernel
theorem d_V_merge_17 : decode prog_1_method_9_code 17 = .ok (.iload_n 1, 1) := by decide +kernel
theorem d_V_merge_18 : decode prog_1_method_9_code 18 = .ok (.aaload, 1) := by decide +kernel
theorem d_V_merge_19 : decode prog_1_method_9_code 19 = .ok (.astore 4, 2) := by decide +kernel
theorem d_V_merge_21 : decode prog_1_method_9_code 21 = .ok (.aload 4, 2) := by decide +kernel
theorem d_V_merge_23 : decode prog_1_method_9_code 23 = .ok (.invokevirtual 52, 3) := by decide +kernel
theorem d_V_merge_26 : decode prog_1_method_9_code 26 = .ok (.istore 5, 2) := by decide +kernel
theorem d_V_merge_28 : decode prog_1_method_9_code 28 = .ok (.aload 4, 2) := by decide +kernel
theorem d_V_merge_30 : decode prog_1_method_9_code 30 = .ok (.getfield 72, 3) := by decide +kernel
theorem d_V_merge_33 : decode prog_1_method_9_code 33 = .ok (.iload_n 2, 1) := by decide +kernel
theorem d_V_merge_34 : decode prog_1_method_9_code 34 = .ok (.iaload, 1) := by decide +kernel
theorem d_V_merge_35 : decode prog_1_method_9_code 35 = .ok (.istore 6, 2) := by decide +kernel
theorem d_V_merge_37 : decode prog_1_method_9_code 37 = .ok (.aload_n 0, 1) := by decide +kernel
theorem d_V_merge_38 : decode prog_1_method_9_code 38 = .ok (.getfield 10, 3) := by decide +kernel
theorem d_V_merge_41 : decode prog_1_method_9_code 41 = .ok (.iload 5, 2) := by decide +kernel
theorem d_V_merge_43 : decode prog_1_method_9_code 43 = .ok (.iload 6, 2) := by decide +kernel
theorem d_V_merge_45 : decode prog_1_method_9_code 45 = .ok (.invokevirtual 95, 3) := by decide +kernel
theorem d_V_merge_48 : decode prog_1_method_9_code 48 = .ok (.ifCond .eq 6, 3) := by decide +kernel
theorem d_V_merge_51 : decode prog_1_method_9_code 51 = .ok (.bipush (-4), 2) := by decide +kernel
theorem d_V_merge_53 : decode prog_1_method_9_code 53 = .ok (.ireturn, 1) := by decide +kernel
theorem d_V_merge_54 : decode prog_1_method_9_code 54 = .ok (.aload_n 0, 1) := by decide +kernel
theorem d_V_merge_55 : decode prog_1_method_9_code 55 = .ok (.getfield 10, 3) := by decide +kernel
theorem d_V_merge_58 : decode prog_1_method_9_code 58 = .ok (.iload 6, 2) := by decide +kernel
theorem d_V_merge_60 : decode prog_1_method_9_code 60 = .ok (.iload 5, 2) := by decide +kernel
theorem d_V_merge_62 : decode prog_1_method_9_code 62 = .ok (.invokevirtual 95, 3) := by decide +kernel
theorem d_V_merge_65 : decode prog_1_method_9_code 65 = .ok (.ifCond .eq 8, 3) := by decide +kernel
theorem d_V_merge_68 : decode prog_1_method_9_code 68 = .ok (.iload 6, 2) := by decide +kernel
theorem d_V_merge_70 : decode prog_1_method_9_code 70 = .ok (.goto 11, 3) := by decide +kernel
theorem d_V_merge_73 : decode prog_1_method_9_code 73 = .ok (.aload_n 0, 1) := by decide +kernel
theorem d_V_merge_74 : decode prog_1_method_9_code 74 = .ok (.iload 5, 2) := by decide +kernel
theorem d_V_merge_76 : decode prog_1_method_9_code 76 = .ok (.iload 6, 2) := by decide +kernel
theorem d_V_merge_78 : decode prog_1_method_9_code 78 = .ok (.invokevirtual 99, 3) := by decide +kernel
theorem d_V_merge_81 : decode prog_1_method_9_code 81 = .ok (.istore 7, 2) := by decide +kernel
theorem d_V_merge_83 : decode prog_1_method_9_code 83 = .ok (.iload 7, 2) := by decide +kernel
theorem d_V_merge_85 : decode prog_1_method_9_code 85 = .ok (.ifCond .lt 11, 3) := by decide +kernel
theorem d_V_merge_88 : decode prog_1_method_9_code 88 = .ok (.aload_n 0, 1) := by decide +kernel
theorem d_V_merge_89 : decode prog_1_method_9_code 89 = .ok (.aload 4, 2) := by decide +kernel
theorem d_V_merge_91 : decode prog_1_method_9_code 91 = .ok (.iload 7, 2) := by decide +kernel
theorem d_V_merge_93 : decode prog_1_method_9_code 93 = .ok (.invokevirtual 87, 3) := by decide +kernel
theorem d_V_merge_96 : decode prog_1_method_9_code 96 = .ok (.iload 7, 2) := by decide +kernel
theorem d_V_merge_98 : decode prog_1_method_9_code 98 = .ok (.ireturn, 1) := by decide +kernel
theorem d_V_refusalToChangeHead_0 : decode prog_1_method_28_code 0 = .ok (.iload_n 1, 1) := by decide +kernel
theorem d_V_refusalToChangeHead_1 : decode prog_1_method_28_code 1 = .ok (.invokestatic 30, 3) := by decide +kernel
theorem d_V_refusalToChangeHead_4 : decode prog_1_method_28_code 4 = .ok (.ifCond .eq 10, 3) := by decide +kernel
theorem d_V_refusalToChangeHead_7 : decode prog_1_method_28_code 7 = .ok (.iload_n 2, 1) := by decide +kernel
theorem d_V_refusalToChangeHead_8 : decode prog_1_method_28_code 8 = .ok (.invokestatic 80, 3) := by decide +kernel
theorem d_V_refusalToChangeHead_11 : decode prog_1_method_28_code 11 = .ok (.ifCond .ne 5, 3) := by decide +kernel
theorem d_V_refusalToChangeHead_14 : decode prog_1_method_28_code 14 = .ok (.iconst (-1), 1) := by decide +kernel
theorem d_V_refusalToChangeHead_15 : decode prog_1_method_28_code 15 = .ok (.ireturn, 1) := by decide +kernel
theorem d_V_refusalToChangeHead_16 : decode prog_1_method_28_code 16 = .ok (.aload_n 0, 1) := by decide +kernel
theorem d_V_refusalToChangeHead_17 : decode prog_1_method_28_code 17 = .ok (.getfield 18, 3) := by decide +kernel
theorem d_V_refusalToChangeHead_20 : decode prog_1_method_28_code 20 = .ok (.iload_n 1, 1) := by decide +kernel
theorem d_V_refusalToChangeHead_21 : decode prog_1_method_28_code 21 = .ok (.aaload, 1) := by decide +kernel
theorem d_V_refusalToChangeHead_22 : decode prog_1_method_28_code 22 = .ok (.astore_n 3, 1) := by decide +kernel
theorem d_V_refusalToChangeHead_23 : decode prog_1_method_28_code 23 = .ok (.aload_n 3, 1) := by decide +kernel
theorem d_V_refusalToChangeHead_24 : decode prog_1_method_28_code 24 = .ok (.getfield 72, 3) := by decide +kernel
theorem d_V_refusalToChangeHead_27 : decode prog_1_method_28_code 27 = .ok (.iload_n 2, 1) := by decide +kernel
theorem d_V_refusalToChangeHead_28 : decode prog_1_method_28_code 28 = .ok (.iaload, 1) := by decide +kernel
theorem d_V_refusalToChangeHead_29 : decode prog_1_method_28_code 29 = .ok (.bipush (-2), 2) := by decide +kernel
theorem d_V_refusalToChangeHead_31 : decode prog_1_method_28_code 31 = .ok (.if_icmp .eq 12, 3) := by decide +kernel
theorem d_V_refusalToChangeHead_34 : decode prog_1_method_28_code 34 = .ok (.aload_n 3, 1) := by decide +kernel
theorem d_V_refusalToChangeHead_35 : decode prog_1_method_28_code 35 = .ok (.invokevirtual 52, 3) := by decide +kernel
theorem d_V_refusalToChangeHead_38 : decode prog_1_method_28_code 38 = .ok (.bipush (-2), 2) := by decide +kernel
theorem d_V_refusalToChangeHead_40 : decode prog_1_method_28_code 40 = .ok (.if_icmp .ne 6, 3) := by decide +kernel
theorem d_V_refusalToChangeHead_43 : decode prog_1_method_28_code 43 = .ok (.bipush (-2), 2) := by decide +kernel
theorem d_V_refusalToChangeHead_45 : decode prog_1_method_28_code 45 = .ok (.ireturn, 1) := by decide +kernel
theorem d_V_refusalToChangeHead_46 : decode prog_1_method_28_code 46 = .ok (.aload_n 0, 1) := by decide +kernel
theorem d_V_refusalToChangeHead_47 : decode prog_1_method_28_code 47 = .ok (.aload_n 3, 1) := by decide +kernel
theorem d_V_refusalToChangeHead_48 : decode prog_1_method_28_code 48 = .ok (.invokevirtual 83, 3) := by decide +kernel
theorem d_V_refusalToChangeHead_51 : decode prog_1_method_28_code 51 = .ok (.ifCond .eq 7, 3) := by decide +kernel
theorem d_V_refusalToChangeHead_54 : decode prog_1_method_28_code 54 = .ok (.iconst 0, 1) := by decide +kernel
theorem d_V_refusalToChangeHead_55 : decode prog_1_method_28_code 55 = .ok (.goto 5, 3) := by decide +kernel
theorem d_V_refusalToChangeHead_58 : decode prog_1_method_28_code 58 = .ok (.bipush (-3), 2) := by decide +kernel
theorem d_V_refusalToChangeHead_60 : decode prog_1_method_28_code 60 = .ok (.ireturn, 1) := by decide +kernel
theorem d_V_joinCommits_0 : decode prog_1_method_30_code 0 = .ok (.aload_n 0, 1) := by decide +kernel
theorem d_V_joinCommits_1 : decode prog_1_method_30_code 1 = .ok (.getfield 26, 3) := by decide +kernel
theorem d_V_joinCommits_4 : decode prog_1_method_30_code 4 = .ok (.aload_n 0, 1) := by decide +kernel
theorem d_V_joinCommits_5 : decode prog_1_method_30_code 5 = .ok (.getfield 10, 3) := by decide +kernel
theorem d_V_joinCommits_8 : decode prog_1_method_30_code 8 = .ok (.aload_n 0, 1) := by decide +kernel
theorem d_V_joinCommits_9 : decode prog_1_method_30_code 9 = .ok (.getfield 10, 3) := by decide +kernel
theorem d_V_joinCommits_12 : decode prog_1_method_30_code 12 = .ok (.iload_n 1, 1) := by decide +kernel
theorem d_V_joinCommits_13 : decode prog_1_method_30_code 13 = .ok (.iload_n 2, 1) := by decide +kernel
theorem d_V_joinCommits_14 : decode prog_1_method_30_code 14 = .ok (.invokevirtual 142, 3) := by decide +kernel
theorem d_V_joinCommits_17 : decode prog_1_method_30_code 17 = .ok (.iload_n 1, 1) := by decide +kernel
theorem d_V_joinCommits_18 : decode prog_1_method_30_code 18 = .ok (.iload_n 2, 1) := by decide +kernel
theorem d_V_joinCommits_19 : decode prog_1_method_30_code 19 = .ok (.invokevirtual 153, 3) := by decide +kernel
theorem d_V_joinCommits_22 : decode prog_1_method_30_code 22 = .ok (.ifCond .ne 6, 3) := by decide +kernel
theorem d_V_joinCommits_25 : decode prog_1_method_30_code 25 = .ok (.bipush (-5), 2) := by decide +kernel
theorem d_V_joinCommits_27 : decode prog_1_method_30_code 27 = .ok (.ireturn, 1) := by decide +kernel
theorem d_V_joinCommits_28 : decode prog_1_method_30_code 28 = .ok (.aload_n 0, 1) := by decide +kernel
theorem d_V_joinCommits_29 : decode prog_1_method_30_code 29 = .ok (.getfield 10, 3) := by decide +kernel
theorem d_V_joinCommits_32 : decode prog_1_method_30_code 32 = .ok (.aload_n 0, 1) := by decide +kernel
theorem d_V_joinCommits_33 : decode prog_1_method_30_code 33 = .ok (.getfield 26, 3) := by decide +kernel
theorem d_V_joinCommits_36 : decode prog_1_method_30_code 36 = .ok (.getfield 157, 3) := by decide +kernel
theorem d_V_joinCommits_39 : decode prog_1_method_30_code 39 = .ok (.iload_n 1, 1) := by decide +kernel
theorem d_V_joinCommits_40 : decode prog_1_method_30_code 40 = .ok (.iload_n 2, 1) := by decide +kernel
theorem d_V_joinCommits_41 : decode prog_1_method_30_code 41 = .ok (.invokevirtual 60, 3) := by decide +kernel
theorem d_V_joinCommits_44 : decode prog_1_method_30_code 44 = .ok (.ireturn, 1) := by decide +kernel
theorem d_V_pick_0 : decode prog_1_method_10_code 0 = .ok (.iload_n 1, 1) := by decide +kernel
theorem d_V_pick_1 : decode prog_1_method_10_code 1 = .ok (.invokestatic 30, 3) := by decide +kernel
theorem d_V_pick_4 : decode prog_1_method_10_code 4 = .ok (.ifCond .ne 5, 3) := by decide +kernel
theorem d_V_pick_7 : decode prog_1_method_10_code 7 = .ok (.iconst (-1), 1) := by decide +kernel
theorem d_V_pick_8 : decode prog_1_method_10_code 8 = .ok (.ireturn, 1) := by decide +kernel
theorem d_V_pick_9 : decode prog_1_method_10_code 9 = .ok (.aload_n 0, 1) := by decide +kernel
theorem d_V_pick_10 : decode prog_1_method_10_code 10 = .ok (.getfield 18, 3) := by decide +kernel
theorem d_V_pick_13 : decode prog_1_method_10_code 13 = .ok (.iload_n 1, 1) := by decide +kernel
theorem d_V_pick_14 : decode prog_1_method_10_code 14 = .ok (.aaload, 1) := by decide +kernel
theorem d_V_pick_15 : decode prog_1_method_10_code 15 = .ok (.astore_n 3, 1) := by decide +kernel
theorem d_V_pick_16 : decode prog_1_method_10_code 16 = .ok (.aload_n 0, 1) := by decide +kernel
theorem d_V_pick_17 : decode prog_1_method_10_code 17 = .ok (.aload_n 3, 1) := by decide +kernel
theorem d_V_pick_18 : decode prog_1_method_10_code 18 = .ok (.iload_n 2, 1) := by decide +kernel
theorem d_V_pick_19 : decode prog_1_method_10_code 19 = .ok (.invokevirtual 102, 3) := by decide +kernel
theorem d_V_pick_22 : decode prog_1_method_10_code 22 = .ok (.ifCond .eq 12, 3) := by decide +kernel
theorem d_V_pick_25 : decode prog_1_method_10_code 25 = .ok (.aload_n 3, 1) := by decide +kernel
theorem d_V_pick_26 : decode prog_1_method_10_code 26 = .ok (.invokevirtual 52, 3) := by decide +kernel
theorem d_V_pick_29 : decode prog_1_method_10_code 29 = .ok (.bipush (-2), 2) := by decide +kernel
theorem d_V_pick_31 : decode prog_1_method_10_code 31 = .ok (.if_icmp .ne 6, 3) := by decide +kernel
theorem d_V_pick_34 : decode prog_1_method_10_code 34 = .ok (.bipush (-2), 2) := by decide +kernel
theorem d_V_pick_36 : decode prog_1_method_10_code 36 = .ok (.ireturn, 1) := by decide +kernel
theorem d_V_pick_37 : decode prog_1_method_10_code 37 = .ok (.aload_n 0, 1) := by decide +kernel
theorem d_V_pick_38 : decode prog_1_method_10_code 38 = .ok (.aload_n 3, 1) := by decide +kernel
theorem d_V_pick_39 : decode prog_1_method_10_code 39 = .ok (.invokevirtual 83, 3) := by decide +kernel
theorem d_V_pick_42 : decode prog_1_method_10_code 42 = .ok (.ifCond .ne 6, 3) := by decide +kernel
theorem d_V_pick_45 : decode prog_1_method_10_code 45 = .ok (.bipush (-3), 2) := by decide +kernel
theorem d_V_pick_47 : decode prog_1_method_10_code 47 = .ok (.ireturn, 1) := by decide +kernel
theorem d_V_pick_48 : decode prog_1_method_10_code 48 = .ok (.aload_n 0, 1) := by decide +kernel
theorem d_V_pick_49 : decode prog_1_method_10_code 49 = .ok (.iload_n 2, 1) := by decide +kernel
theorem d_V_pick_50 : decode prog_1_method_10_code 50 = .ok (.aload_n 3, 1) := by decide +kernel
theorem d_V_pick_51 : decode prog_1_method_10_code 51 = .ok (.invokevirtual 52, 3) := by decide +kernel
theorem d_V_pick_54 : decode prog_1_method_10_code 54 = .ok (.invokevirtual 106, 3) := by decide +kernel
theorem d_V_pick_57 : decode prog_1_method_10_code 57 = .ok (.istore 4, 2) := by decide +kernel
theorem d_V_pick_59 : decode prog_1_method_10_code 59 = .ok (.iload 4, 2) := by decide +kernel
theorem d_V_pick_61 : decode prog_1_method_10_code 61 = .ok (.ifCond .lt 10, 3) := by decide +kernel
theorem d_V_pick_64 : decode prog_1_method_10_code 64 = .ok (.aload_n 0, 1) := by decide +kernel
theorem d_V_pick_65 : decode prog_1_method_10_code 65 = .ok (.aload_n 3, 1) := by decide +kernel
theorem d_V_pick_66 : decode prog_1_method_10_code 66 = .ok (.iload 4, 2) := by decide +kernel
theorem d_V_pick_68 : decode prog_1_method_10_code 68 = .ok (.invokevirtual 87, 3) := by decide +kernel
theorem d_V_pick_71 : decode prog_1_method_10_code 71 = .ok (.iload 4, 2) := by decide +kernel
theorem d_V_pick_73 : decode prog_1_method_10_code 73 = .ok (.ireturn, 1) := by decide +kernel
theorem d_V_isHeld_0 : decode prog_1_method_26_code 0 = .ok (.aload_n 0, 1) := by decide +kernel
theorem d_V_isHeld_1 : decode prog_1_method_26_code 1 = .ok (.getfield 10, 3) := by decide +kernel
theorem d_V_isHeld_4 : decode prog_1_method_26_code 4 = .ok (.iload_n 2, 1) := by decide +kernel
theorem d_V_isHeld_5 : decode prog_1_method_26_code 5 = .ok (.invokevirtual 128, 3) := by decide +kernel
theorem d_V_isHeld_8 : decode prog_1_method_26_code 8 = .ok (.ifCond .eq 18, 3) := by decide +kernel
theorem d_V_isHeld_11 : decode prog_1_method_26_code 11 = .ok (.aload_n 1, 1) := by decide +kernel
theorem d_V_isHeld_12 : decode prog_1_method_26_code 12 = .ok (.getfield 64, 3) := by decide +kernel
theorem d_V_isHeld_15 : decode prog_1_method_26_code 15 = .ok (.iload_n 2, 1) := by decide +kernel
theorem d_V_isHeld_16 : decode prog_1_method_26_code 16 = .ok (.invokestatic 145, 3) := by decide +kernel
theorem d_V_isHeld_19 : decode prog_1_method_26_code 19 = .ok (.ifCond .eq 7, 3) := by decide +kernel
theorem d_V_isHeld_22 : decode prog_1_method_26_code 22 = .ok (.iconst 1, 1) := by decide +kernel
theorem d_V_isHeld_23 : decode prog_1_method_26_code 23 = .ok (.goto 4, 3) := by decide +kernel
theorem d_V_isHeld_26 : decode prog_1_method_26_code 26 = .ok (.iconst 0, 1) := by decide +kernel
theorem d_V_isHeld_27 : decode prog_1_method_26_code 27 = .ok (.ireturn, 1) := by decide +kernel
theorem d_V_doAgain_0 : decode prog_1_method_31_code 0 = .ok (.aload_n 0, 1) := by decide +kernel
theorem d_V_doAgain_1 : decode prog_1_method_31_code 1 = .ok (.getfield 10, 3) := by decide +kernel
theorem d_V_doAgain_4 : decode prog_1_method_31_code 4 = .ok (.iload_n 1, 1) := by decide +kernel
theorem d_V_doAgain_5 : decode prog_1_method_31_code 5 = .ok (.invokevirtual 135, 3) := by decide +kernel
theorem d_V_doAgain_8 : decode prog_1_method_31_code 8 = .ok (.bipush (-2), 2) := by decide +kernel
theorem d_V_doAgain_10 : decode prog_1_method_31_code 10 = .ok (.if_icmp .eq 6, 3) := by decide +kernel
theorem d_V_doAgain_13 : decode prog_1_method_31_code 13 = .ok (.bipush (-4), 2) := by decide +kernel
theorem d_V_doAgain_15 : decode prog_1_method_31_code 15 = .ok (.ireturn, 1) := by decide +kernel
theorem d_V_doAgain_16 : decode prog_1_method_31_code 16 = .ok (.aload_n 0, 1) := by decide +kernel
theorem d_V_doAgain_17 : decode prog_1_method_31_code 17 = .ok (.getfield 26, 3) := by decide +kernel
theorem d_V_doAgain_20 : decode prog_1_method_31_code 20 = .ok (.aload_n 0, 1) := by decide +kernel
theorem d_V_doAgain_21 : decode prog_1_method_31_code 21 = .ok (.getfield 10, 3) := by decide +kernel
theorem d_V_doAgain_24 : decode prog_1_method_31_code 24 = .ok (.aload_n 0, 1) := by decide +kernel
theorem d_V_doAgain_25 : decode prog_1_method_31_code 25 = .ok (.getfield 10, 3) := by decide +kernel
theorem d_V_doAgain_28 : decode prog_1_method_31_code 28 = .ok (.iload_n 1, 1) := by decide +kernel
theorem d_V_doAgain_29 : decode prog_1_method_31_code 29 = .ok (.invokevirtual 131, 3) := by decide +kernel
theorem d_V_doAgain_32 : decode prog_1_method_31_code 32 = .ok (.iload_n 2, 1) := by decide +kernel
theorem d_V_doAgain_33 : decode prog_1_method_31_code 33 = .ok (.iload_n 1, 1) := by decide +kernel
theorem d_V_doAgain_34 : decode prog_1_method_31_code 34 = .ok (.invokevirtual 153, 3) := by decide +kernel
theorem d_V_doAgain_37 : decode prog_1_method_31_code 37 = .ok (.ifCond .ne 6, 3) := by decide +kernel
theorem d_V_doAgain_40 : decode prog_1_method_31_code 40 = .ok (.bipush (-5), 2) := by decide +kernel
theorem d_V_doAgain_42 : decode prog_1_method_31_code 42 = .ok (.ireturn, 1) := by decide +kernel
theorem d_V_doAgain_43 : decode prog_1_method_31_code 43 = .ok (.aload_n 0, 1) := by decide +kernel
theorem d_V_doAgain_44 : decode prog_1_method_31_code 44 = .ok (.getfield 10, 3) := by decide +kernel
theorem d_V_doAgain_47 : decode prog_1_method_31_code 47 = .ok (.iload_n 2, 1) := by decide +kernel
theorem d_V_doAgain_48 : decode prog_1_method_31_code 48 = .ok (.aload_n 0, 1) := by decide +kernel
theorem d_V_doAgain_49 : decode prog_1_method_31_code 49 = .ok (.getfield 26, 3) := by decide +kernel
theorem d_V_doAgain_52 : decode prog_1_method_31_code 52 = .ok (.getfield 157, 3) := by decide +kernel
theorem d_V_doAgain_55 : decode prog_1_method_31_code 55 = .ok (.invokevirtual 56, 3) := by decide +kernel
theorem d_V_doAgain_58 : decode prog_1_method_31_code 58 = .ok (.ifCond .eq 6, 3) := by decide +kernel
theorem d_V_doAgain_61 : decode prog_1_method_31_code 61 = .ok (.bipush (-4), 2) := by decide +kernel
theorem d_V_doAgain_63 : decode prog_1_method_31_code 63 = .ok (.ireturn, 1) := by decide +kernel
theorem d_V_doAgain_64 : decode prog_1_method_31_code 64 = .ok (.aload_n 0, 1) := by decide +kernel
theorem d_V_doAgain_65 : decode prog_1_method_31_code 65 = .ok (.getfield 10, 3) := by decide +kernel
theorem d_V_doAgain_68 : decode prog_1_method_31_code 68 = .ok (.aload_n 0, 1) := by decide +kernel
theorem d_V_doAgain_69 : decode prog_1_method_31_code 69 = .ok (.getfield 26, 3) := by decide +kernel
theorem d_V_doAgain_72 : decode prog_1_method_31_code 72 = .ok (.getfield 157, 3) := by decide +kernel
theorem d_V_doAgain_75 : decode prog_1_method_31_code 75 = .ok (.iload_n 2, 1) := by decide +kernel
theorem d_V_doAgain_76 : decode prog_1_method_31_code 76 = .ok (.bipush (-2), 2) := by decide +kernel
theorem d_V_doAgain_78 : decode prog_1_method_31_code 78 = .ok (.invokevirtual 60, 3) := by decide +kernel
theorem d_V_doAgain_81 : decode prog_1_method_31_code 81 = .ok (.ireturn, 1) := by decide +kernel
theorem d_V_rebase_0 : decode prog_1_method_11_code 0 = .ok (.aload_n 0, 1) := by decide +kernel
theorem d_V_rebase_1 : decode prog_1_method_11_code 1 = .ok (.iload_n 1, 1) := by decide +kernel
theorem d_V_rebase_2 : decode prog_1_method_11_code 2 = .ok (.iload_n 2, 1) := by decide +kernel
theorem d_V_rebase_3 : decode prog_1_method_11_code 3 = .ok (.invokevirtual 91, 3) := by decide +kernel
theorem d_V_rebase_6 : decode prog_1_method_11_code 6 = .ok (.istore_n 3, 1) := by decide +kernel
theorem d_V_rebase_7 : decode prog_1_method_11_code 7 = .ok (.iload_n 3, 1) := by decide +kernel
theorem d_V_rebase_8 : decode prog_1_method_11_code 8 = .ok (.ifCond .eq 5, 3) := by decide +kernel
theorem d_V_rebase_11 : decode prog_1_method_11_code 11 = .ok (.iload_n 3, 1) := by decide +kernel
theorem d_V_rebase_12 : decode prog_1_method_11_code 12 = .ok (.ireturn, 1) := by decide +kernel
theorem d_V_rebase_13 : decode prog_1_method_11_code 13 = .ok (.aload_n 0, 1) := by decide +kernel
theorem d_V_rebase_14 : decode prog_1_method_11_code 14 = .ok (.getfield 18, 3) := by decide +kernel
theorem d_V_rebase_17 : decode prog_1_method_11_code 17 = .ok (.iload_n 1, 1) := by decide +kernel
theorem d_V_rebase_18 : decode prog_1_method_11_code 18 = .ok (.aaload, 1) := by decide +kernel
theorem d_V_rebase_19 : decode prog_1_method_11_code 19 = .ok (.astore 4, 2) := by decide +kernel
theorem d_V_rebase_21 : decode prog_1_method_11_code 21 = .ok (.aload 4, 2) := by decide +kernel
theorem d_V_rebase_23 : decode prog_1_method_11_code 23 = .ok (.getfield 72, 3) := by decide +kernel
theorem d_V_rebase_26 : decode prog_1_method_11_code 26 = .ok (.iload_n 2, 1) := by decide +kernel
theorem d_V_rebase_27 : decode prog_1_method_11_code 27 = .ok (.iaload, 1) := by decide +kernel
theorem d_V_rebase_28 : decode prog_1_method_11_code 28 = .ok (.istore 5, 2) := by decide +kernel
theorem d_V_rebase_30 : decode prog_1_method_11_code 30 = .ok (.aload_n 0, 1) := by decide +kernel
theorem d_V_rebase_31 : decode prog_1_method_11_code 31 = .ok (.getfield 10, 3) := by decide +kernel
theorem d_V_rebase_34 : decode prog_1_method_11_code 34 = .ok (.aload 4, 2) := by decide +kernel
theorem d_V_rebase_36 : decode prog_1_method_11_code 36 = .ok (.invokevirtual 52, 3) := by decide +kernel
theorem d_V_rebase_39 : decode prog_1_method_11_code 39 = .ok (.invokevirtual 68, 3) := by decide +kernel
theorem d_V_rebase_42 : decode prog_1_method_11_code 42 = .ok (.aload_n 0, 1) := by decide +kernel
theorem d_V_rebase_43 : decode prog_1_method_11_code 43 = .ok (.getfield 10, 3) := by decide +kernel
theorem d_V_rebase_46 : decode prog_1_method_11_code 46 = .ok (.iload 5, 2) := by decide +kernel
theorem d_V_rebase_48 : decode prog_1_method_11_code 48 = .ok (.invokevirtual 68, 3) := by decide +kernel
theorem d_V_rebase_51 : decode prog_1_method_11_code 51 = .ok (.ldc2_w 109, 3) := by decide +kernel
theorem d_V_rebase_54 : decode prog_1_method_11_code 54 = .ok (.lxor, 1) := by decide +kernel
theorem d_V_rebase_55 : decode prog_1_method_11_code 55 = .ok (.land, 1) := by decide +kernel
theorem d_V_rebase_56 : decode prog_1_method_11_code 56 = .ok (.lstore 6, 2) := by decide +kernel
theorem d_V_rebase_58 : decode prog_1_method_11_code 58 = .ok (.aload_n 0, 1) := by decide +kernel
theorem d_V_rebase_59 : decode prog_1_method_11_code 59 = .ok (.getfield 10, 3) := by decide +kernel
theorem d_V_rebase_62 : decode prog_1_method_11_code 62 = .ok (.getfield 111, 3) := by decide +kernel
theorem d_V_rebase_65 : decode prog_1_method_11_code 65 = .ok (.istore 8, 2) := by decide +kernel
theorem d_V_rebase_67 : decode prog_1_method_11_code 67 = .ok (.aload_n 0, 1) := by decide +kernel
theorem d_V_rebase_68 : decode prog_1_method_11_code 68 = .ok (.lload 6, 2) := by decide +kernel
theorem d_V_rebase_70 : decode prog_1_method_11_code 70 = .ok (.iload 5, 2) := by decide +kernel
theorem d_V_rebase_72 : decode prog_1_method_11_code 72 = .ok (.invokevirtual 114, 3) := by decide +kernel
theorem d_V_rebase_75 : decode prog_1_method_11_code 75 = .ok (.istore 9, 2) := by decide +kernel
theorem d_V_rebase_77 : decode prog_1_method_11_code 77 = .ok (.iload 9, 2) := by decide +kernel
theorem d_V_rebase_79 : decode prog_1_method_11_code 79 = .ok (.ifCond .ge 15, 3) := by decide +kernel
theorem d_V_rebase_82 : decode prog_1_method_11_code 82 = .ok (.aload_n 0, 1) := by decide +kernel
theorem d_V_rebase_83 : decode prog_1_method_11_code 83 = .ok (.getfield 10, 3) := by decide +kernel
theorem d_V_rebase_86 : decode prog_1_method_11_code 86 = .ok (.iload 8, 2) := by decide +kernel
theorem d_V_rebase_88 : decode prog_1_method_11_code 88 = .ok (.invokevirtual 118, 3) := by decide +kernel
theorem d_V_rebase_91 : decode prog_1_method_11_code 91 = .ok (.iload 9, 2) := by decide +kernel
theorem d_V_rebase_93 : decode prog_1_method_11_code 93 = .ok (.ireturn, 1) := by decide +kernel
theorem d_V_rebase_94 : decode prog_1_method_11_code 94 = .ok (.aload_n 0, 1) := by decide +kernel
theorem d_V_rebase_95 : decode prog_1_method_11_code 95 = .ok (.aload 4, 2) := by decide +kernel
theorem d_V_rebase_97 : decode prog_1_method_11_code 97 = .ok (.iload 9, 2) := by decide +kernel
theorem d_V_rebase_99 : decode prog_1_method_11_code 99 = .ok (.invokevirtual 87, 3) := by decide +kernel
theorem d_V_rebase_102 : decode prog_1_method_11_code 102 = .ok (.aload_n 0, 1) := by decide +kernel
theorem d_V_rebase_103 : decode prog_1_method_11_code 103 = .ok (.getfield 10, 3) := by decide +kernel
theorem d_V_rebase_106 : decode prog_1_method_11_code 106 = .ok (.getfield 111, 3) := by decide +kernel
theorem d_V_rebase_109 : decode prog_1_method_11_code 109 = .ok (.iload 8, 2) := by decide +kernel
theorem d_V_rebase_111 : decode prog_1_method_11_code 111 = .ok (.isub, 1) := by decide +kernel
theorem d_V_rebase_112 : decode prog_1_method_11_code 112 = .ok (.ireturn, 1) := by decide +kernel
