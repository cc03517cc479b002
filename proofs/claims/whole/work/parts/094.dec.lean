/-! Decode rows. (Printed by gen_names.py.) -/
theorem d_M_write_0 : decode prog_7_method_22_code 0 = .ok (.iload_n 1, 1) := by decide +kernel
theorem d_M_write_1 : decode prog_7_method_22_code 1 = .ok (.iconst 2, 1) := by decide +kernel
theorem d_M_write_2 : decode prog_7_method_22_code 2 = .ok (.invokestatic 123, 3) := by decide +kernel
theorem d_M_write_5 : decode prog_7_method_22_code 5 = .ok (.ifCond .ne 21, 3) := by decide +kernel
theorem d_M_write_8 : decode prog_7_method_22_code 8 = .ok (.iload_n 2, 1) := by decide +kernel
theorem d_M_write_9 : decode prog_7_method_22_code 9 = .ok (.iconst 4, 1) := by decide +kernel
theorem d_M_write_10 : decode prog_7_method_22_code 10 = .ok (.invokestatic 123, 3) := by decide +kernel
theorem d_M_write_13 : decode prog_7_method_22_code 13 = .ok (.ifCond .ne 13, 3) := by decide +kernel
theorem d_M_write_16 : decode prog_7_method_22_code 16 = .ok (.iload 5, 2) := by decide +kernel
theorem d_M_write_18 : decode prog_7_method_22_code 18 = .ok (.bipush 9, 2) := by decide +kernel
theorem d_M_write_20 : decode prog_7_method_22_code 20 = .ok (.invokestatic 123, 3) := by decide +kernel
theorem d_M_write_23 : decode prog_7_method_22_code 23 = .ok (.ifCond .eq 5, 3) := by decide +kernel
theorem d_M_write_26 : decode prog_7_method_22_code 26 = .ok (.iconst 0, 1) := by decide +kernel
theorem d_M_write_27 : decode prog_7_method_22_code 27 = .ok (.ireturn, 1) := by decide +kernel
theorem d_M_write_28 : decode prog_7_method_22_code 28 = .ok (.iload 5, 2) := by decide +kernel
theorem d_M_write_30 : decode prog_7_method_22_code 30 = .ok (.i2l, 1) := by decide +kernel
theorem d_M_write_31 : decode prog_7_method_22_code 31 = .ok (.bipush 32, 2) := by decide +kernel
theorem d_M_write_33 : decode prog_7_method_22_code 33 = .ok (.lshl, 1) := by decide +kernel
theorem d_M_write_34 : decode prog_7_method_22_code 34 = .ok (.lstore 6, 2) := by decide +kernel
theorem d_M_write_36 : decode prog_7_method_22_code 36 = .ok (.iconst 0, 1) := by decide +kernel
theorem d_M_write_37 : decode prog_7_method_22_code 37 = .ok (.istore 8, 2) := by decide +kernel
theorem d_M_write_39 : decode prog_7_method_22_code 39 = .ok (.iload 8, 2) := by decide +kernel
theorem d_M_write_41 : decode prog_7_method_22_code 41 = .ok (.iload 5, 2) := by decide +kernel
theorem d_M_write_43 : decode prog_7_method_22_code 43 = .ok (.if_icmp .ge 29, 3) := by decide +kernel
theorem d_M_write_46 : decode prog_7_method_22_code 46 = .ok (.lload 6, 2) := by decide +kernel
theorem d_M_write_48 : decode prog_7_method_22_code 48 = .ok (.lload_n 3, 1) := by decide +kernel
theorem d_M_write_49 : decode prog_7_method_22_code 49 = .ok (.iconst 4, 1) := by decide +kernel
theorem d_M_write_50 : decode prog_7_method_22_code 50 = .ok (.iload 8, 2) := by decide +kernel
theorem d_M_write_52 : decode prog_7_method_22_code 52 = .ok (.imul, 1) := by decide +kernel
theorem d_M_write_53 : decode prog_7_method_22_code 53 = .ok (.lshr, 1) := by decide +kernel
theorem d_M_write_54 : decode prog_7_method_22_code 54 = .ok (.ldc2_w 64, 3) := by decide +kernel
theorem d_M_write_57 : decode prog_7_method_22_code 57 = .ok (.land, 1) := by decide +kernel
theorem d_M_write_58 : decode prog_7_method_22_code 58 = .ok (.iconst 4, 1) := by decide +kernel
theorem d_M_write_59 : decode prog_7_method_22_code 59 = .ok (.iload 8, 2) := by decide +kernel
theorem d_M_write_61 : decode prog_7_method_22_code 61 = .ok (.imul, 1) := by decide +kernel
theorem d_M_write_62 : decode prog_7_method_22_code 62 = .ok (.lshl, 1) := by decide +kernel
theorem d_M_write_63 : decode prog_7_method_22_code 63 = .ok (.lor, 1) := by decide +kernel
theorem d_M_write_64 : decode prog_7_method_22_code 64 = .ok (.lstore 6, 2) := by decide +kernel
theorem d_M_write_66 : decode prog_7_method_22_code 66 = .ok (.iinc 8 1, 3) := by decide +kernel
theorem d_M_write_69 : decode prog_7_method_22_code 69 = .ok (.goto (-30), 3) := by decide +kernel
theorem d_M_write_72 : decode prog_7_method_22_code 72 = .ok (.aload_n 0, 1) := by decide +kernel
theorem d_M_write_73 : decode prog_7_method_22_code 73 = .ok (.getfield 29, 3) := by decide +kernel
theorem d_M_write_76 : decode prog_7_method_22_code 76 = .ok (.iconst 4, 1) := by decide +kernel
theorem d_M_write_77 : decode prog_7_method_22_code 77 = .ok (.iload_n 1, 1) := by decide +kernel
theorem d_M_write_78 : decode prog_7_method_22_code 78 = .ok (.imul, 1) := by decide +kernel
theorem d_M_write_79 : decode prog_7_method_22_code 79 = .ok (.iload_n 2, 1) := by decide +kernel
theorem d_M_write_80 : decode prog_7_method_22_code 80 = .ok (.iadd, 1) := by decide +kernel
theorem d_M_write_81 : decode prog_7_method_22_code 81 = .ok (.lload 6, 2) := by decide +kernel
theorem d_M_write_83 : decode prog_7_method_22_code 83 = .ok (.lastore, 1) := by decide +kernel
theorem d_M_write_84 : decode prog_7_method_22_code 84 = .ok (.iconst 1, 1) := by decide +kernel
theorem d_M_write_85 : decode prog_7_method_22_code 85 = .ok (.ireturn, 1) := by decide +kernel
theorem d_M_out_0 : decode prog_7_method_2_code 0 = .ok (.iload_n 0, 1) := by decide +kernel
theorem d_M_out_1 : decode prog_7_method_2_code 1 = .ok (.ifCond .lt 8, 3) := by decide +kernel
theorem d_M_out_4 : decode prog_7_method_2_code 4 = .ok (.iload_n 0, 1) := by decide +kernel
theorem d_M_out_5 : decode prog_7_method_2_code 5 = .ok (.iload_n 1, 1) := by decide +kernel
theorem d_M_out_6 : decode prog_7_method_2_code 6 = .ok (.if_icmp .lt 7, 3) := by decide +kernel
theorem d_M_out_9 : decode prog_7_method_2_code 9 = .ok (.iconst 1, 1) := by decide +kernel
theorem d_M_out_10 : decode prog_7_method_2_code 10 = .ok (.goto 4, 3) := by decide +kernel
theorem d_M_out_13 : decode prog_7_method_2_code 13 = .ok (.iconst 0, 1) := by decide +kernel
theorem d_M_out_14 : decode prog_7_method_2_code 14 = .ok (.ireturn, 1) := by decide +kernel
theorem d_M_remove_0 : decode prog_7_method_23_code 0 = .ok (.iload_n 1, 1) := by decide +kernel
theorem d_M_remove_1 : decode prog_7_method_23_code 1 = .ok (.iconst 2, 1) := by decide +kernel
theorem d_M_remove_2 : decode prog_7_method_23_code 2 = .ok (.invokestatic 123, 3) := by decide +kernel
theorem d_M_remove_5 : decode prog_7_method_23_code 5 = .ok (.ifCond .ne 11, 3) := by decide +kernel
theorem d_M_remove_8 : decode prog_7_method_23_code 8 = .ok (.iload_n 2, 1) := by decide +kernel
theorem d_M_remove_9 : decode prog_7_method_23_code 9 = .ok (.iconst 4, 1) := by decide +kernel
theorem d_M_remove_10 : decode prog_7_method_23_code 10 = .ok (.invokestatic 123, 3) := by decide +kernel
theorem d_M_remove_13 : decode prog_7_method_23_code 13 = .ok (.ifCond .eq 5, 3) := by decide +kernel
theorem d_M_remove_16 : decode prog_7_method_23_code 16 = .ok (.iconst 0, 1) := by decide +kernel
theorem d_M_remove_17 : decode prog_7_method_23_code 17 = .ok (.ireturn, 1) := by decide +kernel
theorem d_M_remove_18 : decode prog_7_method_23_code 18 = .ok (.aload_n 0, 1) := by decide +kernel
theorem d_M_remove_19 : decode prog_7_method_23_code 19 = .ok (.getfield 29, 3) := by decide +kernel
theorem d_M_remove_22 : decode prog_7_method_23_code 22 = .ok (.iconst 4, 1) := by decide +kernel
theorem d_M_remove_23 : decode prog_7_method_23_code 23 = .ok (.iload_n 1, 1) := by decide +kernel
theorem d_M_remove_24 : decode prog_7_method_23_code 24 = .ok (.imul, 1) := by decide +kernel
theorem d_M_remove_25 : decode prog_7_method_23_code 25 = .ok (.iload_n 2, 1) := by decide +kernel
theorem d_M_remove_26 : decode prog_7_method_23_code 26 = .ok (.iadd, 1) := by decide +kernel
theorem d_M_remove_27 : decode prog_7_method_23_code 27 = .ok (.ldc2_w 62, 3) := by decide +kernel
theorem d_M_remove_30 : decode prog_7_method_23_code 30 = .ok (.lastore, 1) := by decide +kernel
theorem d_M_remove_31 : decode prog_7_method_23_code 31 = .ok (.iconst 1, 1) := by decide +kernel
theorem d_M_remove_32 : decode prog_7_method_23_code 32 = .ok (.ireturn, 1) := by decide +kernel
theorem d_M_stage_0 : decode prog_7_method_24_code 0 = .ok (.iload_n 1, 1) := by decide +kernel
theorem d_M_stage_1 : decode prog_7_method_24_code 1 = .ok (.iconst 2, 1) := by decide +kernel
theorem d_M_stage_2 : decode prog_7_method_24_code 2 = .ok (.invokestatic 123, 3) := by decide +kernel
theorem d_M_stage_5 : decode prog_7_method_24_code 5 = .ok (.ifCond .ne 11, 3) := by decide +kernel
theorem d_M_stage_8 : decode prog_7_method_24_code 8 = .ok (.iload_n 2, 1) := by decide +kernel
theorem d_M_stage_9 : decode prog_7_method_24_code 9 = .ok (.iconst 4, 1) := by decide +kernel
theorem d_M_stage_10 : decode prog_7_method_24_code 10 = .ok (.invokestatic 123, 3) := by decide +kernel
theorem d_M_stage_13 : decode prog_7_method_24_code 13 = .ok (.ifCond .eq 5, 3) := by decide +kernel
theorem d_M_stage_16 : decode prog_7_method_24_code 16 = .ok (.iconst 0, 1) := by decide +kernel
theorem d_M_stage_17 : decode prog_7_method_24_code 17 = .ok (.ireturn, 1) := by decide +kernel
theorem d_M_stage_18 : decode prog_7_method_24_code 18 = .ok (.aload_n 0, 1) := by decide +kernel
theorem d_M_stage_19 : decode prog_7_method_24_code 19 = .ok (.getfield 32, 3) := by decide +kernel
theorem d_M_stage_22 : decode prog_7_method_24_code 22 = .ok (.iconst 4, 1) := by decide +kernel
theorem d_M_stage_23 : decode prog_7_method_24_code 23 = .ok (.iload_n 1, 1) := by decide +kernel
theorem d_M_stage_24 : decode prog_7_method_24_code 24 = .ok (.imul, 1) := by decide +kernel
theorem d_M_stage_25 : decode prog_7_method_24_code 25 = .ok (.iload_n 2, 1) := by decide +kernel
theorem d_M_stage_26 : decode prog_7_method_24_code 26 = .ok (.iadd, 1) := by decide +kernel
theorem d_M_stage_27 : decode prog_7_method_24_code 27 = .ok (.aload_n 0, 1) := by decide +kernel
theorem d_M_stage_28 : decode prog_7_method_24_code 28 = .ok (.getfield 29, 3) := by decide +kernel
theorem d_M_stage_31 : decode prog_7_method_24_code 31 = .ok (.iconst 4, 1) := by decide +kernel
theorem d_M_stage_32 : decode prog_7_method_24_code 32 = .ok (.iload_n 1, 1) := by decide +kernel
theorem d_M_stage_33 : decode prog_7_method_24_code 33 = .ok (.imul, 1) := by decide +kernel
theorem d_M_stage_34 : decode prog_7_method_24_code 34 = .ok (.iload_n 2, 1) := by decide +kernel
theorem d_M_stage_35 : decode prog_7_method_24_code 35 = .ok (.iadd, 1) := by decide +kernel
theorem d_M_stage_36 : decode prog_7_method_24_code 36 = .ok (.laload, 1) := by decide +kernel
theorem d_M_stage_37 : decode prog_7_method_24_code 37 = .ok (.lastore, 1) := by decide +kernel
theorem d_M_stage_38 : decode prog_7_method_24_code 38 = .ok (.iconst 1, 1) := by decide +kernel
theorem d_M_stage_39 : decode prog_7_method_24_code 39 = .ok (.ireturn, 1) := by decide +kernel
theorem d_M_commit_0 : decode prog_7_method_25_code 0 = .ok (.iload_n 1, 1) := by decide +kernel
theorem d_M_commit_1 : decode prog_7_method_25_code 1 = .ok (.iconst 2, 1) := by decide +kernel
theorem d_M_commit_2 : decode prog_7_method_25_code 2 = .ok (.invokestatic 123, 3) := by decide +kernel
theorem d_M_commit_5 : decode prog_7_method_25_code 5 = .ok (.ifCond .eq 5, 3) := by decide +kernel
theorem d_M_commit_8 : decode prog_7_method_25_code 8 = .ok (.iconst (-1), 1) := by decide +kernel
theorem d_M_commit_9 : decode prog_7_method_25_code 9 = .ok (.ireturn, 1) := by decide +kernel
theorem d_M_commit_10 : decode prog_7_method_25_code 10 = .ok (.aload_n 0, 1) := by decide +kernel
theorem d_M_commit_11 : decode prog_7_method_25_code 11 = .ok (.aload_n 0, 1) := by decide +kernel
theorem d_M_commit_12 : decode prog_7_method_25_code 12 = .ok (.getfield 32, 3) := by decide +kernel
theorem d_M_commit_15 : decode prog_7_method_25_code 15 = .ok (.iload_n 1, 1) := by decide +kernel
theorem d_M_commit_16 : decode prog_7_method_25_code 16 = .ok (.invokevirtual 119, 3) := by decide +kernel
theorem d_M_commit_19 : decode prog_7_method_25_code 19 = .ok (.ifCond .eq 6, 3) := by decide +kernel
theorem d_M_commit_22 : decode prog_7_method_25_code 22 = .ok (.bipush (-4), 2) := by decide +kernel
theorem d_M_commit_24 : decode prog_7_method_25_code 24 = .ok (.ireturn, 1) := by decide +kernel
theorem d_M_commit_25 : decode prog_7_method_25_code 25 = .ok (.aload_n 0, 1) := by decide +kernel
theorem d_M_commit_26 : decode prog_7_method_25_code 26 = .ok (.getfield 104, 3) := by decide +kernel
theorem d_M_commit_29 : decode prog_7_method_25_code 29 = .ok (.bipush 40, 2) := by decide +kernel
theorem d_M_commit_31 : decode prog_7_method_25_code 31 = .ok (.if_icmp .ne 6, 3) := by decide +kernel
theorem d_M_commit_34 : decode prog_7_method_25_code 34 = .ok (.bipush (-6), 2) := by decide +kernel
theorem d_M_commit_36 : decode prog_7_method_25_code 36 = .ok (.ireturn, 1) := by decide +kernel
theorem d_M_commit_37 : decode prog_7_method_25_code 37 = .ok (.aload_n 0, 1) := by decide +kernel
theorem d_M_commit_38 : decode prog_7_method_25_code 38 = .ok (.iload_n 1, 1) := by decide +kernel
theorem d_M_commit_39 : decode prog_7_method_25_code 39 = .ok (.aload_n 0, 1) := by decide +kernel
theorem d_M_commit_40 : decode prog_7_method_25_code 40 = .ok (.iload_n 1, 1) := by decide +kernel
theorem d_M_commit_41 : decode prog_7_method_25_code 41 = .ok (.invokevirtual 111, 3) := by decide +kernel
theorem d_M_commit_44 : decode prog_7_method_25_code 44 = .ok (.bipush (-2), 2) := by decide +kernel
theorem d_M_commit_46 : decode prog_7_method_25_code 46 = .ok (.invokevirtual 126, 3) := by decide +kernel
theorem d_M_commit_49 : decode prog_7_method_25_code 49 = .ok (.istore_n 2, 1) := by decide +kernel
theorem d_M_commit_50 : decode prog_7_method_25_code 50 = .ok (.iconst 0, 1) := by decide +kernel
theorem d_M_commit_51 : decode prog_7_method_25_code 51 = .ok (.istore_n 3, 1) := by decide +kernel
theorem d_M_commit_52 : decode prog_7_method_25_code 52 = .ok (.iload_n 3, 1) := by decide +kernel
theorem d_M_commit_53 : decode prog_7_method_25_code 53 = .ok (.iconst 4, 1) := by decide +kernel
theorem d_M_commit_54 : decode prog_7_method_25_code 54 = .ok (.if_icmp .ge 29, 3) := by decide +kernel
theorem d_M_commit_57 : decode prog_7_method_25_code 57 = .ok (.aload_n 0, 1) := by decide +kernel
theorem d_M_commit_58 : decode prog_7_method_25_code 58 = .ok (.getfield 7, 3) := by decide +kernel
theorem d_M_commit_61 : decode prog_7_method_25_code 61 = .ok (.iconst 4, 1) := by decide +kernel
theorem d_M_commit_62 : decode prog_7_method_25_code 62 = .ok (.iload_n 2, 1) := by decide +kernel
theorem d_M_commit_63 : decode prog_7_method_25_code 63 = .ok (.imul, 1) := by decide +kernel
theorem d_M_commit_64 : decode prog_7_method_25_code 64 = .ok (.iload_n 3, 1) := by decide +kernel
theorem d_M_commit_65 : decode prog_7_method_25_code 65 = .ok (.iadd, 1) := by decide +kernel
theorem d_M_commit_66 : decode prog_7_method_25_code 66 = .ok (.aload_n 0, 1) := by decide +kernel
theorem d_M_commit_67 : decode prog_7_method_25_code 67 = .ok (.getfield 32, 3) := by decide +kernel
theorem d_M_commit_70 : decode prog_7_method_25_code 70 = .ok (.iconst 4, 1) := by decide +kernel
theorem d_M_commit_71 : decode prog_7_method_25_code 71 = .ok (.iload_n 1, 1) := by decide +kernel
theorem d_M_commit_72 : decode prog_7_method_25_code 72 = .ok (.imul, 1) := by decide +kernel
theorem d_M_commit_73 : decode prog_7_method_25_code 73 = .ok (.iload_n 3, 1) := by decide +kernel
theorem d_M_commit_74 : decode prog_7_method_25_code 74 = .ok (.iadd, 1) := by decide +kernel
theorem d_M_commit_75 : decode prog_7_method_25_code 75 = .ok (.laload, 1) := by decide +kernel
theorem d_M_commit_76 : decode prog_7_method_25_code 76 = .ok (.lastore, 1) := by decide +kernel
theorem d_M_commit_77 : decode prog_7_method_25_code 77 = .ok (.iinc 3 1, 3) := by decide +kernel
theorem d_M_commit_80 : decode prog_7_method_25_code 80 = .ok (.goto (-28), 3) := by decide +kernel
theorem d_M_commit_83 : decode prog_7_method_25_code 83 = .ok (.aload_n 0, 1) := by decide +kernel
theorem d_M_commit_84 : decode prog_7_method_25_code 84 = .ok (.getfield 23, 3) := by decide +kernel
theorem d_M_commit_87 : decode prog_7_method_25_code 87 = .ok (.iconst 4, 1) := by decide +kernel
theorem d_M_commit_88 : decode prog_7_method_25_code 88 = .ok (.iload_n 1, 1) := by decide +kernel
theorem d_M_commit_89 : decode prog_7_method_25_code 89 = .ok (.imul, 1) := by decide +kernel
theorem d_M_commit_90 : decode prog_7_method_25_code 90 = .ok (.aload_n 0, 1) := by decide +kernel
theorem d_M_commit_91 : decode prog_7_method_25_code 91 = .ok (.getfield 26, 3) := by decide +kernel
theorem d_M_commit_94 : decode prog_7_method_25_code 94 = .ok (.iload_n 1, 1) := by decide +kernel
theorem d_M_commit_95 : decode prog_7_method_25_code 95 = .ok (.iaload, 1) := by decide +kernel
theorem d_M_commit_96 : decode prog_7_method_25_code 96 = .ok (.iadd, 1) := by decide +kernel
theorem d_M_commit_97 : decode prog_7_method_25_code 97 = .ok (.iload_n 2, 1) := by decide +kernel
theorem d_M_commit_98 : decode prog_7_method_25_code 98 = .ok (.iastore, 1) := by decide +kernel
theorem d_M_commit_99 : decode prog_7_method_25_code 99 = .ok (.iload_n 2, 1) := by decide +kernel
theorem d_M_commit_100 : decode prog_7_method_25_code 100 = .ok (.ireturn, 1) := by decide +kernel
theorem d_M_sameAsHead_0 : decode prog_7_method_17_code 0 = .ok (.iconst 1, 1) := by decide +kernel
theorem d_M_sameAsHead_1 : decode prog_7_method_17_code 1 = .ok (.istore_n 3, 1) := by decide +kernel
theorem d_M_sameAsHead_2 : decode prog_7_method_17_code 2 = .ok (.iconst 0, 1) := by decide +kernel
theorem d_M_sameAsHead_3 : decode prog_7_method_17_code 3 = .ok (.istore 4, 2) := by decide +kernel
theorem d_M_sameAsHead_5 : decode prog_7_method_17_code 5 = .ok (.iload 4, 2) := by decide +kernel
theorem d_M_sameAsHead_7 : decode prog_7_method_17_code 7 = .ok (.iconst 4, 1) := by decide +kernel
theorem d_M_sameAsHead_8 : decode prog_7_method_17_code 8 = .ok (.if_icmp .ge 42, 3) := by decide +kernel
theorem d_M_sameAsHead_11 : decode prog_7_method_17_code 11 = .ok (.iload_n 3, 1) := by decide +kernel
theorem d_M_sameAsHead_12 : decode prog_7_method_17_code 12 = .ok (.ifCond .eq 30, 3) := by decide +kernel
theorem d_M_sameAsHead_15 : decode prog_7_method_17_code 15 = .ok (.aload_n 1, 1) := by decide +kernel
theorem d_M_sameAsHead_16 : decode prog_7_method_17_code 16 = .ok (.iconst 4, 1) := by decide +kernel
theorem d_M_sameAsHead_17 : decode prog_7_method_17_code 17 = .ok (.iload_n 2, 1) := by decide +kernel
theorem d_M_sameAsHead_18 : decode prog_7_method_17_code 18 = .ok (.imul, 1) := by decide +kernel
theorem d_M_sameAsHead_19 : decode prog_7_method_17_code 19 = .ok (.iload 4, 2) := by decide +kernel
theorem d_M_sameAsHead_21 : decode prog_7_method_17_code 21 = .ok (.iadd, 1) := by decide +kernel
theorem d_M_sameAsHead_22 : decode prog_7_method_17_code 22 = .ok (.laload, 1) := by decide +kernel
theorem d_M_sameAsHead_23 : decode prog_7_method_17_code 23 = .ok (.aload_n 0, 1) := by decide +kernel
theorem d_M_sameAsHead_24 : decode prog_7_method_17_code 24 = .ok (.aload_n 0, 1) := by decide +kernel
theorem d_M_sameAsHead_25 : decode prog_7_method_17_code 25 = .ok (.iload_n 2, 1) := by decide +kernel
theorem d_M_sameAsHead_26 : decode prog_7_method_17_code 26 = .ok (.invokevirtual 111, 3) := by decide +kernel
theorem d_M_sameAsHead_29 : decode prog_7_method_17_code 29 = .ok (.iload 4, 2) := by decide +kernel
theorem d_M_sameAsHead_31 : decode prog_7_method_17_code 31 = .ok (.invokevirtual 115, 3) := by decide +kernel
theorem d_M_sameAsHead_34 : decode prog_7_method_17_code 34 = .ok (.lcmp, 1) := by decide +kernel
theorem d_M_sameAsHead_35 : decode prog_7_method_17_code 35 = .ok (.ifCond .ne 7, 3) := by decide +kernel
theorem d_M_sameAsHead_38 : decode prog_7_method_17_code 38 = .ok (.iconst 1, 1) := by decide +kernel
theorem d_M_sameAsHead_39 : decode prog_7_method_17_code 39 = .ok (.goto 4, 3) := by decide +kernel
theorem d_M_sameAsHead_42 : decode prog_7_method_17_code 42 = .ok (.iconst 0, 1) := by decide +kernel
theorem d_M_sameAsHead_43 : decode prog_7_method_17_code 43 = .ok (.istore_n 3, 1) := by decide +kernel
theorem d_M_sameAsHead_44 : decode prog_7_method_17_code 44 = .ok (.iinc 4 1, 3) := by decide +kernel
theorem d_M_sameAsHead_47 : decode prog_7_method_17_code 47 = .ok (.goto (-42), 3) := by decide +kernel
theorem d_M_sameAsHead_50 : decode prog_7_method_17_code 50 = .ok (.iload_n 3, 1) := by decide +kernel
theorem d_M_sameAsHead_51 : decode prog_7_method_17_code 51 = .ok (.ireturn, 1) := by decide +kernel
theorem d_M_head_0 : decode prog_7_method_16_code 0 = .ok (.aload_n 0, 1) := by decide +kernel
theorem d_M_head_1 : decode prog_7_method_16_code 1 = .ok (.getfield 23, 3) := by decide +kernel
theorem d_M_head_4 : decode prog_7_method_16_code 4 = .ok (.iconst 4, 1) := by decide +kernel
theorem d_M_head_5 : decode prog_7_method_16_code 5 = .ok (.iload_n 1, 1) := by decide +kernel
theorem d_M_head_6 : decode prog_7_method_16_code 6 = .ok (.imul, 1) := by decide +kernel
theorem d_M_head_7 : decode prog_7_method_16_code 7 = .ok (.aload_n 0, 1) := by decide +kernel
theorem d_M_head_8 : decode prog_7_method_16_code 8 = .ok (.getfield 26, 3) := by decide +kernel
theorem d_M_head_11 : decode prog_7_method_16_code 11 = .ok (.iload_n 1, 1) := by decide +kernel
theorem d_M_head_12 : decode prog_7_method_16_code 12 = .ok (.iaload, 1) := by decide +kernel
theorem d_M_head_13 : decode prog_7_method_16_code 13 = .ok (.iadd, 1) := by decide +kernel
theorem d_M_head_14 : decode prog_7_method_16_code 14 = .ok (.iaload, 1) := by decide +kernel
theorem d_M_head_15 : decode prog_7_method_16_code 15 = .ok (.ireturn, 1) := by decide +kernel
theorem d_M_textOf_0 : decode prog_7_method_12_code 0 = .ok (.iload_n 1, 1) := by decide +kernel
theorem d_M_textOf_1 : decode prog_7_method_12_code 1 = .ok (.ifCond .ge 9, 3) := by decide +kernel
theorem d_M_textOf_4 : decode prog_7_method_12_code 4 = .ok (.ldc2_w 62, 3) := by decide +kernel
theorem d_M_textOf_7 : decode prog_7_method_12_code 7 = .ok (.goto 13, 3) := by decide +kernel
theorem d_M_textOf_10 : decode prog_7_method_12_code 10 = .ok (.aload_n 0, 1) := by decide +kernel
theorem d_M_textOf_11 : decode prog_7_method_12_code 11 = .ok (.getfield 7, 3) := by decide +kernel
theorem d_M_textOf_14 : decode prog_7_method_12_code 14 = .ok (.iconst 4, 1) := by decide +kernel
theorem d_M_textOf_15 : decode prog_7_method_12_code 15 = .ok (.iload_n 1, 1) := by decide +kernel
theorem d_M_textOf_16 : decode prog_7_method_12_code 16 = .ok (.imul, 1) := by decide +kernel
theorem d_M_textOf_17 : decode prog_7_method_12_code 17 = .ok (.iload_n 2, 1) := by decide +kernel
theorem d_M_textOf_18 : decode prog_7_method_12_code 18 = .ok (.iadd, 1) := by decide +kernel
theorem d_M_textOf_19 : decode prog_7_method_12_code 19 = .ok (.laload, 1) := by decide +kernel
theorem d_M_textOf_20 : decode prog_7_method_12_code 20 = .ok (.lreturn, 1) := by decide +kernel
theorem d_M_make_0 : decode prog_7_method_19_code 0 = .ok (.aload_n 0, 1) := by decide +kernel
theorem d_M_make_1 : decode prog_7_method_19_code 1 = .ok (.getfield 104, 3) := by decide +kernel
theorem d_M_make_4 : decode prog_7_method_19_code 4 = .ok (.istore 4, 2) := by decide +kernel
theorem d_M_make_6 : decode prog_7_method_19_code 6 = .ok (.aload_n 0, 1) := by decide +kernel
theorem d_M_make_7 : decode prog_7_method_19_code 7 = .ok (.getfield 13, 3) := by decide +kernel
theorem d_M_make_10 : decode prog_7_method_19_code 10 = .ok (.iload 4, 2) := by decide +kernel
theorem d_M_make_12 : decode prog_7_method_19_code 12 = .ok (.iload_n 2, 1) := by decide +kernel
theorem d_M_make_13 : decode prog_7_method_19_code 13 = .ok (.iastore, 1) := by decide +kernel
theorem d_M_make_14 : decode prog_7_method_19_code 14 = .ok (.aload_n 0, 1) := by decide +kernel
theorem d_M_make_15 : decode prog_7_method_19_code 15 = .ok (.getfield 17, 3) := by decide +kernel
theorem d_M_make_18 : decode prog_7_method_19_code 18 = .ok (.iload 4, 2) := by decide +kernel
theorem d_M_make_20 : decode prog_7_method_19_code 20 = .ok (.iload_n 3, 1) := by decide +kernel
theorem d_M_make_21 : decode prog_7_method_19_code 21 = .ok (.iastore, 1) := by decide +kernel
theorem d_M_make_22 : decode prog_7_method_19_code 22 = .ok (.aload_n 0, 1) := by decide +kernel
theorem d_M_make_23 : decode prog_7_method_19_code 23 = .ok (.getfield 20, 3) := by decide +kernel
theorem d_M_make_26 : decode prog_7_method_19_code 26 = .ok (.iload_n 1, 1) := by decide +kernel
theorem d_M_make_27 : decode prog_7_method_19_code 27 = .ok (.aload_n 0, 1) := by decide +kernel
theorem d_M_make_28 : decode prog_7_method_19_code 28 = .ok (.getfield 20, 3) := by decide +kernel
theorem d_M_make_31 : decode prog_7_method_19_code 31 = .ok (.iload_n 1, 1) := by decide +kernel
theorem d_M_make_32 : decode prog_7_method_19_code 32 = .ok (.laload, 1) := by decide +kernel
theorem d_M_make_33 : decode prog_7_method_19_code 33 = .ok (.lconst 1, 1) := by decide +kernel
theorem d_M_make_34 : decode prog_7_method_19_code 34 = .ok (.iload 4, 2) := by decide +kernel
theorem d_M_make_36 : decode prog_7_method_19_code 36 = .ok (.lshl, 1) := by decide +kernel
theorem d_M_make_37 : decode prog_7_method_19_code 37 = .ok (.lor, 1) := by decide +kernel
theorem d_M_make_38 : decode prog_7_method_19_code 38 = .ok (.lastore, 1) := by decide +kernel
theorem d_M_make_39 : decode prog_7_method_19_code 39 = .ok (.aload_n 0, 1) := by decide +kernel
theorem d_M_make_40 : decode prog_7_method_19_code 40 = .ok (.dup, 1) := by decide +kernel
theorem d_M_make_41 : decode prog_7_method_19_code 41 = .ok (.getfield 104, 3) := by decide +kernel
theorem d_M_make_44 : decode prog_7_method_19_code 44 = .ok (.iconst 1, 1) := by decide +kernel
theorem d_M_make_45 : decode prog_7_method_19_code 45 = .ok (.iadd, 1) := by decide +kernel
theorem d_M_make_46 : decode prog_7_method_19_code 46 = .ok (.putfield 104, 3) := by decide +kernel
theorem d_M_make_49 : decode prog_7_method_19_code 49 = .ok (.iload 4, 2) := by decide +kernel
theorem d_M_make_51 : decode prog_7_method_19_code 51 = .ok (.ireturn, 1) := by decide +kernel
theorem d_M_branch_0 : decode prog_7_method_27_code 0 = .ok (.iload_n 1, 1) := by decide +kernel
theorem d_M_branch_1 : decode prog_7_method_27_code 1 = .ok (.iconst 2, 1) := by decide +kernel
theorem d_M_branch_2 : decode prog_7_method_27_code 2 = .ok (.invokestatic 123, 3) := by decide +kernel
theorem d_M_branch_5 : decode prog_7_method_27_code 5 = .ok (.ifCond .ne 11, 3) := by decide +kernel
theorem d_M_branch_8 : decode prog_7_method_27_code 8 = .ok (.iload_n 2, 1) := by decide +kernel
theorem d_M_branch_9 : decode prog_7_method_27_code 9 = .ok (.iconst 4, 1) := by decide +kernel
theorem d_M_branch_10 : decode prog_7_method_27_code 10 = .ok (.invokestatic 123, 3) := by decide +kernel
theorem d_M_branch_13 : decode prog_7_method_27_code 13 = .ok (.ifCond .eq 5, 3) := by decide +kernel
theorem d_M_branch_16 : decode prog_7_method_27_code 16 = .ok (.iconst 0, 1) := by decide +kernel
theorem d_M_branch_17 : decode prog_7_method_27_code 17 = .ok (.ireturn, 1) := by decide +kernel
theorem d_M_branch_18 : decode prog_7_method_27_code 18 = .ok (.aload_n 0, 1) := by decide +kernel
theorem d_M_branch_19 : decode prog_7_method_27_code 19 = .ok (.iload_n 1, 1) := by decide +kernel
theorem d_M_branch_20 : decode prog_7_method_27_code 20 = .ok (.iload_n 2, 1) := by decide +kernel
theorem d_M_branch_21 : decode prog_7_method_27_code 21 = .ok (.invokevirtual 130, 3) := by decide +kernel
theorem d_M_branch_24 : decode prog_7_method_27_code 24 = .ok (.ifCond .ne 11, 3) := by decide +kernel
theorem d_M_branch_27 : decode prog_7_method_27_code 27 = .ok (.aload_n 0, 1) := by decide +kernel
theorem d_M_branch_28 : decode prog_7_method_27_code 28 = .ok (.iload_n 1, 1) := by decide +kernel
theorem d_M_branch_29 : decode prog_7_method_27_code 29 = .ok (.invokevirtual 111, 3) := by decide +kernel
theorem d_M_branch_32 : decode prog_7_method_27_code 32 = .ok (.ifCond .ge 5, 3) := by decide +kernel
theorem d_M_branch_35 : decode prog_7_method_27_code 35 = .ok (.iconst 0, 1) := by decide +kernel
theorem d_M_branch_36 : decode prog_7_method_27_code 36 = .ok (.ireturn, 1) := by decide +kernel
theorem d_M_branch_37 : decode prog_7_method_27_code 37 = .ok (.aload_n 0, 1) := by decide +kernel
theorem d_M_branch_38 : decode prog_7_method_27_code 38 = .ok (.getfield 23, 3) := by decide +kernel
theorem d_M_branch_41 : decode prog_7_method_27_code 41 = .ok (.iconst 4, 1) := by decide +kernel
theorem d_M_branch_42 : decode prog_7_method_27_code 42 = .ok (.iload_n 1, 1) := by decide +kernel
theorem d_M_branch_43 : decode prog_7_method_27_code 43 = .ok (.imul, 1) := by decide +kernel
theorem d_M_branch_44 : decode prog_7_method_27_code 44 = .ok (.iload_n 2, 1) := by decide +kernel
theorem d_M_branch_45 : decode prog_7_method_27_code 45 = .ok (.iadd, 1) := by decide +kernel
theorem d_M_branch_46 : decode prog_7_method_27_code 46 = .ok (.aload_n 0, 1) := by decide +kernel
theorem d_M_branch_47 : decode prog_7_method_27_code 47 = .ok (.iload_n 1, 1) := by decide +kernel
theorem d_M_branch_48 : decode prog_7_method_27_code 48 = .ok (.invokevirtual 111, 3) := by decide +kernel
theorem d_M_branch_51 : decode prog_7_method_27_code 51 = .ok (.iastore, 1) := by decide +kernel
theorem d_M_branch_52 : decode prog_7_method_27_code 52 = .ok (.iconst 1, 1) := by decide +kernel
theorem d_M_branch_53 : decode prog_7_method_27_code 53 = .ok (.ireturn, 1) := by decide +kernel
theorem d_M_there_0 : decode prog_7_method_26_code 0 = .ok (.aload_n 0, 1) := by decide +kernel
theorem d_M_there_1 : decode prog_7_method_26_code 1 = .ok (.getfield 23, 3) := by decide +kernel
theorem d_M_there_4 : decode prog_7_method_26_code 4 = .ok (.iconst 4, 1) := by decide +kernel
theorem d_M_there_5 : decode prog_7_method_26_code 5 = .ok (.iload_n 1, 1) := by decide +kernel
theorem d_M_there_6 : decode prog_7_method_26_code 6 = .ok (.imul, 1) := by decide +kernel
theorem d_M_there_7 : decode prog_7_method_26_code 7 = .ok (.iload_n 2, 1) := by decide +kernel
theorem d_M_there_8 : decode prog_7_method_26_code 8 = .ok (.iadd, 1) := by decide +kernel
theorem d_M_there_9 : decode prog_7_method_26_code 9 = .ok (.iaload, 1) := by decide +kernel
theorem d_M_there_10 : decode prog_7_method_26_code 10 = .ok (.ifCond .lt 7, 3) := by decide +kernel
theorem d_M_there_13 : decode prog_7_method_26_code 13 = .ok (.iconst 1, 1) := by decide +kernel
theorem d_M_there_14 : decode prog_7_method_26_code 14 = .ok (.goto 4, 3) := by decide +kernel
theorem d_M_there_17 : decode prog_7_method_26_code 17 = .ok (.iconst 0, 1) := by decide +kernel
theorem d_M_there_18 : decode prog_7_method_26_code 18 = .ok (.ireturn, 1) := by decide +kernel
theorem d_M_drop_0 : decode prog_7_method_28_code 0 = .ok (.iload_n 1, 1) := by decide +kernel
theorem d_M_drop_1 : decode prog_7_method_28_code 1 = .ok (.iconst 2, 1) := by decide +kernel
theorem d_M_drop_2 : decode prog_7_method_28_code 2 = .ok (.invokestatic 123, 3) := by decide +kernel
theorem d_M_drop_5 : decode prog_7_method_28_code 5 = .ok (.ifCond .ne 11, 3) := by decide +kernel
theorem d_M_drop_8 : decode prog_7_method_28_code 8 = .ok (.iload_n 2, 1) := by decide +kernel
theorem d_M_drop_9 : decode prog_7_method_28_code 9 = .ok (.iconst 4, 1) := by decide +kernel
theorem d_M_drop_10 : decode prog_7_method_28_code 10 = .ok (.invokestatic 123, 3) := by decide +kernel
theorem d_M_drop_13 : decode prog_7_method_28_code 13 = .ok (.ifCond .eq 5, 3) := by decide +kernel
theorem d_M_drop_16 : decode prog_7_method_28_code 16 = .ok (.iconst 0, 1) := by decide +kernel
theorem d_M_drop_17 : decode prog_7_method_28_code 17 = .ok (.ireturn, 1) := by decide +kernel
theorem d_M_drop_18 : decode prog_7_method_28_code 18 = .ok (.aload_n 0, 1) := by decide +kernel
theorem d_M_drop_19 : decode prog_7_method_28_code 19 = .ok (.iload_n 1, 1) := by decide +kernel
theorem d_M_drop_20 : decode prog_7_method_28_code 20 = .ok (.iload_n 2, 1) := by decide +kernel
theorem d_M_drop_21 : decode prog_7_method_28_code 21 = .ok (.invokevirtual 130, 3) := by decide +kernel
theorem d_M_drop_24 : decode prog_7_method_28_code 24 = .ok (.ifCond .eq 13, 3) := by decide +kernel
theorem d_M_drop_27 : decode prog_7_method_28_code 27 = .ok (.iload_n 2, 1) := by decide +kernel
theorem d_M_drop_28 : decode prog_7_method_28_code 28 = .ok (.aload_n 0, 1) := by decide +kernel
theorem d_M_drop_29 : decode prog_7_method_28_code 29 = .ok (.getfield 26, 3) := by decide +kernel
theorem d_M_drop_32 : decode prog_7_method_28_code 32 = .ok (.iload_n 1, 1) := by decide +kernel
theorem d_M_drop_33 : decode prog_7_method_28_code 33 = .ok (.iaload, 1) := by decide +kernel
theorem d_M_drop_34 : decode prog_7_method_28_code 34 = .ok (.if_icmp .ne 5, 3) := by decide +kernel
theorem d_M_drop_37 : decode prog_7_method_28_code 37 = .ok (.iconst 0, 1) := by decide +kernel
theorem d_M_drop_38 : decode prog_7_method_28_code 38 = .ok (.ireturn, 1) := by decide +kernel
theorem d_M_drop_39 : decode prog_7_method_28_code 39 = .ok (.aload_n 0, 1) := by decide +kernel
theorem d_M_drop_40 : decode prog_7_method_28_code 40 = .ok (.getfield 23, 3) := by decide +kernel
theorem d_M_drop_43 : decode prog_7_method_28_code 43 = .ok (.iconst 4, 1) := by decide +kernel
theorem d_M_drop_44 : decode prog_7_method_28_code 44 = .ok (.iload_n 1, 1) := by decide +kernel
theorem d_M_drop_45 : decode prog_7_method_28_code 45 = .ok (.imul, 1) := by decide +kernel
theorem d_M_drop_46 : decode prog_7_method_28_code 46 = .ok (.iload_n 2, 1) := by decide +kernel
theorem d_M_drop_47 : decode prog_7_method_28_code 47 = .ok (.iadd, 1) := by decide +kernel
theorem d_M_drop_48 : decode prog_7_method_28_code 48 = .ok (.bipush (-2), 2) := by decide +kernel
theorem d_M_drop_50 : decode prog_7_method_28_code 50 = .ok (.iastore, 1) := by decide +kernel
theorem d_M_drop_51 : decode prog_7_method_28_code 51 = .ok (.iconst 1, 1) := by decide +kernel
theorem d_M_drop_52 : decode prog_7_method_28_code 52 = .ok (.ireturn, 1) := by decide +kernel
theorem d_M_checkout_0 : decode prog_7_method_29_code 0 = .ok (.iload_n 1, 1) := by decide +kernel
theorem d_M_checkout_1 : decode prog_7_method_29_code 1 = .ok (.iconst 2, 1) := by decide +kernel
theorem d_M_checkout_2 : decode prog_7_method_29_code 2 = .ok (.invokestatic 123, 3) := by decide +kernel
theorem d_M_checkout_5 : decode prog_7_method_29_code 5 = .ok (.ifCond .ne 11, 3) := by decide +kernel
theorem d_M_checkout_8 : decode prog_7_method_29_code 8 = .ok (.iload_n 2, 1) := by decide +kernel
theorem d_M_checkout_9 : decode prog_7_method_29_code 9 = .ok (.iconst 4, 1) := by decide +kernel
theorem d_M_checkout_10 : decode prog_7_method_29_code 10 = .ok (.invokestatic 123, 3) := by decide +kernel
theorem d_M_checkout_13 : decode prog_7_method_29_code 13 = .ok (.ifCond .eq 5, 3) := by decide +kernel
theorem d_M_checkout_16 : decode prog_7_method_29_code 16 = .ok (.iconst (-1), 1) := by decide +kernel
theorem d_M_checkout_17 : decode prog_7_method_29_code 17 = .ok (.ireturn, 1) := by decide +kernel
theorem d_M_checkout_18 : decode prog_7_method_29_code 18 = .ok (.aload_n 0, 1) := by decide +kernel
theorem d_M_checkout_19 : decode prog_7_method_29_code 19 = .ok (.iload_n 1, 1) := by decide +kernel
theorem d_M_checkout_20 : decode prog_7_method_29_code 20 = .ok (.iload_n 2, 1) := by decide +kernel
theorem d_M_checkout_21 : decode prog_7_method_29_code 21 = .ok (.invokevirtual 130, 3) := by decide +kernel
theorem d_M_checkout_24 : decode prog_7_method_29_code 24 = .ok (.ifCond .ne 6, 3) := by decide +kernel
theorem d_M_checkout_27 : decode prog_7_method_29_code 27 = .ok (.bipush (-2), 2) := by decide +kernel
theorem d_M_checkout_29 : decode prog_7_method_29_code 29 = .ok (.ireturn, 1) := by decide +kernel
theorem d_M_checkout_30 : decode prog_7_method_29_code 30 = .ok (.aload_n 0, 1) := by decide +kernel
theorem d_M_checkout_31 : decode prog_7_method_29_code 31 = .ok (.iload_n 1, 1) := by decide +kernel
theorem d_M_checkout_32 : decode prog_7_method_29_code 32 = .ok (.invokevirtual 133, 3) := by decide +kernel
theorem d_M_checkout_35 : decode prog_7_method_29_code 35 = .ok (.ifCond .eq 6, 3) := by decide +kernel
theorem d_M_checkout_38 : decode prog_7_method_29_code 38 = .ok (.bipush (-3), 2) := by decide +kernel
theorem d_M_checkout_40 : decode prog_7_method_29_code 40 = .ok (.ireturn, 1) := by decide +kernel
theorem d_M_checkout_41 : decode prog_7_method_29_code 41 = .ok (.aload_n 0, 1) := by decide +kernel
theorem d_M_checkout_42 : decode prog_7_method_29_code 42 = .ok (.getfield 26, 3) := by decide +kernel
theorem d_M_checkout_45 : decode prog_7_method_29_code 45 = .ok (.iload_n 1, 1) := by decide +kernel
theorem d_M_checkout_46 : decode prog_7_method_29_code 46 = .ok (.iload_n 2, 1) := by decide +kernel
theorem d_M_checkout_47 : decode prog_7_method_29_code 47 = .ok (.iastore, 1) := by decide +kernel
theorem d_M_checkout_48 : decode prog_7_method_29_code 48 = .ok (.aload_n 0, 1) := by decide +kernel
theorem d_M_checkout_49 : decode prog_7_method_29_code 49 = .ok (.iload_n 1, 1) := by decide +kernel
theorem d_M_checkout_50 : decode prog_7_method_29_code 50 = .ok (.aload_n 0, 1) := by decide +kernel
theorem d_M_checkout_51 : decode prog_7_method_29_code 51 = .ok (.iload_n 1, 1) := by decide +kernel
theorem d_M_checkout_52 : decode prog_7_method_29_code 52 = .ok (.invokevirtual 111, 3) := by decide +kernel
theorem d_M_checkout_55 : decode prog_7_method_29_code 55 = .ok (.invokevirtual 137, 3) := by decide +kernel
theorem d_M_checkout_58 : decode prog_7_method_29_code 58 = .ok (.ireturn, 1) := by decide +kernel
theorem d_M_dirty_0 : decode prog_7_method_18_code 0 = .ok (.aload_n 0, 1) := by decide +kernel
theorem d_M_dirty_1 : decode prog_7_method_18_code 1 = .ok (.aload_n 0, 1) := by decide +kernel
theorem d_M_dirty_2 : decode prog_7_method_18_code 2 = .ok (.getfield 29, 3) := by decide +kernel
theorem d_M_dirty_5 : decode prog_7_method_18_code 5 = .ok (.iload_n 1, 1) := by decide +kernel
theorem d_M_dirty_6 : decode prog_7_method_18_code 6 = .ok (.invokevirtual 119, 3) := by decide +kernel
theorem d_M_dirty_9 : decode prog_7_method_18_code 9 = .ok (.ifCond .eq 15, 3) := by decide +kernel
theorem d_M_dirty_12 : decode prog_7_method_18_code 12 = .ok (.aload_n 0, 1) := by decide +kernel
theorem d_M_dirty_13 : decode prog_7_method_18_code 13 = .ok (.aload_n 0, 1) := by decide +kernel
theorem d_M_dirty_14 : decode prog_7_method_18_code 14 = .ok (.getfield 32, 3) := by decide +kernel
theorem d_M_dirty_17 : decode prog_7_method_18_code 17 = .ok (.iload_n 1, 1) := by decide +kernel
theorem d_M_dirty_18 : decode prog_7_method_18_code 18 = .ok (.invokevirtual 119, 3) := by decide +kernel
theorem d_M_dirty_21 : decode prog_7_method_18_code 21 = .ok (.ifCond .ne 7, 3) := by decide +kernel
theorem d_M_dirty_24 : decode prog_7_method_18_code 24 = .ok (.iconst 1, 1) := by decide +kernel
theorem d_M_dirty_25 : decode prog_7_method_18_code 25 = .ok (.goto 4, 3) := by decide +kernel
theorem d_M_dirty_28 : decode prog_7_method_18_code 28 = .ok (.iconst 0, 1) := by decide +kernel
theorem d_M_dirty_29 : decode prog_7_method_18_code 29 = .ok (.ireturn, 1) := by decide +kernel
theorem d_M_moveTo_0 : decode prog_7_method_20_code 0 = .ok (.aload_n 0, 1) := by decide +kernel
theorem d_M_moveTo_1 : decode prog_7_method_20_code 1 = .ok (.getfield 23, 3) := by decide +kernel
theorem d_M_moveTo_4 : decode prog_7_method_20_code 4 = .ok (.iconst 4, 1) := by decide +kernel
theorem d_M_moveTo_5 : decode prog_7_method_20_code 5 = .ok (.iload_n 1, 1) := by decide +kernel
theorem d_M_moveTo_6 : decode prog_7_method_20_code 6 = .ok (.imul, 1) := by decide +kernel
theorem d_M_moveTo_7 : decode prog_7_method_20_code 7 = .ok (.aload_n 0, 1) := by decide +kernel
theorem d_M_moveTo_8 : decode prog_7_method_20_code 8 = .ok (.getfield 26, 3) := by decide +kernel
theorem d_M_moveTo_11 : decode prog_7_method_20_code 11 = .ok (.iload_n 1, 1) := by decide +kernel
theorem d_M_moveTo_12 : decode prog_7_method_20_code 12 = .ok (.iaload, 1) := by decide +kernel
theorem d_M_moveTo_13 : decode prog_7_method_20_code 13 = .ok (.iadd, 1) := by decide +kernel
theorem d_M_moveTo_14 : decode prog_7_method_20_code 14 = .ok (.iload_n 2, 1) := by decide +kernel
theorem d_M_moveTo_15 : decode prog_7_method_20_code 15 = .ok (.iastore, 1) := by decide +kernel
theorem d_M_moveTo_16 : decode prog_7_method_20_code 16 = .ok (.iconst 0, 1) := by decide +kernel
theorem d_M_moveTo_17 : decode prog_7_method_20_code 17 = .ok (.istore_n 3, 1) := by decide +kernel
theorem d_M_moveTo_18 : decode prog_7_method_20_code 18 = .ok (.iload_n 3, 1) := by decide +kernel
theorem d_M_moveTo_19 : decode prog_7_method_20_code 19 = .ok (.iconst 4, 1) := by decide +kernel
theorem d_M_moveTo_20 : decode prog_7_method_20_code 20 = .ok (.if_icmp .ge 41, 3) := by decide +kernel
theorem d_M_moveTo_23 : decode prog_7_method_20_code 23 = .ok (.aload_n 0, 1) := by decide +kernel
theorem d_M_moveTo_24 : decode prog_7_method_20_code 24 = .ok (.getfield 29, 3) := by decide +kernel
theorem d_M_moveTo_27 : decode prog_7_method_20_code 27 = .ok (.iconst 4, 1) := by decide +kernel
theorem d_M_moveTo_28 : decode prog_7_method_20_code 28 = .ok (.iload_n 1, 1) := by decide +kernel
theorem d_M_moveTo_29 : decode prog_7_method_20_code 29 = .ok (.imul, 1) := by decide +kernel
theorem d_M_moveTo_30 : decode prog_7_method_20_code 30 = .ok (.iload_n 3, 1) := by decide +kernel
theorem d_M_moveTo_31 : decode prog_7_method_20_code 31 = .ok (.iadd, 1) := by decide +kernel
theorem d_M_moveTo_32 : decode prog_7_method_20_code 32 = .ok (.aload_n 0, 1) := by decide +kernel
theorem d_M_moveTo_33 : decode prog_7_method_20_code 33 = .ok (.iload_n 2, 1) := by decide +kernel
theorem d_M_moveTo_34 : decode prog_7_method_20_code 34 = .ok (.iload_n 3, 1) := by decide +kernel
theorem d_M_moveTo_35 : decode prog_7_method_20_code 35 = .ok (.invokevirtual 115, 3) := by decide +kernel
theorem d_M_moveTo_38 : decode prog_7_method_20_code 38 = .ok (.lastore, 1) := by decide +kernel
theorem d_M_moveTo_39 : decode prog_7_method_20_code 39 = .ok (.aload_n 0, 1) := by decide +kernel
theorem d_M_moveTo_40 : decode prog_7_method_20_code 40 = .ok (.getfield 32, 3) := by decide +kernel
theorem d_M_moveTo_43 : decode prog_7_method_20_code 43 = .ok (.iconst 4, 1) := by decide +kernel
theorem d_M_moveTo_44 : decode prog_7_method_20_code 44 = .ok (.iload_n 1, 1) := by decide +kernel
theorem d_M_moveTo_45 : decode prog_7_method_20_code 45 = .ok (.imul, 1) := by decide +kernel
theorem d_M_moveTo_46 : decode prog_7_method_20_code 46 = .ok (.iload_n 3, 1) := by decide +kernel
theorem d_M_moveTo_47 : decode prog_7_method_20_code 47 = .ok (.iadd, 1) := by decide +kernel
theorem d_M_moveTo_48 : decode prog_7_method_20_code 48 = .ok (.aload_n 0, 1) := by decide +kernel
theorem d_M_moveTo_49 : decode prog_7_method_20_code 49 = .ok (.iload_n 2, 1) := by decide +kernel
theorem d_M_moveTo_50 : decode prog_7_method_20_code 50 = .ok (.iload_n 3, 1) := by decide +kernel
theorem d_M_moveTo_51 : decode prog_7_method_20_code 51 = .ok (.invokevirtual 115, 3) := by decide +kernel
theorem d_M_moveTo_54 : decode prog_7_method_20_code 54 = .ok (.lastore, 1) := by decide +kernel
theorem d_M_moveTo_55 : decode prog_7_method_20_code 55 = .ok (.iinc 3 1, 3) := by decide +kernel
theorem d_M_moveTo_58 : decode prog_7_method_20_code 58 = .ok (.goto (-40), 3) := by decide +kernel
theorem d_M_moveTo_61 : decode prog_7_method_20_code 61 = .ok (.iload_n 2, 1) := by decide +kernel
theorem d_M_moveTo_62 : decode prog_7_method_20_code 62 = .ok (.ireturn, 1) := by decide +kernel
theorem d_M_merge_0 : decode prog_7_method_30_code 0 = .ok (.iload_n 1, 1) := by decide +kernel
theorem d_M_merge_1 : decode prog_7_method_30_code 1 = .ok (.iconst 2, 1) := by decide +kernel
theorem d_M_merge_2 : decode prog_7_method_30_code 2 = .ok (.invokestatic 123, 3) := by decide +kernel
theorem d_M_merge_5 : decode prog_7_method_30_code 5 = .ok (.ifCond .ne 11, 3) := by decide +kernel
theorem d_M_merge_8 : decode prog_7_method_30_code 8 = .ok (.iload_n 2, 1) := by decide +kernel
theorem d_M_merge_9 : decode prog_7_method_30_code 9 = .ok (.iconst 4, 1) := by decide +kernel
theorem d_M_merge_10 : decode prog_7_method_30_code 10 = .ok (.invokestatic 123, 3) := by decide +kernel
theorem d_M_merge_13 : decode prog_7_method_30_code 13 = .ok (.ifCond .eq 5, 3) := by decide +kernel
theorem d_M_merge_16 : decode prog_7_method_30_code 16 = .ok (.iconst (-1), 1) := by decide +kernel
theorem d_M_merge_17 : decode prog_7_method_30_code 17 = .ok (.ireturn, 1) := by decide +kernel
theorem d_M_merge_18 : decode prog_7_method_30_code 18 = .ok (.aload_n 0, 1) := by decide +kernel
theorem d_M_merge_19 : decode prog_7_method_30_code 19 = .ok (.iload_n 1, 1) := by decide +kernel
theorem d_M_merge_20 : decode prog_7_method_30_code 20 = .ok (.invokevirtual 111, 3) := by decide +kernel
theorem d_M_merge_23 : decode prog_7_method_30_code 23 = .ok (.istore_n 3, 1) := by decide +kernel
theorem d_M_merge_24 : decode prog_7_method_30_code 24 = .ok (.aload_n 0, 1) := by decide +kernel
theorem d_M_merge_25 : decode prog_7_method_30_code 25 = .ok (.iload_n 1, 1) := by decide +kernel
theorem d_M_merge_26 : decode prog_7_method_30_code 26 = .ok (.iload_n 2, 1) := by decide +kernel
theorem d_M_merge_27 : decode prog_7_method_30_code 27 = .ok (.invokevirtual 130, 3) := by decide +kernel
theorem d_M_merge_30 : decode prog_7_method_30_code 30 = .ok (.ifCond .eq 7, 3) := by decide +kernel
theorem d_M_merge_33 : decode prog_7_method_30_code 33 = .ok (.iload_n 3, 1) := by decide +kernel
theorem d_M_merge_34 : decode prog_7_method_30_code 34 = .ok (.ifCond .ge 6, 3) := by decide +kernel
theorem d_M_merge_37 : decode prog_7_method_30_code 37 = .ok (.bipush (-2), 2) := by decide +kernel
theorem d_M_merge_39 : decode prog_7_method_30_code 39 = .ok (.ireturn, 1) := by decide +kernel
theorem d_M_merge_40 : decode prog_7_method_30_code 40 = .ok (.aload_n 0, 1) := by decide +kernel
theorem d_M_merge_41 : decode prog_7_method_30_code 41 = .ok (.iload_n 1, 1) := by decide +kernel
theorem d_M_merge_42 : decode prog_7_method_30_code 42 = .ok (.invokevirtual 133, 3) := by decide +kernel
theorem d_M_merge_45 : decode prog_7_method_30_code 45 = .ok (.ifCond .eq 6, 3) := by decide +kernel
theorem d_M_merge_48 : decode prog_7_method_30_code 48 = .ok (.bipush (-3), 2) := by decide +kernel
theorem d_M_merge_50 : decode prog_7_method_30_code 50 = .ok (.ireturn, 1) := by decide +kernel
theorem d_M_merge_51 : decode prog_7_method_30_code 51 = .ok (.aload_n 0, 1) := by decide +kernel
theorem d_M_merge_52 : decode prog_7_method_30_code 52 = .ok (.getfield 23, 3) := by decide +kernel
theorem d_M_merge_55 : decode prog_7_method_30_code 55 = .ok (.iconst 4, 1) := by decide +kernel
theorem d_M_merge_56 : decode prog_7_method_30_code 56 = .ok (.iload_n 1, 1) := by decide +kernel
theorem d_M_merge_57 : decode prog_7_method_30_code 57 = .ok (.imul, 1) := by decide +kernel
theorem d_M_merge_58 : decode prog_7_method_30_code 58 = .ok (.iload_n 2, 1) := by decide +kernel
theorem d_M_merge_59 : decode prog_7_method_30_code 59 = .ok (.iadd, 1) := by decide +kernel
theorem d_M_merge_60 : decode prog_7_method_30_code 60 = .ok (.iaload, 1) := by decide +kernel
theorem d_M_merge_61 : decode prog_7_method_30_code 61 = .ok (.istore 4, 2) := by decide +kernel
theorem d_M_merge_63 : decode prog_7_method_30_code 63 = .ok (.aload_n 0, 1) := by decide +kernel
theorem d_M_merge_64 : decode prog_7_method_30_code 64 = .ok (.iload_n 3, 1) := by decide +kernel
theorem d_M_merge_65 : decode prog_7_method_30_code 65 = .ok (.iload 4, 2) := by decide +kernel
theorem d_M_merge_67 : decode prog_7_method_30_code 67 = .ok (.invokevirtual 107, 3) := by decide +kernel
theorem d_M_merge_70 : decode prog_7_method_30_code 70 = .ok (.ifCond .eq 6, 3) := by decide +kernel
theorem d_M_merge_73 : decode prog_7_method_30_code 73 = .ok (.bipush (-4), 2) := by decide +kernel
theorem d_M_merge_75 : decode prog_7_method_30_code 75 = .ok (.ireturn, 1) := by decide +kernel
theorem d_M_merge_76 : decode prog_7_method_30_code 76 = .ok (.aload_n 0, 1) := by decide +kernel
theorem d_M_merge_77 : decode prog_7_method_30_code 77 = .ok (.iload 4, 2) := by decide +kernel
theorem d_M_merge_79 : decode prog_7_method_30_code 79 = .ok (.iload_n 3, 1) := by decide +kernel
theorem d_M_merge_80 : decode prog_7_method_30_code 80 = .ok (.invokevirtual 107, 3) := by decide +kernel
theorem d_M_merge_83 : decode prog_7_method_30_code 83 = .ok (.ifCond .eq 11, 3) := by decide +kernel
theorem d_M_merge_86 : decode prog_7_method_30_code 86 = .ok (.aload_n 0, 1) := by decide +kernel
theorem d_M_merge_87 : decode prog_7_method_30_code 87 = .ok (.iload_n 1, 1) := by decide +kernel
theorem d_M_merge_88 : decode prog_7_method_30_code 88 = .ok (.iload 4, 2) := by decide +kernel
theorem d_M_merge_90 : decode prog_7_method_30_code 90 = .ok (.invokevirtual 137, 3) := by decide +kernel
theorem d_M_merge_93 : decode prog_7_method_30_code 93 = .ok (.ireturn, 1) := by decide +kernel
theorem d_M_merge_94 : decode prog_7_method_30_code 94 = .ok (.aload_n 0, 1) := by decide +kernel
theorem d_M_merge_95 : decode prog_7_method_30_code 95 = .ok (.iload_n 3, 1) := by decide +kernel
theorem d_M_merge_96 : decode prog_7_method_30_code 96 = .ok (.iload 4, 2) := by decide +kernel
theorem d_M_merge_98 : decode prog_7_method_30_code 98 = .ok (.invokevirtual 141, 3) := by decide +kernel
theorem d_M_merge_101 : decode prog_7_method_30_code 101 = .ok (.istore 5, 2) := by decide +kernel
theorem d_M_merge_103 : decode prog_7_method_30_code 103 = .ok (.iconst 0, 1) := by decide +kernel
theorem d_M_merge_104 : decode prog_7_method_30_code 104 = .ok (.istore 6, 2) := by decide +kernel
theorem d_M_merge_106 : decode prog_7_method_30_code 106 = .ok (.iload 6, 2) := by decide +kernel
theorem d_M_merge_108 : decode prog_7_method_30_code 108 = .ok (.iconst 4, 1) := by decide +kernel
theorem d_M_merge_109 : decode prog_7_method_30_code 109 = .ok (.if_icmp .ge 53, 3) := by decide +kernel
theorem d_M_merge_112 : decode prog_7_method_30_code 112 = .ok (.aload_n 0, 1) := by decide +kernel
theorem d_M_merge_113 : decode prog_7_method_30_code 113 = .ok (.getfield 35, 3) := by decide +kernel
theorem d_M_merge_116 : decode prog_7_method_30_code 116 = .ok (.iload 6, 2) := by decide +kernel
theorem d_M_merge_118 : decode prog_7_method_30_code 118 = .ok (.aload_n 0, 1) := by decide +kernel
theorem d_M_merge_119 : decode prog_7_method_30_code 119 = .ok (.iload 5, 2) := by decide +kernel
theorem d_M_merge_121 : decode prog_7_method_30_code 121 = .ok (.iload 6, 2) := by decide +kernel
theorem d_M_merge_123 : decode prog_7_method_30_code 123 = .ok (.invokevirtual 115, 3) := by decide +kernel
theorem d_M_merge_126 : decode prog_7_method_30_code 126 = .ok (.lastore, 1) := by decide +kernel
theorem d_M_merge_127 : decode prog_7_method_30_code 127 = .ok (.aload_n 0, 1) := by decide +kernel
theorem d_M_merge_128 : decode prog_7_method_30_code 128 = .ok (.getfield 38, 3) := by decide +kernel
theorem d_M_merge_131 : decode prog_7_method_30_code 131 = .ok (.iload 6, 2) := by decide +kernel
theorem d_M_merge_133 : decode prog_7_method_30_code 133 = .ok (.aload_n 0, 1) := by decide +kernel
theorem d_M_merge_134 : decode prog_7_method_30_code 134 = .ok (.iload_n 3, 1) := by decide +kernel
theorem d_M_merge_135 : decode prog_7_method_30_code 135 = .ok (.iload 6, 2) := by decide +kernel
theorem d_M_merge_137 : decode prog_7_method_30_code 137 = .ok (.invokevirtual 115, 3) := by decide +kernel
theorem d_M_merge_140 : decode prog_7_method_30_code 140 = .ok (.lastore, 1) := by decide +kernel
theorem d_M_merge_141 : decode prog_7_method_30_code 141 = .ok (.aload_n 0, 1) := by decide +kernel
theorem d_M_merge_142 : decode prog_7_method_30_code 142 = .ok (.getfield 41, 3) := by decide +kernel
theorem d_M_merge_145 : decode prog_7_method_30_code 145 = .ok (.iload 6, 2) := by decide +kernel
theorem d_M_merge_147 : decode prog_7_method_30_code 147 = .ok (.aload_n 0, 1) := by decide +kernel
theorem d_M_merge_148 : decode prog_7_method_30_code 148 = .ok (.iload 4, 2) := by decide +kernel
theorem d_M_merge_150 : decode prog_7_method_30_code 150 = .ok (.iload 6, 2) := by decide +kernel
theorem d_M_merge_152 : decode prog_7_method_30_code 152 = .ok (.invokevirtual 115, 3) := by decide +kernel
theorem d_M_merge_155 : decode prog_7_method_30_code 155 = .ok (.lastore, 1) := by decide +kernel
theorem d_M_merge_156 : decode prog_7_method_30_code 156 = .ok (.iinc 6 1, 3) := by decide +kernel
theorem d_M_merge_159 : decode prog_7_method_30_code 159 = .ok (.goto (-53), 3) := by decide +kernel
theorem d_M_merge_162 : decode prog_7_method_30_code 162 = .ok (.aload_n 0, 1) := by decide +kernel
theorem d_M_merge_163 : decode prog_7_method_30_code 163 = .ok (.invokevirtual 144, 3) := by decide +kernel
theorem d_M_merge_166 : decode prog_7_method_30_code 166 = .ok (.ifCond .ne 6, 3) := by decide +kernel
theorem d_M_merge_169 : decode prog_7_method_30_code 169 = .ok (.bipush (-5), 2) := by decide +kernel
theorem d_M_merge_171 : decode prog_7_method_30_code 171 = .ok (.ireturn, 1) := by decide +kernel
theorem d_M_merge_172 : decode prog_7_method_30_code 172 = .ok (.aload_n 0, 1) := by decide +kernel
theorem d_M_merge_173 : decode prog_7_method_30_code 173 = .ok (.getfield 104, 3) := by decide +kernel
theorem d_M_merge_176 : decode prog_7_method_30_code 176 = .ok (.bipush 40, 2) := by decide +kernel
theorem d_M_merge_178 : decode prog_7_method_30_code 178 = .ok (.if_icmp .ne 6, 3) := by decide +kernel
theorem d_M_merge_181 : decode prog_7_method_30_code 181 = .ok (.bipush (-6), 2) := by decide +kernel
theorem d_M_merge_183 : decode prog_7_method_30_code 183 = .ok (.ireturn, 1) := by decide +kernel
theorem d_M_merge_184 : decode prog_7_method_30_code 184 = .ok (.aload_n 0, 1) := by decide +kernel
theorem d_M_merge_185 : decode prog_7_method_30_code 185 = .ok (.iload_n 1, 1) := by decide +kernel
theorem d_M_merge_186 : decode prog_7_method_30_code 186 = .ok (.iload_n 3, 1) := by decide +kernel
theorem d_M_merge_187 : decode prog_7_method_30_code 187 = .ok (.iload 4, 2) := by decide +kernel
theorem d_M_merge_189 : decode prog_7_method_30_code 189 = .ok (.invokevirtual 126, 3) := by decide +kernel
theorem d_M_merge_192 : decode prog_7_method_30_code 192 = .ok (.istore 6, 2) := by decide +kernel
theorem d_M_merge_194 : decode prog_7_method_30_code 194 = .ok (.aload_n 0, 1) := by decide +kernel
theorem d_M_merge_195 : decode prog_7_method_30_code 195 = .ok (.iload 6, 2) := by decide +kernel
theorem d_M_merge_197 : decode prog_7_method_30_code 197 = .ok (.invokevirtual 148, 3) := by decide +kernel
theorem d_M_merge_200 : decode prog_7_method_30_code 200 = .ok (.aload_n 0, 1) := by decide +kernel
theorem d_M_merge_201 : decode prog_7_method_30_code 201 = .ok (.iload_n 1, 1) := by decide +kernel
theorem d_M_merge_202 : decode prog_7_method_30_code 202 = .ok (.iload 6, 2) := by decide +kernel
theorem d_M_merge_204 : decode prog_7_method_30_code 204 = .ok (.invokevirtual 137, 3) := by decide +kernel
theorem d_M_merge_207 : decode prog_7_method_30_code 207 = .ok (.ireturn, 1) := by decide +kernel
