/-! Decode rows. (Printed by gen_names.py.) -/
theorem d_R_head_0 : decode prog_3_method_2_code 0 = .ok (.aload_n 0, 1) := by decide +kernel
theorem d_R_head_1 : decode prog_3_method_2_code 1 = .ok (.getfield 9, 3) := by decide +kernel
theorem d_R_head_4 : decode prog_3_method_2_code 4 = .ok (.aload_n 0, 1) := by decide +kernel
theorem d_R_head_5 : decode prog_3_method_2_code 5 = .ok (.getfield 28, 3) := by decide +kernel
theorem d_R_head_8 : decode prog_3_method_2_code 8 = .ok (.iaload, 1) := by decide +kernel
theorem d_R_head_9 : decode prog_3_method_2_code 9 = .ok (.ireturn, 1) := by decide +kernel
theorem d_U_init_0 : decode prog_5_method_1_code 0 = .ok (.aload_n 0, 1) := by decide +kernel
theorem d_U_init_1 : decode prog_5_method_1_code 1 = .ok (.invokespecial 3, 3) := by decide +kernel
theorem d_U_init_4 : decode prog_5_method_1_code 4 = .ok (.aload_n 0, 1) := by decide +kernel
theorem d_U_init_5 : decode prog_5_method_1_code 5 = .ok (.iconst 4, 1) := by decide +kernel
theorem d_U_init_6 : decode prog_5_method_1_code 6 = .ok (.newarray .long, 2) := by decide +kernel
theorem d_U_init_8 : decode prog_5_method_1_code 8 = .ok (.putfield 9, 3) := by decide +kernel
theorem d_U_init_11 : decode prog_5_method_1_code 11 = .ok (.aload_n 0, 1) := by decide +kernel
theorem d_U_init_12 : decode prog_5_method_1_code 12 = .ok (.bipush 9, 2) := by decide +kernel
theorem d_U_init_14 : decode prog_5_method_1_code 14 = .ok (.newarray .int, 2) := by decide +kernel
theorem d_U_init_16 : decode prog_5_method_1_code 16 = .ok (.putfield 15, 3) := by decide +kernel
theorem d_U_init_19 : decode prog_5_method_1_code 19 = .ok (.aload_n 0, 1) := by decide +kernel
theorem d_U_init_20 : decode prog_5_method_1_code 20 = .ok (.bipush 9, 2) := by decide +kernel
theorem d_U_init_22 : decode prog_5_method_1_code 22 = .ok (.newarray .int, 2) := by decide +kernel
theorem d_U_init_24 : decode prog_5_method_1_code 24 = .ok (.putfield 19, 3) := by decide +kernel
theorem d_U_init_27 : decode prog_5_method_1_code 27 = .ok (.aload_n 0, 1) := by decide +kernel
theorem d_U_init_28 : decode prog_5_method_1_code 28 = .ok (.bipush 9, 2) := by decide +kernel
theorem d_U_init_30 : decode prog_5_method_1_code 30 = .ok (.bipush 9, 2) := by decide +kernel
theorem d_U_init_32 : decode prog_5_method_1_code 32 = .ok (.multianewarray 22 2, 4) := by decide +kernel
theorem d_U_init_36 : decode prog_5_method_1_code 36 = .ok (.putfield 24, 3) := by decide +kernel
theorem d_U_init_39 : decode prog_5_method_1_code 39 = .ok (.return_, 1) := by decide +kernel
theorem d_U_uniteSnapshots_0 : decode prog_5_method_2_code 0 = .ok (.iconst 0, 1) := by decide +kernel
theorem d_U_uniteSnapshots_1 : decode prog_5_method_2_code 1 = .ok (.istore 5, 2) := by decide +kernel
theorem d_U_uniteSnapshots_3 : decode prog_5_method_2_code 3 = .ok (.iload 5, 2) := by decide +kernel
theorem d_U_uniteSnapshots_5 : decode prog_5_method_2_code 5 = .ok (.iconst 4, 1) := by decide +kernel
theorem d_U_uniteSnapshots_6 : decode prog_5_method_2_code 6 = .ok (.if_icmp .ge 116, 3) := by decide +kernel
theorem d_U_uniteSnapshots_9 : decode prog_5_method_2_code 9 = .ok (.aload_n 1, 1) := by decide +kernel
theorem d_U_uniteSnapshots_10 : decode prog_5_method_2_code 10 = .ok (.iload_n 2, 1) := by decide +kernel
theorem d_U_uniteSnapshots_11 : decode prog_5_method_2_code 11 = .ok (.iload 5, 2) := by decide +kernel
theorem d_U_uniteSnapshots_13 : decode prog_5_method_2_code 13 = .ok (.invokevirtual 27, 3) := by decide +kernel
theorem d_U_uniteSnapshots_16 : decode prog_5_method_2_code 16 = .ok (.lstore 6, 2) := by decide +kernel
theorem d_U_uniteSnapshots_18 : decode prog_5_method_2_code 18 = .ok (.aload_n 1, 1) := by decide +kernel
theorem d_U_uniteSnapshots_19 : decode prog_5_method_2_code 19 = .ok (.iload_n 3, 1) := by decide +kernel
theorem d_U_uniteSnapshots_20 : decode prog_5_method_2_code 20 = .ok (.iload 5, 2) := by decide +kernel
theorem d_U_uniteSnapshots_22 : decode prog_5_method_2_code 22 = .ok (.invokevirtual 27, 3) := by decide +kernel
theorem d_U_uniteSnapshots_25 : decode prog_5_method_2_code 25 = .ok (.lstore 8, 2) := by decide +kernel
theorem d_U_uniteSnapshots_27 : decode prog_5_method_2_code 27 = .ok (.aload_n 1, 1) := by decide +kernel
theorem d_U_uniteSnapshots_28 : decode prog_5_method_2_code 28 = .ok (.iload 4, 2) := by decide +kernel
theorem d_U_uniteSnapshots_30 : decode prog_5_method_2_code 30 = .ok (.iload 5, 2) := by decide +kernel
theorem d_U_uniteSnapshots_32 : decode prog_5_method_2_code 32 = .ok (.invokevirtual 27, 3) := by decide +kernel
theorem d_U_uniteSnapshots_35 : decode prog_5_method_2_code 35 = .ok (.lstore 10, 2) := by decide +kernel
theorem d_U_uniteSnapshots_37 : decode prog_5_method_2_code 37 = .ok (.lload 6, 2) := by decide +kernel
theorem d_U_uniteSnapshots_39 : decode prog_5_method_2_code 39 = .ok (.lload 8, 2) := by decide +kernel
theorem d_U_uniteSnapshots_41 : decode prog_5_method_2_code 41 = .ok (.lload 10, 2) := by decide +kernel
theorem d_U_uniteSnapshots_43 : decode prog_5_method_2_code 43 = .ok (.invokestatic 33, 3) := by decide +kernel
theorem d_U_uniteSnapshots_46 : decode prog_5_method_2_code 46 = .ok (.lstore 12, 2) := by decide +kernel
theorem d_U_uniteSnapshots_48 : decode prog_5_method_2_code 48 = .ok (.lload 12, 2) := by decide +kernel
theorem d_U_uniteSnapshots_50 : decode prog_5_method_2_code 50 = .ok (.ldc2_w 37, 3) := by decide +kernel
theorem d_U_uniteSnapshots_53 : decode prog_5_method_2_code 53 = .ok (.lcmp, 1) := by decide +kernel
theorem d_U_uniteSnapshots_54 : decode prog_5_method_2_code 54 = .ok (.ifCond .ne 42, 3) := by decide +kernel
theorem d_U_uniteSnapshots_57 : decode prog_5_method_2_code 57 = .ok (.lload 6, 2) := by decide +kernel
theorem d_U_uniteSnapshots_59 : decode prog_5_method_2_code 59 = .ok (.ldc2_w 39, 3) := by decide +kernel
theorem d_U_uniteSnapshots_62 : decode prog_5_method_2_code 62 = .ok (.lcmp, 1) := by decide +kernel
theorem d_U_uniteSnapshots_63 : decode prog_5_method_2_code 63 = .ok (.ifCond .eq 33, 3) := by decide +kernel
theorem d_U_uniteSnapshots_66 : decode prog_5_method_2_code 66 = .ok (.lload 8, 2) := by decide +kernel
theorem d_U_uniteSnapshots_68 : decode prog_5_method_2_code 68 = .ok (.ldc2_w 39, 3) := by decide +kernel
theorem d_U_uniteSnapshots_71 : decode prog_5_method_2_code 71 = .ok (.lcmp, 1) := by decide +kernel
theorem d_U_uniteSnapshots_72 : decode prog_5_method_2_code 72 = .ok (.ifCond .eq 24, 3) := by decide +kernel
theorem d_U_uniteSnapshots_75 : decode prog_5_method_2_code 75 = .ok (.lload 10, 2) := by decide +kernel
theorem d_U_uniteSnapshots_77 : decode prog_5_method_2_code 77 = .ok (.ldc2_w 39, 3) := by decide +kernel
theorem d_U_uniteSnapshots_80 : decode prog_5_method_2_code 80 = .ok (.lcmp, 1) := by decide +kernel
theorem d_U_uniteSnapshots_81 : decode prog_5_method_2_code 81 = .ok (.ifCond .eq 15, 3) := by decide +kernel
theorem d_U_uniteSnapshots_84 : decode prog_5_method_2_code 84 = .ok (.aload_n 0, 1) := by decide +kernel
theorem d_U_uniteSnapshots_85 : decode prog_5_method_2_code 85 = .ok (.lload 6, 2) := by decide +kernel
theorem d_U_uniteSnapshots_87 : decode prog_5_method_2_code 87 = .ok (.lload 8, 2) := by decide +kernel
theorem d_U_uniteSnapshots_89 : decode prog_5_method_2_code 89 = .ok (.lload 10, 2) := by decide +kernel
theorem d_U_uniteSnapshots_91 : decode prog_5_method_2_code 91 = .ok (.invokevirtual 41, 3) := by decide +kernel
theorem d_U_uniteSnapshots_94 : decode prog_5_method_2_code 94 = .ok (.lstore 12, 2) := by decide +kernel
theorem d_U_uniteSnapshots_96 : decode prog_5_method_2_code 96 = .ok (.lload 12, 2) := by decide +kernel
theorem d_U_uniteSnapshots_98 : decode prog_5_method_2_code 98 = .ok (.ldc2_w 37, 3) := by decide +kernel
theorem d_U_uniteSnapshots_101 : decode prog_5_method_2_code 101 = .ok (.lcmp, 1) := by decide +kernel
theorem d_U_uniteSnapshots_102 : decode prog_5_method_2_code 102 = .ok (.ifCond .ne 5, 3) := by decide +kernel
theorem d_U_uniteSnapshots_105 : decode prog_5_method_2_code 105 = .ok (.iconst 0, 1) := by decide +kernel
theorem d_U_uniteSnapshots_106 : decode prog_5_method_2_code 106 = .ok (.ireturn, 1) := by decide +kernel
theorem d_U_uniteSnapshots_107 : decode prog_5_method_2_code 107 = .ok (.aload_n 0, 1) := by decide +kernel
theorem d_U_uniteSnapshots_108 : decode prog_5_method_2_code 108 = .ok (.getfield 9, 3) := by decide +kernel
theorem d_U_uniteSnapshots_111 : decode prog_5_method_2_code 111 = .ok (.iload 5, 2) := by decide +kernel
theorem d_U_uniteSnapshots_113 : decode prog_5_method_2_code 113 = .ok (.lload 12, 2) := by decide +kernel
theorem d_U_uniteSnapshots_115 : decode prog_5_method_2_code 115 = .ok (.lastore, 1) := by decide +kernel
theorem d_U_uniteSnapshots_116 : decode prog_5_method_2_code 116 = .ok (.iinc 5 1, 3) := by decide +kernel
theorem d_U_uniteSnapshots_119 : decode prog_5_method_2_code 119 = .ok (.goto (-116), 3) := by decide +kernel
theorem d_U_uniteSnapshots_122 : decode prog_5_method_2_code 122 = .ok (.iconst 1, 1) := by decide +kernel
theorem d_U_uniteSnapshots_123 : decode prog_5_method_2_code 123 = .ok (.ireturn, 1) := by decide +kernel
theorem d_U_take_0 : decode prog_5_method_3_code 0 = .ok (.lload_n 2, 1) := by decide +kernel
theorem d_U_take_1 : decode prog_5_method_3_code 1 = .ok (.lload_n 0, 1) := by decide +kernel
theorem d_U_take_2 : decode prog_5_method_3_code 2 = .ok (.lcmp, 1) := by decide +kernel
theorem d_U_take_3 : decode prog_5_method_3_code 3 = .ok (.ifCond .ne 6, 3) := by decide +kernel
theorem d_U_take_6 : decode prog_5_method_3_code 6 = .ok (.lload 4, 2) := by decide +kernel
theorem d_U_take_8 : decode prog_5_method_3_code 8 = .ok (.lreturn, 1) := by decide +kernel
theorem d_U_take_9 : decode prog_5_method_3_code 9 = .ok (.lload 4, 2) := by decide +kernel
theorem d_U_take_11 : decode prog_5_method_3_code 11 = .ok (.lload_n 0, 1) := by decide +kernel
theorem d_U_take_12 : decode prog_5_method_3_code 12 = .ok (.lcmp, 1) := by decide +kernel
theorem d_U_take_13 : decode prog_5_method_3_code 13 = .ok (.ifCond .eq 10, 3) := by decide +kernel
theorem d_U_take_16 : decode prog_5_method_3_code 16 = .ok (.lload 4, 2) := by decide +kernel
theorem d_U_take_18 : decode prog_5_method_3_code 18 = .ok (.lload_n 2, 1) := by decide +kernel
theorem d_U_take_19 : decode prog_5_method_3_code 19 = .ok (.lcmp, 1) := by decide +kernel
theorem d_U_take_20 : decode prog_5_method_3_code 20 = .ok (.ifCond .ne 7, 3) := by decide +kernel
theorem d_U_take_23 : decode prog_5_method_3_code 23 = .ok (.lload_n 2, 1) := by decide +kernel
theorem d_U_take_24 : decode prog_5_method_3_code 24 = .ok (.goto 6, 3) := by decide +kernel
theorem d_U_take_27 : decode prog_5_method_3_code 27 = .ok (.ldc2_w 37, 3) := by decide +kernel
theorem d_U_take_30 : decode prog_5_method_3_code 30 = .ok (.lreturn, 1) := by decide +kernel
theorem d_U_uniteTexts_0 : decode prog_5_method_4_code 0 = .ok (.aload_n 0, 1) := by decide +kernel
theorem d_U_uniteTexts_1 : decode prog_5_method_4_code 1 = .ok (.lload_n 1, 1) := by decide +kernel
theorem d_U_uniteTexts_2 : decode prog_5_method_4_code 2 = .ok (.lload_n 3, 1) := by decide +kernel
theorem d_U_uniteTexts_3 : decode prog_5_method_4_code 3 = .ok (.invokevirtual 44, 3) := by decide +kernel
theorem d_U_uniteTexts_6 : decode prog_5_method_4_code 6 = .ok (.aload_n 0, 1) := by decide +kernel
theorem d_U_uniteTexts_7 : decode prog_5_method_4_code 7 = .ok (.lload_n 1, 1) := by decide +kernel
theorem d_U_uniteTexts_8 : decode prog_5_method_4_code 8 = .ok (.lload_n 3, 1) := by decide +kernel
theorem d_U_uniteTexts_9 : decode prog_5_method_4_code 9 = .ok (.aload_n 0, 1) := by decide +kernel
theorem d_U_uniteTexts_10 : decode prog_5_method_4_code 10 = .ok (.getfield 15, 3) := by decide +kernel
theorem d_U_uniteTexts_13 : decode prog_5_method_4_code 13 = .ok (.invokevirtual 48, 3) := by decide +kernel
theorem d_U_uniteTexts_16 : decode prog_5_method_4_code 16 = .ok (.aload_n 0, 1) := by decide +kernel
theorem d_U_uniteTexts_17 : decode prog_5_method_4_code 17 = .ok (.lload_n 1, 1) := by decide +kernel
theorem d_U_uniteTexts_18 : decode prog_5_method_4_code 18 = .ok (.lload 5, 2) := by decide +kernel
theorem d_U_uniteTexts_20 : decode prog_5_method_4_code 20 = .ok (.invokevirtual 44, 3) := by decide +kernel
theorem d_U_uniteTexts_23 : decode prog_5_method_4_code 23 = .ok (.aload_n 0, 1) := by decide +kernel
theorem d_U_uniteTexts_24 : decode prog_5_method_4_code 24 = .ok (.lload_n 1, 1) := by decide +kernel
theorem d_U_uniteTexts_25 : decode prog_5_method_4_code 25 = .ok (.lload 5, 2) := by decide +kernel
theorem d_U_uniteTexts_27 : decode prog_5_method_4_code 27 = .ok (.aload_n 0, 1) := by decide +kernel
theorem d_U_uniteTexts_28 : decode prog_5_method_4_code 28 = .ok (.getfield 19, 3) := by decide +kernel
theorem d_U_uniteTexts_31 : decode prog_5_method_4_code 31 = .ok (.invokevirtual 48, 3) := by decide +kernel
theorem d_U_uniteTexts_34 : decode prog_5_method_4_code 34 = .ok (.lload_n 1, 1) := by decide +kernel
theorem d_U_uniteTexts_35 : decode prog_5_method_4_code 35 = .ok (.invokestatic 52, 3) := by decide +kernel
theorem d_U_uniteTexts_38 : decode prog_5_method_4_code 38 = .ok (.istore 7, 2) := by decide +kernel
theorem d_U_uniteTexts_40 : decode prog_5_method_4_code 40 = .ok (.iconst 0, 1) := by decide +kernel
theorem d_U_uniteTexts_41 : decode prog_5_method_4_code 41 = .ok (.istore 8, 2) := by decide +kernel
theorem d_U_uniteTexts_43 : decode prog_5_method_4_code 43 = .ok (.iconst 0, 1) := by decide +kernel
theorem d_U_uniteTexts_44 : decode prog_5_method_4_code 44 = .ok (.istore 9, 2) := by decide +kernel
theorem d_U_uniteTexts_46 : decode prog_5_method_4_code 46 = .ok (.iconst 0, 1) := by decide +kernel
theorem d_U_uniteTexts_47 : decode prog_5_method_4_code 47 = .ok (.istore 10, 2) := by decide +kernel
theorem d_U_uniteTexts_49 : decode prog_5_method_4_code 49 = .ok (.lconst 0, 1) := by decide +kernel
theorem d_U_uniteTexts_50 : decode prog_5_method_4_code 50 = .ok (.lstore 11, 2) := by decide +kernel
theorem d_U_uniteTexts_52 : decode prog_5_method_4_code 52 = .ok (.iconst 0, 1) := by decide +kernel
theorem d_U_uniteTexts_53 : decode prog_5_method_4_code 53 = .ok (.istore 13, 2) := by decide +kernel
theorem d_U_uniteTexts_55 : decode prog_5_method_4_code 55 = .ok (.iload 13, 2) := by decide +kernel
theorem d_U_uniteTexts_57 : decode prog_5_method_4_code 57 = .ok (.iload 7, 2) := by decide +kernel
theorem d_U_uniteTexts_59 : decode prog_5_method_4_code 59 = .ok (.if_icmp .gt 132, 3) := by decide +kernel
theorem d_U_uniteTexts_62 : decode prog_5_method_4_code 62 = .ok (.aload_n 0, 1) := by decide +kernel
theorem d_U_uniteTexts_63 : decode prog_5_method_4_code 63 = .ok (.getfield 15, 3) := by decide +kernel
theorem d_U_uniteTexts_66 : decode prog_5_method_4_code 66 = .ok (.iload 13, 2) := by decide +kernel
theorem d_U_uniteTexts_68 : decode prog_5_method_4_code 68 = .ok (.iaload, 1) := by decide +kernel
theorem d_U_uniteTexts_69 : decode prog_5_method_4_code 69 = .ok (.iconst (-1), 1) := by decide +kernel
theorem d_U_uniteTexts_70 : decode prog_5_method_4_code 70 = .ok (.if_icmp .eq 115, 3) := by decide +kernel
theorem d_U_uniteTexts_73 : decode prog_5_method_4_code 73 = .ok (.aload_n 0, 1) := by decide +kernel
theorem d_U_uniteTexts_74 : decode prog_5_method_4_code 74 = .ok (.getfield 19, 3) := by decide +kernel
theorem d_U_uniteTexts_77 : decode prog_5_method_4_code 77 = .ok (.iload 13, 2) := by decide +kernel
theorem d_U_uniteTexts_79 : decode prog_5_method_4_code 79 = .ok (.iaload, 1) := by decide +kernel
theorem d_U_uniteTexts_80 : decode prog_5_method_4_code 80 = .ok (.iconst (-1), 1) := by decide +kernel
theorem d_U_uniteTexts_81 : decode prog_5_method_4_code 81 = .ok (.if_icmp .eq 104, 3) := by decide +kernel
theorem d_U_uniteTexts_84 : decode prog_5_method_4_code 84 = .ok (.lload_n 1, 1) := by decide +kernel
theorem d_U_uniteTexts_85 : decode prog_5_method_4_code 85 = .ok (.iload 8, 2) := by decide +kernel
theorem d_U_uniteTexts_87 : decode prog_5_method_4_code 87 = .ok (.iload 13, 2) := by decide +kernel
theorem d_U_uniteTexts_89 : decode prog_5_method_4_code 89 = .ok (.invokestatic 58, 3) := by decide +kernel
theorem d_U_uniteTexts_92 : decode prog_5_method_4_code 92 = .ok (.lload_n 3, 1) := by decide +kernel
theorem d_U_uniteTexts_93 : decode prog_5_method_4_code 93 = .ok (.iload 9, 2) := by decide +kernel
theorem d_U_uniteTexts_95 : decode prog_5_method_4_code 95 = .ok (.aload_n 0, 1) := by decide +kernel
theorem d_U_uniteTexts_96 : decode prog_5_method_4_code 96 = .ok (.getfield 15, 3) := by decide +kernel
theorem d_U_uniteTexts_99 : decode prog_5_method_4_code 99 = .ok (.iload 13, 2) := by decide +kernel
theorem d_U_uniteTexts_101 : decode prog_5_method_4_code 101 = .ok (.iaload, 1) := by decide +kernel
theorem d_U_uniteTexts_102 : decode prog_5_method_4_code 102 = .ok (.invokestatic 58, 3) := by decide +kernel
theorem d_U_uniteTexts_105 : decode prog_5_method_4_code 105 = .ok (.lload 5, 2) := by decide +kernel
theorem d_U_uniteTexts_107 : decode prog_5_method_4_code 107 = .ok (.iload 10, 2) := by decide +kernel
theorem d_U_uniteTexts_109 : decode prog_5_method_4_code 109 = .ok (.aload_n 0, 1) := by decide +kernel
theorem d_U_uniteTexts_110 : decode prog_5_method_4_code 110 = .ok (.getfield 19, 3) := by decide +kernel
theorem d_U_uniteTexts_113 : decode prog_5_method_4_code 113 = .ok (.iload 13, 2) := by decide +kernel
theorem d_U_uniteTexts_115 : decode prog_5_method_4_code 115 = .ok (.iaload, 1) := by decide +kernel
theorem d_U_uniteTexts_116 : decode prog_5_method_4_code 116 = .ok (.invokestatic 58, 3) := by decide +kernel
theorem d_U_uniteTexts_119 : decode prog_5_method_4_code 119 = .ok (.invokestatic 33, 3) := by decide +kernel
theorem d_U_uniteTexts_122 : decode prog_5_method_4_code 122 = .ok (.lstore 14, 2) := by decide +kernel
theorem d_U_uniteTexts_124 : decode prog_5_method_4_code 124 = .ok (.lload 11, 2) := by decide +kernel
theorem d_U_uniteTexts_126 : decode prog_5_method_4_code 126 = .ok (.lload 14, 2) := by decide +kernel
theorem d_U_uniteTexts_128 : decode prog_5_method_4_code 128 = .ok (.invokestatic 62, 3) := by decide +kernel
theorem d_U_uniteTexts_131 : decode prog_5_method_4_code 131 = .ok (.lstore 11, 2) := by decide +kernel
theorem d_U_uniteTexts_133 : decode prog_5_method_4_code 133 = .ok (.iload 13, 2) := by decide +kernel
theorem d_U_uniteTexts_135 : decode prog_5_method_4_code 135 = .ok (.iconst 1, 1) := by decide +kernel
theorem d_U_uniteTexts_136 : decode prog_5_method_4_code 136 = .ok (.iadd, 1) := by decide +kernel
theorem d_U_uniteTexts_137 : decode prog_5_method_4_code 137 = .ok (.istore 8, 2) := by decide +kernel
theorem d_U_uniteTexts_139 : decode prog_5_method_4_code 139 = .ok (.aload_n 0, 1) := by decide +kernel
theorem d_U_uniteTexts_140 : decode prog_5_method_4_code 140 = .ok (.getfield 15, 3) := by decide +kernel
theorem d_U_uniteTexts_143 : decode prog_5_method_4_code 143 = .ok (.iload 13, 2) := by decide +kernel
theorem d_U_uniteTexts_145 : decode prog_5_method_4_code 145 = .ok (.iaload, 1) := by decide +kernel
theorem d_U_uniteTexts_146 : decode prog_5_method_4_code 146 = .ok (.iconst 1, 1) := by decide +kernel
theorem d_U_uniteTexts_147 : decode prog_5_method_4_code 147 = .ok (.iadd, 1) := by decide +kernel
theorem d_U_uniteTexts_148 : decode prog_5_method_4_code 148 = .ok (.istore 9, 2) := by decide +kernel
theorem d_U_uniteTexts_150 : decode prog_5_method_4_code 150 = .ok (.aload_n 0, 1) := by decide +kernel
theorem d_U_uniteTexts_151 : decode prog_5_method_4_code 151 = .ok (.getfield 19, 3) := by decide +kernel
theorem d_U_uniteTexts_154 : decode prog_5_method_4_code 154 = .ok (.iload 13, 2) := by decide +kernel
theorem d_U_uniteTexts_156 : decode prog_5_method_4_code 156 = .ok (.iaload, 1) := by decide +kernel
theorem d_U_uniteTexts_157 : decode prog_5_method_4_code 157 = .ok (.iconst 1, 1) := by decide +kernel
theorem d_U_uniteTexts_158 : decode prog_5_method_4_code 158 = .ok (.iadd, 1) := by decide +kernel
theorem d_U_uniteTexts_159 : decode prog_5_method_4_code 159 = .ok (.istore 10, 2) := by decide +kernel
theorem d_U_uniteTexts_161 : decode prog_5_method_4_code 161 = .ok (.iload 13, 2) := by decide +kernel
theorem d_U_uniteTexts_163 : decode prog_5_method_4_code 163 = .ok (.iload 7, 2) := by decide +kernel
theorem d_U_uniteTexts_165 : decode prog_5_method_4_code 165 = .ok (.if_icmp .ge 20, 3) := by decide +kernel
theorem d_U_uniteTexts_168 : decode prog_5_method_4_code 168 = .ok (.lload 11, 2) := by decide +kernel
theorem d_U_uniteTexts_170 : decode prog_5_method_4_code 170 = .ok (.lload_n 1, 1) := by decide +kernel
theorem d_U_uniteTexts_171 : decode prog_5_method_4_code 171 = .ok (.iload 13, 2) := by decide +kernel
theorem d_U_uniteTexts_173 : decode prog_5_method_4_code 173 = .ok (.iload 13, 2) := by decide +kernel
theorem d_U_uniteTexts_175 : decode prog_5_method_4_code 175 = .ok (.iconst 1, 1) := by decide +kernel
theorem d_U_uniteTexts_176 : decode prog_5_method_4_code 176 = .ok (.iadd, 1) := by decide +kernel
theorem d_U_uniteTexts_177 : decode prog_5_method_4_code 177 = .ok (.invokestatic 58, 3) := by decide +kernel
theorem d_U_uniteTexts_180 : decode prog_5_method_4_code 180 = .ok (.invokestatic 62, 3) := by decide +kernel
theorem d_U_uniteTexts_183 : decode prog_5_method_4_code 183 = .ok (.lstore 11, 2) := by decide +kernel
theorem d_U_uniteTexts_185 : decode prog_5_method_4_code 185 = .ok (.iinc 13 1, 3) := by decide +kernel
theorem d_U_uniteTexts_188 : decode prog_5_method_4_code 188 = .ok (.goto (-133), 3) := by decide +kernel
theorem d_U_uniteTexts_191 : decode prog_5_method_4_code 191 = .ok (.lload 11, 2) := by decide +kernel
theorem d_U_uniteTexts_193 : decode prog_5_method_4_code 193 = .ok (.lreturn, 1) := by decide +kernel
theorem d_U_countCommon_0 : decode prog_5_method_6_code 0 = .ok (.lload_n 1, 1) := by decide +kernel
theorem d_U_countCommon_1 : decode prog_5_method_6_code 1 = .ok (.invokestatic 52, 3) := by decide +kernel
theorem d_U_countCommon_4 : decode prog_5_method_6_code 4 = .ok (.istore 5, 2) := by decide +kernel
theorem d_U_countCommon_6 : decode prog_5_method_6_code 6 = .ok (.lload_n 3, 1) := by decide +kernel
theorem d_U_countCommon_7 : decode prog_5_method_6_code 7 = .ok (.invokestatic 52, 3) := by decide +kernel
theorem d_U_countCommon_10 : decode prog_5_method_6_code 10 = .ok (.istore 6, 2) := by decide +kernel
theorem d_U_countCommon_12 : decode prog_5_method_6_code 12 = .ok (.iload 5, 2) := by decide +kernel
theorem d_U_countCommon_14 : decode prog_5_method_6_code 14 = .ok (.istore 7, 2) := by decide +kernel
theorem d_U_countCommon_16 : decode prog_5_method_6_code 16 = .ok (.iload 7, 2) := by decide +kernel
theorem d_U_countCommon_18 : decode prog_5_method_6_code 18 = .ok (.ifCond .lt 134, 3) := by decide +kernel
theorem d_U_countCommon_21 : decode prog_5_method_6_code 21 = .ok (.iload 6, 2) := by decide +kernel
theorem d_U_countCommon_23 : decode prog_5_method_6_code 23 = .ok (.istore 8, 2) := by decide +kernel
theorem d_U_countCommon_25 : decode prog_5_method_6_code 25 = .ok (.iload 8, 2) := by decide +kernel
theorem d_U_countCommon_27 : decode prog_5_method_6_code 27 = .ok (.ifCond .lt 119, 3) := by decide +kernel
theorem d_U_countCommon_30 : decode prog_5_method_6_code 30 = .ok (.iload 7, 2) := by decide +kernel
theorem d_U_countCommon_32 : decode prog_5_method_6_code 32 = .ok (.iload 5, 2) := by decide +kernel
theorem d_U_countCommon_34 : decode prog_5_method_6_code 34 = .ok (.if_icmp .eq 10, 3) := by decide +kernel
theorem d_U_countCommon_37 : decode prog_5_method_6_code 37 = .ok (.iload 8, 2) := by decide +kernel
theorem d_U_countCommon_39 : decode prog_5_method_6_code 39 = .ok (.iload 6, 2) := by decide +kernel
theorem d_U_countCommon_41 : decode prog_5_method_6_code 41 = .ok (.if_icmp .ne 17, 3) := by decide +kernel
theorem d_U_countCommon_44 : decode prog_5_method_6_code 44 = .ok (.aload_n 0, 1) := by decide +kernel
theorem d_U_countCommon_45 : decode prog_5_method_6_code 45 = .ok (.getfield 24, 3) := by decide +kernel
theorem d_U_countCommon_48 : decode prog_5_method_6_code 48 = .ok (.iload 7, 2) := by decide +kernel
theorem d_U_countCommon_50 : decode prog_5_method_6_code 50 = .ok (.aaload, 1) := by decide +kernel
theorem d_U_countCommon_51 : decode prog_5_method_6_code 51 = .ok (.iload 8, 2) := by decide +kernel
theorem d_U_countCommon_53 : decode prog_5_method_6_code 53 = .ok (.iconst 0, 1) := by decide +kernel
theorem d_U_countCommon_54 : decode prog_5_method_6_code 54 = .ok (.iastore, 1) := by decide +kernel
theorem d_U_countCommon_55 : decode prog_5_method_6_code 55 = .ok (.goto 85, 3) := by decide +kernel
theorem d_U_countCommon_58 : decode prog_5_method_6_code 58 = .ok (.lload_n 1, 1) := by decide +kernel
theorem d_U_countCommon_59 : decode prog_5_method_6_code 59 = .ok (.iload 7, 2) := by decide +kernel
theorem d_U_countCommon_61 : decode prog_5_method_6_code 61 = .ok (.invokestatic 66, 3) := by decide +kernel
theorem d_U_countCommon_64 : decode prog_5_method_6_code 64 = .ok (.lload_n 3, 1) := by decide +kernel
theorem d_U_countCommon_65 : decode prog_5_method_6_code 65 = .ok (.iload 8, 2) := by decide +kernel
theorem d_U_countCommon_67 : decode prog_5_method_6_code 67 = .ok (.invokestatic 66, 3) := by decide +kernel
theorem d_U_countCommon_70 : decode prog_5_method_6_code 70 = .ok (.lcmp, 1) := by decide +kernel
theorem d_U_countCommon_71 : decode prog_5_method_6_code 71 = .ok (.ifCond .ne 32, 3) := by decide +kernel
theorem d_U_countCommon_74 : decode prog_5_method_6_code 74 = .ok (.aload_n 0, 1) := by decide +kernel
theorem d_U_countCommon_75 : decode prog_5_method_6_code 75 = .ok (.getfield 24, 3) := by decide +kernel
theorem d_U_countCommon_78 : decode prog_5_method_6_code 78 = .ok (.iload 7, 2) := by decide +kernel
theorem d_U_countCommon_80 : decode prog_5_method_6_code 80 = .ok (.aaload, 1) := by decide +kernel
theorem d_U_countCommon_81 : decode prog_5_method_6_code 81 = .ok (.iload 8, 2) := by decide +kernel
theorem d_U_countCommon_83 : decode prog_5_method_6_code 83 = .ok (.aload_n 0, 1) := by decide +kernel
theorem d_U_countCommon_84 : decode prog_5_method_6_code 84 = .ok (.getfield 24, 3) := by decide +kernel
theorem d_U_countCommon_87 : decode prog_5_method_6_code 87 = .ok (.iload 7, 2) := by decide +kernel
theorem d_U_countCommon_89 : decode prog_5_method_6_code 89 = .ok (.iconst 1, 1) := by decide +kernel
theorem d_U_countCommon_90 : decode prog_5_method_6_code 90 = .ok (.iadd, 1) := by decide +kernel
theorem d_U_countCommon_91 : decode prog_5_method_6_code 91 = .ok (.aaload, 1) := by decide +kernel
theorem d_U_countCommon_92 : decode prog_5_method_6_code 92 = .ok (.iload 8, 2) := by decide +kernel
theorem d_U_countCommon_94 : decode prog_5_method_6_code 94 = .ok (.iconst 1, 1) := by decide +kernel
theorem d_U_countCommon_95 : decode prog_5_method_6_code 95 = .ok (.iadd, 1) := by decide +kernel
theorem d_U_countCommon_96 : decode prog_5_method_6_code 96 = .ok (.iaload, 1) := by decide +kernel
theorem d_U_countCommon_97 : decode prog_5_method_6_code 97 = .ok (.iconst 1, 1) := by decide +kernel
theorem d_U_countCommon_98 : decode prog_5_method_6_code 98 = .ok (.iadd, 1) := by decide +kernel
theorem d_U_countCommon_99 : decode prog_5_method_6_code 99 = .ok (.iastore, 1) := by decide +kernel
theorem d_U_countCommon_100 : decode prog_5_method_6_code 100 = .ok (.goto 40, 3) := by decide +kernel
theorem d_U_countCommon_103 : decode prog_5_method_6_code 103 = .ok (.aload_n 0, 1) := by decide +kernel
theorem d_U_countCommon_104 : decode prog_5_method_6_code 104 = .ok (.getfield 24, 3) := by decide +kernel
theorem d_U_countCommon_107 : decode prog_5_method_6_code 107 = .ok (.iload 7, 2) := by decide +kernel
theorem d_U_countCommon_109 : decode prog_5_method_6_code 109 = .ok (.aaload, 1) := by decide +kernel
theorem d_U_countCommon_110 : decode prog_5_method_6_code 110 = .ok (.iload 8, 2) := by decide +kernel
theorem d_U_countCommon_112 : decode prog_5_method_6_code 112 = .ok (.aload_n 0, 1) := by decide +kernel
theorem d_U_countCommon_113 : decode prog_5_method_6_code 113 = .ok (.getfield 24, 3) := by decide +kernel
theorem d_U_countCommon_116 : decode prog_5_method_6_code 116 = .ok (.iload 7, 2) := by decide +kernel
theorem d_U_countCommon_118 : decode prog_5_method_6_code 118 = .ok (.iconst 1, 1) := by decide +kernel
theorem d_U_countCommon_119 : decode prog_5_method_6_code 119 = .ok (.iadd, 1) := by decide +kernel
theorem d_U_countCommon_120 : decode prog_5_method_6_code 120 = .ok (.aaload, 1) := by decide +kernel
theorem d_U_countCommon_121 : decode prog_5_method_6_code 121 = .ok (.iload 8, 2) := by decide +kernel
theorem d_U_countCommon_123 : decode prog_5_method_6_code 123 = .ok (.iaload, 1) := by decide +kernel
theorem d_U_countCommon_124 : decode prog_5_method_6_code 124 = .ok (.aload_n 0, 1) := by decide +kernel
theorem d_U_countCommon_125 : decode prog_5_method_6_code 125 = .ok (.getfield 24, 3) := by decide +kernel
theorem d_U_countCommon_128 : decode prog_5_method_6_code 128 = .ok (.iload 7, 2) := by decide +kernel
theorem d_U_countCommon_130 : decode prog_5_method_6_code 130 = .ok (.aaload, 1) := by decide +kernel
theorem d_U_countCommon_131 : decode prog_5_method_6_code 131 = .ok (.iload 8, 2) := by decide +kernel
theorem d_U_countCommon_133 : decode prog_5_method_6_code 133 = .ok (.iconst 1, 1) := by decide +kernel
theorem d_U_countCommon_134 : decode prog_5_method_6_code 134 = .ok (.iadd, 1) := by decide +kernel
theorem d_U_countCommon_135 : decode prog_5_method_6_code 135 = .ok (.iaload, 1) := by decide +kernel
theorem d_U_countCommon_136 : decode prog_5_method_6_code 136 = .ok (.invokestatic 70, 3) := by decide +kernel
theorem d_U_countCommon_139 : decode prog_5_method_6_code 139 = .ok (.iastore, 1) := by decide +kernel
theorem d_U_countCommon_140 : decode prog_5_method_6_code 140 = .ok (.iinc 8 (-1), 3) := by decide +kernel
theorem d_U_countCommon_143 : decode prog_5_method_6_code 143 = .ok (.goto (-118), 3) := by decide +kernel
theorem d_U_countCommon_146 : decode prog_5_method_6_code 146 = .ok (.iinc 7 (-1), 3) := by decide +kernel
theorem d_U_countCommon_149 : decode prog_5_method_6_code 149 = .ok (.goto (-133), 3) := by decide +kernel
theorem d_U_countCommon_152 : decode prog_5_method_6_code 152 = .ok (.return_, 1) := by decide +kernel
theorem d_U_matchLines_0 : decode prog_5_method_5_code 0 = .ok (.lload_n 1, 1) := by decide +kernel
theorem d_U_matchLines_1 : decode prog_5_method_5_code 1 = .ok (.invokestatic 52, 3) := by decide +kernel
theorem d_U_matchLines_4 : decode prog_5_method_5_code 4 = .ok (.istore 6, 2) := by decide +kernel
theorem d_U_matchLines_6 : decode prog_5_method_5_code 6 = .ok (.lload_n 3, 1) := by decide +kernel
theorem d_U_matchLines_7 : decode prog_5_method_5_code 7 = .ok (.invokestatic 52, 3) := by decide +kernel
theorem d_U_matchLines_10 : decode prog_5_method_5_code 10 = .ok (.istore 7, 2) := by decide +kernel
theorem d_U_matchLines_12 : decode prog_5_method_5_code 12 = .ok (.iconst 0, 1) := by decide +kernel
theorem d_U_matchLines_13 : decode prog_5_method_5_code 13 = .ok (.istore 8, 2) := by decide +kernel
theorem d_U_matchLines_15 : decode prog_5_method_5_code 15 = .ok (.iload 8, 2) := by decide +kernel
theorem d_U_matchLines_17 : decode prog_5_method_5_code 17 = .ok (.iload 6, 2) := by decide +kernel
theorem d_U_matchLines_19 : decode prog_5_method_5_code 19 = .ok (.if_icmp .ge 15, 3) := by decide +kernel
theorem d_U_matchLines_22 : decode prog_5_method_5_code 22 = .ok (.aload 5, 2) := by decide +kernel
theorem d_U_matchLines_24 : decode prog_5_method_5_code 24 = .ok (.iload 8, 2) := by decide +kernel
theorem d_U_matchLines_26 : decode prog_5_method_5_code 26 = .ok (.iconst (-1), 1) := by decide +kernel
theorem d_U_matchLines_27 : decode prog_5_method_5_code 27 = .ok (.iastore, 1) := by decide +kernel
theorem d_U_matchLines_28 : decode prog_5_method_5_code 28 = .ok (.iinc 8 1, 3) := by decide +kernel
theorem d_U_matchLines_31 : decode prog_5_method_5_code 31 = .ok (.goto (-16), 3) := by decide +kernel
theorem d_U_matchLines_34 : decode prog_5_method_5_code 34 = .ok (.aload 5, 2) := by decide +kernel
theorem d_U_matchLines_36 : decode prog_5_method_5_code 36 = .ok (.iload 6, 2) := by decide +kernel
theorem d_U_matchLines_38 : decode prog_5_method_5_code 38 = .ok (.iload 7, 2) := by decide +kernel
theorem d_U_matchLines_40 : decode prog_5_method_5_code 40 = .ok (.iastore, 1) := by decide +kernel
theorem d_U_matchLines_41 : decode prog_5_method_5_code 41 = .ok (.iconst 0, 1) := by decide +kernel
theorem d_U_matchLines_42 : decode prog_5_method_5_code 42 = .ok (.istore 8, 2) := by decide +kernel
theorem d_U_matchLines_44 : decode prog_5_method_5_code 44 = .ok (.iconst 0, 1) := by decide +kernel
theorem d_U_matchLines_45 : decode prog_5_method_5_code 45 = .ok (.istore 9, 2) := by decide +kernel
theorem d_U_matchLines_47 : decode prog_5_method_5_code 47 = .ok (.iload 8, 2) := by decide +kernel
theorem d_U_matchLines_49 : decode prog_5_method_5_code 49 = .ok (.iload 6, 2) := by decide +kernel
theorem d_U_matchLines_51 : decode prog_5_method_5_code 51 = .ok (.if_icmp .ge 81, 3) := by decide +kernel
theorem d_U_matchLines_54 : decode prog_5_method_5_code 54 = .ok (.iload 9, 2) := by decide +kernel
theorem d_U_matchLines_56 : decode prog_5_method_5_code 56 = .ok (.iload 7, 2) := by decide +kernel
theorem d_U_matchLines_58 : decode prog_5_method_5_code 58 = .ok (.if_icmp .ge 74, 3) := by decide +kernel
theorem d_U_matchLines_61 : decode prog_5_method_5_code 61 = .ok (.lload_n 1, 1) := by decide +kernel
theorem d_U_matchLines_62 : decode prog_5_method_5_code 62 = .ok (.iload 8, 2) := by decide +kernel
theorem d_U_matchLines_64 : decode prog_5_method_5_code 64 = .ok (.invokestatic 66, 3) := by decide +kernel
theorem d_U_matchLines_67 : decode prog_5_method_5_code 67 = .ok (.lload_n 3, 1) := by decide +kernel
theorem d_U_matchLines_68 : decode prog_5_method_5_code 68 = .ok (.iload 9, 2) := by decide +kernel
theorem d_U_matchLines_70 : decode prog_5_method_5_code 70 = .ok (.invokestatic 66, 3) := by decide +kernel
theorem d_U_matchLines_73 : decode prog_5_method_5_code 73 = .ok (.lcmp, 1) := by decide +kernel
theorem d_U_matchLines_74 : decode prog_5_method_5_code 74 = .ok (.ifCond .ne 19, 3) := by decide +kernel
theorem d_U_matchLines_77 : decode prog_5_method_5_code 77 = .ok (.aload 5, 2) := by decide +kernel
theorem d_U_matchLines_79 : decode prog_5_method_5_code 79 = .ok (.iload 8, 2) := by decide +kernel
theorem d_U_matchLines_81 : decode prog_5_method_5_code 81 = .ok (.iload 9, 2) := by decide +kernel
theorem d_U_matchLines_83 : decode prog_5_method_5_code 83 = .ok (.iastore, 1) := by decide +kernel
theorem d_U_matchLines_84 : decode prog_5_method_5_code 84 = .ok (.iinc 8 1, 3) := by decide +kernel
theorem d_U_matchLines_87 : decode prog_5_method_5_code 87 = .ok (.iinc 9 1, 3) := by decide +kernel
theorem d_U_matchLines_90 : decode prog_5_method_5_code 90 = .ok (.goto (-43), 3) := by decide +kernel
theorem d_U_matchLines_93 : decode prog_5_method_5_code 93 = .ok (.aload_n 0, 1) := by decide +kernel
theorem d_U_matchLines_94 : decode prog_5_method_5_code 94 = .ok (.getfield 24, 3) := by decide +kernel
theorem d_U_matchLines_97 : decode prog_5_method_5_code 97 = .ok (.iload 8, 2) := by decide +kernel
theorem d_U_matchLines_99 : decode prog_5_method_5_code 99 = .ok (.iconst 1, 1) := by decide +kernel
theorem d_U_matchLines_100 : decode prog_5_method_5_code 100 = .ok (.iadd, 1) := by decide +kernel
theorem d_U_matchLines_101 : decode prog_5_method_5_code 101 = .ok (.aaload, 1) := by decide +kernel
theorem d_U_matchLines_102 : decode prog_5_method_5_code 102 = .ok (.iload 9, 2) := by decide +kernel
theorem d_U_matchLines_104 : decode prog_5_method_5_code 104 = .ok (.iaload, 1) := by decide +kernel
theorem d_U_matchLines_105 : decode prog_5_method_5_code 105 = .ok (.aload_n 0, 1) := by decide +kernel
theorem d_U_matchLines_106 : decode prog_5_method_5_code 106 = .ok (.getfield 24, 3) := by decide +kernel
theorem d_U_matchLines_109 : decode prog_5_method_5_code 109 = .ok (.iload 8, 2) := by decide +kernel
theorem d_U_matchLines_111 : decode prog_5_method_5_code 111 = .ok (.aaload, 1) := by decide +kernel
theorem d_U_matchLines_112 : decode prog_5_method_5_code 112 = .ok (.iload 9, 2) := by decide +kernel
theorem d_U_matchLines_114 : decode prog_5_method_5_code 114 = .ok (.iconst 1, 1) := by decide +kernel
theorem d_U_matchLines_115 : decode prog_5_method_5_code 115 = .ok (.iadd, 1) := by decide +kernel
theorem d_U_matchLines_116 : decode prog_5_method_5_code 116 = .ok (.iaload, 1) := by decide +kernel
theorem d_U_matchLines_117 : decode prog_5_method_5_code 117 = .ok (.if_icmp .lt 9, 3) := by decide +kernel
theorem d_U_matchLines_120 : decode prog_5_method_5_code 120 = .ok (.iinc 8 1, 3) := by decide +kernel
theorem d_U_matchLines_123 : decode prog_5_method_5_code 123 = .ok (.goto (-76), 3) := by decide +kernel
theorem d_U_matchLines_126 : decode prog_5_method_5_code 126 = .ok (.iinc 9 1, 3) := by decide +kernel
theorem d_U_matchLines_129 : decode prog_5_method_5_code 129 = .ok (.goto (-82), 3) := by decide +kernel
theorem d_U_matchLines_132 : decode prog_5_method_5_code 132 = .ok (.return_, 1) := by decide +kernel
theorem d_T_pack_0 : decode prog_4_method_2_code 0 = .ok (.lconst 1, 1) := by decide +kernel
theorem d_T_pack_1 : decode prog_4_method_2_code 1 = .ok (.iconst 4, 1) := by decide +kernel
theorem d_T_pack_2 : decode prog_4_method_2_code 2 = .ok (.iload_n 2, 1) := by decide +kernel
theorem d_T_pack_3 : decode prog_4_method_2_code 3 = .ok (.imul, 1) := by decide +kernel
theorem d_T_pack_4 : decode prog_4_method_2_code 4 = .ok (.lshl, 1) := by decide +kernel
theorem d_T_pack_5 : decode prog_4_method_2_code 5 = .ok (.lconst 1, 1) := by decide +kernel
theorem d_T_pack_6 : decode prog_4_method_2_code 6 = .ok (.lsub, 1) := by decide +kernel
theorem d_T_pack_7 : decode prog_4_method_2_code 7 = .ok (.lstore_n 3, 1) := by decide +kernel
theorem d_T_pack_8 : decode prog_4_method_2_code 8 = .ok (.iload_n 2, 1) := by decide +kernel
theorem d_T_pack_9 : decode prog_4_method_2_code 9 = .ok (.i2l, 1) := by decide +kernel
theorem d_T_pack_10 : decode prog_4_method_2_code 10 = .ok (.bipush 32, 2) := by decide +kernel
theorem d_T_pack_12 : decode prog_4_method_2_code 12 = .ok (.lshl, 1) := by decide +kernel
theorem d_T_pack_13 : decode prog_4_method_2_code 13 = .ok (.lload_n 0, 1) := by decide +kernel
theorem d_T_pack_14 : decode prog_4_method_2_code 14 = .ok (.lload_n 3, 1) := by decide +kernel
theorem d_T_pack_15 : decode prog_4_method_2_code 15 = .ok (.land, 1) := by decide +kernel
theorem d_T_pack_16 : decode prog_4_method_2_code 16 = .ok (.lor, 1) := by decide +kernel
theorem d_T_pack_17 : decode prog_4_method_2_code 17 = .ok (.lreturn, 1) := by decide +kernel
theorem d_T_countOf_0 : decode prog_4_method_3_code 0 = .ok (.lload_n 0, 1) := by decide +kernel
theorem d_T_countOf_1 : decode prog_4_method_3_code 1 = .ok (.bipush 32, 2) := by decide +kernel
theorem d_T_countOf_3 : decode prog_4_method_3_code 3 = .ok (.lushr, 1) := by decide +kernel
theorem d_T_countOf_4 : decode prog_4_method_3_code 4 = .ok (.l2i, 1) := by decide +kernel
theorem d_T_countOf_5 : decode prog_4_method_3_code 5 = .ok (.ireturn, 1) := by decide +kernel
theorem d_T_lineAt_0 : decode prog_4_method_4_code 0 = .ok (.lload_n 0, 1) := by decide +kernel
theorem d_T_lineAt_1 : decode prog_4_method_4_code 1 = .ok (.iconst 4, 1) := by decide +kernel
theorem d_T_lineAt_2 : decode prog_4_method_4_code 2 = .ok (.iload_n 2, 1) := by decide +kernel
theorem d_T_lineAt_3 : decode prog_4_method_4_code 3 = .ok (.imul, 1) := by decide +kernel
theorem d_T_lineAt_4 : decode prog_4_method_4_code 4 = .ok (.lushr, 1) := by decide +kernel
theorem d_T_lineAt_5 : decode prog_4_method_4_code 5 = .ok (.ldc2_w 11, 3) := by decide +kernel
theorem d_T_lineAt_8 : decode prog_4_method_4_code 8 = .ok (.land, 1) := by decide +kernel
theorem d_T_lineAt_9 : decode prog_4_method_4_code 9 = .ok (.lreturn, 1) := by decide +kernel
theorem d_T_piece_0 : decode prog_4_method_5_code 0 = .ok (.lload_n 0, 1) := by decide +kernel
theorem d_T_piece_1 : decode prog_4_method_5_code 1 = .ok (.iconst 4, 1) := by decide +kernel
theorem d_T_piece_2 : decode prog_4_method_5_code 2 = .ok (.iload_n 2, 1) := by decide +kernel
theorem d_T_piece_3 : decode prog_4_method_5_code 3 = .ok (.imul, 1) := by decide +kernel
theorem d_T_piece_4 : decode prog_4_method_5_code 4 = .ok (.lushr, 1) := by decide +kernel
theorem d_T_piece_5 : decode prog_4_method_5_code 5 = .ok (.iload_n 3, 1) := by decide +kernel
theorem d_T_piece_6 : decode prog_4_method_5_code 6 = .ok (.iload_n 2, 1) := by decide +kernel
theorem d_T_piece_7 : decode prog_4_method_5_code 7 = .ok (.isub, 1) := by decide +kernel
theorem d_T_piece_8 : decode prog_4_method_5_code 8 = .ok (.invokestatic 13, 3) := by decide +kernel
theorem d_T_piece_11 : decode prog_4_method_5_code 11 = .ok (.lreturn, 1) := by decide +kernel
theorem d_T_join_0 : decode prog_4_method_6_code 0 = .ok (.lload_n 0, 1) := by decide +kernel
theorem d_T_join_1 : decode prog_4_method_6_code 1 = .ok (.ldc2_w 17, 3) := by decide +kernel
theorem d_T_join_4 : decode prog_4_method_6_code 4 = .ok (.lcmp, 1) := by decide +kernel
theorem d_T_join_5 : decode prog_4_method_6_code 5 = .ok (.ifCond .eq 11, 3) := by decide +kernel
theorem d_T_join_8 : decode prog_4_method_6_code 8 = .ok (.lload_n 2, 1) := by decide +kernel
theorem d_T_join_9 : decode prog_4_method_6_code 9 = .ok (.ldc2_w 17, 3) := by decide +kernel
theorem d_T_join_12 : decode prog_4_method_6_code 12 = .ok (.lcmp, 1) := by decide +kernel
theorem d_T_join_13 : decode prog_4_method_6_code 13 = .ok (.ifCond .ne 7, 3) := by decide +kernel
theorem d_T_join_16 : decode prog_4_method_6_code 16 = .ok (.ldc2_w 17, 3) := by decide +kernel
theorem d_T_join_19 : decode prog_4_method_6_code 19 = .ok (.lreturn, 1) := by decide +kernel
theorem d_T_join_20 : decode prog_4_method_6_code 20 = .ok (.lload_n 0, 1) := by decide +kernel
theorem d_T_join_21 : decode prog_4_method_6_code 21 = .ok (.invokestatic 19, 3) := by decide +kernel
theorem d_T_join_24 : decode prog_4_method_6_code 24 = .ok (.istore 4, 2) := by decide +kernel
theorem d_T_join_26 : decode prog_4_method_6_code 26 = .ok (.iload 4, 2) := by decide +kernel
theorem d_T_join_28 : decode prog_4_method_6_code 28 = .ok (.lload_n 2, 1) := by decide +kernel
theorem d_T_join_29 : decode prog_4_method_6_code 29 = .ok (.invokestatic 19, 3) := by decide +kernel
theorem d_T_join_32 : decode prog_4_method_6_code 32 = .ok (.iadd, 1) := by decide +kernel
theorem d_T_join_33 : decode prog_4_method_6_code 33 = .ok (.istore 5, 2) := by decide +kernel
theorem d_T_join_35 : decode prog_4_method_6_code 35 = .ok (.iload 5, 2) := by decide +kernel
theorem d_T_join_37 : decode prog_4_method_6_code 37 = .ok (.bipush 8, 2) := by decide +kernel
theorem d_T_join_39 : decode prog_4_method_6_code 39 = .ok (.if_icmp .le 7, 3) := by decide +kernel
theorem d_T_join_42 : decode prog_4_method_6_code 42 = .ok (.ldc2_w 17, 3) := by decide +kernel
theorem d_T_join_45 : decode prog_4_method_6_code 45 = .ok (.lreturn, 1) := by decide +kernel
theorem d_T_join_46 : decode prog_4_method_6_code 46 = .ok (.lload_n 2, 1) := by decide +kernel
theorem d_T_join_47 : decode prog_4_method_6_code 47 = .ok (.ldc2_w 23, 3) := by decide +kernel
theorem d_T_join_50 : decode prog_4_method_6_code 50 = .ok (.land, 1) := by decide +kernel
theorem d_T_join_51 : decode prog_4_method_6_code 51 = .ok (.iconst 4, 1) := by decide +kernel
theorem d_T_join_52 : decode prog_4_method_6_code 52 = .ok (.iload 4, 2) := by decide +kernel
theorem d_T_join_54 : decode prog_4_method_6_code 54 = .ok (.imul, 1) := by decide +kernel
theorem d_T_join_55 : decode prog_4_method_6_code 55 = .ok (.lshl, 1) := by decide +kernel
theorem d_T_join_56 : decode prog_4_method_6_code 56 = .ok (.lstore 6, 2) := by decide +kernel
theorem d_T_join_58 : decode prog_4_method_6_code 58 = .ok (.lload_n 0, 1) := by decide +kernel
theorem d_T_join_59 : decode prog_4_method_6_code 59 = .ok (.ldc2_w 23, 3) := by decide +kernel
theorem d_T_join_62 : decode prog_4_method_6_code 62 = .ok (.land, 1) := by decide +kernel
theorem d_T_join_63 : decode prog_4_method_6_code 63 = .ok (.lload 6, 2) := by decide +kernel
theorem d_T_join_65 : decode prog_4_method_6_code 65 = .ok (.lor, 1) := by decide +kernel
theorem d_T_join_66 : decode prog_4_method_6_code 66 = .ok (.iload 5, 2) := by decide +kernel
theorem d_T_join_68 : decode prog_4_method_6_code 68 = .ok (.invokestatic 13, 3) := by decide +kernel
theorem d_T_join_71 : decode prog_4_method_6_code 71 = .ok (.lreturn, 1) := by decide +kernel
theorem d_J_bitCount_0 : decode prog_8_method_50_code 0 = .ok (.lload_n 0, 1) := by decide +kernel
theorem d_J_bitCount_1 : decode prog_8_method_50_code 1 = .ok (.lload_n 0, 1) := by decide +kernel
theorem d_J_bitCount_2 : decode prog_8_method_50_code 2 = .ok (.iconst 1, 1) := by decide +kernel
theorem d_J_bitCount_3 : decode prog_8_method_50_code 3 = .ok (.lushr, 1) := by decide +kernel
theorem d_J_bitCount_4 : decode prog_8_method_50_code 4 = .ok (.ldc2_w 314, 3) := by decide +kernel
theorem d_J_bitCount_7 : decode prog_8_method_50_code 7 = .ok (.land, 1) := by decide +kernel
theorem d_J_bitCount_8 : decode prog_8_method_50_code 8 = .ok (.lsub, 1) := by decide +kernel
theorem d_J_bitCount_9 : decode prog_8_method_50_code 9 = .ok (.lstore_n 0, 1) := by decide +kernel
theorem d_J_bitCount_10 : decode prog_8_method_50_code 10 = .ok (.lload_n 0, 1) := by decide +kernel
theorem d_J_bitCount_11 : decode prog_8_method_50_code 11 = .ok (.ldc2_w 316, 3) := by decide +kernel
theorem d_J_bitCount_14 : decode prog_8_method_50_code 14 = .ok (.land, 1) := by decide +kernel
theorem d_J_bitCount_15 : decode prog_8_method_50_code 15 = .ok (.lload_n 0, 1) := by decide +kernel
theorem d_J_bitCount_16 : decode prog_8_method_50_code 16 = .ok (.iconst 2, 1) := by decide +kernel
theorem d_J_bitCount_17 : decode prog_8_method_50_code 17 = .ok (.lushr, 1) := by decide +kernel
theorem d_J_bitCount_18 : decode prog_8_method_50_code 18 = .ok (.ldc2_w 316, 3) := by decide +kernel
theorem d_J_bitCount_21 : decode prog_8_method_50_code 21 = .ok (.land, 1) := by decide +kernel
theorem d_J_bitCount_22 : decode prog_8_method_50_code 22 = .ok (.ladd, 1) := by decide +kernel
theorem d_J_bitCount_23 : decode prog_8_method_50_code 23 = .ok (.lstore_n 0, 1) := by decide +kernel
theorem d_J_bitCount_24 : decode prog_8_method_50_code 24 = .ok (.lload_n 0, 1) := by decide +kernel
theorem d_J_bitCount_25 : decode prog_8_method_50_code 25 = .ok (.lload_n 0, 1) := by decide +kernel
theorem d_J_bitCount_26 : decode prog_8_method_50_code 26 = .ok (.iconst 4, 1) := by decide +kernel
theorem d_J_bitCount_27 : decode prog_8_method_50_code 27 = .ok (.lushr, 1) := by decide +kernel
theorem d_J_bitCount_28 : decode prog_8_method_50_code 28 = .ok (.ladd, 1) := by decide +kernel
theorem d_J_bitCount_29 : decode prog_8_method_50_code 29 = .ok (.ldc2_w 318, 3) := by decide +kernel
theorem d_J_bitCount_32 : decode prog_8_method_50_code 32 = .ok (.land, 1) := by decide +kernel
theorem d_J_bitCount_33 : decode prog_8_method_50_code 33 = .ok (.lstore_n 0, 1) := by decide +kernel
theorem d_J_bitCount_34 : decode prog_8_method_50_code 34 = .ok (.lload_n 0, 1) := by decide +kernel
theorem d_J_bitCount_35 : decode prog_8_method_50_code 35 = .ok (.lload_n 0, 1) := by decide +kernel
theorem d_J_bitCount_36 : decode prog_8_method_50_code 36 = .ok (.bipush 8, 2) := by decide +kernel
theorem d_J_bitCount_38 : decode prog_8_method_50_code 38 = .ok (.lushr, 1) := by decide +kernel
theorem d_J_bitCount_39 : decode prog_8_method_50_code 39 = .ok (.ladd, 1) := by decide +kernel
theorem d_J_bitCount_40 : decode prog_8_method_50_code 40 = .ok (.lstore_n 0, 1) := by decide +kernel
theorem d_J_bitCount_41 : decode prog_8_method_50_code 41 = .ok (.lload_n 0, 1) := by decide +kernel
theorem d_J_bitCount_42 : decode prog_8_method_50_code 42 = .ok (.lload_n 0, 1) := by decide +kernel
theorem d_J_bitCount_43 : decode prog_8_method_50_code 43 = .ok (.bipush 16, 2) := by decide +kernel
theorem d_J_bitCount_45 : decode prog_8_method_50_code 45 = .ok (.lushr, 1) := by decide +kernel
theorem d_J_bitCount_46 : decode prog_8_method_50_code 46 = .ok (.ladd, 1) := by decide +kernel
theorem d_J_bitCount_47 : decode prog_8_method_50_code 47 = .ok (.lstore_n 0, 1) := by decide +kernel
theorem d_J_bitCount_48 : decode prog_8_method_50_code 48 = .ok (.lload_n 0, 1) := by decide +kernel
theorem d_J_bitCount_49 : decode prog_8_method_50_code 49 = .ok (.lload_n 0, 1) := by decide +kernel
theorem d_J_bitCount_50 : decode prog_8_method_50_code 50 = .ok (.bipush 32, 2) := by decide +kernel
theorem d_J_bitCount_52 : decode prog_8_method_50_code 52 = .ok (.lushr, 1) := by decide +kernel
theorem d_J_bitCount_53 : decode prog_8_method_50_code 53 = .ok (.ladd, 1) := by decide +kernel
theorem d_J_bitCount_54 : decode prog_8_method_50_code 54 = .ok (.lstore_n 0, 1) := by decide +kernel
theorem d_J_bitCount_55 : decode prog_8_method_50_code 55 = .ok (.lload_n 0, 1) := by decide +kernel
theorem d_J_bitCount_56 : decode prog_8_method_50_code 56 = .ok (.l2i, 1) := by decide +kernel
theorem d_J_bitCount_57 : decode prog_8_method_50_code 57 = .ok (.bipush 127, 2) := by decide +kernel
theorem d_J_bitCount_59 : decode prog_8_method_50_code 59 = .ok (.iand, 1) := by decide +kernel
theorem d_J_bitCount_60 : decode prog_8_method_50_code 60 = .ok (.ireturn, 1) := by decide +kernel
theorem d_M_init_0 : decode prog_7_method_1_code 0 = .ok (.aload_n 0, 1) := by decide +kernel
theorem d_M_init_1 : decode prog_7_method_1_code 1 = .ok (.invokespecial 1, 3) := by decide +kernel
theorem d_M_init_4 : decode prog_7_method_1_code 4 = .ok (.aload_n 0, 1) := by decide +kernel
theorem d_M_init_5 : decode prog_7_method_1_code 5 = .ok (.sipush 160, 3) := by decide +kernel
theorem d_M_init_8 : decode prog_7_method_1_code 8 = .ok (.newarray .long, 2) := by decide +kernel
theorem d_M_init_10 : decode prog_7_method_1_code 10 = .ok (.putfield 7, 3) := by decide +kernel
theorem d_M_init_13 : decode prog_7_method_1_code 13 = .ok (.aload_n 0, 1) := by decide +kernel
theorem d_M_init_14 : decode prog_7_method_1_code 14 = .ok (.bipush 40, 2) := by decide +kernel
theorem d_M_init_16 : decode prog_7_method_1_code 16 = .ok (.newarray .int, 2) := by decide +kernel
theorem d_M_init_18 : decode prog_7_method_1_code 18 = .ok (.putfield 13, 3) := by decide +kernel
theorem d_M_init_21 : decode prog_7_method_1_code 21 = .ok (.aload_n 0, 1) := by decide +kernel
theorem d_M_init_22 : decode prog_7_method_1_code 22 = .ok (.bipush 40, 2) := by decide +kernel
theorem d_M_init_24 : decode prog_7_method_1_code 24 = .ok (.newarray .int, 2) := by decide +kernel
theorem d_M_init_26 : decode prog_7_method_1_code 26 = .ok (.putfield 17, 3) := by decide +kernel
theorem d_M_init_29 : decode prog_7_method_1_code 29 = .ok (.aload_n 0, 1) := by decide +kernel
theorem d_M_init_30 : decode prog_7_method_1_code 30 = .ok (.iconst 2, 1) := by decide +kernel
theorem d_M_init_31 : decode prog_7_method_1_code 31 = .ok (.newarray .long, 2) := by decide +kernel
theorem d_M_init_33 : decode prog_7_method_1_code 33 = .ok (.putfield 20, 3) := by decide +kernel
theorem d_M_init_36 : decode prog_7_method_1_code 36 = .ok (.aload_n 0, 1) := by decide +kernel
theorem d_M_init_37 : decode prog_7_method_1_code 37 = .ok (.bipush 8, 2) := by decide +kernel
theorem d_M_init_39 : decode prog_7_method_1_code 39 = .ok (.newarray .int, 2) := by decide +kernel
theorem d_M_init_41 : decode prog_7_method_1_code 41 = .ok (.putfield 23, 3) := by decide +kernel
theorem d_M_init_44 : decode prog_7_method_1_code 44 = .ok (.aload_n 0, 1) := by decide +kernel
theorem d_M_init_45 : decode prog_7_method_1_code 45 = .ok (.iconst 2, 1) := by decide +kernel
theorem d_M_init_46 : decode prog_7_method_1_code 46 = .ok (.newarray .int, 2) := by decide +kernel
theorem d_M_init_48 : decode prog_7_method_1_code 48 = .ok (.putfield 26, 3) := by decide +kernel
theorem d_M_init_51 : decode prog_7_method_1_code 51 = .ok (.aload_n 0, 1) := by decide +kernel
theorem d_M_init_52 : decode prog_7_method_1_code 52 = .ok (.bipush 8, 2) := by decide +kernel
theorem d_M_init_54 : decode prog_7_method_1_code 54 = .ok (.newarray .long, 2) := by decide +kernel
theorem d_M_init_56 : decode prog_7_method_1_code 56 = .ok (.putfield 29, 3) := by decide +kernel
theorem d_M_init_59 : decode prog_7_method_1_code 59 = .ok (.aload_n 0, 1) := by decide +kernel
theorem d_M_init_60 : decode prog_7_method_1_code 60 = .ok (.bipush 8, 2) := by decide +kernel
theorem d_M_init_62 : decode prog_7_method_1_code 62 = .ok (.newarray .long, 2) := by decide +kernel
theorem d_M_init_64 : decode prog_7_method_1_code 64 = .ok (.putfield 32, 3) := by decide +kernel
theorem d_M_init_67 : decode prog_7_method_1_code 67 = .ok (.aload_n 0, 1) := by decide +kernel
theorem d_M_init_68 : decode prog_7_method_1_code 68 = .ok (.iconst 4, 1) := by decide +kernel
theorem d_M_init_69 : decode prog_7_method_1_code 69 = .ok (.newarray .long, 2) := by decide +kernel
theorem d_M_init_71 : decode prog_7_method_1_code 71 = .ok (.putfield 35, 3) := by decide +kernel
theorem d_M_init_74 : decode prog_7_method_1_code 74 = .ok (.aload_n 0, 1) := by decide +kernel
theorem d_M_init_75 : decode prog_7_method_1_code 75 = .ok (.iconst 4, 1) := by decide +kernel
theorem d_M_init_76 : decode prog_7_method_1_code 76 = .ok (.newarray .long, 2) := by decide +kernel
theorem d_M_init_78 : decode prog_7_method_1_code 78 = .ok (.putfield 38, 3) := by decide +kernel
theorem d_M_init_81 : decode prog_7_method_1_code 81 = .ok (.aload_n 0, 1) := by decide +kernel
theorem d_M_init_82 : decode prog_7_method_1_code 82 = .ok (.iconst 4, 1) := by decide +kernel
theorem d_M_init_83 : decode prog_7_method_1_code 83 = .ok (.newarray .long, 2) := by decide +kernel
theorem d_M_init_85 : decode prog_7_method_1_code 85 = .ok (.putfield 41, 3) := by decide +kernel
theorem d_M_init_88 : decode prog_7_method_1_code 88 = .ok (.aload_n 0, 1) := by decide +kernel
theorem d_M_init_89 : decode prog_7_method_1_code 89 = .ok (.iconst 4, 1) := by decide +kernel
theorem d_M_init_90 : decode prog_7_method_1_code 90 = .ok (.newarray .long, 2) := by decide +kernel
theorem d_M_init_92 : decode prog_7_method_1_code 92 = .ok (.putfield 44, 3) := by decide +kernel
theorem d_M_init_95 : decode prog_7_method_1_code 95 = .ok (.aload_n 0, 1) := by decide +kernel
theorem d_M_init_96 : decode prog_7_method_1_code 96 = .ok (.bipush 8, 2) := by decide +kernel
theorem d_M_init_98 : decode prog_7_method_1_code 98 = .ok (.newarray .int, 2) := by decide +kernel
theorem d_M_init_100 : decode prog_7_method_1_code 100 = .ok (.putfield 47, 3) := by decide +kernel
theorem d_M_init_103 : decode prog_7_method_1_code 103 = .ok (.aload_n 0, 1) := by decide +kernel
theorem d_M_init_104 : decode prog_7_method_1_code 104 = .ok (.bipush 8, 2) := by decide +kernel
theorem d_M_init_106 : decode prog_7_method_1_code 106 = .ok (.newarray .int, 2) := by decide +kernel
theorem d_M_init_108 : decode prog_7_method_1_code 108 = .ok (.putfield 50, 3) := by decide +kernel
theorem d_M_init_111 : decode prog_7_method_1_code 111 = .ok (.aload_n 0, 1) := by decide +kernel
theorem d_M_init_112 : decode prog_7_method_1_code 112 = .ok (.bipush 81, 2) := by decide +kernel
theorem d_M_init_114 : decode prog_7_method_1_code 114 = .ok (.newarray .int, 2) := by decide +kernel
theorem d_M_init_116 : decode prog_7_method_1_code 116 = .ok (.putfield 53, 3) := by decide +kernel
theorem d_M_init_119 : decode prog_7_method_1_code 119 = .ok (.aload_n 0, 1) := by decide +kernel
theorem d_M_init_120 : decode prog_7_method_1_code 120 = .ok (.bipush 24, 2) := by decide +kernel
theorem d_M_init_122 : decode prog_7_method_1_code 122 = .ok (.newarray .int, 2) := by decide +kernel
theorem d_M_init_124 : decode prog_7_method_1_code 124 = .ok (.putfield 56, 3) := by decide +kernel
theorem d_M_init_127 : decode prog_7_method_1_code 127 = .ok (.aload_n 0, 1) := by decide +kernel
theorem d_M_init_128 : decode prog_7_method_1_code 128 = .ok (.sipush 160, 3) := by decide +kernel
theorem d_M_init_131 : decode prog_7_method_1_code 131 = .ok (.newarray .long, 2) := by decide +kernel
theorem d_M_init_133 : decode prog_7_method_1_code 133 = .ok (.putfield 59, 3) := by decide +kernel
theorem d_M_init_136 : decode prog_7_method_1_code 136 = .ok (.iconst 0, 1) := by decide +kernel
theorem d_M_init_137 : decode prog_7_method_1_code 137 = .ok (.istore_n 1, 1) := by decide +kernel
theorem d_M_init_138 : decode prog_7_method_1_code 138 = .ok (.iload_n 1, 1) := by decide +kernel
theorem d_M_init_139 : decode prog_7_method_1_code 139 = .ok (.bipush 8, 2) := by decide +kernel
theorem d_M_init_141 : decode prog_7_method_1_code 141 = .ok (.if_icmp .ge 35, 3) := by decide +kernel
theorem d_M_init_144 : decode prog_7_method_1_code 144 = .ok (.aload_n 0, 1) := by decide +kernel
theorem d_M_init_145 : decode prog_7_method_1_code 145 = .ok (.getfield 23, 3) := by decide +kernel
theorem d_M_init_148 : decode prog_7_method_1_code 148 = .ok (.iload_n 1, 1) := by decide +kernel
theorem d_M_init_149 : decode prog_7_method_1_code 149 = .ok (.bipush (-2), 2) := by decide +kernel
theorem d_M_init_151 : decode prog_7_method_1_code 151 = .ok (.iastore, 1) := by decide +kernel
theorem d_M_init_152 : decode prog_7_method_1_code 152 = .ok (.aload_n 0, 1) := by decide +kernel
theorem d_M_init_153 : decode prog_7_method_1_code 153 = .ok (.getfield 29, 3) := by decide +kernel
theorem d_M_init_156 : decode prog_7_method_1_code 156 = .ok (.iload_n 1, 1) := by decide +kernel
theorem d_M_init_157 : decode prog_7_method_1_code 157 = .ok (.ldc2_w 62, 3) := by decide +kernel
theorem d_M_init_160 : decode prog_7_method_1_code 160 = .ok (.lastore, 1) := by decide +kernel
theorem d_M_init_161 : decode prog_7_method_1_code 161 = .ok (.aload_n 0, 1) := by decide +kernel
theorem d_M_init_162 : decode prog_7_method_1_code 162 = .ok (.getfield 32, 3) := by decide +kernel
theorem d_M_init_165 : decode prog_7_method_1_code 165 = .ok (.iload_n 1, 1) := by decide +kernel
theorem d_M_init_166 : decode prog_7_method_1_code 166 = .ok (.ldc2_w 62, 3) := by decide +kernel
theorem d_M_init_169 : decode prog_7_method_1_code 169 = .ok (.lastore, 1) := by decide +kernel
theorem d_M_init_170 : decode prog_7_method_1_code 170 = .ok (.iinc 1 1, 3) := by decide +kernel
theorem d_M_init_173 : decode prog_7_method_1_code 173 = .ok (.goto (-35), 3) := by decide +kernel
theorem d_M_init_176 : decode prog_7_method_1_code 176 = .ok (.return_, 1) := by decide +kernel
