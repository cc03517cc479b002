/-! Decode rows. (Printed by gen_names.py.) -/
theorem d_M_current_0 : decode prog_7_method_38_code 0 = .ok (.iload_n 1, 1) := by decide +kernel
theorem d_M_current_1 : decode prog_7_method_38_code 1 = .ok (.iconst 2, 1) := by decide +kernel
theorem d_M_current_2 : decode prog_7_method_38_code 2 = .ok (.invokestatic 123, 3) := by decide +kernel
theorem d_M_current_5 : decode prog_7_method_38_code 5 = .ok (.ifCond .eq 7, 3) := by decide +kernel
theorem d_M_current_8 : decode prog_7_method_38_code 8 = .ok (.iconst (-1), 1) := by decide +kernel
theorem d_M_current_9 : decode prog_7_method_38_code 9 = .ok (.goto 9, 3) := by decide +kernel
theorem d_M_current_12 : decode prog_7_method_38_code 12 = .ok (.aload_n 0, 1) := by decide +kernel
theorem d_M_current_13 : decode prog_7_method_38_code 13 = .ok (.getfield 26, 3) := by decide +kernel
theorem d_M_current_16 : decode prog_7_method_38_code 16 = .ok (.iload_n 1, 1) := by decide +kernel
theorem d_M_current_17 : decode prog_7_method_38_code 17 = .ok (.iaload, 1) := by decide +kernel
theorem d_M_current_18 : decode prog_7_method_38_code 18 = .ok (.ireturn, 1) := by decide +kernel
theorem d_M_tip_0 : decode prog_7_method_39_code 0 = .ok (.iload_n 1, 1) := by decide +kernel
theorem d_M_tip_1 : decode prog_7_method_39_code 1 = .ok (.iconst 2, 1) := by decide +kernel
theorem d_M_tip_2 : decode prog_7_method_39_code 2 = .ok (.invokestatic 123, 3) := by decide +kernel
theorem d_M_tip_5 : decode prog_7_method_39_code 5 = .ok (.ifCond .ne 11, 3) := by decide +kernel
theorem d_M_tip_8 : decode prog_7_method_39_code 8 = .ok (.iload_n 2, 1) := by decide +kernel
theorem d_M_tip_9 : decode prog_7_method_39_code 9 = .ok (.iconst 4, 1) := by decide +kernel
theorem d_M_tip_10 : decode prog_7_method_39_code 10 = .ok (.invokestatic 123, 3) := by decide +kernel
theorem d_M_tip_13 : decode prog_7_method_39_code 13 = .ok (.ifCond .eq 7, 3) := by decide +kernel
theorem d_M_tip_16 : decode prog_7_method_39_code 16 = .ok (.iconst (-1), 1) := by decide +kernel
theorem d_M_tip_17 : decode prog_7_method_39_code 17 = .ok (.goto 13, 3) := by decide +kernel
theorem d_M_tip_20 : decode prog_7_method_39_code 20 = .ok (.aload_n 0, 1) := by decide +kernel
theorem d_M_tip_21 : decode prog_7_method_39_code 21 = .ok (.getfield 23, 3) := by decide +kernel
theorem d_M_tip_24 : decode prog_7_method_39_code 24 = .ok (.iconst 4, 1) := by decide +kernel
theorem d_M_tip_25 : decode prog_7_method_39_code 25 = .ok (.iload_n 1, 1) := by decide +kernel
theorem d_M_tip_26 : decode prog_7_method_39_code 26 = .ok (.imul, 1) := by decide +kernel
theorem d_M_tip_27 : decode prog_7_method_39_code 27 = .ok (.iload_n 2, 1) := by decide +kernel
theorem d_M_tip_28 : decode prog_7_method_39_code 28 = .ok (.iadd, 1) := by decide +kernel
theorem d_M_tip_29 : decode prog_7_method_39_code 29 = .ok (.iaload, 1) := by decide +kernel
theorem d_M_tip_30 : decode prog_7_method_39_code 30 = .ok (.ireturn, 1) := by decide +kernel
theorem d_M_holds_0 : decode prog_7_method_40_code 0 = .ok (.iload_n 1, 1) := by decide +kernel
theorem d_M_holds_1 : decode prog_7_method_40_code 1 = .ok (.iconst 2, 1) := by decide +kernel
theorem d_M_holds_2 : decode prog_7_method_40_code 2 = .ok (.invokestatic 123, 3) := by decide +kernel
theorem d_M_holds_5 : decode prog_7_method_40_code 5 = .ok (.ifCond .ne 33, 3) := by decide +kernel
theorem d_M_holds_8 : decode prog_7_method_40_code 8 = .ok (.iload_n 2, 1) := by decide +kernel
theorem d_M_holds_9 : decode prog_7_method_40_code 9 = .ok (.aload_n 0, 1) := by decide +kernel
theorem d_M_holds_10 : decode prog_7_method_40_code 10 = .ok (.getfield 104, 3) := by decide +kernel
theorem d_M_holds_13 : decode prog_7_method_40_code 13 = .ok (.invokestatic 123, 3) := by decide +kernel
theorem d_M_holds_16 : decode prog_7_method_40_code 16 = .ok (.ifCond .ne 22, 3) := by decide +kernel
theorem d_M_holds_19 : decode prog_7_method_40_code 19 = .ok (.aload_n 0, 1) := by decide +kernel
theorem d_M_holds_20 : decode prog_7_method_40_code 20 = .ok (.getfield 20, 3) := by decide +kernel
theorem d_M_holds_23 : decode prog_7_method_40_code 23 = .ok (.iload_n 1, 1) := by decide +kernel
theorem d_M_holds_24 : decode prog_7_method_40_code 24 = .ok (.laload, 1) := by decide +kernel
theorem d_M_holds_25 : decode prog_7_method_40_code 25 = .ok (.iload_n 2, 1) := by decide +kernel
theorem d_M_holds_26 : decode prog_7_method_40_code 26 = .ok (.lshr, 1) := by decide +kernel
theorem d_M_holds_27 : decode prog_7_method_40_code 27 = .ok (.lconst 1, 1) := by decide +kernel
theorem d_M_holds_28 : decode prog_7_method_40_code 28 = .ok (.land, 1) := by decide +kernel
theorem d_M_holds_29 : decode prog_7_method_40_code 29 = .ok (.lconst 1, 1) := by decide +kernel
theorem d_M_holds_30 : decode prog_7_method_40_code 30 = .ok (.lcmp, 1) := by decide +kernel
theorem d_M_holds_31 : decode prog_7_method_40_code 31 = .ok (.ifCond .ne 7, 3) := by decide +kernel
theorem d_M_holds_34 : decode prog_7_method_40_code 34 = .ok (.iconst 1, 1) := by decide +kernel
theorem d_M_holds_35 : decode prog_7_method_40_code 35 = .ok (.goto 4, 3) := by decide +kernel
theorem d_M_holds_38 : decode prog_7_method_40_code 38 = .ok (.iconst 0, 1) := by decide +kernel
theorem d_M_holds_39 : decode prog_7_method_40_code 39 = .ok (.ireturn, 1) := by decide +kernel
theorem d_M_commits_0 : decode prog_7_method_41_code 0 = .ok (.aload_n 0, 1) := by decide +kernel
theorem d_M_commits_1 : decode prog_7_method_41_code 1 = .ok (.getfield 104, 3) := by decide +kernel
theorem d_M_commits_4 : decode prog_7_method_41_code 4 = .ok (.ireturn, 1) := by decide +kernel
theorem d_M_parent_0 : decode prog_7_method_42_code 0 = .ok (.iload_n 1, 1) := by decide +kernel
theorem d_M_parent_1 : decode prog_7_method_42_code 1 = .ok (.aload_n 0, 1) := by decide +kernel
theorem d_M_parent_2 : decode prog_7_method_42_code 2 = .ok (.getfield 104, 3) := by decide +kernel
theorem d_M_parent_5 : decode prog_7_method_42_code 5 = .ok (.invokestatic 123, 3) := by decide +kernel
theorem d_M_parent_8 : decode prog_7_method_42_code 8 = .ok (.ifCond .ne 11, 3) := by decide +kernel
theorem d_M_parent_11 : decode prog_7_method_42_code 11 = .ok (.iload_n 2, 1) := by decide +kernel
theorem d_M_parent_12 : decode prog_7_method_42_code 12 = .ok (.iconst 2, 1) := by decide +kernel
theorem d_M_parent_13 : decode prog_7_method_42_code 13 = .ok (.invokestatic 123, 3) := by decide +kernel
theorem d_M_parent_16 : decode prog_7_method_42_code 16 = .ok (.ifCond .eq 7, 3) := by decide +kernel
theorem d_M_parent_19 : decode prog_7_method_42_code 19 = .ok (.iconst (-1), 1) := by decide +kernel
theorem d_M_parent_20 : decode prog_7_method_42_code 20 = .ok (.goto 22, 3) := by decide +kernel
theorem d_M_parent_23 : decode prog_7_method_42_code 23 = .ok (.iload_n 2, 1) := by decide +kernel
theorem d_M_parent_24 : decode prog_7_method_42_code 24 = .ok (.ifCond .ne 12, 3) := by decide +kernel
theorem d_M_parent_27 : decode prog_7_method_42_code 27 = .ok (.aload_n 0, 1) := by decide +kernel
theorem d_M_parent_28 : decode prog_7_method_42_code 28 = .ok (.getfield 13, 3) := by decide +kernel
theorem d_M_parent_31 : decode prog_7_method_42_code 31 = .ok (.iload_n 1, 1) := by decide +kernel
theorem d_M_parent_32 : decode prog_7_method_42_code 32 = .ok (.iaload, 1) := by decide +kernel
theorem d_M_parent_33 : decode prog_7_method_42_code 33 = .ok (.goto 9, 3) := by decide +kernel
theorem d_M_parent_36 : decode prog_7_method_42_code 36 = .ok (.aload_n 0, 1) := by decide +kernel
theorem d_M_parent_37 : decode prog_7_method_42_code 37 = .ok (.getfield 17, 3) := by decide +kernel
theorem d_M_parent_40 : decode prog_7_method_42_code 40 = .ok (.iload_n 1, 1) := by decide +kernel
theorem d_M_parent_41 : decode prog_7_method_42_code 41 = .ok (.iaload, 1) := by decide +kernel
theorem d_M_parent_42 : decode prog_7_method_42_code 42 = .ok (.ireturn, 1) := by decide +kernel
theorem d_M_text_0 : decode prog_7_method_43_code 0 = .ok (.iload_n 1, 1) := by decide +kernel
theorem d_M_text_1 : decode prog_7_method_43_code 1 = .ok (.aload_n 0, 1) := by decide +kernel
theorem d_M_text_2 : decode prog_7_method_43_code 2 = .ok (.getfield 104, 3) := by decide +kernel
theorem d_M_text_5 : decode prog_7_method_43_code 5 = .ok (.invokestatic 123, 3) := by decide +kernel
theorem d_M_text_8 : decode prog_7_method_43_code 8 = .ok (.ifCond .ne 11, 3) := by decide +kernel
theorem d_M_text_11 : decode prog_7_method_43_code 11 = .ok (.iload_n 2, 1) := by decide +kernel
theorem d_M_text_12 : decode prog_7_method_43_code 12 = .ok (.iconst 4, 1) := by decide +kernel
theorem d_M_text_13 : decode prog_7_method_43_code 13 = .ok (.invokestatic 123, 3) := by decide +kernel
theorem d_M_text_16 : decode prog_7_method_43_code 16 = .ok (.ifCond .eq 9, 3) := by decide +kernel
theorem d_M_text_19 : decode prog_7_method_43_code 19 = .ok (.ldc2_w 158, 3) := by decide +kernel
theorem d_M_text_22 : decode prog_7_method_43_code 22 = .ok (.goto 13, 3) := by decide +kernel
theorem d_M_text_25 : decode prog_7_method_43_code 25 = .ok (.aload_n 0, 1) := by decide +kernel
theorem d_M_text_26 : decode prog_7_method_43_code 26 = .ok (.getfield 7, 3) := by decide +kernel
theorem d_M_text_29 : decode prog_7_method_43_code 29 = .ok (.iconst 4, 1) := by decide +kernel
theorem d_M_text_30 : decode prog_7_method_43_code 30 = .ok (.iload_n 1, 1) := by decide +kernel
theorem d_M_text_31 : decode prog_7_method_43_code 31 = .ok (.imul, 1) := by decide +kernel
theorem d_M_text_32 : decode prog_7_method_43_code 32 = .ok (.iload_n 2, 1) := by decide +kernel
theorem d_M_text_33 : decode prog_7_method_43_code 33 = .ok (.iadd, 1) := by decide +kernel
theorem d_M_text_34 : decode prog_7_method_43_code 34 = .ok (.laload, 1) := by decide +kernel
theorem d_M_text_35 : decode prog_7_method_43_code 35 = .ok (.lreturn, 1) := by decide +kernel
theorem d_M_working_0 : decode prog_7_method_44_code 0 = .ok (.iload_n 1, 1) := by decide +kernel
theorem d_M_working_1 : decode prog_7_method_44_code 1 = .ok (.iconst 2, 1) := by decide +kernel
theorem d_M_working_2 : decode prog_7_method_44_code 2 = .ok (.invokestatic 123, 3) := by decide +kernel
theorem d_M_working_5 : decode prog_7_method_44_code 5 = .ok (.ifCond .ne 11, 3) := by decide +kernel
theorem d_M_working_8 : decode prog_7_method_44_code 8 = .ok (.iload_n 2, 1) := by decide +kernel
theorem d_M_working_9 : decode prog_7_method_44_code 9 = .ok (.iconst 4, 1) := by decide +kernel
theorem d_M_working_10 : decode prog_7_method_44_code 10 = .ok (.invokestatic 123, 3) := by decide +kernel
theorem d_M_working_13 : decode prog_7_method_44_code 13 = .ok (.ifCond .eq 9, 3) := by decide +kernel
theorem d_M_working_16 : decode prog_7_method_44_code 16 = .ok (.ldc2_w 158, 3) := by decide +kernel
theorem d_M_working_19 : decode prog_7_method_44_code 19 = .ok (.goto 13, 3) := by decide +kernel
theorem d_M_working_22 : decode prog_7_method_44_code 22 = .ok (.aload_n 0, 1) := by decide +kernel
theorem d_M_working_23 : decode prog_7_method_44_code 23 = .ok (.getfield 29, 3) := by decide +kernel
theorem d_M_working_26 : decode prog_7_method_44_code 26 = .ok (.iconst 4, 1) := by decide +kernel
theorem d_M_working_27 : decode prog_7_method_44_code 27 = .ok (.iload_n 1, 1) := by decide +kernel
theorem d_M_working_28 : decode prog_7_method_44_code 28 = .ok (.imul, 1) := by decide +kernel
theorem d_M_working_29 : decode prog_7_method_44_code 29 = .ok (.iload_n 2, 1) := by decide +kernel
theorem d_M_working_30 : decode prog_7_method_44_code 30 = .ok (.iadd, 1) := by decide +kernel
theorem d_M_working_31 : decode prog_7_method_44_code 31 = .ok (.laload, 1) := by decide +kernel
theorem d_M_working_32 : decode prog_7_method_44_code 32 = .ok (.lreturn, 1) := by decide +kernel
theorem d_M_staged_0 : decode prog_7_method_45_code 0 = .ok (.iload_n 1, 1) := by decide +kernel
theorem d_M_staged_1 : decode prog_7_method_45_code 1 = .ok (.iconst 2, 1) := by decide +kernel
theorem d_M_staged_2 : decode prog_7_method_45_code 2 = .ok (.invokestatic 123, 3) := by decide +kernel
theorem d_M_staged_5 : decode prog_7_method_45_code 5 = .ok (.ifCond .ne 11, 3) := by decide +kernel
theorem d_M_staged_8 : decode prog_7_method_45_code 8 = .ok (.iload_n 2, 1) := by decide +kernel
theorem d_M_staged_9 : decode prog_7_method_45_code 9 = .ok (.iconst 4, 1) := by decide +kernel
theorem d_M_staged_10 : decode prog_7_method_45_code 10 = .ok (.invokestatic 123, 3) := by decide +kernel
theorem d_M_staged_13 : decode prog_7_method_45_code 13 = .ok (.ifCond .eq 9, 3) := by decide +kernel
theorem d_M_staged_16 : decode prog_7_method_45_code 16 = .ok (.ldc2_w 158, 3) := by decide +kernel
theorem d_M_staged_19 : decode prog_7_method_45_code 19 = .ok (.goto 13, 3) := by decide +kernel
theorem d_M_staged_22 : decode prog_7_method_45_code 22 = .ok (.aload_n 0, 1) := by decide +kernel
theorem d_M_staged_23 : decode prog_7_method_45_code 23 = .ok (.getfield 32, 3) := by decide +kernel
theorem d_M_staged_26 : decode prog_7_method_45_code 26 = .ok (.iconst 4, 1) := by decide +kernel
theorem d_M_staged_27 : decode prog_7_method_45_code 27 = .ok (.iload_n 1, 1) := by decide +kernel
theorem d_M_staged_28 : decode prog_7_method_45_code 28 = .ok (.imul, 1) := by decide +kernel
theorem d_M_staged_29 : decode prog_7_method_45_code 29 = .ok (.iload_n 2, 1) := by decide +kernel
theorem d_M_staged_30 : decode prog_7_method_45_code 30 = .ok (.iadd, 1) := by decide +kernel
theorem d_M_staged_31 : decode prog_7_method_45_code 31 = .ok (.laload, 1) := by decide +kernel
theorem d_M_staged_32 : decode prog_7_method_45_code 32 = .ok (.lreturn, 1) := by decide +kernel
theorem d_M_base_0 : decode prog_7_method_46_code 0 = .ok (.iload_n 1, 1) := by decide +kernel
theorem d_M_base_1 : decode prog_7_method_46_code 1 = .ok (.aload_n 0, 1) := by decide +kernel
theorem d_M_base_2 : decode prog_7_method_46_code 2 = .ok (.getfield 104, 3) := by decide +kernel
theorem d_M_base_5 : decode prog_7_method_46_code 5 = .ok (.invokestatic 123, 3) := by decide +kernel
theorem d_M_base_8 : decode prog_7_method_46_code 8 = .ok (.ifCond .ne 14, 3) := by decide +kernel
theorem d_M_base_11 : decode prog_7_method_46_code 11 = .ok (.iload_n 2, 1) := by decide +kernel
theorem d_M_base_12 : decode prog_7_method_46_code 12 = .ok (.aload_n 0, 1) := by decide +kernel
theorem d_M_base_13 : decode prog_7_method_46_code 13 = .ok (.getfield 104, 3) := by decide +kernel
theorem d_M_base_16 : decode prog_7_method_46_code 16 = .ok (.invokestatic 123, 3) := by decide +kernel
theorem d_M_base_19 : decode prog_7_method_46_code 19 = .ok (.ifCond .eq 7, 3) := by decide +kernel
theorem d_M_base_22 : decode prog_7_method_46_code 22 = .ok (.iconst (-1), 1) := by decide +kernel
theorem d_M_base_23 : decode prog_7_method_46_code 23 = .ok (.goto 9, 3) := by decide +kernel
theorem d_M_base_26 : decode prog_7_method_46_code 26 = .ok (.aload_n 0, 1) := by decide +kernel
theorem d_M_base_27 : decode prog_7_method_46_code 27 = .ok (.iload_n 1, 1) := by decide +kernel
theorem d_M_base_28 : decode prog_7_method_46_code 28 = .ok (.iload_n 2, 1) := by decide +kernel
theorem d_M_base_29 : decode prog_7_method_46_code 29 = .ok (.invokevirtual 141, 3) := by decide +kernel
theorem d_M_base_32 : decode prog_7_method_46_code 32 = .ok (.ireturn, 1) := by decide +kernel
theorem d_L_law_0 : decode code 0 = .ok (.new 7, 3) := by decide +kernel
theorem d_L_law_3 : decode code 3 = .ok (.dup, 1) := by decide +kernel
theorem d_L_law_4 : decode code 4 = .ok (.invokespecial 9, 3) := by decide +kernel
theorem d_L_law_7 : decode code 7 = .ok (.astore_n 1, 1) := by decide +kernel
theorem d_L_law_8 : decode code 8 = .ok (.new 10, 3) := by decide +kernel
theorem d_L_law_11 : decode code 11 = .ok (.dup, 1) := by decide +kernel
theorem d_L_law_12 : decode code 12 = .ok (.invokespecial 12, 3) := by decide +kernel
theorem d_L_law_15 : decode code 15 = .ok (.astore_n 2, 1) := by decide +kernel
theorem d_L_law_16 : decode code 16 = .ok (.iconst 0, 1) := by decide +kernel
theorem d_L_law_17 : decode code 17 = .ok (.istore_n 3, 1) := by decide +kernel
theorem d_L_law_18 : decode code 18 = .ok (.iload_n 3, 1) := by decide +kernel
theorem d_L_law_19 : decode code 19 = .ok (.aload_n 0, 1) := by decide +kernel
theorem d_L_law_20 : decode code 20 = .ok (.arraylength, 1) := by decide +kernel
theorem d_L_law_21 : decode code 21 = .ok (.bipush 6, 2) := by decide +kernel
theorem d_L_law_23 : decode code 23 = .ok (.isub, 1) := by decide +kernel
theorem d_L_law_24 : decode code 24 = .ok (.if_icmp .gt 810, 3) := by decide +kernel
theorem d_L_law_27 : decode code 27 = .ok (.aload_n 0, 1) := by decide +kernel
theorem d_L_law_28 : decode code 28 = .ok (.iload_n 3, 1) := by decide +kernel
theorem d_L_law_29 : decode code 29 = .ok (.iaload, 1) := by decide +kernel
theorem d_L_law_30 : decode code 30 = .ok (.bipush 31, 2) := by decide +kernel
theorem d_L_law_32 : decode code 32 = .ok (.iand, 1) := by decide +kernel
theorem d_L_law_33 : decode code 33 = .ok (.tableswitch 795 0 20 #[99, 182, 215, 248, 271, 304, 337, 370, 403, 436, 469, 492, 525, 548, 581, 614, 627, 660, 694, 728, 762], 99) := by decide +kernel
theorem d_L_law_132 : decode code 132 = .ok (.aload_n 1, 1) := by decide +kernel
theorem d_L_law_133 : decode code 133 = .ok (.aload_n 0, 1) := by decide +kernel
theorem d_L_law_134 : decode code 134 = .ok (.iload_n 3, 1) := by decide +kernel
theorem d_L_law_135 : decode code 135 = .ok (.iconst 1, 1) := by decide +kernel
theorem d_L_law_136 : decode code 136 = .ok (.iadd, 1) := by decide +kernel
theorem d_L_law_137 : decode code 137 = .ok (.iaload, 1) := by decide +kernel
theorem d_L_law_138 : decode code 138 = .ok (.aload_n 0, 1) := by decide +kernel
theorem d_L_law_139 : decode code 139 = .ok (.iload_n 3, 1) := by decide +kernel
theorem d_L_law_140 : decode code 140 = .ok (.iconst 2, 1) := by decide +kernel
theorem d_L_law_141 : decode code 141 = .ok (.iadd, 1) := by decide +kernel
theorem d_L_law_142 : decode code 142 = .ok (.iaload, 1) := by decide +kernel
theorem d_L_law_143 : decode code 143 = .ok (.aload_n 0, 1) := by decide +kernel
theorem d_L_law_144 : decode code 144 = .ok (.iload_n 3, 1) := by decide +kernel
theorem d_L_law_145 : decode code 145 = .ok (.iconst 3, 1) := by decide +kernel
theorem d_L_law_146 : decode code 146 = .ok (.iadd, 1) := by decide +kernel
theorem d_L_law_147 : decode code 147 = .ok (.iaload, 1) := by decide +kernel
theorem d_L_law_148 : decode code 148 = .ok (.i2l, 1) := by decide +kernel
theorem d_L_law_149 : decode code 149 = .ok (.bipush 32, 2) := by decide +kernel
theorem d_L_law_151 : decode code 151 = .ok (.lshl, 1) := by decide +kernel
theorem d_L_law_152 : decode code 152 = .ok (.aload_n 0, 1) := by decide +kernel
theorem d_L_law_153 : decode code 153 = .ok (.iload_n 3, 1) := by decide +kernel
theorem d_L_law_154 : decode code 154 = .ok (.iconst 4, 1) := by decide +kernel
theorem d_L_law_155 : decode code 155 = .ok (.iadd, 1) := by decide +kernel
theorem d_L_law_156 : decode code 156 = .ok (.iaload, 1) := by decide +kernel
theorem d_L_law_157 : decode code 157 = .ok (.i2l, 1) := by decide +kernel
theorem d_L_law_158 : decode code 158 = .ok (.ldc2_w 13, 3) := by decide +kernel
theorem d_L_law_161 : decode code 161 = .ok (.land, 1) := by decide +kernel
theorem d_L_law_162 : decode code 162 = .ok (.lor, 1) := by decide +kernel
theorem d_L_law_163 : decode code 163 = .ok (.aload_n 0, 1) := by decide +kernel
theorem d_L_law_164 : decode code 164 = .ok (.iload_n 3, 1) := by decide +kernel
theorem d_L_law_165 : decode code 165 = .ok (.iconst 5, 1) := by decide +kernel
theorem d_L_law_166 : decode code 166 = .ok (.iadd, 1) := by decide +kernel
theorem d_L_law_167 : decode code 167 = .ok (.iaload, 1) := by decide +kernel
theorem d_L_law_168 : decode code 168 = .ok (.invokevirtual 15, 3) := by decide +kernel
theorem d_L_law_171 : decode code 171 = .ok (.aload_n 2, 1) := by decide +kernel
theorem d_L_law_172 : decode code 172 = .ok (.aload_n 0, 1) := by decide +kernel
theorem d_L_law_173 : decode code 173 = .ok (.iload_n 3, 1) := by decide +kernel
theorem d_L_law_174 : decode code 174 = .ok (.iconst 1, 1) := by decide +kernel
theorem d_L_law_175 : decode code 175 = .ok (.iadd, 1) := by decide +kernel
theorem d_L_law_176 : decode code 176 = .ok (.iaload, 1) := by decide +kernel
theorem d_L_law_177 : decode code 177 = .ok (.aload_n 0, 1) := by decide +kernel
theorem d_L_law_178 : decode code 178 = .ok (.iload_n 3, 1) := by decide +kernel
theorem d_L_law_179 : decode code 179 = .ok (.iconst 2, 1) := by decide +kernel
theorem d_L_law_180 : decode code 180 = .ok (.iadd, 1) := by decide +kernel
theorem d_L_law_181 : decode code 181 = .ok (.iaload, 1) := by decide +kernel
theorem d_L_law_182 : decode code 182 = .ok (.aload_n 0, 1) := by decide +kernel
theorem d_L_law_183 : decode code 183 = .ok (.iload_n 3, 1) := by decide +kernel
theorem d_L_law_184 : decode code 184 = .ok (.iconst 3, 1) := by decide +kernel
theorem d_L_law_185 : decode code 185 = .ok (.iadd, 1) := by decide +kernel
theorem d_L_law_186 : decode code 186 = .ok (.iaload, 1) := by decide +kernel
theorem d_L_law_187 : decode code 187 = .ok (.i2l, 1) := by decide +kernel
theorem d_L_law_188 : decode code 188 = .ok (.bipush 32, 2) := by decide +kernel
theorem d_L_law_190 : decode code 190 = .ok (.lshl, 1) := by decide +kernel
theorem d_L_law_191 : decode code 191 = .ok (.aload_n 0, 1) := by decide +kernel
theorem d_L_law_192 : decode code 192 = .ok (.iload_n 3, 1) := by decide +kernel
theorem d_L_law_193 : decode code 193 = .ok (.iconst 4, 1) := by decide +kernel
theorem d_L_law_194 : decode code 194 = .ok (.iadd, 1) := by decide +kernel
theorem d_L_law_195 : decode code 195 = .ok (.iaload, 1) := by decide +kernel
theorem d_L_law_196 : decode code 196 = .ok (.i2l, 1) := by decide +kernel
theorem d_L_law_197 : decode code 197 = .ok (.ldc2_w 13, 3) := by decide +kernel
theorem d_L_law_200 : decode code 200 = .ok (.land, 1) := by decide +kernel
theorem d_L_law_201 : decode code 201 = .ok (.lor, 1) := by decide +kernel
theorem d_L_law_202 : decode code 202 = .ok (.aload_n 0, 1) := by decide +kernel
theorem d_L_law_203 : decode code 203 = .ok (.iload_n 3, 1) := by decide +kernel
theorem d_L_law_204 : decode code 204 = .ok (.iconst 5, 1) := by decide +kernel
theorem d_L_law_205 : decode code 205 = .ok (.iadd, 1) := by decide +kernel
theorem d_L_law_206 : decode code 206 = .ok (.iaload, 1) := by decide +kernel
theorem d_L_law_207 : decode code 207 = .ok (.invokevirtual 19, 3) := by decide +kernel
theorem d_L_law_210 : decode code 210 = .ok (.if_icmp .eq 618, 3) := by decide +kernel
theorem d_L_law_213 : decode code 213 = .ok (.iconst 0, 1) := by decide +kernel
theorem d_L_law_214 : decode code 214 = .ok (.ireturn, 1) := by decide +kernel
theorem d_L_law_215 : decode code 215 = .ok (.aload_n 1, 1) := by decide +kernel
theorem d_L_law_216 : decode code 216 = .ok (.aload_n 0, 1) := by decide +kernel
theorem d_L_law_217 : decode code 217 = .ok (.iload_n 3, 1) := by decide +kernel
theorem d_L_law_218 : decode code 218 = .ok (.iconst 1, 1) := by decide +kernel
theorem d_L_law_219 : decode code 219 = .ok (.iadd, 1) := by decide +kernel
theorem d_L_law_220 : decode code 220 = .ok (.iaload, 1) := by decide +kernel
theorem d_L_law_221 : decode code 221 = .ok (.aload_n 0, 1) := by decide +kernel
theorem d_L_law_222 : decode code 222 = .ok (.iload_n 3, 1) := by decide +kernel
theorem d_L_law_223 : decode code 223 = .ok (.iconst 2, 1) := by decide +kernel
theorem d_L_law_224 : decode code 224 = .ok (.iadd, 1) := by decide +kernel
theorem d_L_law_225 : decode code 225 = .ok (.iaload, 1) := by decide +kernel
theorem d_L_law_226 : decode code 226 = .ok (.invokevirtual 20, 3) := by decide +kernel
theorem d_L_law_229 : decode code 229 = .ok (.aload_n 2, 1) := by decide +kernel
theorem d_L_law_230 : decode code 230 = .ok (.aload_n 0, 1) := by decide +kernel
theorem d_L_law_231 : decode code 231 = .ok (.iload_n 3, 1) := by decide +kernel
theorem d_L_law_232 : decode code 232 = .ok (.iconst 1, 1) := by decide +kernel
theorem d_L_law_233 : decode code 233 = .ok (.iadd, 1) := by decide +kernel
theorem d_L_law_234 : decode code 234 = .ok (.iaload, 1) := by decide +kernel
theorem d_L_law_235 : decode code 235 = .ok (.aload_n 0, 1) := by decide +kernel
theorem d_L_law_236 : decode code 236 = .ok (.iload_n 3, 1) := by decide +kernel
theorem d_L_law_237 : decode code 237 = .ok (.iconst 2, 1) := by decide +kernel
theorem d_L_law_238 : decode code 238 = .ok (.iadd, 1) := by decide +kernel
theorem d_L_law_239 : decode code 239 = .ok (.iaload, 1) := by decide +kernel
theorem d_L_law_240 : decode code 240 = .ok (.invokevirtual 24, 3) := by decide +kernel
theorem d_L_law_243 : decode code 243 = .ok (.if_icmp .eq 585, 3) := by decide +kernel
theorem d_L_law_246 : decode code 246 = .ok (.iconst 0, 1) := by decide +kernel
theorem d_L_law_247 : decode code 247 = .ok (.ireturn, 1) := by decide +kernel
theorem d_L_law_248 : decode code 248 = .ok (.aload_n 1, 1) := by decide +kernel
theorem d_L_law_249 : decode code 249 = .ok (.aload_n 0, 1) := by decide +kernel
theorem d_L_law_250 : decode code 250 = .ok (.iload_n 3, 1) := by decide +kernel
theorem d_L_law_251 : decode code 251 = .ok (.iconst 1, 1) := by decide +kernel
theorem d_L_law_252 : decode code 252 = .ok (.iadd, 1) := by decide +kernel
theorem d_L_law_253 : decode code 253 = .ok (.iaload, 1) := by decide +kernel
theorem d_L_law_254 : decode code 254 = .ok (.aload_n 0, 1) := by decide +kernel
theorem d_L_law_255 : decode code 255 = .ok (.iload_n 3, 1) := by decide +kernel
theorem d_L_law_256 : decode code 256 = .ok (.iconst 2, 1) := by decide +kernel
theorem d_L_law_257 : decode code 257 = .ok (.iadd, 1) := by decide +kernel
theorem d_L_law_258 : decode code 258 = .ok (.iaload, 1) := by decide +kernel
theorem d_L_law_259 : decode code 259 = .ok (.invokevirtual 25, 3) := by decide +kernel
theorem d_L_law_262 : decode code 262 = .ok (.aload_n 2, 1) := by decide +kernel
theorem d_L_law_263 : decode code 263 = .ok (.aload_n 0, 1) := by decide +kernel
theorem d_L_law_264 : decode code 264 = .ok (.iload_n 3, 1) := by decide +kernel
theorem d_L_law_265 : decode code 265 = .ok (.iconst 1, 1) := by decide +kernel
theorem d_L_law_266 : decode code 266 = .ok (.iadd, 1) := by decide +kernel
theorem d_L_law_267 : decode code 267 = .ok (.iaload, 1) := by decide +kernel
theorem d_L_law_268 : decode code 268 = .ok (.aload_n 0, 1) := by decide +kernel
theorem d_L_law_269 : decode code 269 = .ok (.iload_n 3, 1) := by decide +kernel
theorem d_L_law_270 : decode code 270 = .ok (.iconst 2, 1) := by decide +kernel
theorem d_L_law_271 : decode code 271 = .ok (.iadd, 1) := by decide +kernel
theorem d_L_law_272 : decode code 272 = .ok (.iaload, 1) := by decide +kernel
theorem d_L_law_273 : decode code 273 = .ok (.invokevirtual 28, 3) := by decide +kernel
theorem d_L_law_276 : decode code 276 = .ok (.if_icmp .eq 552, 3) := by decide +kernel
theorem d_L_law_279 : decode code 279 = .ok (.iconst 0, 1) := by decide +kernel
theorem d_L_law_280 : decode code 280 = .ok (.ireturn, 1) := by decide +kernel
theorem d_L_law_281 : decode code 281 = .ok (.aload_n 1, 1) := by decide +kernel
theorem d_L_law_282 : decode code 282 = .ok (.aload_n 0, 1) := by decide +kernel
theorem d_L_law_283 : decode code 283 = .ok (.iload_n 3, 1) := by decide +kernel
theorem d_L_law_284 : decode code 284 = .ok (.iconst 1, 1) := by decide +kernel
theorem d_L_law_285 : decode code 285 = .ok (.iadd, 1) := by decide +kernel
theorem d_L_law_286 : decode code 286 = .ok (.iaload, 1) := by decide +kernel
theorem d_L_law_287 : decode code 287 = .ok (.invokevirtual 29, 3) := by decide +kernel
theorem d_L_law_290 : decode code 290 = .ok (.aload_n 2, 1) := by decide +kernel
theorem d_L_law_291 : decode code 291 = .ok (.aload_n 0, 1) := by decide +kernel
theorem d_L_law_292 : decode code 292 = .ok (.iload_n 3, 1) := by decide +kernel
theorem d_L_law_293 : decode code 293 = .ok (.iconst 1, 1) := by decide +kernel
theorem d_L_law_294 : decode code 294 = .ok (.iadd, 1) := by decide +kernel
theorem d_L_law_295 : decode code 295 = .ok (.iaload, 1) := by decide +kernel
theorem d_L_law_296 : decode code 296 = .ok (.invokevirtual 33, 3) := by decide +kernel
theorem d_L_law_299 : decode code 299 = .ok (.if_icmp .eq 529, 3) := by decide +kernel
theorem d_L_law_302 : decode code 302 = .ok (.iconst 0, 1) := by decide +kernel
theorem d_L_law_303 : decode code 303 = .ok (.ireturn, 1) := by decide +kernel
theorem d_L_law_304 : decode code 304 = .ok (.aload_n 1, 1) := by decide +kernel
theorem d_L_law_305 : decode code 305 = .ok (.aload_n 0, 1) := by decide +kernel
theorem d_L_law_306 : decode code 306 = .ok (.iload_n 3, 1) := by decide +kernel
theorem d_L_law_307 : decode code 307 = .ok (.iconst 1, 1) := by decide +kernel
theorem d_L_law_308 : decode code 308 = .ok (.iadd, 1) := by decide +kernel
theorem d_L_law_309 : decode code 309 = .ok (.iaload, 1) := by decide +kernel
theorem d_L_law_310 : decode code 310 = .ok (.aload_n 0, 1) := by decide +kernel
theorem d_L_law_311 : decode code 311 = .ok (.iload_n 3, 1) := by decide +kernel
theorem d_L_law_312 : decode code 312 = .ok (.iconst 2, 1) := by decide +kernel
theorem d_L_law_313 : decode code 313 = .ok (.iadd, 1) := by decide +kernel
theorem d_L_law_314 : decode code 314 = .ok (.iaload, 1) := by decide +kernel
theorem d_L_law_315 : decode code 315 = .ok (.invokevirtual 34, 3) := by decide +kernel
theorem d_L_law_318 : decode code 318 = .ok (.aload_n 2, 1) := by decide +kernel
theorem d_L_law_319 : decode code 319 = .ok (.aload_n 0, 1) := by decide +kernel
theorem d_L_law_320 : decode code 320 = .ok (.iload_n 3, 1) := by decide +kernel
theorem d_L_law_321 : decode code 321 = .ok (.iconst 1, 1) := by decide +kernel
theorem d_L_law_322 : decode code 322 = .ok (.iadd, 1) := by decide +kernel
theorem d_L_law_323 : decode code 323 = .ok (.iaload, 1) := by decide +kernel
theorem d_L_law_324 : decode code 324 = .ok (.aload_n 0, 1) := by decide +kernel
theorem d_L_law_325 : decode code 325 = .ok (.iload_n 3, 1) := by decide +kernel
theorem d_L_law_326 : decode code 326 = .ok (.iconst 2, 1) := by decide +kernel
theorem d_L_law_327 : decode code 327 = .ok (.iadd, 1) := by decide +kernel
theorem d_L_law_328 : decode code 328 = .ok (.iaload, 1) := by decide +kernel
theorem d_L_law_329 : decode code 329 = .ok (.invokevirtual 37, 3) := by decide +kernel
theorem d_L_law_332 : decode code 332 = .ok (.if_icmp .eq 496, 3) := by decide +kernel
theorem d_L_law_335 : decode code 335 = .ok (.iconst 0, 1) := by decide +kernel
theorem d_L_law_336 : decode code 336 = .ok (.ireturn, 1) := by decide +kernel
theorem d_L_law_337 : decode code 337 = .ok (.aload_n 1, 1) := by decide +kernel
theorem d_L_law_338 : decode code 338 = .ok (.aload_n 0, 1) := by decide +kernel
theorem d_L_law_339 : decode code 339 = .ok (.iload_n 3, 1) := by decide +kernel
theorem d_L_law_340 : decode code 340 = .ok (.iconst 1, 1) := by decide +kernel
theorem d_L_law_341 : decode code 341 = .ok (.iadd, 1) := by decide +kernel
theorem d_L_law_342 : decode code 342 = .ok (.iaload, 1) := by decide +kernel
theorem d_L_law_343 : decode code 343 = .ok (.aload_n 0, 1) := by decide +kernel
theorem d_L_law_344 : decode code 344 = .ok (.iload_n 3, 1) := by decide +kernel
theorem d_L_law_345 : decode code 345 = .ok (.iconst 2, 1) := by decide +kernel
theorem d_L_law_346 : decode code 346 = .ok (.iadd, 1) := by decide +kernel
theorem d_L_law_347 : decode code 347 = .ok (.iaload, 1) := by decide +kernel
theorem d_L_law_348 : decode code 348 = .ok (.invokevirtual 38, 3) := by decide +kernel
theorem d_L_law_351 : decode code 351 = .ok (.aload_n 2, 1) := by decide +kernel
theorem d_L_law_352 : decode code 352 = .ok (.aload_n 0, 1) := by decide +kernel
theorem d_L_law_353 : decode code 353 = .ok (.iload_n 3, 1) := by decide +kernel
theorem d_L_law_354 : decode code 354 = .ok (.iconst 1, 1) := by decide +kernel
theorem d_L_law_355 : decode code 355 = .ok (.iadd, 1) := by decide +kernel
theorem d_L_law_356 : decode code 356 = .ok (.iaload, 1) := by decide +kernel
theorem d_L_law_357 : decode code 357 = .ok (.aload_n 0, 1) := by decide +kernel
theorem d_L_law_358 : decode code 358 = .ok (.iload_n 3, 1) := by decide +kernel
theorem d_L_law_359 : decode code 359 = .ok (.iconst 2, 1) := by decide +kernel
theorem d_L_law_360 : decode code 360 = .ok (.iadd, 1) := by decide +kernel
theorem d_L_law_361 : decode code 361 = .ok (.iaload, 1) := by decide +kernel
theorem d_L_law_362 : decode code 362 = .ok (.invokevirtual 41, 3) := by decide +kernel
theorem d_L_law_365 : decode code 365 = .ok (.if_icmp .eq 463, 3) := by decide +kernel
theorem d_L_law_368 : decode code 368 = .ok (.iconst 0, 1) := by decide +kernel
theorem d_L_law_369 : decode code 369 = .ok (.ireturn, 1) := by decide +kernel
theorem d_L_law_370 : decode code 370 = .ok (.aload_n 1, 1) := by decide +kernel
theorem d_L_law_371 : decode code 371 = .ok (.aload_n 0, 1) := by decide +kernel
theorem d_L_law_372 : decode code 372 = .ok (.iload_n 3, 1) := by decide +kernel
theorem d_L_law_373 : decode code 373 = .ok (.iconst 1, 1) := by decide +kernel
theorem d_L_law_374 : decode code 374 = .ok (.iadd, 1) := by decide +kernel
theorem d_L_law_375 : decode code 375 = .ok (.iaload, 1) := by decide +kernel
theorem d_L_law_376 : decode code 376 = .ok (.aload_n 0, 1) := by decide +kernel
theorem d_L_law_377 : decode code 377 = .ok (.iload_n 3, 1) := by decide +kernel
theorem d_L_law_378 : decode code 378 = .ok (.iconst 2, 1) := by decide +kernel
theorem d_L_law_379 : decode code 379 = .ok (.iadd, 1) := by decide +kernel
theorem d_L_law_380 : decode code 380 = .ok (.iaload, 1) := by decide +kernel
theorem d_L_law_381 : decode code 381 = .ok (.invokevirtual 42, 3) := by decide +kernel
theorem d_L_law_384 : decode code 384 = .ok (.aload_n 2, 1) := by decide +kernel
theorem d_L_law_385 : decode code 385 = .ok (.aload_n 0, 1) := by decide +kernel
theorem d_L_law_386 : decode code 386 = .ok (.iload_n 3, 1) := by decide +kernel
theorem d_L_law_387 : decode code 387 = .ok (.iconst 1, 1) := by decide +kernel
theorem d_L_law_388 : decode code 388 = .ok (.iadd, 1) := by decide +kernel
theorem d_L_law_389 : decode code 389 = .ok (.iaload, 1) := by decide +kernel
theorem d_L_law_390 : decode code 390 = .ok (.aload_n 0, 1) := by decide +kernel
theorem d_L_law_391 : decode code 391 = .ok (.iload_n 3, 1) := by decide +kernel
theorem d_L_law_392 : decode code 392 = .ok (.iconst 2, 1) := by decide +kernel
theorem d_L_law_393 : decode code 393 = .ok (.iadd, 1) := by decide +kernel
theorem d_L_law_394 : decode code 394 = .ok (.iaload, 1) := by decide +kernel
theorem d_L_law_395 : decode code 395 = .ok (.invokevirtual 46, 3) := by decide +kernel
theorem d_L_law_398 : decode code 398 = .ok (.if_icmp .eq 430, 3) := by decide +kernel
theorem d_L_law_401 : decode code 401 = .ok (.iconst 0, 1) := by decide +kernel
theorem d_L_law_402 : decode code 402 = .ok (.ireturn, 1) := by decide +kernel
theorem d_L_law_403 : decode code 403 = .ok (.aload_n 1, 1) := by decide +kernel
theorem d_L_law_404 : decode code 404 = .ok (.aload_n 0, 1) := by decide +kernel
theorem d_L_law_405 : decode code 405 = .ok (.iload_n 3, 1) := by decide +kernel
theorem d_L_law_406 : decode code 406 = .ok (.iconst 1, 1) := by decide +kernel
theorem d_L_law_407 : decode code 407 = .ok (.iadd, 1) := by decide +kernel
theorem d_L_law_408 : decode code 408 = .ok (.iaload, 1) := by decide +kernel
theorem d_L_law_409 : decode code 409 = .ok (.aload_n 0, 1) := by decide +kernel
theorem d_L_law_410 : decode code 410 = .ok (.iload_n 3, 1) := by decide +kernel
theorem d_L_law_411 : decode code 411 = .ok (.iconst 2, 1) := by decide +kernel
theorem d_L_law_412 : decode code 412 = .ok (.iadd, 1) := by decide +kernel
theorem d_L_law_413 : decode code 413 = .ok (.iaload, 1) := by decide +kernel
theorem d_L_law_414 : decode code 414 = .ok (.invokevirtual 47, 3) := by decide +kernel
theorem d_L_law_417 : decode code 417 = .ok (.aload_n 2, 1) := by decide +kernel
theorem d_L_law_418 : decode code 418 = .ok (.aload_n 0, 1) := by decide +kernel
theorem d_L_law_419 : decode code 419 = .ok (.iload_n 3, 1) := by decide +kernel
theorem d_L_law_420 : decode code 420 = .ok (.iconst 1, 1) := by decide +kernel
theorem d_L_law_421 : decode code 421 = .ok (.iadd, 1) := by decide +kernel
theorem d_L_law_422 : decode code 422 = .ok (.iaload, 1) := by decide +kernel
theorem d_L_law_423 : decode code 423 = .ok (.aload_n 0, 1) := by decide +kernel
theorem d_L_law_424 : decode code 424 = .ok (.iload_n 3, 1) := by decide +kernel
theorem d_L_law_425 : decode code 425 = .ok (.iconst 2, 1) := by decide +kernel
theorem d_L_law_426 : decode code 426 = .ok (.iadd, 1) := by decide +kernel
theorem d_L_law_427 : decode code 427 = .ok (.iaload, 1) := by decide +kernel
theorem d_L_law_428 : decode code 428 = .ok (.invokevirtual 50, 3) := by decide +kernel
theorem d_L_law_431 : decode code 431 = .ok (.if_icmp .eq 397, 3) := by decide +kernel
theorem d_L_law_434 : decode code 434 = .ok (.iconst 0, 1) := by decide +kernel
theorem d_L_law_435 : decode code 435 = .ok (.ireturn, 1) := by decide +kernel
theorem d_L_law_436 : decode code 436 = .ok (.aload_n 1, 1) := by decide +kernel
theorem d_L_law_437 : decode code 437 = .ok (.aload_n 0, 1) := by decide +kernel
theorem d_L_law_438 : decode code 438 = .ok (.iload_n 3, 1) := by decide +kernel
theorem d_L_law_439 : decode code 439 = .ok (.iconst 1, 1) := by decide +kernel
theorem d_L_law_440 : decode code 440 = .ok (.iadd, 1) := by decide +kernel
theorem d_L_law_441 : decode code 441 = .ok (.iaload, 1) := by decide +kernel
theorem d_L_law_442 : decode code 442 = .ok (.aload_n 0, 1) := by decide +kernel
theorem d_L_law_443 : decode code 443 = .ok (.iload_n 3, 1) := by decide +kernel
theorem d_L_law_444 : decode code 444 = .ok (.iconst 2, 1) := by decide +kernel
theorem d_L_law_445 : decode code 445 = .ok (.iadd, 1) := by decide +kernel
theorem d_L_law_446 : decode code 446 = .ok (.iaload, 1) := by decide +kernel
theorem d_L_law_447 : decode code 447 = .ok (.invokevirtual 51, 3) := by decide +kernel
theorem d_L_law_450 : decode code 450 = .ok (.aload_n 2, 1) := by decide +kernel
theorem d_L_law_451 : decode code 451 = .ok (.aload_n 0, 1) := by decide +kernel
theorem d_L_law_452 : decode code 452 = .ok (.iload_n 3, 1) := by decide +kernel
theorem d_L_law_453 : decode code 453 = .ok (.iconst 1, 1) := by decide +kernel
theorem d_L_law_454 : decode code 454 = .ok (.iadd, 1) := by decide +kernel
theorem d_L_law_455 : decode code 455 = .ok (.iaload, 1) := by decide +kernel
theorem d_L_law_456 : decode code 456 = .ok (.aload_n 0, 1) := by decide +kernel
theorem d_L_law_457 : decode code 457 = .ok (.iload_n 3, 1) := by decide +kernel
theorem d_L_law_458 : decode code 458 = .ok (.iconst 2, 1) := by decide +kernel
theorem d_L_law_459 : decode code 459 = .ok (.iadd, 1) := by decide +kernel
theorem d_L_law_460 : decode code 460 = .ok (.iaload, 1) := by decide +kernel
theorem d_L_law_461 : decode code 461 = .ok (.invokevirtual 54, 3) := by decide +kernel
theorem d_L_law_464 : decode code 464 = .ok (.if_icmp .eq 364, 3) := by decide +kernel
theorem d_L_law_467 : decode code 467 = .ok (.iconst 0, 1) := by decide +kernel
theorem d_L_law_468 : decode code 468 = .ok (.ireturn, 1) := by decide +kernel
theorem d_L_law_469 : decode code 469 = .ok (.aload_n 1, 1) := by decide +kernel
theorem d_L_law_470 : decode code 470 = .ok (.aload_n 0, 1) := by decide +kernel
theorem d_L_law_471 : decode code 471 = .ok (.iload_n 3, 1) := by decide +kernel
theorem d_L_law_472 : decode code 472 = .ok (.iconst 1, 1) := by decide +kernel
theorem d_L_law_473 : decode code 473 = .ok (.iadd, 1) := by decide +kernel
theorem d_L_law_474 : decode code 474 = .ok (.iaload, 1) := by decide +kernel
theorem d_L_law_475 : decode code 475 = .ok (.aload_n 0, 1) := by decide +kernel
theorem d_L_law_476 : decode code 476 = .ok (.iload_n 3, 1) := by decide +kernel
theorem d_L_law_477 : decode code 477 = .ok (.iconst 2, 1) := by decide +kernel
theorem d_L_law_478 : decode code 478 = .ok (.iadd, 1) := by decide +kernel
theorem d_L_law_479 : decode code 479 = .ok (.iaload, 1) := by decide +kernel
theorem d_L_law_480 : decode code 480 = .ok (.invokevirtual 55, 3) := by decide +kernel
theorem d_L_law_483 : decode code 483 = .ok (.aload_n 2, 1) := by decide +kernel
theorem d_L_law_484 : decode code 484 = .ok (.aload_n 0, 1) := by decide +kernel
theorem d_L_law_485 : decode code 485 = .ok (.iload_n 3, 1) := by decide +kernel
theorem d_L_law_486 : decode code 486 = .ok (.iconst 1, 1) := by decide +kernel
theorem d_L_law_487 : decode code 487 = .ok (.iadd, 1) := by decide +kernel
theorem d_L_law_488 : decode code 488 = .ok (.iaload, 1) := by decide +kernel
theorem d_L_law_489 : decode code 489 = .ok (.aload_n 0, 1) := by decide +kernel
theorem d_L_law_490 : decode code 490 = .ok (.iload_n 3, 1) := by decide +kernel
theorem d_L_law_491 : decode code 491 = .ok (.iconst 2, 1) := by decide +kernel
theorem d_L_law_492 : decode code 492 = .ok (.iadd, 1) := by decide +kernel
theorem d_L_law_493 : decode code 493 = .ok (.iaload, 1) := by decide +kernel
theorem d_L_law_494 : decode code 494 = .ok (.invokevirtual 58, 3) := by decide +kernel
theorem d_L_law_497 : decode code 497 = .ok (.if_icmp .eq 331, 3) := by decide +kernel
theorem d_L_law_500 : decode code 500 = .ok (.iconst 0, 1) := by decide +kernel
theorem d_L_law_501 : decode code 501 = .ok (.ireturn, 1) := by decide +kernel
theorem d_L_law_502 : decode code 502 = .ok (.aload_n 1, 1) := by decide +kernel
theorem d_L_law_503 : decode code 503 = .ok (.aload_n 0, 1) := by decide +kernel
theorem d_L_law_504 : decode code 504 = .ok (.iload_n 3, 1) := by decide +kernel
theorem d_L_law_505 : decode code 505 = .ok (.iconst 1, 1) := by decide +kernel
theorem d_L_law_506 : decode code 506 = .ok (.iadd, 1) := by decide +kernel
theorem d_L_law_507 : decode code 507 = .ok (.iaload, 1) := by decide +kernel
theorem d_L_law_508 : decode code 508 = .ok (.invokevirtual 59, 3) := by decide +kernel
theorem d_L_law_511 : decode code 511 = .ok (.aload_n 2, 1) := by decide +kernel
theorem d_L_law_512 : decode code 512 = .ok (.aload_n 0, 1) := by decide +kernel
theorem d_L_law_513 : decode code 513 = .ok (.iload_n 3, 1) := by decide +kernel
theorem d_L_law_514 : decode code 514 = .ok (.iconst 1, 1) := by decide +kernel
theorem d_L_law_515 : decode code 515 = .ok (.iadd, 1) := by decide +kernel
theorem d_L_law_516 : decode code 516 = .ok (.iaload, 1) := by decide +kernel
theorem d_L_law_517 : decode code 517 = .ok (.invokevirtual 62, 3) := by decide +kernel
theorem d_L_law_520 : decode code 520 = .ok (.if_icmp .eq 308, 3) := by decide +kernel
theorem d_L_law_523 : decode code 523 = .ok (.iconst 0, 1) := by decide +kernel
theorem d_L_law_524 : decode code 524 = .ok (.ireturn, 1) := by decide +kernel
theorem d_L_law_525 : decode code 525 = .ok (.aload_n 1, 1) := by decide +kernel
theorem d_L_law_526 : decode code 526 = .ok (.aload_n 0, 1) := by decide +kernel
theorem d_L_law_527 : decode code 527 = .ok (.iload_n 3, 1) := by decide +kernel
theorem d_L_law_528 : decode code 528 = .ok (.iconst 1, 1) := by decide +kernel
theorem d_L_law_529 : decode code 529 = .ok (.iadd, 1) := by decide +kernel
theorem d_L_law_530 : decode code 530 = .ok (.iaload, 1) := by decide +kernel
theorem d_L_law_531 : decode code 531 = .ok (.aload_n 0, 1) := by decide +kernel
theorem d_L_law_532 : decode code 532 = .ok (.iload_n 3, 1) := by decide +kernel
theorem d_L_law_533 : decode code 533 = .ok (.iconst 2, 1) := by decide +kernel
theorem d_L_law_534 : decode code 534 = .ok (.iadd, 1) := by decide +kernel
theorem d_L_law_535 : decode code 535 = .ok (.iaload, 1) := by decide +kernel
theorem d_L_law_536 : decode code 536 = .ok (.invokevirtual 63, 3) := by decide +kernel
theorem d_L_law_539 : decode code 539 = .ok (.aload_n 2, 1) := by decide +kernel
theorem d_L_law_540 : decode code 540 = .ok (.aload_n 0, 1) := by decide +kernel
theorem d_L_law_541 : decode code 541 = .ok (.iload_n 3, 1) := by decide +kernel
theorem d_L_law_542 : decode code 542 = .ok (.iconst 1, 1) := by decide +kernel
theorem d_L_law_543 : decode code 543 = .ok (.iadd, 1) := by decide +kernel
theorem d_L_law_544 : decode code 544 = .ok (.iaload, 1) := by decide +kernel
theorem d_L_law_545 : decode code 545 = .ok (.aload_n 0, 1) := by decide +kernel
theorem d_L_law_546 : decode code 546 = .ok (.iload_n 3, 1) := by decide +kernel
theorem d_L_law_547 : decode code 547 = .ok (.iconst 2, 1) := by decide +kernel
theorem d_L_law_548 : decode code 548 = .ok (.iadd, 1) := by decide +kernel
theorem d_L_law_549 : decode code 549 = .ok (.iaload, 1) := by decide +kernel
theorem d_L_law_550 : decode code 550 = .ok (.invokevirtual 66, 3) := by decide +kernel
theorem d_L_law_553 : decode code 553 = .ok (.if_icmp .eq 275, 3) := by decide +kernel
theorem d_L_law_556 : decode code 556 = .ok (.iconst 0, 1) := by decide +kernel
theorem d_L_law_557 : decode code 557 = .ok (.ireturn, 1) := by decide +kernel
theorem d_L_law_558 : decode code 558 = .ok (.aload_n 1, 1) := by decide +kernel
theorem d_L_law_559 : decode code 559 = .ok (.aload_n 0, 1) := by decide +kernel
theorem d_L_law_560 : decode code 560 = .ok (.iload_n 3, 1) := by decide +kernel
theorem d_L_law_561 : decode code 561 = .ok (.iconst 1, 1) := by decide +kernel
theorem d_L_law_562 : decode code 562 = .ok (.iadd, 1) := by decide +kernel
theorem d_L_law_563 : decode code 563 = .ok (.iaload, 1) := by decide +kernel
theorem d_L_law_564 : decode code 564 = .ok (.invokevirtual 67, 3) := by decide +kernel
theorem d_L_law_567 : decode code 567 = .ok (.aload_n 2, 1) := by decide +kernel
theorem d_L_law_568 : decode code 568 = .ok (.aload_n 0, 1) := by decide +kernel
theorem d_L_law_569 : decode code 569 = .ok (.iload_n 3, 1) := by decide +kernel
theorem d_L_law_570 : decode code 570 = .ok (.iconst 1, 1) := by decide +kernel
theorem d_L_law_571 : decode code 571 = .ok (.iadd, 1) := by decide +kernel
theorem d_L_law_572 : decode code 572 = .ok (.iaload, 1) := by decide +kernel
theorem d_L_law_573 : decode code 573 = .ok (.invokevirtual 70, 3) := by decide +kernel
theorem d_L_law_576 : decode code 576 = .ok (.if_icmp .eq 252, 3) := by decide +kernel
theorem d_L_law_579 : decode code 579 = .ok (.iconst 0, 1) := by decide +kernel
theorem d_L_law_580 : decode code 580 = .ok (.ireturn, 1) := by decide +kernel
theorem d_L_law_581 : decode code 581 = .ok (.aload_n 1, 1) := by decide +kernel
theorem d_L_law_582 : decode code 582 = .ok (.aload_n 0, 1) := by decide +kernel
theorem d_L_law_583 : decode code 583 = .ok (.iload_n 3, 1) := by decide +kernel
theorem d_L_law_584 : decode code 584 = .ok (.iconst 1, 1) := by decide +kernel
theorem d_L_law_585 : decode code 585 = .ok (.iadd, 1) := by decide +kernel
theorem d_L_law_586 : decode code 586 = .ok (.iaload, 1) := by decide +kernel
theorem d_L_law_587 : decode code 587 = .ok (.aload_n 0, 1) := by decide +kernel
theorem d_L_law_588 : decode code 588 = .ok (.iload_n 3, 1) := by decide +kernel
theorem d_L_law_589 : decode code 589 = .ok (.iconst 2, 1) := by decide +kernel
theorem d_L_law_590 : decode code 590 = .ok (.iadd, 1) := by decide +kernel
theorem d_L_law_591 : decode code 591 = .ok (.iaload, 1) := by decide +kernel
theorem d_L_law_592 : decode code 592 = .ok (.invokevirtual 71, 3) := by decide +kernel
theorem d_L_law_595 : decode code 595 = .ok (.aload_n 2, 1) := by decide +kernel
theorem d_L_law_596 : decode code 596 = .ok (.aload_n 0, 1) := by decide +kernel
theorem d_L_law_597 : decode code 597 = .ok (.iload_n 3, 1) := by decide +kernel
theorem d_L_law_598 : decode code 598 = .ok (.iconst 1, 1) := by decide +kernel
theorem d_L_law_599 : decode code 599 = .ok (.iadd, 1) := by decide +kernel
theorem d_L_law_600 : decode code 600 = .ok (.iaload, 1) := by decide +kernel
theorem d_L_law_601 : decode code 601 = .ok (.aload_n 0, 1) := by decide +kernel
theorem d_L_law_602 : decode code 602 = .ok (.iload_n 3, 1) := by decide +kernel
theorem d_L_law_603 : decode code 603 = .ok (.iconst 2, 1) := by decide +kernel
theorem d_L_law_604 : decode code 604 = .ok (.iadd, 1) := by decide +kernel
theorem d_L_law_605 : decode code 605 = .ok (.iaload, 1) := by decide +kernel
theorem d_L_law_606 : decode code 606 = .ok (.invokevirtual 74, 3) := by decide +kernel
theorem d_L_law_609 : decode code 609 = .ok (.if_icmp .eq 219, 3) := by decide +kernel
theorem d_L_law_612 : decode code 612 = .ok (.iconst 0, 1) := by decide +kernel
theorem d_L_law_613 : decode code 613 = .ok (.ireturn, 1) := by decide +kernel
theorem d_L_law_614 : decode code 614 = .ok (.aload_n 1, 1) := by decide +kernel
theorem d_L_law_615 : decode code 615 = .ok (.aload_n 0, 1) := by decide +kernel
theorem d_L_law_616 : decode code 616 = .ok (.iload_n 3, 1) := by decide +kernel
theorem d_L_law_617 : decode code 617 = .ok (.iconst 1, 1) := by decide +kernel
theorem d_L_law_618 : decode code 618 = .ok (.iadd, 1) := by decide +kernel
theorem d_L_law_619 : decode code 619 = .ok (.iaload, 1) := by decide +kernel
theorem d_L_law_620 : decode code 620 = .ok (.aload_n 0, 1) := by decide +kernel
theorem d_L_law_621 : decode code 621 = .ok (.iload_n 3, 1) := by decide +kernel
theorem d_L_law_622 : decode code 622 = .ok (.iconst 2, 1) := by decide +kernel
theorem d_L_law_623 : decode code 623 = .ok (.iadd, 1) := by decide +kernel
theorem d_L_law_624 : decode code 624 = .ok (.iaload, 1) := by decide +kernel
theorem d_L_law_625 : decode code 625 = .ok (.invokevirtual 75, 3) := by decide +kernel
theorem d_L_law_628 : decode code 628 = .ok (.aload_n 2, 1) := by decide +kernel
theorem d_L_law_629 : decode code 629 = .ok (.aload_n 0, 1) := by decide +kernel
theorem d_L_law_630 : decode code 630 = .ok (.iload_n 3, 1) := by decide +kernel
theorem d_L_law_631 : decode code 631 = .ok (.iconst 1, 1) := by decide +kernel
theorem d_L_law_632 : decode code 632 = .ok (.iadd, 1) := by decide +kernel
theorem d_L_law_633 : decode code 633 = .ok (.iaload, 1) := by decide +kernel
theorem d_L_law_634 : decode code 634 = .ok (.aload_n 0, 1) := by decide +kernel
theorem d_L_law_635 : decode code 635 = .ok (.iload_n 3, 1) := by decide +kernel
theorem d_L_law_636 : decode code 636 = .ok (.iconst 2, 1) := by decide +kernel
theorem d_L_law_637 : decode code 637 = .ok (.iadd, 1) := by decide +kernel
theorem d_L_law_638 : decode code 638 = .ok (.iaload, 1) := by decide +kernel
theorem d_L_law_639 : decode code 639 = .ok (.invokevirtual 78, 3) := by decide +kernel
theorem d_L_law_642 : decode code 642 = .ok (.if_icmp .eq 186, 3) := by decide +kernel
theorem d_L_law_645 : decode code 645 = .ok (.iconst 0, 1) := by decide +kernel
theorem d_L_law_646 : decode code 646 = .ok (.ireturn, 1) := by decide +kernel
theorem d_L_law_647 : decode code 647 = .ok (.aload_n 1, 1) := by decide +kernel
theorem d_L_law_648 : decode code 648 = .ok (.invokevirtual 79, 3) := by decide +kernel
theorem d_L_law_651 : decode code 651 = .ok (.aload_n 2, 1) := by decide +kernel
theorem d_L_law_652 : decode code 652 = .ok (.invokevirtual 83, 3) := by decide +kernel
theorem d_L_law_655 : decode code 655 = .ok (.if_icmp .eq 173, 3) := by decide +kernel
theorem d_L_law_658 : decode code 658 = .ok (.iconst 0, 1) := by decide +kernel
theorem d_L_law_659 : decode code 659 = .ok (.ireturn, 1) := by decide +kernel
theorem d_L_law_660 : decode code 660 = .ok (.aload_n 1, 1) := by decide +kernel
theorem d_L_law_661 : decode code 661 = .ok (.aload_n 0, 1) := by decide +kernel
theorem d_L_law_662 : decode code 662 = .ok (.iload_n 3, 1) := by decide +kernel
theorem d_L_law_663 : decode code 663 = .ok (.iconst 1, 1) := by decide +kernel
theorem d_L_law_664 : decode code 664 = .ok (.iadd, 1) := by decide +kernel
theorem d_L_law_665 : decode code 665 = .ok (.iaload, 1) := by decide +kernel
theorem d_L_law_666 : decode code 666 = .ok (.aload_n 0, 1) := by decide +kernel
theorem d_L_law_667 : decode code 667 = .ok (.iload_n 3, 1) := by decide +kernel
theorem d_L_law_668 : decode code 668 = .ok (.iconst 2, 1) := by decide +kernel
theorem d_L_law_669 : decode code 669 = .ok (.iadd, 1) := by decide +kernel
theorem d_L_law_670 : decode code 670 = .ok (.iaload, 1) := by decide +kernel
theorem d_L_law_671 : decode code 671 = .ok (.invokevirtual 84, 3) := by decide +kernel
theorem d_L_law_674 : decode code 674 = .ok (.aload_n 2, 1) := by decide +kernel
theorem d_L_law_675 : decode code 675 = .ok (.aload_n 0, 1) := by decide +kernel
theorem d_L_law_676 : decode code 676 = .ok (.iload_n 3, 1) := by decide +kernel
theorem d_L_law_677 : decode code 677 = .ok (.iconst 1, 1) := by decide +kernel
theorem d_L_law_678 : decode code 678 = .ok (.iadd, 1) := by decide +kernel
theorem d_L_law_679 : decode code 679 = .ok (.iaload, 1) := by decide +kernel
theorem d_L_law_680 : decode code 680 = .ok (.aload_n 0, 1) := by decide +kernel
theorem d_L_law_681 : decode code 681 = .ok (.iload_n 3, 1) := by decide +kernel
theorem d_L_law_682 : decode code 682 = .ok (.iconst 2, 1) := by decide +kernel
theorem d_L_law_683 : decode code 683 = .ok (.iadd, 1) := by decide +kernel
theorem d_L_law_684 : decode code 684 = .ok (.iaload, 1) := by decide +kernel
theorem d_L_law_685 : decode code 685 = .ok (.invokevirtual 87, 3) := by decide +kernel
theorem d_L_law_688 : decode code 688 = .ok (.if_icmp .eq 140, 3) := by decide +kernel
theorem d_L_law_691 : decode code 691 = .ok (.iconst 0, 1) := by decide +kernel
theorem d_L_law_692 : decode code 692 = .ok (.ireturn, 1) := by decide +kernel
theorem d_L_law_693 : decode code 693 = .ok (.aload_n 1, 1) := by decide +kernel
theorem d_L_law_694 : decode code 694 = .ok (.aload_n 0, 1) := by decide +kernel
theorem d_L_law_695 : decode code 695 = .ok (.iload_n 3, 1) := by decide +kernel
theorem d_L_law_696 : decode code 696 = .ok (.iconst 1, 1) := by decide +kernel
theorem d_L_law_697 : decode code 697 = .ok (.iadd, 1) := by decide +kernel
theorem d_L_law_698 : decode code 698 = .ok (.iaload, 1) := by decide +kernel
theorem d_L_law_699 : decode code 699 = .ok (.aload_n 0, 1) := by decide +kernel
theorem d_L_law_700 : decode code 700 = .ok (.iload_n 3, 1) := by decide +kernel
theorem d_L_law_701 : decode code 701 = .ok (.iconst 2, 1) := by decide +kernel
theorem d_L_law_702 : decode code 702 = .ok (.iadd, 1) := by decide +kernel
theorem d_L_law_703 : decode code 703 = .ok (.iaload, 1) := by decide +kernel
theorem d_L_law_704 : decode code 704 = .ok (.invokevirtual 88, 3) := by decide +kernel
theorem d_L_law_707 : decode code 707 = .ok (.aload_n 2, 1) := by decide +kernel
theorem d_L_law_708 : decode code 708 = .ok (.aload_n 0, 1) := by decide +kernel
theorem d_L_law_709 : decode code 709 = .ok (.iload_n 3, 1) := by decide +kernel
theorem d_L_law_710 : decode code 710 = .ok (.iconst 1, 1) := by decide +kernel
theorem d_L_law_711 : decode code 711 = .ok (.iadd, 1) := by decide +kernel
theorem d_L_law_712 : decode code 712 = .ok (.iaload, 1) := by decide +kernel
theorem d_L_law_713 : decode code 713 = .ok (.aload_n 0, 1) := by decide +kernel
theorem d_L_law_714 : decode code 714 = .ok (.iload_n 3, 1) := by decide +kernel
theorem d_L_law_715 : decode code 715 = .ok (.iconst 2, 1) := by decide +kernel
theorem d_L_law_716 : decode code 716 = .ok (.iadd, 1) := by decide +kernel
theorem d_L_law_717 : decode code 717 = .ok (.iaload, 1) := by decide +kernel
theorem d_L_law_718 : decode code 718 = .ok (.invokevirtual 92, 3) := by decide +kernel
theorem d_L_law_721 : decode code 721 = .ok (.lcmp, 1) := by decide +kernel
theorem d_L_law_722 : decode code 722 = .ok (.ifCond .eq 106, 3) := by decide +kernel
theorem d_L_law_725 : decode code 725 = .ok (.iconst 0, 1) := by decide +kernel
theorem d_L_law_726 : decode code 726 = .ok (.ireturn, 1) := by decide +kernel
theorem d_L_law_727 : decode code 727 = .ok (.aload_n 1, 1) := by decide +kernel
theorem d_L_law_728 : decode code 728 = .ok (.aload_n 0, 1) := by decide +kernel
theorem d_L_law_729 : decode code 729 = .ok (.iload_n 3, 1) := by decide +kernel
theorem d_L_law_730 : decode code 730 = .ok (.iconst 1, 1) := by decide +kernel
theorem d_L_law_731 : decode code 731 = .ok (.iadd, 1) := by decide +kernel
theorem d_L_law_732 : decode code 732 = .ok (.iaload, 1) := by decide +kernel
theorem d_L_law_733 : decode code 733 = .ok (.aload_n 0, 1) := by decide +kernel
theorem d_L_law_734 : decode code 734 = .ok (.iload_n 3, 1) := by decide +kernel
theorem d_L_law_735 : decode code 735 = .ok (.iconst 2, 1) := by decide +kernel
theorem d_L_law_736 : decode code 736 = .ok (.iadd, 1) := by decide +kernel
theorem d_L_law_737 : decode code 737 = .ok (.iaload, 1) := by decide +kernel
theorem d_L_law_738 : decode code 738 = .ok (.invokevirtual 93, 3) := by decide +kernel
theorem d_L_law_741 : decode code 741 = .ok (.aload_n 2, 1) := by decide +kernel
theorem d_L_law_742 : decode code 742 = .ok (.aload_n 0, 1) := by decide +kernel
theorem d_L_law_743 : decode code 743 = .ok (.iload_n 3, 1) := by decide +kernel
theorem d_L_law_744 : decode code 744 = .ok (.iconst 1, 1) := by decide +kernel
theorem d_L_law_745 : decode code 745 = .ok (.iadd, 1) := by decide +kernel
theorem d_L_law_746 : decode code 746 = .ok (.iaload, 1) := by decide +kernel
theorem d_L_law_747 : decode code 747 = .ok (.aload_n 0, 1) := by decide +kernel
theorem d_L_law_748 : decode code 748 = .ok (.iload_n 3, 1) := by decide +kernel
theorem d_L_law_749 : decode code 749 = .ok (.iconst 2, 1) := by decide +kernel
theorem d_L_law_750 : decode code 750 = .ok (.iadd, 1) := by decide +kernel
theorem d_L_law_751 : decode code 751 = .ok (.iaload, 1) := by decide +kernel
theorem d_L_law_752 : decode code 752 = .ok (.invokevirtual 96, 3) := by decide +kernel
theorem d_L_law_755 : decode code 755 = .ok (.lcmp, 1) := by decide +kernel
theorem d_L_law_756 : decode code 756 = .ok (.ifCond .eq 72, 3) := by decide +kernel
theorem d_L_law_759 : decode code 759 = .ok (.iconst 0, 1) := by decide +kernel
theorem d_L_law_760 : decode code 760 = .ok (.ireturn, 1) := by decide +kernel
theorem d_L_law_761 : decode code 761 = .ok (.aload_n 1, 1) := by decide +kernel
theorem d_L_law_762 : decode code 762 = .ok (.aload_n 0, 1) := by decide +kernel
theorem d_L_law_763 : decode code 763 = .ok (.iload_n 3, 1) := by decide +kernel
theorem d_L_law_764 : decode code 764 = .ok (.iconst 1, 1) := by decide +kernel
theorem d_L_law_765 : decode code 765 = .ok (.iadd, 1) := by decide +kernel
theorem d_L_law_766 : decode code 766 = .ok (.iaload, 1) := by decide +kernel
theorem d_L_law_767 : decode code 767 = .ok (.aload_n 0, 1) := by decide +kernel
theorem d_L_law_768 : decode code 768 = .ok (.iload_n 3, 1) := by decide +kernel
theorem d_L_law_769 : decode code 769 = .ok (.iconst 2, 1) := by decide +kernel
theorem d_L_law_770 : decode code 770 = .ok (.iadd, 1) := by decide +kernel
theorem d_L_law_771 : decode code 771 = .ok (.iaload, 1) := by decide +kernel
theorem d_L_law_772 : decode code 772 = .ok (.invokevirtual 97, 3) := by decide +kernel
theorem d_L_law_775 : decode code 775 = .ok (.aload_n 2, 1) := by decide +kernel
theorem d_L_law_776 : decode code 776 = .ok (.aload_n 0, 1) := by decide +kernel
theorem d_L_law_777 : decode code 777 = .ok (.iload_n 3, 1) := by decide +kernel
theorem d_L_law_778 : decode code 778 = .ok (.iconst 1, 1) := by decide +kernel
theorem d_L_law_779 : decode code 779 = .ok (.iadd, 1) := by decide +kernel
theorem d_L_law_780 : decode code 780 = .ok (.iaload, 1) := by decide +kernel
theorem d_L_law_781 : decode code 781 = .ok (.aload_n 0, 1) := by decide +kernel
theorem d_L_law_782 : decode code 782 = .ok (.iload_n 3, 1) := by decide +kernel
theorem d_L_law_783 : decode code 783 = .ok (.iconst 2, 1) := by decide +kernel
theorem d_L_law_784 : decode code 784 = .ok (.iadd, 1) := by decide +kernel
theorem d_L_law_785 : decode code 785 = .ok (.iaload, 1) := by decide +kernel
theorem d_L_law_786 : decode code 786 = .ok (.invokevirtual 100, 3) := by decide +kernel
theorem d_L_law_789 : decode code 789 = .ok (.lcmp, 1) := by decide +kernel
theorem d_L_law_790 : decode code 790 = .ok (.ifCond .eq 38, 3) := by decide +kernel
theorem d_L_law_793 : decode code 793 = .ok (.iconst 0, 1) := by decide +kernel
theorem d_L_law_794 : decode code 794 = .ok (.ireturn, 1) := by decide +kernel
theorem d_L_law_795 : decode code 795 = .ok (.aload_n 1, 1) := by decide +kernel
theorem d_L_law_796 : decode code 796 = .ok (.aload_n 0, 1) := by decide +kernel
theorem d_L_law_797 : decode code 797 = .ok (.iload_n 3, 1) := by decide +kernel
theorem d_L_law_798 : decode code 798 = .ok (.iconst 1, 1) := by decide +kernel
theorem d_L_law_799 : decode code 799 = .ok (.iadd, 1) := by decide +kernel
theorem d_L_law_800 : decode code 800 = .ok (.iaload, 1) := by decide +kernel
theorem d_L_law_801 : decode code 801 = .ok (.aload_n 0, 1) := by decide +kernel
theorem d_L_law_802 : decode code 802 = .ok (.iload_n 3, 1) := by decide +kernel
theorem d_L_law_803 : decode code 803 = .ok (.iconst 2, 1) := by decide +kernel
theorem d_L_law_804 : decode code 804 = .ok (.iadd, 1) := by decide +kernel
theorem d_L_law_805 : decode code 805 = .ok (.iaload, 1) := by decide +kernel
theorem d_L_law_806 : decode code 806 = .ok (.invokevirtual 101, 3) := by decide +kernel
theorem d_L_law_809 : decode code 809 = .ok (.aload_n 2, 1) := by decide +kernel
theorem d_L_law_810 : decode code 810 = .ok (.aload_n 0, 1) := by decide +kernel
theorem d_L_law_811 : decode code 811 = .ok (.iload_n 3, 1) := by decide +kernel
theorem d_L_law_812 : decode code 812 = .ok (.iconst 1, 1) := by decide +kernel
theorem d_L_law_813 : decode code 813 = .ok (.iadd, 1) := by decide +kernel
theorem d_L_law_814 : decode code 814 = .ok (.iaload, 1) := by decide +kernel
theorem d_L_law_815 : decode code 815 = .ok (.aload_n 0, 1) := by decide +kernel
theorem d_L_law_816 : decode code 816 = .ok (.iload_n 3, 1) := by decide +kernel
theorem d_L_law_817 : decode code 817 = .ok (.iconst 2, 1) := by decide +kernel
theorem d_L_law_818 : decode code 818 = .ok (.iadd, 1) := by decide +kernel
theorem d_L_law_819 : decode code 819 = .ok (.iaload, 1) := by decide +kernel
theorem d_L_law_820 : decode code 820 = .ok (.invokevirtual 104, 3) := by decide +kernel
theorem d_L_law_823 : decode code 823 = .ok (.if_icmp .eq 5, 3) := by decide +kernel
theorem d_L_law_826 : decode code 826 = .ok (.iconst 0, 1) := by decide +kernel
theorem d_L_law_827 : decode code 827 = .ok (.ireturn, 1) := by decide +kernel
theorem d_L_law_828 : decode code 828 = .ok (.iinc 3 6, 3) := by decide +kernel
theorem d_L_law_831 : decode code 831 = .ok (.goto (-813), 3) := by decide +kernel
theorem d_L_law_834 : decode code 834 = .ok (.iconst 1, 1) := by decide +kernel
theorem d_L_law_835 : decode code 835 = .ok (.ireturn, 1) := by decide +kernel
