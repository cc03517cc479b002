/-! Decode rows. (Printed by gen_names.py.) -/
theorem d_M_line_0 : decode prog_7_method_4_code 0 = .ok (.lload_n 0, 1) := by decide +kernel
theorem d_M_line_1 : decode prog_7_method_4_code 1 = .ok (.iconst 4, 1) := by decide +kernel
theorem d_M_line_2 : decode prog_7_method_4_code 2 = .ok (.iload_n 2, 1) := by decide +kernel
theorem d_M_line_3 : decode prog_7_method_4_code 3 = .ok (.imul, 1) := by decide +kernel
theorem d_M_line_4 : decode prog_7_method_4_code 4 = .ok (.lshr, 1) := by decide +kernel
theorem d_M_line_5 : decode prog_7_method_4_code 5 = .ok (.ldc2_w 64, 3) := by decide +kernel
theorem d_M_line_8 : decode prog_7_method_4_code 8 = .ok (.land, 1) := by decide +kernel
theorem d_M_line_9 : decode prog_7_method_4_code 9 = .ok (.l2i, 1) := by decide +kernel
theorem d_M_line_10 : decode prog_7_method_4_code 10 = .ok (.ireturn, 1) := by decide +kernel
theorem d_M_equal_0 : decode prog_7_method_7_code 0 = .ok (.iload_n 3, 1) := by decide +kernel
theorem d_M_equal_1 : decode prog_7_method_7_code 1 = .ok (.iload_n 2, 1) := by decide +kernel
theorem d_M_equal_2 : decode prog_7_method_7_code 2 = .ok (.isub, 1) := by decide +kernel
theorem d_M_equal_3 : decode prog_7_method_7_code 3 = .ok (.iload 7, 2) := by decide +kernel
theorem d_M_equal_5 : decode prog_7_method_7_code 5 = .ok (.iload 6, 2) := by decide +kernel
theorem d_M_equal_7 : decode prog_7_method_7_code 7 = .ok (.isub, 1) := by decide +kernel
theorem d_M_equal_8 : decode prog_7_method_7_code 8 = .ok (.if_icmp .ne 7, 3) := by decide +kernel
theorem d_M_equal_11 : decode prog_7_method_7_code 11 = .ok (.iconst 1, 1) := by decide +kernel
theorem d_M_equal_12 : decode prog_7_method_7_code 12 = .ok (.goto 4, 3) := by decide +kernel
theorem d_M_equal_15 : decode prog_7_method_7_code 15 = .ok (.iconst 0, 1) := by decide +kernel
theorem d_M_equal_16 : decode prog_7_method_7_code 16 = .ok (.istore 8, 2) := by decide +kernel
theorem d_M_equal_18 : decode prog_7_method_7_code 18 = .ok (.iconst 0, 1) := by decide +kernel
theorem d_M_equal_19 : decode prog_7_method_7_code 19 = .ok (.istore 9, 2) := by decide +kernel
theorem d_M_equal_21 : decode prog_7_method_7_code 21 = .ok (.iload 9, 2) := by decide +kernel
theorem d_M_equal_23 : decode prog_7_method_7_code 23 = .ok (.iload_n 3, 1) := by decide +kernel
theorem d_M_equal_24 : decode prog_7_method_7_code 24 = .ok (.iload_n 2, 1) := by decide +kernel
theorem d_M_equal_25 : decode prog_7_method_7_code 25 = .ok (.isub, 1) := by decide +kernel
theorem d_M_equal_26 : decode prog_7_method_7_code 26 = .ok (.if_icmp .ge 42, 3) := by decide +kernel
theorem d_M_equal_29 : decode prog_7_method_7_code 29 = .ok (.iload 8, 2) := by decide +kernel
theorem d_M_equal_31 : decode prog_7_method_7_code 31 = .ok (.ifCond .eq 37, 3) := by decide +kernel
theorem d_M_equal_34 : decode prog_7_method_7_code 34 = .ok (.lload_n 0, 1) := by decide +kernel
theorem d_M_equal_35 : decode prog_7_method_7_code 35 = .ok (.iload_n 2, 1) := by decide +kernel
theorem d_M_equal_36 : decode prog_7_method_7_code 36 = .ok (.iload 9, 2) := by decide +kernel
theorem d_M_equal_38 : decode prog_7_method_7_code 38 = .ok (.iadd, 1) := by decide +kernel
theorem d_M_equal_39 : decode prog_7_method_7_code 39 = .ok (.invokestatic 70, 3) := by decide +kernel
theorem d_M_equal_42 : decode prog_7_method_7_code 42 = .ok (.lload 4, 2) := by decide +kernel
theorem d_M_equal_44 : decode prog_7_method_7_code 44 = .ok (.iload 6, 2) := by decide +kernel
theorem d_M_equal_46 : decode prog_7_method_7_code 46 = .ok (.iload 9, 2) := by decide +kernel
theorem d_M_equal_48 : decode prog_7_method_7_code 48 = .ok (.iadd, 1) := by decide +kernel
theorem d_M_equal_49 : decode prog_7_method_7_code 49 = .ok (.invokestatic 70, 3) := by decide +kernel
theorem d_M_equal_52 : decode prog_7_method_7_code 52 = .ok (.if_icmp .ne 7, 3) := by decide +kernel
theorem d_M_equal_55 : decode prog_7_method_7_code 55 = .ok (.iconst 1, 1) := by decide +kernel
theorem d_M_equal_56 : decode prog_7_method_7_code 56 = .ok (.goto 4, 3) := by decide +kernel
theorem d_M_equal_59 : decode prog_7_method_7_code 59 = .ok (.iconst 0, 1) := by decide +kernel
theorem d_M_equal_60 : decode prog_7_method_7_code 60 = .ok (.istore 8, 2) := by decide +kernel
theorem d_M_equal_62 : decode prog_7_method_7_code 62 = .ok (.iinc 9 1, 3) := by decide +kernel
theorem d_M_equal_65 : decode prog_7_method_7_code 65 = .ok (.goto (-44), 3) := by decide +kernel
theorem d_M_equal_68 : decode prog_7_method_7_code 68 = .ok (.iload 8, 2) := by decide +kernel
theorem d_M_equal_70 : decode prog_7_method_7_code 70 = .ok (.ireturn, 1) := by decide +kernel
theorem d_M_take_0 : decode prog_7_method_8_code 0 = .ok (.iload_n 3, 1) := by decide +kernel
theorem d_M_take_1 : decode prog_7_method_8_code 1 = .ok (.istore 5, 2) := by decide +kernel
theorem d_M_take_3 : decode prog_7_method_8_code 3 = .ok (.iload 5, 2) := by decide +kernel
theorem d_M_take_5 : decode prog_7_method_8_code 5 = .ok (.iload 4, 2) := by decide +kernel
theorem d_M_take_7 : decode prog_7_method_8_code 7 = .ok (.if_icmp .ge 34, 3) := by decide +kernel
theorem d_M_take_10 : decode prog_7_method_8_code 10 = .ok (.aload_n 0, 1) := by decide +kernel
theorem d_M_take_11 : decode prog_7_method_8_code 11 = .ok (.getfield 56, 3) := by decide +kernel
theorem d_M_take_14 : decode prog_7_method_8_code 14 = .ok (.aload_n 0, 1) := by decide +kernel
theorem d_M_take_15 : decode prog_7_method_8_code 15 = .ok (.getfield 78, 3) := by decide +kernel
theorem d_M_take_18 : decode prog_7_method_8_code 18 = .ok (.lload_n 1, 1) := by decide +kernel
theorem d_M_take_19 : decode prog_7_method_8_code 19 = .ok (.iload 5, 2) := by decide +kernel
theorem d_M_take_21 : decode prog_7_method_8_code 21 = .ok (.invokestatic 70, 3) := by decide +kernel
theorem d_M_take_24 : decode prog_7_method_8_code 24 = .ok (.iastore, 1) := by decide +kernel
theorem d_M_take_25 : decode prog_7_method_8_code 25 = .ok (.aload_n 0, 1) := by decide +kernel
theorem d_M_take_26 : decode prog_7_method_8_code 26 = .ok (.dup, 1) := by decide +kernel
theorem d_M_take_27 : decode prog_7_method_8_code 27 = .ok (.getfield 78, 3) := by decide +kernel
theorem d_M_take_30 : decode prog_7_method_8_code 30 = .ok (.iconst 1, 1) := by decide +kernel
theorem d_M_take_31 : decode prog_7_method_8_code 31 = .ok (.iadd, 1) := by decide +kernel
theorem d_M_take_32 : decode prog_7_method_8_code 32 = .ok (.putfield 78, 3) := by decide +kernel
theorem d_M_take_35 : decode prog_7_method_8_code 35 = .ok (.iinc 5 1, 3) := by decide +kernel
theorem d_M_take_38 : decode prog_7_method_8_code 38 = .ok (.goto (-35), 3) := by decide +kernel
theorem d_M_take_41 : decode prog_7_method_8_code 41 = .ok (.return_, 1) := by decide +kernel
theorem d_M_putJoined_0 : decode prog_7_method_21_code 0 = .ok (.iconst 0, 1) := by decide +kernel
theorem d_M_putJoined_1 : decode prog_7_method_21_code 1 = .ok (.istore_n 2, 1) := by decide +kernel
theorem d_M_putJoined_2 : decode prog_7_method_21_code 2 = .ok (.iload_n 2, 1) := by decide +kernel
theorem d_M_putJoined_3 : decode prog_7_method_21_code 3 = .ok (.iconst 4, 1) := by decide +kernel
theorem d_M_putJoined_4 : decode prog_7_method_21_code 4 = .ok (.if_icmp .ge 25, 3) := by decide +kernel
theorem d_M_putJoined_7 : decode prog_7_method_21_code 7 = .ok (.aload_n 0, 1) := by decide +kernel
theorem d_M_putJoined_8 : decode prog_7_method_21_code 8 = .ok (.getfield 7, 3) := by decide +kernel
theorem d_M_putJoined_11 : decode prog_7_method_21_code 11 = .ok (.iconst 4, 1) := by decide +kernel
theorem d_M_putJoined_12 : decode prog_7_method_21_code 12 = .ok (.iload_n 1, 1) := by decide +kernel
theorem d_M_putJoined_13 : decode prog_7_method_21_code 13 = .ok (.imul, 1) := by decide +kernel
theorem d_M_putJoined_14 : decode prog_7_method_21_code 14 = .ok (.iload_n 2, 1) := by decide +kernel
theorem d_M_putJoined_15 : decode prog_7_method_21_code 15 = .ok (.iadd, 1) := by decide +kernel
theorem d_M_putJoined_16 : decode prog_7_method_21_code 16 = .ok (.aload_n 0, 1) := by decide +kernel
theorem d_M_putJoined_17 : decode prog_7_method_21_code 17 = .ok (.getfield 44, 3) := by decide +kernel
theorem d_M_putJoined_20 : decode prog_7_method_21_code 20 = .ok (.iload_n 2, 1) := by decide +kernel
theorem d_M_putJoined_21 : decode prog_7_method_21_code 21 = .ok (.laload, 1) := by decide +kernel
theorem d_M_putJoined_22 : decode prog_7_method_21_code 22 = .ok (.lastore, 1) := by decide +kernel
theorem d_M_putJoined_23 : decode prog_7_method_21_code 23 = .ok (.iinc 2 1, 3) := by decide +kernel
theorem d_M_putJoined_26 : decode prog_7_method_21_code 26 = .ok (.goto (-24), 3) := by decide +kernel
theorem d_M_putJoined_29 : decode prog_7_method_21_code 29 = .ok (.return_, 1) := by decide +kernel
theorem d_M_pick_0 : decode prog_7_method_32_code 0 = .ok (.iload_n 1, 1) := by decide +kernel
theorem d_M_pick_1 : decode prog_7_method_32_code 1 = .ok (.iconst 2, 1) := by decide +kernel
theorem d_M_pick_2 : decode prog_7_method_32_code 2 = .ok (.invokestatic 123, 3) := by decide +kernel
theorem d_M_pick_5 : decode prog_7_method_32_code 5 = .ok (.ifCond .eq 5, 3) := by decide +kernel
theorem d_M_pick_8 : decode prog_7_method_32_code 8 = .ok (.iconst (-1), 1) := by decide +kernel
theorem d_M_pick_9 : decode prog_7_method_32_code 9 = .ok (.ireturn, 1) := by decide +kernel
theorem d_M_pick_10 : decode prog_7_method_32_code 10 = .ok (.aload_n 0, 1) := by decide +kernel
theorem d_M_pick_11 : decode prog_7_method_32_code 11 = .ok (.iload_n 1, 1) := by decide +kernel
theorem d_M_pick_12 : decode prog_7_method_32_code 12 = .ok (.invokevirtual 111, 3) := by decide +kernel
theorem d_M_pick_15 : decode prog_7_method_32_code 15 = .ok (.istore_n 3, 1) := by decide +kernel
theorem d_M_pick_16 : decode prog_7_method_32_code 16 = .ok (.iload_n 2, 1) := by decide +kernel
theorem d_M_pick_17 : decode prog_7_method_32_code 17 = .ok (.aload_n 0, 1) := by decide +kernel
theorem d_M_pick_18 : decode prog_7_method_32_code 18 = .ok (.getfield 104, 3) := by decide +kernel
theorem d_M_pick_21 : decode prog_7_method_32_code 21 = .ok (.invokestatic 123, 3) := by decide +kernel
theorem d_M_pick_24 : decode prog_7_method_32_code 24 = .ok (.ifCond .ne 7, 3) := by decide +kernel
theorem d_M_pick_27 : decode prog_7_method_32_code 27 = .ok (.iload_n 3, 1) := by decide +kernel
theorem d_M_pick_28 : decode prog_7_method_32_code 28 = .ok (.ifCond .ge 6, 3) := by decide +kernel
theorem d_M_pick_31 : decode prog_7_method_32_code 31 = .ok (.bipush (-2), 2) := by decide +kernel
theorem d_M_pick_33 : decode prog_7_method_32_code 33 = .ok (.ireturn, 1) := by decide +kernel
theorem d_M_pick_34 : decode prog_7_method_32_code 34 = .ok (.aload_n 0, 1) := by decide +kernel
theorem d_M_pick_35 : decode prog_7_method_32_code 35 = .ok (.getfield 20, 3) := by decide +kernel
theorem d_M_pick_38 : decode prog_7_method_32_code 38 = .ok (.iload_n 1, 1) := by decide +kernel
theorem d_M_pick_39 : decode prog_7_method_32_code 39 = .ok (.laload, 1) := by decide +kernel
theorem d_M_pick_40 : decode prog_7_method_32_code 40 = .ok (.iload_n 2, 1) := by decide +kernel
theorem d_M_pick_41 : decode prog_7_method_32_code 41 = .ok (.lshr, 1) := by decide +kernel
theorem d_M_pick_42 : decode prog_7_method_32_code 42 = .ok (.lconst 1, 1) := by decide +kernel
theorem d_M_pick_43 : decode prog_7_method_32_code 43 = .ok (.land, 1) := by decide +kernel
theorem d_M_pick_44 : decode prog_7_method_32_code 44 = .ok (.lconst 0, 1) := by decide +kernel
theorem d_M_pick_45 : decode prog_7_method_32_code 45 = .ok (.lcmp, 1) := by decide +kernel
theorem d_M_pick_46 : decode prog_7_method_32_code 46 = .ok (.ifCond .ne 6, 3) := by decide +kernel
theorem d_M_pick_49 : decode prog_7_method_32_code 49 = .ok (.bipush (-2), 2) := by decide +kernel
theorem d_M_pick_51 : decode prog_7_method_32_code 51 = .ok (.ireturn, 1) := by decide +kernel
theorem d_M_pick_52 : decode prog_7_method_32_code 52 = .ok (.aload_n 0, 1) := by decide +kernel
theorem d_M_pick_53 : decode prog_7_method_32_code 53 = .ok (.iload_n 1, 1) := by decide +kernel
theorem d_M_pick_54 : decode prog_7_method_32_code 54 = .ok (.invokevirtual 133, 3) := by decide +kernel
theorem d_M_pick_57 : decode prog_7_method_32_code 57 = .ok (.ifCond .eq 6, 3) := by decide +kernel
theorem d_M_pick_60 : decode prog_7_method_32_code 60 = .ok (.bipush (-3), 2) := by decide +kernel
theorem d_M_pick_62 : decode prog_7_method_32_code 62 = .ok (.ireturn, 1) := by decide +kernel
theorem d_M_pick_63 : decode prog_7_method_32_code 63 = .ok (.aload_n 0, 1) := by decide +kernel
theorem d_M_pick_64 : decode prog_7_method_32_code 64 = .ok (.getfield 17, 3) := by decide +kernel
theorem d_M_pick_67 : decode prog_7_method_32_code 67 = .ok (.iload_n 2, 1) := by decide +kernel
theorem d_M_pick_68 : decode prog_7_method_32_code 68 = .ok (.iaload, 1) := by decide +kernel
theorem d_M_pick_69 : decode prog_7_method_32_code 69 = .ok (.ifCond .lt 6, 3) := by decide +kernel
theorem d_M_pick_72 : decode prog_7_method_32_code 72 = .ok (.bipush (-4), 2) := by decide +kernel
theorem d_M_pick_74 : decode prog_7_method_32_code 74 = .ok (.ireturn, 1) := by decide +kernel
theorem d_M_pick_75 : decode prog_7_method_32_code 75 = .ok (.iconst 0, 1) := by decide +kernel
theorem d_M_pick_76 : decode prog_7_method_32_code 76 = .ok (.istore 4, 2) := by decide +kernel
theorem d_M_pick_78 : decode prog_7_method_32_code 78 = .ok (.iload 4, 2) := by decide +kernel
theorem d_M_pick_80 : decode prog_7_method_32_code 80 = .ok (.iconst 4, 1) := by decide +kernel
theorem d_M_pick_81 : decode prog_7_method_32_code 81 = .ok (.if_icmp .ge 23, 3) := by decide +kernel
theorem d_M_pick_84 : decode prog_7_method_32_code 84 = .ok (.aload_n 0, 1) := by decide +kernel
theorem d_M_pick_85 : decode prog_7_method_32_code 85 = .ok (.getfield 38, 3) := by decide +kernel
theorem d_M_pick_88 : decode prog_7_method_32_code 88 = .ok (.iload 4, 2) := by decide +kernel
theorem d_M_pick_90 : decode prog_7_method_32_code 90 = .ok (.aload_n 0, 1) := by decide +kernel
theorem d_M_pick_91 : decode prog_7_method_32_code 91 = .ok (.iload_n 3, 1) := by decide +kernel
theorem d_M_pick_92 : decode prog_7_method_32_code 92 = .ok (.iload 4, 2) := by decide +kernel
theorem d_M_pick_94 : decode prog_7_method_32_code 94 = .ok (.invokevirtual 115, 3) := by decide +kernel
theorem d_M_pick_97 : decode prog_7_method_32_code 97 = .ok (.lastore, 1) := by decide +kernel
theorem d_M_pick_98 : decode prog_7_method_32_code 98 = .ok (.iinc 4 1, 3) := by decide +kernel
theorem d_M_pick_101 : decode prog_7_method_32_code 101 = .ok (.goto (-23), 3) := by decide +kernel
theorem d_M_pick_104 : decode prog_7_method_32_code 104 = .ok (.aload_n 0, 1) := by decide +kernel
theorem d_M_pick_105 : decode prog_7_method_32_code 105 = .ok (.iload_n 2, 1) := by decide +kernel
theorem d_M_pick_106 : decode prog_7_method_32_code 106 = .ok (.invokevirtual 152, 3) := by decide +kernel
theorem d_M_pick_109 : decode prog_7_method_32_code 109 = .ok (.ifCond .ne 6, 3) := by decide +kernel
theorem d_M_pick_112 : decode prog_7_method_32_code 112 = .ok (.bipush (-5), 2) := by decide +kernel
theorem d_M_pick_114 : decode prog_7_method_32_code 114 = .ok (.ireturn, 1) := by decide +kernel
theorem d_M_pick_115 : decode prog_7_method_32_code 115 = .ok (.aload_n 0, 1) := by decide +kernel
theorem d_M_pick_116 : decode prog_7_method_32_code 116 = .ok (.invokevirtual 155, 3) := by decide +kernel
theorem d_M_pick_119 : decode prog_7_method_32_code 119 = .ok (.ifCond .eq 6, 3) := by decide +kernel
theorem d_M_pick_122 : decode prog_7_method_32_code 122 = .ok (.bipush (-4), 2) := by decide +kernel
theorem d_M_pick_124 : decode prog_7_method_32_code 124 = .ok (.ireturn, 1) := by decide +kernel
theorem d_M_pick_125 : decode prog_7_method_32_code 125 = .ok (.aload_n 0, 1) := by decide +kernel
theorem d_M_pick_126 : decode prog_7_method_32_code 126 = .ok (.getfield 104, 3) := by decide +kernel
theorem d_M_pick_129 : decode prog_7_method_32_code 129 = .ok (.bipush 40, 2) := by decide +kernel
theorem d_M_pick_131 : decode prog_7_method_32_code 131 = .ok (.if_icmp .ne 6, 3) := by decide +kernel
theorem d_M_pick_134 : decode prog_7_method_32_code 134 = .ok (.bipush (-6), 2) := by decide +kernel
theorem d_M_pick_136 : decode prog_7_method_32_code 136 = .ok (.ireturn, 1) := by decide +kernel
theorem d_M_pick_137 : decode prog_7_method_32_code 137 = .ok (.aload_n 0, 1) := by decide +kernel
theorem d_M_pick_138 : decode prog_7_method_32_code 138 = .ok (.iload_n 1, 1) := by decide +kernel
theorem d_M_pick_139 : decode prog_7_method_32_code 139 = .ok (.iload_n 3, 1) := by decide +kernel
theorem d_M_pick_140 : decode prog_7_method_32_code 140 = .ok (.bipush (-2), 2) := by decide +kernel
theorem d_M_pick_142 : decode prog_7_method_32_code 142 = .ok (.invokevirtual 126, 3) := by decide +kernel
theorem d_M_pick_145 : decode prog_7_method_32_code 145 = .ok (.istore 4, 2) := by decide +kernel
theorem d_M_pick_147 : decode prog_7_method_32_code 147 = .ok (.aload_n 0, 1) := by decide +kernel
theorem d_M_pick_148 : decode prog_7_method_32_code 148 = .ok (.iload 4, 2) := by decide +kernel
theorem d_M_pick_150 : decode prog_7_method_32_code 150 = .ok (.invokevirtual 148, 3) := by decide +kernel
theorem d_M_pick_153 : decode prog_7_method_32_code 153 = .ok (.aload_n 0, 1) := by decide +kernel
theorem d_M_pick_154 : decode prog_7_method_32_code 154 = .ok (.iload_n 1, 1) := by decide +kernel
theorem d_M_pick_155 : decode prog_7_method_32_code 155 = .ok (.iload 4, 2) := by decide +kernel
theorem d_M_pick_157 : decode prog_7_method_32_code 157 = .ok (.invokevirtual 137, 3) := by decide +kernel
theorem d_M_pick_160 : decode prog_7_method_32_code 160 = .ok (.ireturn, 1) := by decide +kernel
theorem d_M_again_0 : decode prog_7_method_31_code 0 = .ok (.iconst 0, 1) := by decide +kernel
theorem d_M_again_1 : decode prog_7_method_31_code 1 = .ok (.istore_n 2, 1) := by decide +kernel
theorem d_M_again_2 : decode prog_7_method_31_code 2 = .ok (.iload_n 2, 1) := by decide +kernel
theorem d_M_again_3 : decode prog_7_method_31_code 3 = .ok (.iconst 4, 1) := by decide +kernel
theorem d_M_again_4 : decode prog_7_method_31_code 4 = .ok (.if_icmp .ge 38, 3) := by decide +kernel
theorem d_M_again_7 : decode prog_7_method_31_code 7 = .ok (.aload_n 0, 1) := by decide +kernel
theorem d_M_again_8 : decode prog_7_method_31_code 8 = .ok (.getfield 35, 3) := by decide +kernel
theorem d_M_again_11 : decode prog_7_method_31_code 11 = .ok (.iload_n 2, 1) := by decide +kernel
theorem d_M_again_12 : decode prog_7_method_31_code 12 = .ok (.aload_n 0, 1) := by decide +kernel
theorem d_M_again_13 : decode prog_7_method_31_code 13 = .ok (.aload_n 0, 1) := by decide +kernel
theorem d_M_again_14 : decode prog_7_method_31_code 14 = .ok (.getfield 13, 3) := by decide +kernel
theorem d_M_again_17 : decode prog_7_method_31_code 17 = .ok (.iload_n 1, 1) := by decide +kernel
theorem d_M_again_18 : decode prog_7_method_31_code 18 = .ok (.iaload, 1) := by decide +kernel
theorem d_M_again_19 : decode prog_7_method_31_code 19 = .ok (.iload_n 2, 1) := by decide +kernel
theorem d_M_again_20 : decode prog_7_method_31_code 20 = .ok (.invokevirtual 115, 3) := by decide +kernel
theorem d_M_again_23 : decode prog_7_method_31_code 23 = .ok (.lastore, 1) := by decide +kernel
theorem d_M_again_24 : decode prog_7_method_31_code 24 = .ok (.aload_n 0, 1) := by decide +kernel
theorem d_M_again_25 : decode prog_7_method_31_code 25 = .ok (.getfield 41, 3) := by decide +kernel
theorem d_M_again_28 : decode prog_7_method_31_code 28 = .ok (.iload_n 2, 1) := by decide +kernel
theorem d_M_again_29 : decode prog_7_method_31_code 29 = .ok (.aload_n 0, 1) := by decide +kernel
theorem d_M_again_30 : decode prog_7_method_31_code 30 = .ok (.iload_n 1, 1) := by decide +kernel
theorem d_M_again_31 : decode prog_7_method_31_code 31 = .ok (.iload_n 2, 1) := by decide +kernel
theorem d_M_again_32 : decode prog_7_method_31_code 32 = .ok (.invokevirtual 115, 3) := by decide +kernel
theorem d_M_again_35 : decode prog_7_method_31_code 35 = .ok (.lastore, 1) := by decide +kernel
theorem d_M_again_36 : decode prog_7_method_31_code 36 = .ok (.iinc 2 1, 3) := by decide +kernel
theorem d_M_again_39 : decode prog_7_method_31_code 39 = .ok (.goto (-37), 3) := by decide +kernel
theorem d_M_again_42 : decode prog_7_method_31_code 42 = .ok (.aload_n 0, 1) := by decide +kernel
theorem d_M_again_43 : decode prog_7_method_31_code 43 = .ok (.invokevirtual 144, 3) := by decide +kernel
theorem d_M_again_46 : decode prog_7_method_31_code 46 = .ok (.ireturn, 1) := by decide +kernel
theorem d_M_changedNothing_0 : decode prog_7_method_11_code 0 = .ok (.iconst 1, 1) := by decide +kernel
theorem d_M_changedNothing_1 : decode prog_7_method_11_code 1 = .ok (.istore_n 1, 1) := by decide +kernel
theorem d_M_changedNothing_2 : decode prog_7_method_11_code 2 = .ok (.iconst 0, 1) := by decide +kernel
theorem d_M_changedNothing_3 : decode prog_7_method_11_code 3 = .ok (.istore_n 2, 1) := by decide +kernel
theorem d_M_changedNothing_4 : decode prog_7_method_11_code 4 = .ok (.iload_n 2, 1) := by decide +kernel
theorem d_M_changedNothing_5 : decode prog_7_method_11_code 5 = .ok (.iconst 4, 1) := by decide +kernel
theorem d_M_changedNothing_6 : decode prog_7_method_11_code 6 = .ok (.if_icmp .ge 35, 3) := by decide +kernel
theorem d_M_changedNothing_9 : decode prog_7_method_11_code 9 = .ok (.iload_n 1, 1) := by decide +kernel
theorem d_M_changedNothing_10 : decode prog_7_method_11_code 10 = .ok (.ifCond .eq 23, 3) := by decide +kernel
theorem d_M_changedNothing_13 : decode prog_7_method_11_code 13 = .ok (.aload_n 0, 1) := by decide +kernel
theorem d_M_changedNothing_14 : decode prog_7_method_11_code 14 = .ok (.getfield 44, 3) := by decide +kernel
theorem d_M_changedNothing_17 : decode prog_7_method_11_code 17 = .ok (.iload_n 2, 1) := by decide +kernel
theorem d_M_changedNothing_18 : decode prog_7_method_11_code 18 = .ok (.laload, 1) := by decide +kernel
theorem d_M_changedNothing_19 : decode prog_7_method_11_code 19 = .ok (.aload_n 0, 1) := by decide +kernel
theorem d_M_changedNothing_20 : decode prog_7_method_11_code 20 = .ok (.getfield 38, 3) := by decide +kernel
theorem d_M_changedNothing_23 : decode prog_7_method_11_code 23 = .ok (.iload_n 2, 1) := by decide +kernel
theorem d_M_changedNothing_24 : decode prog_7_method_11_code 24 = .ok (.laload, 1) := by decide +kernel
theorem d_M_changedNothing_25 : decode prog_7_method_11_code 25 = .ok (.lcmp, 1) := by decide +kernel
theorem d_M_changedNothing_26 : decode prog_7_method_11_code 26 = .ok (.ifCond .ne 7, 3) := by decide +kernel
theorem d_M_changedNothing_29 : decode prog_7_method_11_code 29 = .ok (.iconst 1, 1) := by decide +kernel
theorem d_M_changedNothing_30 : decode prog_7_method_11_code 30 = .ok (.goto 4, 3) := by decide +kernel
theorem d_M_changedNothing_33 : decode prog_7_method_11_code 33 = .ok (.iconst 0, 1) := by decide +kernel
theorem d_M_changedNothing_34 : decode prog_7_method_11_code 34 = .ok (.istore_n 1, 1) := by decide +kernel
theorem d_M_changedNothing_35 : decode prog_7_method_11_code 35 = .ok (.iinc 2 1, 3) := by decide +kernel
theorem d_M_changedNothing_38 : decode prog_7_method_11_code 38 = .ok (.goto (-34), 3) := by decide +kernel
theorem d_M_changedNothing_41 : decode prog_7_method_11_code 41 = .ok (.iload_n 1, 1) := by decide +kernel
theorem d_M_changedNothing_42 : decode prog_7_method_11_code 42 = .ok (.ireturn, 1) := by decide +kernel
theorem d_M_rebase_0 : decode prog_7_method_34_code 0 = .ok (.iload_n 1, 1) := by decide +kernel
theorem d_M_rebase_1 : decode prog_7_method_34_code 1 = .ok (.iconst 2, 1) := by decide +kernel
theorem d_M_rebase_2 : decode prog_7_method_34_code 2 = .ok (.invokestatic 123, 3) := by decide +kernel
theorem d_M_rebase_5 : decode prog_7_method_34_code 5 = .ok (.ifCond .ne 11, 3) := by decide +kernel
theorem d_M_rebase_8 : decode prog_7_method_34_code 8 = .ok (.iload_n 2, 1) := by decide +kernel
theorem d_M_rebase_9 : decode prog_7_method_34_code 9 = .ok (.iconst 4, 1) := by decide +kernel
theorem d_M_rebase_10 : decode prog_7_method_34_code 10 = .ok (.invokestatic 123, 3) := by decide +kernel
theorem d_M_rebase_13 : decode prog_7_method_34_code 13 = .ok (.ifCond .eq 5, 3) := by decide +kernel
theorem d_M_rebase_16 : decode prog_7_method_34_code 16 = .ok (.iconst (-1), 1) := by decide +kernel
theorem d_M_rebase_17 : decode prog_7_method_34_code 17 = .ok (.ireturn, 1) := by decide +kernel
theorem d_M_rebase_18 : decode prog_7_method_34_code 18 = .ok (.aload_n 0, 1) := by decide +kernel
theorem d_M_rebase_19 : decode prog_7_method_34_code 19 = .ok (.iload_n 1, 1) := by decide +kernel
theorem d_M_rebase_20 : decode prog_7_method_34_code 20 = .ok (.iload_n 2, 1) := by decide +kernel
theorem d_M_rebase_21 : decode prog_7_method_34_code 21 = .ok (.invokevirtual 130, 3) := by decide +kernel
theorem d_M_rebase_24 : decode prog_7_method_34_code 24 = .ok (.ifCond .eq 11, 3) := by decide +kernel
theorem d_M_rebase_27 : decode prog_7_method_34_code 27 = .ok (.aload_n 0, 1) := by decide +kernel
theorem d_M_rebase_28 : decode prog_7_method_34_code 28 = .ok (.iload_n 1, 1) := by decide +kernel
theorem d_M_rebase_29 : decode prog_7_method_34_code 29 = .ok (.invokevirtual 111, 3) := by decide +kernel
theorem d_M_rebase_32 : decode prog_7_method_34_code 32 = .ok (.ifCond .ge 6, 3) := by decide +kernel
theorem d_M_rebase_35 : decode prog_7_method_34_code 35 = .ok (.bipush (-2), 2) := by decide +kernel
theorem d_M_rebase_37 : decode prog_7_method_34_code 37 = .ok (.ireturn, 1) := by decide +kernel
theorem d_M_rebase_38 : decode prog_7_method_34_code 38 = .ok (.aload_n 0, 1) := by decide +kernel
theorem d_M_rebase_39 : decode prog_7_method_34_code 39 = .ok (.iload_n 1, 1) := by decide +kernel
theorem d_M_rebase_40 : decode prog_7_method_34_code 40 = .ok (.invokevirtual 133, 3) := by decide +kernel
theorem d_M_rebase_43 : decode prog_7_method_34_code 43 = .ok (.ifCond .eq 6, 3) := by decide +kernel
theorem d_M_rebase_46 : decode prog_7_method_34_code 46 = .ok (.bipush (-3), 2) := by decide +kernel
theorem d_M_rebase_48 : decode prog_7_method_34_code 48 = .ok (.ireturn, 1) := by decide +kernel
theorem d_M_rebase_49 : decode prog_7_method_34_code 49 = .ok (.aload_n 0, 1) := by decide +kernel
theorem d_M_rebase_50 : decode prog_7_method_34_code 50 = .ok (.getfield 23, 3) := by decide +kernel
theorem d_M_rebase_53 : decode prog_7_method_34_code 53 = .ok (.iconst 4, 1) := by decide +kernel
theorem d_M_rebase_54 : decode prog_7_method_34_code 54 = .ok (.iload_n 1, 1) := by decide +kernel
theorem d_M_rebase_55 : decode prog_7_method_34_code 55 = .ok (.imul, 1) := by decide +kernel
theorem d_M_rebase_56 : decode prog_7_method_34_code 56 = .ok (.iload_n 2, 1) := by decide +kernel
theorem d_M_rebase_57 : decode prog_7_method_34_code 57 = .ok (.iadd, 1) := by decide +kernel
theorem d_M_rebase_58 : decode prog_7_method_34_code 58 = .ok (.iaload, 1) := by decide +kernel
theorem d_M_rebase_59 : decode prog_7_method_34_code 59 = .ok (.istore_n 3, 1) := by decide +kernel
theorem d_M_rebase_60 : decode prog_7_method_34_code 60 = .ok (.iconst 0, 1) := by decide +kernel
theorem d_M_rebase_61 : decode prog_7_method_34_code 61 = .ok (.istore 4, 2) := by decide +kernel
theorem d_M_rebase_63 : decode prog_7_method_34_code 63 = .ok (.iload 4, 2) := by decide +kernel
theorem d_M_rebase_65 : decode prog_7_method_34_code 65 = .ok (.iconst 4, 1) := by decide +kernel
theorem d_M_rebase_66 : decode prog_7_method_34_code 66 = .ok (.if_icmp .ge 23, 3) := by decide +kernel
theorem d_M_rebase_69 : decode prog_7_method_34_code 69 = .ok (.aload_n 0, 1) := by decide +kernel
theorem d_M_rebase_70 : decode prog_7_method_34_code 70 = .ok (.getfield 38, 3) := by decide +kernel
theorem d_M_rebase_73 : decode prog_7_method_34_code 73 = .ok (.iload 4, 2) := by decide +kernel
theorem d_M_rebase_75 : decode prog_7_method_34_code 75 = .ok (.aload_n 0, 1) := by decide +kernel
theorem d_M_rebase_76 : decode prog_7_method_34_code 76 = .ok (.iload_n 3, 1) := by decide +kernel
theorem d_M_rebase_77 : decode prog_7_method_34_code 77 = .ok (.iload 4, 2) := by decide +kernel
theorem d_M_rebase_79 : decode prog_7_method_34_code 79 = .ok (.invokevirtual 115, 3) := by decide +kernel
theorem d_M_rebase_82 : decode prog_7_method_34_code 82 = .ok (.lastore, 1) := by decide +kernel
theorem d_M_rebase_83 : decode prog_7_method_34_code 83 = .ok (.iinc 4 1, 3) := by decide +kernel
theorem d_M_rebase_86 : decode prog_7_method_34_code 86 = .ok (.goto (-23), 3) := by decide +kernel
theorem d_M_rebase_89 : decode prog_7_method_34_code 89 = .ok (.aload_n 0, 1) := by decide +kernel
theorem d_M_rebase_90 : decode prog_7_method_34_code 90 = .ok (.aload_n 0, 1) := by decide +kernel
theorem d_M_rebase_91 : decode prog_7_method_34_code 91 = .ok (.aload_n 0, 1) := by decide +kernel
theorem d_M_rebase_92 : decode prog_7_method_34_code 92 = .ok (.iload_n 1, 1) := by decide +kernel
theorem d_M_rebase_93 : decode prog_7_method_34_code 93 = .ok (.invokevirtual 111, 3) := by decide +kernel
theorem d_M_rebase_96 : decode prog_7_method_34_code 96 = .ok (.invokevirtual 100, 3) := by decide +kernel
theorem d_M_rebase_99 : decode prog_7_method_34_code 99 = .ok (.aload_n 0, 1) := by decide +kernel
theorem d_M_rebase_100 : decode prog_7_method_34_code 100 = .ok (.iload_n 3, 1) := by decide +kernel
theorem d_M_rebase_101 : decode prog_7_method_34_code 101 = .ok (.invokevirtual 100, 3) := by decide +kernel
theorem d_M_rebase_104 : decode prog_7_method_34_code 104 = .ok (.ldc2_w 158, 3) := by decide +kernel
theorem d_M_rebase_107 : decode prog_7_method_34_code 107 = .ok (.lxor, 1) := by decide +kernel
theorem d_M_rebase_108 : decode prog_7_method_34_code 108 = .ok (.land, 1) := by decide +kernel
theorem d_M_rebase_109 : decode prog_7_method_34_code 109 = .ok (.invokevirtual 160, 3) := by decide +kernel
theorem d_M_rebase_112 : decode prog_7_method_34_code 112 = .ok (.istore 4, 2) := by decide +kernel
theorem d_M_rebase_114 : decode prog_7_method_34_code 114 = .ok (.iload 4, 2) := by decide +kernel
theorem d_M_rebase_116 : decode prog_7_method_34_code 116 = .ok (.ifCond .ge 6, 3) := by decide +kernel
theorem d_M_rebase_119 : decode prog_7_method_34_code 119 = .ok (.iload 4, 2) := by decide +kernel
theorem d_M_rebase_121 : decode prog_7_method_34_code 121 = .ok (.ireturn, 1) := by decide +kernel
theorem d_M_rebase_122 : decode prog_7_method_34_code 122 = .ok (.iconst 0, 1) := by decide +kernel
theorem d_M_rebase_123 : decode prog_7_method_34_code 123 = .ok (.istore 5, 2) := by decide +kernel
theorem d_M_rebase_125 : decode prog_7_method_34_code 125 = .ok (.iload 5, 2) := by decide +kernel
theorem d_M_rebase_127 : decode prog_7_method_34_code 127 = .ok (.iload 4, 2) := by decide +kernel
theorem d_M_rebase_129 : decode prog_7_method_34_code 129 = .ok (.if_icmp .ge 56, 3) := by decide +kernel
theorem d_M_rebase_132 : decode prog_7_method_34_code 132 = .ok (.aload_n 0, 1) := by decide +kernel
theorem d_M_rebase_133 : decode prog_7_method_34_code 133 = .ok (.iload_n 1, 1) := by decide +kernel
theorem d_M_rebase_134 : decode prog_7_method_34_code 134 = .ok (.iload_n 3, 1) := by decide +kernel
theorem d_M_rebase_135 : decode prog_7_method_34_code 135 = .ok (.bipush (-2), 2) := by decide +kernel
theorem d_M_rebase_137 : decode prog_7_method_34_code 137 = .ok (.invokevirtual 126, 3) := by decide +kernel
theorem d_M_rebase_140 : decode prog_7_method_34_code 140 = .ok (.istore_n 3, 1) := by decide +kernel
theorem d_M_rebase_141 : decode prog_7_method_34_code 141 = .ok (.iconst 0, 1) := by decide +kernel
theorem d_M_rebase_142 : decode prog_7_method_34_code 142 = .ok (.istore 6, 2) := by decide +kernel
theorem d_M_rebase_144 : decode prog_7_method_34_code 144 = .ok (.iload 6, 2) := by decide +kernel
theorem d_M_rebase_146 : decode prog_7_method_34_code 146 = .ok (.iconst 4, 1) := by decide +kernel
theorem d_M_rebase_147 : decode prog_7_method_34_code 147 = .ok (.if_icmp .ge 32, 3) := by decide +kernel
theorem d_M_rebase_150 : decode prog_7_method_34_code 150 = .ok (.aload_n 0, 1) := by decide +kernel
theorem d_M_rebase_151 : decode prog_7_method_34_code 151 = .ok (.getfield 7, 3) := by decide +kernel
theorem d_M_rebase_154 : decode prog_7_method_34_code 154 = .ok (.iconst 4, 1) := by decide +kernel
theorem d_M_rebase_155 : decode prog_7_method_34_code 155 = .ok (.iload_n 3, 1) := by decide +kernel
theorem d_M_rebase_156 : decode prog_7_method_34_code 156 = .ok (.imul, 1) := by decide +kernel
theorem d_M_rebase_157 : decode prog_7_method_34_code 157 = .ok (.iload 6, 2) := by decide +kernel
theorem d_M_rebase_159 : decode prog_7_method_34_code 159 = .ok (.iadd, 1) := by decide +kernel
theorem d_M_rebase_160 : decode prog_7_method_34_code 160 = .ok (.aload_n 0, 1) := by decide +kernel
theorem d_M_rebase_161 : decode prog_7_method_34_code 161 = .ok (.getfield 59, 3) := by decide +kernel
theorem d_M_rebase_164 : decode prog_7_method_34_code 164 = .ok (.iconst 4, 1) := by decide +kernel
theorem d_M_rebase_165 : decode prog_7_method_34_code 165 = .ok (.iload 5, 2) := by decide +kernel
theorem d_M_rebase_167 : decode prog_7_method_34_code 167 = .ok (.imul, 1) := by decide +kernel
theorem d_M_rebase_168 : decode prog_7_method_34_code 168 = .ok (.iload 6, 2) := by decide +kernel
theorem d_M_rebase_170 : decode prog_7_method_34_code 170 = .ok (.iadd, 1) := by decide +kernel
theorem d_M_rebase_171 : decode prog_7_method_34_code 171 = .ok (.laload, 1) := by decide +kernel
theorem d_M_rebase_172 : decode prog_7_method_34_code 172 = .ok (.lastore, 1) := by decide +kernel
theorem d_M_rebase_173 : decode prog_7_method_34_code 173 = .ok (.iinc 6 1, 3) := by decide +kernel
theorem d_M_rebase_176 : decode prog_7_method_34_code 176 = .ok (.goto (-32), 3) := by decide +kernel
theorem d_M_rebase_179 : decode prog_7_method_34_code 179 = .ok (.iinc 5 1, 3) := by decide +kernel
theorem d_M_rebase_182 : decode prog_7_method_34_code 182 = .ok (.goto (-57), 3) := by decide +kernel
theorem d_M_rebase_185 : decode prog_7_method_34_code 185 = .ok (.aload_n 0, 1) := by decide +kernel
theorem d_M_rebase_186 : decode prog_7_method_34_code 186 = .ok (.iload_n 1, 1) := by decide +kernel
theorem d_M_rebase_187 : decode prog_7_method_34_code 187 = .ok (.iload_n 3, 1) := by decide +kernel
theorem d_M_rebase_188 : decode prog_7_method_34_code 188 = .ok (.invokevirtual 137, 3) := by decide +kernel
theorem d_M_rebase_191 : decode prog_7_method_34_code 191 = .ok (.istore 5, 2) := by decide +kernel
theorem d_M_rebase_193 : decode prog_7_method_34_code 193 = .ok (.iload 5, 2) := by decide +kernel
theorem d_M_rebase_195 : decode prog_7_method_34_code 195 = .ok (.ifCond .ge 7, 3) := by decide +kernel
theorem d_M_rebase_198 : decode prog_7_method_34_code 198 = .ok (.iconst 0, 1) := by decide +kernel
theorem d_M_rebase_199 : decode prog_7_method_34_code 199 = .ok (.goto 5, 3) := by decide +kernel
theorem d_M_rebase_202 : decode prog_7_method_34_code 202 = .ok (.iload 4, 2) := by decide +kernel
theorem d_M_rebase_204 : decode prog_7_method_34_code 204 = .ok (.ireturn, 1) := by decide +kernel
theorem d_M_replay_0 : decode prog_7_method_33_code 0 = .ok (.iconst 0, 1) := by decide +kernel
theorem d_M_replay_1 : decode prog_7_method_33_code 1 = .ok (.istore_n 3, 1) := by decide +kernel
theorem d_M_replay_2 : decode prog_7_method_33_code 2 = .ok (.iconst 0, 1) := by decide +kernel
theorem d_M_replay_3 : decode prog_7_method_33_code 3 = .ok (.istore 4, 2) := by decide +kernel
theorem d_M_replay_5 : decode prog_7_method_33_code 5 = .ok (.iload 4, 2) := by decide +kernel
theorem d_M_replay_7 : decode prog_7_method_33_code 7 = .ok (.aload_n 0, 1) := by decide +kernel
theorem d_M_replay_8 : decode prog_7_method_33_code 8 = .ok (.getfield 104, 3) := by decide +kernel
theorem d_M_replay_11 : decode prog_7_method_33_code 11 = .ok (.if_icmp .ge 113, 3) := by decide +kernel
theorem d_M_replay_14 : decode prog_7_method_33_code 14 = .ok (.lload_n 1, 1) := by decide +kernel
theorem d_M_replay_15 : decode prog_7_method_33_code 15 = .ok (.iload 4, 2) := by decide +kernel
theorem d_M_replay_17 : decode prog_7_method_33_code 17 = .ok (.lshr, 1) := by decide +kernel
theorem d_M_replay_18 : decode prog_7_method_33_code 18 = .ok (.lconst 1, 1) := by decide +kernel
theorem d_M_replay_19 : decode prog_7_method_33_code 19 = .ok (.land, 1) := by decide +kernel
theorem d_M_replay_20 : decode prog_7_method_33_code 20 = .ok (.lconst 1, 1) := by decide +kernel
theorem d_M_replay_21 : decode prog_7_method_33_code 21 = .ok (.lcmp, 1) := by decide +kernel
theorem d_M_replay_22 : decode prog_7_method_33_code 22 = .ok (.ifCond .ne 96, 3) := by decide +kernel
theorem d_M_replay_25 : decode prog_7_method_33_code 25 = .ok (.aload_n 0, 1) := by decide +kernel
theorem d_M_replay_26 : decode prog_7_method_33_code 26 = .ok (.getfield 17, 3) := by decide +kernel
theorem d_M_replay_29 : decode prog_7_method_33_code 29 = .ok (.iload 4, 2) := by decide +kernel
theorem d_M_replay_31 : decode prog_7_method_33_code 31 = .ok (.iaload, 1) := by decide +kernel
theorem d_M_replay_32 : decode prog_7_method_33_code 32 = .ok (.ifCond .ge 86, 3) := by decide +kernel
theorem d_M_replay_35 : decode prog_7_method_33_code 35 = .ok (.aload_n 0, 1) := by decide +kernel
theorem d_M_replay_36 : decode prog_7_method_33_code 36 = .ok (.iload 4, 2) := by decide +kernel
theorem d_M_replay_38 : decode prog_7_method_33_code 38 = .ok (.invokevirtual 152, 3) := by decide +kernel
theorem d_M_replay_41 : decode prog_7_method_33_code 41 = .ok (.ifCond .ne 6, 3) := by decide +kernel
theorem d_M_replay_44 : decode prog_7_method_33_code 44 = .ok (.bipush (-5), 2) := by decide +kernel
theorem d_M_replay_46 : decode prog_7_method_33_code 46 = .ok (.ireturn, 1) := by decide +kernel
theorem d_M_replay_47 : decode prog_7_method_33_code 47 = .ok (.aload_n 0, 1) := by decide +kernel
theorem d_M_replay_48 : decode prog_7_method_33_code 48 = .ok (.invokevirtual 155, 3) := by decide +kernel
theorem d_M_replay_51 : decode prog_7_method_33_code 51 = .ok (.ifCond .ne 67, 3) := by decide +kernel
theorem d_M_replay_54 : decode prog_7_method_33_code 54 = .ok (.aload_n 0, 1) := by decide +kernel
theorem d_M_replay_55 : decode prog_7_method_33_code 55 = .ok (.getfield 104, 3) := by decide +kernel
theorem d_M_replay_58 : decode prog_7_method_33_code 58 = .ok (.iload_n 3, 1) := by decide +kernel
theorem d_M_replay_59 : decode prog_7_method_33_code 59 = .ok (.iadd, 1) := by decide +kernel
theorem d_M_replay_60 : decode prog_7_method_33_code 60 = .ok (.bipush 40, 2) := by decide +kernel
theorem d_M_replay_62 : decode prog_7_method_33_code 62 = .ok (.if_icmp .ne 6, 3) := by decide +kernel
theorem d_M_replay_65 : decode prog_7_method_33_code 65 = .ok (.bipush (-6), 2) := by decide +kernel
theorem d_M_replay_67 : decode prog_7_method_33_code 67 = .ok (.ireturn, 1) := by decide +kernel
theorem d_M_replay_68 : decode prog_7_method_33_code 68 = .ok (.iconst 0, 1) := by decide +kernel
theorem d_M_replay_69 : decode prog_7_method_33_code 69 = .ok (.istore 5, 2) := by decide +kernel
theorem d_M_replay_71 : decode prog_7_method_33_code 71 = .ok (.iload 5, 2) := by decide +kernel
theorem d_M_replay_73 : decode prog_7_method_33_code 73 = .ok (.iconst 4, 1) := by decide +kernel
theorem d_M_replay_74 : decode prog_7_method_33_code 74 = .ok (.if_icmp .ge 41, 3) := by decide +kernel
theorem d_M_replay_77 : decode prog_7_method_33_code 77 = .ok (.aload_n 0, 1) := by decide +kernel
theorem d_M_replay_78 : decode prog_7_method_33_code 78 = .ok (.getfield 59, 3) := by decide +kernel
theorem d_M_replay_81 : decode prog_7_method_33_code 81 = .ok (.iconst 4, 1) := by decide +kernel
theorem d_M_replay_82 : decode prog_7_method_33_code 82 = .ok (.iload_n 3, 1) := by decide +kernel
theorem d_M_replay_83 : decode prog_7_method_33_code 83 = .ok (.imul, 1) := by decide +kernel
theorem d_M_replay_84 : decode prog_7_method_33_code 84 = .ok (.iload 5, 2) := by decide +kernel
theorem d_M_replay_86 : decode prog_7_method_33_code 86 = .ok (.iadd, 1) := by decide +kernel
theorem d_M_replay_87 : decode prog_7_method_33_code 87 = .ok (.aload_n 0, 1) := by decide +kernel
theorem d_M_replay_88 : decode prog_7_method_33_code 88 = .ok (.getfield 44, 3) := by decide +kernel
theorem d_M_replay_91 : decode prog_7_method_33_code 91 = .ok (.iload 5, 2) := by decide +kernel
theorem d_M_replay_93 : decode prog_7_method_33_code 93 = .ok (.laload, 1) := by decide +kernel
theorem d_M_replay_94 : decode prog_7_method_33_code 94 = .ok (.lastore, 1) := by decide +kernel
theorem d_M_replay_95 : decode prog_7_method_33_code 95 = .ok (.aload_n 0, 1) := by decide +kernel
theorem d_M_replay_96 : decode prog_7_method_33_code 96 = .ok (.getfield 38, 3) := by decide +kernel
theorem d_M_replay_99 : decode prog_7_method_33_code 99 = .ok (.iload 5, 2) := by decide +kernel
theorem d_M_replay_101 : decode prog_7_method_33_code 101 = .ok (.aload_n 0, 1) := by decide +kernel
theorem d_M_replay_102 : decode prog_7_method_33_code 102 = .ok (.getfield 44, 3) := by decide +kernel
theorem d_M_replay_105 : decode prog_7_method_33_code 105 = .ok (.iload 5, 2) := by decide +kernel
theorem d_M_replay_107 : decode prog_7_method_33_code 107 = .ok (.laload, 1) := by decide +kernel
theorem d_M_replay_108 : decode prog_7_method_33_code 108 = .ok (.lastore, 1) := by decide +kernel
theorem d_M_replay_109 : decode prog_7_method_33_code 109 = .ok (.iinc 5 1, 3) := by decide +kernel
theorem d_M_replay_112 : decode prog_7_method_33_code 112 = .ok (.goto (-41), 3) := by decide +kernel
theorem d_M_replay_115 : decode prog_7_method_33_code 115 = .ok (.iinc 3 1, 3) := by decide +kernel
theorem d_M_replay_118 : decode prog_7_method_33_code 118 = .ok (.iinc 4 1, 3) := by decide +kernel
theorem d_M_replay_121 : decode prog_7_method_33_code 121 = .ok (.goto (-116), 3) := by decide +kernel
theorem d_M_replay_124 : decode prog_7_method_33_code 124 = .ok (.iload_n 3, 1) := by decide +kernel
theorem d_M_replay_125 : decode prog_7_method_33_code 125 = .ok (.ireturn, 1) := by decide +kernel
theorem d_M_collect_0 : decode prog_7_method_36_code 0 = .ok (.iload_n 1, 1) := by decide +kernel
theorem d_M_collect_1 : decode prog_7_method_36_code 1 = .ok (.iconst 2, 1) := by decide +kernel
theorem d_M_collect_2 : decode prog_7_method_36_code 2 = .ok (.invokestatic 123, 3) := by decide +kernel
theorem d_M_collect_5 : decode prog_7_method_36_code 5 = .ok (.ifCond .eq 5, 3) := by decide +kernel
theorem d_M_collect_8 : decode prog_7_method_36_code 8 = .ok (.iconst (-1), 1) := by decide +kernel
theorem d_M_collect_9 : decode prog_7_method_36_code 9 = .ok (.ireturn, 1) := by decide +kernel
theorem d_M_collect_10 : decode prog_7_method_36_code 10 = .ok (.lconst 0, 1) := by decide +kernel
theorem d_M_collect_11 : decode prog_7_method_36_code 11 = .ok (.lstore_n 2, 1) := by decide +kernel
theorem d_M_collect_12 : decode prog_7_method_36_code 12 = .ok (.iconst 0, 1) := by decide +kernel
theorem d_M_collect_13 : decode prog_7_method_36_code 13 = .ok (.istore 4, 2) := by decide +kernel
theorem d_M_collect_15 : decode prog_7_method_36_code 15 = .ok (.iload 4, 2) := by decide +kernel
theorem d_M_collect_17 : decode prog_7_method_36_code 17 = .ok (.iconst 4, 1) := by decide +kernel
theorem d_M_collect_18 : decode prog_7_method_36_code 18 = .ok (.if_icmp .ge 27, 3) := by decide +kernel
theorem d_M_collect_21 : decode prog_7_method_36_code 21 = .ok (.lload_n 2, 1) := by decide +kernel
theorem d_M_collect_22 : decode prog_7_method_36_code 22 = .ok (.aload_n 0, 1) := by decide +kernel
theorem d_M_collect_23 : decode prog_7_method_36_code 23 = .ok (.aload_n 0, 1) := by decide +kernel
theorem d_M_collect_24 : decode prog_7_method_36_code 24 = .ok (.getfield 23, 3) := by decide +kernel
theorem d_M_collect_27 : decode prog_7_method_36_code 27 = .ok (.iconst 4, 1) := by decide +kernel
theorem d_M_collect_28 : decode prog_7_method_36_code 28 = .ok (.iload_n 1, 1) := by decide +kernel
theorem d_M_collect_29 : decode prog_7_method_36_code 29 = .ok (.imul, 1) := by decide +kernel
theorem d_M_collect_30 : decode prog_7_method_36_code 30 = .ok (.iload 4, 2) := by decide +kernel
theorem d_M_collect_32 : decode prog_7_method_36_code 32 = .ok (.iadd, 1) := by decide +kernel
theorem d_M_collect_33 : decode prog_7_method_36_code 33 = .ok (.iaload, 1) := by decide +kernel
theorem d_M_collect_34 : decode prog_7_method_36_code 34 = .ok (.invokevirtual 100, 3) := by decide +kernel
theorem d_M_collect_37 : decode prog_7_method_36_code 37 = .ok (.lor, 1) := by decide +kernel
theorem d_M_collect_38 : decode prog_7_method_36_code 38 = .ok (.lstore_n 2, 1) := by decide +kernel
theorem d_M_collect_39 : decode prog_7_method_36_code 39 = .ok (.iinc 4 1, 3) := by decide +kernel
theorem d_M_collect_42 : decode prog_7_method_36_code 42 = .ok (.goto (-27), 3) := by decide +kernel
theorem d_M_collect_45 : decode prog_7_method_36_code 45 = .ok (.aload_n 0, 1) := by decide +kernel
theorem d_M_collect_46 : decode prog_7_method_36_code 46 = .ok (.getfield 20, 3) := by decide +kernel
theorem d_M_collect_49 : decode prog_7_method_36_code 49 = .ok (.iload_n 1, 1) := by decide +kernel
theorem d_M_collect_50 : decode prog_7_method_36_code 50 = .ok (.laload, 1) := by decide +kernel
theorem d_M_collect_51 : decode prog_7_method_36_code 51 = .ok (.invokestatic 163, 3) := by decide +kernel
theorem d_M_collect_54 : decode prog_7_method_36_code 54 = .ok (.aload_n 0, 1) := by decide +kernel
theorem d_M_collect_55 : decode prog_7_method_36_code 55 = .ok (.getfield 20, 3) := by decide +kernel
theorem d_M_collect_58 : decode prog_7_method_36_code 58 = .ok (.iload_n 1, 1) := by decide +kernel
theorem d_M_collect_59 : decode prog_7_method_36_code 59 = .ok (.laload, 1) := by decide +kernel
theorem d_M_collect_60 : decode prog_7_method_36_code 60 = .ok (.lload_n 2, 1) := by decide +kernel
theorem d_M_collect_61 : decode prog_7_method_36_code 61 = .ok (.land, 1) := by decide +kernel
theorem d_M_collect_62 : decode prog_7_method_36_code 62 = .ok (.invokestatic 163, 3) := by decide +kernel
theorem d_M_collect_65 : decode prog_7_method_36_code 65 = .ok (.isub, 1) := by decide +kernel
theorem d_M_collect_66 : decode prog_7_method_36_code 66 = .ok (.istore 4, 2) := by decide +kernel
theorem d_M_collect_68 : decode prog_7_method_36_code 68 = .ok (.aload_n 0, 1) := by decide +kernel
theorem d_M_collect_69 : decode prog_7_method_36_code 69 = .ok (.getfield 20, 3) := by decide +kernel
theorem d_M_collect_72 : decode prog_7_method_36_code 72 = .ok (.iload_n 1, 1) := by decide +kernel
theorem d_M_collect_73 : decode prog_7_method_36_code 73 = .ok (.aload_n 0, 1) := by decide +kernel
theorem d_M_collect_74 : decode prog_7_method_36_code 74 = .ok (.getfield 20, 3) := by decide +kernel
theorem d_M_collect_77 : decode prog_7_method_36_code 77 = .ok (.iload_n 1, 1) := by decide +kernel
theorem d_M_collect_78 : decode prog_7_method_36_code 78 = .ok (.laload, 1) := by decide +kernel
theorem d_M_collect_79 : decode prog_7_method_36_code 79 = .ok (.lload_n 2, 1) := by decide +kernel
theorem d_M_collect_80 : decode prog_7_method_36_code 80 = .ok (.land, 1) := by decide +kernel
theorem d_M_collect_81 : decode prog_7_method_36_code 81 = .ok (.lastore, 1) := by decide +kernel
theorem d_M_collect_82 : decode prog_7_method_36_code 82 = .ok (.iload 4, 2) := by decide +kernel
theorem d_M_collect_84 : decode prog_7_method_36_code 84 = .ok (.ireturn, 1) := by decide +kernel
theorem d_M_many_0 : decode prog_7_method_35_code 0 = .ok (.iconst 0, 1) := by decide +kernel
theorem d_M_many_1 : decode prog_7_method_35_code 1 = .ok (.istore_n 2, 1) := by decide +kernel
theorem d_M_many_2 : decode prog_7_method_35_code 2 = .ok (.iconst 0, 1) := by decide +kernel
theorem d_M_many_3 : decode prog_7_method_35_code 3 = .ok (.istore_n 3, 1) := by decide +kernel
theorem d_M_many_4 : decode prog_7_method_35_code 4 = .ok (.iload_n 3, 1) := by decide +kernel
theorem d_M_many_5 : decode prog_7_method_35_code 5 = .ok (.bipush 40, 2) := by decide +kernel
theorem d_M_many_7 : decode prog_7_method_35_code 7 = .ok (.if_icmp .ge 18, 3) := by decide +kernel
theorem d_M_many_10 : decode prog_7_method_35_code 10 = .ok (.iload_n 2, 1) := by decide +kernel
theorem d_M_many_11 : decode prog_7_method_35_code 11 = .ok (.lload_n 0, 1) := by decide +kernel
theorem d_M_many_12 : decode prog_7_method_35_code 12 = .ok (.iload_n 3, 1) := by decide +kernel
theorem d_M_many_13 : decode prog_7_method_35_code 13 = .ok (.lshr, 1) := by decide +kernel
theorem d_M_many_14 : decode prog_7_method_35_code 14 = .ok (.lconst 1, 1) := by decide +kernel
theorem d_M_many_15 : decode prog_7_method_35_code 15 = .ok (.land, 1) := by decide +kernel
theorem d_M_many_16 : decode prog_7_method_35_code 16 = .ok (.l2i, 1) := by decide +kernel
theorem d_M_many_17 : decode prog_7_method_35_code 17 = .ok (.iadd, 1) := by decide +kernel
theorem d_M_many_18 : decode prog_7_method_35_code 18 = .ok (.istore_n 2, 1) := by decide +kernel
theorem d_M_many_19 : decode prog_7_method_35_code 19 = .ok (.iinc 3 1, 3) := by decide +kernel
theorem d_M_many_22 : decode prog_7_method_35_code 22 = .ok (.goto (-18), 3) := by decide +kernel
theorem d_M_many_25 : decode prog_7_method_35_code 25 = .ok (.iload_n 2, 1) := by decide +kernel
theorem d_M_many_26 : decode prog_7_method_35_code 26 = .ok (.ireturn, 1) := by decide +kernel
theorem d_M_send_0 : decode prog_7_method_37_code 0 = .ok (.iload_n 1, 1) := by decide +kernel
theorem d_M_send_1 : decode prog_7_method_37_code 1 = .ok (.iconst 2, 1) := by decide +kernel
theorem d_M_send_2 : decode prog_7_method_37_code 2 = .ok (.invokestatic 123, 3) := by decide +kernel
theorem d_M_send_5 : decode prog_7_method_37_code 5 = .ok (.ifCond .ne 11, 3) := by decide +kernel
theorem d_M_send_8 : decode prog_7_method_37_code 8 = .ok (.iload_n 2, 1) := by decide +kernel
theorem d_M_send_9 : decode prog_7_method_37_code 9 = .ok (.iconst 4, 1) := by decide +kernel
theorem d_M_send_10 : decode prog_7_method_37_code 10 = .ok (.invokestatic 123, 3) := by decide +kernel
theorem d_M_send_13 : decode prog_7_method_37_code 13 = .ok (.ifCond .eq 5, 3) := by decide +kernel
theorem d_M_send_16 : decode prog_7_method_37_code 16 = .ok (.iconst (-1), 1) := by decide +kernel
theorem d_M_send_17 : decode prog_7_method_37_code 17 = .ok (.ireturn, 1) := by decide +kernel
theorem d_M_send_18 : decode prog_7_method_37_code 18 = .ok (.aload_n 0, 1) := by decide +kernel
theorem d_M_send_19 : decode prog_7_method_37_code 19 = .ok (.iload_n 1, 1) := by decide +kernel
theorem d_M_send_20 : decode prog_7_method_37_code 20 = .ok (.iload_n 2, 1) := by decide +kernel
theorem d_M_send_21 : decode prog_7_method_37_code 21 = .ok (.invokevirtual 130, 3) := by decide +kernel
theorem d_M_send_24 : decode prog_7_method_37_code 24 = .ok (.ifCond .ne 6, 3) := by decide +kernel
theorem d_M_send_27 : decode prog_7_method_37_code 27 = .ok (.bipush (-2), 2) := by decide +kernel
theorem d_M_send_29 : decode prog_7_method_37_code 29 = .ok (.ireturn, 1) := by decide +kernel
theorem d_M_send_30 : decode prog_7_method_37_code 30 = .ok (.iconst 1, 1) := by decide +kernel
theorem d_M_send_31 : decode prog_7_method_37_code 31 = .ok (.iload_n 1, 1) := by decide +kernel
theorem d_M_send_32 : decode prog_7_method_37_code 32 = .ok (.isub, 1) := by decide +kernel
theorem d_M_send_33 : decode prog_7_method_37_code 33 = .ok (.istore_n 3, 1) := by decide +kernel
theorem d_M_send_34 : decode prog_7_method_37_code 34 = .ok (.aload_n 0, 1) := by decide +kernel
theorem d_M_send_35 : decode prog_7_method_37_code 35 = .ok (.getfield 26, 3) := by decide +kernel
theorem d_M_send_38 : decode prog_7_method_37_code 38 = .ok (.iload_n 3, 1) := by decide +kernel
theorem d_M_send_39 : decode prog_7_method_37_code 39 = .ok (.iaload, 1) := by decide +kernel
theorem d_M_send_40 : decode prog_7_method_37_code 40 = .ok (.iload_n 2, 1) := by decide +kernel
theorem d_M_send_41 : decode prog_7_method_37_code 41 = .ok (.if_icmp .ne 6, 3) := by decide +kernel
theorem d_M_send_44 : decode prog_7_method_37_code 44 = .ok (.bipush (-3), 2) := by decide +kernel
theorem d_M_send_46 : decode prog_7_method_37_code 46 = .ok (.ireturn, 1) := by decide +kernel
theorem d_M_send_47 : decode prog_7_method_37_code 47 = .ok (.aload_n 0, 1) := by decide +kernel
theorem d_M_send_48 : decode prog_7_method_37_code 48 = .ok (.aload_n 0, 1) := by decide +kernel
theorem d_M_send_49 : decode prog_7_method_37_code 49 = .ok (.getfield 23, 3) := by decide +kernel
theorem d_M_send_52 : decode prog_7_method_37_code 52 = .ok (.iconst 4, 1) := by decide +kernel
theorem d_M_send_53 : decode prog_7_method_37_code 53 = .ok (.iload_n 1, 1) := by decide +kernel
theorem d_M_send_54 : decode prog_7_method_37_code 54 = .ok (.imul, 1) := by decide +kernel
theorem d_M_send_55 : decode prog_7_method_37_code 55 = .ok (.iload_n 2, 1) := by decide +kernel
theorem d_M_send_56 : decode prog_7_method_37_code 56 = .ok (.iadd, 1) := by decide +kernel
theorem d_M_send_57 : decode prog_7_method_37_code 57 = .ok (.iaload, 1) := by decide +kernel
theorem d_M_send_58 : decode prog_7_method_37_code 58 = .ok (.invokevirtual 100, 3) := by decide +kernel
theorem d_M_send_61 : decode prog_7_method_37_code 61 = .ok (.lstore 4, 2) := by decide +kernel
theorem d_M_send_63 : decode prog_7_method_37_code 63 = .ok (.aload_n 0, 1) := by decide +kernel
theorem d_M_send_64 : decode prog_7_method_37_code 64 = .ok (.getfield 23, 3) := by decide +kernel
theorem d_M_send_67 : decode prog_7_method_37_code 67 = .ok (.iconst 4, 1) := by decide +kernel
theorem d_M_send_68 : decode prog_7_method_37_code 68 = .ok (.iload_n 3, 1) := by decide +kernel
theorem d_M_send_69 : decode prog_7_method_37_code 69 = .ok (.imul, 1) := by decide +kernel
theorem d_M_send_70 : decode prog_7_method_37_code 70 = .ok (.iload_n 2, 1) := by decide +kernel
theorem d_M_send_71 : decode prog_7_method_37_code 71 = .ok (.iadd, 1) := by decide +kernel
theorem d_M_send_72 : decode prog_7_method_37_code 72 = .ok (.iaload, 1) := by decide +kernel
theorem d_M_send_73 : decode prog_7_method_37_code 73 = .ok (.istore 6, 2) := by decide +kernel
theorem d_M_send_75 : decode prog_7_method_37_code 75 = .ok (.iload 6, 2) := by decide +kernel
theorem d_M_send_77 : decode prog_7_method_37_code 77 = .ok (.ifCond .lt 18, 3) := by decide +kernel
theorem d_M_send_80 : decode prog_7_method_37_code 80 = .ok (.lload 4, 2) := by decide +kernel
theorem d_M_send_82 : decode prog_7_method_37_code 82 = .ok (.iload 6, 2) := by decide +kernel
theorem d_M_send_84 : decode prog_7_method_37_code 84 = .ok (.lshr, 1) := by decide +kernel
theorem d_M_send_85 : decode prog_7_method_37_code 85 = .ok (.lconst 1, 1) := by decide +kernel
theorem d_M_send_86 : decode prog_7_method_37_code 86 = .ok (.land, 1) := by decide +kernel
theorem d_M_send_87 : decode prog_7_method_37_code 87 = .ok (.lconst 0, 1) := by decide +kernel
theorem d_M_send_88 : decode prog_7_method_37_code 88 = .ok (.lcmp, 1) := by decide +kernel
theorem d_M_send_89 : decode prog_7_method_37_code 89 = .ok (.ifCond .ne 6, 3) := by decide +kernel
theorem d_M_send_92 : decode prog_7_method_37_code 92 = .ok (.bipush (-7), 2) := by decide +kernel
theorem d_M_send_94 : decode prog_7_method_37_code 94 = .ok (.ireturn, 1) := by decide +kernel
theorem d_M_send_95 : decode prog_7_method_37_code 95 = .ok (.lload 4, 2) := by decide +kernel
theorem d_M_send_97 : decode prog_7_method_37_code 97 = .ok (.aload_n 0, 1) := by decide +kernel
theorem d_M_send_98 : decode prog_7_method_37_code 98 = .ok (.getfield 20, 3) := by decide +kernel
theorem d_M_send_101 : decode prog_7_method_37_code 101 = .ok (.iload_n 3, 1) := by decide +kernel
theorem d_M_send_102 : decode prog_7_method_37_code 102 = .ok (.laload, 1) := by decide +kernel
theorem d_M_send_103 : decode prog_7_method_37_code 103 = .ok (.ldc2_w 158, 3) := by decide +kernel
theorem d_M_send_106 : decode prog_7_method_37_code 106 = .ok (.lxor, 1) := by decide +kernel
theorem d_M_send_107 : decode prog_7_method_37_code 107 = .ok (.land, 1) := by decide +kernel
theorem d_M_send_108 : decode prog_7_method_37_code 108 = .ok (.invokestatic 163, 3) := by decide +kernel
theorem d_M_send_111 : decode prog_7_method_37_code 111 = .ok (.istore 7, 2) := by decide +kernel
theorem d_M_send_113 : decode prog_7_method_37_code 113 = .ok (.aload_n 0, 1) := by decide +kernel
theorem d_M_send_114 : decode prog_7_method_37_code 114 = .ok (.getfield 20, 3) := by decide +kernel
theorem d_M_send_117 : decode prog_7_method_37_code 117 = .ok (.iload_n 3, 1) := by decide +kernel
theorem d_M_send_118 : decode prog_7_method_37_code 118 = .ok (.aload_n 0, 1) := by decide +kernel
theorem d_M_send_119 : decode prog_7_method_37_code 119 = .ok (.getfield 20, 3) := by decide +kernel
theorem d_M_send_122 : decode prog_7_method_37_code 122 = .ok (.iload_n 3, 1) := by decide +kernel
theorem d_M_send_123 : decode prog_7_method_37_code 123 = .ok (.laload, 1) := by decide +kernel
theorem d_M_send_124 : decode prog_7_method_37_code 124 = .ok (.lload 4, 2) := by decide +kernel
theorem d_M_send_126 : decode prog_7_method_37_code 126 = .ok (.lor, 1) := by decide +kernel
theorem d_M_send_127 : decode prog_7_method_37_code 127 = .ok (.lastore, 1) := by decide +kernel
theorem d_M_send_128 : decode prog_7_method_37_code 128 = .ok (.aload_n 0, 1) := by decide +kernel
theorem d_M_send_129 : decode prog_7_method_37_code 129 = .ok (.getfield 23, 3) := by decide +kernel
theorem d_M_send_132 : decode prog_7_method_37_code 132 = .ok (.iconst 4, 1) := by decide +kernel
theorem d_M_send_133 : decode prog_7_method_37_code 133 = .ok (.iload_n 3, 1) := by decide +kernel
theorem d_M_send_134 : decode prog_7_method_37_code 134 = .ok (.imul, 1) := by decide +kernel
theorem d_M_send_135 : decode prog_7_method_37_code 135 = .ok (.iload_n 2, 1) := by decide +kernel
theorem d_M_send_136 : decode prog_7_method_37_code 136 = .ok (.iadd, 1) := by decide +kernel
theorem d_M_send_137 : decode prog_7_method_37_code 137 = .ok (.aload_n 0, 1) := by decide +kernel
theorem d_M_send_138 : decode prog_7_method_37_code 138 = .ok (.getfield 23, 3) := by decide +kernel
theorem d_M_send_141 : decode prog_7_method_37_code 141 = .ok (.iconst 4, 1) := by decide +kernel
theorem d_M_send_142 : decode prog_7_method_37_code 142 = .ok (.iload_n 1, 1) := by decide +kernel
theorem d_M_send_143 : decode prog_7_method_37_code 143 = .ok (.imul, 1) := by decide +kernel
theorem d_M_send_144 : decode prog_7_method_37_code 144 = .ok (.iload_n 2, 1) := by decide +kernel
theorem d_M_send_145 : decode prog_7_method_37_code 145 = .ok (.iadd, 1) := by decide +kernel
theorem d_M_send_146 : decode prog_7_method_37_code 146 = .ok (.iaload, 1) := by decide +kernel
theorem d_M_send_147 : decode prog_7_method_37_code 147 = .ok (.iastore, 1) := by decide +kernel
theorem d_M_send_148 : decode prog_7_method_37_code 148 = .ok (.iload 7, 2) := by decide +kernel
theorem d_M_send_150 : decode prog_7_method_37_code 150 = .ok (.ireturn, 1) := by decide +kernel
