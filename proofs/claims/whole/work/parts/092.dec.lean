/-! Decode rows. (Printed by gen_names.py.) -/
theorem d_V_doAllAgain_0 : decode prog_1_method_32_code 0 = .ok (.iload_n 3, 1) := by decide +kernel
theorem d_V_doAllAgain_1 : decode prog_1_method_32_code 1 = .ok (.istore 4, 2) := by decide +kernel
theorem d_V_doAllAgain_3 : decode prog_1_method_32_code 3 = .ok (.iconst 0, 1) := by decide +kernel
theorem d_V_doAllAgain_4 : decode prog_1_method_32_code 4 = .ok (.istore 5, 2) := by decide +kernel
theorem d_V_doAllAgain_6 : decode prog_1_method_32_code 6 = .ok (.iload 5, 2) := by decide +kernel
theorem d_V_doAllAgain_8 : decode prog_1_method_32_code 8 = .ok (.bipush 40, 2) := by decide +kernel
theorem d_V_doAllAgain_10 : decode prog_1_method_32_code 10 = .ok (.if_icmp .ge 61, 3) := by decide +kernel
theorem d_V_doAllAgain_13 : decode prog_1_method_32_code 13 = .ok (.lload_n 1, 1) := by decide +kernel
theorem d_V_doAllAgain_14 : decode prog_1_method_32_code 14 = .ok (.iload 5, 2) := by decide +kernel
theorem d_V_doAllAgain_16 : decode prog_1_method_32_code 16 = .ok (.invokestatic 145, 3) := by decide +kernel
theorem d_V_doAllAgain_19 : decode prog_1_method_32_code 19 = .ok (.ifCond .eq 46, 3) := by decide +kernel
theorem d_V_doAllAgain_22 : decode prog_1_method_32_code 22 = .ok (.aload_n 0, 1) := by decide +kernel
theorem d_V_doAllAgain_23 : decode prog_1_method_32_code 23 = .ok (.iload 5, 2) := by decide +kernel
theorem d_V_doAllAgain_25 : decode prog_1_method_32_code 25 = .ok (.iload 4, 2) := by decide +kernel
theorem d_V_doAllAgain_27 : decode prog_1_method_32_code 27 = .ok (.invokevirtual 106, 3) := by decide +kernel
theorem d_V_doAllAgain_30 : decode prog_1_method_32_code 30 = .ok (.istore 6, 2) := by decide +kernel
theorem d_V_doAllAgain_32 : decode prog_1_method_32_code 32 = .ok (.iload 6, 2) := by decide +kernel
theorem d_V_doAllAgain_34 : decode prog_1_method_32_code 34 = .ok (.bipush (-5), 2) := by decide +kernel
theorem d_V_doAllAgain_36 : decode prog_1_method_32_code 36 = .ok (.if_icmp .eq 10, 3) := by decide +kernel
theorem d_V_doAllAgain_39 : decode prog_1_method_32_code 39 = .ok (.iload 6, 2) := by decide +kernel
theorem d_V_doAllAgain_41 : decode prog_1_method_32_code 41 = .ok (.bipush (-6), 2) := by decide +kernel
theorem d_V_doAllAgain_43 : decode prog_1_method_32_code 43 = .ok (.if_icmp .ne 6, 3) := by decide +kernel
theorem d_V_doAllAgain_46 : decode prog_1_method_32_code 46 = .ok (.iload 6, 2) := by decide +kernel
theorem d_V_doAllAgain_48 : decode prog_1_method_32_code 48 = .ok (.ireturn, 1) := by decide +kernel
theorem d_V_doAllAgain_49 : decode prog_1_method_32_code 49 = .ok (.iload 6, 2) := by decide +kernel
theorem d_V_doAllAgain_51 : decode prog_1_method_32_code 51 = .ok (.bipush (-4), 2) := by decide +kernel
theorem d_V_doAllAgain_53 : decode prog_1_method_32_code 53 = .ok (.if_icmp .ne 8, 3) := by decide +kernel
theorem d_V_doAllAgain_56 : decode prog_1_method_32_code 56 = .ok (.iload 4, 2) := by decide +kernel
theorem d_V_doAllAgain_58 : decode prog_1_method_32_code 58 = .ok (.goto 5, 3) := by decide +kernel
theorem d_V_doAllAgain_61 : decode prog_1_method_32_code 61 = .ok (.iload 6, 2) := by decide +kernel
theorem d_V_doAllAgain_63 : decode prog_1_method_32_code 63 = .ok (.istore 4, 2) := by decide +kernel
theorem d_V_doAllAgain_65 : decode prog_1_method_32_code 65 = .ok (.iinc 5 1, 3) := by decide +kernel
theorem d_V_doAllAgain_68 : decode prog_1_method_32_code 68 = .ok (.goto (-62), 3) := by decide +kernel
theorem d_V_doAllAgain_71 : decode prog_1_method_32_code 71 = .ok (.iload 4, 2) := by decide +kernel
theorem d_V_doAllAgain_73 : decode prog_1_method_32_code 73 = .ok (.ireturn, 1) := by decide +kernel
theorem d_V_collect_0 : decode prog_1_method_12_code 0 = .ok (.iload_n 1, 1) := by decide +kernel
theorem d_V_collect_1 : decode prog_1_method_12_code 1 = .ok (.invokestatic 30, 3) := by decide +kernel
theorem d_V_collect_4 : decode prog_1_method_12_code 4 = .ok (.ifCond .ne 5, 3) := by decide +kernel
theorem d_V_collect_7 : decode prog_1_method_12_code 7 = .ok (.iconst (-1), 1) := by decide +kernel
theorem d_V_collect_8 : decode prog_1_method_12_code 8 = .ok (.ireturn, 1) := by decide +kernel
theorem d_V_collect_9 : decode prog_1_method_12_code 9 = .ok (.aload_n 0, 1) := by decide +kernel
theorem d_V_collect_10 : decode prog_1_method_12_code 10 = .ok (.getfield 18, 3) := by decide +kernel
theorem d_V_collect_13 : decode prog_1_method_12_code 13 = .ok (.iload_n 1, 1) := by decide +kernel
theorem d_V_collect_14 : decode prog_1_method_12_code 14 = .ok (.aaload, 1) := by decide +kernel
theorem d_V_collect_15 : decode prog_1_method_12_code 15 = .ok (.astore_n 2, 1) := by decide +kernel
theorem d_V_collect_16 : decode prog_1_method_12_code 16 = .ok (.lconst 0, 1) := by decide +kernel
theorem d_V_collect_17 : decode prog_1_method_12_code 17 = .ok (.lstore_n 3, 1) := by decide +kernel
theorem d_V_collect_18 : decode prog_1_method_12_code 18 = .ok (.iconst 0, 1) := by decide +kernel
theorem d_V_collect_19 : decode prog_1_method_12_code 19 = .ok (.istore 5, 2) := by decide +kernel
theorem d_V_collect_21 : decode prog_1_method_12_code 21 = .ok (.iload 5, 2) := by decide +kernel
theorem d_V_collect_23 : decode prog_1_method_12_code 23 = .ok (.iconst 4, 1) := by decide +kernel
theorem d_V_collect_24 : decode prog_1_method_12_code 24 = .ok (.if_icmp .ge 26, 3) := by decide +kernel
theorem d_V_collect_27 : decode prog_1_method_12_code 27 = .ok (.lload_n 3, 1) := by decide +kernel
theorem d_V_collect_28 : decode prog_1_method_12_code 28 = .ok (.aload_n 0, 1) := by decide +kernel
theorem d_V_collect_29 : decode prog_1_method_12_code 29 = .ok (.getfield 10, 3) := by decide +kernel
theorem d_V_collect_32 : decode prog_1_method_12_code 32 = .ok (.aload_n 2, 1) := by decide +kernel
theorem d_V_collect_33 : decode prog_1_method_12_code 33 = .ok (.getfield 72, 3) := by decide +kernel
theorem d_V_collect_36 : decode prog_1_method_12_code 36 = .ok (.iload 5, 2) := by decide +kernel
theorem d_V_collect_38 : decode prog_1_method_12_code 38 = .ok (.iaload, 1) := by decide +kernel
theorem d_V_collect_39 : decode prog_1_method_12_code 39 = .ok (.invokevirtual 68, 3) := by decide +kernel
theorem d_V_collect_42 : decode prog_1_method_12_code 42 = .ok (.lor, 1) := by decide +kernel
theorem d_V_collect_43 : decode prog_1_method_12_code 43 = .ok (.lstore_n 3, 1) := by decide +kernel
theorem d_V_collect_44 : decode prog_1_method_12_code 44 = .ok (.iinc 5 1, 3) := by decide +kernel
theorem d_V_collect_47 : decode prog_1_method_12_code 47 = .ok (.goto (-26), 3) := by decide +kernel
theorem d_V_collect_50 : decode prog_1_method_12_code 50 = .ok (.aload_n 2, 1) := by decide +kernel
theorem d_V_collect_51 : decode prog_1_method_12_code 51 = .ok (.getfield 64, 3) := by decide +kernel
theorem d_V_collect_54 : decode prog_1_method_12_code 54 = .ok (.lload_n 3, 1) := by decide +kernel
theorem d_V_collect_55 : decode prog_1_method_12_code 55 = .ok (.ldc2_w 109, 3) := by decide +kernel
theorem d_V_collect_58 : decode prog_1_method_12_code 58 = .ok (.lxor, 1) := by decide +kernel
theorem d_V_collect_59 : decode prog_1_method_12_code 59 = .ok (.land, 1) := by decide +kernel
theorem d_V_collect_60 : decode prog_1_method_12_code 60 = .ok (.invokestatic 122, 3) := by decide +kernel
theorem d_V_collect_63 : decode prog_1_method_12_code 63 = .ok (.istore 5, 2) := by decide +kernel
theorem d_V_collect_65 : decode prog_1_method_12_code 65 = .ok (.aload_n 2, 1) := by decide +kernel
theorem d_V_collect_66 : decode prog_1_method_12_code 66 = .ok (.dup, 1) := by decide +kernel
theorem d_V_collect_67 : decode prog_1_method_12_code 67 = .ok (.getfield 64, 3) := by decide +kernel
theorem d_V_collect_70 : decode prog_1_method_12_code 70 = .ok (.lload_n 3, 1) := by decide +kernel
theorem d_V_collect_71 : decode prog_1_method_12_code 71 = .ok (.land, 1) := by decide +kernel
theorem d_V_collect_72 : decode prog_1_method_12_code 72 = .ok (.putfield 64, 3) := by decide +kernel
theorem d_V_collect_75 : decode prog_1_method_12_code 75 = .ok (.iload 5, 2) := by decide +kernel
theorem d_V_collect_77 : decode prog_1_method_12_code 77 = .ok (.ireturn, 1) := by decide +kernel
theorem d_V_send_0 : decode prog_1_method_13_code 0 = .ok (.iload_n 1, 1) := by decide +kernel
theorem d_V_send_1 : decode prog_1_method_13_code 1 = .ok (.invokestatic 30, 3) := by decide +kernel
theorem d_V_send_4 : decode prog_1_method_13_code 4 = .ok (.ifCond .eq 10, 3) := by decide +kernel
theorem d_V_send_7 : decode prog_1_method_13_code 7 = .ok (.iload_n 2, 1) := by decide +kernel
theorem d_V_send_8 : decode prog_1_method_13_code 8 = .ok (.invokestatic 80, 3) := by decide +kernel
theorem d_V_send_11 : decode prog_1_method_13_code 11 = .ok (.ifCond .ne 5, 3) := by decide +kernel
theorem d_V_send_14 : decode prog_1_method_13_code 14 = .ok (.iconst (-1), 1) := by decide +kernel
theorem d_V_send_15 : decode prog_1_method_13_code 15 = .ok (.ireturn, 1) := by decide +kernel
theorem d_V_send_16 : decode prog_1_method_13_code 16 = .ok (.aload_n 0, 1) := by decide +kernel
theorem d_V_send_17 : decode prog_1_method_13_code 17 = .ok (.getfield 18, 3) := by decide +kernel
theorem d_V_send_20 : decode prog_1_method_13_code 20 = .ok (.iload_n 1, 1) := by decide +kernel
theorem d_V_send_21 : decode prog_1_method_13_code 21 = .ok (.aaload, 1) := by decide +kernel
theorem d_V_send_22 : decode prog_1_method_13_code 22 = .ok (.getfield 72, 3) := by decide +kernel
theorem d_V_send_25 : decode prog_1_method_13_code 25 = .ok (.iload_n 2, 1) := by decide +kernel
theorem d_V_send_26 : decode prog_1_method_13_code 26 = .ok (.iaload, 1) := by decide +kernel
theorem d_V_send_27 : decode prog_1_method_13_code 27 = .ok (.istore_n 3, 1) := by decide +kernel
theorem d_V_send_28 : decode prog_1_method_13_code 28 = .ok (.iload_n 3, 1) := by decide +kernel
theorem d_V_send_29 : decode prog_1_method_13_code 29 = .ok (.bipush (-2), 2) := by decide +kernel
theorem d_V_send_31 : decode prog_1_method_13_code 31 = .ok (.if_icmp .ne 6, 3) := by decide +kernel
theorem d_V_send_34 : decode prog_1_method_13_code 34 = .ok (.bipush (-2), 2) := by decide +kernel
theorem d_V_send_36 : decode prog_1_method_13_code 36 = .ok (.ireturn, 1) := by decide +kernel
theorem d_V_send_37 : decode prog_1_method_13_code 37 = .ok (.aload_n 0, 1) := by decide +kernel
theorem d_V_send_38 : decode prog_1_method_13_code 38 = .ok (.getfield 18, 3) := by decide +kernel
theorem d_V_send_41 : decode prog_1_method_13_code 41 = .ok (.iconst 1, 1) := by decide +kernel
theorem d_V_send_42 : decode prog_1_method_13_code 42 = .ok (.iload_n 1, 1) := by decide +kernel
theorem d_V_send_43 : decode prog_1_method_13_code 43 = .ok (.isub, 1) := by decide +kernel
theorem d_V_send_44 : decode prog_1_method_13_code 44 = .ok (.aaload, 1) := by decide +kernel
theorem d_V_send_45 : decode prog_1_method_13_code 45 = .ok (.astore 4, 2) := by decide +kernel
theorem d_V_send_47 : decode prog_1_method_13_code 47 = .ok (.aload 4, 2) := by decide +kernel
theorem d_V_send_49 : decode prog_1_method_13_code 49 = .ok (.getfield 76, 3) := by decide +kernel
theorem d_V_send_52 : decode prog_1_method_13_code 52 = .ok (.iload_n 2, 1) := by decide +kernel
theorem d_V_send_53 : decode prog_1_method_13_code 53 = .ok (.if_icmp .ne 6, 3) := by decide +kernel
theorem d_V_send_56 : decode prog_1_method_13_code 56 = .ok (.bipush (-3), 2) := by decide +kernel
theorem d_V_send_58 : decode prog_1_method_13_code 58 = .ok (.ireturn, 1) := by decide +kernel
theorem d_V_send_59 : decode prog_1_method_13_code 59 = .ok (.aload 4, 2) := by decide +kernel
theorem d_V_send_61 : decode prog_1_method_13_code 61 = .ok (.getfield 72, 3) := by decide +kernel
theorem d_V_send_64 : decode prog_1_method_13_code 64 = .ok (.iload_n 2, 1) := by decide +kernel
theorem d_V_send_65 : decode prog_1_method_13_code 65 = .ok (.iaload, 1) := by decide +kernel
theorem d_V_send_66 : decode prog_1_method_13_code 66 = .ok (.istore 5, 2) := by decide +kernel
theorem d_V_send_68 : decode prog_1_method_13_code 68 = .ok (.iload 5, 2) := by decide +kernel
theorem d_V_send_70 : decode prog_1_method_13_code 70 = .ok (.bipush (-2), 2) := by decide +kernel
theorem d_V_send_72 : decode prog_1_method_13_code 72 = .ok (.if_icmp .eq 19, 3) := by decide +kernel
theorem d_V_send_75 : decode prog_1_method_13_code 75 = .ok (.aload_n 0, 1) := by decide +kernel
theorem d_V_send_76 : decode prog_1_method_13_code 76 = .ok (.getfield 10, 3) := by decide +kernel
theorem d_V_send_79 : decode prog_1_method_13_code 79 = .ok (.iload_n 3, 1) := by decide +kernel
theorem d_V_send_80 : decode prog_1_method_13_code 80 = .ok (.iload 5, 2) := by decide +kernel
theorem d_V_send_82 : decode prog_1_method_13_code 82 = .ok (.invokevirtual 95, 3) := by decide +kernel
theorem d_V_send_85 : decode prog_1_method_13_code 85 = .ok (.ifCond .ne 6, 3) := by decide +kernel
theorem d_V_send_88 : decode prog_1_method_13_code 88 = .ok (.bipush (-7), 2) := by decide +kernel
theorem d_V_send_90 : decode prog_1_method_13_code 90 = .ok (.ireturn, 1) := by decide +kernel
theorem d_V_send_91 : decode prog_1_method_13_code 91 = .ok (.aload_n 0, 1) := by decide +kernel
theorem d_V_send_92 : decode prog_1_method_13_code 92 = .ok (.getfield 10, 3) := by decide +kernel
theorem d_V_send_95 : decode prog_1_method_13_code 95 = .ok (.iload_n 3, 1) := by decide +kernel
theorem d_V_send_96 : decode prog_1_method_13_code 96 = .ok (.invokevirtual 68, 3) := by decide +kernel
theorem d_V_send_99 : decode prog_1_method_13_code 99 = .ok (.aload 4, 2) := by decide +kernel
theorem d_V_send_101 : decode prog_1_method_13_code 101 = .ok (.getfield 64, 3) := by decide +kernel
theorem d_V_send_104 : decode prog_1_method_13_code 104 = .ok (.ldc2_w 109, 3) := by decide +kernel
theorem d_V_send_107 : decode prog_1_method_13_code 107 = .ok (.lxor, 1) := by decide +kernel
theorem d_V_send_108 : decode prog_1_method_13_code 108 = .ok (.land, 1) := by decide +kernel
theorem d_V_send_109 : decode prog_1_method_13_code 109 = .ok (.invokestatic 122, 3) := by decide +kernel
theorem d_V_send_112 : decode prog_1_method_13_code 112 = .ok (.istore 6, 2) := by decide +kernel
theorem d_V_send_114 : decode prog_1_method_13_code 114 = .ok (.aload 4, 2) := by decide +kernel
theorem d_V_send_116 : decode prog_1_method_13_code 116 = .ok (.dup, 1) := by decide +kernel
theorem d_V_send_117 : decode prog_1_method_13_code 117 = .ok (.getfield 64, 3) := by decide +kernel
theorem d_V_send_120 : decode prog_1_method_13_code 120 = .ok (.aload_n 0, 1) := by decide +kernel
theorem d_V_send_121 : decode prog_1_method_13_code 121 = .ok (.getfield 10, 3) := by decide +kernel
theorem d_V_send_124 : decode prog_1_method_13_code 124 = .ok (.iload_n 3, 1) := by decide +kernel
theorem d_V_send_125 : decode prog_1_method_13_code 125 = .ok (.invokevirtual 68, 3) := by decide +kernel
theorem d_V_send_128 : decode prog_1_method_13_code 128 = .ok (.lor, 1) := by decide +kernel
theorem d_V_send_129 : decode prog_1_method_13_code 129 = .ok (.putfield 64, 3) := by decide +kernel
theorem d_V_send_132 : decode prog_1_method_13_code 132 = .ok (.aload 4, 2) := by decide +kernel
theorem d_V_send_134 : decode prog_1_method_13_code 134 = .ok (.getfield 72, 3) := by decide +kernel
theorem d_V_send_137 : decode prog_1_method_13_code 137 = .ok (.iload_n 2, 1) := by decide +kernel
theorem d_V_send_138 : decode prog_1_method_13_code 138 = .ok (.iload_n 3, 1) := by decide +kernel
theorem d_V_send_139 : decode prog_1_method_13_code 139 = .ok (.iastore, 1) := by decide +kernel
theorem d_V_send_140 : decode prog_1_method_13_code 140 = .ok (.iload 6, 2) := by decide +kernel
theorem d_V_send_142 : decode prog_1_method_13_code 142 = .ok (.ireturn, 1) := by decide +kernel
theorem d_V_current_0 : decode prog_1_method_14_code 0 = .ok (.iload_n 1, 1) := by decide +kernel
theorem d_V_current_1 : decode prog_1_method_14_code 1 = .ok (.invokestatic 30, 3) := by decide +kernel
theorem d_V_current_4 : decode prog_1_method_14_code 4 = .ok (.ifCond .eq 15, 3) := by decide +kernel
theorem d_V_current_7 : decode prog_1_method_14_code 7 = .ok (.aload_n 0, 1) := by decide +kernel
theorem d_V_current_8 : decode prog_1_method_14_code 8 = .ok (.getfield 18, 3) := by decide +kernel
theorem d_V_current_11 : decode prog_1_method_14_code 11 = .ok (.iload_n 1, 1) := by decide +kernel
theorem d_V_current_12 : decode prog_1_method_14_code 12 = .ok (.aaload, 1) := by decide +kernel
theorem d_V_current_13 : decode prog_1_method_14_code 13 = .ok (.getfield 76, 3) := by decide +kernel
theorem d_V_current_16 : decode prog_1_method_14_code 16 = .ok (.goto 4, 3) := by decide +kernel
theorem d_V_current_19 : decode prog_1_method_14_code 19 = .ok (.iconst (-1), 1) := by decide +kernel
theorem d_V_current_20 : decode prog_1_method_14_code 20 = .ok (.ireturn, 1) := by decide +kernel
theorem d_V_tip_0 : decode prog_1_method_15_code 0 = .ok (.iload_n 1, 1) := by decide +kernel
theorem d_V_tip_1 : decode prog_1_method_15_code 1 = .ok (.invokestatic 30, 3) := by decide +kernel
theorem d_V_tip_4 : decode prog_1_method_15_code 4 = .ok (.ifCond .eq 10, 3) := by decide +kernel
theorem d_V_tip_7 : decode prog_1_method_15_code 7 = .ok (.iload_n 2, 1) := by decide +kernel
theorem d_V_tip_8 : decode prog_1_method_15_code 8 = .ok (.invokestatic 80, 3) := by decide +kernel
theorem d_V_tip_11 : decode prog_1_method_15_code 11 = .ok (.ifCond .ne 5, 3) := by decide +kernel
theorem d_V_tip_14 : decode prog_1_method_15_code 14 = .ok (.iconst (-1), 1) := by decide +kernel
theorem d_V_tip_15 : decode prog_1_method_15_code 15 = .ok (.ireturn, 1) := by decide +kernel
theorem d_V_tip_16 : decode prog_1_method_15_code 16 = .ok (.aload_n 0, 1) := by decide +kernel
theorem d_V_tip_17 : decode prog_1_method_15_code 17 = .ok (.getfield 18, 3) := by decide +kernel
theorem d_V_tip_20 : decode prog_1_method_15_code 20 = .ok (.iload_n 1, 1) := by decide +kernel
theorem d_V_tip_21 : decode prog_1_method_15_code 21 = .ok (.aaload, 1) := by decide +kernel
theorem d_V_tip_22 : decode prog_1_method_15_code 22 = .ok (.getfield 72, 3) := by decide +kernel
theorem d_V_tip_25 : decode prog_1_method_15_code 25 = .ok (.iload_n 2, 1) := by decide +kernel
theorem d_V_tip_26 : decode prog_1_method_15_code 26 = .ok (.iaload, 1) := by decide +kernel
theorem d_V_tip_27 : decode prog_1_method_15_code 27 = .ok (.ireturn, 1) := by decide +kernel
theorem d_V_holds_0 : decode prog_1_method_16_code 0 = .ok (.iload_n 1, 1) := by decide +kernel
theorem d_V_holds_1 : decode prog_1_method_16_code 1 = .ok (.invokestatic 30, 3) := by decide +kernel
theorem d_V_holds_4 : decode prog_1_method_16_code 4 = .ok (.ifCond .eq 21, 3) := by decide +kernel
theorem d_V_holds_7 : decode prog_1_method_16_code 7 = .ok (.aload_n 0, 1) := by decide +kernel
theorem d_V_holds_8 : decode prog_1_method_16_code 8 = .ok (.aload_n 0, 1) := by decide +kernel
theorem d_V_holds_9 : decode prog_1_method_16_code 9 = .ok (.getfield 18, 3) := by decide +kernel
theorem d_V_holds_12 : decode prog_1_method_16_code 12 = .ok (.iload_n 1, 1) := by decide +kernel
theorem d_V_holds_13 : decode prog_1_method_16_code 13 = .ok (.aaload, 1) := by decide +kernel
theorem d_V_holds_14 : decode prog_1_method_16_code 14 = .ok (.iload_n 2, 1) := by decide +kernel
theorem d_V_holds_15 : decode prog_1_method_16_code 15 = .ok (.invokevirtual 102, 3) := by decide +kernel
theorem d_V_holds_18 : decode prog_1_method_16_code 18 = .ok (.ifCond .eq 7, 3) := by decide +kernel
theorem d_V_holds_21 : decode prog_1_method_16_code 21 = .ok (.iconst 1, 1) := by decide +kernel
theorem d_V_holds_22 : decode prog_1_method_16_code 22 = .ok (.goto 4, 3) := by decide +kernel
theorem d_V_holds_25 : decode prog_1_method_16_code 25 = .ok (.iconst 0, 1) := by decide +kernel
theorem d_V_holds_26 : decode prog_1_method_16_code 26 = .ok (.ireturn, 1) := by decide +kernel
theorem d_V_commits_0 : decode prog_1_method_17_code 0 = .ok (.aload_n 0, 1) := by decide +kernel
theorem d_V_commits_1 : decode prog_1_method_17_code 1 = .ok (.getfield 10, 3) := by decide +kernel
theorem d_V_commits_4 : decode prog_1_method_17_code 4 = .ok (.getfield 111, 3) := by decide +kernel
theorem d_V_commits_7 : decode prog_1_method_17_code 7 = .ok (.ireturn, 1) := by decide +kernel
theorem d_V_parent_0 : decode prog_1_method_18_code 0 = .ok (.aload_n 0, 1) := by decide +kernel
theorem d_V_parent_1 : decode prog_1_method_18_code 1 = .ok (.getfield 10, 3) := by decide +kernel
theorem d_V_parent_4 : decode prog_1_method_18_code 4 = .ok (.iload_n 1, 1) := by decide +kernel
theorem d_V_parent_5 : decode prog_1_method_18_code 5 = .ok (.invokevirtual 128, 3) := by decide +kernel
theorem d_V_parent_8 : decode prog_1_method_18_code 8 = .ok (.ifCond .eq 12, 3) := by decide +kernel
theorem d_V_parent_11 : decode prog_1_method_18_code 11 = .ok (.iload_n 2, 1) := by decide +kernel
theorem d_V_parent_12 : decode prog_1_method_18_code 12 = .ok (.ifCond .lt 8, 3) := by decide +kernel
theorem d_V_parent_15 : decode prog_1_method_18_code 15 = .ok (.iload_n 2, 1) := by decide +kernel
theorem d_V_parent_16 : decode prog_1_method_18_code 16 = .ok (.iconst 1, 1) := by decide +kernel
theorem d_V_parent_17 : decode prog_1_method_18_code 17 = .ok (.if_icmp .le 5, 3) := by decide +kernel
theorem d_V_parent_20 : decode prog_1_method_18_code 20 = .ok (.iconst (-1), 1) := by decide +kernel
theorem d_V_parent_21 : decode prog_1_method_18_code 21 = .ok (.ireturn, 1) := by decide +kernel
theorem d_V_parent_22 : decode prog_1_method_18_code 22 = .ok (.iload_n 2, 1) := by decide +kernel
theorem d_V_parent_23 : decode prog_1_method_18_code 23 = .ok (.ifCond .ne 14, 3) := by decide +kernel
theorem d_V_parent_26 : decode prog_1_method_18_code 26 = .ok (.aload_n 0, 1) := by decide +kernel
theorem d_V_parent_27 : decode prog_1_method_18_code 27 = .ok (.getfield 10, 3) := by decide +kernel
theorem d_V_parent_30 : decode prog_1_method_18_code 30 = .ok (.iload_n 1, 1) := by decide +kernel
theorem d_V_parent_31 : decode prog_1_method_18_code 31 = .ok (.invokevirtual 131, 3) := by decide +kernel
theorem d_V_parent_34 : decode prog_1_method_18_code 34 = .ok (.goto 11, 3) := by decide +kernel
theorem d_V_parent_37 : decode prog_1_method_18_code 37 = .ok (.aload_n 0, 1) := by decide +kernel
theorem d_V_parent_38 : decode prog_1_method_18_code 38 = .ok (.getfield 10, 3) := by decide +kernel
theorem d_V_parent_41 : decode prog_1_method_18_code 41 = .ok (.iload_n 1, 1) := by decide +kernel
theorem d_V_parent_42 : decode prog_1_method_18_code 42 = .ok (.invokevirtual 135, 3) := by decide +kernel
theorem d_V_parent_45 : decode prog_1_method_18_code 45 = .ok (.ireturn, 1) := by decide +kernel
theorem d_V_text_0 : decode prog_1_method_19_code 0 = .ok (.aload_n 0, 1) := by decide +kernel
theorem d_V_text_1 : decode prog_1_method_19_code 1 = .ok (.getfield 10, 3) := by decide +kernel
theorem d_V_text_4 : decode prog_1_method_19_code 4 = .ok (.iload_n 1, 1) := by decide +kernel
theorem d_V_text_5 : decode prog_1_method_19_code 5 = .ok (.invokevirtual 128, 3) := by decide +kernel
theorem d_V_text_8 : decode prog_1_method_19_code 8 = .ok (.ifCond .eq 10, 3) := by decide +kernel
theorem d_V_text_11 : decode prog_1_method_19_code 11 = .ok (.iload_n 2, 1) := by decide +kernel
theorem d_V_text_12 : decode prog_1_method_19_code 12 = .ok (.invokestatic 34, 3) := by decide +kernel
theorem d_V_text_15 : decode prog_1_method_19_code 15 = .ok (.ifCond .ne 7, 3) := by decide +kernel
theorem d_V_text_18 : decode prog_1_method_19_code 18 = .ok (.ldc2_w 109, 3) := by decide +kernel
theorem d_V_text_21 : decode prog_1_method_19_code 21 = .ok (.lreturn, 1) := by decide +kernel
theorem d_V_text_22 : decode prog_1_method_19_code 22 = .ok (.aload_n 0, 1) := by decide +kernel
theorem d_V_text_23 : decode prog_1_method_19_code 23 = .ok (.getfield 10, 3) := by decide +kernel
theorem d_V_text_26 : decode prog_1_method_19_code 26 = .ok (.iload_n 1, 1) := by decide +kernel
theorem d_V_text_27 : decode prog_1_method_19_code 27 = .ok (.iload_n 2, 1) := by decide +kernel
theorem d_V_text_28 : decode prog_1_method_19_code 28 = .ok (.invokevirtual 138, 3) := by decide +kernel
theorem d_V_text_31 : decode prog_1_method_19_code 31 = .ok (.lreturn, 1) := by decide +kernel
theorem d_V_working_0 : decode prog_1_method_20_code 0 = .ok (.iload_n 1, 1) := by decide +kernel
theorem d_V_working_1 : decode prog_1_method_20_code 1 = .ok (.invokestatic 30, 3) := by decide +kernel
theorem d_V_working_4 : decode prog_1_method_20_code 4 = .ok (.ifCond .eq 10, 3) := by decide +kernel
theorem d_V_working_7 : decode prog_1_method_20_code 7 = .ok (.iload_n 2, 1) := by decide +kernel
theorem d_V_working_8 : decode prog_1_method_20_code 8 = .ok (.invokestatic 34, 3) := by decide +kernel
theorem d_V_working_11 : decode prog_1_method_20_code 11 = .ok (.ifCond .ne 7, 3) := by decide +kernel
theorem d_V_working_14 : decode prog_1_method_20_code 14 = .ok (.ldc2_w 109, 3) := by decide +kernel
theorem d_V_working_17 : decode prog_1_method_20_code 17 = .ok (.lreturn, 1) := by decide +kernel
theorem d_V_working_18 : decode prog_1_method_20_code 18 = .ok (.aload_n 0, 1) := by decide +kernel
theorem d_V_working_19 : decode prog_1_method_20_code 19 = .ok (.getfield 18, 3) := by decide +kernel
theorem d_V_working_22 : decode prog_1_method_20_code 22 = .ok (.iload_n 1, 1) := by decide +kernel
theorem d_V_working_23 : decode prog_1_method_20_code 23 = .ok (.aaload, 1) := by decide +kernel
theorem d_V_working_24 : decode prog_1_method_20_code 24 = .ok (.getfield 37, 3) := by decide +kernel
theorem d_V_working_27 : decode prog_1_method_20_code 27 = .ok (.iload_n 2, 1) := by decide +kernel
theorem d_V_working_28 : decode prog_1_method_20_code 28 = .ok (.laload, 1) := by decide +kernel
theorem d_V_working_29 : decode prog_1_method_20_code 29 = .ok (.lreturn, 1) := by decide +kernel
theorem d_V_staged_0 : decode prog_1_method_21_code 0 = .ok (.iload_n 1, 1) := by decide +kernel
theorem d_V_staged_1 : decode prog_1_method_21_code 1 = .ok (.invokestatic 30, 3) := by decide +kernel
theorem d_V_staged_4 : decode prog_1_method_21_code 4 = .ok (.ifCond .eq 10, 3) := by decide +kernel
theorem d_V_staged_7 : decode prog_1_method_21_code 7 = .ok (.iload_n 2, 1) := by decide +kernel
theorem d_V_staged_8 : decode prog_1_method_21_code 8 = .ok (.invokestatic 34, 3) := by decide +kernel
theorem d_V_staged_11 : decode prog_1_method_21_code 11 = .ok (.ifCond .ne 7, 3) := by decide +kernel
theorem d_V_staged_14 : decode prog_1_method_21_code 14 = .ok (.ldc2_w 109, 3) := by decide +kernel
theorem d_V_staged_17 : decode prog_1_method_21_code 17 = .ok (.lreturn, 1) := by decide +kernel
theorem d_V_staged_18 : decode prog_1_method_21_code 18 = .ok (.aload_n 0, 1) := by decide +kernel
theorem d_V_staged_19 : decode prog_1_method_21_code 19 = .ok (.getfield 18, 3) := by decide +kernel
theorem d_V_staged_22 : decode prog_1_method_21_code 22 = .ok (.iload_n 1, 1) := by decide +kernel
theorem d_V_staged_23 : decode prog_1_method_21_code 23 = .ok (.aaload, 1) := by decide +kernel
theorem d_V_staged_24 : decode prog_1_method_21_code 24 = .ok (.getfield 49, 3) := by decide +kernel
theorem d_V_staged_27 : decode prog_1_method_21_code 27 = .ok (.iload_n 2, 1) := by decide +kernel
theorem d_V_staged_28 : decode prog_1_method_21_code 28 = .ok (.laload, 1) := by decide +kernel
theorem d_V_staged_29 : decode prog_1_method_21_code 29 = .ok (.lreturn, 1) := by decide +kernel
theorem d_V_base_0 : decode prog_1_method_22_code 0 = .ok (.aload_n 0, 1) := by decide +kernel
theorem d_V_base_1 : decode prog_1_method_22_code 1 = .ok (.getfield 10, 3) := by decide +kernel
theorem d_V_base_4 : decode prog_1_method_22_code 4 = .ok (.iload_n 1, 1) := by decide +kernel
theorem d_V_base_5 : decode prog_1_method_22_code 5 = .ok (.invokevirtual 128, 3) := by decide +kernel
theorem d_V_base_8 : decode prog_1_method_22_code 8 = .ok (.ifCond .eq 14, 3) := by decide +kernel
theorem d_V_base_11 : decode prog_1_method_22_code 11 = .ok (.aload_n 0, 1) := by decide +kernel
theorem d_V_base_12 : decode prog_1_method_22_code 12 = .ok (.getfield 10, 3) := by decide +kernel
theorem d_V_base_15 : decode prog_1_method_22_code 15 = .ok (.iload_n 2, 1) := by decide +kernel
theorem d_V_base_16 : decode prog_1_method_22_code 16 = .ok (.invokevirtual 128, 3) := by decide +kernel
theorem d_V_base_19 : decode prog_1_method_22_code 19 = .ok (.ifCond .ne 5, 3) := by decide +kernel
theorem d_V_base_22 : decode prog_1_method_22_code 22 = .ok (.iconst (-1), 1) := by decide +kernel
theorem d_V_base_23 : decode prog_1_method_22_code 23 = .ok (.ireturn, 1) := by decide +kernel
theorem d_V_base_24 : decode prog_1_method_22_code 24 = .ok (.aload_n 0, 1) := by decide +kernel
theorem d_V_base_25 : decode prog_1_method_22_code 25 = .ok (.getfield 10, 3) := by decide +kernel
theorem d_V_base_28 : decode prog_1_method_22_code 28 = .ok (.iload_n 1, 1) := by decide +kernel
theorem d_V_base_29 : decode prog_1_method_22_code 29 = .ok (.iload_n 2, 1) := by decide +kernel
theorem d_V_base_30 : decode prog_1_method_22_code 30 = .ok (.invokevirtual 142, 3) := by decide +kernel
theorem d_V_base_33 : decode prog_1_method_22_code 33 = .ok (.ireturn, 1) := by decide +kernel
theorem d_H_init_0 : decode prog_2_method_1_code 0 = .ok (.aload_n 0, 1) := by decide +kernel
theorem d_H_init_1 : decode prog_2_method_1_code 1 = .ok (.invokespecial 3, 3) := by decide +kernel
theorem d_H_init_4 : decode prog_2_method_1_code 4 = .ok (.aload_n 0, 1) := by decide +kernel
theorem d_H_init_5 : decode prog_2_method_1_code 5 = .ok (.sipush 160, 3) := by decide +kernel
theorem d_H_init_8 : decode prog_2_method_1_code 8 = .ok (.newarray .long, 2) := by decide +kernel
theorem d_H_init_10 : decode prog_2_method_1_code 10 = .ok (.putfield 9, 3) := by decide +kernel
theorem d_H_init_13 : decode prog_2_method_1_code 13 = .ok (.aload_n 0, 1) := by decide +kernel
theorem d_H_init_14 : decode prog_2_method_1_code 14 = .ok (.bipush 40, 2) := by decide +kernel
theorem d_H_init_16 : decode prog_2_method_1_code 16 = .ok (.newarray .int, 2) := by decide +kernel
theorem d_H_init_18 : decode prog_2_method_1_code 18 = .ok (.putfield 15, 3) := by decide +kernel
theorem d_H_init_21 : decode prog_2_method_1_code 21 = .ok (.aload_n 0, 1) := by decide +kernel
theorem d_H_init_22 : decode prog_2_method_1_code 22 = .ok (.bipush 40, 2) := by decide +kernel
theorem d_H_init_24 : decode prog_2_method_1_code 24 = .ok (.newarray .int, 2) := by decide +kernel
theorem d_H_init_26 : decode prog_2_method_1_code 26 = .ok (.putfield 19, 3) := by decide +kernel
theorem d_H_init_29 : decode prog_2_method_1_code 29 = .ok (.aload_n 0, 1) := by decide +kernel
theorem d_H_init_30 : decode prog_2_method_1_code 30 = .ok (.bipush 40, 2) := by decide +kernel
theorem d_H_init_32 : decode prog_2_method_1_code 32 = .ok (.newarray .long, 2) := by decide +kernel
theorem d_H_init_34 : decode prog_2_method_1_code 34 = .ok (.putfield 22, 3) := by decide +kernel
theorem d_H_init_37 : decode prog_2_method_1_code 37 = .ok (.aload_n 0, 1) := by decide +kernel
theorem d_H_init_38 : decode prog_2_method_1_code 38 = .ok (.iconst 0, 1) := by decide +kernel
theorem d_H_init_39 : decode prog_2_method_1_code 39 = .ok (.putfield 25, 3) := by decide +kernel
theorem d_H_init_42 : decode prog_2_method_1_code 42 = .ok (.return_, 1) := by decide +kernel
theorem d_H_hasSnapshot_0 : decode prog_2_method_7_code 0 = .ok (.iconst 0, 1) := by decide +kernel
theorem d_H_hasSnapshot_1 : decode prog_2_method_7_code 1 = .ok (.istore_n 3, 1) := by decide +kernel
theorem d_H_hasSnapshot_2 : decode prog_2_method_7_code 2 = .ok (.iload_n 3, 1) := by decide +kernel
theorem d_H_hasSnapshot_3 : decode prog_2_method_7_code 3 = .ok (.iconst 4, 1) := by decide +kernel
theorem d_H_hasSnapshot_4 : decode prog_2_method_7_code 4 = .ok (.if_icmp .ge 24, 3) := by decide +kernel
theorem d_H_hasSnapshot_7 : decode prog_2_method_7_code 7 = .ok (.aload_n 0, 1) := by decide +kernel
theorem d_H_hasSnapshot_8 : decode prog_2_method_7_code 8 = .ok (.iload_n 1, 1) := by decide +kernel
theorem d_H_hasSnapshot_9 : decode prog_2_method_7_code 9 = .ok (.iload_n 3, 1) := by decide +kernel
theorem d_H_hasSnapshot_10 : decode prog_2_method_7_code 10 = .ok (.invokevirtual 35, 3) := by decide +kernel
theorem d_H_hasSnapshot_13 : decode prog_2_method_7_code 13 = .ok (.aload_n 2, 1) := by decide +kernel
theorem d_H_hasSnapshot_14 : decode prog_2_method_7_code 14 = .ok (.iload_n 3, 1) := by decide +kernel
theorem d_H_hasSnapshot_15 : decode prog_2_method_7_code 15 = .ok (.laload, 1) := by decide +kernel
theorem d_H_hasSnapshot_16 : decode prog_2_method_7_code 16 = .ok (.lcmp, 1) := by decide +kernel
theorem d_H_hasSnapshot_17 : decode prog_2_method_7_code 17 = .ok (.ifCond .eq 5, 3) := by decide +kernel
theorem d_H_hasSnapshot_20 : decode prog_2_method_7_code 20 = .ok (.iconst 0, 1) := by decide +kernel
theorem d_H_hasSnapshot_21 : decode prog_2_method_7_code 21 = .ok (.ireturn, 1) := by decide +kernel
theorem d_H_hasSnapshot_22 : decode prog_2_method_7_code 22 = .ok (.iinc 3 1, 3) := by decide +kernel
theorem d_H_hasSnapshot_25 : decode prog_2_method_7_code 25 = .ok (.goto (-23), 3) := by decide +kernel
theorem d_H_hasSnapshot_28 : decode prog_2_method_7_code 28 = .ok (.iconst 1, 1) := by decide +kernel
theorem d_H_hasSnapshot_29 : decode prog_2_method_7_code 29 = .ok (.ireturn, 1) := by decide +kernel
theorem d_H_textOf_0 : decode prog_2_method_6_code 0 = .ok (.aload_n 0, 1) := by decide +kernel
theorem d_H_textOf_1 : decode prog_2_method_6_code 1 = .ok (.iload_n 1, 1) := by decide +kernel
theorem d_H_textOf_2 : decode prog_2_method_6_code 2 = .ok (.invokevirtual 29, 3) := by decide +kernel
theorem d_H_textOf_5 : decode prog_2_method_6_code 5 = .ok (.ifCond .eq 16, 3) := by decide +kernel
theorem d_H_textOf_8 : decode prog_2_method_6_code 8 = .ok (.aload_n 0, 1) := by decide +kernel
theorem d_H_textOf_9 : decode prog_2_method_6_code 9 = .ok (.getfield 9, 3) := by decide +kernel
theorem d_H_textOf_12 : decode prog_2_method_6_code 12 = .ok (.iload_n 1, 1) := by decide +kernel
theorem d_H_textOf_13 : decode prog_2_method_6_code 13 = .ok (.iconst 4, 1) := by decide +kernel
theorem d_H_textOf_14 : decode prog_2_method_6_code 14 = .ok (.imul, 1) := by decide +kernel
theorem d_H_textOf_15 : decode prog_2_method_6_code 15 = .ok (.iload_n 2, 1) := by decide +kernel
theorem d_H_textOf_16 : decode prog_2_method_6_code 16 = .ok (.iadd, 1) := by decide +kernel
theorem d_H_textOf_17 : decode prog_2_method_6_code 17 = .ok (.laload, 1) := by decide +kernel
theorem d_H_textOf_18 : decode prog_2_method_6_code 18 = .ok (.goto 6, 3) := by decide +kernel
theorem d_H_textOf_21 : decode prog_2_method_6_code 21 = .ok (.ldc2_w 33, 3) := by decide +kernel
theorem d_H_textOf_24 : decode prog_2_method_6_code 24 = .ok (.lreturn, 1) := by decide +kernel
theorem d_H_isMade_0 : decode prog_2_method_3_code 0 = .ok (.iload_n 1, 1) := by decide +kernel
theorem d_H_isMade_1 : decode prog_2_method_3_code 1 = .ok (.ifCond .lt 15, 3) := by decide +kernel
theorem d_H_isMade_4 : decode prog_2_method_3_code 4 = .ok (.iload_n 1, 1) := by decide +kernel
theorem d_H_isMade_5 : decode prog_2_method_3_code 5 = .ok (.aload_n 0, 1) := by decide +kernel
theorem d_H_isMade_6 : decode prog_2_method_3_code 6 = .ok (.getfield 25, 3) := by decide +kernel
theorem d_H_isMade_9 : decode prog_2_method_3_code 9 = .ok (.if_icmp .ge 7, 3) := by decide +kernel
theorem d_H_isMade_12 : decode prog_2_method_3_code 12 = .ok (.iconst 1, 1) := by decide +kernel
theorem d_H_isMade_13 : decode prog_2_method_3_code 13 = .ok (.goto 4, 3) := by decide +kernel
theorem d_H_isMade_16 : decode prog_2_method_3_code 16 = .ok (.iconst 0, 1) := by decide +kernel
theorem d_H_isMade_17 : decode prog_2_method_3_code 17 = .ok (.ireturn, 1) := by decide +kernel
theorem d_H_add_0 : decode prog_2_method_13_code 0 = .ok (.aload_n 0, 1) := by decide +kernel
theorem d_H_add_1 : decode prog_2_method_13_code 1 = .ok (.getfield 25, 3) := by decide +kernel
theorem d_H_add_4 : decode prog_2_method_13_code 4 = .ok (.bipush 40, 2) := by decide +kernel
theorem d_H_add_6 : decode prog_2_method_13_code 6 = .ok (.if_icmp .lt 6, 3) := by decide +kernel
theorem d_H_add_9 : decode prog_2_method_13_code 9 = .ok (.bipush (-6), 2) := by decide +kernel
theorem d_H_add_11 : decode prog_2_method_13_code 11 = .ok (.ireturn, 1) := by decide +kernel
theorem d_H_add_12 : decode prog_2_method_13_code 12 = .ok (.aload_n 0, 1) := by decide +kernel
theorem d_H_add_13 : decode prog_2_method_13_code 13 = .ok (.getfield 25, 3) := by decide +kernel
theorem d_H_add_16 : decode prog_2_method_13_code 16 = .ok (.istore 4, 2) := by decide +kernel
theorem d_H_add_18 : decode prog_2_method_13_code 18 = .ok (.iconst 0, 1) := by decide +kernel
theorem d_H_add_19 : decode prog_2_method_13_code 19 = .ok (.istore 5, 2) := by decide +kernel
theorem d_H_add_21 : decode prog_2_method_13_code 21 = .ok (.iload 5, 2) := by decide +kernel
theorem d_H_add_23 : decode prog_2_method_13_code 23 = .ok (.iconst 4, 1) := by decide +kernel
theorem d_H_add_24 : decode prog_2_method_13_code 24 = .ok (.if_icmp .ge 25, 3) := by decide +kernel
theorem d_H_add_27 : decode prog_2_method_13_code 27 = .ok (.aload_n 0, 1) := by decide +kernel
theorem d_H_add_28 : decode prog_2_method_13_code 28 = .ok (.getfield 9, 3) := by decide +kernel
theorem d_H_add_31 : decode prog_2_method_13_code 31 = .ok (.iload 4, 2) := by decide +kernel
theorem d_H_add_33 : decode prog_2_method_13_code 33 = .ok (.iconst 4, 1) := by decide +kernel
theorem d_H_add_34 : decode prog_2_method_13_code 34 = .ok (.imul, 1) := by decide +kernel
theorem d_H_add_35 : decode prog_2_method_13_code 35 = .ok (.iload 5, 2) := by decide +kernel
theorem d_H_add_37 : decode prog_2_method_13_code 37 = .ok (.iadd, 1) := by decide +kernel
theorem d_H_add_38 : decode prog_2_method_13_code 38 = .ok (.aload_n 1, 1) := by decide +kernel
theorem d_H_add_39 : decode prog_2_method_13_code 39 = .ok (.iload 5, 2) := by decide +kernel
theorem d_H_add_41 : decode prog_2_method_13_code 41 = .ok (.laload, 1) := by decide +kernel
theorem d_H_add_42 : decode prog_2_method_13_code 42 = .ok (.lastore, 1) := by decide +kernel
theorem d_H_add_43 : decode prog_2_method_13_code 43 = .ok (.iinc 5 1, 3) := by decide +kernel
theorem d_H_add_46 : decode prog_2_method_13_code 46 = .ok (.goto (-25), 3) := by decide +kernel
theorem d_H_add_49 : decode prog_2_method_13_code 49 = .ok (.aload_n 0, 1) := by decide +kernel
theorem d_H_add_50 : decode prog_2_method_13_code 50 = .ok (.getfield 15, 3) := by decide +kernel
theorem d_H_add_53 : decode prog_2_method_13_code 53 = .ok (.iload 4, 2) := by decide +kernel
theorem d_H_add_55 : decode prog_2_method_13_code 55 = .ok (.iload_n 2, 1) := by decide +kernel
theorem d_H_add_56 : decode prog_2_method_13_code 56 = .ok (.iastore, 1) := by decide +kernel
theorem d_H_add_57 : decode prog_2_method_13_code 57 = .ok (.aload_n 0, 1) := by decide +kernel
theorem d_H_add_58 : decode prog_2_method_13_code 58 = .ok (.getfield 19, 3) := by decide +kernel
theorem d_H_add_61 : decode prog_2_method_13_code 61 = .ok (.iload 4, 2) := by decide +kernel
theorem d_H_add_63 : decode prog_2_method_13_code 63 = .ok (.iload_n 3, 1) := by decide +kernel
theorem d_H_add_64 : decode prog_2_method_13_code 64 = .ok (.iastore, 1) := by decide +kernel
theorem d_H_add_65 : decode prog_2_method_13_code 65 = .ok (.aload_n 0, 1) := by decide +kernel
theorem d_H_add_66 : decode prog_2_method_13_code 66 = .ok (.getfield 22, 3) := by decide +kernel
theorem d_H_add_69 : decode prog_2_method_13_code 69 = .ok (.iload 4, 2) := by decide +kernel
theorem d_H_add_71 : decode prog_2_method_13_code 71 = .ok (.lconst 1, 1) := by decide +kernel
theorem d_H_add_72 : decode prog_2_method_13_code 72 = .ok (.iload 4, 2) := by decide +kernel
theorem d_H_add_74 : decode prog_2_method_13_code 74 = .ok (.lshl, 1) := by decide +kernel
theorem d_H_add_75 : decode prog_2_method_13_code 75 = .ok (.aload_n 0, 1) := by decide +kernel
theorem d_H_add_76 : decode prog_2_method_13_code 76 = .ok (.iload_n 2, 1) := by decide +kernel
theorem d_H_add_77 : decode prog_2_method_13_code 77 = .ok (.invokevirtual 39, 3) := by decide +kernel
theorem d_H_add_80 : decode prog_2_method_13_code 80 = .ok (.lor, 1) := by decide +kernel
theorem d_H_add_81 : decode prog_2_method_13_code 81 = .ok (.aload_n 0, 1) := by decide +kernel
theorem d_H_add_82 : decode prog_2_method_13_code 82 = .ok (.iload_n 3, 1) := by decide +kernel
theorem d_H_add_83 : decode prog_2_method_13_code 83 = .ok (.invokevirtual 39, 3) := by decide +kernel
theorem d_H_add_86 : decode prog_2_method_13_code 86 = .ok (.lor, 1) := by decide +kernel
theorem d_H_add_87 : decode prog_2_method_13_code 87 = .ok (.lastore, 1) := by decide +kernel
theorem d_H_add_88 : decode prog_2_method_13_code 88 = .ok (.aload_n 0, 1) := by decide +kernel
theorem d_H_add_89 : decode prog_2_method_13_code 89 = .ok (.iload 4, 2) := by decide +kernel
theorem d_H_add_91 : decode prog_2_method_13_code 91 = .ok (.iconst 1, 1) := by decide +kernel
theorem d_H_add_92 : decode prog_2_method_13_code 92 = .ok (.iadd, 1) := by decide +kernel
theorem d_H_add_93 : decode prog_2_method_13_code 93 = .ok (.putfield 25, 3) := by decide +kernel
theorem d_H_add_96 : decode prog_2_method_13_code 96 = .ok (.iload 4, 2) := by decide +kernel
theorem d_H_add_98 : decode prog_2_method_13_code 98 = .ok (.ireturn, 1) := by decide +kernel
theorem d_H_reachOf_0 : decode prog_2_method_9_code 0 = .ok (.aload_n 0, 1) := by decide +kernel
theorem d_H_reachOf_1 : decode prog_2_method_9_code 1 = .ok (.iload_n 1, 1) := by decide +kernel
theorem d_H_reachOf_2 : decode prog_2_method_9_code 2 = .ok (.invokevirtual 29, 3) := by decide +kernel
theorem d_H_reachOf_5 : decode prog_2_method_9_code 5 = .ok (.ifCond .eq 12, 3) := by decide +kernel
theorem d_H_reachOf_8 : decode prog_2_method_9_code 8 = .ok (.aload_n 0, 1) := by decide +kernel
theorem d_H_reachOf_9 : decode prog_2_method_9_code 9 = .ok (.getfield 22, 3) := by decide +kernel
theorem d_H_reachOf_12 : decode prog_2_method_9_code 12 = .ok (.iload_n 1, 1) := by decide +kernel
theorem d_H_reachOf_13 : decode prog_2_method_9_code 13 = .ok (.laload, 1) := by decide +kernel
theorem d_H_reachOf_14 : decode prog_2_method_9_code 14 = .ok (.goto 4, 3) := by decide +kernel
theorem d_H_reachOf_17 : decode prog_2_method_9_code 17 = .ok (.lconst 0, 1) := by decide +kernel
theorem d_H_reachOf_18 : decode prog_2_method_9_code 18 = .ok (.lreturn, 1) := by decide +kernel
theorem d_H_copySnapshot_0 : decode prog_2_method_8_code 0 = .ok (.iconst 0, 1) := by decide +kernel
theorem d_H_copySnapshot_1 : decode prog_2_method_8_code 1 = .ok (.istore_n 3, 1) := by decide +kernel
theorem d_H_copySnapshot_2 : decode prog_2_method_8_code 2 = .ok (.iload_n 3, 1) := by decide +kernel
theorem d_H_copySnapshot_3 : decode prog_2_method_8_code 3 = .ok (.iconst 4, 1) := by decide +kernel
theorem d_H_copySnapshot_4 : decode prog_2_method_8_code 4 = .ok (.if_icmp .ge 18, 3) := by decide +kernel
theorem d_H_copySnapshot_7 : decode prog_2_method_8_code 7 = .ok (.aload_n 2, 1) := by decide +kernel
theorem d_H_copySnapshot_8 : decode prog_2_method_8_code 8 = .ok (.iload_n 3, 1) := by decide +kernel
theorem d_H_copySnapshot_9 : decode prog_2_method_8_code 9 = .ok (.aload_n 0, 1) := by decide +kernel
theorem d_H_copySnapshot_10 : decode prog_2_method_8_code 10 = .ok (.iload_n 1, 1) := by decide +kernel
theorem d_H_copySnapshot_11 : decode prog_2_method_8_code 11 = .ok (.iload_n 3, 1) := by decide +kernel
theorem d_H_copySnapshot_12 : decode prog_2_method_8_code 12 = .ok (.invokevirtual 35, 3) := by decide +kernel
theorem d_H_copySnapshot_15 : decode prog_2_method_8_code 15 = .ok (.lastore, 1) := by decide +kernel
theorem d_H_copySnapshot_16 : decode prog_2_method_8_code 16 = .ok (.iinc 3 1, 3) := by decide +kernel
theorem d_H_copySnapshot_19 : decode prog_2_method_8_code 19 = .ok (.goto (-17), 3) := by decide +kernel
theorem d_H_copySnapshot_22 : decode prog_2_method_8_code 22 = .ok (.return_, 1) := by decide +kernel
theorem d_H_reaches_0 : decode prog_2_method_10_code 0 = .ok (.aload_n 0, 1) := by decide +kernel
theorem d_H_reaches_1 : decode prog_2_method_10_code 1 = .ok (.iload_n 1, 1) := by decide +kernel
theorem d_H_reaches_2 : decode prog_2_method_10_code 2 = .ok (.invokevirtual 39, 3) := by decide +kernel
theorem d_H_reaches_5 : decode prog_2_method_10_code 5 = .ok (.iload_n 2, 1) := by decide +kernel
theorem d_H_reaches_6 : decode prog_2_method_10_code 6 = .ok (.invokestatic 43, 3) := by decide +kernel
theorem d_H_reaches_9 : decode prog_2_method_10_code 9 = .ok (.ireturn, 1) := by decide +kernel
theorem d_H_isIn_0 : decode prog_2_method_2_code 0 = .ok (.lload_n 0, 1) := by decide +kernel
theorem d_H_isIn_1 : decode prog_2_method_2_code 1 = .ok (.iload_n 2, 1) := by decide +kernel
theorem d_H_isIn_2 : decode prog_2_method_2_code 2 = .ok (.lushr, 1) := by decide +kernel
theorem d_H_isIn_3 : decode prog_2_method_2_code 3 = .ok (.lconst 1, 1) := by decide +kernel
theorem d_H_isIn_4 : decode prog_2_method_2_code 4 = .ok (.land, 1) := by decide +kernel
theorem d_H_isIn_5 : decode prog_2_method_2_code 5 = .ok (.lconst 0, 1) := by decide +kernel
theorem d_H_isIn_6 : decode prog_2_method_2_code 6 = .ok (.lcmp, 1) := by decide +kernel
theorem d_H_isIn_7 : decode prog_2_method_2_code 7 = .ok (.ifCond .eq 7, 3) := by decide +kernel
theorem d_H_isIn_10 : decode prog_2_method_2_code 10 = .ok (.iconst 1, 1) := by decide +kernel
theorem d_H_isIn_11 : decode prog_2_method_2_code 11 = .ok (.goto 4, 3) := by decide +kernel
theorem d_H_isIn_14 : decode prog_2_method_2_code 14 = .ok (.iconst 0, 1) := by decide +kernel
theorem d_H_isIn_15 : decode prog_2_method_2_code 15 = .ok (.ireturn, 1) := by decide +kernel
theorem d_H_baseOf_0 : decode prog_2_method_11_code 0 = .ok (.aload_n 0, 1) := by decide +kernel
theorem d_H_baseOf_1 : decode prog_2_method_11_code 1 = .ok (.iload_n 1, 1) := by decide +kernel
theorem d_H_baseOf_2 : decode prog_2_method_11_code 2 = .ok (.invokevirtual 39, 3) := by decide +kernel
theorem d_H_baseOf_5 : decode prog_2_method_11_code 5 = .ok (.aload_n 0, 1) := by decide +kernel
theorem d_H_baseOf_6 : decode prog_2_method_11_code 6 = .ok (.iload_n 2, 1) := by decide +kernel
theorem d_H_baseOf_7 : decode prog_2_method_11_code 7 = .ok (.invokevirtual 39, 3) := by decide +kernel
theorem d_H_baseOf_10 : decode prog_2_method_11_code 10 = .ok (.land, 1) := by decide +kernel
theorem d_H_baseOf_11 : decode prog_2_method_11_code 11 = .ok (.lstore_n 3, 1) := by decide +kernel
theorem d_H_baseOf_12 : decode prog_2_method_11_code 12 = .ok (.iconst 0, 1) := by decide +kernel
theorem d_H_baseOf_13 : decode prog_2_method_11_code 13 = .ok (.istore 5, 2) := by decide +kernel
theorem d_H_baseOf_15 : decode prog_2_method_11_code 15 = .ok (.iload 5, 2) := by decide +kernel
theorem d_H_baseOf_17 : decode prog_2_method_11_code 17 = .ok (.aload_n 0, 1) := by decide +kernel
theorem d_H_baseOf_18 : decode prog_2_method_11_code 18 = .ok (.getfield 25, 3) := by decide +kernel
theorem d_H_baseOf_21 : decode prog_2_method_11_code 21 = .ok (.if_icmp .ge 31, 3) := by decide +kernel
theorem d_H_baseOf_24 : decode prog_2_method_11_code 24 = .ok (.lload_n 3, 1) := by decide +kernel
theorem d_H_baseOf_25 : decode prog_2_method_11_code 25 = .ok (.iload 5, 2) := by decide +kernel
theorem d_H_baseOf_27 : decode prog_2_method_11_code 27 = .ok (.invokestatic 43, 3) := by decide +kernel
theorem d_H_baseOf_30 : decode prog_2_method_11_code 30 = .ok (.ifCond .eq 16, 3) := by decide +kernel
theorem d_H_baseOf_33 : decode prog_2_method_11_code 33 = .ok (.aload_n 0, 1) := by decide +kernel
theorem d_H_baseOf_34 : decode prog_2_method_11_code 34 = .ok (.lload_n 3, 1) := by decide +kernel
theorem d_H_baseOf_35 : decode prog_2_method_11_code 35 = .ok (.iload 5, 2) := by decide +kernel
theorem d_H_baseOf_37 : decode prog_2_method_11_code 37 = .ok (.invokevirtual 47, 3) := by decide +kernel
theorem d_H_baseOf_40 : decode prog_2_method_11_code 40 = .ok (.ifCond .ne 6, 3) := by decide +kernel
theorem d_H_baseOf_43 : decode prog_2_method_11_code 43 = .ok (.iload 5, 2) := by decide +kernel
theorem d_H_baseOf_45 : decode prog_2_method_11_code 45 = .ok (.ireturn, 1) := by decide +kernel
theorem d_H_baseOf_46 : decode prog_2_method_11_code 46 = .ok (.iinc 5 1, 3) := by decide +kernel
theorem d_H_baseOf_49 : decode prog_2_method_11_code 49 = .ok (.goto (-34), 3) := by decide +kernel
theorem d_H_baseOf_52 : decode prog_2_method_11_code 52 = .ok (.bipush (-2), 2) := by decide +kernel
theorem d_H_baseOf_54 : decode prog_2_method_11_code 54 = .ok (.ireturn, 1) := by decide +kernel
theorem d_H_isReachedByLater_0 : decode prog_2_method_12_code 0 = .ok (.iload_n 3, 1) := by decide +kernel
theorem d_H_isReachedByLater_1 : decode prog_2_method_12_code 1 = .ok (.iconst 1, 1) := by decide +kernel
theorem d_H_isReachedByLater_2 : decode prog_2_method_12_code 2 = .ok (.iadd, 1) := by decide +kernel
theorem d_H_isReachedByLater_3 : decode prog_2_method_12_code 3 = .ok (.istore 4, 2) := by decide +kernel
theorem d_H_isReachedByLater_5 : decode prog_2_method_12_code 5 = .ok (.iload 4, 2) := by decide +kernel
theorem d_H_isReachedByLater_7 : decode prog_2_method_12_code 7 = .ok (.aload_n 0, 1) := by decide +kernel
theorem d_H_isReachedByLater_8 : decode prog_2_method_12_code 8 = .ok (.getfield 25, 3) := by decide +kernel
theorem d_H_isReachedByLater_11 : decode prog_2_method_12_code 11 = .ok (.if_icmp .ge 30, 3) := by decide +kernel
theorem d_H_isReachedByLater_14 : decode prog_2_method_12_code 14 = .ok (.lload_n 1, 1) := by decide +kernel
theorem d_H_isReachedByLater_15 : decode prog_2_method_12_code 15 = .ok (.iload 4, 2) := by decide +kernel
theorem d_H_isReachedByLater_17 : decode prog_2_method_12_code 17 = .ok (.invokestatic 43, 3) := by decide +kernel
theorem d_H_isReachedByLater_20 : decode prog_2_method_12_code 20 = .ok (.ifCond .eq 15, 3) := by decide +kernel
theorem d_H_isReachedByLater_23 : decode prog_2_method_12_code 23 = .ok (.aload_n 0, 1) := by decide +kernel
theorem d_H_isReachedByLater_24 : decode prog_2_method_12_code 24 = .ok (.iload 4, 2) := by decide +kernel
theorem d_H_isReachedByLater_26 : decode prog_2_method_12_code 26 = .ok (.iload_n 3, 1) := by decide +kernel
theorem d_H_isReachedByLater_27 : decode prog_2_method_12_code 27 = .ok (.invokevirtual 50, 3) := by decide +kernel
theorem d_H_isReachedByLater_30 : decode prog_2_method_12_code 30 = .ok (.ifCond .eq 5, 3) := by decide +kernel
theorem d_H_isReachedByLater_33 : decode prog_2_method_12_code 33 = .ok (.iconst 1, 1) := by decide +kernel
theorem d_H_isReachedByLater_34 : decode prog_2_method_12_code 34 = .ok (.ireturn, 1) := by decide +kernel
theorem d_H_isReachedByLater_35 : decode prog_2_method_12_code 35 = .ok (.iinc 4 1, 3) := by decide +kernel
theorem d_H_isReachedByLater_38 : decode prog_2_method_12_code 38 = .ok (.goto (-33), 3) := by decide +kernel
theorem d_H_isReachedByLater_41 : decode prog_2_method_12_code 41 = .ok (.iconst 0, 1) := by decide +kernel
theorem d_H_isReachedByLater_42 : decode prog_2_method_12_code 42 = .ok (.ireturn, 1) := by decide +kernel
theorem d_H_secondParentOf_0 : decode prog_2_method_5_code 0 = .ok (.aload_n 0, 1) := by decide +kernel
theorem d_H_secondParentOf_1 : decode prog_2_method_5_code 1 = .ok (.iload_n 1, 1) := by decide +kernel
theorem d_H_secondParentOf_2 : decode prog_2_method_5_code 2 = .ok (.invokevirtual 29, 3) := by decide +kernel
theorem d_H_secondParentOf_5 : decode prog_2_method_5_code 5 = .ok (.ifCond .eq 12, 3) := by decide +kernel
theorem d_H_secondParentOf_8 : decode prog_2_method_5_code 8 = .ok (.aload_n 0, 1) := by decide +kernel
theorem d_H_secondParentOf_9 : decode prog_2_method_5_code 9 = .ok (.getfield 19, 3) := by decide +kernel
theorem d_H_secondParentOf_12 : decode prog_2_method_5_code 12 = .ok (.iload_n 1, 1) := by decide +kernel
theorem d_H_secondParentOf_13 : decode prog_2_method_5_code 13 = .ok (.iaload, 1) := by decide +kernel
theorem d_H_secondParentOf_14 : decode prog_2_method_5_code 14 = .ok (.goto 5, 3) := by decide +kernel
theorem d_H_secondParentOf_17 : decode prog_2_method_5_code 17 = .ok (.bipush (-2), 2) := by decide +kernel
theorem d_H_secondParentOf_19 : decode prog_2_method_5_code 19 = .ok (.ireturn, 1) := by decide +kernel
theorem d_H_firstParentOf_0 : decode prog_2_method_4_code 0 = .ok (.aload_n 0, 1) := by decide +kernel
theorem d_H_firstParentOf_1 : decode prog_2_method_4_code 1 = .ok (.iload_n 1, 1) := by decide +kernel
theorem d_H_firstParentOf_2 : decode prog_2_method_4_code 2 = .ok (.invokevirtual 29, 3) := by decide +kernel
theorem d_H_firstParentOf_5 : decode prog_2_method_4_code 5 = .ok (.ifCond .eq 12, 3) := by decide +kernel
theorem d_H_firstParentOf_8 : decode prog_2_method_4_code 8 = .ok (.aload_n 0, 1) := by decide +kernel
theorem d_H_firstParentOf_9 : decode prog_2_method_4_code 9 = .ok (.getfield 15, 3) := by decide +kernel
theorem d_H_firstParentOf_12 : decode prog_2_method_4_code 12 = .ok (.iload_n 1, 1) := by decide +kernel
theorem d_H_firstParentOf_13 : decode prog_2_method_4_code 13 = .ok (.iaload, 1) := by decide +kernel
theorem d_H_firstParentOf_14 : decode prog_2_method_4_code 14 = .ok (.goto 5, 3) := by decide +kernel
theorem d_H_firstParentOf_17 : decode prog_2_method_4_code 17 = .ok (.bipush (-2), 2) := by decide +kernel
theorem d_H_firstParentOf_19 : decode prog_2_method_4_code 19 = .ok (.ireturn, 1) := by decide +kernel
theorem d_H_cutBackTo_0 : decode prog_2_method_14_code 0 = .ok (.aload_n 0, 1) := by decide +kernel
theorem d_H_cutBackTo_1 : decode prog_2_method_14_code 1 = .ok (.iload_n 1, 1) := by decide +kernel
theorem d_H_cutBackTo_2 : decode prog_2_method_14_code 2 = .ok (.putfield 25, 3) := by decide +kernel
theorem d_H_cutBackTo_5 : decode prog_2_method_14_code 5 = .ok (.return_, 1) := by decide +kernel
theorem d_R_init_0 : decode prog_3_method_1_code 0 = .ok (.aload_n 0, 1) := by decide +kernel
theorem d_R_init_1 : decode prog_3_method_1_code 1 = .ok (.invokespecial 3, 3) := by decide +kernel
theorem d_R_init_4 : decode prog_3_method_1_code 4 = .ok (.aload_n 0, 1) := by decide +kernel
theorem d_R_init_5 : decode prog_3_method_1_code 5 = .ok (.iconst 4, 1) := by decide +kernel
theorem d_R_init_6 : decode prog_3_method_1_code 6 = .ok (.newarray .int, 2) := by decide +kernel
theorem d_R_init_8 : decode prog_3_method_1_code 8 = .ok (.putfield 9, 3) := by decide +kernel
theorem d_R_init_11 : decode prog_3_method_1_code 11 = .ok (.iconst 0, 1) := by decide +kernel
theorem d_R_init_12 : decode prog_3_method_1_code 12 = .ok (.istore_n 1, 1) := by decide +kernel
theorem d_R_init_13 : decode prog_3_method_1_code 13 = .ok (.iload_n 1, 1) := by decide +kernel
theorem d_R_init_14 : decode prog_3_method_1_code 14 = .ok (.iconst 4, 1) := by decide +kernel
theorem d_R_init_15 : decode prog_3_method_1_code 15 = .ok (.if_icmp .ge 17, 3) := by decide +kernel
theorem d_R_init_18 : decode prog_3_method_1_code 18 = .ok (.aload_n 0, 1) := by decide +kernel
theorem d_R_init_19 : decode prog_3_method_1_code 19 = .ok (.getfield 9, 3) := by decide +kernel
theorem d_R_init_22 : decode prog_3_method_1_code 22 = .ok (.iload_n 1, 1) := by decide +kernel
theorem d_R_init_23 : decode prog_3_method_1_code 23 = .ok (.bipush (-2), 2) := by decide +kernel
theorem d_R_init_25 : decode prog_3_method_1_code 25 = .ok (.iastore, 1) := by decide +kernel
theorem d_R_init_26 : decode prog_3_method_1_code 26 = .ok (.iinc 1 1, 3) := by decide +kernel
theorem d_R_init_29 : decode prog_3_method_1_code 29 = .ok (.goto (-16), 3) := by decide +kernel
theorem d_R_init_32 : decode prog_3_method_1_code 32 = .ok (.aload_n 0, 1) := by decide +kernel
theorem d_R_init_33 : decode prog_3_method_1_code 33 = .ok (.iconst 4, 1) := by decide +kernel
theorem d_R_init_34 : decode prog_3_method_1_code 34 = .ok (.newarray .long, 2) := by decide +kernel
theorem d_R_init_36 : decode prog_3_method_1_code 36 = .ok (.putfield 15, 3) := by decide +kernel
theorem d_R_init_39 : decode prog_3_method_1_code 39 = .ok (.aload_n 0, 1) := by decide +kernel
theorem d_R_init_40 : decode prog_3_method_1_code 40 = .ok (.iconst 4, 1) := by decide +kernel
theorem d_R_init_41 : decode prog_3_method_1_code 41 = .ok (.newarray .long, 2) := by decide +kernel
theorem d_R_init_43 : decode prog_3_method_1_code 43 = .ok (.putfield 19, 3) := by decide +kernel
theorem d_R_init_46 : decode prog_3_method_1_code 46 = .ok (.iconst 0, 1) := by decide +kernel
theorem d_R_init_47 : decode prog_3_method_1_code 47 = .ok (.istore_n 1, 1) := by decide +kernel
theorem d_R_init_48 : decode prog_3_method_1_code 48 = .ok (.iload_n 1, 1) := by decide +kernel
theorem d_R_init_49 : decode prog_3_method_1_code 49 = .ok (.iconst 4, 1) := by decide +kernel
theorem d_R_init_50 : decode prog_3_method_1_code 50 = .ok (.if_icmp .ge 27, 3) := by decide +kernel
theorem d_R_init_53 : decode prog_3_method_1_code 53 = .ok (.aload_n 0, 1) := by decide +kernel
theorem d_R_init_54 : decode prog_3_method_1_code 54 = .ok (.getfield 15, 3) := by decide +kernel
theorem d_R_init_57 : decode prog_3_method_1_code 57 = .ok (.iload_n 1, 1) := by decide +kernel
theorem d_R_init_58 : decode prog_3_method_1_code 58 = .ok (.ldc2_w 22, 3) := by decide +kernel
theorem d_R_init_61 : decode prog_3_method_1_code 61 = .ok (.lastore, 1) := by decide +kernel
theorem d_R_init_62 : decode prog_3_method_1_code 62 = .ok (.aload_n 0, 1) := by decide +kernel
theorem d_R_init_63 : decode prog_3_method_1_code 63 = .ok (.getfield 19, 3) := by decide +kernel
theorem d_R_init_66 : decode prog_3_method_1_code 66 = .ok (.iload_n 1, 1) := by decide +kernel
theorem d_R_init_67 : decode prog_3_method_1_code 67 = .ok (.ldc2_w 22, 3) := by decide +kernel
theorem d_R_init_70 : decode prog_3_method_1_code 70 = .ok (.lastore, 1) := by decide +kernel
theorem d_R_init_71 : decode prog_3_method_1_code 71 = .ok (.iinc 1 1, 3) := by decide +kernel
theorem d_R_init_74 : decode prog_3_method_1_code 74 = .ok (.goto (-26), 3) := by decide +kernel
theorem d_R_init_77 : decode prog_3_method_1_code 77 = .ok (.aload_n 0, 1) := by decide +kernel
theorem d_R_init_78 : decode prog_3_method_1_code 78 = .ok (.lconst 0, 1) := by decide +kernel
theorem d_R_init_79 : decode prog_3_method_1_code 79 = .ok (.putfield 24, 3) := by decide +kernel
theorem d_R_init_82 : decode prog_3_method_1_code 82 = .ok (.aload_n 0, 1) := by decide +kernel
theorem d_R_init_83 : decode prog_3_method_1_code 83 = .ok (.iconst 0, 1) := by decide +kernel
theorem d_R_init_84 : decode prog_3_method_1_code 84 = .ok (.putfield 28, 3) := by decide +kernel
theorem d_R_init_87 : decode prog_3_method_1_code 87 = .ok (.return_, 1) := by decide +kernel
