/-! Decode rows. (Printed by gen_names.py.) -/
theorem d_M_reaches_0 : decode prog_7_method_14_code 0 = .ok (.aload_n 0, 1) := by decide +kernel
theorem d_M_reaches_1 : decode prog_7_method_14_code 1 = .ok (.iload_n 1, 1) := by decide +kernel
theorem d_M_reaches_2 : decode prog_7_method_14_code 2 = .ok (.invokevirtual 100, 3) := by decide +kernel
theorem d_M_reaches_5 : decode prog_7_method_14_code 5 = .ok (.iload_n 2, 1) := by decide +kernel
theorem d_M_reaches_6 : decode prog_7_method_14_code 6 = .ok (.lshr, 1) := by decide +kernel
theorem d_M_reaches_7 : decode prog_7_method_14_code 7 = .ok (.lconst 1, 1) := by decide +kernel
theorem d_M_reaches_8 : decode prog_7_method_14_code 8 = .ok (.land, 1) := by decide +kernel
theorem d_M_reaches_9 : decode prog_7_method_14_code 9 = .ok (.lconst 1, 1) := by decide +kernel
theorem d_M_reaches_10 : decode prog_7_method_14_code 10 = .ok (.lcmp, 1) := by decide +kernel
theorem d_M_reaches_11 : decode prog_7_method_14_code 11 = .ok (.ifCond .ne 7, 3) := by decide +kernel
theorem d_M_reaches_14 : decode prog_7_method_14_code 14 = .ok (.iconst 1, 1) := by decide +kernel
theorem d_M_reaches_15 : decode prog_7_method_14_code 15 = .ok (.goto 4, 3) := by decide +kernel
theorem d_M_reaches_18 : decode prog_7_method_14_code 18 = .ok (.iconst 0, 1) := by decide +kernel
theorem d_M_reaches_19 : decode prog_7_method_14_code 19 = .ok (.ireturn, 1) := by decide +kernel
theorem d_M_reached_0 : decode prog_7_method_13_code 0 = .ok (.iload_n 1, 1) := by decide +kernel
theorem d_M_reached_1 : decode prog_7_method_13_code 1 = .ok (.ifCond .ge 7, 3) := by decide +kernel
theorem d_M_reached_4 : decode prog_7_method_13_code 4 = .ok (.lconst 0, 1) := by decide +kernel
theorem d_M_reached_5 : decode prog_7_method_13_code 5 = .ok (.goto 6, 3) := by decide +kernel
theorem d_M_reached_8 : decode prog_7_method_13_code 8 = .ok (.lconst 1, 1) := by decide +kernel
theorem d_M_reached_9 : decode prog_7_method_13_code 9 = .ok (.iload_n 1, 1) := by decide +kernel
theorem d_M_reached_10 : decode prog_7_method_13_code 10 = .ok (.lshl, 1) := by decide +kernel
theorem d_M_reached_11 : decode prog_7_method_13_code 11 = .ok (.lstore_n 2, 1) := by decide +kernel
theorem d_M_reached_12 : decode prog_7_method_13_code 12 = .ok (.iload_n 1, 1) := by decide +kernel
theorem d_M_reached_13 : decode prog_7_method_13_code 13 = .ok (.istore 4, 2) := by decide +kernel
theorem d_M_reached_15 : decode prog_7_method_13_code 15 = .ok (.iload 4, 2) := by decide +kernel
theorem d_M_reached_17 : decode prog_7_method_13_code 17 = .ok (.ifCond .lt 89, 3) := by decide +kernel
theorem d_M_reached_20 : decode prog_7_method_13_code 20 = .ok (.lload_n 2, 1) := by decide +kernel
theorem d_M_reached_21 : decode prog_7_method_13_code 21 = .ok (.iload 4, 2) := by decide +kernel
theorem d_M_reached_23 : decode prog_7_method_13_code 23 = .ok (.lshr, 1) := by decide +kernel
theorem d_M_reached_24 : decode prog_7_method_13_code 24 = .ok (.lconst 1, 1) := by decide +kernel
theorem d_M_reached_25 : decode prog_7_method_13_code 25 = .ok (.land, 1) := by decide +kernel
theorem d_M_reached_26 : decode prog_7_method_13_code 26 = .ok (.lconst 1, 1) := by decide +kernel
theorem d_M_reached_27 : decode prog_7_method_13_code 27 = .ok (.lcmp, 1) := by decide +kernel
theorem d_M_reached_28 : decode prog_7_method_13_code 28 = .ok (.ifCond .ne 7, 3) := by decide +kernel
theorem d_M_reached_31 : decode prog_7_method_13_code 31 = .ok (.iconst 1, 1) := by decide +kernel
theorem d_M_reached_32 : decode prog_7_method_13_code 32 = .ok (.goto 4, 3) := by decide +kernel
theorem d_M_reached_35 : decode prog_7_method_13_code 35 = .ok (.iconst 0, 1) := by decide +kernel
theorem d_M_reached_36 : decode prog_7_method_13_code 36 = .ok (.istore 5, 2) := by decide +kernel
theorem d_M_reached_38 : decode prog_7_method_13_code 38 = .ok (.iload 5, 2) := by decide +kernel
theorem d_M_reached_40 : decode prog_7_method_13_code 40 = .ok (.ifCond .eq 27, 3) := by decide +kernel
theorem d_M_reached_43 : decode prog_7_method_13_code 43 = .ok (.aload_n 0, 1) := by decide +kernel
theorem d_M_reached_44 : decode prog_7_method_13_code 44 = .ok (.getfield 13, 3) := by decide +kernel
theorem d_M_reached_47 : decode prog_7_method_13_code 47 = .ok (.iload 4, 2) := by decide +kernel
theorem d_M_reached_49 : decode prog_7_method_13_code 49 = .ok (.iaload, 1) := by decide +kernel
theorem d_M_reached_50 : decode prog_7_method_13_code 50 = .ok (.ifCond .lt 17, 3) := by decide +kernel
theorem d_M_reached_53 : decode prog_7_method_13_code 53 = .ok (.lload_n 2, 1) := by decide +kernel
theorem d_M_reached_54 : decode prog_7_method_13_code 54 = .ok (.lconst 1, 1) := by decide +kernel
theorem d_M_reached_55 : decode prog_7_method_13_code 55 = .ok (.aload_n 0, 1) := by decide +kernel
theorem d_M_reached_56 : decode prog_7_method_13_code 56 = .ok (.getfield 13, 3) := by decide +kernel
theorem d_M_reached_59 : decode prog_7_method_13_code 59 = .ok (.iload 4, 2) := by decide +kernel
theorem d_M_reached_61 : decode prog_7_method_13_code 61 = .ok (.iaload, 1) := by decide +kernel
theorem d_M_reached_62 : decode prog_7_method_13_code 62 = .ok (.lshl, 1) := by decide +kernel
theorem d_M_reached_63 : decode prog_7_method_13_code 63 = .ok (.lor, 1) := by decide +kernel
theorem d_M_reached_64 : decode prog_7_method_13_code 64 = .ok (.goto 4, 3) := by decide +kernel
theorem d_M_reached_67 : decode prog_7_method_13_code 67 = .ok (.lload_n 2, 1) := by decide +kernel
theorem d_M_reached_68 : decode prog_7_method_13_code 68 = .ok (.lstore_n 2, 1) := by decide +kernel
theorem d_M_reached_69 : decode prog_7_method_13_code 69 = .ok (.iload 5, 2) := by decide +kernel
theorem d_M_reached_71 : decode prog_7_method_13_code 71 = .ok (.ifCond .eq 27, 3) := by decide +kernel
theorem d_M_reached_74 : decode prog_7_method_13_code 74 = .ok (.aload_n 0, 1) := by decide +kernel
theorem d_M_reached_75 : decode prog_7_method_13_code 75 = .ok (.getfield 17, 3) := by decide +kernel
theorem d_M_reached_78 : decode prog_7_method_13_code 78 = .ok (.iload 4, 2) := by decide +kernel
theorem d_M_reached_80 : decode prog_7_method_13_code 80 = .ok (.iaload, 1) := by decide +kernel
theorem d_M_reached_81 : decode prog_7_method_13_code 81 = .ok (.ifCond .lt 17, 3) := by decide +kernel
theorem d_M_reached_84 : decode prog_7_method_13_code 84 = .ok (.lload_n 2, 1) := by decide +kernel
theorem d_M_reached_85 : decode prog_7_method_13_code 85 = .ok (.lconst 1, 1) := by decide +kernel
theorem d_M_reached_86 : decode prog_7_method_13_code 86 = .ok (.aload_n 0, 1) := by decide +kernel
theorem d_M_reached_87 : decode prog_7_method_13_code 87 = .ok (.getfield 17, 3) := by decide +kernel
theorem d_M_reached_90 : decode prog_7_method_13_code 90 = .ok (.iload 4, 2) := by decide +kernel
theorem d_M_reached_92 : decode prog_7_method_13_code 92 = .ok (.iaload, 1) := by decide +kernel
theorem d_M_reached_93 : decode prog_7_method_13_code 93 = .ok (.lshl, 1) := by decide +kernel
theorem d_M_reached_94 : decode prog_7_method_13_code 94 = .ok (.lor, 1) := by decide +kernel
theorem d_M_reached_95 : decode prog_7_method_13_code 95 = .ok (.goto 4, 3) := by decide +kernel
theorem d_M_reached_98 : decode prog_7_method_13_code 98 = .ok (.lload_n 2, 1) := by decide +kernel
theorem d_M_reached_99 : decode prog_7_method_13_code 99 = .ok (.lstore_n 2, 1) := by decide +kernel
theorem d_M_reached_100 : decode prog_7_method_13_code 100 = .ok (.iinc 4 (-1), 3) := by decide +kernel
theorem d_M_reached_103 : decode prog_7_method_13_code 103 = .ok (.goto (-88), 3) := by decide +kernel
theorem d_M_reached_106 : decode prog_7_method_13_code 106 = .ok (.lload_n 2, 1) := by decide +kernel
theorem d_M_reached_107 : decode prog_7_method_13_code 107 = .ok (.lreturn, 1) := by decide +kernel
theorem d_M_baseOf_0 : decode prog_7_method_15_code 0 = .ok (.aload_n 0, 1) := by decide +kernel
theorem d_M_baseOf_1 : decode prog_7_method_15_code 1 = .ok (.iload_n 1, 1) := by decide +kernel
theorem d_M_baseOf_2 : decode prog_7_method_15_code 2 = .ok (.invokevirtual 100, 3) := by decide +kernel
theorem d_M_baseOf_5 : decode prog_7_method_15_code 5 = .ok (.aload_n 0, 1) := by decide +kernel
theorem d_M_baseOf_6 : decode prog_7_method_15_code 6 = .ok (.iload_n 2, 1) := by decide +kernel
theorem d_M_baseOf_7 : decode prog_7_method_15_code 7 = .ok (.invokevirtual 100, 3) := by decide +kernel
theorem d_M_baseOf_10 : decode prog_7_method_15_code 10 = .ok (.land, 1) := by decide +kernel
theorem d_M_baseOf_11 : decode prog_7_method_15_code 11 = .ok (.lstore_n 3, 1) := by decide +kernel
theorem d_M_baseOf_12 : decode prog_7_method_15_code 12 = .ok (.iconst 0, 1) := by decide +kernel
theorem d_M_baseOf_13 : decode prog_7_method_15_code 13 = .ok (.istore 5, 2) := by decide +kernel
theorem d_M_baseOf_15 : decode prog_7_method_15_code 15 = .ok (.iload 5, 2) := by decide +kernel
theorem d_M_baseOf_17 : decode prog_7_method_15_code 17 = .ok (.aload_n 0, 1) := by decide +kernel
theorem d_M_baseOf_18 : decode prog_7_method_15_code 18 = .ok (.getfield 104, 3) := by decide +kernel
theorem d_M_baseOf_21 : decode prog_7_method_15_code 21 = .ok (.if_icmp .ge 94, 3) := by decide +kernel
theorem d_M_baseOf_24 : decode prog_7_method_15_code 24 = .ok (.lload_n 3, 1) := by decide +kernel
theorem d_M_baseOf_25 : decode prog_7_method_15_code 25 = .ok (.iload 5, 2) := by decide +kernel
theorem d_M_baseOf_27 : decode prog_7_method_15_code 27 = .ok (.lshr, 1) := by decide +kernel
theorem d_M_baseOf_28 : decode prog_7_method_15_code 28 = .ok (.lconst 1, 1) := by decide +kernel
theorem d_M_baseOf_29 : decode prog_7_method_15_code 29 = .ok (.land, 1) := by decide +kernel
theorem d_M_baseOf_30 : decode prog_7_method_15_code 30 = .ok (.lconst 1, 1) := by decide +kernel
theorem d_M_baseOf_31 : decode prog_7_method_15_code 31 = .ok (.lcmp, 1) := by decide +kernel
theorem d_M_baseOf_32 : decode prog_7_method_15_code 32 = .ok (.ifCond .ne 7, 3) := by decide +kernel
theorem d_M_baseOf_35 : decode prog_7_method_15_code 35 = .ok (.iconst 1, 1) := by decide +kernel
theorem d_M_baseOf_36 : decode prog_7_method_15_code 36 = .ok (.goto 4, 3) := by decide +kernel
theorem d_M_baseOf_39 : decode prog_7_method_15_code 39 = .ok (.iconst 0, 1) := by decide +kernel
theorem d_M_baseOf_40 : decode prog_7_method_15_code 40 = .ok (.istore 6, 2) := by decide +kernel
theorem d_M_baseOf_42 : decode prog_7_method_15_code 42 = .ok (.iconst 0, 1) := by decide +kernel
theorem d_M_baseOf_43 : decode prog_7_method_15_code 43 = .ok (.istore 7, 2) := by decide +kernel
theorem d_M_baseOf_45 : decode prog_7_method_15_code 45 = .ok (.iload 7, 2) := by decide +kernel
theorem d_M_baseOf_47 : decode prog_7_method_15_code 47 = .ok (.aload_n 0, 1) := by decide +kernel
theorem d_M_baseOf_48 : decode prog_7_method_15_code 48 = .ok (.getfield 104, 3) := by decide +kernel
theorem d_M_baseOf_51 : decode prog_7_method_15_code 51 = .ok (.if_icmp .ge 50, 3) := by decide +kernel
theorem d_M_baseOf_54 : decode prog_7_method_15_code 54 = .ok (.iload 6, 2) := by decide +kernel
theorem d_M_baseOf_56 : decode prog_7_method_15_code 56 = .ok (.ifCond .eq 45, 3) := by decide +kernel
theorem d_M_baseOf_59 : decode prog_7_method_15_code 59 = .ok (.iload 7, 2) := by decide +kernel
theorem d_M_baseOf_61 : decode prog_7_method_15_code 61 = .ok (.iload 5, 2) := by decide +kernel
theorem d_M_baseOf_63 : decode prog_7_method_15_code 63 = .ok (.if_icmp .eq 25, 3) := by decide +kernel
theorem d_M_baseOf_66 : decode prog_7_method_15_code 66 = .ok (.lload_n 3, 1) := by decide +kernel
theorem d_M_baseOf_67 : decode prog_7_method_15_code 67 = .ok (.iload 7, 2) := by decide +kernel
theorem d_M_baseOf_69 : decode prog_7_method_15_code 69 = .ok (.lshr, 1) := by decide +kernel
theorem d_M_baseOf_70 : decode prog_7_method_15_code 70 = .ok (.lconst 1, 1) := by decide +kernel
theorem d_M_baseOf_71 : decode prog_7_method_15_code 71 = .ok (.land, 1) := by decide +kernel
theorem d_M_baseOf_72 : decode prog_7_method_15_code 72 = .ok (.lconst 0, 1) := by decide +kernel
theorem d_M_baseOf_73 : decode prog_7_method_15_code 73 = .ok (.lcmp, 1) := by decide +kernel
theorem d_M_baseOf_74 : decode prog_7_method_15_code 74 = .ok (.ifCond .eq 14, 3) := by decide +kernel
theorem d_M_baseOf_77 : decode prog_7_method_15_code 77 = .ok (.aload_n 0, 1) := by decide +kernel
theorem d_M_baseOf_78 : decode prog_7_method_15_code 78 = .ok (.iload 7, 2) := by decide +kernel
theorem d_M_baseOf_80 : decode prog_7_method_15_code 80 = .ok (.iload 5, 2) := by decide +kernel
theorem d_M_baseOf_82 : decode prog_7_method_15_code 82 = .ok (.invokevirtual 107, 3) := by decide +kernel
theorem d_M_baseOf_85 : decode prog_7_method_15_code 85 = .ok (.ifCond .ne 7, 3) := by decide +kernel
theorem d_M_baseOf_88 : decode prog_7_method_15_code 88 = .ok (.iconst 1, 1) := by decide +kernel
theorem d_M_baseOf_89 : decode prog_7_method_15_code 89 = .ok (.goto 4, 3) := by decide +kernel
theorem d_M_baseOf_92 : decode prog_7_method_15_code 92 = .ok (.iconst 0, 1) := by decide +kernel
theorem d_M_baseOf_93 : decode prog_7_method_15_code 93 = .ok (.istore 6, 2) := by decide +kernel
theorem d_M_baseOf_95 : decode prog_7_method_15_code 95 = .ok (.iinc 7 1, 3) := by decide +kernel
theorem d_M_baseOf_98 : decode prog_7_method_15_code 98 = .ok (.goto (-53), 3) := by decide +kernel
theorem d_M_baseOf_101 : decode prog_7_method_15_code 101 = .ok (.iload 6, 2) := by decide +kernel
theorem d_M_baseOf_103 : decode prog_7_method_15_code 103 = .ok (.ifCond .eq 6, 3) := by decide +kernel
theorem d_M_baseOf_106 : decode prog_7_method_15_code 106 = .ok (.iload 5, 2) := by decide +kernel
theorem d_M_baseOf_108 : decode prog_7_method_15_code 108 = .ok (.ireturn, 1) := by decide +kernel
theorem d_M_baseOf_109 : decode prog_7_method_15_code 109 = .ok (.iinc 5 1, 3) := by decide +kernel
theorem d_M_baseOf_112 : decode prog_7_method_15_code 112 = .ok (.goto (-97), 3) := by decide +kernel
theorem d_M_baseOf_115 : decode prog_7_method_15_code 115 = .ok (.bipush (-2), 2) := by decide +kernel
theorem d_M_baseOf_117 : decode prog_7_method_15_code 117 = .ok (.ireturn, 1) := by decide +kernel
theorem d_M_unite_0 : decode prog_7_method_10_code 0 = .ok (.iconst 1, 1) := by decide +kernel
theorem d_M_unite_1 : decode prog_7_method_10_code 1 = .ok (.istore_n 1, 1) := by decide +kernel
theorem d_M_unite_2 : decode prog_7_method_10_code 2 = .ok (.iconst 0, 1) := by decide +kernel
theorem d_M_unite_3 : decode prog_7_method_10_code 3 = .ok (.istore_n 2, 1) := by decide +kernel
theorem d_M_unite_4 : decode prog_7_method_10_code 4 = .ok (.iload_n 2, 1) := by decide +kernel
theorem d_M_unite_5 : decode prog_7_method_10_code 5 = .ok (.iconst 4, 1) := by decide +kernel
theorem d_M_unite_6 : decode prog_7_method_10_code 6 = .ok (.if_icmp .ge 140, 3) := by decide +kernel
theorem d_M_unite_9 : decode prog_7_method_10_code 9 = .ok (.aload_n 0, 1) := by decide +kernel
theorem d_M_unite_10 : decode prog_7_method_10_code 10 = .ok (.getfield 35, 3) := by decide +kernel
theorem d_M_unite_13 : decode prog_7_method_10_code 13 = .ok (.iload_n 2, 1) := by decide +kernel
theorem d_M_unite_14 : decode prog_7_method_10_code 14 = .ok (.laload, 1) := by decide +kernel
theorem d_M_unite_15 : decode prog_7_method_10_code 15 = .ok (.lstore_n 3, 1) := by decide +kernel
theorem d_M_unite_16 : decode prog_7_method_10_code 16 = .ok (.aload_n 0, 1) := by decide +kernel
theorem d_M_unite_17 : decode prog_7_method_10_code 17 = .ok (.getfield 38, 3) := by decide +kernel
theorem d_M_unite_20 : decode prog_7_method_10_code 20 = .ok (.iload_n 2, 1) := by decide +kernel
theorem d_M_unite_21 : decode prog_7_method_10_code 21 = .ok (.laload, 1) := by decide +kernel
theorem d_M_unite_22 : decode prog_7_method_10_code 22 = .ok (.lstore 5, 2) := by decide +kernel
theorem d_M_unite_24 : decode prog_7_method_10_code 24 = .ok (.aload_n 0, 1) := by decide +kernel
theorem d_M_unite_25 : decode prog_7_method_10_code 25 = .ok (.getfield 41, 3) := by decide +kernel
theorem d_M_unite_28 : decode prog_7_method_10_code 28 = .ok (.iload_n 2, 1) := by decide +kernel
theorem d_M_unite_29 : decode prog_7_method_10_code 29 = .ok (.laload, 1) := by decide +kernel
theorem d_M_unite_30 : decode prog_7_method_10_code 30 = .ok (.lstore 7, 2) := by decide +kernel
theorem d_M_unite_32 : decode prog_7_method_10_code 32 = .ok (.lload 5, 2) := by decide +kernel
theorem d_M_unite_34 : decode prog_7_method_10_code 34 = .ok (.lload_n 3, 1) := by decide +kernel
theorem d_M_unite_35 : decode prog_7_method_10_code 35 = .ok (.lcmp, 1) := by decide +kernel
theorem d_M_unite_36 : decode prog_7_method_10_code 36 = .ok (.ifCond .ne 14, 3) := by decide +kernel
theorem d_M_unite_39 : decode prog_7_method_10_code 39 = .ok (.aload_n 0, 1) := by decide +kernel
theorem d_M_unite_40 : decode prog_7_method_10_code 40 = .ok (.getfield 44, 3) := by decide +kernel
theorem d_M_unite_43 : decode prog_7_method_10_code 43 = .ok (.iload_n 2, 1) := by decide +kernel
theorem d_M_unite_44 : decode prog_7_method_10_code 44 = .ok (.lload 7, 2) := by decide +kernel
theorem d_M_unite_46 : decode prog_7_method_10_code 46 = .ok (.lastore, 1) := by decide +kernel
theorem d_M_unite_47 : decode prog_7_method_10_code 47 = .ok (.goto 70, 3) := by decide +kernel
theorem d_M_unite_50 : decode prog_7_method_10_code 50 = .ok (.lload 7, 2) := by decide +kernel
theorem d_M_unite_52 : decode prog_7_method_10_code 52 = .ok (.lload_n 3, 1) := by decide +kernel
theorem d_M_unite_53 : decode prog_7_method_10_code 53 = .ok (.lcmp, 1) := by decide +kernel
theorem d_M_unite_54 : decode prog_7_method_10_code 54 = .ok (.ifCond .eq 11, 3) := by decide +kernel
theorem d_M_unite_57 : decode prog_7_method_10_code 57 = .ok (.lload 7, 2) := by decide +kernel
theorem d_M_unite_59 : decode prog_7_method_10_code 59 = .ok (.lload 5, 2) := by decide +kernel
theorem d_M_unite_61 : decode prog_7_method_10_code 61 = .ok (.lcmp, 1) := by decide +kernel
theorem d_M_unite_62 : decode prog_7_method_10_code 62 = .ok (.ifCond .ne 14, 3) := by decide +kernel
theorem d_M_unite_65 : decode prog_7_method_10_code 65 = .ok (.aload_n 0, 1) := by decide +kernel
theorem d_M_unite_66 : decode prog_7_method_10_code 66 = .ok (.getfield 44, 3) := by decide +kernel
theorem d_M_unite_69 : decode prog_7_method_10_code 69 = .ok (.iload_n 2, 1) := by decide +kernel
theorem d_M_unite_70 : decode prog_7_method_10_code 70 = .ok (.lload 5, 2) := by decide +kernel
theorem d_M_unite_72 : decode prog_7_method_10_code 72 = .ok (.lastore, 1) := by decide +kernel
theorem d_M_unite_73 : decode prog_7_method_10_code 73 = .ok (.goto 44, 3) := by decide +kernel
theorem d_M_unite_76 : decode prog_7_method_10_code 76 = .ok (.aload_n 0, 1) := by decide +kernel
theorem d_M_unite_77 : decode prog_7_method_10_code 77 = .ok (.getfield 44, 3) := by decide +kernel
theorem d_M_unite_80 : decode prog_7_method_10_code 80 = .ok (.iload_n 2, 1) := by decide +kernel
theorem d_M_unite_81 : decode prog_7_method_10_code 81 = .ok (.lload_n 3, 1) := by decide +kernel
theorem d_M_unite_82 : decode prog_7_method_10_code 82 = .ok (.lconst 0, 1) := by decide +kernel
theorem d_M_unite_83 : decode prog_7_method_10_code 83 = .ok (.lcmp, 1) := by decide +kernel
theorem d_M_unite_84 : decode prog_7_method_10_code 84 = .ok (.ifCond .lt 17, 3) := by decide +kernel
theorem d_M_unite_87 : decode prog_7_method_10_code 87 = .ok (.lload 5, 2) := by decide +kernel
theorem d_M_unite_89 : decode prog_7_method_10_code 89 = .ok (.lconst 0, 1) := by decide +kernel
theorem d_M_unite_90 : decode prog_7_method_10_code 90 = .ok (.lcmp, 1) := by decide +kernel
theorem d_M_unite_91 : decode prog_7_method_10_code 91 = .ok (.ifCond .lt 10, 3) := by decide +kernel
theorem d_M_unite_94 : decode prog_7_method_10_code 94 = .ok (.lload 7, 2) := by decide +kernel
theorem d_M_unite_96 : decode prog_7_method_10_code 96 = .ok (.lconst 0, 1) := by decide +kernel
theorem d_M_unite_97 : decode prog_7_method_10_code 97 = .ok (.lcmp, 1) := by decide +kernel
theorem d_M_unite_98 : decode prog_7_method_10_code 98 = .ok (.ifCond .ge 9, 3) := by decide +kernel
theorem d_M_unite_101 : decode prog_7_method_10_code 101 = .ok (.ldc2_w 94, 3) := by decide +kernel
theorem d_M_unite_104 : decode prog_7_method_10_code 104 = .ok (.goto 12, 3) := by decide +kernel
theorem d_M_unite_107 : decode prog_7_method_10_code 107 = .ok (.aload_n 0, 1) := by decide +kernel
theorem d_M_unite_108 : decode prog_7_method_10_code 108 = .ok (.lload_n 3, 1) := by decide +kernel
theorem d_M_unite_109 : decode prog_7_method_10_code 109 = .ok (.lload 5, 2) := by decide +kernel
theorem d_M_unite_111 : decode prog_7_method_10_code 111 = .ok (.lload 7, 2) := by decide +kernel
theorem d_M_unite_113 : decode prog_7_method_10_code 113 = .ok (.invokevirtual 96, 3) := by decide +kernel
theorem d_M_unite_116 : decode prog_7_method_10_code 116 = .ok (.lastore, 1) := by decide +kernel
theorem d_M_unite_117 : decode prog_7_method_10_code 117 = .ok (.iload_n 1, 1) := by decide +kernel
theorem d_M_unite_118 : decode prog_7_method_10_code 118 = .ok (.ifCond .eq 20, 3) := by decide +kernel
theorem d_M_unite_121 : decode prog_7_method_10_code 121 = .ok (.aload_n 0, 1) := by decide +kernel
theorem d_M_unite_122 : decode prog_7_method_10_code 122 = .ok (.getfield 44, 3) := by decide +kernel
theorem d_M_unite_125 : decode prog_7_method_10_code 125 = .ok (.iload_n 2, 1) := by decide +kernel
theorem d_M_unite_126 : decode prog_7_method_10_code 126 = .ok (.laload, 1) := by decide +kernel
theorem d_M_unite_127 : decode prog_7_method_10_code 127 = .ok (.ldc2_w 94, 3) := by decide +kernel
theorem d_M_unite_130 : decode prog_7_method_10_code 130 = .ok (.lcmp, 1) := by decide +kernel
theorem d_M_unite_131 : decode prog_7_method_10_code 131 = .ok (.ifCond .eq 7, 3) := by decide +kernel
theorem d_M_unite_134 : decode prog_7_method_10_code 134 = .ok (.iconst 1, 1) := by decide +kernel
theorem d_M_unite_135 : decode prog_7_method_10_code 135 = .ok (.goto 4, 3) := by decide +kernel
theorem d_M_unite_138 : decode prog_7_method_10_code 138 = .ok (.iconst 0, 1) := by decide +kernel
theorem d_M_unite_139 : decode prog_7_method_10_code 139 = .ok (.istore_n 1, 1) := by decide +kernel
theorem d_M_unite_140 : decode prog_7_method_10_code 140 = .ok (.iinc 2 1, 3) := by decide +kernel
theorem d_M_unite_143 : decode prog_7_method_10_code 143 = .ok (.goto (-139), 3) := by decide +kernel
theorem d_M_unite_146 : decode prog_7_method_10_code 146 = .ok (.iload_n 1, 1) := by decide +kernel
theorem d_M_unite_147 : decode prog_7_method_10_code 147 = .ok (.ireturn, 1) := by decide +kernel
theorem d_M_uniteTexts_0 : decode prog_7_method_9_code 0 = .ok (.lload_n 1, 1) := by decide +kernel
theorem d_M_uniteTexts_1 : decode prog_7_method_9_code 1 = .ok (.invokestatic 66, 3) := by decide +kernel
theorem d_M_uniteTexts_4 : decode prog_7_method_9_code 4 = .ok (.istore 7, 2) := by decide +kernel
theorem d_M_uniteTexts_6 : decode prog_7_method_9_code 6 = .ok (.iconst 0, 1) := by decide +kernel
theorem d_M_uniteTexts_7 : decode prog_7_method_9_code 7 = .ok (.istore 8, 2) := by decide +kernel
theorem d_M_uniteTexts_9 : decode prog_7_method_9_code 9 = .ok (.iload 8, 2) := by decide +kernel
theorem d_M_uniteTexts_11 : decode prog_7_method_9_code 11 = .ok (.iload 7, 2) := by decide +kernel
theorem d_M_uniteTexts_13 : decode prog_7_method_9_code 13 = .ok (.if_icmp .ge 40, 3) := by decide +kernel
theorem d_M_uniteTexts_16 : decode prog_7_method_9_code 16 = .ok (.aload_n 0, 1) := by decide +kernel
theorem d_M_uniteTexts_17 : decode prog_7_method_9_code 17 = .ok (.getfield 47, 3) := by decide +kernel
theorem d_M_uniteTexts_20 : decode prog_7_method_9_code 20 = .ok (.iload 8, 2) := by decide +kernel
theorem d_M_uniteTexts_22 : decode prog_7_method_9_code 22 = .ok (.aload_n 0, 1) := by decide +kernel
theorem d_M_uniteTexts_23 : decode prog_7_method_9_code 23 = .ok (.lload_n 1, 1) := by decide +kernel
theorem d_M_uniteTexts_24 : decode prog_7_method_9_code 24 = .ok (.lload_n 3, 1) := by decide +kernel
theorem d_M_uniteTexts_25 : decode prog_7_method_9_code 25 = .ok (.iload 8, 2) := by decide +kernel
theorem d_M_uniteTexts_27 : decode prog_7_method_9_code 27 = .ok (.invokevirtual 82, 3) := by decide +kernel
theorem d_M_uniteTexts_30 : decode prog_7_method_9_code 30 = .ok (.iastore, 1) := by decide +kernel
theorem d_M_uniteTexts_31 : decode prog_7_method_9_code 31 = .ok (.aload_n 0, 1) := by decide +kernel
theorem d_M_uniteTexts_32 : decode prog_7_method_9_code 32 = .ok (.getfield 50, 3) := by decide +kernel
theorem d_M_uniteTexts_35 : decode prog_7_method_9_code 35 = .ok (.iload 8, 2) := by decide +kernel
theorem d_M_uniteTexts_37 : decode prog_7_method_9_code 37 = .ok (.aload_n 0, 1) := by decide +kernel
theorem d_M_uniteTexts_38 : decode prog_7_method_9_code 38 = .ok (.lload_n 1, 1) := by decide +kernel
theorem d_M_uniteTexts_39 : decode prog_7_method_9_code 39 = .ok (.lload 5, 2) := by decide +kernel
theorem d_M_uniteTexts_41 : decode prog_7_method_9_code 41 = .ok (.iload 8, 2) := by decide +kernel
theorem d_M_uniteTexts_43 : decode prog_7_method_9_code 43 = .ok (.invokevirtual 82, 3) := by decide +kernel
theorem d_M_uniteTexts_46 : decode prog_7_method_9_code 46 = .ok (.iastore, 1) := by decide +kernel
theorem d_M_uniteTexts_47 : decode prog_7_method_9_code 47 = .ok (.iinc 8 1, 3) := by decide +kernel
theorem d_M_uniteTexts_50 : decode prog_7_method_9_code 50 = .ok (.goto (-41), 3) := by decide +kernel
theorem d_M_uniteTexts_53 : decode prog_7_method_9_code 53 = .ok (.iconst 0, 1) := by decide +kernel
theorem d_M_uniteTexts_54 : decode prog_7_method_9_code 54 = .ok (.istore 8, 2) := by decide +kernel
theorem d_M_uniteTexts_56 : decode prog_7_method_9_code 56 = .ok (.iconst 0, 1) := by decide +kernel
theorem d_M_uniteTexts_57 : decode prog_7_method_9_code 57 = .ok (.istore 9, 2) := by decide +kernel
theorem d_M_uniteTexts_59 : decode prog_7_method_9_code 59 = .ok (.iconst 0, 1) := by decide +kernel
theorem d_M_uniteTexts_60 : decode prog_7_method_9_code 60 = .ok (.istore 10, 2) := by decide +kernel
theorem d_M_uniteTexts_62 : decode prog_7_method_9_code 62 = .ok (.aload_n 0, 1) := by decide +kernel
theorem d_M_uniteTexts_63 : decode prog_7_method_9_code 63 = .ok (.iconst 0, 1) := by decide +kernel
theorem d_M_uniteTexts_64 : decode prog_7_method_9_code 64 = .ok (.putfield 78, 3) := by decide +kernel
theorem d_M_uniteTexts_67 : decode prog_7_method_9_code 67 = .ok (.iconst 0, 1) := by decide +kernel
theorem d_M_uniteTexts_68 : decode prog_7_method_9_code 68 = .ok (.istore 11, 2) := by decide +kernel
theorem d_M_uniteTexts_70 : decode prog_7_method_9_code 70 = .ok (.iload 11, 2) := by decide +kernel
theorem d_M_uniteTexts_72 : decode prog_7_method_9_code 72 = .ok (.iload 7, 2) := by decide +kernel
theorem d_M_uniteTexts_74 : decode prog_7_method_9_code 74 = .ok (.if_icmp .gt 204, 3) := by decide +kernel
theorem d_M_uniteTexts_77 : decode prog_7_method_9_code 77 = .ok (.iload 11, 2) := by decide +kernel
theorem d_M_uniteTexts_79 : decode prog_7_method_9_code 79 = .ok (.iload 7, 2) := by decide +kernel
theorem d_M_uniteTexts_81 : decode prog_7_method_9_code 81 = .ok (.if_icmp .ne 7, 3) := by decide +kernel
theorem d_M_uniteTexts_84 : decode prog_7_method_9_code 84 = .ok (.iconst 1, 1) := by decide +kernel
theorem d_M_uniteTexts_85 : decode prog_7_method_9_code 85 = .ok (.goto 4, 3) := by decide +kernel
theorem d_M_uniteTexts_88 : decode prog_7_method_9_code 88 = .ok (.iconst 0, 1) := by decide +kernel
theorem d_M_uniteTexts_89 : decode prog_7_method_9_code 89 = .ok (.istore 12, 2) := by decide +kernel
theorem d_M_uniteTexts_91 : decode prog_7_method_9_code 91 = .ok (.iload 12, 2) := by decide +kernel
theorem d_M_uniteTexts_93 : decode prog_7_method_9_code 93 = .ok (.ifCond .ne 23, 3) := by decide +kernel
theorem d_M_uniteTexts_96 : decode prog_7_method_9_code 96 = .ok (.aload_n 0, 1) := by decide +kernel
theorem d_M_uniteTexts_97 : decode prog_7_method_9_code 97 = .ok (.getfield 47, 3) := by decide +kernel
theorem d_M_uniteTexts_100 : decode prog_7_method_9_code 100 = .ok (.iload 11, 2) := by decide +kernel
theorem d_M_uniteTexts_102 : decode prog_7_method_9_code 102 = .ok (.iaload, 1) := by decide +kernel
theorem d_M_uniteTexts_103 : decode prog_7_method_9_code 103 = .ok (.ifCond .lt 169, 3) := by decide +kernel
theorem d_M_uniteTexts_106 : decode prog_7_method_9_code 106 = .ok (.aload_n 0, 1) := by decide +kernel
theorem d_M_uniteTexts_107 : decode prog_7_method_9_code 107 = .ok (.getfield 50, 3) := by decide +kernel
theorem d_M_uniteTexts_110 : decode prog_7_method_9_code 110 = .ok (.iload 11, 2) := by decide +kernel
theorem d_M_uniteTexts_112 : decode prog_7_method_9_code 112 = .ok (.iaload, 1) := by decide +kernel
theorem d_M_uniteTexts_113 : decode prog_7_method_9_code 113 = .ok (.ifCond .lt 159, 3) := by decide +kernel
theorem d_M_uniteTexts_116 : decode prog_7_method_9_code 116 = .ok (.iload 12, 2) := by decide +kernel
theorem d_M_uniteTexts_118 : decode prog_7_method_9_code 118 = .ok (.ifCond .eq 10, 3) := by decide +kernel
theorem d_M_uniteTexts_121 : decode prog_7_method_9_code 121 = .ok (.lload_n 3, 1) := by decide +kernel
theorem d_M_uniteTexts_122 : decode prog_7_method_9_code 122 = .ok (.invokestatic 66, 3) := by decide +kernel
theorem d_M_uniteTexts_125 : decode prog_7_method_9_code 125 = .ok (.goto 10, 3) := by decide +kernel
theorem d_M_uniteTexts_128 : decode prog_7_method_9_code 128 = .ok (.aload_n 0, 1) := by decide +kernel
theorem d_M_uniteTexts_129 : decode prog_7_method_9_code 129 = .ok (.getfield 47, 3) := by decide +kernel
theorem d_M_uniteTexts_132 : decode prog_7_method_9_code 132 = .ok (.iload 11, 2) := by decide +kernel
theorem d_M_uniteTexts_134 : decode prog_7_method_9_code 134 = .ok (.iaload, 1) := by decide +kernel
theorem d_M_uniteTexts_135 : decode prog_7_method_9_code 135 = .ok (.istore 13, 2) := by decide +kernel
theorem d_M_uniteTexts_137 : decode prog_7_method_9_code 137 = .ok (.iload 12, 2) := by decide +kernel
theorem d_M_uniteTexts_139 : decode prog_7_method_9_code 139 = .ok (.ifCond .eq 11, 3) := by decide +kernel
theorem d_M_uniteTexts_142 : decode prog_7_method_9_code 142 = .ok (.lload 5, 2) := by decide +kernel
theorem d_M_uniteTexts_144 : decode prog_7_method_9_code 144 = .ok (.invokestatic 66, 3) := by decide +kernel
theorem d_M_uniteTexts_147 : decode prog_7_method_9_code 147 = .ok (.goto 10, 3) := by decide +kernel
theorem d_M_uniteTexts_150 : decode prog_7_method_9_code 150 = .ok (.aload_n 0, 1) := by decide +kernel
theorem d_M_uniteTexts_151 : decode prog_7_method_9_code 151 = .ok (.getfield 50, 3) := by decide +kernel
theorem d_M_uniteTexts_154 : decode prog_7_method_9_code 154 = .ok (.iload 11, 2) := by decide +kernel
theorem d_M_uniteTexts_156 : decode prog_7_method_9_code 156 = .ok (.iaload, 1) := by decide +kernel
theorem d_M_uniteTexts_157 : decode prog_7_method_9_code 157 = .ok (.istore 14, 2) := by decide +kernel
theorem d_M_uniteTexts_159 : decode prog_7_method_9_code 159 = .ok (.lload_n 1, 1) := by decide +kernel
theorem d_M_uniteTexts_160 : decode prog_7_method_9_code 160 = .ok (.iload 8, 2) := by decide +kernel
theorem d_M_uniteTexts_162 : decode prog_7_method_9_code 162 = .ok (.iload 11, 2) := by decide +kernel
theorem d_M_uniteTexts_164 : decode prog_7_method_9_code 164 = .ok (.lload_n 3, 1) := by decide +kernel
theorem d_M_uniteTexts_165 : decode prog_7_method_9_code 165 = .ok (.iload 9, 2) := by decide +kernel
theorem d_M_uniteTexts_167 : decode prog_7_method_9_code 167 = .ok (.iload 13, 2) := by decide +kernel
theorem d_M_uniteTexts_169 : decode prog_7_method_9_code 169 = .ok (.invokestatic 86, 3) := by decide +kernel
theorem d_M_uniteTexts_172 : decode prog_7_method_9_code 172 = .ok (.ifCond .eq 16, 3) := by decide +kernel
theorem d_M_uniteTexts_175 : decode prog_7_method_9_code 175 = .ok (.aload_n 0, 1) := by decide +kernel
theorem d_M_uniteTexts_176 : decode prog_7_method_9_code 176 = .ok (.lload 5, 2) := by decide +kernel
theorem d_M_uniteTexts_178 : decode prog_7_method_9_code 178 = .ok (.iload 10, 2) := by decide +kernel
theorem d_M_uniteTexts_180 : decode prog_7_method_9_code 180 = .ok (.iload 14, 2) := by decide +kernel
theorem d_M_uniteTexts_182 : decode prog_7_method_9_code 182 = .ok (.invokevirtual 90, 3) := by decide +kernel
theorem d_M_uniteTexts_185 : decode prog_7_method_9_code 185 = .ok (.goto 53, 3) := by decide +kernel
theorem d_M_uniteTexts_188 : decode prog_7_method_9_code 188 = .ok (.lload_n 1, 1) := by decide +kernel
theorem d_M_uniteTexts_189 : decode prog_7_method_9_code 189 = .ok (.iload 8, 2) := by decide +kernel
theorem d_M_uniteTexts_191 : decode prog_7_method_9_code 191 = .ok (.iload 11, 2) := by decide +kernel
theorem d_M_uniteTexts_193 : decode prog_7_method_9_code 193 = .ok (.lload 5, 2) := by decide +kernel
theorem d_M_uniteTexts_195 : decode prog_7_method_9_code 195 = .ok (.iload 10, 2) := by decide +kernel
theorem d_M_uniteTexts_197 : decode prog_7_method_9_code 197 = .ok (.iload 14, 2) := by decide +kernel
theorem d_M_uniteTexts_199 : decode prog_7_method_9_code 199 = .ok (.invokestatic 86, 3) := by decide +kernel
theorem d_M_uniteTexts_202 : decode prog_7_method_9_code 202 = .ok (.ifCond .ne 20, 3) := by decide +kernel
theorem d_M_uniteTexts_205 : decode prog_7_method_9_code 205 = .ok (.lload_n 3, 1) := by decide +kernel
theorem d_M_uniteTexts_206 : decode prog_7_method_9_code 206 = .ok (.iload 9, 2) := by decide +kernel
theorem d_M_uniteTexts_208 : decode prog_7_method_9_code 208 = .ok (.iload 13, 2) := by decide +kernel
theorem d_M_uniteTexts_210 : decode prog_7_method_9_code 210 = .ok (.lload 5, 2) := by decide +kernel
theorem d_M_uniteTexts_212 : decode prog_7_method_9_code 212 = .ok (.iload 10, 2) := by decide +kernel
theorem d_M_uniteTexts_214 : decode prog_7_method_9_code 214 = .ok (.iload 14, 2) := by decide +kernel
theorem d_M_uniteTexts_216 : decode prog_7_method_9_code 216 = .ok (.invokestatic 86, 3) := by decide +kernel
theorem d_M_uniteTexts_219 : decode prog_7_method_9_code 219 = .ok (.ifCond .eq 15, 3) := by decide +kernel
theorem d_M_uniteTexts_222 : decode prog_7_method_9_code 222 = .ok (.aload_n 0, 1) := by decide +kernel
theorem d_M_uniteTexts_223 : decode prog_7_method_9_code 223 = .ok (.lload_n 3, 1) := by decide +kernel
theorem d_M_uniteTexts_224 : decode prog_7_method_9_code 224 = .ok (.iload 9, 2) := by decide +kernel
theorem d_M_uniteTexts_226 : decode prog_7_method_9_code 226 = .ok (.iload 13, 2) := by decide +kernel
theorem d_M_uniteTexts_228 : decode prog_7_method_9_code 228 = .ok (.invokevirtual 90, 3) := by decide +kernel
theorem d_M_uniteTexts_231 : decode prog_7_method_9_code 231 = .ok (.goto 7, 3) := by decide +kernel
theorem d_M_uniteTexts_234 : decode prog_7_method_9_code 234 = .ok (.ldc2_w 94, 3) := by decide +kernel
theorem d_M_uniteTexts_237 : decode prog_7_method_9_code 237 = .ok (.lreturn, 1) := by decide +kernel
theorem d_M_uniteTexts_238 : decode prog_7_method_9_code 238 = .ok (.iload 12, 2) := by decide +kernel
theorem d_M_uniteTexts_240 : decode prog_7_method_9_code 240 = .ok (.ifCond .ne 14, 3) := by decide +kernel
theorem d_M_uniteTexts_243 : decode prog_7_method_9_code 243 = .ok (.aload_n 0, 1) := by decide +kernel
theorem d_M_uniteTexts_244 : decode prog_7_method_9_code 244 = .ok (.lload_n 1, 1) := by decide +kernel
theorem d_M_uniteTexts_245 : decode prog_7_method_9_code 245 = .ok (.iload 11, 2) := by decide +kernel
theorem d_M_uniteTexts_247 : decode prog_7_method_9_code 247 = .ok (.iload 11, 2) := by decide +kernel
theorem d_M_uniteTexts_249 : decode prog_7_method_9_code 249 = .ok (.iconst 1, 1) := by decide +kernel
theorem d_M_uniteTexts_250 : decode prog_7_method_9_code 250 = .ok (.iadd, 1) := by decide +kernel
theorem d_M_uniteTexts_251 : decode prog_7_method_9_code 251 = .ok (.invokevirtual 90, 3) := by decide +kernel
theorem d_M_uniteTexts_254 : decode prog_7_method_9_code 254 = .ok (.iload 11, 2) := by decide +kernel
theorem d_M_uniteTexts_256 : decode prog_7_method_9_code 256 = .ok (.iconst 1, 1) := by decide +kernel
theorem d_M_uniteTexts_257 : decode prog_7_method_9_code 257 = .ok (.iadd, 1) := by decide +kernel
theorem d_M_uniteTexts_258 : decode prog_7_method_9_code 258 = .ok (.istore 8, 2) := by decide +kernel
theorem d_M_uniteTexts_260 : decode prog_7_method_9_code 260 = .ok (.iload 13, 2) := by decide +kernel
theorem d_M_uniteTexts_262 : decode prog_7_method_9_code 262 = .ok (.iconst 1, 1) := by decide +kernel
theorem d_M_uniteTexts_263 : decode prog_7_method_9_code 263 = .ok (.iadd, 1) := by decide +kernel
theorem d_M_uniteTexts_264 : decode prog_7_method_9_code 264 = .ok (.istore 9, 2) := by decide +kernel
theorem d_M_uniteTexts_266 : decode prog_7_method_9_code 266 = .ok (.iload 14, 2) := by decide +kernel
theorem d_M_uniteTexts_268 : decode prog_7_method_9_code 268 = .ok (.iconst 1, 1) := by decide +kernel
theorem d_M_uniteTexts_269 : decode prog_7_method_9_code 269 = .ok (.iadd, 1) := by decide +kernel
theorem d_M_uniteTexts_270 : decode prog_7_method_9_code 270 = .ok (.istore 10, 2) := by decide +kernel
theorem d_M_uniteTexts_272 : decode prog_7_method_9_code 272 = .ok (.iinc 11 1, 3) := by decide +kernel
theorem d_M_uniteTexts_275 : decode prog_7_method_9_code 275 = .ok (.goto (-205), 3) := by decide +kernel
theorem d_M_uniteTexts_278 : decode prog_7_method_9_code 278 = .ok (.aload_n 0, 1) := by decide +kernel
theorem d_M_uniteTexts_279 : decode prog_7_method_9_code 279 = .ok (.getfield 78, 3) := by decide +kernel
theorem d_M_uniteTexts_282 : decode prog_7_method_9_code 282 = .ok (.bipush 8, 2) := by decide +kernel
theorem d_M_uniteTexts_284 : decode prog_7_method_9_code 284 = .ok (.if_icmp .le 7, 3) := by decide +kernel
theorem d_M_uniteTexts_287 : decode prog_7_method_9_code 287 = .ok (.ldc2_w 94, 3) := by decide +kernel
theorem d_M_uniteTexts_290 : decode prog_7_method_9_code 290 = .ok (.lreturn, 1) := by decide +kernel
theorem d_M_uniteTexts_291 : decode prog_7_method_9_code 291 = .ok (.aload_n 0, 1) := by decide +kernel
theorem d_M_uniteTexts_292 : decode prog_7_method_9_code 292 = .ok (.getfield 78, 3) := by decide +kernel
theorem d_M_uniteTexts_295 : decode prog_7_method_9_code 295 = .ok (.i2l, 1) := by decide +kernel
theorem d_M_uniteTexts_296 : decode prog_7_method_9_code 296 = .ok (.bipush 32, 2) := by decide +kernel
theorem d_M_uniteTexts_298 : decode prog_7_method_9_code 298 = .ok (.lshl, 1) := by decide +kernel
theorem d_M_uniteTexts_299 : decode prog_7_method_9_code 299 = .ok (.lstore 11, 2) := by decide +kernel
theorem d_M_uniteTexts_301 : decode prog_7_method_9_code 301 = .ok (.iconst 0, 1) := by decide +kernel
theorem d_M_uniteTexts_302 : decode prog_7_method_9_code 302 = .ok (.istore 13, 2) := by decide +kernel
theorem d_M_uniteTexts_304 : decode prog_7_method_9_code 304 = .ok (.iload 13, 2) := by decide +kernel
theorem d_M_uniteTexts_306 : decode prog_7_method_9_code 306 = .ok (.aload_n 0, 1) := by decide +kernel
theorem d_M_uniteTexts_307 : decode prog_7_method_9_code 307 = .ok (.getfield 78, 3) := by decide +kernel
theorem d_M_uniteTexts_310 : decode prog_7_method_9_code 310 = .ok (.if_icmp .ge 27, 3) := by decide +kernel
theorem d_M_uniteTexts_313 : decode prog_7_method_9_code 313 = .ok (.lload 11, 2) := by decide +kernel
theorem d_M_uniteTexts_315 : decode prog_7_method_9_code 315 = .ok (.aload_n 0, 1) := by decide +kernel
theorem d_M_uniteTexts_316 : decode prog_7_method_9_code 316 = .ok (.getfield 56, 3) := by decide +kernel
theorem d_M_uniteTexts_319 : decode prog_7_method_9_code 319 = .ok (.iload 13, 2) := by decide +kernel
theorem d_M_uniteTexts_321 : decode prog_7_method_9_code 321 = .ok (.iaload, 1) := by decide +kernel
theorem d_M_uniteTexts_322 : decode prog_7_method_9_code 322 = .ok (.i2l, 1) := by decide +kernel
theorem d_M_uniteTexts_323 : decode prog_7_method_9_code 323 = .ok (.iconst 4, 1) := by decide +kernel
theorem d_M_uniteTexts_324 : decode prog_7_method_9_code 324 = .ok (.iload 13, 2) := by decide +kernel
theorem d_M_uniteTexts_326 : decode prog_7_method_9_code 326 = .ok (.imul, 1) := by decide +kernel
theorem d_M_uniteTexts_327 : decode prog_7_method_9_code 327 = .ok (.lshl, 1) := by decide +kernel
theorem d_M_uniteTexts_328 : decode prog_7_method_9_code 328 = .ok (.lor, 1) := by decide +kernel
theorem d_M_uniteTexts_329 : decode prog_7_method_9_code 329 = .ok (.lstore 11, 2) := by decide +kernel
theorem d_M_uniteTexts_331 : decode prog_7_method_9_code 331 = .ok (.iinc 13 1, 3) := by decide +kernel
theorem d_M_uniteTexts_334 : decode prog_7_method_9_code 334 = .ok (.goto (-30), 3) := by decide +kernel
theorem d_M_uniteTexts_337 : decode prog_7_method_9_code 337 = .ok (.lload 11, 2) := by decide +kernel
theorem d_M_uniteTexts_339 : decode prog_7_method_9_code 339 = .ok (.lreturn, 1) := by decide +kernel
theorem d_M_size_0 : decode prog_7_method_3_code 0 = .ok (.lload_n 0, 1) := by decide +kernel
theorem d_M_size_1 : decode prog_7_method_3_code 1 = .ok (.lconst 0, 1) := by decide +kernel
theorem d_M_size_2 : decode prog_7_method_3_code 2 = .ok (.lcmp, 1) := by decide +kernel
theorem d_M_size_3 : decode prog_7_method_3_code 3 = .ok (.ifCond .ge 7, 3) := by decide +kernel
theorem d_M_size_6 : decode prog_7_method_3_code 6 = .ok (.iconst 0, 1) := by decide +kernel
theorem d_M_size_7 : decode prog_7_method_3_code 7 = .ok (.goto 8, 3) := by decide +kernel
theorem d_M_size_10 : decode prog_7_method_3_code 10 = .ok (.lload_n 0, 1) := by decide +kernel
theorem d_M_size_11 : decode prog_7_method_3_code 11 = .ok (.bipush 32, 2) := by decide +kernel
theorem d_M_size_13 : decode prog_7_method_3_code 13 = .ok (.lshr, 1) := by decide +kernel
theorem d_M_size_14 : decode prog_7_method_3_code 14 = .ok (.l2i, 1) := by decide +kernel
theorem d_M_size_15 : decode prog_7_method_3_code 15 = .ok (.ireturn, 1) := by decide +kernel
theorem d_M_matched_0 : decode prog_7_method_6_code 0 = .ok (.iconst 0, 1) := by decide +kernel
theorem d_M_matched_1 : decode prog_7_method_6_code 1 = .ok (.istore 6, 2) := by decide +kernel
theorem d_M_matched_3 : decode prog_7_method_6_code 3 = .ok (.iconst 0, 1) := by decide +kernel
theorem d_M_matched_4 : decode prog_7_method_6_code 4 = .ok (.istore 7, 2) := by decide +kernel
theorem d_M_matched_6 : decode prog_7_method_6_code 6 = .ok (.aload_n 0, 1) := by decide +kernel
theorem d_M_matched_7 : decode prog_7_method_6_code 7 = .ok (.lload_n 1, 1) := by decide +kernel
theorem d_M_matched_8 : decode prog_7_method_6_code 8 = .ok (.lload_n 3, 1) := by decide +kernel
theorem d_M_matched_9 : decode prog_7_method_6_code 9 = .ok (.invokevirtual 74, 3) := by decide +kernel
theorem d_M_matched_12 : decode prog_7_method_6_code 12 = .ok (.iload 6, 2) := by decide +kernel
theorem d_M_matched_14 : decode prog_7_method_6_code 14 = .ok (.lload_n 1, 1) := by decide +kernel
theorem d_M_matched_15 : decode prog_7_method_6_code 15 = .ok (.invokestatic 66, 3) := by decide +kernel
theorem d_M_matched_18 : decode prog_7_method_6_code 18 = .ok (.if_icmp .ge 91, 3) := by decide +kernel
theorem d_M_matched_21 : decode prog_7_method_6_code 21 = .ok (.iload 7, 2) := by decide +kernel
theorem d_M_matched_23 : decode prog_7_method_6_code 23 = .ok (.lload_n 3, 1) := by decide +kernel
theorem d_M_matched_24 : decode prog_7_method_6_code 24 = .ok (.invokestatic 66, 3) := by decide +kernel
theorem d_M_matched_27 : decode prog_7_method_6_code 27 = .ok (.if_icmp .ge 82, 3) := by decide +kernel
theorem d_M_matched_30 : decode prog_7_method_6_code 30 = .ok (.lload_n 1, 1) := by decide +kernel
theorem d_M_matched_31 : decode prog_7_method_6_code 31 = .ok (.iload 6, 2) := by decide +kernel
theorem d_M_matched_33 : decode prog_7_method_6_code 33 = .ok (.invokestatic 70, 3) := by decide +kernel
theorem d_M_matched_36 : decode prog_7_method_6_code 36 = .ok (.lload_n 3, 1) := by decide +kernel
theorem d_M_matched_37 : decode prog_7_method_6_code 37 = .ok (.iload 7, 2) := by decide +kernel
theorem d_M_matched_39 : decode prog_7_method_6_code 39 = .ok (.invokestatic 70, 3) := by decide +kernel
theorem d_M_matched_42 : decode prog_7_method_6_code 42 = .ok (.if_icmp .ne 22, 3) := by decide +kernel
theorem d_M_matched_45 : decode prog_7_method_6_code 45 = .ok (.iload 6, 2) := by decide +kernel
theorem d_M_matched_47 : decode prog_7_method_6_code 47 = .ok (.iload 5, 2) := by decide +kernel
theorem d_M_matched_49 : decode prog_7_method_6_code 49 = .ok (.if_icmp .ne 6, 3) := by decide +kernel
theorem d_M_matched_52 : decode prog_7_method_6_code 52 = .ok (.iload 7, 2) := by decide +kernel
theorem d_M_matched_54 : decode prog_7_method_6_code 54 = .ok (.ireturn, 1) := by decide +kernel
theorem d_M_matched_55 : decode prog_7_method_6_code 55 = .ok (.iinc 6 1, 3) := by decide +kernel
theorem d_M_matched_58 : decode prog_7_method_6_code 58 = .ok (.iinc 7 1, 3) := by decide +kernel
theorem d_M_matched_61 : decode prog_7_method_6_code 61 = .ok (.goto (-49), 3) := by decide +kernel
theorem d_M_matched_64 : decode prog_7_method_6_code 64 = .ok (.aload_n 0, 1) := by decide +kernel
theorem d_M_matched_65 : decode prog_7_method_6_code 65 = .ok (.getfield 53, 3) := by decide +kernel
theorem d_M_matched_68 : decode prog_7_method_6_code 68 = .ok (.bipush 9, 2) := by decide +kernel
theorem d_M_matched_70 : decode prog_7_method_6_code 70 = .ok (.iload 6, 2) := by decide +kernel
theorem d_M_matched_72 : decode prog_7_method_6_code 72 = .ok (.iconst 1, 1) := by decide +kernel
theorem d_M_matched_73 : decode prog_7_method_6_code 73 = .ok (.iadd, 1) := by decide +kernel
theorem d_M_matched_74 : decode prog_7_method_6_code 74 = .ok (.imul, 1) := by decide +kernel
theorem d_M_matched_75 : decode prog_7_method_6_code 75 = .ok (.iload 7, 2) := by decide +kernel
theorem d_M_matched_77 : decode prog_7_method_6_code 77 = .ok (.iadd, 1) := by decide +kernel
theorem d_M_matched_78 : decode prog_7_method_6_code 78 = .ok (.iaload, 1) := by decide +kernel
theorem d_M_matched_79 : decode prog_7_method_6_code 79 = .ok (.aload_n 0, 1) := by decide +kernel
theorem d_M_matched_80 : decode prog_7_method_6_code 80 = .ok (.getfield 53, 3) := by decide +kernel
theorem d_M_matched_83 : decode prog_7_method_6_code 83 = .ok (.bipush 9, 2) := by decide +kernel
theorem d_M_matched_85 : decode prog_7_method_6_code 85 = .ok (.iload 6, 2) := by decide +kernel
theorem d_M_matched_87 : decode prog_7_method_6_code 87 = .ok (.imul, 1) := by decide +kernel
theorem d_M_matched_88 : decode prog_7_method_6_code 88 = .ok (.iload 7, 2) := by decide +kernel
theorem d_M_matched_90 : decode prog_7_method_6_code 90 = .ok (.iadd, 1) := by decide +kernel
theorem d_M_matched_91 : decode prog_7_method_6_code 91 = .ok (.iconst 1, 1) := by decide +kernel
theorem d_M_matched_92 : decode prog_7_method_6_code 92 = .ok (.iadd, 1) := by decide +kernel
theorem d_M_matched_93 : decode prog_7_method_6_code 93 = .ok (.iaload, 1) := by decide +kernel
theorem d_M_matched_94 : decode prog_7_method_6_code 94 = .ok (.if_icmp .lt 9, 3) := by decide +kernel
theorem d_M_matched_97 : decode prog_7_method_6_code 97 = .ok (.iinc 6 1, 3) := by decide +kernel
theorem d_M_matched_100 : decode prog_7_method_6_code 100 = .ok (.goto (-88), 3) := by decide +kernel
theorem d_M_matched_103 : decode prog_7_method_6_code 103 = .ok (.iinc 7 1, 3) := by decide +kernel
theorem d_M_matched_106 : decode prog_7_method_6_code 106 = .ok (.goto (-94), 3) := by decide +kernel
theorem d_M_matched_109 : decode prog_7_method_6_code 109 = .ok (.iconst (-1), 1) := by decide +kernel
theorem d_M_matched_110 : decode prog_7_method_6_code 110 = .ok (.ireturn, 1) := by decide +kernel
theorem d_M_subsequences_0 : decode prog_7_method_5_code 0 = .ok (.iconst 0, 1) := by decide +kernel
theorem d_M_subsequences_1 : decode prog_7_method_5_code 1 = .ok (.istore 5, 2) := by decide +kernel
theorem d_M_subsequences_3 : decode prog_7_method_5_code 3 = .ok (.iload 5, 2) := by decide +kernel
theorem d_M_subsequences_5 : decode prog_7_method_5_code 5 = .ok (.bipush 81, 2) := by decide +kernel
theorem d_M_subsequences_7 : decode prog_7_method_5_code 7 = .ok (.if_icmp .ge 17, 3) := by decide +kernel
theorem d_M_subsequences_10 : decode prog_7_method_5_code 10 = .ok (.aload_n 0, 1) := by decide +kernel
theorem d_M_subsequences_11 : decode prog_7_method_5_code 11 = .ok (.getfield 53, 3) := by decide +kernel
theorem d_M_subsequences_14 : decode prog_7_method_5_code 14 = .ok (.iload 5, 2) := by decide +kernel
theorem d_M_subsequences_16 : decode prog_7_method_5_code 16 = .ok (.iconst 0, 1) := by decide +kernel
theorem d_M_subsequences_17 : decode prog_7_method_5_code 17 = .ok (.iastore, 1) := by decide +kernel
theorem d_M_subsequences_18 : decode prog_7_method_5_code 18 = .ok (.iinc 5 1, 3) := by decide +kernel
theorem d_M_subsequences_21 : decode prog_7_method_5_code 21 = .ok (.goto (-18), 3) := by decide +kernel
theorem d_M_subsequences_24 : decode prog_7_method_5_code 24 = .ok (.lload_n 1, 1) := by decide +kernel
theorem d_M_subsequences_25 : decode prog_7_method_5_code 25 = .ok (.invokestatic 66, 3) := by decide +kernel
theorem d_M_subsequences_28 : decode prog_7_method_5_code 28 = .ok (.iconst 1, 1) := by decide +kernel
theorem d_M_subsequences_29 : decode prog_7_method_5_code 29 = .ok (.isub, 1) := by decide +kernel
theorem d_M_subsequences_30 : decode prog_7_method_5_code 30 = .ok (.istore 5, 2) := by decide +kernel
theorem d_M_subsequences_32 : decode prog_7_method_5_code 32 = .ok (.iload 5, 2) := by decide +kernel
theorem d_M_subsequences_34 : decode prog_7_method_5_code 34 = .ok (.ifCond .lt 130, 3) := by decide +kernel
theorem d_M_subsequences_37 : decode prog_7_method_5_code 37 = .ok (.lload_n 3, 1) := by decide +kernel
theorem d_M_subsequences_38 : decode prog_7_method_5_code 38 = .ok (.invokestatic 66, 3) := by decide +kernel
theorem d_M_subsequences_41 : decode prog_7_method_5_code 41 = .ok (.iconst 1, 1) := by decide +kernel
theorem d_M_subsequences_42 : decode prog_7_method_5_code 42 = .ok (.isub, 1) := by decide +kernel
theorem d_M_subsequences_43 : decode prog_7_method_5_code 43 = .ok (.istore 6, 2) := by decide +kernel
theorem d_M_subsequences_45 : decode prog_7_method_5_code 45 = .ok (.iload 6, 2) := by decide +kernel
theorem d_M_subsequences_47 : decode prog_7_method_5_code 47 = .ok (.ifCond .lt 111, 3) := by decide +kernel
theorem d_M_subsequences_50 : decode prog_7_method_5_code 50 = .ok (.aload_n 0, 1) := by decide +kernel
theorem d_M_subsequences_51 : decode prog_7_method_5_code 51 = .ok (.getfield 53, 3) := by decide +kernel
theorem d_M_subsequences_54 : decode prog_7_method_5_code 54 = .ok (.bipush 9, 2) := by decide +kernel
theorem d_M_subsequences_56 : decode prog_7_method_5_code 56 = .ok (.iload 5, 2) := by decide +kernel
theorem d_M_subsequences_58 : decode prog_7_method_5_code 58 = .ok (.iconst 1, 1) := by decide +kernel
theorem d_M_subsequences_59 : decode prog_7_method_5_code 59 = .ok (.iadd, 1) := by decide +kernel
theorem d_M_subsequences_60 : decode prog_7_method_5_code 60 = .ok (.imul, 1) := by decide +kernel
theorem d_M_subsequences_61 : decode prog_7_method_5_code 61 = .ok (.iload 6, 2) := by decide +kernel
theorem d_M_subsequences_63 : decode prog_7_method_5_code 63 = .ok (.iadd, 1) := by decide +kernel
theorem d_M_subsequences_64 : decode prog_7_method_5_code 64 = .ok (.iaload, 1) := by decide +kernel
theorem d_M_subsequences_65 : decode prog_7_method_5_code 65 = .ok (.istore 7, 2) := by decide +kernel
theorem d_M_subsequences_67 : decode prog_7_method_5_code 67 = .ok (.aload_n 0, 1) := by decide +kernel
theorem d_M_subsequences_68 : decode prog_7_method_5_code 68 = .ok (.getfield 53, 3) := by decide +kernel
theorem d_M_subsequences_71 : decode prog_7_method_5_code 71 = .ok (.bipush 9, 2) := by decide +kernel
theorem d_M_subsequences_73 : decode prog_7_method_5_code 73 = .ok (.iload 5, 2) := by decide +kernel
theorem d_M_subsequences_75 : decode prog_7_method_5_code 75 = .ok (.imul, 1) := by decide +kernel
theorem d_M_subsequences_76 : decode prog_7_method_5_code 76 = .ok (.iload 6, 2) := by decide +kernel
theorem d_M_subsequences_78 : decode prog_7_method_5_code 78 = .ok (.iadd, 1) := by decide +kernel
theorem d_M_subsequences_79 : decode prog_7_method_5_code 79 = .ok (.iconst 1, 1) := by decide +kernel
theorem d_M_subsequences_80 : decode prog_7_method_5_code 80 = .ok (.iadd, 1) := by decide +kernel
theorem d_M_subsequences_81 : decode prog_7_method_5_code 81 = .ok (.iaload, 1) := by decide +kernel
theorem d_M_subsequences_82 : decode prog_7_method_5_code 82 = .ok (.istore 8, 2) := by decide +kernel
theorem d_M_subsequences_84 : decode prog_7_method_5_code 84 = .ok (.iload 7, 2) := by decide +kernel
theorem d_M_subsequences_86 : decode prog_7_method_5_code 86 = .ok (.iload 8, 2) := by decide +kernel
theorem d_M_subsequences_88 : decode prog_7_method_5_code 88 = .ok (.if_icmp .le 8, 3) := by decide +kernel
theorem d_M_subsequences_91 : decode prog_7_method_5_code 91 = .ok (.iload 7, 2) := by decide +kernel
theorem d_M_subsequences_93 : decode prog_7_method_5_code 93 = .ok (.goto 5, 3) := by decide +kernel
theorem d_M_subsequences_96 : decode prog_7_method_5_code 96 = .ok (.iload 8, 2) := by decide +kernel
theorem d_M_subsequences_98 : decode prog_7_method_5_code 98 = .ok (.istore 9, 2) := by decide +kernel
theorem d_M_subsequences_100 : decode prog_7_method_5_code 100 = .ok (.aload_n 0, 1) := by decide +kernel
theorem d_M_subsequences_101 : decode prog_7_method_5_code 101 = .ok (.getfield 53, 3) := by decide +kernel
theorem d_M_subsequences_104 : decode prog_7_method_5_code 104 = .ok (.bipush 9, 2) := by decide +kernel
theorem d_M_subsequences_106 : decode prog_7_method_5_code 106 = .ok (.iload 5, 2) := by decide +kernel
theorem d_M_subsequences_108 : decode prog_7_method_5_code 108 = .ok (.imul, 1) := by decide +kernel
theorem d_M_subsequences_109 : decode prog_7_method_5_code 109 = .ok (.iload 6, 2) := by decide +kernel
theorem d_M_subsequences_111 : decode prog_7_method_5_code 111 = .ok (.iadd, 1) := by decide +kernel
theorem d_M_subsequences_112 : decode prog_7_method_5_code 112 = .ok (.lload_n 1, 1) := by decide +kernel
theorem d_M_subsequences_113 : decode prog_7_method_5_code 113 = .ok (.iload 5, 2) := by decide +kernel
theorem d_M_subsequences_115 : decode prog_7_method_5_code 115 = .ok (.invokestatic 70, 3) := by decide +kernel
theorem d_M_subsequences_118 : decode prog_7_method_5_code 118 = .ok (.lload_n 3, 1) := by decide +kernel
theorem d_M_subsequences_119 : decode prog_7_method_5_code 119 = .ok (.iload 6, 2) := by decide +kernel
theorem d_M_subsequences_121 : decode prog_7_method_5_code 121 = .ok (.invokestatic 70, 3) := by decide +kernel
theorem d_M_subsequences_124 : decode prog_7_method_5_code 124 = .ok (.if_icmp .ne 25, 3) := by decide +kernel
theorem d_M_subsequences_127 : decode prog_7_method_5_code 127 = .ok (.iconst 1, 1) := by decide +kernel
theorem d_M_subsequences_128 : decode prog_7_method_5_code 128 = .ok (.aload_n 0, 1) := by decide +kernel
theorem d_M_subsequences_129 : decode prog_7_method_5_code 129 = .ok (.getfield 53, 3) := by decide +kernel
theorem d_M_subsequences_132 : decode prog_7_method_5_code 132 = .ok (.bipush 9, 2) := by decide +kernel
theorem d_M_subsequences_134 : decode prog_7_method_5_code 134 = .ok (.iload 5, 2) := by decide +kernel
theorem d_M_subsequences_136 : decode prog_7_method_5_code 136 = .ok (.iconst 1, 1) := by decide +kernel
theorem d_M_subsequences_137 : decode prog_7_method_5_code 137 = .ok (.iadd, 1) := by decide +kernel
theorem d_M_subsequences_138 : decode prog_7_method_5_code 138 = .ok (.imul, 1) := by decide +kernel
theorem d_M_subsequences_139 : decode prog_7_method_5_code 139 = .ok (.iload 6, 2) := by decide +kernel
theorem d_M_subsequences_141 : decode prog_7_method_5_code 141 = .ok (.iadd, 1) := by decide +kernel
theorem d_M_subsequences_142 : decode prog_7_method_5_code 142 = .ok (.iconst 1, 1) := by decide +kernel
theorem d_M_subsequences_143 : decode prog_7_method_5_code 143 = .ok (.iadd, 1) := by decide +kernel
theorem d_M_subsequences_144 : decode prog_7_method_5_code 144 = .ok (.iaload, 1) := by decide +kernel
theorem d_M_subsequences_145 : decode prog_7_method_5_code 145 = .ok (.iadd, 1) := by decide +kernel
theorem d_M_subsequences_146 : decode prog_7_method_5_code 146 = .ok (.goto 5, 3) := by decide +kernel
theorem d_M_subsequences_149 : decode prog_7_method_5_code 149 = .ok (.iload 9, 2) := by decide +kernel
theorem d_M_subsequences_151 : decode prog_7_method_5_code 151 = .ok (.iastore, 1) := by decide +kernel
theorem d_M_subsequences_152 : decode prog_7_method_5_code 152 = .ok (.iinc 6 (-1), 3) := by decide +kernel
theorem d_M_subsequences_155 : decode prog_7_method_5_code 155 = .ok (.goto (-110), 3) := by decide +kernel
theorem d_M_subsequences_158 : decode prog_7_method_5_code 158 = .ok (.iinc 5 (-1), 3) := by decide +kernel
theorem d_M_subsequences_161 : decode prog_7_method_5_code 161 = .ok (.goto (-129), 3) := by decide +kernel
theorem d_M_subsequences_164 : decode prog_7_method_5_code 164 = .ok (.return_, 1) := by decide +kernel
