theorem d_Model_thrown_0 : decode prog_9_method_2_code 0 = .ok (.aload_n 0, 1) := by decide +kernel
theorem d_Model_thrown_1 : decode prog_9_method_2_code 1 = .ok (.getfield 75, 3) := by decide +kernel
theorem d_Model_thrown_4 : decode prog_9_method_2_code 4 = .ok (.ireturn, 1) := by decide +kernel
theorem d_Model_fails_0 : decode prog_9_method_3_code 0 = .ok (.aload_n 0, 1) := by decide +kernel
theorem d_Model_fails_1 : decode prog_9_method_3_code 1 = .ok (.iload_n 1, 1) := by decide +kernel
theorem d_Model_fails_2 : decode prog_9_method_3_code 2 = .ok (.putfield 75, 3) := by decide +kernel
theorem d_Model_fails_5 : decode prog_9_method_3_code 5 = .ok (.iconst 0, 1) := by decide +kernel
theorem d_Model_fails_6 : decode prog_9_method_3_code 6 = .ok (.ireturn, 1) := by decide +kernel
theorem d_Model_in_0 : decode prog_9_method_4_code 0 = .ok (.iload_n 0, 1) := by decide +kernel
theorem d_Model_in_1 : decode prog_9_method_4_code 1 = .ok (.iload_n 1, 1) := by decide +kernel
theorem d_Model_in_2 : decode prog_9_method_4_code 2 = .ok (.if_icmp .lt 12, 3) := by decide +kernel
theorem d_Model_in_5 : decode prog_9_method_4_code 5 = .ok (.iload_n 0, 1) := by decide +kernel
theorem d_Model_in_6 : decode prog_9_method_4_code 6 = .ok (.iload_n 2, 1) := by decide +kernel
theorem d_Model_in_7 : decode prog_9_method_4_code 7 = .ok (.if_icmp .gt 7, 3) := by decide +kernel
theorem d_Model_in_10 : decode prog_9_method_4_code 10 = .ok (.iconst 1, 1) := by decide +kernel
theorem d_Model_in_11 : decode prog_9_method_4_code 11 = .ok (.goto 4, 3) := by decide +kernel
theorem d_Model_in_14 : decode prog_9_method_4_code 14 = .ok (.iconst 0, 1) := by decide +kernel
theorem d_Model_in_15 : decode prog_9_method_4_code 15 = .ok (.ireturn, 1) := by decide +kernel
theorem d_Model_isPoint_0 : decode prog_9_method_5_code 0 = .ok (.iload_n 1, 1) := by decide +kernel
theorem d_Model_isPoint_1 : decode prog_9_method_5_code 1 = .ok (.ifCond .lt 15, 3) := by decide +kernel
theorem d_Model_isPoint_4 : decode prog_9_method_5_code 4 = .ok (.iload_n 1, 1) := by decide +kernel
theorem d_Model_isPoint_5 : decode prog_9_method_5_code 5 = .ok (.aload_n 0, 1) := by decide +kernel
theorem d_Model_isPoint_6 : decode prog_9_method_5_code 6 = .ok (.getfield 71, 3) := by decide +kernel
theorem d_Model_isPoint_9 : decode prog_9_method_5_code 9 = .ok (.if_icmp .ge 7, 3) := by decide +kernel
theorem d_Model_isPoint_12 : decode prog_9_method_5_code 12 = .ok (.iconst 1, 1) := by decide +kernel
theorem d_Model_isPoint_13 : decode prog_9_method_5_code 13 = .ok (.goto 4, 3) := by decide +kernel
theorem d_Model_isPoint_16 : decode prog_9_method_5_code 16 = .ok (.iconst 0, 1) := by decide +kernel
theorem d_Model_isPoint_17 : decode prog_9_method_5_code 17 = .ok (.ireturn, 1) := by decide +kernel
theorem d_Model_isCarrier_0 : decode prog_9_method_6_code 0 = .ok (.iload_n 1, 1) := by decide +kernel
theorem d_Model_isCarrier_1 : decode prog_9_method_6_code 1 = .ok (.ifCond .lt 15, 3) := by decide +kernel
theorem d_Model_isCarrier_4 : decode prog_9_method_6_code 4 = .ok (.iload_n 1, 1) := by decide +kernel
theorem d_Model_isCarrier_5 : decode prog_9_method_6_code 5 = .ok (.aload_n 0, 1) := by decide +kernel
theorem d_Model_isCarrier_6 : decode prog_9_method_6_code 6 = .ok (.getfield 78, 3) := by decide +kernel
theorem d_Model_isCarrier_9 : decode prog_9_method_6_code 9 = .ok (.if_icmp .ge 7, 3) := by decide +kernel
theorem d_Model_isCarrier_12 : decode prog_9_method_6_code 12 = .ok (.iconst 1, 1) := by decide +kernel
theorem d_Model_isCarrier_13 : decode prog_9_method_6_code 13 = .ok (.goto 4, 3) := by decide +kernel
theorem d_Model_isCarrier_16 : decode prog_9_method_6_code 16 = .ok (.iconst 0, 1) := by decide +kernel
theorem d_Model_isCarrier_17 : decode prog_9_method_6_code 17 = .ok (.ireturn, 1) := by decide +kernel
theorem d_Model_timesTo_0 : decode prog_9_method_7_code 0 = .ok (.iconst 0, 1) := by decide +kernel
theorem d_Model_timesTo_1 : decode prog_9_method_7_code 1 = .ok (.istore_n 2, 1) := by decide +kernel
theorem d_Model_timesTo_2 : decode prog_9_method_7_code 2 = .ok (.iload_n 2, 1) := by decide +kernel
theorem d_Model_timesTo_3 : decode prog_9_method_7_code 3 = .ok (.aload_n 0, 1) := by decide +kernel
theorem d_Model_timesTo_4 : decode prog_9_method_7_code 4 = .ok (.getfield 71, 3) := by decide +kernel
theorem d_Model_timesTo_7 : decode prog_9_method_7_code 7 = .ok (.if_icmp .ge 26, 3) := by decide +kernel
theorem d_Model_timesTo_10 : decode prog_9_method_7_code 10 = .ok (.aload_n 0, 1) := by decide +kernel
theorem d_Model_timesTo_11 : decode prog_9_method_7_code 11 = .ok (.getfield 65, 3) := by decide +kernel
theorem d_Model_timesTo_14 : decode prog_9_method_7_code 14 = .ok (.iload_n 2, 1) := by decide +kernel
theorem d_Model_timesTo_15 : decode prog_9_method_7_code 15 = .ok (.iload_n 2, 1) := by decide +kernel
theorem d_Model_timesTo_16 : decode prog_9_method_7_code 16 = .ok (.iload_n 1, 1) := by decide +kernel
theorem d_Model_timesTo_17 : decode prog_9_method_7_code 17 = .ok (.if_icmp .ne 7, 3) := by decide +kernel
theorem d_Model_timesTo_20 : decode prog_9_method_7_code 20 = .ok (.iconst 0, 1) := by decide +kernel
theorem d_Model_timesTo_21 : decode prog_9_method_7_code 21 = .ok (.goto 5, 3) := by decide +kernel
theorem d_Model_timesTo_24 : decode prog_9_method_7_code 24 = .ok (.ldc 81, 2) := by decide +kernel
theorem d_Model_timesTo_26 : decode prog_9_method_7_code 26 = .ok (.iastore, 1) := by decide +kernel
theorem d_Model_timesTo_27 : decode prog_9_method_7_code 27 = .ok (.iinc 2 1, 3) := by decide +kernel
theorem d_Model_timesTo_30 : decode prog_9_method_7_code 30 = .ok (.goto (-28), 3) := by decide +kernel
theorem d_Model_timesTo_33 : decode prog_9_method_7_code 33 = .ok (.iconst 0, 1) := by decide +kernel
theorem d_Model_timesTo_34 : decode prog_9_method_7_code 34 = .ok (.istore_n 2, 1) := by decide +kernel
theorem d_Model_timesTo_35 : decode prog_9_method_7_code 35 = .ok (.iload_n 2, 1) := by decide +kernel
theorem d_Model_timesTo_36 : decode prog_9_method_7_code 36 = .ok (.aload_n 0, 1) := by decide +kernel
theorem d_Model_timesTo_37 : decode prog_9_method_7_code 37 = .ok (.getfield 71, 3) := by decide +kernel
theorem d_Model_timesTo_40 : decode prog_9_method_7_code 40 = .ok (.if_icmp .ge 111, 3) := by decide +kernel
theorem d_Model_timesTo_43 : decode prog_9_method_7_code 43 = .ok (.iconst 0, 1) := by decide +kernel
theorem d_Model_timesTo_44 : decode prog_9_method_7_code 44 = .ok (.istore_n 3, 1) := by decide +kernel
theorem d_Model_timesTo_45 : decode prog_9_method_7_code 45 = .ok (.iload_n 3, 1) := by decide +kernel
theorem d_Model_timesTo_46 : decode prog_9_method_7_code 46 = .ok (.aload_n 0, 1) := by decide +kernel
theorem d_Model_timesTo_47 : decode prog_9_method_7_code 47 = .ok (.getfield 82, 3) := by decide +kernel
theorem d_Model_timesTo_50 : decode prog_9_method_7_code 50 = .ok (.if_icmp .ge 95, 3) := by decide +kernel
theorem d_Model_timesTo_53 : decode prog_9_method_7_code 53 = .ok (.aload_n 0, 1) := by decide +kernel
theorem d_Model_timesTo_54 : decode prog_9_method_7_code 54 = .ok (.getfield 26, 3) := by decide +kernel
theorem d_Model_timesTo_57 : decode prog_9_method_7_code 57 = .ok (.iload_n 3, 1) := by decide +kernel
theorem d_Model_timesTo_58 : decode prog_9_method_7_code 58 = .ok (.baload, 1) := by decide +kernel
theorem d_Model_timesTo_59 : decode prog_9_method_7_code 59 = .ok (.ifCond .ne 80, 3) := by decide +kernel
theorem d_Model_timesTo_62 : decode prog_9_method_7_code 62 = .ok (.aload_n 0, 1) := by decide +kernel
theorem d_Model_timesTo_63 : decode prog_9_method_7_code 63 = .ok (.getfield 65, 3) := by decide +kernel
theorem d_Model_timesTo_66 : decode prog_9_method_7_code 66 = .ok (.aload_n 0, 1) := by decide +kernel
theorem d_Model_timesTo_67 : decode prog_9_method_7_code 67 = .ok (.getfield 20, 3) := by decide +kernel
theorem d_Model_timesTo_70 : decode prog_9_method_7_code 70 = .ok (.iload_n 3, 1) := by decide +kernel
theorem d_Model_timesTo_71 : decode prog_9_method_7_code 71 = .ok (.iaload, 1) := by decide +kernel
theorem d_Model_timesTo_72 : decode prog_9_method_7_code 72 = .ok (.iaload, 1) := by decide +kernel
theorem d_Model_timesTo_73 : decode prog_9_method_7_code 73 = .ok (.ldc 81, 2) := by decide +kernel
theorem d_Model_timesTo_75 : decode prog_9_method_7_code 75 = .ok (.if_icmp .ge 64, 3) := by decide +kernel
theorem d_Model_timesTo_78 : decode prog_9_method_7_code 78 = .ok (.aload_n 0, 1) := by decide +kernel
theorem d_Model_timesTo_79 : decode prog_9_method_7_code 79 = .ok (.getfield 65, 3) := by decide +kernel
theorem d_Model_timesTo_82 : decode prog_9_method_7_code 82 = .ok (.aload_n 0, 1) := by decide +kernel
theorem d_Model_timesTo_83 : decode prog_9_method_7_code 83 = .ok (.getfield 20, 3) := by decide +kernel
theorem d_Model_timesTo_86 : decode prog_9_method_7_code 86 = .ok (.iload_n 3, 1) := by decide +kernel
theorem d_Model_timesTo_87 : decode prog_9_method_7_code 87 = .ok (.iaload, 1) := by decide +kernel
theorem d_Model_timesTo_88 : decode prog_9_method_7_code 88 = .ok (.iaload, 1) := by decide +kernel
theorem d_Model_timesTo_89 : decode prog_9_method_7_code 89 = .ok (.aload_n 0, 1) := by decide +kernel
theorem d_Model_timesTo_90 : decode prog_9_method_7_code 90 = .ok (.getfield 23, 3) := by decide +kernel
theorem d_Model_timesTo_93 : decode prog_9_method_7_code 93 = .ok (.iload_n 3, 1) := by decide +kernel
theorem d_Model_timesTo_94 : decode prog_9_method_7_code 94 = .ok (.iaload, 1) := by decide +kernel
theorem d_Model_timesTo_95 : decode prog_9_method_7_code 95 = .ok (.iadd, 1) := by decide +kernel
theorem d_Model_timesTo_96 : decode prog_9_method_7_code 96 = .ok (.aload_n 0, 1) := by decide +kernel
theorem d_Model_timesTo_97 : decode prog_9_method_7_code 97 = .ok (.getfield 65, 3) := by decide +kernel
theorem d_Model_timesTo_100 : decode prog_9_method_7_code 100 = .ok (.aload_n 0, 1) := by decide +kernel
theorem d_Model_timesTo_101 : decode prog_9_method_7_code 101 = .ok (.getfield 17, 3) := by decide +kernel
theorem d_Model_timesTo_104 : decode prog_9_method_7_code 104 = .ok (.iload_n 3, 1) := by decide +kernel
theorem d_Model_timesTo_105 : decode prog_9_method_7_code 105 = .ok (.iaload, 1) := by decide +kernel
theorem d_Model_timesTo_106 : decode prog_9_method_7_code 106 = .ok (.iaload, 1) := by decide +kernel
theorem d_Model_timesTo_107 : decode prog_9_method_7_code 107 = .ok (.if_icmp .ge 32, 3) := by decide +kernel
theorem d_Model_timesTo_110 : decode prog_9_method_7_code 110 = .ok (.aload_n 0, 1) := by decide +kernel
theorem d_Model_timesTo_111 : decode prog_9_method_7_code 111 = .ok (.getfield 65, 3) := by decide +kernel
theorem d_Model_timesTo_114 : decode prog_9_method_7_code 114 = .ok (.aload_n 0, 1) := by decide +kernel
theorem d_Model_timesTo_115 : decode prog_9_method_7_code 115 = .ok (.getfield 17, 3) := by decide +kernel
theorem d_Model_timesTo_118 : decode prog_9_method_7_code 118 = .ok (.iload_n 3, 1) := by decide +kernel
theorem d_Model_timesTo_119 : decode prog_9_method_7_code 119 = .ok (.iaload, 1) := by decide +kernel
theorem d_Model_timesTo_120 : decode prog_9_method_7_code 120 = .ok (.aload_n 0, 1) := by decide +kernel
theorem d_Model_timesTo_121 : decode prog_9_method_7_code 121 = .ok (.getfield 65, 3) := by decide +kernel
theorem d_Model_timesTo_124 : decode prog_9_method_7_code 124 = .ok (.aload_n 0, 1) := by decide +kernel
theorem d_Model_timesTo_125 : decode prog_9_method_7_code 125 = .ok (.getfield 20, 3) := by decide +kernel
theorem d_Model_timesTo_128 : decode prog_9_method_7_code 128 = .ok (.iload_n 3, 1) := by decide +kernel
theorem d_Model_timesTo_129 : decode prog_9_method_7_code 129 = .ok (.iaload, 1) := by decide +kernel
theorem d_Model_timesTo_130 : decode prog_9_method_7_code 130 = .ok (.iaload, 1) := by decide +kernel
theorem d_Model_timesTo_131 : decode prog_9_method_7_code 131 = .ok (.aload_n 0, 1) := by decide +kernel
theorem d_Model_timesTo_132 : decode prog_9_method_7_code 132 = .ok (.getfield 23, 3) := by decide +kernel
theorem d_Model_timesTo_135 : decode prog_9_method_7_code 135 = .ok (.iload_n 3, 1) := by decide +kernel
theorem d_Model_timesTo_136 : decode prog_9_method_7_code 136 = .ok (.iaload, 1) := by decide +kernel
theorem d_Model_timesTo_137 : decode prog_9_method_7_code 137 = .ok (.iadd, 1) := by decide +kernel
theorem d_Model_timesTo_138 : decode prog_9_method_7_code 138 = .ok (.iastore, 1) := by decide +kernel
theorem d_Model_timesTo_139 : decode prog_9_method_7_code 139 = .ok (.iinc 3 1, 3) := by decide +kernel
theorem d_Model_timesTo_142 : decode prog_9_method_7_code 142 = .ok (.goto (-97), 3) := by decide +kernel
theorem d_Model_timesTo_145 : decode prog_9_method_7_code 145 = .ok (.iinc 2 1, 3) := by decide +kernel
theorem d_Model_timesTo_148 : decode prog_9_method_7_code 148 = .ok (.goto (-113), 3) := by decide +kernel
theorem d_Model_timesTo_151 : decode prog_9_method_7_code 151 = .ok (.return_, 1) := by decide +kernel
theorem d_Model_pieceFrom_0 : decode prog_9_method_8_code 0 = .ok (.iconst (-1), 1) := by decide +kernel
theorem d_Model_pieceFrom_1 : decode prog_9_method_8_code 1 = .ok (.istore_n 2, 1) := by decide +kernel
theorem d_Model_pieceFrom_2 : decode prog_9_method_8_code 2 = .ok (.aload_n 0, 1) := by decide +kernel
theorem d_Model_pieceFrom_3 : decode prog_9_method_8_code 3 = .ok (.getfield 82, 3) := by decide +kernel
theorem d_Model_pieceFrom_6 : decode prog_9_method_8_code 6 = .ok (.iconst 1, 1) := by decide +kernel
theorem d_Model_pieceFrom_7 : decode prog_9_method_8_code 7 = .ok (.isub, 1) := by decide +kernel
theorem d_Model_pieceFrom_8 : decode prog_9_method_8_code 8 = .ok (.istore_n 3, 1) := by decide +kernel
theorem d_Model_pieceFrom_9 : decode prog_9_method_8_code 9 = .ok (.iload_n 3, 1) := by decide +kernel
theorem d_Model_pieceFrom_10 : decode prog_9_method_8_code 10 = .ok (.ifCond .lt 89, 3) := by decide +kernel
theorem d_Model_pieceFrom_13 : decode prog_9_method_8_code 13 = .ok (.aload_n 0, 1) := by decide +kernel
theorem d_Model_pieceFrom_14 : decode prog_9_method_8_code 14 = .ok (.getfield 26, 3) := by decide +kernel
theorem d_Model_pieceFrom_17 : decode prog_9_method_8_code 17 = .ok (.iload_n 3, 1) := by decide +kernel
theorem d_Model_pieceFrom_18 : decode prog_9_method_8_code 18 = .ok (.baload, 1) := by decide +kernel
theorem d_Model_pieceFrom_19 : decode prog_9_method_8_code 19 = .ok (.ifCond .ne 60, 3) := by decide +kernel
theorem d_Model_pieceFrom_22 : decode prog_9_method_8_code 22 = .ok (.aload_n 0, 1) := by decide +kernel
theorem d_Model_pieceFrom_23 : decode prog_9_method_8_code 23 = .ok (.getfield 17, 3) := by decide +kernel
theorem d_Model_pieceFrom_26 : decode prog_9_method_8_code 26 = .ok (.iload_n 3, 1) := by decide +kernel
theorem d_Model_pieceFrom_27 : decode prog_9_method_8_code 27 = .ok (.iaload, 1) := by decide +kernel
theorem d_Model_pieceFrom_28 : decode prog_9_method_8_code 28 = .ok (.iload_n 1, 1) := by decide +kernel
theorem d_Model_pieceFrom_29 : decode prog_9_method_8_code 29 = .ok (.if_icmp .ne 50, 3) := by decide +kernel
theorem d_Model_pieceFrom_32 : decode prog_9_method_8_code 32 = .ok (.aload_n 0, 1) := by decide +kernel
theorem d_Model_pieceFrom_33 : decode prog_9_method_8_code 33 = .ok (.getfield 65, 3) := by decide +kernel
theorem d_Model_pieceFrom_36 : decode prog_9_method_8_code 36 = .ok (.aload_n 0, 1) := by decide +kernel
theorem d_Model_pieceFrom_37 : decode prog_9_method_8_code 37 = .ok (.getfield 20, 3) := by decide +kernel
theorem d_Model_pieceFrom_40 : decode prog_9_method_8_code 40 = .ok (.iload_n 3, 1) := by decide +kernel
theorem d_Model_pieceFrom_41 : decode prog_9_method_8_code 41 = .ok (.iaload, 1) := by decide +kernel
theorem d_Model_pieceFrom_42 : decode prog_9_method_8_code 42 = .ok (.iaload, 1) := by decide +kernel
theorem d_Model_pieceFrom_43 : decode prog_9_method_8_code 43 = .ok (.ldc 81, 2) := by decide +kernel
theorem d_Model_pieceFrom_45 : decode prog_9_method_8_code 45 = .ok (.if_icmp .ge 34, 3) := by decide +kernel
theorem d_Model_pieceFrom_48 : decode prog_9_method_8_code 48 = .ok (.aload_n 0, 1) := by decide +kernel
theorem d_Model_pieceFrom_49 : decode prog_9_method_8_code 49 = .ok (.getfield 65, 3) := by decide +kernel
theorem d_Model_pieceFrom_52 : decode prog_9_method_8_code 52 = .ok (.aload_n 0, 1) := by decide +kernel
theorem d_Model_pieceFrom_53 : decode prog_9_method_8_code 53 = .ok (.getfield 20, 3) := by decide +kernel
theorem d_Model_pieceFrom_56 : decode prog_9_method_8_code 56 = .ok (.iload_n 3, 1) := by decide +kernel
theorem d_Model_pieceFrom_57 : decode prog_9_method_8_code 57 = .ok (.iaload, 1) := by decide +kernel
theorem d_Model_pieceFrom_58 : decode prog_9_method_8_code 58 = .ok (.iaload, 1) := by decide +kernel
theorem d_Model_pieceFrom_59 : decode prog_9_method_8_code 59 = .ok (.aload_n 0, 1) := by decide +kernel
theorem d_Model_pieceFrom_60 : decode prog_9_method_8_code 60 = .ok (.getfield 23, 3) := by decide +kernel
theorem d_Model_pieceFrom_63 : decode prog_9_method_8_code 63 = .ok (.iload_n 3, 1) := by decide +kernel
theorem d_Model_pieceFrom_64 : decode prog_9_method_8_code 64 = .ok (.iaload, 1) := by decide +kernel
theorem d_Model_pieceFrom_65 : decode prog_9_method_8_code 65 = .ok (.iadd, 1) := by decide +kernel
theorem d_Model_pieceFrom_66 : decode prog_9_method_8_code 66 = .ok (.aload_n 0, 1) := by decide +kernel
theorem d_Model_pieceFrom_67 : decode prog_9_method_8_code 67 = .ok (.getfield 65, 3) := by decide +kernel
theorem d_Model_pieceFrom_70 : decode prog_9_method_8_code 70 = .ok (.iload_n 1, 1) := by decide +kernel
theorem d_Model_pieceFrom_71 : decode prog_9_method_8_code 71 = .ok (.iaload, 1) := by decide +kernel
theorem d_Model_pieceFrom_72 : decode prog_9_method_8_code 72 = .ok (.if_icmp .ne 7, 3) := by decide +kernel
theorem d_Model_pieceFrom_75 : decode prog_9_method_8_code 75 = .ok (.iconst 1, 1) := by decide +kernel
theorem d_Model_pieceFrom_76 : decode prog_9_method_8_code 76 = .ok (.goto 4, 3) := by decide +kernel
theorem d_Model_pieceFrom_79 : decode prog_9_method_8_code 79 = .ok (.iconst 0, 1) := by decide +kernel
theorem d_Model_pieceFrom_80 : decode prog_9_method_8_code 80 = .ok (.istore 4, 2) := by decide +kernel
theorem d_Model_pieceFrom_82 : decode prog_9_method_8_code 82 = .ok (.iload 4, 2) := by decide +kernel
theorem d_Model_pieceFrom_84 : decode prog_9_method_8_code 84 = .ok (.ifCond .eq 7, 3) := by decide +kernel
theorem d_Model_pieceFrom_87 : decode prog_9_method_8_code 87 = .ok (.iload_n 3, 1) := by decide +kernel
theorem d_Model_pieceFrom_88 : decode prog_9_method_8_code 88 = .ok (.goto 4, 3) := by decide +kernel
theorem d_Model_pieceFrom_91 : decode prog_9_method_8_code 91 = .ok (.iload_n 2, 1) := by decide +kernel
theorem d_Model_pieceFrom_92 : decode prog_9_method_8_code 92 = .ok (.istore_n 2, 1) := by decide +kernel
theorem d_Model_pieceFrom_93 : decode prog_9_method_8_code 93 = .ok (.iinc 3 (-1), 3) := by decide +kernel
theorem d_Model_pieceFrom_96 : decode prog_9_method_8_code 96 = .ok (.goto (-87), 3) := by decide +kernel
theorem d_Model_pieceFrom_99 : decode prog_9_method_8_code 99 = .ok (.iload_n 2, 1) := by decide +kernel
theorem d_Model_pieceFrom_100 : decode prog_9_method_8_code 100 = .ok (.ireturn, 1) := by decide +kernel
theorem d_Model_timeTo_0 : decode prog_9_method_9_code 0 = .ok (.aload_n 0, 1) := by decide +kernel
theorem d_Model_timeTo_1 : decode prog_9_method_9_code 1 = .ok (.iload_n 2, 1) := by decide +kernel
theorem d_Model_timeTo_2 : decode prog_9_method_9_code 2 = .ok (.invokevirtual 85, 3) := by decide +kernel
theorem d_Model_timeTo_5 : decode prog_9_method_9_code 5 = .ok (.aload_n 0, 1) := by decide +kernel
theorem d_Model_timeTo_6 : decode prog_9_method_9_code 6 = .ok (.getfield 65, 3) := by decide +kernel
theorem d_Model_timeTo_9 : decode prog_9_method_9_code 9 = .ok (.iload_n 1, 1) := by decide +kernel
theorem d_Model_timeTo_10 : decode prog_9_method_9_code 10 = .ok (.iaload, 1) := by decide +kernel
theorem d_Model_timeTo_11 : decode prog_9_method_9_code 11 = .ok (.ireturn, 1) := by decide +kernel
theorem d_Model_way_0 : decode prog_9_method_10_code 0 = .ok (.aload_n 0, 1) := by decide +kernel
theorem d_Model_way_1 : decode prog_9_method_10_code 1 = .ok (.iload_n 1, 1) := by decide +kernel
theorem d_Model_way_2 : decode prog_9_method_10_code 2 = .ok (.invokevirtual 89, 3) := by decide +kernel
theorem d_Model_way_5 : decode prog_9_method_10_code 5 = .ok (.ifCond .eq 20, 3) := by decide +kernel
theorem d_Model_way_8 : decode prog_9_method_10_code 8 = .ok (.aload_n 0, 1) := by decide +kernel
theorem d_Model_way_9 : decode prog_9_method_10_code 9 = .ok (.iload_n 2, 1) := by decide +kernel
theorem d_Model_way_10 : decode prog_9_method_10_code 10 = .ok (.invokevirtual 89, 3) := by decide +kernel
theorem d_Model_way_13 : decode prog_9_method_10_code 13 = .ok (.ifCond .eq 12, 3) := by decide +kernel
theorem d_Model_way_16 : decode prog_9_method_10_code 16 = .ok (.iload_n 3, 1) := by decide +kernel
theorem d_Model_way_17 : decode prog_9_method_10_code 17 = .ok (.iconst 0, 1) := by decide +kernel
theorem d_Model_way_18 : decode prog_9_method_10_code 18 = .ok (.iconst 2, 1) := by decide +kernel
theorem d_Model_way_19 : decode prog_9_method_10_code 19 = .ok (.invokestatic 93, 3) := by decide +kernel
theorem d_Model_way_22 : decode prog_9_method_10_code 22 = .ok (.ifCond .ne 9, 3) := by decide +kernel
theorem d_Model_way_25 : decode prog_9_method_10_code 25 = .ok (.aload_n 0, 1) := by decide +kernel
theorem d_Model_way_26 : decode prog_9_method_10_code 26 = .ok (.iconst 1, 1) := by decide +kernel
theorem d_Model_way_27 : decode prog_9_method_10_code 27 = .ok (.invokevirtual 97, 3) := by decide +kernel
theorem d_Model_way_30 : decode prog_9_method_10_code 30 = .ok (.ireturn, 1) := by decide +kernel
theorem d_Model_way_31 : decode prog_9_method_10_code 31 = .ok (.aload_n 0, 1) := by decide +kernel
theorem d_Model_way_32 : decode prog_9_method_10_code 32 = .ok (.iconst 0, 1) := by decide +kernel
theorem d_Model_way_33 : decode prog_9_method_10_code 33 = .ok (.putfield 75, 3) := by decide +kernel
theorem d_Model_way_36 : decode prog_9_method_10_code 36 = .ok (.aload_n 0, 1) := by decide +kernel
theorem d_Model_way_37 : decode prog_9_method_10_code 37 = .ok (.iload_n 2, 1) := by decide +kernel
theorem d_Model_way_38 : decode prog_9_method_10_code 38 = .ok (.invokevirtual 85, 3) := by decide +kernel
theorem d_Model_way_41 : decode prog_9_method_10_code 41 = .ok (.aload_n 0, 1) := by decide +kernel
theorem d_Model_way_42 : decode prog_9_method_10_code 42 = .ok (.getfield 65, 3) := by decide +kernel
theorem d_Model_way_45 : decode prog_9_method_10_code 45 = .ok (.iload_n 1, 1) := by decide +kernel
theorem d_Model_way_46 : decode prog_9_method_10_code 46 = .ok (.iaload, 1) := by decide +kernel
theorem d_Model_way_47 : decode prog_9_method_10_code 47 = .ok (.ldc 81, 2) := by decide +kernel
theorem d_Model_way_49 : decode prog_9_method_10_code 49 = .ok (.if_icmp .ne 5, 3) := by decide +kernel
theorem d_Model_way_52 : decode prog_9_method_10_code 52 = .ok (.iconst (-1), 1) := by decide +kernel
theorem d_Model_way_53 : decode prog_9_method_10_code 53 = .ok (.ireturn, 1) := by decide +kernel
theorem d_Model_way_54 : decode prog_9_method_10_code 54 = .ok (.iload_n 3, 1) := by decide +kernel
theorem d_Model_way_55 : decode prog_9_method_10_code 55 = .ok (.iconst 2, 1) := by decide +kernel
theorem d_Model_way_56 : decode prog_9_method_10_code 56 = .ok (.if_icmp .ge 22, 3) := by decide +kernel
theorem d_Model_way_59 : decode prog_9_method_10_code 59 = .ok (.iload_n 3, 1) := by decide +kernel
theorem d_Model_way_60 : decode prog_9_method_10_code 60 = .ok (.ifCond .ne 12, 3) := by decide +kernel
theorem d_Model_way_63 : decode prog_9_method_10_code 63 = .ok (.aload_n 0, 1) := by decide +kernel
theorem d_Model_way_64 : decode prog_9_method_10_code 64 = .ok (.getfield 65, 3) := by decide +kernel
theorem d_Model_way_67 : decode prog_9_method_10_code 67 = .ok (.iload_n 1, 1) := by decide +kernel
theorem d_Model_way_68 : decode prog_9_method_10_code 68 = .ok (.iaload, 1) := by decide +kernel
theorem d_Model_way_69 : decode prog_9_method_10_code 69 = .ok (.goto 8, 3) := by decide +kernel
theorem d_Model_way_72 : decode prog_9_method_10_code 72 = .ok (.aload_n 0, 1) := by decide +kernel
theorem d_Model_way_73 : decode prog_9_method_10_code 73 = .ok (.iload_n 1, 1) := by decide +kernel
theorem d_Model_way_74 : decode prog_9_method_10_code 74 = .ok (.invokevirtual 101, 3) := by decide +kernel
theorem d_Model_way_77 : decode prog_9_method_10_code 77 = .ok (.ireturn, 1) := by decide +kernel
theorem d_Model_way_78 : decode prog_9_method_10_code 78 = .ok (.iconst 0, 1) := by decide +kernel
theorem d_Model_way_79 : decode prog_9_method_10_code 79 = .ok (.istore 4, 2) := by decide +kernel
theorem d_Model_way_81 : decode prog_9_method_10_code 81 = .ok (.iload_n 1, 1) := by decide +kernel
theorem d_Model_way_82 : decode prog_9_method_10_code 82 = .ok (.istore 5, 2) := by decide +kernel
theorem d_Model_way_84 : decode prog_9_method_10_code 84 = .ok (.iload 5, 2) := by decide +kernel
theorem d_Model_way_86 : decode prog_9_method_10_code 86 = .ok (.iload_n 2, 1) := by decide +kernel
theorem d_Model_way_87 : decode prog_9_method_10_code 87 = .ok (.if_icmp .eq 22, 3) := by decide +kernel
theorem d_Model_way_90 : decode prog_9_method_10_code 90 = .ok (.aload_n 0, 1) := by decide +kernel
theorem d_Model_way_91 : decode prog_9_method_10_code 91 = .ok (.getfield 20, 3) := by decide +kernel
theorem d_Model_way_94 : decode prog_9_method_10_code 94 = .ok (.aload_n 0, 1) := by decide +kernel
theorem d_Model_way_95 : decode prog_9_method_10_code 95 = .ok (.iload 5, 2) := by decide +kernel
theorem d_Model_way_97 : decode prog_9_method_10_code 97 = .ok (.invokevirtual 101, 3) := by decide +kernel
theorem d_Model_way_100 : decode prog_9_method_10_code 100 = .ok (.iaload, 1) := by decide +kernel
theorem d_Model_way_101 : decode prog_9_method_10_code 101 = .ok (.istore 5, 2) := by decide +kernel
theorem d_Model_way_103 : decode prog_9_method_10_code 103 = .ok (.iinc 4 1, 3) := by decide +kernel
theorem d_Model_way_106 : decode prog_9_method_10_code 106 = .ok (.goto (-22), 3) := by decide +kernel
theorem d_Model_way_109 : decode prog_9_method_10_code 109 = .ok (.iload 4, 2) := by decide +kernel
theorem d_Model_way_111 : decode prog_9_method_10_code 111 = .ok (.ireturn, 1) := by decide +kernel
theorem d_Model_toCharger_0 : decode prog_9_method_11_code 0 = .ok (.ldc 81, 2) := by decide +kernel
theorem d_Model_toCharger_2 : decode prog_9_method_11_code 2 = .ok (.istore_n 2, 1) := by decide +kernel
theorem d_Model_toCharger_3 : decode prog_9_method_11_code 3 = .ok (.iconst 0, 1) := by decide +kernel
theorem d_Model_toCharger_4 : decode prog_9_method_11_code 4 = .ok (.istore_n 3, 1) := by decide +kernel
theorem d_Model_toCharger_5 : decode prog_9_method_11_code 5 = .ok (.iload_n 3, 1) := by decide +kernel
theorem d_Model_toCharger_6 : decode prog_9_method_11_code 6 = .ok (.aload_n 0, 1) := by decide +kernel
theorem d_Model_toCharger_7 : decode prog_9_method_11_code 7 = .ok (.getfield 71, 3) := by decide +kernel
theorem d_Model_toCharger_10 : decode prog_9_method_11_code 10 = .ok (.if_icmp .ge 44, 3) := by decide +kernel
theorem d_Model_toCharger_13 : decode prog_9_method_11_code 13 = .ok (.aload_n 0, 1) := by decide +kernel
theorem d_Model_toCharger_14 : decode prog_9_method_11_code 14 = .ok (.getfield 13, 3) := by decide +kernel
theorem d_Model_toCharger_17 : decode prog_9_method_11_code 17 = .ok (.iload_n 3, 1) := by decide +kernel
theorem d_Model_toCharger_18 : decode prog_9_method_11_code 18 = .ok (.baload, 1) := by decide +kernel
theorem d_Model_toCharger_19 : decode prog_9_method_11_code 19 = .ok (.ifCond .eq 12, 3) := by decide +kernel
theorem d_Model_toCharger_22 : decode prog_9_method_11_code 22 = .ok (.aload_n 0, 1) := by decide +kernel
theorem d_Model_toCharger_23 : decode prog_9_method_11_code 23 = .ok (.iload_n 1, 1) := by decide +kernel
theorem d_Model_toCharger_24 : decode prog_9_method_11_code 24 = .ok (.iload_n 3, 1) := by decide +kernel
theorem d_Model_toCharger_25 : decode prog_9_method_11_code 25 = .ok (.invokevirtual 104, 3) := by decide +kernel
theorem d_Model_toCharger_28 : decode prog_9_method_11_code 28 = .ok (.goto 5, 3) := by decide +kernel
theorem d_Model_toCharger_31 : decode prog_9_method_11_code 31 = .ok (.ldc 81, 2) := by decide +kernel
theorem d_Model_toCharger_33 : decode prog_9_method_11_code 33 = .ok (.istore 4, 2) := by decide +kernel
theorem d_Model_toCharger_35 : decode prog_9_method_11_code 35 = .ok (.iload 4, 2) := by decide +kernel
theorem d_Model_toCharger_37 : decode prog_9_method_11_code 37 = .ok (.iload_n 2, 1) := by decide +kernel
theorem d_Model_toCharger_38 : decode prog_9_method_11_code 38 = .ok (.if_icmp .ge 8, 3) := by decide +kernel
theorem d_Model_toCharger_41 : decode prog_9_method_11_code 41 = .ok (.iload 4, 2) := by decide +kernel
theorem d_Model_toCharger_43 : decode prog_9_method_11_code 43 = .ok (.goto 4, 3) := by decide +kernel
theorem d_Model_toCharger_46 : decode prog_9_method_11_code 46 = .ok (.iload_n 2, 1) := by decide +kernel
theorem d_Model_toCharger_47 : decode prog_9_method_11_code 47 = .ok (.istore_n 2, 1) := by decide +kernel
theorem d_Model_toCharger_48 : decode prog_9_method_11_code 48 = .ok (.iinc 3 1, 3) := by decide +kernel
theorem d_Model_toCharger_51 : decode prog_9_method_11_code 51 = .ok (.goto (-46), 3) := by decide +kernel
theorem d_Model_toCharger_54 : decode prog_9_method_11_code 54 = .ok (.iload_n 2, 1) := by decide +kernel
theorem d_Model_toCharger_55 : decode prog_9_method_11_code 55 = .ok (.ireturn, 1) := by decide +kernel
theorem d_Model_standing_0 : decode prog_9_method_12_code 0 = .ok (.iconst 0, 1) := by decide +kernel
theorem d_Model_standing_1 : decode prog_9_method_12_code 1 = .ok (.istore_n 2, 1) := by decide +kernel
theorem d_Model_standing_2 : decode prog_9_method_12_code 2 = .ok (.iconst 0, 1) := by decide +kernel
theorem d_Model_standing_3 : decode prog_9_method_12_code 3 = .ok (.istore_n 3, 1) := by decide +kernel
theorem d_Model_standing_4 : decode prog_9_method_12_code 4 = .ok (.iload_n 3, 1) := by decide +kernel
theorem d_Model_standing_5 : decode prog_9_method_12_code 5 = .ok (.aload_n 0, 1) := by decide +kernel
theorem d_Model_standing_6 : decode prog_9_method_12_code 6 = .ok (.getfield 78, 3) := by decide +kernel
theorem d_Model_standing_9 : decode prog_9_method_12_code 9 = .ok (.if_icmp .ge 27, 3) := by decide +kernel
theorem d_Model_standing_12 : decode prog_9_method_12_code 12 = .ok (.iload_n 2, 1) := by decide +kernel
theorem d_Model_standing_13 : decode prog_9_method_12_code 13 = .ok (.aload_n 0, 1) := by decide +kernel
theorem d_Model_standing_14 : decode prog_9_method_12_code 14 = .ok (.getfield 32, 3) := by decide +kernel
theorem d_Model_standing_17 : decode prog_9_method_12_code 17 = .ok (.iload_n 3, 1) := by decide +kernel
theorem d_Model_standing_18 : decode prog_9_method_12_code 18 = .ok (.iaload, 1) := by decide +kernel
theorem d_Model_standing_19 : decode prog_9_method_12_code 19 = .ok (.iload_n 1, 1) := by decide +kernel
theorem d_Model_standing_20 : decode prog_9_method_12_code 20 = .ok (.if_icmp .ne 7, 3) := by decide +kernel
theorem d_Model_standing_23 : decode prog_9_method_12_code 23 = .ok (.iconst 1, 1) := by decide +kernel
theorem d_Model_standing_24 : decode prog_9_method_12_code 24 = .ok (.goto 4, 3) := by decide +kernel
theorem d_Model_standing_27 : decode prog_9_method_12_code 27 = .ok (.iconst 0, 1) := by decide +kernel
theorem d_Model_standing_28 : decode prog_9_method_12_code 28 = .ok (.iadd, 1) := by decide +kernel
theorem d_Model_standing_29 : decode prog_9_method_12_code 29 = .ok (.istore_n 2, 1) := by decide +kernel
theorem d_Model_standing_30 : decode prog_9_method_12_code 30 = .ok (.iinc 3 1, 3) := by decide +kernel
theorem d_Model_standing_33 : decode prog_9_method_12_code 33 = .ok (.goto (-29), 3) := by decide +kernel
theorem d_Model_standing_36 : decode prog_9_method_12_code 36 = .ok (.iload_n 2, 1) := by decide +kernel
theorem d_Model_standing_37 : decode prog_9_method_12_code 37 = .ok (.ireturn, 1) := by decide +kernel
theorem d_Model_freeIn_0 : decode prog_9_method_13_code 0 = .ok (.iconst 0, 1) := by decide +kernel
theorem d_Model_freeIn_1 : decode prog_9_method_13_code 1 = .ok (.istore_n 2, 1) := by decide +kernel
theorem d_Model_freeIn_2 : decode prog_9_method_13_code 2 = .ok (.iconst 0, 1) := by decide +kernel
theorem d_Model_freeIn_3 : decode prog_9_method_13_code 3 = .ok (.istore_n 3, 1) := by decide +kernel
theorem d_Model_freeIn_4 : decode prog_9_method_13_code 4 = .ok (.iload_n 3, 1) := by decide +kernel
theorem d_Model_freeIn_5 : decode prog_9_method_13_code 5 = .ok (.aload_n 0, 1) := by decide +kernel
theorem d_Model_freeIn_6 : decode prog_9_method_13_code 6 = .ok (.getfield 71, 3) := by decide +kernel
theorem d_Model_freeIn_9 : decode prog_9_method_13_code 9 = .ok (.if_icmp .ge 42, 3) := by decide +kernel
theorem d_Model_freeIn_12 : decode prog_9_method_13_code 12 = .ok (.iload_n 2, 1) := by decide +kernel
theorem d_Model_freeIn_13 : decode prog_9_method_13_code 13 = .ok (.aload_n 0, 1) := by decide +kernel
theorem d_Model_freeIn_14 : decode prog_9_method_13_code 14 = .ok (.getfield 29, 3) := by decide +kernel
theorem d_Model_freeIn_17 : decode prog_9_method_13_code 17 = .ok (.iload_n 1, 1) := by decide +kernel
theorem d_Model_freeIn_18 : decode prog_9_method_13_code 18 = .ok (.iaload, 1) := by decide +kernel
theorem d_Model_freeIn_19 : decode prog_9_method_13_code 19 = .ok (.iload_n 3, 1) := by decide +kernel
theorem d_Model_freeIn_20 : decode prog_9_method_13_code 20 = .ok (.ishr, 1) := by decide +kernel
theorem d_Model_freeIn_21 : decode prog_9_method_13_code 21 = .ok (.iconst 1, 1) := by decide +kernel
theorem d_Model_freeIn_22 : decode prog_9_method_13_code 22 = .ok (.iand, 1) := by decide +kernel
theorem d_Model_freeIn_23 : decode prog_9_method_13_code 23 = .ok (.iconst 1, 1) := by decide +kernel
theorem d_Model_freeIn_24 : decode prog_9_method_13_code 24 = .ok (.if_icmp .ne 18, 3) := by decide +kernel
theorem d_Model_freeIn_27 : decode prog_9_method_13_code 27 = .ok (.aload_n 0, 1) := by decide +kernel
theorem d_Model_freeIn_28 : decode prog_9_method_13_code 28 = .ok (.getfield 7, 3) := by decide +kernel
theorem d_Model_freeIn_31 : decode prog_9_method_13_code 31 = .ok (.iload_n 3, 1) := by decide +kernel
theorem d_Model_freeIn_32 : decode prog_9_method_13_code 32 = .ok (.iaload, 1) := by decide +kernel
theorem d_Model_freeIn_33 : decode prog_9_method_13_code 33 = .ok (.aload_n 0, 1) := by decide +kernel
theorem d_Model_freeIn_34 : decode prog_9_method_13_code 34 = .ok (.iload_n 3, 1) := by decide +kernel
theorem d_Model_freeIn_35 : decode prog_9_method_13_code 35 = .ok (.invokevirtual 108, 3) := by decide +kernel
theorem d_Model_freeIn_38 : decode prog_9_method_13_code 38 = .ok (.isub, 1) := by decide +kernel
theorem d_Model_freeIn_39 : decode prog_9_method_13_code 39 = .ok (.goto 4, 3) := by decide +kernel
theorem d_Model_freeIn_42 : decode prog_9_method_13_code 42 = .ok (.iconst 0, 1) := by decide +kernel
theorem d_Model_freeIn_43 : decode prog_9_method_13_code 43 = .ok (.iadd, 1) := by decide +kernel
theorem d_Model_freeIn_44 : decode prog_9_method_13_code 44 = .ok (.istore_n 2, 1) := by decide +kernel
theorem d_Model_freeIn_45 : decode prog_9_method_13_code 45 = .ok (.iinc 3 1, 3) := by decide +kernel
theorem d_Model_freeIn_48 : decode prog_9_method_13_code 48 = .ok (.goto (-44), 3) := by decide +kernel
theorem d_Model_freeIn_51 : decode prog_9_method_13_code 51 = .ok (.iload_n 2, 1) := by decide +kernel
theorem d_Model_freeIn_52 : decode prog_9_method_13_code 52 = .ok (.ireturn, 1) := by decide +kernel
theorem d_Model_piece_0 : decode prog_9_method_14_code 0 = .ok (.aload_n 0, 1) := by decide +kernel
theorem d_Model_piece_1 : decode prog_9_method_14_code 1 = .ok (.iload_n 1, 1) := by decide +kernel
theorem d_Model_piece_2 : decode prog_9_method_14_code 2 = .ok (.invokevirtual 89, 3) := by decide +kernel
theorem d_Model_piece_5 : decode prog_9_method_14_code 5 = .ok (.ifCond .eq 26, 3) := by decide +kernel
theorem d_Model_piece_8 : decode prog_9_method_14_code 8 = .ok (.aload_n 0, 1) := by decide +kernel
theorem d_Model_piece_9 : decode prog_9_method_14_code 9 = .ok (.iload_n 2, 1) := by decide +kernel
theorem d_Model_piece_10 : decode prog_9_method_14_code 10 = .ok (.invokevirtual 89, 3) := by decide +kernel
theorem d_Model_piece_13 : decode prog_9_method_14_code 13 = .ok (.ifCond .eq 18, 3) := by decide +kernel
theorem d_Model_piece_16 : decode prog_9_method_14_code 16 = .ok (.iload_n 1, 1) := by decide +kernel
theorem d_Model_piece_17 : decode prog_9_method_14_code 17 = .ok (.iload_n 2, 1) := by decide +kernel
theorem d_Model_piece_18 : decode prog_9_method_14_code 18 = .ok (.if_icmp .eq 13, 3) := by decide +kernel
theorem d_Model_piece_21 : decode prog_9_method_14_code 21 = .ok (.iload_n 3, 1) := by decide +kernel
theorem d_Model_piece_22 : decode prog_9_method_14_code 22 = .ok (.iconst 1, 1) := by decide +kernel
theorem d_Model_piece_23 : decode prog_9_method_14_code 23 = .ok (.bipush 100, 2) := by decide +kernel
theorem d_Model_piece_25 : decode prog_9_method_14_code 25 = .ok (.invokestatic 93, 3) := by decide +kernel
theorem d_Model_piece_28 : decode prog_9_method_14_code 28 = .ok (.ifCond .ne 9, 3) := by decide +kernel
theorem d_Model_piece_31 : decode prog_9_method_14_code 31 = .ok (.aload_n 0, 1) := by decide +kernel
theorem d_Model_piece_32 : decode prog_9_method_14_code 32 = .ok (.iconst 1, 1) := by decide +kernel
theorem d_Model_piece_33 : decode prog_9_method_14_code 33 = .ok (.invokevirtual 97, 3) := by decide +kernel
theorem d_Model_piece_36 : decode prog_9_method_14_code 36 = .ok (.ireturn, 1) := by decide +kernel
theorem d_Model_piece_37 : decode prog_9_method_14_code 37 = .ok (.aload_n 0, 1) := by decide +kernel
theorem d_Model_piece_38 : decode prog_9_method_14_code 38 = .ok (.getfield 82, 3) := by decide +kernel
theorem d_Model_piece_41 : decode prog_9_method_14_code 41 = .ok (.bipush 30, 2) := by decide +kernel
theorem d_Model_piece_43 : decode prog_9_method_14_code 43 = .ok (.if_icmp .ne 9, 3) := by decide +kernel
theorem d_Model_piece_46 : decode prog_9_method_14_code 46 = .ok (.aload_n 0, 1) := by decide +kernel
theorem d_Model_piece_47 : decode prog_9_method_14_code 47 = .ok (.iconst 2, 1) := by decide +kernel
theorem d_Model_piece_48 : decode prog_9_method_14_code 48 = .ok (.invokevirtual 97, 3) := by decide +kernel
theorem d_Model_piece_51 : decode prog_9_method_14_code 51 = .ok (.ireturn, 1) := by decide +kernel
theorem d_Model_piece_52 : decode prog_9_method_14_code 52 = .ok (.aload_n 0, 1) := by decide +kernel
theorem d_Model_piece_53 : decode prog_9_method_14_code 53 = .ok (.iconst 0, 1) := by decide +kernel
theorem d_Model_piece_54 : decode prog_9_method_14_code 54 = .ok (.putfield 75, 3) := by decide +kernel
theorem d_Model_piece_57 : decode prog_9_method_14_code 57 = .ok (.aload_n 0, 1) := by decide +kernel
theorem d_Model_piece_58 : decode prog_9_method_14_code 58 = .ok (.getfield 17, 3) := by decide +kernel
theorem d_Model_piece_61 : decode prog_9_method_14_code 61 = .ok (.aload_n 0, 1) := by decide +kernel
theorem d_Model_piece_62 : decode prog_9_method_14_code 62 = .ok (.getfield 82, 3) := by decide +kernel
theorem d_Model_piece_65 : decode prog_9_method_14_code 65 = .ok (.iload_n 1, 1) := by decide +kernel
theorem d_Model_piece_66 : decode prog_9_method_14_code 66 = .ok (.iastore, 1) := by decide +kernel
theorem d_Model_piece_67 : decode prog_9_method_14_code 67 = .ok (.aload_n 0, 1) := by decide +kernel
theorem d_Model_piece_68 : decode prog_9_method_14_code 68 = .ok (.getfield 20, 3) := by decide +kernel
theorem d_Model_piece_71 : decode prog_9_method_14_code 71 = .ok (.aload_n 0, 1) := by decide +kernel
theorem d_Model_piece_72 : decode prog_9_method_14_code 72 = .ok (.getfield 82, 3) := by decide +kernel
theorem d_Model_piece_75 : decode prog_9_method_14_code 75 = .ok (.iload_n 2, 1) := by decide +kernel
theorem d_Model_piece_76 : decode prog_9_method_14_code 76 = .ok (.iastore, 1) := by decide +kernel
theorem d_Model_piece_77 : decode prog_9_method_14_code 77 = .ok (.aload_n 0, 1) := by decide +kernel
theorem d_Model_piece_78 : decode prog_9_method_14_code 78 = .ok (.getfield 23, 3) := by decide +kernel
theorem d_Model_piece_81 : decode prog_9_method_14_code 81 = .ok (.aload_n 0, 1) := by decide +kernel
theorem d_Model_piece_82 : decode prog_9_method_14_code 82 = .ok (.getfield 82, 3) := by decide +kernel
theorem d_Model_piece_85 : decode prog_9_method_14_code 85 = .ok (.iload_n 3, 1) := by decide +kernel
theorem d_Model_piece_86 : decode prog_9_method_14_code 86 = .ok (.iastore, 1) := by decide +kernel
theorem d_Model_piece_87 : decode prog_9_method_14_code 87 = .ok (.aload_n 0, 1) := by decide +kernel
theorem d_Model_piece_88 : decode prog_9_method_14_code 88 = .ok (.dup, 1) := by decide +kernel
theorem d_Model_piece_89 : decode prog_9_method_14_code 89 = .ok (.getfield 82, 3) := by decide +kernel
theorem d_Model_piece_92 : decode prog_9_method_14_code 92 = .ok (.iconst 1, 1) := by decide +kernel
theorem d_Model_piece_93 : decode prog_9_method_14_code 93 = .ok (.iadd, 1) := by decide +kernel
theorem d_Model_piece_94 : decode prog_9_method_14_code 94 = .ok (.putfield 82, 3) := by decide +kernel
theorem d_Model_piece_97 : decode prog_9_method_14_code 97 = .ok (.aload_n 0, 1) := by decide +kernel
theorem d_Model_piece_98 : decode prog_9_method_14_code 98 = .ok (.getfield 82, 3) := by decide +kernel
theorem d_Model_piece_101 : decode prog_9_method_14_code 101 = .ok (.iconst 1, 1) := by decide +kernel
theorem d_Model_piece_102 : decode prog_9_method_14_code 102 = .ok (.isub, 1) := by decide +kernel
theorem d_Model_piece_103 : decode prog_9_method_14_code 103 = .ok (.ireturn, 1) := by decide +kernel
theorem d_Model_places_0 : decode prog_9_method_15_code 0 = .ok (.aload_n 0, 1) := by decide +kernel
theorem d_Model_places_1 : decode prog_9_method_15_code 1 = .ok (.iconst 0, 1) := by decide +kernel
theorem d_Model_places_2 : decode prog_9_method_15_code 2 = .ok (.putfield 75, 3) := by decide +kernel
theorem d_Model_places_5 : decode prog_9_method_15_code 5 = .ok (.aload_n 0, 1) := by decide +kernel
theorem d_Model_places_6 : decode prog_9_method_15_code 6 = .ok (.iload_n 1, 1) := by decide +kernel
theorem d_Model_places_7 : decode prog_9_method_15_code 7 = .ok (.invokevirtual 89, 3) := by decide +kernel
theorem d_Model_places_10 : decode prog_9_method_15_code 10 = .ok (.ifCond .eq 21, 3) := by decide +kernel
theorem d_Model_places_13 : decode prog_9_method_15_code 13 = .ok (.iload_n 2, 1) := by decide +kernel
theorem d_Model_places_14 : decode prog_9_method_15_code 14 = .ok (.iconst 1, 1) := by decide +kernel
theorem d_Model_places_15 : decode prog_9_method_15_code 15 = .ok (.iconst 4, 1) := by decide +kernel
theorem d_Model_places_16 : decode prog_9_method_15_code 16 = .ok (.invokestatic 93, 3) := by decide +kernel
theorem d_Model_places_19 : decode prog_9_method_15_code 19 = .ok (.ifCond .eq 12, 3) := by decide +kernel
theorem d_Model_places_22 : decode prog_9_method_15_code 22 = .ok (.iload_n 2, 1) := by decide +kernel
theorem d_Model_places_23 : decode prog_9_method_15_code 23 = .ok (.aload_n 0, 1) := by decide +kernel
theorem d_Model_places_24 : decode prog_9_method_15_code 24 = .ok (.iload_n 1, 1) := by decide +kernel
theorem d_Model_places_25 : decode prog_9_method_15_code 25 = .ok (.invokevirtual 108, 3) := by decide +kernel
theorem d_Model_places_28 : decode prog_9_method_15_code 28 = .ok (.if_icmp .ge 5, 3) := by decide +kernel
theorem d_Model_places_31 : decode prog_9_method_15_code 31 = .ok (.iconst 0, 1) := by decide +kernel
theorem d_Model_places_32 : decode prog_9_method_15_code 32 = .ok (.ireturn, 1) := by decide +kernel
theorem d_Model_places_33 : decode prog_9_method_15_code 33 = .ok (.aload_n 0, 1) := by decide +kernel
theorem d_Model_places_34 : decode prog_9_method_15_code 34 = .ok (.getfield 7, 3) := by decide +kernel
theorem d_Model_places_37 : decode prog_9_method_15_code 37 = .ok (.iload_n 1, 1) := by decide +kernel
theorem d_Model_places_38 : decode prog_9_method_15_code 38 = .ok (.iload_n 2, 1) := by decide +kernel
theorem d_Model_places_39 : decode prog_9_method_15_code 39 = .ok (.iastore, 1) := by decide +kernel
theorem d_Model_places_40 : decode prog_9_method_15_code 40 = .ok (.iconst 1, 1) := by decide +kernel
theorem d_Model_places_41 : decode prog_9_method_15_code 41 = .ok (.ireturn, 1) := by decide +kernel
theorem d_Model_charger_0 : decode prog_9_method_16_code 0 = .ok (.aload_n 0, 1) := by decide +kernel
theorem d_Model_charger_1 : decode prog_9_method_16_code 1 = .ok (.iconst 0, 1) := by decide +kernel
theorem d_Model_charger_2 : decode prog_9_method_16_code 2 = .ok (.putfield 75, 3) := by decide +kernel
theorem d_Model_charger_5 : decode prog_9_method_16_code 5 = .ok (.aload_n 0, 1) := by decide +kernel
theorem d_Model_charger_6 : decode prog_9_method_16_code 6 = .ok (.iload_n 1, 1) := by decide +kernel
theorem d_Model_charger_7 : decode prog_9_method_16_code 7 = .ok (.invokevirtual 89, 3) := by decide +kernel
theorem d_Model_charger_10 : decode prog_9_method_16_code 10 = .ok (.ifCond .eq 13, 3) := by decide +kernel
theorem d_Model_charger_13 : decode prog_9_method_16_code 13 = .ok (.aload_n 0, 1) := by decide +kernel
theorem d_Model_charger_14 : decode prog_9_method_16_code 14 = .ok (.getfield 13, 3) := by decide +kernel
theorem d_Model_charger_17 : decode prog_9_method_16_code 17 = .ok (.iload_n 1, 1) := by decide +kernel
theorem d_Model_charger_18 : decode prog_9_method_16_code 18 = .ok (.baload, 1) := by decide +kernel
theorem d_Model_charger_19 : decode prog_9_method_16_code 19 = .ok (.iload_n 2, 1) := by decide +kernel
theorem d_Model_charger_20 : decode prog_9_method_16_code 20 = .ok (.if_icmp .ne 5, 3) := by decide +kernel
theorem d_Model_charger_23 : decode prog_9_method_16_code 23 = .ok (.iconst 0, 1) := by decide +kernel
theorem d_Model_charger_24 : decode prog_9_method_16_code 24 = .ok (.ireturn, 1) := by decide +kernel
theorem d_Model_charger_25 : decode prog_9_method_16_code 25 = .ok (.aload_n 0, 1) := by decide +kernel
theorem d_Model_charger_26 : decode prog_9_method_16_code 26 = .ok (.getfield 13, 3) := by decide +kernel
theorem d_Model_charger_29 : decode prog_9_method_16_code 29 = .ok (.iload_n 1, 1) := by decide +kernel
theorem d_Model_charger_30 : decode prog_9_method_16_code 30 = .ok (.iload_n 2, 1) := by decide +kernel
theorem d_Model_charger_31 : decode prog_9_method_16_code 31 = .ok (.bastore, 1) := by decide +kernel
theorem d_Model_charger_32 : decode prog_9_method_16_code 32 = .ok (.iconst 1, 1) := by decide +kernel
theorem d_Model_charger_33 : decode prog_9_method_16_code 33 = .ok (.ireturn, 1) := by decide +kernel
theorem d_Model_ring_0 : decode prog_9_method_17_code 0 = .ok (.iload_n 1, 1) := by decide +kernel
theorem d_Model_ring_1 : decode prog_9_method_17_code 1 = .ok (.iconst 1, 1) := by decide +kernel
theorem d_Model_ring_2 : decode prog_9_method_17_code 2 = .ok (.if_icmp .lt 13, 3) := by decide +kernel
theorem d_Model_ring_5 : decode prog_9_method_17_code 5 = .ok (.iload_n 1, 1) := by decide +kernel
theorem d_Model_ring_6 : decode prog_9_method_17_code 6 = .ok (.iconst 1, 1) := by decide +kernel
theorem d_Model_ring_7 : decode prog_9_method_17_code 7 = .ok (.aload_n 0, 1) := by decide +kernel
theorem d_Model_ring_8 : decode prog_9_method_17_code 8 = .ok (.getfield 71, 3) := by decide +kernel
theorem d_Model_ring_11 : decode prog_9_method_17_code 11 = .ok (.ishl, 1) := by decide +kernel
theorem d_Model_ring_12 : decode prog_9_method_17_code 12 = .ok (.if_icmp .lt 9, 3) := by decide +kernel
theorem d_Model_ring_15 : decode prog_9_method_17_code 15 = .ok (.aload_n 0, 1) := by decide +kernel
theorem d_Model_ring_16 : decode prog_9_method_17_code 16 = .ok (.iconst 1, 1) := by decide +kernel
theorem d_Model_ring_17 : decode prog_9_method_17_code 17 = .ok (.invokevirtual 97, 3) := by decide +kernel
theorem d_Model_ring_20 : decode prog_9_method_17_code 20 = .ok (.ireturn, 1) := by decide +kernel
theorem d_Model_ring_21 : decode prog_9_method_17_code 21 = .ok (.aload_n 0, 1) := by decide +kernel
theorem d_Model_ring_22 : decode prog_9_method_17_code 22 = .ok (.getfield 111, 3) := by decide +kernel
theorem d_Model_ring_25 : decode prog_9_method_17_code 25 = .ok (.iconst 4, 1) := by decide +kernel
theorem d_Model_ring_26 : decode prog_9_method_17_code 26 = .ok (.if_icmp .ne 9, 3) := by decide +kernel
theorem d_Model_ring_29 : decode prog_9_method_17_code 29 = .ok (.aload_n 0, 1) := by decide +kernel
theorem d_Model_ring_30 : decode prog_9_method_17_code 30 = .ok (.iconst 2, 1) := by decide +kernel
theorem d_Model_ring_31 : decode prog_9_method_17_code 31 = .ok (.invokevirtual 97, 3) := by decide +kernel
theorem d_Model_ring_34 : decode prog_9_method_17_code 34 = .ok (.ireturn, 1) := by decide +kernel
theorem d_Model_ring_35 : decode prog_9_method_17_code 35 = .ok (.aload_n 0, 1) := by decide +kernel
theorem d_Model_ring_36 : decode prog_9_method_17_code 36 = .ok (.iconst 0, 1) := by decide +kernel
theorem d_Model_ring_37 : decode prog_9_method_17_code 37 = .ok (.putfield 75, 3) := by decide +kernel
theorem d_Model_ring_40 : decode prog_9_method_17_code 40 = .ok (.aload_n 0, 1) := by decide +kernel
theorem d_Model_ring_41 : decode prog_9_method_17_code 41 = .ok (.getfield 29, 3) := by decide +kernel
theorem d_Model_ring_44 : decode prog_9_method_17_code 44 = .ok (.aload_n 0, 1) := by decide +kernel
theorem d_Model_ring_45 : decode prog_9_method_17_code 45 = .ok (.getfield 111, 3) := by decide +kernel
theorem d_Model_ring_48 : decode prog_9_method_17_code 48 = .ok (.iload_n 1, 1) := by decide +kernel
theorem d_Model_ring_49 : decode prog_9_method_17_code 49 = .ok (.iastore, 1) := by decide +kernel
theorem d_Model_ring_50 : decode prog_9_method_17_code 50 = .ok (.aload_n 0, 1) := by decide +kernel
theorem d_Model_ring_51 : decode prog_9_method_17_code 51 = .ok (.dup, 1) := by decide +kernel
theorem d_Model_ring_52 : decode prog_9_method_17_code 52 = .ok (.getfield 111, 3) := by decide +kernel
theorem d_Model_ring_55 : decode prog_9_method_17_code 55 = .ok (.iconst 1, 1) := by decide +kernel
theorem d_Model_ring_56 : decode prog_9_method_17_code 56 = .ok (.iadd, 1) := by decide +kernel
theorem d_Model_ring_57 : decode prog_9_method_17_code 57 = .ok (.putfield 111, 3) := by decide +kernel
theorem d_Model_ring_60 : decode prog_9_method_17_code 60 = .ok (.aload_n 0, 1) := by decide +kernel
theorem d_Model_ring_61 : decode prog_9_method_17_code 61 = .ok (.getfield 111, 3) := by decide +kernel
theorem d_Model_ring_64 : decode prog_9_method_17_code 64 = .ok (.ireturn, 1) := by decide +kernel
theorem d_Model_carrier_0 : decode prog_9_method_18_code 0 = .ok (.aload_n 0, 1) := by decide +kernel
theorem d_Model_carrier_1 : decode prog_9_method_18_code 1 = .ok (.iload_n 1, 1) := by decide +kernel
theorem d_Model_carrier_2 : decode prog_9_method_18_code 2 = .ok (.invokevirtual 89, 3) := by decide +kernel
theorem d_Model_carrier_5 : decode prog_9_method_18_code 5 = .ok (.ifCond .eq 14, 3) := by decide +kernel
theorem d_Model_carrier_8 : decode prog_9_method_18_code 8 = .ok (.iload_n 2, 1) := by decide +kernel
theorem d_Model_carrier_9 : decode prog_9_method_18_code 9 = .ok (.iconst 0, 1) := by decide +kernel
theorem d_Model_carrier_10 : decode prog_9_method_18_code 10 = .ok (.sipush 1000, 3) := by decide +kernel
theorem d_Model_carrier_13 : decode prog_9_method_18_code 13 = .ok (.invokestatic 93, 3) := by decide +kernel
theorem d_Model_carrier_16 : decode prog_9_method_18_code 16 = .ok (.ifCond .ne 9, 3) := by decide +kernel
theorem d_Model_carrier_19 : decode prog_9_method_18_code 19 = .ok (.aload_n 0, 1) := by decide +kernel
theorem d_Model_carrier_20 : decode prog_9_method_18_code 20 = .ok (.iconst 1, 1) := by decide +kernel
theorem d_Model_carrier_21 : decode prog_9_method_18_code 21 = .ok (.invokevirtual 97, 3) := by decide +kernel
theorem d_Model_carrier_24 : decode prog_9_method_18_code 24 = .ok (.ireturn, 1) := by decide +kernel
theorem d_Model_carrier_25 : decode prog_9_method_18_code 25 = .ok (.aload_n 0, 1) := by decide +kernel
theorem d_Model_carrier_26 : decode prog_9_method_18_code 26 = .ok (.getfield 78, 3) := by decide +kernel
theorem d_Model_carrier_29 : decode prog_9_method_18_code 29 = .ok (.bipush 6, 2) := by decide +kernel
theorem d_Model_carrier_31 : decode prog_9_method_18_code 31 = .ok (.if_icmp .ne 9, 3) := by decide +kernel
theorem d_Model_carrier_34 : decode prog_9_method_18_code 34 = .ok (.aload_n 0, 1) := by decide +kernel
theorem d_Model_carrier_35 : decode prog_9_method_18_code 35 = .ok (.iconst 2, 1) := by decide +kernel
theorem d_Model_carrier_36 : decode prog_9_method_18_code 36 = .ok (.invokevirtual 97, 3) := by decide +kernel
theorem d_Model_carrier_39 : decode prog_9_method_18_code 39 = .ok (.ireturn, 1) := by decide +kernel
theorem d_Model_carrier_40 : decode prog_9_method_18_code 40 = .ok (.aload_n 0, 1) := by decide +kernel
theorem d_Model_carrier_41 : decode prog_9_method_18_code 41 = .ok (.iconst 0, 1) := by decide +kernel
theorem d_Model_carrier_42 : decode prog_9_method_18_code 42 = .ok (.putfield 75, 3) := by decide +kernel
theorem d_Model_carrier_45 : decode prog_9_method_18_code 45 = .ok (.aload_n 0, 1) := by decide +kernel
theorem d_Model_carrier_46 : decode prog_9_method_18_code 46 = .ok (.iload_n 1, 1) := by decide +kernel
theorem d_Model_carrier_47 : decode prog_9_method_18_code 47 = .ok (.invokevirtual 108, 3) := by decide +kernel
theorem d_Model_carrier_50 : decode prog_9_method_18_code 50 = .ok (.aload_n 0, 1) := by decide +kernel
theorem d_Model_carrier_51 : decode prog_9_method_18_code 51 = .ok (.getfield 7, 3) := by decide +kernel
theorem d_Model_carrier_54 : decode prog_9_method_18_code 54 = .ok (.iload_n 1, 1) := by decide +kernel
theorem d_Model_carrier_55 : decode prog_9_method_18_code 55 = .ok (.iaload, 1) := by decide +kernel
theorem d_Model_carrier_56 : decode prog_9_method_18_code 56 = .ok (.if_icmp .lt 5, 3) := by decide +kernel
theorem d_Model_carrier_59 : decode prog_9_method_18_code 59 = .ok (.iconst (-1), 1) := by decide +kernel
theorem d_Model_carrier_60 : decode prog_9_method_18_code 60 = .ok (.ireturn, 1) := by decide +kernel
theorem d_Model_carrier_61 : decode prog_9_method_18_code 61 = .ok (.aload_n 0, 1) := by decide +kernel
theorem d_Model_carrier_62 : decode prog_9_method_18_code 62 = .ok (.getfield 32, 3) := by decide +kernel
theorem d_Model_carrier_65 : decode prog_9_method_18_code 65 = .ok (.aload_n 0, 1) := by decide +kernel
theorem d_Model_carrier_66 : decode prog_9_method_18_code 66 = .ok (.getfield 78, 3) := by decide +kernel
theorem d_Model_carrier_69 : decode prog_9_method_18_code 69 = .ok (.iload_n 1, 1) := by decide +kernel
theorem d_Model_carrier_70 : decode prog_9_method_18_code 70 = .ok (.iastore, 1) := by decide +kernel
theorem d_Model_carrier_71 : decode prog_9_method_18_code 71 = .ok (.aload_n 0, 1) := by decide +kernel
theorem d_Model_carrier_72 : decode prog_9_method_18_code 72 = .ok (.getfield 35, 3) := by decide +kernel
theorem d_Model_carrier_75 : decode prog_9_method_18_code 75 = .ok (.aload_n 0, 1) := by decide +kernel
theorem d_Model_carrier_76 : decode prog_9_method_18_code 76 = .ok (.getfield 78, 3) := by decide +kernel
theorem d_Model_carrier_79 : decode prog_9_method_18_code 79 = .ok (.iconst (-1), 1) := by decide +kernel
theorem d_Model_carrier_80 : decode prog_9_method_18_code 80 = .ok (.iastore, 1) := by decide +kernel
theorem d_Model_carrier_81 : decode prog_9_method_18_code 81 = .ok (.aload_n 0, 1) := by decide +kernel
theorem d_Model_carrier_82 : decode prog_9_method_18_code 82 = .ok (.getfield 41, 3) := by decide +kernel
theorem d_Model_carrier_85 : decode prog_9_method_18_code 85 = .ok (.aload_n 0, 1) := by decide +kernel
theorem d_Model_carrier_86 : decode prog_9_method_18_code 86 = .ok (.getfield 78, 3) := by decide +kernel
theorem d_Model_carrier_89 : decode prog_9_method_18_code 89 = .ok (.iconst (-1), 1) := by decide +kernel
theorem d_Model_carrier_90 : decode prog_9_method_18_code 90 = .ok (.iastore, 1) := by decide +kernel
theorem d_Model_carrier_91 : decode prog_9_method_18_code 91 = .ok (.aload_n 0, 1) := by decide +kernel
theorem d_Model_carrier_92 : decode prog_9_method_18_code 92 = .ok (.getfield 44, 3) := by decide +kernel
theorem d_Model_carrier_95 : decode prog_9_method_18_code 95 = .ok (.aload_n 0, 1) := by decide +kernel
theorem d_Model_carrier_96 : decode prog_9_method_18_code 96 = .ok (.getfield 78, 3) := by decide +kernel
theorem d_Model_carrier_99 : decode prog_9_method_18_code 99 = .ok (.iload_n 2, 1) := by decide +kernel
theorem d_Model_carrier_100 : decode prog_9_method_18_code 100 = .ok (.iastore, 1) := by decide +kernel
theorem d_Model_carrier_101 : decode prog_9_method_18_code 101 = .ok (.aload_n 0, 1) := by decide +kernel
theorem d_Model_carrier_102 : decode prog_9_method_18_code 102 = .ok (.dup, 1) := by decide +kernel
theorem d_Model_carrier_103 : decode prog_9_method_18_code 103 = .ok (.getfield 78, 3) := by decide +kernel
theorem d_Model_carrier_106 : decode prog_9_method_18_code 106 = .ok (.iconst 1, 1) := by decide +kernel
theorem d_Model_carrier_107 : decode prog_9_method_18_code 107 = .ok (.iadd, 1) := by decide +kernel
theorem d_Model_carrier_108 : decode prog_9_method_18_code 108 = .ok (.putfield 78, 3) := by decide +kernel
theorem d_Model_carrier_111 : decode prog_9_method_18_code 111 = .ok (.aload_n 0, 1) := by decide +kernel
theorem d_Model_carrier_112 : decode prog_9_method_18_code 112 = .ok (.getfield 78, 3) := by decide +kernel
theorem d_Model_carrier_115 : decode prog_9_method_18_code 115 = .ok (.iconst 1, 1) := by decide +kernel
theorem d_Model_carrier_116 : decode prog_9_method_18_code 116 = .ok (.isub, 1) := by decide +kernel
theorem d_Model_carrier_117 : decode prog_9_method_18_code 117 = .ok (.ireturn, 1) := by decide +kernel
theorem d_Model_job_0 : decode prog_9_method_19_code 0 = .ok (.aload_n 0, 1) := by decide +kernel
theorem d_Model_job_1 : decode prog_9_method_19_code 1 = .ok (.iload_n 1, 1) := by decide +kernel
theorem d_Model_job_2 : decode prog_9_method_19_code 2 = .ok (.invokevirtual 89, 3) := by decide +kernel
theorem d_Model_job_5 : decode prog_9_method_19_code 5 = .ok (.ifCond .eq 16, 3) := by decide +kernel
theorem d_Model_job_8 : decode prog_9_method_19_code 8 = .ok (.aload_n 0, 1) := by decide +kernel
theorem d_Model_job_9 : decode prog_9_method_19_code 9 = .ok (.iload_n 2, 1) := by decide +kernel
theorem d_Model_job_10 : decode prog_9_method_19_code 10 = .ok (.invokevirtual 89, 3) := by decide +kernel
theorem d_Model_job_13 : decode prog_9_method_19_code 13 = .ok (.ifCond .eq 8, 3) := by decide +kernel
theorem d_Model_job_16 : decode prog_9_method_19_code 16 = .ok (.iload_n 1, 1) := by decide +kernel
theorem d_Model_job_17 : decode prog_9_method_19_code 17 = .ok (.iload_n 2, 1) := by decide +kernel
theorem d_Model_job_18 : decode prog_9_method_19_code 18 = .ok (.if_icmp .ne 9, 3) := by decide +kernel
theorem d_Model_job_21 : decode prog_9_method_19_code 21 = .ok (.aload_n 0, 1) := by decide +kernel
theorem d_Model_job_22 : decode prog_9_method_19_code 22 = .ok (.iconst 1, 1) := by decide +kernel
theorem d_Model_job_23 : decode prog_9_method_19_code 23 = .ok (.invokevirtual 97, 3) := by decide +kernel
theorem d_Model_job_26 : decode prog_9_method_19_code 26 = .ok (.ireturn, 1) := by decide +kernel
theorem d_Model_job_27 : decode prog_9_method_19_code 27 = .ok (.aload_n 0, 1) := by decide +kernel
theorem d_Model_job_28 : decode prog_9_method_19_code 28 = .ok (.getfield 114, 3) := by decide +kernel
theorem d_Model_job_31 : decode prog_9_method_19_code 31 = .ok (.bipush 12, 2) := by decide +kernel
theorem d_Model_job_33 : decode prog_9_method_19_code 33 = .ok (.if_icmp .ne 9, 3) := by decide +kernel
theorem d_Model_job_36 : decode prog_9_method_19_code 36 = .ok (.aload_n 0, 1) := by decide +kernel
theorem d_Model_job_37 : decode prog_9_method_19_code 37 = .ok (.iconst 2, 1) := by decide +kernel
theorem d_Model_job_38 : decode prog_9_method_19_code 38 = .ok (.invokevirtual 97, 3) := by decide +kernel
theorem d_Model_job_41 : decode prog_9_method_19_code 41 = .ok (.ireturn, 1) := by decide +kernel
theorem d_Model_job_42 : decode prog_9_method_19_code 42 = .ok (.aload_n 0, 1) := by decide +kernel
theorem d_Model_job_43 : decode prog_9_method_19_code 43 = .ok (.iconst 0, 1) := by decide +kernel
theorem d_Model_job_44 : decode prog_9_method_19_code 44 = .ok (.putfield 75, 3) := by decide +kernel
theorem d_Model_job_47 : decode prog_9_method_19_code 47 = .ok (.aload_n 0, 1) := by decide +kernel
theorem d_Model_job_48 : decode prog_9_method_19_code 48 = .ok (.getfield 53, 3) := by decide +kernel
theorem d_Model_job_51 : decode prog_9_method_19_code 51 = .ok (.aload_n 0, 1) := by decide +kernel
theorem d_Model_job_52 : decode prog_9_method_19_code 52 = .ok (.getfield 114, 3) := by decide +kernel
theorem d_Model_job_55 : decode prog_9_method_19_code 55 = .ok (.iload_n 1, 1) := by decide +kernel
theorem d_Model_job_56 : decode prog_9_method_19_code 56 = .ok (.iastore, 1) := by decide +kernel
theorem d_Model_job_57 : decode prog_9_method_19_code 57 = .ok (.aload_n 0, 1) := by decide +kernel
theorem d_Model_job_58 : decode prog_9_method_19_code 58 = .ok (.getfield 56, 3) := by decide +kernel
theorem d_Model_job_61 : decode prog_9_method_19_code 61 = .ok (.aload_n 0, 1) := by decide +kernel
theorem d_Model_job_62 : decode prog_9_method_19_code 62 = .ok (.getfield 114, 3) := by decide +kernel
theorem d_Model_job_65 : decode prog_9_method_19_code 65 = .ok (.iload_n 2, 1) := by decide +kernel
theorem d_Model_job_66 : decode prog_9_method_19_code 66 = .ok (.iastore, 1) := by decide +kernel
theorem d_Model_job_67 : decode prog_9_method_19_code 67 = .ok (.aload_n 0, 1) := by decide +kernel
theorem d_Model_job_68 : decode prog_9_method_19_code 68 = .ok (.getfield 62, 3) := by decide +kernel
theorem d_Model_job_71 : decode prog_9_method_19_code 71 = .ok (.aload_n 0, 1) := by decide +kernel
theorem d_Model_job_72 : decode prog_9_method_19_code 72 = .ok (.getfield 114, 3) := by decide +kernel
theorem d_Model_job_75 : decode prog_9_method_19_code 75 = .ok (.iconst (-1), 1) := by decide +kernel
theorem d_Model_job_76 : decode prog_9_method_19_code 76 = .ok (.iastore, 1) := by decide +kernel
theorem d_Model_job_77 : decode prog_9_method_19_code 77 = .ok (.aload_n 0, 1) := by decide +kernel
theorem d_Model_job_78 : decode prog_9_method_19_code 78 = .ok (.dup, 1) := by decide +kernel
theorem d_Model_job_79 : decode prog_9_method_19_code 79 = .ok (.getfield 114, 3) := by decide +kernel
theorem d_Model_job_82 : decode prog_9_method_19_code 82 = .ok (.iconst 1, 1) := by decide +kernel
theorem d_Model_job_83 : decode prog_9_method_19_code 83 = .ok (.iadd, 1) := by decide +kernel
theorem d_Model_job_84 : decode prog_9_method_19_code 84 = .ok (.putfield 114, 3) := by decide +kernel
theorem d_Model_job_87 : decode prog_9_method_19_code 87 = .ok (.aload_n 0, 1) := by decide +kernel
theorem d_Model_job_88 : decode prog_9_method_19_code 88 = .ok (.getfield 114, 3) := by decide +kernel
theorem d_Model_job_91 : decode prog_9_method_19_code 91 = .ok (.iconst 1, 1) := by decide +kernel
theorem d_Model_job_92 : decode prog_9_method_19_code 92 = .ok (.isub, 1) := by decide +kernel
theorem d_Model_job_93 : decode prog_9_method_19_code 93 = .ok (.ireturn, 1) := by decide +kernel
theorem d_Model_worth_0 : decode prog_9_method_20_code 0 = .ok (.aload_n 0, 1) := by decide +kernel
theorem d_Model_worth_1 : decode prog_9_method_20_code 1 = .ok (.getfield 59, 3) := by decide +kernel
theorem d_Model_worth_4 : decode prog_9_method_20_code 4 = .ok (.iload_n 1, 1) := by decide +kernel
theorem d_Model_worth_5 : decode prog_9_method_20_code 5 = .ok (.iaload, 1) := by decide +kernel
theorem d_Model_worth_6 : decode prog_9_method_20_code 6 = .ok (.ifCond .ne 23, 3) := by decide +kernel
theorem d_Model_worth_9 : decode prog_9_method_20_code 9 = .ok (.aload_n 0, 1) := by decide +kernel
theorem d_Model_worth_10 : decode prog_9_method_20_code 10 = .ok (.getfield 41, 3) := by decide +kernel
theorem d_Model_worth_13 : decode prog_9_method_20_code 13 = .ok (.iload_n 2, 1) := by decide +kernel
theorem d_Model_worth_14 : decode prog_9_method_20_code 14 = .ok (.iaload, 1) := by decide +kernel
theorem d_Model_worth_15 : decode prog_9_method_20_code 15 = .ok (.iconst (-1), 1) := by decide +kernel
theorem d_Model_worth_16 : decode prog_9_method_20_code 16 = .ok (.if_icmp .ne 13, 3) := by decide +kernel
theorem d_Model_worth_19 : decode prog_9_method_20_code 19 = .ok (.aload_n 0, 1) := by decide +kernel
theorem d_Model_worth_20 : decode prog_9_method_20_code 20 = .ok (.getfield 35, 3) := by decide +kernel
theorem d_Model_worth_23 : decode prog_9_method_20_code 23 = .ok (.iload_n 2, 1) := by decide +kernel
theorem d_Model_worth_24 : decode prog_9_method_20_code 24 = .ok (.iaload, 1) := by decide +kernel
theorem d_Model_worth_25 : decode prog_9_method_20_code 25 = .ok (.iconst (-1), 1) := by decide +kernel
theorem d_Model_worth_26 : decode prog_9_method_20_code 26 = .ok (.if_icmp .eq 5, 3) := by decide +kernel
theorem d_Model_worth_29 : decode prog_9_method_20_code 29 = .ok (.iconst (-1), 1) := by decide +kernel
theorem d_Model_worth_30 : decode prog_9_method_20_code 30 = .ok (.ireturn, 1) := by decide +kernel
theorem d_Model_worth_31 : decode prog_9_method_20_code 31 = .ok (.aload_n 0, 1) := by decide +kernel
theorem d_Model_worth_32 : decode prog_9_method_20_code 32 = .ok (.aload_n 0, 1) := by decide +kernel
theorem d_Model_worth_33 : decode prog_9_method_20_code 33 = .ok (.getfield 32, 3) := by decide +kernel
theorem d_Model_worth_36 : decode prog_9_method_20_code 36 = .ok (.iload_n 2, 1) := by decide +kernel
theorem d_Model_worth_37 : decode prog_9_method_20_code 37 = .ok (.iaload, 1) := by decide +kernel
theorem d_Model_worth_38 : decode prog_9_method_20_code 38 = .ok (.aload_n 0, 1) := by decide +kernel
theorem d_Model_worth_39 : decode prog_9_method_20_code 39 = .ok (.getfield 53, 3) := by decide +kernel
theorem d_Model_worth_42 : decode prog_9_method_20_code 42 = .ok (.iload_n 1, 1) := by decide +kernel
theorem d_Model_worth_43 : decode prog_9_method_20_code 43 = .ok (.iaload, 1) := by decide +kernel
theorem d_Model_worth_44 : decode prog_9_method_20_code 44 = .ok (.invokevirtual 104, 3) := by decide +kernel
theorem d_Model_worth_47 : decode prog_9_method_20_code 47 = .ok (.istore_n 3, 1) := by decide +kernel
theorem d_Model_worth_48 : decode prog_9_method_20_code 48 = .ok (.iload_n 3, 1) := by decide +kernel
theorem d_Model_worth_49 : decode prog_9_method_20_code 49 = .ok (.ldc 81, 2) := by decide +kernel
theorem d_Model_worth_51 : decode prog_9_method_20_code 51 = .ok (.if_icmp .ne 7, 3) := by decide +kernel
theorem d_Model_worth_54 : decode prog_9_method_20_code 54 = .ok (.iconst (-1), 1) := by decide +kernel
theorem d_Model_worth_55 : decode prog_9_method_20_code 55 = .ok (.goto 7, 3) := by decide +kernel
theorem d_Model_worth_58 : decode prog_9_method_20_code 58 = .ok (.ldc 117, 2) := by decide +kernel
theorem d_Model_worth_60 : decode prog_9_method_20_code 60 = .ok (.iload_n 3, 1) := by decide +kernel
theorem d_Model_worth_61 : decode prog_9_method_20_code 61 = .ok (.isub, 1) := by decide +kernel
theorem d_Model_worth_62 : decode prog_9_method_20_code 62 = .ok (.ireturn, 1) := by decide +kernel
theorem d_Model_reckon_0 : decode prog_9_method_21_code 0 = .ok (.iconst 0, 1) := by decide +kernel
theorem d_Model_reckon_1 : decode prog_9_method_21_code 1 = .ok (.istore_n 1, 1) := by decide +kernel
theorem d_Model_reckon_2 : decode prog_9_method_21_code 2 = .ok (.iload_n 1, 1) := by decide +kernel
theorem d_Model_reckon_3 : decode prog_9_method_21_code 3 = .ok (.bipush 64, 2) := by decide +kernel
theorem d_Model_reckon_5 : decode prog_9_method_21_code 5 = .ok (.if_icmp .ge 24, 3) := by decide +kernel
theorem d_Model_reckon_8 : decode prog_9_method_21_code 8 = .ok (.aload_n 0, 1) := by decide +kernel
theorem d_Model_reckon_9 : decode prog_9_method_21_code 9 = .ok (.getfield 68, 3) := by decide +kernel
theorem d_Model_reckon_12 : decode prog_9_method_21_code 12 = .ok (.bipush 64, 2) := by decide +kernel
theorem d_Model_reckon_14 : decode prog_9_method_21_code 14 = .ok (.aload_n 0, 1) := by decide +kernel
theorem d_Model_reckon_15 : decode prog_9_method_21_code 15 = .ok (.getfield 114, 3) := by decide +kernel
theorem d_Model_reckon_18 : decode prog_9_method_21_code 18 = .ok (.imul, 1) := by decide +kernel
theorem d_Model_reckon_19 : decode prog_9_method_21_code 19 = .ok (.iload_n 1, 1) := by decide +kernel
theorem d_Model_reckon_20 : decode prog_9_method_21_code 20 = .ok (.iadd, 1) := by decide +kernel
theorem d_Model_reckon_21 : decode prog_9_method_21_code 21 = .ok (.iconst 0, 1) := by decide +kernel
theorem d_Model_reckon_22 : decode prog_9_method_21_code 22 = .ok (.iastore, 1) := by decide +kernel
theorem d_Model_reckon_23 : decode prog_9_method_21_code 23 = .ok (.iinc 1 1, 3) := by decide +kernel
theorem d_Model_reckon_26 : decode prog_9_method_21_code 26 = .ok (.goto (-24), 3) := by decide +kernel
theorem d_Model_reckon_29 : decode prog_9_method_21_code 29 = .ok (.aload_n 0, 1) := by decide +kernel
theorem d_Model_reckon_30 : decode prog_9_method_21_code 30 = .ok (.getfield 114, 3) := by decide +kernel
theorem d_Model_reckon_33 : decode prog_9_method_21_code 33 = .ok (.iconst 1, 1) := by decide +kernel
theorem d_Model_reckon_34 : decode prog_9_method_21_code 34 = .ok (.isub, 1) := by decide +kernel
theorem d_Model_reckon_35 : decode prog_9_method_21_code 35 = .ok (.istore_n 1, 1) := by decide +kernel
theorem d_Model_reckon_36 : decode prog_9_method_21_code 36 = .ok (.iload_n 1, 1) := by decide +kernel
theorem d_Model_reckon_37 : decode prog_9_method_21_code 37 = .ok (.ifCond .lt 174, 3) := by decide +kernel
theorem d_Model_reckon_40 : decode prog_9_method_21_code 40 = .ok (.iconst 0, 1) := by decide +kernel
theorem d_Model_reckon_41 : decode prog_9_method_21_code 41 = .ok (.istore_n 2, 1) := by decide +kernel
theorem d_Model_reckon_42 : decode prog_9_method_21_code 42 = .ok (.iload_n 2, 1) := by decide +kernel
theorem d_Model_reckon_43 : decode prog_9_method_21_code 43 = .ok (.bipush 64, 2) := by decide +kernel
theorem d_Model_reckon_45 : decode prog_9_method_21_code 45 = .ok (.if_icmp .ge 33, 3) := by decide +kernel
theorem d_Model_reckon_48 : decode prog_9_method_21_code 48 = .ok (.aload_n 0, 1) := by decide +kernel
theorem d_Model_reckon_49 : decode prog_9_method_21_code 49 = .ok (.getfield 68, 3) := by decide +kernel
theorem d_Model_reckon_52 : decode prog_9_method_21_code 52 = .ok (.bipush 64, 2) := by decide +kernel
theorem d_Model_reckon_54 : decode prog_9_method_21_code 54 = .ok (.iload_n 1, 1) := by decide +kernel
theorem d_Model_reckon_55 : decode prog_9_method_21_code 55 = .ok (.imul, 1) := by decide +kernel
theorem d_Model_reckon_56 : decode prog_9_method_21_code 56 = .ok (.iload_n 2, 1) := by decide +kernel
theorem d_Model_reckon_57 : decode prog_9_method_21_code 57 = .ok (.iadd, 1) := by decide +kernel
theorem d_Model_reckon_58 : decode prog_9_method_21_code 58 = .ok (.aload_n 0, 1) := by decide +kernel
theorem d_Model_reckon_59 : decode prog_9_method_21_code 59 = .ok (.getfield 68, 3) := by decide +kernel
theorem d_Model_reckon_62 : decode prog_9_method_21_code 62 = .ok (.bipush 64, 2) := by decide +kernel
theorem d_Model_reckon_64 : decode prog_9_method_21_code 64 = .ok (.iload_n 1, 1) := by decide +kernel
theorem d_Model_reckon_65 : decode prog_9_method_21_code 65 = .ok (.iconst 1, 1) := by decide +kernel
theorem d_Model_reckon_66 : decode prog_9_method_21_code 66 = .ok (.iadd, 1) := by decide +kernel
theorem d_Model_reckon_67 : decode prog_9_method_21_code 67 = .ok (.imul, 1) := by decide +kernel
theorem d_Model_reckon_68 : decode prog_9_method_21_code 68 = .ok (.iload_n 2, 1) := by decide +kernel
theorem d_Model_reckon_69 : decode prog_9_method_21_code 69 = .ok (.iadd, 1) := by decide +kernel
theorem d_Model_reckon_70 : decode prog_9_method_21_code 70 = .ok (.iaload, 1) := by decide +kernel
theorem d_Model_reckon_71 : decode prog_9_method_21_code 71 = .ok (.iastore, 1) := by decide +kernel
theorem d_Model_reckon_72 : decode prog_9_method_21_code 72 = .ok (.iinc 2 1, 3) := by decide +kernel
theorem d_Model_reckon_75 : decode prog_9_method_21_code 75 = .ok (.goto (-33), 3) := by decide +kernel
theorem d_Model_reckon_78 : decode prog_9_method_21_code 78 = .ok (.iconst 0, 1) := by decide +kernel
theorem d_Model_reckon_79 : decode prog_9_method_21_code 79 = .ok (.istore_n 2, 1) := by decide +kernel
theorem d_Model_reckon_80 : decode prog_9_method_21_code 80 = .ok (.iload_n 2, 1) := by decide +kernel
theorem d_Model_reckon_81 : decode prog_9_method_21_code 81 = .ok (.aload_n 0, 1) := by decide +kernel
theorem d_Model_reckon_82 : decode prog_9_method_21_code 82 = .ok (.getfield 78, 3) := by decide +kernel
theorem d_Model_reckon_85 : decode prog_9_method_21_code 85 = .ok (.if_icmp .ge 120, 3) := by decide +kernel
theorem d_Model_reckon_88 : decode prog_9_method_21_code 88 = .ok (.aload_n 0, 1) := by decide +kernel
theorem d_Model_reckon_89 : decode prog_9_method_21_code 89 = .ok (.iload_n 1, 1) := by decide +kernel
theorem d_Model_reckon_90 : decode prog_9_method_21_code 90 = .ok (.iload_n 2, 1) := by decide +kernel
theorem d_Model_reckon_91 : decode prog_9_method_21_code 91 = .ok (.invokevirtual 118, 3) := by decide +kernel
theorem d_Model_reckon_94 : decode prog_9_method_21_code 94 = .ok (.istore_n 3, 1) := by decide +kernel
theorem d_Model_reckon_95 : decode prog_9_method_21_code 95 = .ok (.iconst 0, 1) := by decide +kernel
theorem d_Model_reckon_96 : decode prog_9_method_21_code 96 = .ok (.istore 4, 2) := by decide +kernel
theorem d_Model_reckon_98 : decode prog_9_method_21_code 98 = .ok (.iload 4, 2) := by decide +kernel
theorem d_Model_reckon_100 : decode prog_9_method_21_code 100 = .ok (.bipush 64, 2) := by decide +kernel
theorem d_Model_reckon_102 : decode prog_9_method_21_code 102 = .ok (.if_icmp .ge 97, 3) := by decide +kernel
theorem d_Model_reckon_105 : decode prog_9_method_21_code 105 = .ok (.iload_n 3, 1) := by decide +kernel
theorem d_Model_reckon_106 : decode prog_9_method_21_code 106 = .ok (.ifCond .lt 93, 3) := by decide +kernel
theorem d_Model_reckon_109 : decode prog_9_method_21_code 109 = .ok (.iload 4, 2) := by decide +kernel
theorem d_Model_reckon_111 : decode prog_9_method_21_code 111 = .ok (.iload_n 2, 1) := by decide +kernel
theorem d_Model_reckon_112 : decode prog_9_method_21_code 112 = .ok (.ishr, 1) := by decide +kernel
theorem d_Model_reckon_113 : decode prog_9_method_21_code 113 = .ok (.iconst 1, 1) := by decide +kernel
theorem d_Model_reckon_114 : decode prog_9_method_21_code 114 = .ok (.iand, 1) := by decide +kernel
theorem d_Model_reckon_115 : decode prog_9_method_21_code 115 = .ok (.iconst 1, 1) := by decide +kernel
theorem d_Model_reckon_116 : decode prog_9_method_21_code 116 = .ok (.if_icmp .ne 28, 3) := by decide +kernel
theorem d_Model_reckon_119 : decode prog_9_method_21_code 119 = .ok (.iload_n 3, 1) := by decide +kernel
theorem d_Model_reckon_120 : decode prog_9_method_21_code 120 = .ok (.aload_n 0, 1) := by decide +kernel
theorem d_Model_reckon_121 : decode prog_9_method_21_code 121 = .ok (.getfield 68, 3) := by decide +kernel
theorem d_Model_reckon_124 : decode prog_9_method_21_code 124 = .ok (.bipush 64, 2) := by decide +kernel
theorem d_Model_reckon_126 : decode prog_9_method_21_code 126 = .ok (.iload_n 1, 1) := by decide +kernel
theorem d_Model_reckon_127 : decode prog_9_method_21_code 127 = .ok (.iconst 1, 1) := by decide +kernel
theorem d_Model_reckon_128 : decode prog_9_method_21_code 128 = .ok (.iadd, 1) := by decide +kernel
theorem d_Model_reckon_129 : decode prog_9_method_21_code 129 = .ok (.imul, 1) := by decide +kernel
theorem d_Model_reckon_130 : decode prog_9_method_21_code 130 = .ok (.iload 4, 2) := by decide +kernel
theorem d_Model_reckon_132 : decode prog_9_method_21_code 132 = .ok (.iconst 1, 1) := by decide +kernel
theorem d_Model_reckon_133 : decode prog_9_method_21_code 133 = .ok (.iload_n 2, 1) := by decide +kernel
theorem d_Model_reckon_134 : decode prog_9_method_21_code 134 = .ok (.ishl, 1) := by decide +kernel
theorem d_Model_reckon_135 : decode prog_9_method_21_code 135 = .ok (.iconst (-1), 1) := by decide +kernel
theorem d_Model_reckon_136 : decode prog_9_method_21_code 136 = .ok (.ixor, 1) := by decide +kernel
theorem d_Model_reckon_137 : decode prog_9_method_21_code 137 = .ok (.iand, 1) := by decide +kernel
theorem d_Model_reckon_138 : decode prog_9_method_21_code 138 = .ok (.iadd, 1) := by decide +kernel
theorem d_Model_reckon_139 : decode prog_9_method_21_code 139 = .ok (.iaload, 1) := by decide +kernel
theorem d_Model_reckon_140 : decode prog_9_method_21_code 140 = .ok (.iadd, 1) := by decide +kernel
theorem d_Model_reckon_141 : decode prog_9_method_21_code 141 = .ok (.goto 4, 3) := by decide +kernel
theorem d_Model_reckon_144 : decode prog_9_method_21_code 144 = .ok (.iconst 0, 1) := by decide +kernel
theorem d_Model_reckon_145 : decode prog_9_method_21_code 145 = .ok (.istore 5, 2) := by decide +kernel
theorem d_Model_reckon_147 : decode prog_9_method_21_code 147 = .ok (.aload_n 0, 1) := by decide +kernel
theorem d_Model_reckon_148 : decode prog_9_method_21_code 148 = .ok (.getfield 68, 3) := by decide +kernel
theorem d_Model_reckon_151 : decode prog_9_method_21_code 151 = .ok (.bipush 64, 2) := by decide +kernel
theorem d_Model_reckon_153 : decode prog_9_method_21_code 153 = .ok (.iload_n 1, 1) := by decide +kernel
theorem d_Model_reckon_154 : decode prog_9_method_21_code 154 = .ok (.imul, 1) := by decide +kernel
theorem d_Model_reckon_155 : decode prog_9_method_21_code 155 = .ok (.iload 4, 2) := by decide +kernel
theorem d_Model_reckon_157 : decode prog_9_method_21_code 157 = .ok (.iadd, 1) := by decide +kernel
theorem d_Model_reckon_158 : decode prog_9_method_21_code 158 = .ok (.iload 5, 2) := by decide +kernel
theorem d_Model_reckon_160 : decode prog_9_method_21_code 160 = .ok (.aload_n 0, 1) := by decide +kernel
theorem d_Model_reckon_161 : decode prog_9_method_21_code 161 = .ok (.getfield 68, 3) := by decide +kernel
theorem d_Model_reckon_164 : decode prog_9_method_21_code 164 = .ok (.bipush 64, 2) := by decide +kernel
theorem d_Model_reckon_166 : decode prog_9_method_21_code 166 = .ok (.iload_n 1, 1) := by decide +kernel
theorem d_Model_reckon_167 : decode prog_9_method_21_code 167 = .ok (.imul, 1) := by decide +kernel
theorem d_Model_reckon_168 : decode prog_9_method_21_code 168 = .ok (.iload 4, 2) := by decide +kernel
theorem d_Model_reckon_170 : decode prog_9_method_21_code 170 = .ok (.iadd, 1) := by decide +kernel
theorem d_Model_reckon_171 : decode prog_9_method_21_code 171 = .ok (.iaload, 1) := by decide +kernel
theorem d_Model_reckon_172 : decode prog_9_method_21_code 172 = .ok (.if_icmp .le 8, 3) := by decide +kernel
theorem d_Model_reckon_175 : decode prog_9_method_21_code 175 = .ok (.iload 5, 2) := by decide +kernel
theorem d_Model_reckon_177 : decode prog_9_method_21_code 177 = .ok (.goto 15, 3) := by decide +kernel
theorem d_Model_reckon_180 : decode prog_9_method_21_code 180 = .ok (.aload_n 0, 1) := by decide +kernel
theorem d_Model_reckon_181 : decode prog_9_method_21_code 181 = .ok (.getfield 68, 3) := by decide +kernel
theorem d_Model_reckon_184 : decode prog_9_method_21_code 184 = .ok (.bipush 64, 2) := by decide +kernel
theorem d_Model_reckon_186 : decode prog_9_method_21_code 186 = .ok (.iload_n 1, 1) := by decide +kernel
theorem d_Model_reckon_187 : decode prog_9_method_21_code 187 = .ok (.imul, 1) := by decide +kernel
theorem d_Model_reckon_188 : decode prog_9_method_21_code 188 = .ok (.iload 4, 2) := by decide +kernel
theorem d_Model_reckon_190 : decode prog_9_method_21_code 190 = .ok (.iadd, 1) := by decide +kernel
theorem d_Model_reckon_191 : decode prog_9_method_21_code 191 = .ok (.iaload, 1) := by decide +kernel
theorem d_Model_reckon_192 : decode prog_9_method_21_code 192 = .ok (.iastore, 1) := by decide +kernel
theorem d_Model_reckon_193 : decode prog_9_method_21_code 193 = .ok (.iinc 4 1, 3) := by decide +kernel
theorem d_Model_reckon_196 : decode prog_9_method_21_code 196 = .ok (.goto (-98), 3) := by decide +kernel
theorem d_Model_reckon_199 : decode prog_9_method_21_code 199 = .ok (.iinc 2 1, 3) := by decide +kernel
theorem d_Model_reckon_202 : decode prog_9_method_21_code 202 = .ok (.goto (-122), 3) := by decide +kernel
theorem d_Model_reckon_205 : decode prog_9_method_21_code 205 = .ok (.iinc 1 (-1), 3) := by decide +kernel
theorem d_Model_reckon_208 : decode prog_9_method_21_code 208 = .ok (.goto (-172), 3) := by decide +kernel
theorem d_Model_reckon_211 : decode prog_9_method_21_code 211 = .ok (.return_, 1) := by decide +kernel
theorem d_Model_assign_0 : decode prog_9_method_22_code 0 = .ok (.aload_n 0, 1) := by decide +kernel
theorem d_Model_assign_1 : decode prog_9_method_22_code 1 = .ok (.iconst 0, 1) := by decide +kernel
theorem d_Model_assign_2 : decode prog_9_method_22_code 2 = .ok (.putfield 75, 3) := by decide +kernel
theorem d_Model_assign_5 : decode prog_9_method_22_code 5 = .ok (.aload_n 0, 1) := by decide +kernel
theorem d_Model_assign_6 : decode prog_9_method_22_code 6 = .ok (.invokevirtual 121, 3) := by decide +kernel
theorem d_Model_assign_9 : decode prog_9_method_22_code 9 = .ok (.bipush 63, 2) := by decide +kernel
theorem d_Model_assign_11 : decode prog_9_method_22_code 11 = .ok (.istore_n 1, 1) := by decide +kernel
theorem d_Model_assign_12 : decode prog_9_method_22_code 12 = .ok (.iconst 0, 1) := by decide +kernel
theorem d_Model_assign_13 : decode prog_9_method_22_code 13 = .ok (.istore_n 2, 1) := by decide +kernel
theorem d_Model_assign_14 : decode prog_9_method_22_code 14 = .ok (.iconst 0, 1) := by decide +kernel
theorem d_Model_assign_15 : decode prog_9_method_22_code 15 = .ok (.istore_n 3, 1) := by decide +kernel
theorem d_Model_assign_16 : decode prog_9_method_22_code 16 = .ok (.iconst 0, 1) := by decide +kernel
theorem d_Model_assign_17 : decode prog_9_method_22_code 17 = .ok (.istore 4, 2) := by decide +kernel
theorem d_Model_assign_19 : decode prog_9_method_22_code 19 = .ok (.iload 4, 2) := by decide +kernel
theorem d_Model_assign_21 : decode prog_9_method_22_code 21 = .ok (.aload_n 0, 1) := by decide +kernel
theorem d_Model_assign_22 : decode prog_9_method_22_code 22 = .ok (.getfield 114, 3) := by decide +kernel
theorem d_Model_assign_25 : decode prog_9_method_22_code 25 = .ok (.if_icmp .ge 173, 3) := by decide +kernel
theorem d_Model_assign_28 : decode prog_9_method_22_code 28 = .ok (.iconst (-1), 1) := by decide +kernel
theorem d_Model_assign_29 : decode prog_9_method_22_code 29 = .ok (.istore 5, 2) := by decide +kernel
theorem d_Model_assign_31 : decode prog_9_method_22_code 31 = .ok (.aload_n 0, 1) := by decide +kernel
theorem d_Model_assign_32 : decode prog_9_method_22_code 32 = .ok (.getfield 78, 3) := by decide +kernel
theorem d_Model_assign_35 : decode prog_9_method_22_code 35 = .ok (.iconst 1, 1) := by decide +kernel
theorem d_Model_assign_36 : decode prog_9_method_22_code 36 = .ok (.isub, 1) := by decide +kernel
theorem d_Model_assign_37 : decode prog_9_method_22_code 37 = .ok (.istore 6, 2) := by decide +kernel
theorem d_Model_assign_39 : decode prog_9_method_22_code 39 = .ok (.iload 6, 2) := by decide +kernel
theorem d_Model_assign_41 : decode prog_9_method_22_code 41 = .ok (.ifCond .lt 86, 3) := by decide +kernel
theorem d_Model_assign_44 : decode prog_9_method_22_code 44 = .ok (.iload_n 1, 1) := by decide +kernel
theorem d_Model_assign_45 : decode prog_9_method_22_code 45 = .ok (.iload 6, 2) := by decide +kernel
theorem d_Model_assign_47 : decode prog_9_method_22_code 47 = .ok (.ishr, 1) := by decide +kernel
theorem d_Model_assign_48 : decode prog_9_method_22_code 48 = .ok (.iconst 1, 1) := by decide +kernel
theorem d_Model_assign_49 : decode prog_9_method_22_code 49 = .ok (.iand, 1) := by decide +kernel
theorem d_Model_assign_50 : decode prog_9_method_22_code 50 = .ok (.iconst 1, 1) := by decide +kernel
theorem d_Model_assign_51 : decode prog_9_method_22_code 51 = .ok (.if_icmp .ne 14, 3) := by decide +kernel
theorem d_Model_assign_54 : decode prog_9_method_22_code 54 = .ok (.aload_n 0, 1) := by decide +kernel
theorem d_Model_assign_55 : decode prog_9_method_22_code 55 = .ok (.iload 4, 2) := by decide +kernel
theorem d_Model_assign_57 : decode prog_9_method_22_code 57 = .ok (.iload 6, 2) := by decide +kernel
theorem d_Model_assign_59 : decode prog_9_method_22_code 59 = .ok (.invokevirtual 118, 3) := by decide +kernel
theorem d_Model_assign_62 : decode prog_9_method_22_code 62 = .ok (.goto 4, 3) := by decide +kernel
theorem d_Model_assign_65 : decode prog_9_method_22_code 65 = .ok (.iconst (-1), 1) := by decide +kernel
theorem d_Model_assign_66 : decode prog_9_method_22_code 66 = .ok (.istore 7, 2) := by decide +kernel
theorem d_Model_assign_68 : decode prog_9_method_22_code 68 = .ok (.iload 7, 2) := by decide +kernel
theorem d_Model_assign_70 : decode prog_9_method_22_code 70 = .ok (.ifCond .lt 47, 3) := by decide +kernel
theorem d_Model_assign_73 : decode prog_9_method_22_code 73 = .ok (.iload 7, 2) := by decide +kernel
theorem d_Model_assign_75 : decode prog_9_method_22_code 75 = .ok (.aload_n 0, 1) := by decide +kernel
theorem d_Model_assign_76 : decode prog_9_method_22_code 76 = .ok (.getfield 68, 3) := by decide +kernel
theorem d_Model_assign_79 : decode prog_9_method_22_code 79 = .ok (.bipush 64, 2) := by decide +kernel
theorem d_Model_assign_81 : decode prog_9_method_22_code 81 = .ok (.iload 4, 2) := by decide +kernel
theorem d_Model_assign_83 : decode prog_9_method_22_code 83 = .ok (.iconst 1, 1) := by decide +kernel
theorem d_Model_assign_84 : decode prog_9_method_22_code 84 = .ok (.iadd, 1) := by decide +kernel
theorem d_Model_assign_85 : decode prog_9_method_22_code 85 = .ok (.imul, 1) := by decide +kernel
theorem d_Model_assign_86 : decode prog_9_method_22_code 86 = .ok (.iload_n 1, 1) := by decide +kernel
theorem d_Model_assign_87 : decode prog_9_method_22_code 87 = .ok (.iconst 1, 1) := by decide +kernel
theorem d_Model_assign_88 : decode prog_9_method_22_code 88 = .ok (.iload 6, 2) := by decide +kernel
theorem d_Model_assign_90 : decode prog_9_method_22_code 90 = .ok (.ishl, 1) := by decide +kernel
theorem d_Model_assign_91 : decode prog_9_method_22_code 91 = .ok (.iconst (-1), 1) := by decide +kernel
theorem d_Model_assign_92 : decode prog_9_method_22_code 92 = .ok (.ixor, 1) := by decide +kernel
theorem d_Model_assign_93 : decode prog_9_method_22_code 93 = .ok (.iand, 1) := by decide +kernel
theorem d_Model_assign_94 : decode prog_9_method_22_code 94 = .ok (.iadd, 1) := by decide +kernel
theorem d_Model_assign_95 : decode prog_9_method_22_code 95 = .ok (.iaload, 1) := by decide +kernel
theorem d_Model_assign_96 : decode prog_9_method_22_code 96 = .ok (.iadd, 1) := by decide +kernel
theorem d_Model_assign_97 : decode prog_9_method_22_code 97 = .ok (.aload_n 0, 1) := by decide +kernel
theorem d_Model_assign_98 : decode prog_9_method_22_code 98 = .ok (.getfield 68, 3) := by decide +kernel
theorem d_Model_assign_101 : decode prog_9_method_22_code 101 = .ok (.bipush 64, 2) := by decide +kernel
theorem d_Model_assign_103 : decode prog_9_method_22_code 103 = .ok (.iload 4, 2) := by decide +kernel
theorem d_Model_assign_105 : decode prog_9_method_22_code 105 = .ok (.imul, 1) := by decide +kernel
theorem d_Model_assign_106 : decode prog_9_method_22_code 106 = .ok (.iload_n 1, 1) := by decide +kernel
theorem d_Model_assign_107 : decode prog_9_method_22_code 107 = .ok (.iadd, 1) := by decide +kernel
theorem d_Model_assign_108 : decode prog_9_method_22_code 108 = .ok (.iaload, 1) := by decide +kernel
theorem d_Model_assign_109 : decode prog_9_method_22_code 109 = .ok (.if_icmp .ne 8, 3) := by decide +kernel
theorem d_Model_assign_112 : decode prog_9_method_22_code 112 = .ok (.iload 6, 2) := by decide +kernel
theorem d_Model_assign_114 : decode prog_9_method_22_code 114 = .ok (.goto 5, 3) := by decide +kernel
theorem d_Model_assign_117 : decode prog_9_method_22_code 117 = .ok (.iload 5, 2) := by decide +kernel
theorem d_Model_assign_119 : decode prog_9_method_22_code 119 = .ok (.istore 5, 2) := by decide +kernel
theorem d_Model_assign_121 : decode prog_9_method_22_code 121 = .ok (.iinc 6 (-1), 3) := by decide +kernel
theorem d_Model_assign_124 : decode prog_9_method_22_code 124 = .ok (.goto (-85), 3) := by decide +kernel
theorem d_Model_assign_127 : decode prog_9_method_22_code 127 = .ok (.iload 5, 2) := by decide +kernel
theorem d_Model_assign_129 : decode prog_9_method_22_code 129 = .ok (.iconst (-1), 1) := by decide +kernel
theorem d_Model_assign_130 : decode prog_9_method_22_code 130 = .ok (.if_icmp .eq 62, 3) := by decide +kernel
theorem d_Model_assign_133 : decode prog_9_method_22_code 133 = .ok (.iload_n 2, 1) := by decide +kernel
theorem d_Model_assign_134 : decode prog_9_method_22_code 134 = .ok (.aload_n 0, 1) := by decide +kernel
theorem d_Model_assign_135 : decode prog_9_method_22_code 135 = .ok (.aload_n 0, 1) := by decide +kernel
theorem d_Model_assign_136 : decode prog_9_method_22_code 136 = .ok (.getfield 32, 3) := by decide +kernel
theorem d_Model_assign_139 : decode prog_9_method_22_code 139 = .ok (.iload 5, 2) := by decide +kernel
theorem d_Model_assign_141 : decode prog_9_method_22_code 141 = .ok (.iaload, 1) := by decide +kernel
theorem d_Model_assign_142 : decode prog_9_method_22_code 142 = .ok (.aload_n 0, 1) := by decide +kernel
theorem d_Model_assign_143 : decode prog_9_method_22_code 143 = .ok (.getfield 53, 3) := by decide +kernel
theorem d_Model_assign_146 : decode prog_9_method_22_code 146 = .ok (.iload 4, 2) := by decide +kernel
theorem d_Model_assign_148 : decode prog_9_method_22_code 148 = .ok (.iaload, 1) := by decide +kernel
theorem d_Model_assign_149 : decode prog_9_method_22_code 149 = .ok (.invokevirtual 104, 3) := by decide +kernel
theorem d_Model_assign_152 : decode prog_9_method_22_code 152 = .ok (.iadd, 1) := by decide +kernel
theorem d_Model_assign_153 : decode prog_9_method_22_code 153 = .ok (.istore_n 2, 1) := by decide +kernel
theorem d_Model_assign_154 : decode prog_9_method_22_code 154 = .ok (.iinc 3 1, 3) := by decide +kernel
theorem d_Model_assign_157 : decode prog_9_method_22_code 157 = .ok (.aload_n 0, 1) := by decide +kernel
theorem d_Model_assign_158 : decode prog_9_method_22_code 158 = .ok (.getfield 59, 3) := by decide +kernel
theorem d_Model_assign_161 : decode prog_9_method_22_code 161 = .ok (.iload 4, 2) := by decide +kernel
theorem d_Model_assign_163 : decode prog_9_method_22_code 163 = .ok (.iconst 1, 1) := by decide +kernel
theorem d_Model_assign_164 : decode prog_9_method_22_code 164 = .ok (.iastore, 1) := by decide +kernel
theorem d_Model_assign_165 : decode prog_9_method_22_code 165 = .ok (.aload_n 0, 1) := by decide +kernel
theorem d_Model_assign_166 : decode prog_9_method_22_code 166 = .ok (.getfield 62, 3) := by decide +kernel
theorem d_Model_assign_169 : decode prog_9_method_22_code 169 = .ok (.iload 4, 2) := by decide +kernel
theorem d_Model_assign_171 : decode prog_9_method_22_code 171 = .ok (.iload 5, 2) := by decide +kernel
theorem d_Model_assign_173 : decode prog_9_method_22_code 173 = .ok (.iastore, 1) := by decide +kernel
theorem d_Model_assign_174 : decode prog_9_method_22_code 174 = .ok (.aload_n 0, 1) := by decide +kernel
theorem d_Model_assign_175 : decode prog_9_method_22_code 175 = .ok (.getfield 41, 3) := by decide +kernel
theorem d_Model_assign_178 : decode prog_9_method_22_code 178 = .ok (.iload 5, 2) := by decide +kernel
theorem d_Model_assign_180 : decode prog_9_method_22_code 180 = .ok (.iload 4, 2) := by decide +kernel
theorem d_Model_assign_182 : decode prog_9_method_22_code 182 = .ok (.iastore, 1) := by decide +kernel
theorem d_Model_assign_183 : decode prog_9_method_22_code 183 = .ok (.iload_n 1, 1) := by decide +kernel
theorem d_Model_assign_184 : decode prog_9_method_22_code 184 = .ok (.iconst 1, 1) := by decide +kernel
theorem d_Model_assign_185 : decode prog_9_method_22_code 185 = .ok (.iload 5, 2) := by decide +kernel
theorem d_Model_assign_187 : decode prog_9_method_22_code 187 = .ok (.ishl, 1) := by decide +kernel
theorem d_Model_assign_188 : decode prog_9_method_22_code 188 = .ok (.iconst (-1), 1) := by decide +kernel
theorem d_Model_assign_189 : decode prog_9_method_22_code 189 = .ok (.ixor, 1) := by decide +kernel
theorem d_Model_assign_190 : decode prog_9_method_22_code 190 = .ok (.iand, 1) := by decide +kernel
theorem d_Model_assign_191 : decode prog_9_method_22_code 191 = .ok (.istore_n 1, 1) := by decide +kernel
theorem d_Model_assign_192 : decode prog_9_method_22_code 192 = .ok (.iinc 4 1, 3) := by decide +kernel
theorem d_Model_assign_195 : decode prog_9_method_22_code 195 = .ok (.goto (-176), 3) := by decide +kernel
theorem d_Model_assign_198 : decode prog_9_method_22_code 198 = .ok (.iload_n 3, 1) := by decide +kernel
theorem d_Model_assign_199 : decode prog_9_method_22_code 199 = .ok (.ifCond .ne 7, 3) := by decide +kernel
theorem d_Model_assign_202 : decode prog_9_method_22_code 202 = .ok (.iconst (-1), 1) := by decide +kernel
theorem d_Model_assign_203 : decode prog_9_method_22_code 203 = .ok (.goto 4, 3) := by decide +kernel
theorem d_Model_assign_206 : decode prog_9_method_22_code 206 = .ok (.iload_n 2, 1) := by decide +kernel
theorem d_Model_assign_207 : decode prog_9_method_22_code 207 = .ok (.ireturn, 1) := by decide +kernel
theorem d_Model_isBarred_0 : decode prog_9_method_23_code 0 = .ok (.iconst 0, 1) := by decide +kernel
theorem d_Model_isBarred_1 : decode prog_9_method_23_code 1 = .ok (.istore_n 2, 1) := by decide +kernel
theorem d_Model_isBarred_2 : decode prog_9_method_23_code 2 = .ok (.iconst 0, 1) := by decide +kernel
theorem d_Model_isBarred_3 : decode prog_9_method_23_code 3 = .ok (.istore_n 3, 1) := by decide +kernel
theorem d_Model_isBarred_4 : decode prog_9_method_23_code 4 = .ok (.iload_n 3, 1) := by decide +kernel
theorem d_Model_isBarred_5 : decode prog_9_method_23_code 5 = .ok (.aload_n 0, 1) := by decide +kernel
theorem d_Model_isBarred_6 : decode prog_9_method_23_code 6 = .ok (.getfield 111, 3) := by decide +kernel
theorem d_Model_isBarred_9 : decode prog_9_method_23_code 9 = .ok (.if_icmp .ge 65, 3) := by decide +kernel
theorem d_Model_isBarred_12 : decode prog_9_method_23_code 12 = .ok (.iload_n 2, 1) := by decide +kernel
theorem d_Model_isBarred_13 : decode prog_9_method_23_code 13 = .ok (.ifCond .ne 49, 3) := by decide +kernel
theorem d_Model_isBarred_16 : decode prog_9_method_23_code 16 = .ok (.aload_n 0, 1) := by decide +kernel
theorem d_Model_isBarred_17 : decode prog_9_method_23_code 17 = .ok (.getfield 29, 3) := by decide +kernel
theorem d_Model_isBarred_20 : decode prog_9_method_23_code 20 = .ok (.iload_n 3, 1) := by decide +kernel
theorem d_Model_isBarred_21 : decode prog_9_method_23_code 21 = .ok (.iaload, 1) := by decide +kernel
theorem d_Model_isBarred_22 : decode prog_9_method_23_code 22 = .ok (.aload_n 0, 1) := by decide +kernel
theorem d_Model_isBarred_23 : decode prog_9_method_23_code 23 = .ok (.getfield 20, 3) := by decide +kernel
theorem d_Model_isBarred_26 : decode prog_9_method_23_code 26 = .ok (.iload_n 1, 1) := by decide +kernel
theorem d_Model_isBarred_27 : decode prog_9_method_23_code 27 = .ok (.iaload, 1) := by decide +kernel
theorem d_Model_isBarred_28 : decode prog_9_method_23_code 28 = .ok (.ishr, 1) := by decide +kernel
theorem d_Model_isBarred_29 : decode prog_9_method_23_code 29 = .ok (.iconst 1, 1) := by decide +kernel
theorem d_Model_isBarred_30 : decode prog_9_method_23_code 30 = .ok (.iand, 1) := by decide +kernel
theorem d_Model_isBarred_31 : decode prog_9_method_23_code 31 = .ok (.iconst 1, 1) := by decide +kernel
theorem d_Model_isBarred_32 : decode prog_9_method_23_code 32 = .ok (.if_icmp .ne 34, 3) := by decide +kernel
theorem d_Model_isBarred_35 : decode prog_9_method_23_code 35 = .ok (.aload_n 0, 1) := by decide +kernel
theorem d_Model_isBarred_36 : decode prog_9_method_23_code 36 = .ok (.getfield 29, 3) := by decide +kernel
theorem d_Model_isBarred_39 : decode prog_9_method_23_code 39 = .ok (.iload_n 3, 1) := by decide +kernel
theorem d_Model_isBarred_40 : decode prog_9_method_23_code 40 = .ok (.iaload, 1) := by decide +kernel
theorem d_Model_isBarred_41 : decode prog_9_method_23_code 41 = .ok (.aload_n 0, 1) := by decide +kernel
theorem d_Model_isBarred_42 : decode prog_9_method_23_code 42 = .ok (.getfield 17, 3) := by decide +kernel
theorem d_Model_isBarred_45 : decode prog_9_method_23_code 45 = .ok (.iload_n 1, 1) := by decide +kernel
theorem d_Model_isBarred_46 : decode prog_9_method_23_code 46 = .ok (.iaload, 1) := by decide +kernel
theorem d_Model_isBarred_47 : decode prog_9_method_23_code 47 = .ok (.ishr, 1) := by decide +kernel
theorem d_Model_isBarred_48 : decode prog_9_method_23_code 48 = .ok (.iconst 1, 1) := by decide +kernel
theorem d_Model_isBarred_49 : decode prog_9_method_23_code 49 = .ok (.iand, 1) := by decide +kernel
theorem d_Model_isBarred_50 : decode prog_9_method_23_code 50 = .ok (.ifCond .ne 16, 3) := by decide +kernel
theorem d_Model_isBarred_53 : decode prog_9_method_23_code 53 = .ok (.aload_n 0, 1) := by decide +kernel
theorem d_Model_isBarred_54 : decode prog_9_method_23_code 54 = .ok (.iload_n 3, 1) := by decide +kernel
theorem d_Model_isBarred_55 : decode prog_9_method_23_code 55 = .ok (.invokevirtual 124, 3) := by decide +kernel
theorem d_Model_isBarred_58 : decode prog_9_method_23_code 58 = .ok (.iconst 1, 1) := by decide +kernel
theorem d_Model_isBarred_59 : decode prog_9_method_23_code 59 = .ok (.if_icmp .gt 7, 3) := by decide +kernel
theorem d_Model_isBarred_62 : decode prog_9_method_23_code 62 = .ok (.iconst 1, 1) := by decide +kernel
theorem d_Model_isBarred_63 : decode prog_9_method_23_code 63 = .ok (.goto 4, 3) := by decide +kernel
theorem d_Model_isBarred_66 : decode prog_9_method_23_code 66 = .ok (.iconst 0, 1) := by decide +kernel
theorem d_Model_isBarred_67 : decode prog_9_method_23_code 67 = .ok (.istore_n 2, 1) := by decide +kernel
theorem d_Model_isBarred_68 : decode prog_9_method_23_code 68 = .ok (.iinc 3 1, 3) := by decide +kernel
theorem d_Model_isBarred_71 : decode prog_9_method_23_code 71 = .ok (.goto (-67), 3) := by decide +kernel
theorem d_Model_isBarred_74 : decode prog_9_method_23_code 74 = .ok (.iload_n 2, 1) := by decide +kernel
theorem d_Model_isBarred_75 : decode prog_9_method_23_code 75 = .ok (.ireturn, 1) := by decide +kernel
theorem d_Model_isTaken_0 : decode prog_9_method_24_code 0 = .ok (.iconst 0, 1) := by decide +kernel
theorem d_Model_isTaken_1 : decode prog_9_method_24_code 1 = .ok (.istore_n 2, 1) := by decide +kernel
theorem d_Model_isTaken_2 : decode prog_9_method_24_code 2 = .ok (.iconst 0, 1) := by decide +kernel
theorem d_Model_isTaken_3 : decode prog_9_method_24_code 3 = .ok (.istore_n 3, 1) := by decide +kernel
theorem d_Model_isTaken_4 : decode prog_9_method_24_code 4 = .ok (.iload_n 3, 1) := by decide +kernel
theorem d_Model_isTaken_5 : decode prog_9_method_24_code 5 = .ok (.aload_n 0, 1) := by decide +kernel
theorem d_Model_isTaken_6 : decode prog_9_method_24_code 6 = .ok (.getfield 78, 3) := by decide +kernel
theorem d_Model_isTaken_9 : decode prog_9_method_24_code 9 = .ok (.if_icmp .ge 29, 3) := by decide +kernel
theorem d_Model_isTaken_12 : decode prog_9_method_24_code 12 = .ok (.iload_n 2, 1) := by decide +kernel
theorem d_Model_isTaken_13 : decode prog_9_method_24_code 13 = .ok (.ifCond .ne 13, 3) := by decide +kernel
theorem d_Model_isTaken_16 : decode prog_9_method_24_code 16 = .ok (.aload_n 0, 1) := by decide +kernel
theorem d_Model_isTaken_17 : decode prog_9_method_24_code 17 = .ok (.getfield 35, 3) := by decide +kernel
theorem d_Model_isTaken_20 : decode prog_9_method_24_code 20 = .ok (.iload_n 3, 1) := by decide +kernel
theorem d_Model_isTaken_21 : decode prog_9_method_24_code 21 = .ok (.iaload, 1) := by decide +kernel
theorem d_Model_isTaken_22 : decode prog_9_method_24_code 22 = .ok (.iload_n 1, 1) := by decide +kernel
theorem d_Model_isTaken_23 : decode prog_9_method_24_code 23 = .ok (.if_icmp .ne 7, 3) := by decide +kernel
theorem d_Model_isTaken_26 : decode prog_9_method_24_code 26 = .ok (.iconst 1, 1) := by decide +kernel
theorem d_Model_isTaken_27 : decode prog_9_method_24_code 27 = .ok (.goto 4, 3) := by decide +kernel
theorem d_Model_isTaken_30 : decode prog_9_method_24_code 30 = .ok (.iconst 0, 1) := by decide +kernel
theorem d_Model_isTaken_31 : decode prog_9_method_24_code 31 = .ok (.istore_n 2, 1) := by decide +kernel
theorem d_Model_isTaken_32 : decode prog_9_method_24_code 32 = .ok (.iinc 3 1, 3) := by decide +kernel
theorem d_Model_isTaken_35 : decode prog_9_method_24_code 35 = .ok (.goto (-31), 3) := by decide +kernel
theorem d_Model_isTaken_38 : decode prog_9_method_24_code 38 = .ok (.iload_n 2, 1) := by decide +kernel
theorem d_Model_isTaken_39 : decode prog_9_method_24_code 39 = .ok (.ireturn, 1) := by decide +kernel
theorem d_Model_goesOn_0 : decode prog_9_method_25_code 0 = .ok (.aload_n 0, 1) := by decide +kernel
theorem d_Model_goesOn_1 : decode prog_9_method_25_code 1 = .ok (.iload_n 2, 1) := by decide +kernel
theorem d_Model_goesOn_2 : decode prog_9_method_25_code 2 = .ok (.invokevirtual 85, 3) := by decide +kernel
theorem d_Model_goesOn_5 : decode prog_9_method_25_code 5 = .ok (.aload_n 0, 1) := by decide +kernel
theorem d_Model_goesOn_6 : decode prog_9_method_25_code 6 = .ok (.getfield 65, 3) := by decide +kernel
theorem d_Model_goesOn_9 : decode prog_9_method_25_code 9 = .ok (.aload_n 0, 1) := by decide +kernel
theorem d_Model_goesOn_10 : decode prog_9_method_25_code 10 = .ok (.getfield 32, 3) := by decide +kernel
theorem d_Model_goesOn_13 : decode prog_9_method_25_code 13 = .ok (.iload_n 1, 1) := by decide +kernel
theorem d_Model_goesOn_14 : decode prog_9_method_25_code 14 = .ok (.iaload, 1) := by decide +kernel
theorem d_Model_goesOn_15 : decode prog_9_method_25_code 15 = .ok (.iaload, 1) := by decide +kernel
theorem d_Model_goesOn_16 : decode prog_9_method_25_code 16 = .ok (.ldc 81, 2) := by decide +kernel
theorem d_Model_goesOn_18 : decode prog_9_method_25_code 18 = .ok (.if_icmp .ne 5, 3) := by decide +kernel
theorem d_Model_goesOn_21 : decode prog_9_method_25_code 21 = .ok (.iconst 5, 1) := by decide +kernel
theorem d_Model_goesOn_22 : decode prog_9_method_25_code 22 = .ok (.ireturn, 1) := by decide +kernel
theorem d_Model_goesOn_23 : decode prog_9_method_25_code 23 = .ok (.aload_n 0, 1) := by decide +kernel
theorem d_Model_goesOn_24 : decode prog_9_method_25_code 24 = .ok (.aload_n 0, 1) := by decide +kernel
theorem d_Model_goesOn_25 : decode prog_9_method_25_code 25 = .ok (.getfield 32, 3) := by decide +kernel
theorem d_Model_goesOn_28 : decode prog_9_method_25_code 28 = .ok (.iload_n 1, 1) := by decide +kernel
theorem d_Model_goesOn_29 : decode prog_9_method_25_code 29 = .ok (.iaload, 1) := by decide +kernel
theorem d_Model_goesOn_30 : decode prog_9_method_25_code 30 = .ok (.invokevirtual 101, 3) := by decide +kernel
theorem d_Model_goesOn_33 : decode prog_9_method_25_code 33 = .ok (.istore_n 3, 1) := by decide +kernel
theorem d_Model_goesOn_34 : decode prog_9_method_25_code 34 = .ok (.aload_n 0, 1) := by decide +kernel
theorem d_Model_goesOn_35 : decode prog_9_method_25_code 35 = .ok (.iload_n 3, 1) := by decide +kernel
theorem d_Model_goesOn_36 : decode prog_9_method_25_code 36 = .ok (.invokevirtual 127, 3) := by decide +kernel
theorem d_Model_goesOn_39 : decode prog_9_method_25_code 39 = .ok (.ifCond .eq 6, 3) := by decide +kernel
theorem d_Model_goesOn_42 : decode prog_9_method_25_code 42 = .ok (.bipush 6, 2) := by decide +kernel
theorem d_Model_goesOn_44 : decode prog_9_method_25_code 44 = .ok (.ireturn, 1) := by decide +kernel
theorem d_Model_goesOn_45 : decode prog_9_method_25_code 45 = .ok (.aload_n 0, 1) := by decide +kernel
theorem d_Model_goesOn_46 : decode prog_9_method_25_code 46 = .ok (.aload_n 0, 1) := by decide +kernel
theorem d_Model_goesOn_47 : decode prog_9_method_25_code 47 = .ok (.getfield 20, 3) := by decide +kernel
theorem d_Model_goesOn_50 : decode prog_9_method_25_code 50 = .ok (.iload_n 3, 1) := by decide +kernel
theorem d_Model_goesOn_51 : decode prog_9_method_25_code 51 = .ok (.iaload, 1) := by decide +kernel
theorem d_Model_goesOn_52 : decode prog_9_method_25_code 52 = .ok (.invokevirtual 108, 3) := by decide +kernel
theorem d_Model_goesOn_55 : decode prog_9_method_25_code 55 = .ok (.aload_n 0, 1) := by decide +kernel
theorem d_Model_goesOn_56 : decode prog_9_method_25_code 56 = .ok (.getfield 7, 3) := by decide +kernel
theorem d_Model_goesOn_59 : decode prog_9_method_25_code 59 = .ok (.aload_n 0, 1) := by decide +kernel
theorem d_Model_goesOn_60 : decode prog_9_method_25_code 60 = .ok (.getfield 20, 3) := by decide +kernel
theorem d_Model_goesOn_63 : decode prog_9_method_25_code 63 = .ok (.iload_n 3, 1) := by decide +kernel
theorem d_Model_goesOn_64 : decode prog_9_method_25_code 64 = .ok (.iaload, 1) := by decide +kernel
theorem d_Model_goesOn_65 : decode prog_9_method_25_code 65 = .ok (.iaload, 1) := by decide +kernel
theorem d_Model_goesOn_66 : decode prog_9_method_25_code 66 = .ok (.if_icmp .lt 6, 3) := by decide +kernel
theorem d_Model_goesOn_69 : decode prog_9_method_25_code 69 = .ok (.bipush 7, 2) := by decide +kernel
theorem d_Model_goesOn_71 : decode prog_9_method_25_code 71 = .ok (.ireturn, 1) := by decide +kernel
theorem d_Model_goesOn_72 : decode prog_9_method_25_code 72 = .ok (.aload_n 0, 1) := by decide +kernel
theorem d_Model_goesOn_73 : decode prog_9_method_25_code 73 = .ok (.iload_n 3, 1) := by decide +kernel
theorem d_Model_goesOn_74 : decode prog_9_method_25_code 74 = .ok (.invokevirtual 130, 3) := by decide +kernel
theorem d_Model_goesOn_77 : decode prog_9_method_25_code 77 = .ok (.ifCond .eq 6, 3) := by decide +kernel
theorem d_Model_goesOn_80 : decode prog_9_method_25_code 80 = .ok (.bipush 8, 2) := by decide +kernel
theorem d_Model_goesOn_82 : decode prog_9_method_25_code 82 = .ok (.ireturn, 1) := by decide +kernel
theorem d_Model_goesOn_83 : decode prog_9_method_25_code 83 = .ok (.aload_n 0, 1) := by decide +kernel
theorem d_Model_goesOn_84 : decode prog_9_method_25_code 84 = .ok (.aload_n 0, 1) := by decide +kernel
theorem d_Model_goesOn_85 : decode prog_9_method_25_code 85 = .ok (.getfield 20, 3) := by decide +kernel
theorem d_Model_goesOn_88 : decode prog_9_method_25_code 88 = .ok (.iload_n 3, 1) := by decide +kernel
theorem d_Model_goesOn_89 : decode prog_9_method_25_code 89 = .ok (.iaload, 1) := by decide +kernel
theorem d_Model_goesOn_90 : decode prog_9_method_25_code 90 = .ok (.invokevirtual 133, 3) := by decide +kernel
theorem d_Model_goesOn_93 : decode prog_9_method_25_code 93 = .ok (.istore 4, 2) := by decide +kernel
theorem d_Model_goesOn_95 : decode prog_9_method_25_code 95 = .ok (.iload 4, 2) := by decide +kernel
theorem d_Model_goesOn_97 : decode prog_9_method_25_code 97 = .ok (.ldc 81, 2) := by decide +kernel
theorem d_Model_goesOn_99 : decode prog_9_method_25_code 99 = .ok (.if_icmp .eq 21, 3) := by decide +kernel
theorem d_Model_goesOn_102 : decode prog_9_method_25_code 102 = .ok (.aload_n 0, 1) := by decide +kernel
theorem d_Model_goesOn_103 : decode prog_9_method_25_code 103 = .ok (.getfield 44, 3) := by decide +kernel
theorem d_Model_goesOn_106 : decode prog_9_method_25_code 106 = .ok (.iload_n 1, 1) := by decide +kernel
theorem d_Model_goesOn_107 : decode prog_9_method_25_code 107 = .ok (.iaload, 1) := by decide +kernel
theorem d_Model_goesOn_108 : decode prog_9_method_25_code 108 = .ok (.aload_n 0, 1) := by decide +kernel
theorem d_Model_goesOn_109 : decode prog_9_method_25_code 109 = .ok (.getfield 23, 3) := by decide +kernel
theorem d_Model_goesOn_112 : decode prog_9_method_25_code 112 = .ok (.iload_n 3, 1) := by decide +kernel
theorem d_Model_goesOn_113 : decode prog_9_method_25_code 113 = .ok (.iaload, 1) := by decide +kernel
theorem d_Model_goesOn_114 : decode prog_9_method_25_code 114 = .ok (.iload 4, 2) := by decide +kernel
theorem d_Model_goesOn_116 : decode prog_9_method_25_code 116 = .ok (.iadd, 1) := by decide +kernel
theorem d_Model_goesOn_117 : decode prog_9_method_25_code 117 = .ok (.if_icmp .ge 6, 3) := by decide +kernel
theorem d_Model_goesOn_120 : decode prog_9_method_25_code 120 = .ok (.bipush 9, 2) := by decide +kernel
theorem d_Model_goesOn_122 : decode prog_9_method_25_code 122 = .ok (.ireturn, 1) := by decide +kernel
theorem d_Model_goesOn_123 : decode prog_9_method_25_code 123 = .ok (.aload_n 0, 1) := by decide +kernel
theorem d_Model_goesOn_124 : decode prog_9_method_25_code 124 = .ok (.getfield 32, 3) := by decide +kernel
theorem d_Model_goesOn_127 : decode prog_9_method_25_code 127 = .ok (.iload_n 1, 1) := by decide +kernel
theorem d_Model_goesOn_128 : decode prog_9_method_25_code 128 = .ok (.aload_n 0, 1) := by decide +kernel
theorem d_Model_goesOn_129 : decode prog_9_method_25_code 129 = .ok (.getfield 20, 3) := by decide +kernel
theorem d_Model_goesOn_132 : decode prog_9_method_25_code 132 = .ok (.iload_n 3, 1) := by decide +kernel
theorem d_Model_goesOn_133 : decode prog_9_method_25_code 133 = .ok (.iaload, 1) := by decide +kernel
theorem d_Model_goesOn_134 : decode prog_9_method_25_code 134 = .ok (.iastore, 1) := by decide +kernel
theorem d_Model_goesOn_135 : decode prog_9_method_25_code 135 = .ok (.aload_n 0, 1) := by decide +kernel
theorem d_Model_goesOn_136 : decode prog_9_method_25_code 136 = .ok (.getfield 35, 3) := by decide +kernel
theorem d_Model_goesOn_139 : decode prog_9_method_25_code 139 = .ok (.iload_n 1, 1) := by decide +kernel
theorem d_Model_goesOn_140 : decode prog_9_method_25_code 140 = .ok (.iload_n 3, 1) := by decide +kernel
theorem d_Model_goesOn_141 : decode prog_9_method_25_code 141 = .ok (.iastore, 1) := by decide +kernel
theorem d_Model_goesOn_142 : decode prog_9_method_25_code 142 = .ok (.aload_n 0, 1) := by decide +kernel
theorem d_Model_goesOn_143 : decode prog_9_method_25_code 143 = .ok (.getfield 38, 3) := by decide +kernel
theorem d_Model_goesOn_146 : decode prog_9_method_25_code 146 = .ok (.iload_n 1, 1) := by decide +kernel
theorem d_Model_goesOn_147 : decode prog_9_method_25_code 147 = .ok (.aload_n 0, 1) := by decide +kernel
theorem d_Model_goesOn_148 : decode prog_9_method_25_code 148 = .ok (.getfield 136, 3) := by decide +kernel
theorem d_Model_goesOn_151 : decode prog_9_method_25_code 151 = .ok (.aload_n 0, 1) := by decide +kernel
theorem d_Model_goesOn_152 : decode prog_9_method_25_code 152 = .ok (.getfield 23, 3) := by decide +kernel
theorem d_Model_goesOn_155 : decode prog_9_method_25_code 155 = .ok (.iload_n 3, 1) := by decide +kernel
theorem d_Model_goesOn_156 : decode prog_9_method_25_code 156 = .ok (.iaload, 1) := by decide +kernel
theorem d_Model_goesOn_157 : decode prog_9_method_25_code 157 = .ok (.iadd, 1) := by decide +kernel
theorem d_Model_goesOn_158 : decode prog_9_method_25_code 158 = .ok (.iastore, 1) := by decide +kernel
theorem d_Model_goesOn_159 : decode prog_9_method_25_code 159 = .ok (.aload_n 0, 1) := by decide +kernel
theorem d_Model_goesOn_160 : decode prog_9_method_25_code 160 = .ok (.getfield 44, 3) := by decide +kernel
theorem d_Model_goesOn_163 : decode prog_9_method_25_code 163 = .ok (.iload_n 1, 1) := by decide +kernel
theorem d_Model_goesOn_164 : decode prog_9_method_25_code 164 = .ok (.dup2, 1) := by decide +kernel
theorem d_Model_goesOn_165 : decode prog_9_method_25_code 165 = .ok (.iaload, 1) := by decide +kernel
theorem d_Model_goesOn_166 : decode prog_9_method_25_code 166 = .ok (.aload_n 0, 1) := by decide +kernel
theorem d_Model_goesOn_167 : decode prog_9_method_25_code 167 = .ok (.getfield 23, 3) := by decide +kernel
theorem d_Model_goesOn_170 : decode prog_9_method_25_code 170 = .ok (.iload_n 3, 1) := by decide +kernel
theorem d_Model_goesOn_171 : decode prog_9_method_25_code 171 = .ok (.iaload, 1) := by decide +kernel
theorem d_Model_goesOn_172 : decode prog_9_method_25_code 172 = .ok (.isub, 1) := by decide +kernel
theorem d_Model_goesOn_173 : decode prog_9_method_25_code 173 = .ok (.iastore, 1) := by decide +kernel
theorem d_Model_goesOn_174 : decode prog_9_method_25_code 174 = .ok (.aload_n 0, 1) := by decide +kernel
theorem d_Model_goesOn_175 : decode prog_9_method_25_code 175 = .ok (.getfield 50, 3) := by decide +kernel
theorem d_Model_goesOn_178 : decode prog_9_method_25_code 178 = .ok (.iload_n 1, 1) := by decide +kernel
theorem d_Model_goesOn_179 : decode prog_9_method_25_code 179 = .ok (.dup2, 1) := by decide +kernel
theorem d_Model_goesOn_180 : decode prog_9_method_25_code 180 = .ok (.iaload, 1) := by decide +kernel
theorem d_Model_goesOn_181 : decode prog_9_method_25_code 181 = .ok (.aload_n 0, 1) := by decide +kernel
theorem d_Model_goesOn_182 : decode prog_9_method_25_code 182 = .ok (.getfield 59, 3) := by decide +kernel
theorem d_Model_goesOn_185 : decode prog_9_method_25_code 185 = .ok (.aload_n 0, 1) := by decide +kernel
theorem d_Model_goesOn_186 : decode prog_9_method_25_code 186 = .ok (.getfield 41, 3) := by decide +kernel
theorem d_Model_goesOn_189 : decode prog_9_method_25_code 189 = .ok (.iload_n 1, 1) := by decide +kernel
theorem d_Model_goesOn_190 : decode prog_9_method_25_code 190 = .ok (.iaload, 1) := by decide +kernel
theorem d_Model_goesOn_191 : decode prog_9_method_25_code 191 = .ok (.iaload, 1) := by decide +kernel
theorem d_Model_goesOn_192 : decode prog_9_method_25_code 192 = .ok (.iconst 1, 1) := by decide +kernel
theorem d_Model_goesOn_193 : decode prog_9_method_25_code 193 = .ok (.if_icmp .ne 12, 3) := by decide +kernel
theorem d_Model_goesOn_196 : decode prog_9_method_25_code 196 = .ok (.aload_n 0, 1) := by decide +kernel
theorem d_Model_goesOn_197 : decode prog_9_method_25_code 197 = .ok (.getfield 23, 3) := by decide +kernel
theorem d_Model_goesOn_200 : decode prog_9_method_25_code 200 = .ok (.iload_n 3, 1) := by decide +kernel
theorem d_Model_goesOn_201 : decode prog_9_method_25_code 201 = .ok (.iaload, 1) := by decide +kernel
theorem d_Model_goesOn_202 : decode prog_9_method_25_code 202 = .ok (.goto 4, 3) := by decide +kernel
theorem d_Model_goesOn_205 : decode prog_9_method_25_code 205 = .ok (.iconst 0, 1) := by decide +kernel
theorem d_Model_goesOn_206 : decode prog_9_method_25_code 206 = .ok (.iadd, 1) := by decide +kernel
theorem d_Model_goesOn_207 : decode prog_9_method_25_code 207 = .ok (.iastore, 1) := by decide +kernel
theorem d_Model_goesOn_208 : decode prog_9_method_25_code 208 = .ok (.bipush 10, 2) := by decide +kernel
theorem d_Model_goesOn_210 : decode prog_9_method_25_code 210 = .ok (.ireturn, 1) := by decide +kernel
theorem d_Model_step_0 : decode prog_9_method_26_code 0 = .ok (.aload_n 0, 1) := by decide +kernel
theorem d_Model_step_1 : decode prog_9_method_26_code 1 = .ok (.iload_n 1, 1) := by decide +kernel
theorem d_Model_step_2 : decode prog_9_method_26_code 2 = .ok (.invokevirtual 139, 3) := by decide +kernel
theorem d_Model_step_5 : decode prog_9_method_26_code 5 = .ok (.ifCond .ne 9, 3) := by decide +kernel
theorem d_Model_step_8 : decode prog_9_method_26_code 8 = .ok (.aload_n 0, 1) := by decide +kernel
theorem d_Model_step_9 : decode prog_9_method_26_code 9 = .ok (.iconst 1, 1) := by decide +kernel
theorem d_Model_step_10 : decode prog_9_method_26_code 10 = .ok (.invokevirtual 97, 3) := by decide +kernel
theorem d_Model_step_13 : decode prog_9_method_26_code 13 = .ok (.ireturn, 1) := by decide +kernel
theorem d_Model_step_14 : decode prog_9_method_26_code 14 = .ok (.aload_n 0, 1) := by decide +kernel
theorem d_Model_step_15 : decode prog_9_method_26_code 15 = .ok (.iconst 0, 1) := by decide +kernel
theorem d_Model_step_16 : decode prog_9_method_26_code 16 = .ok (.putfield 75, 3) := by decide +kernel
theorem d_Model_step_19 : decode prog_9_method_26_code 19 = .ok (.aload_n 0, 1) := by decide +kernel
theorem d_Model_step_20 : decode prog_9_method_26_code 20 = .ok (.getfield 35, 3) := by decide +kernel
theorem d_Model_step_23 : decode prog_9_method_26_code 23 = .ok (.iload_n 1, 1) := by decide +kernel
theorem d_Model_step_24 : decode prog_9_method_26_code 24 = .ok (.iaload, 1) := by decide +kernel
theorem d_Model_step_25 : decode prog_9_method_26_code 25 = .ok (.iconst (-1), 1) := by decide +kernel
theorem d_Model_step_26 : decode prog_9_method_26_code 26 = .ok (.if_icmp .eq 5, 3) := by decide +kernel
theorem d_Model_step_29 : decode prog_9_method_26_code 29 = .ok (.iconst 1, 1) := by decide +kernel
theorem d_Model_step_30 : decode prog_9_method_26_code 30 = .ok (.ireturn, 1) := by decide +kernel
theorem d_Model_step_31 : decode prog_9_method_26_code 31 = .ok (.aload_n 0, 1) := by decide +kernel
theorem d_Model_step_32 : decode prog_9_method_26_code 32 = .ok (.getfield 41, 3) := by decide +kernel
theorem d_Model_step_35 : decode prog_9_method_26_code 35 = .ok (.iload_n 1, 1) := by decide +kernel
theorem d_Model_step_36 : decode prog_9_method_26_code 36 = .ok (.iaload, 1) := by decide +kernel
theorem d_Model_step_37 : decode prog_9_method_26_code 37 = .ok (.istore_n 2, 1) := by decide +kernel
theorem d_Model_step_38 : decode prog_9_method_26_code 38 = .ok (.iload_n 2, 1) := by decide +kernel
theorem d_Model_step_39 : decode prog_9_method_26_code 39 = .ok (.iconst (-1), 1) := by decide +kernel
theorem d_Model_step_40 : decode prog_9_method_26_code 40 = .ok (.if_icmp .ne 5, 3) := by decide +kernel
theorem d_Model_step_43 : decode prog_9_method_26_code 43 = .ok (.iconst 2, 1) := by decide +kernel
theorem d_Model_step_44 : decode prog_9_method_26_code 44 = .ok (.ireturn, 1) := by decide +kernel
theorem d_Model_step_45 : decode prog_9_method_26_code 45 = .ok (.aload_n 0, 1) := by decide +kernel
theorem d_Model_step_46 : decode prog_9_method_26_code 46 = .ok (.getfield 59, 3) := by decide +kernel
theorem d_Model_step_49 : decode prog_9_method_26_code 49 = .ok (.iload_n 2, 1) := by decide +kernel
theorem d_Model_step_50 : decode prog_9_method_26_code 50 = .ok (.iaload, 1) := by decide +kernel
theorem d_Model_step_51 : decode prog_9_method_26_code 51 = .ok (.iconst 1, 1) := by decide +kernel
theorem d_Model_step_52 : decode prog_9_method_26_code 52 = .ok (.if_icmp .ne 27, 3) := by decide +kernel
theorem d_Model_step_55 : decode prog_9_method_26_code 55 = .ok (.aload_n 0, 1) := by decide +kernel
theorem d_Model_step_56 : decode prog_9_method_26_code 56 = .ok (.getfield 32, 3) := by decide +kernel
theorem d_Model_step_59 : decode prog_9_method_26_code 59 = .ok (.iload_n 1, 1) := by decide +kernel
theorem d_Model_step_60 : decode prog_9_method_26_code 60 = .ok (.iaload, 1) := by decide +kernel
theorem d_Model_step_61 : decode prog_9_method_26_code 61 = .ok (.aload_n 0, 1) := by decide +kernel
theorem d_Model_step_62 : decode prog_9_method_26_code 62 = .ok (.getfield 53, 3) := by decide +kernel
theorem d_Model_step_65 : decode prog_9_method_26_code 65 = .ok (.iload_n 2, 1) := by decide +kernel
theorem d_Model_step_66 : decode prog_9_method_26_code 66 = .ok (.iaload, 1) := by decide +kernel
theorem d_Model_step_67 : decode prog_9_method_26_code 67 = .ok (.if_icmp .ne 12, 3) := by decide +kernel
theorem d_Model_step_70 : decode prog_9_method_26_code 70 = .ok (.aload_n 0, 1) := by decide +kernel
theorem d_Model_step_71 : decode prog_9_method_26_code 71 = .ok (.getfield 59, 3) := by decide +kernel
theorem d_Model_step_74 : decode prog_9_method_26_code 74 = .ok (.iload_n 2, 1) := by decide +kernel
theorem d_Model_step_75 : decode prog_9_method_26_code 75 = .ok (.iconst 2, 1) := by decide +kernel
theorem d_Model_step_76 : decode prog_9_method_26_code 76 = .ok (.iastore, 1) := by decide +kernel
theorem d_Model_step_77 : decode prog_9_method_26_code 77 = .ok (.iconst 3, 1) := by decide +kernel
theorem d_Model_step_78 : decode prog_9_method_26_code 78 = .ok (.ireturn, 1) := by decide +kernel
theorem d_Model_step_79 : decode prog_9_method_26_code 79 = .ok (.aload_n 0, 1) := by decide +kernel
theorem d_Model_step_80 : decode prog_9_method_26_code 80 = .ok (.getfield 59, 3) := by decide +kernel
theorem d_Model_step_83 : decode prog_9_method_26_code 83 = .ok (.iload_n 2, 1) := by decide +kernel
theorem d_Model_step_84 : decode prog_9_method_26_code 84 = .ok (.iaload, 1) := by decide +kernel
theorem d_Model_step_85 : decode prog_9_method_26_code 85 = .ok (.iconst 2, 1) := by decide +kernel
theorem d_Model_step_86 : decode prog_9_method_26_code 86 = .ok (.if_icmp .ne 44, 3) := by decide +kernel
theorem d_Model_step_89 : decode prog_9_method_26_code 89 = .ok (.aload_n 0, 1) := by decide +kernel
theorem d_Model_step_90 : decode prog_9_method_26_code 90 = .ok (.getfield 32, 3) := by decide +kernel
theorem d_Model_step_93 : decode prog_9_method_26_code 93 = .ok (.iload_n 1, 1) := by decide +kernel
theorem d_Model_step_94 : decode prog_9_method_26_code 94 = .ok (.iaload, 1) := by decide +kernel
theorem d_Model_step_95 : decode prog_9_method_26_code 95 = .ok (.aload_n 0, 1) := by decide +kernel
theorem d_Model_step_96 : decode prog_9_method_26_code 96 = .ok (.getfield 56, 3) := by decide +kernel
theorem d_Model_step_99 : decode prog_9_method_26_code 99 = .ok (.iload_n 2, 1) := by decide +kernel
theorem d_Model_step_100 : decode prog_9_method_26_code 100 = .ok (.iaload, 1) := by decide +kernel
theorem d_Model_step_101 : decode prog_9_method_26_code 101 = .ok (.if_icmp .ne 29, 3) := by decide +kernel
theorem d_Model_step_104 : decode prog_9_method_26_code 104 = .ok (.aload_n 0, 1) := by decide +kernel
theorem d_Model_step_105 : decode prog_9_method_26_code 105 = .ok (.getfield 59, 3) := by decide +kernel
theorem d_Model_step_108 : decode prog_9_method_26_code 108 = .ok (.iload_n 2, 1) := by decide +kernel
theorem d_Model_step_109 : decode prog_9_method_26_code 109 = .ok (.iconst 3, 1) := by decide +kernel
theorem d_Model_step_110 : decode prog_9_method_26_code 110 = .ok (.iastore, 1) := by decide +kernel
theorem d_Model_step_111 : decode prog_9_method_26_code 111 = .ok (.aload_n 0, 1) := by decide +kernel
theorem d_Model_step_112 : decode prog_9_method_26_code 112 = .ok (.getfield 41, 3) := by decide +kernel
theorem d_Model_step_115 : decode prog_9_method_26_code 115 = .ok (.iload_n 1, 1) := by decide +kernel
theorem d_Model_step_116 : decode prog_9_method_26_code 116 = .ok (.iconst (-1), 1) := by decide +kernel
theorem d_Model_step_117 : decode prog_9_method_26_code 117 = .ok (.iastore, 1) := by decide +kernel
theorem d_Model_step_118 : decode prog_9_method_26_code 118 = .ok (.aload_n 0, 1) := by decide +kernel
theorem d_Model_step_119 : decode prog_9_method_26_code 119 = .ok (.getfield 47, 3) := by decide +kernel
theorem d_Model_step_122 : decode prog_9_method_26_code 122 = .ok (.iload_n 1, 1) := by decide +kernel
theorem d_Model_step_123 : decode prog_9_method_26_code 123 = .ok (.dup2, 1) := by decide +kernel
theorem d_Model_step_124 : decode prog_9_method_26_code 124 = .ok (.iaload, 1) := by decide +kernel
theorem d_Model_step_125 : decode prog_9_method_26_code 125 = .ok (.iconst 1, 1) := by decide +kernel
theorem d_Model_step_126 : decode prog_9_method_26_code 126 = .ok (.iadd, 1) := by decide +kernel
theorem d_Model_step_127 : decode prog_9_method_26_code 127 = .ok (.iastore, 1) := by decide +kernel
theorem d_Model_step_128 : decode prog_9_method_26_code 128 = .ok (.iconst 4, 1) := by decide +kernel
theorem d_Model_step_129 : decode prog_9_method_26_code 129 = .ok (.ireturn, 1) := by decide +kernel
theorem d_Model_step_130 : decode prog_9_method_26_code 130 = .ok (.aload_n 0, 1) := by decide +kernel
theorem d_Model_step_131 : decode prog_9_method_26_code 131 = .ok (.iload_n 1, 1) := by decide +kernel
theorem d_Model_step_132 : decode prog_9_method_26_code 132 = .ok (.aload_n 0, 1) := by decide +kernel
theorem d_Model_step_133 : decode prog_9_method_26_code 133 = .ok (.getfield 59, 3) := by decide +kernel
theorem d_Model_step_136 : decode prog_9_method_26_code 136 = .ok (.iload_n 2, 1) := by decide +kernel
theorem d_Model_step_137 : decode prog_9_method_26_code 137 = .ok (.iaload, 1) := by decide +kernel
theorem d_Model_step_138 : decode prog_9_method_26_code 138 = .ok (.iconst 1, 1) := by decide +kernel
theorem d_Model_step_139 : decode prog_9_method_26_code 139 = .ok (.if_icmp .ne 12, 3) := by decide +kernel
theorem d_Model_step_142 : decode prog_9_method_26_code 142 = .ok (.aload_n 0, 1) := by decide +kernel
theorem d_Model_step_143 : decode prog_9_method_26_code 143 = .ok (.getfield 53, 3) := by decide +kernel
theorem d_Model_step_146 : decode prog_9_method_26_code 146 = .ok (.iload_n 2, 1) := by decide +kernel
theorem d_Model_step_147 : decode prog_9_method_26_code 147 = .ok (.iaload, 1) := by decide +kernel
theorem d_Model_step_148 : decode prog_9_method_26_code 148 = .ok (.goto 9, 3) := by decide +kernel
theorem d_Model_step_151 : decode prog_9_method_26_code 151 = .ok (.aload_n 0, 1) := by decide +kernel
theorem d_Model_step_152 : decode prog_9_method_26_code 152 = .ok (.getfield 56, 3) := by decide +kernel
theorem d_Model_step_155 : decode prog_9_method_26_code 155 = .ok (.iload_n 2, 1) := by decide +kernel
theorem d_Model_step_156 : decode prog_9_method_26_code 156 = .ok (.iaload, 1) := by decide +kernel
theorem d_Model_step_157 : decode prog_9_method_26_code 157 = .ok (.invokevirtual 142, 3) := by decide +kernel
theorem d_Model_step_160 : decode prog_9_method_26_code 160 = .ok (.ireturn, 1) := by decide +kernel
theorem d_Model_tick_0 : decode prog_9_method_27_code 0 = .ok (.iload_n 1, 1) := by decide +kernel
theorem d_Model_tick_1 : decode prog_9_method_27_code 1 = .ok (.aload_n 0, 1) := by decide +kernel
theorem d_Model_tick_2 : decode prog_9_method_27_code 2 = .ok (.getfield 136, 3) := by decide +kernel
theorem d_Model_tick_5 : decode prog_9_method_27_code 5 = .ok (.ldc 145, 2) := by decide +kernel
theorem d_Model_tick_7 : decode prog_9_method_27_code 7 = .ok (.invokestatic 93, 3) := by decide +kernel
theorem d_Model_tick_10 : decode prog_9_method_27_code 10 = .ok (.ifCond .ne 9, 3) := by decide +kernel
theorem d_Model_tick_13 : decode prog_9_method_27_code 13 = .ok (.aload_n 0, 1) := by decide +kernel
theorem d_Model_tick_14 : decode prog_9_method_27_code 14 = .ok (.iconst 1, 1) := by decide +kernel
theorem d_Model_tick_15 : decode prog_9_method_27_code 15 = .ok (.invokevirtual 97, 3) := by decide +kernel
theorem d_Model_tick_18 : decode prog_9_method_27_code 18 = .ok (.ireturn, 1) := by decide +kernel
theorem d_Model_tick_19 : decode prog_9_method_27_code 19 = .ok (.aload_n 0, 1) := by decide +kernel
theorem d_Model_tick_20 : decode prog_9_method_27_code 20 = .ok (.iconst 0, 1) := by decide +kernel
theorem d_Model_tick_21 : decode prog_9_method_27_code 21 = .ok (.putfield 75, 3) := by decide +kernel
theorem d_Model_tick_24 : decode prog_9_method_27_code 24 = .ok (.aload_n 0, 1) := by decide +kernel
theorem d_Model_tick_25 : decode prog_9_method_27_code 25 = .ok (.iload_n 1, 1) := by decide +kernel
theorem d_Model_tick_26 : decode prog_9_method_27_code 26 = .ok (.putfield 136, 3) := by decide +kernel
theorem d_Model_tick_29 : decode prog_9_method_27_code 29 = .ok (.iconst 0, 1) := by decide +kernel
theorem d_Model_tick_30 : decode prog_9_method_27_code 30 = .ok (.istore_n 2, 1) := by decide +kernel
theorem d_Model_tick_31 : decode prog_9_method_27_code 31 = .ok (.iconst 0, 1) := by decide +kernel
theorem d_Model_tick_32 : decode prog_9_method_27_code 32 = .ok (.istore_n 3, 1) := by decide +kernel
theorem d_Model_tick_33 : decode prog_9_method_27_code 33 = .ok (.iload_n 3, 1) := by decide +kernel
theorem d_Model_tick_34 : decode prog_9_method_27_code 34 = .ok (.aload_n 0, 1) := by decide +kernel
theorem d_Model_tick_35 : decode prog_9_method_27_code 35 = .ok (.getfield 78, 3) := by decide +kernel
theorem d_Model_tick_38 : decode prog_9_method_27_code 38 = .ok (.if_icmp .ge 42, 3) := by decide +kernel
theorem d_Model_tick_41 : decode prog_9_method_27_code 41 = .ok (.aload_n 0, 1) := by decide +kernel
theorem d_Model_tick_42 : decode prog_9_method_27_code 42 = .ok (.getfield 35, 3) := by decide +kernel
theorem d_Model_tick_45 : decode prog_9_method_27_code 45 = .ok (.iload_n 3, 1) := by decide +kernel
theorem d_Model_tick_46 : decode prog_9_method_27_code 46 = .ok (.iaload, 1) := by decide +kernel
theorem d_Model_tick_47 : decode prog_9_method_27_code 47 = .ok (.iconst (-1), 1) := by decide +kernel
theorem d_Model_tick_48 : decode prog_9_method_27_code 48 = .ok (.if_icmp .eq 26, 3) := by decide +kernel
theorem d_Model_tick_51 : decode prog_9_method_27_code 51 = .ok (.aload_n 0, 1) := by decide +kernel
theorem d_Model_tick_52 : decode prog_9_method_27_code 52 = .ok (.getfield 38, 3) := by decide +kernel
theorem d_Model_tick_55 : decode prog_9_method_27_code 55 = .ok (.iload_n 3, 1) := by decide +kernel
theorem d_Model_tick_56 : decode prog_9_method_27_code 56 = .ok (.iaload, 1) := by decide +kernel
theorem d_Model_tick_57 : decode prog_9_method_27_code 57 = .ok (.aload_n 0, 1) := by decide +kernel
theorem d_Model_tick_58 : decode prog_9_method_27_code 58 = .ok (.getfield 136, 3) := by decide +kernel
theorem d_Model_tick_61 : decode prog_9_method_27_code 61 = .ok (.if_icmp .gt 13, 3) := by decide +kernel
theorem d_Model_tick_64 : decode prog_9_method_27_code 64 = .ok (.aload_n 0, 1) := by decide +kernel
theorem d_Model_tick_65 : decode prog_9_method_27_code 65 = .ok (.getfield 35, 3) := by decide +kernel
theorem d_Model_tick_68 : decode prog_9_method_27_code 68 = .ok (.iload_n 3, 1) := by decide +kernel
theorem d_Model_tick_69 : decode prog_9_method_27_code 69 = .ok (.iconst (-1), 1) := by decide +kernel
theorem d_Model_tick_70 : decode prog_9_method_27_code 70 = .ok (.iastore, 1) := by decide +kernel
theorem d_Model_tick_71 : decode prog_9_method_27_code 71 = .ok (.iinc 2 1, 3) := by decide +kernel
theorem d_Model_tick_74 : decode prog_9_method_27_code 74 = .ok (.iinc 3 1, 3) := by decide +kernel
theorem d_Model_tick_77 : decode prog_9_method_27_code 77 = .ok (.goto (-44), 3) := by decide +kernel
theorem d_Model_tick_80 : decode prog_9_method_27_code 80 = .ok (.iload_n 2, 1) := by decide +kernel
theorem d_Model_tick_81 : decode prog_9_method_27_code 81 = .ok (.ireturn, 1) := by decide +kernel
theorem d_Model_close_0 : decode prog_9_method_28_code 0 = .ok (.aload_n 0, 1) := by decide +kernel
theorem d_Model_close_1 : decode prog_9_method_28_code 1 = .ok (.iconst 0, 1) := by decide +kernel
theorem d_Model_close_2 : decode prog_9_method_28_code 2 = .ok (.putfield 75, 3) := by decide +kernel
theorem d_Model_close_5 : decode prog_9_method_28_code 5 = .ok (.iload_n 1, 1) := by decide +kernel
theorem d_Model_close_6 : decode prog_9_method_28_code 6 = .ok (.ifCond .lt 21, 3) := by decide +kernel
theorem d_Model_close_9 : decode prog_9_method_28_code 9 = .ok (.iload_n 1, 1) := by decide +kernel
theorem d_Model_close_10 : decode prog_9_method_28_code 10 = .ok (.aload_n 0, 1) := by decide +kernel
theorem d_Model_close_11 : decode prog_9_method_28_code 11 = .ok (.getfield 82, 3) := by decide +kernel
theorem d_Model_close_14 : decode prog_9_method_28_code 14 = .ok (.if_icmp .ge 13, 3) := by decide +kernel
theorem d_Model_close_17 : decode prog_9_method_28_code 17 = .ok (.aload_n 0, 1) := by decide +kernel
theorem d_Model_close_18 : decode prog_9_method_28_code 18 = .ok (.getfield 26, 3) := by decide +kernel
theorem d_Model_close_21 : decode prog_9_method_28_code 21 = .ok (.iload_n 1, 1) := by decide +kernel
theorem d_Model_close_22 : decode prog_9_method_28_code 22 = .ok (.baload, 1) := by decide +kernel
theorem d_Model_close_23 : decode prog_9_method_28_code 23 = .ok (.iload_n 2, 1) := by decide +kernel
theorem d_Model_close_24 : decode prog_9_method_28_code 24 = .ok (.if_icmp .ne 5, 3) := by decide +kernel
theorem d_Model_close_27 : decode prog_9_method_28_code 27 = .ok (.iconst 0, 1) := by decide +kernel
theorem d_Model_close_28 : decode prog_9_method_28_code 28 = .ok (.ireturn, 1) := by decide +kernel
theorem d_Model_close_29 : decode prog_9_method_28_code 29 = .ok (.aload_n 0, 1) := by decide +kernel
theorem d_Model_close_30 : decode prog_9_method_28_code 30 = .ok (.getfield 26, 3) := by decide +kernel
theorem d_Model_close_33 : decode prog_9_method_28_code 33 = .ok (.iload_n 1, 1) := by decide +kernel
theorem d_Model_close_34 : decode prog_9_method_28_code 34 = .ok (.iload_n 2, 1) := by decide +kernel
theorem d_Model_close_35 : decode prog_9_method_28_code 35 = .ok (.bastore, 1) := by decide +kernel
theorem d_Model_close_36 : decode prog_9_method_28_code 36 = .ok (.iconst 1, 1) := by decide +kernel
theorem d_Model_close_37 : decode prog_9_method_28_code 37 = .ok (.ireturn, 1) := by decide +kernel
theorem d_Model_charge_0 : decode prog_9_method_29_code 0 = .ok (.aload_n 0, 1) := by decide +kernel
theorem d_Model_charge_1 : decode prog_9_method_29_code 1 = .ok (.aload_n 0, 1) := by decide +kernel
theorem d_Model_charge_2 : decode prog_9_method_29_code 2 = .ok (.iload_n 1, 1) := by decide +kernel
theorem d_Model_charge_3 : decode prog_9_method_29_code 3 = .ok (.invokevirtual 139, 3) := by decide +kernel
theorem d_Model_charge_6 : decode prog_9_method_29_code 6 = .ok (.ifCond .eq 7, 3) := by decide +kernel
theorem d_Model_charge_9 : decode prog_9_method_29_code 9 = .ok (.iconst 0, 1) := by decide +kernel
theorem d_Model_charge_10 : decode prog_9_method_29_code 10 = .ok (.goto 4, 3) := by decide +kernel
theorem d_Model_charge_13 : decode prog_9_method_29_code 13 = .ok (.iconst 1, 1) := by decide +kernel
theorem d_Model_charge_14 : decode prog_9_method_29_code 14 = .ok (.putfield 75, 3) := by decide +kernel
theorem d_Model_charge_17 : decode prog_9_method_29_code 17 = .ok (.aload_n 0, 1) := by decide +kernel
theorem d_Model_charge_18 : decode prog_9_method_29_code 18 = .ok (.getfield 75, 3) := by decide +kernel
theorem d_Model_charge_21 : decode prog_9_method_29_code 21 = .ok (.ifCond .gt 27, 3) := by decide +kernel
theorem d_Model_charge_24 : decode prog_9_method_29_code 24 = .ok (.aload_n 0, 1) := by decide +kernel
theorem d_Model_charge_25 : decode prog_9_method_29_code 25 = .ok (.getfield 35, 3) := by decide +kernel
theorem d_Model_charge_28 : decode prog_9_method_29_code 28 = .ok (.iload_n 1, 1) := by decide +kernel
theorem d_Model_charge_29 : decode prog_9_method_29_code 29 = .ok (.iaload, 1) := by decide +kernel
theorem d_Model_charge_30 : decode prog_9_method_29_code 30 = .ok (.iconst (-1), 1) := by decide +kernel
theorem d_Model_charge_31 : decode prog_9_method_29_code 31 = .ok (.if_icmp .ne 17, 3) := by decide +kernel
theorem d_Model_charge_34 : decode prog_9_method_29_code 34 = .ok (.aload_n 0, 1) := by decide +kernel
theorem d_Model_charge_35 : decode prog_9_method_29_code 35 = .ok (.getfield 13, 3) := by decide +kernel
theorem d_Model_charge_38 : decode prog_9_method_29_code 38 = .ok (.aload_n 0, 1) := by decide +kernel
theorem d_Model_charge_39 : decode prog_9_method_29_code 39 = .ok (.getfield 32, 3) := by decide +kernel
theorem d_Model_charge_42 : decode prog_9_method_29_code 42 = .ok (.iload_n 1, 1) := by decide +kernel
theorem d_Model_charge_43 : decode prog_9_method_29_code 43 = .ok (.iaload, 1) := by decide +kernel
theorem d_Model_charge_44 : decode prog_9_method_29_code 44 = .ok (.baload, 1) := by decide +kernel
theorem d_Model_charge_45 : decode prog_9_method_29_code 45 = .ok (.ifCond .ne 5, 3) := by decide +kernel
theorem d_Model_charge_48 : decode prog_9_method_29_code 48 = .ok (.iconst 0, 1) := by decide +kernel
theorem d_Model_charge_49 : decode prog_9_method_29_code 49 = .ok (.ireturn, 1) := by decide +kernel
theorem d_Model_charge_50 : decode prog_9_method_29_code 50 = .ok (.aload_n 0, 1) := by decide +kernel
theorem d_Model_charge_51 : decode prog_9_method_29_code 51 = .ok (.getfield 44, 3) := by decide +kernel
theorem d_Model_charge_54 : decode prog_9_method_29_code 54 = .ok (.iload_n 1, 1) := by decide +kernel
theorem d_Model_charge_55 : decode prog_9_method_29_code 55 = .ok (.sipush 1000, 3) := by decide +kernel
theorem d_Model_charge_58 : decode prog_9_method_29_code 58 = .ok (.iastore, 1) := by decide +kernel
theorem d_Model_charge_59 : decode prog_9_method_29_code 59 = .ok (.iconst 1, 1) := by decide +kernel
theorem d_Model_charge_60 : decode prog_9_method_29_code 60 = .ok (.ireturn, 1) := by decide +kernel
theorem d_Model_look_0 : decode prog_9_method_30_code 0 = .ok (.aload_n 0, 1) := by decide +kernel
theorem d_Model_look_1 : decode prog_9_method_30_code 1 = .ok (.iload_n 1, 1) := by decide +kernel
theorem d_Model_look_2 : decode prog_9_method_30_code 2 = .ok (.invokevirtual 139, 3) := by decide +kernel
theorem d_Model_look_5 : decode prog_9_method_30_code 5 = .ok (.ifCond .eq 13, 3) := by decide +kernel
theorem d_Model_look_8 : decode prog_9_method_30_code 8 = .ok (.iload_n 2, 1) := by decide +kernel
theorem d_Model_look_9 : decode prog_9_method_30_code 9 = .ok (.iconst 0, 1) := by decide +kernel
theorem d_Model_look_10 : decode prog_9_method_30_code 10 = .ok (.bipush 6, 2) := by decide +kernel
theorem d_Model_look_12 : decode prog_9_method_30_code 12 = .ok (.invokestatic 93, 3) := by decide +kernel
theorem d_Model_look_15 : decode prog_9_method_30_code 15 = .ok (.ifCond .ne 9, 3) := by decide +kernel
theorem d_Model_look_18 : decode prog_9_method_30_code 18 = .ok (.aload_n 0, 1) := by decide +kernel
theorem d_Model_look_19 : decode prog_9_method_30_code 19 = .ok (.iconst 1, 1) := by decide +kernel
theorem d_Model_look_20 : decode prog_9_method_30_code 20 = .ok (.invokevirtual 97, 3) := by decide +kernel
theorem d_Model_look_23 : decode prog_9_method_30_code 23 = .ok (.ireturn, 1) := by decide +kernel
theorem d_Model_look_24 : decode prog_9_method_30_code 24 = .ok (.aload_n 0, 1) := by decide +kernel
theorem d_Model_look_25 : decode prog_9_method_30_code 25 = .ok (.iconst 0, 1) := by decide +kernel
theorem d_Model_look_26 : decode prog_9_method_30_code 26 = .ok (.putfield 75, 3) := by decide +kernel
theorem d_Model_look_29 : decode prog_9_method_30_code 29 = .ok (.iload_n 2, 1) := by decide +kernel
theorem d_Model_look_30 : decode prog_9_method_30_code 30 = .ok (.tableswitch 94 0 5 #[38, 45, 52, 73, 80, 87], 38) := by decide +kernel
theorem d_Model_look_68 : decode prog_9_method_30_code 68 = .ok (.aload_n 0, 1) := by decide +kernel
theorem d_Model_look_69 : decode prog_9_method_30_code 69 = .ok (.getfield 32, 3) := by decide +kernel
theorem d_Model_look_72 : decode prog_9_method_30_code 72 = .ok (.iload_n 1, 1) := by decide +kernel
theorem d_Model_look_73 : decode prog_9_method_30_code 73 = .ok (.iaload, 1) := by decide +kernel
theorem d_Model_look_74 : decode prog_9_method_30_code 74 = .ok (.ireturn, 1) := by decide +kernel
theorem d_Model_look_75 : decode prog_9_method_30_code 75 = .ok (.aload_n 0, 1) := by decide +kernel
theorem d_Model_look_76 : decode prog_9_method_30_code 76 = .ok (.getfield 35, 3) := by decide +kernel
theorem d_Model_look_79 : decode prog_9_method_30_code 79 = .ok (.iload_n 1, 1) := by decide +kernel
theorem d_Model_look_80 : decode prog_9_method_30_code 80 = .ok (.iaload, 1) := by decide +kernel
theorem d_Model_look_81 : decode prog_9_method_30_code 81 = .ok (.ireturn, 1) := by decide +kernel
theorem d_Model_look_82 : decode prog_9_method_30_code 82 = .ok (.aload_n 0, 1) := by decide +kernel
theorem d_Model_look_83 : decode prog_9_method_30_code 83 = .ok (.getfield 35, 3) := by decide +kernel
theorem d_Model_look_86 : decode prog_9_method_30_code 86 = .ok (.iload_n 1, 1) := by decide +kernel
theorem d_Model_look_87 : decode prog_9_method_30_code 87 = .ok (.iaload, 1) := by decide +kernel
theorem d_Model_look_88 : decode prog_9_method_30_code 88 = .ok (.iconst (-1), 1) := by decide +kernel
theorem d_Model_look_89 : decode prog_9_method_30_code 89 = .ok (.if_icmp .ne 7, 3) := by decide +kernel
theorem d_Model_look_92 : decode prog_9_method_30_code 92 = .ok (.iconst (-1), 1) := by decide +kernel
theorem d_Model_look_93 : decode prog_9_method_30_code 93 = .ok (.goto 9, 3) := by decide +kernel
theorem d_Model_look_96 : decode prog_9_method_30_code 96 = .ok (.aload_n 0, 1) := by decide +kernel
theorem d_Model_look_97 : decode prog_9_method_30_code 97 = .ok (.getfield 38, 3) := by decide +kernel
theorem d_Model_look_100 : decode prog_9_method_30_code 100 = .ok (.iload_n 1, 1) := by decide +kernel
theorem d_Model_look_101 : decode prog_9_method_30_code 101 = .ok (.iaload, 1) := by decide +kernel
theorem d_Model_look_102 : decode prog_9_method_30_code 102 = .ok (.ireturn, 1) := by decide +kernel
theorem d_Model_look_103 : decode prog_9_method_30_code 103 = .ok (.aload_n 0, 1) := by decide +kernel
theorem d_Model_look_104 : decode prog_9_method_30_code 104 = .ok (.getfield 41, 3) := by decide +kernel
theorem d_Model_look_107 : decode prog_9_method_30_code 107 = .ok (.iload_n 1, 1) := by decide +kernel
theorem d_Model_look_108 : decode prog_9_method_30_code 108 = .ok (.iaload, 1) := by decide +kernel
theorem d_Model_look_109 : decode prog_9_method_30_code 109 = .ok (.ireturn, 1) := by decide +kernel
theorem d_Model_look_110 : decode prog_9_method_30_code 110 = .ok (.aload_n 0, 1) := by decide +kernel
theorem d_Model_look_111 : decode prog_9_method_30_code 111 = .ok (.getfield 44, 3) := by decide +kernel
theorem d_Model_look_114 : decode prog_9_method_30_code 114 = .ok (.iload_n 1, 1) := by decide +kernel
theorem d_Model_look_115 : decode prog_9_method_30_code 115 = .ok (.iaload, 1) := by decide +kernel
theorem d_Model_look_116 : decode prog_9_method_30_code 116 = .ok (.ireturn, 1) := by decide +kernel
theorem d_Model_look_117 : decode prog_9_method_30_code 117 = .ok (.aload_n 0, 1) := by decide +kernel
theorem d_Model_look_118 : decode prog_9_method_30_code 118 = .ok (.getfield 47, 3) := by decide +kernel
theorem d_Model_look_121 : decode prog_9_method_30_code 121 = .ok (.iload_n 1, 1) := by decide +kernel
theorem d_Model_look_122 : decode prog_9_method_30_code 122 = .ok (.iaload, 1) := by decide +kernel
theorem d_Model_look_123 : decode prog_9_method_30_code 123 = .ok (.ireturn, 1) := by decide +kernel
theorem d_Model_look_124 : decode prog_9_method_30_code 124 = .ok (.aload_n 0, 1) := by decide +kernel
theorem d_Model_look_125 : decode prog_9_method_30_code 125 = .ok (.getfield 50, 3) := by decide +kernel
theorem d_Model_look_128 : decode prog_9_method_30_code 128 = .ok (.iload_n 1, 1) := by decide +kernel
theorem d_Model_look_129 : decode prog_9_method_30_code 129 = .ok (.iaload, 1) := by decide +kernel
theorem d_Model_look_130 : decode prog_9_method_30_code 130 = .ok (.ireturn, 1) := by decide +kernel
theorem d_Model_of_0 : decode prog_9_method_31_code 0 = .ok (.iload_n 1, 1) := by decide +kernel
theorem d_Model_of_1 : decode prog_9_method_31_code 1 = .ok (.ifCond .lt 20, 3) := by decide +kernel
theorem d_Model_of_4 : decode prog_9_method_31_code 4 = .ok (.iload_n 1, 1) := by decide +kernel
theorem d_Model_of_5 : decode prog_9_method_31_code 5 = .ok (.aload_n 0, 1) := by decide +kernel
theorem d_Model_of_6 : decode prog_9_method_31_code 6 = .ok (.getfield 114, 3) := by decide +kernel
theorem d_Model_of_9 : decode prog_9_method_31_code 9 = .ok (.if_icmp .ge 12, 3) := by decide +kernel
theorem d_Model_of_12 : decode prog_9_method_31_code 12 = .ok (.iload_n 2, 1) := by decide +kernel
theorem d_Model_of_13 : decode prog_9_method_31_code 13 = .ok (.iconst 0, 1) := by decide +kernel
theorem d_Model_of_14 : decode prog_9_method_31_code 14 = .ok (.iconst 3, 1) := by decide +kernel
theorem d_Model_of_15 : decode prog_9_method_31_code 15 = .ok (.invokestatic 93, 3) := by decide +kernel
theorem d_Model_of_18 : decode prog_9_method_31_code 18 = .ok (.ifCond .ne 9, 3) := by decide +kernel
theorem d_Model_of_21 : decode prog_9_method_31_code 21 = .ok (.aload_n 0, 1) := by decide +kernel
theorem d_Model_of_22 : decode prog_9_method_31_code 22 = .ok (.iconst 1, 1) := by decide +kernel
theorem d_Model_of_23 : decode prog_9_method_31_code 23 = .ok (.invokevirtual 97, 3) := by decide +kernel
theorem d_Model_of_26 : decode prog_9_method_31_code 26 = .ok (.ireturn, 1) := by decide +kernel
theorem d_Model_of_27 : decode prog_9_method_31_code 27 = .ok (.aload_n 0, 1) := by decide +kernel
theorem d_Model_of_28 : decode prog_9_method_31_code 28 = .ok (.iconst 0, 1) := by decide +kernel
theorem d_Model_of_29 : decode prog_9_method_31_code 29 = .ok (.putfield 75, 3) := by decide +kernel
theorem d_Model_of_32 : decode prog_9_method_31_code 32 = .ok (.iload_n 2, 1) := by decide +kernel
theorem d_Model_of_33 : decode prog_9_method_31_code 33 = .ok (.ifCond .ne 12, 3) := by decide +kernel
theorem d_Model_of_36 : decode prog_9_method_31_code 36 = .ok (.aload_n 0, 1) := by decide +kernel
theorem d_Model_of_37 : decode prog_9_method_31_code 37 = .ok (.getfield 53, 3) := by decide +kernel
theorem d_Model_of_40 : decode prog_9_method_31_code 40 = .ok (.iload_n 1, 1) := by decide +kernel
theorem d_Model_of_41 : decode prog_9_method_31_code 41 = .ok (.iaload, 1) := by decide +kernel
theorem d_Model_of_42 : decode prog_9_method_31_code 42 = .ok (.goto 37, 3) := by decide +kernel
theorem d_Model_of_45 : decode prog_9_method_31_code 45 = .ok (.iload_n 2, 1) := by decide +kernel
theorem d_Model_of_46 : decode prog_9_method_31_code 46 = .ok (.iconst 1, 1) := by decide +kernel
theorem d_Model_of_47 : decode prog_9_method_31_code 47 = .ok (.if_icmp .ne 12, 3) := by decide +kernel
theorem d_Model_of_50 : decode prog_9_method_31_code 50 = .ok (.aload_n 0, 1) := by decide +kernel
theorem d_Model_of_51 : decode prog_9_method_31_code 51 = .ok (.getfield 56, 3) := by decide +kernel
theorem d_Model_of_54 : decode prog_9_method_31_code 54 = .ok (.iload_n 1, 1) := by decide +kernel
theorem d_Model_of_55 : decode prog_9_method_31_code 55 = .ok (.iaload, 1) := by decide +kernel
theorem d_Model_of_56 : decode prog_9_method_31_code 56 = .ok (.goto 23, 3) := by decide +kernel
theorem d_Model_of_59 : decode prog_9_method_31_code 59 = .ok (.iload_n 2, 1) := by decide +kernel
theorem d_Model_of_60 : decode prog_9_method_31_code 60 = .ok (.iconst 2, 1) := by decide +kernel
theorem d_Model_of_61 : decode prog_9_method_31_code 61 = .ok (.if_icmp .ne 12, 3) := by decide +kernel
theorem d_Model_of_64 : decode prog_9_method_31_code 64 = .ok (.aload_n 0, 1) := by decide +kernel
theorem d_Model_of_65 : decode prog_9_method_31_code 65 = .ok (.getfield 59, 3) := by decide +kernel
theorem d_Model_of_68 : decode prog_9_method_31_code 68 = .ok (.iload_n 1, 1) := by decide +kernel
theorem d_Model_of_69 : decode prog_9_method_31_code 69 = .ok (.iaload, 1) := by decide +kernel
theorem d_Model_of_70 : decode prog_9_method_31_code 70 = .ok (.goto 9, 3) := by decide +kernel
theorem d_Model_of_73 : decode prog_9_method_31_code 73 = .ok (.aload_n 0, 1) := by decide +kernel
theorem d_Model_of_74 : decode prog_9_method_31_code 74 = .ok (.getfield 62, 3) := by decide +kernel
theorem d_Model_of_77 : decode prog_9_method_31_code 77 = .ok (.iload_n 1, 1) := by decide +kernel
theorem d_Model_of_78 : decode prog_9_method_31_code 78 = .ok (.iaload, 1) := by decide +kernel
theorem d_Model_of_79 : decode prog_9_method_31_code 79 = .ok (.ireturn, 1) := by decide +kernel
theorem d_Model_ofPoint_0 : decode prog_9_method_32_code 0 = .ok (.iload_n 1, 1) := by decide +kernel
theorem d_Model_ofPoint_1 : decode prog_9_method_32_code 1 = .ok (.bipush 10, 2) := by decide +kernel
theorem d_Model_ofPoint_3 : decode prog_9_method_32_code 3 = .ok (.irem, 1) := by decide +kernel
theorem d_Model_ofPoint_4 : decode prog_9_method_32_code 4 = .ok (.istore_n 2, 1) := by decide +kernel
theorem d_Model_ofPoint_5 : decode prog_9_method_32_code 5 = .ok (.aload_n 0, 1) := by decide +kernel
theorem d_Model_ofPoint_6 : decode prog_9_method_32_code 6 = .ok (.iload_n 2, 1) := by decide +kernel
theorem d_Model_ofPoint_7 : decode prog_9_method_32_code 7 = .ok (.invokevirtual 89, 3) := by decide +kernel
theorem d_Model_ofPoint_10 : decode prog_9_method_32_code 10 = .ok (.ifCond .ne 7, 3) := by decide +kernel
theorem d_Model_ofPoint_13 : decode prog_9_method_32_code 13 = .ok (.iconst (-1), 1) := by decide +kernel
theorem d_Model_ofPoint_14 : decode prog_9_method_32_code 14 = .ok (.goto 46, 3) := by decide +kernel
theorem d_Model_ofPoint_17 : decode prog_9_method_32_code 17 = .ok (.iload_n 1, 1) := by decide +kernel
theorem d_Model_ofPoint_18 : decode prog_9_method_32_code 18 = .ok (.bipush 30, 2) := by decide +kernel
theorem d_Model_ofPoint_20 : decode prog_9_method_32_code 20 = .ok (.if_icmp .ge 12, 3) := by decide +kernel
theorem d_Model_ofPoint_23 : decode prog_9_method_32_code 23 = .ok (.aload_n 0, 1) := by decide +kernel
theorem d_Model_ofPoint_24 : decode prog_9_method_32_code 24 = .ok (.getfield 7, 3) := by decide +kernel
theorem d_Model_ofPoint_27 : decode prog_9_method_32_code 27 = .ok (.iload_n 2, 1) := by decide +kernel
theorem d_Model_ofPoint_28 : decode prog_9_method_32_code 28 = .ok (.iaload, 1) := by decide +kernel
theorem d_Model_ofPoint_29 : decode prog_9_method_32_code 29 = .ok (.goto 31, 3) := by decide +kernel
theorem d_Model_ofPoint_32 : decode prog_9_method_32_code 32 = .ok (.iload_n 1, 1) := by decide +kernel
theorem d_Model_ofPoint_33 : decode prog_9_method_32_code 33 = .ok (.bipush 40, 2) := by decide +kernel
theorem d_Model_ofPoint_35 : decode prog_9_method_32_code 35 = .ok (.if_icmp .ge 11, 3) := by decide +kernel
theorem d_Model_ofPoint_38 : decode prog_9_method_32_code 38 = .ok (.aload_n 0, 1) := by decide +kernel
theorem d_Model_ofPoint_39 : decode prog_9_method_32_code 39 = .ok (.iload_n 2, 1) := by decide +kernel
theorem d_Model_ofPoint_40 : decode prog_9_method_32_code 40 = .ok (.invokevirtual 108, 3) := by decide +kernel
theorem d_Model_ofPoint_43 : decode prog_9_method_32_code 43 = .ok (.goto 17, 3) := by decide +kernel
theorem d_Model_ofPoint_46 : decode prog_9_method_32_code 46 = .ok (.aload_n 0, 1) := by decide +kernel
theorem d_Model_ofPoint_47 : decode prog_9_method_32_code 47 = .ok (.getfield 13, 3) := by decide +kernel
theorem d_Model_ofPoint_50 : decode prog_9_method_32_code 50 = .ok (.iload_n 2, 1) := by decide +kernel
theorem d_Model_ofPoint_51 : decode prog_9_method_32_code 51 = .ok (.baload, 1) := by decide +kernel
theorem d_Model_ofPoint_52 : decode prog_9_method_32_code 52 = .ok (.ifCond .eq 7, 3) := by decide +kernel
theorem d_Model_ofPoint_55 : decode prog_9_method_32_code 55 = .ok (.iconst 1, 1) := by decide +kernel
theorem d_Model_ofPoint_56 : decode prog_9_method_32_code 56 = .ok (.goto 4, 3) := by decide +kernel
theorem d_Model_ofPoint_59 : decode prog_9_method_32_code 59 = .ok (.iconst 0, 1) := by decide +kernel
theorem d_Model_ofPoint_60 : decode prog_9_method_32_code 60 = .ok (.ireturn, 1) := by decide +kernel
theorem d_Model_count_0 : decode prog_9_method_33_code 0 = .ok (.aload_n 0, 1) := by decide +kernel
theorem d_Model_count_1 : decode prog_9_method_33_code 1 = .ok (.iconst 0, 1) := by decide +kernel
theorem d_Model_count_2 : decode prog_9_method_33_code 2 = .ok (.putfield 75, 3) := by decide +kernel
theorem d_Model_count_5 : decode prog_9_method_33_code 5 = .ok (.iload_n 1, 1) := by decide +kernel
theorem d_Model_count_6 : decode prog_9_method_33_code 6 = .ok (.bipush 20, 2) := by decide +kernel
theorem d_Model_count_8 : decode prog_9_method_33_code 8 = .ok (.if_icmp .lt 19, 3) := by decide +kernel
theorem d_Model_count_11 : decode prog_9_method_33_code 11 = .ok (.iload_n 1, 1) := by decide +kernel
theorem d_Model_count_12 : decode prog_9_method_33_code 12 = .ok (.bipush 50, 2) := by decide +kernel
theorem d_Model_count_14 : decode prog_9_method_33_code 14 = .ok (.if_icmp .ge 11, 3) := by decide +kernel
theorem d_Model_count_17 : decode prog_9_method_33_code 17 = .ok (.aload_n 0, 1) := by decide +kernel
theorem d_Model_count_18 : decode prog_9_method_33_code 18 = .ok (.iload_n 1, 1) := by decide +kernel
theorem d_Model_count_19 : decode prog_9_method_33_code 19 = .ok (.invokevirtual 146, 3) := by decide +kernel
theorem d_Model_count_22 : decode prog_9_method_33_code 22 = .ok (.goto 4, 3) := by decide +kernel
theorem d_Model_count_25 : decode prog_9_method_33_code 25 = .ok (.iconst (-1), 1) := by decide +kernel
theorem d_Model_count_26 : decode prog_9_method_33_code 26 = .ok (.ireturn, 1) := by decide +kernel
theorem d_Model_count_27 : decode prog_9_method_33_code 27 = .ok (.iload_n 1, 1) := by decide +kernel
theorem d_Model_count_28 : decode prog_9_method_33_code 28 = .ok (.bipush 10, 2) := by decide +kernel
theorem d_Model_count_30 : decode prog_9_method_33_code 30 = .ok (.if_icmp .lt 27, 3) := by decide +kernel
theorem d_Model_count_33 : decode prog_9_method_33_code 33 = .ok (.iload_n 1, 1) := by decide +kernel
theorem d_Model_count_34 : decode prog_9_method_33_code 34 = .ok (.bipush 10, 2) := by decide +kernel
theorem d_Model_count_36 : decode prog_9_method_33_code 36 = .ok (.isub, 1) := by decide +kernel
theorem d_Model_count_37 : decode prog_9_method_33_code 37 = .ok (.aload_n 0, 1) := by decide +kernel
theorem d_Model_count_38 : decode prog_9_method_33_code 38 = .ok (.getfield 111, 3) := by decide +kernel
theorem d_Model_count_41 : decode prog_9_method_33_code 41 = .ok (.if_icmp .ge 14, 3) := by decide +kernel
theorem d_Model_count_44 : decode prog_9_method_33_code 44 = .ok (.aload_n 0, 1) := by decide +kernel
theorem d_Model_count_45 : decode prog_9_method_33_code 45 = .ok (.iload_n 1, 1) := by decide +kernel
theorem d_Model_count_46 : decode prog_9_method_33_code 46 = .ok (.bipush 10, 2) := by decide +kernel
theorem d_Model_count_48 : decode prog_9_method_33_code 48 = .ok (.isub, 1) := by decide +kernel
theorem d_Model_count_49 : decode prog_9_method_33_code 49 = .ok (.invokevirtual 124, 3) := by decide +kernel
theorem d_Model_count_52 : decode prog_9_method_33_code 52 = .ok (.goto 4, 3) := by decide +kernel
theorem d_Model_count_55 : decode prog_9_method_33_code 55 = .ok (.iconst (-1), 1) := by decide +kernel
theorem d_Model_count_56 : decode prog_9_method_33_code 56 = .ok (.ireturn, 1) := by decide +kernel
theorem d_Model_count_57 : decode prog_9_method_33_code 57 = .ok (.iconst 0, 1) := by decide +kernel
theorem d_Model_count_58 : decode prog_9_method_33_code 58 = .ok (.istore_n 2, 1) := by decide +kernel
theorem d_Model_count_59 : decode prog_9_method_33_code 59 = .ok (.iconst 0, 1) := by decide +kernel
theorem d_Model_count_60 : decode prog_9_method_33_code 60 = .ok (.istore_n 3, 1) := by decide +kernel
theorem d_Model_count_61 : decode prog_9_method_33_code 61 = .ok (.iconst 0, 1) := by decide +kernel
theorem d_Model_count_62 : decode prog_9_method_33_code 62 = .ok (.istore 4, 2) := by decide +kernel
theorem d_Model_count_64 : decode prog_9_method_33_code 64 = .ok (.iload 4, 2) := by decide +kernel
theorem d_Model_count_66 : decode prog_9_method_33_code 66 = .ok (.aload_n 0, 1) := by decide +kernel
theorem d_Model_count_67 : decode prog_9_method_33_code 67 = .ok (.getfield 78, 3) := by decide +kernel
theorem d_Model_count_70 : decode prog_9_method_33_code 70 = .ok (.if_icmp .ge 38, 3) := by decide +kernel
theorem d_Model_count_73 : decode prog_9_method_33_code 73 = .ok (.iload_n 2, 1) := by decide +kernel
theorem d_Model_count_74 : decode prog_9_method_33_code 74 = .ok (.aload_n 0, 1) := by decide +kernel
theorem d_Model_count_75 : decode prog_9_method_33_code 75 = .ok (.getfield 35, 3) := by decide +kernel
theorem d_Model_count_78 : decode prog_9_method_33_code 78 = .ok (.iload 4, 2) := by decide +kernel
theorem d_Model_count_80 : decode prog_9_method_33_code 80 = .ok (.iaload, 1) := by decide +kernel
theorem d_Model_count_81 : decode prog_9_method_33_code 81 = .ok (.iconst (-1), 1) := by decide +kernel
theorem d_Model_count_82 : decode prog_9_method_33_code 82 = .ok (.if_icmp .eq 7, 3) := by decide +kernel
theorem d_Model_count_85 : decode prog_9_method_33_code 85 = .ok (.iconst 1, 1) := by decide +kernel
theorem d_Model_count_86 : decode prog_9_method_33_code 86 = .ok (.goto 4, 3) := by decide +kernel
theorem d_Model_count_89 : decode prog_9_method_33_code 89 = .ok (.iconst 0, 1) := by decide +kernel
theorem d_Model_count_90 : decode prog_9_method_33_code 90 = .ok (.iadd, 1) := by decide +kernel
theorem d_Model_count_91 : decode prog_9_method_33_code 91 = .ok (.istore_n 2, 1) := by decide +kernel
theorem d_Model_count_92 : decode prog_9_method_33_code 92 = .ok (.iload_n 3, 1) := by decide +kernel
theorem d_Model_count_93 : decode prog_9_method_33_code 93 = .ok (.aload_n 0, 1) := by decide +kernel
theorem d_Model_count_94 : decode prog_9_method_33_code 94 = .ok (.getfield 47, 3) := by decide +kernel
theorem d_Model_count_97 : decode prog_9_method_33_code 97 = .ok (.iload 4, 2) := by decide +kernel
theorem d_Model_count_99 : decode prog_9_method_33_code 99 = .ok (.iaload, 1) := by decide +kernel
theorem d_Model_count_100 : decode prog_9_method_33_code 100 = .ok (.iadd, 1) := by decide +kernel
theorem d_Model_count_101 : decode prog_9_method_33_code 101 = .ok (.istore_n 3, 1) := by decide +kernel
theorem d_Model_count_102 : decode prog_9_method_33_code 102 = .ok (.iinc 4 1, 3) := by decide +kernel
theorem d_Model_count_105 : decode prog_9_method_33_code 105 = .ok (.goto (-41), 3) := by decide +kernel
theorem d_Model_count_108 : decode prog_9_method_33_code 108 = .ok (.iload_n 1, 1) := by decide +kernel
theorem d_Model_count_109 : decode prog_9_method_33_code 109 = .ok (.tableswitch 81 0 7 #[47, 52, 57, 62, 67, 72, 74, 76], 47) := by decide +kernel
theorem d_Model_count_156 : decode prog_9_method_33_code 156 = .ok (.aload_n 0, 1) := by decide +kernel
theorem d_Model_count_157 : decode prog_9_method_33_code 157 = .ok (.getfield 71, 3) := by decide +kernel
theorem d_Model_count_160 : decode prog_9_method_33_code 160 = .ok (.ireturn, 1) := by decide +kernel
theorem d_Model_count_161 : decode prog_9_method_33_code 161 = .ok (.aload_n 0, 1) := by decide +kernel
theorem d_Model_count_162 : decode prog_9_method_33_code 162 = .ok (.getfield 82, 3) := by decide +kernel
theorem d_Model_count_165 : decode prog_9_method_33_code 165 = .ok (.ireturn, 1) := by decide +kernel
theorem d_Model_count_166 : decode prog_9_method_33_code 166 = .ok (.aload_n 0, 1) := by decide +kernel
theorem d_Model_count_167 : decode prog_9_method_33_code 167 = .ok (.getfield 78, 3) := by decide +kernel
theorem d_Model_count_170 : decode prog_9_method_33_code 170 = .ok (.ireturn, 1) := by decide +kernel
theorem d_Model_count_171 : decode prog_9_method_33_code 171 = .ok (.aload_n 0, 1) := by decide +kernel
theorem d_Model_count_172 : decode prog_9_method_33_code 172 = .ok (.getfield 114, 3) := by decide +kernel
theorem d_Model_count_175 : decode prog_9_method_33_code 175 = .ok (.ireturn, 1) := by decide +kernel
theorem d_Model_count_176 : decode prog_9_method_33_code 176 = .ok (.aload_n 0, 1) := by decide +kernel
theorem d_Model_count_177 : decode prog_9_method_33_code 177 = .ok (.getfield 136, 3) := by decide +kernel
theorem d_Model_count_180 : decode prog_9_method_33_code 180 = .ok (.ireturn, 1) := by decide +kernel
theorem d_Model_count_181 : decode prog_9_method_33_code 181 = .ok (.iload_n 3, 1) := by decide +kernel
theorem d_Model_count_182 : decode prog_9_method_33_code 182 = .ok (.ireturn, 1) := by decide +kernel
theorem d_Model_count_183 : decode prog_9_method_33_code 183 = .ok (.iload_n 2, 1) := by decide +kernel
theorem d_Model_count_184 : decode prog_9_method_33_code 184 = .ok (.ireturn, 1) := by decide +kernel
theorem d_Model_count_185 : decode prog_9_method_33_code 185 = .ok (.aload_n 0, 1) := by decide +kernel
theorem d_Model_count_186 : decode prog_9_method_33_code 186 = .ok (.getfield 111, 3) := by decide +kernel
theorem d_Model_count_189 : decode prog_9_method_33_code 189 = .ok (.ireturn, 1) := by decide +kernel
theorem d_Model_count_190 : decode prog_9_method_33_code 190 = .ok (.iconst (-1), 1) := by decide +kernel
theorem d_Model_count_191 : decode prog_9_method_33_code 191 = .ok (.ireturn, 1) := by decide +kernel
