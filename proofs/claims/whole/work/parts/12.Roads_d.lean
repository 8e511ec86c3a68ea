theorem d_Roads_size_0 : decode prog_7_method_2_code 0 = .ok (.aload_n 0, 1) := by decide +kernel
theorem d_Roads_size_1 : decode prog_7_method_2_code 1 = .ok (.getfield 32, 3) := by decide +kernel
theorem d_Roads_size_4 : decode prog_7_method_2_code 4 = .ok (.ireturn, 1) := by decide +kernel
theorem d_Roads_has_0 : decode prog_7_method_3_code 0 = .ok (.iload_n 1, 1) := by decide +kernel
theorem d_Roads_has_1 : decode prog_7_method_3_code 1 = .ok (.ifCond .lt 15, 3) := by decide +kernel
theorem d_Roads_has_4 : decode prog_7_method_3_code 4 = .ok (.iload_n 1, 1) := by decide +kernel
theorem d_Roads_has_5 : decode prog_7_method_3_code 5 = .ok (.aload_n 0, 1) := by decide +kernel
theorem d_Roads_has_6 : decode prog_7_method_3_code 6 = .ok (.getfield 32, 3) := by decide +kernel
theorem d_Roads_has_9 : decode prog_7_method_3_code 9 = .ok (.if_icmp .ge 7, 3) := by decide +kernel
theorem d_Roads_has_12 : decode prog_7_method_3_code 12 = .ok (.iconst 1, 1) := by decide +kernel
theorem d_Roads_has_13 : decode prog_7_method_3_code 13 = .ok (.goto 4, 3) := by decide +kernel
theorem d_Roads_has_16 : decode prog_7_method_3_code 16 = .ok (.iconst 0, 1) := by decide +kernel
theorem d_Roads_has_17 : decode prog_7_method_3_code 17 = .ok (.ireturn, 1) := by decide +kernel
theorem d_Roads_beginningOf_0 : decode prog_7_method_5_code 0 = .ok (.aload_n 0, 1) := by decide +kernel
theorem d_Roads_beginningOf_1 : decode prog_7_method_5_code 1 = .ok (.getfield 9, 3) := by decide +kernel
theorem d_Roads_beginningOf_4 : decode prog_7_method_5_code 4 = .ok (.iload_n 1, 1) := by decide +kernel
theorem d_Roads_beginningOf_5 : decode prog_7_method_5_code 5 = .ok (.iaload, 1) := by decide +kernel
theorem d_Roads_beginningOf_6 : decode prog_7_method_5_code 6 = .ok (.ireturn, 1) := by decide +kernel
theorem d_Roads_endOf_0 : decode prog_7_method_6_code 0 = .ok (.aload_n 0, 1) := by decide +kernel
theorem d_Roads_endOf_1 : decode prog_7_method_6_code 1 = .ok (.getfield 15, 3) := by decide +kernel
theorem d_Roads_endOf_4 : decode prog_7_method_6_code 4 = .ok (.iload_n 1, 1) := by decide +kernel
theorem d_Roads_endOf_5 : decode prog_7_method_6_code 5 = .ok (.iaload, 1) := by decide +kernel
theorem d_Roads_endOf_6 : decode prog_7_method_6_code 6 = .ok (.ireturn, 1) := by decide +kernel
theorem d_Roads_timeOf_0 : decode prog_7_method_7_code 0 = .ok (.aload_n 0, 1) := by decide +kernel
theorem d_Roads_timeOf_1 : decode prog_7_method_7_code 1 = .ok (.getfield 18, 3) := by decide +kernel
theorem d_Roads_timeOf_4 : decode prog_7_method_7_code 4 = .ok (.iload_n 1, 1) := by decide +kernel
theorem d_Roads_timeOf_5 : decode prog_7_method_7_code 5 = .ok (.iaload, 1) := by decide +kernel
theorem d_Roads_timeOf_6 : decode prog_7_method_7_code 6 = .ok (.ireturn, 1) := by decide +kernel
theorem d_Roads_isClosed_0 : decode prog_7_method_8_code 0 = .ok (.aload_n 0, 1) := by decide +kernel
theorem d_Roads_isClosed_1 : decode prog_7_method_8_code 1 = .ok (.getfield 21, 3) := by decide +kernel
theorem d_Roads_isClosed_4 : decode prog_7_method_8_code 4 = .ok (.iload_n 1, 1) := by decide +kernel
theorem d_Roads_isClosed_5 : decode prog_7_method_8_code 5 = .ok (.baload, 1) := by decide +kernel
theorem d_Roads_isClosed_6 : decode prog_7_method_8_code 6 = .ok (.ireturn, 1) := by decide +kernel
theorem d_Roads_leastTime_0 : decode prog_7_method_11_code 0 = .ok (.aload_n 0, 1) := by decide +kernel
theorem d_Roads_leastTime_1 : decode prog_7_method_11_code 1 = .ok (.getfield 25, 3) := by decide +kernel
theorem d_Roads_leastTime_4 : decode prog_7_method_11_code 4 = .ok (.iload_n 1, 1) := by decide +kernel
theorem d_Roads_leastTime_5 : decode prog_7_method_11_code 5 = .ok (.bipush 10, 2) := by decide +kernel
theorem d_Roads_leastTime_7 : decode prog_7_method_11_code 7 = .ok (.imul, 1) := by decide +kernel
theorem d_Roads_leastTime_8 : decode prog_7_method_11_code 8 = .ok (.iload_n 2, 1) := by decide +kernel
theorem d_Roads_leastTime_9 : decode prog_7_method_11_code 9 = .ok (.iadd, 1) := by decide +kernel
theorem d_Roads_leastTime_10 : decode prog_7_method_11_code 10 = .ok (.iaload, 1) := by decide +kernel
theorem d_Roads_leastTime_11 : decode prog_7_method_11_code 11 = .ok (.ireturn, 1) := by decide +kernel
theorem d_Roads_hasWay_0 : decode prog_7_method_10_code 0 = .ok (.aload_n 0, 1) := by decide +kernel
theorem d_Roads_hasWay_1 : decode prog_7_method_10_code 1 = .ok (.iload_n 1, 1) := by decide +kernel
theorem d_Roads_hasWay_2 : decode prog_7_method_10_code 2 = .ok (.iload_n 2, 1) := by decide +kernel
theorem d_Roads_hasWay_3 : decode prog_7_method_10_code 3 = .ok (.invokevirtual 45, 3) := by decide +kernel
theorem d_Roads_hasWay_6 : decode prog_7_method_10_code 6 = .ok (.ldc 49, 2) := by decide +kernel
theorem d_Roads_hasWay_8 : decode prog_7_method_10_code 8 = .ok (.if_icmp .ge 7, 3) := by decide +kernel
theorem d_Roads_hasWay_11 : decode prog_7_method_10_code 11 = .ok (.iconst 1, 1) := by decide +kernel
theorem d_Roads_hasWay_12 : decode prog_7_method_10_code 12 = .ok (.goto 4, 3) := by decide +kernel
theorem d_Roads_hasWay_15 : decode prog_7_method_10_code 15 = .ok (.iconst 0, 1) := by decide +kernel
theorem d_Roads_hasWay_16 : decode prog_7_method_10_code 16 = .ok (.ireturn, 1) := by decide +kernel
theorem d_Roads_firstPiece_0 : decode prog_7_method_12_code 0 = .ok (.aload_n 0, 1) := by decide +kernel
theorem d_Roads_firstPiece_1 : decode prog_7_method_12_code 1 = .ok (.iload_n 1, 1) := by decide +kernel
theorem d_Roads_firstPiece_2 : decode prog_7_method_12_code 2 = .ok (.iload_n 2, 1) := by decide +kernel
theorem d_Roads_firstPiece_3 : decode prog_7_method_12_code 3 = .ok (.invokevirtual 45, 3) := by decide +kernel
theorem d_Roads_firstPiece_6 : decode prog_7_method_12_code 6 = .ok (.istore_n 3, 1) := by decide +kernel
theorem d_Roads_firstPiece_7 : decode prog_7_method_12_code 7 = .ok (.iconst 0, 1) := by decide +kernel
theorem d_Roads_firstPiece_8 : decode prog_7_method_12_code 8 = .ok (.istore 4, 2) := by decide +kernel
theorem d_Roads_firstPiece_10 : decode prog_7_method_12_code 10 = .ok (.iload 4, 2) := by decide +kernel
theorem d_Roads_firstPiece_12 : decode prog_7_method_12_code 12 = .ok (.aload_n 0, 1) := by decide +kernel
theorem d_Roads_firstPiece_13 : decode prog_7_method_12_code 13 = .ok (.getfield 32, 3) := by decide +kernel
theorem d_Roads_firstPiece_16 : decode prog_7_method_12_code 16 = .ok (.if_icmp .ge 57, 3) := by decide +kernel
theorem d_Roads_firstPiece_19 : decode prog_7_method_12_code 19 = .ok (.aload_n 0, 1) := by decide +kernel
theorem d_Roads_firstPiece_20 : decode prog_7_method_12_code 20 = .ok (.getfield 21, 3) := by decide +kernel
theorem d_Roads_firstPiece_23 : decode prog_7_method_12_code 23 = .ok (.iload 4, 2) := by decide +kernel
theorem d_Roads_firstPiece_25 : decode prog_7_method_12_code 25 = .ok (.baload, 1) := by decide +kernel
theorem d_Roads_firstPiece_26 : decode prog_7_method_12_code 26 = .ok (.ifCond .ne 41, 3) := by decide +kernel
theorem d_Roads_firstPiece_29 : decode prog_7_method_12_code 29 = .ok (.aload_n 0, 1) := by decide +kernel
theorem d_Roads_firstPiece_30 : decode prog_7_method_12_code 30 = .ok (.getfield 9, 3) := by decide +kernel
theorem d_Roads_firstPiece_33 : decode prog_7_method_12_code 33 = .ok (.iload 4, 2) := by decide +kernel
theorem d_Roads_firstPiece_35 : decode prog_7_method_12_code 35 = .ok (.iaload, 1) := by decide +kernel
theorem d_Roads_firstPiece_36 : decode prog_7_method_12_code 36 = .ok (.iload_n 1, 1) := by decide +kernel
theorem d_Roads_firstPiece_37 : decode prog_7_method_12_code 37 = .ok (.if_icmp .ne 30, 3) := by decide +kernel
theorem d_Roads_firstPiece_40 : decode prog_7_method_12_code 40 = .ok (.aload_n 0, 1) := by decide +kernel
theorem d_Roads_firstPiece_41 : decode prog_7_method_12_code 41 = .ok (.getfield 18, 3) := by decide +kernel
theorem d_Roads_firstPiece_44 : decode prog_7_method_12_code 44 = .ok (.iload 4, 2) := by decide +kernel
theorem d_Roads_firstPiece_46 : decode prog_7_method_12_code 46 = .ok (.iaload, 1) := by decide +kernel
theorem d_Roads_firstPiece_47 : decode prog_7_method_12_code 47 = .ok (.aload_n 0, 1) := by decide +kernel
theorem d_Roads_firstPiece_48 : decode prog_7_method_12_code 48 = .ok (.aload_n 0, 1) := by decide +kernel
theorem d_Roads_firstPiece_49 : decode prog_7_method_12_code 49 = .ok (.getfield 15, 3) := by decide +kernel
theorem d_Roads_firstPiece_52 : decode prog_7_method_12_code 52 = .ok (.iload 4, 2) := by decide +kernel
theorem d_Roads_firstPiece_54 : decode prog_7_method_12_code 54 = .ok (.iaload, 1) := by decide +kernel
theorem d_Roads_firstPiece_55 : decode prog_7_method_12_code 55 = .ok (.iload_n 2, 1) := by decide +kernel
theorem d_Roads_firstPiece_56 : decode prog_7_method_12_code 56 = .ok (.invokevirtual 45, 3) := by decide +kernel
theorem d_Roads_firstPiece_59 : decode prog_7_method_12_code 59 = .ok (.iadd, 1) := by decide +kernel
theorem d_Roads_firstPiece_60 : decode prog_7_method_12_code 60 = .ok (.iload_n 3, 1) := by decide +kernel
theorem d_Roads_firstPiece_61 : decode prog_7_method_12_code 61 = .ok (.if_icmp .ne 6, 3) := by decide +kernel
theorem d_Roads_firstPiece_64 : decode prog_7_method_12_code 64 = .ok (.iload 4, 2) := by decide +kernel
theorem d_Roads_firstPiece_66 : decode prog_7_method_12_code 66 = .ok (.ireturn, 1) := by decide +kernel
theorem d_Roads_firstPiece_67 : decode prog_7_method_12_code 67 = .ok (.iinc 4 1, 3) := by decide +kernel
theorem d_Roads_firstPiece_70 : decode prog_7_method_12_code 70 = .ok (.goto (-60), 3) := by decide +kernel
theorem d_Roads_firstPiece_73 : decode prog_7_method_12_code 73 = .ok (.iconst (-1), 1) := by decide +kernel
theorem d_Roads_firstPiece_74 : decode prog_7_method_12_code 74 = .ok (.ireturn, 1) := by decide +kernel
theorem d_Roads_piecesOnWay_0 : decode prog_7_method_13_code 0 = .ok (.iconst 0, 1) := by decide +kernel
theorem d_Roads_piecesOnWay_1 : decode prog_7_method_13_code 1 = .ok (.istore_n 3, 1) := by decide +kernel
theorem d_Roads_piecesOnWay_2 : decode prog_7_method_13_code 2 = .ok (.aload_n 0, 1) := by decide +kernel
theorem d_Roads_piecesOnWay_3 : decode prog_7_method_13_code 3 = .ok (.iload_n 1, 1) := by decide +kernel
theorem d_Roads_piecesOnWay_4 : decode prog_7_method_13_code 4 = .ok (.iload_n 2, 1) := by decide +kernel
theorem d_Roads_piecesOnWay_5 : decode prog_7_method_13_code 5 = .ok (.invokevirtual 50, 3) := by decide +kernel
theorem d_Roads_piecesOnWay_8 : decode prog_7_method_13_code 8 = .ok (.istore 4, 2) := by decide +kernel
theorem d_Roads_piecesOnWay_10 : decode prog_7_method_13_code 10 = .ok (.iload 4, 2) := by decide +kernel
theorem d_Roads_piecesOnWay_12 : decode prog_7_method_13_code 12 = .ok (.iconst (-1), 1) := by decide +kernel
theorem d_Roads_piecesOnWay_13 : decode prog_7_method_13_code 13 = .ok (.if_icmp .eq 31, 3) := by decide +kernel
theorem d_Roads_piecesOnWay_16 : decode prog_7_method_13_code 16 = .ok (.iload_n 3, 1) := by decide +kernel
theorem d_Roads_piecesOnWay_17 : decode prog_7_method_13_code 17 = .ok (.aload_n 0, 1) := by decide +kernel
theorem d_Roads_piecesOnWay_18 : decode prog_7_method_13_code 18 = .ok (.getfield 28, 3) := by decide +kernel
theorem d_Roads_piecesOnWay_21 : decode prog_7_method_13_code 21 = .ok (.if_icmp .ge 23, 3) := by decide +kernel
theorem d_Roads_piecesOnWay_24 : decode prog_7_method_13_code 24 = .ok (.iinc 3 1, 3) := by decide +kernel
theorem d_Roads_piecesOnWay_27 : decode prog_7_method_13_code 27 = .ok (.aload_n 0, 1) := by decide +kernel
theorem d_Roads_piecesOnWay_28 : decode prog_7_method_13_code 28 = .ok (.aload_n 0, 1) := by decide +kernel
theorem d_Roads_piecesOnWay_29 : decode prog_7_method_13_code 29 = .ok (.getfield 15, 3) := by decide +kernel
theorem d_Roads_piecesOnWay_32 : decode prog_7_method_13_code 32 = .ok (.iload 4, 2) := by decide +kernel
theorem d_Roads_piecesOnWay_34 : decode prog_7_method_13_code 34 = .ok (.iaload, 1) := by decide +kernel
theorem d_Roads_piecesOnWay_35 : decode prog_7_method_13_code 35 = .ok (.iload_n 2, 1) := by decide +kernel
theorem d_Roads_piecesOnWay_36 : decode prog_7_method_13_code 36 = .ok (.invokevirtual 50, 3) := by decide +kernel
theorem d_Roads_piecesOnWay_39 : decode prog_7_method_13_code 39 = .ok (.istore 4, 2) := by decide +kernel
theorem d_Roads_piecesOnWay_41 : decode prog_7_method_13_code 41 = .ok (.goto (-31), 3) := by decide +kernel
theorem d_Roads_piecesOnWay_44 : decode prog_7_method_13_code 44 = .ok (.iload_n 3, 1) := by decide +kernel
theorem d_Roads_piecesOnWay_45 : decode prog_7_method_13_code 45 = .ok (.ireturn, 1) := by decide +kernel
theorem d_Roads_forgetTimes_0 : decode prog_7_method_15_code 0 = .ok (.iconst 0, 1) := by decide +kernel
theorem d_Roads_forgetTimes_1 : decode prog_7_method_15_code 1 = .ok (.istore_n 1, 1) := by decide +kernel
theorem d_Roads_forgetTimes_2 : decode prog_7_method_15_code 2 = .ok (.iload_n 1, 1) := by decide +kernel
theorem d_Roads_forgetTimes_3 : decode prog_7_method_15_code 3 = .ok (.bipush 10, 2) := by decide +kernel
theorem d_Roads_forgetTimes_5 : decode prog_7_method_15_code 5 = .ok (.if_icmp .ge 45, 3) := by decide +kernel
theorem d_Roads_forgetTimes_8 : decode prog_7_method_15_code 8 = .ok (.iconst 0, 1) := by decide +kernel
theorem d_Roads_forgetTimes_9 : decode prog_7_method_15_code 9 = .ok (.istore_n 2, 1) := by decide +kernel
theorem d_Roads_forgetTimes_10 : decode prog_7_method_15_code 10 = .ok (.iload_n 2, 1) := by decide +kernel
theorem d_Roads_forgetTimes_11 : decode prog_7_method_15_code 11 = .ok (.bipush 10, 2) := by decide +kernel
theorem d_Roads_forgetTimes_13 : decode prog_7_method_15_code 13 = .ok (.if_icmp .ge 31, 3) := by decide +kernel
theorem d_Roads_forgetTimes_16 : decode prog_7_method_15_code 16 = .ok (.aload_n 0, 1) := by decide +kernel
theorem d_Roads_forgetTimes_17 : decode prog_7_method_15_code 17 = .ok (.getfield 25, 3) := by decide +kernel
theorem d_Roads_forgetTimes_20 : decode prog_7_method_15_code 20 = .ok (.iload_n 1, 1) := by decide +kernel
theorem d_Roads_forgetTimes_21 : decode prog_7_method_15_code 21 = .ok (.bipush 10, 2) := by decide +kernel
theorem d_Roads_forgetTimes_23 : decode prog_7_method_15_code 23 = .ok (.imul, 1) := by decide +kernel
theorem d_Roads_forgetTimes_24 : decode prog_7_method_15_code 24 = .ok (.iload_n 2, 1) := by decide +kernel
theorem d_Roads_forgetTimes_25 : decode prog_7_method_15_code 25 = .ok (.iadd, 1) := by decide +kernel
theorem d_Roads_forgetTimes_26 : decode prog_7_method_15_code 26 = .ok (.iload_n 1, 1) := by decide +kernel
theorem d_Roads_forgetTimes_27 : decode prog_7_method_15_code 27 = .ok (.iload_n 2, 1) := by decide +kernel
theorem d_Roads_forgetTimes_28 : decode prog_7_method_15_code 28 = .ok (.if_icmp .ne 7, 3) := by decide +kernel
theorem d_Roads_forgetTimes_31 : decode prog_7_method_15_code 31 = .ok (.iconst 0, 1) := by decide +kernel
theorem d_Roads_forgetTimes_32 : decode prog_7_method_15_code 32 = .ok (.goto 5, 3) := by decide +kernel
theorem d_Roads_forgetTimes_35 : decode prog_7_method_15_code 35 = .ok (.ldc 49, 2) := by decide +kernel
theorem d_Roads_forgetTimes_37 : decode prog_7_method_15_code 37 = .ok (.iastore, 1) := by decide +kernel
theorem d_Roads_forgetTimes_38 : decode prog_7_method_15_code 38 = .ok (.iinc 2 1, 3) := by decide +kernel
theorem d_Roads_forgetTimes_41 : decode prog_7_method_15_code 41 = .ok (.goto (-31), 3) := by decide +kernel
theorem d_Roads_forgetTimes_44 : decode prog_7_method_15_code 44 = .ok (.iinc 1 1, 3) := by decide +kernel
theorem d_Roads_forgetTimes_47 : decode prog_7_method_15_code 47 = .ok (.goto (-45), 3) := by decide +kernel
theorem d_Roads_forgetTimes_50 : decode prog_7_method_15_code 50 = .ok (.return_, 1) := by decide +kernel
theorem d_Roads_shortenBy_0 : decode prog_7_method_16_code 0 = .ok (.iconst 0, 1) := by decide +kernel
theorem d_Roads_shortenBy_1 : decode prog_7_method_16_code 1 = .ok (.istore_n 2, 1) := by decide +kernel
theorem d_Roads_shortenBy_2 : decode prog_7_method_16_code 2 = .ok (.iload_n 2, 1) := by decide +kernel
theorem d_Roads_shortenBy_3 : decode prog_7_method_16_code 3 = .ok (.aload_n 0, 1) := by decide +kernel
theorem d_Roads_shortenBy_4 : decode prog_7_method_16_code 4 = .ok (.getfield 28, 3) := by decide +kernel
theorem d_Roads_shortenBy_7 : decode prog_7_method_16_code 7 = .ok (.if_icmp .ge 82, 3) := by decide +kernel
theorem d_Roads_shortenBy_10 : decode prog_7_method_16_code 10 = .ok (.aload_n 0, 1) := by decide +kernel
theorem d_Roads_shortenBy_11 : decode prog_7_method_16_code 11 = .ok (.iload_n 2, 1) := by decide +kernel
theorem d_Roads_shortenBy_12 : decode prog_7_method_16_code 12 = .ok (.aload_n 0, 1) := by decide +kernel
theorem d_Roads_shortenBy_13 : decode prog_7_method_16_code 13 = .ok (.getfield 9, 3) := by decide +kernel
theorem d_Roads_shortenBy_16 : decode prog_7_method_16_code 16 = .ok (.iload_n 1, 1) := by decide +kernel
theorem d_Roads_shortenBy_17 : decode prog_7_method_16_code 17 = .ok (.iaload, 1) := by decide +kernel
theorem d_Roads_shortenBy_18 : decode prog_7_method_16_code 18 = .ok (.invokevirtual 45, 3) := by decide +kernel
theorem d_Roads_shortenBy_21 : decode prog_7_method_16_code 21 = .ok (.aload_n 0, 1) := by decide +kernel
theorem d_Roads_shortenBy_22 : decode prog_7_method_16_code 22 = .ok (.getfield 18, 3) := by decide +kernel
theorem d_Roads_shortenBy_25 : decode prog_7_method_16_code 25 = .ok (.iload_n 1, 1) := by decide +kernel
theorem d_Roads_shortenBy_26 : decode prog_7_method_16_code 26 = .ok (.iaload, 1) := by decide +kernel
theorem d_Roads_shortenBy_27 : decode prog_7_method_16_code 27 = .ok (.iadd, 1) := by decide +kernel
theorem d_Roads_shortenBy_28 : decode prog_7_method_16_code 28 = .ok (.istore_n 3, 1) := by decide +kernel
theorem d_Roads_shortenBy_29 : decode prog_7_method_16_code 29 = .ok (.iconst 0, 1) := by decide +kernel
theorem d_Roads_shortenBy_30 : decode prog_7_method_16_code 30 = .ok (.istore 4, 2) := by decide +kernel
theorem d_Roads_shortenBy_32 : decode prog_7_method_16_code 32 = .ok (.iload 4, 2) := by decide +kernel
theorem d_Roads_shortenBy_34 : decode prog_7_method_16_code 34 = .ok (.aload_n 0, 1) := by decide +kernel
theorem d_Roads_shortenBy_35 : decode prog_7_method_16_code 35 = .ok (.getfield 28, 3) := by decide +kernel
theorem d_Roads_shortenBy_38 : decode prog_7_method_16_code 38 = .ok (.if_icmp .ge 45, 3) := by decide +kernel
theorem d_Roads_shortenBy_41 : decode prog_7_method_16_code 41 = .ok (.aload_n 0, 1) := by decide +kernel
theorem d_Roads_shortenBy_42 : decode prog_7_method_16_code 42 = .ok (.getfield 25, 3) := by decide +kernel
theorem d_Roads_shortenBy_45 : decode prog_7_method_16_code 45 = .ok (.iload_n 2, 1) := by decide +kernel
theorem d_Roads_shortenBy_46 : decode prog_7_method_16_code 46 = .ok (.bipush 10, 2) := by decide +kernel
theorem d_Roads_shortenBy_48 : decode prog_7_method_16_code 48 = .ok (.imul, 1) := by decide +kernel
theorem d_Roads_shortenBy_49 : decode prog_7_method_16_code 49 = .ok (.iload 4, 2) := by decide +kernel
theorem d_Roads_shortenBy_51 : decode prog_7_method_16_code 51 = .ok (.iadd, 1) := by decide +kernel
theorem d_Roads_shortenBy_52 : decode prog_7_method_16_code 52 = .ok (.aload_n 0, 1) := by decide +kernel
theorem d_Roads_shortenBy_53 : decode prog_7_method_16_code 53 = .ok (.iload_n 2, 1) := by decide +kernel
theorem d_Roads_shortenBy_54 : decode prog_7_method_16_code 54 = .ok (.iload 4, 2) := by decide +kernel
theorem d_Roads_shortenBy_56 : decode prog_7_method_16_code 56 = .ok (.invokevirtual 45, 3) := by decide +kernel
theorem d_Roads_shortenBy_59 : decode prog_7_method_16_code 59 = .ok (.iload_n 3, 1) := by decide +kernel
theorem d_Roads_shortenBy_60 : decode prog_7_method_16_code 60 = .ok (.aload_n 0, 1) := by decide +kernel
theorem d_Roads_shortenBy_61 : decode prog_7_method_16_code 61 = .ok (.aload_n 0, 1) := by decide +kernel
theorem d_Roads_shortenBy_62 : decode prog_7_method_16_code 62 = .ok (.getfield 15, 3) := by decide +kernel
theorem d_Roads_shortenBy_65 : decode prog_7_method_16_code 65 = .ok (.iload_n 1, 1) := by decide +kernel
theorem d_Roads_shortenBy_66 : decode prog_7_method_16_code 66 = .ok (.iaload, 1) := by decide +kernel
theorem d_Roads_shortenBy_67 : decode prog_7_method_16_code 67 = .ok (.iload 4, 2) := by decide +kernel
theorem d_Roads_shortenBy_69 : decode prog_7_method_16_code 69 = .ok (.invokevirtual 45, 3) := by decide +kernel
theorem d_Roads_shortenBy_72 : decode prog_7_method_16_code 72 = .ok (.iadd, 1) := by decide +kernel
theorem d_Roads_shortenBy_73 : decode prog_7_method_16_code 73 = .ok (.invokestatic 53, 3) := by decide +kernel
theorem d_Roads_shortenBy_76 : decode prog_7_method_16_code 76 = .ok (.iastore, 1) := by decide +kernel
theorem d_Roads_shortenBy_77 : decode prog_7_method_16_code 77 = .ok (.iinc 4 1, 3) := by decide +kernel
theorem d_Roads_shortenBy_80 : decode prog_7_method_16_code 80 = .ok (.goto (-48), 3) := by decide +kernel
theorem d_Roads_shortenBy_83 : decode prog_7_method_16_code 83 = .ok (.iinc 2 1, 3) := by decide +kernel
theorem d_Roads_shortenBy_86 : decode prog_7_method_16_code 86 = .ok (.goto (-84), 3) := by decide +kernel
theorem d_Roads_shortenBy_89 : decode prog_7_method_16_code 89 = .ok (.return_, 1) := by decide +kernel
theorem d_Roads_add_0 : decode prog_7_method_4_code 0 = .ok (.aload_n 0, 1) := by decide +kernel
theorem d_Roads_add_1 : decode prog_7_method_4_code 1 = .ok (.getfield 32, 3) := by decide +kernel
theorem d_Roads_add_4 : decode prog_7_method_4_code 4 = .ok (.istore 4, 2) := by decide +kernel
theorem d_Roads_add_6 : decode prog_7_method_4_code 6 = .ok (.aload_n 0, 1) := by decide +kernel
theorem d_Roads_add_7 : decode prog_7_method_4_code 7 = .ok (.getfield 9, 3) := by decide +kernel
theorem d_Roads_add_10 : decode prog_7_method_4_code 10 = .ok (.iload 4, 2) := by decide +kernel
theorem d_Roads_add_12 : decode prog_7_method_4_code 12 = .ok (.iload_n 1, 1) := by decide +kernel
theorem d_Roads_add_13 : decode prog_7_method_4_code 13 = .ok (.iastore, 1) := by decide +kernel
theorem d_Roads_add_14 : decode prog_7_method_4_code 14 = .ok (.aload_n 0, 1) := by decide +kernel
theorem d_Roads_add_15 : decode prog_7_method_4_code 15 = .ok (.getfield 15, 3) := by decide +kernel
theorem d_Roads_add_18 : decode prog_7_method_4_code 18 = .ok (.iload 4, 2) := by decide +kernel
theorem d_Roads_add_20 : decode prog_7_method_4_code 20 = .ok (.iload_n 2, 1) := by decide +kernel
theorem d_Roads_add_21 : decode prog_7_method_4_code 21 = .ok (.iastore, 1) := by decide +kernel
theorem d_Roads_add_22 : decode prog_7_method_4_code 22 = .ok (.aload_n 0, 1) := by decide +kernel
theorem d_Roads_add_23 : decode prog_7_method_4_code 23 = .ok (.getfield 18, 3) := by decide +kernel
theorem d_Roads_add_26 : decode prog_7_method_4_code 26 = .ok (.iload 4, 2) := by decide +kernel
theorem d_Roads_add_28 : decode prog_7_method_4_code 28 = .ok (.iload_n 3, 1) := by decide +kernel
theorem d_Roads_add_29 : decode prog_7_method_4_code 29 = .ok (.iastore, 1) := by decide +kernel
theorem d_Roads_add_30 : decode prog_7_method_4_code 30 = .ok (.aload_n 0, 1) := by decide +kernel
theorem d_Roads_add_31 : decode prog_7_method_4_code 31 = .ok (.dup, 1) := by decide +kernel
theorem d_Roads_add_32 : decode prog_7_method_4_code 32 = .ok (.getfield 32, 3) := by decide +kernel
theorem d_Roads_add_35 : decode prog_7_method_4_code 35 = .ok (.iconst 1, 1) := by decide +kernel
theorem d_Roads_add_36 : decode prog_7_method_4_code 36 = .ok (.iadd, 1) := by decide +kernel
theorem d_Roads_add_37 : decode prog_7_method_4_code 37 = .ok (.putfield 32, 3) := by decide +kernel
theorem d_Roads_add_40 : decode prog_7_method_4_code 40 = .ok (.aload_n 0, 1) := by decide +kernel
theorem d_Roads_add_41 : decode prog_7_method_4_code 41 = .ok (.iload 4, 2) := by decide +kernel
theorem d_Roads_add_43 : decode prog_7_method_4_code 43 = .ok (.invokevirtual 38, 3) := by decide +kernel
theorem d_Roads_add_46 : decode prog_7_method_4_code 46 = .ok (.iload 4, 2) := by decide +kernel
theorem d_Roads_add_48 : decode prog_7_method_4_code 48 = .ok (.ireturn, 1) := by decide +kernel
theorem d_Roads_measureAnew_0 : decode prog_7_method_14_code 0 = .ok (.aload_n 0, 1) := by decide +kernel
theorem d_Roads_measureAnew_1 : decode prog_7_method_14_code 1 = .ok (.invokevirtual 35, 3) := by decide +kernel
theorem d_Roads_measureAnew_4 : decode prog_7_method_14_code 4 = .ok (.iconst 0, 1) := by decide +kernel
theorem d_Roads_measureAnew_5 : decode prog_7_method_14_code 5 = .ok (.istore_n 1, 1) := by decide +kernel
theorem d_Roads_measureAnew_6 : decode prog_7_method_14_code 6 = .ok (.iload_n 1, 1) := by decide +kernel
theorem d_Roads_measureAnew_7 : decode prog_7_method_14_code 7 = .ok (.aload_n 0, 1) := by decide +kernel
theorem d_Roads_measureAnew_8 : decode prog_7_method_14_code 8 = .ok (.getfield 32, 3) := by decide +kernel
theorem d_Roads_measureAnew_11 : decode prog_7_method_14_code 11 = .ok (.if_icmp .ge 23, 3) := by decide +kernel
theorem d_Roads_measureAnew_14 : decode prog_7_method_14_code 14 = .ok (.aload_n 0, 1) := by decide +kernel
theorem d_Roads_measureAnew_15 : decode prog_7_method_14_code 15 = .ok (.getfield 21, 3) := by decide +kernel
theorem d_Roads_measureAnew_18 : decode prog_7_method_14_code 18 = .ok (.iload_n 1, 1) := by decide +kernel
theorem d_Roads_measureAnew_19 : decode prog_7_method_14_code 19 = .ok (.baload, 1) := by decide +kernel
theorem d_Roads_measureAnew_20 : decode prog_7_method_14_code 20 = .ok (.ifCond .ne 8, 3) := by decide +kernel
theorem d_Roads_measureAnew_23 : decode prog_7_method_14_code 23 = .ok (.aload_n 0, 1) := by decide +kernel
theorem d_Roads_measureAnew_24 : decode prog_7_method_14_code 24 = .ok (.iload_n 1, 1) := by decide +kernel
theorem d_Roads_measureAnew_25 : decode prog_7_method_14_code 25 = .ok (.invokevirtual 38, 3) := by decide +kernel
theorem d_Roads_measureAnew_28 : decode prog_7_method_14_code 28 = .ok (.iinc 1 1, 3) := by decide +kernel
theorem d_Roads_measureAnew_31 : decode prog_7_method_14_code 31 = .ok (.goto (-25), 3) := by decide +kernel
theorem d_Roads_measureAnew_34 : decode prog_7_method_14_code 34 = .ok (.return_, 1) := by decide +kernel
theorem d_Roads_setClosed_0 : decode prog_7_method_9_code 0 = .ok (.aload_n 0, 1) := by decide +kernel
theorem d_Roads_setClosed_1 : decode prog_7_method_9_code 1 = .ok (.getfield 21, 3) := by decide +kernel
theorem d_Roads_setClosed_4 : decode prog_7_method_9_code 4 = .ok (.iload_n 1, 1) := by decide +kernel
theorem d_Roads_setClosed_5 : decode prog_7_method_9_code 5 = .ok (.iload_n 2, 1) := by decide +kernel
theorem d_Roads_setClosed_6 : decode prog_7_method_9_code 6 = .ok (.bastore, 1) := by decide +kernel
theorem d_Roads_setClosed_7 : decode prog_7_method_9_code 7 = .ok (.iload_n 2, 1) := by decide +kernel
theorem d_Roads_setClosed_8 : decode prog_7_method_9_code 8 = .ok (.ifCond .eq 10, 3) := by decide +kernel
theorem d_Roads_setClosed_11 : decode prog_7_method_9_code 11 = .ok (.aload_n 0, 1) := by decide +kernel
theorem d_Roads_setClosed_12 : decode prog_7_method_9_code 12 = .ok (.invokevirtual 42, 3) := by decide +kernel
theorem d_Roads_setClosed_15 : decode prog_7_method_9_code 15 = .ok (.goto 8, 3) := by decide +kernel
theorem d_Roads_setClosed_18 : decode prog_7_method_9_code 18 = .ok (.aload_n 0, 1) := by decide +kernel
theorem d_Roads_setClosed_19 : decode prog_7_method_9_code 19 = .ok (.iload_n 1, 1) := by decide +kernel
theorem d_Roads_setClosed_20 : decode prog_7_method_9_code 20 = .ok (.invokevirtual 38, 3) := by decide +kernel
theorem d_Roads_setClosed_23 : decode prog_7_method_9_code 23 = .ok (.return_, 1) := by decide +kernel
