theorem d_Fleet_size_0 : decode prog_3_method_2_code 0 = .ok (.aload_n 0, 1) := by decide +kernel
theorem d_Fleet_size_1 : decode prog_3_method_2_code 1 = .ok (.getfield 33, 3) := by decide +kernel
theorem d_Fleet_size_4 : decode prog_3_method_2_code 4 = .ok (.ireturn, 1) := by decide +kernel
theorem d_Fleet_has_0 : decode prog_3_method_3_code 0 = .ok (.iload_n 1, 1) := by decide +kernel
theorem d_Fleet_has_1 : decode prog_3_method_3_code 1 = .ok (.ifCond .lt 15, 3) := by decide +kernel
theorem d_Fleet_has_4 : decode prog_3_method_3_code 4 = .ok (.iload_n 1, 1) := by decide +kernel
theorem d_Fleet_has_5 : decode prog_3_method_3_code 5 = .ok (.aload_n 0, 1) := by decide +kernel
theorem d_Fleet_has_6 : decode prog_3_method_3_code 6 = .ok (.getfield 33, 3) := by decide +kernel
theorem d_Fleet_has_9 : decode prog_3_method_3_code 9 = .ok (.if_icmp .ge 7, 3) := by decide +kernel
theorem d_Fleet_has_12 : decode prog_3_method_3_code 12 = .ok (.iconst 1, 1) := by decide +kernel
theorem d_Fleet_has_13 : decode prog_3_method_3_code 13 = .ok (.goto 4, 3) := by decide +kernel
theorem d_Fleet_has_16 : decode prog_3_method_3_code 16 = .ok (.iconst 0, 1) := by decide +kernel
theorem d_Fleet_has_17 : decode prog_3_method_3_code 17 = .ok (.ireturn, 1) := by decide +kernel
theorem d_Fleet_add_0 : decode prog_3_method_4_code 0 = .ok (.aload_n 0, 1) := by decide +kernel
theorem d_Fleet_add_1 : decode prog_3_method_4_code 1 = .ok (.getfield 33, 3) := by decide +kernel
theorem d_Fleet_add_4 : decode prog_3_method_4_code 4 = .ok (.istore_n 3, 1) := by decide +kernel
theorem d_Fleet_add_5 : decode prog_3_method_4_code 5 = .ok (.aload_n 0, 1) := by decide +kernel
theorem d_Fleet_add_6 : decode prog_3_method_4_code 6 = .ok (.getfield 9, 3) := by decide +kernel
theorem d_Fleet_add_9 : decode prog_3_method_4_code 9 = .ok (.iload_n 3, 1) := by decide +kernel
theorem d_Fleet_add_10 : decode prog_3_method_4_code 10 = .ok (.iload_n 1, 1) := by decide +kernel
theorem d_Fleet_add_11 : decode prog_3_method_4_code 11 = .ok (.iastore, 1) := by decide +kernel
theorem d_Fleet_add_12 : decode prog_3_method_4_code 12 = .ok (.aload_n 0, 1) := by decide +kernel
theorem d_Fleet_add_13 : decode prog_3_method_4_code 13 = .ok (.getfield 15, 3) := by decide +kernel
theorem d_Fleet_add_16 : decode prog_3_method_4_code 16 = .ok (.iload_n 3, 1) := by decide +kernel
theorem d_Fleet_add_17 : decode prog_3_method_4_code 17 = .ok (.iconst (-1), 1) := by decide +kernel
theorem d_Fleet_add_18 : decode prog_3_method_4_code 18 = .ok (.iastore, 1) := by decide +kernel
theorem d_Fleet_add_19 : decode prog_3_method_4_code 19 = .ok (.aload_n 0, 1) := by decide +kernel
theorem d_Fleet_add_20 : decode prog_3_method_4_code 20 = .ok (.getfield 18, 3) := by decide +kernel
theorem d_Fleet_add_23 : decode prog_3_method_4_code 23 = .ok (.iload_n 3, 1) := by decide +kernel
theorem d_Fleet_add_24 : decode prog_3_method_4_code 24 = .ok (.iconst (-1), 1) := by decide +kernel
theorem d_Fleet_add_25 : decode prog_3_method_4_code 25 = .ok (.iastore, 1) := by decide +kernel
theorem d_Fleet_add_26 : decode prog_3_method_4_code 26 = .ok (.aload_n 0, 1) := by decide +kernel
theorem d_Fleet_add_27 : decode prog_3_method_4_code 27 = .ok (.getfield 21, 3) := by decide +kernel
theorem d_Fleet_add_30 : decode prog_3_method_4_code 30 = .ok (.iload_n 3, 1) := by decide +kernel
theorem d_Fleet_add_31 : decode prog_3_method_4_code 31 = .ok (.iconst (-1), 1) := by decide +kernel
theorem d_Fleet_add_32 : decode prog_3_method_4_code 32 = .ok (.iastore, 1) := by decide +kernel
theorem d_Fleet_add_33 : decode prog_3_method_4_code 33 = .ok (.aload_n 0, 1) := by decide +kernel
theorem d_Fleet_add_34 : decode prog_3_method_4_code 34 = .ok (.getfield 24, 3) := by decide +kernel
theorem d_Fleet_add_37 : decode prog_3_method_4_code 37 = .ok (.iload_n 3, 1) := by decide +kernel
theorem d_Fleet_add_38 : decode prog_3_method_4_code 38 = .ok (.iload_n 2, 1) := by decide +kernel
theorem d_Fleet_add_39 : decode prog_3_method_4_code 39 = .ok (.iastore, 1) := by decide +kernel
theorem d_Fleet_add_40 : decode prog_3_method_4_code 40 = .ok (.aload_n 0, 1) := by decide +kernel
theorem d_Fleet_add_41 : decode prog_3_method_4_code 41 = .ok (.dup, 1) := by decide +kernel
theorem d_Fleet_add_42 : decode prog_3_method_4_code 42 = .ok (.getfield 33, 3) := by decide +kernel
theorem d_Fleet_add_45 : decode prog_3_method_4_code 45 = .ok (.iconst 1, 1) := by decide +kernel
theorem d_Fleet_add_46 : decode prog_3_method_4_code 46 = .ok (.iadd, 1) := by decide +kernel
theorem d_Fleet_add_47 : decode prog_3_method_4_code 47 = .ok (.putfield 33, 3) := by decide +kernel
theorem d_Fleet_add_50 : decode prog_3_method_4_code 50 = .ok (.iload_n 3, 1) := by decide +kernel
theorem d_Fleet_add_51 : decode prog_3_method_4_code 51 = .ok (.ireturn, 1) := by decide +kernel
theorem d_Fleet_pointOf_0 : decode prog_3_method_5_code 0 = .ok (.aload_n 0, 1) := by decide +kernel
theorem d_Fleet_pointOf_1 : decode prog_3_method_5_code 1 = .ok (.getfield 9, 3) := by decide +kernel
theorem d_Fleet_pointOf_4 : decode prog_3_method_5_code 4 = .ok (.iload_n 1, 1) := by decide +kernel
theorem d_Fleet_pointOf_5 : decode prog_3_method_5_code 5 = .ok (.iaload, 1) := by decide +kernel
theorem d_Fleet_pointOf_6 : decode prog_3_method_5_code 6 = .ok (.ireturn, 1) := by decide +kernel
theorem d_Fleet_pieceOf_0 : decode prog_3_method_6_code 0 = .ok (.aload_n 0, 1) := by decide +kernel
theorem d_Fleet_pieceOf_1 : decode prog_3_method_6_code 1 = .ok (.getfield 15, 3) := by decide +kernel
theorem d_Fleet_pieceOf_4 : decode prog_3_method_6_code 4 = .ok (.iload_n 1, 1) := by decide +kernel
theorem d_Fleet_pieceOf_5 : decode prog_3_method_6_code 5 = .ok (.iaload, 1) := by decide +kernel
theorem d_Fleet_pieceOf_6 : decode prog_3_method_6_code 6 = .ok (.ireturn, 1) := by decide +kernel
theorem d_Fleet_arrivalOf_0 : decode prog_3_method_7_code 0 = .ok (.aload_n 0, 1) := by decide +kernel
theorem d_Fleet_arrivalOf_1 : decode prog_3_method_7_code 1 = .ok (.getfield 18, 3) := by decide +kernel
theorem d_Fleet_arrivalOf_4 : decode prog_3_method_7_code 4 = .ok (.iload_n 1, 1) := by decide +kernel
theorem d_Fleet_arrivalOf_5 : decode prog_3_method_7_code 5 = .ok (.iaload, 1) := by decide +kernel
theorem d_Fleet_arrivalOf_6 : decode prog_3_method_7_code 6 = .ok (.ireturn, 1) := by decide +kernel
theorem d_Fleet_jobOf_0 : decode prog_3_method_8_code 0 = .ok (.aload_n 0, 1) := by decide +kernel
theorem d_Fleet_jobOf_1 : decode prog_3_method_8_code 1 = .ok (.getfield 21, 3) := by decide +kernel
theorem d_Fleet_jobOf_4 : decode prog_3_method_8_code 4 = .ok (.iload_n 1, 1) := by decide +kernel
theorem d_Fleet_jobOf_5 : decode prog_3_method_8_code 5 = .ok (.iaload, 1) := by decide +kernel
theorem d_Fleet_jobOf_6 : decode prog_3_method_8_code 6 = .ok (.ireturn, 1) := by decide +kernel
theorem d_Fleet_chargeOf_0 : decode prog_3_method_9_code 0 = .ok (.aload_n 0, 1) := by decide +kernel
theorem d_Fleet_chargeOf_1 : decode prog_3_method_9_code 1 = .ok (.getfield 24, 3) := by decide +kernel
theorem d_Fleet_chargeOf_4 : decode prog_3_method_9_code 4 = .ok (.iload_n 1, 1) := by decide +kernel
theorem d_Fleet_chargeOf_5 : decode prog_3_method_9_code 5 = .ok (.iaload, 1) := by decide +kernel
theorem d_Fleet_chargeOf_6 : decode prog_3_method_9_code 6 = .ok (.ireturn, 1) := by decide +kernel
theorem d_Fleet_endedBy_0 : decode prog_3_method_10_code 0 = .ok (.aload_n 0, 1) := by decide +kernel
theorem d_Fleet_endedBy_1 : decode prog_3_method_10_code 1 = .ok (.getfield 27, 3) := by decide +kernel
theorem d_Fleet_endedBy_4 : decode prog_3_method_10_code 4 = .ok (.iload_n 1, 1) := by decide +kernel
theorem d_Fleet_endedBy_5 : decode prog_3_method_10_code 5 = .ok (.iaload, 1) := by decide +kernel
theorem d_Fleet_endedBy_6 : decode prog_3_method_10_code 6 = .ok (.ireturn, 1) := by decide +kernel
theorem d_Fleet_emptyTimeOf_0 : decode prog_3_method_11_code 0 = .ok (.aload_n 0, 1) := by decide +kernel
theorem d_Fleet_emptyTimeOf_1 : decode prog_3_method_11_code 1 = .ok (.getfield 30, 3) := by decide +kernel
theorem d_Fleet_emptyTimeOf_4 : decode prog_3_method_11_code 4 = .ok (.iload_n 1, 1) := by decide +kernel
theorem d_Fleet_emptyTimeOf_5 : decode prog_3_method_11_code 5 = .ok (.iaload, 1) := by decide +kernel
theorem d_Fleet_emptyTimeOf_6 : decode prog_3_method_11_code 6 = .ok (.ireturn, 1) := by decide +kernel
theorem d_Fleet_isOnPiece_0 : decode prog_3_method_12_code 0 = .ok (.aload_n 0, 1) := by decide +kernel
theorem d_Fleet_isOnPiece_1 : decode prog_3_method_12_code 1 = .ok (.getfield 15, 3) := by decide +kernel
theorem d_Fleet_isOnPiece_4 : decode prog_3_method_12_code 4 = .ok (.iload_n 1, 1) := by decide +kernel
theorem d_Fleet_isOnPiece_5 : decode prog_3_method_12_code 5 = .ok (.iaload, 1) := by decide +kernel
theorem d_Fleet_isOnPiece_6 : decode prog_3_method_12_code 6 = .ok (.iconst (-1), 1) := by decide +kernel
theorem d_Fleet_isOnPiece_7 : decode prog_3_method_12_code 7 = .ok (.if_icmp .eq 7, 3) := by decide +kernel
theorem d_Fleet_isOnPiece_10 : decode prog_3_method_12_code 10 = .ok (.iconst 1, 1) := by decide +kernel
theorem d_Fleet_isOnPiece_11 : decode prog_3_method_12_code 11 = .ok (.goto 4, 3) := by decide +kernel
theorem d_Fleet_isOnPiece_14 : decode prog_3_method_12_code 14 = .ok (.iconst 0, 1) := by decide +kernel
theorem d_Fleet_isOnPiece_15 : decode prog_3_method_12_code 15 = .ok (.ireturn, 1) := by decide +kernel
theorem d_Fleet_isIdle_0 : decode prog_3_method_13_code 0 = .ok (.aload_n 0, 1) := by decide +kernel
theorem d_Fleet_isIdle_1 : decode prog_3_method_13_code 1 = .ok (.iload_n 1, 1) := by decide +kernel
theorem d_Fleet_isIdle_2 : decode prog_3_method_13_code 2 = .ok (.invokevirtual 37, 3) := by decide +kernel
theorem d_Fleet_isIdle_5 : decode prog_3_method_13_code 5 = .ok (.ifCond .ne 17, 3) := by decide +kernel
theorem d_Fleet_isIdle_8 : decode prog_3_method_13_code 8 = .ok (.aload_n 0, 1) := by decide +kernel
theorem d_Fleet_isIdle_9 : decode prog_3_method_13_code 9 = .ok (.getfield 21, 3) := by decide +kernel
theorem d_Fleet_isIdle_12 : decode prog_3_method_13_code 12 = .ok (.iload_n 1, 1) := by decide +kernel
theorem d_Fleet_isIdle_13 : decode prog_3_method_13_code 13 = .ok (.iaload, 1) := by decide +kernel
theorem d_Fleet_isIdle_14 : decode prog_3_method_13_code 14 = .ok (.iconst (-1), 1) := by decide +kernel
theorem d_Fleet_isIdle_15 : decode prog_3_method_13_code 15 = .ok (.if_icmp .ne 7, 3) := by decide +kernel
theorem d_Fleet_isIdle_18 : decode prog_3_method_13_code 18 = .ok (.iconst 1, 1) := by decide +kernel
theorem d_Fleet_isIdle_19 : decode prog_3_method_13_code 19 = .ok (.goto 4, 3) := by decide +kernel
theorem d_Fleet_isIdle_22 : decode prog_3_method_13_code 22 = .ok (.iconst 0, 1) := by decide +kernel
theorem d_Fleet_isIdle_23 : decode prog_3_method_13_code 23 = .ok (.ireturn, 1) := by decide +kernel
theorem d_Fleet_isTaken_0 : decode prog_3_method_14_code 0 = .ok (.iconst 0, 1) := by decide +kernel
theorem d_Fleet_isTaken_1 : decode prog_3_method_14_code 1 = .ok (.istore_n 2, 1) := by decide +kernel
theorem d_Fleet_isTaken_2 : decode prog_3_method_14_code 2 = .ok (.iload_n 2, 1) := by decide +kernel
theorem d_Fleet_isTaken_3 : decode prog_3_method_14_code 3 = .ok (.aload_n 0, 1) := by decide +kernel
theorem d_Fleet_isTaken_4 : decode prog_3_method_14_code 4 = .ok (.getfield 33, 3) := by decide +kernel
theorem d_Fleet_isTaken_7 : decode prog_3_method_14_code 7 = .ok (.if_icmp .ge 21, 3) := by decide +kernel
theorem d_Fleet_isTaken_10 : decode prog_3_method_14_code 10 = .ok (.aload_n 0, 1) := by decide +kernel
theorem d_Fleet_isTaken_11 : decode prog_3_method_14_code 11 = .ok (.getfield 15, 3) := by decide +kernel
theorem d_Fleet_isTaken_14 : decode prog_3_method_14_code 14 = .ok (.iload_n 2, 1) := by decide +kernel
theorem d_Fleet_isTaken_15 : decode prog_3_method_14_code 15 = .ok (.iaload, 1) := by decide +kernel
theorem d_Fleet_isTaken_16 : decode prog_3_method_14_code 16 = .ok (.iload_n 1, 1) := by decide +kernel
theorem d_Fleet_isTaken_17 : decode prog_3_method_14_code 17 = .ok (.if_icmp .ne 5, 3) := by decide +kernel
theorem d_Fleet_isTaken_20 : decode prog_3_method_14_code 20 = .ok (.iconst 1, 1) := by decide +kernel
theorem d_Fleet_isTaken_21 : decode prog_3_method_14_code 21 = .ok (.ireturn, 1) := by decide +kernel
theorem d_Fleet_isTaken_22 : decode prog_3_method_14_code 22 = .ok (.iinc 2 1, 3) := by decide +kernel
theorem d_Fleet_isTaken_25 : decode prog_3_method_14_code 25 = .ok (.goto (-23), 3) := by decide +kernel
theorem d_Fleet_isTaken_28 : decode prog_3_method_14_code 28 = .ok (.iconst 0, 1) := by decide +kernel
theorem d_Fleet_isTaken_29 : decode prog_3_method_14_code 29 = .ok (.ireturn, 1) := by decide +kernel
theorem d_Fleet_boundFor_0 : decode prog_3_method_15_code 0 = .ok (.iconst 0, 1) := by decide +kernel
theorem d_Fleet_boundFor_1 : decode prog_3_method_15_code 1 = .ok (.istore_n 2, 1) := by decide +kernel
theorem d_Fleet_boundFor_2 : decode prog_3_method_15_code 2 = .ok (.iconst 0, 1) := by decide +kernel
theorem d_Fleet_boundFor_3 : decode prog_3_method_15_code 3 = .ok (.istore_n 3, 1) := by decide +kernel
theorem d_Fleet_boundFor_4 : decode prog_3_method_15_code 4 = .ok (.iload_n 3, 1) := by decide +kernel
theorem d_Fleet_boundFor_5 : decode prog_3_method_15_code 5 = .ok (.aload_n 0, 1) := by decide +kernel
theorem d_Fleet_boundFor_6 : decode prog_3_method_15_code 6 = .ok (.getfield 33, 3) := by decide +kernel
theorem d_Fleet_boundFor_9 : decode prog_3_method_15_code 9 = .ok (.if_icmp .ge 22, 3) := by decide +kernel
theorem d_Fleet_boundFor_12 : decode prog_3_method_15_code 12 = .ok (.aload_n 0, 1) := by decide +kernel
theorem d_Fleet_boundFor_13 : decode prog_3_method_15_code 13 = .ok (.getfield 9, 3) := by decide +kernel
theorem d_Fleet_boundFor_16 : decode prog_3_method_15_code 16 = .ok (.iload_n 3, 1) := by decide +kernel
theorem d_Fleet_boundFor_17 : decode prog_3_method_15_code 17 = .ok (.iaload, 1) := by decide +kernel
theorem d_Fleet_boundFor_18 : decode prog_3_method_15_code 18 = .ok (.iload_n 1, 1) := by decide +kernel
theorem d_Fleet_boundFor_19 : decode prog_3_method_15_code 19 = .ok (.if_icmp .ne 6, 3) := by decide +kernel
theorem d_Fleet_boundFor_22 : decode prog_3_method_15_code 22 = .ok (.iinc 2 1, 3) := by decide +kernel
theorem d_Fleet_boundFor_25 : decode prog_3_method_15_code 25 = .ok (.iinc 3 1, 3) := by decide +kernel
theorem d_Fleet_boundFor_28 : decode prog_3_method_15_code 28 = .ok (.goto (-24), 3) := by decide +kernel
theorem d_Fleet_boundFor_31 : decode prog_3_method_15_code 31 = .ok (.iload_n 2, 1) := by decide +kernel
theorem d_Fleet_boundFor_32 : decode prog_3_method_15_code 32 = .ok (.ireturn, 1) := by decide +kernel
theorem d_Fleet_onPieces_0 : decode prog_3_method_16_code 0 = .ok (.iconst 0, 1) := by decide +kernel
theorem d_Fleet_onPieces_1 : decode prog_3_method_16_code 1 = .ok (.istore_n 1, 1) := by decide +kernel
theorem d_Fleet_onPieces_2 : decode prog_3_method_16_code 2 = .ok (.iconst 0, 1) := by decide +kernel
theorem d_Fleet_onPieces_3 : decode prog_3_method_16_code 3 = .ok (.istore_n 2, 1) := by decide +kernel
theorem d_Fleet_onPieces_4 : decode prog_3_method_16_code 4 = .ok (.iload_n 2, 1) := by decide +kernel
theorem d_Fleet_onPieces_5 : decode prog_3_method_16_code 5 = .ok (.aload_n 0, 1) := by decide +kernel
theorem d_Fleet_onPieces_6 : decode prog_3_method_16_code 6 = .ok (.getfield 33, 3) := by decide +kernel
theorem d_Fleet_onPieces_9 : decode prog_3_method_16_code 9 = .ok (.if_icmp .ge 20, 3) := by decide +kernel
theorem d_Fleet_onPieces_12 : decode prog_3_method_16_code 12 = .ok (.aload_n 0, 1) := by decide +kernel
theorem d_Fleet_onPieces_13 : decode prog_3_method_16_code 13 = .ok (.iload_n 2, 1) := by decide +kernel
theorem d_Fleet_onPieces_14 : decode prog_3_method_16_code 14 = .ok (.invokevirtual 37, 3) := by decide +kernel
theorem d_Fleet_onPieces_17 : decode prog_3_method_16_code 17 = .ok (.ifCond .eq 6, 3) := by decide +kernel
theorem d_Fleet_onPieces_20 : decode prog_3_method_16_code 20 = .ok (.iinc 1 1, 3) := by decide +kernel
theorem d_Fleet_onPieces_23 : decode prog_3_method_16_code 23 = .ok (.iinc 2 1, 3) := by decide +kernel
theorem d_Fleet_onPieces_26 : decode prog_3_method_16_code 26 = .ok (.goto (-22), 3) := by decide +kernel
theorem d_Fleet_onPieces_29 : decode prog_3_method_16_code 29 = .ok (.iload_n 1, 1) := by decide +kernel
theorem d_Fleet_onPieces_30 : decode prog_3_method_16_code 30 = .ok (.ireturn, 1) := by decide +kernel
theorem d_Fleet_takeJob_0 : decode prog_3_method_17_code 0 = .ok (.aload_n 0, 1) := by decide +kernel
theorem d_Fleet_takeJob_1 : decode prog_3_method_17_code 1 = .ok (.getfield 21, 3) := by decide +kernel
theorem d_Fleet_takeJob_4 : decode prog_3_method_17_code 4 = .ok (.iload_n 1, 1) := by decide +kernel
theorem d_Fleet_takeJob_5 : decode prog_3_method_17_code 5 = .ok (.iload_n 2, 1) := by decide +kernel
theorem d_Fleet_takeJob_6 : decode prog_3_method_17_code 6 = .ok (.iastore, 1) := by decide +kernel
theorem d_Fleet_takeJob_7 : decode prog_3_method_17_code 7 = .ok (.return_, 1) := by decide +kernel
theorem d_Fleet_endJob_0 : decode prog_3_method_18_code 0 = .ok (.aload_n 0, 1) := by decide +kernel
theorem d_Fleet_endJob_1 : decode prog_3_method_18_code 1 = .ok (.getfield 21, 3) := by decide +kernel
theorem d_Fleet_endJob_4 : decode prog_3_method_18_code 4 = .ok (.iload_n 1, 1) := by decide +kernel
theorem d_Fleet_endJob_5 : decode prog_3_method_18_code 5 = .ok (.iconst (-1), 1) := by decide +kernel
theorem d_Fleet_endJob_6 : decode prog_3_method_18_code 6 = .ok (.iastore, 1) := by decide +kernel
theorem d_Fleet_endJob_7 : decode prog_3_method_18_code 7 = .ok (.aload_n 0, 1) := by decide +kernel
theorem d_Fleet_endJob_8 : decode prog_3_method_18_code 8 = .ok (.getfield 27, 3) := by decide +kernel
theorem d_Fleet_endJob_11 : decode prog_3_method_18_code 11 = .ok (.iload_n 1, 1) := by decide +kernel
theorem d_Fleet_endJob_12 : decode prog_3_method_18_code 12 = .ok (.dup2, 1) := by decide +kernel
theorem d_Fleet_endJob_13 : decode prog_3_method_18_code 13 = .ok (.iaload, 1) := by decide +kernel
theorem d_Fleet_endJob_14 : decode prog_3_method_18_code 14 = .ok (.iconst 1, 1) := by decide +kernel
theorem d_Fleet_endJob_15 : decode prog_3_method_18_code 15 = .ok (.iadd, 1) := by decide +kernel
theorem d_Fleet_endJob_16 : decode prog_3_method_18_code 16 = .ok (.iastore, 1) := by decide +kernel
theorem d_Fleet_endJob_17 : decode prog_3_method_18_code 17 = .ok (.return_, 1) := by decide +kernel
theorem d_Fleet_chargeUp_0 : decode prog_3_method_19_code 0 = .ok (.aload_n 0, 1) := by decide +kernel
theorem d_Fleet_chargeUp_1 : decode prog_3_method_19_code 1 = .ok (.getfield 24, 3) := by decide +kernel
theorem d_Fleet_chargeUp_4 : decode prog_3_method_19_code 4 = .ok (.iload_n 1, 1) := by decide +kernel
theorem d_Fleet_chargeUp_5 : decode prog_3_method_19_code 5 = .ok (.sipush 1000, 3) := by decide +kernel
theorem d_Fleet_chargeUp_8 : decode prog_3_method_19_code 8 = .ok (.iastore, 1) := by decide +kernel
theorem d_Fleet_chargeUp_9 : decode prog_3_method_19_code 9 = .ok (.return_, 1) := by decide +kernel
theorem d_Fleet_enter_0 : decode prog_3_method_20_code 0 = .ok (.aload_n 0, 1) := by decide +kernel
theorem d_Fleet_enter_1 : decode prog_3_method_20_code 1 = .ok (.getfield 15, 3) := by decide +kernel
theorem d_Fleet_enter_4 : decode prog_3_method_20_code 4 = .ok (.iload_n 1, 1) := by decide +kernel
theorem d_Fleet_enter_5 : decode prog_3_method_20_code 5 = .ok (.iload_n 2, 1) := by decide +kernel
theorem d_Fleet_enter_6 : decode prog_3_method_20_code 6 = .ok (.iastore, 1) := by decide +kernel
theorem d_Fleet_enter_7 : decode prog_3_method_20_code 7 = .ok (.aload_n 0, 1) := by decide +kernel
theorem d_Fleet_enter_8 : decode prog_3_method_20_code 8 = .ok (.getfield 9, 3) := by decide +kernel
theorem d_Fleet_enter_11 : decode prog_3_method_20_code 11 = .ok (.iload_n 1, 1) := by decide +kernel
theorem d_Fleet_enter_12 : decode prog_3_method_20_code 12 = .ok (.iload_n 3, 1) := by decide +kernel
theorem d_Fleet_enter_13 : decode prog_3_method_20_code 13 = .ok (.iastore, 1) := by decide +kernel
theorem d_Fleet_enter_14 : decode prog_3_method_20_code 14 = .ok (.aload_n 0, 1) := by decide +kernel
theorem d_Fleet_enter_15 : decode prog_3_method_20_code 15 = .ok (.getfield 18, 3) := by decide +kernel
theorem d_Fleet_enter_18 : decode prog_3_method_20_code 18 = .ok (.iload_n 1, 1) := by decide +kernel
theorem d_Fleet_enter_19 : decode prog_3_method_20_code 19 = .ok (.iload 5, 2) := by decide +kernel
theorem d_Fleet_enter_21 : decode prog_3_method_20_code 21 = .ok (.iload 4, 2) := by decide +kernel
theorem d_Fleet_enter_23 : decode prog_3_method_20_code 23 = .ok (.iadd, 1) := by decide +kernel
theorem d_Fleet_enter_24 : decode prog_3_method_20_code 24 = .ok (.iastore, 1) := by decide +kernel
theorem d_Fleet_enter_25 : decode prog_3_method_20_code 25 = .ok (.aload_n 0, 1) := by decide +kernel
theorem d_Fleet_enter_26 : decode prog_3_method_20_code 26 = .ok (.getfield 24, 3) := by decide +kernel
theorem d_Fleet_enter_29 : decode prog_3_method_20_code 29 = .ok (.iload_n 1, 1) := by decide +kernel
theorem d_Fleet_enter_30 : decode prog_3_method_20_code 30 = .ok (.dup2, 1) := by decide +kernel
theorem d_Fleet_enter_31 : decode prog_3_method_20_code 31 = .ok (.iaload, 1) := by decide +kernel
theorem d_Fleet_enter_32 : decode prog_3_method_20_code 32 = .ok (.iload 4, 2) := by decide +kernel
theorem d_Fleet_enter_34 : decode prog_3_method_20_code 34 = .ok (.isub, 1) := by decide +kernel
theorem d_Fleet_enter_35 : decode prog_3_method_20_code 35 = .ok (.iastore, 1) := by decide +kernel
theorem d_Fleet_enter_36 : decode prog_3_method_20_code 36 = .ok (.return_, 1) := by decide +kernel
theorem d_Fleet_addEmptyTime_0 : decode prog_3_method_21_code 0 = .ok (.aload_n 0, 1) := by decide +kernel
theorem d_Fleet_addEmptyTime_1 : decode prog_3_method_21_code 1 = .ok (.getfield 30, 3) := by decide +kernel
theorem d_Fleet_addEmptyTime_4 : decode prog_3_method_21_code 4 = .ok (.iload_n 1, 1) := by decide +kernel
theorem d_Fleet_addEmptyTime_5 : decode prog_3_method_21_code 5 = .ok (.dup2, 1) := by decide +kernel
theorem d_Fleet_addEmptyTime_6 : decode prog_3_method_21_code 6 = .ok (.iaload, 1) := by decide +kernel
theorem d_Fleet_addEmptyTime_7 : decode prog_3_method_21_code 7 = .ok (.iload_n 2, 1) := by decide +kernel
theorem d_Fleet_addEmptyTime_8 : decode prog_3_method_21_code 8 = .ok (.iadd, 1) := by decide +kernel
theorem d_Fleet_addEmptyTime_9 : decode prog_3_method_21_code 9 = .ok (.iastore, 1) := by decide +kernel
theorem d_Fleet_addEmptyTime_10 : decode prog_3_method_21_code 10 = .ok (.return_, 1) := by decide +kernel
theorem d_Fleet_arrive_0 : decode prog_3_method_22_code 0 = .ok (.iconst 0, 1) := by decide +kernel
theorem d_Fleet_arrive_1 : decode prog_3_method_22_code 1 = .ok (.istore_n 2, 1) := by decide +kernel
theorem d_Fleet_arrive_2 : decode prog_3_method_22_code 2 = .ok (.iconst 0, 1) := by decide +kernel
theorem d_Fleet_arrive_3 : decode prog_3_method_22_code 3 = .ok (.istore_n 3, 1) := by decide +kernel
theorem d_Fleet_arrive_4 : decode prog_3_method_22_code 4 = .ok (.iload_n 3, 1) := by decide +kernel
theorem d_Fleet_arrive_5 : decode prog_3_method_22_code 5 = .ok (.aload_n 0, 1) := by decide +kernel
theorem d_Fleet_arrive_6 : decode prog_3_method_22_code 6 = .ok (.getfield 33, 3) := by decide +kernel
theorem d_Fleet_arrive_9 : decode prog_3_method_22_code 9 = .ok (.if_icmp .ge 44, 3) := by decide +kernel
theorem d_Fleet_arrive_12 : decode prog_3_method_22_code 12 = .ok (.aload_n 0, 1) := by decide +kernel
theorem d_Fleet_arrive_13 : decode prog_3_method_22_code 13 = .ok (.iload_n 3, 1) := by decide +kernel
theorem d_Fleet_arrive_14 : decode prog_3_method_22_code 14 = .ok (.invokevirtual 37, 3) := by decide +kernel
theorem d_Fleet_arrive_17 : decode prog_3_method_22_code 17 = .ok (.ifCond .eq 30, 3) := by decide +kernel
theorem d_Fleet_arrive_20 : decode prog_3_method_22_code 20 = .ok (.aload_n 0, 1) := by decide +kernel
theorem d_Fleet_arrive_21 : decode prog_3_method_22_code 21 = .ok (.getfield 18, 3) := by decide +kernel
theorem d_Fleet_arrive_24 : decode prog_3_method_22_code 24 = .ok (.iload_n 3, 1) := by decide +kernel
theorem d_Fleet_arrive_25 : decode prog_3_method_22_code 25 = .ok (.iaload, 1) := by decide +kernel
theorem d_Fleet_arrive_26 : decode prog_3_method_22_code 26 = .ok (.iload_n 1, 1) := by decide +kernel
theorem d_Fleet_arrive_27 : decode prog_3_method_22_code 27 = .ok (.if_icmp .gt 20, 3) := by decide +kernel
theorem d_Fleet_arrive_30 : decode prog_3_method_22_code 30 = .ok (.aload_n 0, 1) := by decide +kernel
theorem d_Fleet_arrive_31 : decode prog_3_method_22_code 31 = .ok (.getfield 15, 3) := by decide +kernel
theorem d_Fleet_arrive_34 : decode prog_3_method_22_code 34 = .ok (.iload_n 3, 1) := by decide +kernel
theorem d_Fleet_arrive_35 : decode prog_3_method_22_code 35 = .ok (.iconst (-1), 1) := by decide +kernel
theorem d_Fleet_arrive_36 : decode prog_3_method_22_code 36 = .ok (.iastore, 1) := by decide +kernel
theorem d_Fleet_arrive_37 : decode prog_3_method_22_code 37 = .ok (.aload_n 0, 1) := by decide +kernel
theorem d_Fleet_arrive_38 : decode prog_3_method_22_code 38 = .ok (.getfield 18, 3) := by decide +kernel
theorem d_Fleet_arrive_41 : decode prog_3_method_22_code 41 = .ok (.iload_n 3, 1) := by decide +kernel
theorem d_Fleet_arrive_42 : decode prog_3_method_22_code 42 = .ok (.iconst (-1), 1) := by decide +kernel
theorem d_Fleet_arrive_43 : decode prog_3_method_22_code 43 = .ok (.iastore, 1) := by decide +kernel
theorem d_Fleet_arrive_44 : decode prog_3_method_22_code 44 = .ok (.iinc 2 1, 3) := by decide +kernel
theorem d_Fleet_arrive_47 : decode prog_3_method_22_code 47 = .ok (.iinc 3 1, 3) := by decide +kernel
theorem d_Fleet_arrive_50 : decode prog_3_method_22_code 50 = .ok (.goto (-46), 3) := by decide +kernel
theorem d_Fleet_arrive_53 : decode prog_3_method_22_code 53 = .ok (.iload_n 2, 1) := by decide +kernel
theorem d_Fleet_arrive_54 : decode prog_3_method_22_code 54 = .ok (.ireturn, 1) := by decide +kernel
