theorem d_Choice_begin_0 : decode prog_2_method_2_code 0 = .ok (.aload_n 0, 1) := by decide +kernel
theorem d_Choice_begin_1 : decode prog_2_method_2_code 1 = .ok (.iload_n 1, 1) := by decide +kernel
theorem d_Choice_begin_2 : decode prog_2_method_2_code 2 = .ok (.putfield 21, 3) := by decide +kernel
theorem d_Choice_begin_5 : decode prog_2_method_2_code 5 = .ok (.aload_n 0, 1) := by decide +kernel
theorem d_Choice_begin_6 : decode prog_2_method_2_code 6 = .ok (.iload_n 2, 1) := by decide +kernel
theorem d_Choice_begin_7 : decode prog_2_method_2_code 7 = .ok (.putfield 25, 3) := by decide +kernel
theorem d_Choice_begin_10 : decode prog_2_method_2_code 10 = .ok (.aload_n 0, 1) := by decide +kernel
theorem d_Choice_begin_11 : decode prog_2_method_2_code 11 = .ok (.iconst 0, 1) := by decide +kernel
theorem d_Choice_begin_12 : decode prog_2_method_2_code 12 = .ok (.putfield 28, 3) := by decide +kernel
theorem d_Choice_begin_15 : decode prog_2_method_2_code 15 = .ok (.iconst 0, 1) := by decide +kernel
theorem d_Choice_begin_16 : decode prog_2_method_2_code 16 = .ok (.istore_n 3, 1) := by decide +kernel
theorem d_Choice_begin_17 : decode prog_2_method_2_code 17 = .ok (.iload_n 3, 1) := by decide +kernel
theorem d_Choice_begin_18 : decode prog_2_method_2_code 18 = .ok (.aload_n 0, 1) := by decide +kernel
theorem d_Choice_begin_19 : decode prog_2_method_2_code 19 = .ok (.getfield 9, 3) := by decide +kernel
theorem d_Choice_begin_22 : decode prog_2_method_2_code 22 = .ok (.arraylength, 1) := by decide +kernel
theorem d_Choice_begin_23 : decode prog_2_method_2_code 23 = .ok (.if_icmp .ge 16, 3) := by decide +kernel
theorem d_Choice_begin_26 : decode prog_2_method_2_code 26 = .ok (.aload_n 0, 1) := by decide +kernel
theorem d_Choice_begin_27 : decode prog_2_method_2_code 27 = .ok (.getfield 9, 3) := by decide +kernel
theorem d_Choice_begin_30 : decode prog_2_method_2_code 30 = .ok (.iload_n 3, 1) := by decide +kernel
theorem d_Choice_begin_31 : decode prog_2_method_2_code 31 = .ok (.iconst 0, 1) := by decide +kernel
theorem d_Choice_begin_32 : decode prog_2_method_2_code 32 = .ok (.iastore, 1) := by decide +kernel
theorem d_Choice_begin_33 : decode prog_2_method_2_code 33 = .ok (.iinc 3 1, 3) := by decide +kernel
theorem d_Choice_begin_36 : decode prog_2_method_2_code 36 = .ok (.goto (-19), 3) := by decide +kernel
theorem d_Choice_begin_39 : decode prog_2_method_2_code 39 = .ok (.return_, 1) := by decide +kernel
theorem d_Choice_offer_0 : decode prog_2_method_3_code 0 = .ok (.aload_n 0, 1) := by decide +kernel
theorem d_Choice_offer_1 : decode prog_2_method_3_code 1 = .ok (.getfield 9, 3) := by decide +kernel
theorem d_Choice_offer_4 : decode prog_2_method_3_code 4 = .ok (.iload_n 1, 1) := by decide +kernel
theorem d_Choice_offer_5 : decode prog_2_method_3_code 5 = .ok (.bipush 6, 2) := by decide +kernel
theorem d_Choice_offer_7 : decode prog_2_method_3_code 7 = .ok (.imul, 1) := by decide +kernel
theorem d_Choice_offer_8 : decode prog_2_method_3_code 8 = .ok (.iload_n 2, 1) := by decide +kernel
theorem d_Choice_offer_9 : decode prog_2_method_3_code 9 = .ok (.iadd, 1) := by decide +kernel
theorem d_Choice_offer_10 : decode prog_2_method_3_code 10 = .ok (.sipush 6000, 3) := by decide +kernel
theorem d_Choice_offer_13 : decode prog_2_method_3_code 13 = .ok (.iload_n 3, 1) := by decide +kernel
theorem d_Choice_offer_14 : decode prog_2_method_3_code 14 = .ok (.isub, 1) := by decide +kernel
theorem d_Choice_offer_15 : decode prog_2_method_3_code 15 = .ok (.iastore, 1) := by decide +kernel
theorem d_Choice_offer_16 : decode prog_2_method_3_code 16 = .ok (.aload_n 0, 1) := by decide +kernel
theorem d_Choice_offer_17 : decode prog_2_method_3_code 17 = .ok (.dup, 1) := by decide +kernel
theorem d_Choice_offer_18 : decode prog_2_method_3_code 18 = .ok (.getfield 28, 3) := by decide +kernel
theorem d_Choice_offer_21 : decode prog_2_method_3_code 21 = .ok (.iconst 1, 1) := by decide +kernel
theorem d_Choice_offer_22 : decode prog_2_method_3_code 22 = .ok (.iload_n 2, 1) := by decide +kernel
theorem d_Choice_offer_23 : decode prog_2_method_3_code 23 = .ok (.ishl, 1) := by decide +kernel
theorem d_Choice_offer_24 : decode prog_2_method_3_code 24 = .ok (.ior, 1) := by decide +kernel
theorem d_Choice_offer_25 : decode prog_2_method_3_code 25 = .ok (.putfield 28, 3) := by decide +kernel
theorem d_Choice_offer_28 : decode prog_2_method_3_code 28 = .ok (.return_, 1) := by decide +kernel
theorem d_Choice_carrierFor_0 : decode prog_2_method_5_code 0 = .ok (.aload_n 0, 1) := by decide +kernel
theorem d_Choice_carrierFor_1 : decode prog_2_method_5_code 1 = .ok (.getfield 18, 3) := by decide +kernel
theorem d_Choice_carrierFor_4 : decode prog_2_method_5_code 4 = .ok (.iload_n 1, 1) := by decide +kernel
theorem d_Choice_carrierFor_5 : decode prog_2_method_5_code 5 = .ok (.iaload, 1) := by decide +kernel
theorem d_Choice_carrierFor_6 : decode prog_2_method_5_code 6 = .ok (.ireturn, 1) := by decide +kernel
theorem d_Choice_worthOf_0 : decode prog_2_method_11_code 0 = .ok (.aload_n 0, 1) := by decide +kernel
theorem d_Choice_worthOf_1 : decode prog_2_method_11_code 1 = .ok (.getfield 9, 3) := by decide +kernel
theorem d_Choice_worthOf_4 : decode prog_2_method_11_code 4 = .ok (.iload_n 1, 1) := by decide +kernel
theorem d_Choice_worthOf_5 : decode prog_2_method_11_code 5 = .ok (.bipush 6, 2) := by decide +kernel
theorem d_Choice_worthOf_7 : decode prog_2_method_11_code 7 = .ok (.imul, 1) := by decide +kernel
theorem d_Choice_worthOf_8 : decode prog_2_method_11_code 8 = .ok (.iload_n 2, 1) := by decide +kernel
theorem d_Choice_worthOf_9 : decode prog_2_method_11_code 9 = .ok (.iadd, 1) := by decide +kernel
theorem d_Choice_worthOf_10 : decode prog_2_method_11_code 10 = .ok (.iaload, 1) := by decide +kernel
theorem d_Choice_worthOf_11 : decode prog_2_method_11_code 11 = .ok (.ireturn, 1) := by decide +kernel
theorem d_Choice_canTake_0 : decode prog_2_method_9_code 0 = .ok (.aload_n 0, 1) := by decide +kernel
theorem d_Choice_canTake_1 : decode prog_2_method_9_code 1 = .ok (.iload_n 1, 1) := by decide +kernel
theorem d_Choice_canTake_2 : decode prog_2_method_9_code 2 = .ok (.iload_n 2, 1) := by decide +kernel
theorem d_Choice_canTake_3 : decode prog_2_method_9_code 3 = .ok (.invokevirtual 58, 3) := by decide +kernel
theorem d_Choice_canTake_6 : decode prog_2_method_9_code 6 = .ok (.ifCond .le 15, 3) := by decide +kernel
theorem d_Choice_canTake_9 : decode prog_2_method_9_code 9 = .ok (.iload_n 3, 1) := by decide +kernel
theorem d_Choice_canTake_10 : decode prog_2_method_9_code 10 = .ok (.iconst 1, 1) := by decide +kernel
theorem d_Choice_canTake_11 : decode prog_2_method_9_code 11 = .ok (.iload_n 2, 1) := by decide +kernel
theorem d_Choice_canTake_12 : decode prog_2_method_9_code 12 = .ok (.ishl, 1) := by decide +kernel
theorem d_Choice_canTake_13 : decode prog_2_method_9_code 13 = .ok (.iand, 1) := by decide +kernel
theorem d_Choice_canTake_14 : decode prog_2_method_9_code 14 = .ok (.ifCond .ne 7, 3) := by decide +kernel
theorem d_Choice_canTake_17 : decode prog_2_method_9_code 17 = .ok (.iconst 1, 1) := by decide +kernel
theorem d_Choice_canTake_18 : decode prog_2_method_9_code 18 = .ok (.goto 4, 3) := by decide +kernel
theorem d_Choice_canTake_21 : decode prog_2_method_9_code 21 = .ok (.iconst 0, 1) := by decide +kernel
theorem d_Choice_canTake_22 : decode prog_2_method_9_code 22 = .ok (.ireturn, 1) := by decide +kernel
theorem d_Choice_bestFrom_0 : decode prog_2_method_12_code 0 = .ok (.aload_n 0, 1) := by decide +kernel
theorem d_Choice_bestFrom_1 : decode prog_2_method_12_code 1 = .ok (.getfield 15, 3) := by decide +kernel
theorem d_Choice_bestFrom_4 : decode prog_2_method_12_code 4 = .ok (.iload_n 1, 1) := by decide +kernel
theorem d_Choice_bestFrom_5 : decode prog_2_method_12_code 5 = .ok (.bipush 6, 2) := by decide +kernel
theorem d_Choice_bestFrom_7 : decode prog_2_method_12_code 7 = .ok (.ishl, 1) := by decide +kernel
theorem d_Choice_bestFrom_8 : decode prog_2_method_12_code 8 = .ok (.iload_n 2, 1) := by decide +kernel
theorem d_Choice_bestFrom_9 : decode prog_2_method_12_code 9 = .ok (.iadd, 1) := by decide +kernel
theorem d_Choice_bestFrom_10 : decode prog_2_method_12_code 10 = .ok (.iaload, 1) := by decide +kernel
theorem d_Choice_bestFrom_11 : decode prog_2_method_12_code 11 = .ok (.ireturn, 1) := by decide +kernel
theorem d_Choice_worthWith_0 : decode prog_2_method_10_code 0 = .ok (.aload_n 0, 1) := by decide +kernel
theorem d_Choice_worthWith_1 : decode prog_2_method_10_code 1 = .ok (.iload_n 1, 1) := by decide +kernel
theorem d_Choice_worthWith_2 : decode prog_2_method_10_code 2 = .ok (.iload_n 2, 1) := by decide +kernel
theorem d_Choice_worthWith_3 : decode prog_2_method_10_code 3 = .ok (.invokevirtual 58, 3) := by decide +kernel
theorem d_Choice_worthWith_6 : decode prog_2_method_10_code 6 = .ok (.aload_n 0, 1) := by decide +kernel
theorem d_Choice_worthWith_7 : decode prog_2_method_10_code 7 = .ok (.iload_n 1, 1) := by decide +kernel
theorem d_Choice_worthWith_8 : decode prog_2_method_10_code 8 = .ok (.iconst 1, 1) := by decide +kernel
theorem d_Choice_worthWith_9 : decode prog_2_method_10_code 9 = .ok (.iadd, 1) := by decide +kernel
theorem d_Choice_worthWith_10 : decode prog_2_method_10_code 10 = .ok (.iload_n 3, 1) := by decide +kernel
theorem d_Choice_worthWith_11 : decode prog_2_method_10_code 11 = .ok (.iconst 1, 1) := by decide +kernel
theorem d_Choice_worthWith_12 : decode prog_2_method_10_code 12 = .ok (.iload_n 2, 1) := by decide +kernel
theorem d_Choice_worthWith_13 : decode prog_2_method_10_code 13 = .ok (.ishl, 1) := by decide +kernel
theorem d_Choice_worthWith_14 : decode prog_2_method_10_code 14 = .ok (.ior, 1) := by decide +kernel
theorem d_Choice_worthWith_15 : decode prog_2_method_10_code 15 = .ok (.invokevirtual 42, 3) := by decide +kernel
theorem d_Choice_worthWith_18 : decode prog_2_method_10_code 18 = .ok (.iadd, 1) := by decide +kernel
theorem d_Choice_worthWith_19 : decode prog_2_method_10_code 19 = .ok (.ireturn, 1) := by decide +kernel
theorem d_Choice_mostWorth_0 : decode prog_2_method_7_code 0 = .ok (.aload_n 0, 1) := by decide +kernel
theorem d_Choice_mostWorth_1 : decode prog_2_method_7_code 1 = .ok (.iload_n 1, 1) := by decide +kernel
theorem d_Choice_mostWorth_2 : decode prog_2_method_7_code 2 = .ok (.iconst 1, 1) := by decide +kernel
theorem d_Choice_mostWorth_3 : decode prog_2_method_7_code 3 = .ok (.iadd, 1) := by decide +kernel
theorem d_Choice_mostWorth_4 : decode prog_2_method_7_code 4 = .ok (.iload_n 2, 1) := by decide +kernel
theorem d_Choice_mostWorth_5 : decode prog_2_method_7_code 5 = .ok (.invokevirtual 42, 3) := by decide +kernel
theorem d_Choice_mostWorth_8 : decode prog_2_method_7_code 8 = .ok (.istore_n 3, 1) := by decide +kernel
theorem d_Choice_mostWorth_9 : decode prog_2_method_7_code 9 = .ok (.iconst 0, 1) := by decide +kernel
theorem d_Choice_mostWorth_10 : decode prog_2_method_7_code 10 = .ok (.istore 4, 2) := by decide +kernel
theorem d_Choice_mostWorth_12 : decode prog_2_method_7_code 12 = .ok (.iload 4, 2) := by decide +kernel
theorem d_Choice_mostWorth_14 : decode prog_2_method_7_code 14 = .ok (.aload_n 0, 1) := by decide +kernel
theorem d_Choice_mostWorth_15 : decode prog_2_method_7_code 15 = .ok (.getfield 25, 3) := by decide +kernel
theorem d_Choice_mostWorth_18 : decode prog_2_method_7_code 18 = .ok (.if_icmp .ge 33, 3) := by decide +kernel
theorem d_Choice_mostWorth_21 : decode prog_2_method_7_code 21 = .ok (.aload_n 0, 1) := by decide +kernel
theorem d_Choice_mostWorth_22 : decode prog_2_method_7_code 22 = .ok (.iload_n 1, 1) := by decide +kernel
theorem d_Choice_mostWorth_23 : decode prog_2_method_7_code 23 = .ok (.iload 4, 2) := by decide +kernel
theorem d_Choice_mostWorth_25 : decode prog_2_method_7_code 25 = .ok (.iload_n 2, 1) := by decide +kernel
theorem d_Choice_mostWorth_26 : decode prog_2_method_7_code 26 = .ok (.invokevirtual 45, 3) := by decide +kernel
theorem d_Choice_mostWorth_29 : decode prog_2_method_7_code 29 = .ok (.ifCond .eq 16, 3) := by decide +kernel
theorem d_Choice_mostWorth_32 : decode prog_2_method_7_code 32 = .ok (.iload_n 3, 1) := by decide +kernel
theorem d_Choice_mostWorth_33 : decode prog_2_method_7_code 33 = .ok (.aload_n 0, 1) := by decide +kernel
theorem d_Choice_mostWorth_34 : decode prog_2_method_7_code 34 = .ok (.iload_n 1, 1) := by decide +kernel
theorem d_Choice_mostWorth_35 : decode prog_2_method_7_code 35 = .ok (.iload 4, 2) := by decide +kernel
theorem d_Choice_mostWorth_37 : decode prog_2_method_7_code 37 = .ok (.iload_n 2, 1) := by decide +kernel
theorem d_Choice_mostWorth_38 : decode prog_2_method_7_code 38 = .ok (.invokevirtual 49, 3) := by decide +kernel
theorem d_Choice_mostWorth_41 : decode prog_2_method_7_code 41 = .ok (.invokestatic 53, 3) := by decide +kernel
theorem d_Choice_mostWorth_44 : decode prog_2_method_7_code 44 = .ok (.istore_n 3, 1) := by decide +kernel
theorem d_Choice_mostWorth_45 : decode prog_2_method_7_code 45 = .ok (.iinc 4 1, 3) := by decide +kernel
theorem d_Choice_mostWorth_48 : decode prog_2_method_7_code 48 = .ok (.goto (-36), 3) := by decide +kernel
theorem d_Choice_mostWorth_51 : decode prog_2_method_7_code 51 = .ok (.iload_n 3, 1) := by decide +kernel
theorem d_Choice_mostWorth_52 : decode prog_2_method_7_code 52 = .ok (.ireturn, 1) := by decide +kernel
theorem d_Choice_findBest_0 : decode prog_2_method_6_code 0 = .ok (.iconst 0, 1) := by decide +kernel
theorem d_Choice_findBest_1 : decode prog_2_method_6_code 1 = .ok (.istore_n 2, 1) := by decide +kernel
theorem d_Choice_findBest_2 : decode prog_2_method_6_code 2 = .ok (.iload_n 2, 1) := by decide +kernel
theorem d_Choice_findBest_3 : decode prog_2_method_6_code 3 = .ok (.aload_n 0, 1) := by decide +kernel
theorem d_Choice_findBest_4 : decode prog_2_method_6_code 4 = .ok (.getfield 28, 3) := by decide +kernel
theorem d_Choice_findBest_7 : decode prog_2_method_6_code 7 = .ok (.if_icmp .gt 37, 3) := by decide +kernel
theorem d_Choice_findBest_10 : decode prog_2_method_6_code 10 = .ok (.iload_n 2, 1) := by decide +kernel
theorem d_Choice_findBest_11 : decode prog_2_method_6_code 11 = .ok (.aload_n 0, 1) := by decide +kernel
theorem d_Choice_findBest_12 : decode prog_2_method_6_code 12 = .ok (.getfield 28, 3) := by decide +kernel
theorem d_Choice_findBest_15 : decode prog_2_method_6_code 15 = .ok (.iconst (-1), 1) := by decide +kernel
theorem d_Choice_findBest_16 : decode prog_2_method_6_code 16 = .ok (.ixor, 1) := by decide +kernel
theorem d_Choice_findBest_17 : decode prog_2_method_6_code 17 = .ok (.iand, 1) := by decide +kernel
theorem d_Choice_findBest_18 : decode prog_2_method_6_code 18 = .ok (.ifCond .ne 20, 3) := by decide +kernel
theorem d_Choice_findBest_21 : decode prog_2_method_6_code 21 = .ok (.aload_n 0, 1) := by decide +kernel
theorem d_Choice_findBest_22 : decode prog_2_method_6_code 22 = .ok (.getfield 15, 3) := by decide +kernel
theorem d_Choice_findBest_25 : decode prog_2_method_6_code 25 = .ok (.iload_n 1, 1) := by decide +kernel
theorem d_Choice_findBest_26 : decode prog_2_method_6_code 26 = .ok (.bipush 6, 2) := by decide +kernel
theorem d_Choice_findBest_28 : decode prog_2_method_6_code 28 = .ok (.ishl, 1) := by decide +kernel
theorem d_Choice_findBest_29 : decode prog_2_method_6_code 29 = .ok (.iload_n 2, 1) := by decide +kernel
theorem d_Choice_findBest_30 : decode prog_2_method_6_code 30 = .ok (.iadd, 1) := by decide +kernel
theorem d_Choice_findBest_31 : decode prog_2_method_6_code 31 = .ok (.aload_n 0, 1) := by decide +kernel
theorem d_Choice_findBest_32 : decode prog_2_method_6_code 32 = .ok (.iload_n 1, 1) := by decide +kernel
theorem d_Choice_findBest_33 : decode prog_2_method_6_code 33 = .ok (.iload_n 2, 1) := by decide +kernel
theorem d_Choice_findBest_34 : decode prog_2_method_6_code 34 = .ok (.invokevirtual 39, 3) := by decide +kernel
theorem d_Choice_findBest_37 : decode prog_2_method_6_code 37 = .ok (.iastore, 1) := by decide +kernel
theorem d_Choice_findBest_38 : decode prog_2_method_6_code 38 = .ok (.iinc 2 1, 3) := by decide +kernel
theorem d_Choice_findBest_41 : decode prog_2_method_6_code 41 = .ok (.goto (-39), 3) := by decide +kernel
theorem d_Choice_findBest_44 : decode prog_2_method_6_code 44 = .ok (.return_, 1) := by decide +kernel
theorem d_Choice_leastCarrier_0 : decode prog_2_method_8_code 0 = .ok (.iconst 0, 1) := by decide +kernel
theorem d_Choice_leastCarrier_1 : decode prog_2_method_8_code 1 = .ok (.istore_n 3, 1) := by decide +kernel
theorem d_Choice_leastCarrier_2 : decode prog_2_method_8_code 2 = .ok (.iload_n 3, 1) := by decide +kernel
theorem d_Choice_leastCarrier_3 : decode prog_2_method_8_code 3 = .ok (.aload_n 0, 1) := by decide +kernel
theorem d_Choice_leastCarrier_4 : decode prog_2_method_8_code 4 = .ok (.getfield 25, 3) := by decide +kernel
theorem d_Choice_leastCarrier_7 : decode prog_2_method_8_code 7 = .ok (.if_icmp .ge 37, 3) := by decide +kernel
theorem d_Choice_leastCarrier_10 : decode prog_2_method_8_code 10 = .ok (.aload_n 0, 1) := by decide +kernel
theorem d_Choice_leastCarrier_11 : decode prog_2_method_8_code 11 = .ok (.iload_n 1, 1) := by decide +kernel
theorem d_Choice_leastCarrier_12 : decode prog_2_method_8_code 12 = .ok (.iload_n 3, 1) := by decide +kernel
theorem d_Choice_leastCarrier_13 : decode prog_2_method_8_code 13 = .ok (.iload_n 2, 1) := by decide +kernel
theorem d_Choice_leastCarrier_14 : decode prog_2_method_8_code 14 = .ok (.invokevirtual 45, 3) := by decide +kernel
theorem d_Choice_leastCarrier_17 : decode prog_2_method_8_code 17 = .ok (.ifCond .eq 21, 3) := by decide +kernel
theorem d_Choice_leastCarrier_20 : decode prog_2_method_8_code 20 = .ok (.aload_n 0, 1) := by decide +kernel
theorem d_Choice_leastCarrier_21 : decode prog_2_method_8_code 21 = .ok (.iload_n 1, 1) := by decide +kernel
theorem d_Choice_leastCarrier_22 : decode prog_2_method_8_code 22 = .ok (.iload_n 3, 1) := by decide +kernel
theorem d_Choice_leastCarrier_23 : decode prog_2_method_8_code 23 = .ok (.iload_n 2, 1) := by decide +kernel
theorem d_Choice_leastCarrier_24 : decode prog_2_method_8_code 24 = .ok (.invokevirtual 49, 3) := by decide +kernel
theorem d_Choice_leastCarrier_27 : decode prog_2_method_8_code 27 = .ok (.aload_n 0, 1) := by decide +kernel
theorem d_Choice_leastCarrier_28 : decode prog_2_method_8_code 28 = .ok (.iload_n 1, 1) := by decide +kernel
theorem d_Choice_leastCarrier_29 : decode prog_2_method_8_code 29 = .ok (.iload_n 2, 1) := by decide +kernel
theorem d_Choice_leastCarrier_30 : decode prog_2_method_8_code 30 = .ok (.invokevirtual 42, 3) := by decide +kernel
theorem d_Choice_leastCarrier_33 : decode prog_2_method_8_code 33 = .ok (.if_icmp .ne 5, 3) := by decide +kernel
theorem d_Choice_leastCarrier_36 : decode prog_2_method_8_code 36 = .ok (.iload_n 3, 1) := by decide +kernel
theorem d_Choice_leastCarrier_37 : decode prog_2_method_8_code 37 = .ok (.ireturn, 1) := by decide +kernel
theorem d_Choice_leastCarrier_38 : decode prog_2_method_8_code 38 = .ok (.iinc 3 1, 3) := by decide +kernel
theorem d_Choice_leastCarrier_41 : decode prog_2_method_8_code 41 = .ok (.goto (-39), 3) := by decide +kernel
theorem d_Choice_leastCarrier_44 : decode prog_2_method_8_code 44 = .ok (.iconst (-1), 1) := by decide +kernel
theorem d_Choice_leastCarrier_45 : decode prog_2_method_8_code 45 = .ok (.ireturn, 1) := by decide +kernel
theorem d_Choice_settle_0 : decode prog_2_method_4_code 0 = .ok (.aload_n 0, 1) := by decide +kernel
theorem d_Choice_settle_1 : decode prog_2_method_4_code 1 = .ok (.getfield 21, 3) := by decide +kernel
theorem d_Choice_settle_4 : decode prog_2_method_4_code 4 = .ok (.iconst 1, 1) := by decide +kernel
theorem d_Choice_settle_5 : decode prog_2_method_4_code 5 = .ok (.isub, 1) := by decide +kernel
theorem d_Choice_settle_6 : decode prog_2_method_4_code 6 = .ok (.istore_n 1, 1) := by decide +kernel
theorem d_Choice_settle_7 : decode prog_2_method_4_code 7 = .ok (.iload_n 1, 1) := by decide +kernel
theorem d_Choice_settle_8 : decode prog_2_method_4_code 8 = .ok (.ifCond .lt 14, 3) := by decide +kernel
theorem d_Choice_settle_11 : decode prog_2_method_4_code 11 = .ok (.aload_n 0, 1) := by decide +kernel
theorem d_Choice_settle_12 : decode prog_2_method_4_code 12 = .ok (.iload_n 1, 1) := by decide +kernel
theorem d_Choice_settle_13 : decode prog_2_method_4_code 13 = .ok (.invokevirtual 31, 3) := by decide +kernel
theorem d_Choice_settle_16 : decode prog_2_method_4_code 16 = .ok (.iinc 1 (-1), 3) := by decide +kernel
theorem d_Choice_settle_19 : decode prog_2_method_4_code 19 = .ok (.goto (-12), 3) := by decide +kernel
theorem d_Choice_settle_22 : decode prog_2_method_4_code 22 = .ok (.iconst 0, 1) := by decide +kernel
theorem d_Choice_settle_23 : decode prog_2_method_4_code 23 = .ok (.istore_n 1, 1) := by decide +kernel
theorem d_Choice_settle_24 : decode prog_2_method_4_code 24 = .ok (.iconst 0, 1) := by decide +kernel
theorem d_Choice_settle_25 : decode prog_2_method_4_code 25 = .ok (.istore_n 2, 1) := by decide +kernel
theorem d_Choice_settle_26 : decode prog_2_method_4_code 26 = .ok (.iload_n 2, 1) := by decide +kernel
theorem d_Choice_settle_27 : decode prog_2_method_4_code 27 = .ok (.aload_n 0, 1) := by decide +kernel
theorem d_Choice_settle_28 : decode prog_2_method_4_code 28 = .ok (.getfield 21, 3) := by decide +kernel
theorem d_Choice_settle_31 : decode prog_2_method_4_code 31 = .ok (.if_icmp .ge 38, 3) := by decide +kernel
theorem d_Choice_settle_34 : decode prog_2_method_4_code 34 = .ok (.aload_n 0, 1) := by decide +kernel
theorem d_Choice_settle_35 : decode prog_2_method_4_code 35 = .ok (.iload_n 2, 1) := by decide +kernel
theorem d_Choice_settle_36 : decode prog_2_method_4_code 36 = .ok (.iload_n 1, 1) := by decide +kernel
theorem d_Choice_settle_37 : decode prog_2_method_4_code 37 = .ok (.invokevirtual 35, 3) := by decide +kernel
theorem d_Choice_settle_40 : decode prog_2_method_4_code 40 = .ok (.istore_n 3, 1) := by decide +kernel
theorem d_Choice_settle_41 : decode prog_2_method_4_code 41 = .ok (.aload_n 0, 1) := by decide +kernel
theorem d_Choice_settle_42 : decode prog_2_method_4_code 42 = .ok (.getfield 18, 3) := by decide +kernel
theorem d_Choice_settle_45 : decode prog_2_method_4_code 45 = .ok (.iload_n 2, 1) := by decide +kernel
theorem d_Choice_settle_46 : decode prog_2_method_4_code 46 = .ok (.iload_n 3, 1) := by decide +kernel
theorem d_Choice_settle_47 : decode prog_2_method_4_code 47 = .ok (.iastore, 1) := by decide +kernel
theorem d_Choice_settle_48 : decode prog_2_method_4_code 48 = .ok (.iload_n 1, 1) := by decide +kernel
theorem d_Choice_settle_49 : decode prog_2_method_4_code 49 = .ok (.iload_n 3, 1) := by decide +kernel
theorem d_Choice_settle_50 : decode prog_2_method_4_code 50 = .ok (.iconst (-1), 1) := by decide +kernel
theorem d_Choice_settle_51 : decode prog_2_method_4_code 51 = .ok (.if_icmp .ne 7, 3) := by decide +kernel
theorem d_Choice_settle_54 : decode prog_2_method_4_code 54 = .ok (.iconst 0, 1) := by decide +kernel
theorem d_Choice_settle_55 : decode prog_2_method_4_code 55 = .ok (.goto 6, 3) := by decide +kernel
theorem d_Choice_settle_58 : decode prog_2_method_4_code 58 = .ok (.iconst 1, 1) := by decide +kernel
theorem d_Choice_settle_59 : decode prog_2_method_4_code 59 = .ok (.iload_n 3, 1) := by decide +kernel
theorem d_Choice_settle_60 : decode prog_2_method_4_code 60 = .ok (.ishl, 1) := by decide +kernel
theorem d_Choice_settle_61 : decode prog_2_method_4_code 61 = .ok (.ior, 1) := by decide +kernel
theorem d_Choice_settle_62 : decode prog_2_method_4_code 62 = .ok (.istore_n 1, 1) := by decide +kernel
theorem d_Choice_settle_63 : decode prog_2_method_4_code 63 = .ok (.iinc 2 1, 3) := by decide +kernel
theorem d_Choice_settle_66 : decode prog_2_method_4_code 66 = .ok (.goto (-40), 3) := by decide +kernel
theorem d_Choice_settle_69 : decode prog_2_method_4_code 69 = .ok (.return_, 1) := by decide +kernel
