theorem d_Jobs_size_0 : decode prog_4_method_2_code 0 = .ok (.aload_n 0, 1) := by decide +kernel
theorem d_Jobs_size_1 : decode prog_4_method_2_code 1 = .ok (.getfield 24, 3) := by decide +kernel
theorem d_Jobs_size_4 : decode prog_4_method_2_code 4 = .ok (.ireturn, 1) := by decide +kernel
theorem d_Jobs_has_0 : decode prog_4_method_3_code 0 = .ok (.iload_n 1, 1) := by decide +kernel
theorem d_Jobs_has_1 : decode prog_4_method_3_code 1 = .ok (.ifCond .lt 15, 3) := by decide +kernel
theorem d_Jobs_has_4 : decode prog_4_method_3_code 4 = .ok (.iload_n 1, 1) := by decide +kernel
theorem d_Jobs_has_5 : decode prog_4_method_3_code 5 = .ok (.aload_n 0, 1) := by decide +kernel
theorem d_Jobs_has_6 : decode prog_4_method_3_code 6 = .ok (.getfield 24, 3) := by decide +kernel
theorem d_Jobs_has_9 : decode prog_4_method_3_code 9 = .ok (.if_icmp .ge 7, 3) := by decide +kernel
theorem d_Jobs_has_12 : decode prog_4_method_3_code 12 = .ok (.iconst 1, 1) := by decide +kernel
theorem d_Jobs_has_13 : decode prog_4_method_3_code 13 = .ok (.goto 4, 3) := by decide +kernel
theorem d_Jobs_has_16 : decode prog_4_method_3_code 16 = .ok (.iconst 0, 1) := by decide +kernel
theorem d_Jobs_has_17 : decode prog_4_method_3_code 17 = .ok (.ireturn, 1) := by decide +kernel
theorem d_Jobs_add_0 : decode prog_4_method_4_code 0 = .ok (.aload_n 0, 1) := by decide +kernel
theorem d_Jobs_add_1 : decode prog_4_method_4_code 1 = .ok (.getfield 24, 3) := by decide +kernel
theorem d_Jobs_add_4 : decode prog_4_method_4_code 4 = .ok (.istore_n 3, 1) := by decide +kernel
theorem d_Jobs_add_5 : decode prog_4_method_4_code 5 = .ok (.aload_n 0, 1) := by decide +kernel
theorem d_Jobs_add_6 : decode prog_4_method_4_code 6 = .ok (.getfield 9, 3) := by decide +kernel
theorem d_Jobs_add_9 : decode prog_4_method_4_code 9 = .ok (.iload_n 3, 1) := by decide +kernel
theorem d_Jobs_add_10 : decode prog_4_method_4_code 10 = .ok (.iload_n 1, 1) := by decide +kernel
theorem d_Jobs_add_11 : decode prog_4_method_4_code 11 = .ok (.iastore, 1) := by decide +kernel
theorem d_Jobs_add_12 : decode prog_4_method_4_code 12 = .ok (.aload_n 0, 1) := by decide +kernel
theorem d_Jobs_add_13 : decode prog_4_method_4_code 13 = .ok (.getfield 15, 3) := by decide +kernel
theorem d_Jobs_add_16 : decode prog_4_method_4_code 16 = .ok (.iload_n 3, 1) := by decide +kernel
theorem d_Jobs_add_17 : decode prog_4_method_4_code 17 = .ok (.iload_n 2, 1) := by decide +kernel
theorem d_Jobs_add_18 : decode prog_4_method_4_code 18 = .ok (.iastore, 1) := by decide +kernel
theorem d_Jobs_add_19 : decode prog_4_method_4_code 19 = .ok (.aload_n 0, 1) := by decide +kernel
theorem d_Jobs_add_20 : decode prog_4_method_4_code 20 = .ok (.getfield 18, 3) := by decide +kernel
theorem d_Jobs_add_23 : decode prog_4_method_4_code 23 = .ok (.iload_n 3, 1) := by decide +kernel
theorem d_Jobs_add_24 : decode prog_4_method_4_code 24 = .ok (.iconst 0, 1) := by decide +kernel
theorem d_Jobs_add_25 : decode prog_4_method_4_code 25 = .ok (.iastore, 1) := by decide +kernel
theorem d_Jobs_add_26 : decode prog_4_method_4_code 26 = .ok (.aload_n 0, 1) := by decide +kernel
theorem d_Jobs_add_27 : decode prog_4_method_4_code 27 = .ok (.getfield 21, 3) := by decide +kernel
theorem d_Jobs_add_30 : decode prog_4_method_4_code 30 = .ok (.iload_n 3, 1) := by decide +kernel
theorem d_Jobs_add_31 : decode prog_4_method_4_code 31 = .ok (.iconst (-1), 1) := by decide +kernel
theorem d_Jobs_add_32 : decode prog_4_method_4_code 32 = .ok (.iastore, 1) := by decide +kernel
theorem d_Jobs_add_33 : decode prog_4_method_4_code 33 = .ok (.aload_n 0, 1) := by decide +kernel
theorem d_Jobs_add_34 : decode prog_4_method_4_code 34 = .ok (.dup, 1) := by decide +kernel
theorem d_Jobs_add_35 : decode prog_4_method_4_code 35 = .ok (.getfield 24, 3) := by decide +kernel
theorem d_Jobs_add_38 : decode prog_4_method_4_code 38 = .ok (.iconst 1, 1) := by decide +kernel
theorem d_Jobs_add_39 : decode prog_4_method_4_code 39 = .ok (.iadd, 1) := by decide +kernel
theorem d_Jobs_add_40 : decode prog_4_method_4_code 40 = .ok (.putfield 24, 3) := by decide +kernel
theorem d_Jobs_add_43 : decode prog_4_method_4_code 43 = .ok (.iload_n 3, 1) := by decide +kernel
theorem d_Jobs_add_44 : decode prog_4_method_4_code 44 = .ok (.ireturn, 1) := by decide +kernel
theorem d_Jobs_fromOf_0 : decode prog_4_method_5_code 0 = .ok (.aload_n 0, 1) := by decide +kernel
theorem d_Jobs_fromOf_1 : decode prog_4_method_5_code 1 = .ok (.getfield 9, 3) := by decide +kernel
theorem d_Jobs_fromOf_4 : decode prog_4_method_5_code 4 = .ok (.iload_n 1, 1) := by decide +kernel
theorem d_Jobs_fromOf_5 : decode prog_4_method_5_code 5 = .ok (.iaload, 1) := by decide +kernel
theorem d_Jobs_fromOf_6 : decode prog_4_method_5_code 6 = .ok (.ireturn, 1) := by decide +kernel
theorem d_Jobs_toOf_0 : decode prog_4_method_6_code 0 = .ok (.aload_n 0, 1) := by decide +kernel
theorem d_Jobs_toOf_1 : decode prog_4_method_6_code 1 = .ok (.getfield 15, 3) := by decide +kernel
theorem d_Jobs_toOf_4 : decode prog_4_method_6_code 4 = .ok (.iload_n 1, 1) := by decide +kernel
theorem d_Jobs_toOf_5 : decode prog_4_method_6_code 5 = .ok (.iaload, 1) := by decide +kernel
theorem d_Jobs_toOf_6 : decode prog_4_method_6_code 6 = .ok (.ireturn, 1) := by decide +kernel
theorem d_Jobs_stateOf_0 : decode prog_4_method_7_code 0 = .ok (.aload_n 0, 1) := by decide +kernel
theorem d_Jobs_stateOf_1 : decode prog_4_method_7_code 1 = .ok (.getfield 18, 3) := by decide +kernel
theorem d_Jobs_stateOf_4 : decode prog_4_method_7_code 4 = .ok (.iload_n 1, 1) := by decide +kernel
theorem d_Jobs_stateOf_5 : decode prog_4_method_7_code 5 = .ok (.iaload, 1) := by decide +kernel
theorem d_Jobs_stateOf_6 : decode prog_4_method_7_code 6 = .ok (.ireturn, 1) := by decide +kernel
theorem d_Jobs_carrierOf_0 : decode prog_4_method_8_code 0 = .ok (.aload_n 0, 1) := by decide +kernel
theorem d_Jobs_carrierOf_1 : decode prog_4_method_8_code 1 = .ok (.getfield 21, 3) := by decide +kernel
theorem d_Jobs_carrierOf_4 : decode prog_4_method_8_code 4 = .ok (.iload_n 1, 1) := by decide +kernel
theorem d_Jobs_carrierOf_5 : decode prog_4_method_8_code 5 = .ok (.iaload, 1) := by decide +kernel
theorem d_Jobs_carrierOf_6 : decode prog_4_method_8_code 6 = .ok (.ireturn, 1) := by decide +kernel
theorem d_Jobs_isWaiting_0 : decode prog_4_method_9_code 0 = .ok (.aload_n 0, 1) := by decide +kernel
theorem d_Jobs_isWaiting_1 : decode prog_4_method_9_code 1 = .ok (.getfield 18, 3) := by decide +kernel
theorem d_Jobs_isWaiting_4 : decode prog_4_method_9_code 4 = .ok (.iload_n 1, 1) := by decide +kernel
theorem d_Jobs_isWaiting_5 : decode prog_4_method_9_code 5 = .ok (.iaload, 1) := by decide +kernel
theorem d_Jobs_isWaiting_6 : decode prog_4_method_9_code 6 = .ok (.ifCond .ne 7, 3) := by decide +kernel
theorem d_Jobs_isWaiting_9 : decode prog_4_method_9_code 9 = .ok (.iconst 1, 1) := by decide +kernel
theorem d_Jobs_isWaiting_10 : decode prog_4_method_9_code 10 = .ok (.goto 4, 3) := by decide +kernel
theorem d_Jobs_isWaiting_13 : decode prog_4_method_9_code 13 = .ok (.iconst 0, 1) := by decide +kernel
theorem d_Jobs_isWaiting_14 : decode prog_4_method_9_code 14 = .ok (.ireturn, 1) := by decide +kernel
theorem d_Jobs_isLoaded_0 : decode prog_4_method_10_code 0 = .ok (.aload_n 0, 1) := by decide +kernel
theorem d_Jobs_isLoaded_1 : decode prog_4_method_10_code 1 = .ok (.getfield 18, 3) := by decide +kernel
theorem d_Jobs_isLoaded_4 : decode prog_4_method_10_code 4 = .ok (.iload_n 1, 1) := by decide +kernel
theorem d_Jobs_isLoaded_5 : decode prog_4_method_10_code 5 = .ok (.iaload, 1) := by decide +kernel
theorem d_Jobs_isLoaded_6 : decode prog_4_method_10_code 6 = .ok (.iconst 2, 1) := by decide +kernel
theorem d_Jobs_isLoaded_7 : decode prog_4_method_10_code 7 = .ok (.if_icmp .ne 7, 3) := by decide +kernel
theorem d_Jobs_isLoaded_10 : decode prog_4_method_10_code 10 = .ok (.iconst 1, 1) := by decide +kernel
theorem d_Jobs_isLoaded_11 : decode prog_4_method_10_code 11 = .ok (.goto 4, 3) := by decide +kernel
theorem d_Jobs_isLoaded_14 : decode prog_4_method_10_code 14 = .ok (.iconst 0, 1) := by decide +kernel
theorem d_Jobs_isLoaded_15 : decode prog_4_method_10_code 15 = .ok (.ireturn, 1) := by decide +kernel
theorem d_Jobs_goalOf_0 : decode prog_4_method_11_code 0 = .ok (.aload_n 0, 1) := by decide +kernel
theorem d_Jobs_goalOf_1 : decode prog_4_method_11_code 1 = .ok (.iload_n 1, 1) := by decide +kernel
theorem d_Jobs_goalOf_2 : decode prog_4_method_11_code 2 = .ok (.invokevirtual 28, 3) := by decide +kernel
theorem d_Jobs_goalOf_5 : decode prog_4_method_11_code 5 = .ok (.ifCond .eq 12, 3) := by decide +kernel
theorem d_Jobs_goalOf_8 : decode prog_4_method_11_code 8 = .ok (.aload_n 0, 1) := by decide +kernel
theorem d_Jobs_goalOf_9 : decode prog_4_method_11_code 9 = .ok (.getfield 15, 3) := by decide +kernel
theorem d_Jobs_goalOf_12 : decode prog_4_method_11_code 12 = .ok (.iload_n 1, 1) := by decide +kernel
theorem d_Jobs_goalOf_13 : decode prog_4_method_11_code 13 = .ok (.iaload, 1) := by decide +kernel
theorem d_Jobs_goalOf_14 : decode prog_4_method_11_code 14 = .ok (.goto 9, 3) := by decide +kernel
theorem d_Jobs_goalOf_17 : decode prog_4_method_11_code 17 = .ok (.aload_n 0, 1) := by decide +kernel
theorem d_Jobs_goalOf_18 : decode prog_4_method_11_code 18 = .ok (.getfield 9, 3) := by decide +kernel
theorem d_Jobs_goalOf_21 : decode prog_4_method_11_code 21 = .ok (.iload_n 1, 1) := by decide +kernel
theorem d_Jobs_goalOf_22 : decode prog_4_method_11_code 22 = .ok (.iaload, 1) := by decide +kernel
theorem d_Jobs_goalOf_23 : decode prog_4_method_11_code 23 = .ok (.ireturn, 1) := by decide +kernel
theorem d_Jobs_ended_0 : decode prog_4_method_12_code 0 = .ok (.iconst 0, 1) := by decide +kernel
theorem d_Jobs_ended_1 : decode prog_4_method_12_code 1 = .ok (.istore_n 1, 1) := by decide +kernel
theorem d_Jobs_ended_2 : decode prog_4_method_12_code 2 = .ok (.iconst 0, 1) := by decide +kernel
theorem d_Jobs_ended_3 : decode prog_4_method_12_code 3 = .ok (.istore_n 2, 1) := by decide +kernel
theorem d_Jobs_ended_4 : decode prog_4_method_12_code 4 = .ok (.iload_n 2, 1) := by decide +kernel
theorem d_Jobs_ended_5 : decode prog_4_method_12_code 5 = .ok (.aload_n 0, 1) := by decide +kernel
theorem d_Jobs_ended_6 : decode prog_4_method_12_code 6 = .ok (.getfield 24, 3) := by decide +kernel
theorem d_Jobs_ended_9 : decode prog_4_method_12_code 9 = .ok (.if_icmp .ge 22, 3) := by decide +kernel
theorem d_Jobs_ended_12 : decode prog_4_method_12_code 12 = .ok (.aload_n 0, 1) := by decide +kernel
theorem d_Jobs_ended_13 : decode prog_4_method_12_code 13 = .ok (.getfield 18, 3) := by decide +kernel
theorem d_Jobs_ended_16 : decode prog_4_method_12_code 16 = .ok (.iload_n 2, 1) := by decide +kernel
theorem d_Jobs_ended_17 : decode prog_4_method_12_code 17 = .ok (.iaload, 1) := by decide +kernel
theorem d_Jobs_ended_18 : decode prog_4_method_12_code 18 = .ok (.iconst 3, 1) := by decide +kernel
theorem d_Jobs_ended_19 : decode prog_4_method_12_code 19 = .ok (.if_icmp .ne 6, 3) := by decide +kernel
theorem d_Jobs_ended_22 : decode prog_4_method_12_code 22 = .ok (.iinc 1 1, 3) := by decide +kernel
theorem d_Jobs_ended_25 : decode prog_4_method_12_code 25 = .ok (.iinc 2 1, 3) := by decide +kernel
theorem d_Jobs_ended_28 : decode prog_4_method_12_code 28 = .ok (.goto (-24), 3) := by decide +kernel
theorem d_Jobs_ended_31 : decode prog_4_method_12_code 31 = .ok (.iload_n 1, 1) := by decide +kernel
theorem d_Jobs_ended_32 : decode prog_4_method_12_code 32 = .ok (.ireturn, 1) := by decide +kernel
theorem d_Jobs_setState_0 : decode prog_4_method_13_code 0 = .ok (.aload_n 0, 1) := by decide +kernel
theorem d_Jobs_setState_1 : decode prog_4_method_13_code 1 = .ok (.getfield 18, 3) := by decide +kernel
theorem d_Jobs_setState_4 : decode prog_4_method_13_code 4 = .ok (.iload_n 1, 1) := by decide +kernel
theorem d_Jobs_setState_5 : decode prog_4_method_13_code 5 = .ok (.iload_n 2, 1) := by decide +kernel
theorem d_Jobs_setState_6 : decode prog_4_method_13_code 6 = .ok (.iastore, 1) := by decide +kernel
theorem d_Jobs_setState_7 : decode prog_4_method_13_code 7 = .ok (.return_, 1) := by decide +kernel
theorem d_Jobs_give_0 : decode prog_4_method_14_code 0 = .ok (.aload_n 0, 1) := by decide +kernel
theorem d_Jobs_give_1 : decode prog_4_method_14_code 1 = .ok (.getfield 18, 3) := by decide +kernel
theorem d_Jobs_give_4 : decode prog_4_method_14_code 4 = .ok (.iload_n 1, 1) := by decide +kernel
theorem d_Jobs_give_5 : decode prog_4_method_14_code 5 = .ok (.iconst 1, 1) := by decide +kernel
theorem d_Jobs_give_6 : decode prog_4_method_14_code 6 = .ok (.iastore, 1) := by decide +kernel
theorem d_Jobs_give_7 : decode prog_4_method_14_code 7 = .ok (.aload_n 0, 1) := by decide +kernel
theorem d_Jobs_give_8 : decode prog_4_method_14_code 8 = .ok (.getfield 21, 3) := by decide +kernel
theorem d_Jobs_give_11 : decode prog_4_method_14_code 11 = .ok (.iload_n 1, 1) := by decide +kernel
theorem d_Jobs_give_12 : decode prog_4_method_14_code 12 = .ok (.iload_n 2, 1) := by decide +kernel
theorem d_Jobs_give_13 : decode prog_4_method_14_code 13 = .ok (.iastore, 1) := by decide +kernel
theorem d_Jobs_give_14 : decode prog_4_method_14_code 14 = .ok (.return_, 1) := by decide +kernel
