theorem d_Points_size_0 : decode prog_5_method_2_code 0 = .ok (.aload_n 0, 1) := by decide +kernel
theorem d_Points_size_1 : decode prog_5_method_2_code 1 = .ok (.getfield 19, 3) := by decide +kernel
theorem d_Points_size_4 : decode prog_5_method_2_code 4 = .ok (.ireturn, 1) := by decide +kernel
theorem d_Points_has_0 : decode prog_5_method_3_code 0 = .ok (.iload_n 1, 1) := by decide +kernel
theorem d_Points_has_1 : decode prog_5_method_3_code 1 = .ok (.ifCond .lt 15, 3) := by decide +kernel
theorem d_Points_has_4 : decode prog_5_method_3_code 4 = .ok (.iload_n 1, 1) := by decide +kernel
theorem d_Points_has_5 : decode prog_5_method_3_code 5 = .ok (.aload_n 0, 1) := by decide +kernel
theorem d_Points_has_6 : decode prog_5_method_3_code 6 = .ok (.getfield 19, 3) := by decide +kernel
theorem d_Points_has_9 : decode prog_5_method_3_code 9 = .ok (.if_icmp .ge 7, 3) := by decide +kernel
theorem d_Points_has_12 : decode prog_5_method_3_code 12 = .ok (.iconst 1, 1) := by decide +kernel
theorem d_Points_has_13 : decode prog_5_method_3_code 13 = .ok (.goto 4, 3) := by decide +kernel
theorem d_Points_has_16 : decode prog_5_method_3_code 16 = .ok (.iconst 0, 1) := by decide +kernel
theorem d_Points_has_17 : decode prog_5_method_3_code 17 = .ok (.ireturn, 1) := by decide +kernel
theorem d_Points_areTwo_0 : decode prog_5_method_4_code 0 = .ok (.aload_n 0, 1) := by decide +kernel
theorem d_Points_areTwo_1 : decode prog_5_method_4_code 1 = .ok (.iload_n 1, 1) := by decide +kernel
theorem d_Points_areTwo_2 : decode prog_5_method_4_code 2 = .ok (.invokevirtual 23, 3) := by decide +kernel
theorem d_Points_areTwo_5 : decode prog_5_method_4_code 5 = .ok (.ifCond .eq 20, 3) := by decide +kernel
theorem d_Points_areTwo_8 : decode prog_5_method_4_code 8 = .ok (.aload_n 0, 1) := by decide +kernel
theorem d_Points_areTwo_9 : decode prog_5_method_4_code 9 = .ok (.iload_n 2, 1) := by decide +kernel
theorem d_Points_areTwo_10 : decode prog_5_method_4_code 10 = .ok (.invokevirtual 23, 3) := by decide +kernel
theorem d_Points_areTwo_13 : decode prog_5_method_4_code 13 = .ok (.ifCond .eq 12, 3) := by decide +kernel
theorem d_Points_areTwo_16 : decode prog_5_method_4_code 16 = .ok (.iload_n 1, 1) := by decide +kernel
theorem d_Points_areTwo_17 : decode prog_5_method_4_code 17 = .ok (.iload_n 2, 1) := by decide +kernel
theorem d_Points_areTwo_18 : decode prog_5_method_4_code 18 = .ok (.if_icmp .eq 7, 3) := by decide +kernel
theorem d_Points_areTwo_21 : decode prog_5_method_4_code 21 = .ok (.iconst 1, 1) := by decide +kernel
theorem d_Points_areTwo_22 : decode prog_5_method_4_code 22 = .ok (.goto 4, 3) := by decide +kernel
theorem d_Points_areTwo_25 : decode prog_5_method_4_code 25 = .ok (.iconst 0, 1) := by decide +kernel
theorem d_Points_areTwo_26 : decode prog_5_method_4_code 26 = .ok (.ireturn, 1) := by decide +kernel
theorem d_Points_asBits_0 : decode prog_5_method_5_code 0 = .ok (.iconst 1, 1) := by decide +kernel
theorem d_Points_asBits_1 : decode prog_5_method_5_code 1 = .ok (.aload_n 0, 1) := by decide +kernel
theorem d_Points_asBits_2 : decode prog_5_method_5_code 2 = .ok (.getfield 19, 3) := by decide +kernel
theorem d_Points_asBits_5 : decode prog_5_method_5_code 5 = .ok (.ishl, 1) := by decide +kernel
theorem d_Points_asBits_6 : decode prog_5_method_5_code 6 = .ok (.iconst 1, 1) := by decide +kernel
theorem d_Points_asBits_7 : decode prog_5_method_5_code 7 = .ok (.isub, 1) := by decide +kernel
theorem d_Points_asBits_8 : decode prog_5_method_5_code 8 = .ok (.ireturn, 1) := by decide +kernel
theorem d_Points_placesOf_0 : decode prog_5_method_6_code 0 = .ok (.aload_n 0, 1) := by decide +kernel
theorem d_Points_placesOf_1 : decode prog_5_method_6_code 1 = .ok (.getfield 9, 3) := by decide +kernel
theorem d_Points_placesOf_4 : decode prog_5_method_6_code 4 = .ok (.iload_n 1, 1) := by decide +kernel
theorem d_Points_placesOf_5 : decode prog_5_method_6_code 5 = .ok (.iaload, 1) := by decide +kernel
theorem d_Points_placesOf_6 : decode prog_5_method_6_code 6 = .ok (.ireturn, 1) := by decide +kernel
theorem d_Points_setPlaces_0 : decode prog_5_method_7_code 0 = .ok (.aload_n 0, 1) := by decide +kernel
theorem d_Points_setPlaces_1 : decode prog_5_method_7_code 1 = .ok (.getfield 9, 3) := by decide +kernel
theorem d_Points_setPlaces_4 : decode prog_5_method_7_code 4 = .ok (.iload_n 1, 1) := by decide +kernel
theorem d_Points_setPlaces_5 : decode prog_5_method_7_code 5 = .ok (.iload_n 2, 1) := by decide +kernel
theorem d_Points_setPlaces_6 : decode prog_5_method_7_code 6 = .ok (.iastore, 1) := by decide +kernel
theorem d_Points_setPlaces_7 : decode prog_5_method_7_code 7 = .ok (.return_, 1) := by decide +kernel
theorem d_Points_hasCharger_0 : decode prog_5_method_8_code 0 = .ok (.aload_n 0, 1) := by decide +kernel
theorem d_Points_hasCharger_1 : decode prog_5_method_8_code 1 = .ok (.getfield 15, 3) := by decide +kernel
theorem d_Points_hasCharger_4 : decode prog_5_method_8_code 4 = .ok (.iload_n 1, 1) := by decide +kernel
theorem d_Points_hasCharger_5 : decode prog_5_method_8_code 5 = .ok (.baload, 1) := by decide +kernel
theorem d_Points_hasCharger_6 : decode prog_5_method_8_code 6 = .ok (.ireturn, 1) := by decide +kernel
theorem d_Points_setCharger_0 : decode prog_5_method_9_code 0 = .ok (.aload_n 0, 1) := by decide +kernel
theorem d_Points_setCharger_1 : decode prog_5_method_9_code 1 = .ok (.getfield 15, 3) := by decide +kernel
theorem d_Points_setCharger_4 : decode prog_5_method_9_code 4 = .ok (.iload_n 1, 1) := by decide +kernel
theorem d_Points_setCharger_5 : decode prog_5_method_9_code 5 = .ok (.iload_n 2, 1) := by decide +kernel
theorem d_Points_setCharger_6 : decode prog_5_method_9_code 6 = .ok (.bastore, 1) := by decide +kernel
theorem d_Points_setCharger_7 : decode prog_5_method_9_code 7 = .ok (.return_, 1) := by decide +kernel
