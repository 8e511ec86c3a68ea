theorem d_Rings_size_0 : decode prog_6_method_2_code 0 = .ok (.aload_n 0, 1) := by decide +kernel
theorem d_Rings_size_1 : decode prog_6_method_2_code 1 = .ok (.getfield 15, 3) := by decide +kernel
theorem d_Rings_size_4 : decode prog_6_method_2_code 4 = .ok (.ireturn, 1) := by decide +kernel
theorem d_Rings_has_0 : decode prog_6_method_3_code 0 = .ok (.iload_n 1, 1) := by decide +kernel
theorem d_Rings_has_1 : decode prog_6_method_3_code 1 = .ok (.ifCond .lt 15, 3) := by decide +kernel
theorem d_Rings_has_4 : decode prog_6_method_3_code 4 = .ok (.iload_n 1, 1) := by decide +kernel
theorem d_Rings_has_5 : decode prog_6_method_3_code 5 = .ok (.aload_n 0, 1) := by decide +kernel
theorem d_Rings_has_6 : decode prog_6_method_3_code 6 = .ok (.getfield 15, 3) := by decide +kernel
theorem d_Rings_has_9 : decode prog_6_method_3_code 9 = .ok (.if_icmp .ge 7, 3) := by decide +kernel
theorem d_Rings_has_12 : decode prog_6_method_3_code 12 = .ok (.iconst 1, 1) := by decide +kernel
theorem d_Rings_has_13 : decode prog_6_method_3_code 13 = .ok (.goto 4, 3) := by decide +kernel
theorem d_Rings_has_16 : decode prog_6_method_3_code 16 = .ok (.iconst 0, 1) := by decide +kernel
theorem d_Rings_has_17 : decode prog_6_method_3_code 17 = .ok (.ireturn, 1) := by decide +kernel
theorem d_Rings_add_0 : decode prog_6_method_4_code 0 = .ok (.aload_n 0, 1) := by decide +kernel
theorem d_Rings_add_1 : decode prog_6_method_4_code 1 = .ok (.getfield 9, 3) := by decide +kernel
theorem d_Rings_add_4 : decode prog_6_method_4_code 4 = .ok (.aload_n 0, 1) := by decide +kernel
theorem d_Rings_add_5 : decode prog_6_method_4_code 5 = .ok (.getfield 15, 3) := by decide +kernel
theorem d_Rings_add_8 : decode prog_6_method_4_code 8 = .ok (.iload_n 1, 1) := by decide +kernel
theorem d_Rings_add_9 : decode prog_6_method_4_code 9 = .ok (.iastore, 1) := by decide +kernel
theorem d_Rings_add_10 : decode prog_6_method_4_code 10 = .ok (.aload_n 0, 1) := by decide +kernel
theorem d_Rings_add_11 : decode prog_6_method_4_code 11 = .ok (.dup, 1) := by decide +kernel
theorem d_Rings_add_12 : decode prog_6_method_4_code 12 = .ok (.getfield 15, 3) := by decide +kernel
theorem d_Rings_add_15 : decode prog_6_method_4_code 15 = .ok (.iconst 1, 1) := by decide +kernel
theorem d_Rings_add_16 : decode prog_6_method_4_code 16 = .ok (.iadd, 1) := by decide +kernel
theorem d_Rings_add_17 : decode prog_6_method_4_code 17 = .ok (.putfield 15, 3) := by decide +kernel
theorem d_Rings_add_20 : decode prog_6_method_4_code 20 = .ok (.aload_n 0, 1) := by decide +kernel
theorem d_Rings_add_21 : decode prog_6_method_4_code 21 = .ok (.getfield 15, 3) := by decide +kernel
theorem d_Rings_add_24 : decode prog_6_method_4_code 24 = .ok (.ireturn, 1) := by decide +kernel
theorem d_Rings_bitsOf_0 : decode prog_6_method_5_code 0 = .ok (.aload_n 0, 1) := by decide +kernel
theorem d_Rings_bitsOf_1 : decode prog_6_method_5_code 1 = .ok (.getfield 9, 3) := by decide +kernel
theorem d_Rings_bitsOf_4 : decode prog_6_method_5_code 4 = .ok (.iload_n 1, 1) := by decide +kernel
theorem d_Rings_bitsOf_5 : decode prog_6_method_5_code 5 = .ok (.iaload, 1) := by decide +kernel
theorem d_Rings_bitsOf_6 : decode prog_6_method_5_code 6 = .ok (.ireturn, 1) := by decide +kernel
