theorem d_Face_piece_0 : decode prog_1_method_2_code 0 = .ok (.aload_n 0, 1) := by decide +kernel
theorem d_Face_piece_1 : decode prog_1_method_2_code 1 = .ok (.getfield 23, 3) := by decide +kernel
theorem d_Face_piece_4 : decode prog_1_method_2_code 4 = .ok (.iload_n 1, 1) := by decide +kernel
theorem d_Face_piece_5 : decode prog_1_method_2_code 5 = .ok (.iload_n 2, 1) := by decide +kernel
theorem d_Face_piece_6 : decode prog_1_method_2_code 6 = .ok (.invokevirtual 66, 3) := by decide +kernel
theorem d_Face_piece_9 : decode prog_1_method_2_code 9 = .ok (.ifCond .ne 13, 3) := by decide +kernel
theorem d_Face_piece_12 : decode prog_1_method_2_code 12 = .ok (.new 70, 3) := by decide +kernel
theorem d_Face_piece_15 : decode prog_1_method_2_code 15 = .ok (.dup, 1) := by decide +kernel
theorem d_Face_piece_16 : decode prog_1_method_2_code 16 = .ok (.ldc 72, 2) := by decide +kernel
theorem d_Face_piece_18 : decode prog_1_method_2_code 18 = .ok (.invokespecial 74, 3) := by decide +kernel
theorem d_Face_piece_21 : decode prog_1_method_2_code 21 = .ok (.athrow, 1) := by decide +kernel
theorem d_Face_piece_22 : decode prog_1_method_2_code 22 = .ok (.iload_n 3, 1) := by decide +kernel
theorem d_Face_piece_23 : decode prog_1_method_2_code 23 = .ok (.iconst 1, 1) := by decide +kernel
theorem d_Face_piece_24 : decode prog_1_method_2_code 24 = .ok (.if_icmp .lt 9, 3) := by decide +kernel
theorem d_Face_piece_27 : decode prog_1_method_2_code 27 = .ok (.iload_n 3, 1) := by decide +kernel
theorem d_Face_piece_28 : decode prog_1_method_2_code 28 = .ok (.bipush 100, 2) := by decide +kernel
theorem d_Face_piece_30 : decode prog_1_method_2_code 30 = .ok (.if_icmp .le 13, 3) := by decide +kernel
theorem d_Face_piece_33 : decode prog_1_method_2_code 33 = .ok (.new 70, 3) := by decide +kernel
theorem d_Face_piece_36 : decode prog_1_method_2_code 36 = .ok (.dup, 1) := by decide +kernel
theorem d_Face_piece_37 : decode prog_1_method_2_code 37 = .ok (.ldc 77, 2) := by decide +kernel
theorem d_Face_piece_39 : decode prog_1_method_2_code 39 = .ok (.invokespecial 74, 3) := by decide +kernel
theorem d_Face_piece_42 : decode prog_1_method_2_code 42 = .ok (.athrow, 1) := by decide +kernel
theorem d_Face_piece_43 : decode prog_1_method_2_code 43 = .ok (.aload_n 0, 1) := by decide +kernel
theorem d_Face_piece_44 : decode prog_1_method_2_code 44 = .ok (.getfield 30, 3) := by decide +kernel
theorem d_Face_piece_47 : decode prog_1_method_2_code 47 = .ok (.invokevirtual 79, 3) := by decide +kernel
theorem d_Face_piece_50 : decode prog_1_method_2_code 50 = .ok (.bipush 30, 2) := by decide +kernel
theorem d_Face_piece_52 : decode prog_1_method_2_code 52 = .ok (.if_icmp .lt 13, 3) := by decide +kernel
theorem d_Face_piece_55 : decode prog_1_method_2_code 55 = .ok (.new 83, 3) := by decide +kernel
theorem d_Face_piece_58 : decode prog_1_method_2_code 58 = .ok (.dup, 1) := by decide +kernel
theorem d_Face_piece_59 : decode prog_1_method_2_code 59 = .ok (.ldc 85, 2) := by decide +kernel
theorem d_Face_piece_61 : decode prog_1_method_2_code 61 = .ok (.invokespecial 87, 3) := by decide +kernel
theorem d_Face_piece_64 : decode prog_1_method_2_code 64 = .ok (.athrow, 1) := by decide +kernel
theorem d_Face_piece_65 : decode prog_1_method_2_code 65 = .ok (.aload_n 0, 1) := by decide +kernel
theorem d_Face_piece_66 : decode prog_1_method_2_code 66 = .ok (.getfield 30, 3) := by decide +kernel
theorem d_Face_piece_69 : decode prog_1_method_2_code 69 = .ok (.iload_n 1, 1) := by decide +kernel
theorem d_Face_piece_70 : decode prog_1_method_2_code 70 = .ok (.iload_n 2, 1) := by decide +kernel
theorem d_Face_piece_71 : decode prog_1_method_2_code 71 = .ok (.iload_n 3, 1) := by decide +kernel
theorem d_Face_piece_72 : decode prog_1_method_2_code 72 = .ok (.invokevirtual 88, 3) := by decide +kernel
theorem d_Face_piece_75 : decode prog_1_method_2_code 75 = .ok (.ireturn, 1) := by decide +kernel
theorem d_Face_ring_0 : decode prog_1_method_5_code 0 = .ok (.iload_n 1, 1) := by decide +kernel
theorem d_Face_ring_1 : decode prog_1_method_5_code 1 = .ok (.ifCond .eq 17, 3) := by decide +kernel
theorem d_Face_ring_4 : decode prog_1_method_5_code 4 = .ok (.iload_n 1, 1) := by decide +kernel
theorem d_Face_ring_5 : decode prog_1_method_5_code 5 = .ok (.aload_n 0, 1) := by decide +kernel
theorem d_Face_ring_6 : decode prog_1_method_5_code 6 = .ok (.getfield 23, 3) := by decide +kernel
theorem d_Face_ring_9 : decode prog_1_method_5_code 9 = .ok (.invokevirtual 111, 3) := by decide +kernel
theorem d_Face_ring_12 : decode prog_1_method_5_code 12 = .ok (.iconst (-1), 1) := by decide +kernel
theorem d_Face_ring_13 : decode prog_1_method_5_code 13 = .ok (.ixor, 1) := by decide +kernel
theorem d_Face_ring_14 : decode prog_1_method_5_code 14 = .ok (.iand, 1) := by decide +kernel
theorem d_Face_ring_15 : decode prog_1_method_5_code 15 = .ok (.ifCond .eq 13, 3) := by decide +kernel
theorem d_Face_ring_18 : decode prog_1_method_5_code 18 = .ok (.new 70, 3) := by decide +kernel
theorem d_Face_ring_21 : decode prog_1_method_5_code 21 = .ok (.dup, 1) := by decide +kernel
theorem d_Face_ring_22 : decode prog_1_method_5_code 22 = .ok (.ldc 114, 2) := by decide +kernel
theorem d_Face_ring_24 : decode prog_1_method_5_code 24 = .ok (.invokespecial 74, 3) := by decide +kernel
theorem d_Face_ring_27 : decode prog_1_method_5_code 27 = .ok (.athrow, 1) := by decide +kernel
theorem d_Face_ring_28 : decode prog_1_method_5_code 28 = .ok (.aload_n 0, 1) := by decide +kernel
theorem d_Face_ring_29 : decode prog_1_method_5_code 29 = .ok (.getfield 37, 3) := by decide +kernel
theorem d_Face_ring_32 : decode prog_1_method_5_code 32 = .ok (.invokevirtual 116, 3) := by decide +kernel
theorem d_Face_ring_35 : decode prog_1_method_5_code 35 = .ok (.iconst 4, 1) := by decide +kernel
theorem d_Face_ring_36 : decode prog_1_method_5_code 36 = .ok (.if_icmp .lt 13, 3) := by decide +kernel
theorem d_Face_ring_39 : decode prog_1_method_5_code 39 = .ok (.new 83, 3) := by decide +kernel
theorem d_Face_ring_42 : decode prog_1_method_5_code 42 = .ok (.dup, 1) := by decide +kernel
theorem d_Face_ring_43 : decode prog_1_method_5_code 43 = .ok (.ldc 117, 2) := by decide +kernel
theorem d_Face_ring_45 : decode prog_1_method_5_code 45 = .ok (.invokespecial 87, 3) := by decide +kernel
theorem d_Face_ring_48 : decode prog_1_method_5_code 48 = .ok (.athrow, 1) := by decide +kernel
theorem d_Face_ring_49 : decode prog_1_method_5_code 49 = .ok (.aload_n 0, 1) := by decide +kernel
theorem d_Face_ring_50 : decode prog_1_method_5_code 50 = .ok (.getfield 37, 3) := by decide +kernel
theorem d_Face_ring_53 : decode prog_1_method_5_code 53 = .ok (.iload_n 1, 1) := by decide +kernel
theorem d_Face_ring_54 : decode prog_1_method_5_code 54 = .ok (.invokevirtual 119, 3) := by decide +kernel
theorem d_Face_ring_57 : decode prog_1_method_5_code 57 = .ok (.ireturn, 1) := by decide +kernel
theorem d_Face_carrier_0 : decode prog_1_method_6_code 0 = .ok (.aload_n 0, 1) := by decide +kernel
theorem d_Face_carrier_1 : decode prog_1_method_6_code 1 = .ok (.getfield 23, 3) := by decide +kernel
theorem d_Face_carrier_4 : decode prog_1_method_6_code 4 = .ok (.iload_n 1, 1) := by decide +kernel
theorem d_Face_carrier_5 : decode prog_1_method_6_code 5 = .ok (.invokevirtual 92, 3) := by decide +kernel
theorem d_Face_carrier_8 : decode prog_1_method_6_code 8 = .ok (.ifCond .ne 13, 3) := by decide +kernel
theorem d_Face_carrier_11 : decode prog_1_method_6_code 11 = .ok (.new 70, 3) := by decide +kernel
theorem d_Face_carrier_14 : decode prog_1_method_6_code 14 = .ok (.dup, 1) := by decide +kernel
theorem d_Face_carrier_15 : decode prog_1_method_6_code 15 = .ok (.ldc 121, 2) := by decide +kernel
theorem d_Face_carrier_17 : decode prog_1_method_6_code 17 = .ok (.invokespecial 74, 3) := by decide +kernel
theorem d_Face_carrier_20 : decode prog_1_method_6_code 20 = .ok (.athrow, 1) := by decide +kernel
theorem d_Face_carrier_21 : decode prog_1_method_6_code 21 = .ok (.iload_n 2, 1) := by decide +kernel
theorem d_Face_carrier_22 : decode prog_1_method_6_code 22 = .ok (.ifCond .lt 10, 3) := by decide +kernel
theorem d_Face_carrier_25 : decode prog_1_method_6_code 25 = .ok (.iload_n 2, 1) := by decide +kernel
theorem d_Face_carrier_26 : decode prog_1_method_6_code 26 = .ok (.sipush 1000, 3) := by decide +kernel
theorem d_Face_carrier_29 : decode prog_1_method_6_code 29 = .ok (.if_icmp .le 13, 3) := by decide +kernel
theorem d_Face_carrier_32 : decode prog_1_method_6_code 32 = .ok (.new 70, 3) := by decide +kernel
theorem d_Face_carrier_35 : decode prog_1_method_6_code 35 = .ok (.dup, 1) := by decide +kernel
theorem d_Face_carrier_36 : decode prog_1_method_6_code 36 = .ok (.ldc 123, 2) := by decide +kernel
theorem d_Face_carrier_38 : decode prog_1_method_6_code 38 = .ok (.invokespecial 74, 3) := by decide +kernel
theorem d_Face_carrier_41 : decode prog_1_method_6_code 41 = .ok (.athrow, 1) := by decide +kernel
theorem d_Face_carrier_42 : decode prog_1_method_6_code 42 = .ok (.aload_n 0, 1) := by decide +kernel
theorem d_Face_carrier_43 : decode prog_1_method_6_code 43 = .ok (.getfield 44, 3) := by decide +kernel
theorem d_Face_carrier_46 : decode prog_1_method_6_code 46 = .ok (.invokevirtual 125, 3) := by decide +kernel
theorem d_Face_carrier_49 : decode prog_1_method_6_code 49 = .ok (.bipush 6, 2) := by decide +kernel
theorem d_Face_carrier_51 : decode prog_1_method_6_code 51 = .ok (.if_icmp .lt 13, 3) := by decide +kernel
theorem d_Face_carrier_54 : decode prog_1_method_6_code 54 = .ok (.new 83, 3) := by decide +kernel
theorem d_Face_carrier_57 : decode prog_1_method_6_code 57 = .ok (.dup, 1) := by decide +kernel
theorem d_Face_carrier_58 : decode prog_1_method_6_code 58 = .ok (.ldc 126, 2) := by decide +kernel
theorem d_Face_carrier_60 : decode prog_1_method_6_code 60 = .ok (.invokespecial 87, 3) := by decide +kernel
theorem d_Face_carrier_63 : decode prog_1_method_6_code 63 = .ok (.athrow, 1) := by decide +kernel
theorem d_Face_carrier_64 : decode prog_1_method_6_code 64 = .ok (.aload_n 0, 1) := by decide +kernel
theorem d_Face_carrier_65 : decode prog_1_method_6_code 65 = .ok (.iload_n 1, 1) := by decide +kernel
theorem d_Face_carrier_66 : decode prog_1_method_6_code 66 = .ok (.invokevirtual 128, 3) := by decide +kernel
theorem d_Face_carrier_69 : decode prog_1_method_6_code 69 = .ok (.ifCond .eq 7, 3) := by decide +kernel
theorem d_Face_carrier_72 : decode prog_1_method_6_code 72 = .ok (.iconst (-1), 1) := by decide +kernel
theorem d_Face_carrier_73 : decode prog_1_method_6_code 73 = .ok (.goto 12, 3) := by decide +kernel
theorem d_Face_carrier_76 : decode prog_1_method_6_code 76 = .ok (.aload_n 0, 1) := by decide +kernel
theorem d_Face_carrier_77 : decode prog_1_method_6_code 77 = .ok (.getfield 44, 3) := by decide +kernel
theorem d_Face_carrier_80 : decode prog_1_method_6_code 80 = .ok (.iload_n 1, 1) := by decide +kernel
theorem d_Face_carrier_81 : decode prog_1_method_6_code 81 = .ok (.iload_n 2, 1) := by decide +kernel
theorem d_Face_carrier_82 : decode prog_1_method_6_code 82 = .ok (.invokevirtual 131, 3) := by decide +kernel
theorem d_Face_carrier_85 : decode prog_1_method_6_code 85 = .ok (.ireturn, 1) := by decide +kernel
theorem d_Face_job_0 : decode prog_1_method_7_code 0 = .ok (.aload_n 0, 1) := by decide +kernel
theorem d_Face_job_1 : decode prog_1_method_7_code 1 = .ok (.getfield 23, 3) := by decide +kernel
theorem d_Face_job_4 : decode prog_1_method_7_code 4 = .ok (.iload_n 1, 1) := by decide +kernel
theorem d_Face_job_5 : decode prog_1_method_7_code 5 = .ok (.iload_n 2, 1) := by decide +kernel
theorem d_Face_job_6 : decode prog_1_method_7_code 6 = .ok (.invokevirtual 66, 3) := by decide +kernel
theorem d_Face_job_9 : decode prog_1_method_7_code 9 = .ok (.ifCond .ne 13, 3) := by decide +kernel
theorem d_Face_job_12 : decode prog_1_method_7_code 12 = .ok (.new 70, 3) := by decide +kernel
theorem d_Face_job_15 : decode prog_1_method_7_code 15 = .ok (.dup, 1) := by decide +kernel
theorem d_Face_job_16 : decode prog_1_method_7_code 16 = .ok (.ldc 72, 2) := by decide +kernel
theorem d_Face_job_18 : decode prog_1_method_7_code 18 = .ok (.invokespecial 74, 3) := by decide +kernel
theorem d_Face_job_21 : decode prog_1_method_7_code 21 = .ok (.athrow, 1) := by decide +kernel
theorem d_Face_job_22 : decode prog_1_method_7_code 22 = .ok (.aload_n 0, 1) := by decide +kernel
theorem d_Face_job_23 : decode prog_1_method_7_code 23 = .ok (.getfield 51, 3) := by decide +kernel
theorem d_Face_job_26 : decode prog_1_method_7_code 26 = .ok (.invokevirtual 133, 3) := by decide +kernel
theorem d_Face_job_29 : decode prog_1_method_7_code 29 = .ok (.bipush 12, 2) := by decide +kernel
theorem d_Face_job_31 : decode prog_1_method_7_code 31 = .ok (.if_icmp .lt 13, 3) := by decide +kernel
theorem d_Face_job_34 : decode prog_1_method_7_code 34 = .ok (.new 83, 3) := by decide +kernel
theorem d_Face_job_37 : decode prog_1_method_7_code 37 = .ok (.dup, 1) := by decide +kernel
theorem d_Face_job_38 : decode prog_1_method_7_code 38 = .ok (.ldc 134, 2) := by decide +kernel
theorem d_Face_job_40 : decode prog_1_method_7_code 40 = .ok (.invokespecial 87, 3) := by decide +kernel
theorem d_Face_job_43 : decode prog_1_method_7_code 43 = .ok (.athrow, 1) := by decide +kernel
theorem d_Face_job_44 : decode prog_1_method_7_code 44 = .ok (.aload_n 0, 1) := by decide +kernel
theorem d_Face_job_45 : decode prog_1_method_7_code 45 = .ok (.getfield 51, 3) := by decide +kernel
theorem d_Face_job_48 : decode prog_1_method_7_code 48 = .ok (.iload_n 1, 1) := by decide +kernel
theorem d_Face_job_49 : decode prog_1_method_7_code 49 = .ok (.iload_n 2, 1) := by decide +kernel
theorem d_Face_job_50 : decode prog_1_method_7_code 50 = .ok (.invokevirtual 136, 3) := by decide +kernel
theorem d_Face_job_53 : decode prog_1_method_7_code 53 = .ok (.ireturn, 1) := by decide +kernel
theorem d_Face_step_0 : decode prog_1_method_9_code 0 = .ok (.aload_n 0, 1) := by decide +kernel
theorem d_Face_step_1 : decode prog_1_method_9_code 1 = .ok (.getfield 44, 3) := by decide +kernel
theorem d_Face_step_4 : decode prog_1_method_9_code 4 = .ok (.iload_n 1, 1) := by decide +kernel
theorem d_Face_step_5 : decode prog_1_method_9_code 5 = .ok (.invokevirtual 146, 3) := by decide +kernel
theorem d_Face_step_8 : decode prog_1_method_9_code 8 = .ok (.ifCond .ne 13, 3) := by decide +kernel
theorem d_Face_step_11 : decode prog_1_method_9_code 11 = .ok (.new 147, 3) := by decide +kernel
theorem d_Face_step_14 : decode prog_1_method_9_code 14 = .ok (.dup, 1) := by decide +kernel
theorem d_Face_step_15 : decode prog_1_method_9_code 15 = .ok (.ldc 149, 2) := by decide +kernel
theorem d_Face_step_17 : decode prog_1_method_9_code 17 = .ok (.invokespecial 151, 3) := by decide +kernel
theorem d_Face_step_20 : decode prog_1_method_9_code 20 = .ok (.athrow, 1) := by decide +kernel
theorem d_Face_step_21 : decode prog_1_method_9_code 21 = .ok (.aload_n 0, 1) := by decide +kernel
theorem d_Face_step_22 : decode prog_1_method_9_code 22 = .ok (.getfield 44, 3) := by decide +kernel
theorem d_Face_step_25 : decode prog_1_method_9_code 25 = .ok (.iload_n 1, 1) := by decide +kernel
theorem d_Face_step_26 : decode prog_1_method_9_code 26 = .ok (.invokevirtual 152, 3) := by decide +kernel
theorem d_Face_step_29 : decode prog_1_method_9_code 29 = .ok (.ifCond .eq 5, 3) := by decide +kernel
theorem d_Face_step_32 : decode prog_1_method_9_code 32 = .ok (.iconst 1, 1) := by decide +kernel
theorem d_Face_step_33 : decode prog_1_method_9_code 33 = .ok (.ireturn, 1) := by decide +kernel
theorem d_Face_step_34 : decode prog_1_method_9_code 34 = .ok (.aload_n 0, 1) := by decide +kernel
theorem d_Face_step_35 : decode prog_1_method_9_code 35 = .ok (.getfield 44, 3) := by decide +kernel
theorem d_Face_step_38 : decode prog_1_method_9_code 38 = .ok (.iload_n 1, 1) := by decide +kernel
theorem d_Face_step_39 : decode prog_1_method_9_code 39 = .ok (.invokevirtual 155, 3) := by decide +kernel
theorem d_Face_step_42 : decode prog_1_method_9_code 42 = .ok (.istore_n 2, 1) := by decide +kernel
theorem d_Face_step_43 : decode prog_1_method_9_code 43 = .ok (.iload_n 2, 1) := by decide +kernel
theorem d_Face_step_44 : decode prog_1_method_9_code 44 = .ok (.iconst (-1), 1) := by decide +kernel
theorem d_Face_step_45 : decode prog_1_method_9_code 45 = .ok (.if_icmp .ne 5, 3) := by decide +kernel
theorem d_Face_step_48 : decode prog_1_method_9_code 48 = .ok (.iconst 2, 1) := by decide +kernel
theorem d_Face_step_49 : decode prog_1_method_9_code 49 = .ok (.ireturn, 1) := by decide +kernel
theorem d_Face_step_50 : decode prog_1_method_9_code 50 = .ok (.aload_n 0, 1) := by decide +kernel
theorem d_Face_step_51 : decode prog_1_method_9_code 51 = .ok (.getfield 44, 3) := by decide +kernel
theorem d_Face_step_54 : decode prog_1_method_9_code 54 = .ok (.iload_n 1, 1) := by decide +kernel
theorem d_Face_step_55 : decode prog_1_method_9_code 55 = .ok (.invokevirtual 158, 3) := by decide +kernel
theorem d_Face_step_58 : decode prog_1_method_9_code 58 = .ok (.aload_n 0, 1) := by decide +kernel
theorem d_Face_step_59 : decode prog_1_method_9_code 59 = .ok (.getfield 51, 3) := by decide +kernel
theorem d_Face_step_62 : decode prog_1_method_9_code 62 = .ok (.iload_n 2, 1) := by decide +kernel
theorem d_Face_step_63 : decode prog_1_method_9_code 63 = .ok (.invokevirtual 161, 3) := by decide +kernel
theorem d_Face_step_66 : decode prog_1_method_9_code 66 = .ok (.if_icmp .eq 10, 3) := by decide +kernel
theorem d_Face_step_69 : decode prog_1_method_9_code 69 = .ok (.aload_n 0, 1) := by decide +kernel
theorem d_Face_step_70 : decode prog_1_method_9_code 70 = .ok (.iload_n 1, 1) := by decide +kernel
theorem d_Face_step_71 : decode prog_1_method_9_code 71 = .ok (.iload_n 2, 1) := by decide +kernel
theorem d_Face_step_72 : decode prog_1_method_9_code 72 = .ok (.invokevirtual 164, 3) := by decide +kernel
theorem d_Face_step_75 : decode prog_1_method_9_code 75 = .ok (.ireturn, 1) := by decide +kernel
theorem d_Face_step_76 : decode prog_1_method_9_code 76 = .ok (.aload_n 0, 1) := by decide +kernel
theorem d_Face_step_77 : decode prog_1_method_9_code 77 = .ok (.getfield 51, 3) := by decide +kernel
theorem d_Face_step_80 : decode prog_1_method_9_code 80 = .ok (.iload_n 2, 1) := by decide +kernel
theorem d_Face_step_81 : decode prog_1_method_9_code 81 = .ok (.invokevirtual 167, 3) := by decide +kernel
theorem d_Face_step_84 : decode prog_1_method_9_code 84 = .ok (.ifCond .eq 12, 3) := by decide +kernel
theorem d_Face_step_87 : decode prog_1_method_9_code 87 = .ok (.aload_n 0, 1) := by decide +kernel
theorem d_Face_step_88 : decode prog_1_method_9_code 88 = .ok (.iload_n 1, 1) := by decide +kernel
theorem d_Face_step_89 : decode prog_1_method_9_code 89 = .ok (.iload_n 2, 1) := by decide +kernel
theorem d_Face_step_90 : decode prog_1_method_9_code 90 = .ok (.invokevirtual 170, 3) := by decide +kernel
theorem d_Face_step_93 : decode prog_1_method_9_code 93 = .ok (.goto 8, 3) := by decide +kernel
theorem d_Face_step_96 : decode prog_1_method_9_code 96 = .ok (.aload_n 0, 1) := by decide +kernel
theorem d_Face_step_97 : decode prog_1_method_9_code 97 = .ok (.iload_n 2, 1) := by decide +kernel
theorem d_Face_step_98 : decode prog_1_method_9_code 98 = .ok (.invokevirtual 173, 3) := by decide +kernel
theorem d_Face_step_101 : decode prog_1_method_9_code 101 = .ok (.ireturn, 1) := by decide +kernel
theorem d_Face_tick_0 : decode prog_1_method_10_code 0 = .ok (.iload_n 1, 1) := by decide +kernel
theorem d_Face_tick_1 : decode prog_1_method_10_code 1 = .ok (.aload_n 0, 1) := by decide +kernel
theorem d_Face_tick_2 : decode prog_1_method_10_code 2 = .ok (.getfield 62, 3) := by decide +kernel
theorem d_Face_tick_5 : decode prog_1_method_10_code 5 = .ok (.if_icmp .lt 9, 3) := by decide +kernel
theorem d_Face_tick_8 : decode prog_1_method_10_code 8 = .ok (.iload_n 1, 1) := by decide +kernel
theorem d_Face_tick_9 : decode prog_1_method_10_code 9 = .ok (.ldc 176, 2) := by decide +kernel
theorem d_Face_tick_11 : decode prog_1_method_10_code 11 = .ok (.if_icmp .le 13, 3) := by decide +kernel
theorem d_Face_tick_14 : decode prog_1_method_10_code 14 = .ok (.new 70, 3) := by decide +kernel
theorem d_Face_tick_17 : decode prog_1_method_10_code 17 = .ok (.dup, 1) := by decide +kernel
theorem d_Face_tick_18 : decode prog_1_method_10_code 18 = .ok (.ldc 177, 2) := by decide +kernel
theorem d_Face_tick_20 : decode prog_1_method_10_code 20 = .ok (.invokespecial 74, 3) := by decide +kernel
theorem d_Face_tick_23 : decode prog_1_method_10_code 23 = .ok (.athrow, 1) := by decide +kernel
theorem d_Face_tick_24 : decode prog_1_method_10_code 24 = .ok (.aload_n 0, 1) := by decide +kernel
theorem d_Face_tick_25 : decode prog_1_method_10_code 25 = .ok (.iload_n 1, 1) := by decide +kernel
theorem d_Face_tick_26 : decode prog_1_method_10_code 26 = .ok (.putfield 62, 3) := by decide +kernel
theorem d_Face_tick_29 : decode prog_1_method_10_code 29 = .ok (.aload_n 0, 1) := by decide +kernel
theorem d_Face_tick_30 : decode prog_1_method_10_code 30 = .ok (.getfield 44, 3) := by decide +kernel
theorem d_Face_tick_33 : decode prog_1_method_10_code 33 = .ok (.iload_n 1, 1) := by decide +kernel
theorem d_Face_tick_34 : decode prog_1_method_10_code 34 = .ok (.invokevirtual 179, 3) := by decide +kernel
theorem d_Face_tick_37 : decode prog_1_method_10_code 37 = .ok (.ireturn, 1) := by decide +kernel
theorem d_Face_charge_0 : decode prog_1_method_12_code 0 = .ok (.aload_n 0, 1) := by decide +kernel
theorem d_Face_charge_1 : decode prog_1_method_12_code 1 = .ok (.getfield 44, 3) := by decide +kernel
theorem d_Face_charge_4 : decode prog_1_method_12_code 4 = .ok (.iload_n 1, 1) := by decide +kernel
theorem d_Face_charge_5 : decode prog_1_method_12_code 5 = .ok (.invokevirtual 146, 3) := by decide +kernel
theorem d_Face_charge_8 : decode prog_1_method_12_code 8 = .ok (.ifCond .ne 13, 3) := by decide +kernel
theorem d_Face_charge_11 : decode prog_1_method_12_code 11 = .ok (.new 147, 3) := by decide +kernel
theorem d_Face_charge_14 : decode prog_1_method_12_code 14 = .ok (.dup, 1) := by decide +kernel
theorem d_Face_charge_15 : decode prog_1_method_12_code 15 = .ok (.ldc 149, 2) := by decide +kernel
theorem d_Face_charge_17 : decode prog_1_method_12_code 17 = .ok (.invokespecial 151, 3) := by decide +kernel
theorem d_Face_charge_20 : decode prog_1_method_12_code 20 = .ok (.athrow, 1) := by decide +kernel
theorem d_Face_charge_21 : decode prog_1_method_12_code 21 = .ok (.aload_n 0, 1) := by decide +kernel
theorem d_Face_charge_22 : decode prog_1_method_12_code 22 = .ok (.getfield 44, 3) := by decide +kernel
theorem d_Face_charge_25 : decode prog_1_method_12_code 25 = .ok (.iload_n 1, 1) := by decide +kernel
theorem d_Face_charge_26 : decode prog_1_method_12_code 26 = .ok (.invokevirtual 152, 3) := by decide +kernel
theorem d_Face_charge_29 : decode prog_1_method_12_code 29 = .ok (.ifCond .ne 21, 3) := by decide +kernel
theorem d_Face_charge_32 : decode prog_1_method_12_code 32 = .ok (.aload_n 0, 1) := by decide +kernel
theorem d_Face_charge_33 : decode prog_1_method_12_code 33 = .ok (.getfield 23, 3) := by decide +kernel
theorem d_Face_charge_36 : decode prog_1_method_12_code 36 = .ok (.aload_n 0, 1) := by decide +kernel
theorem d_Face_charge_37 : decode prog_1_method_12_code 37 = .ok (.getfield 44, 3) := by decide +kernel
theorem d_Face_charge_40 : decode prog_1_method_12_code 40 = .ok (.iload_n 1, 1) := by decide +kernel
theorem d_Face_charge_41 : decode prog_1_method_12_code 41 = .ok (.invokevirtual 158, 3) := by decide +kernel
theorem d_Face_charge_44 : decode prog_1_method_12_code 44 = .ok (.invokevirtual 104, 3) := by decide +kernel
theorem d_Face_charge_47 : decode prog_1_method_12_code 47 = .ok (.ifCond .ne 5, 3) := by decide +kernel
theorem d_Face_charge_50 : decode prog_1_method_12_code 50 = .ok (.iconst 0, 1) := by decide +kernel
theorem d_Face_charge_51 : decode prog_1_method_12_code 51 = .ok (.ireturn, 1) := by decide +kernel
theorem d_Face_charge_52 : decode prog_1_method_12_code 52 = .ok (.aload_n 0, 1) := by decide +kernel
theorem d_Face_charge_53 : decode prog_1_method_12_code 53 = .ok (.getfield 44, 3) := by decide +kernel
theorem d_Face_charge_56 : decode prog_1_method_12_code 56 = .ok (.iload_n 1, 1) := by decide +kernel
theorem d_Face_charge_57 : decode prog_1_method_12_code 57 = .ok (.invokevirtual 189, 3) := by decide +kernel
theorem d_Face_charge_60 : decode prog_1_method_12_code 60 = .ok (.iconst 1, 1) := by decide +kernel
theorem d_Face_charge_61 : decode prog_1_method_12_code 61 = .ok (.ireturn, 1) := by decide +kernel
theorem d_Face_way_0 : decode prog_1_method_13_code 0 = .ok (.aload_n 0, 1) := by decide +kernel
theorem d_Face_way_1 : decode prog_1_method_13_code 1 = .ok (.getfield 23, 3) := by decide +kernel
theorem d_Face_way_4 : decode prog_1_method_13_code 4 = .ok (.iload_n 1, 1) := by decide +kernel
theorem d_Face_way_5 : decode prog_1_method_13_code 5 = .ok (.invokevirtual 92, 3) := by decide +kernel
theorem d_Face_way_8 : decode prog_1_method_13_code 8 = .ok (.ifCond .eq 14, 3) := by decide +kernel
theorem d_Face_way_11 : decode prog_1_method_13_code 11 = .ok (.aload_n 0, 1) := by decide +kernel
theorem d_Face_way_12 : decode prog_1_method_13_code 12 = .ok (.getfield 23, 3) := by decide +kernel
theorem d_Face_way_15 : decode prog_1_method_13_code 15 = .ok (.iload_n 2, 1) := by decide +kernel
theorem d_Face_way_16 : decode prog_1_method_13_code 16 = .ok (.invokevirtual 92, 3) := by decide +kernel
theorem d_Face_way_19 : decode prog_1_method_13_code 19 = .ok (.ifCond .ne 13, 3) := by decide +kernel
theorem d_Face_way_22 : decode prog_1_method_13_code 22 = .ok (.new 70, 3) := by decide +kernel
theorem d_Face_way_25 : decode prog_1_method_13_code 25 = .ok (.dup, 1) := by decide +kernel
theorem d_Face_way_26 : decode prog_1_method_13_code 26 = .ok (.ldc 192, 2) := by decide +kernel
theorem d_Face_way_28 : decode prog_1_method_13_code 28 = .ok (.invokespecial 74, 3) := by decide +kernel
theorem d_Face_way_31 : decode prog_1_method_13_code 31 = .ok (.athrow, 1) := by decide +kernel
theorem d_Face_way_32 : decode prog_1_method_13_code 32 = .ok (.iload_n 3, 1) := by decide +kernel
theorem d_Face_way_33 : decode prog_1_method_13_code 33 = .ok (.tableswitch 89 0 2 #[27, 53, 63], 27) := by decide +kernel
theorem d_Face_way_60 : decode prog_1_method_13_code 60 = .ok (.aload_n 0, 1) := by decide +kernel
theorem d_Face_way_61 : decode prog_1_method_13_code 61 = .ok (.getfield 30, 3) := by decide +kernel
theorem d_Face_way_64 : decode prog_1_method_13_code 64 = .ok (.iload_n 1, 1) := by decide +kernel
theorem d_Face_way_65 : decode prog_1_method_13_code 65 = .ok (.iload_n 2, 1) := by decide +kernel
theorem d_Face_way_66 : decode prog_1_method_13_code 66 = .ok (.invokevirtual 194, 3) := by decide +kernel
theorem d_Face_way_69 : decode prog_1_method_13_code 69 = .ok (.ifCond .eq 15, 3) := by decide +kernel
theorem d_Face_way_72 : decode prog_1_method_13_code 72 = .ok (.aload_n 0, 1) := by decide +kernel
theorem d_Face_way_73 : decode prog_1_method_13_code 73 = .ok (.getfield 30, 3) := by decide +kernel
theorem d_Face_way_76 : decode prog_1_method_13_code 76 = .ok (.iload_n 1, 1) := by decide +kernel
theorem d_Face_way_77 : decode prog_1_method_13_code 77 = .ok (.iload_n 2, 1) := by decide +kernel
theorem d_Face_way_78 : decode prog_1_method_13_code 78 = .ok (.invokevirtual 197, 3) := by decide +kernel
theorem d_Face_way_81 : decode prog_1_method_13_code 81 = .ok (.goto 4, 3) := by decide +kernel
theorem d_Face_way_84 : decode prog_1_method_13_code 84 = .ok (.iconst (-1), 1) := by decide +kernel
theorem d_Face_way_85 : decode prog_1_method_13_code 85 = .ok (.ireturn, 1) := by decide +kernel
theorem d_Face_way_86 : decode prog_1_method_13_code 86 = .ok (.aload_n 0, 1) := by decide +kernel
theorem d_Face_way_87 : decode prog_1_method_13_code 87 = .ok (.getfield 30, 3) := by decide +kernel
theorem d_Face_way_90 : decode prog_1_method_13_code 90 = .ok (.iload_n 1, 1) := by decide +kernel
theorem d_Face_way_91 : decode prog_1_method_13_code 91 = .ok (.iload_n 2, 1) := by decide +kernel
theorem d_Face_way_92 : decode prog_1_method_13_code 92 = .ok (.invokevirtual 200, 3) := by decide +kernel
theorem d_Face_way_95 : decode prog_1_method_13_code 95 = .ok (.ireturn, 1) := by decide +kernel
theorem d_Face_way_96 : decode prog_1_method_13_code 96 = .ok (.aload_n 0, 1) := by decide +kernel
theorem d_Face_way_97 : decode prog_1_method_13_code 97 = .ok (.getfield 30, 3) := by decide +kernel
theorem d_Face_way_100 : decode prog_1_method_13_code 100 = .ok (.iload_n 1, 1) := by decide +kernel
theorem d_Face_way_101 : decode prog_1_method_13_code 101 = .ok (.iload_n 2, 1) := by decide +kernel
theorem d_Face_way_102 : decode prog_1_method_13_code 102 = .ok (.invokevirtual 194, 3) := by decide +kernel
theorem d_Face_way_105 : decode prog_1_method_13_code 105 = .ok (.ifCond .eq 15, 3) := by decide +kernel
theorem d_Face_way_108 : decode prog_1_method_13_code 108 = .ok (.aload_n 0, 1) := by decide +kernel
theorem d_Face_way_109 : decode prog_1_method_13_code 109 = .ok (.getfield 30, 3) := by decide +kernel
theorem d_Face_way_112 : decode prog_1_method_13_code 112 = .ok (.iload_n 1, 1) := by decide +kernel
theorem d_Face_way_113 : decode prog_1_method_13_code 113 = .ok (.iload_n 2, 1) := by decide +kernel
theorem d_Face_way_114 : decode prog_1_method_13_code 114 = .ok (.invokevirtual 203, 3) := by decide +kernel
theorem d_Face_way_117 : decode prog_1_method_13_code 117 = .ok (.goto 4, 3) := by decide +kernel
theorem d_Face_way_120 : decode prog_1_method_13_code 120 = .ok (.iconst (-1), 1) := by decide +kernel
theorem d_Face_way_121 : decode prog_1_method_13_code 121 = .ok (.ireturn, 1) := by decide +kernel
theorem d_Face_way_122 : decode prog_1_method_13_code 122 = .ok (.new 70, 3) := by decide +kernel
theorem d_Face_way_125 : decode prog_1_method_13_code 125 = .ok (.dup, 1) := by decide +kernel
theorem d_Face_way_126 : decode prog_1_method_13_code 126 = .ok (.ldc 206, 2) := by decide +kernel
theorem d_Face_way_128 : decode prog_1_method_13_code 128 = .ok (.invokespecial 74, 3) := by decide +kernel
theorem d_Face_way_131 : decode prog_1_method_13_code 131 = .ok (.athrow, 1) := by decide +kernel
theorem d_Face_look_0 : decode prog_1_method_14_code 0 = .ok (.aload_n 0, 1) := by decide +kernel
theorem d_Face_look_1 : decode prog_1_method_14_code 1 = .ok (.getfield 44, 3) := by decide +kernel
theorem d_Face_look_4 : decode prog_1_method_14_code 4 = .ok (.iload_n 1, 1) := by decide +kernel
theorem d_Face_look_5 : decode prog_1_method_14_code 5 = .ok (.invokevirtual 146, 3) := by decide +kernel
theorem d_Face_look_8 : decode prog_1_method_14_code 8 = .ok (.ifCond .ne 13, 3) := by decide +kernel
theorem d_Face_look_11 : decode prog_1_method_14_code 11 = .ok (.new 147, 3) := by decide +kernel
theorem d_Face_look_14 : decode prog_1_method_14_code 14 = .ok (.dup, 1) := by decide +kernel
theorem d_Face_look_15 : decode prog_1_method_14_code 15 = .ok (.ldc 149, 2) := by decide +kernel
theorem d_Face_look_17 : decode prog_1_method_14_code 17 = .ok (.invokespecial 151, 3) := by decide +kernel
theorem d_Face_look_20 : decode prog_1_method_14_code 20 = .ok (.athrow, 1) := by decide +kernel
theorem d_Face_look_21 : decode prog_1_method_14_code 21 = .ok (.iload_n 2, 1) := by decide +kernel
theorem d_Face_look_22 : decode prog_1_method_14_code 22 = .ok (.tableswitch 105 0 6 #[42, 51, 60, 69, 78, 87, 96], 42) := by decide +kernel
theorem d_Face_look_64 : decode prog_1_method_14_code 64 = .ok (.aload_n 0, 1) := by decide +kernel
theorem d_Face_look_65 : decode prog_1_method_14_code 65 = .ok (.getfield 44, 3) := by decide +kernel
theorem d_Face_look_68 : decode prog_1_method_14_code 68 = .ok (.iload_n 1, 1) := by decide +kernel
theorem d_Face_look_69 : decode prog_1_method_14_code 69 = .ok (.invokevirtual 158, 3) := by decide +kernel
theorem d_Face_look_72 : decode prog_1_method_14_code 72 = .ok (.ireturn, 1) := by decide +kernel
theorem d_Face_look_73 : decode prog_1_method_14_code 73 = .ok (.aload_n 0, 1) := by decide +kernel
theorem d_Face_look_74 : decode prog_1_method_14_code 74 = .ok (.getfield 44, 3) := by decide +kernel
theorem d_Face_look_77 : decode prog_1_method_14_code 77 = .ok (.iload_n 1, 1) := by decide +kernel
theorem d_Face_look_78 : decode prog_1_method_14_code 78 = .ok (.invokevirtual 208, 3) := by decide +kernel
theorem d_Face_look_81 : decode prog_1_method_14_code 81 = .ok (.ireturn, 1) := by decide +kernel
theorem d_Face_look_82 : decode prog_1_method_14_code 82 = .ok (.aload_n 0, 1) := by decide +kernel
theorem d_Face_look_83 : decode prog_1_method_14_code 83 = .ok (.getfield 44, 3) := by decide +kernel
theorem d_Face_look_86 : decode prog_1_method_14_code 86 = .ok (.iload_n 1, 1) := by decide +kernel
theorem d_Face_look_87 : decode prog_1_method_14_code 87 = .ok (.invokevirtual 211, 3) := by decide +kernel
theorem d_Face_look_90 : decode prog_1_method_14_code 90 = .ok (.ireturn, 1) := by decide +kernel
theorem d_Face_look_91 : decode prog_1_method_14_code 91 = .ok (.aload_n 0, 1) := by decide +kernel
theorem d_Face_look_92 : decode prog_1_method_14_code 92 = .ok (.getfield 44, 3) := by decide +kernel
theorem d_Face_look_95 : decode prog_1_method_14_code 95 = .ok (.iload_n 1, 1) := by decide +kernel
theorem d_Face_look_96 : decode prog_1_method_14_code 96 = .ok (.invokevirtual 155, 3) := by decide +kernel
theorem d_Face_look_99 : decode prog_1_method_14_code 99 = .ok (.ireturn, 1) := by decide +kernel
theorem d_Face_look_100 : decode prog_1_method_14_code 100 = .ok (.aload_n 0, 1) := by decide +kernel
theorem d_Face_look_101 : decode prog_1_method_14_code 101 = .ok (.getfield 44, 3) := by decide +kernel
theorem d_Face_look_104 : decode prog_1_method_14_code 104 = .ok (.iload_n 1, 1) := by decide +kernel
theorem d_Face_look_105 : decode prog_1_method_14_code 105 = .ok (.invokevirtual 214, 3) := by decide +kernel
theorem d_Face_look_108 : decode prog_1_method_14_code 108 = .ok (.ireturn, 1) := by decide +kernel
theorem d_Face_look_109 : decode prog_1_method_14_code 109 = .ok (.aload_n 0, 1) := by decide +kernel
theorem d_Face_look_110 : decode prog_1_method_14_code 110 = .ok (.getfield 44, 3) := by decide +kernel
theorem d_Face_look_113 : decode prog_1_method_14_code 113 = .ok (.iload_n 1, 1) := by decide +kernel
theorem d_Face_look_114 : decode prog_1_method_14_code 114 = .ok (.invokevirtual 217, 3) := by decide +kernel
theorem d_Face_look_117 : decode prog_1_method_14_code 117 = .ok (.ireturn, 1) := by decide +kernel
theorem d_Face_look_118 : decode prog_1_method_14_code 118 = .ok (.aload_n 0, 1) := by decide +kernel
theorem d_Face_look_119 : decode prog_1_method_14_code 119 = .ok (.getfield 44, 3) := by decide +kernel
theorem d_Face_look_122 : decode prog_1_method_14_code 122 = .ok (.iload_n 1, 1) := by decide +kernel
theorem d_Face_look_123 : decode prog_1_method_14_code 123 = .ok (.invokevirtual 220, 3) := by decide +kernel
theorem d_Face_look_126 : decode prog_1_method_14_code 126 = .ok (.ireturn, 1) := by decide +kernel
theorem d_Face_look_127 : decode prog_1_method_14_code 127 = .ok (.new 147, 3) := by decide +kernel
theorem d_Face_look_130 : decode prog_1_method_14_code 130 = .ok (.dup, 1) := by decide +kernel
theorem d_Face_look_131 : decode prog_1_method_14_code 131 = .ok (.ldc 206, 2) := by decide +kernel
theorem d_Face_look_133 : decode prog_1_method_14_code 133 = .ok (.invokespecial 151, 3) := by decide +kernel
theorem d_Face_look_136 : decode prog_1_method_14_code 136 = .ok (.athrow, 1) := by decide +kernel
theorem d_Face_of_0 : decode prog_1_method_15_code 0 = .ok (.aload_n 0, 1) := by decide +kernel
theorem d_Face_of_1 : decode prog_1_method_15_code 1 = .ok (.getfield 51, 3) := by decide +kernel
theorem d_Face_of_4 : decode prog_1_method_15_code 4 = .ok (.iload_n 1, 1) := by decide +kernel
theorem d_Face_of_5 : decode prog_1_method_15_code 5 = .ok (.invokevirtual 223, 3) := by decide +kernel
theorem d_Face_of_8 : decode prog_1_method_15_code 8 = .ok (.ifCond .ne 13, 3) := by decide +kernel
theorem d_Face_of_11 : decode prog_1_method_15_code 11 = .ok (.new 147, 3) := by decide +kernel
theorem d_Face_of_14 : decode prog_1_method_15_code 14 = .ok (.dup, 1) := by decide +kernel
theorem d_Face_of_15 : decode prog_1_method_15_code 15 = .ok (.ldc 224, 2) := by decide +kernel
theorem d_Face_of_17 : decode prog_1_method_15_code 17 = .ok (.invokespecial 151, 3) := by decide +kernel
theorem d_Face_of_20 : decode prog_1_method_15_code 20 = .ok (.athrow, 1) := by decide +kernel
theorem d_Face_of_21 : decode prog_1_method_15_code 21 = .ok (.iload_n 2, 1) := by decide +kernel
theorem d_Face_of_22 : decode prog_1_method_15_code 22 = .ok (.tableswitch 66 0 3 #[30, 39, 48, 57], 30) := by decide +kernel
theorem d_Face_of_52 : decode prog_1_method_15_code 52 = .ok (.aload_n 0, 1) := by decide +kernel
theorem d_Face_of_53 : decode prog_1_method_15_code 53 = .ok (.getfield 51, 3) := by decide +kernel
theorem d_Face_of_56 : decode prog_1_method_15_code 56 = .ok (.iload_n 1, 1) := by decide +kernel
theorem d_Face_of_57 : decode prog_1_method_15_code 57 = .ok (.invokevirtual 226, 3) := by decide +kernel
theorem d_Face_of_60 : decode prog_1_method_15_code 60 = .ok (.ireturn, 1) := by decide +kernel
theorem d_Face_of_61 : decode prog_1_method_15_code 61 = .ok (.aload_n 0, 1) := by decide +kernel
theorem d_Face_of_62 : decode prog_1_method_15_code 62 = .ok (.getfield 51, 3) := by decide +kernel
theorem d_Face_of_65 : decode prog_1_method_15_code 65 = .ok (.iload_n 1, 1) := by decide +kernel
theorem d_Face_of_66 : decode prog_1_method_15_code 66 = .ok (.invokevirtual 229, 3) := by decide +kernel
theorem d_Face_of_69 : decode prog_1_method_15_code 69 = .ok (.ireturn, 1) := by decide +kernel
theorem d_Face_of_70 : decode prog_1_method_15_code 70 = .ok (.aload_n 0, 1) := by decide +kernel
theorem d_Face_of_71 : decode prog_1_method_15_code 71 = .ok (.getfield 51, 3) := by decide +kernel
theorem d_Face_of_74 : decode prog_1_method_15_code 74 = .ok (.iload_n 1, 1) := by decide +kernel
theorem d_Face_of_75 : decode prog_1_method_15_code 75 = .ok (.invokevirtual 232, 3) := by decide +kernel
theorem d_Face_of_78 : decode prog_1_method_15_code 78 = .ok (.ireturn, 1) := by decide +kernel
theorem d_Face_of_79 : decode prog_1_method_15_code 79 = .ok (.aload_n 0, 1) := by decide +kernel
theorem d_Face_of_80 : decode prog_1_method_15_code 80 = .ok (.getfield 51, 3) := by decide +kernel
theorem d_Face_of_83 : decode prog_1_method_15_code 83 = .ok (.iload_n 1, 1) := by decide +kernel
theorem d_Face_of_84 : decode prog_1_method_15_code 84 = .ok (.invokevirtual 235, 3) := by decide +kernel
theorem d_Face_of_87 : decode prog_1_method_15_code 87 = .ok (.ireturn, 1) := by decide +kernel
theorem d_Face_of_88 : decode prog_1_method_15_code 88 = .ok (.new 147, 3) := by decide +kernel
theorem d_Face_of_91 : decode prog_1_method_15_code 91 = .ok (.dup, 1) := by decide +kernel
theorem d_Face_of_92 : decode prog_1_method_15_code 92 = .ok (.ldc 206, 2) := by decide +kernel
theorem d_Face_of_94 : decode prog_1_method_15_code 94 = .ok (.invokespecial 151, 3) := by decide +kernel
theorem d_Face_of_97 : decode prog_1_method_15_code 97 = .ok (.athrow, 1) := by decide +kernel
