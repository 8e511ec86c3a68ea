theorem d_Face_places_0 : decode prog_1_method_3_code 0 = .ok (.aload_n 0, 1) := by decide +kernel
theorem d_Face_places_1 : decode prog_1_method_3_code 1 = .ok (.getfield 23, 3) := by decide +kernel
theorem d_Face_places_4 : decode prog_1_method_3_code 4 = .ok (.iload_n 1, 1) := by decide +kernel
theorem d_Face_places_5 : decode prog_1_method_3_code 5 = .ok (.invokevirtual 92, 3) := by decide +kernel
theorem d_Face_places_8 : decode prog_1_method_3_code 8 = .ok (.ifCond .eq 25, 3) := by decide +kernel
theorem d_Face_places_11 : decode prog_1_method_3_code 11 = .ok (.iload_n 2, 1) := by decide +kernel
theorem d_Face_places_12 : decode prog_1_method_3_code 12 = .ok (.iconst 1, 1) := by decide +kernel
theorem d_Face_places_13 : decode prog_1_method_3_code 13 = .ok (.if_icmp .lt 20, 3) := by decide +kernel
theorem d_Face_places_16 : decode prog_1_method_3_code 16 = .ok (.iload_n 2, 1) := by decide +kernel
theorem d_Face_places_17 : decode prog_1_method_3_code 17 = .ok (.iconst 4, 1) := by decide +kernel
theorem d_Face_places_18 : decode prog_1_method_3_code 18 = .ok (.if_icmp .gt 15, 3) := by decide +kernel
theorem d_Face_places_21 : decode prog_1_method_3_code 21 = .ok (.iload_n 2, 1) := by decide +kernel
theorem d_Face_places_22 : decode prog_1_method_3_code 22 = .ok (.aload_n 0, 1) := by decide +kernel
theorem d_Face_places_23 : decode prog_1_method_3_code 23 = .ok (.getfield 44, 3) := by decide +kernel
theorem d_Face_places_26 : decode prog_1_method_3_code 26 = .ok (.iload_n 1, 1) := by decide +kernel
theorem d_Face_places_27 : decode prog_1_method_3_code 27 = .ok (.invokevirtual 96, 3) := by decide +kernel
theorem d_Face_places_30 : decode prog_1_method_3_code 30 = .ok (.if_icmp .ge 5, 3) := by decide +kernel
theorem d_Face_places_33 : decode prog_1_method_3_code 33 = .ok (.iconst 0, 1) := by decide +kernel
theorem d_Face_places_34 : decode prog_1_method_3_code 34 = .ok (.ireturn, 1) := by decide +kernel
theorem d_Face_places_35 : decode prog_1_method_3_code 35 = .ok (.aload_n 0, 1) := by decide +kernel
theorem d_Face_places_36 : decode prog_1_method_3_code 36 = .ok (.getfield 23, 3) := by decide +kernel
theorem d_Face_places_39 : decode prog_1_method_3_code 39 = .ok (.iload_n 1, 1) := by decide +kernel
theorem d_Face_places_40 : decode prog_1_method_3_code 40 = .ok (.iload_n 2, 1) := by decide +kernel
theorem d_Face_places_41 : decode prog_1_method_3_code 41 = .ok (.invokevirtual 100, 3) := by decide +kernel
theorem d_Face_places_44 : decode prog_1_method_3_code 44 = .ok (.iconst 1, 1) := by decide +kernel
theorem d_Face_places_45 : decode prog_1_method_3_code 45 = .ok (.ireturn, 1) := by decide +kernel
theorem d_Face_charger_0 : decode prog_1_method_4_code 0 = .ok (.aload_n 0, 1) := by decide +kernel
theorem d_Face_charger_1 : decode prog_1_method_4_code 1 = .ok (.getfield 23, 3) := by decide +kernel
theorem d_Face_charger_4 : decode prog_1_method_4_code 4 = .ok (.iload_n 1, 1) := by decide +kernel
theorem d_Face_charger_5 : decode prog_1_method_4_code 5 = .ok (.invokevirtual 92, 3) := by decide +kernel
theorem d_Face_charger_8 : decode prog_1_method_4_code 8 = .ok (.ifCond .eq 15, 3) := by decide +kernel
theorem d_Face_charger_11 : decode prog_1_method_4_code 11 = .ok (.aload_n 0, 1) := by decide +kernel
theorem d_Face_charger_12 : decode prog_1_method_4_code 12 = .ok (.getfield 23, 3) := by decide +kernel
theorem d_Face_charger_15 : decode prog_1_method_4_code 15 = .ok (.iload_n 1, 1) := by decide +kernel
theorem d_Face_charger_16 : decode prog_1_method_4_code 16 = .ok (.invokevirtual 104, 3) := by decide +kernel
theorem d_Face_charger_19 : decode prog_1_method_4_code 19 = .ok (.iload_n 2, 1) := by decide +kernel
theorem d_Face_charger_20 : decode prog_1_method_4_code 20 = .ok (.if_icmp .ne 5, 3) := by decide +kernel
theorem d_Face_charger_23 : decode prog_1_method_4_code 23 = .ok (.iconst 0, 1) := by decide +kernel
theorem d_Face_charger_24 : decode prog_1_method_4_code 24 = .ok (.ireturn, 1) := by decide +kernel
theorem d_Face_charger_25 : decode prog_1_method_4_code 25 = .ok (.aload_n 0, 1) := by decide +kernel
theorem d_Face_charger_26 : decode prog_1_method_4_code 26 = .ok (.getfield 23, 3) := by decide +kernel
theorem d_Face_charger_29 : decode prog_1_method_4_code 29 = .ok (.iload_n 1, 1) := by decide +kernel
theorem d_Face_charger_30 : decode prog_1_method_4_code 30 = .ok (.iload_n 2, 1) := by decide +kernel
theorem d_Face_charger_31 : decode prog_1_method_4_code 31 = .ok (.invokevirtual 107, 3) := by decide +kernel
theorem d_Face_charger_34 : decode prog_1_method_4_code 34 = .ok (.iconst 1, 1) := by decide +kernel
theorem d_Face_charger_35 : decode prog_1_method_4_code 35 = .ok (.ireturn, 1) := by decide +kernel
theorem d_Face_close_0 : decode prog_1_method_11_code 0 = .ok (.aload_n 0, 1) := by decide +kernel
theorem d_Face_close_1 : decode prog_1_method_11_code 1 = .ok (.getfield 30, 3) := by decide +kernel
theorem d_Face_close_4 : decode prog_1_method_11_code 4 = .ok (.iload_n 1, 1) := by decide +kernel
theorem d_Face_close_5 : decode prog_1_method_11_code 5 = .ok (.invokevirtual 182, 3) := by decide +kernel
theorem d_Face_close_8 : decode prog_1_method_11_code 8 = .ok (.ifCond .eq 15, 3) := by decide +kernel
theorem d_Face_close_11 : decode prog_1_method_11_code 11 = .ok (.aload_n 0, 1) := by decide +kernel
theorem d_Face_close_12 : decode prog_1_method_11_code 12 = .ok (.getfield 30, 3) := by decide +kernel
theorem d_Face_close_15 : decode prog_1_method_11_code 15 = .ok (.iload_n 1, 1) := by decide +kernel
theorem d_Face_close_16 : decode prog_1_method_11_code 16 = .ok (.invokevirtual 183, 3) := by decide +kernel
theorem d_Face_close_19 : decode prog_1_method_11_code 19 = .ok (.iload_n 2, 1) := by decide +kernel
theorem d_Face_close_20 : decode prog_1_method_11_code 20 = .ok (.if_icmp .ne 5, 3) := by decide +kernel
theorem d_Face_close_23 : decode prog_1_method_11_code 23 = .ok (.iconst 0, 1) := by decide +kernel
theorem d_Face_close_24 : decode prog_1_method_11_code 24 = .ok (.ireturn, 1) := by decide +kernel
theorem d_Face_close_25 : decode prog_1_method_11_code 25 = .ok (.aload_n 0, 1) := by decide +kernel
theorem d_Face_close_26 : decode prog_1_method_11_code 26 = .ok (.getfield 30, 3) := by decide +kernel
theorem d_Face_close_29 : decode prog_1_method_11_code 29 = .ok (.iload_n 1, 1) := by decide +kernel
theorem d_Face_close_30 : decode prog_1_method_11_code 30 = .ok (.iload_n 2, 1) := by decide +kernel
theorem d_Face_close_31 : decode prog_1_method_11_code 31 = .ok (.invokevirtual 186, 3) := by decide +kernel
theorem d_Face_close_34 : decode prog_1_method_11_code 34 = .ok (.iconst 1, 1) := by decide +kernel
theorem d_Face_close_35 : decode prog_1_method_11_code 35 = .ok (.ireturn, 1) := by decide +kernel
theorem d_Face_countInAll_0 : decode prog_1_method_17_code 0 = .ok (.iload_n 1, 1) := by decide +kernel
theorem d_Face_countInAll_1 : decode prog_1_method_17_code 1 = .ok (.tableswitch 108 0 7 #[47, 55, 63, 71, 79, 84, 92, 100], 47) := by decide +kernel
theorem d_Face_countInAll_48 : decode prog_1_method_17_code 48 = .ok (.aload_n 0, 1) := by decide +kernel
theorem d_Face_countInAll_49 : decode prog_1_method_17_code 49 = .ok (.getfield 23, 3) := by decide +kernel
theorem d_Face_countInAll_52 : decode prog_1_method_17_code 52 = .ok (.invokevirtual 261, 3) := by decide +kernel
theorem d_Face_countInAll_55 : decode prog_1_method_17_code 55 = .ok (.ireturn, 1) := by decide +kernel
theorem d_Face_countInAll_56 : decode prog_1_method_17_code 56 = .ok (.aload_n 0, 1) := by decide +kernel
theorem d_Face_countInAll_57 : decode prog_1_method_17_code 57 = .ok (.getfield 30, 3) := by decide +kernel
theorem d_Face_countInAll_60 : decode prog_1_method_17_code 60 = .ok (.invokevirtual 79, 3) := by decide +kernel
theorem d_Face_countInAll_63 : decode prog_1_method_17_code 63 = .ok (.ireturn, 1) := by decide +kernel
theorem d_Face_countInAll_64 : decode prog_1_method_17_code 64 = .ok (.aload_n 0, 1) := by decide +kernel
theorem d_Face_countInAll_65 : decode prog_1_method_17_code 65 = .ok (.getfield 44, 3) := by decide +kernel
theorem d_Face_countInAll_68 : decode prog_1_method_17_code 68 = .ok (.invokevirtual 125, 3) := by decide +kernel
theorem d_Face_countInAll_71 : decode prog_1_method_17_code 71 = .ok (.ireturn, 1) := by decide +kernel
theorem d_Face_countInAll_72 : decode prog_1_method_17_code 72 = .ok (.aload_n 0, 1) := by decide +kernel
theorem d_Face_countInAll_73 : decode prog_1_method_17_code 73 = .ok (.getfield 51, 3) := by decide +kernel
theorem d_Face_countInAll_76 : decode prog_1_method_17_code 76 = .ok (.invokevirtual 133, 3) := by decide +kernel
theorem d_Face_countInAll_79 : decode prog_1_method_17_code 79 = .ok (.ireturn, 1) := by decide +kernel
theorem d_Face_countInAll_80 : decode prog_1_method_17_code 80 = .ok (.aload_n 0, 1) := by decide +kernel
theorem d_Face_countInAll_81 : decode prog_1_method_17_code 81 = .ok (.getfield 62, 3) := by decide +kernel
theorem d_Face_countInAll_84 : decode prog_1_method_17_code 84 = .ok (.ireturn, 1) := by decide +kernel
theorem d_Face_countInAll_85 : decode prog_1_method_17_code 85 = .ok (.aload_n 0, 1) := by decide +kernel
theorem d_Face_countInAll_86 : decode prog_1_method_17_code 86 = .ok (.getfield 51, 3) := by decide +kernel
theorem d_Face_countInAll_89 : decode prog_1_method_17_code 89 = .ok (.invokevirtual 262, 3) := by decide +kernel
theorem d_Face_countInAll_92 : decode prog_1_method_17_code 92 = .ok (.ireturn, 1) := by decide +kernel
theorem d_Face_countInAll_93 : decode prog_1_method_17_code 93 = .ok (.aload_n 0, 1) := by decide +kernel
theorem d_Face_countInAll_94 : decode prog_1_method_17_code 94 = .ok (.getfield 44, 3) := by decide +kernel
theorem d_Face_countInAll_97 : decode prog_1_method_17_code 97 = .ok (.invokevirtual 265, 3) := by decide +kernel
theorem d_Face_countInAll_100 : decode prog_1_method_17_code 100 = .ok (.ireturn, 1) := by decide +kernel
theorem d_Face_countInAll_101 : decode prog_1_method_17_code 101 = .ok (.aload_n 0, 1) := by decide +kernel
theorem d_Face_countInAll_102 : decode prog_1_method_17_code 102 = .ok (.getfield 37, 3) := by decide +kernel
theorem d_Face_countInAll_105 : decode prog_1_method_17_code 105 = .ok (.invokevirtual 116, 3) := by decide +kernel
theorem d_Face_countInAll_108 : decode prog_1_method_17_code 108 = .ok (.ireturn, 1) := by decide +kernel
theorem d_Face_countInAll_109 : decode prog_1_method_17_code 109 = .ok (.iconst (-1), 1) := by decide +kernel
theorem d_Face_countInAll_110 : decode prog_1_method_17_code 110 = .ok (.ireturn, 1) := by decide +kernel
theorem d_Face_asNumber_0 : decode prog_1_method_18_code 0 = .ok (.iload_n 0, 1) := by decide +kernel
theorem d_Face_asNumber_1 : decode prog_1_method_18_code 1 = .ok (.ifCond .eq 7, 3) := by decide +kernel
theorem d_Face_asNumber_4 : decode prog_1_method_18_code 4 = .ok (.iconst 1, 1) := by decide +kernel
theorem d_Face_asNumber_5 : decode prog_1_method_18_code 5 = .ok (.goto 4, 3) := by decide +kernel
theorem d_Face_asNumber_8 : decode prog_1_method_18_code 8 = .ok (.iconst 0, 1) := by decide +kernel
theorem d_Face_asNumber_9 : decode prog_1_method_18_code 9 = .ok (.ireturn, 1) := by decide +kernel
theorem d_Face_emptyTravel_0 : decode prog_1_method_21_code 0 = .ok (.aload_n 0, 1) := by decide +kernel
theorem d_Face_emptyTravel_1 : decode prog_1_method_21_code 1 = .ok (.getfield 30, 3) := by decide +kernel
theorem d_Face_emptyTravel_4 : decode prog_1_method_21_code 4 = .ok (.aload_n 0, 1) := by decide +kernel
theorem d_Face_emptyTravel_5 : decode prog_1_method_21_code 5 = .ok (.getfield 44, 3) := by decide +kernel
theorem d_Face_emptyTravel_8 : decode prog_1_method_21_code 8 = .ok (.iload_n 1, 1) := by decide +kernel
theorem d_Face_emptyTravel_9 : decode prog_1_method_21_code 9 = .ok (.invokevirtual 158, 3) := by decide +kernel
theorem d_Face_emptyTravel_12 : decode prog_1_method_21_code 12 = .ok (.aload_n 0, 1) := by decide +kernel
theorem d_Face_emptyTravel_13 : decode prog_1_method_21_code 13 = .ok (.getfield 51, 3) := by decide +kernel
theorem d_Face_emptyTravel_16 : decode prog_1_method_21_code 16 = .ok (.iload_n 2, 1) := by decide +kernel
theorem d_Face_emptyTravel_17 : decode prog_1_method_21_code 17 = .ok (.invokevirtual 226, 3) := by decide +kernel
theorem d_Face_emptyTravel_20 : decode prog_1_method_21_code 20 = .ok (.invokevirtual 197, 3) := by decide +kernel
theorem d_Face_emptyTravel_23 : decode prog_1_method_21_code 23 = .ok (.ireturn, 1) := by decide +kernel
theorem d_Face_offerJobs_0 : decode prog_1_method_19_code 0 = .ok (.aload_n 0, 1) := by decide +kernel
theorem d_Face_offerJobs_1 : decode prog_1_method_19_code 1 = .ok (.getfield 58, 3) := by decide +kernel
theorem d_Face_offerJobs_4 : decode prog_1_method_19_code 4 = .ok (.aload_n 0, 1) := by decide +kernel
theorem d_Face_offerJobs_5 : decode prog_1_method_19_code 5 = .ok (.getfield 51, 3) := by decide +kernel
theorem d_Face_offerJobs_8 : decode prog_1_method_19_code 8 = .ok (.invokevirtual 133, 3) := by decide +kernel
theorem d_Face_offerJobs_11 : decode prog_1_method_19_code 11 = .ok (.aload_n 0, 1) := by decide +kernel
theorem d_Face_offerJobs_12 : decode prog_1_method_19_code 12 = .ok (.getfield 44, 3) := by decide +kernel
theorem d_Face_offerJobs_15 : decode prog_1_method_19_code 15 = .ok (.invokevirtual 125, 3) := by decide +kernel
theorem d_Face_offerJobs_18 : decode prog_1_method_19_code 18 = .ok (.invokevirtual 268, 3) := by decide +kernel
theorem d_Face_offerJobs_21 : decode prog_1_method_19_code 21 = .ok (.iconst 0, 1) := by decide +kernel
theorem d_Face_offerJobs_22 : decode prog_1_method_19_code 22 = .ok (.istore_n 1, 1) := by decide +kernel
theorem d_Face_offerJobs_23 : decode prog_1_method_19_code 23 = .ok (.iload_n 1, 1) := by decide +kernel
theorem d_Face_offerJobs_24 : decode prog_1_method_19_code 24 = .ok (.aload_n 0, 1) := by decide +kernel
theorem d_Face_offerJobs_25 : decode prog_1_method_19_code 25 = .ok (.getfield 51, 3) := by decide +kernel
theorem d_Face_offerJobs_28 : decode prog_1_method_19_code 28 = .ok (.invokevirtual 133, 3) := by decide +kernel
theorem d_Face_offerJobs_31 : decode prog_1_method_19_code 31 = .ok (.if_icmp .ge 73, 3) := by decide +kernel
theorem d_Face_offerJobs_34 : decode prog_1_method_19_code 34 = .ok (.iconst 0, 1) := by decide +kernel
theorem d_Face_offerJobs_35 : decode prog_1_method_19_code 35 = .ok (.istore_n 2, 1) := by decide +kernel
theorem d_Face_offerJobs_36 : decode prog_1_method_19_code 36 = .ok (.iload_n 2, 1) := by decide +kernel
theorem d_Face_offerJobs_37 : decode prog_1_method_19_code 37 = .ok (.aload_n 0, 1) := by decide +kernel
theorem d_Face_offerJobs_38 : decode prog_1_method_19_code 38 = .ok (.getfield 44, 3) := by decide +kernel
theorem d_Face_offerJobs_41 : decode prog_1_method_19_code 41 = .ok (.invokevirtual 125, 3) := by decide +kernel
theorem d_Face_offerJobs_44 : decode prog_1_method_19_code 44 = .ok (.if_icmp .ge 54, 3) := by decide +kernel
theorem d_Face_offerJobs_47 : decode prog_1_method_19_code 47 = .ok (.aload_n 0, 1) := by decide +kernel
theorem d_Face_offerJobs_48 : decode prog_1_method_19_code 48 = .ok (.iload_n 2, 1) := by decide +kernel
theorem d_Face_offerJobs_49 : decode prog_1_method_19_code 49 = .ok (.iload_n 1, 1) := by decide +kernel
theorem d_Face_offerJobs_50 : decode prog_1_method_19_code 50 = .ok (.invokevirtual 271, 3) := by decide +kernel
theorem d_Face_offerJobs_53 : decode prog_1_method_19_code 53 = .ok (.istore_n 3, 1) := by decide +kernel
theorem d_Face_offerJobs_54 : decode prog_1_method_19_code 54 = .ok (.aload_n 0, 1) := by decide +kernel
theorem d_Face_offerJobs_55 : decode prog_1_method_19_code 55 = .ok (.getfield 51, 3) := by decide +kernel
theorem d_Face_offerJobs_58 : decode prog_1_method_19_code 58 = .ok (.iload_n 1, 1) := by decide +kernel
theorem d_Face_offerJobs_59 : decode prog_1_method_19_code 59 = .ok (.invokevirtual 274, 3) := by decide +kernel
theorem d_Face_offerJobs_62 : decode prog_1_method_19_code 62 = .ok (.ifCond .eq 30, 3) := by decide +kernel
theorem d_Face_offerJobs_65 : decode prog_1_method_19_code 65 = .ok (.aload_n 0, 1) := by decide +kernel
theorem d_Face_offerJobs_66 : decode prog_1_method_19_code 66 = .ok (.getfield 44, 3) := by decide +kernel
theorem d_Face_offerJobs_69 : decode prog_1_method_19_code 69 = .ok (.iload_n 2, 1) := by decide +kernel
theorem d_Face_offerJobs_70 : decode prog_1_method_19_code 70 = .ok (.invokevirtual 277, 3) := by decide +kernel
theorem d_Face_offerJobs_73 : decode prog_1_method_19_code 73 = .ok (.ifCond .eq 19, 3) := by decide +kernel
theorem d_Face_offerJobs_76 : decode prog_1_method_19_code 76 = .ok (.iload_n 3, 1) := by decide +kernel
theorem d_Face_offerJobs_77 : decode prog_1_method_19_code 77 = .ok (.ldc 176, 2) := by decide +kernel
theorem d_Face_offerJobs_79 : decode prog_1_method_19_code 79 = .ok (.if_icmp .ge 13, 3) := by decide +kernel
theorem d_Face_offerJobs_82 : decode prog_1_method_19_code 82 = .ok (.aload_n 0, 1) := by decide +kernel
theorem d_Face_offerJobs_83 : decode prog_1_method_19_code 83 = .ok (.getfield 58, 3) := by decide +kernel
theorem d_Face_offerJobs_86 : decode prog_1_method_19_code 86 = .ok (.iload_n 1, 1) := by decide +kernel
theorem d_Face_offerJobs_87 : decode prog_1_method_19_code 87 = .ok (.iload_n 2, 1) := by decide +kernel
theorem d_Face_offerJobs_88 : decode prog_1_method_19_code 88 = .ok (.iload_n 3, 1) := by decide +kernel
theorem d_Face_offerJobs_89 : decode prog_1_method_19_code 89 = .ok (.invokevirtual 280, 3) := by decide +kernel
theorem d_Face_offerJobs_92 : decode prog_1_method_19_code 92 = .ok (.iinc 2 1, 3) := by decide +kernel
theorem d_Face_offerJobs_95 : decode prog_1_method_19_code 95 = .ok (.goto (-59), 3) := by decide +kernel
theorem d_Face_offerJobs_98 : decode prog_1_method_19_code 98 = .ok (.iinc 1 1, 3) := by decide +kernel
theorem d_Face_offerJobs_101 : decode prog_1_method_19_code 101 = .ok (.goto (-78), 3) := by decide +kernel
theorem d_Face_offerJobs_104 : decode prog_1_method_19_code 104 = .ok (.return_, 1) := by decide +kernel
theorem d_Face_giveOut_0 : decode prog_1_method_20_code 0 = .ok (.iconst 0, 1) := by decide +kernel
theorem d_Face_giveOut_1 : decode prog_1_method_20_code 1 = .ok (.istore_n 1, 1) := by decide +kernel
theorem d_Face_giveOut_2 : decode prog_1_method_20_code 2 = .ok (.iconst 0, 1) := by decide +kernel
theorem d_Face_giveOut_3 : decode prog_1_method_20_code 3 = .ok (.istore_n 2, 1) := by decide +kernel
theorem d_Face_giveOut_4 : decode prog_1_method_20_code 4 = .ok (.iconst 0, 1) := by decide +kernel
theorem d_Face_giveOut_5 : decode prog_1_method_20_code 5 = .ok (.istore_n 3, 1) := by decide +kernel
theorem d_Face_giveOut_6 : decode prog_1_method_20_code 6 = .ok (.iload_n 3, 1) := by decide +kernel
theorem d_Face_giveOut_7 : decode prog_1_method_20_code 7 = .ok (.aload_n 0, 1) := by decide +kernel
theorem d_Face_giveOut_8 : decode prog_1_method_20_code 8 = .ok (.getfield 51, 3) := by decide +kernel
theorem d_Face_giveOut_11 : decode prog_1_method_20_code 11 = .ok (.invokevirtual 133, 3) := by decide +kernel
theorem d_Face_giveOut_14 : decode prog_1_method_20_code 14 = .ok (.if_icmp .ge 58, 3) := by decide +kernel
theorem d_Face_giveOut_17 : decode prog_1_method_20_code 17 = .ok (.aload_n 0, 1) := by decide +kernel
theorem d_Face_giveOut_18 : decode prog_1_method_20_code 18 = .ok (.getfield 58, 3) := by decide +kernel
theorem d_Face_giveOut_21 : decode prog_1_method_20_code 21 = .ok (.iload_n 3, 1) := by decide +kernel
theorem d_Face_giveOut_22 : decode prog_1_method_20_code 22 = .ok (.invokevirtual 284, 3) := by decide +kernel
theorem d_Face_giveOut_25 : decode prog_1_method_20_code 25 = .ok (.istore 4, 2) := by decide +kernel
theorem d_Face_giveOut_27 : decode prog_1_method_20_code 27 = .ok (.iload 4, 2) := by decide +kernel
theorem d_Face_giveOut_29 : decode prog_1_method_20_code 29 = .ok (.iconst (-1), 1) := by decide +kernel
theorem d_Face_giveOut_30 : decode prog_1_method_20_code 30 = .ok (.if_icmp .eq 36, 3) := by decide +kernel
theorem d_Face_giveOut_33 : decode prog_1_method_20_code 33 = .ok (.aload_n 0, 1) := by decide +kernel
theorem d_Face_giveOut_34 : decode prog_1_method_20_code 34 = .ok (.getfield 51, 3) := by decide +kernel
theorem d_Face_giveOut_37 : decode prog_1_method_20_code 37 = .ok (.iload_n 3, 1) := by decide +kernel
theorem d_Face_giveOut_38 : decode prog_1_method_20_code 38 = .ok (.iload 4, 2) := by decide +kernel
theorem d_Face_giveOut_40 : decode prog_1_method_20_code 40 = .ok (.invokevirtual 287, 3) := by decide +kernel
theorem d_Face_giveOut_43 : decode prog_1_method_20_code 43 = .ok (.aload_n 0, 1) := by decide +kernel
theorem d_Face_giveOut_44 : decode prog_1_method_20_code 44 = .ok (.getfield 44, 3) := by decide +kernel
theorem d_Face_giveOut_47 : decode prog_1_method_20_code 47 = .ok (.iload 4, 2) := by decide +kernel
theorem d_Face_giveOut_49 : decode prog_1_method_20_code 49 = .ok (.iload_n 3, 1) := by decide +kernel
theorem d_Face_giveOut_50 : decode prog_1_method_20_code 50 = .ok (.invokevirtual 290, 3) := by decide +kernel
theorem d_Face_giveOut_53 : decode prog_1_method_20_code 53 = .ok (.iload_n 1, 1) := by decide +kernel
theorem d_Face_giveOut_54 : decode prog_1_method_20_code 54 = .ok (.aload_n 0, 1) := by decide +kernel
theorem d_Face_giveOut_55 : decode prog_1_method_20_code 55 = .ok (.iload 4, 2) := by decide +kernel
theorem d_Face_giveOut_57 : decode prog_1_method_20_code 57 = .ok (.iload_n 3, 1) := by decide +kernel
theorem d_Face_giveOut_58 : decode prog_1_method_20_code 58 = .ok (.invokevirtual 271, 3) := by decide +kernel
theorem d_Face_giveOut_61 : decode prog_1_method_20_code 61 = .ok (.iadd, 1) := by decide +kernel
theorem d_Face_giveOut_62 : decode prog_1_method_20_code 62 = .ok (.istore_n 1, 1) := by decide +kernel
theorem d_Face_giveOut_63 : decode prog_1_method_20_code 63 = .ok (.iinc 2 1, 3) := by decide +kernel
theorem d_Face_giveOut_66 : decode prog_1_method_20_code 66 = .ok (.iinc 3 1, 3) := by decide +kernel
theorem d_Face_giveOut_69 : decode prog_1_method_20_code 69 = .ok (.goto (-63), 3) := by decide +kernel
theorem d_Face_giveOut_72 : decode prog_1_method_20_code 72 = .ok (.iload_n 2, 1) := by decide +kernel
theorem d_Face_giveOut_73 : decode prog_1_method_20_code 73 = .ok (.ifCond .ne 7, 3) := by decide +kernel
theorem d_Face_giveOut_76 : decode prog_1_method_20_code 76 = .ok (.iconst (-1), 1) := by decide +kernel
theorem d_Face_giveOut_77 : decode prog_1_method_20_code 77 = .ok (.goto 4, 3) := by decide +kernel
theorem d_Face_giveOut_80 : decode prog_1_method_20_code 80 = .ok (.iload_n 1, 1) := by decide +kernel
theorem d_Face_giveOut_81 : decode prog_1_method_20_code 81 = .ok (.ireturn, 1) := by decide +kernel
theorem d_Face_assign_0 : decode prog_1_method_8_code 0 = .ok (.aload_n 0, 1) := by decide +kernel
theorem d_Face_assign_1 : decode prog_1_method_8_code 1 = .ok (.invokevirtual 137, 3) := by decide +kernel
theorem d_Face_assign_4 : decode prog_1_method_8_code 4 = .ok (.aload_n 0, 1) := by decide +kernel
theorem d_Face_assign_5 : decode prog_1_method_8_code 5 = .ok (.getfield 58, 3) := by decide +kernel
theorem d_Face_assign_8 : decode prog_1_method_8_code 8 = .ok (.invokevirtual 140, 3) := by decide +kernel
theorem d_Face_assign_11 : decode prog_1_method_8_code 11 = .ok (.aload_n 0, 1) := by decide +kernel
theorem d_Face_assign_12 : decode prog_1_method_8_code 12 = .ok (.invokevirtual 143, 3) := by decide +kernel
theorem d_Face_assign_15 : decode prog_1_method_8_code 15 = .ok (.ireturn, 1) := by decide +kernel
theorem d_Face_load_0 : decode prog_1_method_22_code 0 = .ok (.aload_n 0, 1) := by decide +kernel
theorem d_Face_load_1 : decode prog_1_method_22_code 1 = .ok (.getfield 51, 3) := by decide +kernel
theorem d_Face_load_4 : decode prog_1_method_22_code 4 = .ok (.iload_n 1, 1) := by decide +kernel
theorem d_Face_load_5 : decode prog_1_method_22_code 5 = .ok (.iconst 2, 1) := by decide +kernel
theorem d_Face_load_6 : decode prog_1_method_22_code 6 = .ok (.invokevirtual 293, 3) := by decide +kernel
theorem d_Face_load_9 : decode prog_1_method_22_code 9 = .ok (.iconst 3, 1) := by decide +kernel
theorem d_Face_load_10 : decode prog_1_method_22_code 10 = .ok (.ireturn, 1) := by decide +kernel
theorem d_Face_end_0 : decode prog_1_method_23_code 0 = .ok (.aload_n 0, 1) := by decide +kernel
theorem d_Face_end_1 : decode prog_1_method_23_code 1 = .ok (.getfield 51, 3) := by decide +kernel
theorem d_Face_end_4 : decode prog_1_method_23_code 4 = .ok (.iload_n 2, 1) := by decide +kernel
theorem d_Face_end_5 : decode prog_1_method_23_code 5 = .ok (.iconst 3, 1) := by decide +kernel
theorem d_Face_end_6 : decode prog_1_method_23_code 6 = .ok (.invokevirtual 293, 3) := by decide +kernel
theorem d_Face_end_9 : decode prog_1_method_23_code 9 = .ok (.aload_n 0, 1) := by decide +kernel
theorem d_Face_end_10 : decode prog_1_method_23_code 10 = .ok (.getfield 44, 3) := by decide +kernel
theorem d_Face_end_13 : decode prog_1_method_23_code 13 = .ok (.iload_n 1, 1) := by decide +kernel
theorem d_Face_end_14 : decode prog_1_method_23_code 14 = .ok (.invokevirtual 296, 3) := by decide +kernel
theorem d_Face_end_17 : decode prog_1_method_23_code 17 = .ok (.iconst 4, 1) := by decide +kernel
theorem d_Face_end_18 : decode prog_1_method_23_code 18 = .ok (.ireturn, 1) := by decide +kernel
theorem d_Face_isFull_0 : decode prog_1_method_25_code 0 = .ok (.aload_n 0, 1) := by decide +kernel
theorem d_Face_isFull_1 : decode prog_1_method_25_code 1 = .ok (.getfield 44, 3) := by decide +kernel
theorem d_Face_isFull_4 : decode prog_1_method_25_code 4 = .ok (.iload_n 1, 1) := by decide +kernel
theorem d_Face_isFull_5 : decode prog_1_method_25_code 5 = .ok (.invokevirtual 96, 3) := by decide +kernel
theorem d_Face_isFull_8 : decode prog_1_method_25_code 8 = .ok (.aload_n 0, 1) := by decide +kernel
theorem d_Face_isFull_9 : decode prog_1_method_25_code 9 = .ok (.getfield 23, 3) := by decide +kernel
theorem d_Face_isFull_12 : decode prog_1_method_25_code 12 = .ok (.iload_n 1, 1) := by decide +kernel
theorem d_Face_isFull_13 : decode prog_1_method_25_code 13 = .ok (.invokevirtual 254, 3) := by decide +kernel
theorem d_Face_isFull_16 : decode prog_1_method_25_code 16 = .ok (.if_icmp .lt 7, 3) := by decide +kernel
theorem d_Face_isFull_19 : decode prog_1_method_25_code 19 = .ok (.iconst 1, 1) := by decide +kernel
theorem d_Face_isFull_20 : decode prog_1_method_25_code 20 = .ok (.goto 4, 3) := by decide +kernel
theorem d_Face_isFull_23 : decode prog_1_method_25_code 23 = .ok (.iconst 0, 1) := by decide +kernel
theorem d_Face_isFull_24 : decode prog_1_method_25_code 24 = .ok (.ireturn, 1) := by decide +kernel
theorem d_Face_isIn_0 : decode prog_1_method_27_code 0 = .ok (.iload_n 0, 1) := by decide +kernel
theorem d_Face_isIn_1 : decode prog_1_method_27_code 1 = .ok (.iconst 1, 1) := by decide +kernel
theorem d_Face_isIn_2 : decode prog_1_method_27_code 2 = .ok (.iload_n 1, 1) := by decide +kernel
theorem d_Face_isIn_3 : decode prog_1_method_27_code 3 = .ok (.ishl, 1) := by decide +kernel
theorem d_Face_isIn_4 : decode prog_1_method_27_code 4 = .ok (.iand, 1) := by decide +kernel
theorem d_Face_isIn_5 : decode prog_1_method_27_code 5 = .ok (.ifCond .eq 7, 3) := by decide +kernel
theorem d_Face_isIn_8 : decode prog_1_method_27_code 8 = .ok (.iconst 1, 1) := by decide +kernel
theorem d_Face_isIn_9 : decode prog_1_method_27_code 9 = .ok (.goto 4, 3) := by decide +kernel
theorem d_Face_isIn_12 : decode prog_1_method_27_code 12 = .ok (.iconst 0, 1) := by decide +kernel
theorem d_Face_isIn_13 : decode prog_1_method_27_code 13 = .ok (.ireturn, 1) := by decide +kernel
theorem d_Face_freePlaces_0 : decode prog_1_method_26_code 0 = .ok (.iconst 0, 1) := by decide +kernel
theorem d_Face_freePlaces_1 : decode prog_1_method_26_code 1 = .ok (.istore_n 2, 1) := by decide +kernel
theorem d_Face_freePlaces_2 : decode prog_1_method_26_code 2 = .ok (.iconst 0, 1) := by decide +kernel
theorem d_Face_freePlaces_3 : decode prog_1_method_26_code 3 = .ok (.istore_n 3, 1) := by decide +kernel
theorem d_Face_freePlaces_4 : decode prog_1_method_26_code 4 = .ok (.iload_n 3, 1) := by decide +kernel
theorem d_Face_freePlaces_5 : decode prog_1_method_26_code 5 = .ok (.aload_n 0, 1) := by decide +kernel
theorem d_Face_freePlaces_6 : decode prog_1_method_26_code 6 = .ok (.getfield 23, 3) := by decide +kernel
theorem d_Face_freePlaces_9 : decode prog_1_method_26_code 9 = .ok (.invokevirtual 261, 3) := by decide +kernel
theorem d_Face_freePlaces_12 : decode prog_1_method_26_code 12 = .ok (.if_icmp .ge 37, 3) := by decide +kernel
theorem d_Face_freePlaces_15 : decode prog_1_method_26_code 15 = .ok (.iload_n 1, 1) := by decide +kernel
theorem d_Face_freePlaces_16 : decode prog_1_method_26_code 16 = .ok (.iload_n 3, 1) := by decide +kernel
theorem d_Face_freePlaces_17 : decode prog_1_method_26_code 17 = .ok (.invokestatic 324, 3) := by decide +kernel
theorem d_Face_freePlaces_20 : decode prog_1_method_26_code 20 = .ok (.ifCond .eq 23, 3) := by decide +kernel
theorem d_Face_freePlaces_23 : decode prog_1_method_26_code 23 = .ok (.iload_n 2, 1) := by decide +kernel
theorem d_Face_freePlaces_24 : decode prog_1_method_26_code 24 = .ok (.aload_n 0, 1) := by decide +kernel
theorem d_Face_freePlaces_25 : decode prog_1_method_26_code 25 = .ok (.getfield 23, 3) := by decide +kernel
theorem d_Face_freePlaces_28 : decode prog_1_method_26_code 28 = .ok (.iload_n 3, 1) := by decide +kernel
theorem d_Face_freePlaces_29 : decode prog_1_method_26_code 29 = .ok (.invokevirtual 254, 3) := by decide +kernel
theorem d_Face_freePlaces_32 : decode prog_1_method_26_code 32 = .ok (.aload_n 0, 1) := by decide +kernel
theorem d_Face_freePlaces_33 : decode prog_1_method_26_code 33 = .ok (.getfield 44, 3) := by decide +kernel
theorem d_Face_freePlaces_36 : decode prog_1_method_26_code 36 = .ok (.iload_n 3, 1) := by decide +kernel
theorem d_Face_freePlaces_37 : decode prog_1_method_26_code 37 = .ok (.invokevirtual 96, 3) := by decide +kernel
theorem d_Face_freePlaces_40 : decode prog_1_method_26_code 40 = .ok (.isub, 1) := by decide +kernel
theorem d_Face_freePlaces_41 : decode prog_1_method_26_code 41 = .ok (.iadd, 1) := by decide +kernel
theorem d_Face_freePlaces_42 : decode prog_1_method_26_code 42 = .ok (.istore_n 2, 1) := by decide +kernel
theorem d_Face_freePlaces_43 : decode prog_1_method_26_code 43 = .ok (.iinc 3 1, 3) := by decide +kernel
theorem d_Face_freePlaces_46 : decode prog_1_method_26_code 46 = .ok (.goto (-42), 3) := by decide +kernel
theorem d_Face_freePlaces_49 : decode prog_1_method_26_code 49 = .ok (.iload_n 2, 1) := by decide +kernel
theorem d_Face_freePlaces_50 : decode prog_1_method_26_code 50 = .ok (.ireturn, 1) := by decide +kernel
theorem d_Face_count_0 : decode prog_1_method_16_code 0 = .ok (.iload_n 1, 1) := by decide +kernel
theorem d_Face_count_1 : decode prog_1_method_16_code 1 = .ok (.bipush 10, 2) := by decide +kernel
theorem d_Face_count_3 : decode prog_1_method_16_code 3 = .ok (.invokestatic 238, 3) := by decide +kernel
theorem d_Face_count_6 : decode prog_1_method_16_code 6 = .ok (.istore_n 2, 1) := by decide +kernel
theorem d_Face_count_7 : decode prog_1_method_16_code 7 = .ok (.iload_n 1, 1) := by decide +kernel
theorem d_Face_count_8 : decode prog_1_method_16_code 8 = .ok (.bipush 10, 2) := by decide +kernel
theorem d_Face_count_10 : decode prog_1_method_16_code 10 = .ok (.invokestatic 241, 3) := by decide +kernel
theorem d_Face_count_13 : decode prog_1_method_16_code 13 = .ok (.tableswitch 144 0 4 #[35, 41, 69, 93, 117], 35) := by decide +kernel
theorem d_Face_count_48 : decode prog_1_method_16_code 48 = .ok (.aload_n 0, 1) := by decide +kernel
theorem d_Face_count_49 : decode prog_1_method_16_code 49 = .ok (.iload_n 2, 1) := by decide +kernel
theorem d_Face_count_50 : decode prog_1_method_16_code 50 = .ok (.invokevirtual 244, 3) := by decide +kernel
theorem d_Face_count_53 : decode prog_1_method_16_code 53 = .ok (.ireturn, 1) := by decide +kernel
theorem d_Face_count_54 : decode prog_1_method_16_code 54 = .ok (.aload_n 0, 1) := by decide +kernel
theorem d_Face_count_55 : decode prog_1_method_16_code 55 = .ok (.getfield 37, 3) := by decide +kernel
theorem d_Face_count_58 : decode prog_1_method_16_code 58 = .ok (.iload_n 2, 1) := by decide +kernel
theorem d_Face_count_59 : decode prog_1_method_16_code 59 = .ok (.invokevirtual 247, 3) := by decide +kernel
theorem d_Face_count_62 : decode prog_1_method_16_code 62 = .ok (.ifCond .eq 18, 3) := by decide +kernel
theorem d_Face_count_65 : decode prog_1_method_16_code 65 = .ok (.aload_n 0, 1) := by decide +kernel
theorem d_Face_count_66 : decode prog_1_method_16_code 66 = .ok (.aload_n 0, 1) := by decide +kernel
theorem d_Face_count_67 : decode prog_1_method_16_code 67 = .ok (.getfield 37, 3) := by decide +kernel
theorem d_Face_count_70 : decode prog_1_method_16_code 70 = .ok (.iload_n 2, 1) := by decide +kernel
theorem d_Face_count_71 : decode prog_1_method_16_code 71 = .ok (.invokevirtual 248, 3) := by decide +kernel
theorem d_Face_count_74 : decode prog_1_method_16_code 74 = .ok (.invokevirtual 251, 3) := by decide +kernel
theorem d_Face_count_77 : decode prog_1_method_16_code 77 = .ok (.goto 4, 3) := by decide +kernel
theorem d_Face_count_80 : decode prog_1_method_16_code 80 = .ok (.iconst (-1), 1) := by decide +kernel
theorem d_Face_count_81 : decode prog_1_method_16_code 81 = .ok (.ireturn, 1) := by decide +kernel
theorem d_Face_count_82 : decode prog_1_method_16_code 82 = .ok (.aload_n 0, 1) := by decide +kernel
theorem d_Face_count_83 : decode prog_1_method_16_code 83 = .ok (.getfield 23, 3) := by decide +kernel
theorem d_Face_count_86 : decode prog_1_method_16_code 86 = .ok (.iload_n 2, 1) := by decide +kernel
theorem d_Face_count_87 : decode prog_1_method_16_code 87 = .ok (.invokevirtual 92, 3) := by decide +kernel
theorem d_Face_count_90 : decode prog_1_method_16_code 90 = .ok (.ifCond .eq 14, 3) := by decide +kernel
theorem d_Face_count_93 : decode prog_1_method_16_code 93 = .ok (.aload_n 0, 1) := by decide +kernel
theorem d_Face_count_94 : decode prog_1_method_16_code 94 = .ok (.getfield 23, 3) := by decide +kernel
theorem d_Face_count_97 : decode prog_1_method_16_code 97 = .ok (.iload_n 2, 1) := by decide +kernel
theorem d_Face_count_98 : decode prog_1_method_16_code 98 = .ok (.invokevirtual 254, 3) := by decide +kernel
theorem d_Face_count_101 : decode prog_1_method_16_code 101 = .ok (.goto 4, 3) := by decide +kernel
theorem d_Face_count_104 : decode prog_1_method_16_code 104 = .ok (.iconst (-1), 1) := by decide +kernel
theorem d_Face_count_105 : decode prog_1_method_16_code 105 = .ok (.ireturn, 1) := by decide +kernel
theorem d_Face_count_106 : decode prog_1_method_16_code 106 = .ok (.aload_n 0, 1) := by decide +kernel
theorem d_Face_count_107 : decode prog_1_method_16_code 107 = .ok (.getfield 23, 3) := by decide +kernel
theorem d_Face_count_110 : decode prog_1_method_16_code 110 = .ok (.iload_n 2, 1) := by decide +kernel
theorem d_Face_count_111 : decode prog_1_method_16_code 111 = .ok (.invokevirtual 92, 3) := by decide +kernel
theorem d_Face_count_114 : decode prog_1_method_16_code 114 = .ok (.ifCond .eq 14, 3) := by decide +kernel
theorem d_Face_count_117 : decode prog_1_method_16_code 117 = .ok (.aload_n 0, 1) := by decide +kernel
theorem d_Face_count_118 : decode prog_1_method_16_code 118 = .ok (.getfield 44, 3) := by decide +kernel
theorem d_Face_count_121 : decode prog_1_method_16_code 121 = .ok (.iload_n 2, 1) := by decide +kernel
theorem d_Face_count_122 : decode prog_1_method_16_code 122 = .ok (.invokevirtual 96, 3) := by decide +kernel
theorem d_Face_count_125 : decode prog_1_method_16_code 125 = .ok (.goto 4, 3) := by decide +kernel
theorem d_Face_count_128 : decode prog_1_method_16_code 128 = .ok (.iconst (-1), 1) := by decide +kernel
theorem d_Face_count_129 : decode prog_1_method_16_code 129 = .ok (.ireturn, 1) := by decide +kernel
theorem d_Face_count_130 : decode prog_1_method_16_code 130 = .ok (.aload_n 0, 1) := by decide +kernel
theorem d_Face_count_131 : decode prog_1_method_16_code 131 = .ok (.getfield 23, 3) := by decide +kernel
theorem d_Face_count_134 : decode prog_1_method_16_code 134 = .ok (.iload_n 2, 1) := by decide +kernel
theorem d_Face_count_135 : decode prog_1_method_16_code 135 = .ok (.invokevirtual 92, 3) := by decide +kernel
theorem d_Face_count_138 : decode prog_1_method_16_code 138 = .ok (.ifCond .eq 17, 3) := by decide +kernel
theorem d_Face_count_141 : decode prog_1_method_16_code 141 = .ok (.aload_n 0, 1) := by decide +kernel
theorem d_Face_count_142 : decode prog_1_method_16_code 142 = .ok (.getfield 23, 3) := by decide +kernel
theorem d_Face_count_145 : decode prog_1_method_16_code 145 = .ok (.iload_n 2, 1) := by decide +kernel
theorem d_Face_count_146 : decode prog_1_method_16_code 146 = .ok (.invokevirtual 104, 3) := by decide +kernel
theorem d_Face_count_149 : decode prog_1_method_16_code 149 = .ok (.invokestatic 257, 3) := by decide +kernel
theorem d_Face_count_152 : decode prog_1_method_16_code 152 = .ok (.goto 4, 3) := by decide +kernel
theorem d_Face_count_155 : decode prog_1_method_16_code 155 = .ok (.iconst (-1), 1) := by decide +kernel
theorem d_Face_count_156 : decode prog_1_method_16_code 156 = .ok (.ireturn, 1) := by decide +kernel
theorem d_Face_count_157 : decode prog_1_method_16_code 157 = .ok (.iconst (-1), 1) := by decide +kernel
theorem d_Face_count_158 : decode prog_1_method_16_code 158 = .ok (.ireturn, 1) := by decide +kernel
theorem d_Face_fillsRing_0 : decode prog_1_method_28_code 0 = .ok (.iconst 0, 1) := by decide +kernel
theorem d_Face_fillsRing_1 : decode prog_1_method_28_code 1 = .ok (.istore_n 3, 1) := by decide +kernel
theorem d_Face_fillsRing_2 : decode prog_1_method_28_code 2 = .ok (.iload_n 3, 1) := by decide +kernel
theorem d_Face_fillsRing_3 : decode prog_1_method_28_code 3 = .ok (.aload_n 0, 1) := by decide +kernel
theorem d_Face_fillsRing_4 : decode prog_1_method_28_code 4 = .ok (.getfield 37, 3) := by decide +kernel
theorem d_Face_fillsRing_7 : decode prog_1_method_28_code 7 = .ok (.invokevirtual 116, 3) := by decide +kernel
theorem d_Face_fillsRing_10 : decode prog_1_method_28_code 10 = .ok (.if_icmp .ge 49, 3) := by decide +kernel
theorem d_Face_fillsRing_13 : decode prog_1_method_28_code 13 = .ok (.aload_n 0, 1) := by decide +kernel
theorem d_Face_fillsRing_14 : decode prog_1_method_28_code 14 = .ok (.getfield 37, 3) := by decide +kernel
theorem d_Face_fillsRing_17 : decode prog_1_method_28_code 17 = .ok (.iload_n 3, 1) := by decide +kernel
theorem d_Face_fillsRing_18 : decode prog_1_method_28_code 18 = .ok (.invokevirtual 248, 3) := by decide +kernel
theorem d_Face_fillsRing_21 : decode prog_1_method_28_code 21 = .ok (.istore 4, 2) := by decide +kernel
theorem d_Face_fillsRing_23 : decode prog_1_method_28_code 23 = .ok (.iload 4, 2) := by decide +kernel
theorem d_Face_fillsRing_25 : decode prog_1_method_28_code 25 = .ok (.iload_n 2, 1) := by decide +kernel
theorem d_Face_fillsRing_26 : decode prog_1_method_28_code 26 = .ok (.invokestatic 324, 3) := by decide +kernel
theorem d_Face_fillsRing_29 : decode prog_1_method_28_code 29 = .ok (.ifCond .eq 24, 3) := by decide +kernel
theorem d_Face_fillsRing_32 : decode prog_1_method_28_code 32 = .ok (.iload 4, 2) := by decide +kernel
theorem d_Face_fillsRing_34 : decode prog_1_method_28_code 34 = .ok (.iload_n 1, 1) := by decide +kernel
theorem d_Face_fillsRing_35 : decode prog_1_method_28_code 35 = .ok (.invokestatic 324, 3) := by decide +kernel
theorem d_Face_fillsRing_38 : decode prog_1_method_28_code 38 = .ok (.ifCond .ne 15, 3) := by decide +kernel
theorem d_Face_fillsRing_41 : decode prog_1_method_28_code 41 = .ok (.aload_n 0, 1) := by decide +kernel
theorem d_Face_fillsRing_42 : decode prog_1_method_28_code 42 = .ok (.iload 4, 2) := by decide +kernel
theorem d_Face_fillsRing_44 : decode prog_1_method_28_code 44 = .ok (.invokevirtual 251, 3) := by decide +kernel
theorem d_Face_fillsRing_47 : decode prog_1_method_28_code 47 = .ok (.iconst 1, 1) := by decide +kernel
theorem d_Face_fillsRing_48 : decode prog_1_method_28_code 48 = .ok (.if_icmp .gt 5, 3) := by decide +kernel
theorem d_Face_fillsRing_51 : decode prog_1_method_28_code 51 = .ok (.iconst 1, 1) := by decide +kernel
theorem d_Face_fillsRing_52 : decode prog_1_method_28_code 52 = .ok (.ireturn, 1) := by decide +kernel
theorem d_Face_fillsRing_53 : decode prog_1_method_28_code 53 = .ok (.iinc 3 1, 3) := by decide +kernel
theorem d_Face_fillsRing_56 : decode prog_1_method_28_code 56 = .ok (.goto (-54), 3) := by decide +kernel
theorem d_Face_fillsRing_59 : decode prog_1_method_28_code 59 = .ok (.iconst 0, 1) := by decide +kernel
theorem d_Face_fillsRing_60 : decode prog_1_method_28_code 60 = .ok (.ireturn, 1) := by decide +kernel
theorem d_Face_timeToCharger_0 : decode prog_1_method_29_code 0 = .ok (.ldc 176, 2) := by decide +kernel
theorem d_Face_timeToCharger_2 : decode prog_1_method_29_code 2 = .ok (.istore_n 2, 1) := by decide +kernel
theorem d_Face_timeToCharger_3 : decode prog_1_method_29_code 3 = .ok (.iconst 0, 1) := by decide +kernel
theorem d_Face_timeToCharger_4 : decode prog_1_method_29_code 4 = .ok (.istore_n 3, 1) := by decide +kernel
theorem d_Face_timeToCharger_5 : decode prog_1_method_29_code 5 = .ok (.iload_n 3, 1) := by decide +kernel
theorem d_Face_timeToCharger_6 : decode prog_1_method_29_code 6 = .ok (.aload_n 0, 1) := by decide +kernel
theorem d_Face_timeToCharger_7 : decode prog_1_method_29_code 7 = .ok (.getfield 23, 3) := by decide +kernel
theorem d_Face_timeToCharger_10 : decode prog_1_method_29_code 10 = .ok (.invokevirtual 261, 3) := by decide +kernel
theorem d_Face_timeToCharger_13 : decode prog_1_method_29_code 13 = .ok (.if_icmp .ge 34, 3) := by decide +kernel
theorem d_Face_timeToCharger_16 : decode prog_1_method_29_code 16 = .ok (.aload_n 0, 1) := by decide +kernel
theorem d_Face_timeToCharger_17 : decode prog_1_method_29_code 17 = .ok (.getfield 23, 3) := by decide +kernel
theorem d_Face_timeToCharger_20 : decode prog_1_method_29_code 20 = .ok (.iload_n 3, 1) := by decide +kernel
theorem d_Face_timeToCharger_21 : decode prog_1_method_29_code 21 = .ok (.invokevirtual 104, 3) := by decide +kernel
theorem d_Face_timeToCharger_24 : decode prog_1_method_29_code 24 = .ok (.ifCond .eq 17, 3) := by decide +kernel
theorem d_Face_timeToCharger_27 : decode prog_1_method_29_code 27 = .ok (.iload_n 2, 1) := by decide +kernel
theorem d_Face_timeToCharger_28 : decode prog_1_method_29_code 28 = .ok (.aload_n 0, 1) := by decide +kernel
theorem d_Face_timeToCharger_29 : decode prog_1_method_29_code 29 = .ok (.getfield 30, 3) := by decide +kernel
theorem d_Face_timeToCharger_32 : decode prog_1_method_29_code 32 = .ok (.iload_n 1, 1) := by decide +kernel
theorem d_Face_timeToCharger_33 : decode prog_1_method_29_code 33 = .ok (.iload_n 3, 1) := by decide +kernel
theorem d_Face_timeToCharger_34 : decode prog_1_method_29_code 34 = .ok (.invokevirtual 197, 3) := by decide +kernel
theorem d_Face_timeToCharger_37 : decode prog_1_method_29_code 37 = .ok (.invokestatic 9, 3) := by decide +kernel
theorem d_Face_timeToCharger_40 : decode prog_1_method_29_code 40 = .ok (.istore_n 2, 1) := by decide +kernel
theorem d_Face_timeToCharger_41 : decode prog_1_method_29_code 41 = .ok (.iinc 3 1, 3) := by decide +kernel
theorem d_Face_timeToCharger_44 : decode prog_1_method_29_code 44 = .ok (.goto (-39), 3) := by decide +kernel
theorem d_Face_timeToCharger_47 : decode prog_1_method_29_code 47 = .ok (.iload_n 2, 1) := by decide +kernel
theorem d_Face_timeToCharger_48 : decode prog_1_method_29_code 48 = .ok (.ireturn, 1) := by decide +kernel
theorem d_Face_goOn_0 : decode prog_1_method_24_code 0 = .ok (.aload_n 0, 1) := by decide +kernel
theorem d_Face_goOn_1 : decode prog_1_method_24_code 1 = .ok (.getfield 30, 3) := by decide +kernel
theorem d_Face_goOn_4 : decode prog_1_method_24_code 4 = .ok (.aload_n 0, 1) := by decide +kernel
theorem d_Face_goOn_5 : decode prog_1_method_24_code 5 = .ok (.getfield 44, 3) := by decide +kernel
theorem d_Face_goOn_8 : decode prog_1_method_24_code 8 = .ok (.iload_n 1, 1) := by decide +kernel
theorem d_Face_goOn_9 : decode prog_1_method_24_code 9 = .ok (.invokevirtual 158, 3) := by decide +kernel
theorem d_Face_goOn_12 : decode prog_1_method_24_code 12 = .ok (.aload_n 0, 1) := by decide +kernel
theorem d_Face_goOn_13 : decode prog_1_method_24_code 13 = .ok (.getfield 51, 3) := by decide +kernel
theorem d_Face_goOn_16 : decode prog_1_method_24_code 16 = .ok (.iload_n 2, 1) := by decide +kernel
theorem d_Face_goOn_17 : decode prog_1_method_24_code 17 = .ok (.invokevirtual 161, 3) := by decide +kernel
theorem d_Face_goOn_20 : decode prog_1_method_24_code 20 = .ok (.invokevirtual 200, 3) := by decide +kernel
theorem d_Face_goOn_23 : decode prog_1_method_24_code 23 = .ok (.istore_n 3, 1) := by decide +kernel
theorem d_Face_goOn_24 : decode prog_1_method_24_code 24 = .ok (.iload_n 3, 1) := by decide +kernel
theorem d_Face_goOn_25 : decode prog_1_method_24_code 25 = .ok (.iconst (-1), 1) := by decide +kernel
theorem d_Face_goOn_26 : decode prog_1_method_24_code 26 = .ok (.if_icmp .ne 5, 3) := by decide +kernel
theorem d_Face_goOn_29 : decode prog_1_method_24_code 29 = .ok (.iconst 5, 1) := by decide +kernel
theorem d_Face_goOn_30 : decode prog_1_method_24_code 30 = .ok (.ireturn, 1) := by decide +kernel
theorem d_Face_goOn_31 : decode prog_1_method_24_code 31 = .ok (.aload_n 0, 1) := by decide +kernel
theorem d_Face_goOn_32 : decode prog_1_method_24_code 32 = .ok (.getfield 30, 3) := by decide +kernel
theorem d_Face_goOn_35 : decode prog_1_method_24_code 35 = .ok (.iload_n 3, 1) := by decide +kernel
theorem d_Face_goOn_36 : decode prog_1_method_24_code 36 = .ok (.invokevirtual 299, 3) := by decide +kernel
theorem d_Face_goOn_39 : decode prog_1_method_24_code 39 = .ok (.istore 4, 2) := by decide +kernel
theorem d_Face_goOn_41 : decode prog_1_method_24_code 41 = .ok (.aload_n 0, 1) := by decide +kernel
theorem d_Face_goOn_42 : decode prog_1_method_24_code 42 = .ok (.getfield 44, 3) := by decide +kernel
theorem d_Face_goOn_45 : decode prog_1_method_24_code 45 = .ok (.iload_n 3, 1) := by decide +kernel
theorem d_Face_goOn_46 : decode prog_1_method_24_code 46 = .ok (.invokevirtual 302, 3) := by decide +kernel
theorem d_Face_goOn_49 : decode prog_1_method_24_code 49 = .ok (.ifCond .eq 6, 3) := by decide +kernel
theorem d_Face_goOn_52 : decode prog_1_method_24_code 52 = .ok (.bipush 6, 2) := by decide +kernel
theorem d_Face_goOn_54 : decode prog_1_method_24_code 54 = .ok (.ireturn, 1) := by decide +kernel
theorem d_Face_goOn_55 : decode prog_1_method_24_code 55 = .ok (.aload_n 0, 1) := by decide +kernel
theorem d_Face_goOn_56 : decode prog_1_method_24_code 56 = .ok (.iload 4, 2) := by decide +kernel
theorem d_Face_goOn_58 : decode prog_1_method_24_code 58 = .ok (.invokevirtual 128, 3) := by decide +kernel
theorem d_Face_goOn_61 : decode prog_1_method_24_code 61 = .ok (.ifCond .eq 6, 3) := by decide +kernel
theorem d_Face_goOn_64 : decode prog_1_method_24_code 64 = .ok (.bipush 7, 2) := by decide +kernel
theorem d_Face_goOn_66 : decode prog_1_method_24_code 66 = .ok (.ireturn, 1) := by decide +kernel
theorem d_Face_goOn_67 : decode prog_1_method_24_code 67 = .ok (.aload_n 0, 1) := by decide +kernel
theorem d_Face_goOn_68 : decode prog_1_method_24_code 68 = .ok (.aload_n 0, 1) := by decide +kernel
theorem d_Face_goOn_69 : decode prog_1_method_24_code 69 = .ok (.getfield 30, 3) := by decide +kernel
theorem d_Face_goOn_72 : decode prog_1_method_24_code 72 = .ok (.iload_n 3, 1) := by decide +kernel
theorem d_Face_goOn_73 : decode prog_1_method_24_code 73 = .ok (.invokevirtual 305, 3) := by decide +kernel
theorem d_Face_goOn_76 : decode prog_1_method_24_code 76 = .ok (.iload 4, 2) := by decide +kernel
theorem d_Face_goOn_78 : decode prog_1_method_24_code 78 = .ok (.invokevirtual 308, 3) := by decide +kernel
theorem d_Face_goOn_81 : decode prog_1_method_24_code 81 = .ok (.ifCond .eq 6, 3) := by decide +kernel
theorem d_Face_goOn_84 : decode prog_1_method_24_code 84 = .ok (.bipush 8, 2) := by decide +kernel
theorem d_Face_goOn_86 : decode prog_1_method_24_code 86 = .ok (.ireturn, 1) := by decide +kernel
theorem d_Face_goOn_87 : decode prog_1_method_24_code 87 = .ok (.aload_n 0, 1) := by decide +kernel
theorem d_Face_goOn_88 : decode prog_1_method_24_code 88 = .ok (.getfield 30, 3) := by decide +kernel
theorem d_Face_goOn_91 : decode prog_1_method_24_code 91 = .ok (.iload_n 3, 1) := by decide +kernel
theorem d_Face_goOn_92 : decode prog_1_method_24_code 92 = .ok (.invokevirtual 311, 3) := by decide +kernel
theorem d_Face_goOn_95 : decode prog_1_method_24_code 95 = .ok (.istore 5, 2) := by decide +kernel
theorem d_Face_goOn_97 : decode prog_1_method_24_code 97 = .ok (.aload_n 0, 1) := by decide +kernel
theorem d_Face_goOn_98 : decode prog_1_method_24_code 98 = .ok (.getfield 44, 3) := by decide +kernel
theorem d_Face_goOn_101 : decode prog_1_method_24_code 101 = .ok (.iload_n 1, 1) := by decide +kernel
theorem d_Face_goOn_102 : decode prog_1_method_24_code 102 = .ok (.invokevirtual 214, 3) := by decide +kernel
theorem d_Face_goOn_105 : decode prog_1_method_24_code 105 = .ok (.iload 5, 2) := by decide +kernel
theorem d_Face_goOn_107 : decode prog_1_method_24_code 107 = .ok (.aload_n 0, 1) := by decide +kernel
theorem d_Face_goOn_108 : decode prog_1_method_24_code 108 = .ok (.iload 4, 2) := by decide +kernel
theorem d_Face_goOn_110 : decode prog_1_method_24_code 110 = .ok (.invokevirtual 314, 3) := by decide +kernel
theorem d_Face_goOn_113 : decode prog_1_method_24_code 113 = .ok (.iadd, 1) := by decide +kernel
theorem d_Face_goOn_114 : decode prog_1_method_24_code 114 = .ok (.if_icmp .ge 6, 3) := by decide +kernel
theorem d_Face_goOn_117 : decode prog_1_method_24_code 117 = .ok (.bipush 9, 2) := by decide +kernel
theorem d_Face_goOn_119 : decode prog_1_method_24_code 119 = .ok (.ireturn, 1) := by decide +kernel
theorem d_Face_goOn_120 : decode prog_1_method_24_code 120 = .ok (.aload_n 0, 1) := by decide +kernel
theorem d_Face_goOn_121 : decode prog_1_method_24_code 121 = .ok (.getfield 44, 3) := by decide +kernel
theorem d_Face_goOn_124 : decode prog_1_method_24_code 124 = .ok (.iload_n 1, 1) := by decide +kernel
theorem d_Face_goOn_125 : decode prog_1_method_24_code 125 = .ok (.iload_n 3, 1) := by decide +kernel
theorem d_Face_goOn_126 : decode prog_1_method_24_code 126 = .ok (.iload 4, 2) := by decide +kernel
theorem d_Face_goOn_128 : decode prog_1_method_24_code 128 = .ok (.iload 5, 2) := by decide +kernel
theorem d_Face_goOn_130 : decode prog_1_method_24_code 130 = .ok (.aload_n 0, 1) := by decide +kernel
theorem d_Face_goOn_131 : decode prog_1_method_24_code 131 = .ok (.getfield 62, 3) := by decide +kernel
theorem d_Face_goOn_134 : decode prog_1_method_24_code 134 = .ok (.invokevirtual 317, 3) := by decide +kernel
theorem d_Face_goOn_137 : decode prog_1_method_24_code 137 = .ok (.aload_n 0, 1) := by decide +kernel
theorem d_Face_goOn_138 : decode prog_1_method_24_code 138 = .ok (.getfield 51, 3) := by decide +kernel
theorem d_Face_goOn_141 : decode prog_1_method_24_code 141 = .ok (.iload_n 2, 1) := by decide +kernel
theorem d_Face_goOn_142 : decode prog_1_method_24_code 142 = .ok (.invokevirtual 167, 3) := by decide +kernel
theorem d_Face_goOn_145 : decode prog_1_method_24_code 145 = .ok (.ifCond .ne 13, 3) := by decide +kernel
theorem d_Face_goOn_148 : decode prog_1_method_24_code 148 = .ok (.aload_n 0, 1) := by decide +kernel
theorem d_Face_goOn_149 : decode prog_1_method_24_code 149 = .ok (.getfield 44, 3) := by decide +kernel
theorem d_Face_goOn_152 : decode prog_1_method_24_code 152 = .ok (.iload_n 1, 1) := by decide +kernel
theorem d_Face_goOn_153 : decode prog_1_method_24_code 153 = .ok (.iload 5, 2) := by decide +kernel
theorem d_Face_goOn_155 : decode prog_1_method_24_code 155 = .ok (.invokevirtual 321, 3) := by decide +kernel
theorem d_Face_goOn_158 : decode prog_1_method_24_code 158 = .ok (.bipush 10, 2) := by decide +kernel
theorem d_Face_goOn_160 : decode prog_1_method_24_code 160 = .ok (.ireturn, 1) := by decide +kernel
