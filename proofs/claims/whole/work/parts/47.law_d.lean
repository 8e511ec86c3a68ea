theorem kw412 : (Cond.classLink "CarrierPathsLaw" 13 "java/lang/IllegalArgumentException" : Cond) ∈ TG := tg_2 (i := 172) (by decide +kernel) rfl
theorem kw413 : (Cond.classLink "CarrierPathsLaw" 15 "java/lang/IllegalStateException" : Cond) ∈ TG := tg_2 (i := 173) (by decide +kernel) rfl
theorem kw414 : (Cond.methodLink "CarrierPathsLaw" 7 ⟨"CarrierPaths", "piece", "(III)I"⟩ : Cond) ∈ TG := tg_2 (i := 174) (by decide +kernel) rfl
theorem kw415 : (Cond.instanceMethod ⟨"CarrierPaths", "piece", "(III)I"⟩ : Cond) ∈ TG := tg_2 (i := 175) (by decide +kernel) rfl
theorem kw416 : (Cond.selects "CarrierPaths" ⟨"CarrierPaths", "piece", "(III)I"⟩ ⟨"CarrierPaths", "piece", "(III)I"⟩ : Cond) ∈ TG := tg_2 (i := 176) (by decide +kernel) rfl
theorem kw417 : (Cond.code ⟨"CarrierPaths", "piece", "(III)I"⟩ prog_1_method_2_code 4 (some .int) : Cond) ∈ TG := tg_2 (i := 177) (by decide +kernel) rfl
theorem kw515 : (Cond.methodLink "CarrierPathsLaw" 17 ⟨"CarrierPaths", "ring", "(I)I"⟩ : Cond) ∈ TG := tg_3 (i := 35) (by decide +kernel) rfl
theorem kw516 : (Cond.instanceMethod ⟨"CarrierPaths", "ring", "(I)I"⟩ : Cond) ∈ TG := tg_3 (i := 36) (by decide +kernel) rfl
theorem kw517 : (Cond.selects "CarrierPaths" ⟨"CarrierPaths", "ring", "(I)I"⟩ ⟨"CarrierPaths", "ring", "(I)I"⟩ : Cond) ∈ TG := tg_3 (i := 37) (by decide +kernel) rfl
theorem kw518 : (Cond.code ⟨"CarrierPaths", "ring", "(I)I"⟩ prog_1_method_5_code 2 (some .int) : Cond) ∈ TG := tg_3 (i := 38) (by decide +kernel) rfl
theorem kw532 : (Cond.methodLink "CarrierPathsLaw" 21 ⟨"CarrierPaths", "carrier", "(II)I"⟩ : Cond) ∈ TG := tg_3 (i := 52) (by decide +kernel) rfl
theorem kw533 : (Cond.instanceMethod ⟨"CarrierPaths", "carrier", "(II)I"⟩ : Cond) ∈ TG := tg_3 (i := 53) (by decide +kernel) rfl
theorem kw534 : (Cond.selects "CarrierPaths" ⟨"CarrierPaths", "carrier", "(II)I"⟩ ⟨"CarrierPaths", "carrier", "(II)I"⟩ : Cond) ∈ TG := tg_3 (i := 54) (by decide +kernel) rfl
theorem kw535 : (Cond.code ⟨"CarrierPaths", "carrier", "(II)I"⟩ prog_1_method_6_code 3 (some .int) : Cond) ∈ TG := tg_3 (i := 55) (by decide +kernel) rfl
theorem kw550 : (Cond.methodLink "CarrierPathsLaw" 25 ⟨"CarrierPaths", "job", "(II)I"⟩ : Cond) ∈ TG := tg_3 (i := 70) (by decide +kernel) rfl
theorem kw551 : (Cond.instanceMethod ⟨"CarrierPaths", "job", "(II)I"⟩ : Cond) ∈ TG := tg_3 (i := 71) (by decide +kernel) rfl
theorem kw552 : (Cond.selects "CarrierPaths" ⟨"CarrierPaths", "job", "(II)I"⟩ ⟨"CarrierPaths", "job", "(II)I"⟩ : Cond) ∈ TG := tg_3 (i := 72) (by decide +kernel) rfl
theorem kw553 : (Cond.code ⟨"CarrierPaths", "job", "(II)I"⟩ prog_1_method_7_code 3 (some .int) : Cond) ∈ TG := tg_3 (i := 73) (by decide +kernel) rfl
theorem kw562 : (Cond.classLink "CarrierPathsLaw" 31 "java/lang/IndexOutOfBoundsException" : Cond) ∈ TG := tg_3 (i := 82) (by decide +kernel) rfl
theorem kw563 : (Cond.methodLink "CarrierPathsLaw" 28 ⟨"CarrierPaths", "step", "(I)I"⟩ : Cond) ∈ TG := tg_3 (i := 83) (by decide +kernel) rfl
theorem kw564 : (Cond.instanceMethod ⟨"CarrierPaths", "step", "(I)I"⟩ : Cond) ∈ TG := tg_3 (i := 84) (by decide +kernel) rfl
theorem kw565 : (Cond.selects "CarrierPaths" ⟨"CarrierPaths", "step", "(I)I"⟩ ⟨"CarrierPaths", "step", "(I)I"⟩ : Cond) ∈ TG := tg_3 (i := 85) (by decide +kernel) rfl
theorem kw566 : (Cond.code ⟨"CarrierPaths", "step", "(I)I"⟩ prog_1_method_9_code 3 (some .int) : Cond) ∈ TG := tg_3 (i := 86) (by decide +kernel) rfl
theorem kw664 : (Cond.methodLink "CarrierPathsLaw" 33 ⟨"CarrierPaths", "tick", "(I)I"⟩ : Cond) ∈ TG := tg_3 (i := 184) (by decide +kernel) rfl
theorem kw665 : (Cond.instanceMethod ⟨"CarrierPaths", "tick", "(I)I"⟩ : Cond) ∈ TG := tg_3 (i := 185) (by decide +kernel) rfl
theorem kw666 : (Cond.selects "CarrierPaths" ⟨"CarrierPaths", "tick", "(I)I"⟩ ⟨"CarrierPaths", "tick", "(I)I"⟩ : Cond) ∈ TG := tg_3 (i := 186) (by decide +kernel) rfl
theorem kw667 : (Cond.code ⟨"CarrierPaths", "tick", "(I)I"⟩ prog_1_method_10_code 2 (some .int) : Cond) ∈ TG := tg_3 (i := 187) (by decide +kernel) rfl
theorem kw676 : (Cond.methodLink "CarrierPathsLaw" 36 ⟨"CarrierPaths", "charge", "(I)Z"⟩ : Cond) ∈ TG := tg_3 (i := 196) (by decide +kernel) rfl
theorem kw677 : (Cond.instanceMethod ⟨"CarrierPaths", "charge", "(I)Z"⟩ : Cond) ∈ TG := tg_3 (i := 197) (by decide +kernel) rfl
theorem kw678 : (Cond.selects "CarrierPaths" ⟨"CarrierPaths", "charge", "(I)Z"⟩ ⟨"CarrierPaths", "charge", "(I)Z"⟩ : Cond) ∈ TG := tg_3 (i := 198) (by decide +kernel) rfl
theorem kw679 : (Cond.code ⟨"CarrierPaths", "charge", "(I)Z"⟩ prog_1_method_12_code 2 (some .boolean) : Cond) ∈ TG := tg_3 (i := 199) (by decide +kernel) rfl
theorem kw687 : (Cond.methodLink "CarrierPathsLaw" 40 ⟨"CarrierPaths", "way", "(III)I"⟩ : Cond) ∈ TG := tg_3 (i := 207) (by decide +kernel) rfl
theorem kw688 : (Cond.instanceMethod ⟨"CarrierPaths", "way", "(III)I"⟩ : Cond) ∈ TG := tg_3 (i := 208) (by decide +kernel) rfl
theorem kw689 : (Cond.selects "CarrierPaths" ⟨"CarrierPaths", "way", "(III)I"⟩ ⟨"CarrierPaths", "way", "(III)I"⟩ : Cond) ∈ TG := tg_3 (i := 209) (by decide +kernel) rfl
theorem kw690 : (Cond.code ⟨"CarrierPaths", "way", "(III)I"⟩ prog_1_method_13_code 4 (some .int) : Cond) ∈ TG := tg_3 (i := 210) (by decide +kernel) rfl
theorem kw705 : (Cond.methodLink "CarrierPathsLaw" 43 ⟨"CarrierPaths", "look", "(II)I"⟩ : Cond) ∈ TG := tg_3 (i := 225) (by decide +kernel) rfl
theorem kw706 : (Cond.instanceMethod ⟨"CarrierPaths", "look", "(II)I"⟩ : Cond) ∈ TG := tg_3 (i := 226) (by decide +kernel) rfl
theorem kw707 : (Cond.selects "CarrierPaths" ⟨"CarrierPaths", "look", "(II)I"⟩ ⟨"CarrierPaths", "look", "(II)I"⟩ : Cond) ∈ TG := tg_3 (i := 227) (by decide +kernel) rfl
theorem kw708 : (Cond.code ⟨"CarrierPaths", "look", "(II)I"⟩ prog_1_method_14_code 3 (some .int) : Cond) ∈ TG := tg_3 (i := 228) (by decide +kernel) rfl
theorem kw728 : (Cond.methodLink "CarrierPathsLaw" 46 ⟨"CarrierPaths", "of", "(II)I"⟩ : Cond) ∈ TG := tg_4 (i := 8) (by decide +kernel) rfl
theorem kw729 : (Cond.instanceMethod ⟨"CarrierPaths", "of", "(II)I"⟩ : Cond) ∈ TG := tg_4 (i := 9) (by decide +kernel) rfl
theorem kw730 : (Cond.selects "CarrierPaths" ⟨"CarrierPaths", "of", "(II)I"⟩ ⟨"CarrierPaths", "of", "(II)I"⟩ : Cond) ∈ TG := tg_4 (i := 10) (by decide +kernel) rfl
theorem kw731 : (Cond.code ⟨"CarrierPaths", "of", "(II)I"⟩ prog_1_method_15_code 3 (some .int) : Cond) ∈ TG := tg_4 (i := 11) (by decide +kernel) rfl
theorem d_Law_piece_0 : decode method_3_code 0 = .ok (.aload 4, 2) := by decide +kernel
theorem d_Law_piece_2 : decode method_3_code 2 = .ok (.iconst 0, 1) := by decide +kernel
theorem d_Law_piece_3 : decode method_3_code 3 = .ok (.aload_n 0, 1) := by decide +kernel
theorem d_Law_piece_4 : decode method_3_code 4 = .ok (.iload_n 1, 1) := by decide +kernel
theorem d_Law_piece_5 : decode method_3_code 5 = .ok (.iload_n 2, 1) := by decide +kernel
theorem d_Law_piece_6 : decode method_3_code 6 = .ok (.iload_n 3, 1) := by decide +kernel
theorem d_Law_piece_7 : decode method_3_code 7 = .ok (.invokevirtual 7, 3) := by decide +kernel
theorem d_Law_piece_10 : decode method_3_code 10 = .ok (.i2l, 1) := by decide +kernel
theorem d_Law_piece_11 : decode method_3_code 11 = .ok (.lastore, 1) := by decide +kernel
theorem d_Law_piece_12 : decode method_3_code 12 = .ok (.goto 11, 3) := by decide +kernel
theorem d_Law_piece_15 : decode method_3_code 15 = .ok (.astore 5, 2) := by decide +kernel
theorem d_Law_piece_17 : decode method_3_code 17 = .ok (.iconst 1, 1) := by decide +kernel
theorem d_Law_piece_18 : decode method_3_code 18 = .ok (.ireturn, 1) := by decide +kernel
theorem d_Law_piece_19 : decode method_3_code 19 = .ok (.astore 5, 2) := by decide +kernel
theorem d_Law_piece_21 : decode method_3_code 21 = .ok (.iconst 2, 1) := by decide +kernel
theorem d_Law_piece_22 : decode method_3_code 22 = .ok (.ireturn, 1) := by decide +kernel
theorem d_Law_piece_23 : decode method_3_code 23 = .ok (.iconst 0, 1) := by decide +kernel
theorem d_Law_piece_24 : decode method_3_code 24 = .ok (.ireturn, 1) := by decide +kernel
theorem d_Law_ring_0 : decode method_4_code 0 = .ok (.aload_n 2, 1) := by decide +kernel
theorem d_Law_ring_1 : decode method_4_code 1 = .ok (.iconst 0, 1) := by decide +kernel
theorem d_Law_ring_2 : decode method_4_code 2 = .ok (.aload_n 0, 1) := by decide +kernel
theorem d_Law_ring_3 : decode method_4_code 3 = .ok (.iload_n 1, 1) := by decide +kernel
theorem d_Law_ring_4 : decode method_4_code 4 = .ok (.invokevirtual 17, 3) := by decide +kernel
theorem d_Law_ring_7 : decode method_4_code 7 = .ok (.i2l, 1) := by decide +kernel
theorem d_Law_ring_8 : decode method_4_code 8 = .ok (.lastore, 1) := by decide +kernel
theorem d_Law_ring_9 : decode method_4_code 9 = .ok (.goto 9, 3) := by decide +kernel
theorem d_Law_ring_12 : decode method_4_code 12 = .ok (.astore_n 3, 1) := by decide +kernel
theorem d_Law_ring_13 : decode method_4_code 13 = .ok (.iconst 1, 1) := by decide +kernel
theorem d_Law_ring_14 : decode method_4_code 14 = .ok (.ireturn, 1) := by decide +kernel
theorem d_Law_ring_15 : decode method_4_code 15 = .ok (.astore_n 3, 1) := by decide +kernel
theorem d_Law_ring_16 : decode method_4_code 16 = .ok (.iconst 2, 1) := by decide +kernel
theorem d_Law_ring_17 : decode method_4_code 17 = .ok (.ireturn, 1) := by decide +kernel
theorem d_Law_ring_18 : decode method_4_code 18 = .ok (.iconst 0, 1) := by decide +kernel
theorem d_Law_ring_19 : decode method_4_code 19 = .ok (.ireturn, 1) := by decide +kernel
theorem d_Law_carrier_0 : decode method_5_code 0 = .ok (.aload_n 3, 1) := by decide +kernel
theorem d_Law_carrier_1 : decode method_5_code 1 = .ok (.iconst 0, 1) := by decide +kernel
theorem d_Law_carrier_2 : decode method_5_code 2 = .ok (.aload_n 0, 1) := by decide +kernel
theorem d_Law_carrier_3 : decode method_5_code 3 = .ok (.iload_n 1, 1) := by decide +kernel
theorem d_Law_carrier_4 : decode method_5_code 4 = .ok (.iload_n 2, 1) := by decide +kernel
theorem d_Law_carrier_5 : decode method_5_code 5 = .ok (.invokevirtual 21, 3) := by decide +kernel
theorem d_Law_carrier_8 : decode method_5_code 8 = .ok (.i2l, 1) := by decide +kernel
theorem d_Law_carrier_9 : decode method_5_code 9 = .ok (.lastore, 1) := by decide +kernel
theorem d_Law_carrier_10 : decode method_5_code 10 = .ok (.goto 11, 3) := by decide +kernel
theorem d_Law_carrier_13 : decode method_5_code 13 = .ok (.astore 4, 2) := by decide +kernel
theorem d_Law_carrier_15 : decode method_5_code 15 = .ok (.iconst 1, 1) := by decide +kernel
theorem d_Law_carrier_16 : decode method_5_code 16 = .ok (.ireturn, 1) := by decide +kernel
theorem d_Law_carrier_17 : decode method_5_code 17 = .ok (.astore 4, 2) := by decide +kernel
theorem d_Law_carrier_19 : decode method_5_code 19 = .ok (.iconst 2, 1) := by decide +kernel
theorem d_Law_carrier_20 : decode method_5_code 20 = .ok (.ireturn, 1) := by decide +kernel
theorem d_Law_carrier_21 : decode method_5_code 21 = .ok (.iconst 0, 1) := by decide +kernel
theorem d_Law_carrier_22 : decode method_5_code 22 = .ok (.ireturn, 1) := by decide +kernel
theorem d_Law_job_0 : decode method_6_code 0 = .ok (.aload_n 3, 1) := by decide +kernel
theorem d_Law_job_1 : decode method_6_code 1 = .ok (.iconst 0, 1) := by decide +kernel
theorem d_Law_job_2 : decode method_6_code 2 = .ok (.aload_n 0, 1) := by decide +kernel
theorem d_Law_job_3 : decode method_6_code 3 = .ok (.iload_n 1, 1) := by decide +kernel
theorem d_Law_job_4 : decode method_6_code 4 = .ok (.iload_n 2, 1) := by decide +kernel
theorem d_Law_job_5 : decode method_6_code 5 = .ok (.invokevirtual 25, 3) := by decide +kernel
theorem d_Law_job_8 : decode method_6_code 8 = .ok (.i2l, 1) := by decide +kernel
theorem d_Law_job_9 : decode method_6_code 9 = .ok (.lastore, 1) := by decide +kernel
theorem d_Law_job_10 : decode method_6_code 10 = .ok (.goto 11, 3) := by decide +kernel
theorem d_Law_job_13 : decode method_6_code 13 = .ok (.astore 4, 2) := by decide +kernel
theorem d_Law_job_15 : decode method_6_code 15 = .ok (.iconst 1, 1) := by decide +kernel
theorem d_Law_job_16 : decode method_6_code 16 = .ok (.ireturn, 1) := by decide +kernel
theorem d_Law_job_17 : decode method_6_code 17 = .ok (.astore 4, 2) := by decide +kernel
theorem d_Law_job_19 : decode method_6_code 19 = .ok (.iconst 2, 1) := by decide +kernel
theorem d_Law_job_20 : decode method_6_code 20 = .ok (.ireturn, 1) := by decide +kernel
theorem d_Law_job_21 : decode method_6_code 21 = .ok (.iconst 0, 1) := by decide +kernel
theorem d_Law_job_22 : decode method_6_code 22 = .ok (.ireturn, 1) := by decide +kernel
theorem d_Law_step_0 : decode method_7_code 0 = .ok (.aload_n 2, 1) := by decide +kernel
theorem d_Law_step_1 : decode method_7_code 1 = .ok (.iconst 0, 1) := by decide +kernel
theorem d_Law_step_2 : decode method_7_code 2 = .ok (.aload_n 0, 1) := by decide +kernel
theorem d_Law_step_3 : decode method_7_code 3 = .ok (.iload_n 1, 1) := by decide +kernel
theorem d_Law_step_4 : decode method_7_code 4 = .ok (.invokevirtual 28, 3) := by decide +kernel
theorem d_Law_step_7 : decode method_7_code 7 = .ok (.i2l, 1) := by decide +kernel
theorem d_Law_step_8 : decode method_7_code 8 = .ok (.lastore, 1) := by decide +kernel
theorem d_Law_step_9 : decode method_7_code 9 = .ok (.goto 6, 3) := by decide +kernel
theorem d_Law_step_12 : decode method_7_code 12 = .ok (.astore_n 3, 1) := by decide +kernel
theorem d_Law_step_13 : decode method_7_code 13 = .ok (.iconst 1, 1) := by decide +kernel
theorem d_Law_step_14 : decode method_7_code 14 = .ok (.ireturn, 1) := by decide +kernel
theorem d_Law_step_15 : decode method_7_code 15 = .ok (.iconst 0, 1) := by decide +kernel
theorem d_Law_step_16 : decode method_7_code 16 = .ok (.ireturn, 1) := by decide +kernel
theorem d_Law_tick_0 : decode method_8_code 0 = .ok (.aload_n 2, 1) := by decide +kernel
theorem d_Law_tick_1 : decode method_8_code 1 = .ok (.iconst 0, 1) := by decide +kernel
theorem d_Law_tick_2 : decode method_8_code 2 = .ok (.aload_n 0, 1) := by decide +kernel
theorem d_Law_tick_3 : decode method_8_code 3 = .ok (.iload_n 1, 1) := by decide +kernel
theorem d_Law_tick_4 : decode method_8_code 4 = .ok (.invokevirtual 33, 3) := by decide +kernel
theorem d_Law_tick_7 : decode method_8_code 7 = .ok (.i2l, 1) := by decide +kernel
theorem d_Law_tick_8 : decode method_8_code 8 = .ok (.lastore, 1) := by decide +kernel
theorem d_Law_tick_9 : decode method_8_code 9 = .ok (.goto 6, 3) := by decide +kernel
theorem d_Law_tick_12 : decode method_8_code 12 = .ok (.astore_n 3, 1) := by decide +kernel
theorem d_Law_tick_13 : decode method_8_code 13 = .ok (.iconst 1, 1) := by decide +kernel
theorem d_Law_tick_14 : decode method_8_code 14 = .ok (.ireturn, 1) := by decide +kernel
theorem d_Law_tick_15 : decode method_8_code 15 = .ok (.iconst 0, 1) := by decide +kernel
theorem d_Law_tick_16 : decode method_8_code 16 = .ok (.ireturn, 1) := by decide +kernel
theorem d_Law_charge_0 : decode method_9_code 0 = .ok (.aload_n 2, 1) := by decide +kernel
theorem d_Law_charge_1 : decode method_9_code 1 = .ok (.iconst 0, 1) := by decide +kernel
theorem d_Law_charge_2 : decode method_9_code 2 = .ok (.aload_n 0, 1) := by decide +kernel
theorem d_Law_charge_3 : decode method_9_code 3 = .ok (.iload_n 1, 1) := by decide +kernel
theorem d_Law_charge_4 : decode method_9_code 4 = .ok (.invokevirtual 36, 3) := by decide +kernel
theorem d_Law_charge_7 : decode method_9_code 7 = .ok (.ifCond .eq 7, 3) := by decide +kernel
theorem d_Law_charge_10 : decode method_9_code 10 = .ok (.lconst 1, 1) := by decide +kernel
theorem d_Law_charge_11 : decode method_9_code 11 = .ok (.goto 4, 3) := by decide +kernel
theorem d_Law_charge_14 : decode method_9_code 14 = .ok (.lconst 0, 1) := by decide +kernel
theorem d_Law_charge_15 : decode method_9_code 15 = .ok (.lastore, 1) := by decide +kernel
theorem d_Law_charge_16 : decode method_9_code 16 = .ok (.goto 6, 3) := by decide +kernel
theorem d_Law_charge_19 : decode method_9_code 19 = .ok (.astore_n 3, 1) := by decide +kernel
theorem d_Law_charge_20 : decode method_9_code 20 = .ok (.iconst 1, 1) := by decide +kernel
theorem d_Law_charge_21 : decode method_9_code 21 = .ok (.ireturn, 1) := by decide +kernel
theorem d_Law_charge_22 : decode method_9_code 22 = .ok (.iconst 0, 1) := by decide +kernel
theorem d_Law_charge_23 : decode method_9_code 23 = .ok (.ireturn, 1) := by decide +kernel
theorem d_Law_way_0 : decode method_10_code 0 = .ok (.aload 4, 2) := by decide +kernel
theorem d_Law_way_2 : decode method_10_code 2 = .ok (.iconst 0, 1) := by decide +kernel
theorem d_Law_way_3 : decode method_10_code 3 = .ok (.aload_n 0, 1) := by decide +kernel
theorem d_Law_way_4 : decode method_10_code 4 = .ok (.iload_n 1, 1) := by decide +kernel
theorem d_Law_way_5 : decode method_10_code 5 = .ok (.iload_n 2, 1) := by decide +kernel
theorem d_Law_way_6 : decode method_10_code 6 = .ok (.iload_n 3, 1) := by decide +kernel
theorem d_Law_way_7 : decode method_10_code 7 = .ok (.invokevirtual 40, 3) := by decide +kernel
theorem d_Law_way_10 : decode method_10_code 10 = .ok (.i2l, 1) := by decide +kernel
theorem d_Law_way_11 : decode method_10_code 11 = .ok (.lastore, 1) := by decide +kernel
theorem d_Law_way_12 : decode method_10_code 12 = .ok (.goto 7, 3) := by decide +kernel
theorem d_Law_way_15 : decode method_10_code 15 = .ok (.astore 5, 2) := by decide +kernel
theorem d_Law_way_17 : decode method_10_code 17 = .ok (.iconst 1, 1) := by decide +kernel
theorem d_Law_way_18 : decode method_10_code 18 = .ok (.ireturn, 1) := by decide +kernel
theorem d_Law_way_19 : decode method_10_code 19 = .ok (.iconst 0, 1) := by decide +kernel
theorem d_Law_way_20 : decode method_10_code 20 = .ok (.ireturn, 1) := by decide +kernel
theorem d_Law_look_0 : decode method_11_code 0 = .ok (.aload_n 3, 1) := by decide +kernel
theorem d_Law_look_1 : decode method_11_code 1 = .ok (.iconst 0, 1) := by decide +kernel
theorem d_Law_look_2 : decode method_11_code 2 = .ok (.aload_n 0, 1) := by decide +kernel
theorem d_Law_look_3 : decode method_11_code 3 = .ok (.iload_n 1, 1) := by decide +kernel
theorem d_Law_look_4 : decode method_11_code 4 = .ok (.iload_n 2, 1) := by decide +kernel
theorem d_Law_look_5 : decode method_11_code 5 = .ok (.invokevirtual 43, 3) := by decide +kernel
theorem d_Law_look_8 : decode method_11_code 8 = .ok (.i2l, 1) := by decide +kernel
theorem d_Law_look_9 : decode method_11_code 9 = .ok (.lastore, 1) := by decide +kernel
theorem d_Law_look_10 : decode method_11_code 10 = .ok (.goto 7, 3) := by decide +kernel
theorem d_Law_look_13 : decode method_11_code 13 = .ok (.astore 4, 2) := by decide +kernel
theorem d_Law_look_15 : decode method_11_code 15 = .ok (.iconst 1, 1) := by decide +kernel
theorem d_Law_look_16 : decode method_11_code 16 = .ok (.ireturn, 1) := by decide +kernel
theorem d_Law_look_17 : decode method_11_code 17 = .ok (.iconst 0, 1) := by decide +kernel
theorem d_Law_look_18 : decode method_11_code 18 = .ok (.ireturn, 1) := by decide +kernel
theorem d_Law_of_0 : decode method_12_code 0 = .ok (.aload_n 3, 1) := by decide +kernel
theorem d_Law_of_1 : decode method_12_code 1 = .ok (.iconst 0, 1) := by decide +kernel
theorem d_Law_of_2 : decode method_12_code 2 = .ok (.aload_n 0, 1) := by decide +kernel
theorem d_Law_of_3 : decode method_12_code 3 = .ok (.iload_n 1, 1) := by decide +kernel
theorem d_Law_of_4 : decode method_12_code 4 = .ok (.iload_n 2, 1) := by decide +kernel
theorem d_Law_of_5 : decode method_12_code 5 = .ok (.invokevirtual 46, 3) := by decide +kernel
theorem d_Law_of_8 : decode method_12_code 8 = .ok (.i2l, 1) := by decide +kernel
theorem d_Law_of_9 : decode method_12_code 9 = .ok (.lastore, 1) := by decide +kernel
theorem d_Law_of_10 : decode method_12_code 10 = .ok (.goto 7, 3) := by decide +kernel
theorem d_Law_of_13 : decode method_12_code 13 = .ok (.astore 4, 2) := by decide +kernel
theorem d_Law_of_15 : decode method_12_code 15 = .ok (.iconst 1, 1) := by decide +kernel
theorem d_Law_of_16 : decode method_12_code 16 = .ok (.ireturn, 1) := by decide +kernel
theorem d_Law_of_17 : decode method_12_code 17 = .ok (.iconst 0, 1) := by decide +kernel
theorem d_Law_of_18 : decode method_12_code 18 = .ok (.ireturn, 1) := by decide +kernel
