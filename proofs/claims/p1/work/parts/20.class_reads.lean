theorem dX8_pollen_0 : decode cX8_pollen 0 = .ok (.aload_n 0, 1) := by decide +kernel
theorem dX8_pollen_1 : decode cX8_pollen 1 = .ok (.iload_n 1, 1) := by decide +kernel
theorem dX8_pollen_2 : decode cX8_pollen 2 = .ok (.invokevirtual 96, 3) := by decide +kernel
theorem dX8_pollen_5 : decode cX8_pollen 5 = .ok (.astore 5, 2) := by decide +kernel
theorem dX8_pollen_7 : decode cX8_pollen 7 = .ok (.aload 5, 2) := by decide +kernel
theorem dX8_pollen_9 : decode cX8_pollen 9 = .ok (.ifnull 12, 3) := by decide +kernel
theorem dX8_pollen_21 : decode cX8_pollen 21 = .ok (.iconst 0, 1) := by decide +kernel
theorem dX8_pollen_22 : decode cX8_pollen 22 = .ok (.ireturn, 1) := by decide +kernel
theorem dX8_test_0 : decode cX8_test 0 = .ok (.aload_n 0, 1) := by decide +kernel
theorem dX8_test_1 : decode cX8_test 1 = .ok (.iload_n 1, 1) := by decide +kernel
theorem dX8_test_2 : decode cX8_test 2 = .ok (.invokevirtual 96, 3) := by decide +kernel
theorem dX8_test_5 : decode cX8_test 5 = .ok (.astore_n 3, 1) := by decide +kernel
theorem dX8_test_6 : decode cX8_test 6 = .ok (.aload_n 3, 1) := by decide +kernel
theorem dX8_test_7 : decode cX8_test 7 = .ok (.ifnull 15, 3) := by decide +kernel
theorem dX8_test_22 : decode cX8_test 22 = .ok (.ldc 110, 2) := by decide +kernel
theorem dX8_test_24 : decode cX8_test 24 = .ok (.ireturn, 1) := by decide +kernel
theorem dX8_of_0 : decode cX8_of 0 = .ok (.aload_n 0, 1) := by decide +kernel
theorem dX8_of_1 : decode cX8_of 1 = .ok (.iload_n 1, 1) := by decide +kernel
theorem dX8_of_2 : decode cX8_of 2 = .ok (.invokevirtual 96, 3) := by decide +kernel
theorem dX8_of_5 : decode cX8_of 5 = .ok (.astore_n 3, 1) := by decide +kernel
theorem dX8_of_6 : decode cX8_of 6 = .ok (.aload_n 3, 1) := by decide +kernel
theorem dX8_of_7 : decode cX8_of 7 = .ok (.ifnonnull 5, 3) := by decide +kernel
theorem dX8_of_10 : decode cX8_of 10 = .ok (.iconst (-1), 1) := by decide +kernel
theorem dX8_of_11 : decode cX8_of 11 = .ok (.ireturn, 1) := by decide +kernel
theorem dX8_span_0 : decode cX8_span 0 = .ok (.aload_n 0, 1) := by decide +kernel
theorem dX8_span_1 : decode cX8_span 1 = .ok (.iload_n 1, 1) := by decide +kernel
theorem dX8_span_2 : decode cX8_span 2 = .ok (.invokevirtual 96, 3) := by decide +kernel
theorem dX8_span_5 : decode cX8_span 5 = .ok (.astore 4, 2) := by decide +kernel
theorem dX8_span_7 : decode cX8_span 7 = .ok (.aload 4, 2) := by decide +kernel
theorem dX8_span_9 : decode cX8_span 9 = .ok (.ifnull 21, 3) := by decide +kernel
theorem dX8_span_30 : decode cX8_span 30 = .ok (.iconst (-1), 1) := by decide +kernel
theorem dX8_span_31 : decode cX8_span 31 = .ok (.ireturn, 1) := by decide +kernel
theorem dX8_trace_0 : decode cX8_trace 0 = .ok (.aload_n 0, 1) := by decide +kernel
theorem dX8_trace_1 : decode cX8_trace 1 = .ok (.iload_n 1, 1) := by decide +kernel
theorem dX8_trace_2 : decode cX8_trace 2 = .ok (.invokevirtual 96, 3) := by decide +kernel
theorem dX8_trace_5 : decode cX8_trace 5 = .ok (.ifnonnull 5, 3) := by decide +kernel
theorem dX8_trace_8 : decode cX8_trace 8 = .ok (.iconst (-1), 1) := by decide +kernel
theorem dX8_trace_9 : decode cX8_trace 9 = .ok (.ireturn, 1) := by decide +kernel
theorem dX8_pour_0 : decode cX8_pour 0 = .ok (.aload_n 0, 1) := by decide +kernel
theorem dX8_pour_1 : decode cX8_pour 1 = .ok (.iload_n 1, 1) := by decide +kernel
theorem dX8_pour_2 : decode cX8_pour 2 = .ok (.invokevirtual 96, 3) := by decide +kernel
theorem dX8_pour_5 : decode cX8_pour 5 = .ok (.astore 4, 2) := by decide +kernel
theorem dX8_pour_7 : decode cX8_pour 7 = .ok (.aload_n 0, 1) := by decide +kernel
theorem dX8_pour_8 : decode cX8_pour 8 = .ok (.iload_n 2, 1) := by decide +kernel
theorem dX8_pour_9 : decode cX8_pour 9 = .ok (.invokevirtual 139, 3) := by decide +kernel
theorem dX8_pour_12 : decode cX8_pour 12 = .ok (.astore 5, 2) := by decide +kernel
theorem dX8_pour_14 : decode cX8_pour 14 = .ok (.aload 4, 2) := by decide +kernel
theorem dX8_pour_16 : decode cX8_pour 16 = .ok (.ifnull 8, 3) := by decide +kernel
theorem dX8_pour_24 : decode cX8_pour 24 = .ok (.iconst (-1), 1) := by decide +kernel
theorem dX8_pour_25 : decode cX8_pour 25 = .ok (.ireturn, 1) := by decide +kernel
theorem dX8_move_0 : decode cX8_move 0 = .ok (.aload_n 0, 1) := by decide +kernel
theorem dX8_move_1 : decode cX8_move 1 = .ok (.iload_n 1, 1) := by decide +kernel
theorem dX8_move_2 : decode cX8_move 2 = .ok (.invokevirtual 139, 3) := by decide +kernel
theorem dX8_move_5 : decode cX8_move 5 = .ok (.astore 4, 2) := by decide +kernel
theorem dX8_move_7 : decode cX8_move 7 = .ok (.aload_n 0, 1) := by decide +kernel
theorem dX8_move_8 : decode cX8_move 8 = .ok (.iload_n 2, 1) := by decide +kernel
theorem dX8_move_9 : decode cX8_move 9 = .ok (.invokevirtual 139, 3) := by decide +kernel
theorem dX8_move_12 : decode cX8_move 12 = .ok (.astore 5, 2) := by decide +kernel
theorem dX8_move_14 : decode cX8_move 14 = .ok (.aload 4, 2) := by decide +kernel
theorem dX8_move_16 : decode cX8_move 16 = .ok (.ifnull 13, 3) := by decide +kernel
theorem dX8_move_19 : decode cX8_move 19 = .ok (.aload 5, 2) := by decide +kernel
theorem dX8_move_21 : decode cX8_move 21 = .ok (.ifnull 8, 3) := by decide +kernel
theorem dX8_move_24 : decode cX8_move 24 = .ok (.iload_n 1, 1) := by decide +kernel
theorem dX8_move_25 : decode cX8_move 25 = .ok (.iload_n 2, 1) := by decide +kernel
theorem dX8_move_26 : decode cX8_move 26 = .ok (.if_icmp .ne 5, 3) := by decide +kernel
theorem dX8_move_29 : decode cX8_move 29 = .ok (.iconst (-1), 1) := by decide +kernel
theorem dX8_move_30 : decode cX8_move 30 = .ok (.ireturn, 1) := by decide +kernel
theorem dX8_move_31 : decode cX8_move 31 = .ok (.iload_n 3, 1) := by decide +kernel
theorem dX8_move_32 : decode cX8_move 32 = .ok (.iconst 1, 1) := by decide +kernel
theorem dX8_move_33 : decode cX8_move 33 = .ok (.aload 4, 2) := by decide +kernel
theorem dX8_move_35 : decode cX8_move 35 = .ok (.getfield 144, 3) := by decide +kernel
theorem dX8_move_38 : decode cX8_move 38 = .ok (.invokestatic 85, 3) := by decide +kernel
theorem dX8_move_41 : decode cX8_move 41 = .ok (.ifCond .eq 12, 3) := by decide +kernel
theorem dX8_move_53 : decode cX8_move 53 = .ok (.bipush (-2), 2) := by decide +kernel
theorem dX8_move_55 : decode cX8_move 55 = .ok (.ireturn, 1) := by decide +kernel
theorem dX8_warm_0 : decode cX8_warm 0 = .ok (.aload_n 0, 1) := by decide +kernel
theorem dX8_warm_1 : decode cX8_warm 1 = .ok (.iload_n 1, 1) := by decide +kernel
theorem dX8_warm_2 : decode cX8_warm 2 = .ok (.invokevirtual 139, 3) := by decide +kernel
theorem dX8_warm_5 : decode cX8_warm 5 = .ok (.astore_n 3, 1) := by decide +kernel
theorem dX8_warm_6 : decode cX8_warm 6 = .ok (.aload_n 3, 1) := by decide +kernel
theorem dX8_warm_7 : decode cX8_warm 7 = .ok (.ifnull 21, 3) := by decide +kernel
theorem dX8_warm_10 : decode cX8_warm 10 = .ok (.aload_n 3, 1) := by decide +kernel
theorem dX8_warm_11 : decode cX8_warm 11 = .ok (.getfield 144, 3) := by decide +kernel
theorem dX8_warm_14 : decode cX8_warm 14 = .ok (.ifCond .eq 14, 3) := by decide +kernel
theorem dX8_warm_28 : decode cX8_warm 28 = .ok (.iconst (-1), 1) := by decide +kernel
theorem dX8_warm_29 : decode cX8_warm 29 = .ok (.ireturn, 1) := by decide +kernel
theorem dX8_jar_0 : decode cX8_jar 0 = .ok (.aload_n 0, 1) := by decide +kernel
theorem dX8_jar_1 : decode cX8_jar 1 = .ok (.iload_n 1, 1) := by decide +kernel
theorem dX8_jar_2 : decode cX8_jar 2 = .ok (.invokevirtual 139, 3) := by decide +kernel
theorem dX8_jar_5 : decode cX8_jar 5 = .ok (.astore_n 3, 1) := by decide +kernel
theorem dX8_jar_6 : decode cX8_jar 6 = .ok (.aload_n 3, 1) := by decide +kernel
theorem dX8_jar_7 : decode cX8_jar 7 = .ok (.ifnonnull 5, 3) := by decide +kernel
theorem dX8_jar_10 : decode cX8_jar 10 = .ok (.iconst (-1), 1) := by decide +kernel
theorem dX8_jar_11 : decode cX8_jar 11 = .ok (.ireturn, 1) := by decide +kernel
theorem dX8_jar_12 : decode cX8_jar 12 = .ok (.iload_n 2, 1) := by decide +kernel
theorem dX8_jar_13 : decode cX8_jar 13 = .ok (.iconst 1, 1) := by decide +kernel
theorem dX8_jar_14 : decode cX8_jar 14 = .ok (.aload_n 3, 1) := by decide +kernel
theorem dX8_jar_15 : decode cX8_jar 15 = .ok (.getfield 144, 3) := by decide +kernel
theorem dX8_jar_18 : decode cX8_jar 18 = .ok (.invokestatic 85, 3) := by decide +kernel
theorem dX8_jar_21 : decode cX8_jar 21 = .ok (.ifCond .ne 6, 3) := by decide +kernel
theorem dX8_jar_24 : decode cX8_jar 24 = .ok (.bipush (-2), 2) := by decide +kernel
theorem dX8_jar_26 : decode cX8_jar 26 = .ok (.ireturn, 1) := by decide +kernel
theorem dX8_spill_0 : decode cX8_spill 0 = .ok (.aload_n 0, 1) := by decide +kernel
theorem dX8_spill_1 : decode cX8_spill 1 = .ok (.iload_n 1, 1) := by decide +kernel
theorem dX8_spill_2 : decode cX8_spill 2 = .ok (.invokevirtual 139, 3) := by decide +kernel
theorem dX8_spill_5 : decode cX8_spill 5 = .ok (.astore_n 3, 1) := by decide +kernel
theorem dX8_spill_6 : decode cX8_spill 6 = .ok (.aload_n 3, 1) := by decide +kernel
theorem dX8_spill_7 : decode cX8_spill 7 = .ok (.ifnonnull 5, 3) := by decide +kernel
theorem dX8_spill_10 : decode cX8_spill 10 = .ok (.iconst (-1), 1) := by decide +kernel
theorem dX8_spill_11 : decode cX8_spill 11 = .ok (.ireturn, 1) := by decide +kernel
theorem dX8_spill_12 : decode cX8_spill 12 = .ok (.iload_n 2, 1) := by decide +kernel
theorem dX8_spill_13 : decode cX8_spill 13 = .ok (.iconst 1, 1) := by decide +kernel
theorem dX8_spill_14 : decode cX8_spill 14 = .ok (.aload_n 3, 1) := by decide +kernel
theorem dX8_spill_15 : decode cX8_spill 15 = .ok (.getfield 144, 3) := by decide +kernel
theorem dX8_spill_18 : decode cX8_spill 18 = .ok (.invokestatic 85, 3) := by decide +kernel
theorem dX8_spill_21 : decode cX8_spill 21 = .ok (.ifCond .ne 6, 3) := by decide +kernel
theorem dX8_spill_24 : decode cX8_spill 24 = .ok (.bipush (-2), 2) := by decide +kernel
theorem dX8_spill_26 : decode cX8_spill 26 = .ok (.ireturn, 1) := by decide +kernel
theorem dX8_vesselAt_0 : decode cX8_vesselAt 0 = .ok (.iload_n 1, 1) := by decide +kernel
theorem dX8_vesselAt_1 : decode cX8_vesselAt 1 = .ok (.ifCond .ne 9, 3) := by decide +kernel
theorem dX8_vesselAt_4 : decode cX8_vesselAt 4 = .ok (.aload_n 0, 1) := by decide +kernel
theorem dX8_vesselAt_5 : decode cX8_vesselAt 5 = .ok (.iload_n 2, 1) := by decide +kernel
theorem dX8_vesselAt_6 : decode cX8_vesselAt 6 = .ok (.invokevirtual 139, 3) := by decide +kernel
theorem dX8_vesselAt_9 : decode cX8_vesselAt 9 = .ok (.areturn, 1) := by decide +kernel
theorem dX8_vesselAt_10 : decode cX8_vesselAt 10 = .ok (.iload_n 1, 1) := by decide +kernel
theorem dX8_vesselAt_11 : decode cX8_vesselAt 11 = .ok (.iconst 1, 1) := by decide +kernel
theorem dX8_vesselAt_12 : decode cX8_vesselAt 12 = .ok (.if_icmp .ne 27, 3) := by decide +kernel
theorem dX8_vesselAt_15 : decode cX8_vesselAt 15 = .ok (.iload_n 2, 1) := by decide +kernel
theorem dX8_vesselAt_16 : decode cX8_vesselAt 16 = .ok (.iconst 0, 1) := by decide +kernel
theorem dX8_vesselAt_17 : decode cX8_vesselAt 17 = .ok (.aload_n 0, 1) := by decide +kernel
theorem dX8_vesselAt_18 : decode cX8_vesselAt 18 = .ok (.getfield 21, 3) := by decide +kernel
theorem dX8_vesselAt_21 : decode cX8_vesselAt 21 = .ok (.arraylength, 1) := by decide +kernel
theorem dX8_vesselAt_22 : decode cX8_vesselAt 22 = .ok (.iconst 1, 1) := by decide +kernel
theorem dX8_vesselAt_23 : decode cX8_vesselAt 23 = .ok (.isub, 1) := by decide +kernel
theorem dX8_vesselAt_24 : decode cX8_vesselAt 24 = .ok (.invokestatic 85, 3) := by decide +kernel
theorem dX8_vesselAt_27 : decode cX8_vesselAt 27 = .ok (.ifCond .eq 12, 3) := by decide +kernel
theorem dX8_vesselAt_30 : decode cX8_vesselAt 30 = .ok (.aload_n 0, 1) := by decide +kernel
theorem dX8_vesselAt_31 : decode cX8_vesselAt 31 = .ok (.getfield 21, 3) := by decide +kernel
theorem dX8_vesselAt_34 : decode cX8_vesselAt 34 = .ok (.iload_n 2, 1) := by decide +kernel
theorem dX8_vesselAt_35 : decode cX8_vesselAt 35 = .ok (.aaload, 1) := by decide +kernel
theorem dX8_vesselAt_36 : decode cX8_vesselAt 36 = .ok (.goto 4, 3) := by decide +kernel
theorem dX8_vesselAt_39 : decode cX8_vesselAt 39 = .ok (.aconst_null, 1) := by decide +kernel
theorem dX8_vesselAt_40 : decode cX8_vesselAt 40 = .ok (.areturn, 1) := by decide +kernel
theorem dX8_holds_0 : decode cX8_holds 0 = .ok (.aload_n 0, 1) := by decide +kernel
theorem dX8_holds_1 : decode cX8_holds 1 = .ok (.iload_n 1, 1) := by decide +kernel
theorem dX8_holds_2 : decode cX8_holds 2 = .ok (.iload_n 2, 1) := by decide +kernel
theorem dX8_holds_3 : decode cX8_holds 3 = .ok (.invokevirtual 173, 3) := by decide +kernel
theorem dX8_holds_6 : decode cX8_holds 6 = .ok (.astore 4, 2) := by decide +kernel
theorem dX8_holds_8 : decode cX8_holds 8 = .ok (.aload 4, 2) := by decide +kernel
theorem dX8_holds_10 : decode cX8_holds 10 = .ok (.ifnonnull 5, 3) := by decide +kernel
theorem dX8_holds_13 : decode cX8_holds 13 = .ok (.iconst (-1), 1) := by decide +kernel
theorem dX8_holds_14 : decode cX8_holds 14 = .ok (.ireturn, 1) := by decide +kernel
theorem dX8_holds_15 : decode cX8_holds 15 = .ok (.iload_n 3, 1) := by decide +kernel
theorem dX8_holds_16 : decode cX8_holds 16 = .ok (.tableswitch 66 0 4 #[36, 42, 48, 54, 60], 36) := by decide +kernel
theorem dX8_holds_52 : decode cX8_holds 52 = .ok (.aload 4, 2) := by decide +kernel
theorem dX8_holds_54 : decode cX8_holds 54 = .ok (.getfield 144, 3) := by decide +kernel
theorem dX8_holds_57 : decode cX8_holds 57 = .ok (.ireturn, 1) := by decide +kernel
theorem dX8_holds_58 : decode cX8_holds 58 = .ok (.aload 4, 2) := by decide +kernel
theorem dX8_holds_60 : decode cX8_holds 60 = .ok (.invokevirtual 177, 3) := by decide +kernel
theorem dX8_holds_63 : decode cX8_holds 63 = .ok (.ireturn, 1) := by decide +kernel
theorem dX8_holds_64 : decode cX8_holds 64 = .ok (.aload 4, 2) := by decide +kernel
theorem dX8_holds_66 : decode cX8_holds 66 = .ok (.getfield 160, 3) := by decide +kernel
theorem dX8_holds_69 : decode cX8_holds 69 = .ok (.ireturn, 1) := by decide +kernel
theorem dX8_holds_70 : decode cX8_holds 70 = .ok (.aload 4, 2) := by decide +kernel
theorem dX8_holds_72 : decode cX8_holds 72 = .ok (.getfield 147, 3) := by decide +kernel
theorem dX8_holds_75 : decode cX8_holds 75 = .ok (.ireturn, 1) := by decide +kernel
theorem dX8_holds_76 : decode cX8_holds 76 = .ok (.aload 4, 2) := by decide +kernel
theorem dX8_holds_78 : decode cX8_holds 78 = .ok (.getfield 150, 3) := by decide +kernel
theorem dX8_holds_81 : decode cX8_holds 81 = .ok (.ireturn, 1) := by decide +kernel
theorem dX8_holds_82 : decode cX8_holds 82 = .ok (.iconst (-1), 1) := by decide +kernel
theorem dX8_holds_83 : decode cX8_holds 83 = .ok (.ireturn, 1) := by decide +kernel
theorem dX8_part_0 : decode cX8_part 0 = .ok (.aload_n 0, 1) := by decide +kernel
theorem dX8_part_1 : decode cX8_part 1 = .ok (.iload_n 1, 1) := by decide +kernel
theorem dX8_part_2 : decode cX8_part 2 = .ok (.iload_n 2, 1) := by decide +kernel
theorem dX8_part_3 : decode cX8_part 3 = .ok (.invokevirtual 173, 3) := by decide +kernel
theorem dX8_part_6 : decode cX8_part 6 = .ok (.astore 4, 2) := by decide +kernel
theorem dX8_part_8 : decode cX8_part 8 = .ok (.aload 4, 2) := by decide +kernel
theorem dX8_part_10 : decode cX8_part 10 = .ok (.ifnull 11, 3) := by decide +kernel
theorem dX8_part_13 : decode cX8_part 13 = .ok (.aload_n 0, 1) := by decide +kernel
theorem dX8_part_14 : decode cX8_part 14 = .ok (.iload_n 3, 1) := by decide +kernel
theorem dX8_part_15 : decode cX8_part 15 = .ok (.invokevirtual 96, 3) := by decide +kernel
theorem dX8_part_18 : decode cX8_part 18 = .ok (.ifnonnull 5, 3) := by decide +kernel
theorem dX8_part_21 : decode cX8_part 21 = .ok (.iconst (-1), 1) := by decide +kernel
theorem dX8_part_22 : decode cX8_part 22 = .ok (.ireturn, 1) := by decide +kernel
theorem dX8_isPollenLow_0 : decode cX8_isPollenLow 0 = .ok (.iload_n 0, 1) := by decide +kernel
theorem dX8_isPollenLow_1 : decode cX8_isPollenLow 1 = .ok (.bipush 10, 2) := by decide +kernel
theorem dX8_isPollenLow_3 : decode cX8_isPollenLow 3 = .ok (.bipush 14, 2) := by decide +kernel
theorem dX8_isPollenLow_5 : decode cX8_isPollenLow 5 = .ok (.invokestatic 85, 3) := by decide +kernel
theorem dX8_isPollenLow_8 : decode cX8_isPollenLow 8 = .ok (.ireturn, 1) := by decide +kernel
theorem dX8_isPollenHigh_0 : decode cX8_isPollenHigh 0 = .ok (.iload_n 0, 1) := by decide +kernel
theorem dX8_isPollenHigh_1 : decode cX8_isPollenHigh 1 = .ok (.bipush 20, 2) := by decide +kernel
theorem dX8_isPollenHigh_3 : decode cX8_isPollenHigh 3 = .ok (.bipush 24, 2) := by decide +kernel
theorem dX8_isPollenHigh_5 : decode cX8_isPollenHigh 5 = .ok (.invokestatic 85, 3) := by decide +kernel
theorem dX8_isPollenHigh_8 : decode cX8_isPollenHigh 8 = .ok (.ireturn, 1) := by decide +kernel
theorem dX8_isMeasure_0 : decode cX8_isMeasure 0 = .ok (.iload_n 0, 1) := by decide +kernel
theorem dX8_isMeasure_1 : decode cX8_isMeasure 1 = .ok (.iconst 0, 1) := by decide +kernel
theorem dX8_isMeasure_2 : decode cX8_isMeasure 2 = .ok (.iconst 2, 1) := by decide +kernel
theorem dX8_isMeasure_3 : decode cX8_isMeasure 3 = .ok (.invokestatic 85, 3) := by decide +kernel
theorem dX8_isMeasure_6 : decode cX8_isMeasure 6 = .ok (.ifCond .ne 28, 3) := by decide +kernel
theorem dX8_isMeasure_9 : decode cX8_isMeasure 9 = .ok (.iload_n 0, 1) := by decide +kernel
theorem dX8_isMeasure_10 : decode cX8_isMeasure 10 = .ok (.invokestatic 279, 3) := by decide +kernel
theorem dX8_isMeasure_13 : decode cX8_isMeasure 13 = .ok (.ifCond .ne 21, 3) := by decide +kernel
theorem dX8_isMeasure_16 : decode cX8_isMeasure 16 = .ok (.iload_n 0, 1) := by decide +kernel
theorem dX8_isMeasure_17 : decode cX8_isMeasure 17 = .ok (.invokestatic 282, 3) := by decide +kernel
theorem dX8_isMeasure_20 : decode cX8_isMeasure 20 = .ok (.ifCond .ne 14, 3) := by decide +kernel
theorem dX8_isMeasure_23 : decode cX8_isMeasure 23 = .ok (.iload_n 0, 1) := by decide +kernel
theorem dX8_isMeasure_24 : decode cX8_isMeasure 24 = .ok (.bipush 30, 2) := by decide +kernel
theorem dX8_isMeasure_26 : decode cX8_isMeasure 26 = .ok (.bipush 33, 2) := by decide +kernel
theorem dX8_isMeasure_28 : decode cX8_isMeasure 28 = .ok (.invokestatic 85, 3) := by decide +kernel
theorem dX8_isMeasure_31 : decode cX8_isMeasure 31 = .ok (.ifCond .eq 7, 3) := by decide +kernel
theorem dX8_isMeasure_34 : decode cX8_isMeasure 34 = .ok (.iconst 1, 1) := by decide +kernel
theorem dX8_isMeasure_35 : decode cX8_isMeasure 35 = .ok (.goto 4, 3) := by decide +kernel
theorem dX8_isMeasure_38 : decode cX8_isMeasure 38 = .ok (.iconst 0, 1) := by decide +kernel
theorem dX8_isMeasure_39 : decode cX8_isMeasure 39 = .ok (.ireturn, 1) := by decide +kernel
theorem dX8_told_0 : decode cX8_told 0 = .ok (.aload_n 1, 1) := by decide +kernel
theorem dX8_told_1 : decode cX8_told 1 = .ok (.getfield 144, 3) := by decide +kernel
theorem dX8_told_4 : decode cX8_told 4 = .ok (.ifCond .gt 5, 3) := by decide +kernel
theorem dX8_told_7 : decode cX8_told 7 = .ok (.iconst (-1), 1) := by decide +kernel
theorem dX8_told_8 : decode cX8_told 8 = .ok (.ireturn, 1) := by decide +kernel
theorem dX8_measure_0 : decode cX8_measure 0 = .ok (.aload_n 0, 1) := by decide +kernel
theorem dX8_measure_1 : decode cX8_measure 1 = .ok (.iload_n 1, 1) := by decide +kernel
theorem dX8_measure_2 : decode cX8_measure 2 = .ok (.iload_n 2, 1) := by decide +kernel
theorem dX8_measure_3 : decode cX8_measure 3 = .ok (.invokevirtual 173, 3) := by decide +kernel
theorem dX8_measure_6 : decode cX8_measure 6 = .ok (.astore 4, 2) := by decide +kernel
theorem dX8_measure_8 : decode cX8_measure 8 = .ok (.aload 4, 2) := by decide +kernel
theorem dX8_measure_10 : decode cX8_measure 10 = .ok (.ifnull 10, 3) := by decide +kernel
theorem dX8_measure_13 : decode cX8_measure 13 = .ok (.iload_n 3, 1) := by decide +kernel
theorem dX8_measure_14 : decode cX8_measure 14 = .ok (.invokestatic 185, 3) := by decide +kernel
theorem dX8_measure_17 : decode cX8_measure 17 = .ok (.ifCond .ne 5, 3) := by decide +kernel
theorem dX8_measure_20 : decode cX8_measure 20 = .ok (.iconst (-1), 1) := by decide +kernel
theorem dX8_measure_21 : decode cX8_measure 21 = .ok (.ireturn, 1) := by decide +kernel
theorem dX8_measure_22 : decode cX8_measure 22 = .ok (.aload_n 0, 1) := by decide +kernel
theorem dX8_measure_23 : decode cX8_measure 23 = .ok (.aload 4, 2) := by decide +kernel
theorem dX8_measure_25 : decode cX8_measure 25 = .ok (.iload_n 3, 1) := by decide +kernel
theorem dX8_measure_26 : decode cX8_measure 26 = .ok (.invokevirtual 188, 3) := by decide +kernel
theorem dX8_measure_29 : decode cX8_measure 29 = .ok (.ireturn, 1) := by decide +kernel
theorem dX8_fault_0 : decode cX8_fault 0 = .ok (.iload_n 1, 1) := by decide +kernel
theorem dX8_fault_1 : decode cX8_fault 1 = .ok (.lookupswitch 43 #[(0, 27), (1, 35)], 27) := by decide +kernel
theorem dX8_fault_28 : decode cX8_fault 28 = .ok (.aload_n 0, 1) := by decide +kernel
theorem dX8_fault_29 : decode cX8_fault 29 = .ok (.getfield 40, 3) := by decide +kernel
theorem dX8_fault_32 : decode cX8_fault 32 = .ok (.getfield 213, 3) := by decide +kernel
theorem dX8_fault_35 : decode cX8_fault 35 = .ok (.ireturn, 1) := by decide +kernel
theorem dX8_fault_36 : decode cX8_fault 36 = .ok (.aload_n 0, 1) := by decide +kernel
theorem dX8_fault_37 : decode cX8_fault 37 = .ok (.getfield 40, 3) := by decide +kernel
theorem dX8_fault_40 : decode cX8_fault 40 = .ok (.getfield 216, 3) := by decide +kernel
theorem dX8_fault_43 : decode cX8_fault 43 = .ok (.ireturn, 1) := by decide +kernel
theorem dX8_fault_44 : decode cX8_fault 44 = .ok (.iconst (-1), 1) := by decide +kernel
theorem dX8_fault_45 : decode cX8_fault 45 = .ok (.ireturn, 1) := by decide +kernel
theorem dX8_shut_0 : decode cX8_shut 0 = .ok (.aload_n 0, 1) := by decide +kernel
theorem dX8_shut_1 : decode cX8_shut 1 = .ok (.iload_n 1, 1) := by decide +kernel
theorem dX8_shut_2 : decode cX8_shut 2 = .ok (.invokevirtual 219, 3) := by decide +kernel
theorem dX8_shut_5 : decode cX8_shut 5 = .ok (.astore_n 3, 1) := by decide +kernel
theorem dX8_shut_6 : decode cX8_shut 6 = .ok (.aload_n 3, 1) := by decide +kernel
theorem dX8_shut_7 : decode cX8_shut 7 = .ok (.ifnull 18, 3) := by decide +kernel
theorem dX8_shut_25 : decode cX8_shut 25 = .ok (.iconst 0, 1) := by decide +kernel
theorem dX8_shut_26 : decode cX8_shut 26 = .ok (.ireturn, 1) := by decide +kernel
theorem dX8_says_0 : decode cX8_says 0 = .ok (.aload_n 0, 1) := by decide +kernel
theorem dX8_says_1 : decode cX8_says 1 = .ok (.iload_n 1, 1) := by decide +kernel
theorem dX8_says_2 : decode cX8_says 2 = .ok (.invokevirtual 219, 3) := by decide +kernel
theorem dX8_says_5 : decode cX8_says 5 = .ok (.astore 4, 2) := by decide +kernel
theorem dX8_says_7 : decode cX8_says 7 = .ok (.aload_n 0, 1) := by decide +kernel
theorem dX8_says_8 : decode cX8_says 8 = .ok (.iload_n 2, 1) := by decide +kernel
theorem dX8_says_9 : decode cX8_says 9 = .ok (.iload_n 3, 1) := by decide +kernel
theorem dX8_says_10 : decode cX8_says 10 = .ok (.invokevirtual 173, 3) := by decide +kernel
theorem dX8_says_13 : decode cX8_says 13 = .ok (.astore 5, 2) := by decide +kernel
theorem dX8_says_15 : decode cX8_says 15 = .ok (.aload 4, 2) := by decide +kernel
theorem dX8_says_17 : decode cX8_says 17 = .ok (.ifnull 16, 3) := by decide +kernel
theorem dX8_says_33 : decode cX8_says 33 = .ok (.iconst (-1), 1) := by decide +kernel
theorem dX8_says_34 : decode cX8_says 34 = .ok (.ireturn, 1) := by decide +kernel
theorem dX8_name_0 : decode cX8_name 0 = .ok (.aload_n 0, 1) := by decide +kernel
theorem dX8_name_1 : decode cX8_name 1 = .ok (.iload_n 1, 1) := by decide +kernel
theorem dX8_name_2 : decode cX8_name 2 = .ok (.iload_n 2, 1) := by decide +kernel
theorem dX8_name_3 : decode cX8_name 3 = .ok (.invokevirtual 173, 3) := by decide +kernel
theorem dX8_name_6 : decode cX8_name 6 = .ok (.astore 4, 2) := by decide +kernel
theorem dX8_name_8 : decode cX8_name 8 = .ok (.aload 4, 2) := by decide +kernel
theorem dX8_name_10 : decode cX8_name 10 = .ok (.ifnull 11, 3) := by decide +kernel
theorem dX8_name_13 : decode cX8_name 13 = .ok (.aload 4, 2) := by decide +kernel
theorem dX8_name_15 : decode cX8_name 15 = .ok (.getfield 144, 3) := by decide +kernel
theorem dX8_name_18 : decode cX8_name 18 = .ok (.ifCond .ne 5, 3) := by decide +kernel
theorem dX8_name_21 : decode cX8_name 21 = .ok (.iconst (-1), 1) := by decide +kernel
theorem dX8_name_22 : decode cX8_name 22 = .ok (.ireturn, 1) := by decide +kernel
theorem dX8_parts_0 : decode cX8_parts 0 = .ok (.aload_n 0, 1) := by decide +kernel
theorem dX8_parts_1 : decode cX8_parts 1 = .ok (.iload_n 1, 1) := by decide +kernel
theorem dX8_parts_2 : decode cX8_parts 2 = .ok (.invokevirtual 139, 3) := by decide +kernel
theorem dX8_parts_5 : decode cX8_parts 5 = .ok (.ifnull 13, 3) := by decide +kernel
theorem dX8_parts_8 : decode cX8_parts 8 = .ok (.aload_n 0, 1) := by decide +kernel
theorem dX8_parts_9 : decode cX8_parts 9 = .ok (.getfield 54, 3) := by decide +kernel
theorem dX8_parts_12 : decode cX8_parts 12 = .ok (.getfield 266, 3) := by decide +kernel
theorem dX8_parts_15 : decode cX8_parts 15 = .ok (.ifCond .ne 5, 3) := by decide +kernel
theorem dX8_parts_18 : decode cX8_parts 18 = .ok (.iconst (-1), 1) := by decide +kernel
theorem dX8_parts_19 : decode cX8_parts 19 = .ok (.ireturn, 1) := by decide +kernel
theorem dX8_found_0 : decode cX8_found 0 = .ok (.iload_n 1, 1) := by decide +kernel
theorem dX8_found_1 : decode cX8_found 1 = .ok (.iconst 0, 1) := by decide +kernel
theorem dX8_found_2 : decode cX8_found 2 = .ok (.aload_n 0, 1) := by decide +kernel
theorem dX8_found_3 : decode cX8_found 3 = .ok (.getfield 272, 3) := by decide +kernel
theorem dX8_found_6 : decode cX8_found 6 = .ok (.iconst 1, 1) := by decide +kernel
theorem dX8_found_7 : decode cX8_found 7 = .ok (.isub, 1) := by decide +kernel
theorem dX8_found_8 : decode cX8_found 8 = .ok (.invokestatic 85, 3) := by decide +kernel
theorem dX8_found_11 : decode cX8_found 11 = .ok (.ifCond .eq 12, 3) := by decide +kernel
theorem dX8_found_23 : decode cX8_found 23 = .ok (.iconst (-1), 1) := by decide +kernel
theorem dX8_found_24 : decode cX8_found 24 = .ok (.ireturn, 1) := by decide +kernel
theorem dX8_count_0 : decode cX8_count 0 = .ok (.iload_n 1, 1) := by decide +kernel
theorem dX8_count_1 : decode cX8_count 1 = .ok (.tableswitch 51 0 3 #[31, 36, 41, 46], 31) := by decide +kernel
theorem dX8_count_32 : decode cX8_count 32 = .ok (.aload_n 0, 1) := by decide +kernel
theorem dX8_count_33 : decode cX8_count 33 = .ok (.getfield 90, 3) := by decide +kernel
theorem dX8_count_36 : decode cX8_count 36 = .ok (.ireturn, 1) := by decide +kernel
theorem dX8_count_37 : decode cX8_count 37 = .ok (.aload_n 0, 1) := by decide +kernel
theorem dX8_count_38 : decode cX8_count 38 = .ok (.getfield 170, 3) := by decide +kernel
theorem dX8_count_41 : decode cX8_count 41 = .ok (.ireturn, 1) := by decide +kernel
theorem dX8_count_42 : decode cX8_count 42 = .ok (.aload_n 0, 1) := by decide +kernel
theorem dX8_count_43 : decode cX8_count 43 = .ok (.getfield 196, 3) := by decide +kernel
theorem dX8_count_46 : decode cX8_count 46 = .ok (.ireturn, 1) := by decide +kernel
theorem dX8_count_47 : decode cX8_count 47 = .ok (.aload_n 0, 1) := by decide +kernel
theorem dX8_count_48 : decode cX8_count 48 = .ok (.getfield 82, 3) := by decide +kernel
theorem dX8_count_51 : decode cX8_count 51 = .ok (.ireturn, 1) := by decide +kernel
theorem dX8_count_52 : decode cX8_count 52 = .ok (.iconst (-1), 1) := by decide +kernel
theorem dX8_count_53 : decode cX8_count 53 = .ok (.ireturn, 1) := by decide +kernel
theorem dX7_lotsInIt_0 : decode cX7_lotsInIt 0 = .ok (.iconst 0, 1) := by decide +kernel
theorem dX7_lotsInIt_1 : decode cX7_lotsInIt 1 = .ok (.istore_n 1, 1) := by decide +kernel
theorem dX7_lotsInIt_2 : decode cX7_lotsInIt 2 = .ok (.iconst 0, 1) := by decide +kernel
theorem dX7_lotsInIt_3 : decode cX7_lotsInIt 3 = .ok (.istore_n 2, 1) := by decide +kernel
theorem dX7_lotsInIt_4 : decode cX7_lotsInIt 4 = .ok (.iload_n 2, 1) := by decide +kernel
theorem dX7_lotsInIt_5 : decode cX7_lotsInIt 5 = .ok (.aload_n 0, 1) := by decide +kernel
theorem dX7_lotsInIt_6 : decode cX7_lotsInIt 6 = .ok (.getfield 9, 3) := by decide +kernel
theorem dX7_lotsInIt_9 : decode cX7_lotsInIt 9 = .ok (.arraylength, 1) := by decide +kernel
theorem dX7_lotsInIt_10 : decode cX7_lotsInIt 10 = .ok (.if_icmp .ge 21, 3) := by decide +kernel
theorem dX7_lotsInIt_13 : decode cX7_lotsInIt 13 = .ok (.aload_n 0, 1) := by decide +kernel
theorem dX7_lotsInIt_14 : decode cX7_lotsInIt 14 = .ok (.getfield 9, 3) := by decide +kernel
theorem dX7_lotsInIt_17 : decode cX7_lotsInIt 17 = .ok (.iload_n 2, 1) := by decide +kernel
theorem dX7_lotsInIt_18 : decode cX7_lotsInIt 18 = .ok (.iaload, 1) := by decide +kernel
theorem dX7_lotsInIt_19 : decode cX7_lotsInIt 19 = .ok (.ifCond .le 6, 3) := by decide +kernel
theorem dX7_lotsInIt_25 : decode cX7_lotsInIt 25 = .ok (.iinc 2 1, 3) := by decide +kernel
theorem dX7_lotsInIt_28 : decode cX7_lotsInIt 28 = .ok (.goto (-24), 3) := by decide +kernel
theorem dX7_lotsInIt_31 : decode cX7_lotsInIt 31 = .ok (.iload_n 1, 1) := by decide +kernel
theorem dX7_lotsInIt_32 : decode cX7_lotsInIt 32 = .ok (.ireturn, 1) := by decide +kernel
set_option maxRecDepth 20000 in
theorem ggX8_pollen_X8_lotAt : GoodIn wsX8_pollen wsX8_lotAt := goodIn_r _ [7, 8, 9, 10, 6, 11, 25, 26, 27, 28, 29, 30, 31, 32, 33, 34, 35, 36, 37, 38, 39] (by decide +kernel) (by decide +kernel)
set_option maxRecDepth 20000 in
theorem gX8_pollen_X8_lotAt : GoodIn wsX8_pollen (wsV RX8 96 RX8 yX8_lotAt wsX8_lotAt) := goodIn_app (goodIn_of _ (by decide +kernel)) ggX8_pollen_X8_lotAt
set_option maxRecDepth 20000 in
theorem ggX8_test_X8_lotAt : GoodIn wsX8_test wsX8_lotAt := goodIn_r _ [10, 11, 12, 13, 9, 14, 33, 34, 35, 36, 37, 38, 39, 40, 41, 42, 43, 44, 45, 46, 47] (by decide +kernel) (by decide +kernel)
set_option maxRecDepth 20000 in
theorem gX8_test_X8_lotAt : GoodIn wsX8_test (wsV RX8 96 RX8 yX8_lotAt wsX8_lotAt) := goodIn_app (goodIn_of _ (by decide +kernel)) ggX8_test_X8_lotAt
set_option maxRecDepth 20000 in
theorem ggX8_of_X8_lotAt : GoodIn wsX8_of wsX8_lotAt := goodIn_r _ [12, 13, 14, 15, 11, 16, 27, 28, 29, 30, 31, 32, 33, 34, 35, 36, 37, 38, 39, 40, 41] (by decide +kernel) (by decide +kernel)
set_option maxRecDepth 20000 in
theorem gX8_of_X8_lotAt : GoodIn wsX8_of (wsV RX8 96 RX8 yX8_lotAt wsX8_lotAt) := goodIn_app (goodIn_of _ (by decide +kernel)) ggX8_of_X8_lotAt
set_option maxRecDepth 20000 in
theorem ggX8_span_X8_lotAt : GoodIn wsX8_span wsX8_lotAt := goodIn_r _ [7, 8, 9, 10, 6, 11, 22, 23, 24, 25, 26, 27, 28, 29, 30, 31, 32, 33, 34, 35, 36] (by decide +kernel) (by decide +kernel)
set_option maxRecDepth 20000 in
theorem gX8_span_X8_lotAt : GoodIn wsX8_span (wsV RX8 96 RX8 yX8_lotAt wsX8_lotAt) := goodIn_app (goodIn_of _ (by decide +kernel)) ggX8_span_X8_lotAt
set_option maxRecDepth 20000 in
theorem ggX8_trace_X8_lotAt : GoodIn wsX8_trace wsX8_lotAt := goodIn_r _ [8, 9, 10, 11, 7, 12, 19, 20, 21, 22, 23, 24, 25, 26, 27, 28, 29, 30, 31, 32, 33] (by decide +kernel) (by decide +kernel)
set_option maxRecDepth 20000 in
theorem gX8_trace_X8_lotAt : GoodIn wsX8_trace (wsV RX8 96 RX8 yX8_lotAt wsX8_lotAt) := goodIn_app (goodIn_of _ (by decide +kernel)) ggX8_trace_X8_lotAt
set_option maxRecDepth 20000 in
theorem ggX8_pour_X8_lotAt : GoodIn wsX8_pour wsX8_lotAt := goodIn_r _ [6, 7, 8, 9, 5, 10, 38, 39, 40, 41, 42, 43, 44, 45, 46, 47, 48, 49, 50, 51, 52] (by decide +kernel) (by decide +kernel)
set_option maxRecDepth 20000 in
theorem gX8_pour_X8_lotAt : GoodIn wsX8_pour (wsV RX8 96 RX8 yX8_lotAt wsX8_lotAt) := goodIn_app (goodIn_of _ (by decide +kernel)) ggX8_pour_X8_lotAt
set_option maxRecDepth 20000 in
theorem ggX8_pour_X8_tankAt : GoodIn wsX8_pour wsX8_tankAt := goodIn_r _ [14, 15, 8, 9, 5, 10, 38, 39, 40, 41, 42, 43, 44, 45, 46, 47, 48, 49, 50, 51, 52] (by decide +kernel) (by decide +kernel)
set_option maxRecDepth 20000 in
theorem gX8_pour_X8_tankAt : GoodIn wsX8_pour (wsV RX8 139 RX8 yX8_tankAt wsX8_tankAt) := goodIn_app (goodIn_of _ (by decide +kernel)) ggX8_pour_X8_tankAt
set_option maxRecDepth 20000 in
theorem ggX8_move_X8_tankAt : GoodIn wsX8_move wsX8_tankAt := goodIn_r _ [8, 9, 10, 11, 7, 12, 64, 65, 66, 67, 68, 69, 70, 71, 72, 73, 74, 75, 76, 77, 78] (by decide +kernel) (by decide +kernel)
set_option maxRecDepth 20000 in
theorem gX8_move_X8_tankAt : GoodIn wsX8_move (wsV RX8 139 RX8 yX8_tankAt wsX8_tankAt) := goodIn_app (goodIn_of _ (by decide +kernel)) ggX8_move_X8_tankAt
set_option maxRecDepth 20000 in
theorem ggX8_move_X8_isIn : GoodIn wsX8_move wsX8_isIn := goodIn_r _ [12] (by decide +kernel) (by decide +kernel)
set_option maxRecDepth 20000 in
theorem gX8_move_X8_isIn : GoodIn wsX8_move (va_wsS RX8 85 yX8_isIn wsX8_isIn) := goodIn_app (goodIn_of _ (by decide +kernel)) ggX8_move_X8_isIn
set_option maxRecDepth 20000 in
theorem ggX8_warm_X8_tankAt : GoodIn wsX8_warm wsX8_tankAt := goodIn_r _ [7, 8, 9, 10, 6, 11, 17, 18, 19, 20, 21, 22, 23, 24, 25, 26, 27, 28, 29, 30, 31] (by decide +kernel) (by decide +kernel)
set_option maxRecDepth 20000 in
theorem gX8_warm_X8_tankAt : GoodIn wsX8_warm (wsV RX8 139 RX8 yX8_tankAt wsX8_tankAt) := goodIn_app (goodIn_of _ (by decide +kernel)) ggX8_warm_X8_tankAt
set_option maxRecDepth 20000 in
theorem ggX8_jar_X8_tankAt : GoodIn wsX8_jar wsX8_tankAt := goodIn_r _ [14, 15, 16, 17, 13, 18, 73, 74, 75, 76, 77, 78, 79, 80, 81, 82, 83, 84, 85, 86, 87] (by decide +kernel) (by decide +kernel)
set_option maxRecDepth 20000 in
theorem gX8_jar_X8_tankAt : GoodIn wsX8_jar (wsV RX8 139 RX8 yX8_tankAt wsX8_tankAt) := goodIn_app (goodIn_of _ (by decide +kernel)) ggX8_jar_X8_tankAt
set_option maxRecDepth 20000 in
theorem ggX8_jar_X8_isIn : GoodIn wsX8_jar wsX8_isIn := goodIn_r _ [18] (by decide +kernel) (by decide +kernel)
set_option maxRecDepth 20000 in
theorem gX8_jar_X8_isIn : GoodIn wsX8_jar (va_wsS RX8 85 yX8_isIn wsX8_isIn) := goodIn_app (goodIn_of _ (by decide +kernel)) ggX8_jar_X8_isIn
set_option maxRecDepth 20000 in
theorem ggX8_spill_X8_tankAt : GoodIn wsX8_spill wsX8_tankAt := goodIn_r _ [7, 8, 9, 10, 6, 11, 50, 51, 52, 53, 54, 55, 56, 57, 58, 59, 60, 61, 62, 63, 64] (by decide +kernel) (by decide +kernel)
set_option maxRecDepth 20000 in
theorem gX8_spill_X8_tankAt : GoodIn wsX8_spill (wsV RX8 139 RX8 yX8_tankAt wsX8_tankAt) := goodIn_app (goodIn_of _ (by decide +kernel)) ggX8_spill_X8_tankAt
set_option maxRecDepth 20000 in
theorem ggX8_spill_X8_isIn : GoodIn wsX8_spill wsX8_isIn := goodIn_r _ [11] (by decide +kernel) (by decide +kernel)
set_option maxRecDepth 20000 in
theorem gX8_spill_X8_isIn : GoodIn wsX8_spill (va_wsS RX8 85 yX8_isIn wsX8_isIn) := goodIn_app (goodIn_of _ (by decide +kernel)) ggX8_spill_X8_isIn
set_option maxRecDepth 20000 in
theorem ggX8_vesselAt_X8_isIn : GoodIn wsX8_vesselAt wsX8_isIn := goodIn_r _ [10] (by decide +kernel) (by decide +kernel)
set_option maxRecDepth 20000 in
theorem gX8_vesselAt_X8_isIn : GoodIn wsX8_vesselAt (va_wsS RX8 85 yX8_isIn wsX8_isIn) := goodIn_app (goodIn_of _ (by decide +kernel)) ggX8_vesselAt_X8_isIn
set_option maxRecDepth 20000 in
theorem ggX8_vesselAt_X8_tankAt : GoodIn wsX8_vesselAt wsX8_tankAt := goodIn_r _ [6, 7, 8, 9, 5, 10, 11, 12, 13, 14, 15, 16, 17, 18, 19, 20, 21, 22, 23, 24, 25] (by decide +kernel) (by decide +kernel)
set_option maxRecDepth 20000 in
theorem gX8_vesselAt_X8_tankAt : GoodIn wsX8_vesselAt (wsV RX8 139 RX8 yX8_tankAt wsX8_tankAt) := goodIn_app (goodIn_of _ (by decide +kernel)) ggX8_vesselAt_X8_tankAt
set_option maxRecDepth 20000 in
theorem ggX8_holds_X8_vesselAt : GoodIn wsX8_holds wsX8_vesselAt := goodIn_r _ [9, 10, 11, 12, 13, 8, 14, 15, 16, 17, 18, 30, 31, 32, 33, 34, 35, 36, 37, 38, 39, 40, 41, 42, 43, 44] (by decide +kernel) (by decide +kernel)
set_option maxRecDepth 20000 in
theorem gX8_holds_X8_vesselAt : GoodIn wsX8_holds (wsV RX8 173 RX8 yX8_vesselAt wsX8_vesselAt) := goodIn_app (goodIn_of _ (by decide +kernel)) ggX8_holds_X8_vesselAt
set_option maxRecDepth 20000 in
theorem ggX8_holds_X7_lotsInIt : GoodIn wsX8_holds wsX7_lotsInIt := goodIn_r _ [23, 24, 25, 26, 27, 28, 29] (by decide +kernel) (by decide +kernel)
set_option maxRecDepth 20000 in
theorem gX8_holds_X7_lotsInIt : GoodIn wsX8_holds (wsV RX8 177 RX7 yX7_lotsInIt wsX7_lotsInIt) := goodIn_app (goodIn_of _ (by decide +kernel)) ggX8_holds_X7_lotsInIt
set_option maxRecDepth 20000 in
theorem ggX8_part_X8_vesselAt : GoodIn wsX8_part wsX8_vesselAt := goodIn_r _ [5, 6, 7, 8, 9, 4, 10, 11, 12, 13, 14, 26, 27, 28, 29, 30, 31, 32, 33, 34, 35, 36, 37, 38, 39, 40] (by decide +kernel) (by decide +kernel)
set_option maxRecDepth 20000 in
theorem gX8_part_X8_vesselAt : GoodIn wsX8_part (wsV RX8 173 RX8 yX8_vesselAt wsX8_vesselAt) := goodIn_app (goodIn_of _ (by decide +kernel)) ggX8_part_X8_vesselAt
set_option maxRecDepth 20000 in
theorem ggX8_part_X8_lotAt : GoodIn wsX8_part wsX8_lotAt := goodIn_r _ [18, 19, 12, 13, 4, 14, 26, 27, 28, 29, 30, 31, 32, 33, 34, 35, 36, 37, 38, 39, 40] (by decide +kernel) (by decide +kernel)
set_option maxRecDepth 20000 in
theorem gX8_part_X8_lotAt : GoodIn wsX8_part (wsV RX8 96 RX8 yX8_lotAt wsX8_lotAt) := goodIn_app (goodIn_of _ (by decide +kernel)) ggX8_part_X8_lotAt
set_option maxRecDepth 20000 in
theorem ggX8_isPollenLow_X8_isIn : GoodIn wsX8_isPollenLow wsX8_isIn := goodIn_r _ [4] (by decide +kernel) (by decide +kernel)
set_option maxRecDepth 20000 in
theorem gX8_isPollenLow_X8_isIn : GoodIn wsX8_isPollenLow (va_wsS RX8 85 yX8_isIn wsX8_isIn) := goodIn_app (goodIn_of _ (by decide +kernel)) ggX8_isPollenLow_X8_isIn
set_option maxRecDepth 20000 in
theorem ggX8_isPollenHigh_X8_isIn : GoodIn wsX8_isPollenHigh wsX8_isIn := goodIn_r _ [4] (by decide +kernel) (by decide +kernel)
set_option maxRecDepth 20000 in
theorem gX8_isPollenHigh_X8_isIn : GoodIn wsX8_isPollenHigh (va_wsS RX8 85 yX8_isIn wsX8_isIn) := goodIn_app (goodIn_of _ (by decide +kernel)) ggX8_isPollenHigh_X8_isIn
set_option maxRecDepth 20000 in
theorem ggX8_isMeasure_X8_isIn : GoodIn wsX8_isMeasure wsX8_isIn := goodIn_r _ [4] (by decide +kernel) (by decide +kernel)
set_option maxRecDepth 20000 in
theorem gX8_isMeasure_X8_isIn : GoodIn wsX8_isMeasure (va_wsS RX8 85 yX8_isIn wsX8_isIn) := goodIn_app (goodIn_of _ (by decide +kernel)) ggX8_isMeasure_X8_isIn
set_option maxRecDepth 20000 in
theorem ggX8_isMeasure_X8_isPollenLow : GoodIn wsX8_isMeasure wsX8_isPollenLow := goodIn_r _ [7, 1, 2, 3, 4] (by decide +kernel) (by decide +kernel)
set_option maxRecDepth 20000 in
theorem gX8_isMeasure_X8_isPollenLow : GoodIn wsX8_isMeasure (va_wsS RX8 279 yX8_isPollenLow wsX8_isPollenLow) := goodIn_app (goodIn_of _ (by decide +kernel)) ggX8_isMeasure_X8_isPollenLow
set_option maxRecDepth 20000 in
theorem ggX8_isMeasure_X8_isPollenHigh : GoodIn wsX8_isMeasure wsX8_isPollenHigh := goodIn_r _ [10, 1, 2, 3, 4] (by decide +kernel) (by decide +kernel)
set_option maxRecDepth 20000 in
theorem gX8_isMeasure_X8_isPollenHigh : GoodIn wsX8_isMeasure (va_wsS RX8 282 yX8_isPollenHigh wsX8_isPollenHigh) := goodIn_app (goodIn_of _ (by decide +kernel)) ggX8_isMeasure_X8_isPollenHigh
set_option maxRecDepth 20000 in
theorem ggX8_measure_X8_vesselAt : GoodIn wsX8_measure wsX8_vesselAt := goodIn_r _ [5, 6, 7, 8, 9, 4, 10, 11, 12, 13, 14, 53, 54, 55, 56, 57, 58, 59, 60, 61, 62, 63, 64, 65, 66, 67] (by decide +kernel) (by decide +kernel)
set_option maxRecDepth 20000 in
theorem gX8_measure_X8_vesselAt : GoodIn wsX8_measure (wsV RX8 173 RX8 yX8_vesselAt wsX8_vesselAt) := goodIn_app (goodIn_of _ (by decide +kernel)) ggX8_measure_X8_vesselAt
set_option maxRecDepth 20000 in
theorem ggX8_measure_X8_isMeasure : GoodIn wsX8_measure wsX8_isMeasure := goodIn_r _ [17, 12, 13, 4, 14, 18, 19, 20, 21, 22, 23] (by decide +kernel) (by decide +kernel)
set_option maxRecDepth 20000 in
theorem gX8_measure_X8_isMeasure : GoodIn wsX8_measure (va_wsS RX8 185 yX8_isMeasure wsX8_isMeasure) := goodIn_app (goodIn_of _ (by decide +kernel)) ggX8_measure_X8_isMeasure
set_option maxRecDepth 20000 in
theorem ggX8_measure_X8_told : GoodIn wsX8_measure wsX8_told := goodIn_r _ [27, 28, 29, 30, 31, 32, 33, 4, 34, 35, 36, 37, 38, 39, 40, 41, 42, 43, 44, 45, 46, 47, 48, 49, 50, 51, 52, 19, 20, 12, 13, 14, 22, 23, 68, 69, 70, 71, 72, 53, 54, 55, 56, 57, 58, 59, 60, 61, 62, 63, 64, 65, 66, 67, 73, 74, 75, 76, 77, 78, 79, 80, 81, 82] (by decide +kernel) (by decide +kernel)
set_option maxRecDepth 20000 in
theorem gX8_measure_X8_told : GoodIn wsX8_measure (wsV RX8 188 RX8 yX8_told wsX8_told) := goodIn_app (goodIn_of _ (by decide +kernel)) ggX8_measure_X8_told
set_option maxRecDepth 20000 in
theorem ggX8_shut_X8_ruleAt : GoodIn wsX8_shut wsX8_ruleAt := goodIn_r _ [8, 9, 10, 11, 7, 12, 18, 19, 20, 21, 22, 23, 24, 25, 26, 27, 28, 29, 30, 31, 32] (by decide +kernel) (by decide +kernel)
set_option maxRecDepth 20000 in
theorem gX8_shut_X8_ruleAt : GoodIn wsX8_shut (wsV RX8 219 RX8 yX8_ruleAt wsX8_ruleAt) := goodIn_app (goodIn_of _ (by decide +kernel)) ggX8_shut_X8_ruleAt
set_option maxRecDepth 20000 in
theorem ggX8_says_X8_ruleAt : GoodIn wsX8_says wsX8_ruleAt := goodIn_r _ [6, 7, 8, 9, 5, 10, 71, 72, 73, 74, 75, 76, 77, 78, 79, 80, 81, 82, 83, 84, 85] (by decide +kernel) (by decide +kernel)
set_option maxRecDepth 20000 in
theorem gX8_says_X8_ruleAt : GoodIn wsX8_says (wsV RX8 219 RX8 yX8_ruleAt wsX8_ruleAt) := goodIn_app (goodIn_of _ (by decide +kernel)) ggX8_says_X8_ruleAt
set_option maxRecDepth 20000 in
theorem ggX8_says_X8_vesselAt : GoodIn wsX8_says wsX8_vesselAt := goodIn_r _ [14, 15, 16, 17, 18, 5, 19, 20, 8, 9, 10, 71, 72, 73, 74, 75, 76, 77, 78, 79, 80, 81, 82, 83, 84, 85] (by decide +kernel) (by decide +kernel)
set_option maxRecDepth 20000 in
theorem gX8_says_X8_vesselAt : GoodIn wsX8_says (wsV RX8 173 RX8 yX8_vesselAt wsX8_vesselAt) := goodIn_app (goodIn_of _ (by decide +kernel)) ggX8_says_X8_vesselAt
set_option maxRecDepth 20000 in
theorem ggX8_name_X8_vesselAt : GoodIn wsX8_name wsX8_vesselAt := goodIn_r _ [7, 8, 9, 10, 11, 6, 12, 13, 14, 15, 16, 75, 76, 77, 78, 79, 80, 81, 82, 83, 84, 85, 86, 87, 88, 89] (by decide +kernel) (by decide +kernel)
set_option maxRecDepth 20000 in
theorem gX8_name_X8_vesselAt : GoodIn wsX8_name (wsV RX8 173 RX8 yX8_vesselAt wsX8_vesselAt) := goodIn_app (goodIn_of _ (by decide +kernel)) ggX8_name_X8_vesselAt
set_option maxRecDepth 20000 in
theorem ggX8_parts_X8_tankAt : GoodIn wsX8_parts wsX8_tankAt := goodIn_r _ [8, 9, 10, 11, 7, 12, 13, 14, 15, 16, 17, 18, 19, 20, 21, 22, 23, 24, 25, 26, 27] (by decide +kernel) (by decide +kernel)
set_option maxRecDepth 20000 in
theorem gX8_parts_X8_tankAt : GoodIn wsX8_parts (wsV RX8 139 RX8 yX8_tankAt wsX8_tankAt) := goodIn_app (goodIn_of _ (by decide +kernel)) ggX8_parts_X8_tankAt
set_option maxRecDepth 20000 in
theorem ggX8_found_X8_isIn : GoodIn wsX8_found wsX8_isIn := goodIn_r _ [6] (by decide +kernel) (by decide +kernel)
set_option maxRecDepth 20000 in
theorem gX8_found_X8_isIn : GoodIn wsX8_found (va_wsS RX8 85 yX8_isIn wsX8_isIn) := goodIn_app (goodIn_of _ (by decide +kernel)) ggX8_found_X8_isIn
theorem i_m1 {n : Int32} (a : ¬ n < 0) : -1 < n := by
  rw [i_lt] at a
  rw [i_lt]
  have h0 : (0 : Int32).toInt = 0 := by decide
  have h1 : (-1 : Int32).toInt = -1 := by decide
  rw [h0] at a; rw [h1]
  omega
set_option maxHeartbeats 4000000 in
set_option maxRecDepth 100000 in
/-- lotsInIt of an empty vessel -/
theorem s_X7_lotsInIt (l : Launch) (D : va_G) (ws : va_W) (tys : List (ClassId × FieldType)) (v kv gr kg : Nat) (ci : ClassId) (ti : Nat) {vs : List Value} (ev : ws[kv]? = some (v, .inr (7, .ref gr :: vs))) (eg : ws[kg]? = some (gr, .inl (ci, 40, .inl (fun _ => 0)))) (ut : tys[ti]? = some (ci, .int)) : Met l yX7_lotsInIt wsX7_lotsInIt ({ frames := 0, cells := 0, slots := 0, locals := 0 }) (va_Pc [.ref v] (fun U => va_P D vwCl ws U.heap ∧ va_K D vwCl tys U)) (vp_Si (fun r => r = 0)) 0 0 (fun _ => False) := by
  refine Met.ofW (cc := cX7_lotsInIt) (maxL := 3) (ret := (some .int)) (by decide) rfl ?_
  intro p e s m args below meth c s₁ B hml hv
  obtain ⟨rfl, hP, hK⟩ := hv
  have hx := B.exec
  have hb := B.bytes
  have hr := B.returns
  have hts := atoms_spec (ws := wsX7_lotsInIt) B.pre
  have hown : s.vm.findClass RX7 = some m.cls := findClass_of_methodNamed B.named
  have hlocks := B.notSynchronized
  have hin7 : ∀ w ∈ u_ws RX7 TX7 5, w ∈ wsX7_lotsInIt := (fun _ h9 => List.mem_cons_of_mem _ ((List.mem_append_right _ h9)))
  have hl := lv_entry ([.ref v]) (n := 3) (Nat.le_of_ble_eq_true rfl)
  rw [lg_entry_eq]
  generalize (lg_sl ([.ref v]) ++ List.replicate (3 - (lg_sl ([.ref v])).length) Slot.unset).toArray = ls at hl ⊢
  have hl : lv_has ls 3 [(0, .ref v)] := hl
  refine lv_iconst (v := 0) hx hb dX7_lotsInIt_0 (by decide) ?_
  refine lv_istore_n (lv' := [(1, .int 0), (0, .ref v)]) hx hb dX7_lotsInIt_1 rfl hl (by decide) rfl (fun ls hl => ?_)
  refine lv_iconst (v := 0) hx hb dX7_lotsInIt_2 (by decide) ?_
  refine lv_istore_n (lv' := [(2, .int 0), (1, .int 0), (0, .ref v)]) hx hb dX7_lotsInIt_3 rfl hl (by decide) rfl (fun ls hl => ?_)
  suffices hh : ∀ (n i : Nat), i ≤ 40 → 41 ≤ i + n → ∀ ls : Array Slot, lv_has ls 3 [(2, .int (nI i)), (1, .int 0), (0, .ref v)] → W p l e (headSpec wsX7_lotsInIt { frames := 0, cells := 0, slots := 0, locals := 0 }).room s m #[Value.ref v] below meth c s.heap [] 0 0 (MQ below (vp_Si (fun r => r = 0)) #[Value.ref v] s 0 0 (fun _ => False)) (F0 m 4 ls []) from hh 41 0 (by omega) (by omega) ls hl
  clear hl
  clear ls
  intro n
  induction n with
  | zero => intro i h1 h2; exact absurd h2 (by omega)
  | succ n ih =>
    intro i hi hn ls hl
    refine lv_iload_n hx hb dX7_lotsInIt_4 rfl (lv_at hl 0 rfl) ?_
    refine lv_aload_n hx hb dX7_lotsInIt_5 rfl (lv_at hl 2 rfl) ?_
    refine va_get (D := D) (ci := 7) (v := .ref gr) (C := RX7) (T := TX7) (N := 5) hx hb hts hin7 hown hK hP kv ev rfl 0 (by decide) (hts (.fieldLink RX7 9 "HoneyHouse$Vessel" "grams" "[I") (List.mem_of_getElem? (i := 1) rfl)) (fun _ h9 => h9) rfl dX7_lotsInIt_6 ?_
    refine va_alen (v := 40) hx hb hK hP kg ti eg ut rfl dX7_lotsInIt_9 ?_
    refine lv_icmp_ge (tgt := 31) hx hb dX7_lotsInIt_10 (by decide) (fun c_1 => ?_) (fun c_1 => ?_)
    · refine lv_iload_n hx hb dX7_lotsInIt_31 rfl (lv_at hl 1 rfl) ?_
      exact W.iret (v := 0) hx hb hr (fun t ht hW => ⟨0, rfl, rfl, ht⟩) (fun _ h9 => by cases h9) dX7_lotsInIt_32
    have hlt : i < 40 := by
      rcases Nat.lt_or_ge i 40 with q9 | q9
      · exact q9
      · exact absurd (show (40 : Int32) ≤ nI i from nI_le q9 (by omega)) c_1
    refine lv_aload_n hx hb dX7_lotsInIt_13 rfl (lv_at hl 2 rfl) ?_
    refine va_get (D := D) (ci := 7) (v := .ref gr) (C := RX7) (T := TX7) (N := 5) hx hb hts hin7 hown hK hP kv ev rfl 0 (by decide) (hts (.fieldLink RX7 9 "HoneyHouse$Vessel" "grams" "[I") (List.mem_of_getElem? (i := 1) rfl)) (fun _ h9 => h9) rfl dX7_lotsInIt_14 ?_
    refine lv_iload_n hx hb dX7_lotsInIt_17 rfl (lv_at hl 0 rfl) ?_
    refine va_iald (f := fun _ => 0) (n := 40) hx hb hK hP kg ti eg ut (vp_in_nI hlt (by omega)) dX7_lotsInIt_18 ?_
    refine tp_i (y := 0) (rfl) ?_
    refine lv_if_le (tgt := 25) hx hb dX7_lotsInIt_19 (by decide) (fun c_2 => ?_) (fun c_2 => absurd (by decide) c_2)
    refine lv_iinc (v := nI (i + 1)) (lv' := [(2, .int (nI (i + 1))), (1, .int 0), (0, .ref v)]) hx hb dX7_lotsInIt_25 hl (k := 0) rfl (nI_1 i) (by decide) rfl (fun ls hl => ?_)
    refine lv_goto (tgt := 4) hx hb dX7_lotsInIt_28 (by decide) ?_
    exact ih (i + 1) (by omega) (by omega) ls (lv_sub hl [0, 1, 2] rfl)
set_option maxHeartbeats 4000000 in
set_option maxRecDepth 100000 in
theorem s_X8_pollen (l : Launch) (D : va_G) (ws : va_W) (tys : List (ClassId × FieldType)) (h0 : Nat) (X : XF ws tys h0) (a1 a2 a3 a4 : Int32) : Met l yX8_pollen wsX8_pollen ({ frames := 2, cells := 0, slots := 0, locals := 43 }) (va_Pc [.ref h0, .int a1, .int a2, .int a3, .int a4] (fun U => va_P D vwCl ws U.heap ∧ va_K D vwCl tys U)) (vp_Si (fun r => r = 0)) 0 0 (fun _ => False) := by
  refine Met.ofW (cc := cX8_pollen) (maxL := 6) (ret := (some .boolean)) (by decide) rfl ?_
  intro p e s m args below meth c s₁ B hml hv
  obtain ⟨rfl, hP, hK⟩ := hv
  have hx := B.exec
  have hb := B.bytes
  have hr := B.returns
  have hts := atoms_spec (ws := wsX8_pollen) B.pre
  have hown : s.vm.findClass RX8 = some m.cls := findClass_of_methodNamed B.named
  have hlocks := B.notSynchronized
  have hl := lv_entry ([.ref h0, .int a1, .int a2, .int a3, .int a4]) (n := 6) (Nat.le_of_ble_eq_true rfl)
  rw [lg_entry_eq]
  generalize (lg_sl ([.ref h0, .int a1, .int a2, .int a3, .int a4]) ++ List.replicate (6 - (lg_sl ([.ref h0, .int a1, .int a2, .int a3, .int a4])).length) Slot.unset).toArray = ls at hl ⊢
  have hl : lv_has ls 6 [(0, .ref h0), (1, .int a1), (2, .int a2), (3, .int a3), (4, .int a4)] := hl
  have X0 := X
  obtain ⟨k0, la, ta, ba, ra, sn, rd, dr, bl, vd, fb, k1, k2, k3, k4, k5, k6, c1, c2, c3, c4, t1, t2, t3, t4, g, bs, rs, e0, e1, u1, e2, u2, e3, u3, e4, u4, e5, fb1, e6, fr3, fr4, hT⟩ := X
  refine lv_aload_n hx hb dX8_pollen_0 rfl (lv_at hl 0 rfl) ?_
  refine lv_iload_n hx hb dX8_pollen_1 rfl (lv_at hl 1 rfl) ?_
  refine va_csq (W.runV (As := [.int a1]) (rest := []) ⟨hx, hb, hml, hown, hts⟩ (s_X8_lotAt l D ws tys h0 k0 _ la k1 c1 (fun _ => none) t1 a1 e0 rfl e1 u1) (cwV 1 hts gX8_pollen_X8_lotAt rfl rfl rfl (by decide +kernel) ⟨Nat.le_of_ble_eq_true rfl, Nat.le_of_ble_eq_true rfl⟩) ⟨fun a U g mk q => ⟨q.1, q.2.1, va_K.moved (u := U) (U := U.calling g mk a) (Vm.Alike.refl U.vm) q.2.2⟩, va_recv hK hP (ci := 8) (q0 := k0) rfl e0, fun U hU hW => ⟨rfl, by rw [hU]; exact hP, va_K.moved hW.alike hK⟩⟩ rfl rfl hl.1 rfl (lv_room (Nat.le_of_ble_eq_true rfl)) dX8_pollen_2 ⟨Nat.le_of_ble_eq_true rfl, Nat.le_of_ble_eq_true rfl⟩) (fun r_1 k_2 => ?_)
  obtain rfl : r_1 = none := by rcases k_2 with ⟨z_3, -⟩ | ⟨-, -, z_3⟩ <;> exact z_3
  refine tp_v (y := .null) rfl ?_
  refine lv_astoreN (lv' := [(5, .null), (0, .ref h0), (1, .int a1), (2, .int a2), (3, .int a3), (4, .int a4)]) hx hb dX8_pollen_5 hl (by decide) rfl (fun ls hl => ?_)
  refine lv_aloadN hx hb dX8_pollen_7 (lv_at hl 0 rfl) ?_
  refine lv_ifnullN (tgt := 21) hx hb dX8_pollen_9 (by decide) ?_
  refine lv_iconst (v := 0) hx hb dX8_pollen_21 (by decide) ?_
  exact W.zret (v := 0) hx hb hr rfl (fun t ht hW => ⟨0, rfl, rfl, ht⟩) (fun _ h9 => by cases h9) dX8_pollen_22
set_option maxHeartbeats 4000000 in
set_option maxRecDepth 100000 in
theorem s_X8_test (l : Launch) (D : va_G) (ws : va_W) (tys : List (ClassId × FieldType)) (h0 : Nat) (X : XF ws tys h0) (a1 a2 : Int32) : Met l yX8_test wsX8_test ({ frames := 2, cells := 0, slots := 0, locals := 43 }) (va_Pc [.ref h0, .int a1, .int a2] (fun U => va_P D vwCl ws U.heap ∧ va_K D vwCl tys U)) (vp_Si (fun r => r = (-1000000000))) 0 0 (fun _ => False) := by
  refine Met.ofW (cc := cX8_test) (maxL := 5) (ret := (some .int)) (by decide) rfl ?_
  intro p e s m args below meth c s₁ B hml hv
  obtain ⟨rfl, hP, hK⟩ := hv
  have hx := B.exec
  have hb := B.bytes
  have hr := B.returns
  have hts := atoms_spec (ws := wsX8_test) B.pre
  have hown : s.vm.findClass RX8 = some m.cls := findClass_of_methodNamed B.named
  have hlocks := B.notSynchronized
  have hl := lv_entry ([.ref h0, .int a1, .int a2]) (n := 5) (Nat.le_of_ble_eq_true rfl)
  rw [lg_entry_eq]
  generalize (lg_sl ([.ref h0, .int a1, .int a2]) ++ List.replicate (5 - (lg_sl ([.ref h0, .int a1, .int a2])).length) Slot.unset).toArray = ls at hl ⊢
  have hl : lv_has ls 5 [(0, .ref h0), (1, .int a1), (2, .int a2)] := hl
  have X0 := X
  obtain ⟨k0, la, ta, ba, ra, sn, rd, dr, bl, vd, fb, k1, k2, k3, k4, k5, k6, c1, c2, c3, c4, t1, t2, t3, t4, g, bs, rs, e0, e1, u1, e2, u2, e3, u3, e4, u4, e5, fb1, e6, fr3, fr4, hT⟩ := X
  refine lv_aload_n hx hb dX8_test_0 rfl (lv_at hl 0 rfl) ?_
  refine lv_iload_n hx hb dX8_test_1 rfl (lv_at hl 1 rfl) ?_
  refine va_csq (W.runV (As := [.int a1]) (rest := []) ⟨hx, hb, hml, hown, hts⟩ (s_X8_lotAt l D ws tys h0 k0 _ la k1 c1 (fun _ => none) t1 a1 e0 rfl e1 u1) (cwV 1 hts gX8_test_X8_lotAt rfl rfl rfl (by decide +kernel) ⟨Nat.le_of_ble_eq_true rfl, Nat.le_of_ble_eq_true rfl⟩) ⟨fun a U g mk q => ⟨q.1, q.2.1, va_K.moved (u := U) (U := U.calling g mk a) (Vm.Alike.refl U.vm) q.2.2⟩, va_recv hK hP (ci := 8) (q0 := k0) rfl e0, fun U hU hW => ⟨rfl, by rw [hU]; exact hP, va_K.moved hW.alike hK⟩⟩ rfl rfl hl.1 rfl (lv_room (Nat.le_of_ble_eq_true rfl)) dX8_test_2 ⟨Nat.le_of_ble_eq_true rfl, Nat.le_of_ble_eq_true rfl⟩) (fun r_1 k_2 => ?_)
  obtain rfl : r_1 = none := by rcases k_2 with ⟨z_3, -⟩ | ⟨-, -, z_3⟩ <;> exact z_3
  refine tp_v (y := .null) rfl ?_
  refine lv_astore_nN (lv' := [(3, .null), (0, .ref h0), (1, .int a1), (2, .int a2)]) hx hb dX8_test_5 rfl hl (by decide) rfl (fun ls hl => ?_)
  refine lv_aload_nN hx hb dX8_test_6 rfl (lv_at hl 0 rfl) ?_
  refine lv_ifnullN (tgt := 22) hx hb dX8_test_7 (by decide) ?_
  refine lv_ldc hx hb hown (hts (.constant RX8 110 (-1000000000)) (List.mem_of_getElem? (i := 1) rfl)) dX8_test_22 ?_
  exact W.iret (v := (-1000000000)) hx hb hr (fun t ht hW => ⟨(-1000000000), rfl, rfl, ht⟩) (fun _ h9 => by cases h9) dX8_test_24
set_option maxHeartbeats 4000000 in
set_option maxRecDepth 100000 in
theorem s_X8_of (l : Launch) (D : va_G) (ws : va_W) (tys : List (ClassId × FieldType)) (h0 : Nat) (X : XF ws tys h0) (a1 a2 : Int32) : Met l yX8_of wsX8_of ({ frames := 2, cells := 0, slots := 0, locals := 43 }) (va_Pc [.ref h0, .int a1, .int a2] (fun U => va_P D vwCl ws U.heap ∧ va_K D vwCl tys U)) (vp_Si (fun r => r = (-1))) 0 0 (fun _ => False) := by
  refine Met.ofW (cc := cX8_of) (maxL := 4) (ret := (some .int)) (by decide) rfl ?_
  intro p e s m args below meth c s₁ B hml hv
  obtain ⟨rfl, hP, hK⟩ := hv
  have hx := B.exec
  have hb := B.bytes
  have hr := B.returns
  have hts := atoms_spec (ws := wsX8_of) B.pre
  have hown : s.vm.findClass RX8 = some m.cls := findClass_of_methodNamed B.named
  have hlocks := B.notSynchronized
  have hl := lv_entry ([.ref h0, .int a1, .int a2]) (n := 4) (Nat.le_of_ble_eq_true rfl)
  rw [lg_entry_eq]
  generalize (lg_sl ([.ref h0, .int a1, .int a2]) ++ List.replicate (4 - (lg_sl ([.ref h0, .int a1, .int a2])).length) Slot.unset).toArray = ls at hl ⊢
  have hl : lv_has ls 4 [(0, .ref h0), (1, .int a1), (2, .int a2)] := hl
  have X0 := X
  obtain ⟨k0, la, ta, ba, ra, sn, rd, dr, bl, vd, fb, k1, k2, k3, k4, k5, k6, c1, c2, c3, c4, t1, t2, t3, t4, g, bs, rs, e0, e1, u1, e2, u2, e3, u3, e4, u4, e5, fb1, e6, fr3, fr4, hT⟩ := X
  refine lv_aload_n hx hb dX8_of_0 rfl (lv_at hl 0 rfl) ?_
  refine lv_iload_n hx hb dX8_of_1 rfl (lv_at hl 1 rfl) ?_
  refine va_csq (W.runV (As := [.int a1]) (rest := []) ⟨hx, hb, hml, hown, hts⟩ (s_X8_lotAt l D ws tys h0 k0 _ la k1 c1 (fun _ => none) t1 a1 e0 rfl e1 u1) (cwV 1 hts gX8_of_X8_lotAt rfl rfl rfl (by decide +kernel) ⟨Nat.le_of_ble_eq_true rfl, Nat.le_of_ble_eq_true rfl⟩) ⟨fun a U g mk q => ⟨q.1, q.2.1, va_K.moved (u := U) (U := U.calling g mk a) (Vm.Alike.refl U.vm) q.2.2⟩, va_recv hK hP (ci := 8) (q0 := k0) rfl e0, fun U hU hW => ⟨rfl, by rw [hU]; exact hP, va_K.moved hW.alike hK⟩⟩ rfl rfl hl.1 rfl (lv_room (Nat.le_of_ble_eq_true rfl)) dX8_of_2 ⟨Nat.le_of_ble_eq_true rfl, Nat.le_of_ble_eq_true rfl⟩) (fun r_1 k_2 => ?_)
  obtain rfl : r_1 = none := by rcases k_2 with ⟨z_3, -⟩ | ⟨-, -, z_3⟩ <;> exact z_3
  refine tp_v (y := .null) rfl ?_
  refine lv_astore_nN (lv' := [(3, .null), (0, .ref h0), (1, .int a1), (2, .int a2)]) hx hb dX8_of_5 rfl hl (by decide) rfl (fun ls hl => ?_)
  refine lv_aload_nN hx hb dX8_of_6 rfl (lv_at hl 0 rfl) ?_
  refine lv_ifnonnullN hx hb dX8_of_7 ?_
  refine lv_iconst (v := (-1)) hx hb dX8_of_10 (by decide) ?_
  exact W.iret (v := (-1)) hx hb hr (fun t ht hW => ⟨(-1), rfl, rfl, ht⟩) (fun _ h9 => by cases h9) dX8_of_11
set_option maxHeartbeats 4000000 in
set_option maxRecDepth 100000 in
theorem s_X8_span (l : Launch) (D : va_G) (ws : va_W) (tys : List (ClassId × FieldType)) (h0 : Nat) (X : XF ws tys h0) (a1 a2 a3 : Int32) : Met l yX8_span wsX8_span ({ frames := 2, cells := 0, slots := 0, locals := 43 }) (va_Pc [.ref h0, .int a1, .int a2, .int a3] (fun U => va_P D vwCl ws U.heap ∧ va_K D vwCl tys U)) (vp_Si (fun r => r = (-1))) 0 0 (fun _ => False) := by
  refine Met.ofW (cc := cX8_span) (maxL := 5) (ret := (some .int)) (by decide) rfl ?_
  intro p e s m args below meth c s₁ B hml hv
  obtain ⟨rfl, hP, hK⟩ := hv
  have hx := B.exec
  have hb := B.bytes
  have hr := B.returns
  have hts := atoms_spec (ws := wsX8_span) B.pre
  have hown : s.vm.findClass RX8 = some m.cls := findClass_of_methodNamed B.named
  have hlocks := B.notSynchronized
  have hl := lv_entry ([.ref h0, .int a1, .int a2, .int a3]) (n := 5) (Nat.le_of_ble_eq_true rfl)
  rw [lg_entry_eq]
  generalize (lg_sl ([.ref h0, .int a1, .int a2, .int a3]) ++ List.replicate (5 - (lg_sl ([.ref h0, .int a1, .int a2, .int a3])).length) Slot.unset).toArray = ls at hl ⊢
  have hl : lv_has ls 5 [(0, .ref h0), (1, .int a1), (2, .int a2), (3, .int a3)] := hl
  have X0 := X
  obtain ⟨k0, la, ta, ba, ra, sn, rd, dr, bl, vd, fb, k1, k2, k3, k4, k5, k6, c1, c2, c3, c4, t1, t2, t3, t4, g, bs, rs, e0, e1, u1, e2, u2, e3, u3, e4, u4, e5, fb1, e6, fr3, fr4, hT⟩ := X
  refine lv_aload_n hx hb dX8_span_0 rfl (lv_at hl 0 rfl) ?_
  refine lv_iload_n hx hb dX8_span_1 rfl (lv_at hl 1 rfl) ?_
  refine va_csq (W.runV (As := [.int a1]) (rest := []) ⟨hx, hb, hml, hown, hts⟩ (s_X8_lotAt l D ws tys h0 k0 _ la k1 c1 (fun _ => none) t1 a1 e0 rfl e1 u1) (cwV 1 hts gX8_span_X8_lotAt rfl rfl rfl (by decide +kernel) ⟨Nat.le_of_ble_eq_true rfl, Nat.le_of_ble_eq_true rfl⟩) ⟨fun a U g mk q => ⟨q.1, q.2.1, va_K.moved (u := U) (U := U.calling g mk a) (Vm.Alike.refl U.vm) q.2.2⟩, va_recv hK hP (ci := 8) (q0 := k0) rfl e0, fun U hU hW => ⟨rfl, by rw [hU]; exact hP, va_K.moved hW.alike hK⟩⟩ rfl rfl hl.1 rfl (lv_room (Nat.le_of_ble_eq_true rfl)) dX8_span_2 ⟨Nat.le_of_ble_eq_true rfl, Nat.le_of_ble_eq_true rfl⟩) (fun r_1 k_2 => ?_)
  obtain rfl : r_1 = none := by rcases k_2 with ⟨z_3, -⟩ | ⟨-, -, z_3⟩ <;> exact z_3
  refine tp_v (y := .null) rfl ?_
  refine lv_astoreN (lv' := [(4, .null), (0, .ref h0), (1, .int a1), (2, .int a2), (3, .int a3)]) hx hb dX8_span_5 hl (by decide) rfl (fun ls hl => ?_)
  refine lv_aloadN hx hb dX8_span_7 (lv_at hl 0 rfl) ?_
  refine lv_ifnullN (tgt := 30) hx hb dX8_span_9 (by decide) ?_
  refine lv_iconst (v := (-1)) hx hb dX8_span_30 (by decide) ?_
  exact W.iret (v := (-1)) hx hb hr (fun t ht hW => ⟨(-1), rfl, rfl, ht⟩) (fun _ h9 => by cases h9) dX8_span_31
set_option maxHeartbeats 4000000 in
set_option maxRecDepth 100000 in
theorem s_X8_trace (l : Launch) (D : va_G) (ws : va_W) (tys : List (ClassId × FieldType)) (h0 : Nat) (X : XF ws tys h0) (a1 : Int32) : Met l yX8_trace wsX8_trace ({ frames := 2, cells := 0, slots := 0, locals := 43 }) (va_Pc [.ref h0, .int a1] (fun U => va_P D vwCl ws U.heap ∧ va_K D vwCl tys U)) (vp_Si (fun r => r = (-1))) 0 0 (fun _ => False) := by
  refine Met.ofW (cc := cX8_trace) (maxL := 4) (ret := (some .int)) (by decide) rfl ?_
  intro p e s m args below meth c s₁ B hml hv
  obtain ⟨rfl, hP, hK⟩ := hv
  have hx := B.exec
  have hb := B.bytes
  have hr := B.returns
  have hts := atoms_spec (ws := wsX8_trace) B.pre
  have hown : s.vm.findClass RX8 = some m.cls := findClass_of_methodNamed B.named
  have hlocks := B.notSynchronized
  have hl := lv_entry ([.ref h0, .int a1]) (n := 4) (Nat.le_of_ble_eq_true rfl)
  rw [lg_entry_eq]
  generalize (lg_sl ([.ref h0, .int a1]) ++ List.replicate (4 - (lg_sl ([.ref h0, .int a1])).length) Slot.unset).toArray = ls at hl ⊢
  have hl : lv_has ls 4 [(0, .ref h0), (1, .int a1)] := hl
  have X0 := X
  obtain ⟨k0, la, ta, ba, ra, sn, rd, dr, bl, vd, fb, k1, k2, k3, k4, k5, k6, c1, c2, c3, c4, t1, t2, t3, t4, g, bs, rs, e0, e1, u1, e2, u2, e3, u3, e4, u4, e5, fb1, e6, fr3, fr4, hT⟩ := X
  refine lv_aload_n hx hb dX8_trace_0 rfl (lv_at hl 0 rfl) ?_
  refine lv_iload_n hx hb dX8_trace_1 rfl (lv_at hl 1 rfl) ?_
  refine va_csq (W.runV (As := [.int a1]) (rest := []) ⟨hx, hb, hml, hown, hts⟩ (s_X8_lotAt l D ws tys h0 k0 _ la k1 c1 (fun _ => none) t1 a1 e0 rfl e1 u1) (cwV 1 hts gX8_trace_X8_lotAt rfl rfl rfl (by decide +kernel) ⟨Nat.le_of_ble_eq_true rfl, Nat.le_of_ble_eq_true rfl⟩) ⟨fun a U g mk q => ⟨q.1, q.2.1, va_K.moved (u := U) (U := U.calling g mk a) (Vm.Alike.refl U.vm) q.2.2⟩, va_recv hK hP (ci := 8) (q0 := k0) rfl e0, fun U hU hW => ⟨rfl, by rw [hU]; exact hP, va_K.moved hW.alike hK⟩⟩ rfl rfl hl.1 rfl (lv_room (Nat.le_of_ble_eq_true rfl)) dX8_trace_2 ⟨Nat.le_of_ble_eq_true rfl, Nat.le_of_ble_eq_true rfl⟩) (fun r_1 k_2 => ?_)
  obtain rfl : r_1 = none := by rcases k_2 with ⟨z_3, -⟩ | ⟨-, -, z_3⟩ <;> exact z_3
  refine tp_v (y := .null) rfl ?_
  refine lv_ifnonnullN hx hb dX8_trace_5 ?_
  refine lv_iconst (v := (-1)) hx hb dX8_trace_8 (by decide) ?_
  exact W.iret (v := (-1)) hx hb hr (fun t ht hW => ⟨(-1), rfl, rfl, ht⟩) (fun _ h9 => by cases h9) dX8_trace_9
set_option maxHeartbeats 4000000 in
set_option maxRecDepth 100000 in
theorem s_X8_pour (l : Launch) (D : va_G) (ws : va_W) (tys : List (ClassId × FieldType)) (h0 : Nat) (X : XF ws tys h0) (a1 a2 a3 : Int32) : Met l yX8_pour wsX8_pour ({ frames := 2, cells := 0, slots := 0, locals := 43 }) (va_Pc [.ref h0, .int a1, .int a2, .int a3] (fun U => va_P D vwCl ws U.heap ∧ va_K D vwCl tys U)) (vp_Si (fun r => r = (-1))) 0 0 (fun _ => False) := by
  refine Met.ofW (cc := cX8_pour) (maxL := 6) (ret := (some .int)) (by decide) rfl ?_
  intro p e s m args below meth c s₁ B hml hv
  obtain ⟨rfl, hP, hK⟩ := hv
  have hx := B.exec
  have hb := B.bytes
  have hr := B.returns
  have hts := atoms_spec (ws := wsX8_pour) B.pre
  have hown : s.vm.findClass RX8 = some m.cls := findClass_of_methodNamed B.named
  have hlocks := B.notSynchronized
  have hl := lv_entry ([.ref h0, .int a1, .int a2, .int a3]) (n := 6) (Nat.le_of_ble_eq_true rfl)
  rw [lg_entry_eq]
  generalize (lg_sl ([.ref h0, .int a1, .int a2, .int a3]) ++ List.replicate (6 - (lg_sl ([.ref h0, .int a1, .int a2, .int a3])).length) Slot.unset).toArray = ls at hl ⊢
  have hl : lv_has ls 6 [(0, .ref h0), (1, .int a1), (2, .int a2), (3, .int a3)] := hl
  have X0 := X
  obtain ⟨k0, la, ta, ba, ra, sn, rd, dr, bl, vd, fb, k1, k2, k3, k4, k5, k6, c1, c2, c3, c4, t1, t2, t3, t4, g, bs, rs, e0, e1, u1, e2, u2, e3, u3, e4, u4, e5, fb1, e6, fr3, fr4, hT⟩ := X
  refine lv_aload_n hx hb dX8_pour_0 rfl (lv_at hl 0 rfl) ?_
  refine lv_iload_n hx hb dX8_pour_1 rfl (lv_at hl 1 rfl) ?_
  refine va_csq (W.runV (As := [.int a1]) (rest := []) ⟨hx, hb, hml, hown, hts⟩ (s_X8_lotAt l D ws tys h0 k0 _ la k1 c1 (fun _ => none) t1 a1 e0 rfl e1 u1) (cwV 1 hts gX8_pour_X8_lotAt rfl rfl rfl (by decide +kernel) ⟨Nat.le_of_ble_eq_true rfl, Nat.le_of_ble_eq_true rfl⟩) ⟨fun a U g mk q => ⟨q.1, q.2.1, va_K.moved (u := U) (U := U.calling g mk a) (Vm.Alike.refl U.vm) q.2.2⟩, va_recv hK hP (ci := 8) (q0 := k0) rfl e0, fun U hU hW => ⟨rfl, by rw [hU]; exact hP, va_K.moved hW.alike hK⟩⟩ rfl rfl hl.1 rfl (lv_room (Nat.le_of_ble_eq_true rfl)) dX8_pour_2 ⟨Nat.le_of_ble_eq_true rfl, Nat.le_of_ble_eq_true rfl⟩) (fun r_1 k_2 => ?_)
  obtain rfl : r_1 = none := by rcases k_2 with ⟨z_3, -⟩ | ⟨-, -, z_3⟩ <;> exact z_3
  refine tp_v (y := .null) rfl ?_
  refine lv_astoreN (lv' := [(4, .null), (0, .ref h0), (1, .int a1), (2, .int a2), (3, .int a3)]) hx hb dX8_pour_5 hl (by decide) rfl (fun ls hl => ?_)
  refine lv_aload_n hx hb dX8_pour_7 rfl (lv_at hl 1 rfl) ?_
  refine lv_iload_n hx hb dX8_pour_8 rfl (lv_at hl 3 rfl) ?_
  refine va_csq (W.runV (As := [.int a2]) (rest := []) ⟨hx, hb, hml, hown, hts⟩ (s_X8_tankAt l D ws tys h0 k0 _ ta k2 c2 g t2 a2 e0 rfl e2 u2) (cwV 1 hts gX8_pour_X8_tankAt rfl rfl rfl (by decide +kernel) ⟨Nat.le_of_ble_eq_true rfl, Nat.le_of_ble_eq_true rfl⟩) ⟨fun a U g mk q => ⟨q.1, q.2.1, va_K.moved (u := U) (U := U.calling g mk a) (Vm.Alike.refl U.vm) q.2.2⟩, va_recv hK hP (ci := 8) (q0 := k0) rfl e0, fun U hU hW => ⟨rfl, by rw [hU]; exact hP, va_K.moved hW.alike hK⟩⟩ rfl rfl hl.1 rfl (lv_room (Nat.le_of_ble_eq_true rfl)) dX8_pour_9 ⟨Nat.le_of_ble_eq_true rfl, Nat.le_of_ble_eq_true rfl⟩) (fun r_4 k_5 => ?_)
  rcases k_5 with ⟨rfl, a_6o⟩ | ⟨a_6, b_7, k_5⟩
  · refine tp_v (y := .null) rfl ?_
    refine lv_astoreN (lv' := [(5, .null), (4, .null), (0, .ref h0), (1, .int a1), (2, .int a2), (3, .int a3)]) hx hb dX8_pour_12 hl (by decide) rfl (fun ls hl => ?_)
    refine lv_aloadN hx hb dX8_pour_14 (lv_at hl 1 rfl) ?_
    refine lv_ifnullN (tgt := 24) hx hb dX8_pour_16 (by decide) ?_
    refine lv_iconst (v := (-1)) hx hb dX8_pour_24 (by decide) ?_
    exact W.iret (v := (-1)) hx hb hr (fun t ht hW => ⟨(-1), rfl, (by rcases a_6o with a_6o | a_6o <;> simp_all), ht⟩) (fun _ h9 => by cases h9) dX8_pour_25
  obtain ⟨v_8, kv_9, gr_10, kg_11, ci_12, ti_13, gv_14, ev_15, eg_16, ut_17⟩ := hT a2.toNatClampNeg (i_cl a_6 b_7 (by decide) (by decide))
  rw [gv_14] at k_5
  subst k_5
  refine tp_v (y := .ref v_8) rfl ?_
  refine lv_astore (lv' := [(5, .ref v_8), (4, .null), (0, .ref h0), (1, .int a1), (2, .int a2), (3, .int a3)]) hx hb dX8_pour_12 hl (by decide) rfl (fun ls hl => ?_)
  refine lv_aloadN hx hb dX8_pour_14 (lv_at hl 1 rfl) ?_
  refine lv_ifnullN (tgt := 24) hx hb dX8_pour_16 (by decide) ?_
  refine lv_iconst (v := (-1)) hx hb dX8_pour_24 (by decide) ?_
  exact W.iret (v := (-1)) hx hb hr (fun t ht hW => ⟨(-1), rfl, (by first | rfl | (simp_all; done) | simp [a_6, b_7]), ht⟩) (fun _ h9 => by cases h9) dX8_pour_25
set_option maxHeartbeats 4000000 in
set_option maxRecDepth 100000 in
theorem s_X8_move (l : Launch) (D : va_G) (ws : va_W) (tys : List (ClassId × FieldType)) (h0 : Nat) (X : XF ws tys h0) (a1 a2 a3 : Int32) : Met l yX8_move wsX8_move ({ frames := 2, cells := 0, slots := 0, locals := 43 }) (va_Pc [.ref h0, .int a1, .int a2, .int a3] (fun U => va_P D vwCl ws U.heap ∧ va_K D vwCl tys U)) (vp_Si (fun r => r = if (a1 < 0 ∨ 9 < a1) ∨ (a2 < 0 ∨ 9 < a2) ∨ a1 = a2 then (-1) else (-2))) 0 0 (fun _ => False) := by
  refine Met.ofW (cc := cX8_move) (maxL := 7) (ret := (some .int)) (by decide) rfl ?_
  intro p e s m args below meth c s₁ B hml hv
  obtain ⟨rfl, hP, hK⟩ := hv
  have hx := B.exec
  have hb := B.bytes
  have hr := B.returns
  have hts := atoms_spec (ws := wsX8_move) B.pre
  have hown : s.vm.findClass RX8 = some m.cls := findClass_of_methodNamed B.named
  have hlocks := B.notSynchronized
  have hin7 : ∀ w ∈ u_ws RX7 TX7 5, w ∈ wsX8_move := (fun _ h9 => List.mem_cons_of_mem _ (List.mem_append_left _ (List.mem_append_left _ ((List.mem_append_right _ h9)))))
  have hl := lv_entry ([.ref h0, .int a1, .int a2, .int a3]) (n := 7) (Nat.le_of_ble_eq_true rfl)
  rw [lg_entry_eq]
  generalize (lg_sl ([.ref h0, .int a1, .int a2, .int a3]) ++ List.replicate (7 - (lg_sl ([.ref h0, .int a1, .int a2, .int a3])).length) Slot.unset).toArray = ls at hl ⊢
  have hl : lv_has ls 7 [(0, .ref h0), (1, .int a1), (2, .int a2), (3, .int a3)] := hl
  have X0 := X
  obtain ⟨k0, la, ta, ba, ra, sn, rd, dr, bl, vd, fb, k1, k2, k3, k4, k5, k6, c1, c2, c3, c4, t1, t2, t3, t4, g, bs, rs, e0, e1, u1, e2, u2, e3, u3, e4, u4, e5, fb1, e6, fr3, fr4, hT⟩ := X
  refine lv_aload_n hx hb dX8_move_0 rfl (lv_at hl 0 rfl) ?_
  refine lv_iload_n hx hb dX8_move_1 rfl (lv_at hl 1 rfl) ?_
  refine va_csq (W.runV (As := [.int a1]) (rest := []) ⟨hx, hb, hml, hown, hts⟩ (s_X8_tankAt l D ws tys h0 k0 _ ta k2 c2 g t2 a1 e0 rfl e2 u2) (cwV 1 hts gX8_move_X8_tankAt rfl rfl rfl (by decide +kernel) ⟨Nat.le_of_ble_eq_true rfl, Nat.le_of_ble_eq_true rfl⟩) ⟨fun a U g mk q => ⟨q.1, q.2.1, va_K.moved (u := U) (U := U.calling g mk a) (Vm.Alike.refl U.vm) q.2.2⟩, va_recv hK hP (ci := 8) (q0 := k0) rfl e0, fun U hU hW => ⟨rfl, by rw [hU]; exact hP, va_K.moved hW.alike hK⟩⟩ rfl rfl hl.1 rfl (lv_room (Nat.le_of_ble_eq_true rfl)) dX8_move_2 ⟨Nat.le_of_ble_eq_true rfl, Nat.le_of_ble_eq_true rfl⟩) (fun r_1 k_2 => ?_)
  rcases k_2 with ⟨rfl, a_3o⟩ | ⟨a_3, b_4, k_2⟩
  · refine tp_v (y := .null) rfl ?_
    refine lv_astoreN (lv' := [(4, .null), (0, .ref h0), (1, .int a1), (2, .int a2), (3, .int a3)]) hx hb dX8_move_5 hl (by decide) rfl (fun ls hl => ?_)
    refine lv_aload_n hx hb dX8_move_7 rfl (lv_at hl 1 rfl) ?_
    refine lv_iload_n hx hb dX8_move_8 rfl (lv_at hl 3 rfl) ?_
    refine va_csq (W.runV (As := [.int a2]) (rest := []) ⟨hx, hb, hml, hown, hts⟩ (s_X8_tankAt l D ws tys h0 k0 _ ta k2 c2 g t2 a2 e0 rfl e2 u2) (cwV 1 hts gX8_move_X8_tankAt rfl rfl rfl (by decide +kernel) ⟨Nat.le_of_ble_eq_true rfl, Nat.le_of_ble_eq_true rfl⟩) ⟨fun a U g mk q => ⟨q.1, q.2.1, va_K.moved (u := U) (U := U.calling g mk a) (Vm.Alike.refl U.vm) q.2.2⟩, va_recv hK hP (ci := 8) (q0 := k0) rfl e0, fun U hU hW => ⟨rfl, by rw [hU]; exact hP, va_K.moved hW.alike hK⟩⟩ rfl rfl hl.1 rfl (lv_room (Nat.le_of_ble_eq_true rfl)) dX8_move_9 ⟨Nat.le_of_ble_eq_true rfl, Nat.le_of_ble_eq_true rfl⟩) (fun r_15 k_16 => ?_)
    rcases k_16 with ⟨rfl, a_17o⟩ | ⟨a_17, b_18, k_16⟩
    · refine tp_v (y := .null) rfl ?_
      refine lv_astoreN (lv' := [(5, .null), (4, .null), (0, .ref h0), (1, .int a1), (2, .int a2), (3, .int a3)]) hx hb dX8_move_12 hl (by decide) rfl (fun ls hl => ?_)
      refine lv_aloadN hx hb dX8_move_14 (lv_at hl 1 rfl) ?_
      refine lv_ifnullN (tgt := 29) hx hb dX8_move_16 (by decide) ?_
      refine lv_iconst (v := (-1)) hx hb dX8_move_29 (by decide) ?_
      exact W.iret (v := (-1)) hx hb hr (fun t ht hW => ⟨(-1), rfl, (by rcases a_3o with a_3o | a_3o <;> rcases a_17o with a_17o | a_17o <;> simp_all), ht⟩) (fun _ h9 => by cases h9) dX8_move_30
    obtain ⟨v_19, kv_20, gr_21, kg_22, ci_23, ti_24, gv_25, ev_26, eg_27, ut_28⟩ := hT a2.toNatClampNeg (i_cl a_17 b_18 (by decide) (by decide))
    rw [gv_25] at k_16
    subst k_16
    refine tp_v (y := .ref v_19) rfl ?_
    refine lv_astore (lv' := [(5, .ref v_19), (4, .null), (0, .ref h0), (1, .int a1), (2, .int a2), (3, .int a3)]) hx hb dX8_move_12 hl (by decide) rfl (fun ls hl => ?_)
    refine lv_aloadN hx hb dX8_move_14 (lv_at hl 1 rfl) ?_
    refine lv_ifnullN (tgt := 29) hx hb dX8_move_16 (by decide) ?_
    refine lv_iconst (v := (-1)) hx hb dX8_move_29 (by decide) ?_
    exact W.iret (v := (-1)) hx hb hr (fun t ht hW => ⟨(-1), rfl, (by rcases a_3o with a_3o | a_3o <;> simp_all), ht⟩) (fun _ h9 => by cases h9) dX8_move_30
  obtain ⟨v_5, kv_6, gr_7, kg_8, ci_9, ti_10, gv_11, ev_12, eg_13, ut_14⟩ := hT a1.toNatClampNeg (i_cl a_3 b_4 (by decide) (by decide))
  rw [gv_11] at k_2
  subst k_2
  refine tp_v (y := .ref v_5) rfl ?_
  refine lv_astore (lv' := [(4, .ref v_5), (0, .ref h0), (1, .int a1), (2, .int a2), (3, .int a3)]) hx hb dX8_move_5 hl (by decide) rfl (fun ls hl => ?_)
  refine lv_aload_n hx hb dX8_move_7 rfl (lv_at hl 1 rfl) ?_
  refine lv_iload_n hx hb dX8_move_8 rfl (lv_at hl 3 rfl) ?_
  refine va_csq (W.runV (As := [.int a2]) (rest := []) ⟨hx, hb, hml, hown, hts⟩ (s_X8_tankAt l D ws tys h0 k0 _ ta k2 c2 g t2 a2 e0 rfl e2 u2) (cwV 1 hts gX8_move_X8_tankAt rfl rfl rfl (by decide +kernel) ⟨Nat.le_of_ble_eq_true rfl, Nat.le_of_ble_eq_true rfl⟩) ⟨fun a U g mk q => ⟨q.1, q.2.1, va_K.moved (u := U) (U := U.calling g mk a) (Vm.Alike.refl U.vm) q.2.2⟩, va_recv hK hP (ci := 8) (q0 := k0) rfl e0, fun U hU hW => ⟨rfl, by rw [hU]; exact hP, va_K.moved hW.alike hK⟩⟩ rfl rfl hl.1 rfl (lv_room (Nat.le_of_ble_eq_true rfl)) dX8_move_9 ⟨Nat.le_of_ble_eq_true rfl, Nat.le_of_ble_eq_true rfl⟩) (fun r_29 k_30 => ?_)
  rcases k_30 with ⟨rfl, a_31o⟩ | ⟨a_31, b_32, k_30⟩
  · refine tp_v (y := .null) rfl ?_
    refine lv_astoreN (lv' := [(5, .null), (4, .ref v_5), (0, .ref h0), (1, .int a1), (2, .int a2), (3, .int a3)]) hx hb dX8_move_12 hl (by decide) rfl (fun ls hl => ?_)
    refine lv_aload hx hb dX8_move_14 (lv_at hl 1 rfl) ?_
    refine lv_ifnull hx hb dX8_move_16 ?_
    refine lv_aloadN hx hb dX8_move_19 (lv_at hl 0 rfl) ?_
    refine lv_ifnullN (tgt := 29) hx hb dX8_move_21 (by decide) ?_
    refine lv_iconst (v := (-1)) hx hb dX8_move_29 (by decide) ?_
    exact W.iret (v := (-1)) hx hb hr (fun t ht hW => ⟨(-1), rfl, (by rcases a_31o with a_31o | a_31o <;> simp_all), ht⟩) (fun _ h9 => by cases h9) dX8_move_30
  obtain ⟨v_33, kv_34, gr_35, kg_36, ci_37, ti_38, gv_39, ev_40, eg_41, ut_42⟩ := hT a2.toNatClampNeg (i_cl a_31 b_32 (by decide) (by decide))
  rw [gv_39] at k_30
  subst k_30
  refine tp_v (y := .ref v_33) rfl ?_
  refine lv_astore (lv' := [(5, .ref v_33), (4, .ref v_5), (0, .ref h0), (1, .int a1), (2, .int a2), (3, .int a3)]) hx hb dX8_move_12 hl (by decide) rfl (fun ls hl => ?_)
  refine lv_aload hx hb dX8_move_14 (lv_at hl 1 rfl) ?_
  refine lv_ifnull hx hb dX8_move_16 ?_
  refine lv_aload hx hb dX8_move_19 (lv_at hl 0 rfl) ?_
  refine lv_ifnull hx hb dX8_move_21 ?_
  refine lv_iload_n hx hb dX8_move_24 rfl (lv_at hl 3 rfl) ?_
  refine lv_iload_n hx hb dX8_move_25 rfl (lv_at hl 4 rfl) ?_
  refine lv_icmp_ne (tgt := 31) hx hb dX8_move_26 (by decide) (fun c_43 => ?_) (fun c_43 => ?_)
  · refine lv_iload_n hx hb dX8_move_31 rfl (lv_at hl 5 rfl) ?_
    refine lv_iconst (v := 1) hx hb dX8_move_32 (by decide) ?_
    refine lv_aload hx hb dX8_move_33 (lv_at hl 1 rfl) ?_
    refine va_get (D := D) (ci := 7) (v := .int 0) (C := RX7) (T := TX7) (N := 5) hx hb hts hin7 hown hK hP kv_6 ev_12 rfl 1 (by decide) (hts (.fieldLink RX8 144 "HoneyHouse$Vessel" "total" "I") (List.mem_of_getElem? (i := 1) rfl)) (fun _ h9 => h9) rfl dX8_move_35 ?_
    refine vp_callSi (W.runS (As := [.int a3, .int 1, .int 0]) (rest := []) ⟨hx, hb, hml, hown, hts⟩ (s_X8_isIn l a3 1 0) (va_cwS 3 hts gX8_move_X8_isIn rfl rfl rfl (by decide +kernel) ⟨Nat.le_of_ble_eq_true rfl, Nat.le_of_ble_eq_true rfl⟩) ⟨fun a U g mk q => q, fun U hU hW => ⟨rfl, trivial⟩⟩ rfl rfl hl.1 rfl (lv_room (Nat.le_of_ble_eq_true rfl)) dX8_move_38 ⟨Nat.le_of_ble_eq_true rfl, Nat.le_of_ble_eq_true rfl⟩) (fun r_44 k_45 => ?_)
    rcases (or_comm.mp k_45) with ⟨rfl, a_46, b_47⟩ | ⟨rfl, -⟩
    · exact (i_10 a_46 b_47).elim
    refine lv_if_eq (tgt := 53) hx hb dX8_move_41 (by decide) (fun c_48 => ?_) (fun c_48 => absurd (by decide) c_48)
    refine lv_bipush (v := (-2)) hx hb dX8_move_53 (by decide) ?_
    exact W.iret (v := (-2)) hx hb hr (fun t ht hW => ⟨(-2), rfl, (by first | rfl | (simp_all; done) | simp [a_3, b_4, a_31, b_32, c_43, c_48]), ht⟩) (fun _ h9 => by cases h9) dX8_move_55
  refine lv_iconst (v := (-1)) hx hb dX8_move_29 (by decide) ?_
  exact W.iret (v := (-1)) hx hb hr (fun t ht hW => ⟨(-1), rfl, (by first | rfl | (simp_all; done) | simp [a_3, b_4, a_31, b_32, c_43]), ht⟩) (fun _ h9 => by cases h9) dX8_move_30
set_option maxHeartbeats 4000000 in
set_option maxRecDepth 100000 in
theorem s_X8_warm (l : Launch) (D : va_G) (ws : va_W) (tys : List (ClassId × FieldType)) (h0 : Nat) (X : XF ws tys h0) (a1 a2 : Int32) : Met l yX8_warm wsX8_warm ({ frames := 2, cells := 0, slots := 0, locals := 43 }) (va_Pc [.ref h0, .int a1, .int a2] (fun U => va_P D vwCl ws U.heap ∧ va_K D vwCl tys U)) (vp_Si (fun r => r = (-1))) 0 0 (fun _ => False) := by
  refine Met.ofW (cc := cX8_warm) (maxL := 4) (ret := (some .int)) (by decide) rfl ?_
  intro p e s m args below meth c s₁ B hml hv
  obtain ⟨rfl, hP, hK⟩ := hv
  have hx := B.exec
  have hb := B.bytes
  have hr := B.returns
  have hts := atoms_spec (ws := wsX8_warm) B.pre
  have hown : s.vm.findClass RX8 = some m.cls := findClass_of_methodNamed B.named
  have hlocks := B.notSynchronized
  have hin7 : ∀ w ∈ u_ws RX7 TX7 5, w ∈ wsX8_warm := (fun _ h9 => List.mem_cons_of_mem _ (List.mem_append_left _ ((List.mem_append_right _ h9))))
  have hl := lv_entry ([.ref h0, .int a1, .int a2]) (n := 4) (Nat.le_of_ble_eq_true rfl)
  rw [lg_entry_eq]
  generalize (lg_sl ([.ref h0, .int a1, .int a2]) ++ List.replicate (4 - (lg_sl ([.ref h0, .int a1, .int a2])).length) Slot.unset).toArray = ls at hl ⊢
  have hl : lv_has ls 4 [(0, .ref h0), (1, .int a1), (2, .int a2)] := hl
  have X0 := X
  obtain ⟨k0, la, ta, ba, ra, sn, rd, dr, bl, vd, fb, k1, k2, k3, k4, k5, k6, c1, c2, c3, c4, t1, t2, t3, t4, g, bs, rs, e0, e1, u1, e2, u2, e3, u3, e4, u4, e5, fb1, e6, fr3, fr4, hT⟩ := X
  refine lv_aload_n hx hb dX8_warm_0 rfl (lv_at hl 0 rfl) ?_
  refine lv_iload_n hx hb dX8_warm_1 rfl (lv_at hl 1 rfl) ?_
  refine va_csq (W.runV (As := [.int a1]) (rest := []) ⟨hx, hb, hml, hown, hts⟩ (s_X8_tankAt l D ws tys h0 k0 _ ta k2 c2 g t2 a1 e0 rfl e2 u2) (cwV 1 hts gX8_warm_X8_tankAt rfl rfl rfl (by decide +kernel) ⟨Nat.le_of_ble_eq_true rfl, Nat.le_of_ble_eq_true rfl⟩) ⟨fun a U g mk q => ⟨q.1, q.2.1, va_K.moved (u := U) (U := U.calling g mk a) (Vm.Alike.refl U.vm) q.2.2⟩, va_recv hK hP (ci := 8) (q0 := k0) rfl e0, fun U hU hW => ⟨rfl, by rw [hU]; exact hP, va_K.moved hW.alike hK⟩⟩ rfl rfl hl.1 rfl (lv_room (Nat.le_of_ble_eq_true rfl)) dX8_warm_2 ⟨Nat.le_of_ble_eq_true rfl, Nat.le_of_ble_eq_true rfl⟩) (fun r_1 k_2 => ?_)
  rcases k_2 with ⟨rfl, a_3o⟩ | ⟨a_3, b_4, k_2⟩
  · refine tp_v (y := .null) rfl ?_
    refine lv_astore_nN (lv' := [(3, .null), (0, .ref h0), (1, .int a1), (2, .int a2)]) hx hb dX8_warm_5 rfl hl (by decide) rfl (fun ls hl => ?_)
    refine lv_aload_nN hx hb dX8_warm_6 rfl (lv_at hl 0 rfl) ?_
    refine lv_ifnullN (tgt := 28) hx hb dX8_warm_7 (by decide) ?_
    refine lv_iconst (v := (-1)) hx hb dX8_warm_28 (by decide) ?_
    exact W.iret (v := (-1)) hx hb hr (fun t ht hW => ⟨(-1), rfl, (by rcases a_3o with a_3o | a_3o <;> simp_all), ht⟩) (fun _ h9 => by cases h9) dX8_warm_29
  obtain ⟨v_5, kv_6, gr_7, kg_8, ci_9, ti_10, gv_11, ev_12, eg_13, ut_14⟩ := hT a1.toNatClampNeg (i_cl a_3 b_4 (by decide) (by decide))
  rw [gv_11] at k_2
  subst k_2
  refine tp_v (y := .ref v_5) rfl ?_
  refine lv_astore_n (lv' := [(3, .ref v_5), (0, .ref h0), (1, .int a1), (2, .int a2)]) hx hb dX8_warm_5 rfl hl (by decide) rfl (fun ls hl => ?_)
  refine lv_aload_n hx hb dX8_warm_6 rfl (lv_at hl 0 rfl) ?_
  refine lv_ifnull hx hb dX8_warm_7 ?_
  refine lv_aload_n hx hb dX8_warm_10 rfl (lv_at hl 0 rfl) ?_
  refine va_get (D := D) (ci := 7) (v := .int 0) (C := RX7) (T := TX7) (N := 5) hx hb hts hin7 hown hK hP kv_6 ev_12 rfl 1 (by decide) (hts (.fieldLink RX8 144 "HoneyHouse$Vessel" "total" "I") (List.mem_of_getElem? (i := 1) rfl)) (fun _ h9 => h9) rfl dX8_warm_11 ?_
  refine lv_if_eq (tgt := 28) hx hb dX8_warm_14 (by decide) (fun c_15 => ?_) (fun c_15 => absurd (by decide) c_15)
  refine lv_iconst (v := (-1)) hx hb dX8_warm_28 (by decide) ?_
  exact W.iret (v := (-1)) hx hb hr (fun t ht hW => ⟨(-1), rfl, (by first | rfl | (simp_all; done) | simp [a_3, b_4, c_15]), ht⟩) (fun _ h9 => by cases h9) dX8_warm_29
set_option maxHeartbeats 4000000 in
set_option maxRecDepth 100000 in
theorem s_X8_jar (l : Launch) (D : va_G) (ws : va_W) (tys : List (ClassId × FieldType)) (h0 : Nat) (X : XF ws tys h0) (a1 a2 : Int32) : Met l yX8_jar wsX8_jar ({ frames := 2, cells := 0, slots := 0, locals := 43 }) (va_Pc [.ref h0, .int a1, .int a2] (fun U => va_P D vwCl ws U.heap ∧ va_K D vwCl tys U)) (vp_Si (fun r => r = if a1 < 0 ∨ 9 < a1 then (-1) else (-2))) 0 0 (fun _ => False) := by
  refine Met.ofW (cc := cX8_jar) (maxL := 6) (ret := (some .int)) (by decide) rfl ?_
  intro p e s m args below meth c s₁ B hml hv
  obtain ⟨rfl, hP, hK⟩ := hv
  have hx := B.exec
  have hb := B.bytes
  have hr := B.returns
  have hts := atoms_spec (ws := wsX8_jar) B.pre
  have hown : s.vm.findClass RX8 = some m.cls := findClass_of_methodNamed B.named
  have hlocks := B.notSynchronized
  have hin7 : ∀ w ∈ u_ws RX7 TX7 5, w ∈ wsX8_jar := (fun _ h9 => List.mem_cons_of_mem _ (List.mem_append_left _ (List.mem_append_left _ ((List.mem_append_right _ h9)))))
  have hl := lv_entry ([.ref h0, .int a1, .int a2]) (n := 6) (Nat.le_of_ble_eq_true rfl)
  rw [lg_entry_eq]
  generalize (lg_sl ([.ref h0, .int a1, .int a2]) ++ List.replicate (6 - (lg_sl ([.ref h0, .int a1, .int a2])).length) Slot.unset).toArray = ls at hl ⊢
  have hl : lv_has ls 6 [(0, .ref h0), (1, .int a1), (2, .int a2)] := hl
  have X0 := X
  obtain ⟨k0, la, ta, ba, ra, sn, rd, dr, bl, vd, fb, k1, k2, k3, k4, k5, k6, c1, c2, c3, c4, t1, t2, t3, t4, g, bs, rs, e0, e1, u1, e2, u2, e3, u3, e4, u4, e5, fb1, e6, fr3, fr4, hT⟩ := X
  refine lv_aload_n hx hb dX8_jar_0 rfl (lv_at hl 0 rfl) ?_
  refine lv_iload_n hx hb dX8_jar_1 rfl (lv_at hl 1 rfl) ?_
  refine va_csq (W.runV (As := [.int a1]) (rest := []) ⟨hx, hb, hml, hown, hts⟩ (s_X8_tankAt l D ws tys h0 k0 _ ta k2 c2 g t2 a1 e0 rfl e2 u2) (cwV 1 hts gX8_jar_X8_tankAt rfl rfl rfl (by decide +kernel) ⟨Nat.le_of_ble_eq_true rfl, Nat.le_of_ble_eq_true rfl⟩) ⟨fun a U g mk q => ⟨q.1, q.2.1, va_K.moved (u := U) (U := U.calling g mk a) (Vm.Alike.refl U.vm) q.2.2⟩, va_recv hK hP (ci := 8) (q0 := k0) rfl e0, fun U hU hW => ⟨rfl, by rw [hU]; exact hP, va_K.moved hW.alike hK⟩⟩ rfl rfl hl.1 rfl (lv_room (Nat.le_of_ble_eq_true rfl)) dX8_jar_2 ⟨Nat.le_of_ble_eq_true rfl, Nat.le_of_ble_eq_true rfl⟩) (fun r_1 k_2 => ?_)
  rcases k_2 with ⟨rfl, a_3o⟩ | ⟨a_3, b_4, k_2⟩
  · refine tp_v (y := .null) rfl ?_
    refine lv_astore_nN (lv' := [(3, .null), (0, .ref h0), (1, .int a1), (2, .int a2)]) hx hb dX8_jar_5 rfl hl (by decide) rfl (fun ls hl => ?_)
    refine lv_aload_nN hx hb dX8_jar_6 rfl (lv_at hl 0 rfl) ?_
    refine lv_ifnonnullN hx hb dX8_jar_7 ?_
    refine lv_iconst (v := (-1)) hx hb dX8_jar_10 (by decide) ?_
    exact W.iret (v := (-1)) hx hb hr (fun t ht hW => ⟨(-1), rfl, (by rcases a_3o with a_3o | a_3o <;> simp_all), ht⟩) (fun _ h9 => by cases h9) dX8_jar_11
  obtain ⟨v_5, kv_6, gr_7, kg_8, ci_9, ti_10, gv_11, ev_12, eg_13, ut_14⟩ := hT a1.toNatClampNeg (i_cl a_3 b_4 (by decide) (by decide))
  rw [gv_11] at k_2
  subst k_2
  refine tp_v (y := .ref v_5) rfl ?_
  refine lv_astore_n (lv' := [(3, .ref v_5), (0, .ref h0), (1, .int a1), (2, .int a2)]) hx hb dX8_jar_5 rfl hl (by decide) rfl (fun ls hl => ?_)
  refine lv_aload_n hx hb dX8_jar_6 rfl (lv_at hl 0 rfl) ?_
  refine lv_ifnonnull (tgt := 12) hx hb dX8_jar_7 (by decide) ?_
  refine lv_iload_n hx hb dX8_jar_12 rfl (lv_at hl 3 rfl) ?_
  refine lv_iconst (v := 1) hx hb dX8_jar_13 (by decide) ?_
  refine lv_aload_n hx hb dX8_jar_14 rfl (lv_at hl 0 rfl) ?_
  refine va_get (D := D) (ci := 7) (v := .int 0) (C := RX7) (T := TX7) (N := 5) hx hb hts hin7 hown hK hP kv_6 ev_12 rfl 1 (by decide) (hts (.fieldLink RX8 144 "HoneyHouse$Vessel" "total" "I") (List.mem_of_getElem? (i := 1) rfl)) (fun _ h9 => h9) rfl dX8_jar_15 ?_
  refine vp_callSi (W.runS (As := [.int a2, .int 1, .int 0]) (rest := []) ⟨hx, hb, hml, hown, hts⟩ (s_X8_isIn l a2 1 0) (va_cwS 3 hts gX8_jar_X8_isIn rfl rfl rfl (by decide +kernel) ⟨Nat.le_of_ble_eq_true rfl, Nat.le_of_ble_eq_true rfl⟩) ⟨fun a U g mk q => q, fun U hU hW => ⟨rfl, trivial⟩⟩ rfl rfl hl.1 rfl (lv_room (Nat.le_of_ble_eq_true rfl)) dX8_jar_18 ⟨Nat.le_of_ble_eq_true rfl, Nat.le_of_ble_eq_true rfl⟩) (fun r_15 k_16 => ?_)
  rcases (or_comm.mp k_16) with ⟨rfl, a_17, b_18⟩ | ⟨rfl, -⟩
  · exact (i_10 a_17 b_18).elim
  refine lv_if_ne (tgt := 27) hx hb dX8_jar_21 (by decide) (fun c_19 => absurd (by decide) c_19) (fun c_19 => ?_)
  refine lv_bipush (v := (-2)) hx hb dX8_jar_24 (by decide) ?_
  exact W.iret (v := (-2)) hx hb hr (fun t ht hW => ⟨(-2), rfl, (by first | rfl | (simp_all; done) | simp [a_3, b_4, c_19]), ht⟩) (fun _ h9 => by cases h9) dX8_jar_26
set_option maxHeartbeats 4000000 in
set_option maxRecDepth 100000 in
theorem s_X8_spill (l : Launch) (D : va_G) (ws : va_W) (tys : List (ClassId × FieldType)) (h0 : Nat) (X : XF ws tys h0) (a1 a2 : Int32) : Met l yX8_spill wsX8_spill ({ frames := 2, cells := 0, slots := 0, locals := 43 }) (va_Pc [.ref h0, .int a1, .int a2] (fun U => va_P D vwCl ws U.heap ∧ va_K D vwCl tys U)) (vp_Si (fun r => r = if a1 < 0 ∨ 9 < a1 then (-1) else (-2))) 0 0 (fun _ => False) := by
  refine Met.ofW (cc := cX8_spill) (maxL := 4) (ret := (some .int)) (by decide) rfl ?_
  intro p e s m args below meth c s₁ B hml hv
  obtain ⟨rfl, hP, hK⟩ := hv
  have hx := B.exec
  have hb := B.bytes
  have hr := B.returns
  have hts := atoms_spec (ws := wsX8_spill) B.pre
  have hown : s.vm.findClass RX8 = some m.cls := findClass_of_methodNamed B.named
  have hlocks := B.notSynchronized
  have hin7 : ∀ w ∈ u_ws RX7 TX7 5, w ∈ wsX8_spill := (fun _ h9 => List.mem_cons_of_mem _ (List.mem_append_left _ (List.mem_append_left _ ((List.mem_append_right _ h9)))))
  have hl := lv_entry ([.ref h0, .int a1, .int a2]) (n := 4) (Nat.le_of_ble_eq_true rfl)
  rw [lg_entry_eq]
  generalize (lg_sl ([.ref h0, .int a1, .int a2]) ++ List.replicate (4 - (lg_sl ([.ref h0, .int a1, .int a2])).length) Slot.unset).toArray = ls at hl ⊢
  have hl : lv_has ls 4 [(0, .ref h0), (1, .int a1), (2, .int a2)] := hl
  have X0 := X
  obtain ⟨k0, la, ta, ba, ra, sn, rd, dr, bl, vd, fb, k1, k2, k3, k4, k5, k6, c1, c2, c3, c4, t1, t2, t3, t4, g, bs, rs, e0, e1, u1, e2, u2, e3, u3, e4, u4, e5, fb1, e6, fr3, fr4, hT⟩ := X
  refine lv_aload_n hx hb dX8_spill_0 rfl (lv_at hl 0 rfl) ?_
  refine lv_iload_n hx hb dX8_spill_1 rfl (lv_at hl 1 rfl) ?_
  refine va_csq (W.runV (As := [.int a1]) (rest := []) ⟨hx, hb, hml, hown, hts⟩ (s_X8_tankAt l D ws tys h0 k0 _ ta k2 c2 g t2 a1 e0 rfl e2 u2) (cwV 1 hts gX8_spill_X8_tankAt rfl rfl rfl (by decide +kernel) ⟨Nat.le_of_ble_eq_true rfl, Nat.le_of_ble_eq_true rfl⟩) ⟨fun a U g mk q => ⟨q.1, q.2.1, va_K.moved (u := U) (U := U.calling g mk a) (Vm.Alike.refl U.vm) q.2.2⟩, va_recv hK hP (ci := 8) (q0 := k0) rfl e0, fun U hU hW => ⟨rfl, by rw [hU]; exact hP, va_K.moved hW.alike hK⟩⟩ rfl rfl hl.1 rfl (lv_room (Nat.le_of_ble_eq_true rfl)) dX8_spill_2 ⟨Nat.le_of_ble_eq_true rfl, Nat.le_of_ble_eq_true rfl⟩) (fun r_1 k_2 => ?_)
  rcases k_2 with ⟨rfl, a_3o⟩ | ⟨a_3, b_4, k_2⟩
  · refine tp_v (y := .null) rfl ?_
    refine lv_astore_nN (lv' := [(3, .null), (0, .ref h0), (1, .int a1), (2, .int a2)]) hx hb dX8_spill_5 rfl hl (by decide) rfl (fun ls hl => ?_)
    refine lv_aload_nN hx hb dX8_spill_6 rfl (lv_at hl 0 rfl) ?_
    refine lv_ifnonnullN hx hb dX8_spill_7 ?_
    refine lv_iconst (v := (-1)) hx hb dX8_spill_10 (by decide) ?_
    exact W.iret (v := (-1)) hx hb hr (fun t ht hW => ⟨(-1), rfl, (by rcases a_3o with a_3o | a_3o <;> simp_all), ht⟩) (fun _ h9 => by cases h9) dX8_spill_11
  obtain ⟨v_5, kv_6, gr_7, kg_8, ci_9, ti_10, gv_11, ev_12, eg_13, ut_14⟩ := hT a1.toNatClampNeg (i_cl a_3 b_4 (by decide) (by decide))
  rw [gv_11] at k_2
  subst k_2
  refine tp_v (y := .ref v_5) rfl ?_
  refine lv_astore_n (lv' := [(3, .ref v_5), (0, .ref h0), (1, .int a1), (2, .int a2)]) hx hb dX8_spill_5 rfl hl (by decide) rfl (fun ls hl => ?_)
  refine lv_aload_n hx hb dX8_spill_6 rfl (lv_at hl 0 rfl) ?_
  refine lv_ifnonnull (tgt := 12) hx hb dX8_spill_7 (by decide) ?_
  refine lv_iload_n hx hb dX8_spill_12 rfl (lv_at hl 3 rfl) ?_
  refine lv_iconst (v := 1) hx hb dX8_spill_13 (by decide) ?_
  refine lv_aload_n hx hb dX8_spill_14 rfl (lv_at hl 0 rfl) ?_
  refine va_get (D := D) (ci := 7) (v := .int 0) (C := RX7) (T := TX7) (N := 5) hx hb hts hin7 hown hK hP kv_6 ev_12 rfl 1 (by decide) (hts (.fieldLink RX8 144 "HoneyHouse$Vessel" "total" "I") (List.mem_of_getElem? (i := 1) rfl)) (fun _ h9 => h9) rfl dX8_spill_15 ?_
  refine vp_callSi (W.runS (As := [.int a2, .int 1, .int 0]) (rest := []) ⟨hx, hb, hml, hown, hts⟩ (s_X8_isIn l a2 1 0) (va_cwS 3 hts gX8_spill_X8_isIn rfl rfl rfl (by decide +kernel) ⟨Nat.le_of_ble_eq_true rfl, Nat.le_of_ble_eq_true rfl⟩) ⟨fun a U g mk q => q, fun U hU hW => ⟨rfl, trivial⟩⟩ rfl rfl hl.1 rfl (lv_room (Nat.le_of_ble_eq_true rfl)) dX8_spill_18 ⟨Nat.le_of_ble_eq_true rfl, Nat.le_of_ble_eq_true rfl⟩) (fun r_15 k_16 => ?_)
  rcases (or_comm.mp k_16) with ⟨rfl, a_17, b_18⟩ | ⟨rfl, -⟩
  · exact (i_10 a_17 b_18).elim
  refine lv_if_ne (tgt := 27) hx hb dX8_spill_21 (by decide) (fun c_19 => absurd (by decide) c_19) (fun c_19 => ?_)
  refine lv_bipush (v := (-2)) hx hb dX8_spill_24 (by decide) ?_
  exact W.iret (v := (-2)) hx hb hr (fun t ht hW => ⟨(-2), rfl, (by first | rfl | (simp_all; done) | simp [a_3, b_4, c_19]), ht⟩) (fun _ h9 => by cases h9) dX8_spill_26
set_option maxHeartbeats 4000000 in
set_option maxRecDepth 100000 in
theorem s_X8_vesselAt (l : Launch) (D : va_G) (ws : va_W) (tys : List (ClassId × FieldType)) (h0 k0 : Nat) (fs : List Value) (ta k2 : Nat) (c2 : ClassId) (g : Nat → Option Nat) (t2 : Nat) (ba k3 : Nat) (c3 : ClassId) (t3 : Nat) (a1 a2 : Int32) (e0 : ws[k0]? = some (h0, .inr (8, fs))) (f1 : fs[1]? = some (.ref ta)) (e2 : ws[k2]? = some (ta, .inl (c2, 10, .inr (.inr (.inr (.inr g)))))) (u2 : tys[t2]? = some (c2, .object RX7)) (f2 : fs[2]? = some (.ref ba)) (e3 : ws[k3]? = some (ba, .inl (c3, 60, .inr (.inr (.inr (.inr (fun _ => none))))))) (u3 : tys[t3]? = some (c3, .object RX7)) : Met l yX8_vesselAt wsX8_vesselAt ({ frames := 2, cells := 0, slots := 0, locals := 43 }) (va_Pc [.ref h0, .int a1, .int a2] (fun U => va_P D vwCl ws U.heap ∧ va_K D vwCl tys U)) (va_Sq (fun r => (r = none ∧ (¬ a1 = 0 ∨ a2 < 0 ∨ 9 < a2)) ∨ (a1 = 0 ∧ ¬ a2 < 0 ∧ ¬ 9 < a2 ∧ r = g a2.toNatClampNeg))) 0 0 (fun _ => False) := by
  refine Met.ofW (cc := cX8_vesselAt) (maxL := 3) (ret := (some (.object "HoneyHouse$Vessel"))) (by decide) rfl ?_
  intro p e s m args below meth c s₁ B hml hv
  obtain ⟨rfl, hP, hK⟩ := hv
  have hx := B.exec
  have hb := B.bytes
  have hr := B.returns
  have hts := atoms_spec (ws := wsX8_vesselAt) B.pre
  have hown : s.vm.findClass RX8 = some m.cls := findClass_of_methodNamed B.named
  have hlocks := B.notSynchronized
  have hin8 : ∀ w ∈ u_ws RX8 TX8 15, w ∈ wsX8_vesselAt := (fun _ h9 => List.mem_cons_of_mem _ ((List.mem_append_right _ h9)))
  have hl := lv_entry ([.ref h0, .int a1, .int a2]) (n := 3) (Nat.le_of_ble_eq_true rfl)
  rw [lg_entry_eq]
  generalize (lg_sl ([.ref h0, .int a1, .int a2]) ++ List.replicate (3 - (lg_sl ([.ref h0, .int a1, .int a2])).length) Slot.unset).toArray = ls at hl ⊢
  have hl : lv_has ls 3 [(0, .ref h0), (1, .int a1), (2, .int a2)] := hl
  refine lv_iload_n hx hb dX8_vesselAt_0 rfl (lv_at hl 1 rfl) ?_
  refine lv_if_ne (tgt := 10) hx hb dX8_vesselAt_1 (by decide) (fun c_1 => ?_) (fun c_1 => ?_)
  · refine lv_iload_n hx hb dX8_vesselAt_10 rfl (lv_at hl 1 rfl) ?_
    refine lv_iconst (v := 1) hx hb dX8_vesselAt_11 (by decide) ?_
    refine lv_icmp_ne (tgt := 39) hx hb dX8_vesselAt_12 (by decide) (fun c_2 => ?_) (fun c_2 => ?_)
    · refine lv_null hx hb dX8_vesselAt_39 ?_
      exact W.aret (v := .null) hx hb hr (Or.inl ⟨_, rfl⟩) (Or.inl rfl) (fun t ht hW => ⟨none, rfl, Or.inl ⟨rfl, Or.inl c_1⟩, ht⟩) (fun _ h9 => by cases h9) dX8_vesselAt_40
    refine lv_iload_n hx hb dX8_vesselAt_15 rfl (lv_at hl 2 rfl) ?_
    refine lv_iconst (v := 0) hx hb dX8_vesselAt_16 (by decide) ?_
    refine lv_aload_n hx hb dX8_vesselAt_17 rfl (lv_at hl 0 rfl) ?_
    refine va_get (D := D) (ci := 8) (v := .ref ba) (C := RX8) (T := TX8) (N := 15) hx hb hts hin8 hown hK hP k0 e0 rfl 2 (by decide) (hts (.fieldLink RX8 21 "HoneyHouse" "batches" "[LHoneyHouse$Vessel;") (List.mem_of_getElem? (i := 1) rfl)) (fun _ h9 => h9) f2 dX8_vesselAt_18 ?_
    refine va_alen (v := 60) hx hb hK hP k3 t3 e3 u3 rfl dX8_vesselAt_21 ?_
    refine lv_iconst (v := 1) hx hb dX8_vesselAt_22 (by decide) ?_
    refine lv_isub hx hb dX8_vesselAt_23 ?_
    refine tp_i (y := 59) (by decide) ?_
    refine vp_callSi (W.runS (As := [.int a2, .int 0, .int 59]) (rest := []) ⟨hx, hb, hml, hown, hts⟩ (s_X8_isIn l a2 0 59) (va_cwS 3 hts gX8_vesselAt_X8_isIn rfl rfl rfl (by decide +kernel) ⟨Nat.le_of_ble_eq_true rfl, Nat.le_of_ble_eq_true rfl⟩) ⟨fun a U g mk q => q, fun U hU hW => ⟨rfl, trivial⟩⟩ rfl rfl hl.1 rfl (lv_room (Nat.le_of_ble_eq_true rfl)) dX8_vesselAt_24 ⟨Nat.le_of_ble_eq_true rfl, Nat.le_of_ble_eq_true rfl⟩) (fun r_3 k_4 => ?_)
    rcases k_4 with ⟨rfl, a_5o⟩ | ⟨rfl, a_5, b_6⟩
    · refine lv_if_eq (tgt := 39) hx hb dX8_vesselAt_27 (by decide) (fun c_7 => ?_) (fun c_7 => absurd (by decide) c_7)
      refine lv_null hx hb dX8_vesselAt_39 ?_
      exact W.aret (v := .null) hx hb hr (Or.inl ⟨_, rfl⟩) (Or.inl rfl) (fun t ht hW => ⟨none, rfl, Or.inl ⟨rfl, Or.inl c_1⟩, ht⟩) (fun _ h9 => by cases h9) dX8_vesselAt_40
    refine lv_if_eq (tgt := 39) hx hb dX8_vesselAt_27 (by decide) (fun c_8 => absurd c_8 (by decide)) (fun c_8 => ?_)
    refine lv_aload_n hx hb dX8_vesselAt_30 rfl (lv_at hl 0 rfl) ?_
    refine va_get (D := D) (ci := 8) (v := .ref ba) (C := RX8) (T := TX8) (N := 15) hx hb hts hin8 hown hK hP k0 e0 rfl 2 (by decide) (hts (.fieldLink RX8 21 "HoneyHouse" "batches" "[LHoneyHouse$Vessel;") (List.mem_of_getElem? (i := 1) rfl)) (fun _ h9 => h9) f2 dX8_vesselAt_31 ?_
    refine lv_iload_n hx hb dX8_vesselAt_34 rfl (lv_at hl 2 rfl) ?_
    refine va_aldq (f := fun _ => none) (n := 60) hx hb hK hP k3 t3 e3 u3 (i_in a_5 b_6 (by decide)) dX8_vesselAt_35 ?_
    refine tp_v (y := .null) rfl ?_
    refine lv_goto (tgt := 40) hx hb dX8_vesselAt_36 (by decide) ?_
    exact W.aret (v := .null) hx hb hr (Or.inl ⟨_, rfl⟩) (Or.inl rfl) (fun t ht hW => ⟨none, rfl, Or.inl ⟨rfl, Or.inl c_1⟩, ht⟩) (fun _ h9 => by cases h9) dX8_vesselAt_40
  refine lv_aload_n hx hb dX8_vesselAt_4 rfl (lv_at hl 0 rfl) ?_
  refine lv_iload_n hx hb dX8_vesselAt_5 rfl (lv_at hl 2 rfl) ?_
  refine va_csq (W.runV (As := [.int a2]) (rest := []) ⟨hx, hb, hml, hown, hts⟩ (s_X8_tankAt l D ws tys h0 k0 _ ta k2 c2 g t2 a2 e0 f1 e2 u2) (cwV 1 hts gX8_vesselAt_X8_tankAt rfl rfl rfl (by decide +kernel) ⟨Nat.le_of_ble_eq_true rfl, Nat.le_of_ble_eq_true rfl⟩) ⟨fun a U g mk q => ⟨q.1, q.2.1, va_K.moved (u := U) (U := U.calling g mk a) (Vm.Alike.refl U.vm) q.2.2⟩, va_recv hK hP (ci := 8) (q0 := k0) rfl e0, fun U hU hW => ⟨rfl, by rw [hU]; exact hP, va_K.moved hW.alike hK⟩⟩ rfl rfl hl.1 rfl (lv_room (Nat.le_of_ble_eq_true rfl)) dX8_vesselAt_6 ⟨Nat.le_of_ble_eq_true rfl, Nat.le_of_ble_eq_true rfl⟩) (fun r_9 k_10 => ?_)
  exact W.aret (v := va_rf r_9) hx hb hr (Or.inl ⟨_, rfl⟩) (va_rf_or _) (fun t ht hW => ⟨r_9, rfl, (by rcases k_10 with ⟨q1, q2⟩ | ⟨q1, q2, q3⟩; exact Or.inl ⟨q1, Or.inr q2⟩; exact Or.inr ⟨by first | exact c_1 | exact Decidable.not_not.mp c_1, q1, q2, q3⟩), ht⟩) (fun _ h9 => by cases h9) dX8_vesselAt_9
set_option maxHeartbeats 4000000 in
set_option maxRecDepth 100000 in
theorem s_X8_holds (l : Launch) (D : va_G) (ws : va_W) (tys : List (ClassId × FieldType)) (h0 : Nat) (X : XF ws tys h0) (a1 a2 a3 : Int32) : Met l yX8_holds wsX8_holds ({ frames := 3, cells := 0, slots := 0, locals := 65 }) (va_Pc [.ref h0, .int a1, .int a2, .int a3] (fun U => va_P D vwCl ws U.heap ∧ va_K D vwCl tys U)) (vp_Si (fun r => r = if a1 = 0 ∧ ¬ a2 < 0 ∧ ¬ 9 < a2 ∧ (a3 = 0 ∨ a3 = 1 ∨ a3 = 2 ∨ a3 = 3 ∨ a3 = 4) then 0 else (-1))) 0 0 (fun _ => False) := by
  refine Met.ofW (cc := cX8_holds) (maxL := 5) (ret := (some .int)) (by decide) rfl ?_
  intro p e s m args below meth c s₁ B hml hv
  obtain ⟨rfl, hP, hK⟩ := hv
  have hx := B.exec
  have hb := B.bytes
  have hr := B.returns
  have hts := atoms_spec (ws := wsX8_holds) B.pre
  have hown : s.vm.findClass RX8 = some m.cls := findClass_of_methodNamed B.named
  have hlocks := B.notSynchronized
  have hin7 : ∀ w ∈ u_ws RX7 TX7 5, w ∈ wsX8_holds := (fun _ h9 => List.mem_cons_of_mem _ (List.mem_append_left _ ((List.mem_append_right _ h9))))
  have hl := lv_entry ([.ref h0, .int a1, .int a2, .int a3]) (n := 5) (Nat.le_of_ble_eq_true rfl)
  rw [lg_entry_eq]
  generalize (lg_sl ([.ref h0, .int a1, .int a2, .int a3]) ++ List.replicate (5 - (lg_sl ([.ref h0, .int a1, .int a2, .int a3])).length) Slot.unset).toArray = ls at hl ⊢
  have hl : lv_has ls 5 [(0, .ref h0), (1, .int a1), (2, .int a2), (3, .int a3)] := hl
  have X0 := X
  obtain ⟨k0, la, ta, ba, ra, sn, rd, dr, bl, vd, fb, k1, k2, k3, k4, k5, k6, c1, c2, c3, c4, t1, t2, t3, t4, g, bs, rs, e0, e1, u1, e2, u2, e3, u3, e4, u4, e5, fb1, e6, fr3, fr4, hT⟩ := X
  refine lv_aload_n hx hb dX8_holds_0 rfl (lv_at hl 0 rfl) ?_
  refine lv_iload_n hx hb dX8_holds_1 rfl (lv_at hl 1 rfl) ?_
  refine lv_iload_n hx hb dX8_holds_2 rfl (lv_at hl 2 rfl) ?_
  refine va_csq (W.runV (As := [.int a1, .int a2]) (rest := []) ⟨hx, hb, hml, hown, hts⟩ (s_X8_vesselAt l D ws tys h0 k0 _ ta k2 c2 g t2 ba k3 c3 t3 a1 a2 e0 rfl e2 u2 rfl e3 u3) (cwV 2 hts gX8_holds_X8_vesselAt rfl rfl rfl (by decide +kernel) ⟨Nat.le_of_ble_eq_true rfl, Nat.le_of_ble_eq_true rfl⟩) ⟨fun a U g mk q => ⟨q.1, q.2.1, va_K.moved (u := U) (U := U.calling g mk a) (Vm.Alike.refl U.vm) q.2.2⟩, va_recv hK hP (ci := 8) (q0 := k0) rfl e0, fun U hU hW => ⟨rfl, by rw [hU]; exact hP, va_K.moved hW.alike hK⟩⟩ rfl rfl hl.1 rfl (lv_room (Nat.le_of_ble_eq_true rfl)) dX8_holds_3 ⟨Nat.le_of_ble_eq_true rfl, Nat.le_of_ble_eq_true rfl⟩) (fun r_1 k_2 => ?_)
  rcases k_2 with ⟨rfl, a_3o⟩ | ⟨z_5, a_3, b_4, k_2⟩
  · refine tp_v (y := .null) rfl ?_
    refine lv_astoreN (lv' := [(4, .null), (0, .ref h0), (1, .int a1), (2, .int a2), (3, .int a3)]) hx hb dX8_holds_6 hl (by decide) rfl (fun ls hl => ?_)
    refine lv_aloadN hx hb dX8_holds_8 (lv_at hl 0 rfl) ?_
    refine lv_ifnonnullN hx hb dX8_holds_10 ?_
    refine lv_iconst (v := (-1)) hx hb dX8_holds_13 (by decide) ?_
    exact W.iret (v := (-1)) hx hb hr (fun t ht hW => ⟨(-1), rfl, (by rcases a_3o with a_3o | a_3o | a_3o <;> simp_all), ht⟩) (fun _ h9 => by cases h9) dX8_holds_14
  obtain ⟨v_6, kv_7, gr_8, kg_9, ci_10, ti_11, gv_12, ev_13, eg_14, ut_15⟩ := hT a2.toNatClampNeg (i_cl a_3 b_4 (by decide) (by decide))
  rw [gv_12] at k_2
  subst k_2
  refine tp_v (y := .ref v_6) rfl ?_
  refine lv_astore (lv' := [(4, .ref v_6), (0, .ref h0), (1, .int a1), (2, .int a2), (3, .int a3)]) hx hb dX8_holds_6 hl (by decide) rfl (fun ls hl => ?_)
  refine lv_aload hx hb dX8_holds_8 (lv_at hl 0 rfl) ?_
  refine lv_ifnonnull (tgt := 15) hx hb dX8_holds_10 (by decide) ?_
  refine lv_iload_n hx hb dX8_holds_15 rfl (lv_at hl 4 rfl) ?_
  by_cases c_16 : a3 = 0
  · refine lv_tableIn (off := 36) (tgt := 52) hx hb dX8_holds_16 (by rw [c_16]; decide) (by rw [c_16]; decide) (by rw [c_16]; rfl) (by decide) ?_
    refine lv_aload hx hb dX8_holds_52 (lv_at hl 0 rfl) ?_
    refine va_get (D := D) (ci := 7) (v := .int 0) (C := RX7) (T := TX7) (N := 5) hx hb hts hin7 hown hK hP kv_7 ev_13 rfl 1 (by decide) (hts (.fieldLink RX8 144 "HoneyHouse$Vessel" "total" "I") (List.mem_of_getElem? (i := 1) rfl)) (fun _ h9 => h9) rfl dX8_holds_54 ?_
    exact W.iret (v := 0) hx hb hr (fun t ht hW => ⟨0, rfl, (by first | rfl | (simp_all; done) | simp [z_5, a_3, b_4, c_16]), ht⟩) (fun _ h9 => by cases h9) dX8_holds_57
  by_cases c_17 : a3 = 1
  · refine lv_tableIn (off := 42) (tgt := 58) hx hb dX8_holds_16 (by rw [c_17]; decide) (by rw [c_17]; decide) (by rw [c_17]; rfl) (by decide) ?_
    refine lv_aload hx hb dX8_holds_58 (lv_at hl 0 rfl) ?_
    refine vp_callSi (W.runV (As := []) (rest := []) ⟨hx, hb, hml, hown, hts⟩ (s_X7_lotsInIt l D ws tys v_6 kv_7 gr_8 kg_9 ci_10 ti_11 ev_13 eg_14 ut_15) (cwV 0 hts gX8_holds_X7_lotsInIt rfl rfl rfl (by decide +kernel) ⟨Nat.le_of_ble_eq_true rfl, Nat.le_of_ble_eq_true rfl⟩) ⟨fun a U g mk q => ⟨q.1, q.2.1, va_K.moved (u := U) (U := U.calling g mk a) (Vm.Alike.refl U.vm) q.2.2⟩, va_recv hK hP (ci := 7) (q0 := kv_7) rfl ev_13, fun U hU hW => ⟨rfl, by rw [hU]; exact hP, va_K.moved hW.alike hK⟩⟩ rfl rfl hl.1 rfl (lv_room (Nat.le_of_ble_eq_true rfl)) dX8_holds_60 ⟨Nat.le_of_ble_eq_true rfl, Nat.le_of_ble_eq_true rfl⟩) (fun r_18 k_19 => ?_)
    subst k_19
    exact W.iret (v := 0) hx hb hr (fun t ht hW => ⟨0, rfl, (by first | rfl | (simp_all; done) | simp [z_5, a_3, b_4, c_16, c_17]), ht⟩) (fun _ h9 => by cases h9) dX8_holds_63
  by_cases c_20 : a3 = 2
  · refine lv_tableIn (off := 48) (tgt := 64) hx hb dX8_holds_16 (by rw [c_20]; decide) (by rw [c_20]; decide) (by rw [c_20]; rfl) (by decide) ?_
    refine lv_aload hx hb dX8_holds_64 (lv_at hl 0 rfl) ?_
    refine va_get (D := D) (ci := 7) (v := .int 0) (C := RX7) (T := TX7) (N := 5) hx hb hts hin7 hown hK hP kv_7 ev_13 rfl 2 (by decide) (hts (.fieldLink RX8 160 "HoneyHouse$Vessel" "heat" "I") (List.mem_of_getElem? (i := 2) rfl)) (fun _ h9 => h9) rfl dX8_holds_66 ?_
    exact W.iret (v := 0) hx hb hr (fun t ht hW => ⟨0, rfl, (by first | rfl | (simp_all; done) | simp [z_5, a_3, b_4, c_16, c_17, c_20]), ht⟩) (fun _ h9 => by cases h9) dX8_holds_69
  by_cases c_21 : a3 = 3
  · refine lv_tableIn (off := 54) (tgt := 70) hx hb dX8_holds_16 (by rw [c_21]; decide) (by rw [c_21]; decide) (by rw [c_21]; rfl) (by decide) ?_
    refine lv_aload hx hb dX8_holds_70 (lv_at hl 0 rfl) ?_
    refine va_get (D := D) (ci := 7) (v := .int 0) (C := RX7) (T := TX7) (N := 5) hx hb hts hin7 hown hK hP kv_7 ev_13 rfl 3 (by decide) (hts (.fieldLink RX8 147 "HoneyHouse$Vessel" "roomOrTank" "I") (List.mem_of_getElem? (i := 3) rfl)) (fun _ h9 => h9) rfl dX8_holds_72 ?_
    exact W.iret (v := 0) hx hb hr (fun t ht hW => ⟨0, rfl, (by first | rfl | (simp_all; done) | simp [z_5, a_3, b_4, c_16, c_17, c_20, c_21]), ht⟩) (fun _ h9 => by cases h9) dX8_holds_75
  by_cases c_22 : a3 = 4
  · refine lv_tableIn (off := 60) (tgt := 76) hx hb dX8_holds_16 (by rw [c_22]; decide) (by rw [c_22]; decide) (by rw [c_22]; rfl) (by decide) ?_
    refine lv_aload hx hb dX8_holds_76 (lv_at hl 0 rfl) ?_
    refine va_get (D := D) (ci := 7) (v := .int 0) (C := RX7) (T := TX7) (N := 5) hx hb hts hin7 hown hK hP kv_7 ev_13 rfl 4 (by decide) (hts (.fieldLink RX8 150 "HoneyHouse$Vessel" "priceOrDay" "I") (List.mem_of_getElem? (i := 4) rfl)) (fun _ h9 => h9) rfl dX8_holds_78 ?_
    exact W.iret (v := 0) hx hb hr (fun t ht hW => ⟨0, rfl, (by first | rfl | (simp_all; done) | simp [z_5, a_3, b_4, c_16, c_17, c_20, c_21, c_22]), ht⟩) (fun _ h9 => by cases h9) dX8_holds_81
  have nc_16 := lv_neT c_16 (a := 0) (by decide)
  have nc_17 := lv_neT c_17 (a := 1) (by decide)
  have nc_20 := lv_neT c_20 (a := 2) (by decide)
  have nc_21 := lv_neT c_21 (a := 3) (by decide)
  have nc_22 := lv_neT c_22 (a := 4) (by decide)
  refine lv_tableOut (tgt := 82) hx hb dX8_holds_16 (by omega) (by decide) ?_
  refine lv_iconst (v := (-1)) hx hb dX8_holds_82 (by decide) ?_
  exact W.iret (v := (-1)) hx hb hr (fun t ht hW => ⟨(-1), rfl, (by first | rfl | (simp_all; done) | simp [z_5, a_3, b_4, c_16, c_17, c_20, c_21, c_22]), ht⟩) (fun _ h9 => by cases h9) dX8_holds_83
set_option maxHeartbeats 4000000 in
set_option maxRecDepth 100000 in
theorem s_X8_part (l : Launch) (D : va_G) (ws : va_W) (tys : List (ClassId × FieldType)) (h0 : Nat) (X : XF ws tys h0) (a1 a2 a3 : Int32) : Met l yX8_part wsX8_part ({ frames := 3, cells := 0, slots := 0, locals := 65 }) (va_Pc [.ref h0, .int a1, .int a2, .int a3] (fun U => va_P D vwCl ws U.heap ∧ va_K D vwCl tys U)) (vp_Si (fun r => r = (-1))) 0 0 (fun _ => False) := by
  refine Met.ofW (cc := cX8_part) (maxL := 5) (ret := (some .int)) (by decide) rfl ?_
  intro p e s m args below meth c s₁ B hml hv
  obtain ⟨rfl, hP, hK⟩ := hv
  have hx := B.exec
  have hb := B.bytes
  have hr := B.returns
  have hts := atoms_spec (ws := wsX8_part) B.pre
  have hown : s.vm.findClass RX8 = some m.cls := findClass_of_methodNamed B.named
  have hlocks := B.notSynchronized
  have hl := lv_entry ([.ref h0, .int a1, .int a2, .int a3]) (n := 5) (Nat.le_of_ble_eq_true rfl)
  rw [lg_entry_eq]
  generalize (lg_sl ([.ref h0, .int a1, .int a2, .int a3]) ++ List.replicate (5 - (lg_sl ([.ref h0, .int a1, .int a2, .int a3])).length) Slot.unset).toArray = ls at hl ⊢
  have hl : lv_has ls 5 [(0, .ref h0), (1, .int a1), (2, .int a2), (3, .int a3)] := hl
  have X0 := X
  obtain ⟨k0, la, ta, ba, ra, sn, rd, dr, bl, vd, fb, k1, k2, k3, k4, k5, k6, c1, c2, c3, c4, t1, t2, t3, t4, g, bs, rs, e0, e1, u1, e2, u2, e3, u3, e4, u4, e5, fb1, e6, fr3, fr4, hT⟩ := X
  refine lv_aload_n hx hb dX8_part_0 rfl (lv_at hl 0 rfl) ?_
  refine lv_iload_n hx hb dX8_part_1 rfl (lv_at hl 1 rfl) ?_
  refine lv_iload_n hx hb dX8_part_2 rfl (lv_at hl 2 rfl) ?_
  refine va_csq (W.runV (As := [.int a1, .int a2]) (rest := []) ⟨hx, hb, hml, hown, hts⟩ (s_X8_vesselAt l D ws tys h0 k0 _ ta k2 c2 g t2 ba k3 c3 t3 a1 a2 e0 rfl e2 u2 rfl e3 u3) (cwV 2 hts gX8_part_X8_vesselAt rfl rfl rfl (by decide +kernel) ⟨Nat.le_of_ble_eq_true rfl, Nat.le_of_ble_eq_true rfl⟩) ⟨fun a U g mk q => ⟨q.1, q.2.1, va_K.moved (u := U) (U := U.calling g mk a) (Vm.Alike.refl U.vm) q.2.2⟩, va_recv hK hP (ci := 8) (q0 := k0) rfl e0, fun U hU hW => ⟨rfl, by rw [hU]; exact hP, va_K.moved hW.alike hK⟩⟩ rfl rfl hl.1 rfl (lv_room (Nat.le_of_ble_eq_true rfl)) dX8_part_3 ⟨Nat.le_of_ble_eq_true rfl, Nat.le_of_ble_eq_true rfl⟩) (fun r_1 k_2 => ?_)
  rcases k_2 with ⟨rfl, a_3o⟩ | ⟨z_5, a_3, b_4, k_2⟩
  · refine tp_v (y := .null) rfl ?_
    refine lv_astoreN (lv' := [(4, .null), (0, .ref h0), (1, .int a1), (2, .int a2), (3, .int a3)]) hx hb dX8_part_6 hl (by decide) rfl (fun ls hl => ?_)
    refine lv_aloadN hx hb dX8_part_8 (lv_at hl 0 rfl) ?_
    refine lv_ifnullN (tgt := 21) hx hb dX8_part_10 (by decide) ?_
    refine lv_iconst (v := (-1)) hx hb dX8_part_21 (by decide) ?_
    exact W.iret (v := (-1)) hx hb hr (fun t ht hW => ⟨(-1), rfl, (by rcases a_3o with a_3o | a_3o | a_3o <;> simp_all), ht⟩) (fun _ h9 => by cases h9) dX8_part_22
  obtain ⟨v_6, kv_7, gr_8, kg_9, ci_10, ti_11, gv_12, ev_13, eg_14, ut_15⟩ := hT a2.toNatClampNeg (i_cl a_3 b_4 (by decide) (by decide))
  rw [gv_12] at k_2
  subst k_2
  refine tp_v (y := .ref v_6) rfl ?_
  refine lv_astore (lv' := [(4, .ref v_6), (0, .ref h0), (1, .int a1), (2, .int a2), (3, .int a3)]) hx hb dX8_part_6 hl (by decide) rfl (fun ls hl => ?_)
  refine lv_aload hx hb dX8_part_8 (lv_at hl 0 rfl) ?_
  refine lv_ifnull hx hb dX8_part_10 ?_
  refine lv_aload_n hx hb dX8_part_13 rfl (lv_at hl 1 rfl) ?_
  refine lv_iload_n hx hb dX8_part_14 rfl (lv_at hl 4 rfl) ?_
  refine va_csq (W.runV (As := [.int a3]) (rest := []) ⟨hx, hb, hml, hown, hts⟩ (s_X8_lotAt l D ws tys h0 k0 _ la k1 c1 (fun _ => none) t1 a3 e0 rfl e1 u1) (cwV 1 hts gX8_part_X8_lotAt rfl rfl rfl (by decide +kernel) ⟨Nat.le_of_ble_eq_true rfl, Nat.le_of_ble_eq_true rfl⟩) ⟨fun a U g mk q => ⟨q.1, q.2.1, va_K.moved (u := U) (U := U.calling g mk a) (Vm.Alike.refl U.vm) q.2.2⟩, va_recv hK hP (ci := 8) (q0 := k0) rfl e0, fun U hU hW => ⟨rfl, by rw [hU]; exact hP, va_K.moved hW.alike hK⟩⟩ rfl rfl hl.1 rfl (lv_room (Nat.le_of_ble_eq_true rfl)) dX8_part_15 ⟨Nat.le_of_ble_eq_true rfl, Nat.le_of_ble_eq_true rfl⟩) (fun r_16 k_17 => ?_)
  obtain rfl : r_16 = none := by rcases k_17 with ⟨z_18, -⟩ | ⟨-, -, z_18⟩ <;> exact z_18
  refine tp_v (y := .null) rfl ?_
  refine lv_ifnonnullN hx hb dX8_part_18 ?_
  refine lv_iconst (v := (-1)) hx hb dX8_part_21 (by decide) ?_
  exact W.iret (v := (-1)) hx hb hr (fun t ht hW => ⟨(-1), rfl, (by first | rfl | (simp_all; done) | simp [z_5, a_3, b_4]), ht⟩) (fun _ h9 => by cases h9) dX8_part_22
set_option maxHeartbeats 4000000 in
set_option maxRecDepth 100000 in
theorem s_X8_isPollenLow (l : Launch) (a1 : Int32) : Met l yX8_isPollenLow wsX8_isPollenLow ({ frames := 1, cells := 0, slots := 0, locals := 22 }) (va_Pc [.int a1] (fun _ => True)) (vp_Si (fun r => r = 0 ∨ r = 1)) 0 0 (fun _ => False) := by
  refine Met.ofW (cc := cX8_isPollenLow) (maxL := 1) (ret := (some .boolean)) (by decide) rfl ?_
  intro p e s m args below meth c s₁ B hml hv
  obtain ⟨rfl, -⟩ := hv
  have hx := B.exec
  have hb := B.bytes
  have hr := B.returns
  have hts := atoms_spec (ws := wsX8_isPollenLow) B.pre
  have hown : s.vm.findClass RX8 = some m.cls := findClass_of_methodNamed B.named
  have hlocks := B.notSynchronized
  have hl := lv_entry ([.int a1]) (n := 1) (Nat.le_of_ble_eq_true rfl)
  rw [lg_entry_eq]
  generalize (lg_sl ([.int a1]) ++ List.replicate (1 - (lg_sl ([.int a1])).length) Slot.unset).toArray = ls at hl ⊢
  have hl : lv_has ls 1 [(0, .int a1)] := hl
  refine lv_iload_n hx hb dX8_isPollenLow_0 rfl (lv_at hl 0 rfl) ?_
  refine lv_bipush (v := 10) hx hb dX8_isPollenLow_1 (by decide) ?_
  refine lv_bipush (v := 14) hx hb dX8_isPollenLow_3 (by decide) ?_
  refine vp_callSi (W.runS (As := [.int a1, .int 10, .int 14]) (rest := []) ⟨hx, hb, hml, hown, hts⟩ (s_X8_isIn l a1 10 14) (va_cwS 3 hts gX8_isPollenLow_X8_isIn rfl rfl rfl (by decide +kernel) ⟨Nat.le_of_ble_eq_true rfl, Nat.le_of_ble_eq_true rfl⟩) ⟨fun a U g mk q => q, fun U hU hW => ⟨rfl, trivial⟩⟩ rfl rfl hl.1 rfl (lv_room (Nat.le_of_ble_eq_true rfl)) dX8_isPollenLow_5 ⟨Nat.le_of_ble_eq_true rfl, Nat.le_of_ble_eq_true rfl⟩) (fun r_1 k_2 => ?_)
  exact W.zret (v := r_1) hx hb hr (by rcases k_2 with ⟨rfl, -⟩ | ⟨rfl, -, -⟩ <;> rfl) (fun t ht hW => ⟨r_1, rfl, (by rcases k_2 with ⟨rfl, -⟩ | ⟨rfl, -, -⟩ <;> simp), ht⟩) (fun _ h9 => by cases h9) dX8_isPollenLow_8
set_option maxHeartbeats 4000000 in
set_option maxRecDepth 100000 in
theorem s_X8_isPollenHigh (l : Launch) (a1 : Int32) : Met l yX8_isPollenHigh wsX8_isPollenHigh ({ frames := 1, cells := 0, slots := 0, locals := 22 }) (va_Pc [.int a1] (fun _ => True)) (vp_Si (fun r => r = 0 ∨ r = 1)) 0 0 (fun _ => False) := by
  refine Met.ofW (cc := cX8_isPollenHigh) (maxL := 1) (ret := (some .boolean)) (by decide) rfl ?_
  intro p e s m args below meth c s₁ B hml hv
  obtain ⟨rfl, -⟩ := hv
  have hx := B.exec
  have hb := B.bytes
  have hr := B.returns
  have hts := atoms_spec (ws := wsX8_isPollenHigh) B.pre
  have hown : s.vm.findClass RX8 = some m.cls := findClass_of_methodNamed B.named
  have hlocks := B.notSynchronized
  have hl := lv_entry ([.int a1]) (n := 1) (Nat.le_of_ble_eq_true rfl)
  rw [lg_entry_eq]
  generalize (lg_sl ([.int a1]) ++ List.replicate (1 - (lg_sl ([.int a1])).length) Slot.unset).toArray = ls at hl ⊢
  have hl : lv_has ls 1 [(0, .int a1)] := hl
  refine lv_iload_n hx hb dX8_isPollenHigh_0 rfl (lv_at hl 0 rfl) ?_
  refine lv_bipush (v := 20) hx hb dX8_isPollenHigh_1 (by decide) ?_
  refine lv_bipush (v := 24) hx hb dX8_isPollenHigh_3 (by decide) ?_
  refine vp_callSi (W.runS (As := [.int a1, .int 20, .int 24]) (rest := []) ⟨hx, hb, hml, hown, hts⟩ (s_X8_isIn l a1 20 24) (va_cwS 3 hts gX8_isPollenHigh_X8_isIn rfl rfl rfl (by decide +kernel) ⟨Nat.le_of_ble_eq_true rfl, Nat.le_of_ble_eq_true rfl⟩) ⟨fun a U g mk q => q, fun U hU hW => ⟨rfl, trivial⟩⟩ rfl rfl hl.1 rfl (lv_room (Nat.le_of_ble_eq_true rfl)) dX8_isPollenHigh_5 ⟨Nat.le_of_ble_eq_true rfl, Nat.le_of_ble_eq_true rfl⟩) (fun r_1 k_2 => ?_)
  exact W.zret (v := r_1) hx hb hr (by rcases k_2 with ⟨rfl, -⟩ | ⟨rfl, -, -⟩ <;> rfl) (fun t ht hW => ⟨r_1, rfl, (by rcases k_2 with ⟨rfl, -⟩ | ⟨rfl, -, -⟩ <;> simp), ht⟩) (fun _ h9 => by cases h9) dX8_isPollenHigh_8
set_option maxHeartbeats 4000000 in
set_option maxRecDepth 100000 in
theorem s_X8_isMeasure (l : Launch) (a1 : Int32) : Met l yX8_isMeasure wsX8_isMeasure ({ frames := 2, cells := 0, slots := 0, locals := 42 }) (va_Pc [.int a1] (fun _ => True)) (vp_Si (fun r => r = 0 ∨ r = 1)) 0 0 (fun _ => False) := by
  refine Met.ofW (cc := cX8_isMeasure) (maxL := 1) (ret := (some .boolean)) (by decide) rfl ?_
  intro p e s m args below meth c s₁ B hml hv
  obtain ⟨rfl, -⟩ := hv
  have hx := B.exec
  have hb := B.bytes
  have hr := B.returns
  have hts := atoms_spec (ws := wsX8_isMeasure) B.pre
  have hown : s.vm.findClass RX8 = some m.cls := findClass_of_methodNamed B.named
  have hlocks := B.notSynchronized
  have hl := lv_entry ([.int a1]) (n := 1) (Nat.le_of_ble_eq_true rfl)
  rw [lg_entry_eq]
  generalize (lg_sl ([.int a1]) ++ List.replicate (1 - (lg_sl ([.int a1])).length) Slot.unset).toArray = ls at hl ⊢
  have hl : lv_has ls 1 [(0, .int a1)] := hl
  refine lv_iload_n hx hb dX8_isMeasure_0 rfl (lv_at hl 0 rfl) ?_
  refine lv_iconst (v := 0) hx hb dX8_isMeasure_1 (by decide) ?_
  refine lv_iconst (v := 2) hx hb dX8_isMeasure_2 (by decide) ?_
  refine vp_callSi (W.runS (As := [.int a1, .int 0, .int 2]) (rest := []) ⟨hx, hb, hml, hown, hts⟩ (s_X8_isIn l a1 0 2) (va_cwS 3 hts gX8_isMeasure_X8_isIn rfl rfl rfl (by decide +kernel) ⟨Nat.le_of_ble_eq_true rfl, Nat.le_of_ble_eq_true rfl⟩) ⟨fun a U g mk q => q, fun U hU hW => ⟨rfl, trivial⟩⟩ rfl rfl hl.1 rfl (lv_room (Nat.le_of_ble_eq_true rfl)) dX8_isMeasure_3 ⟨Nat.le_of_ble_eq_true rfl, Nat.le_of_ble_eq_true rfl⟩) (fun r_1 k_2 => ?_)
  rcases k_2 with ⟨rfl, -⟩ | ⟨rfl, -, -⟩
  · refine lv_if_ne (tgt := 34) hx hb dX8_isMeasure_6 (by decide) (fun c_3 => absurd (by decide) c_3) (fun c_3 => ?_)
    refine lv_iload_n hx hb dX8_isMeasure_9 rfl (lv_at hl 0 rfl) ?_
    refine vp_callSi (W.runS (As := [.int a1]) (rest := []) ⟨hx, hb, hml, hown, hts⟩ (s_X8_isPollenLow l a1) (va_cwS 1 hts gX8_isMeasure_X8_isPollenLow rfl rfl rfl (by decide +kernel) ⟨Nat.le_of_ble_eq_true rfl, Nat.le_of_ble_eq_true rfl⟩) ⟨fun a U g mk q => q, fun U hU hW => ⟨rfl, trivial⟩⟩ rfl rfl hl.1 rfl (lv_room (Nat.le_of_ble_eq_true rfl)) dX8_isMeasure_10 ⟨Nat.le_of_ble_eq_true rfl, Nat.le_of_ble_eq_true rfl⟩) (fun r_4 k_5 => ?_)
    rcases k_5 with rfl | rfl
    · refine lv_if_ne (tgt := 34) hx hb dX8_isMeasure_13 (by decide) (fun c_6 => absurd (by decide) c_6) (fun c_6 => ?_)
      refine lv_iload_n hx hb dX8_isMeasure_16 rfl (lv_at hl 0 rfl) ?_
      refine vp_callSi (W.runS (As := [.int a1]) (rest := []) ⟨hx, hb, hml, hown, hts⟩ (s_X8_isPollenHigh l a1) (va_cwS 1 hts gX8_isMeasure_X8_isPollenHigh rfl rfl rfl (by decide +kernel) ⟨Nat.le_of_ble_eq_true rfl, Nat.le_of_ble_eq_true rfl⟩) ⟨fun a U g mk q => q, fun U hU hW => ⟨rfl, trivial⟩⟩ rfl rfl hl.1 rfl (lv_room (Nat.le_of_ble_eq_true rfl)) dX8_isMeasure_17 ⟨Nat.le_of_ble_eq_true rfl, Nat.le_of_ble_eq_true rfl⟩) (fun r_7 k_8 => ?_)
      rcases k_8 with rfl | rfl
      · refine lv_if_ne (tgt := 34) hx hb dX8_isMeasure_20 (by decide) (fun c_9 => absurd (by decide) c_9) (fun c_9 => ?_)
        refine lv_iload_n hx hb dX8_isMeasure_23 rfl (lv_at hl 0 rfl) ?_
        refine lv_bipush (v := 30) hx hb dX8_isMeasure_24 (by decide) ?_
        refine lv_bipush (v := 33) hx hb dX8_isMeasure_26 (by decide) ?_
        refine vp_callSi (W.runS (As := [.int a1, .int 30, .int 33]) (rest := []) ⟨hx, hb, hml, hown, hts⟩ (s_X8_isIn l a1 30 33) (va_cwS 3 hts gX8_isMeasure_X8_isIn rfl rfl rfl (by decide +kernel) ⟨Nat.le_of_ble_eq_true rfl, Nat.le_of_ble_eq_true rfl⟩) ⟨fun a U g mk q => q, fun U hU hW => ⟨rfl, trivial⟩⟩ rfl rfl hl.1 rfl (lv_room (Nat.le_of_ble_eq_true rfl)) dX8_isMeasure_28 ⟨Nat.le_of_ble_eq_true rfl, Nat.le_of_ble_eq_true rfl⟩) (fun r_10 k_11 => ?_)
        rcases k_11 with ⟨rfl, -⟩ | ⟨rfl, -, -⟩
        · refine lv_if_eq (tgt := 38) hx hb dX8_isMeasure_31 (by decide) (fun c_12 => ?_) (fun c_12 => absurd (by decide) c_12)
          refine lv_iconst (v := 0) hx hb dX8_isMeasure_38 (by decide) ?_
          exact W.zret (v := 0) hx hb hr rfl (fun t ht hW => ⟨0, rfl, Or.inl rfl, ht⟩) (fun _ h9 => by cases h9) dX8_isMeasure_39
        refine lv_if_eq (tgt := 38) hx hb dX8_isMeasure_31 (by decide) (fun c_13 => absurd c_13 (by decide)) (fun c_13 => ?_)
        refine lv_iconst (v := 1) hx hb dX8_isMeasure_34 (by decide) ?_
        refine lv_goto (tgt := 39) hx hb dX8_isMeasure_35 (by decide) ?_
        exact W.zret (v := 1) hx hb hr rfl (fun t ht hW => ⟨1, rfl, Or.inr rfl, ht⟩) (fun _ h9 => by cases h9) dX8_isMeasure_39
      refine lv_if_ne (tgt := 34) hx hb dX8_isMeasure_20 (by decide) (fun c_14 => ?_) (fun c_14 => absurd c_14 (by decide))
      refine lv_iconst (v := 1) hx hb dX8_isMeasure_34 (by decide) ?_
      refine lv_goto (tgt := 39) hx hb dX8_isMeasure_35 (by decide) ?_
      exact W.zret (v := 1) hx hb hr rfl (fun t ht hW => ⟨1, rfl, Or.inr rfl, ht⟩) (fun _ h9 => by cases h9) dX8_isMeasure_39
    refine lv_if_ne (tgt := 34) hx hb dX8_isMeasure_13 (by decide) (fun c_15 => ?_) (fun c_15 => absurd c_15 (by decide))
    refine lv_iconst (v := 1) hx hb dX8_isMeasure_34 (by decide) ?_
    refine lv_goto (tgt := 39) hx hb dX8_isMeasure_35 (by decide) ?_
    exact W.zret (v := 1) hx hb hr rfl (fun t ht hW => ⟨1, rfl, Or.inr rfl, ht⟩) (fun _ h9 => by cases h9) dX8_isMeasure_39
  refine lv_if_ne (tgt := 34) hx hb dX8_isMeasure_6 (by decide) (fun c_16 => ?_) (fun c_16 => absurd c_16 (by decide))
  refine lv_iconst (v := 1) hx hb dX8_isMeasure_34 (by decide) ?_
  refine lv_goto (tgt := 39) hx hb dX8_isMeasure_35 (by decide) ?_
  exact W.zret (v := 1) hx hb hr rfl (fun t ht hW => ⟨1, rfl, Or.inr rfl, ht⟩) (fun _ h9 => by cases h9) dX8_isMeasure_39
set_option maxHeartbeats 4000000 in
set_option maxRecDepth 100000 in
theorem s_X8_told (l : Launch) (D : va_G) (ws : va_W) (tys : List (ClassId × FieldType)) (h0 v kv : Nat) (vs : List Value) (a2 : Int32) (ev : ws[kv]? = some (v, .inr (7, vs))) (v1 : vs[1]? = some (.int 0)) : Met l yX8_told wsX8_told ({ frames := 0, cells := 0, slots := 0, locals := 0 }) (va_Pc [.ref h0, .ref v, .int a2] (fun U => va_P D vwCl ws U.heap ∧ va_K D vwCl tys U)) (vp_Si (fun r => r = (-1))) 0 0 (fun _ => False) := by
  refine Met.ofW (cc := cX8_told) (maxL := 3) (ret := (some .int)) (by decide) rfl ?_
  intro p e s m args below meth c s₁ B hml hv
  obtain ⟨rfl, hP, hK⟩ := hv
  have hx := B.exec
  have hb := B.bytes
  have hr := B.returns
  have hts := atoms_spec (ws := wsX8_told) B.pre
  have hown : s.vm.findClass RX8 = some m.cls := findClass_of_methodNamed B.named
  have hlocks := B.notSynchronized
  have hin7 : ∀ w ∈ u_ws RX7 TX7 5, w ∈ wsX8_told := (fun _ h9 => List.mem_cons_of_mem _ (List.mem_append_left _ (List.mem_append_left _ ((List.mem_append_right _ h9)))))
  have hl := lv_entry ([.ref h0, .ref v, .int a2]) (n := 3) (Nat.le_of_ble_eq_true rfl)
  rw [lg_entry_eq]
  generalize (lg_sl ([.ref h0, .ref v, .int a2]) ++ List.replicate (3 - (lg_sl ([.ref h0, .ref v, .int a2])).length) Slot.unset).toArray = ls at hl ⊢
  have hl : lv_has ls 3 [(0, .ref h0), (1, .ref v), (2, .int a2)] := hl
  refine lv_aload_n hx hb dX8_told_0 rfl (lv_at hl 1 rfl) ?_
  refine va_get (D := D) (ci := 7) (v := .int 0) (C := RX7) (T := TX7) (N := 5) hx hb hts hin7 hown hK hP kv ev rfl 1 (by decide) (hts (.fieldLink RX8 144 "HoneyHouse$Vessel" "total" "I") (List.mem_of_getElem? (i := 1) rfl)) (fun _ h9 => h9) v1 dX8_told_1 ?_
  refine lv_if_gt (tgt := 9) hx hb dX8_told_4 (by decide) (fun c_1 => absurd c_1 (by decide)) (fun c_1 => ?_)
  refine lv_iconst (v := (-1)) hx hb dX8_told_7 (by decide) ?_
  exact W.iret (v := (-1)) hx hb hr (fun t ht hW => ⟨(-1), rfl, (by first | rfl | (simp_all; done) | simp [c_1]), ht⟩) (fun _ h9 => by cases h9) dX8_told_8
set_option maxHeartbeats 4000000 in
set_option maxRecDepth 100000 in
theorem s_X8_measure (l : Launch) (D : va_G) (ws : va_W) (tys : List (ClassId × FieldType)) (h0 : Nat) (X : XF ws tys h0) (a1 a2 a3 : Int32) : Met l yX8_measure wsX8_measure ({ frames := 3, cells := 0, slots := 0, locals := 65 }) (va_Pc [.ref h0, .int a1, .int a2, .int a3] (fun U => va_P D vwCl ws U.heap ∧ va_K D vwCl tys U)) (vp_Si (fun r => r = (-1))) 0 0 (fun _ => False) := by
  refine Met.ofW (cc := cX8_measure) (maxL := 5) (ret := (some .int)) (by decide) rfl ?_
  intro p e s m args below meth c s₁ B hml hv
  obtain ⟨rfl, hP, hK⟩ := hv
  have hx := B.exec
  have hb := B.bytes
  have hr := B.returns
  have hts := atoms_spec (ws := wsX8_measure) B.pre
  have hown : s.vm.findClass RX8 = some m.cls := findClass_of_methodNamed B.named
  have hlocks := B.notSynchronized
  have hl := lv_entry ([.ref h0, .int a1, .int a2, .int a3]) (n := 5) (Nat.le_of_ble_eq_true rfl)
  rw [lg_entry_eq]
  generalize (lg_sl ([.ref h0, .int a1, .int a2, .int a3]) ++ List.replicate (5 - (lg_sl ([.ref h0, .int a1, .int a2, .int a3])).length) Slot.unset).toArray = ls at hl ⊢
  have hl : lv_has ls 5 [(0, .ref h0), (1, .int a1), (2, .int a2), (3, .int a3)] := hl
  have X0 := X
  obtain ⟨k0, la, ta, ba, ra, sn, rd, dr, bl, vd, fb, k1, k2, k3, k4, k5, k6, c1, c2, c3, c4, t1, t2, t3, t4, g, bs, rs, e0, e1, u1, e2, u2, e3, u3, e4, u4, e5, fb1, e6, fr3, fr4, hT⟩ := X
  refine lv_aload_n hx hb dX8_measure_0 rfl (lv_at hl 0 rfl) ?_
  refine lv_iload_n hx hb dX8_measure_1 rfl (lv_at hl 1 rfl) ?_
  refine lv_iload_n hx hb dX8_measure_2 rfl (lv_at hl 2 rfl) ?_
  refine va_csq (W.runV (As := [.int a1, .int a2]) (rest := []) ⟨hx, hb, hml, hown, hts⟩ (s_X8_vesselAt l D ws tys h0 k0 _ ta k2 c2 g t2 ba k3 c3 t3 a1 a2 e0 rfl e2 u2 rfl e3 u3) (cwV 2 hts gX8_measure_X8_vesselAt rfl rfl rfl (by decide +kernel) ⟨Nat.le_of_ble_eq_true rfl, Nat.le_of_ble_eq_true rfl⟩) ⟨fun a U g mk q => ⟨q.1, q.2.1, va_K.moved (u := U) (U := U.calling g mk a) (Vm.Alike.refl U.vm) q.2.2⟩, va_recv hK hP (ci := 8) (q0 := k0) rfl e0, fun U hU hW => ⟨rfl, by rw [hU]; exact hP, va_K.moved hW.alike hK⟩⟩ rfl rfl hl.1 rfl (lv_room (Nat.le_of_ble_eq_true rfl)) dX8_measure_3 ⟨Nat.le_of_ble_eq_true rfl, Nat.le_of_ble_eq_true rfl⟩) (fun r_1 k_2 => ?_)
  rcases k_2 with ⟨rfl, a_3o⟩ | ⟨z_5, a_3, b_4, k_2⟩
  · refine tp_v (y := .null) rfl ?_
    refine lv_astoreN (lv' := [(4, .null), (0, .ref h0), (1, .int a1), (2, .int a2), (3, .int a3)]) hx hb dX8_measure_6 hl (by decide) rfl (fun ls hl => ?_)
    refine lv_aloadN hx hb dX8_measure_8 (lv_at hl 0 rfl) ?_
    refine lv_ifnullN (tgt := 20) hx hb dX8_measure_10 (by decide) ?_
    refine lv_iconst (v := (-1)) hx hb dX8_measure_20 (by decide) ?_
    exact W.iret (v := (-1)) hx hb hr (fun t ht hW => ⟨(-1), rfl, (by rcases a_3o with a_3o | a_3o | a_3o <;> simp_all), ht⟩) (fun _ h9 => by cases h9) dX8_measure_21
  obtain ⟨v_6, kv_7, gr_8, kg_9, ci_10, ti_11, gv_12, ev_13, eg_14, ut_15⟩ := hT a2.toNatClampNeg (i_cl a_3 b_4 (by decide) (by decide))
  rw [gv_12] at k_2
  subst k_2
  refine tp_v (y := .ref v_6) rfl ?_
  refine lv_astore (lv' := [(4, .ref v_6), (0, .ref h0), (1, .int a1), (2, .int a2), (3, .int a3)]) hx hb dX8_measure_6 hl (by decide) rfl (fun ls hl => ?_)
  refine lv_aload hx hb dX8_measure_8 (lv_at hl 0 rfl) ?_
  refine lv_ifnull hx hb dX8_measure_10 ?_
  refine lv_iload_n hx hb dX8_measure_13 rfl (lv_at hl 4 rfl) ?_
  refine vp_callSi (W.runS (As := [.int a3]) (rest := []) ⟨hx, hb, hml, hown, hts⟩ (s_X8_isMeasure l a3) (va_cwS 1 hts gX8_measure_X8_isMeasure rfl rfl rfl (by decide +kernel) ⟨Nat.le_of_ble_eq_true rfl, Nat.le_of_ble_eq_true rfl⟩) ⟨fun a U g mk q => q, fun U hU hW => ⟨rfl, trivial⟩⟩ rfl rfl hl.1 rfl (lv_room (Nat.le_of_ble_eq_true rfl)) dX8_measure_14 ⟨Nat.le_of_ble_eq_true rfl, Nat.le_of_ble_eq_true rfl⟩) (fun r_16 k_17 => ?_)
  rcases k_17 with rfl | rfl
  · refine lv_if_ne (tgt := 22) hx hb dX8_measure_17 (by decide) (fun c_18 => absurd (by decide) c_18) (fun c_18 => ?_)
    refine lv_iconst (v := (-1)) hx hb dX8_measure_20 (by decide) ?_
    exact W.iret (v := (-1)) hx hb hr (fun t ht hW => ⟨(-1), rfl, (by first | rfl | (simp_all; done) | simp [z_5, a_3, b_4, c_18]), ht⟩) (fun _ h9 => by cases h9) dX8_measure_21
  refine lv_if_ne (tgt := 22) hx hb dX8_measure_17 (by decide) (fun c_19 => ?_) (fun c_19 => absurd c_19 (by decide))
  refine lv_aload_n hx hb dX8_measure_22 rfl (lv_at hl 1 rfl) ?_
  refine lv_aload hx hb dX8_measure_23 (lv_at hl 0 rfl) ?_
  refine lv_iload_n hx hb dX8_measure_25 rfl (lv_at hl 4 rfl) ?_
  refine vp_callSi (W.runV (As := [.ref v_6, .int a3]) (rest := []) ⟨hx, hb, hml, hown, hts⟩ (s_X8_told l D ws tys h0 v_6 kv_7 _ a3 ev_13 rfl) (cwV 2 hts gX8_measure_X8_told rfl rfl rfl (by decide +kernel) ⟨Nat.le_of_ble_eq_true rfl, Nat.le_of_ble_eq_true rfl⟩) ⟨fun a U g mk q => ⟨q.1, q.2.1, va_K.moved (u := U) (U := U.calling g mk a) (Vm.Alike.refl U.vm) q.2.2⟩, va_recv hK hP (ci := 8) (q0 := k0) rfl e0, fun U hU hW => ⟨rfl, by rw [hU]; exact hP, va_K.moved hW.alike hK⟩⟩ rfl rfl hl.1 rfl (lv_room (Nat.le_of_ble_eq_true rfl)) dX8_measure_26 ⟨Nat.le_of_ble_eq_true rfl, Nat.le_of_ble_eq_true rfl⟩) (fun r_20 k_21 => ?_)
  subst k_21
  exact W.iret (v := (-1)) hx hb hr (fun t ht hW => ⟨(-1), rfl, (by first | rfl | (simp_all; done) | simp [z_5, a_3, b_4, c_19]), ht⟩) (fun _ h9 => by cases h9) dX8_measure_29
set_option maxHeartbeats 4000000 in
set_option maxRecDepth 100000 in
theorem s_X8_fault (l : Launch) (D : va_G) (ws : va_W) (tys : List (ClassId × FieldType)) (h0 : Nat) (X : XF ws tys h0) (a1 : Int32) : Met l yX8_fault wsX8_fault ({ frames := 0, cells := 0, slots := 0, locals := 0 }) (va_Pc [.ref h0, .int a1] (fun U => va_P D vwCl ws U.heap ∧ va_K D vwCl tys U)) (vp_Si (fun r => r = if a1 = 0 then 0 else (-1))) 0 0 (fun _ => False) := by
  refine Met.ofW (cc := cX8_fault) (maxL := 2) (ret := (some .int)) (by decide) rfl ?_
  intro p e s m args below meth c s₁ B hml hv
  obtain ⟨rfl, hP, hK⟩ := hv
  have hx := B.exec
  have hb := B.bytes
  have hr := B.returns
  have hts := atoms_spec (ws := wsX8_fault) B.pre
  have hown : s.vm.findClass RX8 = some m.cls := findClass_of_methodNamed B.named
  have hlocks := B.notSynchronized
  have hin4 : ∀ w ∈ u_ws RX4 TX4 8, w ∈ wsX8_fault := (fun _ h9 => List.mem_cons_of_mem _ ((List.mem_append_right _ h9)))
  have hin8 : ∀ w ∈ u_ws RX8 TX8 15, w ∈ wsX8_fault := (fun _ h9 => List.mem_cons_of_mem _ (List.mem_append_left _ ((List.mem_append_right _ h9))))
  have hl := lv_entry ([.ref h0, .int a1]) (n := 2) (Nat.le_of_ble_eq_true rfl)
  rw [lg_entry_eq]
  generalize (lg_sl ([.ref h0, .int a1]) ++ List.replicate (2 - (lg_sl ([.ref h0, .int a1])).length) Slot.unset).toArray = ls at hl ⊢
  have hl : lv_has ls 2 [(0, .ref h0), (1, .int a1)] := hl
  have X0 := X
  obtain ⟨k0, la, ta, ba, ra, sn, rd, dr, bl, vd, fb, k1, k2, k3, k4, k5, k6, c1, c2, c3, c4, t1, t2, t3, t4, g, bs, rs, e0, e1, u1, e2, u2, e3, u3, e4, u4, e5, fb1, e6, fr3, fr4, hT⟩ := X
  refine lv_iload_n hx hb dX8_fault_0 rfl (lv_at hl 1 rfl) ?_
  by_cases c_1 : a1 = 0
  · refine lv_lookup (off := 27) (tgt := 28) hx hb dX8_fault_1 (by decide) (by rw [c_1]; rfl) (by decide) ?_
    refine lv_aload_n hx hb dX8_fault_28 rfl (lv_at hl 0 rfl) ?_
    refine va_get (D := D) (ci := 8) (v := .ref rd) (C := RX8) (T := TX8) (N := 15) hx hb hts hin8 hown hK hP k0 e0 rfl 5 (by decide) (hts (.fieldLink RX8 40 "HoneyHouse" "reader" "LHoneyHouse$RuleReader;") (List.mem_of_getElem? (i := 1) rfl)) (fun _ h9 => h9) rfl dX8_fault_29 ?_
    refine va_get (D := D) (ci := 4) (v := .int 0) (C := RX4) (T := TX4) (N := 8) hx hb hts hin4 hown hK hP k6 e6 rfl 3 (by decide) (hts (.fieldLink RX8 213 "HoneyHouse$RuleReader" "faultKind" "I") (List.mem_of_getElem? (i := 2) rfl)) (fun _ h9 => h9) fr3 dX8_fault_32 ?_
    exact W.iret (v := 0) hx hb hr (fun t ht hW => ⟨0, rfl, (by first | rfl | (simp_all; done) | simp [c_1]), ht⟩) (fun _ h9 => by cases h9) dX8_fault_35
  by_cases c_2 : a1 = 1
  · refine lv_lookup (off := 35) (tgt := 36) hx hb dX8_fault_1 (by decide) (by rw [c_2]; rfl) (by decide) ?_
    refine lv_aload_n hx hb dX8_fault_36 rfl (lv_at hl 0 rfl) ?_
    refine va_get (D := D) (ci := 8) (v := .ref rd) (C := RX8) (T := TX8) (N := 15) hx hb hts hin8 hown hK hP k0 e0 rfl 5 (by decide) (hts (.fieldLink RX8 40 "HoneyHouse" "reader" "LHoneyHouse$RuleReader;") (List.mem_of_getElem? (i := 1) rfl)) (fun _ h9 => h9) rfl dX8_fault_37 ?_
    refine va_get (D := D) (ci := 4) (v := .int (-1)) (C := RX4) (T := TX4) (N := 8) hx hb hts hin4 hown hK hP k6 e6 rfl 4 (by decide) (hts (.fieldLink RX8 216 "HoneyHouse$RuleReader" "faultPlace" "I") (List.mem_of_getElem? (i := 3) rfl)) (fun _ h9 => h9) fr4 dX8_fault_40 ?_
    exact W.iret (v := (-1)) hx hb hr (fun t ht hW => ⟨(-1), rfl, (by first | rfl | (simp_all; done) | simp [c_1, c_2]), ht⟩) (fun _ h9 => by cases h9) dX8_fault_43
  have nc_1 := lv_neT c_1 (a := 0) (by decide)
  have nc_2 := lv_neT c_2 (a := 1) (by decide)
  refine lv_lookup (off := 43) (tgt := 44) hx hb dX8_fault_1 (by decide) (by rw [lv_osw c_1 (by decide), lv_osw c_2 (by decide)]; rfl) (by decide) ?_
  refine lv_iconst (v := (-1)) hx hb dX8_fault_44 (by decide) ?_
  exact W.iret (v := (-1)) hx hb hr (fun t ht hW => ⟨(-1), rfl, (by first | rfl | (simp_all; done) | simp [c_1, c_2]), ht⟩) (fun _ h9 => by cases h9) dX8_fault_45
set_option maxHeartbeats 4000000 in
set_option maxRecDepth 100000 in
theorem s_X8_shut (l : Launch) (D : va_G) (ws : va_W) (tys : List (ClassId × FieldType)) (h0 : Nat) (X : XF ws tys h0) (a1 a2 : Int32) : Met l yX8_shut wsX8_shut ({ frames := 2, cells := 0, slots := 0, locals := 43 }) (va_Pc [.ref h0, .int a1, .int a2] (fun U => va_P D vwCl ws U.heap ∧ va_K D vwCl tys U)) (vp_Si (fun r => r = 0)) 0 0 (fun _ => False) := by
  refine Met.ofW (cc := cX8_shut) (maxL := 4) (ret := (some .boolean)) (by decide) rfl ?_
  intro p e s m args below meth c s₁ B hml hv
  obtain ⟨rfl, hP, hK⟩ := hv
  have hx := B.exec
  have hb := B.bytes
  have hr := B.returns
  have hts := atoms_spec (ws := wsX8_shut) B.pre
  have hown : s.vm.findClass RX8 = some m.cls := findClass_of_methodNamed B.named
  have hlocks := B.notSynchronized
  have hl := lv_entry ([.ref h0, .int a1, .int a2]) (n := 4) (Nat.le_of_ble_eq_true rfl)
  rw [lg_entry_eq]
  generalize (lg_sl ([.ref h0, .int a1, .int a2]) ++ List.replicate (4 - (lg_sl ([.ref h0, .int a1, .int a2])).length) Slot.unset).toArray = ls at hl ⊢
  have hl : lv_has ls 4 [(0, .ref h0), (1, .int a1), (2, .int a2)] := hl
  have X0 := X
  obtain ⟨k0, la, ta, ba, ra, sn, rd, dr, bl, vd, fb, k1, k2, k3, k4, k5, k6, c1, c2, c3, c4, t1, t2, t3, t4, g, bs, rs, e0, e1, u1, e2, u2, e3, u3, e4, u4, e5, fb1, e6, fr3, fr4, hT⟩ := X
  refine lv_aload_n hx hb dX8_shut_0 rfl (lv_at hl 0 rfl) ?_
  refine lv_iload_n hx hb dX8_shut_1 rfl (lv_at hl 1 rfl) ?_
  refine va_csq (W.runV (As := [.int a1]) (rest := []) ⟨hx, hb, hml, hown, hts⟩ (s_X8_ruleAt l D ws tys h0 k0 _ ra k4 c4 (fun _ => none) t4 a1 e0 rfl e4 u4) (cwV 1 hts gX8_shut_X8_ruleAt rfl rfl rfl (by decide +kernel) ⟨Nat.le_of_ble_eq_true rfl, Nat.le_of_ble_eq_true rfl⟩) ⟨fun a U g mk q => ⟨q.1, q.2.1, va_K.moved (u := U) (U := U.calling g mk a) (Vm.Alike.refl U.vm) q.2.2⟩, va_recv hK hP (ci := 8) (q0 := k0) rfl e0, fun U hU hW => ⟨rfl, by rw [hU]; exact hP, va_K.moved hW.alike hK⟩⟩ rfl rfl hl.1 rfl (lv_room (Nat.le_of_ble_eq_true rfl)) dX8_shut_2 ⟨Nat.le_of_ble_eq_true rfl, Nat.le_of_ble_eq_true rfl⟩) (fun r_1 k_2 => ?_)
  obtain rfl : r_1 = none := by rcases k_2 with ⟨z_3, -⟩ | ⟨-, -, z_3⟩ <;> exact z_3
  refine tp_v (y := .null) rfl ?_
  refine lv_astore_nN (lv' := [(3, .null), (0, .ref h0), (1, .int a1), (2, .int a2)]) hx hb dX8_shut_5 rfl hl (by decide) rfl (fun ls hl => ?_)
  refine lv_aload_nN hx hb dX8_shut_6 rfl (lv_at hl 0 rfl) ?_
  refine lv_ifnullN (tgt := 25) hx hb dX8_shut_7 (by decide) ?_
  refine lv_iconst (v := 0) hx hb dX8_shut_25 (by decide) ?_
  exact W.zret (v := 0) hx hb hr rfl (fun t ht hW => ⟨0, rfl, rfl, ht⟩) (fun _ h9 => by cases h9) dX8_shut_26
set_option maxHeartbeats 4000000 in
set_option maxRecDepth 100000 in
theorem s_X8_says (l : Launch) (D : va_G) (ws : va_W) (tys : List (ClassId × FieldType)) (h0 : Nat) (X : XF ws tys h0) (a1 a2 a3 : Int32) : Met l yX8_says wsX8_says ({ frames := 3, cells := 0, slots := 0, locals := 65 }) (va_Pc [.ref h0, .int a1, .int a2, .int a3] (fun U => va_P D vwCl ws U.heap ∧ va_K D vwCl tys U)) (vp_Si (fun r => r = (-1))) 0 0 (fun _ => False) := by
  refine Met.ofW (cc := cX8_says) (maxL := 6) (ret := (some .int)) (by decide) rfl ?_
  intro p e s m args below meth c s₁ B hml hv
  obtain ⟨rfl, hP, hK⟩ := hv
  have hx := B.exec
  have hb := B.bytes
  have hr := B.returns
  have hts := atoms_spec (ws := wsX8_says) B.pre
  have hown : s.vm.findClass RX8 = some m.cls := findClass_of_methodNamed B.named
  have hlocks := B.notSynchronized
  have hl := lv_entry ([.ref h0, .int a1, .int a2, .int a3]) (n := 6) (Nat.le_of_ble_eq_true rfl)
  rw [lg_entry_eq]
  generalize (lg_sl ([.ref h0, .int a1, .int a2, .int a3]) ++ List.replicate (6 - (lg_sl ([.ref h0, .int a1, .int a2, .int a3])).length) Slot.unset).toArray = ls at hl ⊢
  have hl : lv_has ls 6 [(0, .ref h0), (1, .int a1), (2, .int a2), (3, .int a3)] := hl
  have X0 := X
  obtain ⟨k0, la, ta, ba, ra, sn, rd, dr, bl, vd, fb, k1, k2, k3, k4, k5, k6, c1, c2, c3, c4, t1, t2, t3, t4, g, bs, rs, e0, e1, u1, e2, u2, e3, u3, e4, u4, e5, fb1, e6, fr3, fr4, hT⟩ := X
  refine lv_aload_n hx hb dX8_says_0 rfl (lv_at hl 0 rfl) ?_
  refine lv_iload_n hx hb dX8_says_1 rfl (lv_at hl 1 rfl) ?_
  refine va_csq (W.runV (As := [.int a1]) (rest := []) ⟨hx, hb, hml, hown, hts⟩ (s_X8_ruleAt l D ws tys h0 k0 _ ra k4 c4 (fun _ => none) t4 a1 e0 rfl e4 u4) (cwV 1 hts gX8_says_X8_ruleAt rfl rfl rfl (by decide +kernel) ⟨Nat.le_of_ble_eq_true rfl, Nat.le_of_ble_eq_true rfl⟩) ⟨fun a U g mk q => ⟨q.1, q.2.1, va_K.moved (u := U) (U := U.calling g mk a) (Vm.Alike.refl U.vm) q.2.2⟩, va_recv hK hP (ci := 8) (q0 := k0) rfl e0, fun U hU hW => ⟨rfl, by rw [hU]; exact hP, va_K.moved hW.alike hK⟩⟩ rfl rfl hl.1 rfl (lv_room (Nat.le_of_ble_eq_true rfl)) dX8_says_2 ⟨Nat.le_of_ble_eq_true rfl, Nat.le_of_ble_eq_true rfl⟩) (fun r_1 k_2 => ?_)
  obtain rfl : r_1 = none := by rcases k_2 with ⟨z_3, -⟩ | ⟨-, -, z_3⟩ <;> exact z_3
  refine tp_v (y := .null) rfl ?_
  refine lv_astoreN (lv' := [(4, .null), (0, .ref h0), (1, .int a1), (2, .int a2), (3, .int a3)]) hx hb dX8_says_5 hl (by decide) rfl (fun ls hl => ?_)
  refine lv_aload_n hx hb dX8_says_7 rfl (lv_at hl 1 rfl) ?_
  refine lv_iload_n hx hb dX8_says_8 rfl (lv_at hl 3 rfl) ?_
  refine lv_iload_n hx hb dX8_says_9 rfl (lv_at hl 4 rfl) ?_
  refine va_csq (W.runV (As := [.int a2, .int a3]) (rest := []) ⟨hx, hb, hml, hown, hts⟩ (s_X8_vesselAt l D ws tys h0 k0 _ ta k2 c2 g t2 ba k3 c3 t3 a2 a3 e0 rfl e2 u2 rfl e3 u3) (cwV 2 hts gX8_says_X8_vesselAt rfl rfl rfl (by decide +kernel) ⟨Nat.le_of_ble_eq_true rfl, Nat.le_of_ble_eq_true rfl⟩) ⟨fun a U g mk q => ⟨q.1, q.2.1, va_K.moved (u := U) (U := U.calling g mk a) (Vm.Alike.refl U.vm) q.2.2⟩, va_recv hK hP (ci := 8) (q0 := k0) rfl e0, fun U hU hW => ⟨rfl, by rw [hU]; exact hP, va_K.moved hW.alike hK⟩⟩ rfl rfl hl.1 rfl (lv_room (Nat.le_of_ble_eq_true rfl)) dX8_says_10 ⟨Nat.le_of_ble_eq_true rfl, Nat.le_of_ble_eq_true rfl⟩) (fun r_4 k_5 => ?_)
  rcases k_5 with ⟨rfl, a_6o⟩ | ⟨z_8, a_6, b_7, k_5⟩
  · refine tp_v (y := .null) rfl ?_
    refine lv_astoreN (lv' := [(5, .null), (4, .null), (0, .ref h0), (1, .int a1), (2, .int a2), (3, .int a3)]) hx hb dX8_says_13 hl (by decide) rfl (fun ls hl => ?_)
    refine lv_aloadN hx hb dX8_says_15 (lv_at hl 1 rfl) ?_
    refine lv_ifnullN (tgt := 33) hx hb dX8_says_17 (by decide) ?_
    refine lv_iconst (v := (-1)) hx hb dX8_says_33 (by decide) ?_
    exact W.iret (v := (-1)) hx hb hr (fun t ht hW => ⟨(-1), rfl, (by rcases a_6o with a_6o | a_6o | a_6o <;> simp_all), ht⟩) (fun _ h9 => by cases h9) dX8_says_34
  obtain ⟨v_9, kv_10, gr_11, kg_12, ci_13, ti_14, gv_15, ev_16, eg_17, ut_18⟩ := hT a3.toNatClampNeg (i_cl a_6 b_7 (by decide) (by decide))
  rw [gv_15] at k_5
  subst k_5
  refine tp_v (y := .ref v_9) rfl ?_
  refine lv_astore (lv' := [(5, .ref v_9), (4, .null), (0, .ref h0), (1, .int a1), (2, .int a2), (3, .int a3)]) hx hb dX8_says_13 hl (by decide) rfl (fun ls hl => ?_)
  refine lv_aloadN hx hb dX8_says_15 (lv_at hl 1 rfl) ?_
  refine lv_ifnullN (tgt := 33) hx hb dX8_says_17 (by decide) ?_
  refine lv_iconst (v := (-1)) hx hb dX8_says_33 (by decide) ?_
  exact W.iret (v := (-1)) hx hb hr (fun t ht hW => ⟨(-1), rfl, (by first | rfl | (simp_all; done) | simp [z_8, a_6, b_7]), ht⟩) (fun _ h9 => by cases h9) dX8_says_34
set_option maxHeartbeats 4000000 in
set_option maxRecDepth 100000 in
theorem s_X8_name (l : Launch) (D : va_G) (ws : va_W) (tys : List (ClassId × FieldType)) (h0 : Nat) (X : XF ws tys h0) (a1 a2 a3 : Int32) : Met l yX8_name wsX8_name ({ frames := 3, cells := 0, slots := 0, locals := 65 }) (va_Pc [.ref h0, .int a1, .int a2, .int a3] (fun U => va_P D vwCl ws U.heap ∧ va_K D vwCl tys U)) (vp_Si (fun r => r = (-1))) 0 0 (fun _ => False) := by
  refine Met.ofW (cc := cX8_name) (maxL := 7) (ret := (some .int)) (by decide) rfl ?_
  intro p e s m args below meth c s₁ B hml hv
  obtain ⟨rfl, hP, hK⟩ := hv
  have hx := B.exec
  have hb := B.bytes
  have hr := B.returns
  have hts := atoms_spec (ws := wsX8_name) B.pre
  have hown : s.vm.findClass RX8 = some m.cls := findClass_of_methodNamed B.named
  have hlocks := B.notSynchronized
  have hin7 : ∀ w ∈ u_ws RX7 TX7 5, w ∈ wsX8_name := (fun _ h9 => List.mem_cons_of_mem _ (List.mem_append_left _ (List.mem_append_left _ (List.mem_append_left _ ((List.mem_append_right _ h9))))))
  have hl := lv_entry ([.ref h0, .int a1, .int a2, .int a3]) (n := 7) (Nat.le_of_ble_eq_true rfl)
  rw [lg_entry_eq]
  generalize (lg_sl ([.ref h0, .int a1, .int a2, .int a3]) ++ List.replicate (7 - (lg_sl ([.ref h0, .int a1, .int a2, .int a3])).length) Slot.unset).toArray = ls at hl ⊢
  have hl : lv_has ls 7 [(0, .ref h0), (1, .int a1), (2, .int a2), (3, .int a3)] := hl
  have X0 := X
  obtain ⟨k0, la, ta, ba, ra, sn, rd, dr, bl, vd, fb, k1, k2, k3, k4, k5, k6, c1, c2, c3, c4, t1, t2, t3, t4, g, bs, rs, e0, e1, u1, e2, u2, e3, u3, e4, u4, e5, fb1, e6, fr3, fr4, hT⟩ := X
  refine lv_aload_n hx hb dX8_name_0 rfl (lv_at hl 0 rfl) ?_
  refine lv_iload_n hx hb dX8_name_1 rfl (lv_at hl 1 rfl) ?_
  refine lv_iload_n hx hb dX8_name_2 rfl (lv_at hl 2 rfl) ?_
  refine va_csq (W.runV (As := [.int a1, .int a2]) (rest := []) ⟨hx, hb, hml, hown, hts⟩ (s_X8_vesselAt l D ws tys h0 k0 _ ta k2 c2 g t2 ba k3 c3 t3 a1 a2 e0 rfl e2 u2 rfl e3 u3) (cwV 2 hts gX8_name_X8_vesselAt rfl rfl rfl (by decide +kernel) ⟨Nat.le_of_ble_eq_true rfl, Nat.le_of_ble_eq_true rfl⟩) ⟨fun a U g mk q => ⟨q.1, q.2.1, va_K.moved (u := U) (U := U.calling g mk a) (Vm.Alike.refl U.vm) q.2.2⟩, va_recv hK hP (ci := 8) (q0 := k0) rfl e0, fun U hU hW => ⟨rfl, by rw [hU]; exact hP, va_K.moved hW.alike hK⟩⟩ rfl rfl hl.1 rfl (lv_room (Nat.le_of_ble_eq_true rfl)) dX8_name_3 ⟨Nat.le_of_ble_eq_true rfl, Nat.le_of_ble_eq_true rfl⟩) (fun r_1 k_2 => ?_)
  rcases k_2 with ⟨rfl, a_3o⟩ | ⟨z_5, a_3, b_4, k_2⟩
  · refine tp_v (y := .null) rfl ?_
    refine lv_astoreN (lv' := [(4, .null), (0, .ref h0), (1, .int a1), (2, .int a2), (3, .int a3)]) hx hb dX8_name_6 hl (by decide) rfl (fun ls hl => ?_)
    refine lv_aloadN hx hb dX8_name_8 (lv_at hl 0 rfl) ?_
    refine lv_ifnullN (tgt := 21) hx hb dX8_name_10 (by decide) ?_
    refine lv_iconst (v := (-1)) hx hb dX8_name_21 (by decide) ?_
    exact W.iret (v := (-1)) hx hb hr (fun t ht hW => ⟨(-1), rfl, (by rcases a_3o with a_3o | a_3o | a_3o <;> simp_all), ht⟩) (fun _ h9 => by cases h9) dX8_name_22
  obtain ⟨v_6, kv_7, gr_8, kg_9, ci_10, ti_11, gv_12, ev_13, eg_14, ut_15⟩ := hT a2.toNatClampNeg (i_cl a_3 b_4 (by decide) (by decide))
  rw [gv_12] at k_2
  subst k_2
  refine tp_v (y := .ref v_6) rfl ?_
  refine lv_astore (lv' := [(4, .ref v_6), (0, .ref h0), (1, .int a1), (2, .int a2), (3, .int a3)]) hx hb dX8_name_6 hl (by decide) rfl (fun ls hl => ?_)
  refine lv_aload hx hb dX8_name_8 (lv_at hl 0 rfl) ?_
  refine lv_ifnull hx hb dX8_name_10 ?_
  refine lv_aload hx hb dX8_name_13 (lv_at hl 0 rfl) ?_
  refine va_get (D := D) (ci := 7) (v := .int 0) (C := RX7) (T := TX7) (N := 5) hx hb hts hin7 hown hK hP kv_7 ev_13 rfl 1 (by decide) (hts (.fieldLink RX8 144 "HoneyHouse$Vessel" "total" "I") (List.mem_of_getElem? (i := 1) rfl)) (fun _ h9 => h9) rfl dX8_name_15 ?_
  refine lv_if_ne (tgt := 23) hx hb dX8_name_18 (by decide) (fun c_16 => absurd (by decide) c_16) (fun c_16 => ?_)
  refine lv_iconst (v := (-1)) hx hb dX8_name_21 (by decide) ?_
  exact W.iret (v := (-1)) hx hb hr (fun t ht hW => ⟨(-1), rfl, (by first | rfl | (simp_all; done) | simp [z_5, a_3, b_4, c_16]), ht⟩) (fun _ h9 => by cases h9) dX8_name_22
set_option maxHeartbeats 4000000 in
set_option maxRecDepth 100000 in
theorem s_X8_parts (l : Launch) (D : va_G) (ws : va_W) (tys : List (ClassId × FieldType)) (h0 : Nat) (X : XF ws tys h0) (a1 : Int32) : Met l yX8_parts wsX8_parts ({ frames := 2, cells := 0, slots := 0, locals := 43 }) (va_Pc [.ref h0, .int a1] (fun U => va_P D vwCl ws U.heap ∧ va_K D vwCl tys U)) (vp_Si (fun r => r = (-1))) 0 0 (fun _ => False) := by
  refine Met.ofW (cc := cX8_parts) (maxL := 2) (ret := (some .int)) (by decide) rfl ?_
  intro p e s m args below meth c s₁ B hml hv
  obtain ⟨rfl, hP, hK⟩ := hv
  have hx := B.exec
  have hb := B.bytes
  have hr := B.returns
  have hts := atoms_spec (ws := wsX8_parts) B.pre
  have hown : s.vm.findClass RX8 = some m.cls := findClass_of_methodNamed B.named
  have hlocks := B.notSynchronized
  have hin0 : ∀ w ∈ u_ws RX0 TX0 14, w ∈ wsX8_parts := (fun _ h9 => List.mem_cons_of_mem _ ((List.mem_append_right _ h9)))
  have hin8 : ∀ w ∈ u_ws RX8 TX8 15, w ∈ wsX8_parts := (fun _ h9 => List.mem_cons_of_mem _ (List.mem_append_left _ ((List.mem_append_right _ h9))))
  have hl := lv_entry ([.ref h0, .int a1]) (n := 2) (Nat.le_of_ble_eq_true rfl)
  rw [lg_entry_eq]
  generalize (lg_sl ([.ref h0, .int a1]) ++ List.replicate (2 - (lg_sl ([.ref h0, .int a1])).length) Slot.unset).toArray = ls at hl ⊢
  have hl : lv_has ls 2 [(0, .ref h0), (1, .int a1)] := hl
  have X0 := X
  obtain ⟨k0, la, ta, ba, ra, sn, rd, dr, bl, vd, fb, k1, k2, k3, k4, k5, k6, c1, c2, c3, c4, t1, t2, t3, t4, g, bs, rs, e0, e1, u1, e2, u2, e3, u3, e4, u4, e5, fb1, e6, fr3, fr4, hT⟩ := X
  refine lv_aload_n hx hb dX8_parts_0 rfl (lv_at hl 0 rfl) ?_
  refine lv_iload_n hx hb dX8_parts_1 rfl (lv_at hl 1 rfl) ?_
  refine va_csq (W.runV (As := [.int a1]) (rest := []) ⟨hx, hb, hml, hown, hts⟩ (s_X8_tankAt l D ws tys h0 k0 _ ta k2 c2 g t2 a1 e0 rfl e2 u2) (cwV 1 hts gX8_parts_X8_tankAt rfl rfl rfl (by decide +kernel) ⟨Nat.le_of_ble_eq_true rfl, Nat.le_of_ble_eq_true rfl⟩) ⟨fun a U g mk q => ⟨q.1, q.2.1, va_K.moved (u := U) (U := U.calling g mk a) (Vm.Alike.refl U.vm) q.2.2⟩, va_recv hK hP (ci := 8) (q0 := k0) rfl e0, fun U hU hW => ⟨rfl, by rw [hU]; exact hP, va_K.moved hW.alike hK⟩⟩ rfl rfl hl.1 rfl (lv_room (Nat.le_of_ble_eq_true rfl)) dX8_parts_2 ⟨Nat.le_of_ble_eq_true rfl, Nat.le_of_ble_eq_true rfl⟩) (fun r_1 k_2 => ?_)
  rcases k_2 with ⟨rfl, a_3o⟩ | ⟨a_3, b_4, k_2⟩
  · refine tp_v (y := .null) rfl ?_
    refine lv_ifnullN (tgt := 18) hx hb dX8_parts_5 (by decide) ?_
    refine lv_iconst (v := (-1)) hx hb dX8_parts_18 (by decide) ?_
    exact W.iret (v := (-1)) hx hb hr (fun t ht hW => ⟨(-1), rfl, (by rcases a_3o with a_3o | a_3o <;> simp_all), ht⟩) (fun _ h9 => by cases h9) dX8_parts_19
  obtain ⟨v_5, kv_6, gr_7, kg_8, ci_9, ti_10, gv_11, ev_12, eg_13, ut_14⟩ := hT a1.toNatClampNeg (i_cl a_3 b_4 (by decide) (by decide))
  rw [gv_11] at k_2
  subst k_2
  refine tp_v (y := .ref v_5) rfl ?_
  refine lv_ifnull hx hb dX8_parts_5 ?_
  refine lv_aload_n hx hb dX8_parts_8 rfl (lv_at hl 0 rfl) ?_
  refine va_get (D := D) (ci := 8) (v := .ref bl) (C := RX8) (T := TX8) (N := 15) hx hb hts hin8 hown hK hP k0 e0 rfl 7 (by decide) (hts (.fieldLink RX8 54 "HoneyHouse" "blender" "LHoneyHouse$Blender;") (List.mem_of_getElem? (i := 1) rfl)) (fun _ h9 => h9) rfl dX8_parts_9 ?_
  refine va_get (D := D) (ci := 0) (v := .int 0) (C := RX0) (T := TX0) (N := 14) hx hb hts hin0 hown hK hP k5 e5 rfl 1 (by decide) (hts (.fieldLink RX8 266 "HoneyHouse$Blender" "hasTold" "Z") (List.mem_of_getElem? (i := 2) rfl)) (fun _ h9 => h9) fb1 dX8_parts_12 ?_
  refine lv_if_ne (tgt := 20) hx hb dX8_parts_15 (by decide) (fun c_15 => absurd (by decide) c_15) (fun c_15 => ?_)
  refine lv_iconst (v := (-1)) hx hb dX8_parts_18 (by decide) ?_
  exact W.iret (v := (-1)) hx hb hr (fun t ht hW => ⟨(-1), rfl, (by first | rfl | (simp_all; done) | simp [a_3, b_4, c_15]), ht⟩) (fun _ h9 => by cases h9) dX8_parts_19
set_option maxHeartbeats 4000000 in
set_option maxRecDepth 100000 in
theorem s_X8_found (l : Launch) (D : va_G) (ws : va_W) (tys : List (ClassId × FieldType)) (h0 : Nat) (X : XF ws tys h0) (a1 : Int32) : Met l yX8_found wsX8_found ({ frames := 1, cells := 0, slots := 0, locals := 22 }) (va_Pc [.ref h0, .int a1] (fun U => va_P D vwCl ws U.heap ∧ va_K D vwCl tys U)) (vp_Si (fun r => r = (-1))) 0 0 (fun _ => False) := by
  refine Met.ofW (cc := cX8_found) (maxL := 2) (ret := (some .int)) (by decide) rfl ?_
  intro p e s m args below meth c s₁ B hml hv
  obtain ⟨rfl, hP, hK⟩ := hv
  have hx := B.exec
  have hb := B.bytes
  have hr := B.returns
  have hts := atoms_spec (ws := wsX8_found) B.pre
  have hown : s.vm.findClass RX8 = some m.cls := findClass_of_methodNamed B.named
  have hlocks := B.notSynchronized
  have hin8 : ∀ w ∈ u_ws RX8 TX8 15, w ∈ wsX8_found := (fun _ h9 => List.mem_cons_of_mem _ ((List.mem_append_right _ h9)))
  have hl := lv_entry ([.ref h0, .int a1]) (n := 2) (Nat.le_of_ble_eq_true rfl)
  rw [lg_entry_eq]
  generalize (lg_sl ([.ref h0, .int a1]) ++ List.replicate (2 - (lg_sl ([.ref h0, .int a1])).length) Slot.unset).toArray = ls at hl ⊢
  have hl : lv_has ls 2 [(0, .ref h0), (1, .int a1)] := hl
  have X0 := X
  obtain ⟨k0, la, ta, ba, ra, sn, rd, dr, bl, vd, fb, k1, k2, k3, k4, k5, k6, c1, c2, c3, c4, t1, t2, t3, t4, g, bs, rs, e0, e1, u1, e2, u2, e3, u3, e4, u4, e5, fb1, e6, fr3, fr4, hT⟩ := X
  refine lv_iload_n hx hb dX8_found_0 rfl (lv_at hl 1 rfl) ?_
  refine lv_iconst (v := 0) hx hb dX8_found_1 (by decide) ?_
  refine lv_aload_n hx hb dX8_found_2 rfl (lv_at hl 0 rfl) ?_
  refine va_get (D := D) (ci := 8) (v := .int 0) (C := RX8) (T := TX8) (N := 15) hx hb hts hin8 hown hK hP k0 e0 rfl 13 (by decide) (hts (.fieldLink RX8 272 "HoneyHouse" "foundCount" "I") (List.mem_of_getElem? (i := 1) rfl)) (fun _ h9 => h9) rfl dX8_found_3 ?_
  refine lv_iconst (v := 1) hx hb dX8_found_6 (by decide) ?_
  refine lv_isub hx hb dX8_found_7 ?_
  refine tp_i (y := (-1)) (by decide) ?_
  refine vp_callSi (W.runS (As := [.int a1, .int 0, .int (-1)]) (rest := []) ⟨hx, hb, hml, hown, hts⟩ (s_X8_isIn l a1 0 (-1)) (va_cwS 3 hts gX8_found_X8_isIn rfl rfl rfl (by decide +kernel) ⟨Nat.le_of_ble_eq_true rfl, Nat.le_of_ble_eq_true rfl⟩) ⟨fun a U g mk q => q, fun U hU hW => ⟨rfl, trivial⟩⟩ rfl rfl hl.1 rfl (lv_room (Nat.le_of_ble_eq_true rfl)) dX8_found_8 ⟨Nat.le_of_ble_eq_true rfl, Nat.le_of_ble_eq_true rfl⟩) (fun r_1 k_2 => ?_)
  rcases (or_comm.mp k_2) with ⟨rfl, a_3, b_4⟩ | ⟨rfl, -⟩
  · exact absurd (i_m1 a_3) b_4
  refine lv_if_eq (tgt := 23) hx hb dX8_found_11 (by decide) (fun c_5 => ?_) (fun c_5 => absurd (by decide) c_5)
  refine lv_iconst (v := (-1)) hx hb dX8_found_23 (by decide) ?_
  exact W.iret (v := (-1)) hx hb hr (fun t ht hW => ⟨(-1), rfl, (by first | rfl | (simp_all; done) | simp [c_5]), ht⟩) (fun _ h9 => by cases h9) dX8_found_24
set_option maxHeartbeats 4000000 in
set_option maxRecDepth 100000 in
theorem s_X8_count (l : Launch) (D : va_G) (ws : va_W) (tys : List (ClassId × FieldType)) (h0 : Nat) (X : XF ws tys h0) (a1 : Int32) : Met l yX8_count wsX8_count ({ frames := 0, cells := 0, slots := 0, locals := 0 }) (va_Pc [.ref h0, .int a1] (fun U => va_P D vwCl ws U.heap ∧ va_K D vwCl tys U)) (vp_Si (fun r => r = if a1 = 0 ∨ a1 = 1 ∨ a1 = 2 ∨ a1 = 3 then 0 else (-1))) 0 0 (fun _ => False) := by
  refine Met.ofW (cc := cX8_count) (maxL := 2) (ret := (some .int)) (by decide) rfl ?_
  intro p e s m args below meth c s₁ B hml hv
  obtain ⟨rfl, hP, hK⟩ := hv
  have hx := B.exec
  have hb := B.bytes
  have hr := B.returns
  have hts := atoms_spec (ws := wsX8_count) B.pre
  have hown : s.vm.findClass RX8 = some m.cls := findClass_of_methodNamed B.named
  have hlocks := B.notSynchronized
  have hin8 : ∀ w ∈ u_ws RX8 TX8 15, w ∈ wsX8_count := (fun _ h9 => List.mem_cons_of_mem _ ((List.mem_append_right _ h9)))
  have hl := lv_entry ([.ref h0, .int a1]) (n := 2) (Nat.le_of_ble_eq_true rfl)
  rw [lg_entry_eq]
  generalize (lg_sl ([.ref h0, .int a1]) ++ List.replicate (2 - (lg_sl ([.ref h0, .int a1])).length) Slot.unset).toArray = ls at hl ⊢
  have hl : lv_has ls 2 [(0, .ref h0), (1, .int a1)] := hl
  have X0 := X
  obtain ⟨k0, la, ta, ba, ra, sn, rd, dr, bl, vd, fb, k1, k2, k3, k4, k5, k6, c1, c2, c3, c4, t1, t2, t3, t4, g, bs, rs, e0, e1, u1, e2, u2, e3, u3, e4, u4, e5, fb1, e6, fr3, fr4, hT⟩ := X
  refine lv_iload_n hx hb dX8_count_0 rfl (lv_at hl 1 rfl) ?_
  by_cases c_1 : a1 = 0
  · refine lv_tableIn (off := 31) (tgt := 32) hx hb dX8_count_1 (by rw [c_1]; decide) (by rw [c_1]; decide) (by rw [c_1]; rfl) (by decide) ?_
    refine lv_aload_n hx hb dX8_count_32 rfl (lv_at hl 0 rfl) ?_
    refine va_get (D := D) (ci := 8) (v := .int 0) (C := RX8) (T := TX8) (N := 15) hx hb hts hin8 hown hK hP k0 e0 rfl 10 (by decide) (hts (.fieldLink RX8 90 "HoneyHouse" "lotCount" "I") (List.mem_of_getElem? (i := 1) rfl)) (fun _ h9 => h9) rfl dX8_count_33 ?_
    exact W.iret (v := 0) hx hb hr (fun t ht hW => ⟨0, rfl, (by first | rfl | (simp_all; done) | simp [c_1]), ht⟩) (fun _ h9 => by cases h9) dX8_count_36
  by_cases c_2 : a1 = 1
  · refine lv_tableIn (off := 36) (tgt := 37) hx hb dX8_count_1 (by rw [c_2]; decide) (by rw [c_2]; decide) (by rw [c_2]; rfl) (by decide) ?_
    refine lv_aload_n hx hb dX8_count_37 rfl (lv_at hl 0 rfl) ?_
    refine va_get (D := D) (ci := 8) (v := .int 0) (C := RX8) (T := TX8) (N := 15) hx hb hts hin8 hown hK hP k0 e0 rfl 11 (by decide) (hts (.fieldLink RX8 170 "HoneyHouse" "batchCount" "I") (List.mem_of_getElem? (i := 2) rfl)) (fun _ h9 => h9) rfl dX8_count_38 ?_
    exact W.iret (v := 0) hx hb hr (fun t ht hW => ⟨0, rfl, (by first | rfl | (simp_all; done) | simp [c_1, c_2]), ht⟩) (fun _ h9 => by cases h9) dX8_count_41
  by_cases c_3 : a1 = 2
  · refine lv_tableIn (off := 41) (tgt := 42) hx hb dX8_count_1 (by rw [c_3]; decide) (by rw [c_3]; decide) (by rw [c_3]; rfl) (by decide) ?_
    refine lv_aload_n hx hb dX8_count_42 rfl (lv_at hl 0 rfl) ?_
    refine va_get (D := D) (ci := 8) (v := .int 0) (C := RX8) (T := TX8) (N := 15) hx hb hts hin8 hown hK hP k0 e0 rfl 12 (by decide) (hts (.fieldLink RX8 196 "HoneyHouse" "ruleCount" "I") (List.mem_of_getElem? (i := 3) rfl)) (fun _ h9 => h9) rfl dX8_count_43 ?_
    exact W.iret (v := 0) hx hb hr (fun t ht hW => ⟨0, rfl, (by first | rfl | (simp_all; done) | simp [c_1, c_2, c_3]), ht⟩) (fun _ h9 => by cases h9) dX8_count_46
  by_cases c_4 : a1 = 3
  · refine lv_tableIn (off := 46) (tgt := 47) hx hb dX8_count_1 (by rw [c_4]; decide) (by rw [c_4]; decide) (by rw [c_4]; rfl) (by decide) ?_
    refine lv_aload_n hx hb dX8_count_47 rfl (lv_at hl 0 rfl) ?_
    refine va_get (D := D) (ci := 8) (v := .int 0) (C := RX8) (T := TX8) (N := 15) hx hb hts hin8 hown hK hP k0 e0 rfl 14 (by decide) (hts (.fieldLink RX8 82 "HoneyHouse" "dayNow" "I") (List.mem_of_getElem? (i := 4) rfl)) (fun _ h9 => h9) rfl dX8_count_48 ?_
    exact W.iret (v := 0) hx hb hr (fun t ht hW => ⟨0, rfl, (by first | rfl | (simp_all; done) | simp [c_1, c_2, c_3, c_4]), ht⟩) (fun _ h9 => by cases h9) dX8_count_51
  have nc_1 := lv_neT c_1 (a := 0) (by decide)
  have nc_2 := lv_neT c_2 (a := 1) (by decide)
  have nc_3 := lv_neT c_3 (a := 2) (by decide)
  have nc_4 := lv_neT c_4 (a := 3) (by decide)
  refine lv_tableOut (tgt := 52) hx hb dX8_count_1 (by omega) (by decide) ?_
  refine lv_iconst (v := (-1)) hx hb dX8_count_52 (by decide) ?_
  exact W.iret (v := (-1)) hx hb hr (fun t ht hW => ⟨(-1), rfl, (by first | rfl | (simp_all; done) | simp [c_1, c_2, c_3, c_4]), ht⟩) (fun _ h9 => by cases h9) dX8_count_53
