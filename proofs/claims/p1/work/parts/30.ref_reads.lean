theorem dX9_isLot_0 : decode cX9_isLot 0 = .ok (.iload_n 1, 1) := by decide +kernel
theorem dX9_isLot_1 : decode cX9_isLot 1 = .ok (.ifCond .lt 15, 3) := by decide +kernel
theorem dX9_isLot_4 : decode cX9_isLot 4 = .ok (.iload_n 1, 1) := by decide +kernel
theorem dX9_isLot_5 : decode cX9_isLot 5 = .ok (.aload_n 0, 1) := by decide +kernel
theorem dX9_isLot_6 : decode cX9_isLot 6 = .ok (.getfield 20, 3) := by decide +kernel
theorem dX9_isLot_9 : decode cX9_isLot 9 = .ok (.if_icmp .ge 7, 3) := by decide +kernel
theorem dX9_isLot_16 : decode cX9_isLot 16 = .ok (.iconst 0, 1) := by decide +kernel
theorem dX9_isLot_17 : decode cX9_isLot 17 = .ok (.ireturn, 1) := by decide +kernel
theorem dX9_all_0 : decode cX9_all 0 = .ok (.iconst 0, 1) := by decide +kernel
theorem dX9_all_1 : decode cX9_all 1 = .ok (.istore_n 2, 1) := by decide +kernel
theorem dX9_all_2 : decode cX9_all 2 = .ok (.iconst 0, 1) := by decide +kernel
theorem dX9_all_3 : decode cX9_all 3 = .ok (.istore_n 3, 1) := by decide +kernel
theorem dX9_all_4 : decode cX9_all 4 = .ok (.iload_n 3, 1) := by decide +kernel
theorem dX9_all_5 : decode cX9_all 5 = .ok (.aload_n 0, 1) := by decide +kernel
theorem dX9_all_6 : decode cX9_all 6 = .ok (.getfield 20, 3) := by decide +kernel
theorem dX9_all_9 : decode cX9_all 9 = .ok (.if_icmp .ge 23, 3) := by decide +kernel
theorem dX9_all_32 : decode cX9_all 32 = .ok (.iload_n 2, 1) := by decide +kernel
theorem dX9_all_33 : decode cX9_all 33 = .ok (.ireturn, 1) := by decide +kernel
theorem dX9_row_0 : decode cX9_row 0 = .ok (.iload_n 1, 1) := by decide +kernel
theorem dX9_row_1 : decode cX9_row 1 = .ok (.ifCond .ne 16, 3) := by decide +kernel
theorem dX9_row_4 : decode cX9_row 4 = .ok (.iload_n 2, 1) := by decide +kernel
theorem dX9_row_5 : decode cX9_row 5 = .ok (.invokestatic 165, 3) := by decide +kernel
theorem dX9_row_8 : decode cX9_row 8 = .ok (.ifCond .eq 7, 3) := by decide +kernel
theorem dX9_row_11 : decode cX9_row 11 = .ok (.iload_n 2, 1) := by decide +kernel
theorem dX9_row_12 : decode cX9_row 12 = .ok (.goto 4, 3) := by decide +kernel
theorem dX9_row_15 : decode cX9_row 15 = .ok (.iconst (-1), 1) := by decide +kernel
theorem dX9_row_16 : decode cX9_row 16 = .ok (.ireturn, 1) := by decide +kernel
theorem dX9_row_17 : decode cX9_row 17 = .ok (.iload_n 1, 1) := by decide +kernel
theorem dX9_row_18 : decode cX9_row 18 = .ok (.iconst 1, 1) := by decide +kernel
theorem dX9_row_19 : decode cX9_row 19 = .ok (.if_icmp .ne 22, 3) := by decide +kernel
theorem dX9_row_22 : decode cX9_row 22 = .ok (.iload_n 2, 1) := by decide +kernel
theorem dX9_row_23 : decode cX9_row 23 = .ok (.ifCond .lt 18, 3) := by decide +kernel
theorem dX9_row_26 : decode cX9_row 26 = .ok (.iload_n 2, 1) := by decide +kernel
theorem dX9_row_27 : decode cX9_row 27 = .ok (.aload_n 0, 1) := by decide +kernel
theorem dX9_row_28 : decode cX9_row 28 = .ok (.getfield 50, 3) := by decide +kernel
theorem dX9_row_31 : decode cX9_row 31 = .ok (.if_icmp .ge 10, 3) := by decide +kernel
theorem dX9_row_41 : decode cX9_row 41 = .ok (.iconst (-1), 1) := by decide +kernel
theorem dX9_row_42 : decode cX9_row 42 = .ok (.ireturn, 1) := by decide +kernel
theorem dX9_pollen_0 : decode cX9_pollen 0 = .ok (.aload_n 0, 1) := by decide +kernel
theorem dX9_pollen_1 : decode cX9_pollen 1 = .ok (.iload_n 1, 1) := by decide +kernel
theorem dX9_pollen_2 : decode cX9_pollen 2 = .ok (.invokevirtual 160, 3) := by decide +kernel
theorem dX9_pollen_5 : decode cX9_pollen 5 = .ok (.ifCond .eq 30, 3) := by decide +kernel
theorem dX9_pollen_35 : decode cX9_pollen 35 = .ok (.iconst 0, 1) := by decide +kernel
theorem dX9_pollen_36 : decode cX9_pollen 36 = .ok (.ireturn, 1) := by decide +kernel
theorem dX9_test_0 : decode cX9_test 0 = .ok (.aload_n 0, 1) := by decide +kernel
theorem dX9_test_1 : decode cX9_test 1 = .ok (.iload_n 1, 1) := by decide +kernel
theorem dX9_test_2 : decode cX9_test 2 = .ok (.invokevirtual 160, 3) := by decide +kernel
theorem dX9_test_5 : decode cX9_test 5 = .ok (.ifCond .eq 15, 3) := by decide +kernel
theorem dX9_test_20 : decode cX9_test 20 = .ok (.ldc 164, 2) := by decide +kernel
theorem dX9_test_22 : decode cX9_test 22 = .ok (.ireturn, 1) := by decide +kernel
theorem dX9_of_0 : decode cX9_of 0 = .ok (.aload_n 0, 1) := by decide +kernel
theorem dX9_of_1 : decode cX9_of 1 = .ok (.iload_n 1, 1) := by decide +kernel
theorem dX9_of_2 : decode cX9_of 2 = .ok (.invokevirtual 160, 3) := by decide +kernel
theorem dX9_of_5 : decode cX9_of 5 = .ok (.ifCond .eq 13, 3) := by decide +kernel
theorem dX9_of_18 : decode cX9_of 18 = .ok (.iconst (-1), 1) := by decide +kernel
theorem dX9_of_19 : decode cX9_of 19 = .ok (.goto 14, 3) := by decide +kernel
theorem dX9_of_33 : decode cX9_of 33 = .ok (.ireturn, 1) := by decide +kernel
theorem dX9_span_0 : decode cX9_span 0 = .ok (.aload_n 0, 1) := by decide +kernel
theorem dX9_span_1 : decode cX9_span 1 = .ok (.iload_n 1, 1) := by decide +kernel
theorem dX9_span_2 : decode cX9_span 2 = .ok (.invokevirtual 160, 3) := by decide +kernel
theorem dX9_span_5 : decode cX9_span 5 = .ok (.ifCond .eq 21, 3) := by decide +kernel
theorem dX9_span_26 : decode cX9_span 26 = .ok (.iconst (-1), 1) := by decide +kernel
theorem dX9_span_27 : decode cX9_span 27 = .ok (.goto 30, 3) := by decide +kernel
theorem dX9_span_57 : decode cX9_span 57 = .ok (.ireturn, 1) := by decide +kernel
theorem dX9_trace_0 : decode cX9_trace 0 = .ok (.aload_n 0, 1) := by decide +kernel
theorem dX9_trace_1 : decode cX9_trace 1 = .ok (.iload_n 1, 1) := by decide +kernel
theorem dX9_trace_2 : decode cX9_trace 2 = .ok (.invokevirtual 160, 3) := by decide +kernel
theorem dX9_trace_5 : decode cX9_trace 5 = .ok (.ifCond .ne 5, 3) := by decide +kernel
theorem dX9_trace_8 : decode cX9_trace 8 = .ok (.iconst (-1), 1) := by decide +kernel
theorem dX9_trace_9 : decode cX9_trace 9 = .ok (.ireturn, 1) := by decide +kernel
theorem dX9_pour_0 : decode cX9_pour 0 = .ok (.aload_n 0, 1) := by decide +kernel
theorem dX9_pour_1 : decode cX9_pour 1 = .ok (.iload_n 1, 1) := by decide +kernel
theorem dX9_pour_2 : decode cX9_pour 2 = .ok (.invokevirtual 160, 3) := by decide +kernel
theorem dX9_pour_5 : decode cX9_pour 5 = .ok (.ifCond .eq 10, 3) := by decide +kernel
theorem dX9_pour_15 : decode cX9_pour 15 = .ok (.iconst (-1), 1) := by decide +kernel
theorem dX9_pour_16 : decode cX9_pour 16 = .ok (.ireturn, 1) := by decide +kernel
theorem dX9_move_0 : decode cX9_move 0 = .ok (.iload_n 1, 1) := by decide +kernel
theorem dX9_move_1 : decode cX9_move 1 = .ok (.invokestatic 165, 3) := by decide +kernel
theorem dX9_move_4 : decode cX9_move 4 = .ok (.ifCond .eq 15, 3) := by decide +kernel
theorem dX9_move_7 : decode cX9_move 7 = .ok (.iload_n 2, 1) := by decide +kernel
theorem dX9_move_8 : decode cX9_move 8 = .ok (.invokestatic 165, 3) := by decide +kernel
theorem dX9_move_11 : decode cX9_move 11 = .ok (.ifCond .eq 8, 3) := by decide +kernel
theorem dX9_move_14 : decode cX9_move 14 = .ok (.iload_n 1, 1) := by decide +kernel
theorem dX9_move_15 : decode cX9_move 15 = .ok (.iload_n 2, 1) := by decide +kernel
theorem dX9_move_16 : decode cX9_move 16 = .ok (.if_icmp .ne 5, 3) := by decide +kernel
theorem dX9_move_19 : decode cX9_move 19 = .ok (.iconst (-1), 1) := by decide +kernel
theorem dX9_move_20 : decode cX9_move 20 = .ok (.ireturn, 1) := by decide +kernel
theorem dX9_move_21 : decode cX9_move 21 = .ok (.iload_n 3, 1) := by decide +kernel
theorem dX9_move_22 : decode cX9_move 22 = .ok (.iconst 1, 1) := by decide +kernel
theorem dX9_move_23 : decode cX9_move 23 = .ok (.if_icmp .lt 28, 3) := by decide +kernel
theorem dX9_move_26 : decode cX9_move 26 = .ok (.iload_n 3, 1) := by decide +kernel
theorem dX9_move_27 : decode cX9_move 27 = .ok (.aload_n 0, 1) := by decide +kernel
theorem dX9_move_28 : decode cX9_move 28 = .ok (.iload_n 1, 1) := by decide +kernel
theorem dX9_move_29 : decode cX9_move 29 = .ok (.invokevirtual 169, 3) := by decide +kernel
theorem dX9_move_32 : decode cX9_move 32 = .ok (.if_icmp .gt 19, 3) := by decide +kernel
theorem dX9_move_51 : decode cX9_move 51 = .ok (.bipush (-2), 2) := by decide +kernel
theorem dX9_move_53 : decode cX9_move 53 = .ok (.ireturn, 1) := by decide +kernel
theorem dX9_warm_0 : decode cX9_warm 0 = .ok (.iload_n 1, 1) := by decide +kernel
theorem dX9_warm_1 : decode cX9_warm 1 = .ok (.invokestatic 165, 3) := by decide +kernel
theorem dX9_warm_4 : decode cX9_warm 4 = .ok (.ifCond .eq 22, 3) := by decide +kernel
theorem dX9_warm_7 : decode cX9_warm 7 = .ok (.aload_n 0, 1) := by decide +kernel
theorem dX9_warm_8 : decode cX9_warm 8 = .ok (.iload_n 1, 1) := by decide +kernel
theorem dX9_warm_9 : decode cX9_warm 9 = .ok (.invokevirtual 169, 3) := by decide +kernel
theorem dX9_warm_12 : decode cX9_warm 12 = .ok (.ifCond .eq 14, 3) := by decide +kernel
theorem dX9_warm_26 : decode cX9_warm 26 = .ok (.iconst (-1), 1) := by decide +kernel
theorem dX9_warm_27 : decode cX9_warm 27 = .ok (.ireturn, 1) := by decide +kernel
theorem dX9_jar_0 : decode cX9_jar 0 = .ok (.iload_n 1, 1) := by decide +kernel
theorem dX9_jar_1 : decode cX9_jar 1 = .ok (.invokestatic 165, 3) := by decide +kernel
theorem dX9_jar_4 : decode cX9_jar 4 = .ok (.ifCond .ne 5, 3) := by decide +kernel
theorem dX9_jar_7 : decode cX9_jar 7 = .ok (.iconst (-1), 1) := by decide +kernel
theorem dX9_jar_8 : decode cX9_jar 8 = .ok (.ireturn, 1) := by decide +kernel
theorem dX9_jar_9 : decode cX9_jar 9 = .ok (.iload_n 2, 1) := by decide +kernel
theorem dX9_jar_10 : decode cX9_jar 10 = .ok (.iconst 1, 1) := by decide +kernel
theorem dX9_jar_11 : decode cX9_jar 11 = .ok (.if_icmp .lt 12, 3) := by decide +kernel
theorem dX9_jar_14 : decode cX9_jar 14 = .ok (.iload_n 2, 1) := by decide +kernel
theorem dX9_jar_15 : decode cX9_jar 15 = .ok (.aload_n 0, 1) := by decide +kernel
theorem dX9_jar_16 : decode cX9_jar 16 = .ok (.iload_n 1, 1) := by decide +kernel
theorem dX9_jar_17 : decode cX9_jar 17 = .ok (.invokevirtual 169, 3) := by decide +kernel
theorem dX9_jar_20 : decode cX9_jar 20 = .ok (.if_icmp .le 6, 3) := by decide +kernel
theorem dX9_jar_23 : decode cX9_jar 23 = .ok (.bipush (-2), 2) := by decide +kernel
theorem dX9_jar_25 : decode cX9_jar 25 = .ok (.ireturn, 1) := by decide +kernel
theorem dX9_spill_0 : decode cX9_spill 0 = .ok (.iload_n 1, 1) := by decide +kernel
theorem dX9_spill_1 : decode cX9_spill 1 = .ok (.invokestatic 165, 3) := by decide +kernel
theorem dX9_spill_4 : decode cX9_spill 4 = .ok (.ifCond .ne 5, 3) := by decide +kernel
theorem dX9_spill_7 : decode cX9_spill 7 = .ok (.iconst (-1), 1) := by decide +kernel
theorem dX9_spill_8 : decode cX9_spill 8 = .ok (.ireturn, 1) := by decide +kernel
theorem dX9_spill_9 : decode cX9_spill 9 = .ok (.iload_n 2, 1) := by decide +kernel
theorem dX9_spill_10 : decode cX9_spill 10 = .ok (.iconst 1, 1) := by decide +kernel
theorem dX9_spill_11 : decode cX9_spill 11 = .ok (.if_icmp .lt 12, 3) := by decide +kernel
theorem dX9_spill_14 : decode cX9_spill 14 = .ok (.iload_n 2, 1) := by decide +kernel
theorem dX9_spill_15 : decode cX9_spill 15 = .ok (.aload_n 0, 1) := by decide +kernel
theorem dX9_spill_16 : decode cX9_spill 16 = .ok (.iload_n 1, 1) := by decide +kernel
theorem dX9_spill_17 : decode cX9_spill 17 = .ok (.invokevirtual 169, 3) := by decide +kernel
theorem dX9_spill_20 : decode cX9_spill 20 = .ok (.if_icmp .le 6, 3) := by decide +kernel
theorem dX9_spill_23 : decode cX9_spill 23 = .ok (.bipush (-2), 2) := by decide +kernel
theorem dX9_spill_25 : decode cX9_spill 25 = .ok (.ireturn, 1) := by decide +kernel
theorem dX9_holds_0 : decode cX9_holds 0 = .ok (.aload_n 0, 1) := by decide +kernel
theorem dX9_holds_1 : decode cX9_holds 1 = .ok (.iload_n 1, 1) := by decide +kernel
theorem dX9_holds_2 : decode cX9_holds 2 = .ok (.iload_n 2, 1) := by decide +kernel
theorem dX9_holds_3 : decode cX9_holds 3 = .ok (.invokevirtual 179, 3) := by decide +kernel
theorem dX9_holds_6 : decode cX9_holds 6 = .ok (.istore 4, 2) := by decide +kernel
theorem dX9_holds_8 : decode cX9_holds 8 = .ok (.iload 4, 2) := by decide +kernel
theorem dX9_holds_10 : decode cX9_holds 10 = .ok (.ifCond .ge 5, 3) := by decide +kernel
theorem dX9_holds_13 : decode cX9_holds 13 = .ok (.iconst (-1), 1) := by decide +kernel
theorem dX9_holds_14 : decode cX9_holds 14 = .ok (.ireturn, 1) := by decide +kernel
theorem dX9_holds_15 : decode cX9_holds 15 = .ok (.iconst 0, 1) := by decide +kernel
theorem dX9_holds_16 : decode cX9_holds 16 = .ok (.istore 5, 2) := by decide +kernel
theorem dX9_holds_18 : decode cX9_holds 18 = .ok (.iload_n 3, 1) := by decide +kernel
theorem dX9_holds_19 : decode cX9_holds 19 = .ok (.tableswitch 111 0 4 #[33, 40, 87, 95, 103], 33) := by decide +kernel
theorem dX9_holds_52 : decode cX9_holds 52 = .ok (.aload_n 0, 1) := by decide +kernel
theorem dX9_holds_53 : decode cX9_holds 53 = .ok (.iload 4, 2) := by decide +kernel
theorem dX9_holds_55 : decode cX9_holds 55 = .ok (.invokevirtual 169, 3) := by decide +kernel
theorem dX9_holds_58 : decode cX9_holds 58 = .ok (.ireturn, 1) := by decide +kernel
theorem dX9_holds_59 : decode cX9_holds 59 = .ok (.iconst 0, 1) := by decide +kernel
theorem dX9_holds_60 : decode cX9_holds 60 = .ok (.istore 6, 2) := by decide +kernel
theorem dX9_holds_62 : decode cX9_holds 62 = .ok (.iload 6, 2) := by decide +kernel
theorem dX9_holds_64 : decode cX9_holds 64 = .ok (.aload_n 0, 1) := by decide +kernel
theorem dX9_holds_65 : decode cX9_holds 65 = .ok (.getfield 20, 3) := by decide +kernel
theorem dX9_holds_68 : decode cX9_holds 68 = .ok (.if_icmp .ge 35, 3) := by decide +kernel
theorem dX9_holds_103 : decode cX9_holds 103 = .ok (.iload 5, 2) := by decide +kernel
theorem dX9_holds_105 : decode cX9_holds 105 = .ok (.ireturn, 1) := by decide +kernel
theorem dX9_holds_106 : decode cX9_holds 106 = .ok (.aload_n 0, 1) := by decide +kernel
theorem dX9_holds_107 : decode cX9_holds 107 = .ok (.getfield 41, 3) := by decide +kernel
theorem dX9_holds_110 : decode cX9_holds 110 = .ok (.iload 4, 2) := by decide +kernel
theorem dX9_holds_112 : decode cX9_holds 112 = .ok (.iaload, 1) := by decide +kernel
theorem dX9_holds_113 : decode cX9_holds 113 = .ok (.ireturn, 1) := by decide +kernel
theorem dX9_holds_114 : decode cX9_holds 114 = .ok (.aload_n 0, 1) := by decide +kernel
theorem dX9_holds_115 : decode cX9_holds 115 = .ok (.getfield 44, 3) := by decide +kernel
theorem dX9_holds_118 : decode cX9_holds 118 = .ok (.iload 4, 2) := by decide +kernel
theorem dX9_holds_120 : decode cX9_holds 120 = .ok (.iaload, 1) := by decide +kernel
theorem dX9_holds_121 : decode cX9_holds 121 = .ok (.ireturn, 1) := by decide +kernel
theorem dX9_holds_122 : decode cX9_holds 122 = .ok (.aload_n 0, 1) := by decide +kernel
theorem dX9_holds_123 : decode cX9_holds 123 = .ok (.getfield 47, 3) := by decide +kernel
theorem dX9_holds_126 : decode cX9_holds 126 = .ok (.iload 4, 2) := by decide +kernel
theorem dX9_holds_128 : decode cX9_holds 128 = .ok (.iaload, 1) := by decide +kernel
theorem dX9_holds_129 : decode cX9_holds 129 = .ok (.ireturn, 1) := by decide +kernel
theorem dX9_holds_130 : decode cX9_holds 130 = .ok (.iconst (-1), 1) := by decide +kernel
theorem dX9_holds_131 : decode cX9_holds 131 = .ok (.ireturn, 1) := by decide +kernel
theorem dX9_part_0 : decode cX9_part 0 = .ok (.aload_n 0, 1) := by decide +kernel
theorem dX9_part_1 : decode cX9_part 1 = .ok (.iload_n 1, 1) := by decide +kernel
theorem dX9_part_2 : decode cX9_part 2 = .ok (.iload_n 2, 1) := by decide +kernel
theorem dX9_part_3 : decode cX9_part 3 = .ok (.invokevirtual 179, 3) := by decide +kernel
theorem dX9_part_6 : decode cX9_part 6 = .ok (.istore 4, 2) := by decide +kernel
theorem dX9_part_8 : decode cX9_part 8 = .ok (.iload 4, 2) := by decide +kernel
theorem dX9_part_10 : decode cX9_part 10 = .ok (.ifCond .lt 11, 3) := by decide +kernel
theorem dX9_part_13 : decode cX9_part 13 = .ok (.aload_n 0, 1) := by decide +kernel
theorem dX9_part_14 : decode cX9_part 14 = .ok (.iload_n 3, 1) := by decide +kernel
theorem dX9_part_15 : decode cX9_part 15 = .ok (.invokevirtual 160, 3) := by decide +kernel
theorem dX9_part_18 : decode cX9_part 18 = .ok (.ifCond .ne 7, 3) := by decide +kernel
theorem dX9_part_21 : decode cX9_part 21 = .ok (.iconst (-1), 1) := by decide +kernel
theorem dX9_part_22 : decode cX9_part 22 = .ok (.goto 15, 3) := by decide +kernel
theorem dX9_part_37 : decode cX9_part 37 = .ok (.ireturn, 1) := by decide +kernel
theorem dX9_isMeasure_0 : decode cX9_isMeasure 0 = .ok (.iload_n 0, 1) := by decide +kernel
theorem dX9_isMeasure_1 : decode cX9_isMeasure 1 = .ok (.iconst 0, 1) := by decide +kernel
theorem dX9_isMeasure_2 : decode cX9_isMeasure 2 = .ok (.iconst 2, 1) := by decide +kernel
theorem dX9_isMeasure_3 : decode cX9_isMeasure 3 = .ok (.invokestatic 151, 3) := by decide +kernel
theorem dX9_isMeasure_6 : decode cX9_isMeasure 6 = .ok (.ifCond .ne 36, 3) := by decide +kernel
theorem dX9_isMeasure_9 : decode cX9_isMeasure 9 = .ok (.iload_n 0, 1) := by decide +kernel
theorem dX9_isMeasure_10 : decode cX9_isMeasure 10 = .ok (.bipush 10, 2) := by decide +kernel
theorem dX9_isMeasure_12 : decode cX9_isMeasure 12 = .ok (.bipush 14, 2) := by decide +kernel
theorem dX9_isMeasure_14 : decode cX9_isMeasure 14 = .ok (.invokestatic 151, 3) := by decide +kernel
theorem dX9_isMeasure_17 : decode cX9_isMeasure 17 = .ok (.ifCond .ne 25, 3) := by decide +kernel
theorem dX9_isMeasure_20 : decode cX9_isMeasure 20 = .ok (.iload_n 0, 1) := by decide +kernel
theorem dX9_isMeasure_21 : decode cX9_isMeasure 21 = .ok (.bipush 20, 2) := by decide +kernel
theorem dX9_isMeasure_23 : decode cX9_isMeasure 23 = .ok (.bipush 24, 2) := by decide +kernel
theorem dX9_isMeasure_25 : decode cX9_isMeasure 25 = .ok (.invokestatic 151, 3) := by decide +kernel
theorem dX9_isMeasure_28 : decode cX9_isMeasure 28 = .ok (.ifCond .ne 14, 3) := by decide +kernel
theorem dX9_isMeasure_31 : decode cX9_isMeasure 31 = .ok (.iload_n 0, 1) := by decide +kernel
theorem dX9_isMeasure_32 : decode cX9_isMeasure 32 = .ok (.bipush 30, 2) := by decide +kernel
theorem dX9_isMeasure_34 : decode cX9_isMeasure 34 = .ok (.bipush 33, 2) := by decide +kernel
theorem dX9_isMeasure_36 : decode cX9_isMeasure 36 = .ok (.invokestatic 151, 3) := by decide +kernel
theorem dX9_isMeasure_39 : decode cX9_isMeasure 39 = .ok (.ifCond .eq 7, 3) := by decide +kernel
theorem dX9_isMeasure_42 : decode cX9_isMeasure 42 = .ok (.iconst 1, 1) := by decide +kernel
theorem dX9_isMeasure_43 : decode cX9_isMeasure 43 = .ok (.goto 4, 3) := by decide +kernel
theorem dX9_isMeasure_46 : decode cX9_isMeasure 46 = .ok (.iconst 0, 1) := by decide +kernel
theorem dX9_isMeasure_47 : decode cX9_isMeasure 47 = .ok (.ireturn, 1) := by decide +kernel
theorem dX9_measure_0 : decode cX9_measure 0 = .ok (.aload_n 0, 1) := by decide +kernel
theorem dX9_measure_1 : decode cX9_measure 1 = .ok (.iload_n 1, 1) := by decide +kernel
theorem dX9_measure_2 : decode cX9_measure 2 = .ok (.iload_n 2, 1) := by decide +kernel
theorem dX9_measure_3 : decode cX9_measure 3 = .ok (.invokevirtual 179, 3) := by decide +kernel
theorem dX9_measure_6 : decode cX9_measure 6 = .ok (.istore 4, 2) := by decide +kernel
theorem dX9_measure_8 : decode cX9_measure 8 = .ok (.iload 4, 2) := by decide +kernel
theorem dX9_measure_10 : decode cX9_measure 10 = .ok (.ifCond .lt 19, 3) := by decide +kernel
theorem dX9_measure_13 : decode cX9_measure 13 = .ok (.aload_n 0, 1) := by decide +kernel
theorem dX9_measure_14 : decode cX9_measure 14 = .ok (.iload 4, 2) := by decide +kernel
theorem dX9_measure_16 : decode cX9_measure 16 = .ok (.invokevirtual 169, 3) := by decide +kernel
theorem dX9_measure_19 : decode cX9_measure 19 = .ok (.ifCond .eq 10, 3) := by decide +kernel
theorem dX9_measure_29 : decode cX9_measure 29 = .ok (.iconst (-1), 1) := by decide +kernel
theorem dX9_measure_30 : decode cX9_measure 30 = .ok (.ireturn, 1) := by decide +kernel
theorem dX9_fault_0 : decode cX9_fault 0 = .ok (.iload_n 1, 1) := by decide +kernel
theorem dX9_fault_1 : decode cX9_fault 1 = .ok (.ifCond .ne 10, 3) := by decide +kernel
theorem dX9_fault_4 : decode cX9_fault 4 = .ok (.aload_n 0, 1) := by decide +kernel
theorem dX9_fault_5 : decode cX9_fault 5 = .ok (.getfield 74, 3) := by decide +kernel
theorem dX9_fault_8 : decode cX9_fault 8 = .ok (.goto 16, 3) := by decide +kernel
theorem dX9_fault_11 : decode cX9_fault 11 = .ok (.iload_n 1, 1) := by decide +kernel
theorem dX9_fault_12 : decode cX9_fault 12 = .ok (.iconst 1, 1) := by decide +kernel
theorem dX9_fault_13 : decode cX9_fault 13 = .ok (.if_icmp .ne 10, 3) := by decide +kernel
theorem dX9_fault_16 : decode cX9_fault 16 = .ok (.aload_n 0, 1) := by decide +kernel
theorem dX9_fault_17 : decode cX9_fault 17 = .ok (.getfield 77, 3) := by decide +kernel
theorem dX9_fault_20 : decode cX9_fault 20 = .ok (.goto 4, 3) := by decide +kernel
theorem dX9_fault_23 : decode cX9_fault 23 = .ok (.iconst (-1), 1) := by decide +kernel
theorem dX9_fault_24 : decode cX9_fault 24 = .ok (.ireturn, 1) := by decide +kernel
theorem dX9_shut_0 : decode cX9_shut 0 = .ok (.iload_n 1, 1) := by decide +kernel
theorem dX9_shut_1 : decode cX9_shut 1 = .ok (.ifCond .lt 31, 3) := by decide +kernel
theorem dX9_shut_4 : decode cX9_shut 4 = .ok (.iload_n 1, 1) := by decide +kernel
theorem dX9_shut_5 : decode cX9_shut 5 = .ok (.aload_n 0, 1) := by decide +kernel
theorem dX9_shut_6 : decode cX9_shut 6 = .ok (.getfield 53, 3) := by decide +kernel
theorem dX9_shut_9 : decode cX9_shut 9 = .ok (.if_icmp .ge 23, 3) := by decide +kernel
theorem dX9_shut_32 : decode cX9_shut 32 = .ok (.iconst 0, 1) := by decide +kernel
theorem dX9_shut_33 : decode cX9_shut 33 = .ok (.ireturn, 1) := by decide +kernel
theorem dX9_says_0 : decode cX9_says 0 = .ok (.aload_n 0, 1) := by decide +kernel
theorem dX9_says_1 : decode cX9_says 1 = .ok (.iload_n 2, 1) := by decide +kernel
theorem dX9_says_2 : decode cX9_says 2 = .ok (.iload_n 3, 1) := by decide +kernel
theorem dX9_says_3 : decode cX9_says 3 = .ok (.invokevirtual 179, 3) := by decide +kernel
theorem dX9_says_6 : decode cX9_says 6 = .ok (.istore 4, 2) := by decide +kernel
theorem dX9_says_8 : decode cX9_says 8 = .ok (.iload_n 1, 1) := by decide +kernel
theorem dX9_says_9 : decode cX9_says 9 = .ok (.ifCond .lt 25, 3) := by decide +kernel
theorem dX9_says_12 : decode cX9_says 12 = .ok (.iload_n 1, 1) := by decide +kernel
theorem dX9_says_13 : decode cX9_says 13 = .ok (.aload_n 0, 1) := by decide +kernel
theorem dX9_says_14 : decode cX9_says 14 = .ok (.getfield 53, 3) := by decide +kernel
theorem dX9_says_17 : decode cX9_says 17 = .ok (.if_icmp .ge 17, 3) := by decide +kernel
theorem dX9_says_34 : decode cX9_says 34 = .ok (.iconst (-1), 1) := by decide +kernel
theorem dX9_says_35 : decode cX9_says 35 = .ok (.ireturn, 1) := by decide +kernel
theorem dX9_name__0 : decode cX9_name_ 0 = .ok (.aload_n 0, 1) := by decide +kernel
theorem dX9_name__1 : decode cX9_name_ 1 = .ok (.iload_n 1, 1) := by decide +kernel
theorem dX9_name__2 : decode cX9_name_ 2 = .ok (.iload_n 2, 1) := by decide +kernel
theorem dX9_name__3 : decode cX9_name_ 3 = .ok (.invokevirtual 179, 3) := by decide +kernel
theorem dX9_name__6 : decode cX9_name_ 6 = .ok (.istore 4, 2) := by decide +kernel
theorem dX9_name__8 : decode cX9_name_ 8 = .ok (.iload 4, 2) := by decide +kernel
theorem dX9_name__10 : decode cX9_name_ 10 = .ok (.ifCond .lt 12, 3) := by decide +kernel
theorem dX9_name__13 : decode cX9_name_ 13 = .ok (.aload_n 0, 1) := by decide +kernel
theorem dX9_name__14 : decode cX9_name_ 14 = .ok (.iload 4, 2) := by decide +kernel
theorem dX9_name__16 : decode cX9_name_ 16 = .ok (.invokevirtual 169, 3) := by decide +kernel
theorem dX9_name__19 : decode cX9_name_ 19 = .ok (.ifCond .ne 5, 3) := by decide +kernel
theorem dX9_name__22 : decode cX9_name_ 22 = .ok (.iconst (-1), 1) := by decide +kernel
theorem dX9_name__23 : decode cX9_name_ 23 = .ok (.ireturn, 1) := by decide +kernel
theorem dX9_parts_0 : decode cX9_parts 0 = .ok (.aload_n 0, 1) := by decide +kernel
theorem dX9_parts_1 : decode cX9_parts 1 = .ok (.getfield 117, 3) := by decide +kernel
theorem dX9_parts_4 : decode cX9_parts 4 = .ok (.ifCond .eq 10, 3) := by decide +kernel
theorem dX9_parts_14 : decode cX9_parts 14 = .ok (.iconst (-1), 1) := by decide +kernel
theorem dX9_parts_15 : decode cX9_parts 15 = .ok (.goto 9, 3) := by decide +kernel
theorem dX9_parts_24 : decode cX9_parts 24 = .ok (.ireturn, 1) := by decide +kernel
theorem dX9_found_0 : decode cX9_found 0 = .ok (.iload_n 1, 1) := by decide +kernel
theorem dX9_found_1 : decode cX9_found 1 = .ok (.ifCond .lt 11, 3) := by decide +kernel
theorem dX9_found_4 : decode cX9_found 4 = .ok (.iload_n 1, 1) := by decide +kernel
theorem dX9_found_5 : decode cX9_found 5 = .ok (.aload_n 0, 1) := by decide +kernel
theorem dX9_found_6 : decode cX9_found 6 = .ok (.getfield 142, 3) := by decide +kernel
theorem dX9_found_9 : decode cX9_found 9 = .ok (.if_icmp .lt 7, 3) := by decide +kernel
theorem dX9_found_12 : decode cX9_found 12 = .ok (.iconst (-1), 1) := by decide +kernel
theorem dX9_found_13 : decode cX9_found 13 = .ok (.goto 9, 3) := by decide +kernel
theorem dX9_found_22 : decode cX9_found 22 = .ok (.ireturn, 1) := by decide +kernel
theorem dX9_count_0 : decode cX9_count 0 = .ok (.iload_n 1, 1) := by decide +kernel
theorem dX9_count_1 : decode cX9_count 1 = .ok (.tableswitch 51 0 3 #[31, 36, 41, 46], 31) := by decide +kernel
theorem dX9_count_32 : decode cX9_count 32 = .ok (.aload_n 0, 1) := by decide +kernel
theorem dX9_count_33 : decode cX9_count 33 = .ok (.getfield 20, 3) := by decide +kernel
theorem dX9_count_36 : decode cX9_count 36 = .ok (.ireturn, 1) := by decide +kernel
theorem dX9_count_37 : decode cX9_count 37 = .ok (.aload_n 0, 1) := by decide +kernel
theorem dX9_count_38 : decode cX9_count 38 = .ok (.getfield 50, 3) := by decide +kernel
theorem dX9_count_41 : decode cX9_count 41 = .ok (.ireturn, 1) := by decide +kernel
theorem dX9_count_42 : decode cX9_count 42 = .ok (.aload_n 0, 1) := by decide +kernel
theorem dX9_count_43 : decode cX9_count 43 = .ok (.getfield 53, 3) := by decide +kernel
theorem dX9_count_46 : decode cX9_count 46 = .ok (.ireturn, 1) := by decide +kernel
theorem dX9_count_47 : decode cX9_count 47 = .ok (.aload_n 0, 1) := by decide +kernel
theorem dX9_count_48 : decode cX9_count 48 = .ok (.getfield 17, 3) := by decide +kernel
theorem dX9_count_51 : decode cX9_count 51 = .ok (.ireturn, 1) := by decide +kernel
theorem dX9_count_52 : decode cX9_count 52 = .ok (.iconst (-1), 1) := by decide +kernel
theorem dX9_count_53 : decode cX9_count 53 = .ok (.ireturn, 1) := by decide +kernel
theorem dX9_paid_0 : decode cX9_paid 0 = .ok (.iload_n 1, 1) := by decide +kernel
theorem dX9_paid_1 : decode cX9_paid 1 = .ok (.iconst 0, 1) := by decide +kernel
theorem dX9_paid_2 : decode cX9_paid 2 = .ok (.bipush 9, 2) := by decide +kernel
theorem dX9_paid_4 : decode cX9_paid 4 = .ok (.invokestatic 151, 3) := by decide +kernel
theorem dX9_paid_7 : decode cX9_paid 7 = .ok (.ifCond .ne 7, 3) := by decide +kernel
theorem dX9_paid_10 : decode cX9_paid 10 = .ok (.ldc2_w 173, 3) := by decide +kernel
theorem dX9_paid_13 : decode cX9_paid 13 = .ok (.lreturn, 1) := by decide +kernel
theorem dX9_paid_14 : decode cX9_paid 14 = .ok (.lconst 0, 1) := by decide +kernel
theorem dX9_paid_15 : decode cX9_paid 15 = .ok (.lstore_n 2, 1) := by decide +kernel
theorem dX9_paid_16 : decode cX9_paid 16 = .ok (.iconst 0, 1) := by decide +kernel
theorem dX9_paid_17 : decode cX9_paid 17 = .ok (.istore 4, 2) := by decide +kernel
theorem dX9_paid_19 : decode cX9_paid 19 = .ok (.iload 4, 2) := by decide +kernel
theorem dX9_paid_21 : decode cX9_paid 21 = .ok (.aload_n 0, 1) := by decide +kernel
theorem dX9_paid_22 : decode cX9_paid 22 = .ok (.getfield 20, 3) := by decide +kernel
theorem dX9_paid_25 : decode cX9_paid 25 = .ok (.if_icmp .ge 44, 3) := by decide +kernel
theorem dX9_paid_69 : decode cX9_paid 69 = .ok (.lload_n 2, 1) := by decide +kernel
theorem dX9_paid_70 : decode cX9_paid 70 = .ok (.lreturn, 1) := by decide +kernel
theorem dX9_whose_0 : decode cX9_whose 0 = .ok (.iload_n 1, 1) := by decide +kernel
theorem dX9_whose_1 : decode cX9_whose 1 = .ok (.iconst 0, 1) := by decide +kernel
theorem dX9_whose_2 : decode cX9_whose 2 = .ok (.bipush 9, 2) := by decide +kernel
theorem dX9_whose_4 : decode cX9_whose 4 = .ok (.invokestatic 151, 3) := by decide +kernel
theorem dX9_whose_7 : decode cX9_whose 7 = .ok (.ifCond .eq 12, 3) := by decide +kernel
theorem dX9_whose_10 : decode cX9_whose 10 = .ok (.iload_n 2, 1) := by decide +kernel
theorem dX9_whose_11 : decode cX9_whose 11 = .ok (.iconst 0, 1) := by decide +kernel
theorem dX9_whose_12 : decode cX9_whose 12 = .ok (.iconst 3, 1) := by decide +kernel
theorem dX9_whose_13 : decode cX9_whose 13 = .ok (.invokestatic 151, 3) := by decide +kernel
theorem dX9_whose_16 : decode cX9_whose 16 = .ok (.ifCond .ne 7, 3) := by decide +kernel
theorem dX9_whose_19 : decode cX9_whose 19 = .ok (.ldc2_w 173, 3) := by decide +kernel
theorem dX9_whose_22 : decode cX9_whose 22 = .ok (.lreturn, 1) := by decide +kernel
theorem dX9_whose_23 : decode cX9_whose 23 = .ok (.lconst 0, 1) := by decide +kernel
theorem dX9_whose_24 : decode cX9_whose 24 = .ok (.lstore_n 3, 1) := by decide +kernel
theorem dX9_whose_25 : decode cX9_whose 25 = .ok (.lconst 0, 1) := by decide +kernel
theorem dX9_whose_26 : decode cX9_whose 26 = .ok (.lstore 5, 2) := by decide +kernel
theorem dX9_whose_28 : decode cX9_whose 28 = .ok (.lconst 0, 1) := by decide +kernel
theorem dX9_whose_29 : decode cX9_whose 29 = .ok (.lstore 7, 2) := by decide +kernel
theorem dX9_whose_31 : decode cX9_whose 31 = .ok (.lconst 0, 1) := by decide +kernel
theorem dX9_whose_32 : decode cX9_whose 32 = .ok (.lstore 9, 2) := by decide +kernel
theorem dX9_whose_34 : decode cX9_whose 34 = .ok (.iconst 0, 1) := by decide +kernel
theorem dX9_whose_35 : decode cX9_whose 35 = .ok (.istore 11, 2) := by decide +kernel
theorem dX9_whose_37 : decode cX9_whose 37 = .ok (.iload 11, 2) := by decide +kernel
theorem dX9_whose_39 : decode cX9_whose 39 = .ok (.aload_n 0, 1) := by decide +kernel
theorem dX9_whose_40 : decode cX9_whose 40 = .ok (.getfield 20, 3) := by decide +kernel
theorem dX9_whose_43 : decode cX9_whose 43 = .ok (.if_icmp .ge 141, 3) := by decide +kernel
theorem dX9_whose_184 : decode cX9_whose 184 = .ok (.iload_n 2, 1) := by decide +kernel
theorem dX9_whose_185 : decode cX9_whose 185 = .ok (.ifCond .ne 8, 3) := by decide +kernel
theorem dX9_whose_188 : decode cX9_whose 188 = .ok (.lload 5, 2) := by decide +kernel
theorem dX9_whose_190 : decode cX9_whose 190 = .ok (.goto 33, 3) := by decide +kernel
theorem dX9_whose_193 : decode cX9_whose 193 = .ok (.iload_n 2, 1) := by decide +kernel
theorem dX9_whose_194 : decode cX9_whose 194 = .ok (.iconst 1, 1) := by decide +kernel
theorem dX9_whose_195 : decode cX9_whose 195 = .ok (.if_icmp .ne 8, 3) := by decide +kernel
theorem dX9_whose_198 : decode cX9_whose 198 = .ok (.lload 7, 2) := by decide +kernel
theorem dX9_whose_200 : decode cX9_whose 200 = .ok (.goto 23, 3) := by decide +kernel
theorem dX9_whose_203 : decode cX9_whose 203 = .ok (.iload_n 2, 1) := by decide +kernel
theorem dX9_whose_204 : decode cX9_whose 204 = .ok (.iconst 2, 1) := by decide +kernel
theorem dX9_whose_205 : decode cX9_whose 205 = .ok (.if_icmp .ne 8, 3) := by decide +kernel
theorem dX9_whose_208 : decode cX9_whose 208 = .ok (.lload 9, 2) := by decide +kernel
theorem dX9_whose_210 : decode cX9_whose 210 = .ok (.goto 13, 3) := by decide +kernel
theorem dX9_whose_213 : decode cX9_whose 213 = .ok (.lload_n 3, 1) := by decide +kernel
theorem dX9_whose_214 : decode cX9_whose 214 = .ok (.lload 5, 2) := by decide +kernel
theorem dX9_whose_216 : decode cX9_whose 216 = .ok (.lsub, 1) := by decide +kernel
theorem dX9_whose_217 : decode cX9_whose 217 = .ok (.lload 7, 2) := by decide +kernel
theorem dX9_whose_219 : decode cX9_whose 219 = .ok (.lsub, 1) := by decide +kernel
theorem dX9_whose_220 : decode cX9_whose 220 = .ok (.lload 9, 2) := by decide +kernel
theorem dX9_whose_222 : decode cX9_whose 222 = .ok (.lsub, 1) := by decide +kernel
theorem dX9_whose_223 : decode cX9_whose 223 = .ok (.lreturn, 1) := by decide +kernel
theorem dX9_blend_0 : decode cX9_blend 0 = .ok (.iload_n 1, 1) := by decide +kernel
theorem dX9_blend_1 : decode cX9_blend 1 = .ok (.iconst 1, 1) := by decide +kernel
theorem dX9_blend_2 : decode cX9_blend 2 = .ok (.if_icmp .lt 56, 3) := by decide +kernel
theorem dX9_blend_5 : decode cX9_blend 5 = .ok (.iload_n 1, 1) := by decide +kernel
theorem dX9_blend_6 : decode cX9_blend 6 = .ok (.sipush 1023, 3) := by decide +kernel
theorem dX9_blend_9 : decode cX9_blend 9 = .ok (.if_icmp .gt 49, 3) := by decide +kernel
theorem dX9_blend_12 : decode cX9_blend 12 = .ok (.iload_n 2, 1) := by decide +kernel
theorem dX9_blend_13 : decode cX9_blend 13 = .ok (.iconst 1, 1) := by decide +kernel
theorem dX9_blend_14 : decode cX9_blend 14 = .ok (.bipush 40, 2) := by decide +kernel
theorem dX9_blend_16 : decode cX9_blend 16 = .ok (.invokestatic 151, 3) := by decide +kernel
theorem dX9_blend_19 : decode cX9_blend 19 = .ok (.ifCond .eq 39, 3) := by decide +kernel
theorem dX9_blend_22 : decode cX9_blend 22 = .ok (.iload_n 3, 1) := by decide +kernel
theorem dX9_blend_23 : decode cX9_blend 23 = .ok (.iconst 0, 1) := by decide +kernel
theorem dX9_blend_24 : decode cX9_blend 24 = .ok (.sipush 300, 3) := by decide +kernel
theorem dX9_blend_27 : decode cX9_blend 27 = .ok (.invokestatic 151, 3) := by decide +kernel
theorem dX9_blend_30 : decode cX9_blend 30 = .ok (.ifCond .eq 28, 3) := by decide +kernel
theorem dX9_blend_33 : decode cX9_blend 33 = .ok (.iload 4, 2) := by decide +kernel
theorem dX9_blend_35 : decode cX9_blend 35 = .ok (.iconst 0, 1) := by decide +kernel
theorem dX9_blend_36 : decode cX9_blend 36 = .ok (.sipush 140, 3) := by decide +kernel
theorem dX9_blend_39 : decode cX9_blend 39 = .ok (.invokestatic 151, 3) := by decide +kernel
theorem dX9_blend_42 : decode cX9_blend 42 = .ok (.ifCond .eq 16, 3) := by decide +kernel
theorem dX9_blend_45 : decode cX9_blend 45 = .ok (.iload 5, 2) := by decide +kernel
theorem dX9_blend_47 : decode cX9_blend 47 = .ok (.iload 4, 2) := by decide +kernel
theorem dX9_blend_49 : decode cX9_blend 49 = .ok (.sipush 140, 3) := by decide +kernel
theorem dX9_blend_52 : decode cX9_blend 52 = .ok (.invokestatic 151, 3) := by decide +kernel
theorem dX9_blend_55 : decode cX9_blend 55 = .ok (.ifCond .ne 5, 3) := by decide +kernel
theorem dX9_blend_58 : decode cX9_blend 58 = .ok (.iconst (-1), 1) := by decide +kernel
theorem dX9_blend_59 : decode cX9_blend 59 = .ok (.ireturn, 1) := by decide +kernel
theorem dX9_blend_60 : decode cX9_blend 60 = .ok (.iconst 0, 1) := by decide +kernel
theorem dX9_blend_61 : decode cX9_blend 61 = .ok (.istore 6, 2) := by decide +kernel
theorem dX9_blend_63 : decode cX9_blend 63 = .ok (.iconst 0, 1) := by decide +kernel
theorem dX9_blend_64 : decode cX9_blend 64 = .ok (.istore 7, 2) := by decide +kernel
theorem dX9_blend_66 : decode cX9_blend 66 = .ok (.iload 7, 2) := by decide +kernel
theorem dX9_blend_68 : decode cX9_blend 68 = .ok (.bipush 10, 2) := by decide +kernel
theorem dX9_blend_70 : decode cX9_blend 70 = .ok (.if_icmp .ge 50, 3) := by decide +kernel
theorem dX9_blend_73 : decode cX9_blend 73 = .ok (.iload_n 1, 1) := by decide +kernel
theorem dX9_blend_74 : decode cX9_blend 74 = .ok (.iload 7, 2) := by decide +kernel
theorem dX9_blend_76 : decode cX9_blend 76 = .ok (.ishr, 1) := by decide +kernel
theorem dX9_blend_77 : decode cX9_blend 77 = .ok (.iconst 1, 1) := by decide +kernel
theorem dX9_blend_78 : decode cX9_blend 78 = .ok (.iand, 1) := by decide +kernel
theorem dX9_blend_79 : decode cX9_blend 79 = .ok (.ifCond .ne 6, 3) := by decide +kernel
theorem dX9_blend_82 : decode cX9_blend 82 = .ok (.goto 32, 3) := by decide +kernel
theorem dX9_blend_85 : decode cX9_blend 85 = .ok (.iload 6, 2) := by decide +kernel
theorem dX9_blend_87 : decode cX9_blend 87 = .ok (.iconst 4, 1) := by decide +kernel
theorem dX9_blend_88 : decode cX9_blend 88 = .ok (.if_icmp .eq 12, 3) := by decide +kernel
theorem dX9_blend_91 : decode cX9_blend 91 = .ok (.aload_n 0, 1) := by decide +kernel
theorem dX9_blend_92 : decode cX9_blend 92 = .ok (.iload 7, 2) := by decide +kernel
theorem dX9_blend_94 : decode cX9_blend 94 = .ok (.invokevirtual 169, 3) := by decide +kernel
theorem dX9_blend_97 : decode cX9_blend 97 = .ok (.ifCond .ne 5, 3) := by decide +kernel
theorem dX9_blend_100 : decode cX9_blend 100 = .ok (.iconst (-1), 1) := by decide +kernel
theorem dX9_blend_101 : decode cX9_blend 101 = .ok (.ireturn, 1) := by decide +kernel
theorem dX9_blend_114 : decode cX9_blend 114 = .ok (.iinc 7 1, 3) := by decide +kernel
theorem dX9_blend_117 : decode cX9_blend 117 = .ok (.goto (-51), 3) := by decide +kernel
set_option maxRecDepth 20000 in
theorem ggX9_row_X9_isTank : GoodIn wsX9_row wsX9_isTank := goodIn_r _ [5] (by decide +kernel) (by decide +kernel)
set_option maxRecDepth 20000 in
theorem gX9_row_X9_isTank : GoodIn wsX9_row (va_wsS RX9 165 yX9_isTank wsX9_isTank) := goodIn_app (goodIn_of _ (by decide +kernel)) ggX9_row_X9_isTank
set_option maxRecDepth 20000 in
theorem ggX9_pollen_X9_isLot : GoodIn wsX9_pollen wsX9_isLot := goodIn_r _ [7, 8, 12, 13, 14, 15, 16, 17, 18, 19, 20, 21, 22, 23, 24, 25, 26, 27, 28, 29, 30, 31, 32, 33, 34, 35, 36, 37, 38, 39, 40, 41, 42, 43, 44, 45, 46, 47, 48, 49, 50, 51, 52, 53, 54, 55] (by decide +kernel) (by decide +kernel)
set_option maxRecDepth 20000 in
theorem gX9_pollen_X9_isLot : GoodIn wsX9_pollen (wsV RX9 160 RX9 yX9_isLot wsX9_isLot) := goodIn_app (goodIn_of _ (by decide +kernel)) ggX9_pollen_X9_isLot
set_option maxRecDepth 20000 in
theorem ggX9_test_X9_isLot : GoodIn wsX9_test wsX9_isLot := goodIn_r _ [7, 8, 18, 19, 20, 21, 22, 23, 24, 25, 26, 27, 28, 29, 30, 31, 32, 33, 34, 35, 36, 37, 38, 39, 40, 41, 42, 43, 44, 45, 46, 47, 48, 49, 50, 51, 52, 53, 54, 55, 56, 57, 58, 59, 60, 61] (by decide +kernel) (by decide +kernel)
set_option maxRecDepth 20000 in
theorem gX9_test_X9_isLot : GoodIn wsX9_test (wsV RX9 160 RX9 yX9_isLot wsX9_isLot) := goodIn_app (goodIn_of _ (by decide +kernel)) ggX9_test_X9_isLot
set_option maxRecDepth 20000 in
theorem ggX9_of_X9_isLot : GoodIn wsX9_of wsX9_isLot := goodIn_r _ [6, 7, 11, 12, 13, 14, 15, 16, 17, 18, 19, 20, 21, 22, 23, 24, 25, 26, 27, 28, 29, 30, 31, 32, 33, 34, 35, 36, 37, 38, 39, 40, 41, 42, 43, 44, 45, 46, 47, 48, 49, 50, 51, 52, 53, 54] (by decide +kernel) (by decide +kernel)
set_option maxRecDepth 20000 in
theorem gX9_of_X9_isLot : GoodIn wsX9_of (wsV RX9 160 RX9 yX9_isLot wsX9_isLot) := goodIn_app (goodIn_of _ (by decide +kernel)) ggX9_of_X9_isLot
set_option maxRecDepth 20000 in
theorem ggX9_span_X9_isLot : GoodIn wsX9_span wsX9_isLot := goodIn_r _ [7, 8, 12, 13, 14, 15, 16, 17, 18, 19, 20, 21, 22, 23, 24, 25, 26, 27, 28, 29, 30, 31, 32, 33, 34, 35, 36, 37, 38, 39, 40, 41, 42, 43, 44, 45, 46, 47, 48, 49, 50, 51, 52, 53, 54, 55] (by decide +kernel) (by decide +kernel)
set_option maxRecDepth 20000 in
theorem gX9_span_X9_isLot : GoodIn wsX9_span (wsV RX9 160 RX9 yX9_isLot wsX9_isLot) := goodIn_app (goodIn_of _ (by decide +kernel)) ggX9_span_X9_isLot
set_option maxRecDepth 20000 in
theorem ggX9_trace_X9_isLot : GoodIn wsX9_trace wsX9_isLot := goodIn_r _ [9, 10, 11, 12, 13, 14, 15, 16, 17, 18, 19, 20, 21, 22, 23, 24, 25, 26, 27, 28, 29, 30, 31, 32, 33, 34, 35, 36, 37, 38, 39, 40, 41, 42, 43, 44, 45, 46, 47, 48, 49, 50, 51, 52, 53, 54] (by decide +kernel) (by decide +kernel)
set_option maxRecDepth 20000 in
theorem gX9_trace_X9_isLot : GoodIn wsX9_trace (wsV RX9 160 RX9 yX9_isLot wsX9_isLot) := goodIn_app (goodIn_of _ (by decide +kernel)) ggX9_trace_X9_isLot
set_option maxRecDepth 20000 in
theorem ggX9_pour_X9_isLot : GoodIn wsX9_pour wsX9_isLot := goodIn_r _ [8, 9, 17, 18, 19, 20, 21, 22, 23, 24, 25, 26, 27, 28, 29, 30, 31, 32, 33, 34, 35, 36, 37, 38, 39, 40, 41, 42, 43, 44, 45, 46, 47, 48, 49, 50, 51, 52, 53, 54, 55, 56, 57, 58, 59, 60] (by decide +kernel) (by decide +kernel)
set_option maxRecDepth 20000 in
theorem gX9_pour_X9_isLot : GoodIn wsX9_pour (wsV RX9 160 RX9 yX9_isLot wsX9_isLot) := goodIn_app (goodIn_of _ (by decide +kernel)) ggX9_pour_X9_isLot
set_option maxRecDepth 20000 in
theorem ggX9_move_X9_isTank : GoodIn wsX9_move wsX9_isTank := goodIn_r _ [9] (by decide +kernel) (by decide +kernel)
set_option maxRecDepth 20000 in
theorem gX9_move_X9_isTank : GoodIn wsX9_move (va_wsS RX9 165 yX9_isTank wsX9_isTank) := goodIn_app (goodIn_of _ (by decide +kernel)) ggX9_move_X9_isTank
set_option maxRecDepth 20000 in
theorem ggX9_move_X9_all : GoodIn wsX9_move wsX9_all := goodIn_r _ [13, 3, 4, 20, 21, 22, 23, 24, 25, 26, 27, 28, 29, 30, 31, 32, 33, 34, 35, 36, 37, 38, 39, 40, 41, 42, 43, 44, 45, 46, 47, 48, 49, 50, 51, 52, 53, 54, 55, 56, 57, 58, 59, 60, 61, 62, 63] (by decide +kernel) (by decide +kernel)
set_option maxRecDepth 20000 in
theorem gX9_move_X9_all : GoodIn wsX9_move (wsV RX9 169 RX9 yX9_all wsX9_all) := goodIn_app (goodIn_of _ (by decide +kernel)) ggX9_move_X9_all
set_option maxRecDepth 20000 in
theorem ggX9_warm_X9_isTank : GoodIn wsX9_warm wsX9_isTank := goodIn_r _ [5] (by decide +kernel) (by decide +kernel)
set_option maxRecDepth 20000 in
theorem gX9_warm_X9_isTank : GoodIn wsX9_warm (va_wsS RX9 165 yX9_isTank wsX9_isTank) := goodIn_app (goodIn_of _ (by decide +kernel)) ggX9_warm_X9_isTank
set_option maxRecDepth 20000 in
theorem ggX9_warm_X9_all : GoodIn wsX9_warm wsX9_all := goodIn_r _ [9, 10, 11, 15, 16, 17, 18, 19, 20, 21, 22, 23, 24, 25, 26, 27, 28, 29, 30, 31, 32, 33, 34, 35, 36, 37, 38, 39, 40, 41, 42, 43, 44, 45, 46, 47, 48, 49, 50, 51, 52, 53, 54, 55, 56, 57, 58] (by decide +kernel) (by decide +kernel)
set_option maxRecDepth 20000 in
theorem gX9_warm_X9_all : GoodIn wsX9_warm (wsV RX9 169 RX9 yX9_all wsX9_all) := goodIn_app (goodIn_of _ (by decide +kernel)) ggX9_warm_X9_all
set_option maxRecDepth 20000 in
theorem ggX9_jar_X9_isTank : GoodIn wsX9_jar wsX9_isTank := goodIn_r _ [12] (by decide +kernel) (by decide +kernel)
set_option maxRecDepth 20000 in
theorem gX9_jar_X9_isTank : GoodIn wsX9_jar (va_wsS RX9 165 yX9_isTank wsX9_isTank) := goodIn_app (goodIn_of _ (by decide +kernel)) ggX9_jar_X9_isTank
set_option maxRecDepth 20000 in
theorem ggX9_jar_X9_all : GoodIn wsX9_jar wsX9_all := goodIn_r _ [16, 7, 6, 23, 24, 25, 26, 27, 28, 29, 30, 31, 32, 33, 34, 35, 36, 37, 38, 39, 40, 41, 42, 43, 44, 45, 46, 47, 48, 49, 50, 51, 52, 53, 54, 55, 56, 57, 58, 59, 60, 61, 62, 63, 64, 65, 66] (by decide +kernel) (by decide +kernel)
set_option maxRecDepth 20000 in
theorem gX9_jar_X9_all : GoodIn wsX9_jar (wsV RX9 169 RX9 yX9_all wsX9_all) := goodIn_app (goodIn_of _ (by decide +kernel)) ggX9_jar_X9_all
set_option maxRecDepth 20000 in
theorem ggX9_spill_X9_isTank : GoodIn wsX9_spill wsX9_isTank := goodIn_r _ [4] (by decide +kernel) (by decide +kernel)
set_option maxRecDepth 20000 in
theorem gX9_spill_X9_isTank : GoodIn wsX9_spill (va_wsS RX9 165 yX9_isTank wsX9_isTank) := goodIn_app (goodIn_of _ (by decide +kernel)) ggX9_spill_X9_isTank
set_option maxRecDepth 20000 in
theorem ggX9_spill_X9_all : GoodIn wsX9_spill wsX9_all := goodIn_r _ [8, 9, 10, 19, 20, 21, 22, 23, 24, 25, 26, 27, 28, 29, 30, 31, 32, 33, 34, 35, 36, 37, 38, 39, 40, 41, 42, 43, 44, 45, 46, 47, 48, 49, 50, 51, 52, 53, 54, 55, 56, 57, 58, 59, 60, 61, 62] (by decide +kernel) (by decide +kernel)
set_option maxRecDepth 20000 in
theorem gX9_spill_X9_all : GoodIn wsX9_spill (wsV RX9 169 RX9 yX9_all wsX9_all) := goodIn_app (goodIn_of _ (by decide +kernel)) ggX9_spill_X9_all
set_option maxRecDepth 20000 in
theorem ggX9_holds_X9_row : GoodIn wsX9_holds wsX9_row := goodIn_r _ [10, 11, 12, 13, 9, 14, 19, 20, 21, 22, 23, 24, 25, 26, 27, 28, 29, 30, 31, 32, 33, 34, 35, 36, 37, 38, 39, 40, 41, 42, 43, 44, 45, 46, 47, 48, 49, 50, 51, 52, 53, 54, 55, 56, 57, 58, 59, 60, 61, 62] (by decide +kernel) (by decide +kernel)
set_option maxRecDepth 20000 in
theorem gX9_holds_X9_row : GoodIn wsX9_holds (wsV RX9 179 RX9 yX9_row wsX9_row) := goodIn_app (goodIn_of _ (by decide +kernel)) ggX9_holds_X9_row
set_option maxRecDepth 20000 in
theorem ggX9_holds_X9_all : GoodIn wsX9_holds wsX9_all := goodIn_r _ [18, 1, 2, 19, 20, 21, 22, 23, 24, 25, 26, 27, 28, 29, 30, 31, 32, 33, 34, 35, 36, 37, 38, 39, 40, 41, 42, 43, 44, 45, 46, 47, 48, 49, 50, 51, 52, 53, 54, 55, 56, 57, 58, 59, 60, 61, 62] (by decide +kernel) (by decide +kernel)
set_option maxRecDepth 20000 in
theorem gX9_holds_X9_all : GoodIn wsX9_holds (wsV RX9 169 RX9 yX9_all wsX9_all) := goodIn_app (goodIn_of _ (by decide +kernel)) ggX9_holds_X9_all
set_option maxRecDepth 20000 in
theorem ggX9_part_X9_row : GoodIn wsX9_part wsX9_row := goodIn_r _ [6, 7, 8, 9, 5, 10, 16, 17, 18, 19, 20, 21, 22, 23, 24, 25, 26, 27, 28, 29, 30, 31, 32, 33, 34, 35, 36, 37, 38, 39, 40, 41, 42, 43, 44, 45, 46, 47, 48, 49, 50, 51, 52, 53, 54, 55, 56, 57, 58, 59] (by decide +kernel) (by decide +kernel)
set_option maxRecDepth 20000 in
theorem gX9_part_X9_row : GoodIn wsX9_part (wsV RX9 179 RX9 yX9_row wsX9_row) := goodIn_app (goodIn_of _ (by decide +kernel)) ggX9_part_X9_row
set_option maxRecDepth 20000 in
theorem ggX9_part_X9_isLot : GoodIn wsX9_part wsX9_isLot := goodIn_r _ [14, 15, 16, 17, 18, 19, 20, 21, 22, 23, 24, 25, 26, 27, 28, 29, 30, 31, 32, 33, 34, 35, 36, 37, 38, 39, 40, 41, 42, 43, 44, 45, 46, 47, 48, 49, 50, 51, 52, 53, 54, 55, 56, 57, 58, 59] (by decide +kernel) (by decide +kernel)
set_option maxRecDepth 20000 in
theorem gX9_part_X9_isLot : GoodIn wsX9_part (wsV RX9 160 RX9 yX9_isLot wsX9_isLot) := goodIn_app (goodIn_of _ (by decide +kernel)) ggX9_part_X9_isLot
set_option maxRecDepth 20000 in
theorem ggX9_isMeasure_X9_is : GoodIn wsX9_isMeasure wsX9_is := goodIn_r _ [4] (by decide +kernel) (by decide +kernel)
set_option maxRecDepth 20000 in
theorem gX9_isMeasure_X9_is : GoodIn wsX9_isMeasure (va_wsS RX9 151 yX9_is wsX9_is) := goodIn_app (goodIn_of _ (by decide +kernel)) ggX9_isMeasure_X9_is
set_option maxRecDepth 20000 in
theorem ggX9_measure_X9_row : GoodIn wsX9_measure wsX9_row := goodIn_r _ [7, 8, 9, 10, 6, 11, 31, 32, 33, 34, 35, 36, 37, 38, 39, 40, 41, 42, 43, 44, 45, 46, 47, 48, 49, 50, 51, 52, 53, 54, 55, 56, 57, 58, 59, 60, 61, 62, 63, 64, 65, 66, 67, 68, 69, 70, 71, 72, 73, 74] (by decide +kernel) (by decide +kernel)
set_option maxRecDepth 20000 in
theorem gX9_measure_X9_row : GoodIn wsX9_measure (wsV RX9 179 RX9 yX9_row wsX9_row) := goodIn_app (goodIn_of _ (by decide +kernel)) ggX9_measure_X9_row
set_option maxRecDepth 20000 in
theorem ggX9_measure_X9_all : GoodIn wsX9_measure wsX9_all := goodIn_r _ [15, 16, 17, 31, 32, 33, 34, 35, 36, 37, 38, 39, 40, 41, 42, 43, 44, 45, 46, 47, 48, 49, 50, 51, 52, 53, 54, 55, 56, 57, 58, 59, 60, 61, 62, 63, 64, 65, 66, 67, 68, 69, 70, 71, 72, 73, 74] (by decide +kernel) (by decide +kernel)
set_option maxRecDepth 20000 in
theorem gX9_measure_X9_all : GoodIn wsX9_measure (wsV RX9 169 RX9 yX9_all wsX9_all) := goodIn_app (goodIn_of _ (by decide +kernel)) ggX9_measure_X9_all
set_option maxRecDepth 20000 in
theorem ggX9_says_X9_row : GoodIn wsX9_says wsX9_row := goodIn_r _ [6, 7, 8, 9, 5, 10, 36, 37, 38, 39, 40, 41, 42, 43, 44, 45, 46, 47, 48, 49, 50, 51, 52, 53, 54, 55, 56, 57, 58, 59, 60, 61, 62, 63, 64, 65, 66, 67, 68, 69, 70, 71, 72, 73, 74, 75, 76, 77, 78, 79] (by decide +kernel) (by decide +kernel)
set_option maxRecDepth 20000 in
theorem gX9_says_X9_row : GoodIn wsX9_says (wsV RX9 179 RX9 yX9_row wsX9_row) := goodIn_app (goodIn_of _ (by decide +kernel)) ggX9_says_X9_row
set_option maxRecDepth 20000 in
theorem ggX9_name__X9_row : GoodIn wsX9_name_ wsX9_row := goodIn_r _ [6, 7, 8, 9, 5, 10, 48, 49, 50, 51, 52, 53, 54, 55, 56, 57, 58, 59, 60, 61, 62, 63, 64, 65, 66, 67, 68, 69, 70, 71, 72, 73, 74, 75, 76, 77, 78, 79, 80, 81, 82, 83, 84, 85, 86, 87, 88, 89, 90, 91] (by decide +kernel) (by decide +kernel)
set_option maxRecDepth 20000 in
theorem gX9_name__X9_row : GoodIn wsX9_name_ (wsV RX9 179 RX9 yX9_row wsX9_row) := goodIn_app (goodIn_of _ (by decide +kernel)) ggX9_name__X9_row
set_option maxRecDepth 20000 in
theorem ggX9_name__X9_all : GoodIn wsX9_name_ wsX9_all := goodIn_r _ [14, 15, 16, 48, 49, 50, 51, 52, 53, 54, 55, 56, 57, 58, 59, 60, 61, 62, 63, 64, 65, 66, 67, 68, 69, 70, 71, 72, 73, 74, 75, 76, 77, 78, 79, 80, 81, 82, 83, 84, 85, 86, 87, 88, 89, 90, 91] (by decide +kernel) (by decide +kernel)
set_option maxRecDepth 20000 in
theorem gX9_name__X9_all : GoodIn wsX9_name_ (wsV RX9 169 RX9 yX9_all wsX9_all) := goodIn_app (goodIn_of _ (by decide +kernel)) ggX9_name__X9_all
set_option maxRecDepth 20000 in
theorem ggX9_paid_X9_is : GoodIn wsX9_paid wsX9_is := goodIn_r _ [7] (by decide +kernel) (by decide +kernel)
set_option maxRecDepth 20000 in
theorem gX9_paid_X9_is : GoodIn wsX9_paid (va_wsS RX9 151 yX9_is wsX9_is) := goodIn_app (goodIn_of _ (by decide +kernel)) ggX9_paid_X9_is
set_option maxRecDepth 20000 in
theorem ggX9_whose_X9_is : GoodIn wsX9_whose wsX9_is := goodIn_r _ [9] (by decide +kernel) (by decide +kernel)
set_option maxRecDepth 20000 in
theorem gX9_whose_X9_is : GoodIn wsX9_whose (va_wsS RX9 151 yX9_is wsX9_is) := goodIn_app (goodIn_of _ (by decide +kernel)) ggX9_whose_X9_is
set_option maxRecDepth 20000 in
theorem ggX9_blend_X9_is : GoodIn wsX9_blend wsX9_is := goodIn_r _ [15] (by decide +kernel) (by decide +kernel)
set_option maxRecDepth 20000 in
theorem gX9_blend_X9_is : GoodIn wsX9_blend (va_wsS RX9 151 yX9_is wsX9_is) := goodIn_app (goodIn_of _ (by decide +kernel)) ggX9_blend_X9_is
set_option maxRecDepth 20000 in
theorem ggX9_blend_X9_all : GoodIn wsX9_blend wsX9_all := goodIn_r _ [19, 20, 21, 29, 30, 31, 32, 33, 34, 35, 36, 37, 38, 39, 40, 41, 42, 43, 44, 45, 46, 47, 48, 49, 50, 51, 52, 53, 54, 55, 56, 57, 58, 59, 60, 61, 62, 63, 64, 65, 66, 67, 68, 69, 70, 71, 72] (by decide +kernel) (by decide +kernel)
set_option maxRecDepth 20000 in
theorem gX9_blend_X9_all : GoodIn wsX9_blend (wsV RX9 169 RX9 yX9_all wsX9_all) := goodIn_app (goodIn_of _ (by decide +kernel)) ggX9_blend_X9_all
theorem i_ge0 {n : Int32} (a : ¬ n < 0) : ¬ n < 0 := a
theorem i_gt0 {g : Int32} (a : ¬ g < 1) : 0 < g := by
  rw [i_lt] at a
  rw [i_lt]
  have h0 : (0 : Int32).toInt = 0 := by decide
  have h1 : (1 : Int32).toInt = 1 := by decide
  rw [h0]; rw [h1] at a
  omega
set_option maxHeartbeats 4000000 in
set_option maxRecDepth 100000 in
theorem s_X9_isLot (l : Launch) (D : va_G) (ws : va_W) (tys : List (ClassId × FieldType)) (h0 k0 : Nat) (fs : List Value) (a1 : Int32) (e0 : ws[k0]? = some (h0, .inr (9, fs))) (f3 : fs[3]? = some (.int 0)) : Met l yX9_isLot wsX9_isLot ({ frames := 0, cells := 0, slots := 0, locals := 0 }) (va_Pc [.ref h0, .int a1] (fun U => va_P D vwCl ws U.heap ∧ va_K D vwCl tys U)) (vp_Si (fun r => r = 0)) 0 0 (fun _ => False) := by
  refine Met.ofW (cc := cX9_isLot) (maxL := 2) (ret := (some .boolean)) (by decide) rfl ?_
  intro p e s m args below meth c s₁ B hml hv
  obtain ⟨rfl, hP, hK⟩ := hv
  have hx := B.exec
  have hb := B.bytes
  have hr := B.returns
  have hts := atoms_spec (ws := wsX9_isLot) B.pre
  have hown : s.vm.findClass RX9 = some m.cls := findClass_of_methodNamed B.named
  have hlocks := B.notSynchronized
  have hin9 : ∀ w ∈ u_ws RX9 TX9 44, w ∈ wsX9_isLot := (fun _ h9 => List.mem_cons_of_mem _ ((List.mem_append_right _ h9)))
  have hl := lv_entry ([.ref h0, .int a1]) (n := 2) (Nat.le_of_ble_eq_true rfl)
  rw [lg_entry_eq]
  generalize (lg_sl ([.ref h0, .int a1]) ++ List.replicate (2 - (lg_sl ([.ref h0, .int a1])).length) Slot.unset).toArray = ls at hl ⊢
  have hl : lv_has ls 2 [(0, .ref h0), (1, .int a1)] := hl
  refine lv_iload_n hx hb dX9_isLot_0 rfl (lv_at hl 1 rfl) ?_
  refine lv_if_lt (tgt := 16) hx hb dX9_isLot_1 (by decide) (fun c_1 => ?_) (fun c_1 => ?_)
  · refine lv_iconst (v := 0) hx hb dX9_isLot_16 (by decide) ?_
    exact W.zret (v := 0) hx hb hr rfl (fun t ht hW => ⟨0, rfl, rfl, ht⟩) (fun _ h9 => by cases h9) dX9_isLot_17
  refine lv_iload_n hx hb dX9_isLot_4 rfl (lv_at hl 1 rfl) ?_
  refine lv_aload_n hx hb dX9_isLot_5 rfl (lv_at hl 0 rfl) ?_
  refine va_get (D := D) (ci := 9) (v := .int 0) (C := RX9) (T := TX9) (N := 44) hx hb hts hin9 hown hK hP k0 e0 rfl 3 (by decide) (hts (.fieldLink RX9 20 "HoneyHouseModel" "lots" "I") (List.mem_of_getElem? (i := 1) rfl)) (fun _ h9 => h9) f3 dX9_isLot_6 ?_
  refine lv_icmp_ge (tgt := 16) hx hb dX9_isLot_9 (by decide) (fun c_2 => ?_) (fun c_2 => absurd (i_nlt c_1) c_2)
  refine lv_iconst (v := 0) hx hb dX9_isLot_16 (by decide) ?_
  exact W.zret (v := 0) hx hb hr rfl (fun t ht hW => ⟨0, rfl, rfl, ht⟩) (fun _ h9 => by cases h9) dX9_isLot_17
set_option maxHeartbeats 4000000 in
set_option maxRecDepth 100000 in
theorem s_X9_all (l : Launch) (D : va_G) (ws : va_W) (tys : List (ClassId × FieldType)) (h0 k0 : Nat) (fs : List Value) (a1 : Int32) (e0 : ws[k0]? = some (h0, .inr (9, fs))) (f3 : fs[3]? = some (.int 0)) : Met l yX9_all wsX9_all ({ frames := 0, cells := 0, slots := 0, locals := 0 }) (va_Pc [.ref h0, .int a1] (fun U => va_P D vwCl ws U.heap ∧ va_K D vwCl tys U)) (vp_Si (fun r => r = 0)) 0 0 (fun _ => False) := by
  refine Met.ofW (cc := cX9_all) (maxL := 4) (ret := (some .int)) (by decide) rfl ?_
  intro p e s m args below meth c s₁ B hml hv
  obtain ⟨rfl, hP, hK⟩ := hv
  have hx := B.exec
  have hb := B.bytes
  have hr := B.returns
  have hts := atoms_spec (ws := wsX9_all) B.pre
  have hown : s.vm.findClass RX9 = some m.cls := findClass_of_methodNamed B.named
  have hlocks := B.notSynchronized
  have hin9 : ∀ w ∈ u_ws RX9 TX9 44, w ∈ wsX9_all := (fun _ h9 => List.mem_cons_of_mem _ ((List.mem_append_right _ h9)))
  have hl := lv_entry ([.ref h0, .int a1]) (n := 4) (Nat.le_of_ble_eq_true rfl)
  rw [lg_entry_eq]
  generalize (lg_sl ([.ref h0, .int a1]) ++ List.replicate (4 - (lg_sl ([.ref h0, .int a1])).length) Slot.unset).toArray = ls at hl ⊢
  have hl : lv_has ls 4 [(0, .ref h0), (1, .int a1)] := hl
  refine lv_iconst (v := 0) hx hb dX9_all_0 (by decide) ?_
  refine lv_istore_n (lv' := [(2, .int 0), (0, .ref h0), (1, .int a1)]) hx hb dX9_all_1 rfl hl (by decide) rfl (fun ls hl => ?_)
  refine lv_iconst (v := 0) hx hb dX9_all_2 (by decide) ?_
  refine lv_istore_n (lv' := [(3, .int 0), (2, .int 0), (0, .ref h0), (1, .int a1)]) hx hb dX9_all_3 rfl hl (by decide) rfl (fun ls hl => ?_)
  refine lv_iload_n hx hb dX9_all_4 rfl (lv_at hl 0 rfl) ?_
  refine lv_aload_n hx hb dX9_all_5 rfl (lv_at hl 2 rfl) ?_
  refine va_get (D := D) (ci := 9) (v := .int 0) (C := RX9) (T := TX9) (N := 44) hx hb hts hin9 hown hK hP k0 e0 rfl 3 (by decide) (hts (.fieldLink RX9 20 "HoneyHouseModel" "lots" "I") (List.mem_of_getElem? (i := 1) rfl)) (fun _ h9 => h9) f3 dX9_all_6 ?_
  refine lv_icmp_ge (tgt := 32) hx hb dX9_all_9 (by decide) (fun c_1 => ?_) (fun c_1 => absurd (by decide) c_1)
  refine lv_iload_n hx hb dX9_all_32 rfl (lv_at hl 1 rfl) ?_
  exact W.iret (v := 0) hx hb hr (fun t ht hW => ⟨0, rfl, rfl, ht⟩) (fun _ h9 => by cases h9) dX9_all_33
set_option maxHeartbeats 4000000 in
set_option maxRecDepth 100000 in
theorem s_X9_row (l : Launch) (D : va_G) (ws : va_W) (tys : List (ClassId × FieldType)) (h0 k0 : Nat) (fs : List Value) (a1 a2 : Int32) (e0 : ws[k0]? = some (h0, .inr (9, fs))) (f13 : fs[13]? = some (.int 0)) : Met l yX9_row wsX9_row ({ frames := 1, cells := 0, slots := 0, locals := 20 }) (va_Pc [.ref h0, .int a1, .int a2] (fun U => va_P D vwCl ws U.heap ∧ va_K D vwCl tys U)) (vp_Si (fun r => (r = (-1) ∧ (¬ a1 = 0 ∨ a2 < 0 ∨ 9 < a2)) ∨ (a1 = 0 ∧ ¬ a2 < 0 ∧ ¬ 9 < a2 ∧ r = a2))) 0 0 (fun _ => False) := by
  refine Met.ofW (cc := cX9_row) (maxL := 3) (ret := (some .int)) (by decide) rfl ?_
  intro p e s m args below meth c s₁ B hml hv
  obtain ⟨rfl, hP, hK⟩ := hv
  have hx := B.exec
  have hb := B.bytes
  have hr := B.returns
  have hts := atoms_spec (ws := wsX9_row) B.pre
  have hown : s.vm.findClass RX9 = some m.cls := findClass_of_methodNamed B.named
  have hlocks := B.notSynchronized
  have hin9 : ∀ w ∈ u_ws RX9 TX9 44, w ∈ wsX9_row := (fun _ h9 => List.mem_cons_of_mem _ ((List.mem_append_right _ h9)))
  have hl := lv_entry ([.ref h0, .int a1, .int a2]) (n := 3) (Nat.le_of_ble_eq_true rfl)
  rw [lg_entry_eq]
  generalize (lg_sl ([.ref h0, .int a1, .int a2]) ++ List.replicate (3 - (lg_sl ([.ref h0, .int a1, .int a2])).length) Slot.unset).toArray = ls at hl ⊢
  have hl : lv_has ls 3 [(0, .ref h0), (1, .int a1), (2, .int a2)] := hl
  refine lv_iload_n hx hb dX9_row_0 rfl (lv_at hl 1 rfl) ?_
  refine lv_if_ne (tgt := 17) hx hb dX9_row_1 (by decide) (fun c_1 => ?_) (fun c_1 => ?_)
  · refine lv_iload_n hx hb dX9_row_17 rfl (lv_at hl 1 rfl) ?_
    refine lv_iconst (v := 1) hx hb dX9_row_18 (by decide) ?_
    refine lv_icmp_ne (tgt := 41) hx hb dX9_row_19 (by decide) (fun c_2 => ?_) (fun c_2 => ?_)
    · refine lv_iconst (v := (-1)) hx hb dX9_row_41 (by decide) ?_
      exact W.iret (v := (-1)) hx hb hr (fun t ht hW => ⟨(-1), rfl, (by simp_all), ht⟩) (fun _ h9 => by cases h9) dX9_row_42
    refine lv_iload_n hx hb dX9_row_22 rfl (lv_at hl 2 rfl) ?_
    refine lv_if_lt (tgt := 41) hx hb dX9_row_23 (by decide) (fun c_3 => ?_) (fun c_3 => ?_)
    · refine lv_iconst (v := (-1)) hx hb dX9_row_41 (by decide) ?_
      exact W.iret (v := (-1)) hx hb hr (fun t ht hW => ⟨(-1), rfl, (by simp_all), ht⟩) (fun _ h9 => by cases h9) dX9_row_42
    refine lv_iload_n hx hb dX9_row_26 rfl (lv_at hl 2 rfl) ?_
    refine lv_aload_n hx hb dX9_row_27 rfl (lv_at hl 0 rfl) ?_
    refine va_get (D := D) (ci := 9) (v := .int 0) (C := RX9) (T := TX9) (N := 44) hx hb hts hin9 hown hK hP k0 e0 rfl 13 (by decide) (hts (.fieldLink RX9 50 "HoneyHouseModel" "batches" "I") (List.mem_of_getElem? (i := 1) rfl)) (fun _ h9 => h9) f13 dX9_row_28 ?_
    refine lv_icmp_ge (tgt := 41) hx hb dX9_row_31 (by decide) (fun c_4 => ?_) (fun c_4 => absurd (i_nlt c_3) c_4)
    refine lv_iconst (v := (-1)) hx hb dX9_row_41 (by decide) ?_
    exact W.iret (v := (-1)) hx hb hr (fun t ht hW => ⟨(-1), rfl, (by simp_all), ht⟩) (fun _ h9 => by cases h9) dX9_row_42
  refine lv_iload_n hx hb dX9_row_4 rfl (lv_at hl 2 rfl) ?_
  refine vp_callSi (W.runS (As := [.int a2]) (rest := []) ⟨hx, hb, hml, hown, hts⟩ (s_X9_isTank l a2) (va_cwS 1 hts gX9_row_X9_isTank rfl rfl rfl (by decide +kernel) ⟨Nat.le_of_ble_eq_true rfl, Nat.le_of_ble_eq_true rfl⟩) ⟨fun a U g mk q => q, fun U hU hW => ⟨rfl, trivial⟩⟩ rfl rfl hl.1 rfl (lv_room (Nat.le_of_ble_eq_true rfl)) dX9_row_5 ⟨Nat.le_of_ble_eq_true rfl, Nat.le_of_ble_eq_true rfl⟩) (fun r_5 k_6 => ?_)
  rcases k_6 with ⟨rfl, a_7o⟩ | ⟨rfl, a_7, b_8⟩
  · refine lv_if_eq (tgt := 15) hx hb dX9_row_8 (by decide) (fun c_9 => ?_) (fun c_9 => absurd (by decide) c_9)
    refine lv_iconst (v := (-1)) hx hb dX9_row_15 (by decide) ?_
    exact W.iret (v := (-1)) hx hb hr (fun t ht hW => ⟨(-1), rfl, (by rcases a_7o with a_7o | a_7o <;> simp_all), ht⟩) (fun _ h9 => by cases h9) dX9_row_16
  refine lv_if_eq (tgt := 15) hx hb dX9_row_8 (by decide) (fun c_10 => absurd c_10 (by decide)) (fun c_10 => ?_)
  refine lv_iload_n hx hb dX9_row_11 rfl (lv_at hl 2 rfl) ?_
  refine lv_goto (tgt := 16) hx hb dX9_row_12 (by decide) ?_
  exact W.iret (v := a2) hx hb hr (fun t ht hW => ⟨a2, rfl, (by simp_all), ht⟩) (fun _ h9 => by cases h9) dX9_row_16
set_option maxHeartbeats 4000000 in
set_option maxRecDepth 100000 in
theorem s_X9_pollen (l : Launch) (D : va_G) (ws : va_W) (tys : List (ClassId × FieldType)) (h0 : Nat) (X : MF ws tys h0) (a1 a2 a3 a4 : Int32) : Met l yX9_pollen wsX9_pollen ({ frames := 1, cells := 0, slots := 0, locals := 21 }) (va_Pc [.ref h0, .int a1, .int a2, .int a3, .int a4] (fun U => va_P D vwCl ws U.heap ∧ va_K D vwCl tys U)) (vp_Si (fun r => r = 0)) 0 0 (fun _ => False) := by
  refine Met.ofW (cc := cX9_pollen) (maxL := 8) (ret := (some .boolean)) (by decide) rfl ?_
  intro p e s m args below meth c s₁ B hml hv
  obtain ⟨rfl, hP, hK⟩ := hv
  have hx := B.exec
  have hb := B.bytes
  have hr := B.returns
  have hts := atoms_spec (ws := wsX9_pollen) B.pre
  have hown : s.vm.findClass RX9 = some m.cls := findClass_of_methodNamed B.named
  have hlocks := B.notSynchronized
  have hl := lv_entry ([.ref h0, .int a1, .int a2, .int a3, .int a4]) (n := 8) (Nat.le_of_ble_eq_true rfl)
  rw [lg_entry_eq]
  generalize (lg_sl ([.ref h0, .int a1, .int a2, .int a3, .int a4]) ++ List.replicate (8 - (lg_sl ([.ref h0, .int a1, .int a2, .int a3, .int a4])).length) Slot.unset).toArray = ls at hl ⊢
  have hl : lv_has ls 8 [(0, .ref h0), (1, .int a1), (2, .int a2), (3, .int a3), (4, .int a4)] := hl
  have X0 := X
  obtain ⟨k0, ah, ar, ap, kh, kr, kp, fs, ch, cr, cp, th, tr, tp, e0, f2, f3, f13, f14, f21, f22, f35, f43, f10, f11, f12, eh, uh, er, ur, ep, up⟩ := X
  refine lv_aload_n hx hb dX9_pollen_0 rfl (lv_at hl 0 rfl) ?_
  refine lv_iload_n hx hb dX9_pollen_1 rfl (lv_at hl 1 rfl) ?_
  refine vp_callSi (W.runV (As := [.int a1]) (rest := []) ⟨hx, hb, hml, hown, hts⟩ (s_X9_isLot l D ws tys h0 k0 _ a1 e0 f3) (cwV 1 hts gX9_pollen_X9_isLot rfl rfl rfl (by decide +kernel) ⟨Nat.le_of_ble_eq_true rfl, Nat.le_of_ble_eq_true rfl⟩) ⟨fun a U g mk q => ⟨q.1, q.2.1, va_K.moved (u := U) (U := U.calling g mk a) (Vm.Alike.refl U.vm) q.2.2⟩, va_recv hK hP (ci := 9) (q0 := k0) rfl e0, fun U hU hW => ⟨rfl, by rw [hU]; exact hP, va_K.moved hW.alike hK⟩⟩ rfl rfl hl.1 rfl (lv_room (Nat.le_of_ble_eq_true rfl)) dX9_pollen_2 ⟨Nat.le_of_ble_eq_true rfl, Nat.le_of_ble_eq_true rfl⟩) (fun r_1 k_2 => ?_)
  subst k_2
  refine lv_if_eq (tgt := 35) hx hb dX9_pollen_5 (by decide) (fun c_3 => ?_) (fun c_3 => absurd (by decide) c_3)
  refine lv_iconst (v := 0) hx hb dX9_pollen_35 (by decide) ?_
  exact W.zret (v := 0) hx hb hr rfl (fun t ht hW => ⟨0, rfl, (by first | rfl | (simp_all; done) | simp [c_3]), ht⟩) (fun _ h9 => by cases h9) dX9_pollen_36
set_option maxHeartbeats 4000000 in
set_option maxRecDepth 100000 in
theorem s_X9_test (l : Launch) (D : va_G) (ws : va_W) (tys : List (ClassId × FieldType)) (h0 : Nat) (X : MF ws tys h0) (a1 a2 : Int32) : Met l yX9_test wsX9_test ({ frames := 1, cells := 0, slots := 0, locals := 21 }) (va_Pc [.ref h0, .int a1, .int a2] (fun U => va_P D vwCl ws U.heap ∧ va_K D vwCl tys U)) (vp_Si (fun r => r = (-1000000000))) 0 0 (fun _ => False) := by
  refine Met.ofW (cc := cX9_test) (maxL := 4) (ret := (some .int)) (by decide) rfl ?_
  intro p e s m args below meth c s₁ B hml hv
  obtain ⟨rfl, hP, hK⟩ := hv
  have hx := B.exec
  have hb := B.bytes
  have hr := B.returns
  have hts := atoms_spec (ws := wsX9_test) B.pre
  have hown : s.vm.findClass RX9 = some m.cls := findClass_of_methodNamed B.named
  have hlocks := B.notSynchronized
  have hl := lv_entry ([.ref h0, .int a1, .int a2]) (n := 4) (Nat.le_of_ble_eq_true rfl)
  rw [lg_entry_eq]
  generalize (lg_sl ([.ref h0, .int a1, .int a2]) ++ List.replicate (4 - (lg_sl ([.ref h0, .int a1, .int a2])).length) Slot.unset).toArray = ls at hl ⊢
  have hl : lv_has ls 4 [(0, .ref h0), (1, .int a1), (2, .int a2)] := hl
  have X0 := X
  obtain ⟨k0, ah, ar, ap, kh, kr, kp, fs, ch, cr, cp, th, tr, tp, e0, f2, f3, f13, f14, f21, f22, f35, f43, f10, f11, f12, eh, uh, er, ur, ep, up⟩ := X
  refine lv_aload_n hx hb dX9_test_0 rfl (lv_at hl 0 rfl) ?_
  refine lv_iload_n hx hb dX9_test_1 rfl (lv_at hl 1 rfl) ?_
  refine vp_callSi (W.runV (As := [.int a1]) (rest := []) ⟨hx, hb, hml, hown, hts⟩ (s_X9_isLot l D ws tys h0 k0 _ a1 e0 f3) (cwV 1 hts gX9_test_X9_isLot rfl rfl rfl (by decide +kernel) ⟨Nat.le_of_ble_eq_true rfl, Nat.le_of_ble_eq_true rfl⟩) ⟨fun a U g mk q => ⟨q.1, q.2.1, va_K.moved (u := U) (U := U.calling g mk a) (Vm.Alike.refl U.vm) q.2.2⟩, va_recv hK hP (ci := 9) (q0 := k0) rfl e0, fun U hU hW => ⟨rfl, by rw [hU]; exact hP, va_K.moved hW.alike hK⟩⟩ rfl rfl hl.1 rfl (lv_room (Nat.le_of_ble_eq_true rfl)) dX9_test_2 ⟨Nat.le_of_ble_eq_true rfl, Nat.le_of_ble_eq_true rfl⟩) (fun r_1 k_2 => ?_)
  subst k_2
  refine lv_if_eq (tgt := 20) hx hb dX9_test_5 (by decide) (fun c_3 => ?_) (fun c_3 => absurd (by decide) c_3)
  refine lv_ldc hx hb hown (hts (.constant RX9 164 (-1000000000)) (List.mem_of_getElem? (i := 1) rfl)) dX9_test_20 ?_
  exact W.iret (v := (-1000000000)) hx hb hr (fun t ht hW => ⟨(-1000000000), rfl, (by first | rfl | (simp_all; done) | simp [c_3]), ht⟩) (fun _ h9 => by cases h9) dX9_test_22
set_option maxHeartbeats 4000000 in
set_option maxRecDepth 100000 in
theorem s_X9_of (l : Launch) (D : va_G) (ws : va_W) (tys : List (ClassId × FieldType)) (h0 : Nat) (X : MF ws tys h0) (a1 a2 : Int32) : Met l yX9_of wsX9_of ({ frames := 1, cells := 0, slots := 0, locals := 21 }) (va_Pc [.ref h0, .int a1, .int a2] (fun U => va_P D vwCl ws U.heap ∧ va_K D vwCl tys U)) (vp_Si (fun r => r = (-1))) 0 0 (fun _ => False) := by
  refine Met.ofW (cc := cX9_of) (maxL := 3) (ret := (some .int)) (by decide) rfl ?_
  intro p e s m args below meth c s₁ B hml hv
  obtain ⟨rfl, hP, hK⟩ := hv
  have hx := B.exec
  have hb := B.bytes
  have hr := B.returns
  have hts := atoms_spec (ws := wsX9_of) B.pre
  have hown : s.vm.findClass RX9 = some m.cls := findClass_of_methodNamed B.named
  have hlocks := B.notSynchronized
  have hl := lv_entry ([.ref h0, .int a1, .int a2]) (n := 3) (Nat.le_of_ble_eq_true rfl)
  rw [lg_entry_eq]
  generalize (lg_sl ([.ref h0, .int a1, .int a2]) ++ List.replicate (3 - (lg_sl ([.ref h0, .int a1, .int a2])).length) Slot.unset).toArray = ls at hl ⊢
  have hl : lv_has ls 3 [(0, .ref h0), (1, .int a1), (2, .int a2)] := hl
  have X0 := X
  obtain ⟨k0, ah, ar, ap, kh, kr, kp, fs, ch, cr, cp, th, tr, tp, e0, f2, f3, f13, f14, f21, f22, f35, f43, f10, f11, f12, eh, uh, er, ur, ep, up⟩ := X
  refine lv_aload_n hx hb dX9_of_0 rfl (lv_at hl 0 rfl) ?_
  refine lv_iload_n hx hb dX9_of_1 rfl (lv_at hl 1 rfl) ?_
  refine vp_callSi (W.runV (As := [.int a1]) (rest := []) ⟨hx, hb, hml, hown, hts⟩ (s_X9_isLot l D ws tys h0 k0 _ a1 e0 f3) (cwV 1 hts gX9_of_X9_isLot rfl rfl rfl (by decide +kernel) ⟨Nat.le_of_ble_eq_true rfl, Nat.le_of_ble_eq_true rfl⟩) ⟨fun a U g mk q => ⟨q.1, q.2.1, va_K.moved (u := U) (U := U.calling g mk a) (Vm.Alike.refl U.vm) q.2.2⟩, va_recv hK hP (ci := 9) (q0 := k0) rfl e0, fun U hU hW => ⟨rfl, by rw [hU]; exact hP, va_K.moved hW.alike hK⟩⟩ rfl rfl hl.1 rfl (lv_room (Nat.le_of_ble_eq_true rfl)) dX9_of_2 ⟨Nat.le_of_ble_eq_true rfl, Nat.le_of_ble_eq_true rfl⟩) (fun r_1 k_2 => ?_)
  subst k_2
  refine lv_if_eq (tgt := 18) hx hb dX9_of_5 (by decide) (fun c_3 => ?_) (fun c_3 => absurd (by decide) c_3)
  refine lv_iconst (v := (-1)) hx hb dX9_of_18 (by decide) ?_
  refine lv_goto (tgt := 33) hx hb dX9_of_19 (by decide) ?_
  exact W.iret (v := (-1)) hx hb hr (fun t ht hW => ⟨(-1), rfl, (by first | rfl | (simp_all; done) | simp [c_3]), ht⟩) (fun _ h9 => by cases h9) dX9_of_33
set_option maxHeartbeats 4000000 in
set_option maxRecDepth 100000 in
theorem s_X9_span (l : Launch) (D : va_G) (ws : va_W) (tys : List (ClassId × FieldType)) (h0 : Nat) (X : MF ws tys h0) (a1 a2 a3 : Int32) : Met l yX9_span wsX9_span ({ frames := 1, cells := 0, slots := 0, locals := 21 }) (va_Pc [.ref h0, .int a1, .int a2, .int a3] (fun U => va_P D vwCl ws U.heap ∧ va_K D vwCl tys U)) (vp_Si (fun r => r = (-1))) 0 0 (fun _ => False) := by
  refine Met.ofW (cc := cX9_span) (maxL := 4) (ret := (some .int)) (by decide) rfl ?_
  intro p e s m args below meth c s₁ B hml hv
  obtain ⟨rfl, hP, hK⟩ := hv
  have hx := B.exec
  have hb := B.bytes
  have hr := B.returns
  have hts := atoms_spec (ws := wsX9_span) B.pre
  have hown : s.vm.findClass RX9 = some m.cls := findClass_of_methodNamed B.named
  have hlocks := B.notSynchronized
  have hl := lv_entry ([.ref h0, .int a1, .int a2, .int a3]) (n := 4) (Nat.le_of_ble_eq_true rfl)
  rw [lg_entry_eq]
  generalize (lg_sl ([.ref h0, .int a1, .int a2, .int a3]) ++ List.replicate (4 - (lg_sl ([.ref h0, .int a1, .int a2, .int a3])).length) Slot.unset).toArray = ls at hl ⊢
  have hl : lv_has ls 4 [(0, .ref h0), (1, .int a1), (2, .int a2), (3, .int a3)] := hl
  have X0 := X
  obtain ⟨k0, ah, ar, ap, kh, kr, kp, fs, ch, cr, cp, th, tr, tp, e0, f2, f3, f13, f14, f21, f22, f35, f43, f10, f11, f12, eh, uh, er, ur, ep, up⟩ := X
  refine lv_aload_n hx hb dX9_span_0 rfl (lv_at hl 0 rfl) ?_
  refine lv_iload_n hx hb dX9_span_1 rfl (lv_at hl 1 rfl) ?_
  refine vp_callSi (W.runV (As := [.int a1]) (rest := []) ⟨hx, hb, hml, hown, hts⟩ (s_X9_isLot l D ws tys h0 k0 _ a1 e0 f3) (cwV 1 hts gX9_span_X9_isLot rfl rfl rfl (by decide +kernel) ⟨Nat.le_of_ble_eq_true rfl, Nat.le_of_ble_eq_true rfl⟩) ⟨fun a U g mk q => ⟨q.1, q.2.1, va_K.moved (u := U) (U := U.calling g mk a) (Vm.Alike.refl U.vm) q.2.2⟩, va_recv hK hP (ci := 9) (q0 := k0) rfl e0, fun U hU hW => ⟨rfl, by rw [hU]; exact hP, va_K.moved hW.alike hK⟩⟩ rfl rfl hl.1 rfl (lv_room (Nat.le_of_ble_eq_true rfl)) dX9_span_2 ⟨Nat.le_of_ble_eq_true rfl, Nat.le_of_ble_eq_true rfl⟩) (fun r_1 k_2 => ?_)
  subst k_2
  refine lv_if_eq (tgt := 26) hx hb dX9_span_5 (by decide) (fun c_3 => ?_) (fun c_3 => absurd (by decide) c_3)
  refine lv_iconst (v := (-1)) hx hb dX9_span_26 (by decide) ?_
  refine lv_goto (tgt := 57) hx hb dX9_span_27 (by decide) ?_
  exact W.iret (v := (-1)) hx hb hr (fun t ht hW => ⟨(-1), rfl, (by first | rfl | (simp_all; done) | simp [c_3]), ht⟩) (fun _ h9 => by cases h9) dX9_span_57
set_option maxHeartbeats 4000000 in
set_option maxRecDepth 100000 in
theorem s_X9_trace (l : Launch) (D : va_G) (ws : va_W) (tys : List (ClassId × FieldType)) (h0 : Nat) (X : MF ws tys h0) (a1 : Int32) : Met l yX9_trace wsX9_trace ({ frames := 1, cells := 0, slots := 0, locals := 21 }) (va_Pc [.ref h0, .int a1] (fun U => va_P D vwCl ws U.heap ∧ va_K D vwCl tys U)) (vp_Si (fun r => r = (-1))) 0 0 (fun _ => False) := by
  refine Met.ofW (cc := cX9_trace) (maxL := 3) (ret := (some .int)) (by decide) rfl ?_
  intro p e s m args below meth c s₁ B hml hv
  obtain ⟨rfl, hP, hK⟩ := hv
  have hx := B.exec
  have hb := B.bytes
  have hr := B.returns
  have hts := atoms_spec (ws := wsX9_trace) B.pre
  have hown : s.vm.findClass RX9 = some m.cls := findClass_of_methodNamed B.named
  have hlocks := B.notSynchronized
  have hl := lv_entry ([.ref h0, .int a1]) (n := 3) (Nat.le_of_ble_eq_true rfl)
  rw [lg_entry_eq]
  generalize (lg_sl ([.ref h0, .int a1]) ++ List.replicate (3 - (lg_sl ([.ref h0, .int a1])).length) Slot.unset).toArray = ls at hl ⊢
  have hl : lv_has ls 3 [(0, .ref h0), (1, .int a1)] := hl
  have X0 := X
  obtain ⟨k0, ah, ar, ap, kh, kr, kp, fs, ch, cr, cp, th, tr, tp, e0, f2, f3, f13, f14, f21, f22, f35, f43, f10, f11, f12, eh, uh, er, ur, ep, up⟩ := X
  refine lv_aload_n hx hb dX9_trace_0 rfl (lv_at hl 0 rfl) ?_
  refine lv_iload_n hx hb dX9_trace_1 rfl (lv_at hl 1 rfl) ?_
  refine vp_callSi (W.runV (As := [.int a1]) (rest := []) ⟨hx, hb, hml, hown, hts⟩ (s_X9_isLot l D ws tys h0 k0 _ a1 e0 f3) (cwV 1 hts gX9_trace_X9_isLot rfl rfl rfl (by decide +kernel) ⟨Nat.le_of_ble_eq_true rfl, Nat.le_of_ble_eq_true rfl⟩) ⟨fun a U g mk q => ⟨q.1, q.2.1, va_K.moved (u := U) (U := U.calling g mk a) (Vm.Alike.refl U.vm) q.2.2⟩, va_recv hK hP (ci := 9) (q0 := k0) rfl e0, fun U hU hW => ⟨rfl, by rw [hU]; exact hP, va_K.moved hW.alike hK⟩⟩ rfl rfl hl.1 rfl (lv_room (Nat.le_of_ble_eq_true rfl)) dX9_trace_2 ⟨Nat.le_of_ble_eq_true rfl, Nat.le_of_ble_eq_true rfl⟩) (fun r_1 k_2 => ?_)
  subst k_2
  refine lv_if_ne (tgt := 10) hx hb dX9_trace_5 (by decide) (fun c_3 => absurd (by decide) c_3) (fun c_3 => ?_)
  refine lv_iconst (v := (-1)) hx hb dX9_trace_8 (by decide) ?_
  exact W.iret (v := (-1)) hx hb hr (fun t ht hW => ⟨(-1), rfl, (by first | rfl | (simp_all; done) | simp [c_3]), ht⟩) (fun _ h9 => by cases h9) dX9_trace_9
set_option maxHeartbeats 4000000 in
set_option maxRecDepth 100000 in
theorem s_X9_pour (l : Launch) (D : va_G) (ws : va_W) (tys : List (ClassId × FieldType)) (h0 : Nat) (X : MF ws tys h0) (a1 a2 a3 : Int32) : Met l yX9_pour wsX9_pour ({ frames := 1, cells := 0, slots := 0, locals := 21 }) (va_Pc [.ref h0, .int a1, .int a2, .int a3] (fun U => va_P D vwCl ws U.heap ∧ va_K D vwCl tys U)) (vp_Si (fun r => r = (-1))) 0 0 (fun _ => False) := by
  refine Met.ofW (cc := cX9_pour) (maxL := 4) (ret := (some .int)) (by decide) rfl ?_
  intro p e s m args below meth c s₁ B hml hv
  obtain ⟨rfl, hP, hK⟩ := hv
  have hx := B.exec
  have hb := B.bytes
  have hr := B.returns
  have hts := atoms_spec (ws := wsX9_pour) B.pre
  have hown : s.vm.findClass RX9 = some m.cls := findClass_of_methodNamed B.named
  have hlocks := B.notSynchronized
  have hl := lv_entry ([.ref h0, .int a1, .int a2, .int a3]) (n := 4) (Nat.le_of_ble_eq_true rfl)
  rw [lg_entry_eq]
  generalize (lg_sl ([.ref h0, .int a1, .int a2, .int a3]) ++ List.replicate (4 - (lg_sl ([.ref h0, .int a1, .int a2, .int a3])).length) Slot.unset).toArray = ls at hl ⊢
  have hl : lv_has ls 4 [(0, .ref h0), (1, .int a1), (2, .int a2), (3, .int a3)] := hl
  have X0 := X
  obtain ⟨k0, ah, ar, ap, kh, kr, kp, fs, ch, cr, cp, th, tr, tp, e0, f2, f3, f13, f14, f21, f22, f35, f43, f10, f11, f12, eh, uh, er, ur, ep, up⟩ := X
  refine lv_aload_n hx hb dX9_pour_0 rfl (lv_at hl 0 rfl) ?_
  refine lv_iload_n hx hb dX9_pour_1 rfl (lv_at hl 1 rfl) ?_
  refine vp_callSi (W.runV (As := [.int a1]) (rest := []) ⟨hx, hb, hml, hown, hts⟩ (s_X9_isLot l D ws tys h0 k0 _ a1 e0 f3) (cwV 1 hts gX9_pour_X9_isLot rfl rfl rfl (by decide +kernel) ⟨Nat.le_of_ble_eq_true rfl, Nat.le_of_ble_eq_true rfl⟩) ⟨fun a U g mk q => ⟨q.1, q.2.1, va_K.moved (u := U) (U := U.calling g mk a) (Vm.Alike.refl U.vm) q.2.2⟩, va_recv hK hP (ci := 9) (q0 := k0) rfl e0, fun U hU hW => ⟨rfl, by rw [hU]; exact hP, va_K.moved hW.alike hK⟩⟩ rfl rfl hl.1 rfl (lv_room (Nat.le_of_ble_eq_true rfl)) dX9_pour_2 ⟨Nat.le_of_ble_eq_true rfl, Nat.le_of_ble_eq_true rfl⟩) (fun r_1 k_2 => ?_)
  subst k_2
  refine lv_if_eq (tgt := 15) hx hb dX9_pour_5 (by decide) (fun c_3 => ?_) (fun c_3 => absurd (by decide) c_3)
  refine lv_iconst (v := (-1)) hx hb dX9_pour_15 (by decide) ?_
  exact W.iret (v := (-1)) hx hb hr (fun t ht hW => ⟨(-1), rfl, (by first | rfl | (simp_all; done) | simp [c_3]), ht⟩) (fun _ h9 => by cases h9) dX9_pour_16
set_option maxHeartbeats 4000000 in
set_option maxRecDepth 100000 in
theorem s_X9_move (l : Launch) (D : va_G) (ws : va_W) (tys : List (ClassId × FieldType)) (h0 : Nat) (X : MF ws tys h0) (a1 a2 a3 : Int32) : Met l yX9_move wsX9_move ({ frames := 1, cells := 0, slots := 0, locals := 23 }) (va_Pc [.ref h0, .int a1, .int a2, .int a3] (fun U => va_P D vwCl ws U.heap ∧ va_K D vwCl tys U)) (vp_Si (fun r => r = if (a1 < 0 ∨ 9 < a1) ∨ (a2 < 0 ∨ 9 < a2) ∨ a1 = a2 then (-1) else (-2))) 0 0 (fun _ => False) := by
  refine Met.ofW (cc := cX9_move) (maxL := 6) (ret := (some .int)) (by decide) rfl ?_
  intro p e s m args below meth c s₁ B hml hv
  obtain ⟨rfl, hP, hK⟩ := hv
  have hx := B.exec
  have hb := B.bytes
  have hr := B.returns
  have hts := atoms_spec (ws := wsX9_move) B.pre
  have hown : s.vm.findClass RX9 = some m.cls := findClass_of_methodNamed B.named
  have hlocks := B.notSynchronized
  have hl := lv_entry ([.ref h0, .int a1, .int a2, .int a3]) (n := 6) (Nat.le_of_ble_eq_true rfl)
  rw [lg_entry_eq]
  generalize (lg_sl ([.ref h0, .int a1, .int a2, .int a3]) ++ List.replicate (6 - (lg_sl ([.ref h0, .int a1, .int a2, .int a3])).length) Slot.unset).toArray = ls at hl ⊢
  have hl : lv_has ls 6 [(0, .ref h0), (1, .int a1), (2, .int a2), (3, .int a3)] := hl
  have X0 := X
  obtain ⟨k0, ah, ar, ap, kh, kr, kp, fs, ch, cr, cp, th, tr, tp, e0, f2, f3, f13, f14, f21, f22, f35, f43, f10, f11, f12, eh, uh, er, ur, ep, up⟩ := X
  refine lv_iload_n hx hb dX9_move_0 rfl (lv_at hl 1 rfl) ?_
  refine vp_callSi (W.runS (As := [.int a1]) (rest := []) ⟨hx, hb, hml, hown, hts⟩ (s_X9_isTank l a1) (va_cwS 1 hts gX9_move_X9_isTank rfl rfl rfl (by decide +kernel) ⟨Nat.le_of_ble_eq_true rfl, Nat.le_of_ble_eq_true rfl⟩) ⟨fun a U g mk q => q, fun U hU hW => ⟨rfl, trivial⟩⟩ rfl rfl hl.1 rfl (lv_room (Nat.le_of_ble_eq_true rfl)) dX9_move_1 ⟨Nat.le_of_ble_eq_true rfl, Nat.le_of_ble_eq_true rfl⟩) (fun r_1 k_2 => ?_)
  rcases k_2 with ⟨rfl, a_3o⟩ | ⟨rfl, a_3, b_4⟩
  · refine lv_if_eq (tgt := 19) hx hb dX9_move_4 (by decide) (fun c_5 => ?_) (fun c_5 => absurd (by decide) c_5)
    refine lv_iconst (v := (-1)) hx hb dX9_move_19 (by decide) ?_
    exact W.iret (v := (-1)) hx hb hr (fun t ht hW => ⟨(-1), rfl, (by rcases a_3o with a_3o | a_3o <;> simp_all), ht⟩) (fun _ h9 => by cases h9) dX9_move_20
  refine lv_if_eq (tgt := 19) hx hb dX9_move_4 (by decide) (fun c_6 => absurd c_6 (by decide)) (fun c_6 => ?_)
  refine lv_iload_n hx hb dX9_move_7 rfl (lv_at hl 2 rfl) ?_
  refine vp_callSi (W.runS (As := [.int a2]) (rest := []) ⟨hx, hb, hml, hown, hts⟩ (s_X9_isTank l a2) (va_cwS 1 hts gX9_move_X9_isTank rfl rfl rfl (by decide +kernel) ⟨Nat.le_of_ble_eq_true rfl, Nat.le_of_ble_eq_true rfl⟩) ⟨fun a U g mk q => q, fun U hU hW => ⟨rfl, trivial⟩⟩ rfl rfl hl.1 rfl (lv_room (Nat.le_of_ble_eq_true rfl)) dX9_move_8 ⟨Nat.le_of_ble_eq_true rfl, Nat.le_of_ble_eq_true rfl⟩) (fun r_7 k_8 => ?_)
  rcases k_8 with ⟨rfl, a_9o⟩ | ⟨rfl, a_9, b_10⟩
  · refine lv_if_eq (tgt := 19) hx hb dX9_move_11 (by decide) (fun c_11 => ?_) (fun c_11 => absurd (by decide) c_11)
    refine lv_iconst (v := (-1)) hx hb dX9_move_19 (by decide) ?_
    exact W.iret (v := (-1)) hx hb hr (fun t ht hW => ⟨(-1), rfl, (by rcases a_9o with a_9o | a_9o <;> simp_all), ht⟩) (fun _ h9 => by cases h9) dX9_move_20
  refine lv_if_eq (tgt := 19) hx hb dX9_move_11 (by decide) (fun c_12 => absurd c_12 (by decide)) (fun c_12 => ?_)
  refine lv_iload_n hx hb dX9_move_14 rfl (lv_at hl 1 rfl) ?_
  refine lv_iload_n hx hb dX9_move_15 rfl (lv_at hl 2 rfl) ?_
  refine lv_icmp_ne (tgt := 21) hx hb dX9_move_16 (by decide) (fun c_13 => ?_) (fun c_13 => ?_)
  · refine lv_iload_n hx hb dX9_move_21 rfl (lv_at hl 3 rfl) ?_
    refine lv_iconst (v := 1) hx hb dX9_move_22 (by decide) ?_
    refine lv_icmp_lt (tgt := 51) hx hb dX9_move_23 (by decide) (fun c_14 => ?_) (fun c_14 => ?_)
    · refine lv_bipush (v := (-2)) hx hb dX9_move_51 (by decide) ?_
      exact W.iret (v := (-2)) hx hb hr (fun t ht hW => ⟨(-2), rfl, (by first | rfl | (simp_all; done) | simp [a_3, b_4, c_6, a_9, b_10, c_12, c_13, c_14]), ht⟩) (fun _ h9 => by cases h9) dX9_move_53
    refine lv_iload_n hx hb dX9_move_26 rfl (lv_at hl 3 rfl) ?_
    refine lv_aload_n hx hb dX9_move_27 rfl (lv_at hl 0 rfl) ?_
    refine lv_iload_n hx hb dX9_move_28 rfl (lv_at hl 1 rfl) ?_
    refine vp_callSi (W.runV (As := [.int a1]) (rest := [.int a3]) ⟨hx, hb, hml, hown, hts⟩ (s_X9_all l D ws tys h0 k0 _ a1 e0 f3) (cwV 1 hts gX9_move_X9_all rfl rfl rfl (by decide +kernel) ⟨Nat.le_of_ble_eq_true rfl, Nat.le_of_ble_eq_true rfl⟩) ⟨fun a U g mk q => ⟨q.1, q.2.1, va_K.moved (u := U) (U := U.calling g mk a) (Vm.Alike.refl U.vm) q.2.2⟩, va_recv hK hP (ci := 9) (q0 := k0) rfl e0, fun U hU hW => ⟨rfl, by rw [hU]; exact hP, va_K.moved hW.alike hK⟩⟩ rfl rfl hl.1 rfl (lv_room (Nat.le_of_ble_eq_true rfl)) dX9_move_29 ⟨Nat.le_of_ble_eq_true rfl, Nat.le_of_ble_eq_true rfl⟩) (fun r_15 k_16 => ?_)
    subst k_16
    refine lv_icmp_gt (tgt := 51) hx hb dX9_move_32 (by decide) (fun c_17 => ?_) (fun c_17 => absurd (i_gt0 c_14) c_17)
    refine lv_bipush (v := (-2)) hx hb dX9_move_51 (by decide) ?_
    exact W.iret (v := (-2)) hx hb hr (fun t ht hW => ⟨(-2), rfl, (by first | rfl | (simp_all; done) | simp [a_3, b_4, c_6, a_9, b_10, c_12, c_13, c_14, c_17]), ht⟩) (fun _ h9 => by cases h9) dX9_move_53
  refine lv_iconst (v := (-1)) hx hb dX9_move_19 (by decide) ?_
  exact W.iret (v := (-1)) hx hb hr (fun t ht hW => ⟨(-1), rfl, (by first | rfl | (simp_all; done) | simp [a_3, b_4, c_6, a_9, b_10, c_12, c_13]), ht⟩) (fun _ h9 => by cases h9) dX9_move_20
set_option maxHeartbeats 4000000 in
set_option maxRecDepth 100000 in
theorem s_X9_warm (l : Launch) (D : va_G) (ws : va_W) (tys : List (ClassId × FieldType)) (h0 : Nat) (X : MF ws tys h0) (a1 a2 : Int32) : Met l yX9_warm wsX9_warm ({ frames := 1, cells := 0, slots := 0, locals := 23 }) (va_Pc [.ref h0, .int a1, .int a2] (fun U => va_P D vwCl ws U.heap ∧ va_K D vwCl tys U)) (vp_Si (fun r => r = (-1))) 0 0 (fun _ => False) := by
  refine Met.ofW (cc := cX9_warm) (maxL := 3) (ret := (some .int)) (by decide) rfl ?_
  intro p e s m args below meth c s₁ B hml hv
  obtain ⟨rfl, hP, hK⟩ := hv
  have hx := B.exec
  have hb := B.bytes
  have hr := B.returns
  have hts := atoms_spec (ws := wsX9_warm) B.pre
  have hown : s.vm.findClass RX9 = some m.cls := findClass_of_methodNamed B.named
  have hlocks := B.notSynchronized
  have hl := lv_entry ([.ref h0, .int a1, .int a2]) (n := 3) (Nat.le_of_ble_eq_true rfl)
  rw [lg_entry_eq]
  generalize (lg_sl ([.ref h0, .int a1, .int a2]) ++ List.replicate (3 - (lg_sl ([.ref h0, .int a1, .int a2])).length) Slot.unset).toArray = ls at hl ⊢
  have hl : lv_has ls 3 [(0, .ref h0), (1, .int a1), (2, .int a2)] := hl
  have X0 := X
  obtain ⟨k0, ah, ar, ap, kh, kr, kp, fs, ch, cr, cp, th, tr, tp, e0, f2, f3, f13, f14, f21, f22, f35, f43, f10, f11, f12, eh, uh, er, ur, ep, up⟩ := X
  refine lv_iload_n hx hb dX9_warm_0 rfl (lv_at hl 1 rfl) ?_
  refine vp_callSi (W.runS (As := [.int a1]) (rest := []) ⟨hx, hb, hml, hown, hts⟩ (s_X9_isTank l a1) (va_cwS 1 hts gX9_warm_X9_isTank rfl rfl rfl (by decide +kernel) ⟨Nat.le_of_ble_eq_true rfl, Nat.le_of_ble_eq_true rfl⟩) ⟨fun a U g mk q => q, fun U hU hW => ⟨rfl, trivial⟩⟩ rfl rfl hl.1 rfl (lv_room (Nat.le_of_ble_eq_true rfl)) dX9_warm_1 ⟨Nat.le_of_ble_eq_true rfl, Nat.le_of_ble_eq_true rfl⟩) (fun r_1 k_2 => ?_)
  rcases k_2 with ⟨rfl, a_3o⟩ | ⟨rfl, a_3, b_4⟩
  · refine lv_if_eq (tgt := 26) hx hb dX9_warm_4 (by decide) (fun c_5 => ?_) (fun c_5 => absurd (by decide) c_5)
    refine lv_iconst (v := (-1)) hx hb dX9_warm_26 (by decide) ?_
    exact W.iret (v := (-1)) hx hb hr (fun t ht hW => ⟨(-1), rfl, (by rcases a_3o with a_3o | a_3o <;> simp_all), ht⟩) (fun _ h9 => by cases h9) dX9_warm_27
  refine lv_if_eq (tgt := 26) hx hb dX9_warm_4 (by decide) (fun c_6 => absurd c_6 (by decide)) (fun c_6 => ?_)
  refine lv_aload_n hx hb dX9_warm_7 rfl (lv_at hl 0 rfl) ?_
  refine lv_iload_n hx hb dX9_warm_8 rfl (lv_at hl 1 rfl) ?_
  refine vp_callSi (W.runV (As := [.int a1]) (rest := []) ⟨hx, hb, hml, hown, hts⟩ (s_X9_all l D ws tys h0 k0 _ a1 e0 f3) (cwV 1 hts gX9_warm_X9_all rfl rfl rfl (by decide +kernel) ⟨Nat.le_of_ble_eq_true rfl, Nat.le_of_ble_eq_true rfl⟩) ⟨fun a U g mk q => ⟨q.1, q.2.1, va_K.moved (u := U) (U := U.calling g mk a) (Vm.Alike.refl U.vm) q.2.2⟩, va_recv hK hP (ci := 9) (q0 := k0) rfl e0, fun U hU hW => ⟨rfl, by rw [hU]; exact hP, va_K.moved hW.alike hK⟩⟩ rfl rfl hl.1 rfl (lv_room (Nat.le_of_ble_eq_true rfl)) dX9_warm_9 ⟨Nat.le_of_ble_eq_true rfl, Nat.le_of_ble_eq_true rfl⟩) (fun r_7 k_8 => ?_)
  subst k_8
  refine lv_if_eq (tgt := 26) hx hb dX9_warm_12 (by decide) (fun c_9 => ?_) (fun c_9 => absurd (by decide) c_9)
  refine lv_iconst (v := (-1)) hx hb dX9_warm_26 (by decide) ?_
  exact W.iret (v := (-1)) hx hb hr (fun t ht hW => ⟨(-1), rfl, (by first | rfl | (simp_all; done) | simp [a_3, b_4, c_6, c_9]), ht⟩) (fun _ h9 => by cases h9) dX9_warm_27
set_option maxHeartbeats 4000000 in
set_option maxRecDepth 100000 in
theorem s_X9_jar (l : Launch) (D : va_G) (ws : va_W) (tys : List (ClassId × FieldType)) (h0 : Nat) (X : MF ws tys h0) (a1 a2 : Int32) : Met l yX9_jar wsX9_jar ({ frames := 1, cells := 0, slots := 0, locals := 23 }) (va_Pc [.ref h0, .int a1, .int a2] (fun U => va_P D vwCl ws U.heap ∧ va_K D vwCl tys U)) (vp_Si (fun r => r = if a1 < 0 ∨ 9 < a1 then (-1) else (-2))) 0 0 (fun _ => False) := by
  refine Met.ofW (cc := cX9_jar) (maxL := 5) (ret := (some .int)) (by decide) rfl ?_
  intro p e s m args below meth c s₁ B hml hv
  obtain ⟨rfl, hP, hK⟩ := hv
  have hx := B.exec
  have hb := B.bytes
  have hr := B.returns
  have hts := atoms_spec (ws := wsX9_jar) B.pre
  have hown : s.vm.findClass RX9 = some m.cls := findClass_of_methodNamed B.named
  have hlocks := B.notSynchronized
  have hl := lv_entry ([.ref h0, .int a1, .int a2]) (n := 5) (Nat.le_of_ble_eq_true rfl)
  rw [lg_entry_eq]
  generalize (lg_sl ([.ref h0, .int a1, .int a2]) ++ List.replicate (5 - (lg_sl ([.ref h0, .int a1, .int a2])).length) Slot.unset).toArray = ls at hl ⊢
  have hl : lv_has ls 5 [(0, .ref h0), (1, .int a1), (2, .int a2)] := hl
  have X0 := X
  obtain ⟨k0, ah, ar, ap, kh, kr, kp, fs, ch, cr, cp, th, tr, tp, e0, f2, f3, f13, f14, f21, f22, f35, f43, f10, f11, f12, eh, uh, er, ur, ep, up⟩ := X
  refine lv_iload_n hx hb dX9_jar_0 rfl (lv_at hl 1 rfl) ?_
  refine vp_callSi (W.runS (As := [.int a1]) (rest := []) ⟨hx, hb, hml, hown, hts⟩ (s_X9_isTank l a1) (va_cwS 1 hts gX9_jar_X9_isTank rfl rfl rfl (by decide +kernel) ⟨Nat.le_of_ble_eq_true rfl, Nat.le_of_ble_eq_true rfl⟩) ⟨fun a U g mk q => q, fun U hU hW => ⟨rfl, trivial⟩⟩ rfl rfl hl.1 rfl (lv_room (Nat.le_of_ble_eq_true rfl)) dX9_jar_1 ⟨Nat.le_of_ble_eq_true rfl, Nat.le_of_ble_eq_true rfl⟩) (fun r_1 k_2 => ?_)
  rcases k_2 with ⟨rfl, a_3o⟩ | ⟨rfl, a_3, b_4⟩
  · refine lv_if_ne (tgt := 9) hx hb dX9_jar_4 (by decide) (fun c_5 => absurd (by decide) c_5) (fun c_5 => ?_)
    refine lv_iconst (v := (-1)) hx hb dX9_jar_7 (by decide) ?_
    exact W.iret (v := (-1)) hx hb hr (fun t ht hW => ⟨(-1), rfl, (by rcases a_3o with a_3o | a_3o <;> simp_all), ht⟩) (fun _ h9 => by cases h9) dX9_jar_8
  refine lv_if_ne (tgt := 9) hx hb dX9_jar_4 (by decide) (fun c_6 => ?_) (fun c_6 => absurd c_6 (by decide))
  refine lv_iload_n hx hb dX9_jar_9 rfl (lv_at hl 2 rfl) ?_
  refine lv_iconst (v := 1) hx hb dX9_jar_10 (by decide) ?_
  refine lv_icmp_lt (tgt := 23) hx hb dX9_jar_11 (by decide) (fun c_7 => ?_) (fun c_7 => ?_)
  · refine lv_bipush (v := (-2)) hx hb dX9_jar_23 (by decide) ?_
    exact W.iret (v := (-2)) hx hb hr (fun t ht hW => ⟨(-2), rfl, (by first | rfl | (simp_all; done) | simp [a_3, b_4, c_6, c_7]), ht⟩) (fun _ h9 => by cases h9) dX9_jar_25
  refine lv_iload_n hx hb dX9_jar_14 rfl (lv_at hl 2 rfl) ?_
  refine lv_aload_n hx hb dX9_jar_15 rfl (lv_at hl 0 rfl) ?_
  refine lv_iload_n hx hb dX9_jar_16 rfl (lv_at hl 1 rfl) ?_
  refine vp_callSi (W.runV (As := [.int a1]) (rest := [.int a2]) ⟨hx, hb, hml, hown, hts⟩ (s_X9_all l D ws tys h0 k0 _ a1 e0 f3) (cwV 1 hts gX9_jar_X9_all rfl rfl rfl (by decide +kernel) ⟨Nat.le_of_ble_eq_true rfl, Nat.le_of_ble_eq_true rfl⟩) ⟨fun a U g mk q => ⟨q.1, q.2.1, va_K.moved (u := U) (U := U.calling g mk a) (Vm.Alike.refl U.vm) q.2.2⟩, va_recv hK hP (ci := 9) (q0 := k0) rfl e0, fun U hU hW => ⟨rfl, by rw [hU]; exact hP, va_K.moved hW.alike hK⟩⟩ rfl rfl hl.1 rfl (lv_room (Nat.le_of_ble_eq_true rfl)) dX9_jar_17 ⟨Nat.le_of_ble_eq_true rfl, Nat.le_of_ble_eq_true rfl⟩) (fun r_8 k_9 => ?_)
  subst k_9
  refine lv_icmp_le (tgt := 26) hx hb dX9_jar_20 (by decide) (fun c_10 => absurd c_10 (i_g1 c_7)) (fun c_10 => ?_)
  refine lv_bipush (v := (-2)) hx hb dX9_jar_23 (by decide) ?_
  exact W.iret (v := (-2)) hx hb hr (fun t ht hW => ⟨(-2), rfl, (by first | rfl | (simp_all; done) | simp [a_3, b_4, c_6, c_7, c_10]), ht⟩) (fun _ h9 => by cases h9) dX9_jar_25
set_option maxHeartbeats 4000000 in
set_option maxRecDepth 100000 in
theorem s_X9_spill (l : Launch) (D : va_G) (ws : va_W) (tys : List (ClassId × FieldType)) (h0 : Nat) (X : MF ws tys h0) (a1 a2 : Int32) : Met l yX9_spill wsX9_spill ({ frames := 1, cells := 0, slots := 0, locals := 23 }) (va_Pc [.ref h0, .int a1, .int a2] (fun U => va_P D vwCl ws U.heap ∧ va_K D vwCl tys U)) (vp_Si (fun r => r = if a1 < 0 ∨ 9 < a1 then (-1) else (-2))) 0 0 (fun _ => False) := by
  refine Met.ofW (cc := cX9_spill) (maxL := 3) (ret := (some .int)) (by decide) rfl ?_
  intro p e s m args below meth c s₁ B hml hv
  obtain ⟨rfl, hP, hK⟩ := hv
  have hx := B.exec
  have hb := B.bytes
  have hr := B.returns
  have hts := atoms_spec (ws := wsX9_spill) B.pre
  have hown : s.vm.findClass RX9 = some m.cls := findClass_of_methodNamed B.named
  have hlocks := B.notSynchronized
  have hl := lv_entry ([.ref h0, .int a1, .int a2]) (n := 3) (Nat.le_of_ble_eq_true rfl)
  rw [lg_entry_eq]
  generalize (lg_sl ([.ref h0, .int a1, .int a2]) ++ List.replicate (3 - (lg_sl ([.ref h0, .int a1, .int a2])).length) Slot.unset).toArray = ls at hl ⊢
  have hl : lv_has ls 3 [(0, .ref h0), (1, .int a1), (2, .int a2)] := hl
  have X0 := X
  obtain ⟨k0, ah, ar, ap, kh, kr, kp, fs, ch, cr, cp, th, tr, tp, e0, f2, f3, f13, f14, f21, f22, f35, f43, f10, f11, f12, eh, uh, er, ur, ep, up⟩ := X
  refine lv_iload_n hx hb dX9_spill_0 rfl (lv_at hl 1 rfl) ?_
  refine vp_callSi (W.runS (As := [.int a1]) (rest := []) ⟨hx, hb, hml, hown, hts⟩ (s_X9_isTank l a1) (va_cwS 1 hts gX9_spill_X9_isTank rfl rfl rfl (by decide +kernel) ⟨Nat.le_of_ble_eq_true rfl, Nat.le_of_ble_eq_true rfl⟩) ⟨fun a U g mk q => q, fun U hU hW => ⟨rfl, trivial⟩⟩ rfl rfl hl.1 rfl (lv_room (Nat.le_of_ble_eq_true rfl)) dX9_spill_1 ⟨Nat.le_of_ble_eq_true rfl, Nat.le_of_ble_eq_true rfl⟩) (fun r_1 k_2 => ?_)
  rcases k_2 with ⟨rfl, a_3o⟩ | ⟨rfl, a_3, b_4⟩
  · refine lv_if_ne (tgt := 9) hx hb dX9_spill_4 (by decide) (fun c_5 => absurd (by decide) c_5) (fun c_5 => ?_)
    refine lv_iconst (v := (-1)) hx hb dX9_spill_7 (by decide) ?_
    exact W.iret (v := (-1)) hx hb hr (fun t ht hW => ⟨(-1), rfl, (by rcases a_3o with a_3o | a_3o <;> simp_all), ht⟩) (fun _ h9 => by cases h9) dX9_spill_8
  refine lv_if_ne (tgt := 9) hx hb dX9_spill_4 (by decide) (fun c_6 => ?_) (fun c_6 => absurd c_6 (by decide))
  refine lv_iload_n hx hb dX9_spill_9 rfl (lv_at hl 2 rfl) ?_
  refine lv_iconst (v := 1) hx hb dX9_spill_10 (by decide) ?_
  refine lv_icmp_lt (tgt := 23) hx hb dX9_spill_11 (by decide) (fun c_7 => ?_) (fun c_7 => ?_)
  · refine lv_bipush (v := (-2)) hx hb dX9_spill_23 (by decide) ?_
    exact W.iret (v := (-2)) hx hb hr (fun t ht hW => ⟨(-2), rfl, (by first | rfl | (simp_all; done) | simp [a_3, b_4, c_6, c_7]), ht⟩) (fun _ h9 => by cases h9) dX9_spill_25
  refine lv_iload_n hx hb dX9_spill_14 rfl (lv_at hl 2 rfl) ?_
  refine lv_aload_n hx hb dX9_spill_15 rfl (lv_at hl 0 rfl) ?_
  refine lv_iload_n hx hb dX9_spill_16 rfl (lv_at hl 1 rfl) ?_
  refine vp_callSi (W.runV (As := [.int a1]) (rest := [.int a2]) ⟨hx, hb, hml, hown, hts⟩ (s_X9_all l D ws tys h0 k0 _ a1 e0 f3) (cwV 1 hts gX9_spill_X9_all rfl rfl rfl (by decide +kernel) ⟨Nat.le_of_ble_eq_true rfl, Nat.le_of_ble_eq_true rfl⟩) ⟨fun a U g mk q => ⟨q.1, q.2.1, va_K.moved (u := U) (U := U.calling g mk a) (Vm.Alike.refl U.vm) q.2.2⟩, va_recv hK hP (ci := 9) (q0 := k0) rfl e0, fun U hU hW => ⟨rfl, by rw [hU]; exact hP, va_K.moved hW.alike hK⟩⟩ rfl rfl hl.1 rfl (lv_room (Nat.le_of_ble_eq_true rfl)) dX9_spill_17 ⟨Nat.le_of_ble_eq_true rfl, Nat.le_of_ble_eq_true rfl⟩) (fun r_8 k_9 => ?_)
  subst k_9
  refine lv_icmp_le (tgt := 26) hx hb dX9_spill_20 (by decide) (fun c_10 => absurd c_10 (i_g1 c_7)) (fun c_10 => ?_)
  refine lv_bipush (v := (-2)) hx hb dX9_spill_23 (by decide) ?_
  exact W.iret (v := (-2)) hx hb hr (fun t ht hW => ⟨(-2), rfl, (by first | rfl | (simp_all; done) | simp [a_3, b_4, c_6, c_7, c_10]), ht⟩) (fun _ h9 => by cases h9) dX9_spill_25
set_option maxHeartbeats 4000000 in
set_option maxRecDepth 100000 in
theorem s_X9_holds (l : Launch) (D : va_G) (ws : va_W) (tys : List (ClassId × FieldType)) (h0 : Nat) (X : MF ws tys h0) (a1 a2 a3 : Int32) : Met l yX9_holds wsX9_holds ({ frames := 2, cells := 0, slots := 0, locals := 42 }) (va_Pc [.ref h0, .int a1, .int a2, .int a3] (fun U => va_P D vwCl ws U.heap ∧ va_K D vwCl tys U)) (vp_Si (fun r => r = if a1 = 0 ∧ ¬ a2 < 0 ∧ ¬ 9 < a2 ∧ (a3 = 0 ∨ a3 = 1 ∨ a3 = 2 ∨ a3 = 3 ∨ a3 = 4) then 0 else (-1))) 0 0 (fun _ => False) := by
  refine Met.ofW (cc := cX9_holds) (maxL := 7) (ret := (some .int)) (by decide) rfl ?_
  intro p e s m args below meth c s₁ B hml hv
  obtain ⟨rfl, hP, hK⟩ := hv
  have hx := B.exec
  have hb := B.bytes
  have hr := B.returns
  have hts := atoms_spec (ws := wsX9_holds) B.pre
  have hown : s.vm.findClass RX9 = some m.cls := findClass_of_methodNamed B.named
  have hlocks := B.notSynchronized
  have hin9 : ∀ w ∈ u_ws RX9 TX9 44, w ∈ wsX9_holds := (fun _ h9 => List.mem_cons_of_mem _ ((List.mem_append_right _ h9)))
  have hl := lv_entry ([.ref h0, .int a1, .int a2, .int a3]) (n := 7) (Nat.le_of_ble_eq_true rfl)
  rw [lg_entry_eq]
  generalize (lg_sl ([.ref h0, .int a1, .int a2, .int a3]) ++ List.replicate (7 - (lg_sl ([.ref h0, .int a1, .int a2, .int a3])).length) Slot.unset).toArray = ls at hl ⊢
  have hl : lv_has ls 7 [(0, .ref h0), (1, .int a1), (2, .int a2), (3, .int a3)] := hl
  have X0 := X
  obtain ⟨k0, ah, ar, ap, kh, kr, kp, fs, ch, cr, cp, th, tr, tp, e0, f2, f3, f13, f14, f21, f22, f35, f43, f10, f11, f12, eh, uh, er, ur, ep, up⟩ := X
  refine lv_aload_n hx hb dX9_holds_0 rfl (lv_at hl 0 rfl) ?_
  refine lv_iload_n hx hb dX9_holds_1 rfl (lv_at hl 1 rfl) ?_
  refine lv_iload_n hx hb dX9_holds_2 rfl (lv_at hl 2 rfl) ?_
  refine vp_callSi (W.runV (As := [.int a1, .int a2]) (rest := []) ⟨hx, hb, hml, hown, hts⟩ (s_X9_row l D ws tys h0 k0 _ a1 a2 e0 f13) (cwV 2 hts gX9_holds_X9_row rfl rfl rfl (by decide +kernel) ⟨Nat.le_of_ble_eq_true rfl, Nat.le_of_ble_eq_true rfl⟩) ⟨fun a U g mk q => ⟨q.1, q.2.1, va_K.moved (u := U) (U := U.calling g mk a) (Vm.Alike.refl U.vm) q.2.2⟩, va_recv hK hP (ci := 9) (q0 := k0) rfl e0, fun U hU hW => ⟨rfl, by rw [hU]; exact hP, va_K.moved hW.alike hK⟩⟩ rfl rfl hl.1 rfl (lv_room (Nat.le_of_ble_eq_true rfl)) dX9_holds_3 ⟨Nat.le_of_ble_eq_true rfl, Nat.le_of_ble_eq_true rfl⟩) (fun r_1 k_2 => ?_)
  rcases k_2 with ⟨rfl, a_3o⟩ | ⟨z_5, a_3, b_4, k_2⟩
  · refine lv_istore (lv' := [(4, .int (-1)), (0, .ref h0), (1, .int a1), (2, .int a2), (3, .int a3)]) hx hb dX9_holds_6 hl (by decide) rfl (fun ls hl => ?_)
    refine lv_iload hx hb dX9_holds_8 (lv_at hl 0 rfl) ?_
    refine lv_if_ge (tgt := 15) hx hb dX9_holds_10 (by decide) (fun c_6 => absurd c_6 (by decide)) (fun c_6 => ?_)
    refine lv_iconst (v := (-1)) hx hb dX9_holds_13 (by decide) ?_
    exact W.iret (v := (-1)) hx hb hr (fun t ht hW => ⟨(-1), rfl, (by rcases a_3o with a_3o | a_3o | a_3o <;> simp_all), ht⟩) (fun _ h9 => by cases h9) dX9_holds_14
  refine tp_i (y := a2) k_2 ?_
  refine lv_istore (lv' := [(4, .int a2), (0, .ref h0), (1, .int a1), (2, .int a2), (3, .int a3)]) hx hb dX9_holds_6 hl (by decide) rfl (fun ls hl => ?_)
  refine lv_iload hx hb dX9_holds_8 (lv_at hl 0 rfl) ?_
  refine lv_if_ge (tgt := 15) hx hb dX9_holds_10 (by decide) (fun c_7 => ?_) (fun c_7 => absurd (i_nlt a_3) c_7)
  refine lv_iconst (v := 0) hx hb dX9_holds_15 (by decide) ?_
  refine lv_istore (lv' := [(5, .int 0), (4, .int a2), (0, .ref h0), (1, .int a1), (2, .int a2), (3, .int a3)]) hx hb dX9_holds_16 hl (by decide) rfl (fun ls hl => ?_)
  refine lv_iload_n hx hb dX9_holds_18 rfl (lv_at hl 5 rfl) ?_
  by_cases c_8 : a3 = 0
  · refine lv_tableIn (off := 33) (tgt := 52) hx hb dX9_holds_19 (by rw [c_8]; decide) (by rw [c_8]; decide) (by rw [c_8]; rfl) (by decide) ?_
    refine lv_aload_n hx hb dX9_holds_52 rfl (lv_at hl 2 rfl) ?_
    refine lv_iload hx hb dX9_holds_53 (lv_at hl 1 rfl) ?_
    refine vp_callSi (W.runV (As := [.int a2]) (rest := []) ⟨hx, hb, hml, hown, hts⟩ (s_X9_all l D ws tys h0 k0 _ a2 e0 f3) (cwV 1 hts gX9_holds_X9_all rfl rfl rfl (by decide +kernel) ⟨Nat.le_of_ble_eq_true rfl, Nat.le_of_ble_eq_true rfl⟩) ⟨fun a U g mk q => ⟨q.1, q.2.1, va_K.moved (u := U) (U := U.calling g mk a) (Vm.Alike.refl U.vm) q.2.2⟩, va_recv hK hP (ci := 9) (q0 := k0) rfl e0, fun U hU hW => ⟨rfl, by rw [hU]; exact hP, va_K.moved hW.alike hK⟩⟩ rfl rfl hl.1 rfl (lv_room (Nat.le_of_ble_eq_true rfl)) dX9_holds_55 ⟨Nat.le_of_ble_eq_true rfl, Nat.le_of_ble_eq_true rfl⟩) (fun r_9 k_10 => ?_)
    subst k_10
    exact W.iret (v := 0) hx hb hr (fun t ht hW => ⟨0, rfl, (by first | rfl | (simp_all; done) | simp [z_5, a_3, b_4, c_7, c_8]), ht⟩) (fun _ h9 => by cases h9) dX9_holds_58
  by_cases c_11 : a3 = 1
  · refine lv_tableIn (off := 40) (tgt := 59) hx hb dX9_holds_19 (by rw [c_11]; decide) (by rw [c_11]; decide) (by rw [c_11]; rfl) (by decide) ?_
    refine lv_iconst (v := 0) hx hb dX9_holds_59 (by decide) ?_
    refine lv_istore (lv' := [(6, .int 0), (5, .int 0), (4, .int a2), (0, .ref h0), (1, .int a1), (2, .int a2), (3, .int a3)]) hx hb dX9_holds_60 hl (by decide) rfl (fun ls hl => ?_)
    refine lv_iload hx hb dX9_holds_62 (lv_at hl 0 rfl) ?_
    refine lv_aload_n hx hb dX9_holds_64 rfl (lv_at hl 3 rfl) ?_
    refine va_get (D := D) (ci := 9) (v := .int 0) (C := RX9) (T := TX9) (N := 44) hx hb hts hin9 hown hK hP k0 e0 rfl 3 (by decide) (hts (.fieldLink RX9 20 "HoneyHouseModel" "lots" "I") (List.mem_of_getElem? (i := 1) rfl)) (fun _ h9 => h9) f3 dX9_holds_65 ?_
    refine lv_icmp_ge (tgt := 103) hx hb dX9_holds_68 (by decide) (fun c_12 => ?_) (fun c_12 => absurd (by decide) c_12)
    refine lv_iload hx hb dX9_holds_103 (lv_at hl 1 rfl) ?_
    exact W.iret (v := 0) hx hb hr (fun t ht hW => ⟨0, rfl, (by first | rfl | (simp_all; done) | simp [z_5, a_3, b_4, c_7, c_8, c_11, c_12]), ht⟩) (fun _ h9 => by cases h9) dX9_holds_105
  by_cases c_13 : a3 = 2
  · refine lv_tableIn (off := 87) (tgt := 106) hx hb dX9_holds_19 (by rw [c_13]; decide) (by rw [c_13]; decide) (by rw [c_13]; rfl) (by decide) ?_
    refine lv_aload_n hx hb dX9_holds_106 rfl (lv_at hl 2 rfl) ?_
    refine va_get (D := D) (ci := 9) (v := .ref ah) (C := RX9) (T := TX9) (N := 44) hx hb hts hin9 hown hK hP k0 e0 rfl 10 (by decide) (hts (.fieldLink RX9 41 "HoneyHouseModel" "heat" "[I") (List.mem_of_getElem? (i := 3) rfl)) (fun _ h9 => h9) f10 dX9_holds_107 ?_
    refine lv_iload hx hb dX9_holds_110 (lv_at hl 1 rfl) ?_
    refine va_iald (f := fun _ => 0) (n := 70) hx hb hK hP kh th eh uh (i_inL a_3 b_4 (by decide)) dX9_holds_112 ?_
    refine tp_i (y := 0) (rfl) ?_
    exact W.iret (v := 0) hx hb hr (fun t ht hW => ⟨0, rfl, (by first | rfl | (simp_all; done) | simp [z_5, a_3, b_4, c_7, c_8, c_11, c_13]), ht⟩) (fun _ h9 => by cases h9) dX9_holds_113
  by_cases c_14 : a3 = 3
  · refine lv_tableIn (off := 95) (tgt := 114) hx hb dX9_holds_19 (by rw [c_14]; decide) (by rw [c_14]; decide) (by rw [c_14]; rfl) (by decide) ?_
    refine lv_aload_n hx hb dX9_holds_114 rfl (lv_at hl 2 rfl) ?_
    refine va_get (D := D) (ci := 9) (v := .ref ar) (C := RX9) (T := TX9) (N := 44) hx hb hts hin9 hown hK hP k0 e0 rfl 11 (by decide) (hts (.fieldLink RX9 44 "HoneyHouseModel" "room" "[I") (List.mem_of_getElem? (i := 4) rfl)) (fun _ h9 => h9) f11 dX9_holds_115 ?_
    refine lv_iload hx hb dX9_holds_118 (lv_at hl 1 rfl) ?_
    refine va_iald (f := fun _ => 0) (n := 70) hx hb hK hP kr tr er ur (i_inL a_3 b_4 (by decide)) dX9_holds_120 ?_
    refine tp_i (y := 0) (rfl) ?_
    exact W.iret (v := 0) hx hb hr (fun t ht hW => ⟨0, rfl, (by first | rfl | (simp_all; done) | simp [z_5, a_3, b_4, c_7, c_8, c_11, c_13, c_14]), ht⟩) (fun _ h9 => by cases h9) dX9_holds_121
  by_cases c_15 : a3 = 4
  · refine lv_tableIn (off := 103) (tgt := 122) hx hb dX9_holds_19 (by rw [c_15]; decide) (by rw [c_15]; decide) (by rw [c_15]; rfl) (by decide) ?_
    refine lv_aload_n hx hb dX9_holds_122 rfl (lv_at hl 2 rfl) ?_
    refine va_get (D := D) (ci := 9) (v := .ref ap) (C := RX9) (T := TX9) (N := 44) hx hb hts hin9 hown hK hP k0 e0 rfl 12 (by decide) (hts (.fieldLink RX9 47 "HoneyHouseModel" "price" "[I") (List.mem_of_getElem? (i := 5) rfl)) (fun _ h9 => h9) f12 dX9_holds_123 ?_
    refine lv_iload hx hb dX9_holds_126 (lv_at hl 1 rfl) ?_
    refine va_iald (f := fun _ => 0) (n := 70) hx hb hK hP kp tp ep up (i_inL a_3 b_4 (by decide)) dX9_holds_128 ?_
    refine tp_i (y := 0) (rfl) ?_
    exact W.iret (v := 0) hx hb hr (fun t ht hW => ⟨0, rfl, (by first | rfl | (simp_all; done) | simp [z_5, a_3, b_4, c_7, c_8, c_11, c_13, c_14, c_15]), ht⟩) (fun _ h9 => by cases h9) dX9_holds_129
  have nc_8 := lv_neT c_8 (a := 0) (by decide)
  have nc_11 := lv_neT c_11 (a := 1) (by decide)
  have nc_13 := lv_neT c_13 (a := 2) (by decide)
  have nc_14 := lv_neT c_14 (a := 3) (by decide)
  have nc_15 := lv_neT c_15 (a := 4) (by decide)
  refine lv_tableOut (tgt := 130) hx hb dX9_holds_19 (by omega) (by decide) ?_
  refine lv_iconst (v := (-1)) hx hb dX9_holds_130 (by decide) ?_
  exact W.iret (v := (-1)) hx hb hr (fun t ht hW => ⟨(-1), rfl, (by first | rfl | (simp_all; done) | simp [z_5, a_3, b_4, c_7, c_8, c_11, c_13, c_14, c_15]), ht⟩) (fun _ h9 => by cases h9) dX9_holds_131
set_option maxHeartbeats 4000000 in
set_option maxRecDepth 100000 in
theorem s_X9_part (l : Launch) (D : va_G) (ws : va_W) (tys : List (ClassId × FieldType)) (h0 : Nat) (X : MF ws tys h0) (a1 a2 a3 : Int32) : Met l yX9_part wsX9_part ({ frames := 2, cells := 0, slots := 0, locals := 42 }) (va_Pc [.ref h0, .int a1, .int a2, .int a3] (fun U => va_P D vwCl ws U.heap ∧ va_K D vwCl tys U)) (vp_Si (fun r => r = (-1))) 0 0 (fun _ => False) := by
  refine Met.ofW (cc := cX9_part) (maxL := 5) (ret := (some .int)) (by decide) rfl ?_
  intro p e s m args below meth c s₁ B hml hv
  obtain ⟨rfl, hP, hK⟩ := hv
  have hx := B.exec
  have hb := B.bytes
  have hr := B.returns
  have hts := atoms_spec (ws := wsX9_part) B.pre
  have hown : s.vm.findClass RX9 = some m.cls := findClass_of_methodNamed B.named
  have hlocks := B.notSynchronized
  have hl := lv_entry ([.ref h0, .int a1, .int a2, .int a3]) (n := 5) (Nat.le_of_ble_eq_true rfl)
  rw [lg_entry_eq]
  generalize (lg_sl ([.ref h0, .int a1, .int a2, .int a3]) ++ List.replicate (5 - (lg_sl ([.ref h0, .int a1, .int a2, .int a3])).length) Slot.unset).toArray = ls at hl ⊢
  have hl : lv_has ls 5 [(0, .ref h0), (1, .int a1), (2, .int a2), (3, .int a3)] := hl
  have X0 := X
  obtain ⟨k0, ah, ar, ap, kh, kr, kp, fs, ch, cr, cp, th, tr, tp, e0, f2, f3, f13, f14, f21, f22, f35, f43, f10, f11, f12, eh, uh, er, ur, ep, up⟩ := X
  refine lv_aload_n hx hb dX9_part_0 rfl (lv_at hl 0 rfl) ?_
  refine lv_iload_n hx hb dX9_part_1 rfl (lv_at hl 1 rfl) ?_
  refine lv_iload_n hx hb dX9_part_2 rfl (lv_at hl 2 rfl) ?_
  refine vp_callSi (W.runV (As := [.int a1, .int a2]) (rest := []) ⟨hx, hb, hml, hown, hts⟩ (s_X9_row l D ws tys h0 k0 _ a1 a2 e0 f13) (cwV 2 hts gX9_part_X9_row rfl rfl rfl (by decide +kernel) ⟨Nat.le_of_ble_eq_true rfl, Nat.le_of_ble_eq_true rfl⟩) ⟨fun a U g mk q => ⟨q.1, q.2.1, va_K.moved (u := U) (U := U.calling g mk a) (Vm.Alike.refl U.vm) q.2.2⟩, va_recv hK hP (ci := 9) (q0 := k0) rfl e0, fun U hU hW => ⟨rfl, by rw [hU]; exact hP, va_K.moved hW.alike hK⟩⟩ rfl rfl hl.1 rfl (lv_room (Nat.le_of_ble_eq_true rfl)) dX9_part_3 ⟨Nat.le_of_ble_eq_true rfl, Nat.le_of_ble_eq_true rfl⟩) (fun r_1 k_2 => ?_)
  rcases k_2 with ⟨rfl, a_3o⟩ | ⟨z_5, a_3, b_4, k_2⟩
  · refine lv_istore (lv' := [(4, .int (-1)), (0, .ref h0), (1, .int a1), (2, .int a2), (3, .int a3)]) hx hb dX9_part_6 hl (by decide) rfl (fun ls hl => ?_)
    refine lv_iload hx hb dX9_part_8 (lv_at hl 0 rfl) ?_
    refine lv_if_lt (tgt := 21) hx hb dX9_part_10 (by decide) (fun c_6 => ?_) (fun c_6 => absurd (by decide) c_6)
    refine lv_iconst (v := (-1)) hx hb dX9_part_21 (by decide) ?_
    refine lv_goto (tgt := 37) hx hb dX9_part_22 (by decide) ?_
    exact W.iret (v := (-1)) hx hb hr (fun t ht hW => ⟨(-1), rfl, (by rcases a_3o with a_3o | a_3o | a_3o <;> simp_all), ht⟩) (fun _ h9 => by cases h9) dX9_part_37
  refine tp_i (y := a2) k_2 ?_
  refine lv_istore (lv' := [(4, .int a2), (0, .ref h0), (1, .int a1), (2, .int a2), (3, .int a3)]) hx hb dX9_part_6 hl (by decide) rfl (fun ls hl => ?_)
  refine lv_iload hx hb dX9_part_8 (lv_at hl 0 rfl) ?_
  refine lv_if_lt (tgt := 21) hx hb dX9_part_10 (by decide) (fun c_7 => absurd c_7 (a_3)) (fun c_7 => ?_)
  refine lv_aload_n hx hb dX9_part_13 rfl (lv_at hl 1 rfl) ?_
  refine lv_iload_n hx hb dX9_part_14 rfl (lv_at hl 4 rfl) ?_
  refine vp_callSi (W.runV (As := [.int a3]) (rest := []) ⟨hx, hb, hml, hown, hts⟩ (s_X9_isLot l D ws tys h0 k0 _ a3 e0 f3) (cwV 1 hts gX9_part_X9_isLot rfl rfl rfl (by decide +kernel) ⟨Nat.le_of_ble_eq_true rfl, Nat.le_of_ble_eq_true rfl⟩) ⟨fun a U g mk q => ⟨q.1, q.2.1, va_K.moved (u := U) (U := U.calling g mk a) (Vm.Alike.refl U.vm) q.2.2⟩, va_recv hK hP (ci := 9) (q0 := k0) rfl e0, fun U hU hW => ⟨rfl, by rw [hU]; exact hP, va_K.moved hW.alike hK⟩⟩ rfl rfl hl.1 rfl (lv_room (Nat.le_of_ble_eq_true rfl)) dX9_part_15 ⟨Nat.le_of_ble_eq_true rfl, Nat.le_of_ble_eq_true rfl⟩) (fun r_8 k_9 => ?_)
  subst k_9
  refine lv_if_ne (tgt := 25) hx hb dX9_part_18 (by decide) (fun c_10 => absurd (by decide) c_10) (fun c_10 => ?_)
  refine lv_iconst (v := (-1)) hx hb dX9_part_21 (by decide) ?_
  refine lv_goto (tgt := 37) hx hb dX9_part_22 (by decide) ?_
  exact W.iret (v := (-1)) hx hb hr (fun t ht hW => ⟨(-1), rfl, (by first | rfl | (simp_all; done) | simp [z_5, a_3, b_4, c_7, c_10]), ht⟩) (fun _ h9 => by cases h9) dX9_part_37
set_option maxHeartbeats 4000000 in
set_option maxRecDepth 100000 in
theorem s_X9_isMeasure (l : Launch) (a1 : Int32) : Met l yX9_isMeasure wsX9_isMeasure ({ frames := 1, cells := 0, slots := 0, locals := 22 }) (va_Pc [.int a1] (fun _ => True)) (vp_Si (fun r => r = 0 ∨ r = 1)) 0 0 (fun _ => False) := by
  refine Met.ofW (cc := cX9_isMeasure) (maxL := 1) (ret := (some .boolean)) (by decide) rfl ?_
  intro p e s m args below meth c s₁ B hml hv
  obtain ⟨rfl, -⟩ := hv
  have hx := B.exec
  have hb := B.bytes
  have hr := B.returns
  have hts := atoms_spec (ws := wsX9_isMeasure) B.pre
  have hown : s.vm.findClass RX9 = some m.cls := findClass_of_methodNamed B.named
  have hlocks := B.notSynchronized
  have hl := lv_entry ([.int a1]) (n := 1) (Nat.le_of_ble_eq_true rfl)
  rw [lg_entry_eq]
  generalize (lg_sl ([.int a1]) ++ List.replicate (1 - (lg_sl ([.int a1])).length) Slot.unset).toArray = ls at hl ⊢
  have hl : lv_has ls 1 [(0, .int a1)] := hl
  refine lv_iload_n hx hb dX9_isMeasure_0 rfl (lv_at hl 0 rfl) ?_
  refine lv_iconst (v := 0) hx hb dX9_isMeasure_1 (by decide) ?_
  refine lv_iconst (v := 2) hx hb dX9_isMeasure_2 (by decide) ?_
  refine vp_callSi (W.runS (As := [.int a1, .int 0, .int 2]) (rest := []) ⟨hx, hb, hml, hown, hts⟩ (s_X9_is l a1 0 2) (va_cwS 3 hts gX9_isMeasure_X9_is rfl rfl rfl (by decide +kernel) ⟨Nat.le_of_ble_eq_true rfl, Nat.le_of_ble_eq_true rfl⟩) ⟨fun a U g mk q => q, fun U hU hW => ⟨rfl, trivial⟩⟩ rfl rfl hl.1 rfl (lv_room (Nat.le_of_ble_eq_true rfl)) dX9_isMeasure_3 ⟨Nat.le_of_ble_eq_true rfl, Nat.le_of_ble_eq_true rfl⟩) (fun r_1 k_2 => ?_)
  rcases k_2 with ⟨rfl, -⟩ | ⟨rfl, -, -⟩
  · refine lv_if_ne (tgt := 42) hx hb dX9_isMeasure_6 (by decide) (fun c_3 => absurd (by decide) c_3) (fun c_3 => ?_)
    refine lv_iload_n hx hb dX9_isMeasure_9 rfl (lv_at hl 0 rfl) ?_
    refine lv_bipush (v := 10) hx hb dX9_isMeasure_10 (by decide) ?_
    refine lv_bipush (v := 14) hx hb dX9_isMeasure_12 (by decide) ?_
    refine vp_callSi (W.runS (As := [.int a1, .int 10, .int 14]) (rest := []) ⟨hx, hb, hml, hown, hts⟩ (s_X9_is l a1 10 14) (va_cwS 3 hts gX9_isMeasure_X9_is rfl rfl rfl (by decide +kernel) ⟨Nat.le_of_ble_eq_true rfl, Nat.le_of_ble_eq_true rfl⟩) ⟨fun a U g mk q => q, fun U hU hW => ⟨rfl, trivial⟩⟩ rfl rfl hl.1 rfl (lv_room (Nat.le_of_ble_eq_true rfl)) dX9_isMeasure_14 ⟨Nat.le_of_ble_eq_true rfl, Nat.le_of_ble_eq_true rfl⟩) (fun r_4 k_5 => ?_)
    rcases k_5 with ⟨rfl, -⟩ | ⟨rfl, -, -⟩
    · refine lv_if_ne (tgt := 42) hx hb dX9_isMeasure_17 (by decide) (fun c_6 => absurd (by decide) c_6) (fun c_6 => ?_)
      refine lv_iload_n hx hb dX9_isMeasure_20 rfl (lv_at hl 0 rfl) ?_
      refine lv_bipush (v := 20) hx hb dX9_isMeasure_21 (by decide) ?_
      refine lv_bipush (v := 24) hx hb dX9_isMeasure_23 (by decide) ?_
      refine vp_callSi (W.runS (As := [.int a1, .int 20, .int 24]) (rest := []) ⟨hx, hb, hml, hown, hts⟩ (s_X9_is l a1 20 24) (va_cwS 3 hts gX9_isMeasure_X9_is rfl rfl rfl (by decide +kernel) ⟨Nat.le_of_ble_eq_true rfl, Nat.le_of_ble_eq_true rfl⟩) ⟨fun a U g mk q => q, fun U hU hW => ⟨rfl, trivial⟩⟩ rfl rfl hl.1 rfl (lv_room (Nat.le_of_ble_eq_true rfl)) dX9_isMeasure_25 ⟨Nat.le_of_ble_eq_true rfl, Nat.le_of_ble_eq_true rfl⟩) (fun r_7 k_8 => ?_)
      rcases k_8 with ⟨rfl, -⟩ | ⟨rfl, -, -⟩
      · refine lv_if_ne (tgt := 42) hx hb dX9_isMeasure_28 (by decide) (fun c_9 => absurd (by decide) c_9) (fun c_9 => ?_)
        refine lv_iload_n hx hb dX9_isMeasure_31 rfl (lv_at hl 0 rfl) ?_
        refine lv_bipush (v := 30) hx hb dX9_isMeasure_32 (by decide) ?_
        refine lv_bipush (v := 33) hx hb dX9_isMeasure_34 (by decide) ?_
        refine vp_callSi (W.runS (As := [.int a1, .int 30, .int 33]) (rest := []) ⟨hx, hb, hml, hown, hts⟩ (s_X9_is l a1 30 33) (va_cwS 3 hts gX9_isMeasure_X9_is rfl rfl rfl (by decide +kernel) ⟨Nat.le_of_ble_eq_true rfl, Nat.le_of_ble_eq_true rfl⟩) ⟨fun a U g mk q => q, fun U hU hW => ⟨rfl, trivial⟩⟩ rfl rfl hl.1 rfl (lv_room (Nat.le_of_ble_eq_true rfl)) dX9_isMeasure_36 ⟨Nat.le_of_ble_eq_true rfl, Nat.le_of_ble_eq_true rfl⟩) (fun r_10 k_11 => ?_)
        rcases k_11 with ⟨rfl, -⟩ | ⟨rfl, -, -⟩
        · refine lv_if_eq (tgt := 46) hx hb dX9_isMeasure_39 (by decide) (fun c_12 => ?_) (fun c_12 => absurd (by decide) c_12)
          refine lv_iconst (v := 0) hx hb dX9_isMeasure_46 (by decide) ?_
          exact W.zret (v := 0) hx hb hr rfl (fun t ht hW => ⟨0, rfl, Or.inl rfl, ht⟩) (fun _ h9 => by cases h9) dX9_isMeasure_47
        refine lv_if_eq (tgt := 46) hx hb dX9_isMeasure_39 (by decide) (fun c_13 => absurd c_13 (by decide)) (fun c_13 => ?_)
        refine lv_iconst (v := 1) hx hb dX9_isMeasure_42 (by decide) ?_
        refine lv_goto (tgt := 47) hx hb dX9_isMeasure_43 (by decide) ?_
        exact W.zret (v := 1) hx hb hr rfl (fun t ht hW => ⟨1, rfl, Or.inr rfl, ht⟩) (fun _ h9 => by cases h9) dX9_isMeasure_47
      refine lv_if_ne (tgt := 42) hx hb dX9_isMeasure_28 (by decide) (fun c_14 => ?_) (fun c_14 => absurd c_14 (by decide))
      refine lv_iconst (v := 1) hx hb dX9_isMeasure_42 (by decide) ?_
      refine lv_goto (tgt := 47) hx hb dX9_isMeasure_43 (by decide) ?_
      exact W.zret (v := 1) hx hb hr rfl (fun t ht hW => ⟨1, rfl, Or.inr rfl, ht⟩) (fun _ h9 => by cases h9) dX9_isMeasure_47
    refine lv_if_ne (tgt := 42) hx hb dX9_isMeasure_17 (by decide) (fun c_15 => ?_) (fun c_15 => absurd c_15 (by decide))
    refine lv_iconst (v := 1) hx hb dX9_isMeasure_42 (by decide) ?_
    refine lv_goto (tgt := 47) hx hb dX9_isMeasure_43 (by decide) ?_
    exact W.zret (v := 1) hx hb hr rfl (fun t ht hW => ⟨1, rfl, Or.inr rfl, ht⟩) (fun _ h9 => by cases h9) dX9_isMeasure_47
  refine lv_if_ne (tgt := 42) hx hb dX9_isMeasure_6 (by decide) (fun c_16 => ?_) (fun c_16 => absurd c_16 (by decide))
  refine lv_iconst (v := 1) hx hb dX9_isMeasure_42 (by decide) ?_
  refine lv_goto (tgt := 47) hx hb dX9_isMeasure_43 (by decide) ?_
  exact W.zret (v := 1) hx hb hr rfl (fun t ht hW => ⟨1, rfl, Or.inr rfl, ht⟩) (fun _ h9 => by cases h9) dX9_isMeasure_47
set_option maxHeartbeats 4000000 in
set_option maxRecDepth 100000 in
theorem s_X9_measure (l : Launch) (D : va_G) (ws : va_W) (tys : List (ClassId × FieldType)) (h0 : Nat) (X : MF ws tys h0) (a1 a2 a3 : Int32) : Met l yX9_measure wsX9_measure ({ frames := 2, cells := 0, slots := 0, locals := 42 }) (va_Pc [.ref h0, .int a1, .int a2, .int a3] (fun U => va_P D vwCl ws U.heap ∧ va_K D vwCl tys U)) (vp_Si (fun r => r = (-1))) 0 0 (fun _ => False) := by
  refine Met.ofW (cc := cX9_measure) (maxL := 5) (ret := (some .int)) (by decide) rfl ?_
  intro p e s m args below meth c s₁ B hml hv
  obtain ⟨rfl, hP, hK⟩ := hv
  have hx := B.exec
  have hb := B.bytes
  have hr := B.returns
  have hts := atoms_spec (ws := wsX9_measure) B.pre
  have hown : s.vm.findClass RX9 = some m.cls := findClass_of_methodNamed B.named
  have hlocks := B.notSynchronized
  have hl := lv_entry ([.ref h0, .int a1, .int a2, .int a3]) (n := 5) (Nat.le_of_ble_eq_true rfl)
  rw [lg_entry_eq]
  generalize (lg_sl ([.ref h0, .int a1, .int a2, .int a3]) ++ List.replicate (5 - (lg_sl ([.ref h0, .int a1, .int a2, .int a3])).length) Slot.unset).toArray = ls at hl ⊢
  have hl : lv_has ls 5 [(0, .ref h0), (1, .int a1), (2, .int a2), (3, .int a3)] := hl
  have X0 := X
  obtain ⟨k0, ah, ar, ap, kh, kr, kp, fs, ch, cr, cp, th, tr, tp, e0, f2, f3, f13, f14, f21, f22, f35, f43, f10, f11, f12, eh, uh, er, ur, ep, up⟩ := X
  refine lv_aload_n hx hb dX9_measure_0 rfl (lv_at hl 0 rfl) ?_
  refine lv_iload_n hx hb dX9_measure_1 rfl (lv_at hl 1 rfl) ?_
  refine lv_iload_n hx hb dX9_measure_2 rfl (lv_at hl 2 rfl) ?_
  refine vp_callSi (W.runV (As := [.int a1, .int a2]) (rest := []) ⟨hx, hb, hml, hown, hts⟩ (s_X9_row l D ws tys h0 k0 _ a1 a2 e0 f13) (cwV 2 hts gX9_measure_X9_row rfl rfl rfl (by decide +kernel) ⟨Nat.le_of_ble_eq_true rfl, Nat.le_of_ble_eq_true rfl⟩) ⟨fun a U g mk q => ⟨q.1, q.2.1, va_K.moved (u := U) (U := U.calling g mk a) (Vm.Alike.refl U.vm) q.2.2⟩, va_recv hK hP (ci := 9) (q0 := k0) rfl e0, fun U hU hW => ⟨rfl, by rw [hU]; exact hP, va_K.moved hW.alike hK⟩⟩ rfl rfl hl.1 rfl (lv_room (Nat.le_of_ble_eq_true rfl)) dX9_measure_3 ⟨Nat.le_of_ble_eq_true rfl, Nat.le_of_ble_eq_true rfl⟩) (fun r_1 k_2 => ?_)
  rcases k_2 with ⟨rfl, a_3o⟩ | ⟨z_5, a_3, b_4, k_2⟩
  · refine lv_istore (lv' := [(4, .int (-1)), (0, .ref h0), (1, .int a1), (2, .int a2), (3, .int a3)]) hx hb dX9_measure_6 hl (by decide) rfl (fun ls hl => ?_)
    refine lv_iload hx hb dX9_measure_8 (lv_at hl 0 rfl) ?_
    refine lv_if_lt (tgt := 29) hx hb dX9_measure_10 (by decide) (fun c_6 => ?_) (fun c_6 => absurd (by decide) c_6)
    refine lv_iconst (v := (-1)) hx hb dX9_measure_29 (by decide) ?_
    exact W.iret (v := (-1)) hx hb hr (fun t ht hW => ⟨(-1), rfl, (by rcases a_3o with a_3o | a_3o | a_3o <;> simp_all), ht⟩) (fun _ h9 => by cases h9) dX9_measure_30
  refine tp_i (y := a2) k_2 ?_
  refine lv_istore (lv' := [(4, .int a2), (0, .ref h0), (1, .int a1), (2, .int a2), (3, .int a3)]) hx hb dX9_measure_6 hl (by decide) rfl (fun ls hl => ?_)
  refine lv_iload hx hb dX9_measure_8 (lv_at hl 0 rfl) ?_
  refine lv_if_lt (tgt := 29) hx hb dX9_measure_10 (by decide) (fun c_7 => absurd c_7 (a_3)) (fun c_7 => ?_)
  refine lv_aload_n hx hb dX9_measure_13 rfl (lv_at hl 1 rfl) ?_
  refine lv_iload hx hb dX9_measure_14 (lv_at hl 0 rfl) ?_
  refine vp_callSi (W.runV (As := [.int a2]) (rest := []) ⟨hx, hb, hml, hown, hts⟩ (s_X9_all l D ws tys h0 k0 _ a2 e0 f3) (cwV 1 hts gX9_measure_X9_all rfl rfl rfl (by decide +kernel) ⟨Nat.le_of_ble_eq_true rfl, Nat.le_of_ble_eq_true rfl⟩) ⟨fun a U g mk q => ⟨q.1, q.2.1, va_K.moved (u := U) (U := U.calling g mk a) (Vm.Alike.refl U.vm) q.2.2⟩, va_recv hK hP (ci := 9) (q0 := k0) rfl e0, fun U hU hW => ⟨rfl, by rw [hU]; exact hP, va_K.moved hW.alike hK⟩⟩ rfl rfl hl.1 rfl (lv_room (Nat.le_of_ble_eq_true rfl)) dX9_measure_16 ⟨Nat.le_of_ble_eq_true rfl, Nat.le_of_ble_eq_true rfl⟩) (fun r_8 k_9 => ?_)
  subst k_9
  refine lv_if_eq (tgt := 29) hx hb dX9_measure_19 (by decide) (fun c_10 => ?_) (fun c_10 => absurd (by decide) c_10)
  refine lv_iconst (v := (-1)) hx hb dX9_measure_29 (by decide) ?_
  exact W.iret (v := (-1)) hx hb hr (fun t ht hW => ⟨(-1), rfl, (by first | rfl | (simp_all; done) | simp [z_5, a_3, b_4, c_7, c_10]), ht⟩) (fun _ h9 => by cases h9) dX9_measure_30
set_option maxHeartbeats 4000000 in
set_option maxRecDepth 100000 in
theorem s_X9_fault (l : Launch) (D : va_G) (ws : va_W) (tys : List (ClassId × FieldType)) (h0 : Nat) (X : MF ws tys h0) (a1 : Int32) : Met l yX9_fault wsX9_fault ({ frames := 0, cells := 0, slots := 0, locals := 0 }) (va_Pc [.ref h0, .int a1] (fun U => va_P D vwCl ws U.heap ∧ va_K D vwCl tys U)) (vp_Si (fun r => r = if a1 = 0 then 0 else (-1))) 0 0 (fun _ => False) := by
  refine Met.ofW (cc := cX9_fault) (maxL := 2) (ret := (some .int)) (by decide) rfl ?_
  intro p e s m args below meth c s₁ B hml hv
  obtain ⟨rfl, hP, hK⟩ := hv
  have hx := B.exec
  have hb := B.bytes
  have hr := B.returns
  have hts := atoms_spec (ws := wsX9_fault) B.pre
  have hown : s.vm.findClass RX9 = some m.cls := findClass_of_methodNamed B.named
  have hlocks := B.notSynchronized
  have hin9 : ∀ w ∈ u_ws RX9 TX9 44, w ∈ wsX9_fault := (fun _ h9 => List.mem_cons_of_mem _ ((List.mem_append_right _ h9)))
  have hl := lv_entry ([.ref h0, .int a1]) (n := 2) (Nat.le_of_ble_eq_true rfl)
  rw [lg_entry_eq]
  generalize (lg_sl ([.ref h0, .int a1]) ++ List.replicate (2 - (lg_sl ([.ref h0, .int a1])).length) Slot.unset).toArray = ls at hl ⊢
  have hl : lv_has ls 2 [(0, .ref h0), (1, .int a1)] := hl
  have X0 := X
  obtain ⟨k0, ah, ar, ap, kh, kr, kp, fs, ch, cr, cp, th, tr, tp, e0, f2, f3, f13, f14, f21, f22, f35, f43, f10, f11, f12, eh, uh, er, ur, ep, up⟩ := X
  refine lv_iload_n hx hb dX9_fault_0 rfl (lv_at hl 1 rfl) ?_
  refine lv_if_ne (tgt := 11) hx hb dX9_fault_1 (by decide) (fun c_1 => ?_) (fun c_1 => ?_)
  · refine lv_iload_n hx hb dX9_fault_11 rfl (lv_at hl 1 rfl) ?_
    refine lv_iconst (v := 1) hx hb dX9_fault_12 (by decide) ?_
    refine lv_icmp_ne (tgt := 23) hx hb dX9_fault_13 (by decide) (fun c_2 => ?_) (fun c_2 => ?_)
    · refine lv_iconst (v := (-1)) hx hb dX9_fault_23 (by decide) ?_
      exact W.iret (v := (-1)) hx hb hr (fun t ht hW => ⟨(-1), rfl, (by first | rfl | (simp_all; done) | simp [c_1, c_2]), ht⟩) (fun _ h9 => by cases h9) dX9_fault_24
    refine lv_aload_n hx hb dX9_fault_16 rfl (lv_at hl 0 rfl) ?_
    refine va_get (D := D) (ci := 9) (v := .int (-1)) (C := RX9) (T := TX9) (N := 44) hx hb hts hin9 hown hK hP k0 e0 rfl 22 (by decide) (hts (.fieldLink RX9 77 "HoneyHouseModel" "faultPlace" "I") (List.mem_of_getElem? (i := 2) rfl)) (fun _ h9 => h9) f22 dX9_fault_17 ?_
    refine lv_goto (tgt := 24) hx hb dX9_fault_20 (by decide) ?_
    exact W.iret (v := (-1)) hx hb hr (fun t ht hW => ⟨(-1), rfl, (by first | rfl | (simp_all; done) | simp [c_1, c_2]), ht⟩) (fun _ h9 => by cases h9) dX9_fault_24
  refine lv_aload_n hx hb dX9_fault_4 rfl (lv_at hl 0 rfl) ?_
  refine va_get (D := D) (ci := 9) (v := .int 0) (C := RX9) (T := TX9) (N := 44) hx hb hts hin9 hown hK hP k0 e0 rfl 21 (by decide) (hts (.fieldLink RX9 74 "HoneyHouseModel" "faultKind" "I") (List.mem_of_getElem? (i := 1) rfl)) (fun _ h9 => h9) f21 dX9_fault_5 ?_
  refine lv_goto (tgt := 24) hx hb dX9_fault_8 (by decide) ?_
  exact W.iret (v := 0) hx hb hr (fun t ht hW => ⟨0, rfl, (by first | rfl | (simp_all; done) | simp [c_1]), ht⟩) (fun _ h9 => by cases h9) dX9_fault_24
set_option maxHeartbeats 4000000 in
set_option maxRecDepth 100000 in
theorem s_X9_shut (l : Launch) (D : va_G) (ws : va_W) (tys : List (ClassId × FieldType)) (h0 : Nat) (X : MF ws tys h0) (a1 a2 : Int32) : Met l yX9_shut wsX9_shut ({ frames := 0, cells := 0, slots := 0, locals := 0 }) (va_Pc [.ref h0, .int a1, .int a2] (fun U => va_P D vwCl ws U.heap ∧ va_K D vwCl tys U)) (vp_Si (fun r => r = 0)) 0 0 (fun _ => False) := by
  refine Met.ofW (cc := cX9_shut) (maxL := 3) (ret := (some .boolean)) (by decide) rfl ?_
  intro p e s m args below meth c s₁ B hml hv
  obtain ⟨rfl, hP, hK⟩ := hv
  have hx := B.exec
  have hb := B.bytes
  have hr := B.returns
  have hts := atoms_spec (ws := wsX9_shut) B.pre
  have hown : s.vm.findClass RX9 = some m.cls := findClass_of_methodNamed B.named
  have hlocks := B.notSynchronized
  have hin9 : ∀ w ∈ u_ws RX9 TX9 44, w ∈ wsX9_shut := (fun _ h9 => List.mem_cons_of_mem _ ((List.mem_append_right _ h9)))
  have hl := lv_entry ([.ref h0, .int a1, .int a2]) (n := 3) (Nat.le_of_ble_eq_true rfl)
  rw [lg_entry_eq]
  generalize (lg_sl ([.ref h0, .int a1, .int a2]) ++ List.replicate (3 - (lg_sl ([.ref h0, .int a1, .int a2])).length) Slot.unset).toArray = ls at hl ⊢
  have hl : lv_has ls 3 [(0, .ref h0), (1, .int a1), (2, .int a2)] := hl
  have X0 := X
  obtain ⟨k0, ah, ar, ap, kh, kr, kp, fs, ch, cr, cp, th, tr, tp, e0, f2, f3, f13, f14, f21, f22, f35, f43, f10, f11, f12, eh, uh, er, ur, ep, up⟩ := X
  refine lv_iload_n hx hb dX9_shut_0 rfl (lv_at hl 1 rfl) ?_
  refine lv_if_lt (tgt := 32) hx hb dX9_shut_1 (by decide) (fun c_1 => ?_) (fun c_1 => ?_)
  · refine lv_iconst (v := 0) hx hb dX9_shut_32 (by decide) ?_
    exact W.zret (v := 0) hx hb hr rfl (fun t ht hW => ⟨0, rfl, (by first | rfl | (simp_all; done) | simp [c_1]), ht⟩) (fun _ h9 => by cases h9) dX9_shut_33
  refine lv_iload_n hx hb dX9_shut_4 rfl (lv_at hl 1 rfl) ?_
  refine lv_aload_n hx hb dX9_shut_5 rfl (lv_at hl 0 rfl) ?_
  refine va_get (D := D) (ci := 9) (v := .int 0) (C := RX9) (T := TX9) (N := 44) hx hb hts hin9 hown hK hP k0 e0 rfl 14 (by decide) (hts (.fieldLink RX9 53 "HoneyHouseModel" "rules" "I") (List.mem_of_getElem? (i := 1) rfl)) (fun _ h9 => h9) f14 dX9_shut_6 ?_
  refine lv_icmp_ge (tgt := 32) hx hb dX9_shut_9 (by decide) (fun c_2 => ?_) (fun c_2 => absurd (i_nlt c_1) c_2)
  refine lv_iconst (v := 0) hx hb dX9_shut_32 (by decide) ?_
  exact W.zret (v := 0) hx hb hr rfl (fun t ht hW => ⟨0, rfl, (by first | rfl | (simp_all; done) | simp [c_1, c_2]), ht⟩) (fun _ h9 => by cases h9) dX9_shut_33
set_option maxHeartbeats 4000000 in
set_option maxRecDepth 100000 in
theorem s_X9_says (l : Launch) (D : va_G) (ws : va_W) (tys : List (ClassId × FieldType)) (h0 : Nat) (X : MF ws tys h0) (a1 a2 a3 : Int32) : Met l yX9_says wsX9_says ({ frames := 2, cells := 0, slots := 0, locals := 42 }) (va_Pc [.ref h0, .int a1, .int a2, .int a3] (fun U => va_P D vwCl ws U.heap ∧ va_K D vwCl tys U)) (vp_Si (fun r => r = (-1))) 0 0 (fun _ => False) := by
  refine Met.ofW (cc := cX9_says) (maxL := 6) (ret := (some .int)) (by decide) rfl ?_
  intro p e s m args below meth c s₁ B hml hv
  obtain ⟨rfl, hP, hK⟩ := hv
  have hx := B.exec
  have hb := B.bytes
  have hr := B.returns
  have hts := atoms_spec (ws := wsX9_says) B.pre
  have hown : s.vm.findClass RX9 = some m.cls := findClass_of_methodNamed B.named
  have hlocks := B.notSynchronized
  have hin9 : ∀ w ∈ u_ws RX9 TX9 44, w ∈ wsX9_says := (fun _ h9 => List.mem_cons_of_mem _ ((List.mem_append_right _ h9)))
  have hl := lv_entry ([.ref h0, .int a1, .int a2, .int a3]) (n := 6) (Nat.le_of_ble_eq_true rfl)
  rw [lg_entry_eq]
  generalize (lg_sl ([.ref h0, .int a1, .int a2, .int a3]) ++ List.replicate (6 - (lg_sl ([.ref h0, .int a1, .int a2, .int a3])).length) Slot.unset).toArray = ls at hl ⊢
  have hl : lv_has ls 6 [(0, .ref h0), (1, .int a1), (2, .int a2), (3, .int a3)] := hl
  have X0 := X
  obtain ⟨k0, ah, ar, ap, kh, kr, kp, fs, ch, cr, cp, th, tr, tp, e0, f2, f3, f13, f14, f21, f22, f35, f43, f10, f11, f12, eh, uh, er, ur, ep, up⟩ := X
  refine lv_aload_n hx hb dX9_says_0 rfl (lv_at hl 0 rfl) ?_
  refine lv_iload_n hx hb dX9_says_1 rfl (lv_at hl 2 rfl) ?_
  refine lv_iload_n hx hb dX9_says_2 rfl (lv_at hl 3 rfl) ?_
  refine vp_callSi (W.runV (As := [.int a2, .int a3]) (rest := []) ⟨hx, hb, hml, hown, hts⟩ (s_X9_row l D ws tys h0 k0 _ a2 a3 e0 f13) (cwV 2 hts gX9_says_X9_row rfl rfl rfl (by decide +kernel) ⟨Nat.le_of_ble_eq_true rfl, Nat.le_of_ble_eq_true rfl⟩) ⟨fun a U g mk q => ⟨q.1, q.2.1, va_K.moved (u := U) (U := U.calling g mk a) (Vm.Alike.refl U.vm) q.2.2⟩, va_recv hK hP (ci := 9) (q0 := k0) rfl e0, fun U hU hW => ⟨rfl, by rw [hU]; exact hP, va_K.moved hW.alike hK⟩⟩ rfl rfl hl.1 rfl (lv_room (Nat.le_of_ble_eq_true rfl)) dX9_says_3 ⟨Nat.le_of_ble_eq_true rfl, Nat.le_of_ble_eq_true rfl⟩) (fun r_1 k_2 => ?_)
  rcases k_2 with ⟨rfl, a_3o⟩ | ⟨z_5, a_3, b_4, k_2⟩
  · refine lv_istore (lv' := [(4, .int (-1)), (0, .ref h0), (1, .int a1), (2, .int a2), (3, .int a3)]) hx hb dX9_says_6 hl (by decide) rfl (fun ls hl => ?_)
    refine lv_iload_n hx hb dX9_says_8 rfl (lv_at hl 2 rfl) ?_
    refine lv_if_lt (tgt := 34) hx hb dX9_says_9 (by decide) (fun c_6 => ?_) (fun c_6 => ?_)
    · refine lv_iconst (v := (-1)) hx hb dX9_says_34 (by decide) ?_
      exact W.iret (v := (-1)) hx hb hr (fun t ht hW => ⟨(-1), rfl, (by rcases a_3o with a_3o | a_3o | a_3o <;> simp_all), ht⟩) (fun _ h9 => by cases h9) dX9_says_35
    refine lv_iload_n hx hb dX9_says_12 rfl (lv_at hl 2 rfl) ?_
    refine lv_aload_n hx hb dX9_says_13 rfl (lv_at hl 1 rfl) ?_
    refine va_get (D := D) (ci := 9) (v := .int 0) (C := RX9) (T := TX9) (N := 44) hx hb hts hin9 hown hK hP k0 e0 rfl 14 (by decide) (hts (.fieldLink RX9 53 "HoneyHouseModel" "rules" "I") (List.mem_of_getElem? (i := 1) rfl)) (fun _ h9 => h9) f14 dX9_says_14 ?_
    refine lv_icmp_ge (tgt := 34) hx hb dX9_says_17 (by decide) (fun c_7 => ?_) (fun c_7 => absurd (i_nlt c_6) c_7)
    refine lv_iconst (v := (-1)) hx hb dX9_says_34 (by decide) ?_
    exact W.iret (v := (-1)) hx hb hr (fun t ht hW => ⟨(-1), rfl, (by rcases a_3o with a_3o | a_3o | a_3o <;> simp_all), ht⟩) (fun _ h9 => by cases h9) dX9_says_35
  refine tp_i (y := a3) k_2 ?_
  refine lv_istore (lv' := [(4, .int a3), (0, .ref h0), (1, .int a1), (2, .int a2), (3, .int a3)]) hx hb dX9_says_6 hl (by decide) rfl (fun ls hl => ?_)
  refine lv_iload_n hx hb dX9_says_8 rfl (lv_at hl 2 rfl) ?_
  refine lv_if_lt (tgt := 34) hx hb dX9_says_9 (by decide) (fun c_8 => ?_) (fun c_8 => ?_)
  · refine lv_iconst (v := (-1)) hx hb dX9_says_34 (by decide) ?_
    exact W.iret (v := (-1)) hx hb hr (fun t ht hW => ⟨(-1), rfl, (by first | rfl | (simp_all; done) | simp [z_5, a_3, b_4, c_8]), ht⟩) (fun _ h9 => by cases h9) dX9_says_35
  refine lv_iload_n hx hb dX9_says_12 rfl (lv_at hl 2 rfl) ?_
  refine lv_aload_n hx hb dX9_says_13 rfl (lv_at hl 1 rfl) ?_
  refine va_get (D := D) (ci := 9) (v := .int 0) (C := RX9) (T := TX9) (N := 44) hx hb hts hin9 hown hK hP k0 e0 rfl 14 (by decide) (hts (.fieldLink RX9 53 "HoneyHouseModel" "rules" "I") (List.mem_of_getElem? (i := 1) rfl)) (fun _ h9 => h9) f14 dX9_says_14 ?_
  refine lv_icmp_ge (tgt := 34) hx hb dX9_says_17 (by decide) (fun c_9 => ?_) (fun c_9 => absurd (i_nlt c_8) c_9)
  refine lv_iconst (v := (-1)) hx hb dX9_says_34 (by decide) ?_
  exact W.iret (v := (-1)) hx hb hr (fun t ht hW => ⟨(-1), rfl, (by first | rfl | (simp_all; done) | simp [z_5, a_3, b_4, c_8, c_9]), ht⟩) (fun _ h9 => by cases h9) dX9_says_35
set_option maxHeartbeats 4000000 in
set_option maxRecDepth 100000 in
theorem s_X9_name (l : Launch) (D : va_G) (ws : va_W) (tys : List (ClassId × FieldType)) (h0 : Nat) (X : MF ws tys h0) (a1 a2 a3 : Int32) : Met l yX9_name_ wsX9_name_ ({ frames := 2, cells := 0, slots := 0, locals := 42 }) (va_Pc [.ref h0, .int a1, .int a2, .int a3] (fun U => va_P D vwCl ws U.heap ∧ va_K D vwCl tys U)) (vp_Si (fun r => r = (-1))) 0 0 (fun _ => False) := by
  refine Met.ofW (cc := cX9_name_) (maxL := 6) (ret := (some .int)) (by decide) rfl ?_
  intro p e s m args below meth c s₁ B hml hv
  obtain ⟨rfl, hP, hK⟩ := hv
  have hx := B.exec
  have hb := B.bytes
  have hr := B.returns
  have hts := atoms_spec (ws := wsX9_name_) B.pre
  have hown : s.vm.findClass RX9 = some m.cls := findClass_of_methodNamed B.named
  have hlocks := B.notSynchronized
  have hl := lv_entry ([.ref h0, .int a1, .int a2, .int a3]) (n := 6) (Nat.le_of_ble_eq_true rfl)
  rw [lg_entry_eq]
  generalize (lg_sl ([.ref h0, .int a1, .int a2, .int a3]) ++ List.replicate (6 - (lg_sl ([.ref h0, .int a1, .int a2, .int a3])).length) Slot.unset).toArray = ls at hl ⊢
  have hl : lv_has ls 6 [(0, .ref h0), (1, .int a1), (2, .int a2), (3, .int a3)] := hl
  have X0 := X
  obtain ⟨k0, ah, ar, ap, kh, kr, kp, fs, ch, cr, cp, th, tr, tp, e0, f2, f3, f13, f14, f21, f22, f35, f43, f10, f11, f12, eh, uh, er, ur, ep, up⟩ := X
  refine lv_aload_n hx hb dX9_name__0 rfl (lv_at hl 0 rfl) ?_
  refine lv_iload_n hx hb dX9_name__1 rfl (lv_at hl 1 rfl) ?_
  refine lv_iload_n hx hb dX9_name__2 rfl (lv_at hl 2 rfl) ?_
  refine vp_callSi (W.runV (As := [.int a1, .int a2]) (rest := []) ⟨hx, hb, hml, hown, hts⟩ (s_X9_row l D ws tys h0 k0 _ a1 a2 e0 f13) (cwV 2 hts gX9_name__X9_row rfl rfl rfl (by decide +kernel) ⟨Nat.le_of_ble_eq_true rfl, Nat.le_of_ble_eq_true rfl⟩) ⟨fun a U g mk q => ⟨q.1, q.2.1, va_K.moved (u := U) (U := U.calling g mk a) (Vm.Alike.refl U.vm) q.2.2⟩, va_recv hK hP (ci := 9) (q0 := k0) rfl e0, fun U hU hW => ⟨rfl, by rw [hU]; exact hP, va_K.moved hW.alike hK⟩⟩ rfl rfl hl.1 rfl (lv_room (Nat.le_of_ble_eq_true rfl)) dX9_name__3 ⟨Nat.le_of_ble_eq_true rfl, Nat.le_of_ble_eq_true rfl⟩) (fun r_1 k_2 => ?_)
  rcases k_2 with ⟨rfl, a_3o⟩ | ⟨z_5, a_3, b_4, k_2⟩
  · refine lv_istore (lv' := [(4, .int (-1)), (0, .ref h0), (1, .int a1), (2, .int a2), (3, .int a3)]) hx hb dX9_name__6 hl (by decide) rfl (fun ls hl => ?_)
    refine lv_iload hx hb dX9_name__8 (lv_at hl 0 rfl) ?_
    refine lv_if_lt (tgt := 22) hx hb dX9_name__10 (by decide) (fun c_6 => ?_) (fun c_6 => absurd (by decide) c_6)
    refine lv_iconst (v := (-1)) hx hb dX9_name__22 (by decide) ?_
    exact W.iret (v := (-1)) hx hb hr (fun t ht hW => ⟨(-1), rfl, (by rcases a_3o with a_3o | a_3o | a_3o <;> simp_all), ht⟩) (fun _ h9 => by cases h9) dX9_name__23
  refine tp_i (y := a2) k_2 ?_
  refine lv_istore (lv' := [(4, .int a2), (0, .ref h0), (1, .int a1), (2, .int a2), (3, .int a3)]) hx hb dX9_name__6 hl (by decide) rfl (fun ls hl => ?_)
  refine lv_iload hx hb dX9_name__8 (lv_at hl 0 rfl) ?_
  refine lv_if_lt (tgt := 22) hx hb dX9_name__10 (by decide) (fun c_7 => absurd c_7 (a_3)) (fun c_7 => ?_)
  refine lv_aload_n hx hb dX9_name__13 rfl (lv_at hl 1 rfl) ?_
  refine lv_iload hx hb dX9_name__14 (lv_at hl 0 rfl) ?_
  refine vp_callSi (W.runV (As := [.int a2]) (rest := []) ⟨hx, hb, hml, hown, hts⟩ (s_X9_all l D ws tys h0 k0 _ a2 e0 f3) (cwV 1 hts gX9_name__X9_all rfl rfl rfl (by decide +kernel) ⟨Nat.le_of_ble_eq_true rfl, Nat.le_of_ble_eq_true rfl⟩) ⟨fun a U g mk q => ⟨q.1, q.2.1, va_K.moved (u := U) (U := U.calling g mk a) (Vm.Alike.refl U.vm) q.2.2⟩, va_recv hK hP (ci := 9) (q0 := k0) rfl e0, fun U hU hW => ⟨rfl, by rw [hU]; exact hP, va_K.moved hW.alike hK⟩⟩ rfl rfl hl.1 rfl (lv_room (Nat.le_of_ble_eq_true rfl)) dX9_name__16 ⟨Nat.le_of_ble_eq_true rfl, Nat.le_of_ble_eq_true rfl⟩) (fun r_8 k_9 => ?_)
  subst k_9
  refine lv_if_ne (tgt := 24) hx hb dX9_name__19 (by decide) (fun c_10 => absurd (by decide) c_10) (fun c_10 => ?_)
  refine lv_iconst (v := (-1)) hx hb dX9_name__22 (by decide) ?_
  exact W.iret (v := (-1)) hx hb hr (fun t ht hW => ⟨(-1), rfl, (by first | rfl | (simp_all; done) | simp [z_5, a_3, b_4, c_7, c_10]), ht⟩) (fun _ h9 => by cases h9) dX9_name__23
set_option maxHeartbeats 4000000 in
set_option maxRecDepth 100000 in
theorem s_X9_parts (l : Launch) (D : va_G) (ws : va_W) (tys : List (ClassId × FieldType)) (h0 : Nat) (X : MF ws tys h0) (a1 : Int32) : Met l yX9_parts wsX9_parts ({ frames := 0, cells := 0, slots := 0, locals := 0 }) (va_Pc [.ref h0, .int a1] (fun U => va_P D vwCl ws U.heap ∧ va_K D vwCl tys U)) (vp_Si (fun r => r = (-1))) 0 0 (fun _ => False) := by
  refine Met.ofW (cc := cX9_parts) (maxL := 2) (ret := (some .int)) (by decide) rfl ?_
  intro p e s m args below meth c s₁ B hml hv
  obtain ⟨rfl, hP, hK⟩ := hv
  have hx := B.exec
  have hb := B.bytes
  have hr := B.returns
  have hts := atoms_spec (ws := wsX9_parts) B.pre
  have hown : s.vm.findClass RX9 = some m.cls := findClass_of_methodNamed B.named
  have hlocks := B.notSynchronized
  have hin9 : ∀ w ∈ u_ws RX9 TX9 44, w ∈ wsX9_parts := (fun _ h9 => List.mem_cons_of_mem _ ((List.mem_append_right _ h9)))
  have hl := lv_entry ([.ref h0, .int a1]) (n := 2) (Nat.le_of_ble_eq_true rfl)
  rw [lg_entry_eq]
  generalize (lg_sl ([.ref h0, .int a1]) ++ List.replicate (2 - (lg_sl ([.ref h0, .int a1])).length) Slot.unset).toArray = ls at hl ⊢
  have hl : lv_has ls 2 [(0, .ref h0), (1, .int a1)] := hl
  have X0 := X
  obtain ⟨k0, ah, ar, ap, kh, kr, kp, fs, ch, cr, cp, th, tr, tp, e0, f2, f3, f13, f14, f21, f22, f35, f43, f10, f11, f12, eh, uh, er, ur, ep, up⟩ := X
  refine lv_aload_n hx hb dX9_parts_0 rfl (lv_at hl 0 rfl) ?_
  refine va_get (D := D) (ci := 9) (v := .int 0) (C := RX9) (T := TX9) (N := 44) hx hb hts hin9 hown hK hP k0 e0 rfl 35 (by decide) (hts (.fieldLink RX9 117 "HoneyHouseModel" "blended" "Z") (List.mem_of_getElem? (i := 1) rfl)) (fun _ h9 => h9) f35 dX9_parts_1 ?_
  refine lv_if_eq (tgt := 14) hx hb dX9_parts_4 (by decide) (fun c_1 => ?_) (fun c_1 => absurd (by decide) c_1)
  refine lv_iconst (v := (-1)) hx hb dX9_parts_14 (by decide) ?_
  refine lv_goto (tgt := 24) hx hb dX9_parts_15 (by decide) ?_
  exact W.iret (v := (-1)) hx hb hr (fun t ht hW => ⟨(-1), rfl, (by first | rfl | (simp_all; done) | simp [c_1]), ht⟩) (fun _ h9 => by cases h9) dX9_parts_24
set_option maxHeartbeats 4000000 in
set_option maxRecDepth 100000 in
theorem s_X9_found (l : Launch) (D : va_G) (ws : va_W) (tys : List (ClassId × FieldType)) (h0 : Nat) (X : MF ws tys h0) (a1 : Int32) : Met l yX9_found wsX9_found ({ frames := 0, cells := 0, slots := 0, locals := 0 }) (va_Pc [.ref h0, .int a1] (fun U => va_P D vwCl ws U.heap ∧ va_K D vwCl tys U)) (vp_Si (fun r => r = (-1))) 0 0 (fun _ => False) := by
  refine Met.ofW (cc := cX9_found) (maxL := 2) (ret := (some .int)) (by decide) rfl ?_
  intro p e s m args below meth c s₁ B hml hv
  obtain ⟨rfl, hP, hK⟩ := hv
  have hx := B.exec
  have hb := B.bytes
  have hr := B.returns
  have hts := atoms_spec (ws := wsX9_found) B.pre
  have hown : s.vm.findClass RX9 = some m.cls := findClass_of_methodNamed B.named
  have hlocks := B.notSynchronized
  have hin9 : ∀ w ∈ u_ws RX9 TX9 44, w ∈ wsX9_found := (fun _ h9 => List.mem_cons_of_mem _ ((List.mem_append_right _ h9)))
  have hl := lv_entry ([.ref h0, .int a1]) (n := 2) (Nat.le_of_ble_eq_true rfl)
  rw [lg_entry_eq]
  generalize (lg_sl ([.ref h0, .int a1]) ++ List.replicate (2 - (lg_sl ([.ref h0, .int a1])).length) Slot.unset).toArray = ls at hl ⊢
  have hl : lv_has ls 2 [(0, .ref h0), (1, .int a1)] := hl
  have X0 := X
  obtain ⟨k0, ah, ar, ap, kh, kr, kp, fs, ch, cr, cp, th, tr, tp, e0, f2, f3, f13, f14, f21, f22, f35, f43, f10, f11, f12, eh, uh, er, ur, ep, up⟩ := X
  refine lv_iload_n hx hb dX9_found_0 rfl (lv_at hl 1 rfl) ?_
  refine lv_if_lt (tgt := 12) hx hb dX9_found_1 (by decide) (fun c_1 => ?_) (fun c_1 => ?_)
  · refine lv_iconst (v := (-1)) hx hb dX9_found_12 (by decide) ?_
    refine lv_goto (tgt := 22) hx hb dX9_found_13 (by decide) ?_
    exact W.iret (v := (-1)) hx hb hr (fun t ht hW => ⟨(-1), rfl, (by first | rfl | (simp_all; done) | simp [c_1]), ht⟩) (fun _ h9 => by cases h9) dX9_found_22
  refine lv_iload_n hx hb dX9_found_4 rfl (lv_at hl 1 rfl) ?_
  refine lv_aload_n hx hb dX9_found_5 rfl (lv_at hl 0 rfl) ?_
  refine va_get (D := D) (ci := 9) (v := .int 0) (C := RX9) (T := TX9) (N := 44) hx hb hts hin9 hown hK hP k0 e0 rfl 43 (by decide) (hts (.fieldLink RX9 142 "HoneyHouseModel" "founds" "I") (List.mem_of_getElem? (i := 1) rfl)) (fun _ h9 => h9) f43 dX9_found_6 ?_
  refine lv_icmp_lt (tgt := 16) hx hb dX9_found_9 (by decide) (fun c_2 => absurd c_2 (i_ge0 c_1)) (fun c_2 => ?_)
  refine lv_iconst (v := (-1)) hx hb dX9_found_12 (by decide) ?_
  refine lv_goto (tgt := 22) hx hb dX9_found_13 (by decide) ?_
  exact W.iret (v := (-1)) hx hb hr (fun t ht hW => ⟨(-1), rfl, (by first | rfl | (simp_all; done) | simp [c_1, c_2]), ht⟩) (fun _ h9 => by cases h9) dX9_found_22
set_option maxHeartbeats 4000000 in
set_option maxRecDepth 100000 in
theorem s_X9_count (l : Launch) (D : va_G) (ws : va_W) (tys : List (ClassId × FieldType)) (h0 : Nat) (X : MF ws tys h0) (a1 : Int32) : Met l yX9_count wsX9_count ({ frames := 0, cells := 0, slots := 0, locals := 0 }) (va_Pc [.ref h0, .int a1] (fun U => va_P D vwCl ws U.heap ∧ va_K D vwCl tys U)) (vp_Si (fun r => r = if a1 = 0 ∨ a1 = 1 ∨ a1 = 2 ∨ a1 = 3 then 0 else (-1))) 0 0 (fun _ => False) := by
  refine Met.ofW (cc := cX9_count) (maxL := 2) (ret := (some .int)) (by decide) rfl ?_
  intro p e s m args below meth c s₁ B hml hv
  obtain ⟨rfl, hP, hK⟩ := hv
  have hx := B.exec
  have hb := B.bytes
  have hr := B.returns
  have hts := atoms_spec (ws := wsX9_count) B.pre
  have hown : s.vm.findClass RX9 = some m.cls := findClass_of_methodNamed B.named
  have hlocks := B.notSynchronized
  have hin9 : ∀ w ∈ u_ws RX9 TX9 44, w ∈ wsX9_count := (fun _ h9 => List.mem_cons_of_mem _ ((List.mem_append_right _ h9)))
  have hl := lv_entry ([.ref h0, .int a1]) (n := 2) (Nat.le_of_ble_eq_true rfl)
  rw [lg_entry_eq]
  generalize (lg_sl ([.ref h0, .int a1]) ++ List.replicate (2 - (lg_sl ([.ref h0, .int a1])).length) Slot.unset).toArray = ls at hl ⊢
  have hl : lv_has ls 2 [(0, .ref h0), (1, .int a1)] := hl
  have X0 := X
  obtain ⟨k0, ah, ar, ap, kh, kr, kp, fs, ch, cr, cp, th, tr, tp, e0, f2, f3, f13, f14, f21, f22, f35, f43, f10, f11, f12, eh, uh, er, ur, ep, up⟩ := X
  refine lv_iload_n hx hb dX9_count_0 rfl (lv_at hl 1 rfl) ?_
  by_cases c_1 : a1 = 0
  · refine lv_tableIn (off := 31) (tgt := 32) hx hb dX9_count_1 (by rw [c_1]; decide) (by rw [c_1]; decide) (by rw [c_1]; rfl) (by decide) ?_
    refine lv_aload_n hx hb dX9_count_32 rfl (lv_at hl 0 rfl) ?_
    refine va_get (D := D) (ci := 9) (v := .int 0) (C := RX9) (T := TX9) (N := 44) hx hb hts hin9 hown hK hP k0 e0 rfl 3 (by decide) (hts (.fieldLink RX9 20 "HoneyHouseModel" "lots" "I") (List.mem_of_getElem? (i := 1) rfl)) (fun _ h9 => h9) f3 dX9_count_33 ?_
    exact W.iret (v := 0) hx hb hr (fun t ht hW => ⟨0, rfl, (by first | rfl | (simp_all; done) | simp [c_1]), ht⟩) (fun _ h9 => by cases h9) dX9_count_36
  by_cases c_2 : a1 = 1
  · refine lv_tableIn (off := 36) (tgt := 37) hx hb dX9_count_1 (by rw [c_2]; decide) (by rw [c_2]; decide) (by rw [c_2]; rfl) (by decide) ?_
    refine lv_aload_n hx hb dX9_count_37 rfl (lv_at hl 0 rfl) ?_
    refine va_get (D := D) (ci := 9) (v := .int 0) (C := RX9) (T := TX9) (N := 44) hx hb hts hin9 hown hK hP k0 e0 rfl 13 (by decide) (hts (.fieldLink RX9 50 "HoneyHouseModel" "batches" "I") (List.mem_of_getElem? (i := 2) rfl)) (fun _ h9 => h9) f13 dX9_count_38 ?_
    exact W.iret (v := 0) hx hb hr (fun t ht hW => ⟨0, rfl, (by first | rfl | (simp_all; done) | simp [c_1, c_2]), ht⟩) (fun _ h9 => by cases h9) dX9_count_41
  by_cases c_3 : a1 = 2
  · refine lv_tableIn (off := 41) (tgt := 42) hx hb dX9_count_1 (by rw [c_3]; decide) (by rw [c_3]; decide) (by rw [c_3]; rfl) (by decide) ?_
    refine lv_aload_n hx hb dX9_count_42 rfl (lv_at hl 0 rfl) ?_
    refine va_get (D := D) (ci := 9) (v := .int 0) (C := RX9) (T := TX9) (N := 44) hx hb hts hin9 hown hK hP k0 e0 rfl 14 (by decide) (hts (.fieldLink RX9 53 "HoneyHouseModel" "rules" "I") (List.mem_of_getElem? (i := 3) rfl)) (fun _ h9 => h9) f14 dX9_count_43 ?_
    exact W.iret (v := 0) hx hb hr (fun t ht hW => ⟨0, rfl, (by first | rfl | (simp_all; done) | simp [c_1, c_2, c_3]), ht⟩) (fun _ h9 => by cases h9) dX9_count_46
  by_cases c_4 : a1 = 3
  · refine lv_tableIn (off := 46) (tgt := 47) hx hb dX9_count_1 (by rw [c_4]; decide) (by rw [c_4]; decide) (by rw [c_4]; rfl) (by decide) ?_
    refine lv_aload_n hx hb dX9_count_47 rfl (lv_at hl 0 rfl) ?_
    refine va_get (D := D) (ci := 9) (v := .int 0) (C := RX9) (T := TX9) (N := 44) hx hb hts hin9 hown hK hP k0 e0 rfl 2 (by decide) (hts (.fieldLink RX9 17 "HoneyHouseModel" "today" "I") (List.mem_of_getElem? (i := 4) rfl)) (fun _ h9 => h9) f2 dX9_count_48 ?_
    exact W.iret (v := 0) hx hb hr (fun t ht hW => ⟨0, rfl, (by first | rfl | (simp_all; done) | simp [c_1, c_2, c_3, c_4]), ht⟩) (fun _ h9 => by cases h9) dX9_count_51
  have nc_1 := lv_neT c_1 (a := 0) (by decide)
  have nc_2 := lv_neT c_2 (a := 1) (by decide)
  have nc_3 := lv_neT c_3 (a := 2) (by decide)
  have nc_4 := lv_neT c_4 (a := 3) (by decide)
  refine lv_tableOut (tgt := 52) hx hb dX9_count_1 (by omega) (by decide) ?_
  refine lv_iconst (v := (-1)) hx hb dX9_count_52 (by decide) ?_
  exact W.iret (v := (-1)) hx hb hr (fun t ht hW => ⟨(-1), rfl, (by first | rfl | (simp_all; done) | simp [c_1, c_2, c_3, c_4]), ht⟩) (fun _ h9 => by cases h9) dX9_count_53
set_option maxHeartbeats 4000000 in
set_option maxRecDepth 100000 in
theorem s_X9_paid (l : Launch) (D : va_G) (ws : va_W) (tys : List (ClassId × FieldType)) (h0 : Nat) (X : MF ws tys h0) (a1 : Int32) : Met l yX9_paid wsX9_paid ({ frames := 1, cells := 0, slots := 0, locals := 22 }) (va_Pc [.ref h0, .int a1] (fun U => va_P D vwCl ws U.heap ∧ va_K D vwCl tys U)) (vp_Sl (fun r => r = if a1 < 0 ∨ 9 < a1 then (-1) else 0)) 0 0 (fun _ => False) := by
  refine Met.ofW (cc := cX9_paid) (maxL := 5) (ret := (some .long)) (by decide) rfl ?_
  intro p e s m args below meth c s₁ B hml hv
  obtain ⟨rfl, hP, hK⟩ := hv
  have hx := B.exec
  have hb := B.bytes
  have hr := B.returns
  have hts := atoms_spec (ws := wsX9_paid) B.pre
  have hown : s.vm.findClass RX9 = some m.cls := findClass_of_methodNamed B.named
  have hlocks := B.notSynchronized
  have hin9 : ∀ w ∈ u_ws RX9 TX9 44, w ∈ wsX9_paid := (fun _ h9 => List.mem_cons_of_mem _ ((List.mem_append_right _ h9)))
  have hl := lv_entry ([.ref h0, .int a1]) (n := 5) (Nat.le_of_ble_eq_true rfl)
  rw [lg_entry_eq]
  generalize (lg_sl ([.ref h0, .int a1]) ++ List.replicate (5 - (lg_sl ([.ref h0, .int a1])).length) Slot.unset).toArray = ls at hl ⊢
  have hl : lv_has ls 5 [(0, .ref h0), (1, .int a1)] := hl
  have X0 := X
  obtain ⟨k0, ah, ar, ap, kh, kr, kp, fs, ch, cr, cp, th, tr, tp, e0, f2, f3, f13, f14, f21, f22, f35, f43, f10, f11, f12, eh, uh, er, ur, ep, up⟩ := X
  refine lv_iload_n hx hb dX9_paid_0 rfl (lv_at hl 1 rfl) ?_
  refine lv_iconst (v := 0) hx hb dX9_paid_1 (by decide) ?_
  refine lv_bipush (v := 9) hx hb dX9_paid_2 (by decide) ?_
  refine vp_callSi (W.runS (As := [.int a1, .int 0, .int 9]) (rest := []) ⟨hx, hb, hml, hown, hts⟩ (s_X9_is l a1 0 9) (va_cwS 3 hts gX9_paid_X9_is rfl rfl rfl (by decide +kernel) ⟨Nat.le_of_ble_eq_true rfl, Nat.le_of_ble_eq_true rfl⟩) ⟨fun a U g mk q => q, fun U hU hW => ⟨rfl, trivial⟩⟩ rfl rfl hl.1 rfl (lv_room (Nat.le_of_ble_eq_true rfl)) dX9_paid_4 ⟨Nat.le_of_ble_eq_true rfl, Nat.le_of_ble_eq_true rfl⟩) (fun r_1 k_2 => ?_)
  rcases k_2 with ⟨rfl, a_3o⟩ | ⟨rfl, a_3, b_4⟩
  · refine lv_if_ne (tgt := 14) hx hb dX9_paid_7 (by decide) (fun c_5 => absurd (by decide) c_5) (fun c_5 => ?_)
    refine lv_ldc2 hx hb hown (hts (.constantLong RX9 173 (-1)) (List.mem_of_getElem? (i := 1) rfl)) dX9_paid_10 ?_
    exact W.lret (v := (-1)) hx hb hr (fun t ht hW => ⟨(-1), rfl, (by rcases a_3o with a_3o | a_3o <;> simp_all), ht⟩) (fun _ h9 => by cases h9) dX9_paid_13
  refine lv_if_ne (tgt := 14) hx hb dX9_paid_7 (by decide) (fun c_6 => ?_) (fun c_6 => absurd c_6 (by decide))
  refine lv_lconst (v := 0) hx hb dX9_paid_14 (by decide) ?_
  refine lv_lstore_n (lv' := [(2, .long 0), (0, .ref h0), (1, .int a1)]) hx hb dX9_paid_15 rfl hl (by decide) rfl (fun ls hl => ?_)
  refine lv_iconst (v := 0) hx hb dX9_paid_16 (by decide) ?_
  refine lv_istore (lv' := [(4, .int 0), (2, .long 0), (0, .ref h0), (1, .int a1)]) hx hb dX9_paid_17 hl (by decide) rfl (fun ls hl => ?_)
  refine lv_iload hx hb dX9_paid_19 (lv_at hl 0 rfl) ?_
  refine lv_aload_n hx hb dX9_paid_21 rfl (lv_at hl 2 rfl) ?_
  refine va_get (D := D) (ci := 9) (v := .int 0) (C := RX9) (T := TX9) (N := 44) hx hb hts hin9 hown hK hP k0 e0 rfl 3 (by decide) (hts (.fieldLink RX9 20 "HoneyHouseModel" "lots" "I") (List.mem_of_getElem? (i := 2) rfl)) (fun _ h9 => h9) f3 dX9_paid_22 ?_
  refine lv_icmp_ge (tgt := 69) hx hb dX9_paid_25 (by decide) (fun c_7 => ?_) (fun c_7 => absurd (by decide) c_7)
  refine lv_lload_n hx hb dX9_paid_69 rfl (lv_at hl 1 rfl) ?_
  exact W.lret (v := 0) hx hb hr (fun t ht hW => ⟨0, rfl, (by first | rfl | (simp_all; done) | simp [a_3, b_4, c_6, c_7]), ht⟩) (fun _ h9 => by cases h9) dX9_paid_70
set_option maxHeartbeats 4000000 in
set_option maxRecDepth 100000 in
theorem s_X9_whose (l : Launch) (D : va_G) (ws : va_W) (tys : List (ClassId × FieldType)) (h0 : Nat) (X : MF ws tys h0) (a1 a2 : Int32) : Met l yX9_whose wsX9_whose ({ frames := 1, cells := 0, slots := 0, locals := 22 }) (va_Pc [.ref h0, .int a1, .int a2] (fun U => va_P D vwCl ws U.heap ∧ va_K D vwCl tys U)) (vp_Sl (fun r => r = if (a1 < 0 ∨ 9 < a1) ∨ (a2 < 0 ∨ 3 < a2) then (-1) else 0)) 0 0 (fun _ => False) := by
  refine Met.ofW (cc := cX9_whose) (maxL := 13) (ret := (some .long)) (by decide) rfl ?_
  intro p e s m args below meth c s₁ B hml hv
  obtain ⟨rfl, hP, hK⟩ := hv
  have hx := B.exec
  have hb := B.bytes
  have hr := B.returns
  have hts := atoms_spec (ws := wsX9_whose) B.pre
  have hown : s.vm.findClass RX9 = some m.cls := findClass_of_methodNamed B.named
  have hlocks := B.notSynchronized
  have hin9 : ∀ w ∈ u_ws RX9 TX9 44, w ∈ wsX9_whose := (fun _ h9 => List.mem_cons_of_mem _ ((List.mem_append_right _ h9)))
  have hl := lv_entry ([.ref h0, .int a1, .int a2]) (n := 13) (Nat.le_of_ble_eq_true rfl)
  rw [lg_entry_eq]
  generalize (lg_sl ([.ref h0, .int a1, .int a2]) ++ List.replicate (13 - (lg_sl ([.ref h0, .int a1, .int a2])).length) Slot.unset).toArray = ls at hl ⊢
  have hl : lv_has ls 13 [(0, .ref h0), (1, .int a1), (2, .int a2)] := hl
  have X0 := X
  obtain ⟨k0, ah, ar, ap, kh, kr, kp, fs, ch, cr, cp, th, tr, tp, e0, f2, f3, f13, f14, f21, f22, f35, f43, f10, f11, f12, eh, uh, er, ur, ep, up⟩ := X
  refine lv_iload_n hx hb dX9_whose_0 rfl (lv_at hl 1 rfl) ?_
  refine lv_iconst (v := 0) hx hb dX9_whose_1 (by decide) ?_
  refine lv_bipush (v := 9) hx hb dX9_whose_2 (by decide) ?_
  refine vp_callSi (W.runS (As := [.int a1, .int 0, .int 9]) (rest := []) ⟨hx, hb, hml, hown, hts⟩ (s_X9_is l a1 0 9) (va_cwS 3 hts gX9_whose_X9_is rfl rfl rfl (by decide +kernel) ⟨Nat.le_of_ble_eq_true rfl, Nat.le_of_ble_eq_true rfl⟩) ⟨fun a U g mk q => q, fun U hU hW => ⟨rfl, trivial⟩⟩ rfl rfl hl.1 rfl (lv_room (Nat.le_of_ble_eq_true rfl)) dX9_whose_4 ⟨Nat.le_of_ble_eq_true rfl, Nat.le_of_ble_eq_true rfl⟩) (fun r_1 k_2 => ?_)
  rcases k_2 with ⟨rfl, a_3o⟩ | ⟨rfl, a_3, b_4⟩
  · refine lv_if_eq (tgt := 19) hx hb dX9_whose_7 (by decide) (fun c_5 => ?_) (fun c_5 => absurd (by decide) c_5)
    refine lv_ldc2 hx hb hown (hts (.constantLong RX9 173 (-1)) (List.mem_of_getElem? (i := 1) rfl)) dX9_whose_19 ?_
    exact W.lret (v := (-1)) hx hb hr (fun t ht hW => ⟨(-1), rfl, (by rcases a_3o with a_3o | a_3o <;> simp_all), ht⟩) (fun _ h9 => by cases h9) dX9_whose_22
  refine lv_if_eq (tgt := 19) hx hb dX9_whose_7 (by decide) (fun c_6 => absurd c_6 (by decide)) (fun c_6 => ?_)
  refine lv_iload_n hx hb dX9_whose_10 rfl (lv_at hl 2 rfl) ?_
  refine lv_iconst (v := 0) hx hb dX9_whose_11 (by decide) ?_
  refine lv_iconst (v := 3) hx hb dX9_whose_12 (by decide) ?_
  refine vp_callSi (W.runS (As := [.int a2, .int 0, .int 3]) (rest := []) ⟨hx, hb, hml, hown, hts⟩ (s_X9_is l a2 0 3) (va_cwS 3 hts gX9_whose_X9_is rfl rfl rfl (by decide +kernel) ⟨Nat.le_of_ble_eq_true rfl, Nat.le_of_ble_eq_true rfl⟩) ⟨fun a U g mk q => q, fun U hU hW => ⟨rfl, trivial⟩⟩ rfl rfl hl.1 rfl (lv_room (Nat.le_of_ble_eq_true rfl)) dX9_whose_13 ⟨Nat.le_of_ble_eq_true rfl, Nat.le_of_ble_eq_true rfl⟩) (fun r_7 k_8 => ?_)
  rcases k_8 with ⟨rfl, a_9o⟩ | ⟨rfl, a_9, b_10⟩
  · refine lv_if_ne (tgt := 23) hx hb dX9_whose_16 (by decide) (fun c_11 => absurd (by decide) c_11) (fun c_11 => ?_)
    refine lv_ldc2 hx hb hown (hts (.constantLong RX9 173 (-1)) (List.mem_of_getElem? (i := 1) rfl)) dX9_whose_19 ?_
    exact W.lret (v := (-1)) hx hb hr (fun t ht hW => ⟨(-1), rfl, (by rcases a_9o with a_9o | a_9o <;> simp_all), ht⟩) (fun _ h9 => by cases h9) dX9_whose_22
  refine lv_if_ne (tgt := 23) hx hb dX9_whose_16 (by decide) (fun c_12 => ?_) (fun c_12 => absurd c_12 (by decide))
  refine lv_lconst (v := 0) hx hb dX9_whose_23 (by decide) ?_
  refine lv_lstore_n (lv' := [(3, .long 0), (0, .ref h0), (1, .int a1), (2, .int a2)]) hx hb dX9_whose_24 rfl hl (by decide) rfl (fun ls hl => ?_)
  refine lv_lconst (v := 0) hx hb dX9_whose_25 (by decide) ?_
  refine lv_lstore (lv' := [(5, .long 0), (3, .long 0), (0, .ref h0), (1, .int a1), (2, .int a2)]) hx hb dX9_whose_26 hl (by decide) rfl (fun ls hl => ?_)
  refine lv_lconst (v := 0) hx hb dX9_whose_28 (by decide) ?_
  refine lv_lstore (lv' := [(7, .long 0), (5, .long 0), (3, .long 0), (0, .ref h0), (1, .int a1), (2, .int a2)]) hx hb dX9_whose_29 hl (by decide) rfl (fun ls hl => ?_)
  refine lv_lconst (v := 0) hx hb dX9_whose_31 (by decide) ?_
  refine lv_lstore (lv' := [(9, .long 0), (7, .long 0), (5, .long 0), (3, .long 0), (0, .ref h0), (1, .int a1), (2, .int a2)]) hx hb dX9_whose_32 hl (by decide) rfl (fun ls hl => ?_)
  refine lv_iconst (v := 0) hx hb dX9_whose_34 (by decide) ?_
  refine lv_istore (lv' := [(11, .int 0), (9, .long 0), (7, .long 0), (5, .long 0), (3, .long 0), (0, .ref h0), (1, .int a1), (2, .int a2)]) hx hb dX9_whose_35 hl (by decide) rfl (fun ls hl => ?_)
  refine lv_iload hx hb dX9_whose_37 (lv_at hl 0 rfl) ?_
  refine lv_aload_n hx hb dX9_whose_39 rfl (lv_at hl 5 rfl) ?_
  refine va_get (D := D) (ci := 9) (v := .int 0) (C := RX9) (T := TX9) (N := 44) hx hb hts hin9 hown hK hP k0 e0 rfl 3 (by decide) (hts (.fieldLink RX9 20 "HoneyHouseModel" "lots" "I") (List.mem_of_getElem? (i := 2) rfl)) (fun _ h9 => h9) f3 dX9_whose_40 ?_
  refine lv_icmp_ge (tgt := 184) hx hb dX9_whose_43 (by decide) (fun c_13 => ?_) (fun c_13 => absurd (by decide) c_13)
  refine lv_iload_n hx hb dX9_whose_184 rfl (lv_at hl 7 rfl) ?_
  refine lv_if_ne (tgt := 193) hx hb dX9_whose_185 (by decide) (fun c_14 => ?_) (fun c_14 => ?_)
  · refine lv_iload_n hx hb dX9_whose_193 rfl (lv_at hl 7 rfl) ?_
    refine lv_iconst (v := 1) hx hb dX9_whose_194 (by decide) ?_
    refine lv_icmp_ne (tgt := 203) hx hb dX9_whose_195 (by decide) (fun c_15 => ?_) (fun c_15 => ?_)
    · refine lv_iload_n hx hb dX9_whose_203 rfl (lv_at hl 7 rfl) ?_
      refine lv_iconst (v := 2) hx hb dX9_whose_204 (by decide) ?_
      refine lv_icmp_ne (tgt := 213) hx hb dX9_whose_205 (by decide) (fun c_16 => ?_) (fun c_16 => ?_)
      · refine lv_lload_n hx hb dX9_whose_213 rfl (lv_at hl 4 rfl) ?_
        refine lv_lload hx hb dX9_whose_214 (lv_at hl 3 rfl) ?_
        refine lv_lsub hx hb dX9_whose_216 ?_
        refine lv_lload hx hb dX9_whose_217 (lv_at hl 2 rfl) ?_
        refine lv_lsub hx hb dX9_whose_219 ?_
        refine lv_lload hx hb dX9_whose_220 (lv_at hl 1 rfl) ?_
        refine lv_lsub hx hb dX9_whose_222 ?_
        exact W.lret (v := ((0 - 0) - 0) - 0) hx hb hr (fun t ht hW => ⟨((0 - 0) - 0) - 0, rfl, (by first | rfl | (simp_all; done) | simp [a_3, b_4, c_6, a_9, b_10, c_12, c_13, c_14, c_15, c_16]), ht⟩) (fun _ h9 => by cases h9) dX9_whose_223
      refine lv_lload hx hb dX9_whose_208 (lv_at hl 1 rfl) ?_
      refine lv_goto (tgt := 223) hx hb dX9_whose_210 (by decide) ?_
      exact W.lret (v := 0) hx hb hr (fun t ht hW => ⟨0, rfl, (by first | rfl | (simp_all; done) | simp [a_3, b_4, c_6, a_9, b_10, c_12, c_13, c_14, c_15, c_16]), ht⟩) (fun _ h9 => by cases h9) dX9_whose_223
    refine lv_lload hx hb dX9_whose_198 (lv_at hl 2 rfl) ?_
    refine lv_goto (tgt := 223) hx hb dX9_whose_200 (by decide) ?_
    exact W.lret (v := 0) hx hb hr (fun t ht hW => ⟨0, rfl, (by first | rfl | (simp_all; done) | simp [a_3, b_4, c_6, a_9, b_10, c_12, c_13, c_14, c_15]), ht⟩) (fun _ h9 => by cases h9) dX9_whose_223
  refine lv_lload hx hb dX9_whose_188 (lv_at hl 3 rfl) ?_
  refine lv_goto (tgt := 223) hx hb dX9_whose_190 (by decide) ?_
  exact W.lret (v := 0) hx hb hr (fun t ht hW => ⟨0, rfl, (by first | rfl | (simp_all; done) | simp [a_3, b_4, c_6, a_9, b_10, c_12, c_13, c_14]), ht⟩) (fun _ h9 => by cases h9) dX9_whose_223
set_option maxHeartbeats 4000000 in
set_option maxRecDepth 100000 in
theorem s_X9_blend (l : Launch) (D : va_G) (ws : va_W) (tys : List (ClassId × FieldType)) (h0 : Nat) (X : MF ws tys h0) (a1 a2 a3 a4 a5 : Int32) : Met l yX9_blend wsX9_blend ({ frames := 1, cells := 0, slots := 0, locals := 23 }) (va_Pc [.ref h0, .int a1, .int a2, .int a3, .int a4, .int a5] (fun U => va_P D vwCl ws U.heap ∧ va_K D vwCl tys U)) (vp_Si (fun r => r = (-1))) 0 0 (fun _ => False) := by
  refine Met.ofW (cc := cX9_blend) (maxL := 20) (ret := (some .int)) (by decide) rfl ?_
  intro p e s m args below meth c s₁ B hml hv
  obtain ⟨rfl, hP, hK⟩ := hv
  have hx := B.exec
  have hb := B.bytes
  have hr := B.returns
  have hts := atoms_spec (ws := wsX9_blend) B.pre
  have hown : s.vm.findClass RX9 = some m.cls := findClass_of_methodNamed B.named
  have hlocks := B.notSynchronized
  have hl := lv_entry ([.ref h0, .int a1, .int a2, .int a3, .int a4, .int a5]) (n := 20) (Nat.le_of_ble_eq_true rfl)
  rw [lg_entry_eq]
  generalize (lg_sl ([.ref h0, .int a1, .int a2, .int a3, .int a4, .int a5]) ++ List.replicate (20 - (lg_sl ([.ref h0, .int a1, .int a2, .int a3, .int a4, .int a5])).length) Slot.unset).toArray = ls at hl ⊢
  have hl : lv_has ls 20 [(0, .ref h0), (1, .int a1), (2, .int a2), (3, .int a3), (4, .int a4), (5, .int a5)] := hl
  have X0 := X
  obtain ⟨k0, ah, ar, ap, kh, kr, kp, fs, ch, cr, cp, th, tr, tp, e0, f2, f3, f13, f14, f21, f22, f35, f43, f10, f11, f12, eh, uh, er, ur, ep, up⟩ := X
  refine lv_iload_n hx hb dX9_blend_0 rfl (lv_at hl 1 rfl) ?_
  refine lv_iconst (v := 1) hx hb dX9_blend_1 (by decide) ?_
  refine lv_icmp_lt (tgt := 58) hx hb dX9_blend_2 (by decide) (fun c_1 => ?_) (fun c_1 => ?_)
  · refine lv_iconst (v := (-1)) hx hb dX9_blend_58 (by decide) ?_
    exact W.iret (v := (-1)) hx hb hr (fun t ht hW => ⟨(-1), rfl, (by first | rfl | (simp_all; done) | simp [c_1]), ht⟩) (fun _ h9 => by cases h9) dX9_blend_59
  refine lv_iload_n hx hb dX9_blend_5 rfl (lv_at hl 1 rfl) ?_
  refine lv_sipush (v := 1023) hx hb dX9_blend_6 (by decide) ?_
  refine lv_icmp_gt (tgt := 58) hx hb dX9_blend_9 (by decide) (fun c_2 => ?_) (fun c_2 => ?_)
  · refine lv_iconst (v := (-1)) hx hb dX9_blend_58 (by decide) ?_
    exact W.iret (v := (-1)) hx hb hr (fun t ht hW => ⟨(-1), rfl, (by first | rfl | (simp_all; done) | simp [c_1, c_2]), ht⟩) (fun _ h9 => by cases h9) dX9_blend_59
  refine lv_iload_n hx hb dX9_blend_12 rfl (lv_at hl 2 rfl) ?_
  refine lv_iconst (v := 1) hx hb dX9_blend_13 (by decide) ?_
  refine lv_bipush (v := 40) hx hb dX9_blend_14 (by decide) ?_
  refine vp_callSi (W.runS (As := [.int a2, .int 1, .int 40]) (rest := []) ⟨hx, hb, hml, hown, hts⟩ (s_X9_is l a2 1 40) (va_cwS 3 hts gX9_blend_X9_is rfl rfl rfl (by decide +kernel) ⟨Nat.le_of_ble_eq_true rfl, Nat.le_of_ble_eq_true rfl⟩) ⟨fun a U g mk q => q, fun U hU hW => ⟨rfl, trivial⟩⟩ rfl rfl hl.1 rfl (lv_room (Nat.le_of_ble_eq_true rfl)) dX9_blend_16 ⟨Nat.le_of_ble_eq_true rfl, Nat.le_of_ble_eq_true rfl⟩) (fun r_3 k_4 => ?_)
  rcases k_4 with ⟨rfl, -⟩ | ⟨rfl, -, -⟩
  · refine lv_if_eq (tgt := 58) hx hb dX9_blend_19 (by decide) (fun c_5 => ?_) (fun c_5 => absurd (by decide) c_5)
    refine lv_iconst (v := (-1)) hx hb dX9_blend_58 (by decide) ?_
    exact W.iret (v := (-1)) hx hb hr (fun t ht hW => ⟨(-1), rfl, (by first | rfl | (simp_all; done) | simp [c_1, c_2, c_5]), ht⟩) (fun _ h9 => by cases h9) dX9_blend_59
  refine lv_if_eq (tgt := 58) hx hb dX9_blend_19 (by decide) (fun c_6 => absurd c_6 (by decide)) (fun c_6 => ?_)
  refine lv_iload_n hx hb dX9_blend_22 rfl (lv_at hl 3 rfl) ?_
  refine lv_iconst (v := 0) hx hb dX9_blend_23 (by decide) ?_
  refine lv_sipush (v := 300) hx hb dX9_blend_24 (by decide) ?_
  refine vp_callSi (W.runS (As := [.int a3, .int 0, .int 300]) (rest := []) ⟨hx, hb, hml, hown, hts⟩ (s_X9_is l a3 0 300) (va_cwS 3 hts gX9_blend_X9_is rfl rfl rfl (by decide +kernel) ⟨Nat.le_of_ble_eq_true rfl, Nat.le_of_ble_eq_true rfl⟩) ⟨fun a U g mk q => q, fun U hU hW => ⟨rfl, trivial⟩⟩ rfl rfl hl.1 rfl (lv_room (Nat.le_of_ble_eq_true rfl)) dX9_blend_27 ⟨Nat.le_of_ble_eq_true rfl, Nat.le_of_ble_eq_true rfl⟩) (fun r_7 k_8 => ?_)
  rcases k_8 with ⟨rfl, -⟩ | ⟨rfl, -, -⟩
  · refine lv_if_eq (tgt := 58) hx hb dX9_blend_30 (by decide) (fun c_9 => ?_) (fun c_9 => absurd (by decide) c_9)
    refine lv_iconst (v := (-1)) hx hb dX9_blend_58 (by decide) ?_
    exact W.iret (v := (-1)) hx hb hr (fun t ht hW => ⟨(-1), rfl, (by first | rfl | (simp_all; done) | simp [c_1, c_2, c_6, c_9]), ht⟩) (fun _ h9 => by cases h9) dX9_blend_59
  refine lv_if_eq (tgt := 58) hx hb dX9_blend_30 (by decide) (fun c_10 => absurd c_10 (by decide)) (fun c_10 => ?_)
  refine lv_iload hx hb dX9_blend_33 (lv_at hl 4 rfl) ?_
  refine lv_iconst (v := 0) hx hb dX9_blend_35 (by decide) ?_
  refine lv_sipush (v := 140) hx hb dX9_blend_36 (by decide) ?_
  refine vp_callSi (W.runS (As := [.int a4, .int 0, .int 140]) (rest := []) ⟨hx, hb, hml, hown, hts⟩ (s_X9_is l a4 0 140) (va_cwS 3 hts gX9_blend_X9_is rfl rfl rfl (by decide +kernel) ⟨Nat.le_of_ble_eq_true rfl, Nat.le_of_ble_eq_true rfl⟩) ⟨fun a U g mk q => q, fun U hU hW => ⟨rfl, trivial⟩⟩ rfl rfl hl.1 rfl (lv_room (Nat.le_of_ble_eq_true rfl)) dX9_blend_39 ⟨Nat.le_of_ble_eq_true rfl, Nat.le_of_ble_eq_true rfl⟩) (fun r_11 k_12 => ?_)
  rcases k_12 with ⟨rfl, -⟩ | ⟨rfl, -, -⟩
  · refine lv_if_eq (tgt := 58) hx hb dX9_blend_42 (by decide) (fun c_13 => ?_) (fun c_13 => absurd (by decide) c_13)
    refine lv_iconst (v := (-1)) hx hb dX9_blend_58 (by decide) ?_
    exact W.iret (v := (-1)) hx hb hr (fun t ht hW => ⟨(-1), rfl, (by first | rfl | (simp_all; done) | simp [c_1, c_2, c_6, c_10, c_13]), ht⟩) (fun _ h9 => by cases h9) dX9_blend_59
  refine lv_if_eq (tgt := 58) hx hb dX9_blend_42 (by decide) (fun c_14 => absurd c_14 (by decide)) (fun c_14 => ?_)
  refine lv_iload hx hb dX9_blend_45 (lv_at hl 5 rfl) ?_
  refine lv_iload hx hb dX9_blend_47 (lv_at hl 4 rfl) ?_
  refine lv_sipush (v := 140) hx hb dX9_blend_49 (by decide) ?_
  refine vp_callSi (W.runS (As := [.int a5, .int a4, .int 140]) (rest := []) ⟨hx, hb, hml, hown, hts⟩ (s_X9_is l a5 a4 140) (va_cwS 3 hts gX9_blend_X9_is rfl rfl rfl (by decide +kernel) ⟨Nat.le_of_ble_eq_true rfl, Nat.le_of_ble_eq_true rfl⟩) ⟨fun a U g mk q => q, fun U hU hW => ⟨rfl, trivial⟩⟩ rfl rfl hl.1 rfl (lv_room (Nat.le_of_ble_eq_true rfl)) dX9_blend_52 ⟨Nat.le_of_ble_eq_true rfl, Nat.le_of_ble_eq_true rfl⟩) (fun r_15 k_16 => ?_)
  rcases k_16 with ⟨rfl, -⟩ | ⟨rfl, -, -⟩
  · refine lv_if_ne (tgt := 60) hx hb dX9_blend_55 (by decide) (fun c_17 => absurd (by decide) c_17) (fun c_17 => ?_)
    refine lv_iconst (v := (-1)) hx hb dX9_blend_58 (by decide) ?_
    exact W.iret (v := (-1)) hx hb hr (fun t ht hW => ⟨(-1), rfl, (by first | rfl | (simp_all; done) | simp [c_1, c_2, c_6, c_10, c_14, c_17]), ht⟩) (fun _ h9 => by cases h9) dX9_blend_59
  refine lv_if_ne (tgt := 60) hx hb dX9_blend_55 (by decide) (fun c_18 => ?_) (fun c_18 => absurd c_18 (by decide))
  refine lv_iconst (v := 0) hx hb dX9_blend_60 (by decide) ?_
  refine lv_istore (lv' := [(6, .int 0), (0, .ref h0), (1, .int a1), (2, .int a2), (3, .int a3), (4, .int a4), (5, .int a5)]) hx hb dX9_blend_61 hl (by decide) rfl (fun ls hl => ?_)
  refine lv_iconst (v := 0) hx hb dX9_blend_63 (by decide) ?_
  refine lv_istore (lv' := [(7, .int 0), (6, .int 0), (0, .ref h0), (1, .int a1), (2, .int a2), (3, .int a3), (4, .int a4), (5, .int a5)]) hx hb dX9_blend_64 hl (by decide) rfl (fun ls hl => ?_)
  refine lv_iload hx hb dX9_blend_66 (lv_at hl 0 rfl) ?_
  refine lv_bipush (v := 10) hx hb dX9_blend_68 (by decide) ?_
  refine lv_icmp_ge (tgt := 120) hx hb dX9_blend_70 (by decide) (fun c_19 => absurd c_19 (by decide)) (fun c_19 => ?_)
  refine lv_iload_n hx hb dX9_blend_73 rfl (lv_at hl 3 rfl) ?_
  refine lv_iload hx hb dX9_blend_74 (lv_at hl 0 rfl) ?_
  refine lv_ishr hx hb dX9_blend_76 ?_
  refine lv_iconst (v := 1) hx hb dX9_blend_77 (by decide) ?_
  refine lv_iand hx hb dX9_blend_78 ?_
  refine lv_if_ne (tgt := 85) hx hb dX9_blend_79 (by decide) (fun c_20 => ?_) (fun c_20 => ?_)
  · refine lv_iload hx hb dX9_blend_85 (lv_at hl 1 rfl) ?_
    refine lv_iconst (v := 4) hx hb dX9_blend_87 (by decide) ?_
    refine lv_icmp_eq (tgt := 100) hx hb dX9_blend_88 (by decide) (fun c_21 => absurd c_21 (by decide)) (fun c_21 => ?_)
    refine lv_aload_n hx hb dX9_blend_91 rfl (lv_at hl 2 rfl) ?_
    refine lv_iload hx hb dX9_blend_92 (lv_at hl 0 rfl) ?_
    refine vp_callSi (W.runV (As := [.int 0]) (rest := []) ⟨hx, hb, hml, hown, hts⟩ (s_X9_all l D ws tys h0 k0 _ 0 e0 f3) (cwV 1 hts gX9_blend_X9_all rfl rfl rfl (by decide +kernel) ⟨Nat.le_of_ble_eq_true rfl, Nat.le_of_ble_eq_true rfl⟩) ⟨fun a U g mk q => ⟨q.1, q.2.1, va_K.moved (u := U) (U := U.calling g mk a) (Vm.Alike.refl U.vm) q.2.2⟩, va_recv hK hP (ci := 9) (q0 := k0) rfl e0, fun U hU hW => ⟨rfl, by rw [hU]; exact hP, va_K.moved hW.alike hK⟩⟩ rfl rfl hl.1 rfl (lv_room (Nat.le_of_ble_eq_true rfl)) dX9_blend_94 ⟨Nat.le_of_ble_eq_true rfl, Nat.le_of_ble_eq_true rfl⟩) (fun r_22 k_23 => ?_)
    subst k_23
    refine lv_if_ne (tgt := 102) hx hb dX9_blend_97 (by decide) (fun c_24 => absurd (by decide) c_24) (fun c_24 => ?_)
    refine lv_iconst (v := (-1)) hx hb dX9_blend_100 (by decide) ?_
    exact W.iret (v := (-1)) hx hb hr (fun t ht hW => ⟨(-1), rfl, (by first | rfl | (simp_all; done) | simp [c_1, c_2, c_6, c_10, c_14, c_18, c_19, c_20, c_21, c_24]), ht⟩) (fun _ h9 => by cases h9) dX9_blend_101
  refine lv_goto (tgt := 114) hx hb dX9_blend_82 (by decide) ?_
  refine lv_iinc (v := 1) (lv' := [(7, .int 1), (6, .int 0), (0, .ref h0), (1, .int a1), (2, .int a2), (3, .int a3), (4, .int a4), (5, .int a5)]) hx hb dX9_blend_114 hl (k := 0) rfl (by decide) (by decide) rfl (fun ls hl => ?_)
  refine lv_goto (tgt := 66) hx hb dX9_blend_117 (by decide) ?_
  refine lv_iload hx hb dX9_blend_66 (lv_at hl 0 rfl) ?_
  refine lv_bipush (v := 10) hx hb dX9_blend_68 (by decide) ?_
  refine lv_icmp_ge (tgt := 120) hx hb dX9_blend_70 (by decide) (fun c_25 => absurd c_25 (by decide)) (fun c_25 => ?_)
  refine lv_iload_n hx hb dX9_blend_73 rfl (lv_at hl 3 rfl) ?_
  refine lv_iload hx hb dX9_blend_74 (lv_at hl 0 rfl) ?_
  refine lv_ishr hx hb dX9_blend_76 ?_
  refine lv_iconst (v := 1) hx hb dX9_blend_77 (by decide) ?_
  refine lv_iand hx hb dX9_blend_78 ?_
  refine lv_if_ne (tgt := 85) hx hb dX9_blend_79 (by decide) (fun c_26 => ?_) (fun c_26 => ?_)
  · refine lv_iload hx hb dX9_blend_85 (lv_at hl 1 rfl) ?_
    refine lv_iconst (v := 4) hx hb dX9_blend_87 (by decide) ?_
    refine lv_icmp_eq (tgt := 100) hx hb dX9_blend_88 (by decide) (fun c_27 => absurd c_27 (by decide)) (fun c_27 => ?_)
    refine lv_aload_n hx hb dX9_blend_91 rfl (lv_at hl 2 rfl) ?_
    refine lv_iload hx hb dX9_blend_92 (lv_at hl 0 rfl) ?_
    refine vp_callSi (W.runV (As := [.int 1]) (rest := []) ⟨hx, hb, hml, hown, hts⟩ (s_X9_all l D ws tys h0 k0 _ 1 e0 f3) (cwV 1 hts gX9_blend_X9_all rfl rfl rfl (by decide +kernel) ⟨Nat.le_of_ble_eq_true rfl, Nat.le_of_ble_eq_true rfl⟩) ⟨fun a U g mk q => ⟨q.1, q.2.1, va_K.moved (u := U) (U := U.calling g mk a) (Vm.Alike.refl U.vm) q.2.2⟩, va_recv hK hP (ci := 9) (q0 := k0) rfl e0, fun U hU hW => ⟨rfl, by rw [hU]; exact hP, va_K.moved hW.alike hK⟩⟩ rfl rfl hl.1 rfl (lv_room (Nat.le_of_ble_eq_true rfl)) dX9_blend_94 ⟨Nat.le_of_ble_eq_true rfl, Nat.le_of_ble_eq_true rfl⟩) (fun r_28 k_29 => ?_)
    subst k_29
    refine lv_if_ne (tgt := 102) hx hb dX9_blend_97 (by decide) (fun c_30 => absurd (by decide) c_30) (fun c_30 => ?_)
    refine lv_iconst (v := (-1)) hx hb dX9_blend_100 (by decide) ?_
    exact W.iret (v := (-1)) hx hb hr (fun t ht hW => ⟨(-1), rfl, (by first | rfl | (simp_all; done) | simp [c_1, c_2, c_6, c_10, c_14, c_18, c_19, c_20, c_25, c_26, c_27, c_30]), ht⟩) (fun _ h9 => by cases h9) dX9_blend_101
  refine lv_goto (tgt := 114) hx hb dX9_blend_82 (by decide) ?_
  refine lv_iinc (v := 2) (lv' := [(7, .int 2), (6, .int 0), (0, .ref h0), (1, .int a1), (2, .int a2), (3, .int a3), (4, .int a4), (5, .int a5)]) hx hb dX9_blend_114 hl (k := 0) rfl (by decide) (by decide) rfl (fun ls hl => ?_)
  refine lv_goto (tgt := 66) hx hb dX9_blend_117 (by decide) ?_
  refine lv_iload hx hb dX9_blend_66 (lv_at hl 0 rfl) ?_
  refine lv_bipush (v := 10) hx hb dX9_blend_68 (by decide) ?_
  refine lv_icmp_ge (tgt := 120) hx hb dX9_blend_70 (by decide) (fun c_31 => absurd c_31 (by decide)) (fun c_31 => ?_)
  refine lv_iload_n hx hb dX9_blend_73 rfl (lv_at hl 3 rfl) ?_
  refine lv_iload hx hb dX9_blend_74 (lv_at hl 0 rfl) ?_
  refine lv_ishr hx hb dX9_blend_76 ?_
  refine lv_iconst (v := 1) hx hb dX9_blend_77 (by decide) ?_
  refine lv_iand hx hb dX9_blend_78 ?_
  refine lv_if_ne (tgt := 85) hx hb dX9_blend_79 (by decide) (fun c_32 => ?_) (fun c_32 => ?_)
  · refine lv_iload hx hb dX9_blend_85 (lv_at hl 1 rfl) ?_
    refine lv_iconst (v := 4) hx hb dX9_blend_87 (by decide) ?_
    refine lv_icmp_eq (tgt := 100) hx hb dX9_blend_88 (by decide) (fun c_33 => absurd c_33 (by decide)) (fun c_33 => ?_)
    refine lv_aload_n hx hb dX9_blend_91 rfl (lv_at hl 2 rfl) ?_
    refine lv_iload hx hb dX9_blend_92 (lv_at hl 0 rfl) ?_
    refine vp_callSi (W.runV (As := [.int 2]) (rest := []) ⟨hx, hb, hml, hown, hts⟩ (s_X9_all l D ws tys h0 k0 _ 2 e0 f3) (cwV 1 hts gX9_blend_X9_all rfl rfl rfl (by decide +kernel) ⟨Nat.le_of_ble_eq_true rfl, Nat.le_of_ble_eq_true rfl⟩) ⟨fun a U g mk q => ⟨q.1, q.2.1, va_K.moved (u := U) (U := U.calling g mk a) (Vm.Alike.refl U.vm) q.2.2⟩, va_recv hK hP (ci := 9) (q0 := k0) rfl e0, fun U hU hW => ⟨rfl, by rw [hU]; exact hP, va_K.moved hW.alike hK⟩⟩ rfl rfl hl.1 rfl (lv_room (Nat.le_of_ble_eq_true rfl)) dX9_blend_94 ⟨Nat.le_of_ble_eq_true rfl, Nat.le_of_ble_eq_true rfl⟩) (fun r_34 k_35 => ?_)
    subst k_35
    refine lv_if_ne (tgt := 102) hx hb dX9_blend_97 (by decide) (fun c_36 => absurd (by decide) c_36) (fun c_36 => ?_)
    refine lv_iconst (v := (-1)) hx hb dX9_blend_100 (by decide) ?_
    exact W.iret (v := (-1)) hx hb hr (fun t ht hW => ⟨(-1), rfl, (by first | rfl | (simp_all; done) | simp [c_1, c_2, c_6, c_10, c_14, c_18, c_19, c_20, c_25, c_26, c_31, c_32, c_33, c_36]), ht⟩) (fun _ h9 => by cases h9) dX9_blend_101
  refine lv_goto (tgt := 114) hx hb dX9_blend_82 (by decide) ?_
  refine lv_iinc (v := 3) (lv' := [(7, .int 3), (6, .int 0), (0, .ref h0), (1, .int a1), (2, .int a2), (3, .int a3), (4, .int a4), (5, .int a5)]) hx hb dX9_blend_114 hl (k := 0) rfl (by decide) (by decide) rfl (fun ls hl => ?_)
  refine lv_goto (tgt := 66) hx hb dX9_blend_117 (by decide) ?_
  refine lv_iload hx hb dX9_blend_66 (lv_at hl 0 rfl) ?_
  refine lv_bipush (v := 10) hx hb dX9_blend_68 (by decide) ?_
  refine lv_icmp_ge (tgt := 120) hx hb dX9_blend_70 (by decide) (fun c_37 => absurd c_37 (by decide)) (fun c_37 => ?_)
  refine lv_iload_n hx hb dX9_blend_73 rfl (lv_at hl 3 rfl) ?_
  refine lv_iload hx hb dX9_blend_74 (lv_at hl 0 rfl) ?_
  refine lv_ishr hx hb dX9_blend_76 ?_
  refine lv_iconst (v := 1) hx hb dX9_blend_77 (by decide) ?_
  refine lv_iand hx hb dX9_blend_78 ?_
  refine lv_if_ne (tgt := 85) hx hb dX9_blend_79 (by decide) (fun c_38 => ?_) (fun c_38 => ?_)
  · refine lv_iload hx hb dX9_blend_85 (lv_at hl 1 rfl) ?_
    refine lv_iconst (v := 4) hx hb dX9_blend_87 (by decide) ?_
    refine lv_icmp_eq (tgt := 100) hx hb dX9_blend_88 (by decide) (fun c_39 => absurd c_39 (by decide)) (fun c_39 => ?_)
    refine lv_aload_n hx hb dX9_blend_91 rfl (lv_at hl 2 rfl) ?_
    refine lv_iload hx hb dX9_blend_92 (lv_at hl 0 rfl) ?_
    refine vp_callSi (W.runV (As := [.int 3]) (rest := []) ⟨hx, hb, hml, hown, hts⟩ (s_X9_all l D ws tys h0 k0 _ 3 e0 f3) (cwV 1 hts gX9_blend_X9_all rfl rfl rfl (by decide +kernel) ⟨Nat.le_of_ble_eq_true rfl, Nat.le_of_ble_eq_true rfl⟩) ⟨fun a U g mk q => ⟨q.1, q.2.1, va_K.moved (u := U) (U := U.calling g mk a) (Vm.Alike.refl U.vm) q.2.2⟩, va_recv hK hP (ci := 9) (q0 := k0) rfl e0, fun U hU hW => ⟨rfl, by rw [hU]; exact hP, va_K.moved hW.alike hK⟩⟩ rfl rfl hl.1 rfl (lv_room (Nat.le_of_ble_eq_true rfl)) dX9_blend_94 ⟨Nat.le_of_ble_eq_true rfl, Nat.le_of_ble_eq_true rfl⟩) (fun r_40 k_41 => ?_)
    subst k_41
    refine lv_if_ne (tgt := 102) hx hb dX9_blend_97 (by decide) (fun c_42 => absurd (by decide) c_42) (fun c_42 => ?_)
    refine lv_iconst (v := (-1)) hx hb dX9_blend_100 (by decide) ?_
    exact W.iret (v := (-1)) hx hb hr (fun t ht hW => ⟨(-1), rfl, (by first | rfl | (simp_all; done) | simp [c_1, c_2, c_6, c_10, c_14, c_18, c_19, c_20, c_25, c_26, c_31, c_32, c_37, c_38, c_39, c_42]), ht⟩) (fun _ h9 => by cases h9) dX9_blend_101
  refine lv_goto (tgt := 114) hx hb dX9_blend_82 (by decide) ?_
  refine lv_iinc (v := 4) (lv' := [(7, .int 4), (6, .int 0), (0, .ref h0), (1, .int a1), (2, .int a2), (3, .int a3), (4, .int a4), (5, .int a5)]) hx hb dX9_blend_114 hl (k := 0) rfl (by decide) (by decide) rfl (fun ls hl => ?_)
  refine lv_goto (tgt := 66) hx hb dX9_blend_117 (by decide) ?_
  refine lv_iload hx hb dX9_blend_66 (lv_at hl 0 rfl) ?_
  refine lv_bipush (v := 10) hx hb dX9_blend_68 (by decide) ?_
  refine lv_icmp_ge (tgt := 120) hx hb dX9_blend_70 (by decide) (fun c_43 => absurd c_43 (by decide)) (fun c_43 => ?_)
  refine lv_iload_n hx hb dX9_blend_73 rfl (lv_at hl 3 rfl) ?_
  refine lv_iload hx hb dX9_blend_74 (lv_at hl 0 rfl) ?_
  refine lv_ishr hx hb dX9_blend_76 ?_
  refine lv_iconst (v := 1) hx hb dX9_blend_77 (by decide) ?_
  refine lv_iand hx hb dX9_blend_78 ?_
  refine lv_if_ne (tgt := 85) hx hb dX9_blend_79 (by decide) (fun c_44 => ?_) (fun c_44 => ?_)
  · refine lv_iload hx hb dX9_blend_85 (lv_at hl 1 rfl) ?_
    refine lv_iconst (v := 4) hx hb dX9_blend_87 (by decide) ?_
    refine lv_icmp_eq (tgt := 100) hx hb dX9_blend_88 (by decide) (fun c_45 => absurd c_45 (by decide)) (fun c_45 => ?_)
    refine lv_aload_n hx hb dX9_blend_91 rfl (lv_at hl 2 rfl) ?_
    refine lv_iload hx hb dX9_blend_92 (lv_at hl 0 rfl) ?_
    refine vp_callSi (W.runV (As := [.int 4]) (rest := []) ⟨hx, hb, hml, hown, hts⟩ (s_X9_all l D ws tys h0 k0 _ 4 e0 f3) (cwV 1 hts gX9_blend_X9_all rfl rfl rfl (by decide +kernel) ⟨Nat.le_of_ble_eq_true rfl, Nat.le_of_ble_eq_true rfl⟩) ⟨fun a U g mk q => ⟨q.1, q.2.1, va_K.moved (u := U) (U := U.calling g mk a) (Vm.Alike.refl U.vm) q.2.2⟩, va_recv hK hP (ci := 9) (q0 := k0) rfl e0, fun U hU hW => ⟨rfl, by rw [hU]; exact hP, va_K.moved hW.alike hK⟩⟩ rfl rfl hl.1 rfl (lv_room (Nat.le_of_ble_eq_true rfl)) dX9_blend_94 ⟨Nat.le_of_ble_eq_true rfl, Nat.le_of_ble_eq_true rfl⟩) (fun r_46 k_47 => ?_)
    subst k_47
    refine lv_if_ne (tgt := 102) hx hb dX9_blend_97 (by decide) (fun c_48 => absurd (by decide) c_48) (fun c_48 => ?_)
    refine lv_iconst (v := (-1)) hx hb dX9_blend_100 (by decide) ?_
    exact W.iret (v := (-1)) hx hb hr (fun t ht hW => ⟨(-1), rfl, (by first | rfl | (simp_all; done) | simp [c_1, c_2, c_6, c_10, c_14, c_18, c_19, c_20, c_25, c_26, c_31, c_32, c_37, c_38, c_43, c_44, c_45, c_48]), ht⟩) (fun _ h9 => by cases h9) dX9_blend_101
  refine lv_goto (tgt := 114) hx hb dX9_blend_82 (by decide) ?_
  refine lv_iinc (v := 5) (lv' := [(7, .int 5), (6, .int 0), (0, .ref h0), (1, .int a1), (2, .int a2), (3, .int a3), (4, .int a4), (5, .int a5)]) hx hb dX9_blend_114 hl (k := 0) rfl (by decide) (by decide) rfl (fun ls hl => ?_)
  refine lv_goto (tgt := 66) hx hb dX9_blend_117 (by decide) ?_
  refine lv_iload hx hb dX9_blend_66 (lv_at hl 0 rfl) ?_
  refine lv_bipush (v := 10) hx hb dX9_blend_68 (by decide) ?_
  refine lv_icmp_ge (tgt := 120) hx hb dX9_blend_70 (by decide) (fun c_49 => absurd c_49 (by decide)) (fun c_49 => ?_)
  refine lv_iload_n hx hb dX9_blend_73 rfl (lv_at hl 3 rfl) ?_
  refine lv_iload hx hb dX9_blend_74 (lv_at hl 0 rfl) ?_
  refine lv_ishr hx hb dX9_blend_76 ?_
  refine lv_iconst (v := 1) hx hb dX9_blend_77 (by decide) ?_
  refine lv_iand hx hb dX9_blend_78 ?_
  refine lv_if_ne (tgt := 85) hx hb dX9_blend_79 (by decide) (fun c_50 => ?_) (fun c_50 => ?_)
  · refine lv_iload hx hb dX9_blend_85 (lv_at hl 1 rfl) ?_
    refine lv_iconst (v := 4) hx hb dX9_blend_87 (by decide) ?_
    refine lv_icmp_eq (tgt := 100) hx hb dX9_blend_88 (by decide) (fun c_51 => absurd c_51 (by decide)) (fun c_51 => ?_)
    refine lv_aload_n hx hb dX9_blend_91 rfl (lv_at hl 2 rfl) ?_
    refine lv_iload hx hb dX9_blend_92 (lv_at hl 0 rfl) ?_
    refine vp_callSi (W.runV (As := [.int 5]) (rest := []) ⟨hx, hb, hml, hown, hts⟩ (s_X9_all l D ws tys h0 k0 _ 5 e0 f3) (cwV 1 hts gX9_blend_X9_all rfl rfl rfl (by decide +kernel) ⟨Nat.le_of_ble_eq_true rfl, Nat.le_of_ble_eq_true rfl⟩) ⟨fun a U g mk q => ⟨q.1, q.2.1, va_K.moved (u := U) (U := U.calling g mk a) (Vm.Alike.refl U.vm) q.2.2⟩, va_recv hK hP (ci := 9) (q0 := k0) rfl e0, fun U hU hW => ⟨rfl, by rw [hU]; exact hP, va_K.moved hW.alike hK⟩⟩ rfl rfl hl.1 rfl (lv_room (Nat.le_of_ble_eq_true rfl)) dX9_blend_94 ⟨Nat.le_of_ble_eq_true rfl, Nat.le_of_ble_eq_true rfl⟩) (fun r_52 k_53 => ?_)
    subst k_53
    refine lv_if_ne (tgt := 102) hx hb dX9_blend_97 (by decide) (fun c_54 => absurd (by decide) c_54) (fun c_54 => ?_)
    refine lv_iconst (v := (-1)) hx hb dX9_blend_100 (by decide) ?_
    exact W.iret (v := (-1)) hx hb hr (fun t ht hW => ⟨(-1), rfl, (by first | rfl | (simp_all; done) | simp [c_1, c_2, c_6, c_10, c_14, c_18, c_19, c_20, c_25, c_26, c_31, c_32, c_37, c_38, c_43, c_44, c_49, c_50, c_51, c_54]), ht⟩) (fun _ h9 => by cases h9) dX9_blend_101
  refine lv_goto (tgt := 114) hx hb dX9_blend_82 (by decide) ?_
  refine lv_iinc (v := 6) (lv' := [(7, .int 6), (6, .int 0), (0, .ref h0), (1, .int a1), (2, .int a2), (3, .int a3), (4, .int a4), (5, .int a5)]) hx hb dX9_blend_114 hl (k := 0) rfl (by decide) (by decide) rfl (fun ls hl => ?_)
  refine lv_goto (tgt := 66) hx hb dX9_blend_117 (by decide) ?_
  refine lv_iload hx hb dX9_blend_66 (lv_at hl 0 rfl) ?_
  refine lv_bipush (v := 10) hx hb dX9_blend_68 (by decide) ?_
  refine lv_icmp_ge (tgt := 120) hx hb dX9_blend_70 (by decide) (fun c_55 => absurd c_55 (by decide)) (fun c_55 => ?_)
  refine lv_iload_n hx hb dX9_blend_73 rfl (lv_at hl 3 rfl) ?_
  refine lv_iload hx hb dX9_blend_74 (lv_at hl 0 rfl) ?_
  refine lv_ishr hx hb dX9_blend_76 ?_
  refine lv_iconst (v := 1) hx hb dX9_blend_77 (by decide) ?_
  refine lv_iand hx hb dX9_blend_78 ?_
  refine lv_if_ne (tgt := 85) hx hb dX9_blend_79 (by decide) (fun c_56 => ?_) (fun c_56 => ?_)
  · refine lv_iload hx hb dX9_blend_85 (lv_at hl 1 rfl) ?_
    refine lv_iconst (v := 4) hx hb dX9_blend_87 (by decide) ?_
    refine lv_icmp_eq (tgt := 100) hx hb dX9_blend_88 (by decide) (fun c_57 => absurd c_57 (by decide)) (fun c_57 => ?_)
    refine lv_aload_n hx hb dX9_blend_91 rfl (lv_at hl 2 rfl) ?_
    refine lv_iload hx hb dX9_blend_92 (lv_at hl 0 rfl) ?_
    refine vp_callSi (W.runV (As := [.int 6]) (rest := []) ⟨hx, hb, hml, hown, hts⟩ (s_X9_all l D ws tys h0 k0 _ 6 e0 f3) (cwV 1 hts gX9_blend_X9_all rfl rfl rfl (by decide +kernel) ⟨Nat.le_of_ble_eq_true rfl, Nat.le_of_ble_eq_true rfl⟩) ⟨fun a U g mk q => ⟨q.1, q.2.1, va_K.moved (u := U) (U := U.calling g mk a) (Vm.Alike.refl U.vm) q.2.2⟩, va_recv hK hP (ci := 9) (q0 := k0) rfl e0, fun U hU hW => ⟨rfl, by rw [hU]; exact hP, va_K.moved hW.alike hK⟩⟩ rfl rfl hl.1 rfl (lv_room (Nat.le_of_ble_eq_true rfl)) dX9_blend_94 ⟨Nat.le_of_ble_eq_true rfl, Nat.le_of_ble_eq_true rfl⟩) (fun r_58 k_59 => ?_)
    subst k_59
    refine lv_if_ne (tgt := 102) hx hb dX9_blend_97 (by decide) (fun c_60 => absurd (by decide) c_60) (fun c_60 => ?_)
    refine lv_iconst (v := (-1)) hx hb dX9_blend_100 (by decide) ?_
    exact W.iret (v := (-1)) hx hb hr (fun t ht hW => ⟨(-1), rfl, (by first | rfl | (simp_all; done) | simp [c_1, c_2, c_6, c_10, c_14, c_18, c_19, c_20, c_25, c_26, c_31, c_32, c_37, c_38, c_43, c_44, c_49, c_50, c_55, c_56, c_57, c_60]), ht⟩) (fun _ h9 => by cases h9) dX9_blend_101
  refine lv_goto (tgt := 114) hx hb dX9_blend_82 (by decide) ?_
  refine lv_iinc (v := 7) (lv' := [(7, .int 7), (6, .int 0), (0, .ref h0), (1, .int a1), (2, .int a2), (3, .int a3), (4, .int a4), (5, .int a5)]) hx hb dX9_blend_114 hl (k := 0) rfl (by decide) (by decide) rfl (fun ls hl => ?_)
  refine lv_goto (tgt := 66) hx hb dX9_blend_117 (by decide) ?_
  refine lv_iload hx hb dX9_blend_66 (lv_at hl 0 rfl) ?_
  refine lv_bipush (v := 10) hx hb dX9_blend_68 (by decide) ?_
  refine lv_icmp_ge (tgt := 120) hx hb dX9_blend_70 (by decide) (fun c_61 => absurd c_61 (by decide)) (fun c_61 => ?_)
  refine lv_iload_n hx hb dX9_blend_73 rfl (lv_at hl 3 rfl) ?_
  refine lv_iload hx hb dX9_blend_74 (lv_at hl 0 rfl) ?_
  refine lv_ishr hx hb dX9_blend_76 ?_
  refine lv_iconst (v := 1) hx hb dX9_blend_77 (by decide) ?_
  refine lv_iand hx hb dX9_blend_78 ?_
  refine lv_if_ne (tgt := 85) hx hb dX9_blend_79 (by decide) (fun c_62 => ?_) (fun c_62 => ?_)
  · refine lv_iload hx hb dX9_blend_85 (lv_at hl 1 rfl) ?_
    refine lv_iconst (v := 4) hx hb dX9_blend_87 (by decide) ?_
    refine lv_icmp_eq (tgt := 100) hx hb dX9_blend_88 (by decide) (fun c_63 => absurd c_63 (by decide)) (fun c_63 => ?_)
    refine lv_aload_n hx hb dX9_blend_91 rfl (lv_at hl 2 rfl) ?_
    refine lv_iload hx hb dX9_blend_92 (lv_at hl 0 rfl) ?_
    refine vp_callSi (W.runV (As := [.int 7]) (rest := []) ⟨hx, hb, hml, hown, hts⟩ (s_X9_all l D ws tys h0 k0 _ 7 e0 f3) (cwV 1 hts gX9_blend_X9_all rfl rfl rfl (by decide +kernel) ⟨Nat.le_of_ble_eq_true rfl, Nat.le_of_ble_eq_true rfl⟩) ⟨fun a U g mk q => ⟨q.1, q.2.1, va_K.moved (u := U) (U := U.calling g mk a) (Vm.Alike.refl U.vm) q.2.2⟩, va_recv hK hP (ci := 9) (q0 := k0) rfl e0, fun U hU hW => ⟨rfl, by rw [hU]; exact hP, va_K.moved hW.alike hK⟩⟩ rfl rfl hl.1 rfl (lv_room (Nat.le_of_ble_eq_true rfl)) dX9_blend_94 ⟨Nat.le_of_ble_eq_true rfl, Nat.le_of_ble_eq_true rfl⟩) (fun r_64 k_65 => ?_)
    subst k_65
    refine lv_if_ne (tgt := 102) hx hb dX9_blend_97 (by decide) (fun c_66 => absurd (by decide) c_66) (fun c_66 => ?_)
    refine lv_iconst (v := (-1)) hx hb dX9_blend_100 (by decide) ?_
    exact W.iret (v := (-1)) hx hb hr (fun t ht hW => ⟨(-1), rfl, (by first | rfl | (simp_all; done) | simp [c_1, c_2, c_6, c_10, c_14, c_18, c_19, c_20, c_25, c_26, c_31, c_32, c_37, c_38, c_43, c_44, c_49, c_50, c_55, c_56, c_61, c_62, c_63, c_66]), ht⟩) (fun _ h9 => by cases h9) dX9_blend_101
  refine lv_goto (tgt := 114) hx hb dX9_blend_82 (by decide) ?_
  refine lv_iinc (v := 8) (lv' := [(7, .int 8), (6, .int 0), (0, .ref h0), (1, .int a1), (2, .int a2), (3, .int a3), (4, .int a4), (5, .int a5)]) hx hb dX9_blend_114 hl (k := 0) rfl (by decide) (by decide) rfl (fun ls hl => ?_)
  refine lv_goto (tgt := 66) hx hb dX9_blend_117 (by decide) ?_
  refine lv_iload hx hb dX9_blend_66 (lv_at hl 0 rfl) ?_
  refine lv_bipush (v := 10) hx hb dX9_blend_68 (by decide) ?_
  refine lv_icmp_ge (tgt := 120) hx hb dX9_blend_70 (by decide) (fun c_67 => absurd c_67 (by decide)) (fun c_67 => ?_)
  refine lv_iload_n hx hb dX9_blend_73 rfl (lv_at hl 3 rfl) ?_
  refine lv_iload hx hb dX9_blend_74 (lv_at hl 0 rfl) ?_
  refine lv_ishr hx hb dX9_blend_76 ?_
  refine lv_iconst (v := 1) hx hb dX9_blend_77 (by decide) ?_
  refine lv_iand hx hb dX9_blend_78 ?_
  refine lv_if_ne (tgt := 85) hx hb dX9_blend_79 (by decide) (fun c_68 => ?_) (fun c_68 => ?_)
  · refine lv_iload hx hb dX9_blend_85 (lv_at hl 1 rfl) ?_
    refine lv_iconst (v := 4) hx hb dX9_blend_87 (by decide) ?_
    refine lv_icmp_eq (tgt := 100) hx hb dX9_blend_88 (by decide) (fun c_69 => absurd c_69 (by decide)) (fun c_69 => ?_)
    refine lv_aload_n hx hb dX9_blend_91 rfl (lv_at hl 2 rfl) ?_
    refine lv_iload hx hb dX9_blend_92 (lv_at hl 0 rfl) ?_
    refine vp_callSi (W.runV (As := [.int 8]) (rest := []) ⟨hx, hb, hml, hown, hts⟩ (s_X9_all l D ws tys h0 k0 _ 8 e0 f3) (cwV 1 hts gX9_blend_X9_all rfl rfl rfl (by decide +kernel) ⟨Nat.le_of_ble_eq_true rfl, Nat.le_of_ble_eq_true rfl⟩) ⟨fun a U g mk q => ⟨q.1, q.2.1, va_K.moved (u := U) (U := U.calling g mk a) (Vm.Alike.refl U.vm) q.2.2⟩, va_recv hK hP (ci := 9) (q0 := k0) rfl e0, fun U hU hW => ⟨rfl, by rw [hU]; exact hP, va_K.moved hW.alike hK⟩⟩ rfl rfl hl.1 rfl (lv_room (Nat.le_of_ble_eq_true rfl)) dX9_blend_94 ⟨Nat.le_of_ble_eq_true rfl, Nat.le_of_ble_eq_true rfl⟩) (fun r_70 k_71 => ?_)
    subst k_71
    refine lv_if_ne (tgt := 102) hx hb dX9_blend_97 (by decide) (fun c_72 => absurd (by decide) c_72) (fun c_72 => ?_)
    refine lv_iconst (v := (-1)) hx hb dX9_blend_100 (by decide) ?_
    exact W.iret (v := (-1)) hx hb hr (fun t ht hW => ⟨(-1), rfl, (by first | rfl | (simp_all; done) | simp [c_1, c_2, c_6, c_10, c_14, c_18, c_19, c_20, c_25, c_26, c_31, c_32, c_37, c_38, c_43, c_44, c_49, c_50, c_55, c_56, c_61, c_62, c_67, c_68, c_69, c_72]), ht⟩) (fun _ h9 => by cases h9) dX9_blend_101
  refine lv_goto (tgt := 114) hx hb dX9_blend_82 (by decide) ?_
  refine lv_iinc (v := 9) (lv' := [(7, .int 9), (6, .int 0), (0, .ref h0), (1, .int a1), (2, .int a2), (3, .int a3), (4, .int a4), (5, .int a5)]) hx hb dX9_blend_114 hl (k := 0) rfl (by decide) (by decide) rfl (fun ls hl => ?_)
  refine lv_goto (tgt := 66) hx hb dX9_blend_117 (by decide) ?_
  refine lv_iload hx hb dX9_blend_66 (lv_at hl 0 rfl) ?_
  refine lv_bipush (v := 10) hx hb dX9_blend_68 (by decide) ?_
  refine lv_icmp_ge (tgt := 120) hx hb dX9_blend_70 (by decide) (fun c_73 => absurd c_73 (by decide)) (fun c_73 => ?_)
  refine lv_iload_n hx hb dX9_blend_73 rfl (lv_at hl 3 rfl) ?_
  refine lv_iload hx hb dX9_blend_74 (lv_at hl 0 rfl) ?_
  refine lv_ishr hx hb dX9_blend_76 ?_
  refine lv_iconst (v := 1) hx hb dX9_blend_77 (by decide) ?_
  refine lv_iand hx hb dX9_blend_78 ?_
  refine lv_if_ne (tgt := 85) hx hb dX9_blend_79 (by decide) (fun c_74 => ?_) (fun c_74 => ?_)
  · refine lv_iload hx hb dX9_blend_85 (lv_at hl 1 rfl) ?_
    refine lv_iconst (v := 4) hx hb dX9_blend_87 (by decide) ?_
    refine lv_icmp_eq (tgt := 100) hx hb dX9_blend_88 (by decide) (fun c_75 => absurd c_75 (by decide)) (fun c_75 => ?_)
    refine lv_aload_n hx hb dX9_blend_91 rfl (lv_at hl 2 rfl) ?_
    refine lv_iload hx hb dX9_blend_92 (lv_at hl 0 rfl) ?_
    refine vp_callSi (W.runV (As := [.int 9]) (rest := []) ⟨hx, hb, hml, hown, hts⟩ (s_X9_all l D ws tys h0 k0 _ 9 e0 f3) (cwV 1 hts gX9_blend_X9_all rfl rfl rfl (by decide +kernel) ⟨Nat.le_of_ble_eq_true rfl, Nat.le_of_ble_eq_true rfl⟩) ⟨fun a U g mk q => ⟨q.1, q.2.1, va_K.moved (u := U) (U := U.calling g mk a) (Vm.Alike.refl U.vm) q.2.2⟩, va_recv hK hP (ci := 9) (q0 := k0) rfl e0, fun U hU hW => ⟨rfl, by rw [hU]; exact hP, va_K.moved hW.alike hK⟩⟩ rfl rfl hl.1 rfl (lv_room (Nat.le_of_ble_eq_true rfl)) dX9_blend_94 ⟨Nat.le_of_ble_eq_true rfl, Nat.le_of_ble_eq_true rfl⟩) (fun r_76 k_77 => ?_)
    subst k_77
    refine lv_if_ne (tgt := 102) hx hb dX9_blend_97 (by decide) (fun c_78 => absurd (by decide) c_78) (fun c_78 => ?_)
    refine lv_iconst (v := (-1)) hx hb dX9_blend_100 (by decide) ?_
    exact W.iret (v := (-1)) hx hb hr (fun t ht hW => ⟨(-1), rfl, (by first | rfl | (simp_all; done) | simp [c_1, c_2, c_6, c_10, c_14, c_18, c_19, c_20, c_25, c_26, c_31, c_32, c_37, c_38, c_43, c_44, c_49, c_50, c_55, c_56, c_61, c_62, c_67, c_68, c_73, c_74, c_75, c_78]), ht⟩) (fun _ h9 => by cases h9) dX9_blend_101
  refine lv_goto (tgt := 114) hx hb dX9_blend_82 (by decide) ?_
  refine lv_iinc (v := 10) (lv' := [(7, .int 10), (6, .int 0), (0, .ref h0), (1, .int a1), (2, .int a2), (3, .int a3), (4, .int a4), (5, .int a5)]) hx hb dX9_blend_114 hl (k := 0) rfl (by decide) (by decide) rfl (fun ls hl => ?_)
  refine lv_goto (tgt := 66) hx hb dX9_blend_117 (by decide) ?_
  refine lv_iload hx hb dX9_blend_66 (lv_at hl 0 rfl) ?_
  refine lv_bipush (v := 10) hx hb dX9_blend_68 (by decide) ?_
  refine lv_icmp_ge (tgt := 120) hx hb dX9_blend_70 (by decide) (fun c_79 => ?_) (fun c_79 => absurd (by decide) c_79)
  obtain ⟨n9, hn9, z9, rfl⟩ := bits_lo c_1 c_2
  exact absurd ⟨c_20, c_26, c_32, c_38, c_44, c_50, c_56, c_62, c_68, c_74⟩ (bits_n n9 hn9 z9)
