theorem dX9_isLot_0 : decode cX9_isLot 0 = .ok (.iload_n 1, 1) := by decide +kernel
theorem dX9_isLot_1 : decode cX9_isLot 1 = .ok (.ifCond .lt 15, 3) := by decide +kernel
theorem dX9_isLot_4 : decode cX9_isLot 4 = .ok (.iload_n 1, 1) := by decide +kernel
theorem dX9_isLot_5 : decode cX9_isLot 5 = .ok (.aload_n 0, 1) := by decide +kernel
theorem dX9_isLot_6 : decode cX9_isLot 6 = .ok (.getfield 20, 3) := by decide +kernel
theorem dX9_isLot_9 : decode cX9_isLot 9 = .ok (.if_icmp .ge 7, 3) := by decide +kernel
theorem dX9_isLot_12 : decode cX9_isLot 12 = .ok (.iconst 1, 1) := by decide +kernel
theorem dX9_isLot_13 : decode cX9_isLot 13 = .ok (.goto 4, 3) := by decide +kernel
theorem dX9_isLot_16 : decode cX9_isLot 16 = .ok (.iconst 0, 1) := by decide +kernel
theorem dX9_isLot_17 : decode cX9_isLot 17 = .ok (.ireturn, 1) := by decide +kernel
theorem dX9_row_0 : decode cX9_row 0 = .ok (.iload_n 1, 1) := by decide +kernel
theorem dX9_row_1 : decode cX9_row 1 = .ok (.ifCond .ne 16, 3) := by decide +kernel
theorem dX9_row_4 : decode cX9_row 4 = .ok (.iload_n 2, 1) := by decide +kernel
theorem dX9_row_5 : decode cX9_row 5 = .ok (.invokestatic 165, 3) := by decide +kernel
theorem dX9_row_8 : decode cX9_row 8 = .ok (.ifCond .eq 7, 3) := by decide +kernel
theorem dX9_row_11 : decode cX9_row 11 = .ok (.iload_n 2, 1) := by decide +kernel
theorem dX9_row_12 : decode cX9_row 12 = .ok (.goto 4, 3) := by decide +kernel
theorem dX9_row_15 : decode cX9_row 15 = .ok (.iconst (-1), 1) := by decide +kernel
theorem dX9_row_16 : decode cX9_row 16 = .ok (.ireturn, 1) := by decide +kernel
theorem dX9_row_17 : decode cX9_row 17 = .ok (.iload_n 1, 1) := by decide +kernel
theorem dX9_row_18 : decode cX9_row 18 = .ok (.iconst 1, 1) := by decide +kernel
theorem dX9_row_19 : decode cX9_row 19 = .ok (.if_icmp .ne 22, 3) := by decide +kernel
theorem dX9_row_22 : decode cX9_row 22 = .ok (.iload_n 2, 1) := by decide +kernel
theorem dX9_row_23 : decode cX9_row 23 = .ok (.ifCond .lt 18, 3) := by decide +kernel
theorem dX9_row_26 : decode cX9_row 26 = .ok (.iload_n 2, 1) := by decide +kernel
theorem dX9_row_27 : decode cX9_row 27 = .ok (.aload_n 0, 1) := by decide +kernel
theorem dX9_row_28 : decode cX9_row 28 = .ok (.getfield 50, 3) := by decide +kernel
theorem dX9_row_31 : decode cX9_row 31 = .ok (.if_icmp .ge 10, 3) := by decide +kernel
theorem dX9_row_34 : decode cX9_row 34 = .ok (.bipush 10, 2) := by decide +kernel
theorem dX9_row_36 : decode cX9_row 36 = .ok (.iload_n 2, 1) := by decide +kernel
theorem dX9_row_37 : decode cX9_row 37 = .ok (.iadd, 1) := by decide +kernel
theorem dX9_row_38 : decode cX9_row 38 = .ok (.goto 4, 3) := by decide +kernel
theorem dX9_row_41 : decode cX9_row 41 = .ok (.iconst (-1), 1) := by decide +kernel
theorem dX9_row_42 : decode cX9_row 42 = .ok (.ireturn, 1) := by decide +kernel
theorem dX9_all_0 : decode cX9_all 0 = .ok (.iconst 0, 1) := by decide +kernel
theorem dX9_all_1 : decode cX9_all 1 = .ok (.istore_n 2, 1) := by decide +kernel
theorem dX9_all_2 : decode cX9_all 2 = .ok (.iconst 0, 1) := by decide +kernel
theorem dX9_all_3 : decode cX9_all 3 = .ok (.istore_n 3, 1) := by decide +kernel
theorem dX9_all_4 : decode cX9_all 4 = .ok (.iload_n 3, 1) := by decide +kernel
theorem dX9_all_5 : decode cX9_all 5 = .ok (.aload_n 0, 1) := by decide +kernel
theorem dX9_all_6 : decode cX9_all 6 = .ok (.getfield 20, 3) := by decide +kernel
theorem dX9_all_9 : decode cX9_all 9 = .ok (.if_icmp .ge 23, 3) := by decide +kernel
theorem dX9_all_12 : decode cX9_all 12 = .ok (.iload_n 2, 1) := by decide +kernel
theorem dX9_all_13 : decode cX9_all 13 = .ok (.aload_n 0, 1) := by decide +kernel
theorem dX9_all_14 : decode cX9_all 14 = .ok (.getfield 38, 3) := by decide +kernel
theorem dX9_all_17 : decode cX9_all 17 = .ok (.bipush 40, 2) := by decide +kernel
theorem dX9_all_19 : decode cX9_all 19 = .ok (.iload_n 1, 1) := by decide +kernel
theorem dX9_all_20 : decode cX9_all 20 = .ok (.imul, 1) := by decide +kernel
theorem dX9_all_21 : decode cX9_all 21 = .ok (.iload_n 3, 1) := by decide +kernel
theorem dX9_all_22 : decode cX9_all 22 = .ok (.iadd, 1) := by decide +kernel
theorem dX9_all_23 : decode cX9_all 23 = .ok (.iaload, 1) := by decide +kernel
theorem dX9_all_24 : decode cX9_all 24 = .ok (.iadd, 1) := by decide +kernel
theorem dX9_all_25 : decode cX9_all 25 = .ok (.istore_n 2, 1) := by decide +kernel
theorem dX9_all_26 : decode cX9_all 26 = .ok (.iinc 3 1, 3) := by decide +kernel
theorem dX9_all_29 : decode cX9_all 29 = .ok (.goto (-25), 3) := by decide +kernel
theorem dX9_all_32 : decode cX9_all 32 = .ok (.iload_n 2, 1) := by decide +kernel
theorem dX9_all_33 : decode cX9_all 33 = .ok (.ireturn, 1) := by decide +kernel
theorem dX9_pay_0 : decode cX9_pay 0 = .ok (.iconst 0, 1) := by decide +kernel
theorem dX9_pay_1 : decode cX9_pay 1 = .ok (.istore_n 3, 1) := by decide +kernel
theorem dX9_pay_2 : decode cX9_pay 2 = .ok (.iload_n 3, 1) := by decide +kernel
theorem dX9_pay_3 : decode cX9_pay 3 = .ok (.iconst 4, 1) := by decide +kernel
theorem dX9_pay_4 : decode cX9_pay 4 = .ok (.if_icmp .ge 61, 3) := by decide +kernel
theorem dX9_pay_7 : decode cX9_pay 7 = .ok (.iload_n 2, 1) := by decide +kernel
theorem dX9_pay_8 : decode cX9_pay 8 = .ok (.aload_n 0, 1) := by decide +kernel
theorem dX9_pay_9 : decode cX9_pay 9 = .ok (.getfield 32, 3) := by decide +kernel
theorem dX9_pay_12 : decode cX9_pay 12 = .ok (.bipush 8, 2) := by decide +kernel
theorem dX9_pay_14 : decode cX9_pay 14 = .ok (.iload_n 1, 1) := by decide +kernel
theorem dX9_pay_15 : decode cX9_pay 15 = .ok (.imul, 1) := by decide +kernel
theorem dX9_pay_16 : decode cX9_pay 16 = .ok (.iconst 2, 1) := by decide +kernel
theorem dX9_pay_17 : decode cX9_pay 17 = .ok (.iload_n 3, 1) := by decide +kernel
theorem dX9_pay_18 : decode cX9_pay 18 = .ok (.imul, 1) := by decide +kernel
theorem dX9_pay_19 : decode cX9_pay 19 = .ok (.iadd, 1) := by decide +kernel
theorem dX9_pay_20 : decode cX9_pay 20 = .ok (.iaload, 1) := by decide +kernel
theorem dX9_pay_21 : decode cX9_pay 21 = .ok (.if_icmp .gt 38, 3) := by decide +kernel
theorem dX9_pay_24 : decode cX9_pay 24 = .ok (.aload_n 0, 1) := by decide +kernel
theorem dX9_pay_25 : decode cX9_pay 25 = .ok (.getfield 23, 3) := by decide +kernel
theorem dX9_pay_28 : decode cX9_pay 28 = .ok (.bipush 7, 2) := by decide +kernel
theorem dX9_pay_30 : decode cX9_pay 30 = .ok (.iload_n 1, 1) := by decide +kernel
theorem dX9_pay_31 : decode cX9_pay 31 = .ok (.imul, 1) := by decide +kernel
theorem dX9_pay_32 : decode cX9_pay 32 = .ok (.iconst 1, 1) := by decide +kernel
theorem dX9_pay_33 : decode cX9_pay 33 = .ok (.iadd, 1) := by decide +kernel
theorem dX9_pay_34 : decode cX9_pay 34 = .ok (.iaload, 1) := by decide +kernel
theorem dX9_pay_35 : decode cX9_pay 35 = .ok (.i2l, 1) := by decide +kernel
theorem dX9_pay_36 : decode cX9_pay 36 = .ok (.aload_n 0, 1) := by decide +kernel
theorem dX9_pay_37 : decode cX9_pay 37 = .ok (.getfield 32, 3) := by decide +kernel
theorem dX9_pay_40 : decode cX9_pay 40 = .ok (.bipush 8, 2) := by decide +kernel
theorem dX9_pay_42 : decode cX9_pay 42 = .ok (.iload_n 1, 1) := by decide +kernel
theorem dX9_pay_43 : decode cX9_pay 43 = .ok (.imul, 1) := by decide +kernel
theorem dX9_pay_44 : decode cX9_pay 44 = .ok (.iconst 2, 1) := by decide +kernel
theorem dX9_pay_45 : decode cX9_pay 45 = .ok (.iload_n 3, 1) := by decide +kernel
theorem dX9_pay_46 : decode cX9_pay 46 = .ok (.imul, 1) := by decide +kernel
theorem dX9_pay_47 : decode cX9_pay 47 = .ok (.iadd, 1) := by decide +kernel
theorem dX9_pay_48 : decode cX9_pay 48 = .ok (.iconst 1, 1) := by decide +kernel
theorem dX9_pay_49 : decode cX9_pay 49 = .ok (.iadd, 1) := by decide +kernel
theorem dX9_pay_50 : decode cX9_pay 50 = .ok (.iaload, 1) := by decide +kernel
theorem dX9_pay_51 : decode cX9_pay 51 = .ok (.i2l, 1) := by decide +kernel
theorem dX9_pay_52 : decode cX9_pay 52 = .ok (.lmul, 1) := by decide +kernel
theorem dX9_pay_53 : decode cX9_pay 53 = .ok (.ldc2_w 149, 3) := by decide +kernel
theorem dX9_pay_56 : decode cX9_pay 56 = .ok (.ldiv, 1) := by decide +kernel
theorem dX9_pay_57 : decode cX9_pay 57 = .ok (.l2i, 1) := by decide +kernel
theorem dX9_pay_58 : decode cX9_pay 58 = .ok (.ireturn, 1) := by decide +kernel
theorem dX9_pay_59 : decode cX9_pay 59 = .ok (.iinc 3 1, 3) := by decide +kernel
theorem dX9_pay_62 : decode cX9_pay 62 = .ok (.goto (-60), 3) := by decide +kernel
theorem dX9_pay_65 : decode cX9_pay 65 = .ok (.iconst 0, 1) := by decide +kernel
theorem dX9_pay_66 : decode cX9_pay 66 = .ok (.ireturn, 1) := by decide +kernel
theorem dX9_span_0 : decode cX9_span 0 = .ok (.aload_n 0, 1) := by decide +kernel
theorem dX9_span_1 : decode cX9_span 1 = .ok (.iload_n 1, 1) := by decide +kernel
theorem dX9_span_2 : decode cX9_span 2 = .ok (.invokevirtual 160, 3) := by decide +kernel
theorem dX9_span_5 : decode cX9_span 5 = .ok (.ifCond .eq 21, 3) := by decide +kernel
theorem dX9_span_8 : decode cX9_span 8 = .ok (.iload_n 2, 1) := by decide +kernel
theorem dX9_span_9 : decode cX9_span 9 = .ok (.iconst 0, 1) := by decide +kernel
theorem dX9_span_10 : decode cX9_span 10 = .ok (.iconst 4, 1) := by decide +kernel
theorem dX9_span_11 : decode cX9_span 11 = .ok (.invokestatic 151, 3) := by decide +kernel
theorem dX9_span_14 : decode cX9_span 14 = .ok (.ifCond .eq 12, 3) := by decide +kernel
theorem dX9_span_17 : decode cX9_span 17 = .ok (.iload_n 3, 1) := by decide +kernel
theorem dX9_span_18 : decode cX9_span 18 = .ok (.iconst 0, 1) := by decide +kernel
theorem dX9_span_19 : decode cX9_span 19 = .ok (.iconst 1, 1) := by decide +kernel
theorem dX9_span_20 : decode cX9_span 20 = .ok (.invokestatic 151, 3) := by decide +kernel
theorem dX9_span_23 : decode cX9_span 23 = .ok (.ifCond .ne 7, 3) := by decide +kernel
theorem dX9_span_26 : decode cX9_span 26 = .ok (.iconst (-1), 1) := by decide +kernel
theorem dX9_span_27 : decode cX9_span 27 = .ok (.goto 30, 3) := by decide +kernel
theorem dX9_span_30 : decode cX9_span 30 = .ok (.iload_n 3, 1) := by decide +kernel
theorem dX9_span_31 : decode cX9_span 31 = .ok (.ifCond .ne 16, 3) := by decide +kernel
theorem dX9_span_34 : decode cX9_span 34 = .ok (.aload_n 0, 1) := by decide +kernel
theorem dX9_span_35 : decode cX9_span 35 = .ok (.getfield 26, 3) := by decide +kernel
theorem dX9_span_38 : decode cX9_span 38 = .ok (.iconst 5, 1) := by decide +kernel
theorem dX9_span_39 : decode cX9_span 39 = .ok (.iload_n 1, 1) := by decide +kernel
theorem dX9_span_40 : decode cX9_span 40 = .ok (.imul, 1) := by decide +kernel
theorem dX9_span_41 : decode cX9_span 41 = .ok (.iload_n 2, 1) := by decide +kernel
theorem dX9_span_42 : decode cX9_span 42 = .ok (.iadd, 1) := by decide +kernel
theorem dX9_span_43 : decode cX9_span 43 = .ok (.iaload, 1) := by decide +kernel
theorem dX9_span_44 : decode cX9_span 44 = .ok (.goto 13, 3) := by decide +kernel
theorem dX9_span_47 : decode cX9_span 47 = .ok (.aload_n 0, 1) := by decide +kernel
theorem dX9_span_48 : decode cX9_span 48 = .ok (.getfield 29, 3) := by decide +kernel
theorem dX9_span_51 : decode cX9_span 51 = .ok (.iconst 5, 1) := by decide +kernel
theorem dX9_span_52 : decode cX9_span 52 = .ok (.iload_n 1, 1) := by decide +kernel
theorem dX9_span_53 : decode cX9_span 53 = .ok (.imul, 1) := by decide +kernel
theorem dX9_span_54 : decode cX9_span 54 = .ok (.iload_n 2, 1) := by decide +kernel
theorem dX9_span_55 : decode cX9_span 55 = .ok (.iadd, 1) := by decide +kernel
theorem dX9_span_56 : decode cX9_span 56 = .ok (.iaload, 1) := by decide +kernel
theorem dX9_span_57 : decode cX9_span 57 = .ok (.ireturn, 1) := by decide +kernel
theorem dX9_of_0 : decode cX9_of 0 = .ok (.aload_n 0, 1) := by decide +kernel
theorem dX9_of_1 : decode cX9_of 1 = .ok (.iload_n 1, 1) := by decide +kernel
theorem dX9_of_2 : decode cX9_of 2 = .ok (.invokevirtual 160, 3) := by decide +kernel
theorem dX9_of_5 : decode cX9_of 5 = .ok (.ifCond .eq 13, 3) := by decide +kernel
theorem dX9_of_8 : decode cX9_of 8 = .ok (.iload_n 2, 1) := by decide +kernel
theorem dX9_of_9 : decode cX9_of 9 = .ok (.iconst 0, 1) := by decide +kernel
theorem dX9_of_10 : decode cX9_of 10 = .ok (.bipush 6, 2) := by decide +kernel
theorem dX9_of_12 : decode cX9_of 12 = .ok (.invokestatic 151, 3) := by decide +kernel
theorem dX9_of_15 : decode cX9_of 15 = .ok (.ifCond .ne 7, 3) := by decide +kernel
theorem dX9_of_18 : decode cX9_of 18 = .ok (.iconst (-1), 1) := by decide +kernel
theorem dX9_of_19 : decode cX9_of 19 = .ok (.goto 14, 3) := by decide +kernel
theorem dX9_of_22 : decode cX9_of 22 = .ok (.aload_n 0, 1) := by decide +kernel
theorem dX9_of_23 : decode cX9_of 23 = .ok (.getfield 23, 3) := by decide +kernel
theorem dX9_of_26 : decode cX9_of 26 = .ok (.bipush 7, 2) := by decide +kernel
theorem dX9_of_28 : decode cX9_of 28 = .ok (.iload_n 1, 1) := by decide +kernel
theorem dX9_of_29 : decode cX9_of 29 = .ok (.imul, 1) := by decide +kernel
theorem dX9_of_30 : decode cX9_of 30 = .ok (.iload_n 2, 1) := by decide +kernel
theorem dX9_of_31 : decode cX9_of 31 = .ok (.iadd, 1) := by decide +kernel
theorem dX9_of_32 : decode cX9_of 32 = .ok (.iaload, 1) := by decide +kernel
theorem dX9_of_33 : decode cX9_of 33 = .ok (.ireturn, 1) := by decide +kernel
theorem dX9_part_0 : decode cX9_part 0 = .ok (.aload_n 0, 1) := by decide +kernel
theorem dX9_part_1 : decode cX9_part 1 = .ok (.iload_n 1, 1) := by decide +kernel
theorem dX9_part_2 : decode cX9_part 2 = .ok (.iload_n 2, 1) := by decide +kernel
theorem dX9_part_3 : decode cX9_part 3 = .ok (.invokevirtual 179, 3) := by decide +kernel
theorem dX9_part_6 : decode cX9_part 6 = .ok (.istore 4, 2) := by decide +kernel
theorem dX9_part_8 : decode cX9_part 8 = .ok (.iload 4, 2) := by decide +kernel
theorem dX9_part_10 : decode cX9_part 10 = .ok (.ifCond .lt 11, 3) := by decide +kernel
theorem dX9_part_13 : decode cX9_part 13 = .ok (.aload_n 0, 1) := by decide +kernel
theorem dX9_part_14 : decode cX9_part 14 = .ok (.iload_n 3, 1) := by decide +kernel
theorem dX9_part_15 : decode cX9_part 15 = .ok (.invokevirtual 160, 3) := by decide +kernel
theorem dX9_part_18 : decode cX9_part 18 = .ok (.ifCond .ne 7, 3) := by decide +kernel
theorem dX9_part_21 : decode cX9_part 21 = .ok (.iconst (-1), 1) := by decide +kernel
theorem dX9_part_22 : decode cX9_part 22 = .ok (.goto 15, 3) := by decide +kernel
theorem dX9_part_25 : decode cX9_part 25 = .ok (.aload_n 0, 1) := by decide +kernel
theorem dX9_part_26 : decode cX9_part 26 = .ok (.getfield 38, 3) := by decide +kernel
theorem dX9_part_29 : decode cX9_part 29 = .ok (.bipush 40, 2) := by decide +kernel
theorem dX9_part_31 : decode cX9_part 31 = .ok (.iload 4, 2) := by decide +kernel
theorem dX9_part_33 : decode cX9_part 33 = .ok (.imul, 1) := by decide +kernel
theorem dX9_part_34 : decode cX9_part 34 = .ok (.iload_n 3, 1) := by decide +kernel
theorem dX9_part_35 : decode cX9_part 35 = .ok (.iadd, 1) := by decide +kernel
theorem dX9_part_36 : decode cX9_part 36 = .ok (.iaload, 1) := by decide +kernel
theorem dX9_part_37 : decode cX9_part 37 = .ok (.ireturn, 1) := by decide +kernel
theorem dX9_parts_0 : decode cX9_parts 0 = .ok (.aload_n 0, 1) := by decide +kernel
theorem dX9_parts_1 : decode cX9_parts 1 = .ok (.getfield 117, 3) := by decide +kernel
theorem dX9_parts_4 : decode cX9_parts 4 = .ok (.ifCond .eq 10, 3) := by decide +kernel
theorem dX9_parts_7 : decode cX9_parts 7 = .ok (.iload_n 1, 1) := by decide +kernel
theorem dX9_parts_8 : decode cX9_parts 8 = .ok (.invokestatic 165, 3) := by decide +kernel
theorem dX9_parts_11 : decode cX9_parts 11 = .ok (.ifCond .ne 7, 3) := by decide +kernel
theorem dX9_parts_14 : decode cX9_parts 14 = .ok (.iconst (-1), 1) := by decide +kernel
theorem dX9_parts_15 : decode cX9_parts 15 = .ok (.goto 9, 3) := by decide +kernel
theorem dX9_parts_18 : decode cX9_parts 18 = .ok (.aload_n 0, 1) := by decide +kernel
theorem dX9_parts_19 : decode cX9_parts 19 = .ok (.getfield 121, 3) := by decide +kernel
theorem dX9_parts_22 : decode cX9_parts 22 = .ok (.iload_n 1, 1) := by decide +kernel
theorem dX9_parts_23 : decode cX9_parts 23 = .ok (.iaload, 1) := by decide +kernel
theorem dX9_parts_24 : decode cX9_parts 24 = .ok (.ireturn, 1) := by decide +kernel
theorem dX9_found_0 : decode cX9_found 0 = .ok (.iload_n 1, 1) := by decide +kernel
theorem dX9_found_1 : decode cX9_found 1 = .ok (.ifCond .lt 11, 3) := by decide +kernel
theorem dX9_found_4 : decode cX9_found 4 = .ok (.iload_n 1, 1) := by decide +kernel
theorem dX9_found_5 : decode cX9_found 5 = .ok (.aload_n 0, 1) := by decide +kernel
theorem dX9_found_6 : decode cX9_found 6 = .ok (.getfield 142, 3) := by decide +kernel
theorem dX9_found_9 : decode cX9_found 9 = .ok (.if_icmp .lt 7, 3) := by decide +kernel
theorem dX9_found_12 : decode cX9_found 12 = .ok (.iconst (-1), 1) := by decide +kernel
theorem dX9_found_13 : decode cX9_found 13 = .ok (.goto 9, 3) := by decide +kernel
theorem dX9_found_16 : decode cX9_found 16 = .ok (.aload_n 0, 1) := by decide +kernel
theorem dX9_found_17 : decode cX9_found 17 = .ok (.getfield 139, 3) := by decide +kernel
theorem dX9_found_20 : decode cX9_found 20 = .ok (.iload_n 1, 1) := by decide +kernel
theorem dX9_found_21 : decode cX9_found 21 = .ok (.iaload, 1) := by decide +kernel
theorem dX9_found_22 : decode cX9_found 22 = .ok (.ireturn, 1) := by decide +kernel
theorem dX9_fault_0 : decode cX9_fault 0 = .ok (.iload_n 1, 1) := by decide +kernel
theorem dX9_fault_1 : decode cX9_fault 1 = .ok (.ifCond .ne 10, 3) := by decide +kernel
theorem dX9_fault_4 : decode cX9_fault 4 = .ok (.aload_n 0, 1) := by decide +kernel
theorem dX9_fault_5 : decode cX9_fault 5 = .ok (.getfield 74, 3) := by decide +kernel
theorem dX9_fault_8 : decode cX9_fault 8 = .ok (.goto 16, 3) := by decide +kernel
theorem dX9_fault_11 : decode cX9_fault 11 = .ok (.iload_n 1, 1) := by decide +kernel
theorem dX9_fault_12 : decode cX9_fault 12 = .ok (.iconst 1, 1) := by decide +kernel
theorem dX9_fault_13 : decode cX9_fault 13 = .ok (.if_icmp .ne 10, 3) := by decide +kernel
theorem dX9_fault_16 : decode cX9_fault 16 = .ok (.aload_n 0, 1) := by decide +kernel
theorem dX9_fault_17 : decode cX9_fault 17 = .ok (.getfield 77, 3) := by decide +kernel
theorem dX9_fault_20 : decode cX9_fault 20 = .ok (.goto 4, 3) := by decide +kernel
theorem dX9_fault_23 : decode cX9_fault 23 = .ok (.iconst (-1), 1) := by decide +kernel
theorem dX9_fault_24 : decode cX9_fault 24 = .ok (.ireturn, 1) := by decide +kernel
theorem dX9_count_0 : decode cX9_count 0 = .ok (.iload_n 1, 1) := by decide +kernel
theorem dX9_count_1 : decode cX9_count 1 = .ok (.tableswitch 51 0 3 #[31, 36, 41, 46], 31) := by decide +kernel
theorem dX9_count_32 : decode cX9_count 32 = .ok (.aload_n 0, 1) := by decide +kernel
theorem dX9_count_33 : decode cX9_count 33 = .ok (.getfield 20, 3) := by decide +kernel
theorem dX9_count_36 : decode cX9_count 36 = .ok (.ireturn, 1) := by decide +kernel
theorem dX9_count_37 : decode cX9_count 37 = .ok (.aload_n 0, 1) := by decide +kernel
theorem dX9_count_38 : decode cX9_count 38 = .ok (.getfield 50, 3) := by decide +kernel
theorem dX9_count_41 : decode cX9_count 41 = .ok (.ireturn, 1) := by decide +kernel
theorem dX9_count_42 : decode cX9_count 42 = .ok (.aload_n 0, 1) := by decide +kernel
theorem dX9_count_43 : decode cX9_count 43 = .ok (.getfield 53, 3) := by decide +kernel
theorem dX9_count_46 : decode cX9_count 46 = .ok (.ireturn, 1) := by decide +kernel
theorem dX9_count_47 : decode cX9_count 47 = .ok (.aload_n 0, 1) := by decide +kernel
theorem dX9_count_48 : decode cX9_count 48 = .ok (.getfield 17, 3) := by decide +kernel
theorem dX9_count_51 : decode cX9_count 51 = .ok (.ireturn, 1) := by decide +kernel
theorem dX9_count_52 : decode cX9_count 52 = .ok (.iconst (-1), 1) := by decide +kernel
theorem dX9_count_53 : decode cX9_count 53 = .ok (.ireturn, 1) := by decide +kernel
theorem dX9_holds_0 : decode cX9_holds 0 = .ok (.aload_n 0, 1) := by decide +kernel
theorem dX9_holds_1 : decode cX9_holds 1 = .ok (.iload_n 1, 1) := by decide +kernel
theorem dX9_holds_2 : decode cX9_holds 2 = .ok (.iload_n 2, 1) := by decide +kernel
theorem dX9_holds_3 : decode cX9_holds 3 = .ok (.invokevirtual 179, 3) := by decide +kernel
theorem dX9_holds_6 : decode cX9_holds 6 = .ok (.istore 4, 2) := by decide +kernel
theorem dX9_holds_8 : decode cX9_holds 8 = .ok (.iload 4, 2) := by decide +kernel
theorem dX9_holds_10 : decode cX9_holds 10 = .ok (.ifCond .ge 5, 3) := by decide +kernel
theorem dX9_holds_13 : decode cX9_holds 13 = .ok (.iconst (-1), 1) := by decide +kernel
theorem dX9_holds_14 : decode cX9_holds 14 = .ok (.ireturn, 1) := by decide +kernel
theorem dX9_holds_15 : decode cX9_holds 15 = .ok (.iconst 0, 1) := by decide +kernel
theorem dX9_holds_16 : decode cX9_holds 16 = .ok (.istore 5, 2) := by decide +kernel
theorem dX9_holds_18 : decode cX9_holds 18 = .ok (.iload_n 3, 1) := by decide +kernel
theorem dX9_holds_19 : decode cX9_holds 19 = .ok (.tableswitch 111 0 4 #[33, 40, 87, 95, 103], 33) := by decide +kernel
theorem dX9_holds_52 : decode cX9_holds 52 = .ok (.aload_n 0, 1) := by decide +kernel
theorem dX9_holds_53 : decode cX9_holds 53 = .ok (.iload 4, 2) := by decide +kernel
theorem dX9_holds_55 : decode cX9_holds 55 = .ok (.invokevirtual 169, 3) := by decide +kernel
theorem dX9_holds_58 : decode cX9_holds 58 = .ok (.ireturn, 1) := by decide +kernel
theorem dX9_holds_59 : decode cX9_holds 59 = .ok (.iconst 0, 1) := by decide +kernel
theorem dX9_holds_60 : decode cX9_holds 60 = .ok (.istore 6, 2) := by decide +kernel
theorem dX9_holds_62 : decode cX9_holds 62 = .ok (.iload 6, 2) := by decide +kernel
theorem dX9_holds_64 : decode cX9_holds 64 = .ok (.aload_n 0, 1) := by decide +kernel
theorem dX9_holds_65 : decode cX9_holds 65 = .ok (.getfield 20, 3) := by decide +kernel
theorem dX9_holds_68 : decode cX9_holds 68 = .ok (.if_icmp .ge 35, 3) := by decide +kernel
theorem dX9_holds_71 : decode cX9_holds 71 = .ok (.iload 5, 2) := by decide +kernel
theorem dX9_holds_73 : decode cX9_holds 73 = .ok (.aload_n 0, 1) := by decide +kernel
theorem dX9_holds_74 : decode cX9_holds 74 = .ok (.getfield 38, 3) := by decide +kernel
theorem dX9_holds_77 : decode cX9_holds 77 = .ok (.bipush 40, 2) := by decide +kernel
theorem dX9_holds_79 : decode cX9_holds 79 = .ok (.iload 4, 2) := by decide +kernel
theorem dX9_holds_81 : decode cX9_holds 81 = .ok (.imul, 1) := by decide +kernel
theorem dX9_holds_82 : decode cX9_holds 82 = .ok (.iload 6, 2) := by decide +kernel
theorem dX9_holds_84 : decode cX9_holds 84 = .ok (.iadd, 1) := by decide +kernel
theorem dX9_holds_85 : decode cX9_holds 85 = .ok (.iaload, 1) := by decide +kernel
theorem dX9_holds_86 : decode cX9_holds 86 = .ok (.ifCond .le 7, 3) := by decide +kernel
theorem dX9_holds_89 : decode cX9_holds 89 = .ok (.iconst 1, 1) := by decide +kernel
theorem dX9_holds_90 : decode cX9_holds 90 = .ok (.goto 4, 3) := by decide +kernel
theorem dX9_holds_93 : decode cX9_holds 93 = .ok (.iconst 0, 1) := by decide +kernel
theorem dX9_holds_94 : decode cX9_holds 94 = .ok (.iadd, 1) := by decide +kernel
theorem dX9_holds_95 : decode cX9_holds 95 = .ok (.istore 5, 2) := by decide +kernel
theorem dX9_holds_97 : decode cX9_holds 97 = .ok (.iinc 6 1, 3) := by decide +kernel
theorem dX9_holds_100 : decode cX9_holds 100 = .ok (.goto (-38), 3) := by decide +kernel
theorem dX9_holds_103 : decode cX9_holds 103 = .ok (.iload 5, 2) := by decide +kernel
theorem dX9_holds_105 : decode cX9_holds 105 = .ok (.ireturn, 1) := by decide +kernel
theorem dX9_holds_106 : decode cX9_holds 106 = .ok (.aload_n 0, 1) := by decide +kernel
theorem dX9_holds_107 : decode cX9_holds 107 = .ok (.getfield 41, 3) := by decide +kernel
theorem dX9_holds_110 : decode cX9_holds 110 = .ok (.iload 4, 2) := by decide +kernel
theorem dX9_holds_112 : decode cX9_holds 112 = .ok (.iaload, 1) := by decide +kernel
theorem dX9_holds_113 : decode cX9_holds 113 = .ok (.ireturn, 1) := by decide +kernel
theorem dX9_holds_114 : decode cX9_holds 114 = .ok (.aload_n 0, 1) := by decide +kernel
theorem dX9_holds_115 : decode cX9_holds 115 = .ok (.getfield 44, 3) := by decide +kernel
theorem dX9_holds_118 : decode cX9_holds 118 = .ok (.iload 4, 2) := by decide +kernel
theorem dX9_holds_120 : decode cX9_holds 120 = .ok (.iaload, 1) := by decide +kernel
theorem dX9_holds_121 : decode cX9_holds 121 = .ok (.ireturn, 1) := by decide +kernel
theorem dX9_holds_122 : decode cX9_holds 122 = .ok (.aload_n 0, 1) := by decide +kernel
theorem dX9_holds_123 : decode cX9_holds 123 = .ok (.getfield 47, 3) := by decide +kernel
theorem dX9_holds_126 : decode cX9_holds 126 = .ok (.iload 4, 2) := by decide +kernel
theorem dX9_holds_128 : decode cX9_holds 128 = .ok (.iaload, 1) := by decide +kernel
theorem dX9_holds_129 : decode cX9_holds 129 = .ok (.ireturn, 1) := by decide +kernel
theorem dX9_holds_130 : decode cX9_holds 130 = .ok (.iconst (-1), 1) := by decide +kernel
theorem dX9_holds_131 : decode cX9_holds 131 = .ok (.ireturn, 1) := by decide +kernel
theorem dX9_paid_0 : decode cX9_paid 0 = .ok (.iload_n 1, 1) := by decide +kernel
theorem dX9_paid_1 : decode cX9_paid 1 = .ok (.iconst 0, 1) := by decide +kernel
theorem dX9_paid_2 : decode cX9_paid 2 = .ok (.bipush 9, 2) := by decide +kernel
theorem dX9_paid_4 : decode cX9_paid 4 = .ok (.invokestatic 151, 3) := by decide +kernel
theorem dX9_paid_7 : decode cX9_paid 7 = .ok (.ifCond .ne 7, 3) := by decide +kernel
theorem dX9_paid_10 : decode cX9_paid 10 = .ok (.ldc2_w 173, 3) := by decide +kernel
theorem dX9_paid_13 : decode cX9_paid 13 = .ok (.lreturn, 1) := by decide +kernel
theorem dX9_paid_14 : decode cX9_paid 14 = .ok (.lconst 0, 1) := by decide +kernel
theorem dX9_paid_15 : decode cX9_paid 15 = .ok (.lstore_n 2, 1) := by decide +kernel
theorem dX9_paid_16 : decode cX9_paid 16 = .ok (.iconst 0, 1) := by decide +kernel
theorem dX9_paid_17 : decode cX9_paid 17 = .ok (.istore 4, 2) := by decide +kernel
theorem dX9_paid_19 : decode cX9_paid 19 = .ok (.iload 4, 2) := by decide +kernel
theorem dX9_paid_21 : decode cX9_paid 21 = .ok (.aload_n 0, 1) := by decide +kernel
theorem dX9_paid_22 : decode cX9_paid 22 = .ok (.getfield 20, 3) := by decide +kernel
theorem dX9_paid_25 : decode cX9_paid 25 = .ok (.if_icmp .ge 44, 3) := by decide +kernel
theorem dX9_paid_28 : decode cX9_paid 28 = .ok (.lload_n 2, 1) := by decide +kernel
theorem dX9_paid_29 : decode cX9_paid 29 = .ok (.aload_n 0, 1) := by decide +kernel
theorem dX9_paid_30 : decode cX9_paid 30 = .ok (.getfield 23, 3) := by decide +kernel
theorem dX9_paid_33 : decode cX9_paid 33 = .ok (.bipush 7, 2) := by decide +kernel
theorem dX9_paid_35 : decode cX9_paid 35 = .ok (.iload 4, 2) := by decide +kernel
theorem dX9_paid_37 : decode cX9_paid 37 = .ok (.imul, 1) := by decide +kernel
theorem dX9_paid_38 : decode cX9_paid 38 = .ok (.iaload, 1) := by decide +kernel
theorem dX9_paid_39 : decode cX9_paid 39 = .ok (.iload_n 1, 1) := by decide +kernel
theorem dX9_paid_40 : decode cX9_paid 40 = .ok (.if_icmp .ne 20, 3) := by decide +kernel
theorem dX9_paid_43 : decode cX9_paid 43 = .ok (.aload_n 0, 1) := by decide +kernel
theorem dX9_paid_44 : decode cX9_paid 44 = .ok (.getfield 23, 3) := by decide +kernel
theorem dX9_paid_47 : decode cX9_paid 47 = .ok (.bipush 7, 2) := by decide +kernel
theorem dX9_paid_49 : decode cX9_paid 49 = .ok (.iload 4, 2) := by decide +kernel
theorem dX9_paid_51 : decode cX9_paid 51 = .ok (.imul, 1) := by decide +kernel
theorem dX9_paid_52 : decode cX9_paid 52 = .ok (.bipush 6, 2) := by decide +kernel
theorem dX9_paid_54 : decode cX9_paid 54 = .ok (.iadd, 1) := by decide +kernel
theorem dX9_paid_55 : decode cX9_paid 55 = .ok (.iaload, 1) := by decide +kernel
theorem dX9_paid_56 : decode cX9_paid 56 = .ok (.i2l, 1) := by decide +kernel
theorem dX9_paid_57 : decode cX9_paid 57 = .ok (.goto 4, 3) := by decide +kernel
theorem dX9_paid_60 : decode cX9_paid 60 = .ok (.lconst 0, 1) := by decide +kernel
theorem dX9_paid_61 : decode cX9_paid 61 = .ok (.ladd, 1) := by decide +kernel
theorem dX9_paid_62 : decode cX9_paid 62 = .ok (.lstore_n 2, 1) := by decide +kernel
theorem dX9_paid_63 : decode cX9_paid 63 = .ok (.iinc 4 1, 3) := by decide +kernel
theorem dX9_paid_66 : decode cX9_paid 66 = .ok (.goto (-47), 3) := by decide +kernel
theorem dX9_paid_69 : decode cX9_paid 69 = .ok (.lload_n 2, 1) := by decide +kernel
theorem dX9_paid_70 : decode cX9_paid 70 = .ok (.lreturn, 1) := by decide +kernel
set_option maxRecDepth 20000 in
theorem ggX9_row_X9_isTank : GoodIn wsX9_row wsX9_isTank := goodIn_r _ [5] rfl (by decide +kernel)
set_option maxRecDepth 20000 in
theorem gX9_row_X9_isTank : GoodIn wsX9_row (va_wsS RX9 165 yX9_isTank wsX9_isTank) := goodIn_app (goodIn_of _ (by decide +kernel)) ggX9_row_X9_isTank
set_option maxRecDepth 20000 in
theorem ggX9_span_X9_isLot : GoodIn wsX9_span wsX9_isLot := goodIn_r _ [7, 8, 12, 13, 14, 15, 16, 17, 18, 19, 20, 21, 22, 23, 24, 25, 26, 27, 28, 29, 30, 31, 32, 33, 34, 35, 36, 37, 38, 39, 40, 41, 42, 43, 44, 45, 46, 47, 48, 49, 50, 51, 52, 53, 54, 55] rfl (by decide +kernel)
set_option maxRecDepth 20000 in
theorem gX9_span_X9_isLot : GoodIn wsX9_span (wsV RX9 160 RX9 yX9_isLot wsX9_isLot) := goodIn_app (goodIn_of _ (by decide +kernel)) ggX9_span_X9_isLot
set_option maxRecDepth 20000 in
theorem ggX9_span_X9_is : GoodIn wsX9_span wsX9_is := goodIn_r _ [11] rfl (by decide +kernel)
set_option maxRecDepth 20000 in
theorem gX9_span_X9_is : GoodIn wsX9_span (va_wsS RX9 151 yX9_is wsX9_is) := goodIn_app (goodIn_of _ (by decide +kernel)) ggX9_span_X9_is
set_option maxRecDepth 20000 in
theorem ggX9_of_X9_isLot : GoodIn wsX9_of wsX9_isLot := goodIn_r _ [6, 7, 11, 12, 13, 14, 15, 16, 17, 18, 19, 20, 21, 22, 23, 24, 25, 26, 27, 28, 29, 30, 31, 32, 33, 34, 35, 36, 37, 38, 39, 40, 41, 42, 43, 44, 45, 46, 47, 48, 49, 50, 51, 52, 53, 54] rfl (by decide +kernel)
set_option maxRecDepth 20000 in
theorem gX9_of_X9_isLot : GoodIn wsX9_of (wsV RX9 160 RX9 yX9_isLot wsX9_isLot) := goodIn_app (goodIn_of _ (by decide +kernel)) ggX9_of_X9_isLot
set_option maxRecDepth 20000 in
theorem ggX9_of_X9_is : GoodIn wsX9_of wsX9_is := goodIn_r _ [10] rfl (by decide +kernel)
set_option maxRecDepth 20000 in
theorem gX9_of_X9_is : GoodIn wsX9_of (va_wsS RX9 151 yX9_is wsX9_is) := goodIn_app (goodIn_of _ (by decide +kernel)) ggX9_of_X9_is
set_option maxRecDepth 20000 in
theorem ggX9_part_X9_row : GoodIn wsX9_part wsX9_row := goodIn_r _ [6, 7, 8, 9, 5, 10, 16, 17, 18, 19, 20, 21, 22, 23, 24, 25, 26, 27, 28, 29, 30, 31, 32, 33, 34, 35, 36, 37, 38, 39, 40, 41, 42, 43, 44, 45, 46, 47, 48, 49, 50, 51, 52, 53, 54, 55, 56, 57, 58, 59] rfl (by decide +kernel)
set_option maxRecDepth 20000 in
theorem gX9_part_X9_row : GoodIn wsX9_part (wsV RX9 179 RX9 yX9_row wsX9_row) := goodIn_app (goodIn_of _ (by decide +kernel)) ggX9_part_X9_row
set_option maxRecDepth 20000 in
theorem ggX9_part_X9_isLot : GoodIn wsX9_part wsX9_isLot := goodIn_r _ [14, 15, 16, 17, 18, 19, 20, 21, 22, 23, 24, 25, 26, 27, 28, 29, 30, 31, 32, 33, 34, 35, 36, 37, 38, 39, 40, 41, 42, 43, 44, 45, 46, 47, 48, 49, 50, 51, 52, 53, 54, 55, 56, 57, 58, 59] rfl (by decide +kernel)
set_option maxRecDepth 20000 in
theorem gX9_part_X9_isLot : GoodIn wsX9_part (wsV RX9 160 RX9 yX9_isLot wsX9_isLot) := goodIn_app (goodIn_of _ (by decide +kernel)) ggX9_part_X9_isLot
set_option maxRecDepth 20000 in
theorem ggX9_parts_X9_isTank : GoodIn wsX9_parts wsX9_isTank := goodIn_r _ [6] rfl (by decide +kernel)
set_option maxRecDepth 20000 in
theorem gX9_parts_X9_isTank : GoodIn wsX9_parts (va_wsS RX9 165 yX9_isTank wsX9_isTank) := goodIn_app (goodIn_of _ (by decide +kernel)) ggX9_parts_X9_isTank
set_option maxRecDepth 20000 in
theorem ggX9_holds_X9_row : GoodIn wsX9_holds wsX9_row := goodIn_r _ [10, 11, 12, 13, 9, 14, 19, 20, 21, 22, 23, 24, 25, 26, 27, 28, 29, 30, 31, 32, 33, 34, 35, 36, 37, 38, 39, 40, 41, 42, 43, 44, 45, 46, 47, 48, 49, 50, 51, 52, 53, 54, 55, 56, 57, 58, 59, 60, 61, 62] rfl (by decide +kernel)
set_option maxRecDepth 20000 in
theorem gX9_holds_X9_row : GoodIn wsX9_holds (wsV RX9 179 RX9 yX9_row wsX9_row) := goodIn_app (goodIn_of _ (by decide +kernel)) ggX9_holds_X9_row
set_option maxRecDepth 20000 in
theorem ggX9_holds_X9_all : GoodIn wsX9_holds wsX9_all := goodIn_r _ [18, 1, 2, 19, 20, 21, 22, 23, 24, 25, 26, 27, 28, 29, 30, 31, 32, 33, 34, 35, 36, 37, 38, 39, 40, 41, 42, 43, 44, 45, 46, 47, 48, 49, 50, 51, 52, 53, 54, 55, 56, 57, 58, 59, 60, 61, 62] rfl (by decide +kernel)
set_option maxRecDepth 20000 in
theorem gX9_holds_X9_all : GoodIn wsX9_holds (wsV RX9 169 RX9 yX9_all wsX9_all) := goodIn_app (goodIn_of _ (by decide +kernel)) ggX9_holds_X9_all
set_option maxRecDepth 20000 in
theorem ggX9_paid_X9_is : GoodIn wsX9_paid wsX9_is := goodIn_r _ [7] rfl (by decide +kernel)
set_option maxRecDepth 20000 in
theorem gX9_paid_X9_is : GoodIn wsX9_paid (va_wsS RX9 151 yX9_is wsX9_is) := goodIn_app (goodIn_of _ (by decide +kernel)) ggX9_paid_X9_is
set_option maxHeartbeats 4000000 in
set_option maxRecDepth 100000 in
theorem m_isLot (l : Launch) (D : va_G) (h0 : Nat) (ad : Nat → Nat) (cs : Nat → ClassId) (iv : Nat → Int32) (fv : Nat → Nat → Int32) (gv : Nat → Int64) (n3 : Nat) (a1 : Int32) (h3 : iv 3 = nI n3) (b3 : n3 ≤ 40) : Met l yX9_isLot wsX9_isLot ({ frames := 0, cells := 0, slots := 0, locals := 0 }) (va_Pc [.ref h0, .int a1] (fun U => va_P D vwCl (mw h0 ad cs iv fv gv) U.heap ∧ va_K D vwCl (mT cs) U)) (vp_Si (fun r => (r = 0 ∧ (a1 < 0 ∨ nI n3 ≤ a1)) ∨ (r = 1 ∧ ∃ j : Nat, j < n3 ∧ a1 = nI j))) 0 0 (fun _ => False) := by
  refine Met.ofW (cc := cX9_isLot) (maxL := 2) (ret := (some .boolean)) (by decide) rfl ?_
  intro p e s m args below meth c s₁ B hml hv
  obtain ⟨rfl, hP, hK⟩ := hv
  have hx := B.exec
  have hb := B.bytes
  have hr := B.returns
  have hts := atoms_spec (ws := wsX9_isLot) B.pre
  have hown : s.vm.findClass RX9 = some m.cls := findClass_of_methodNamed B.named
  have hlocks := B.notSynchronized
  have hin9 : ∀ w ∈ u_ws RX9 TX9 44, w ∈ wsX9_isLot := (fun _ h9 => List.mem_cons_of_mem _ ((List.mem_append_right _ h9)))
  have hl := lv_entry ([.ref h0, .int a1]) (n := 2) (Nat.le_of_ble_eq_true rfl)
  rw [lg_entry_eq]
  generalize (lg_sl ([.ref h0, .int a1]) ++ List.replicate (2 - (lg_sl ([.ref h0, .int a1])).length) Slot.unset).toArray = ls at hl ⊢
  have hl : lv_has ls 2 [(0, .ref h0), (1, .int a1)] := hl
  refine lv_iload_n hx hb dX9_isLot_0 rfl (lv_at hl 1 rfl) ?_
  refine lv_if_lt (tgt := 16) hx hb dX9_isLot_1 (by decide) (fun c_1 => ?_) (fun c_1 => ?_)
  · refine lv_iconst (v := 0) hx hb dX9_isLot_16 (by decide) ?_
    exact W.zret (v := 0) hx hb hr rfl (fun t ht hW => ⟨0, rfl, Or.inl ⟨rfl, Or.inl c_1⟩, ht⟩) (fun _ h9 => by cases h9) dX9_isLot_17
  refine lv_iload_n hx hb dX9_isLot_4 rfl (lv_at hl 1 rfl) ?_
  refine lv_aload_n hx hb dX9_isLot_5 rfl (lv_at hl 0 rfl) ?_
  refine va_get (D := D) (ci := 9) (v := .int (iv 3)) (C := RX9) (T := TX9) (N := 44) hx hb hts hin9 hown hK hP 0 rfl rfl 3 (by decide) (hts (.fieldLink RX9 20 "HoneyHouseModel" "lots" "I") (List.mem_of_getElem? (i := 1) rfl)) (fun _ h9 => h9) rfl dX9_isLot_6 ?_
  refine tp_i (y := nI n3) (h3) ?_
  refine lv_icmp_ge (tgt := 16) hx hb dX9_isLot_9 (by decide) (fun c_2 => ?_) (fun c_2 => ?_)
  · refine lv_iconst (v := 0) hx hb dX9_isLot_16 (by decide) ?_
    exact W.zret (v := 0) hx hb hr rfl (fun t ht hW => ⟨0, rfl, Or.inl ⟨rfl, Or.inr c_2⟩, ht⟩) (fun _ h9 => by cases h9) dX9_isLot_17
  refine lv_iconst (v := 1) hx hb dX9_isLot_12 (by decide) ?_
  refine lv_goto (tgt := 17) hx hb dX9_isLot_13 (by decide) ?_
  exact W.zret (v := 1) hx hb hr rfl (fun t ht hW => ⟨1, rfl, Or.inr ⟨rfl, ls_nat c_1 c_2 (by omega)⟩, ht⟩) (fun _ h9 => by cases h9) dX9_isLot_17
set_option maxHeartbeats 4000000 in
set_option maxRecDepth 100000 in
theorem m_row (l : Launch) (D : va_G) (h0 : Nat) (ad : Nat → Nat) (cs : Nat → ClassId) (iv : Nat → Int32) (fv : Nat → Nat → Int32) (gv : Nat → Int64) (n13 : Nat) (a1 a2 : Int32) (h13 : iv 13 = nI n13) (b13 : n13 ≤ 60) : Met l yX9_row wsX9_row ({ frames := 1, cells := 0, slots := 0, locals := 20 }) (va_Pc [.ref h0, .int a1, .int a2] (fun U => va_P D vwCl (mw h0 ad cs iv fv gv) U.heap ∧ va_K D vwCl (mT cs) U)) (vp_Si (fun r => (rowN n13 a1 a2 ∧ r = (-1)) ∨ (¬ rowN n13 a1 a2 ∧ r = nI (rowI a1 a2) ∧ rowI a1 a2 < 10 + n13))) 0 0 (fun _ => False) := by
  refine Met.ofW (cc := cX9_row) (maxL := 3) (ret := (some .int)) (by decide) rfl ?_
  intro p e s m args below meth c s₁ B hml hv
  obtain ⟨rfl, hP, hK⟩ := hv
  have hx := B.exec
  have hb := B.bytes
  have hr := B.returns
  have hts := atoms_spec (ws := wsX9_row) B.pre
  have hown : s.vm.findClass RX9 = some m.cls := findClass_of_methodNamed B.named
  have hlocks := B.notSynchronized
  have hin9 : ∀ w ∈ u_ws RX9 TX9 44, w ∈ wsX9_row := (fun _ h9 => List.mem_cons_of_mem _ ((List.mem_append_right _ h9)))
  have hl := lv_entry ([.ref h0, .int a1, .int a2]) (n := 3) (Nat.le_of_ble_eq_true rfl)
  rw [lg_entry_eq]
  generalize (lg_sl ([.ref h0, .int a1, .int a2]) ++ List.replicate (3 - (lg_sl ([.ref h0, .int a1, .int a2])).length) Slot.unset).toArray = ls at hl ⊢
  have hl : lv_has ls 3 [(0, .ref h0), (1, .int a1), (2, .int a2)] := hl
  refine lv_iload_n hx hb dX9_row_0 rfl (lv_at hl 1 rfl) ?_
  refine lv_if_ne (tgt := 17) hx hb dX9_row_1 (by decide) (fun c_1 => ?_) (fun c_1 => ?_)
  · refine lv_iload_n hx hb dX9_row_17 rfl (lv_at hl 1 rfl) ?_
    refine lv_iconst (v := 1) hx hb dX9_row_18 (by decide) ?_
    refine lv_icmp_ne (tgt := 41) hx hb dX9_row_19 (by decide) (fun c_2 => ?_) (fun c_2 => ?_)
    · refine lv_iconst (v := (-1)) hx hb dX9_row_41 (by decide) ?_
      exact W.iret (v := (-1)) hx hb hr (fun t ht hW => ⟨(-1), rfl, Or.inl ⟨Or.inr ⟨c_1, Or.inl c_2⟩, rfl⟩, ht⟩) (fun _ h9 => by cases h9) dX9_row_42
    refine lv_iload_n hx hb dX9_row_22 rfl (lv_at hl 2 rfl) ?_
    refine lv_if_lt (tgt := 41) hx hb dX9_row_23 (by decide) (fun c_3 => ?_) (fun c_3 => ?_)
    · refine lv_iconst (v := (-1)) hx hb dX9_row_41 (by decide) ?_
      exact W.iret (v := (-1)) hx hb hr (fun t ht hW => ⟨(-1), rfl, Or.inl ⟨Or.inr ⟨c_1, Or.inr (Or.inl c_3)⟩, rfl⟩, ht⟩) (fun _ h9 => by cases h9) dX9_row_42
    refine lv_iload_n hx hb dX9_row_26 rfl (lv_at hl 2 rfl) ?_
    refine lv_aload_n hx hb dX9_row_27 rfl (lv_at hl 0 rfl) ?_
    refine va_get (D := D) (ci := 9) (v := .int (iv 13)) (C := RX9) (T := TX9) (N := 44) hx hb hts hin9 hown hK hP 0 rfl rfl 13 (by decide) (hts (.fieldLink RX9 50 "HoneyHouseModel" "batches" "I") (List.mem_of_getElem? (i := 1) rfl)) (fun _ h9 => h9) rfl dX9_row_28 ?_
    refine tp_i (y := nI n13) (h13) ?_
    refine lv_icmp_ge (tgt := 41) hx hb dX9_row_31 (by decide) (fun c_4 => ?_) (fun c_4 => ?_)
    · refine lv_iconst (v := (-1)) hx hb dX9_row_41 (by decide) ?_
      exact W.iret (v := (-1)) hx hb hr (fun t ht hW => ⟨(-1), rfl, Or.inl ⟨Or.inr ⟨c_1, Or.inr (Or.inr c_4)⟩, rfl⟩, ht⟩) (fun _ h9 => by cases h9) dX9_row_42
    obtain ⟨j_5, hj_6, rfl⟩ := ls_nat c_3 c_4 (by omega)
    refine lv_bipush (v := 10) hx hb dX9_row_34 (by decide) ?_
    refine lv_iload_n hx hb dX9_row_36 rfl (lv_at hl 2 rfl) ?_
    refine lv_iadd hx hb dX9_row_37 ?_
    refine tp_i (y := nI (10 + j_5)) (nI_add 10 j_5) ?_
    refine lv_goto (tgt := 42) hx hb dX9_row_38 (by decide) ?_
    exact W.iret (v := nI (10 + j_5)) hx hb hr (fun t ht hW => ⟨nI (10 + j_5), rfl, Or.inr ⟨fun h => Or.elim h (fun h => c_1 h.1) (fun h => Or.elim h.2 (fun h => h c_2) (fun h => Or.elim h c_3 c_4)), by rw [rowI, if_neg c_1, nI_clamp (n := j_5) (by omega)], by rw [rowI, if_neg c_1, nI_clamp (n := j_5) (by omega)]; omega⟩, ht⟩) (fun _ h9 => by cases h9) dX9_row_42
  refine lv_iload_n hx hb dX9_row_4 rfl (lv_at hl 2 rfl) ?_
  refine vp_callSi (W.runS (As := [.int a2]) (rest := []) ⟨hx, hb, hml, hown, hts⟩ (s_X9_isTank l a2) (va_cwS 1 hts gX9_row_X9_isTank rfl rfl rfl (by decide +kernel) ⟨Nat.le_of_ble_eq_true rfl, Nat.le_of_ble_eq_true rfl⟩) ⟨fun a U g mk q => q, fun U hU hW => ⟨rfl, trivial⟩⟩ rfl rfl hl.1 rfl (lv_room (Nat.le_of_ble_eq_true rfl)) dX9_row_5 ⟨Nat.le_of_ble_eq_true rfl, Nat.le_of_ble_eq_true rfl⟩) (fun r_7 k_8 => ?_)
  rcases k_8 with ⟨rfl, o_9⟩ | ⟨rfl, a_10, b_11⟩
  · refine lv_if_eq (tgt := 15) hx hb dX9_row_8 (by decide) (fun c_12 => ?_) (fun c_12 => absurd (by decide) c_12)
    refine lv_iconst (v := (-1)) hx hb dX9_row_15 (by decide) ?_
    exact W.iret (v := (-1)) hx hb hr (fun t ht hW => ⟨(-1), rfl, Or.inl ⟨Or.inl ⟨c_1, o_9⟩, rfl⟩, ht⟩) (fun _ h9 => by cases h9) dX9_row_16
  obtain ⟨j_13, hj_14, hj_15, rfl⟩ := is_nat (a := 0) (b := 9) a_10 b_11 (by omega)
  refine lv_if_eq (tgt := 15) hx hb dX9_row_8 (by decide) (fun c_16 => absurd c_16 (by decide)) (fun c_16 => ?_)
  refine lv_iload_n hx hb dX9_row_11 rfl (lv_at hl 2 rfl) ?_
  refine lv_goto (tgt := 16) hx hb dX9_row_12 (by decide) ?_
  exact W.iret (v := nI j_13) hx hb hr (fun t ht hW => ⟨nI j_13, rfl, Or.inr ⟨fun h => Or.elim h (fun h => Or.elim h.2 a_10 b_11) (fun h => h.1 c_1), by rw [rowI, if_pos c_1, nI_clamp (n := j_13) (by omega)], by rw [rowI, if_pos c_1, nI_clamp (n := j_13) (by omega)]; omega⟩, ht⟩) (fun _ h9 => by cases h9) dX9_row_16
set_option maxHeartbeats 4000000 in
set_option maxRecDepth 100000 in
theorem m_all (l : Launch) (D : va_G) (h0 : Nat) (ad : Nat → Nat) (cs : Nat → ClassId) (iv : Nat → Int32) (fv : Nat → Nat → Int32) (gv : Nat → Int64) (n3 : Nat) (t : Nat) (h3 : iv 3 = nI n3) (b3 : n3 ≤ 40) (bt : t < 70) : Met l yX9_all wsX9_all ({ frames := 0, cells := 0, slots := 0, locals := 0 }) (va_Pc [.ref h0, .int (nI t)] (fun U => va_P D vwCl (mw h0 ad cs iv fv gv) U.heap ∧ va_K D vwCl (mT cs) U)) (vp_Si (fun r => r = mall (fv 9) t n3)) 0 0 (fun _ => False) := by
  refine Met.ofW (cc := cX9_all) (maxL := 4) (ret := (some .int)) (by decide) rfl ?_
  intro p e s m args below meth c s₁ B hml hv
  obtain ⟨rfl, hP, hK⟩ := hv
  have hx := B.exec
  have hb := B.bytes
  have hr := B.returns
  have hts := atoms_spec (ws := wsX9_all) B.pre
  have hown : s.vm.findClass RX9 = some m.cls := findClass_of_methodNamed B.named
  have hlocks := B.notSynchronized
  have hin9 : ∀ w ∈ u_ws RX9 TX9 44, w ∈ wsX9_all := (fun _ h9 => List.mem_cons_of_mem _ ((List.mem_append_right _ h9)))
  have hl := lv_entry ([.ref h0, .int (nI t)]) (n := 4) (Nat.le_of_ble_eq_true rfl)
  rw [lg_entry_eq]
  generalize (lg_sl ([.ref h0, .int (nI t)]) ++ List.replicate (4 - (lg_sl ([.ref h0, .int (nI t)])).length) Slot.unset).toArray = ls at hl ⊢
  have hl : lv_has ls 4 [(0, .ref h0), (1, .int (nI t))] := hl
  refine lv_iconst (v := 0) hx hb dX9_all_0 (by decide) ?_
  refine lv_istore_n (lv' := [(2, .int 0), (0, .ref h0), (1, .int (nI t))]) hx hb dX9_all_1 rfl hl (by decide) rfl (fun ls hl => ?_)
  refine lv_iconst (v := 0) hx hb dX9_all_2 (by decide) ?_
  refine lv_istore_n (lv' := [(3, .int 0), (2, .int 0), (0, .ref h0), (1, .int (nI t))]) hx hb dX9_all_3 rfl hl (by decide) rfl (fun ls hl => ?_)
  refine lp_R (nL := 4) (σ := Nat × Int32) (lv := fun x9 => [(3, .int (nI x9.1)), (2, .int x9.2), (1, .int (nI t)), (0, .ref h0)]) (μ := fun x9 => n3 - x9.1) (J := fun x9 => (x9.1 ≤ n3) ∧ (x9.2 = mall (fv 9) t x9.1)) (fun x9 ls hj hl ih_1 => ?_) (0, 0) ls ⟨(show 0 ≤ n3 from by omega), (show 0 = mall (fv 9) t 0 from rfl)⟩ (lv_sub hl [0, 1, 3, 2] rfl)
  obtain ⟨i_2, x_3⟩ := x9
  replace hj : (i_2 ≤ n3) ∧ (x_3 = mall (fv 9) t i_2) := hj
  obtain ⟨hi_4, hs_5⟩ := hj
  have hl : lv_has ls 4 [(3, .int (nI i_2)), (2, .int x_3), (1, .int (nI t)), (0, .ref h0)] := hl
  refine lv_iload_n hx hb dX9_all_4 rfl (lv_at hl 0 rfl) ?_
  refine lv_aload_n hx hb dX9_all_5 rfl (lv_at hl 3 rfl) ?_
  refine va_get (D := D) (ci := 9) (v := .int (iv 3)) (C := RX9) (T := TX9) (N := 44) hx hb hts hin9 hown hK hP 0 rfl rfl 3 (by decide) (hts (.fieldLink RX9 20 "HoneyHouseModel" "lots" "I") (List.mem_of_getElem? (i := 1) rfl)) (fun _ h9 => h9) rfl dX9_all_6 ?_
  refine tp_i (y := nI n3) (h3) ?_
  refine lv_icmp_ge (tgt := 32) hx hb dX9_all_9 (by decide) (fun c_6 => ?_) (fun c_6 => ?_)
  · have d_7 := n_le (a := n3) (b := i_2) (by omega) (by omega) c_6
    refine lv_iload_n hx hb dX9_all_32 rfl (lv_at hl 1 rfl) ?_
    exact W.iret (v := x_3) hx hb hr (fun t ht hW => ⟨x_3, rfl, (by rw [hs_5, show i_2 = n3 by omega]), ht⟩) (fun _ h9 => by cases h9) dX9_all_33
  have d_8 := n_nle (a := n3) (b := i_2) (by omega) (by omega) c_6
  refine lv_iload_n hx hb dX9_all_12 rfl (lv_at hl 1 rfl) ?_
  refine lv_aload_n hx hb dX9_all_13 rfl (lv_at hl 3 rfl) ?_
  refine va_get (D := D) (ci := 9) (v := .ref (ad 9)) (C := RX9) (T := TX9) (N := 44) hx hb hts hin9 hown hK hP 0 rfl rfl 9 (by decide) (hts (.fieldLink RX9 38 "HoneyHouseModel" "grams" "[I") (List.mem_of_getElem? (i := 2) rfl)) (fun _ h9 => h9) rfl dX9_all_14 ?_
  refine lv_bipush (v := 40) hx hb dX9_all_17 (by decide) ?_
  refine lv_iload_n hx hb dX9_all_19 rfl (lv_at hl 2 rfl) ?_
  refine lv_imul hx hb dX9_all_20 ?_
  refine tp_i (y := nI (40 * t)) (pk_mul 40 t) ?_
  refine lv_iload_n hx hb dX9_all_21 rfl (lv_at hl 0 rfl) ?_
  refine lv_iadd hx hb dX9_all_22 ?_
  refine tp_i (y := nI ((40 * t) + i_2)) (nI_add (40 * t) i_2) ?_
  refine va_iald (f := fv 9) (n := 2800) hx hb hK hP 7 6 rfl rfl (vp_in_nI (n := (40 * t) + i_2) (by omega) (by omega)) dX9_all_23 ?_
  refine lv_topi (fun z_9 hz_10 => ?_)
  rw [nI_clamp (n := (40 * t) + i_2) (by omega)] at hz_10
  refine lv_iadd hx hb dX9_all_24 ?_
  refine lv_istore_n (lv' := [(2, .int (x_3 + z_9)), (3, .int (nI i_2)), (1, .int (nI t)), (0, .ref h0)]) hx hb dX9_all_25 rfl hl (by decide) rfl (fun ls hl => ?_)
  refine lv_iinc (v := nI (i_2 + 1)) (lv' := [(3, .int (nI (i_2 + 1))), (2, .int (x_3 + z_9)), (1, .int (nI t)), (0, .ref h0)]) hx hb dX9_all_26 hl (k := 1) rfl (nI_add i_2 1) (by decide) rfl (fun ls hl => ?_)
  refine lv_goto (tgt := 4) hx hb dX9_all_29 (by decide) ?_
  exact ih_1 (i_2 + 1, x_3 + z_9) ls (by show n3 - (i_2 + 1) < n3 - i_2; omega) ⟨(show (i_2 + 1) ≤ n3 from by omega), (show (x_3 + z_9) = mall (fv 9) t (i_2 + 1) from by rw [hs_5, hz_10]; rfl)⟩ (lv_sub hl [0, 1, 2, 3] rfl)
section PAYG
variable {w p : Nat → Int32} {g x y0 y1 y2 y3 z : Int32}
theorem payG_0 (h0 : ¬ y0 < x) (e0 : w 0 = y0) (ez : p 0 = z) : (g.toInt64 * z.toInt64 / 1000).toInt32 = payF w p g x := by subst e0 ez; exact (payF_0 h0).symm
theorem payG_1 (h0 : y0 < x) (h1 : ¬ y1 < x) (e0 : w 0 = y0) (e1 : w 1 = y1) (ez : p 1 = z) : (g.toInt64 * z.toInt64 / 1000).toInt32 = payF w p g x := by subst e0 e1 ez; exact (payF_1 h0 h1).symm
theorem payG_2 (h0 : y0 < x) (h1 : y1 < x) (h2 : ¬ y2 < x) (e0 : w 0 = y0) (e1 : w 1 = y1) (e2 : w 2 = y2) (ez : p 2 = z) : (g.toInt64 * z.toInt64 / 1000).toInt32 = payF w p g x := by subst e0 e1 e2 ez; exact (payF_2 h0 h1 h2).symm
theorem payG_3 (h0 : y0 < x) (h1 : y1 < x) (h2 : y2 < x) (h3 : ¬ y3 < x) (e0 : w 0 = y0) (e1 : w 1 = y1) (e2 : w 2 = y2) (e3 : w 3 = y3) (ez : p 3 = z) : (g.toInt64 * z.toInt64 / 1000).toInt32 = payF w p g x := by subst e0 e1 e2 e3 ez; exact (payF_3 h0 h1 h2 h3).symm
theorem payG_4 (h0 : y0 < x) (h1 : y1 < x) (h2 : y2 < x) (h3 : y3 < x) (e0 : w 0 = y0) (e1 : w 1 = y1) (e2 : w 2 = y2) (e3 : w 3 = y3) : 0 = payF w p g x := by subst e0 e1 e2 e3; exact (payF_4 h0 h1 h2 h3).symm
end PAYG
set_option maxHeartbeats 4000000 in
set_option maxRecDepth 100000 in
theorem m_pay (l : Launch) (D : va_G) (h0 : Nat) (ad : Nat → Nat) (cs : Nat → ClassId) (iv : Nat → Int32) (fv : Nat → Nat → Int32) (gv : Nat → Int64) (u9 : Nat) (a2 : Int32)  (bt : u9 < 40) : Met l yX9_pay wsX9_pay ({ frames := 0, cells := 0, slots := 0, locals := 0 }) (va_Pc [.ref h0, .int (nI u9), .int a2] (fun U => va_P D vwCl (mw h0 ad cs iv fv gv) U.heap ∧ va_K D vwCl (mT cs) U)) (vp_Si (fun r => r = payF (fun k => fv 7 (8 * u9 + 2 * k)) (fun k => fv 7 (8 * u9 + 2 * k + 1)) (fv 4 (7 * u9 + 1)) a2)) 0 0 (fun _ => False) := by
  refine Met.ofW (cc := cX9_pay) (maxL := 4) (ret := (some .int)) (by decide) rfl ?_
  intro p e s m args below meth c s₁ B hml hv
  obtain ⟨rfl, hP, hK⟩ := hv
  have hx := B.exec
  have hb := B.bytes
  have hr := B.returns
  have hts := atoms_spec (ws := wsX9_pay) B.pre
  have hown : s.vm.findClass RX9 = some m.cls := findClass_of_methodNamed B.named
  have hlocks := B.notSynchronized
  have hin9 : ∀ w ∈ u_ws RX9 TX9 44, w ∈ wsX9_pay := (fun _ h9 => List.mem_cons_of_mem _ ((List.mem_append_right _ h9)))
  have hl := lv_entry ([.ref h0, .int (nI u9), .int a2]) (n := 4) (Nat.le_of_ble_eq_true rfl)
  rw [lg_entry_eq]
  generalize (lg_sl ([.ref h0, .int (nI u9), .int a2]) ++ List.replicate (4 - (lg_sl ([.ref h0, .int (nI u9), .int a2])).length) Slot.unset).toArray = ls at hl ⊢
  have hl : lv_has ls 4 [(0, .ref h0), (1, .int (nI u9)), (2, .int a2)] := hl
  refine lv_iconst (v := 0) hx hb dX9_pay_0 (by decide) ?_
  refine lv_istore_n (lv' := [(3, .int 0), (0, .ref h0), (1, .int (nI u9)), (2, .int a2)]) hx hb dX9_pay_1 rfl hl (by decide) rfl (fun ls hl => ?_)
  refine lv_iload_n hx hb dX9_pay_2 rfl (lv_at hl 0 rfl) ?_
  refine lv_iconst (v := 4) hx hb dX9_pay_3 (by decide) ?_
  refine lv_icmp_ge (tgt := 65) hx hb dX9_pay_4 (by decide) (fun c_1 => absurd c_1 (by decide)) (fun c_1 => ?_)
  refine lv_iload_n hx hb dX9_pay_7 rfl (lv_at hl 3 rfl) ?_
  refine lv_aload_n hx hb dX9_pay_8 rfl (lv_at hl 1 rfl) ?_
  refine va_get (D := D) (ci := 9) (v := .ref (ad 7)) (C := RX9) (T := TX9) (N := 44) hx hb hts hin9 hown hK hP 0 rfl rfl 7 (by decide) (hts (.fieldLink RX9 32 "HoneyHouseModel" "lotSteps" "[I") (List.mem_of_getElem? (i := 1) rfl)) (fun _ h9 => h9) rfl dX9_pay_9 ?_
  refine lv_bipush (v := 8) hx hb dX9_pay_12 (by decide) ?_
  refine lv_iload_n hx hb dX9_pay_14 rfl (lv_at hl 2 rfl) ?_
  refine lv_imul hx hb dX9_pay_15 ?_
  refine tp_i (y := nI (8 * u9)) (pk_mul 8 u9) ?_
  refine lv_iconst (v := 2) hx hb dX9_pay_16 (by decide) ?_
  refine lv_iload_n hx hb dX9_pay_17 rfl (lv_at hl 0 rfl) ?_
  refine lv_imul hx hb dX9_pay_18 ?_
  refine tp_i (y := 0) (by decide) ?_
  refine lv_iadd hx hb dX9_pay_19 ?_
  refine tp_i (y := nI ((8 * u9) + 0)) (nI_add (8 * u9) 0) ?_
  refine va_iald (f := fv 7) (n := 320) hx hb hK hP 5 4 rfl rfl (vp_in_nI (n := (8 * u9) + 0) (by omega) (by omega)) dX9_pay_20 ?_
  refine lv_topi (fun z_2 hz_3 => ?_)
  rw [nI_clamp (n := (8 * u9) + 0) (by omega)] at hz_3
  obtain rfl : z_2 = fv 7 ((8 * u9) + 0) := hz_3
  refine lv_icmp_gt (tgt := 59) hx hb dX9_pay_21 (by decide) (fun c_4 => ?_) (fun c_4 => ?_)
  · refine lv_iinc (v := 1) (lv' := [(3, .int 1), (0, .ref h0), (1, .int (nI u9)), (2, .int a2)]) hx hb dX9_pay_59 hl (k := 0) rfl (by decide) (by decide) rfl (fun ls hl => ?_)
    refine lv_goto (tgt := 2) hx hb dX9_pay_62 (by decide) ?_
    refine lv_iload_n hx hb dX9_pay_2 rfl (lv_at hl 0 rfl) ?_
    refine lv_iconst (v := 4) hx hb dX9_pay_3 (by decide) ?_
    refine lv_icmp_ge (tgt := 65) hx hb dX9_pay_4 (by decide) (fun c_5 => absurd c_5 (by decide)) (fun c_5 => ?_)
    refine lv_iload_n hx hb dX9_pay_7 rfl (lv_at hl 3 rfl) ?_
    refine lv_aload_n hx hb dX9_pay_8 rfl (lv_at hl 1 rfl) ?_
    refine va_get (D := D) (ci := 9) (v := .ref (ad 7)) (C := RX9) (T := TX9) (N := 44) hx hb hts hin9 hown hK hP 0 rfl rfl 7 (by decide) (hts (.fieldLink RX9 32 "HoneyHouseModel" "lotSteps" "[I") (List.mem_of_getElem? (i := 1) rfl)) (fun _ h9 => h9) rfl dX9_pay_9 ?_
    refine lv_bipush (v := 8) hx hb dX9_pay_12 (by decide) ?_
    refine lv_iload_n hx hb dX9_pay_14 rfl (lv_at hl 2 rfl) ?_
    refine lv_imul hx hb dX9_pay_15 ?_
    refine tp_i (y := nI (8 * u9)) (pk_mul 8 u9) ?_
    refine lv_iconst (v := 2) hx hb dX9_pay_16 (by decide) ?_
    refine lv_iload_n hx hb dX9_pay_17 rfl (lv_at hl 0 rfl) ?_
    refine lv_imul hx hb dX9_pay_18 ?_
    refine tp_i (y := 2) (by decide) ?_
    refine lv_iadd hx hb dX9_pay_19 ?_
    refine tp_i (y := nI ((8 * u9) + 2)) (nI_add (8 * u9) 2) ?_
    refine va_iald (f := fv 7) (n := 320) hx hb hK hP 5 4 rfl rfl (vp_in_nI (n := (8 * u9) + 2) (by omega) (by omega)) dX9_pay_20 ?_
    refine lv_topi (fun z_6 hz_7 => ?_)
    rw [nI_clamp (n := (8 * u9) + 2) (by omega)] at hz_7
    obtain rfl : z_6 = fv 7 ((8 * u9) + 2) := hz_7
    refine lv_icmp_gt (tgt := 59) hx hb dX9_pay_21 (by decide) (fun c_8 => ?_) (fun c_8 => ?_)
    · refine lv_iinc (v := 2) (lv' := [(3, .int 2), (0, .ref h0), (1, .int (nI u9)), (2, .int a2)]) hx hb dX9_pay_59 hl (k := 0) rfl (by decide) (by decide) rfl (fun ls hl => ?_)
      refine lv_goto (tgt := 2) hx hb dX9_pay_62 (by decide) ?_
      refine lv_iload_n hx hb dX9_pay_2 rfl (lv_at hl 0 rfl) ?_
      refine lv_iconst (v := 4) hx hb dX9_pay_3 (by decide) ?_
      refine lv_icmp_ge (tgt := 65) hx hb dX9_pay_4 (by decide) (fun c_9 => absurd c_9 (by decide)) (fun c_9 => ?_)
      refine lv_iload_n hx hb dX9_pay_7 rfl (lv_at hl 3 rfl) ?_
      refine lv_aload_n hx hb dX9_pay_8 rfl (lv_at hl 1 rfl) ?_
      refine va_get (D := D) (ci := 9) (v := .ref (ad 7)) (C := RX9) (T := TX9) (N := 44) hx hb hts hin9 hown hK hP 0 rfl rfl 7 (by decide) (hts (.fieldLink RX9 32 "HoneyHouseModel" "lotSteps" "[I") (List.mem_of_getElem? (i := 1) rfl)) (fun _ h9 => h9) rfl dX9_pay_9 ?_
      refine lv_bipush (v := 8) hx hb dX9_pay_12 (by decide) ?_
      refine lv_iload_n hx hb dX9_pay_14 rfl (lv_at hl 2 rfl) ?_
      refine lv_imul hx hb dX9_pay_15 ?_
      refine tp_i (y := nI (8 * u9)) (pk_mul 8 u9) ?_
      refine lv_iconst (v := 2) hx hb dX9_pay_16 (by decide) ?_
      refine lv_iload_n hx hb dX9_pay_17 rfl (lv_at hl 0 rfl) ?_
      refine lv_imul hx hb dX9_pay_18 ?_
      refine tp_i (y := 4) (by decide) ?_
      refine lv_iadd hx hb dX9_pay_19 ?_
      refine tp_i (y := nI ((8 * u9) + 4)) (nI_add (8 * u9) 4) ?_
      refine va_iald (f := fv 7) (n := 320) hx hb hK hP 5 4 rfl rfl (vp_in_nI (n := (8 * u9) + 4) (by omega) (by omega)) dX9_pay_20 ?_
      refine lv_topi (fun z_10 hz_11 => ?_)
      rw [nI_clamp (n := (8 * u9) + 4) (by omega)] at hz_11
      obtain rfl : z_10 = fv 7 ((8 * u9) + 4) := hz_11
      refine lv_icmp_gt (tgt := 59) hx hb dX9_pay_21 (by decide) (fun c_12 => ?_) (fun c_12 => ?_)
      · refine lv_iinc (v := 3) (lv' := [(3, .int 3), (0, .ref h0), (1, .int (nI u9)), (2, .int a2)]) hx hb dX9_pay_59 hl (k := 0) rfl (by decide) (by decide) rfl (fun ls hl => ?_)
        refine lv_goto (tgt := 2) hx hb dX9_pay_62 (by decide) ?_
        refine lv_iload_n hx hb dX9_pay_2 rfl (lv_at hl 0 rfl) ?_
        refine lv_iconst (v := 4) hx hb dX9_pay_3 (by decide) ?_
        refine lv_icmp_ge (tgt := 65) hx hb dX9_pay_4 (by decide) (fun c_13 => absurd c_13 (by decide)) (fun c_13 => ?_)
        refine lv_iload_n hx hb dX9_pay_7 rfl (lv_at hl 3 rfl) ?_
        refine lv_aload_n hx hb dX9_pay_8 rfl (lv_at hl 1 rfl) ?_
        refine va_get (D := D) (ci := 9) (v := .ref (ad 7)) (C := RX9) (T := TX9) (N := 44) hx hb hts hin9 hown hK hP 0 rfl rfl 7 (by decide) (hts (.fieldLink RX9 32 "HoneyHouseModel" "lotSteps" "[I") (List.mem_of_getElem? (i := 1) rfl)) (fun _ h9 => h9) rfl dX9_pay_9 ?_
        refine lv_bipush (v := 8) hx hb dX9_pay_12 (by decide) ?_
        refine lv_iload_n hx hb dX9_pay_14 rfl (lv_at hl 2 rfl) ?_
        refine lv_imul hx hb dX9_pay_15 ?_
        refine tp_i (y := nI (8 * u9)) (pk_mul 8 u9) ?_
        refine lv_iconst (v := 2) hx hb dX9_pay_16 (by decide) ?_
        refine lv_iload_n hx hb dX9_pay_17 rfl (lv_at hl 0 rfl) ?_
        refine lv_imul hx hb dX9_pay_18 ?_
        refine tp_i (y := 6) (by decide) ?_
        refine lv_iadd hx hb dX9_pay_19 ?_
        refine tp_i (y := nI ((8 * u9) + 6)) (nI_add (8 * u9) 6) ?_
        refine va_iald (f := fv 7) (n := 320) hx hb hK hP 5 4 rfl rfl (vp_in_nI (n := (8 * u9) + 6) (by omega) (by omega)) dX9_pay_20 ?_
        refine lv_topi (fun z_14 hz_15 => ?_)
        rw [nI_clamp (n := (8 * u9) + 6) (by omega)] at hz_15
        obtain rfl : z_14 = fv 7 ((8 * u9) + 6) := hz_15
        refine lv_icmp_gt (tgt := 59) hx hb dX9_pay_21 (by decide) (fun c_16 => ?_) (fun c_16 => ?_)
        · refine lv_iinc (v := 4) (lv' := [(3, .int 4), (0, .ref h0), (1, .int (nI u9)), (2, .int a2)]) hx hb dX9_pay_59 hl (k := 0) rfl (by decide) (by decide) rfl (fun ls hl => ?_)
          refine lv_goto (tgt := 2) hx hb dX9_pay_62 (by decide) ?_
          refine lv_iload_n hx hb dX9_pay_2 rfl (lv_at hl 0 rfl) ?_
          refine lv_iconst (v := 4) hx hb dX9_pay_3 (by decide) ?_
          refine lv_icmp_ge (tgt := 65) hx hb dX9_pay_4 (by decide) (fun c_17 => ?_) (fun c_17 => absurd (by decide) c_17)
          refine lv_iconst (v := 0) hx hb dX9_pay_65 (by decide) ?_
          exact W.iret (v := 0) hx hb hr (fun t ht hW => ⟨0, rfl, (payG_4 c_4 c_8 c_12 c_16 (congrArg (fv 7) (by omega)) (congrArg (fv 7) (by omega)) (congrArg (fv 7) (by omega)) (congrArg (fv 7) (by omega))), ht⟩) (fun _ h9 => by cases h9) dX9_pay_66
        refine lv_aload_n hx hb dX9_pay_24 rfl (lv_at hl 1 rfl) ?_
        refine va_get (D := D) (ci := 9) (v := .ref (ad 4)) (C := RX9) (T := TX9) (N := 44) hx hb hts hin9 hown hK hP 0 rfl rfl 4 (by decide) (hts (.fieldLink RX9 23 "HoneyHouseModel" "lot" "[I") (List.mem_of_getElem? (i := 2) rfl)) (fun _ h9 => h9) rfl dX9_pay_25 ?_
        refine lv_bipush (v := 7) hx hb dX9_pay_28 (by decide) ?_
        refine lv_iload_n hx hb dX9_pay_30 rfl (lv_at hl 2 rfl) ?_
        refine lv_imul hx hb dX9_pay_31 ?_
        refine tp_i (y := nI (7 * u9)) (pk_mul 7 u9) ?_
        refine lv_iconst (v := 1) hx hb dX9_pay_32 (by decide) ?_
        refine lv_iadd hx hb dX9_pay_33 ?_
        refine tp_i (y := nI ((7 * u9) + 1)) (nI_add (7 * u9) 1) ?_
        refine va_iald (f := fv 4) (n := 280) hx hb hK hP 2 1 rfl rfl (vp_in_nI (n := (7 * u9) + 1) (by omega) (by omega)) dX9_pay_34 ?_
        refine lv_topi (fun z_18 hz_19 => ?_)
        rw [nI_clamp (n := (7 * u9) + 1) (by omega)] at hz_19
        obtain rfl : z_18 = fv 4 ((7 * u9) + 1) := hz_19
        refine lv_i2l hx hb dX9_pay_35 rfl ?_
        refine lv_aload_n hx hb dX9_pay_36 rfl (lv_at hl 1 rfl) ?_
        refine va_get (D := D) (ci := 9) (v := .ref (ad 7)) (C := RX9) (T := TX9) (N := 44) hx hb hts hin9 hown hK hP 0 rfl rfl 7 (by decide) (hts (.fieldLink RX9 32 "HoneyHouseModel" "lotSteps" "[I") (List.mem_of_getElem? (i := 1) rfl)) (fun _ h9 => h9) rfl dX9_pay_37 ?_
        refine lv_bipush (v := 8) hx hb dX9_pay_40 (by decide) ?_
        refine lv_iload_n hx hb dX9_pay_42 rfl (lv_at hl 2 rfl) ?_
        refine lv_imul hx hb dX9_pay_43 ?_
        refine tp_i (y := nI (8 * u9)) (pk_mul 8 u9) ?_
        refine lv_iconst (v := 2) hx hb dX9_pay_44 (by decide) ?_
        refine lv_iload_n hx hb dX9_pay_45 rfl (lv_at hl 0 rfl) ?_
        refine lv_imul hx hb dX9_pay_46 ?_
        refine tp_i (y := 6) (by decide) ?_
        refine lv_iadd hx hb dX9_pay_47 ?_
        refine tp_i (y := nI ((8 * u9) + 6)) (nI_add (8 * u9) 6) ?_
        refine lv_iconst (v := 1) hx hb dX9_pay_48 (by decide) ?_
        refine lv_iadd hx hb dX9_pay_49 ?_
        refine tp_i (y := nI (((8 * u9) + 6) + 1)) (nI_add ((8 * u9) + 6) 1) ?_
        refine va_iald (f := fv 7) (n := 320) hx hb hK hP 5 4 rfl rfl (vp_in_nI (n := ((8 * u9) + 6) + 1) (by omega) (by omega)) dX9_pay_50 ?_
        refine lv_topi (fun z_20 hz_21 => ?_)
        rw [nI_clamp (n := ((8 * u9) + 6) + 1) (by omega)] at hz_21
        obtain rfl : z_20 = fv 7 (((8 * u9) + 6) + 1) := hz_21
        refine lv_i2l hx hb dX9_pay_51 rfl ?_
        refine lv_lmul hx hb dX9_pay_52 ?_
        refine lv_ldc2 hx hb hown (hts (.constantLong RX9 149 (1000)) (List.mem_of_getElem? (i := 3) rfl)) dX9_pay_53 ?_
        refine lv_ldiv hx hb dX9_pay_56 (by decide) ?_
        refine lv_l2i hx hb dX9_pay_57 rfl ?_
        exact W.iret (v := ((((fv 4 ((7 * u9) + 1)).toInt64) * ((fv 7 (((8 * u9) + 6) + 1)).toInt64)) / 1000).toInt32) hx hb hr (fun t ht hW => ⟨((((fv 4 ((7 * u9) + 1)).toInt64) * ((fv 7 (((8 * u9) + 6) + 1)).toInt64)) / 1000).toInt32, rfl, (payG_3 c_4 c_8 c_12 c_16 (congrArg (fv 7) (by omega)) (congrArg (fv 7) (by omega)) (congrArg (fv 7) (by omega)) (congrArg (fv 7) (by omega)) (congrArg (fv 7) (by omega))), ht⟩) (fun _ h9 => by cases h9) dX9_pay_58
      refine lv_aload_n hx hb dX9_pay_24 rfl (lv_at hl 1 rfl) ?_
      refine va_get (D := D) (ci := 9) (v := .ref (ad 4)) (C := RX9) (T := TX9) (N := 44) hx hb hts hin9 hown hK hP 0 rfl rfl 4 (by decide) (hts (.fieldLink RX9 23 "HoneyHouseModel" "lot" "[I") (List.mem_of_getElem? (i := 2) rfl)) (fun _ h9 => h9) rfl dX9_pay_25 ?_
      refine lv_bipush (v := 7) hx hb dX9_pay_28 (by decide) ?_
      refine lv_iload_n hx hb dX9_pay_30 rfl (lv_at hl 2 rfl) ?_
      refine lv_imul hx hb dX9_pay_31 ?_
      refine tp_i (y := nI (7 * u9)) (pk_mul 7 u9) ?_
      refine lv_iconst (v := 1) hx hb dX9_pay_32 (by decide) ?_
      refine lv_iadd hx hb dX9_pay_33 ?_
      refine tp_i (y := nI ((7 * u9) + 1)) (nI_add (7 * u9) 1) ?_
      refine va_iald (f := fv 4) (n := 280) hx hb hK hP 2 1 rfl rfl (vp_in_nI (n := (7 * u9) + 1) (by omega) (by omega)) dX9_pay_34 ?_
      refine lv_topi (fun z_22 hz_23 => ?_)
      rw [nI_clamp (n := (7 * u9) + 1) (by omega)] at hz_23
      obtain rfl : z_22 = fv 4 ((7 * u9) + 1) := hz_23
      refine lv_i2l hx hb dX9_pay_35 rfl ?_
      refine lv_aload_n hx hb dX9_pay_36 rfl (lv_at hl 1 rfl) ?_
      refine va_get (D := D) (ci := 9) (v := .ref (ad 7)) (C := RX9) (T := TX9) (N := 44) hx hb hts hin9 hown hK hP 0 rfl rfl 7 (by decide) (hts (.fieldLink RX9 32 "HoneyHouseModel" "lotSteps" "[I") (List.mem_of_getElem? (i := 1) rfl)) (fun _ h9 => h9) rfl dX9_pay_37 ?_
      refine lv_bipush (v := 8) hx hb dX9_pay_40 (by decide) ?_
      refine lv_iload_n hx hb dX9_pay_42 rfl (lv_at hl 2 rfl) ?_
      refine lv_imul hx hb dX9_pay_43 ?_
      refine tp_i (y := nI (8 * u9)) (pk_mul 8 u9) ?_
      refine lv_iconst (v := 2) hx hb dX9_pay_44 (by decide) ?_
      refine lv_iload_n hx hb dX9_pay_45 rfl (lv_at hl 0 rfl) ?_
      refine lv_imul hx hb dX9_pay_46 ?_
      refine tp_i (y := 4) (by decide) ?_
      refine lv_iadd hx hb dX9_pay_47 ?_
      refine tp_i (y := nI ((8 * u9) + 4)) (nI_add (8 * u9) 4) ?_
      refine lv_iconst (v := 1) hx hb dX9_pay_48 (by decide) ?_
      refine lv_iadd hx hb dX9_pay_49 ?_
      refine tp_i (y := nI (((8 * u9) + 4) + 1)) (nI_add ((8 * u9) + 4) 1) ?_
      refine va_iald (f := fv 7) (n := 320) hx hb hK hP 5 4 rfl rfl (vp_in_nI (n := ((8 * u9) + 4) + 1) (by omega) (by omega)) dX9_pay_50 ?_
      refine lv_topi (fun z_24 hz_25 => ?_)
      rw [nI_clamp (n := ((8 * u9) + 4) + 1) (by omega)] at hz_25
      obtain rfl : z_24 = fv 7 (((8 * u9) + 4) + 1) := hz_25
      refine lv_i2l hx hb dX9_pay_51 rfl ?_
      refine lv_lmul hx hb dX9_pay_52 ?_
      refine lv_ldc2 hx hb hown (hts (.constantLong RX9 149 (1000)) (List.mem_of_getElem? (i := 3) rfl)) dX9_pay_53 ?_
      refine lv_ldiv hx hb dX9_pay_56 (by decide) ?_
      refine lv_l2i hx hb dX9_pay_57 rfl ?_
      exact W.iret (v := ((((fv 4 ((7 * u9) + 1)).toInt64) * ((fv 7 (((8 * u9) + 4) + 1)).toInt64)) / 1000).toInt32) hx hb hr (fun t ht hW => ⟨((((fv 4 ((7 * u9) + 1)).toInt64) * ((fv 7 (((8 * u9) + 4) + 1)).toInt64)) / 1000).toInt32, rfl, (payG_2 c_4 c_8 c_12 (congrArg (fv 7) (by omega)) (congrArg (fv 7) (by omega)) (congrArg (fv 7) (by omega)) (congrArg (fv 7) (by omega))), ht⟩) (fun _ h9 => by cases h9) dX9_pay_58
    refine lv_aload_n hx hb dX9_pay_24 rfl (lv_at hl 1 rfl) ?_
    refine va_get (D := D) (ci := 9) (v := .ref (ad 4)) (C := RX9) (T := TX9) (N := 44) hx hb hts hin9 hown hK hP 0 rfl rfl 4 (by decide) (hts (.fieldLink RX9 23 "HoneyHouseModel" "lot" "[I") (List.mem_of_getElem? (i := 2) rfl)) (fun _ h9 => h9) rfl dX9_pay_25 ?_
    refine lv_bipush (v := 7) hx hb dX9_pay_28 (by decide) ?_
    refine lv_iload_n hx hb dX9_pay_30 rfl (lv_at hl 2 rfl) ?_
    refine lv_imul hx hb dX9_pay_31 ?_
    refine tp_i (y := nI (7 * u9)) (pk_mul 7 u9) ?_
    refine lv_iconst (v := 1) hx hb dX9_pay_32 (by decide) ?_
    refine lv_iadd hx hb dX9_pay_33 ?_
    refine tp_i (y := nI ((7 * u9) + 1)) (nI_add (7 * u9) 1) ?_
    refine va_iald (f := fv 4) (n := 280) hx hb hK hP 2 1 rfl rfl (vp_in_nI (n := (7 * u9) + 1) (by omega) (by omega)) dX9_pay_34 ?_
    refine lv_topi (fun z_26 hz_27 => ?_)
    rw [nI_clamp (n := (7 * u9) + 1) (by omega)] at hz_27
    obtain rfl : z_26 = fv 4 ((7 * u9) + 1) := hz_27
    refine lv_i2l hx hb dX9_pay_35 rfl ?_
    refine lv_aload_n hx hb dX9_pay_36 rfl (lv_at hl 1 rfl) ?_
    refine va_get (D := D) (ci := 9) (v := .ref (ad 7)) (C := RX9) (T := TX9) (N := 44) hx hb hts hin9 hown hK hP 0 rfl rfl 7 (by decide) (hts (.fieldLink RX9 32 "HoneyHouseModel" "lotSteps" "[I") (List.mem_of_getElem? (i := 1) rfl)) (fun _ h9 => h9) rfl dX9_pay_37 ?_
    refine lv_bipush (v := 8) hx hb dX9_pay_40 (by decide) ?_
    refine lv_iload_n hx hb dX9_pay_42 rfl (lv_at hl 2 rfl) ?_
    refine lv_imul hx hb dX9_pay_43 ?_
    refine tp_i (y := nI (8 * u9)) (pk_mul 8 u9) ?_
    refine lv_iconst (v := 2) hx hb dX9_pay_44 (by decide) ?_
    refine lv_iload_n hx hb dX9_pay_45 rfl (lv_at hl 0 rfl) ?_
    refine lv_imul hx hb dX9_pay_46 ?_
    refine tp_i (y := 2) (by decide) ?_
    refine lv_iadd hx hb dX9_pay_47 ?_
    refine tp_i (y := nI ((8 * u9) + 2)) (nI_add (8 * u9) 2) ?_
    refine lv_iconst (v := 1) hx hb dX9_pay_48 (by decide) ?_
    refine lv_iadd hx hb dX9_pay_49 ?_
    refine tp_i (y := nI (((8 * u9) + 2) + 1)) (nI_add ((8 * u9) + 2) 1) ?_
    refine va_iald (f := fv 7) (n := 320) hx hb hK hP 5 4 rfl rfl (vp_in_nI (n := ((8 * u9) + 2) + 1) (by omega) (by omega)) dX9_pay_50 ?_
    refine lv_topi (fun z_28 hz_29 => ?_)
    rw [nI_clamp (n := ((8 * u9) + 2) + 1) (by omega)] at hz_29
    obtain rfl : z_28 = fv 7 (((8 * u9) + 2) + 1) := hz_29
    refine lv_i2l hx hb dX9_pay_51 rfl ?_
    refine lv_lmul hx hb dX9_pay_52 ?_
    refine lv_ldc2 hx hb hown (hts (.constantLong RX9 149 (1000)) (List.mem_of_getElem? (i := 3) rfl)) dX9_pay_53 ?_
    refine lv_ldiv hx hb dX9_pay_56 (by decide) ?_
    refine lv_l2i hx hb dX9_pay_57 rfl ?_
    exact W.iret (v := ((((fv 4 ((7 * u9) + 1)).toInt64) * ((fv 7 (((8 * u9) + 2) + 1)).toInt64)) / 1000).toInt32) hx hb hr (fun t ht hW => ⟨((((fv 4 ((7 * u9) + 1)).toInt64) * ((fv 7 (((8 * u9) + 2) + 1)).toInt64)) / 1000).toInt32, rfl, (payG_1 c_4 c_8 (congrArg (fv 7) (by omega)) (congrArg (fv 7) (by omega)) (congrArg (fv 7) (by omega))), ht⟩) (fun _ h9 => by cases h9) dX9_pay_58
  refine lv_aload_n hx hb dX9_pay_24 rfl (lv_at hl 1 rfl) ?_
  refine va_get (D := D) (ci := 9) (v := .ref (ad 4)) (C := RX9) (T := TX9) (N := 44) hx hb hts hin9 hown hK hP 0 rfl rfl 4 (by decide) (hts (.fieldLink RX9 23 "HoneyHouseModel" "lot" "[I") (List.mem_of_getElem? (i := 2) rfl)) (fun _ h9 => h9) rfl dX9_pay_25 ?_
  refine lv_bipush (v := 7) hx hb dX9_pay_28 (by decide) ?_
  refine lv_iload_n hx hb dX9_pay_30 rfl (lv_at hl 2 rfl) ?_
  refine lv_imul hx hb dX9_pay_31 ?_
  refine tp_i (y := nI (7 * u9)) (pk_mul 7 u9) ?_
  refine lv_iconst (v := 1) hx hb dX9_pay_32 (by decide) ?_
  refine lv_iadd hx hb dX9_pay_33 ?_
  refine tp_i (y := nI ((7 * u9) + 1)) (nI_add (7 * u9) 1) ?_
  refine va_iald (f := fv 4) (n := 280) hx hb hK hP 2 1 rfl rfl (vp_in_nI (n := (7 * u9) + 1) (by omega) (by omega)) dX9_pay_34 ?_
  refine lv_topi (fun z_30 hz_31 => ?_)
  rw [nI_clamp (n := (7 * u9) + 1) (by omega)] at hz_31
  obtain rfl : z_30 = fv 4 ((7 * u9) + 1) := hz_31
  refine lv_i2l hx hb dX9_pay_35 rfl ?_
  refine lv_aload_n hx hb dX9_pay_36 rfl (lv_at hl 1 rfl) ?_
  refine va_get (D := D) (ci := 9) (v := .ref (ad 7)) (C := RX9) (T := TX9) (N := 44) hx hb hts hin9 hown hK hP 0 rfl rfl 7 (by decide) (hts (.fieldLink RX9 32 "HoneyHouseModel" "lotSteps" "[I") (List.mem_of_getElem? (i := 1) rfl)) (fun _ h9 => h9) rfl dX9_pay_37 ?_
  refine lv_bipush (v := 8) hx hb dX9_pay_40 (by decide) ?_
  refine lv_iload_n hx hb dX9_pay_42 rfl (lv_at hl 2 rfl) ?_
  refine lv_imul hx hb dX9_pay_43 ?_
  refine tp_i (y := nI (8 * u9)) (pk_mul 8 u9) ?_
  refine lv_iconst (v := 2) hx hb dX9_pay_44 (by decide) ?_
  refine lv_iload_n hx hb dX9_pay_45 rfl (lv_at hl 0 rfl) ?_
  refine lv_imul hx hb dX9_pay_46 ?_
  refine tp_i (y := 0) (by decide) ?_
  refine lv_iadd hx hb dX9_pay_47 ?_
  refine tp_i (y := nI ((8 * u9) + 0)) (nI_add (8 * u9) 0) ?_
  refine lv_iconst (v := 1) hx hb dX9_pay_48 (by decide) ?_
  refine lv_iadd hx hb dX9_pay_49 ?_
  refine tp_i (y := nI (((8 * u9) + 0) + 1)) (nI_add ((8 * u9) + 0) 1) ?_
  refine va_iald (f := fv 7) (n := 320) hx hb hK hP 5 4 rfl rfl (vp_in_nI (n := ((8 * u9) + 0) + 1) (by omega) (by omega)) dX9_pay_50 ?_
  refine lv_topi (fun z_32 hz_33 => ?_)
  rw [nI_clamp (n := ((8 * u9) + 0) + 1) (by omega)] at hz_33
  obtain rfl : z_32 = fv 7 (((8 * u9) + 0) + 1) := hz_33
  refine lv_i2l hx hb dX9_pay_51 rfl ?_
  refine lv_lmul hx hb dX9_pay_52 ?_
  refine lv_ldc2 hx hb hown (hts (.constantLong RX9 149 (1000)) (List.mem_of_getElem? (i := 3) rfl)) dX9_pay_53 ?_
  refine lv_ldiv hx hb dX9_pay_56 (by decide) ?_
  refine lv_l2i hx hb dX9_pay_57 rfl ?_
  exact W.iret (v := ((((fv 4 ((7 * u9) + 1)).toInt64) * ((fv 7 (((8 * u9) + 0) + 1)).toInt64)) / 1000).toInt32) hx hb hr (fun t ht hW => ⟨((((fv 4 ((7 * u9) + 1)).toInt64) * ((fv 7 (((8 * u9) + 0) + 1)).toInt64)) / 1000).toInt32, rfl, (payG_0 c_4 (congrArg (fv 7) (by omega)) (congrArg (fv 7) (by omega))), ht⟩) (fun _ h9 => by cases h9) dX9_pay_58
theorem lot_in {j n : Nat} (h : j < n) (hn : n ≤ 40) : ¬ (nI j < 0 ∨ nI n ≤ nI j) := fun q => q.elim (nI_pos (by omega)) (fun q => by have := n_le (by omega) (by omega) q; omega)
set_option maxHeartbeats 4000000 in
set_option maxRecDepth 100000 in
theorem m_span (l : Launch) (D : va_G) (h0 : Nat) (ad : Nat → Nat) (cs : Nat → ClassId) (iv : Nat → Int32) (fv : Nat → Nat → Int32) (gv : Nat → Int64) (n3 : Nat) (a1 a2 a3 : Int32) (h3 : iv 3 = nI n3) (b3 : n3 ≤ 40) : Met l yX9_span wsX9_span ({ frames := 1, cells := 0, slots := 0, locals := 22 }) (va_Pc [.ref h0, .int a1, .int a2, .int a3] (fun U => va_P D vwCl (mw h0 ad cs iv fv gv) U.heap ∧ va_K D vwCl (mT cs) U)) (vp_Si (fun r => (spnN n3 a1 a2 a3 ∧ r = (-1)) ∨ (¬ spnN n3 a1 a2 a3 ∧ r = if a3 = 0 then fv 5 (5 * a1.toNatClampNeg + a2.toNatClampNeg) else fv 6 (5 * a1.toNatClampNeg + a2.toNatClampNeg)))) 0 0 (fun _ => False) := by
  refine Met.ofW (cc := cX9_span) (maxL := 4) (ret := (some .int)) (by decide) rfl ?_
  intro p e s m args below meth c s₁ B hml hv
  obtain ⟨rfl, hP, hK⟩ := hv
  have hx := B.exec
  have hb := B.bytes
  have hr := B.returns
  have hts := atoms_spec (ws := wsX9_span) B.pre
  have hown : s.vm.findClass RX9 = some m.cls := findClass_of_methodNamed B.named
  have hlocks := B.notSynchronized
  have hin9 : ∀ w ∈ u_ws RX9 TX9 44, w ∈ wsX9_span := (fun _ h9 => List.mem_cons_of_mem _ ((List.mem_append_right _ h9)))
  have hl := lv_entry ([.ref h0, .int a1, .int a2, .int a3]) (n := 4) (Nat.le_of_ble_eq_true rfl)
  rw [lg_entry_eq]
  generalize (lg_sl ([.ref h0, .int a1, .int a2, .int a3]) ++ List.replicate (4 - (lg_sl ([.ref h0, .int a1, .int a2, .int a3])).length) Slot.unset).toArray = ls at hl ⊢
  have hl : lv_has ls 4 [(0, .ref h0), (1, .int a1), (2, .int a2), (3, .int a3)] := hl
  refine lv_aload_n hx hb dX9_span_0 rfl (lv_at hl 0 rfl) ?_
  refine lv_iload_n hx hb dX9_span_1 rfl (lv_at hl 1 rfl) ?_
  refine vp_callSi (W.runV (As := [.int a1]) (rest := []) ⟨hx, hb, hml, hown, hts⟩ (m_isLot l D h0 ad cs iv fv gv n3 a1 h3 (by omega)) (cwV 1 hts gX9_span_X9_isLot rfl rfl rfl (by decide +kernel) ⟨Nat.le_of_ble_eq_true rfl, Nat.le_of_ble_eq_true rfl⟩) ⟨fun a U g mk q => ⟨q.1, q.2.1, va_K.moved (u := U) (U := U.calling g mk a) (Vm.Alike.refl U.vm) q.2.2⟩, va_recv hK hP (ci := 9) (q0 := 0) rfl rfl, fun U hU hW => ⟨rfl, by rw [hU]; exact hP, va_K.moved hW.alike hK⟩⟩ rfl rfl hl.1 rfl (lv_room (Nat.le_of_ble_eq_true rfl)) dX9_span_2 ⟨Nat.le_of_ble_eq_true rfl, Nat.le_of_ble_eq_true rfl⟩) (fun r_1 k_2 => ?_)
  rcases k_2 with ⟨rfl, o_5⟩ | ⟨rfl, j_3, hj_4, rfl⟩
  · refine lv_if_eq (tgt := 26) hx hb dX9_span_5 (by decide) (fun c_6 => ?_) (fun c_6 => absurd (by decide) c_6)
    refine lv_iconst (v := (-1)) hx hb dX9_span_26 (by decide) ?_
    refine lv_goto (tgt := 57) hx hb dX9_span_27 (by decide) ?_
    exact W.iret (v := (-1)) hx hb hr (fun t ht hW => ⟨(-1), rfl, Or.inl ⟨Or.inl o_5, rfl⟩, ht⟩) (fun _ h9 => by cases h9) dX9_span_57
  refine lv_if_eq (tgt := 26) hx hb dX9_span_5 (by decide) (fun c_7 => absurd c_7 (by decide)) (fun c_7 => ?_)
  refine lv_iload_n hx hb dX9_span_8 rfl (lv_at hl 2 rfl) ?_
  refine lv_iconst (v := 0) hx hb dX9_span_9 (by decide) ?_
  refine lv_iconst (v := 4) hx hb dX9_span_10 (by decide) ?_
  refine vp_callSi (W.runS (As := [.int a2, .int 0, .int 4]) (rest := []) ⟨hx, hb, hml, hown, hts⟩ (s_X9_is l a2 0 4) (va_cwS 3 hts gX9_span_X9_is rfl rfl rfl (by decide +kernel) ⟨Nat.le_of_ble_eq_true rfl, Nat.le_of_ble_eq_true rfl⟩) ⟨fun a U g mk q => q, fun U hU hW => ⟨rfl, trivial⟩⟩ rfl rfl hl.1 rfl (lv_room (Nat.le_of_ble_eq_true rfl)) dX9_span_11 ⟨Nat.le_of_ble_eq_true rfl, Nat.le_of_ble_eq_true rfl⟩) (fun r_8 k_9 => ?_)
  rcases k_9 with ⟨rfl, o_10⟩ | ⟨rfl, a_11, b_12⟩
  · refine lv_if_eq (tgt := 26) hx hb dX9_span_14 (by decide) (fun c_13 => ?_) (fun c_13 => absurd (by decide) c_13)
    refine lv_iconst (v := (-1)) hx hb dX9_span_26 (by decide) ?_
    refine lv_goto (tgt := 57) hx hb dX9_span_27 (by decide) ?_
    exact W.iret (v := (-1)) hx hb hr (fun t ht hW => ⟨(-1), rfl, Or.inl ⟨Or.inr (Or.inl o_10), rfl⟩, ht⟩) (fun _ h9 => by cases h9) dX9_span_57
  obtain ⟨j_14, hj_15, hj_16, rfl⟩ := is_nat (a := 0) (b := 4) a_11 b_12 (by omega)
  refine lv_if_eq (tgt := 26) hx hb dX9_span_14 (by decide) (fun c_17 => absurd c_17 (by decide)) (fun c_17 => ?_)
  refine lv_iload_n hx hb dX9_span_17 rfl (lv_at hl 3 rfl) ?_
  refine lv_iconst (v := 0) hx hb dX9_span_18 (by decide) ?_
  refine lv_iconst (v := 1) hx hb dX9_span_19 (by decide) ?_
  refine vp_callSi (W.runS (As := [.int a3, .int 0, .int 1]) (rest := []) ⟨hx, hb, hml, hown, hts⟩ (s_X9_is l a3 0 1) (va_cwS 3 hts gX9_span_X9_is rfl rfl rfl (by decide +kernel) ⟨Nat.le_of_ble_eq_true rfl, Nat.le_of_ble_eq_true rfl⟩) ⟨fun a U g mk q => q, fun U hU hW => ⟨rfl, trivial⟩⟩ rfl rfl hl.1 rfl (lv_room (Nat.le_of_ble_eq_true rfl)) dX9_span_20 ⟨Nat.le_of_ble_eq_true rfl, Nat.le_of_ble_eq_true rfl⟩) (fun r_18 k_19 => ?_)
  rcases k_19 with ⟨rfl, o_20⟩ | ⟨rfl, a_21, b_22⟩
  · refine lv_if_ne (tgt := 30) hx hb dX9_span_23 (by decide) (fun c_23 => absurd (by decide) c_23) (fun c_23 => ?_)
    refine lv_iconst (v := (-1)) hx hb dX9_span_26 (by decide) ?_
    refine lv_goto (tgt := 57) hx hb dX9_span_27 (by decide) ?_
    exact W.iret (v := (-1)) hx hb hr (fun t ht hW => ⟨(-1), rfl, Or.inl ⟨Or.inr (Or.inr (o_20)), rfl⟩, ht⟩) (fun _ h9 => by cases h9) dX9_span_57
  obtain ⟨j_24, hj_25, hj_26, rfl⟩ := is_nat (a := 0) (b := 1) a_21 b_22 (by omega)
  refine lv_if_ne (tgt := 30) hx hb dX9_span_23 (by decide) (fun c_27 => ?_) (fun c_27 => absurd c_27 (by decide))
  refine lv_iload_n hx hb dX9_span_30 rfl (lv_at hl 3 rfl) ?_
  refine lv_if_ne (tgt := 47) hx hb dX9_span_31 (by decide) (fun c_28 => ?_) (fun c_28 => ?_)
  · have d_29 := n_ne (a := j_24) (b := 0) (by omega) (by omega) c_28
    refine lv_aload_n hx hb dX9_span_47 rfl (lv_at hl 0 rfl) ?_
    refine va_get (D := D) (ci := 9) (v := .ref (ad 6)) (C := RX9) (T := TX9) (N := 44) hx hb hts hin9 hown hK hP 0 rfl rfl 6 (by decide) (hts (.fieldLink RX9 29 "HoneyHouseModel" "high" "[I") (List.mem_of_getElem? (i := 2) rfl)) (fun _ h9 => h9) rfl dX9_span_48 ?_
    refine lv_iconst (v := 5) hx hb dX9_span_51 (by decide) ?_
    refine lv_iload_n hx hb dX9_span_52 rfl (lv_at hl 1 rfl) ?_
    refine lv_imul hx hb dX9_span_53 ?_
    refine tp_i (y := nI (5 * j_3)) (pk_mul 5 j_3) ?_
    refine lv_iload_n hx hb dX9_span_54 rfl (lv_at hl 2 rfl) ?_
    refine lv_iadd hx hb dX9_span_55 ?_
    refine tp_i (y := nI ((5 * j_3) + j_14)) (nI_add (5 * j_3) j_14) ?_
    refine va_iald (f := fv 6) (n := 200) hx hb hK hP 4 3 rfl rfl (vp_in_nI (n := (5 * j_3) + j_14) (by omega) (by omega)) dX9_span_56 ?_
    refine lv_topi (fun z_30 hz_31 => ?_)
    rw [nI_clamp (n := (5 * j_3) + j_14) (by omega)] at hz_31
    obtain rfl : z_30 = fv 6 ((5 * j_3) + j_14) := hz_31
    exact W.iret (v := fv 6 ((5 * j_3) + j_14)) hx hb hr (fun t ht hW => ⟨fv 6 ((5 * j_3) + j_14), rfl, Or.inr ⟨fun h9 => h9.elim (lot_in hj_4 (by omega)) (fun h => Or.elim h (fun h => Or.elim h a_11 b_12) (fun h => Or.elim h a_21 b_22)), by rw [nI_clamp (n := j_3) (by omega), nI_clamp (n := j_14) (by omega), if_neg c_28]⟩, ht⟩) (fun _ h9 => by cases h9) dX9_span_57
  have d_32 := n_eq (a := j_24) (b := 0) (by omega) (by omega) c_28
  refine lv_aload_n hx hb dX9_span_34 rfl (lv_at hl 0 rfl) ?_
  refine va_get (D := D) (ci := 9) (v := .ref (ad 5)) (C := RX9) (T := TX9) (N := 44) hx hb hts hin9 hown hK hP 0 rfl rfl 5 (by decide) (hts (.fieldLink RX9 26 "HoneyHouseModel" "low" "[I") (List.mem_of_getElem? (i := 1) rfl)) (fun _ h9 => h9) rfl dX9_span_35 ?_
  refine lv_iconst (v := 5) hx hb dX9_span_38 (by decide) ?_
  refine lv_iload_n hx hb dX9_span_39 rfl (lv_at hl 1 rfl) ?_
  refine lv_imul hx hb dX9_span_40 ?_
  refine tp_i (y := nI (5 * j_3)) (pk_mul 5 j_3) ?_
  refine lv_iload_n hx hb dX9_span_41 rfl (lv_at hl 2 rfl) ?_
  refine lv_iadd hx hb dX9_span_42 ?_
  refine tp_i (y := nI ((5 * j_3) + j_14)) (nI_add (5 * j_3) j_14) ?_
  refine va_iald (f := fv 5) (n := 200) hx hb hK hP 3 2 rfl rfl (vp_in_nI (n := (5 * j_3) + j_14) (by omega) (by omega)) dX9_span_43 ?_
  refine lv_topi (fun z_33 hz_34 => ?_)
  rw [nI_clamp (n := (5 * j_3) + j_14) (by omega)] at hz_34
  obtain rfl : z_33 = fv 5 ((5 * j_3) + j_14) := hz_34
  refine lv_goto (tgt := 57) hx hb dX9_span_44 (by decide) ?_
  exact W.iret (v := fv 5 ((5 * j_3) + j_14)) hx hb hr (fun t ht hW => ⟨fv 5 ((5 * j_3) + j_14), rfl, Or.inr ⟨fun h9 => h9.elim (lot_in hj_4 (by omega)) (fun h => Or.elim h (fun h => Or.elim h a_11 b_12) (fun h => Or.elim h a_21 b_22)), by rw [nI_clamp (n := j_3) (by omega), nI_clamp (n := j_14) (by omega), if_pos c_28]⟩, ht⟩) (fun _ h9 => by cases h9) dX9_span_57
set_option maxHeartbeats 4000000 in
set_option maxRecDepth 100000 in
theorem m_of (l : Launch) (D : va_G) (h0 : Nat) (ad : Nat → Nat) (cs : Nat → ClassId) (iv : Nat → Int32) (fv : Nat → Nat → Int32) (gv : Nat → Int64) (n3 : Nat) (a1 a2 : Int32) (h3 : iv 3 = nI n3) (b3 : n3 ≤ 40) : Met l yX9_of wsX9_of ({ frames := 1, cells := 0, slots := 0, locals := 22 }) (va_Pc [.ref h0, .int a1, .int a2] (fun U => va_P D vwCl (mw h0 ad cs iv fv gv) U.heap ∧ va_K D vwCl (mT cs) U)) (vp_Si (fun r => (ofN n3 a1 a2 ∧ r = (-1)) ∨ (¬ ofN n3 a1 a2 ∧ r = fv 4 (7 * a1.toNatClampNeg + a2.toNatClampNeg)))) 0 0 (fun _ => False) := by
  refine Met.ofW (cc := cX9_of) (maxL := 3) (ret := (some .int)) (by decide) rfl ?_
  intro p e s m args below meth c s₁ B hml hv
  obtain ⟨rfl, hP, hK⟩ := hv
  have hx := B.exec
  have hb := B.bytes
  have hr := B.returns
  have hts := atoms_spec (ws := wsX9_of) B.pre
  have hown : s.vm.findClass RX9 = some m.cls := findClass_of_methodNamed B.named
  have hlocks := B.notSynchronized
  have hin9 : ∀ w ∈ u_ws RX9 TX9 44, w ∈ wsX9_of := (fun _ h9 => List.mem_cons_of_mem _ ((List.mem_append_right _ h9)))
  have hl := lv_entry ([.ref h0, .int a1, .int a2]) (n := 3) (Nat.le_of_ble_eq_true rfl)
  rw [lg_entry_eq]
  generalize (lg_sl ([.ref h0, .int a1, .int a2]) ++ List.replicate (3 - (lg_sl ([.ref h0, .int a1, .int a2])).length) Slot.unset).toArray = ls at hl ⊢
  have hl : lv_has ls 3 [(0, .ref h0), (1, .int a1), (2, .int a2)] := hl
  refine lv_aload_n hx hb dX9_of_0 rfl (lv_at hl 0 rfl) ?_
  refine lv_iload_n hx hb dX9_of_1 rfl (lv_at hl 1 rfl) ?_
  refine vp_callSi (W.runV (As := [.int a1]) (rest := []) ⟨hx, hb, hml, hown, hts⟩ (m_isLot l D h0 ad cs iv fv gv n3 a1 h3 (by omega)) (cwV 1 hts gX9_of_X9_isLot rfl rfl rfl (by decide +kernel) ⟨Nat.le_of_ble_eq_true rfl, Nat.le_of_ble_eq_true rfl⟩) ⟨fun a U g mk q => ⟨q.1, q.2.1, va_K.moved (u := U) (U := U.calling g mk a) (Vm.Alike.refl U.vm) q.2.2⟩, va_recv hK hP (ci := 9) (q0 := 0) rfl rfl, fun U hU hW => ⟨rfl, by rw [hU]; exact hP, va_K.moved hW.alike hK⟩⟩ rfl rfl hl.1 rfl (lv_room (Nat.le_of_ble_eq_true rfl)) dX9_of_2 ⟨Nat.le_of_ble_eq_true rfl, Nat.le_of_ble_eq_true rfl⟩) (fun r_1 k_2 => ?_)
  rcases k_2 with ⟨rfl, o_5⟩ | ⟨rfl, j_3, hj_4, rfl⟩
  · refine lv_if_eq (tgt := 18) hx hb dX9_of_5 (by decide) (fun c_6 => ?_) (fun c_6 => absurd (by decide) c_6)
    refine lv_iconst (v := (-1)) hx hb dX9_of_18 (by decide) ?_
    refine lv_goto (tgt := 33) hx hb dX9_of_19 (by decide) ?_
    exact W.iret (v := (-1)) hx hb hr (fun t ht hW => ⟨(-1), rfl, Or.inl ⟨Or.inl o_5, rfl⟩, ht⟩) (fun _ h9 => by cases h9) dX9_of_33
  refine lv_if_eq (tgt := 18) hx hb dX9_of_5 (by decide) (fun c_7 => absurd c_7 (by decide)) (fun c_7 => ?_)
  refine lv_iload_n hx hb dX9_of_8 rfl (lv_at hl 2 rfl) ?_
  refine lv_iconst (v := 0) hx hb dX9_of_9 (by decide) ?_
  refine lv_bipush (v := 6) hx hb dX9_of_10 (by decide) ?_
  refine vp_callSi (W.runS (As := [.int a2, .int 0, .int 6]) (rest := []) ⟨hx, hb, hml, hown, hts⟩ (s_X9_is l a2 0 6) (va_cwS 3 hts gX9_of_X9_is rfl rfl rfl (by decide +kernel) ⟨Nat.le_of_ble_eq_true rfl, Nat.le_of_ble_eq_true rfl⟩) ⟨fun a U g mk q => q, fun U hU hW => ⟨rfl, trivial⟩⟩ rfl rfl hl.1 rfl (lv_room (Nat.le_of_ble_eq_true rfl)) dX9_of_12 ⟨Nat.le_of_ble_eq_true rfl, Nat.le_of_ble_eq_true rfl⟩) (fun r_8 k_9 => ?_)
  rcases k_9 with ⟨rfl, o_10⟩ | ⟨rfl, a_11, b_12⟩
  · refine lv_if_ne (tgt := 22) hx hb dX9_of_15 (by decide) (fun c_13 => absurd (by decide) c_13) (fun c_13 => ?_)
    refine lv_iconst (v := (-1)) hx hb dX9_of_18 (by decide) ?_
    refine lv_goto (tgt := 33) hx hb dX9_of_19 (by decide) ?_
    exact W.iret (v := (-1)) hx hb hr (fun t ht hW => ⟨(-1), rfl, Or.inl ⟨Or.inr o_10, rfl⟩, ht⟩) (fun _ h9 => by cases h9) dX9_of_33
  obtain ⟨j_14, hj_15, hj_16, rfl⟩ := is_nat (a := 0) (b := 6) a_11 b_12 (by omega)
  refine lv_if_ne (tgt := 22) hx hb dX9_of_15 (by decide) (fun c_17 => ?_) (fun c_17 => absurd c_17 (by decide))
  refine lv_aload_n hx hb dX9_of_22 rfl (lv_at hl 0 rfl) ?_
  refine va_get (D := D) (ci := 9) (v := .ref (ad 4)) (C := RX9) (T := TX9) (N := 44) hx hb hts hin9 hown hK hP 0 rfl rfl 4 (by decide) (hts (.fieldLink RX9 23 "HoneyHouseModel" "lot" "[I") (List.mem_of_getElem? (i := 1) rfl)) (fun _ h9 => h9) rfl dX9_of_23 ?_
  refine lv_bipush (v := 7) hx hb dX9_of_26 (by decide) ?_
  refine lv_iload_n hx hb dX9_of_28 rfl (lv_at hl 1 rfl) ?_
  refine lv_imul hx hb dX9_of_29 ?_
  refine tp_i (y := nI (7 * j_3)) (pk_mul 7 j_3) ?_
  refine lv_iload_n hx hb dX9_of_30 rfl (lv_at hl 2 rfl) ?_
  refine lv_iadd hx hb dX9_of_31 ?_
  refine tp_i (y := nI ((7 * j_3) + j_14)) (nI_add (7 * j_3) j_14) ?_
  refine va_iald (f := fv 4) (n := 280) hx hb hK hP 2 1 rfl rfl (vp_in_nI (n := (7 * j_3) + j_14) (by omega) (by omega)) dX9_of_32 ?_
  refine lv_topi (fun z_18 hz_19 => ?_)
  rw [nI_clamp (n := (7 * j_3) + j_14) (by omega)] at hz_19
  obtain rfl : z_18 = fv 4 ((7 * j_3) + j_14) := hz_19
  exact W.iret (v := fv 4 ((7 * j_3) + j_14)) hx hb hr (fun t ht hW => ⟨fv 4 ((7 * j_3) + j_14), rfl, Or.inr ⟨fun h9 => Or.elim h9 (lot_in hj_4 (by omega)) (fun h => Or.elim h a_11 b_12), by rw [nI_clamp (n := j_3) (by omega), nI_clamp (n := j_14) (by omega)]⟩, ht⟩) (fun _ h9 => by cases h9) dX9_of_33
set_option maxHeartbeats 4000000 in
set_option maxRecDepth 100000 in
theorem m_part (l : Launch) (D : va_G) (h0 : Nat) (ad : Nat → Nat) (cs : Nat → ClassId) (iv : Nat → Int32) (fv : Nat → Nat → Int32) (gv : Nat → Int64) (n3 n13 : Nat) (a1 a2 a3 : Int32) (h3 : iv 3 = nI n3) (h13 : iv 13 = nI n13) (b3 : n3 ≤ 40) (b13 : n13 ≤ 60) : Met l yX9_part wsX9_part ({ frames := 2, cells := 0, slots := 0, locals := 42 }) (va_Pc [.ref h0, .int a1, .int a2, .int a3] (fun U => va_P D vwCl (mw h0 ad cs iv fv gv) U.heap ∧ va_K D vwCl (mT cs) U)) (vp_Si (fun r => (prtN n13 n3 a1 a2 a3 ∧ r = (-1)) ∨ (¬ prtN n13 n3 a1 a2 a3 ∧ r = fv 9 (40 * rowI a1 a2 + a3.toNatClampNeg)))) 0 0 (fun _ => False) := by
  refine Met.ofW (cc := cX9_part) (maxL := 5) (ret := (some .int)) (by decide) rfl ?_
  intro p e s m args below meth c s₁ B hml hv
  obtain ⟨rfl, hP, hK⟩ := hv
  have hx := B.exec
  have hb := B.bytes
  have hr := B.returns
  have hts := atoms_spec (ws := wsX9_part) B.pre
  have hown : s.vm.findClass RX9 = some m.cls := findClass_of_methodNamed B.named
  have hlocks := B.notSynchronized
  have hin9 : ∀ w ∈ u_ws RX9 TX9 44, w ∈ wsX9_part := (fun _ h9 => List.mem_cons_of_mem _ ((List.mem_append_right _ h9)))
  have hl := lv_entry ([.ref h0, .int a1, .int a2, .int a3]) (n := 5) (Nat.le_of_ble_eq_true rfl)
  rw [lg_entry_eq]
  generalize (lg_sl ([.ref h0, .int a1, .int a2, .int a3]) ++ List.replicate (5 - (lg_sl ([.ref h0, .int a1, .int a2, .int a3])).length) Slot.unset).toArray = ls at hl ⊢
  have hl : lv_has ls 5 [(0, .ref h0), (1, .int a1), (2, .int a2), (3, .int a3)] := hl
  refine lv_aload_n hx hb dX9_part_0 rfl (lv_at hl 0 rfl) ?_
  refine lv_iload_n hx hb dX9_part_1 rfl (lv_at hl 1 rfl) ?_
  refine lv_iload_n hx hb dX9_part_2 rfl (lv_at hl 2 rfl) ?_
  refine vp_callSi (W.runV (As := [.int a1, .int a2]) (rest := []) ⟨hx, hb, hml, hown, hts⟩ (m_row l D h0 ad cs iv fv gv n13 a1 a2 h13 (by omega)) (cwV 2 hts gX9_part_X9_row rfl rfl rfl (by decide +kernel) ⟨Nat.le_of_ble_eq_true rfl, Nat.le_of_ble_eq_true rfl⟩) ⟨fun a U g mk q => ⟨q.1, q.2.1, va_K.moved (u := U) (U := U.calling g mk a) (Vm.Alike.refl U.vm) q.2.2⟩, va_recv hK hP (ci := 9) (q0 := 0) rfl rfl, fun U hU hW => ⟨rfl, by rw [hU]; exact hP, va_K.moved hW.alike hK⟩⟩ rfl rfl hl.1 rfl (lv_room (Nat.le_of_ble_eq_true rfl)) dX9_part_3 ⟨Nat.le_of_ble_eq_true rfl, Nat.le_of_ble_eq_true rfl⟩) (fun r_1 k_2 => ?_)
  rcases k_2 with ⟨rN_5, rfl⟩ | ⟨rN_5, hr_6, hj_7⟩
  · refine lv_istore (lv' := [(4, .int (-1)), (0, .ref h0), (1, .int a1), (2, .int a2), (3, .int a3)]) hx hb dX9_part_6 hl (by decide) rfl (fun ls hl => ?_)
    refine lv_iload hx hb dX9_part_8 (lv_at hl 0 rfl) ?_
    refine lv_if_lt (tgt := 21) hx hb dX9_part_10 (by decide) (fun c_8 => ?_) (fun c_8 => absurd (by decide) c_8)
    refine lv_iconst (v := (-1)) hx hb dX9_part_21 (by decide) ?_
    refine lv_goto (tgt := 37) hx hb dX9_part_22 (by decide) ?_
    exact W.iret (v := (-1)) hx hb hr (fun t ht hW => ⟨(-1), rfl, Or.inl ⟨Or.inl rN_5, rfl⟩, ht⟩) (fun _ h9 => by cases h9) dX9_part_37
  obtain ⟨j_3, ej_4⟩ : ∃ j9 : Nat, j9 = rowI a1 a2 := ⟨_, rfl⟩
  rw [← ej_4] at hr_6 hj_7
  subst hr_6
  refine lv_istore (lv' := [(4, .int (nI j_3)), (0, .ref h0), (1, .int a1), (2, .int a2), (3, .int a3)]) hx hb dX9_part_6 hl (by decide) rfl (fun ls hl => ?_)
  refine lv_iload hx hb dX9_part_8 (lv_at hl 0 rfl) ?_
  refine lv_if_lt (tgt := 21) hx hb dX9_part_10 (by decide) (fun c_9 => absurd c_9 (nI_pos (n := j_3) (by omega))) (fun c_9 => ?_)
  refine lv_aload_n hx hb dX9_part_13 rfl (lv_at hl 1 rfl) ?_
  refine lv_iload_n hx hb dX9_part_14 rfl (lv_at hl 4 rfl) ?_
  refine vp_callSi (W.runV (As := [.int a3]) (rest := []) ⟨hx, hb, hml, hown, hts⟩ (m_isLot l D h0 ad cs iv fv gv n3 a3 h3 (by omega)) (cwV 1 hts gX9_part_X9_isLot rfl rfl rfl (by decide +kernel) ⟨Nat.le_of_ble_eq_true rfl, Nat.le_of_ble_eq_true rfl⟩) ⟨fun a U g mk q => ⟨q.1, q.2.1, va_K.moved (u := U) (U := U.calling g mk a) (Vm.Alike.refl U.vm) q.2.2⟩, va_recv hK hP (ci := 9) (q0 := 0) rfl rfl, fun U hU hW => ⟨rfl, by rw [hU]; exact hP, va_K.moved hW.alike hK⟩⟩ rfl rfl hl.1 rfl (lv_room (Nat.le_of_ble_eq_true rfl)) dX9_part_15 ⟨Nat.le_of_ble_eq_true rfl, Nat.le_of_ble_eq_true rfl⟩) (fun r_10 k_11 => ?_)
  rcases k_11 with ⟨rfl, o_14⟩ | ⟨rfl, j_12, hj_13, rfl⟩
  · refine lv_if_ne (tgt := 25) hx hb dX9_part_18 (by decide) (fun c_15 => absurd (by decide) c_15) (fun c_15 => ?_)
    refine lv_iconst (v := (-1)) hx hb dX9_part_21 (by decide) ?_
    refine lv_goto (tgt := 37) hx hb dX9_part_22 (by decide) ?_
    exact W.iret (v := (-1)) hx hb hr (fun t ht hW => ⟨(-1), rfl, Or.inl ⟨Or.inr o_14, rfl⟩, ht⟩) (fun _ h9 => by cases h9) dX9_part_37
  refine lv_if_ne (tgt := 25) hx hb dX9_part_18 (by decide) (fun c_16 => ?_) (fun c_16 => absurd c_16 (by decide))
  refine lv_aload_n hx hb dX9_part_25 rfl (lv_at hl 1 rfl) ?_
  refine va_get (D := D) (ci := 9) (v := .ref (ad 9)) (C := RX9) (T := TX9) (N := 44) hx hb hts hin9 hown hK hP 0 rfl rfl 9 (by decide) (hts (.fieldLink RX9 38 "HoneyHouseModel" "grams" "[I") (List.mem_of_getElem? (i := 1) rfl)) (fun _ h9 => h9) rfl dX9_part_26 ?_
  refine lv_bipush (v := 40) hx hb dX9_part_29 (by decide) ?_
  refine lv_iload hx hb dX9_part_31 (lv_at hl 0 rfl) ?_
  refine lv_imul hx hb dX9_part_33 ?_
  refine tp_i (y := nI (40 * j_3)) (pk_mul 40 j_3) ?_
  refine lv_iload_n hx hb dX9_part_34 rfl (lv_at hl 4 rfl) ?_
  refine lv_iadd hx hb dX9_part_35 ?_
  refine tp_i (y := nI ((40 * j_3) + j_12)) (nI_add (40 * j_3) j_12) ?_
  refine va_iald (f := fv 9) (n := 2800) hx hb hK hP 7 6 rfl rfl (vp_in_nI (n := (40 * j_3) + j_12) (by omega) (by omega)) dX9_part_36 ?_
  refine lv_topi (fun z_17 hz_18 => ?_)
  rw [nI_clamp (n := (40 * j_3) + j_12) (by omega)] at hz_18
  obtain rfl : z_17 = fv 9 ((40 * j_3) + j_12) := hz_18
  exact W.iret (v := fv 9 ((40 * j_3) + j_12)) hx hb hr (fun t ht hW => ⟨fv 9 ((40 * j_3) + j_12), rfl, Or.inr ⟨fun h9 => Or.elim h9 rN_5 (lot_in hj_13 (by omega)), by rw [nI_clamp (n := j_12) (by omega), ← ej_4]⟩, ht⟩) (fun _ h9 => by cases h9) dX9_part_37
set_option maxHeartbeats 4000000 in
set_option maxRecDepth 100000 in
theorem m_parts (l : Launch) (D : va_G) (h0 : Nat) (ad : Nat → Nat) (cs : Nat → ClassId) (iv : Nat → Int32) (fv : Nat → Nat → Int32) (gv : Nat → Int64) (a1 : Int32)   : Met l yX9_parts wsX9_parts ({ frames := 1, cells := 0, slots := 0, locals := 20 }) (va_Pc [.ref h0, .int a1] (fun U => va_P D vwCl (mw h0 ad cs iv fv gv) U.heap ∧ va_K D vwCl (mT cs) U)) (vp_Si (fun r => True)) 0 0 (fun _ => False) := by
  refine Met.ofW (cc := cX9_parts) (maxL := 2) (ret := (some .int)) (by decide) rfl ?_
  intro p e s m args below meth c s₁ B hml hv
  obtain ⟨rfl, hP, hK⟩ := hv
  have hx := B.exec
  have hb := B.bytes
  have hr := B.returns
  have hts := atoms_spec (ws := wsX9_parts) B.pre
  have hown : s.vm.findClass RX9 = some m.cls := findClass_of_methodNamed B.named
  have hlocks := B.notSynchronized
  have hin9 : ∀ w ∈ u_ws RX9 TX9 44, w ∈ wsX9_parts := (fun _ h9 => List.mem_cons_of_mem _ ((List.mem_append_right _ h9)))
  have hl := lv_entry ([.ref h0, .int a1]) (n := 2) (Nat.le_of_ble_eq_true rfl)
  rw [lg_entry_eq]
  generalize (lg_sl ([.ref h0, .int a1]) ++ List.replicate (2 - (lg_sl ([.ref h0, .int a1])).length) Slot.unset).toArray = ls at hl ⊢
  have hl : lv_has ls 2 [(0, .ref h0), (1, .int a1)] := hl
  refine lv_aload_n hx hb dX9_parts_0 rfl (lv_at hl 0 rfl) ?_
  refine va_get (D := D) (ci := 9) (v := .int (iv 35)) (C := RX9) (T := TX9) (N := 44) hx hb hts hin9 hown hK hP 0 rfl rfl 35 (by decide) (hts (.fieldLink RX9 117 "HoneyHouseModel" "blended" "Z") (List.mem_of_getElem? (i := 1) rfl)) (fun _ h9 => h9) rfl dX9_parts_1 ?_
  refine lv_if_eq (tgt := 14) hx hb dX9_parts_4 (by decide) (fun c_1 => ?_) (fun c_1 => ?_)
  · refine lv_iconst (v := (-1)) hx hb dX9_parts_14 (by decide) ?_
    refine lv_goto (tgt := 24) hx hb dX9_parts_15 (by decide) ?_
    exact W.iret (v := (-1)) hx hb hr (fun t ht hW => ⟨(-1), rfl, trivial, ht⟩) (fun _ h9 => by cases h9) dX9_parts_24
  refine lv_iload_n hx hb dX9_parts_7 rfl (lv_at hl 1 rfl) ?_
  refine vp_callSi (W.runS (As := [.int a1]) (rest := []) ⟨hx, hb, hml, hown, hts⟩ (s_X9_isTank l a1) (va_cwS 1 hts gX9_parts_X9_isTank rfl rfl rfl (by decide +kernel) ⟨Nat.le_of_ble_eq_true rfl, Nat.le_of_ble_eq_true rfl⟩) ⟨fun a U g mk q => q, fun U hU hW => ⟨rfl, trivial⟩⟩ rfl rfl hl.1 rfl (lv_room (Nat.le_of_ble_eq_true rfl)) dX9_parts_8 ⟨Nat.le_of_ble_eq_true rfl, Nat.le_of_ble_eq_true rfl⟩) (fun r_2 k_3 => ?_)
  rcases k_3 with ⟨rfl, o_4⟩ | ⟨rfl, a_5, b_6⟩
  · refine lv_if_ne (tgt := 18) hx hb dX9_parts_11 (by decide) (fun c_7 => absurd (by decide) c_7) (fun c_7 => ?_)
    refine lv_iconst (v := (-1)) hx hb dX9_parts_14 (by decide) ?_
    refine lv_goto (tgt := 24) hx hb dX9_parts_15 (by decide) ?_
    exact W.iret (v := (-1)) hx hb hr (fun t ht hW => ⟨(-1), rfl, trivial, ht⟩) (fun _ h9 => by cases h9) dX9_parts_24
  obtain ⟨j_8, hj_9, hj_10, rfl⟩ := is_nat (a := 0) (b := 9) a_5 b_6 (by omega)
  refine lv_if_ne (tgt := 18) hx hb dX9_parts_11 (by decide) (fun c_11 => ?_) (fun c_11 => absurd c_11 (by decide))
  refine lv_aload_n hx hb dX9_parts_18 rfl (lv_at hl 0 rfl) ?_
  refine va_get (D := D) (ci := 9) (v := .ref (ad 36)) (C := RX9) (T := TX9) (N := 44) hx hb hts hin9 hown hK hP 0 rfl rfl 36 (by decide) (hts (.fieldLink RX9 121 "HoneyHouseModel" "parts" "[I") (List.mem_of_getElem? (i := 2) rfl)) (fun _ h9 => h9) rfl dX9_parts_19 ?_
  refine lv_iload_n hx hb dX9_parts_22 rfl (lv_at hl 1 rfl) ?_
  refine va_iald (f := fv 36) (n := 10) hx hb hK hP 23 22 rfl rfl (vp_in_nI (n := j_8) (by omega) (by omega)) dX9_parts_23 ?_
  refine lv_topi (fun z_12 hz_13 => ?_)
  exact W.iret (v := z_12) hx hb hr (fun t ht hW => ⟨z_12, rfl, trivial, ht⟩) (fun _ h9 => by cases h9) dX9_parts_24
theorem i_lt_nl {a b : Int32} (h : a < b) : ¬ b ≤ a := by rw [i_lt] at h; rw [i_le]; omega
theorem i_ge_of {a b : Int32} (h : ¬ a < b) : b ≤ a := by rw [i_lt] at h; rw [i_le]; omega
set_option maxHeartbeats 4000000 in
set_option maxRecDepth 100000 in
theorem m_found (l : Launch) (D : va_G) (h0 : Nat) (ad : Nat → Nat) (cs : Nat → ClassId) (iv : Nat → Int32) (fv : Nat → Nat → Int32) (gv : Nat → Int64) (n43 : Nat) (a1 : Int32) (h43 : iv 43 = nI n43) (b43 : n43 ≤ 60) : Met l yX9_found wsX9_found ({ frames := 0, cells := 0, slots := 0, locals := 0 }) (va_Pc [.ref h0, .int a1] (fun U => va_P D vwCl (mw h0 ad cs iv fv gv) U.heap ∧ va_K D vwCl (mT cs) U)) (vp_Si (fun r => ((a1 < 0 ∨ nI n43 ≤ a1) ∧ r = (-1)) ∨ (¬ (a1 < 0 ∨ nI n43 ≤ a1) ∧ r = fv 42 a1.toNatClampNeg))) 0 0 (fun _ => False) := by
  refine Met.ofW (cc := cX9_found) (maxL := 2) (ret := (some .int)) (by decide) rfl ?_
  intro p e s m args below meth c s₁ B hml hv
  obtain ⟨rfl, hP, hK⟩ := hv
  have hx := B.exec
  have hb := B.bytes
  have hr := B.returns
  have hts := atoms_spec (ws := wsX9_found) B.pre
  have hown : s.vm.findClass RX9 = some m.cls := findClass_of_methodNamed B.named
  have hlocks := B.notSynchronized
  have hin9 : ∀ w ∈ u_ws RX9 TX9 44, w ∈ wsX9_found := (fun _ h9 => List.mem_cons_of_mem _ ((List.mem_append_right _ h9)))
  have hl := lv_entry ([.ref h0, .int a1]) (n := 2) (Nat.le_of_ble_eq_true rfl)
  rw [lg_entry_eq]
  generalize (lg_sl ([.ref h0, .int a1]) ++ List.replicate (2 - (lg_sl ([.ref h0, .int a1])).length) Slot.unset).toArray = ls at hl ⊢
  have hl : lv_has ls 2 [(0, .ref h0), (1, .int a1)] := hl
  refine lv_iload_n hx hb dX9_found_0 rfl (lv_at hl 1 rfl) ?_
  refine lv_if_lt (tgt := 12) hx hb dX9_found_1 (by decide) (fun c_1 => ?_) (fun c_1 => ?_)
  · refine lv_iconst (v := (-1)) hx hb dX9_found_12 (by decide) ?_
    refine lv_goto (tgt := 22) hx hb dX9_found_13 (by decide) ?_
    exact W.iret (v := (-1)) hx hb hr (fun t ht hW => ⟨(-1), rfl, Or.inl ⟨Or.inl c_1, rfl⟩, ht⟩) (fun _ h9 => by cases h9) dX9_found_22
  refine lv_iload_n hx hb dX9_found_4 rfl (lv_at hl 1 rfl) ?_
  refine lv_aload_n hx hb dX9_found_5 rfl (lv_at hl 0 rfl) ?_
  refine va_get (D := D) (ci := 9) (v := .int (iv 43)) (C := RX9) (T := TX9) (N := 44) hx hb hts hin9 hown hK hP 0 rfl rfl 43 (by decide) (hts (.fieldLink RX9 142 "HoneyHouseModel" "founds" "I") (List.mem_of_getElem? (i := 1) rfl)) (fun _ h9 => h9) rfl dX9_found_6 ?_
  refine tp_i (y := nI n43) (h43) ?_
  refine lv_icmp_lt (tgt := 16) hx hb dX9_found_9 (by decide) (fun c_2 => ?_) (fun c_2 => ?_)
  · obtain ⟨j_3, hj_4, rfl⟩ := ls_nat c_1 (i_lt_nl c_2) (by omega)
    refine lv_aload_n hx hb dX9_found_16 rfl (lv_at hl 0 rfl) ?_
    refine va_get (D := D) (ci := 9) (v := .ref (ad 42)) (C := RX9) (T := TX9) (N := 44) hx hb hts hin9 hown hK hP 0 rfl rfl 42 (by decide) (hts (.fieldLink RX9 139 "HoneyHouseModel" "found" "[I") (List.mem_of_getElem? (i := 2) rfl)) (fun _ h9 => h9) rfl dX9_found_17 ?_
    refine lv_iload_n hx hb dX9_found_20 rfl (lv_at hl 1 rfl) ?_
    refine va_iald (f := fv 42) (n := 60) hx hb hK hP 29 28 rfl rfl (vp_in_nI (n := j_3) (by omega) (by omega)) dX9_found_21 ?_
    refine lv_topi (fun z_5 hz_6 => ?_)
    rw [nI_clamp (n := j_3) (by omega)] at hz_6
    obtain rfl : z_5 = fv 42 j_3 := hz_6
    exact W.iret (v := fv 42 j_3) hx hb hr (fun t ht hW => ⟨fv 42 j_3, rfl, Or.inr ⟨fun h9 => Or.elim h9 c_1 (i_lt_nl c_2), by rw [nI_clamp (n := j_3) (by omega)]⟩, ht⟩) (fun _ h9 => by cases h9) dX9_found_22
  refine lv_iconst (v := (-1)) hx hb dX9_found_12 (by decide) ?_
  refine lv_goto (tgt := 22) hx hb dX9_found_13 (by decide) ?_
  exact W.iret (v := (-1)) hx hb hr (fun t ht hW => ⟨(-1), rfl, Or.inl ⟨Or.inr (i_ge_of c_2), rfl⟩, ht⟩) (fun _ h9 => by cases h9) dX9_found_22
set_option maxHeartbeats 4000000 in
set_option maxRecDepth 100000 in
theorem m_fault (l : Launch) (D : va_G) (h0 : Nat) (ad : Nat → Nat) (cs : Nat → ClassId) (iv : Nat → Int32) (fv : Nat → Nat → Int32) (gv : Nat → Int64) (a1 : Int32)   : Met l yX9_fault wsX9_fault ({ frames := 0, cells := 0, slots := 0, locals := 0 }) (va_Pc [.ref h0, .int a1] (fun U => va_P D vwCl (mw h0 ad cs iv fv gv) U.heap ∧ va_K D vwCl (mT cs) U)) (vp_Si (fun r => True)) 0 0 (fun _ => False) := by
  refine Met.ofW (cc := cX9_fault) (maxL := 2) (ret := (some .int)) (by decide) rfl ?_
  intro p e s m args below meth c s₁ B hml hv
  obtain ⟨rfl, hP, hK⟩ := hv
  have hx := B.exec
  have hb := B.bytes
  have hr := B.returns
  have hts := atoms_spec (ws := wsX9_fault) B.pre
  have hown : s.vm.findClass RX9 = some m.cls := findClass_of_methodNamed B.named
  have hlocks := B.notSynchronized
  have hin9 : ∀ w ∈ u_ws RX9 TX9 44, w ∈ wsX9_fault := (fun _ h9 => List.mem_cons_of_mem _ ((List.mem_append_right _ h9)))
  have hl := lv_entry ([.ref h0, .int a1]) (n := 2) (Nat.le_of_ble_eq_true rfl)
  rw [lg_entry_eq]
  generalize (lg_sl ([.ref h0, .int a1]) ++ List.replicate (2 - (lg_sl ([.ref h0, .int a1])).length) Slot.unset).toArray = ls at hl ⊢
  have hl : lv_has ls 2 [(0, .ref h0), (1, .int a1)] := hl
  refine lv_iload_n hx hb dX9_fault_0 rfl (lv_at hl 1 rfl) ?_
  refine lv_if_ne (tgt := 11) hx hb dX9_fault_1 (by decide) (fun c_1 => ?_) (fun c_1 => ?_)
  · refine lv_iload_n hx hb dX9_fault_11 rfl (lv_at hl 1 rfl) ?_
    refine lv_iconst (v := 1) hx hb dX9_fault_12 (by decide) ?_
    refine lv_icmp_ne (tgt := 23) hx hb dX9_fault_13 (by decide) (fun c_2 => ?_) (fun c_2 => ?_)
    · refine lv_iconst (v := (-1)) hx hb dX9_fault_23 (by decide) ?_
      exact W.iret (v := (-1)) hx hb hr (fun t ht hW => ⟨(-1), rfl, trivial, ht⟩) (fun _ h9 => by cases h9) dX9_fault_24
    refine lv_aload_n hx hb dX9_fault_16 rfl (lv_at hl 0 rfl) ?_
    refine va_get (D := D) (ci := 9) (v := .int (iv 22)) (C := RX9) (T := TX9) (N := 44) hx hb hts hin9 hown hK hP 0 rfl rfl 22 (by decide) (hts (.fieldLink RX9 77 "HoneyHouseModel" "faultPlace" "I") (List.mem_of_getElem? (i := 2) rfl)) (fun _ h9 => h9) rfl dX9_fault_17 ?_
    refine lv_goto (tgt := 24) hx hb dX9_fault_20 (by decide) ?_
    exact W.iret (v := iv 22) hx hb hr (fun t ht hW => ⟨iv 22, rfl, trivial, ht⟩) (fun _ h9 => by cases h9) dX9_fault_24
  refine lv_aload_n hx hb dX9_fault_4 rfl (lv_at hl 0 rfl) ?_
  refine va_get (D := D) (ci := 9) (v := .int (iv 21)) (C := RX9) (T := TX9) (N := 44) hx hb hts hin9 hown hK hP 0 rfl rfl 21 (by decide) (hts (.fieldLink RX9 74 "HoneyHouseModel" "faultKind" "I") (List.mem_of_getElem? (i := 1) rfl)) (fun _ h9 => h9) rfl dX9_fault_5 ?_
  refine lv_goto (tgt := 24) hx hb dX9_fault_8 (by decide) ?_
  exact W.iret (v := iv 21) hx hb hr (fun t ht hW => ⟨iv 21, rfl, trivial, ht⟩) (fun _ h9 => by cases h9) dX9_fault_24
set_option maxHeartbeats 4000000 in
set_option maxRecDepth 100000 in
theorem m_count (l : Launch) (D : va_G) (h0 : Nat) (ad : Nat → Nat) (cs : Nat → ClassId) (iv : Nat → Int32) (fv : Nat → Nat → Int32) (gv : Nat → Int64) (a1 : Int32)   : Met l yX9_count wsX9_count ({ frames := 0, cells := 0, slots := 0, locals := 0 }) (va_Pc [.ref h0, .int a1] (fun U => va_P D vwCl (mw h0 ad cs iv fv gv) U.heap ∧ va_K D vwCl (mT cs) U)) (vp_Si (fun r => True)) 0 0 (fun _ => False) := by
  refine Met.ofW (cc := cX9_count) (maxL := 2) (ret := (some .int)) (by decide) rfl ?_
  intro p e s m args below meth c s₁ B hml hv
  obtain ⟨rfl, hP, hK⟩ := hv
  have hx := B.exec
  have hb := B.bytes
  have hr := B.returns
  have hts := atoms_spec (ws := wsX9_count) B.pre
  have hown : s.vm.findClass RX9 = some m.cls := findClass_of_methodNamed B.named
  have hlocks := B.notSynchronized
  have hin9 : ∀ w ∈ u_ws RX9 TX9 44, w ∈ wsX9_count := (fun _ h9 => List.mem_cons_of_mem _ ((List.mem_append_right _ h9)))
  have hl := lv_entry ([.ref h0, .int a1]) (n := 2) (Nat.le_of_ble_eq_true rfl)
  rw [lg_entry_eq]
  generalize (lg_sl ([.ref h0, .int a1]) ++ List.replicate (2 - (lg_sl ([.ref h0, .int a1])).length) Slot.unset).toArray = ls at hl ⊢
  have hl : lv_has ls 2 [(0, .ref h0), (1, .int a1)] := hl
  refine lv_iload_n hx hb dX9_count_0 rfl (lv_at hl 1 rfl) ?_
  by_cases c_1 : a1 = 0
  · refine lv_tableIn (off := 31) (tgt := 32) hx hb dX9_count_1 (by rw [c_1]; decide) (by rw [c_1]; decide) (by rw [c_1]; rfl) (by decide) ?_
    refine lv_aload_n hx hb dX9_count_32 rfl (lv_at hl 0 rfl) ?_
    refine va_get (D := D) (ci := 9) (v := .int (iv 3)) (C := RX9) (T := TX9) (N := 44) hx hb hts hin9 hown hK hP 0 rfl rfl 3 (by decide) (hts (.fieldLink RX9 20 "HoneyHouseModel" "lots" "I") (List.mem_of_getElem? (i := 1) rfl)) (fun _ h9 => h9) rfl dX9_count_33 ?_
    exact W.iret (v := iv 3) hx hb hr (fun t ht hW => ⟨iv 3, rfl, trivial, ht⟩) (fun _ h9 => by cases h9) dX9_count_36
  by_cases c_2 : a1 = 1
  · refine lv_tableIn (off := 36) (tgt := 37) hx hb dX9_count_1 (by rw [c_2]; decide) (by rw [c_2]; decide) (by rw [c_2]; rfl) (by decide) ?_
    refine lv_aload_n hx hb dX9_count_37 rfl (lv_at hl 0 rfl) ?_
    refine va_get (D := D) (ci := 9) (v := .int (iv 13)) (C := RX9) (T := TX9) (N := 44) hx hb hts hin9 hown hK hP 0 rfl rfl 13 (by decide) (hts (.fieldLink RX9 50 "HoneyHouseModel" "batches" "I") (List.mem_of_getElem? (i := 2) rfl)) (fun _ h9 => h9) rfl dX9_count_38 ?_
    exact W.iret (v := iv 13) hx hb hr (fun t ht hW => ⟨iv 13, rfl, trivial, ht⟩) (fun _ h9 => by cases h9) dX9_count_41
  by_cases c_3 : a1 = 2
  · refine lv_tableIn (off := 41) (tgt := 42) hx hb dX9_count_1 (by rw [c_3]; decide) (by rw [c_3]; decide) (by rw [c_3]; rfl) (by decide) ?_
    refine lv_aload_n hx hb dX9_count_42 rfl (lv_at hl 0 rfl) ?_
    refine va_get (D := D) (ci := 9) (v := .int (iv 14)) (C := RX9) (T := TX9) (N := 44) hx hb hts hin9 hown hK hP 0 rfl rfl 14 (by decide) (hts (.fieldLink RX9 53 "HoneyHouseModel" "rules" "I") (List.mem_of_getElem? (i := 3) rfl)) (fun _ h9 => h9) rfl dX9_count_43 ?_
    exact W.iret (v := iv 14) hx hb hr (fun t ht hW => ⟨iv 14, rfl, trivial, ht⟩) (fun _ h9 => by cases h9) dX9_count_46
  by_cases c_4 : a1 = 3
  · refine lv_tableIn (off := 46) (tgt := 47) hx hb dX9_count_1 (by rw [c_4]; decide) (by rw [c_4]; decide) (by rw [c_4]; rfl) (by decide) ?_
    refine lv_aload_n hx hb dX9_count_47 rfl (lv_at hl 0 rfl) ?_
    refine va_get (D := D) (ci := 9) (v := .int (iv 2)) (C := RX9) (T := TX9) (N := 44) hx hb hts hin9 hown hK hP 0 rfl rfl 2 (by decide) (hts (.fieldLink RX9 17 "HoneyHouseModel" "today" "I") (List.mem_of_getElem? (i := 4) rfl)) (fun _ h9 => h9) rfl dX9_count_48 ?_
    exact W.iret (v := iv 2) hx hb hr (fun t ht hW => ⟨iv 2, rfl, trivial, ht⟩) (fun _ h9 => by cases h9) dX9_count_51
  have nc_1 := lv_neT c_1 (a := 0) (by decide)
  have nc_2 := lv_neT c_2 (a := 1) (by decide)
  have nc_3 := lv_neT c_3 (a := 2) (by decide)
  have nc_4 := lv_neT c_4 (a := 3) (by decide)
  refine lv_tableOut (tgt := 52) hx hb dX9_count_1 (by omega) (by decide) ?_
  refine lv_iconst (v := (-1)) hx hb dX9_count_52 (by decide) ?_
  exact W.iret (v := (-1)) hx hb hr (fun t ht hW => ⟨(-1), rfl, trivial, ht⟩) (fun _ h9 => by cases h9) dX9_count_53
section HLD
variable {fv : Nat → Nat → Int32} {a1 a2 a3 : Int32}
theorem hldV_0 (h : a3 = 0) : hldV fv a1 a2 a3 = mall (fv 9) (rowI a1 a2) 40 := by rw [h]; rfl
theorem hldV_1 (h : a3 = 1) : hldV fv a1 a2 a3 = lin (fun i => fv 9 (40 * rowI a1 a2 + i)) 40 := by rw [h]; rfl
theorem hldV_2 (h : a3 = 2) : hldV fv a1 a2 a3 = fv 10 (rowI a1 a2) := by rw [h]; rfl
theorem hldV_3 (h : a3 = 3) : hldV fv a1 a2 a3 = fv 11 (rowI a1 a2) := by rw [h]; rfl
theorem hldV_4 (h : a3 = 4) : hldV fv a1 a2 a3 = fv 12 (rowI a1 a2) := by rw [h]; rfl
end HLD
set_option maxHeartbeats 4000000 in
set_option maxRecDepth 100000 in
theorem m_holds (l : Launch) (D : va_G) (h0 : Nat) (ad : Nat → Nat) (cs : Nat → ClassId) (iv : Nat → Int32) (fv : Nat → Nat → Int32) (gv : Nat → Int64) (n3 n13 : Nat) (a1 a2 a3 : Int32) (h3 : iv 3 = nI n3) (h13 : iv 13 = nI n13) (b3 : n3 ≤ 40) (b13 : n13 ≤ 60) (hM : ∀ r9 : Nat, r9 < 70 → mall (fv 9) r9 n3 = mall (fv 9) r9 40) (hZ : ∀ r9 i9 : Nat, r9 < 70 → n3 ≤ i9 → i9 < 40 → fv 9 (40 * r9 + i9) = 0) : Met l yX9_holds wsX9_holds ({ frames := 2, cells := 0, slots := 0, locals := 42 }) (va_Pc [.ref h0, .int a1, .int a2, .int a3] (fun U => va_P D vwCl (mw h0 ad cs iv fv gv) U.heap ∧ va_K D vwCl (mT cs) U)) (vp_Si (fun r => (hldN n13 a1 a2 a3 ∧ r = (-1)) ∨ (¬ hldN n13 a1 a2 a3 ∧ r = hldV fv a1 a2 a3))) 0 0 (fun _ => False) := by
  refine Met.ofW (cc := cX9_holds) (maxL := 7) (ret := (some .int)) (by decide) rfl ?_
  intro p e s m args below meth c s₁ B hml hv
  obtain ⟨rfl, hP, hK⟩ := hv
  have hx := B.exec
  have hb := B.bytes
  have hr := B.returns
  have hts := atoms_spec (ws := wsX9_holds) B.pre
  have hown : s.vm.findClass RX9 = some m.cls := findClass_of_methodNamed B.named
  have hlocks := B.notSynchronized
  have hin9 : ∀ w ∈ u_ws RX9 TX9 44, w ∈ wsX9_holds := (fun _ h9 => List.mem_cons_of_mem _ ((List.mem_append_right _ h9)))
  have hl := lv_entry ([.ref h0, .int a1, .int a2, .int a3]) (n := 7) (Nat.le_of_ble_eq_true rfl)
  rw [lg_entry_eq]
  generalize (lg_sl ([.ref h0, .int a1, .int a2, .int a3]) ++ List.replicate (7 - (lg_sl ([.ref h0, .int a1, .int a2, .int a3])).length) Slot.unset).toArray = ls at hl ⊢
  have hl : lv_has ls 7 [(0, .ref h0), (1, .int a1), (2, .int a2), (3, .int a3)] := hl
  refine lv_aload_n hx hb dX9_holds_0 rfl (lv_at hl 0 rfl) ?_
  refine lv_iload_n hx hb dX9_holds_1 rfl (lv_at hl 1 rfl) ?_
  refine lv_iload_n hx hb dX9_holds_2 rfl (lv_at hl 2 rfl) ?_
  refine vp_callSi (W.runV (As := [.int a1, .int a2]) (rest := []) ⟨hx, hb, hml, hown, hts⟩ (m_row l D h0 ad cs iv fv gv n13 a1 a2 h13 (by omega)) (cwV 2 hts gX9_holds_X9_row rfl rfl rfl (by decide +kernel) ⟨Nat.le_of_ble_eq_true rfl, Nat.le_of_ble_eq_true rfl⟩) ⟨fun a U g mk q => ⟨q.1, q.2.1, va_K.moved (u := U) (U := U.calling g mk a) (Vm.Alike.refl U.vm) q.2.2⟩, va_recv hK hP (ci := 9) (q0 := 0) rfl rfl, fun U hU hW => ⟨rfl, by rw [hU]; exact hP, va_K.moved hW.alike hK⟩⟩ rfl rfl hl.1 rfl (lv_room (Nat.le_of_ble_eq_true rfl)) dX9_holds_3 ⟨Nat.le_of_ble_eq_true rfl, Nat.le_of_ble_eq_true rfl⟩) (fun r_1 k_2 => ?_)
  rcases k_2 with ⟨rN_5, rfl⟩ | ⟨rN_5, hr_6, hj_7⟩
  · refine lv_istore (lv' := [(4, .int (-1)), (0, .ref h0), (1, .int a1), (2, .int a2), (3, .int a3)]) hx hb dX9_holds_6 hl (by decide) rfl (fun ls hl => ?_)
    refine lv_iload hx hb dX9_holds_8 (lv_at hl 0 rfl) ?_
    refine lv_if_ge (tgt := 15) hx hb dX9_holds_10 (by decide) (fun c_8 => absurd c_8 (by decide)) (fun c_8 => ?_)
    refine lv_iconst (v := (-1)) hx hb dX9_holds_13 (by decide) ?_
    exact W.iret (v := (-1)) hx hb hr (fun t ht hW => ⟨(-1), rfl, Or.inl ⟨Or.inl rN_5, rfl⟩, ht⟩) (fun _ h9 => by cases h9) dX9_holds_14
  obtain ⟨j_3, ej_4⟩ : ∃ j9 : Nat, j9 = rowI a1 a2 := ⟨_, rfl⟩
  rw [← ej_4] at hr_6 hj_7
  subst hr_6
  refine lv_istore (lv' := [(4, .int (nI j_3)), (0, .ref h0), (1, .int a1), (2, .int a2), (3, .int a3)]) hx hb dX9_holds_6 hl (by decide) rfl (fun ls hl => ?_)
  refine lv_iload hx hb dX9_holds_8 (lv_at hl 0 rfl) ?_
  refine lv_if_ge (tgt := 15) hx hb dX9_holds_10 (by decide) (fun c_9 => ?_) (fun c_9 => absurd (nI_pos' (n := j_3) (by omega)) c_9)
  refine lv_iconst (v := 0) hx hb dX9_holds_15 (by decide) ?_
  refine lv_istore (lv' := [(5, .int 0), (4, .int (nI j_3)), (0, .ref h0), (1, .int a1), (2, .int a2), (3, .int a3)]) hx hb dX9_holds_16 hl (by decide) rfl (fun ls hl => ?_)
  refine lv_iload_n hx hb dX9_holds_18 rfl (lv_at hl 5 rfl) ?_
  by_cases c_10 : a3 = 0
  · refine lv_tableIn (off := 33) (tgt := 52) hx hb dX9_holds_19 (by rw [c_10]; decide) (by rw [c_10]; decide) (by rw [c_10]; rfl) (by decide) ?_
    refine lv_aload_n hx hb dX9_holds_52 rfl (lv_at hl 2 rfl) ?_
    refine lv_iload hx hb dX9_holds_53 (lv_at hl 1 rfl) ?_
    refine vp_callSi (W.runV (As := [.int (nI j_3)]) (rest := []) ⟨hx, hb, hml, hown, hts⟩ (m_all l D h0 ad cs iv fv gv n3 j_3 h3 (by omega) (by omega)) (cwV 1 hts gX9_holds_X9_all rfl rfl rfl (by decide +kernel) ⟨Nat.le_of_ble_eq_true rfl, Nat.le_of_ble_eq_true rfl⟩) ⟨fun a U g mk q => ⟨q.1, q.2.1, va_K.moved (u := U) (U := U.calling g mk a) (Vm.Alike.refl U.vm) q.2.2⟩, va_recv hK hP (ci := 9) (q0 := 0) rfl rfl, fun U hU hW => ⟨rfl, by rw [hU]; exact hP, va_K.moved hW.alike hK⟩⟩ rfl rfl hl.1 rfl (lv_room (Nat.le_of_ble_eq_true rfl)) dX9_holds_55 ⟨Nat.le_of_ble_eq_true rfl, Nat.le_of_ble_eq_true rfl⟩) (fun r_11 k_12 => ?_)
    exact W.iret (v := r_11) hx hb hr (fun t ht hW => ⟨r_11, rfl, Or.inr ⟨fun h9 => Or.elim h9 rN_5 (fun h9 => absurd h9 (by rw [c_10]; decide)), by rw [hldV_0 c_10, ← ej_4]; exact k_12.trans (hM j_3 (by omega))⟩, ht⟩) (fun _ h9 => by cases h9) dX9_holds_58
  by_cases c_13 : a3 = 1
  · refine lv_tableIn (off := 40) (tgt := 59) hx hb dX9_holds_19 (by rw [c_13]; decide) (by rw [c_13]; decide) (by rw [c_13]; rfl) (by decide) ?_
    refine lv_iconst (v := 0) hx hb dX9_holds_59 (by decide) ?_
    refine lv_istore (lv' := [(6, .int 0), (5, .int 0), (4, .int (nI j_3)), (0, .ref h0), (1, .int a1), (2, .int a2), (3, .int a3)]) hx hb dX9_holds_60 hl (by decide) rfl (fun ls hl => ?_)
    refine lp_R (nL := 7) (σ := Nat × Int32) (lv := fun x9 => [(6, .int (nI x9.1)), (5, .int x9.2), (4, .int (nI j_3)), (0, .ref h0)]) (μ := fun x9 => n3 - x9.1) (J := fun x9 => (x9.1 ≤ n3) ∧ (x9.2 = lin (fun i9 => fv 9 (40 * j_3 + i9)) x9.1)) (fun x9 ls hj hl ih_14 => ?_) (0, 0) ls ⟨(show 0 ≤ n3 from by omega), (show 0 = lin (fun i9 => fv 9 (40 * j_3 + i9)) 0 from rfl)⟩ (lv_sub hl [0, 1, 2, 3] rfl)
    obtain ⟨i_15, x_16⟩ := x9
    replace hj : (i_15 ≤ n3) ∧ (x_16 = lin (fun i9 => fv 9 (40 * j_3 + i9)) i_15) := hj
    obtain ⟨hi_17, hs_18⟩ := hj
    have hl : lv_has ls 7 [(6, .int (nI i_15)), (5, .int x_16), (4, .int (nI j_3)), (0, .ref h0)] := hl
    refine lv_iload hx hb dX9_holds_62 (lv_at hl 0 rfl) ?_
    refine lv_aload_n hx hb dX9_holds_64 rfl (lv_at hl 3 rfl) ?_
    refine va_get (D := D) (ci := 9) (v := .int (iv 3)) (C := RX9) (T := TX9) (N := 44) hx hb hts hin9 hown hK hP 0 rfl rfl 3 (by decide) (hts (.fieldLink RX9 20 "HoneyHouseModel" "lots" "I") (List.mem_of_getElem? (i := 1) rfl)) (fun _ h9 => h9) rfl dX9_holds_65 ?_
    refine tp_i (y := nI n3) (h3) ?_
    refine lv_icmp_ge (tgt := 103) hx hb dX9_holds_68 (by decide) (fun c_19 => ?_) (fun c_19 => ?_)
    · have d_20 := n_le (a := n3) (b := i_15) (by omega) (by omega) c_19
      refine lv_iload hx hb dX9_holds_103 (lv_at hl 1 rfl) ?_
      exact W.iret (v := x_16) hx hb hr (fun t ht hW => ⟨x_16, rfl, Or.inr ⟨fun h9 => Or.elim h9 rN_5 (fun h9 => absurd h9 (by rw [c_13]; decide)), by rw [hldV_1 c_13, ← ej_4, hs_18, show i_15 = n3 by omega]; exact (lin_z 40 (by omega) (fun i9 h1 h2 => hZ j_3 i9 (by omega) h1 h2)).symm⟩, ht⟩) (fun _ h9 => by cases h9) dX9_holds_105
    have d_21 := n_nle (a := n3) (b := i_15) (by omega) (by omega) c_19
    refine lv_iload hx hb dX9_holds_71 (lv_at hl 1 rfl) ?_
    refine lv_aload_n hx hb dX9_holds_73 rfl (lv_at hl 3 rfl) ?_
    refine va_get (D := D) (ci := 9) (v := .ref (ad 9)) (C := RX9) (T := TX9) (N := 44) hx hb hts hin9 hown hK hP 0 rfl rfl 9 (by decide) (hts (.fieldLink RX9 38 "HoneyHouseModel" "grams" "[I") (List.mem_of_getElem? (i := 2) rfl)) (fun _ h9 => h9) rfl dX9_holds_74 ?_
    refine lv_bipush (v := 40) hx hb dX9_holds_77 (by decide) ?_
    refine lv_iload hx hb dX9_holds_79 (lv_at hl 2 rfl) ?_
    refine lv_imul hx hb dX9_holds_81 ?_
    refine tp_i (y := nI (40 * j_3)) (pk_mul 40 j_3) ?_
    refine lv_iload hx hb dX9_holds_82 (lv_at hl 0 rfl) ?_
    refine lv_iadd hx hb dX9_holds_84 ?_
    refine tp_i (y := nI ((40 * j_3) + i_15)) (nI_add (40 * j_3) i_15) ?_
    refine va_iald (f := fv 9) (n := 2800) hx hb hK hP 7 6 rfl rfl (vp_in_nI (n := (40 * j_3) + i_15) (by omega) (by omega)) dX9_holds_85 ?_
    refine lv_topi (fun z_22 hz_23 => ?_)
    rw [nI_clamp (n := (40 * j_3) + i_15) (by omega)] at hz_23
    obtain rfl : z_22 = fv 9 ((40 * j_3) + i_15) := hz_23
    refine lv_if_le (tgt := 93) hx hb dX9_holds_86 (by decide) (fun c_24 => ?_) (fun c_24 => ?_)
    · refine lv_iconst (v := 0) hx hb dX9_holds_93 (by decide) ?_
      refine lv_iadd hx hb dX9_holds_94 ?_
      refine lv_istore (lv' := [(5, .int (x_16 + 0)), (6, .int (nI i_15)), (4, .int (nI j_3)), (0, .ref h0)]) hx hb dX9_holds_95 hl (by decide) rfl (fun ls hl => ?_)
      refine lv_iinc (v := nI (i_15 + 1)) (lv' := [(6, .int (nI (i_15 + 1))), (5, .int (x_16 + 0)), (4, .int (nI j_3)), (0, .ref h0)]) hx hb dX9_holds_97 hl (k := 1) rfl (nI_add i_15 1) (by decide) rfl (fun ls hl => ?_)
      refine lv_goto (tgt := 62) hx hb dX9_holds_100 (by decide) ?_
      exact ih_14 (i_15 + 1, x_16 + 0) ls (by show n3 - (i_15 + 1) < n3 - i_15; omega) ⟨(show (i_15 + 1) ≤ n3 from by omega), (show (x_16 + 0) = lin (fun i9 => fv 9 (40 * j_3 + i9)) (i_15 + 1) from by rw [lin_n (f := fun i9 => fv 9 (40 * j_3 + i9)) (i := i_15) (i_le_n c_24), hs_18]; exact Int32.add_zero _)⟩ (lv_sub hl [0, 1, 2, 3] rfl)
    refine lv_iconst (v := 1) hx hb dX9_holds_89 (by decide) ?_
    refine lv_goto (tgt := 94) hx hb dX9_holds_90 (by decide) ?_
    refine lv_iadd hx hb dX9_holds_94 ?_
    refine lv_istore (lv' := [(5, .int (x_16 + 1)), (6, .int (nI i_15)), (4, .int (nI j_3)), (0, .ref h0)]) hx hb dX9_holds_95 hl (by decide) rfl (fun ls hl => ?_)
    refine lv_iinc (v := nI (i_15 + 1)) (lv' := [(6, .int (nI (i_15 + 1))), (5, .int (x_16 + 1)), (4, .int (nI j_3)), (0, .ref h0)]) hx hb dX9_holds_97 hl (k := 1) rfl (nI_add i_15 1) (by decide) rfl (fun ls hl => ?_)
    refine lv_goto (tgt := 62) hx hb dX9_holds_100 (by decide) ?_
    exact ih_14 (i_15 + 1, x_16 + 1) ls (by show n3 - (i_15 + 1) < n3 - i_15; omega) ⟨(show (i_15 + 1) ≤ n3 from by omega), (show (x_16 + 1) = lin (fun i9 => fv 9 (40 * j_3 + i9)) (i_15 + 1) from by rw [lin_y (f := fun i9 => fv 9 (40 * j_3 + i9)) (i := i_15) (i_nle c_24), hs_18])⟩ (lv_sub hl [0, 1, 2, 3] rfl)
  by_cases c_25 : a3 = 2
  · refine lv_tableIn (off := 87) (tgt := 106) hx hb dX9_holds_19 (by rw [c_25]; decide) (by rw [c_25]; decide) (by rw [c_25]; rfl) (by decide) ?_
    refine lv_aload_n hx hb dX9_holds_106 rfl (lv_at hl 2 rfl) ?_
    refine va_get (D := D) (ci := 9) (v := .ref (ad 10)) (C := RX9) (T := TX9) (N := 44) hx hb hts hin9 hown hK hP 0 rfl rfl 10 (by decide) (hts (.fieldLink RX9 41 "HoneyHouseModel" "heat" "[I") (List.mem_of_getElem? (i := 3) rfl)) (fun _ h9 => h9) rfl dX9_holds_107 ?_
    refine lv_iload hx hb dX9_holds_110 (lv_at hl 1 rfl) ?_
    refine va_iald (f := fv 10) (n := 70) hx hb hK hP 8 7 rfl rfl (vp_in_nI (n := j_3) (by omega) (by omega)) dX9_holds_112 ?_
    refine lv_topi (fun z_26 hz_27 => ?_)
    rw [nI_clamp (n := j_3) (by omega)] at hz_27
    obtain rfl : z_26 = fv 10 j_3 := hz_27
    exact W.iret (v := fv 10 j_3) hx hb hr (fun t ht hW => ⟨fv 10 j_3, rfl, Or.inr ⟨fun h9 => Or.elim h9 rN_5 (fun h9 => absurd h9 (by rw [c_25]; decide)), by rw [hldV_2 c_25, ← ej_4]⟩, ht⟩) (fun _ h9 => by cases h9) dX9_holds_113
  by_cases c_28 : a3 = 3
  · refine lv_tableIn (off := 95) (tgt := 114) hx hb dX9_holds_19 (by rw [c_28]; decide) (by rw [c_28]; decide) (by rw [c_28]; rfl) (by decide) ?_
    refine lv_aload_n hx hb dX9_holds_114 rfl (lv_at hl 2 rfl) ?_
    refine va_get (D := D) (ci := 9) (v := .ref (ad 11)) (C := RX9) (T := TX9) (N := 44) hx hb hts hin9 hown hK hP 0 rfl rfl 11 (by decide) (hts (.fieldLink RX9 44 "HoneyHouseModel" "room" "[I") (List.mem_of_getElem? (i := 4) rfl)) (fun _ h9 => h9) rfl dX9_holds_115 ?_
    refine lv_iload hx hb dX9_holds_118 (lv_at hl 1 rfl) ?_
    refine va_iald (f := fv 11) (n := 70) hx hb hK hP 9 8 rfl rfl (vp_in_nI (n := j_3) (by omega) (by omega)) dX9_holds_120 ?_
    refine lv_topi (fun z_29 hz_30 => ?_)
    rw [nI_clamp (n := j_3) (by omega)] at hz_30
    obtain rfl : z_29 = fv 11 j_3 := hz_30
    exact W.iret (v := fv 11 j_3) hx hb hr (fun t ht hW => ⟨fv 11 j_3, rfl, Or.inr ⟨fun h9 => Or.elim h9 rN_5 (fun h9 => absurd h9 (by rw [c_28]; decide)), by rw [hldV_3 c_28, ← ej_4]⟩, ht⟩) (fun _ h9 => by cases h9) dX9_holds_121
  by_cases c_31 : a3 = 4
  · refine lv_tableIn (off := 103) (tgt := 122) hx hb dX9_holds_19 (by rw [c_31]; decide) (by rw [c_31]; decide) (by rw [c_31]; rfl) (by decide) ?_
    refine lv_aload_n hx hb dX9_holds_122 rfl (lv_at hl 2 rfl) ?_
    refine va_get (D := D) (ci := 9) (v := .ref (ad 12)) (C := RX9) (T := TX9) (N := 44) hx hb hts hin9 hown hK hP 0 rfl rfl 12 (by decide) (hts (.fieldLink RX9 47 "HoneyHouseModel" "price" "[I") (List.mem_of_getElem? (i := 5) rfl)) (fun _ h9 => h9) rfl dX9_holds_123 ?_
    refine lv_iload hx hb dX9_holds_126 (lv_at hl 1 rfl) ?_
    refine va_iald (f := fv 12) (n := 70) hx hb hK hP 10 9 rfl rfl (vp_in_nI (n := j_3) (by omega) (by omega)) dX9_holds_128 ?_
    refine lv_topi (fun z_32 hz_33 => ?_)
    rw [nI_clamp (n := j_3) (by omega)] at hz_33
    obtain rfl : z_32 = fv 12 j_3 := hz_33
    exact W.iret (v := fv 12 j_3) hx hb hr (fun t ht hW => ⟨fv 12 j_3, rfl, Or.inr ⟨fun h9 => Or.elim h9 rN_5 (fun h9 => absurd h9 (by rw [c_31]; decide)), by rw [hldV_4 c_31, ← ej_4]⟩, ht⟩) (fun _ h9 => by cases h9) dX9_holds_129
  have nc_10 := lv_neT c_10 (a := 0) (by decide)
  have nc_13 := lv_neT c_13 (a := 1) (by decide)
  have nc_25 := lv_neT c_25 (a := 2) (by decide)
  have nc_28 := lv_neT c_28 (a := 3) (by decide)
  have nc_31 := lv_neT c_31 (a := 4) (by decide)
  refine lv_tableOut (tgt := 130) hx hb dX9_holds_19 (by omega) (by decide) ?_
  refine lv_iconst (v := (-1)) hx hb dX9_holds_130 (by decide) ?_
  exact W.iret (v := (-1)) hx hb hr (fun t ht hW => ⟨(-1), rfl, Or.inl ⟨Or.inr (sw5 c_10 c_13 c_25 c_28 c_31), rfl⟩, ht⟩) (fun _ h9 => by cases h9) dX9_holds_131
set_option maxHeartbeats 4000000 in
set_option maxRecDepth 100000 in
theorem m_paid (l : Launch) (D : va_G) (h0 : Nat) (ad : Nat → Nat) (cs : Nat → ClassId) (iv : Nat → Int32) (fv : Nat → Nat → Int32) (gv : Nat → Int64) (n3 : Nat) (a1 : Int32) (h3 : iv 3 = nI n3) (b3 : n3 ≤ 40) : Met l yX9_paid wsX9_paid ({ frames := 1, cells := 0, slots := 0, locals := 22 }) (va_Pc [.ref h0, .int a1] (fun U => va_P D vwCl (mw h0 ad cs iv fv gv) U.heap ∧ va_K D vwCl (mT cs) U)) (vp_Sl (fun r => ((a1 < 0 ∨ 9 < a1) ∧ r = (-1)) ∨ (¬ (a1 < 0 ∨ 9 < a1) ∧ r = pdS (fv 4) a1 n3))) 0 0 (fun _ => False) := by
  refine Met.ofW (cc := cX9_paid) (maxL := 5) (ret := (some .long)) (by decide) rfl ?_
  intro p e s m args below meth c s₁ B hml hv
  obtain ⟨rfl, hP, hK⟩ := hv
  have hx := B.exec
  have hb := B.bytes
  have hr := B.returns
  have hts := atoms_spec (ws := wsX9_paid) B.pre
  have hown : s.vm.findClass RX9 = some m.cls := findClass_of_methodNamed B.named
  have hlocks := B.notSynchronized
  have hin9 : ∀ w ∈ u_ws RX9 TX9 44, w ∈ wsX9_paid := (fun _ h9 => List.mem_cons_of_mem _ ((List.mem_append_right _ h9)))
  have hl := lv_entry ([.ref h0, .int a1]) (n := 5) (Nat.le_of_ble_eq_true rfl)
  rw [lg_entry_eq]
  generalize (lg_sl ([.ref h0, .int a1]) ++ List.replicate (5 - (lg_sl ([.ref h0, .int a1])).length) Slot.unset).toArray = ls at hl ⊢
  have hl : lv_has ls 5 [(0, .ref h0), (1, .int a1)] := hl
  refine lv_iload_n hx hb dX9_paid_0 rfl (lv_at hl 1 rfl) ?_
  refine lv_iconst (v := 0) hx hb dX9_paid_1 (by decide) ?_
  refine lv_bipush (v := 9) hx hb dX9_paid_2 (by decide) ?_
  refine vp_callSi (W.runS (As := [.int a1, .int 0, .int 9]) (rest := []) ⟨hx, hb, hml, hown, hts⟩ (s_X9_is l a1 0 9) (va_cwS 3 hts gX9_paid_X9_is rfl rfl rfl (by decide +kernel) ⟨Nat.le_of_ble_eq_true rfl, Nat.le_of_ble_eq_true rfl⟩) ⟨fun a U g mk q => q, fun U hU hW => ⟨rfl, trivial⟩⟩ rfl rfl hl.1 rfl (lv_room (Nat.le_of_ble_eq_true rfl)) dX9_paid_4 ⟨Nat.le_of_ble_eq_true rfl, Nat.le_of_ble_eq_true rfl⟩) (fun r_1 k_2 => ?_)
  rcases k_2 with ⟨rfl, o_3⟩ | ⟨rfl, a_4, b_5⟩
  · refine lv_if_ne (tgt := 14) hx hb dX9_paid_7 (by decide) (fun c_6 => absurd (by decide) c_6) (fun c_6 => ?_)
    refine lv_ldc2 hx hb hown (hts (.constantLong RX9 173 (-1)) (List.mem_of_getElem? (i := 1) rfl)) dX9_paid_10 ?_
    exact W.lret (v := (-1)) hx hb hr (fun t ht hW => ⟨(-1), rfl, Or.inl ⟨o_3, rfl⟩, ht⟩) (fun _ h9 => by cases h9) dX9_paid_13
  obtain ⟨j_7, hj_8, hj_9, rfl⟩ := is_nat (a := 0) (b := 9) a_4 b_5 (by omega)
  refine lv_if_ne (tgt := 14) hx hb dX9_paid_7 (by decide) (fun c_10 => ?_) (fun c_10 => absurd c_10 (by decide))
  refine lv_lconst (v := 0) hx hb dX9_paid_14 (by decide) ?_
  refine lv_lstore_n (lv' := [(2, .long 0), (0, .ref h0), (1, .int (nI j_7))]) hx hb dX9_paid_15 rfl hl (by decide) rfl (fun ls hl => ?_)
  refine lv_iconst (v := 0) hx hb dX9_paid_16 (by decide) ?_
  refine lv_istore (lv' := [(4, .int 0), (2, .long 0), (0, .ref h0), (1, .int (nI j_7))]) hx hb dX9_paid_17 hl (by decide) rfl (fun ls hl => ?_)
  refine lp_R (nL := 5) (σ := Nat × Int64) (lv := fun x9 => [(4, .int (nI x9.1)), (2, .long x9.2), (1, .int (nI j_7)), (0, .ref h0)]) (μ := fun x9 => n3 - x9.1) (J := fun x9 => (x9.1 ≤ n3) ∧ (x9.2 = pdS (fv 4) (nI j_7) x9.1)) (fun x9 ls hj hl ih_11 => ?_) (0, 0) ls ⟨(show 0 ≤ n3 from by omega), (show 0 = pdS (fv 4) (nI j_7) 0 from rfl)⟩ (lv_sub hl [0, 1, 3, 2] rfl)
  obtain ⟨i_12, x_13⟩ := x9
  replace hj : (i_12 ≤ n3) ∧ (x_13 = pdS (fv 4) (nI j_7) i_12) := hj
  obtain ⟨hi_14, hs_15⟩ := hj
  have hl : lv_has ls 5 [(4, .int (nI i_12)), (2, .long x_13), (1, .int (nI j_7)), (0, .ref h0)] := hl
  refine lv_iload hx hb dX9_paid_19 (lv_at hl 0 rfl) ?_
  refine lv_aload_n hx hb dX9_paid_21 rfl (lv_at hl 3 rfl) ?_
  refine va_get (D := D) (ci := 9) (v := .int (iv 3)) (C := RX9) (T := TX9) (N := 44) hx hb hts hin9 hown hK hP 0 rfl rfl 3 (by decide) (hts (.fieldLink RX9 20 "HoneyHouseModel" "lots" "I") (List.mem_of_getElem? (i := 2) rfl)) (fun _ h9 => h9) rfl dX9_paid_22 ?_
  refine tp_i (y := nI n3) (h3) ?_
  refine lv_icmp_ge (tgt := 69) hx hb dX9_paid_25 (by decide) (fun c_16 => ?_) (fun c_16 => ?_)
  · have d_17 := n_le (a := n3) (b := i_12) (by omega) (by omega) c_16
    refine lv_lload_n hx hb dX9_paid_69 rfl (lv_at hl 1 rfl) ?_
    exact W.lret (v := x_13) hx hb hr (fun t ht hW => ⟨x_13, rfl, Or.inr ⟨(fun h => Or.elim h a_4 b_5), by rw [hs_15, show i_12 = n3 by omega]⟩, ht⟩) (fun _ h9 => by cases h9) dX9_paid_70
  have d_18 := n_nle (a := n3) (b := i_12) (by omega) (by omega) c_16
  refine lv_lload_n hx hb dX9_paid_28 rfl (lv_at hl 1 rfl) ?_
  refine lv_aload_n hx hb dX9_paid_29 rfl (lv_at hl 3 rfl) ?_
  refine va_get (D := D) (ci := 9) (v := .ref (ad 4)) (C := RX9) (T := TX9) (N := 44) hx hb hts hin9 hown hK hP 0 rfl rfl 4 (by decide) (hts (.fieldLink RX9 23 "HoneyHouseModel" "lot" "[I") (List.mem_of_getElem? (i := 3) rfl)) (fun _ h9 => h9) rfl dX9_paid_30 ?_
  refine lv_bipush (v := 7) hx hb dX9_paid_33 (by decide) ?_
  refine lv_iload hx hb dX9_paid_35 (lv_at hl 0 rfl) ?_
  refine lv_imul hx hb dX9_paid_37 ?_
  refine tp_i (y := nI (7 * i_12)) (pk_mul 7 i_12) ?_
  refine va_iald (f := fv 4) (n := 280) hx hb hK hP 2 1 rfl rfl (vp_in_nI (n := 7 * i_12) (by omega) (by omega)) dX9_paid_38 ?_
  refine lv_topi (fun z_19 hz_20 => ?_)
  rw [nI_clamp (n := 7 * i_12) (by omega)] at hz_20
  obtain rfl : z_19 = fv 4 (7 * i_12) := hz_20
  refine lv_iload_n hx hb dX9_paid_39 rfl (lv_at hl 2 rfl) ?_
  refine lv_icmp_ne (tgt := 60) hx hb dX9_paid_40 (by decide) (fun c_21 => ?_) (fun c_21 => ?_)
  · refine lv_lconst (v := 0) hx hb dX9_paid_60 (by decide) ?_
    refine lv_ladd hx hb dX9_paid_61 ?_
    refine lv_lstore_n (lv' := [(2, .long (x_13 + 0)), (4, .int (nI i_12)), (1, .int (nI j_7)), (0, .ref h0)]) hx hb dX9_paid_62 rfl hl (by decide) rfl (fun ls hl => ?_)
    refine lv_iinc (v := nI (i_12 + 1)) (lv' := [(4, .int (nI (i_12 + 1))), (2, .long (x_13 + 0)), (1, .int (nI j_7)), (0, .ref h0)]) hx hb dX9_paid_63 hl (k := 1) rfl (nI_add i_12 1) (by decide) rfl (fun ls hl => ?_)
    refine lv_goto (tgt := 19) hx hb dX9_paid_66 (by decide) ?_
    exact ih_11 (i_12 + 1, x_13 + 0) ls (by show n3 - (i_12 + 1) < n3 - i_12; omega) ⟨(show (i_12 + 1) ≤ n3 from by omega), (show (x_13 + 0) = pdS (fv 4) (nI j_7) (i_12 + 1) from by rw [pd_no (f4 := fv 4) (a := nI j_7) (i := i_12) c_21, hs_15]; exact Int64.add_zero _)⟩ (lv_sub hl [0, 1, 2, 3] rfl)
  refine lv_aload_n hx hb dX9_paid_43 rfl (lv_at hl 3 rfl) ?_
  refine va_get (D := D) (ci := 9) (v := .ref (ad 4)) (C := RX9) (T := TX9) (N := 44) hx hb hts hin9 hown hK hP 0 rfl rfl 4 (by decide) (hts (.fieldLink RX9 23 "HoneyHouseModel" "lot" "[I") (List.mem_of_getElem? (i := 3) rfl)) (fun _ h9 => h9) rfl dX9_paid_44 ?_
  refine lv_bipush (v := 7) hx hb dX9_paid_47 (by decide) ?_
  refine lv_iload hx hb dX9_paid_49 (lv_at hl 0 rfl) ?_
  refine lv_imul hx hb dX9_paid_51 ?_
  refine tp_i (y := nI (7 * i_12)) (pk_mul 7 i_12) ?_
  refine lv_bipush (v := 6) hx hb dX9_paid_52 (by decide) ?_
  refine lv_iadd hx hb dX9_paid_54 ?_
  refine tp_i (y := nI ((7 * i_12) + 6)) (nI_add (7 * i_12) 6) ?_
  refine va_iald (f := fv 4) (n := 280) hx hb hK hP 2 1 rfl rfl (vp_in_nI (n := (7 * i_12) + 6) (by omega) (by omega)) dX9_paid_55 ?_
  refine lv_topi (fun z_22 hz_23 => ?_)
  rw [nI_clamp (n := (7 * i_12) + 6) (by omega)] at hz_23
  obtain rfl : z_22 = fv 4 ((7 * i_12) + 6) := hz_23
  refine lv_i2l hx hb dX9_paid_56 rfl ?_
  refine lv_goto (tgt := 61) hx hb dX9_paid_57 (by decide) ?_
  refine lv_ladd hx hb dX9_paid_61 ?_
  refine lv_lstore_n (lv' := [(2, .long (x_13 + ((fv 4 ((7 * i_12) + 6)).toInt64))), (4, .int (nI i_12)), (1, .int (nI j_7)), (0, .ref h0)]) hx hb dX9_paid_62 rfl hl (by decide) rfl (fun ls hl => ?_)
  refine lv_iinc (v := nI (i_12 + 1)) (lv' := [(4, .int (nI (i_12 + 1))), (2, .long (x_13 + ((fv 4 ((7 * i_12) + 6)).toInt64))), (1, .int (nI j_7)), (0, .ref h0)]) hx hb dX9_paid_63 hl (k := 1) rfl (nI_add i_12 1) (by decide) rfl (fun ls hl => ?_)
  refine lv_goto (tgt := 19) hx hb dX9_paid_66 (by decide) ?_
  exact ih_11 (i_12 + 1, x_13 + ((fv 4 ((7 * i_12) + 6)).toInt64)) ls (by show n3 - (i_12 + 1) < n3 - i_12; omega) ⟨(show (i_12 + 1) ≤ n3 from by omega), (show (x_13 + ((fv 4 ((7 * i_12) + 6)).toInt64)) = pdS (fv 4) (nI j_7) (i_12 + 1) from by rw [pd_yes (f4 := fv 4) (a := nI j_7) (i := i_12) c_21, hs_15])⟩ (lv_sub hl [0, 1, 2, 3] rfl)
