theorem dX8_trace_0 : decode cX8_trace 0 = .ok (.aload_n 0, 1) := by decide +kernel
theorem dX8_trace_1 : decode cX8_trace 1 = .ok (.iload_n 1, 1) := by decide +kernel
theorem dX8_trace_2 : decode cX8_trace 2 = .ok (.invokevirtual 96, 3) := by decide +kernel
theorem dX8_trace_5 : decode cX8_trace 5 = .ok (.ifnonnull 5, 3) := by decide +kernel
theorem dX8_trace_8 : decode cX8_trace 8 = .ok (.iconst (-1), 1) := by decide +kernel
theorem dX8_trace_9 : decode cX8_trace 9 = .ok (.ireturn, 1) := by decide +kernel
theorem dX8_trace_10 : decode cX8_trace 10 = .ok (.aload_n 0, 1) := by decide +kernel
theorem dX8_trace_11 : decode cX8_trace 11 = .ok (.iconst 0, 1) := by decide +kernel
theorem dX8_trace_12 : decode cX8_trace 12 = .ok (.putfield 272, 3) := by decide +kernel
theorem dX8_trace_15 : decode cX8_trace 15 = .ok (.iconst 0, 1) := by decide +kernel
theorem dX8_trace_16 : decode cX8_trace 16 = .ok (.istore_n 2, 1) := by decide +kernel
theorem dX8_trace_17 : decode cX8_trace 17 = .ok (.iload_n 2, 1) := by decide +kernel
theorem dX8_trace_18 : decode cX8_trace 18 = .ok (.aload_n 0, 1) := by decide +kernel
theorem dX8_trace_19 : decode cX8_trace 19 = .ok (.getfield 21, 3) := by decide +kernel
theorem dX8_trace_22 : decode cX8_trace 22 = .ok (.arraylength, 1) := by decide +kernel
theorem dX8_trace_23 : decode cX8_trace 23 = .ok (.if_icmp .ge 60, 3) := by decide +kernel
theorem dX8_trace_26 : decode cX8_trace 26 = .ok (.aload_n 0, 1) := by decide +kernel
theorem dX8_trace_27 : decode cX8_trace 27 = .ok (.getfield 21, 3) := by decide +kernel
theorem dX8_trace_30 : decode cX8_trace 30 = .ok (.iload_n 2, 1) := by decide +kernel
theorem dX8_trace_31 : decode cX8_trace 31 = .ok (.aaload, 1) := by decide +kernel
theorem dX8_trace_32 : decode cX8_trace 32 = .ok (.astore_n 3, 1) := by decide +kernel
theorem dX8_trace_33 : decode cX8_trace 33 = .ok (.aload_n 3, 1) := by decide +kernel
theorem dX8_trace_34 : decode cX8_trace 34 = .ok (.ifnull 43, 3) := by decide +kernel
theorem dX8_trace_37 : decode cX8_trace 37 = .ok (.aload_n 3, 1) := by decide +kernel
theorem dX8_trace_38 : decode cX8_trace 38 = .ok (.iload_n 1, 1) := by decide +kernel
theorem dX8_trace_39 : decode cX8_trace 39 = .ok (.invokevirtual 181, 3) := by decide +kernel
theorem dX8_trace_42 : decode cX8_trace 42 = .ok (.ifCond .le 35, 3) := by decide +kernel
theorem dX8_trace_45 : decode cX8_trace 45 = .ok (.aload_n 0, 1) := by decide +kernel
theorem dX8_trace_46 : decode cX8_trace 46 = .ok (.getfield 272, 3) := by decide +kernel
theorem dX8_trace_49 : decode cX8_trace 49 = .ok (.aload_n 0, 1) := by decide +kernel
theorem dX8_trace_50 : decode cX8_trace 50 = .ok (.getfield 62, 3) := by decide +kernel
theorem dX8_trace_53 : decode cX8_trace 53 = .ok (.arraylength, 1) := by decide +kernel
theorem dX8_trace_54 : decode cX8_trace 54 = .ok (.if_icmp .ge 23, 3) := by decide +kernel
theorem dX8_trace_57 : decode cX8_trace 57 = .ok (.aload_n 0, 1) := by decide +kernel
theorem dX8_trace_58 : decode cX8_trace 58 = .ok (.getfield 62, 3) := by decide +kernel
theorem dX8_trace_61 : decode cX8_trace 61 = .ok (.aload_n 0, 1) := by decide +kernel
theorem dX8_trace_62 : decode cX8_trace 62 = .ok (.getfield 272, 3) := by decide +kernel
theorem dX8_trace_65 : decode cX8_trace 65 = .ok (.iload_n 2, 1) := by decide +kernel
theorem dX8_trace_66 : decode cX8_trace 66 = .ok (.iastore, 1) := by decide +kernel
theorem dX8_trace_67 : decode cX8_trace 67 = .ok (.aload_n 0, 1) := by decide +kernel
theorem dX8_trace_68 : decode cX8_trace 68 = .ok (.dup, 1) := by decide +kernel
theorem dX8_trace_69 : decode cX8_trace 69 = .ok (.getfield 272, 3) := by decide +kernel
theorem dX8_trace_72 : decode cX8_trace 72 = .ok (.iconst 1, 1) := by decide +kernel
theorem dX8_trace_73 : decode cX8_trace 73 = .ok (.iadd, 1) := by decide +kernel
theorem dX8_trace_74 : decode cX8_trace 74 = .ok (.putfield 272, 3) := by decide +kernel
theorem dX8_trace_77 : decode cX8_trace 77 = .ok (.iinc 2 1, 3) := by decide +kernel
theorem dX8_trace_80 : decode cX8_trace 80 = .ok (.goto (-63), 3) := by decide +kernel
theorem dX8_trace_83 : decode cX8_trace 83 = .ok (.aload_n 0, 1) := by decide +kernel
theorem dX8_trace_84 : decode cX8_trace 84 = .ok (.getfield 272, 3) := by decide +kernel
theorem dX8_trace_87 : decode cX8_trace 87 = .ok (.ireturn, 1) := by decide +kernel
theorem dJ6_bitCount_0f7a4_0 : decode cJ6_bitCount_0f7a4 0 = .ok (.iload_n 0, 1) := by decide +kernel
theorem dJ6_bitCount_0f7a4_1 : decode cJ6_bitCount_0f7a4 1 = .ok (.iload_n 0, 1) := by decide +kernel
theorem dJ6_bitCount_0f7a4_2 : decode cJ6_bitCount_0f7a4 2 = .ok (.iconst 1, 1) := by decide +kernel
theorem dJ6_bitCount_0f7a4_3 : decode cJ6_bitCount_0f7a4 3 = .ok (.iushr, 1) := by decide +kernel
theorem dJ6_bitCount_0f7a4_4 : decode cJ6_bitCount_0f7a4 4 = .ok (.ldc_w 265, 3) := by decide +kernel
theorem dJ6_bitCount_0f7a4_7 : decode cJ6_bitCount_0f7a4 7 = .ok (.iand, 1) := by decide +kernel
theorem dJ6_bitCount_0f7a4_8 : decode cJ6_bitCount_0f7a4 8 = .ok (.isub, 1) := by decide +kernel
theorem dJ6_bitCount_0f7a4_9 : decode cJ6_bitCount_0f7a4 9 = .ok (.istore_n 0, 1) := by decide +kernel
theorem dJ6_bitCount_0f7a4_10 : decode cJ6_bitCount_0f7a4 10 = .ok (.iload_n 0, 1) := by decide +kernel
theorem dJ6_bitCount_0f7a4_11 : decode cJ6_bitCount_0f7a4 11 = .ok (.ldc_w 266, 3) := by decide +kernel
theorem dJ6_bitCount_0f7a4_14 : decode cJ6_bitCount_0f7a4 14 = .ok (.iand, 1) := by decide +kernel
theorem dJ6_bitCount_0f7a4_15 : decode cJ6_bitCount_0f7a4 15 = .ok (.iload_n 0, 1) := by decide +kernel
theorem dJ6_bitCount_0f7a4_16 : decode cJ6_bitCount_0f7a4 16 = .ok (.iconst 2, 1) := by decide +kernel
theorem dJ6_bitCount_0f7a4_17 : decode cJ6_bitCount_0f7a4 17 = .ok (.iushr, 1) := by decide +kernel
theorem dJ6_bitCount_0f7a4_18 : decode cJ6_bitCount_0f7a4 18 = .ok (.ldc_w 266, 3) := by decide +kernel
theorem dJ6_bitCount_0f7a4_21 : decode cJ6_bitCount_0f7a4 21 = .ok (.iand, 1) := by decide +kernel
theorem dJ6_bitCount_0f7a4_22 : decode cJ6_bitCount_0f7a4 22 = .ok (.iadd, 1) := by decide +kernel
theorem dJ6_bitCount_0f7a4_23 : decode cJ6_bitCount_0f7a4 23 = .ok (.istore_n 0, 1) := by decide +kernel
theorem dJ6_bitCount_0f7a4_24 : decode cJ6_bitCount_0f7a4 24 = .ok (.iload_n 0, 1) := by decide +kernel
theorem dJ6_bitCount_0f7a4_25 : decode cJ6_bitCount_0f7a4 25 = .ok (.iload_n 0, 1) := by decide +kernel
theorem dJ6_bitCount_0f7a4_26 : decode cJ6_bitCount_0f7a4 26 = .ok (.iconst 4, 1) := by decide +kernel
theorem dJ6_bitCount_0f7a4_27 : decode cJ6_bitCount_0f7a4 27 = .ok (.iushr, 1) := by decide +kernel
theorem dJ6_bitCount_0f7a4_28 : decode cJ6_bitCount_0f7a4 28 = .ok (.iadd, 1) := by decide +kernel
theorem dJ6_bitCount_0f7a4_29 : decode cJ6_bitCount_0f7a4 29 = .ok (.ldc_w 267, 3) := by decide +kernel
theorem dJ6_bitCount_0f7a4_32 : decode cJ6_bitCount_0f7a4 32 = .ok (.iand, 1) := by decide +kernel
theorem dJ6_bitCount_0f7a4_33 : decode cJ6_bitCount_0f7a4 33 = .ok (.istore_n 0, 1) := by decide +kernel
theorem dJ6_bitCount_0f7a4_34 : decode cJ6_bitCount_0f7a4 34 = .ok (.iload_n 0, 1) := by decide +kernel
theorem dJ6_bitCount_0f7a4_35 : decode cJ6_bitCount_0f7a4 35 = .ok (.iload_n 0, 1) := by decide +kernel
theorem dJ6_bitCount_0f7a4_36 : decode cJ6_bitCount_0f7a4 36 = .ok (.bipush 8, 2) := by decide +kernel
theorem dJ6_bitCount_0f7a4_38 : decode cJ6_bitCount_0f7a4 38 = .ok (.iushr, 1) := by decide +kernel
theorem dJ6_bitCount_0f7a4_39 : decode cJ6_bitCount_0f7a4 39 = .ok (.iadd, 1) := by decide +kernel
theorem dJ6_bitCount_0f7a4_40 : decode cJ6_bitCount_0f7a4 40 = .ok (.istore_n 0, 1) := by decide +kernel
theorem dJ6_bitCount_0f7a4_41 : decode cJ6_bitCount_0f7a4 41 = .ok (.iload_n 0, 1) := by decide +kernel
theorem dJ6_bitCount_0f7a4_42 : decode cJ6_bitCount_0f7a4 42 = .ok (.iload_n 0, 1) := by decide +kernel
theorem dJ6_bitCount_0f7a4_43 : decode cJ6_bitCount_0f7a4 43 = .ok (.bipush 16, 2) := by decide +kernel
theorem dJ6_bitCount_0f7a4_45 : decode cJ6_bitCount_0f7a4 45 = .ok (.iushr, 1) := by decide +kernel
theorem dJ6_bitCount_0f7a4_46 : decode cJ6_bitCount_0f7a4 46 = .ok (.iadd, 1) := by decide +kernel
theorem dJ6_bitCount_0f7a4_47 : decode cJ6_bitCount_0f7a4 47 = .ok (.istore_n 0, 1) := by decide +kernel
theorem dJ6_bitCount_0f7a4_48 : decode cJ6_bitCount_0f7a4 48 = .ok (.iload_n 0, 1) := by decide +kernel
theorem dJ6_bitCount_0f7a4_49 : decode cJ6_bitCount_0f7a4 49 = .ok (.bipush 63, 2) := by decide +kernel
theorem dJ6_bitCount_0f7a4_51 : decode cJ6_bitCount_0f7a4 51 = .ok (.iand, 1) := by decide +kernel
theorem dJ6_bitCount_0f7a4_52 : decode cJ6_bitCount_0f7a4 52 = .ok (.ireturn, 1) := by decide +kernel
theorem dX8_areTanksToBlend_0 : decode cX8_areTanksToBlend 0 = .ok (.iload_n 1, 1) := by decide +kernel
theorem dX8_areTanksToBlend_1 : decode cX8_areTanksToBlend 1 = .ok (.bipush 10, 2) := by decide +kernel
theorem dX8_areTanksToBlend_3 : decode cX8_areTanksToBlend 3 = .ok (.ishr, 1) := by decide +kernel
theorem dX8_areTanksToBlend_4 : decode cX8_areTanksToBlend 4 = .ok (.ifCond .ne 15, 3) := by decide +kernel
theorem dX8_areTanksToBlend_7 : decode cX8_areTanksToBlend 7 = .ok (.iload_n 1, 1) := by decide +kernel
theorem dX8_areTanksToBlend_8 : decode cX8_areTanksToBlend 8 = .ok (.invokestatic 310, 3) := by decide +kernel
theorem dX8_areTanksToBlend_11 : decode cX8_areTanksToBlend 11 = .ok (.iconst 1, 1) := by decide +kernel
theorem dX8_areTanksToBlend_12 : decode cX8_areTanksToBlend 12 = .ok (.iconst 4, 1) := by decide +kernel
theorem dX8_areTanksToBlend_13 : decode cX8_areTanksToBlend 13 = .ok (.invokestatic 85, 3) := by decide +kernel
theorem dX8_areTanksToBlend_16 : decode cX8_areTanksToBlend 16 = .ok (.ifCond .ne 5, 3) := by decide +kernel
theorem dX8_areTanksToBlend_19 : decode cX8_areTanksToBlend 19 = .ok (.iconst 0, 1) := by decide +kernel
theorem dX8_areTanksToBlend_20 : decode cX8_areTanksToBlend 20 = .ok (.ireturn, 1) := by decide +kernel
theorem dX8_areTanksToBlend_21 : decode cX8_areTanksToBlend 21 = .ok (.iconst 0, 1) := by decide +kernel
theorem dX8_areTanksToBlend_22 : decode cX8_areTanksToBlend 22 = .ok (.istore_n 2, 1) := by decide +kernel
theorem dX8_areTanksToBlend_23 : decode cX8_areTanksToBlend 23 = .ok (.iload_n 2, 1) := by decide +kernel
theorem dX8_areTanksToBlend_24 : decode cX8_areTanksToBlend 24 = .ok (.aload_n 0, 1) := by decide +kernel
theorem dX8_areTanksToBlend_25 : decode cX8_areTanksToBlend 25 = .ok (.getfield 17, 3) := by decide +kernel
theorem dX8_areTanksToBlend_28 : decode cX8_areTanksToBlend 28 = .ok (.arraylength, 1) := by decide +kernel
theorem dX8_areTanksToBlend_29 : decode cX8_areTanksToBlend 29 = .ok (.if_icmp .ge 40, 3) := by decide +kernel
theorem dX8_areTanksToBlend_32 : decode cX8_areTanksToBlend 32 = .ok (.iload_n 1, 1) := by decide +kernel
theorem dX8_areTanksToBlend_33 : decode cX8_areTanksToBlend 33 = .ok (.iload_n 2, 1) := by decide +kernel
theorem dX8_areTanksToBlend_34 : decode cX8_areTanksToBlend 34 = .ok (.invokestatic 255, 3) := by decide +kernel
theorem dX8_areTanksToBlend_37 : decode cX8_areTanksToBlend 37 = .ok (.ifCond .eq 26, 3) := by decide +kernel
theorem dX8_areTanksToBlend_40 : decode cX8_areTanksToBlend 40 = .ok (.aload_n 0, 1) := by decide +kernel
theorem dX8_areTanksToBlend_41 : decode cX8_areTanksToBlend 41 = .ok (.getfield 17, 3) := by decide +kernel
theorem dX8_areTanksToBlend_44 : decode cX8_areTanksToBlend 44 = .ok (.iload_n 2, 1) := by decide +kernel
theorem dX8_areTanksToBlend_45 : decode cX8_areTanksToBlend 45 = .ok (.aaload, 1) := by decide +kernel
theorem dX8_areTanksToBlend_46 : decode cX8_areTanksToBlend 46 = .ok (.ifnull 15, 3) := by decide +kernel
theorem dX8_areTanksToBlend_49 : decode cX8_areTanksToBlend 49 = .ok (.aload_n 0, 1) := by decide +kernel
theorem dX8_areTanksToBlend_50 : decode cX8_areTanksToBlend 50 = .ok (.getfield 17, 3) := by decide +kernel
theorem dX8_areTanksToBlend_53 : decode cX8_areTanksToBlend 53 = .ok (.iload_n 2, 1) := by decide +kernel
theorem dX8_areTanksToBlend_54 : decode cX8_areTanksToBlend 54 = .ok (.aaload, 1) := by decide +kernel
theorem dX8_areTanksToBlend_55 : decode cX8_areTanksToBlend 55 = .ok (.getfield 144, 3) := by decide +kernel
theorem dX8_areTanksToBlend_58 : decode cX8_areTanksToBlend 58 = .ok (.ifCond .ne 5, 3) := by decide +kernel
theorem dX8_areTanksToBlend_61 : decode cX8_areTanksToBlend 61 = .ok (.iconst 0, 1) := by decide +kernel
theorem dX8_areTanksToBlend_62 : decode cX8_areTanksToBlend 62 = .ok (.ireturn, 1) := by decide +kernel
theorem dX8_areTanksToBlend_63 : decode cX8_areTanksToBlend 63 = .ok (.iinc 2 1, 3) := by decide +kernel
theorem dX8_areTanksToBlend_66 : decode cX8_areTanksToBlend 66 = .ok (.goto (-43), 3) := by decide +kernel
theorem dX8_areTanksToBlend_69 : decode cX8_areTanksToBlend 69 = .ok (.iconst 1, 1) := by decide +kernel
theorem dX8_areTanksToBlend_70 : decode cX8_areTanksToBlend 70 = .ok (.ireturn, 1) := by decide +kernel
theorem dX0_isWithin_0 : decode cX0_isWithin 0 = .ok (.iload_n 1, 1) := by decide +kernel
theorem dX0_isWithin_1 : decode cX0_isWithin 1 = .ok (.aload_n 0, 1) := by decide +kernel
theorem dX0_isWithin_2 : decode cX0_isWithin 2 = .ok (.getfield 46, 3) := by decide +kernel
theorem dX0_isWithin_5 : decode cX0_isWithin 5 = .ok (.if_icmp .gt 23, 3) := by decide +kernel
theorem dX0_isWithin_8 : decode cX0_isWithin 8 = .ok (.iload_n 2, 1) := by decide +kernel
theorem dX0_isWithin_9 : decode cX0_isWithin 9 = .ok (.aload_n 0, 1) := by decide +kernel
theorem dX0_isWithin_10 : decode cX0_isWithin 10 = .ok (.getfield 49, 3) := by decide +kernel
theorem dX0_isWithin_13 : decode cX0_isWithin 13 = .ok (.if_icmp .lt 15, 3) := by decide +kernel
theorem dX0_isWithin_16 : decode cX0_isWithin 16 = .ok (.iload_n 2, 1) := by decide +kernel
theorem dX0_isWithin_17 : decode cX0_isWithin 17 = .ok (.aload_n 0, 1) := by decide +kernel
theorem dX0_isWithin_18 : decode cX0_isWithin 18 = .ok (.getfield 52, 3) := by decide +kernel
theorem dX0_isWithin_21 : decode cX0_isWithin 21 = .ok (.if_icmp .gt 7, 3) := by decide +kernel
theorem dX0_isWithin_24 : decode cX0_isWithin 24 = .ok (.iconst 1, 1) := by decide +kernel
theorem dX0_isWithin_25 : decode cX0_isWithin 25 = .ok (.goto 4, 3) := by decide +kernel
theorem dX0_isWithin_28 : decode cX0_isWithin 28 = .ok (.iconst 0, 1) := by decide +kernel
theorem dX0_isWithin_29 : decode cX0_isWithin 29 = .ok (.ireturn, 1) := by decide +kernel
theorem dX0_begin_0 : decode cX0_begin 0 = .ok (.aload_n 0, 1) := by decide +kernel
theorem dX0_begin_1 : decode cX0_begin 1 = .ok (.iconst 0, 1) := by decide +kernel
theorem dX0_begin_2 : decode cX0_begin 2 = .ok (.putfield 33, 3) := by decide +kernel
theorem dX0_begin_5 : decode cX0_begin 5 = .ok (.aload_n 0, 1) := by decide +kernel
theorem dX0_begin_6 : decode cX0_begin 6 = .ok (.getfield 18, 3) := by decide +kernel
theorem dX0_begin_9 : decode cX0_begin 9 = .ok (.iconst 0, 1) := by decide +kernel
theorem dX0_begin_10 : decode cX0_begin 10 = .ok (.invokestatic 37, 3) := by decide +kernel
theorem dX0_begin_13 : decode cX0_begin 13 = .ok (.aload_n 0, 1) := by decide +kernel
theorem dX0_begin_14 : decode cX0_begin 14 = .ok (.iload_n 1, 1) := by decide +kernel
theorem dX0_begin_15 : decode cX0_begin 15 = .ok (.putfield 43, 3) := by decide +kernel
theorem dX0_begin_18 : decode cX0_begin 18 = .ok (.aload_n 0, 1) := by decide +kernel
theorem dX0_begin_19 : decode cX0_begin 19 = .ok (.iload_n 1, 1) := by decide +kernel
theorem dX0_begin_20 : decode cX0_begin 20 = .ok (.bipush 10, 2) := by decide +kernel
theorem dX0_begin_22 : decode cX0_begin 22 = .ok (.imul, 1) := by decide +kernel
theorem dX0_begin_23 : decode cX0_begin 23 = .ok (.iload_n 2, 1) := by decide +kernel
theorem dX0_begin_24 : decode cX0_begin 24 = .ok (.imul, 1) := by decide +kernel
theorem dX0_begin_25 : decode cX0_begin 25 = .ok (.putfield 46, 3) := by decide +kernel
theorem dX0_begin_28 : decode cX0_begin 28 = .ok (.aload_n 0, 1) := by decide +kernel
theorem dX0_begin_29 : decode cX0_begin 29 = .ok (.iload_n 1, 1) := by decide +kernel
theorem dX0_begin_30 : decode cX0_begin 30 = .ok (.bipush 10, 2) := by decide +kernel
theorem dX0_begin_32 : decode cX0_begin 32 = .ok (.imul, 1) := by decide +kernel
theorem dX0_begin_33 : decode cX0_begin 33 = .ok (.iload_n 3, 1) := by decide +kernel
theorem dX0_begin_34 : decode cX0_begin 34 = .ok (.imul, 1) := by decide +kernel
theorem dX0_begin_35 : decode cX0_begin 35 = .ok (.putfield 49, 3) := by decide +kernel
theorem dX0_begin_38 : decode cX0_begin 38 = .ok (.aload_n 0, 1) := by decide +kernel
theorem dX0_begin_39 : decode cX0_begin 39 = .ok (.iload_n 1, 1) := by decide +kernel
theorem dX0_begin_40 : decode cX0_begin 40 = .ok (.bipush 10, 2) := by decide +kernel
theorem dX0_begin_42 : decode cX0_begin 42 = .ok (.imul, 1) := by decide +kernel
theorem dX0_begin_43 : decode cX0_begin 43 = .ok (.iload 4, 2) := by decide +kernel
theorem dX0_begin_45 : decode cX0_begin 45 = .ok (.imul, 1) := by decide +kernel
theorem dX0_begin_46 : decode cX0_begin 46 = .ok (.putfield 52, 3) := by decide +kernel
theorem dX0_begin_49 : decode cX0_begin 49 = .ok (.return_, 1) := by decide +kernel
theorem dX0_addTank_0 : decode cX0_addTank 0 = .ok (.aload_n 0, 1) := by decide +kernel
theorem dX0_addTank_1 : decode cX0_addTank 1 = .ok (.getfield 33, 3) := by decide +kernel
theorem dX0_addTank_4 : decode cX0_addTank 4 = .ok (.iconst 4, 1) := by decide +kernel
theorem dX0_addTank_5 : decode cX0_addTank 5 = .ok (.if_icmp .lt 4, 3) := by decide +kernel
theorem dX0_addTank_9 : decode cX0_addTank 9 = .ok (.aload_n 0, 1) := by decide +kernel
theorem dX0_addTank_10 : decode cX0_addTank 10 = .ok (.getfield 15, 3) := by decide +kernel
theorem dX0_addTank_13 : decode cX0_addTank 13 = .ok (.aload_n 0, 1) := by decide +kernel
theorem dX0_addTank_14 : decode cX0_addTank 14 = .ok (.getfield 33, 3) := by decide +kernel
theorem dX0_addTank_17 : decode cX0_addTank 17 = .ok (.iload_n 1, 1) := by decide +kernel
theorem dX0_addTank_18 : decode cX0_addTank 18 = .ok (.iastore, 1) := by decide +kernel
theorem dX0_addTank_19 : decode cX0_addTank 19 = .ok (.aload_n 0, 1) := by decide +kernel
theorem dX0_addTank_20 : decode cX0_addTank 20 = .ok (.getfield 18, 3) := by decide +kernel
theorem dX0_addTank_23 : decode cX0_addTank 23 = .ok (.aload_n 0, 1) := by decide +kernel
theorem dX0_addTank_24 : decode cX0_addTank 24 = .ok (.getfield 33, 3) := by decide +kernel
theorem dX0_addTank_27 : decode cX0_addTank 27 = .ok (.iload_n 2, 1) := by decide +kernel
theorem dX0_addTank_28 : decode cX0_addTank 28 = .ok (.iastore, 1) := by decide +kernel
theorem dX0_addTank_29 : decode cX0_addTank 29 = .ok (.aload_n 0, 1) := by decide +kernel
theorem dX0_addTank_30 : decode cX0_addTank 30 = .ok (.getfield 21, 3) := by decide +kernel
theorem dX0_addTank_33 : decode cX0_addTank 33 = .ok (.aload_n 0, 1) := by decide +kernel
theorem dX0_addTank_34 : decode cX0_addTank 34 = .ok (.getfield 33, 3) := by decide +kernel
theorem dX0_addTank_37 : decode cX0_addTank 37 = .ok (.iload_n 3, 1) := by decide +kernel
theorem dX0_addTank_38 : decode cX0_addTank 38 = .ok (.iastore, 1) := by decide +kernel
theorem dX0_addTank_39 : decode cX0_addTank 39 = .ok (.aload_n 0, 1) := by decide +kernel
theorem dX0_addTank_40 : decode cX0_addTank 40 = .ok (.getfield 24, 3) := by decide +kernel
theorem dX0_addTank_43 : decode cX0_addTank 43 = .ok (.aload_n 0, 1) := by decide +kernel
theorem dX0_addTank_44 : decode cX0_addTank 44 = .ok (.getfield 33, 3) := by decide +kernel
theorem dX0_addTank_47 : decode cX0_addTank 47 = .ok (.iload 4, 2) := by decide +kernel
theorem dX0_addTank_49 : decode cX0_addTank 49 = .ok (.iastore, 1) := by decide +kernel
theorem dX0_addTank_50 : decode cX0_addTank 50 = .ok (.aload_n 0, 1) := by decide +kernel
theorem dX0_addTank_51 : decode cX0_addTank 51 = .ok (.getfield 27, 3) := by decide +kernel
theorem dX0_addTank_54 : decode cX0_addTank 54 = .ok (.aload_n 0, 1) := by decide +kernel
theorem dX0_addTank_55 : decode cX0_addTank 55 = .ok (.getfield 33, 3) := by decide +kernel
theorem dX0_addTank_58 : decode cX0_addTank 58 = .ok (.iload 5, 2) := by decide +kernel
theorem dX0_addTank_60 : decode cX0_addTank 60 = .ok (.iastore, 1) := by decide +kernel
theorem dX0_addTank_61 : decode cX0_addTank 61 = .ok (.aload_n 0, 1) := by decide +kernel
theorem dX0_addTank_62 : decode cX0_addTank 62 = .ok (.dup, 1) := by decide +kernel
theorem dX0_addTank_63 : decode cX0_addTank 63 = .ok (.getfield 33, 3) := by decide +kernel
theorem dX0_addTank_66 : decode cX0_addTank 66 = .ok (.iconst 1, 1) := by decide +kernel
theorem dX0_addTank_67 : decode cX0_addTank 67 = .ok (.iadd, 1) := by decide +kernel
theorem dX0_addTank_68 : decode cX0_addTank 68 = .ok (.putfield 33, 3) := by decide +kernel
theorem dX0_addTank_71 : decode cX0_addTank 71 = .ok (.return_, 1) := by decide +kernel
theorem dX0_tryWith_0 : decode cX0_tryWith 0 = .ok (.aload_n 0, 1) := by decide +kernel
theorem dX0_tryWith_1 : decode cX0_tryWith 1 = .ok (.getfield 43, 3) := by decide +kernel
theorem dX0_tryWith_4 : decode cX0_tryWith 4 = .ok (.iload_n 1, 1) := by decide +kernel
theorem dX0_tryWith_5 : decode cX0_tryWith 5 = .ok (.isub, 1) := by decide +kernel
theorem dX0_tryWith_6 : decode cX0_tryWith 6 = .ok (.iload_n 2, 1) := by decide +kernel
theorem dX0_tryWith_7 : decode cX0_tryWith 7 = .ok (.isub, 1) := by decide +kernel
theorem dX0_tryWith_8 : decode cX0_tryWith 8 = .ok (.istore_n 3, 1) := by decide +kernel
theorem dX0_tryWith_9 : decode cX0_tryWith 9 = .ok (.iload_n 1, 1) := by decide +kernel
theorem dX0_tryWith_10 : decode cX0_tryWith 10 = .ok (.aload_n 0, 1) := by decide +kernel
theorem dX0_tryWith_11 : decode cX0_tryWith 11 = .ok (.getfield 27, 3) := by decide +kernel
theorem dX0_tryWith_14 : decode cX0_tryWith 14 = .ok (.iconst 0, 1) := by decide +kernel
theorem dX0_tryWith_15 : decode cX0_tryWith 15 = .ok (.iaload, 1) := by decide +kernel
theorem dX0_tryWith_16 : decode cX0_tryWith 16 = .ok (.imul, 1) := by decide +kernel
theorem dX0_tryWith_17 : decode cX0_tryWith 17 = .ok (.iload_n 2, 1) := by decide +kernel
theorem dX0_tryWith_18 : decode cX0_tryWith 18 = .ok (.aload_n 0, 1) := by decide +kernel
theorem dX0_tryWith_19 : decode cX0_tryWith 19 = .ok (.getfield 27, 3) := by decide +kernel
theorem dX0_tryWith_22 : decode cX0_tryWith 22 = .ok (.iconst 1, 1) := by decide +kernel
theorem dX0_tryWith_23 : decode cX0_tryWith 23 = .ok (.iaload, 1) := by decide +kernel
theorem dX0_tryWith_24 : decode cX0_tryWith 24 = .ok (.imul, 1) := by decide +kernel
theorem dX0_tryWith_25 : decode cX0_tryWith 25 = .ok (.iadd, 1) := by decide +kernel
theorem dX0_tryWith_26 : decode cX0_tryWith 26 = .ok (.istore 4, 2) := by decide +kernel
theorem dX0_tryWith_28 : decode cX0_tryWith 28 = .ok (.iload_n 1, 1) := by decide +kernel
theorem dX0_tryWith_29 : decode cX0_tryWith 29 = .ok (.aload_n 0, 1) := by decide +kernel
theorem dX0_tryWith_30 : decode cX0_tryWith 30 = .ok (.getfield 21, 3) := by decide +kernel
theorem dX0_tryWith_33 : decode cX0_tryWith 33 = .ok (.iconst 0, 1) := by decide +kernel
theorem dX0_tryWith_34 : decode cX0_tryWith 34 = .ok (.iaload, 1) := by decide +kernel
theorem dX0_tryWith_35 : decode cX0_tryWith 35 = .ok (.imul, 1) := by decide +kernel
theorem dX0_tryWith_36 : decode cX0_tryWith 36 = .ok (.iload_n 2, 1) := by decide +kernel
theorem dX0_tryWith_37 : decode cX0_tryWith 37 = .ok (.aload_n 0, 1) := by decide +kernel
theorem dX0_tryWith_38 : decode cX0_tryWith 38 = .ok (.getfield 21, 3) := by decide +kernel
theorem dX0_tryWith_41 : decode cX0_tryWith 41 = .ok (.iconst 1, 1) := by decide +kernel
theorem dX0_tryWith_42 : decode cX0_tryWith 42 = .ok (.iaload, 1) := by decide +kernel
theorem dX0_tryWith_43 : decode cX0_tryWith 43 = .ok (.imul, 1) := by decide +kernel
theorem dX0_tryWith_44 : decode cX0_tryWith 44 = .ok (.iadd, 1) := by decide +kernel
theorem dX0_tryWith_45 : decode cX0_tryWith 45 = .ok (.istore 5, 2) := by decide +kernel
theorem dX0_tryWith_47 : decode cX0_tryWith 47 = .ok (.iload_n 1, 1) := by decide +kernel
theorem dX0_tryWith_48 : decode cX0_tryWith 48 = .ok (.aload_n 0, 1) := by decide +kernel
theorem dX0_tryWith_49 : decode cX0_tryWith 49 = .ok (.getfield 24, 3) := by decide +kernel
theorem dX0_tryWith_52 : decode cX0_tryWith 52 = .ok (.iconst 0, 1) := by decide +kernel
theorem dX0_tryWith_53 : decode cX0_tryWith 53 = .ok (.iaload, 1) := by decide +kernel
theorem dX0_tryWith_54 : decode cX0_tryWith 54 = .ok (.imul, 1) := by decide +kernel
theorem dX0_tryWith_55 : decode cX0_tryWith 55 = .ok (.iload_n 2, 1) := by decide +kernel
theorem dX0_tryWith_56 : decode cX0_tryWith 56 = .ok (.aload_n 0, 1) := by decide +kernel
theorem dX0_tryWith_57 : decode cX0_tryWith 57 = .ok (.getfield 24, 3) := by decide +kernel
theorem dX0_tryWith_60 : decode cX0_tryWith 60 = .ok (.iconst 1, 1) := by decide +kernel
theorem dX0_tryWith_61 : decode cX0_tryWith 61 = .ok (.iaload, 1) := by decide +kernel
theorem dX0_tryWith_62 : decode cX0_tryWith 62 = .ok (.imul, 1) := by decide +kernel
theorem dX0_tryWith_63 : decode cX0_tryWith 63 = .ok (.iadd, 1) := by decide +kernel
theorem dX0_tryWith_64 : decode cX0_tryWith 64 = .ok (.istore 6, 2) := by decide +kernel
theorem dX0_tryWith_66 : decode cX0_tryWith 66 = .ok (.iconst 0, 1) := by decide +kernel
theorem dX0_tryWith_67 : decode cX0_tryWith 67 = .ok (.iload_n 3, 1) := by decide +kernel
theorem dX0_tryWith_68 : decode cX0_tryWith 68 = .ok (.aload_n 0, 1) := by decide +kernel
theorem dX0_tryWith_69 : decode cX0_tryWith 69 = .ok (.getfield 18, 3) := by decide +kernel
theorem dX0_tryWith_72 : decode cX0_tryWith 72 = .ok (.iconst 3, 1) := by decide +kernel
theorem dX0_tryWith_73 : decode cX0_tryWith 73 = .ok (.iaload, 1) := by decide +kernel
theorem dX0_tryWith_74 : decode cX0_tryWith 74 = .ok (.isub, 1) := by decide +kernel
theorem dX0_tryWith_75 : decode cX0_tryWith 75 = .ok (.invokestatic 71, 3) := by decide +kernel
theorem dX0_tryWith_78 : decode cX0_tryWith 78 = .ok (.istore 7, 2) := by decide +kernel
theorem dX0_tryWith_80 : decode cX0_tryWith 80 = .ok (.iload 7, 2) := by decide +kernel
theorem dX0_tryWith_82 : decode cX0_tryWith 82 = .ok (.aload_n 0, 1) := by decide +kernel
theorem dX0_tryWith_83 : decode cX0_tryWith 83 = .ok (.getfield 18, 3) := by decide +kernel
theorem dX0_tryWith_86 : decode cX0_tryWith 86 = .ok (.iconst 2, 1) := by decide +kernel
theorem dX0_tryWith_87 : decode cX0_tryWith 87 = .ok (.iaload, 1) := by decide +kernel
theorem dX0_tryWith_88 : decode cX0_tryWith 88 = .ok (.iload_n 3, 1) := by decide +kernel
theorem dX0_tryWith_89 : decode cX0_tryWith 89 = .ok (.invokestatic 58, 3) := by decide +kernel
theorem dX0_tryWith_92 : decode cX0_tryWith 92 = .ok (.if_icmp .gt 144, 3) := by decide +kernel
theorem dX0_tryWith_95 : decode cX0_tryWith 95 = .ok (.iload_n 3, 1) := by decide +kernel
theorem dX0_tryWith_96 : decode cX0_tryWith 96 = .ok (.iload 7, 2) := by decide +kernel
theorem dX0_tryWith_98 : decode cX0_tryWith 98 = .ok (.isub, 1) := by decide +kernel
theorem dX0_tryWith_99 : decode cX0_tryWith 99 = .ok (.istore 8, 2) := by decide +kernel
theorem dX0_tryWith_101 : decode cX0_tryWith 101 = .ok (.iload 4, 2) := by decide +kernel
theorem dX0_tryWith_103 : decode cX0_tryWith 103 = .ok (.iload 7, 2) := by decide +kernel
theorem dX0_tryWith_105 : decode cX0_tryWith 105 = .ok (.aload_n 0, 1) := by decide +kernel
theorem dX0_tryWith_106 : decode cX0_tryWith 106 = .ok (.getfield 27, 3) := by decide +kernel
theorem dX0_tryWith_109 : decode cX0_tryWith 109 = .ok (.iconst 2, 1) := by decide +kernel
theorem dX0_tryWith_110 : decode cX0_tryWith 110 = .ok (.iaload, 1) := by decide +kernel
theorem dX0_tryWith_111 : decode cX0_tryWith 111 = .ok (.imul, 1) := by decide +kernel
theorem dX0_tryWith_112 : decode cX0_tryWith 112 = .ok (.iadd, 1) := by decide +kernel
theorem dX0_tryWith_113 : decode cX0_tryWith 113 = .ok (.iload 8, 2) := by decide +kernel
theorem dX0_tryWith_115 : decode cX0_tryWith 115 = .ok (.aload_n 0, 1) := by decide +kernel
theorem dX0_tryWith_116 : decode cX0_tryWith 116 = .ok (.getfield 27, 3) := by decide +kernel
theorem dX0_tryWith_119 : decode cX0_tryWith 119 = .ok (.iconst 3, 1) := by decide +kernel
theorem dX0_tryWith_120 : decode cX0_tryWith 120 = .ok (.iaload, 1) := by decide +kernel
theorem dX0_tryWith_121 : decode cX0_tryWith 121 = .ok (.imul, 1) := by decide +kernel
theorem dX0_tryWith_122 : decode cX0_tryWith 122 = .ok (.iadd, 1) := by decide +kernel
theorem dX0_tryWith_123 : decode cX0_tryWith 123 = .ok (.istore 9, 2) := by decide +kernel
theorem dX0_tryWith_125 : decode cX0_tryWith 125 = .ok (.aload_n 0, 1) := by decide +kernel
theorem dX0_tryWith_126 : decode cX0_tryWith 126 = .ok (.getfield 55, 3) := by decide +kernel
theorem dX0_tryWith_129 : decode cX0_tryWith 129 = .ok (.bipush (-2), 2) := by decide +kernel
theorem dX0_tryWith_131 : decode cX0_tryWith 131 = .ok (.if_icmp .eq 12, 3) := by decide +kernel
theorem dX0_tryWith_134 : decode cX0_tryWith 134 = .ok (.iload 9, 2) := by decide +kernel
theorem dX0_tryWith_136 : decode cX0_tryWith 136 = .ok (.aload_n 0, 1) := by decide +kernel
theorem dX0_tryWith_137 : decode cX0_tryWith 137 = .ok (.getfield 55, 3) := by decide +kernel
theorem dX0_tryWith_140 : decode cX0_tryWith 140 = .ok (.if_icmp .ge 90, 3) := by decide +kernel
theorem dX0_tryWith_143 : decode cX0_tryWith 143 = .ok (.aload_n 0, 1) := by decide +kernel
theorem dX0_tryWith_144 : decode cX0_tryWith 144 = .ok (.iload 5, 2) := by decide +kernel
theorem dX0_tryWith_146 : decode cX0_tryWith 146 = .ok (.iload 7, 2) := by decide +kernel
theorem dX0_tryWith_148 : decode cX0_tryWith 148 = .ok (.aload_n 0, 1) := by decide +kernel
theorem dX0_tryWith_149 : decode cX0_tryWith 149 = .ok (.getfield 21, 3) := by decide +kernel
theorem dX0_tryWith_152 : decode cX0_tryWith 152 = .ok (.iconst 2, 1) := by decide +kernel
theorem dX0_tryWith_153 : decode cX0_tryWith 153 = .ok (.iaload, 1) := by decide +kernel
theorem dX0_tryWith_154 : decode cX0_tryWith 154 = .ok (.imul, 1) := by decide +kernel
theorem dX0_tryWith_155 : decode cX0_tryWith 155 = .ok (.iadd, 1) := by decide +kernel
theorem dX0_tryWith_156 : decode cX0_tryWith 156 = .ok (.iload 8, 2) := by decide +kernel
theorem dX0_tryWith_158 : decode cX0_tryWith 158 = .ok (.aload_n 0, 1) := by decide +kernel
theorem dX0_tryWith_159 : decode cX0_tryWith 159 = .ok (.getfield 21, 3) := by decide +kernel
theorem dX0_tryWith_162 : decode cX0_tryWith 162 = .ok (.iconst 3, 1) := by decide +kernel
theorem dX0_tryWith_163 : decode cX0_tryWith 163 = .ok (.iaload, 1) := by decide +kernel
theorem dX0_tryWith_164 : decode cX0_tryWith 164 = .ok (.imul, 1) := by decide +kernel
theorem dX0_tryWith_165 : decode cX0_tryWith 165 = .ok (.iadd, 1) := by decide +kernel
theorem dX0_tryWith_166 : decode cX0_tryWith 166 = .ok (.iload 6, 2) := by decide +kernel
theorem dX0_tryWith_168 : decode cX0_tryWith 168 = .ok (.iload 7, 2) := by decide +kernel
theorem dX0_tryWith_170 : decode cX0_tryWith 170 = .ok (.aload_n 0, 1) := by decide +kernel
theorem dX0_tryWith_171 : decode cX0_tryWith 171 = .ok (.getfield 24, 3) := by decide +kernel
theorem dX0_tryWith_174 : decode cX0_tryWith 174 = .ok (.iconst 2, 1) := by decide +kernel
theorem dX0_tryWith_175 : decode cX0_tryWith 175 = .ok (.iaload, 1) := by decide +kernel
theorem dX0_tryWith_176 : decode cX0_tryWith 176 = .ok (.imul, 1) := by decide +kernel
theorem dX0_tryWith_177 : decode cX0_tryWith 177 = .ok (.iadd, 1) := by decide +kernel
theorem dX0_tryWith_178 : decode cX0_tryWith 178 = .ok (.iload 8, 2) := by decide +kernel
theorem dX0_tryWith_180 : decode cX0_tryWith 180 = .ok (.aload_n 0, 1) := by decide +kernel
theorem dX0_tryWith_181 : decode cX0_tryWith 181 = .ok (.getfield 24, 3) := by decide +kernel
theorem dX0_tryWith_184 : decode cX0_tryWith 184 = .ok (.iconst 3, 1) := by decide +kernel
theorem dX0_tryWith_185 : decode cX0_tryWith 185 = .ok (.iaload, 1) := by decide +kernel
theorem dX0_tryWith_186 : decode cX0_tryWith 186 = .ok (.imul, 1) := by decide +kernel
theorem dX0_tryWith_187 : decode cX0_tryWith 187 = .ok (.iadd, 1) := by decide +kernel
theorem dX0_tryWith_188 : decode cX0_tryWith 188 = .ok (.invokevirtual 74, 3) := by decide +kernel
theorem dX0_tryWith_191 : decode cX0_tryWith 191 = .ok (.ifCond .eq 39, 3) := by decide +kernel
theorem dX0_tryWith_194 : decode cX0_tryWith 194 = .ok (.aload_n 0, 1) := by decide +kernel
theorem dX0_tryWith_195 : decode cX0_tryWith 195 = .ok (.iload 9, 2) := by decide +kernel
theorem dX0_tryWith_197 : decode cX0_tryWith 197 = .ok (.putfield 55, 3) := by decide +kernel
theorem dX0_tryWith_200 : decode cX0_tryWith 200 = .ok (.aload_n 0, 1) := by decide +kernel
theorem dX0_tryWith_201 : decode cX0_tryWith 201 = .ok (.getfield 30, 3) := by decide +kernel
theorem dX0_tryWith_204 : decode cX0_tryWith 204 = .ok (.iconst 0, 1) := by decide +kernel
theorem dX0_tryWith_205 : decode cX0_tryWith 205 = .ok (.iload_n 1, 1) := by decide +kernel
theorem dX0_tryWith_206 : decode cX0_tryWith 206 = .ok (.iastore, 1) := by decide +kernel
theorem dX0_tryWith_207 : decode cX0_tryWith 207 = .ok (.aload_n 0, 1) := by decide +kernel
theorem dX0_tryWith_208 : decode cX0_tryWith 208 = .ok (.getfield 30, 3) := by decide +kernel
theorem dX0_tryWith_211 : decode cX0_tryWith 211 = .ok (.iconst 1, 1) := by decide +kernel
theorem dX0_tryWith_212 : decode cX0_tryWith 212 = .ok (.iload_n 2, 1) := by decide +kernel
theorem dX0_tryWith_213 : decode cX0_tryWith 213 = .ok (.iastore, 1) := by decide +kernel
theorem dX0_tryWith_214 : decode cX0_tryWith 214 = .ok (.aload_n 0, 1) := by decide +kernel
theorem dX0_tryWith_215 : decode cX0_tryWith 215 = .ok (.getfield 30, 3) := by decide +kernel
theorem dX0_tryWith_218 : decode cX0_tryWith 218 = .ok (.iconst 2, 1) := by decide +kernel
theorem dX0_tryWith_219 : decode cX0_tryWith 219 = .ok (.iload 7, 2) := by decide +kernel
theorem dX0_tryWith_221 : decode cX0_tryWith 221 = .ok (.iastore, 1) := by decide +kernel
theorem dX0_tryWith_222 : decode cX0_tryWith 222 = .ok (.aload_n 0, 1) := by decide +kernel
theorem dX0_tryWith_223 : decode cX0_tryWith 223 = .ok (.getfield 30, 3) := by decide +kernel
theorem dX0_tryWith_226 : decode cX0_tryWith 226 = .ok (.iconst 3, 1) := by decide +kernel
theorem dX0_tryWith_227 : decode cX0_tryWith 227 = .ok (.iload 8, 2) := by decide +kernel
theorem dX0_tryWith_229 : decode cX0_tryWith 229 = .ok (.iastore, 1) := by decide +kernel
theorem dX0_tryWith_230 : decode cX0_tryWith 230 = .ok (.iinc 7 1, 3) := by decide +kernel
theorem dX0_tryWith_233 : decode cX0_tryWith 233 = .ok (.goto (-153), 3) := by decide +kernel
theorem dX0_tryWith_236 : decode cX0_tryWith 236 = .ok (.return_, 1) := by decide +kernel
theorem dX0_keepBest_0 : decode cX0_keepBest 0 = .ok (.aload_n 0, 1) := by decide +kernel
theorem dX0_keepBest_1 : decode cX0_keepBest 1 = .ok (.getfield 9, 3) := by decide +kernel
theorem dX0_keepBest_4 : decode cX0_keepBest 4 = .ok (.iconst 0, 1) := by decide +kernel
theorem dX0_keepBest_5 : decode cX0_keepBest 5 = .ok (.invokestatic 37, 3) := by decide +kernel
theorem dX0_keepBest_8 : decode cX0_keepBest 8 = .ok (.iconst 0, 1) := by decide +kernel
theorem dX0_keepBest_9 : decode cX0_keepBest 9 = .ok (.istore_n 1, 1) := by decide +kernel
theorem dX0_keepBest_10 : decode cX0_keepBest 10 = .ok (.iload_n 1, 1) := by decide +kernel
theorem dX0_keepBest_11 : decode cX0_keepBest 11 = .ok (.aload_n 0, 1) := by decide +kernel
theorem dX0_keepBest_12 : decode cX0_keepBest 12 = .ok (.getfield 33, 3) := by decide +kernel
theorem dX0_keepBest_15 : decode cX0_keepBest 15 = .ok (.if_icmp .ge 46, 3) := by decide +kernel
theorem dX0_keepBest_18 : decode cX0_keepBest 18 = .ok (.iload_n 1, 1) := by decide +kernel
theorem dX0_keepBest_19 : decode cX0_keepBest 19 = .ok (.iconst 4, 1) := by decide +kernel
theorem dX0_keepBest_20 : decode cX0_keepBest 20 = .ok (.if_icmp .ge 41, 3) := by decide +kernel
theorem dX0_keepBest_23 : decode cX0_keepBest 23 = .ok (.aload_n 0, 1) := by decide +kernel
theorem dX0_keepBest_24 : decode cX0_keepBest 24 = .ok (.getfield 15, 3) := by decide +kernel
theorem dX0_keepBest_27 : decode cX0_keepBest 27 = .ok (.iload_n 1, 1) := by decide +kernel
theorem dX0_keepBest_28 : decode cX0_keepBest 28 = .ok (.iaload, 1) := by decide +kernel
theorem dX0_keepBest_29 : decode cX0_keepBest 29 = .ok (.istore_n 2, 1) := by decide +kernel
theorem dX0_keepBest_30 : decode cX0_keepBest 30 = .ok (.iload_n 2, 1) := by decide +kernel
theorem dX0_keepBest_31 : decode cX0_keepBest 31 = .ok (.ifCond .lt 24, 3) := by decide +kernel
theorem dX0_keepBest_34 : decode cX0_keepBest 34 = .ok (.iload_n 2, 1) := by decide +kernel
theorem dX0_keepBest_35 : decode cX0_keepBest 35 = .ok (.aload_n 0, 1) := by decide +kernel
theorem dX0_keepBest_36 : decode cX0_keepBest 36 = .ok (.getfield 9, 3) := by decide +kernel
theorem dX0_keepBest_39 : decode cX0_keepBest 39 = .ok (.arraylength, 1) := by decide +kernel
theorem dX0_keepBest_40 : decode cX0_keepBest 40 = .ok (.if_icmp .ge 15, 3) := by decide +kernel
theorem dX0_keepBest_43 : decode cX0_keepBest 43 = .ok (.aload_n 0, 1) := by decide +kernel
theorem dX0_keepBest_44 : decode cX0_keepBest 44 = .ok (.getfield 9, 3) := by decide +kernel
theorem dX0_keepBest_47 : decode cX0_keepBest 47 = .ok (.iload_n 2, 1) := by decide +kernel
theorem dX0_keepBest_48 : decode cX0_keepBest 48 = .ok (.aload_n 0, 1) := by decide +kernel
theorem dX0_keepBest_49 : decode cX0_keepBest 49 = .ok (.getfield 30, 3) := by decide +kernel
theorem dX0_keepBest_52 : decode cX0_keepBest 52 = .ok (.iload_n 1, 1) := by decide +kernel
theorem dX0_keepBest_53 : decode cX0_keepBest 53 = .ok (.iaload, 1) := by decide +kernel
theorem dX0_keepBest_54 : decode cX0_keepBest 54 = .ok (.iastore, 1) := by decide +kernel
theorem dX0_keepBest_55 : decode cX0_keepBest 55 = .ok (.iinc 1 1, 3) := by decide +kernel
theorem dX0_keepBest_58 : decode cX0_keepBest 58 = .ok (.goto (-48), 3) := by decide +kernel
theorem dX0_keepBest_61 : decode cX0_keepBest 61 = .ok (.aload_n 0, 1) := by decide +kernel
theorem dX0_keepBest_62 : decode cX0_keepBest 62 = .ok (.iconst 1, 1) := by decide +kernel
theorem dX0_keepBest_63 : decode cX0_keepBest 63 = .ok (.putfield 78, 3) := by decide +kernel
theorem dX0_keepBest_66 : decode cX0_keepBest 66 = .ok (.return_, 1) := by decide +kernel
theorem dX0_leastPrice_0 : decode cX0_leastPrice 0 = .ok (.aload_n 0, 1) := by decide +kernel
theorem dX0_leastPrice_1 : decode cX0_leastPrice 1 = .ok (.bipush (-2), 2) := by decide +kernel
theorem dX0_leastPrice_3 : decode cX0_leastPrice 3 = .ok (.putfield 55, 3) := by decide +kernel
theorem dX0_leastPrice_6 : decode cX0_leastPrice 6 = .ok (.iconst 0, 1) := by decide +kernel
theorem dX0_leastPrice_7 : decode cX0_leastPrice 7 = .ok (.istore_n 1, 1) := by decide +kernel
theorem dX0_leastPrice_8 : decode cX0_leastPrice 8 = .ok (.iload_n 1, 1) := by decide +kernel
theorem dX0_leastPrice_9 : decode cX0_leastPrice 9 = .ok (.aload_n 0, 1) := by decide +kernel
theorem dX0_leastPrice_10 : decode cX0_leastPrice 10 = .ok (.getfield 18, 3) := by decide +kernel
theorem dX0_leastPrice_13 : decode cX0_leastPrice 13 = .ok (.iconst 0, 1) := by decide +kernel
theorem dX0_leastPrice_14 : decode cX0_leastPrice 14 = .ok (.iaload, 1) := by decide +kernel
theorem dX0_leastPrice_15 : decode cX0_leastPrice 15 = .ok (.aload_n 0, 1) := by decide +kernel
theorem dX0_leastPrice_16 : decode cX0_leastPrice 16 = .ok (.getfield 43, 3) := by decide +kernel
theorem dX0_leastPrice_19 : decode cX0_leastPrice 19 = .ok (.invokestatic 58, 3) := by decide +kernel
theorem dX0_leastPrice_22 : decode cX0_leastPrice 22 = .ok (.if_icmp .gt 42, 3) := by decide +kernel
theorem dX0_leastPrice_25 : decode cX0_leastPrice 25 = .ok (.iconst 0, 1) := by decide +kernel
theorem dX0_leastPrice_26 : decode cX0_leastPrice 26 = .ok (.istore_n 2, 1) := by decide +kernel
theorem dX0_leastPrice_27 : decode cX0_leastPrice 27 = .ok (.iload_n 2, 1) := by decide +kernel
theorem dX0_leastPrice_28 : decode cX0_leastPrice 28 = .ok (.aload_n 0, 1) := by decide +kernel
theorem dX0_leastPrice_29 : decode cX0_leastPrice 29 = .ok (.getfield 18, 3) := by decide +kernel
theorem dX0_leastPrice_32 : decode cX0_leastPrice 32 = .ok (.iconst 1, 1) := by decide +kernel
theorem dX0_leastPrice_33 : decode cX0_leastPrice 33 = .ok (.iaload, 1) := by decide +kernel
theorem dX0_leastPrice_34 : decode cX0_leastPrice 34 = .ok (.aload_n 0, 1) := by decide +kernel
theorem dX0_leastPrice_35 : decode cX0_leastPrice 35 = .ok (.getfield 43, 3) := by decide +kernel
theorem dX0_leastPrice_38 : decode cX0_leastPrice 38 = .ok (.iload_n 1, 1) := by decide +kernel
theorem dX0_leastPrice_39 : decode cX0_leastPrice 39 = .ok (.isub, 1) := by decide +kernel
theorem dX0_leastPrice_40 : decode cX0_leastPrice 40 = .ok (.invokestatic 58, 3) := by decide +kernel
theorem dX0_leastPrice_43 : decode cX0_leastPrice 43 = .ok (.if_icmp .gt 15, 3) := by decide +kernel
theorem dX0_leastPrice_46 : decode cX0_leastPrice 46 = .ok (.aload_n 0, 1) := by decide +kernel
theorem dX0_leastPrice_47 : decode cX0_leastPrice 47 = .ok (.iload_n 1, 1) := by decide +kernel
theorem dX0_leastPrice_48 : decode cX0_leastPrice 48 = .ok (.iload_n 2, 1) := by decide +kernel
theorem dX0_leastPrice_49 : decode cX0_leastPrice 49 = .ok (.invokevirtual 64, 3) := by decide +kernel
theorem dX0_leastPrice_52 : decode cX0_leastPrice 52 = .ok (.iinc 2 1, 3) := by decide +kernel
theorem dX0_leastPrice_55 : decode cX0_leastPrice 55 = .ok (.goto (-28), 3) := by decide +kernel
theorem dX0_leastPrice_58 : decode cX0_leastPrice 58 = .ok (.iinc 1 1, 3) := by decide +kernel
theorem dX0_leastPrice_61 : decode cX0_leastPrice 61 = .ok (.goto (-53), 3) := by decide +kernel
theorem dX0_leastPrice_64 : decode cX0_leastPrice 64 = .ok (.aload_n 0, 1) := by decide +kernel
theorem dX0_leastPrice_65 : decode cX0_leastPrice 65 = .ok (.getfield 55, 3) := by decide +kernel
theorem dX0_leastPrice_68 : decode cX0_leastPrice 68 = .ok (.bipush (-2), 2) := by decide +kernel
theorem dX0_leastPrice_70 : decode cX0_leastPrice 70 = .ok (.if_icmp .eq 7, 3) := by decide +kernel
theorem dX0_leastPrice_73 : decode cX0_leastPrice 73 = .ok (.aload_n 0, 1) := by decide +kernel
theorem dX0_leastPrice_74 : decode cX0_leastPrice 74 = .ok (.invokevirtual 68, 3) := by decide +kernel
theorem dX0_leastPrice_77 : decode cX0_leastPrice 77 = .ok (.aload_n 0, 1) := by decide +kernel
theorem dX0_leastPrice_78 : decode cX0_leastPrice 78 = .ok (.getfield 55, 3) := by decide +kernel
theorem dX0_leastPrice_81 : decode cX0_leastPrice 81 = .ok (.ireturn, 1) := by decide +kernel
theorem dX8_blend_0 : decode cX8_blend 0 = .ok (.iload_n 2, 1) := by decide +kernel
theorem dX8_blend_1 : decode cX8_blend 1 = .ok (.iconst 1, 1) := by decide +kernel
theorem dX8_blend_2 : decode cX8_blend 2 = .ok (.bipush 40, 2) := by decide +kernel
theorem dX8_blend_4 : decode cX8_blend 4 = .ok (.invokestatic 85, 3) := by decide +kernel
theorem dX8_blend_7 : decode cX8_blend 7 = .ok (.ifCond .eq 42, 3) := by decide +kernel
theorem dX8_blend_10 : decode cX8_blend 10 = .ok (.iload_n 3, 1) := by decide +kernel
theorem dX8_blend_11 : decode cX8_blend 11 = .ok (.iconst 0, 1) := by decide +kernel
theorem dX8_blend_12 : decode cX8_blend 12 = .ok (.sipush 300, 3) := by decide +kernel
theorem dX8_blend_15 : decode cX8_blend 15 = .ok (.invokestatic 85, 3) := by decide +kernel
theorem dX8_blend_18 : decode cX8_blend 18 = .ok (.ifCond .eq 31, 3) := by decide +kernel
theorem dX8_blend_21 : decode cX8_blend 21 = .ok (.iload 4, 2) := by decide +kernel
theorem dX8_blend_23 : decode cX8_blend 23 = .ok (.iconst 0, 1) := by decide +kernel
theorem dX8_blend_24 : decode cX8_blend 24 = .ok (.sipush 140, 3) := by decide +kernel
theorem dX8_blend_27 : decode cX8_blend 27 = .ok (.invokestatic 85, 3) := by decide +kernel
theorem dX8_blend_30 : decode cX8_blend 30 = .ok (.ifCond .eq 19, 3) := by decide +kernel
theorem dX8_blend_33 : decode cX8_blend 33 = .ok (.iload 5, 2) := by decide +kernel
theorem dX8_blend_35 : decode cX8_blend 35 = .ok (.iconst 0, 1) := by decide +kernel
theorem dX8_blend_36 : decode cX8_blend 36 = .ok (.sipush 140, 3) := by decide +kernel
theorem dX8_blend_39 : decode cX8_blend 39 = .ok (.invokestatic 85, 3) := by decide +kernel
theorem dX8_blend_42 : decode cX8_blend 42 = .ok (.ifCond .eq 7, 3) := by decide +kernel
theorem dX8_blend_45 : decode cX8_blend 45 = .ok (.iconst 1, 1) := by decide +kernel
theorem dX8_blend_46 : decode cX8_blend 46 = .ok (.goto 4, 3) := by decide +kernel
theorem dX8_blend_49 : decode cX8_blend 49 = .ok (.iconst 0, 1) := by decide +kernel
theorem dX8_blend_50 : decode cX8_blend 50 = .ok (.istore 6, 2) := by decide +kernel
theorem dX8_blend_52 : decode cX8_blend 52 = .ok (.iload 6, 2) := by decide +kernel
theorem dX8_blend_54 : decode cX8_blend 54 = .ok (.ifCond .eq 11, 3) := by decide +kernel
theorem dX8_blend_57 : decode cX8_blend 57 = .ok (.aload_n 0, 1) := by decide +kernel
theorem dX8_blend_58 : decode cX8_blend 58 = .ok (.iload_n 1, 1) := by decide +kernel
theorem dX8_blend_59 : decode cX8_blend 59 = .ok (.invokevirtual 248, 3) := by decide +kernel
theorem dX8_blend_62 : decode cX8_blend 62 = .ok (.ifCond .ne 5, 3) := by decide +kernel
theorem dX8_blend_65 : decode cX8_blend 65 = .ok (.iconst (-1), 1) := by decide +kernel
theorem dX8_blend_66 : decode cX8_blend 66 = .ok (.ireturn, 1) := by decide +kernel
theorem dX8_blend_67 : decode cX8_blend 67 = .ok (.aload_n 0, 1) := by decide +kernel
theorem dX8_blend_68 : decode cX8_blend 68 = .ok (.getfield 54, 3) := by decide +kernel
theorem dX8_blend_71 : decode cX8_blend 71 = .ok (.iload_n 2, 1) := by decide +kernel
theorem dX8_blend_72 : decode cX8_blend 72 = .ok (.iload_n 3, 1) := by decide +kernel
theorem dX8_blend_73 : decode cX8_blend 73 = .ok (.iload 4, 2) := by decide +kernel
theorem dX8_blend_75 : decode cX8_blend 75 = .ok (.iload 5, 2) := by decide +kernel
theorem dX8_blend_77 : decode cX8_blend 77 = .ok (.invokevirtual 251, 3) := by decide +kernel
theorem dX8_blend_80 : decode cX8_blend 80 = .ok (.iconst 0, 1) := by decide +kernel
theorem dX8_blend_81 : decode cX8_blend 81 = .ok (.istore 7, 2) := by decide +kernel
theorem dX8_blend_83 : decode cX8_blend 83 = .ok (.iload 7, 2) := by decide +kernel
theorem dX8_blend_85 : decode cX8_blend 85 = .ok (.aload_n 0, 1) := by decide +kernel
theorem dX8_blend_86 : decode cX8_blend 86 = .ok (.getfield 17, 3) := by decide +kernel
theorem dX8_blend_89 : decode cX8_blend 89 = .ok (.arraylength, 1) := by decide +kernel
theorem dX8_blend_90 : decode cX8_blend 90 = .ok (.if_icmp .ge 69, 3) := by decide +kernel
theorem dX8_blend_93 : decode cX8_blend 93 = .ok (.aload_n 0, 1) := by decide +kernel
theorem dX8_blend_94 : decode cX8_blend 94 = .ok (.getfield 17, 3) := by decide +kernel
theorem dX8_blend_97 : decode cX8_blend 97 = .ok (.iload 7, 2) := by decide +kernel
theorem dX8_blend_99 : decode cX8_blend 99 = .ok (.aaload, 1) := by decide +kernel
theorem dX8_blend_100 : decode cX8_blend 100 = .ok (.astore 8, 2) := by decide +kernel
theorem dX8_blend_102 : decode cX8_blend 102 = .ok (.aload 8, 2) := by decide +kernel
theorem dX8_blend_104 : decode cX8_blend 104 = .ok (.ifnull 49, 3) := by decide +kernel
theorem dX8_blend_107 : decode cX8_blend 107 = .ok (.iload_n 1, 1) := by decide +kernel
theorem dX8_blend_108 : decode cX8_blend 108 = .ok (.iload 7, 2) := by decide +kernel
theorem dX8_blend_110 : decode cX8_blend 110 = .ok (.invokestatic 255, 3) := by decide +kernel
theorem dX8_blend_113 : decode cX8_blend 113 = .ok (.ifCond .eq 40, 3) := by decide +kernel
theorem dX8_blend_116 : decode cX8_blend 116 = .ok (.aload_n 0, 1) := by decide +kernel
theorem dX8_blend_117 : decode cX8_blend 117 = .ok (.getfield 54, 3) := by decide +kernel
theorem dX8_blend_120 : decode cX8_blend 120 = .ok (.iload 7, 2) := by decide +kernel
theorem dX8_blend_122 : decode cX8_blend 122 = .ok (.aload 8, 2) := by decide +kernel
theorem dX8_blend_124 : decode cX8_blend 124 = .ok (.getfield 144, 3) := by decide +kernel
theorem dX8_blend_127 : decode cX8_blend 127 = .ok (.sipush 1000, 3) := by decide +kernel
theorem dX8_blend_130 : decode cX8_blend 130 = .ok (.idiv, 1) := by decide +kernel
theorem dX8_blend_131 : decode cX8_blend 131 = .ok (.aload_n 0, 1) := by decide +kernel
theorem dX8_blend_132 : decode cX8_blend 132 = .ok (.aload 8, 2) := by decide +kernel
theorem dX8_blend_134 : decode cX8_blend 134 = .ok (.iconst 0, 1) := by decide +kernel
theorem dX8_blend_135 : decode cX8_blend 135 = .ok (.invokevirtual 188, 3) := by decide +kernel
theorem dX8_blend_138 : decode cX8_blend 138 = .ok (.aload_n 0, 1) := by decide +kernel
theorem dX8_blend_139 : decode cX8_blend 139 = .ok (.aload 8, 2) := by decide +kernel
theorem dX8_blend_141 : decode cX8_blend 141 = .ok (.iconst 1, 1) := by decide +kernel
theorem dX8_blend_142 : decode cX8_blend 142 = .ok (.invokevirtual 188, 3) := by decide +kernel
theorem dX8_blend_145 : decode cX8_blend 145 = .ok (.aload 8, 2) := by decide +kernel
theorem dX8_blend_147 : decode cX8_blend 147 = .ok (.getfield 150, 3) := by decide +kernel
theorem dX8_blend_150 : decode cX8_blend 150 = .ok (.invokevirtual 259, 3) := by decide +kernel
theorem dX8_blend_153 : decode cX8_blend 153 = .ok (.iinc 7 1, 3) := by decide +kernel
theorem dX8_blend_156 : decode cX8_blend 156 = .ok (.goto (-73), 3) := by decide +kernel
theorem dX8_blend_159 : decode cX8_blend 159 = .ok (.aload_n 0, 1) := by decide +kernel
theorem dX8_blend_160 : decode cX8_blend 160 = .ok (.getfield 54, 3) := by decide +kernel
theorem dX8_blend_163 : decode cX8_blend 163 = .ok (.invokevirtual 263, 3) := by decide +kernel
theorem dX8_blend_166 : decode cX8_blend 166 = .ok (.ireturn, 1) := by decide +kernel
theorem dX8_parts_0 : decode cX8_parts 0 = .ok (.aload_n 0, 1) := by decide +kernel
theorem dX8_parts_1 : decode cX8_parts 1 = .ok (.iload_n 1, 1) := by decide +kernel
theorem dX8_parts_2 : decode cX8_parts 2 = .ok (.invokevirtual 139, 3) := by decide +kernel
theorem dX8_parts_5 : decode cX8_parts 5 = .ok (.ifnull 13, 3) := by decide +kernel
theorem dX8_parts_8 : decode cX8_parts 8 = .ok (.aload_n 0, 1) := by decide +kernel
theorem dX8_parts_9 : decode cX8_parts 9 = .ok (.getfield 54, 3) := by decide +kernel
theorem dX8_parts_12 : decode cX8_parts 12 = .ok (.getfield 266, 3) := by decide +kernel
theorem dX8_parts_15 : decode cX8_parts 15 = .ok (.ifCond .ne 5, 3) := by decide +kernel
theorem dX8_parts_18 : decode cX8_parts 18 = .ok (.iconst (-1), 1) := by decide +kernel
theorem dX8_parts_19 : decode cX8_parts 19 = .ok (.ireturn, 1) := by decide +kernel
theorem dX8_parts_20 : decode cX8_parts 20 = .ok (.aload_n 0, 1) := by decide +kernel
theorem dX8_parts_21 : decode cX8_parts 21 = .ok (.getfield 54, 3) := by decide +kernel
theorem dX8_parts_24 : decode cX8_parts 24 = .ok (.getfield 269, 3) := by decide +kernel
theorem dX8_parts_27 : decode cX8_parts 27 = .ok (.iload_n 1, 1) := by decide +kernel
theorem dX8_parts_28 : decode cX8_parts 28 = .ok (.iaload, 1) := by decide +kernel
theorem dX8_parts_29 : decode cX8_parts 29 = .ok (.ireturn, 1) := by decide +kernel
set_option maxRecDepth 20000 in
theorem ggX8_trace_X8_lotAt : GoodIn wsX8_trace wsX8_lotAt := goodIn_r _ [8, 9, 10, 11, 7, 12, 19, 20, 21, 22, 23, 24, 25, 26, 27, 28, 29, 30, 31, 32, 33] rfl (by decide +kernel)
set_option maxRecDepth 20000 in
theorem gX8_trace_X8_lotAt : GoodIn wsX8_trace (wsV RX8 96 RX8 yX8_lotAt wsX8_lotAt) := goodIn_app (goodIn_of _ (by decide +kernel)) ggX8_trace_X8_lotAt
set_option maxRecDepth 20000 in
theorem ggX8_trace_X7_gramsOf : GoodIn wsX8_trace wsX7_gramsOf := goodIn_r _ [17, 18, 34, 35, 36, 37, 38] rfl (by decide +kernel)
set_option maxRecDepth 20000 in
theorem gX8_trace_X7_gramsOf : GoodIn wsX8_trace (wsV RX8 181 RX7 yX7_gramsOf wsX7_gramsOf) := goodIn_app (goodIn_of _ (by decide +kernel)) ggX8_trace_X7_gramsOf
set_option maxRecDepth 20000 in
theorem ggX8_areTanksToBlend_J6_bitCount_0f7a4 : GoodIn wsX8_areTanksToBlend wsJ6_bitCount_0f7a4 := goodIn_r _ [6, 7, 8, 9] rfl (by decide +kernel)
set_option maxRecDepth 20000 in
theorem gX8_areTanksToBlend_J6_bitCount_0f7a4 : GoodIn wsX8_areTanksToBlend (va_wsS RX8 310 yJ6_bitCount_0f7a4 wsJ6_bitCount_0f7a4) := goodIn_app (goodIn_of _ (by decide +kernel)) ggX8_areTanksToBlend_J6_bitCount_0f7a4
set_option maxRecDepth 20000 in
theorem ggX8_areTanksToBlend_X8_isIn : GoodIn wsX8_areTanksToBlend wsX8_isIn := goodIn_r _ [13] rfl (by decide +kernel)
set_option maxRecDepth 20000 in
theorem gX8_areTanksToBlend_X8_isIn : GoodIn wsX8_areTanksToBlend (va_wsS RX8 85 yX8_isIn wsX8_isIn) := goodIn_app (goodIn_of _ (by decide +kernel)) ggX8_areTanksToBlend_X8_isIn
set_option maxRecDepth 20000 in
theorem ggX8_areTanksToBlend_X8_hasBit : GoodIn wsX8_areTanksToBlend wsX8_hasBit := goodIn_r _ [16] rfl (by decide +kernel)
set_option maxRecDepth 20000 in
theorem gX8_areTanksToBlend_X8_hasBit : GoodIn wsX8_areTanksToBlend (va_wsS RX8 255 yX8_hasBit wsX8_hasBit) := goodIn_app (goodIn_of _ (by decide +kernel)) ggX8_areTanksToBlend_X8_hasBit
set_option maxRecDepth 20000 in
theorem ggX0_begin_J7_fill_53178 : GoodIn wsX0_begin wsJ7_fill_53178 := goodIn_r _ [10] rfl (by decide +kernel)
set_option maxRecDepth 20000 in
theorem gX0_begin_J7_fill_53178 : GoodIn wsX0_begin (va_wsS RX0 37 yJ7_fill_53178 wsJ7_fill_53178) := goodIn_app (goodIn_of _ (by decide +kernel)) ggX0_begin_J7_fill_53178
set_option maxRecDepth 20000 in
theorem ggX0_tryWith_X0_isWithin : GoodIn wsX0_tryWith wsX0_isWithin := goodIn_r _ [19, 20, 21, 22, 23, 24, 25, 26, 27, 28, 29, 30, 31, 32, 33, 34, 35, 36] rfl (by decide +kernel)
set_option maxRecDepth 20000 in
theorem gX0_tryWith_X0_isWithin : GoodIn wsX0_tryWith (wsV RX0 74 RX0 yX0_isWithin wsX0_isWithin) := goodIn_app (goodIn_of _ (by decide +kernel)) ggX0_tryWith_X0_isWithin
set_option maxRecDepth 20000 in
theorem ggX0_keepBest_J7_fill_53178 : GoodIn wsX0_keepBest wsJ7_fill_53178 := goodIn_r _ [9] rfl (by decide +kernel)
set_option maxRecDepth 20000 in
theorem gX0_keepBest_J7_fill_53178 : GoodIn wsX0_keepBest (va_wsS RX0 37 yJ7_fill_53178 wsJ7_fill_53178) := goodIn_app (goodIn_of _ (by decide +kernel)) ggX0_keepBest_J7_fill_53178
set_option maxRecDepth 20000 in
theorem ggX0_leastPrice_X0_keepBest : GoodIn wsX0_leastPrice wsX0_keepBest := goodIn_r _ [30, 31, 32, 33, 19, 34, 35, 36, 37, 38, 39, 40, 41, 42, 43, 44, 45, 46, 47, 48, 49, 50, 51, 52] rfl (by decide +kernel)
set_option maxRecDepth 20000 in
theorem gX0_leastPrice_X0_keepBest : GoodIn wsX0_leastPrice (wsV RX0 68 RX0 yX0_keepBest wsX0_keepBest) := goodIn_app (goodIn_of _ (by decide +kernel)) ggX0_leastPrice_X0_keepBest
set_option maxRecDepth 20000 in
theorem ggX0_leastPrice_X0_tryWith : GoodIn wsX0_leastPrice wsX0_tryWith := goodIn_r _ [12, 3, 13, 14, 15, 2, 16, 17, 6, 18, 4, 5, 7, 1, 19, 20, 21, 22, 11, 23, 24, 25, 26, 39, 40, 41, 42, 43, 44, 45, 46, 47, 48, 49, 50, 51, 52] rfl (by decide +kernel)
set_option maxRecDepth 20000 in
theorem gX0_leastPrice_X0_tryWith : GoodIn wsX0_leastPrice (wsV RX0 64 RX0 yX0_tryWith wsX0_tryWith) := goodIn_app (goodIn_of _ (by decide +kernel)) ggX0_leastPrice_X0_tryWith
set_option maxRecDepth 20000 in
theorem ggX8_blend_X8_isIn : GoodIn wsX8_blend wsX8_isIn := goodIn_r _ [8] rfl (by decide +kernel)
set_option maxRecDepth 20000 in
theorem gX8_blend_X8_isIn : GoodIn wsX8_blend (va_wsS RX8 85 yX8_isIn wsX8_isIn) := goodIn_app (goodIn_of _ (by decide +kernel)) ggX8_blend_X8_isIn
set_option maxRecDepth 20000 in
theorem ggX8_blend_X8_areTanksToBlend : GoodIn wsX8_blend wsX8_areTanksToBlend := goodIn_r _ [12, 2, 3, 13, 14, 15, 16, 17, 18, 19, 5, 6, 7, 8, 20, 21, 22, 105, 106, 107, 108, 109, 110, 111, 112, 113, 114, 115, 116, 117, 118, 119, 120, 121, 122, 123, 124] rfl (by decide +kernel)
set_option maxRecDepth 20000 in
theorem gX8_blend_X8_areTanksToBlend : GoodIn wsX8_blend (wsV RX8 248 RX8 yX8_areTanksToBlend wsX8_areTanksToBlend) := goodIn_app (goodIn_of _ (by decide +kernel)) ggX8_blend_X8_areTanksToBlend
set_option maxRecDepth 20000 in
theorem ggX8_blend_X0_begin : GoodIn wsX8_blend wsX0_begin := goodIn_r _ [27, 28, 29, 30, 31, 32, 33, 34, 35, 36, 37, 125, 126, 127, 128, 129, 130, 131, 132, 133, 134, 135, 136, 137, 138] rfl (by decide +kernel)
set_option maxRecDepth 20000 in
theorem gX8_blend_X0_begin : GoodIn wsX8_blend (wsV RX8 251 RX0 yX0_begin wsX0_begin) := goodIn_app (goodIn_of _ (by decide +kernel)) ggX8_blend_X0_begin
set_option maxRecDepth 20000 in
theorem ggX8_blend_X0_leastPrice : GoodIn wsX8_blend wsX0_leastPrice := goodIn_r _ [81, 82, 29, 30, 83, 84, 85, 86, 87, 88, 89, 26, 90, 77, 75, 76, 91, 92, 93, 94, 95, 96, 97, 98, 31, 32, 33, 99, 100, 101, 102, 103, 28, 74, 104, 34, 35, 36, 37, 125, 126, 127, 128, 129, 130, 131, 132, 133, 134, 135, 136, 137, 138] rfl (by decide +kernel)
set_option maxRecDepth 20000 in
theorem gX8_blend_X0_leastPrice : GoodIn wsX8_blend (wsV RX8 263 RX0 yX0_leastPrice wsX0_leastPrice) := goodIn_app (goodIn_of _ (by decide +kernel)) ggX8_blend_X0_leastPrice
set_option maxRecDepth 20000 in
theorem ggX8_blend_X8_hasBit : GoodIn wsX8_blend wsX8_hasBit := goodIn_r _ [22] rfl (by decide +kernel)
set_option maxRecDepth 20000 in
theorem gX8_blend_X8_hasBit : GoodIn wsX8_blend (va_wsS RX8 255 yX8_hasBit wsX8_hasBit) := goodIn_app (goodIn_of _ (by decide +kernel)) ggX8_blend_X8_hasBit
set_option maxRecDepth 20000 in
theorem ggX8_blend_X8_told : GoodIn wsX8_blend wsX8_told := goodIn_r _ [41, 3, 42, 43, 44, 45, 46, 7, 47, 48, 49, 50, 51, 52, 53, 54, 55, 56, 57, 58, 59, 60, 61, 62, 63, 64, 65, 66, 67, 5, 6, 8, 68, 69, 120, 121, 122, 123, 124, 105, 106, 107, 108, 109, 110, 111, 112, 113, 114, 115, 116, 117, 118, 119, 139, 140, 141, 142, 143, 144, 145, 146, 147, 148] rfl (by decide +kernel)
set_option maxRecDepth 20000 in
theorem gX8_blend_X8_told : GoodIn wsX8_blend (wsV RX8 188 RX8 yX8_told wsX8_told) := goodIn_app (goodIn_of _ (by decide +kernel)) ggX8_blend_X8_told
set_option maxRecDepth 20000 in
theorem ggX8_blend_X0_addTank : GoodIn wsX8_blend wsX0_addTank := goodIn_r _ [73, 28, 74, 29, 75, 76, 77, 125, 126, 127, 128, 129, 130, 131, 132, 133, 134, 135, 136, 137, 138] rfl (by decide +kernel)
set_option maxRecDepth 20000 in
theorem gX8_blend_X0_addTank : GoodIn wsX8_blend (wsV RX8 259 RX0 yX0_addTank wsX0_addTank) := goodIn_app (goodIn_of _ (by decide +kernel)) ggX8_blend_X0_addTank
set_option maxRecDepth 20000 in
theorem ggX8_parts_X8_tankAt : GoodIn wsX8_parts wsX8_tankAt := goodIn_r _ [8, 9, 10, 11, 7, 12, 13, 14, 15, 16, 17, 18, 19, 20, 21, 22, 23, 24, 25, 26, 27] rfl (by decide +kernel)
set_option maxRecDepth 20000 in
theorem gX8_parts_X8_tankAt : GoodIn wsX8_parts (wsV RX8 139 RX8 yX8_tankAt wsX8_tankAt) := goodIn_app (goodIn_of _ (by decide +kernel)) ggX8_parts_X8_tankAt
theorem mn_le {z x y : Int32} {a p : Nat} (hz : z = if y < x then y else x) (hy : y = nI p) (ha : a < 2 ^ 31) (hp : p < 2 ^ 31) (c : ¬ z < nI a) : a ≤ p := by
  have h1 : z ≤ y := by
    rw [hz]
    split
    · rw [i_le]; omega
    · next q => rw [i_lt] at q; rw [i_le]; omega
  rw [hy, i_le, nI_toInt hp] at h1
  rw [i_lt, nI_toInt ha] at c
  omega
theorem mx_0 {z x y : Int32} (hz : z = if x < y then y else x) (hx : x = 0) : ∃ n : Nat, n < 2 ^ 31 ∧ z = nI n := by
  apply nI_of
  rw [hz, hx]
  split
  · next q => rw [i_lt] at q ⊢; omega
  · decide
theorem mx_0' {z x y : Int32} (hz : z = if y < x then x else y) (hx : x = 0) : ∃ n : Nat, n < 2 ^ 31 ∧ z = nI n := by
  apply nI_of
  rw [hz, hx]
  split
  · decide
  · next q => rw [i_lt] at q ⊢; exact q
set_option maxHeartbeats 4000000 in
set_option maxRecDepth 100000 in
theorem h_trace (l : Launch) (D : va_G) (ρ : Nat → Nat) (ws : va_W) (tys : List (ClassId × FieldType)) (fv : Nat → Nat → Int32) (h0 lc bc rc fc : Nat) (dn : Int32) (tl : Nat) (a1 : Int32) (sz : Nat) (X : XI ρ fv ws tys h0 lc bc rc fc dn tl) (V : NV fv lc) : Met l yX8_trace wsX8_trace ({ frames := 2, cells := 0, slots := 0, locals := 43 }) (va_Pc [.ref h0, .int a1] (fun U => U.heap.size = sz ∧ va_P D vwCl ws U.heap ∧ va_K D vwCl tys U ∧ va_D (fun _ => True) ws)) (va_Qi (fun (r : Int32) (_ : Unit) => ((a1 < 0 ∨ nI lc ≤ a1) ∧ r = (-1)) ∨ (¬ (a1 < 0 ∨ nI lc ≤ a1) ∧ r = nI (trN (fv 9) a1.toNatClampNeg bc))) (fun (_ : Unit) (t : State) => ∃ (ws' : va_W) (tys' : List (ClassId × FieldType)), tyx tys tys' ∧ va_P D vwCl ws' t.heap ∧ va_K D vwCl tys' t ∧ va_D (va_A ws sz) ws' ∧ (((a1 < 0 ∨ nI lc ≤ a1) ∧ XI ρ fv ws' tys' h0 lc bc rc fc dn tl) ∨ (¬ (a1 < 0 ∨ nI lc ≤ a1) ∧ XI ρ (uF fv 42 (trW (fv 9) a1.toNatClampNeg (fv 42) bc)) ws' tys' h0 lc bc rc (trN (fv 9) a1.toNatClampNeg bc) dn tl))) (va_A ws sz)) 0 0 (va_A ws sz) := by
  refine Met.ofW (cc := cX8_trace) (maxL := 4) (ret := (some .int)) (by decide) rfl ?_
  intro p e s m args below meth c s₁ B hml hv
  obtain ⟨rfl, hsz, hP, hK, hD0⟩ := hv
  have hx := B.exec
  have hb := B.bytes
  have hr := B.returns
  have hts := atoms_spec (ws := wsX8_trace) B.pre
  have hown : s.vm.findClass RX8 = some m.cls := findClass_of_methodNamed B.named
  have hlocks := B.notSynchronized
  subst hsz
  have hD := hD0.self (sz := s.heap.size)
  generalize hAe : va_A ws s.heap.size = A at hD ⊢
  have hA : ∀ q : Nat, s.heap.size ≤ q → A q := fun q h => by rw [← hAe]; exact Or.inr h
  have hS : va_S A s.heap s.heap [] := va_S.rf
  have hsm : sm (uy ρ [8007]) [8] ws ws := sm.rf ws
  have htx : tyx tys tys := tyx.rf tys
  have hin8 : ∀ w ∈ u_ws RX8 TX8 15, w ∈ wsX8_trace := (fun _ h9 => List.mem_cons_of_mem _ (List.mem_append_left _ ((List.mem_append_right _ h9))))
  have hl := lv_entry ([.ref h0, .int a1]) (n := 4) (Nat.le_of_ble_eq_true rfl)
  rw [lg_entry_eq]
  generalize (lg_sl ([.ref h0, .int a1]) ++ List.replicate (4 - (lg_sl ([.ref h0, .int a1])).length) Slot.unset).toArray = ls at hl ⊢
  have hl : lv_has ls 4 [(0, .ref h0), (1, .int a1)] := hl
  obtain ⟨k0, la, ta, ba, ra, sn, rd, dr, bl, vd, fb, e0, w0, hle0, hnum, qla, qta, qba, qra, qsn, qrd, qdr, qbl, qvd, qfb⟩ := id X
  obtain ⟨kla, cla, tla, fla, ela, ula, hla0, hla1⟩ := id qla
  have hlc := hnum.1
  obtain ⟨kba, cba, tba, fba, eba, uba, hba0, hba1⟩ := id qba
  obtain ⟨kfb, cfb, tfb, ffb, efb, ufb, wfb, gfb⟩ := id qfb
  have hbc := hnum.2.1
  refine lv_aload_n hx hb dX8_trace_0 rfl (lv_at hl 0 rfl) ?_
  refine lv_iload_n hx hb dX8_trace_1 rfl (lv_at hl 1 rfl) ?_
  refine va_csq (W.runV (As := [.int a1]) (rest := []) ⟨hx, hb, hml, hown, hts⟩ (s_X8_lotAt l D ws tys h0 k0 _ la kla cla fla tla a1 e0 rfl ela ula) (cwV 1 hts gX8_trace_X8_lotAt rfl rfl rfl (by decide +kernel) ⟨Nat.le_of_ble_eq_true rfl, Nat.le_of_ble_eq_true rfl⟩) ⟨fun a U g mk q => ⟨q.1, q.2.1, va_K.moved (u := U) (U := U.calling g mk a) (Vm.Alike.refl U.vm) q.2.2⟩, va_recv hK hP (ci := 8) (q0 := k0) rfl e0, fun U hU hW => ⟨rfl, by rw [hU]; exact hP, va_K.moved hW.alike hK⟩⟩ rfl rfl hl.1 rfl (lv_room (Nat.le_of_ble_eq_true rfl)) dX8_trace_2 ⟨Nat.le_of_ble_eq_true rfl, Nat.le_of_ble_eq_true rfl⟩) (fun r_1 k_2 => ?_)
  have hz_3 := lotx hlc hla0 hla1 k_2
  rcases hz_3 with ⟨rfl, o_4⟩ | ⟨a_5, b_6, hj_7, v_8, rfl, hg_9, hL_10⟩
  · refine tp_v (y := .null) rfl ?_
    refine lv_ifnonnullN hx hb dX8_trace_5 ?_
    refine lv_iconst (v := (-1)) hx hb dX8_trace_8 (by decide) ?_
    exact W.iret (v := (-1)) hx hb hr (fun t ht hW => ⟨⟨(-1), (), rfl, Or.inl ⟨o_4, rfl⟩, ws, tys, htx, by rw [ht]; exact hP, va_K.moved hW.alike hK, hD, Or.inl ⟨o_4, X⟩⟩, hS.F ht⟩) hS.2.2 dX8_trace_9
  obtain ⟨k_11, lo_12, hi_13, st_14, e_15, wk_16, ⟨k_22, c9_23, t_24, f_25, e_26, u_27, wr_28, g_29⟩, ⟨k_30, c9_31, t_32, f_33, e_34, u_35, wr_36, g_37⟩, ks_17, ga_18, gb_19, es_20, wks_21, ⟨k_38, c9_39, t_40, f_41, e_42, u_43, wr_44, g_45⟩, ⟨k_46, c9_47, t_48, f_49, e_50, u_51, wr_52, g_53⟩⟩ := hL_10
  refine tp_v (y := .ref v_8) rfl ?_
  refine lv_ifnonnull (tgt := 10) hx hb dX8_trace_5 (by decide) ?_
  refine lv_aload_n hx hb dX8_trace_10 rfl (lv_at hl 0 rfl) ?_
  refine lv_iconst (v := 0) hx hb dX8_trace_11 (by decide) ?_
  refine va_put (D := D) (ci := 8) (v := .int 0) (ty := .int) (C := RX8) (T := TX8) (N := 15) hx hb hts hin8 tyX8 tyX8_ok nmX8 hown hK hP hD hS k0 e0 rfl 13 (by decide) (hts (.fieldLink RX8 272 "HoneyHouse" "foundCount" "I") (List.mem_of_getElem? (i := 1) rfl)) (fun _ h9 => h9) rfl (tyX8_ok 13 (by decide)) rfl rfl (Nat.le_of_ble_eq_true rfl) dX8_trace_12 (fun H locs hP hD hS => ?_)
  have hP : va_P D vwCl (ws.set k0 (h0, .inr (8, [.ref la, .ref ta, .ref ba, .ref ra, .ref sn, .ref rd, .ref dr, .ref bl, .ref vd, .ref fb, .int (nI lc), .int (nI bc), .int (nI rc), .int 0, .int dn]))) H := hP
  have hD : va_D A (ws.set k0 (h0, .inr (8, [.ref la, .ref ta, .ref ba, .ref ra, .ref sn, .ref rd, .ref dr, .ref bl, .ref vd, .ref fb, .int (nI lc), .int (nI bc), .int (nI rc), .int 0, .int dn]))) := hD
  have hm_55 : sm (uy ρ [8007]) [8] ws (ws.set k0 (h0, .inr (8, [.ref la, .ref ta, .ref ba, .ref ra, .ref sn, .ref rd, .ref dr, .ref bl, .ref vd, .ref fb, .int (nI lc), .int (nI bc), .int (nI rc), .int 0, .int dn]))) := sm.flds e0 (smF.c (smV.rf _) (smF.c (smV.rf _) (smF.c (smV.rf _) (smF.c (smV.rf _) (smF.c (smV.rf _) (smF.c (smV.rf _) (smF.c (smV.rf _) (smF.c (smV.rf _) (smF.c (smV.rf _) (smF.c (smV.rf _) (smF.c (smV.rf _) (smF.c (smV.rf _) (smF.c (smV.rf _) (smF.c (smV.i _ _) (smF.c (smV.rf _) (rfl)))))))))))))))) (List.mem_singleton.mpr rfl) (uy_0 w0)
  have e_56 : (ws.set k0 (h0, .inr (8, [.ref la, .ref ta, .ref ba, .ref ra, .ref sn, .ref rd, .ref dr, .ref bl, .ref vd, .ref fb, .int (nI lc), .int (nI bc), .int (nI rc), .int 0, .int dn])))[k0]? = some (h0, .inr (8, [.ref la, .ref ta, .ref ba, .ref ra, .ref sn, .ref rd, .ref dr, .ref bl, .ref vd, .ref fb, .int (nI lc), .int (nI bc), .int (nI rc), .int 0, .int dn])) := wset_self e0
  have e_57 := set_n (z := (h0, .inr (8, [.ref la, .ref ta, .ref ba, .ref ra, .ref sn, .ref rd, .ref dr, .ref bl, .ref vd, .ref fb, .int (nI lc), .int (nI bc), .int (nI rc), .int 0, .int dn]))) ela (pl_ne ela e0 (by intro h9; simp at h9))
  have e_58 := set_n (z := (h0, .inr (8, [.ref la, .ref ta, .ref ba, .ref ra, .ref sn, .ref rd, .ref dr, .ref bl, .ref vd, .ref fb, .int (nI lc), .int (nI bc), .int (nI rc), .int 0, .int dn]))) eba (pl_ne eba e0 (by intro h9; simp at h9))
  have e_59 := set_n (z := (h0, .inr (8, [.ref la, .ref ta, .ref ba, .ref ra, .ref sn, .ref rd, .ref dr, .ref bl, .ref vd, .ref fb, .int (nI lc), .int (nI bc), .int (nI rc), .int 0, .int dn]))) efb (pl_ne efb e0 (by intro h9; simp at h9))
  have e_60 := set_n (z := (h0, .inr (8, [.ref la, .ref ta, .ref ba, .ref ra, .ref sn, .ref rd, .ref dr, .ref bl, .ref vd, .ref fb, .int (nI lc), .int (nI bc), .int (nI rc), .int 0, .int dn]))) e_15 (pl_ne e_15 e0 (by intro h9; simp at h9))
  have e_61 := set_n (z := (h0, .inr (8, [.ref la, .ref ta, .ref ba, .ref ra, .ref sn, .ref rd, .ref dr, .ref bl, .ref vd, .ref fb, .int (nI lc), .int (nI bc), .int (nI rc), .int 0, .int dn]))) e_26 (pl_ne e_26 e0 (by intro h9; simp at h9))
  have e_62 := set_n (z := (h0, .inr (8, [.ref la, .ref ta, .ref ba, .ref ra, .ref sn, .ref rd, .ref dr, .ref bl, .ref vd, .ref fb, .int (nI lc), .int (nI bc), .int (nI rc), .int 0, .int dn]))) e_34 (pl_ne e_34 e0 (by intro h9; simp at h9))
  have e_63 := set_n (z := (h0, .inr (8, [.ref la, .ref ta, .ref ba, .ref ra, .ref sn, .ref rd, .ref dr, .ref bl, .ref vd, .ref fb, .int (nI lc), .int (nI bc), .int (nI rc), .int 0, .int dn]))) es_20 (pl_ne es_20 e0 (by intro h9; simp at h9))
  have e_64 := set_n (z := (h0, .inr (8, [.ref la, .ref ta, .ref ba, .ref ra, .ref sn, .ref rd, .ref dr, .ref bl, .ref vd, .ref fb, .int (nI lc), .int (nI bc), .int (nI rc), .int 0, .int dn]))) e_42 (pl_ne e_42 e0 (by intro h9; simp at h9))
  have e_65 := set_n (z := (h0, .inr (8, [.ref la, .ref ta, .ref ba, .ref ra, .ref sn, .ref rd, .ref dr, .ref bl, .ref vd, .ref fb, .int (nI lc), .int (nI bc), .int (nI rc), .int 0, .int dn]))) e_50 (pl_ne e_50 e0 (by intro h9; simp at h9))
  generalize ws.set k0 (h0, .inr (8, [.ref la, .ref ta, .ref ba, .ref ra, .ref sn, .ref rd, .ref dr, .ref bl, .ref vd, .ref fb, .int (nI lc), .int (nI bc), .int (nI rc), .int 0, .int dn])) = ws_54 at hP hD hm_55 e_56 e_57 e_58 e_59 e_60 e_61 e_62 e_63 e_64 e_65
  have hsm := hsm.tr (hm_55.mono (by decide))
  refine lv_iconst (v := 0) hx hb dX8_trace_15 (by decide) ?_
  refine lv_istore_n (lv' := [(2, .int 0), (0, .ref h0), (1, .int a1)]) hx hb dX8_trace_16 rfl hl (by decide) rfl (fun ls hl => ?_)
  refine lp_V (nL := 4) (σ := Nat × Nat × (Nat → Int32)) (lv := fun x9 => [(2, .int (nI x9.1)), (1, .int a1), (0, .ref h0)]) (μ := fun x9 => 60 - x9.1) (J := fun x9 ws9 => sm (uy ρ [8007]) [8] ws_54 ws9 ∧ (ws9[k0]? = some (h0, .inr (8, [.ref la, .ref ta, .ref ba, .ref ra, .ref sn, .ref rd, .ref dr, .ref bl, .ref vd, .ref fb, .int (nI lc), .int (nI bc), .int (nI rc), .int (nI x9.2.1), .int dn]))) ∧ (ws9[kfb]? = some (fb, .inl (cfb, 60, .inl x9.2.2))) ∧ (x9.1 ≤ 60) ∧ (x9.2.1 ≤ x9.1) ∧ (x9.2.1 = trN (fv 9) a1.toNatClampNeg (min x9.1 bc)) ∧ (x9.2.2 = trW (fv 9) a1.toNatClampNeg ffb (min x9.1 bc))) (fun x9 ws_74 H locs ls hj hP hD hS hl ih_66 => ?_) (0, 0, ffb) ws_54 _ _ ls ⟨sm.rf _, e_56, e_59, (show 0 ≤ 60 from by omega), (show 0 ≤ 0 from by omega), (show 0 = trN (fv 9) a1.toNatClampNeg (min 0 bc) from (by rw [Nat.zero_min]; rfl)), (show ffb = trW (fv 9) a1.toNatClampNeg ffb (min 0 bc) from (by rw [Nat.zero_min]; rfl))⟩ hP hD hS (lv_sub hl [0, 2, 1] rfl)
  obtain ⟨i_67, n_68, f9_69⟩ := x9
  replace hj : sm (uy ρ [8007]) [8] ws_54 ws_74 ∧ (ws_74[k0]? = some (h0, .inr (8, [.ref la, .ref ta, .ref ba, .ref ra, .ref sn, .ref rd, .ref dr, .ref bl, .ref vd, .ref fb, .int (nI lc), .int (nI bc), .int (nI rc), .int (nI n_68), .int dn]))) ∧ (ws_74[kfb]? = some (fb, .inl (cfb, 60, .inl f9_69))) ∧ (i_67 ≤ 60) ∧ (n_68 ≤ i_67) ∧ (n_68 = trN (fv 9) a1.toNatClampNeg (min i_67 bc)) ∧ (f9_69 = trW (fv 9) a1.toNatClampNeg ffb (min i_67 bc)) := hj
  obtain ⟨hm_75, e_77, e_78, hi_70, hn0_71, hn_72, hf_73⟩ := hj
  obtain ⟨g_80, e_79, h_81⟩ := hm_75.obj e_56
  obtain ⟨z_82, z_83, z_84, z_85, z_86, rfl⟩ := smX8 h_81
  have e_87 := hm_75.arrQ e_57
  have e_88 := hm_75.arrQ e_58
  obtain ⟨f_90, e_89⟩ := hm_75.arrI e_59
  have e_91 := hm_75.keep (uy1 (by rw [wk_16]; omega) (by rw [wk_16]; omega)) e_60
  have e_92 := hm_75.keep (uy1 (by rw [wr_28]; omega) (by rw [wr_28]; omega)) e_61
  have e_93 := hm_75.keep (uy1 (by rw [wr_36]; omega) (by rw [wr_36]; omega)) e_62
  have e_94 := hm_75.keep (uy1 (by rw [wks_21]; omega) (by rw [wks_21]; omega)) e_63
  have e_95 := hm_75.keep (uy1 (by rw [wr_44]; omega) (by rw [wr_44]; omega)) e_64
  have e_96 := hm_75.keep (uy1 (by rw [wr_52]; omega) (by rw [wr_52]; omega)) e_65
  have hsm := hsm.tr (hm_75.mono (by decide))
  have hlp_76 := hm_75
  have hl : lv_has ls 4 [(2, .int (nI i_67)), (1, .int a1), (0, .ref h0)] := hl
  refine lv_iload_n hx hb dX8_trace_17 rfl (lv_at hl 0 rfl) ?_
  refine lv_aload_n hx hb dX8_trace_18 rfl (lv_at hl 2 rfl) ?_
  refine va_get (D := D) (ci := 8) (v := .ref ba) (C := RX8) (T := TX8) (N := 15) hx hb hts hin8 hown hK hP k0 e_77 rfl 2 (by decide) (hts (.fieldLink RX8 21 "HoneyHouse" "batches" "[LHoneyHouse$Vessel;") (List.mem_of_getElem? (i := 2) rfl)) (fun _ h9 => h9) rfl dX8_trace_19 ?_
  refine va_alen (v := 60) hx hb hK hP kba tba e_88 uba rfl dX8_trace_22 ?_
  refine lv_icmp_ge (tgt := 83) hx hb dX8_trace_23 (by decide) (fun c_97 => ?_) (fun c_97 => ?_)
  · have d_98 := n_le (a := 60) (b := i_67) (by omega) (by omega) c_97
    refine lv_aload_n hx hb dX8_trace_83 rfl (lv_at hl 2 rfl) ?_
    refine va_get (D := D) (ci := 8) (v := .int (nI n_68)) (C := RX8) (T := TX8) (N := 15) hx hb hts hin8 hown hK hP k0 e_77 rfl 13 (by decide) (hts (.fieldLink RX8 272 "HoneyHouse" "foundCount" "I") (List.mem_of_getElem? (i := 1) rfl)) (fun _ h9 => h9) rfl dX8_trace_84 ?_
    have eN : n_68 = trN (fv 9) a1.toNatClampNeg bc := by rw [hn_72, show min i_67 bc = bc by omega]
    have eF : f9_69 = trW (fv 9) a1.toNatClampNeg ffb bc := by rw [hf_73, show min i_67 bc = bc by omega]
    exact W.iret (v := nI n_68) hx hb hr (fun t ht hW => ⟨⟨nI n_68, (), rfl, Or.inr ⟨(fun h => Or.elim h a_5 b_6), by rw [eN]⟩, ws_74, tys, htx, by rw [ht]; exact hP, va_K.moved hW.alike hK, hD, Or.inr ⟨(fun h => Or.elim h a_5 b_6), (xi_mk2 (fv := (uF fv 42 (trW (fv 9) a1.toNatClampNeg (fv 42) bc))) (by rw [← eN]; exact e_77) w0 hle0 ⟨hnum.1, hnum.2.1, hnum.2.2.1, by rw [← eN]; omega, hnum.2.2.2.2⟩ ((CL.sm qla hsm htx (fun k _ h1 h2 => uy1 (by omega) (by omega))).fvx (fun _ _ _ _ => rfl) rfl rfl rfl) ((CW.sm qta hsm htx (fun k _ h1 h2 => uy1 (by omega) (by omega))).fvx (fun _ _ _ _ => rfl) (fun _ _ => rfl) (fun _ _ => rfl) (fun _ _ => rfl)) ((CW.sm qba hsm htx (fun k _ h1 h2 => uy1 (by omega) (by omega))).fvx (fun _ _ _ _ => rfl) (fun _ _ => rfl) (fun _ _ => rfl) (fun _ _ => rfl)) ((CR.sm qra hsm htx (fun k _ h1 h2 => uy1 (by omega) (by omega))).rw ⟨rfl, rfl, rfl, rfl, rfl, rfl, rfl, rfl, rfl, rfl, fun _ _ => rfl⟩) (oST.sm qsn hsm htx (fun k _ h1 h2 => uy1 (by omega) (by omega))) ((oW.sm qrd hsm htx (by decide) (fun k _ h => uy1 (by omega) (by omega))).rw ⟨rfl, rfl, rfl, rfl, rfl, rfl, rfl, rfl, rfl, rfl, fun _ _ => rfl⟩) qdr ((oB.sm qbl hsm htx (by decide) (fun k _ h => uy1 (by omega) (by omega))).rw ⟨rfl, rfl, rfl, rfl, rfl, rfl, rfl, rfl, rfl, rfl, fun _ _ => rfl⟩) qvd ⟨kfb, cfb, tfb, f9_69, e_78, ufb, wfb, fun j hj => by rw [eF]; exact trW_cg bc j hj⟩ hsm htx (by decide))⟩⟩, hS.F ht⟩) hS.2.2 dX8_trace_87
  have d_99 := n_nle (a := 60) (b := i_67) (by omega) (by omega) c_97
  refine lv_aload_n hx hb dX8_trace_26 rfl (lv_at hl 2 rfl) ?_
  refine va_get (D := D) (ci := 8) (v := .ref ba) (C := RX8) (T := TX8) (N := 15) hx hb hts hin8 hown hK hP k0 e_77 rfl 2 (by decide) (hts (.fieldLink RX8 21 "HoneyHouse" "batches" "[LHoneyHouse$Vessel;") (List.mem_of_getElem? (i := 2) rfl)) (fun _ h9 => h9) rfl dX8_trace_27 ?_
  refine lv_iload_n hx hb dX8_trace_30 rfl (lv_at hl 0 rfl) ?_
  refine va_aldq (f := fba) (n := 60) hx hb hK hP kba tba e_88 uba (vp_in_nI (n := i_67) (by omega) (by omega)) dX8_trace_31 ?_
  obtain ⟨r_100, er_101⟩ : ∃ r, r = fba (nI i_67).toNatClampNeg := ⟨_, rfl⟩
  refine tp_v (y := va_rf r_100) (by rw [er_101]) ?_
  rw [nI_clamp (n := i_67) (by omega)] at er_101
  rcases Nat.lt_or_ge i_67 bc with hl_106 | hn_107
  · obtain ⟨v_102, ev_103, hV_104⟩ := hba1 i_67 hl_106
    rw [ev_103] at er_101
    subst er_101
    have hV_105 := hV_104.sm hsm htx (fun k _ h1 h2 => uy1 (by omega) (by omega))
    obtain ⟨k_108, g_109, e_110, wk_111, k_112, c9_113, t_114, f_115, e_116, u_117, wr_118, g_119⟩ := hV_105
    refine tp_v (y := .ref v_102) rfl ?_
    refine lv_astore_n (lv' := [(3, .ref v_102), (2, .int (nI i_67)), (1, .int a1), (0, .ref h0)]) hx hb dX8_trace_32 rfl hl (by decide) rfl (fun ls hl => ?_)
    refine lv_aload_n hx hb dX8_trace_33 rfl (lv_at hl 0 rfl) ?_
    refine lv_ifnull hx hb dX8_trace_34 ?_
    refine lv_aload_n hx hb dX8_trace_37 rfl (lv_at hl 0 rfl) ?_
    refine lv_iload_n hx hb dX8_trace_38 rfl (lv_at hl 2 rfl) ?_
    refine vp_callSi (W.runV (As := [.int a1]) (rest := []) ⟨hx, hb, hml, hown, hts⟩ (s_gramsOf l D ws_74 tys v_102 k_108 (mall (fv 9) (10 + i_67) 40) (fv 10 (10 + i_67)) (fv 11 (10 + i_67)) (fv 12 (10 + i_67)) g_109 k_112 c9_113 t_114 f_115 a1 e_110 e_116 u_117) (cwV 1 hts gX8_trace_X7_gramsOf rfl rfl rfl (by decide +kernel) ⟨Nat.le_of_ble_eq_true rfl, Nat.le_of_ble_eq_true rfl⟩) ⟨fun a U g mk q => ⟨q.1, q.2.1, va_K.moved (u := U) (U := U.calling g mk a) (Vm.Alike.refl U.vm) q.2.2⟩, va_recv hK hP (ci := 7) (q0 := k_108) rfl e_110, fun U hU hW => ⟨rfl, by rw [hU]; exact hP, va_K.moved hW.alike hK⟩⟩ rfl rfl hl.1 rfl (lv_room (Nat.le_of_ble_eq_true rfl)) dX8_trace_39 ⟨Nat.le_of_ble_eq_true rfl, Nat.le_of_ble_eq_true rfl⟩) (fun r_120 k_121 => ?_)
    obtain rfl : r_120 = fv 9 (40 * (10 + i_67) + a1.toNatClampNeg) := by rcases k_121 with ⟨-, h9 | h9⟩ | ⟨-, -, h9⟩; exact absurd h9 a_5; exact absurd h9 (i_not40 hlc b_6); exact h9.trans (g_119 _ (by omega))
    refine lv_if_le (tgt := 77) hx hb dX8_trace_42 (by decide) (fun c_122 => ?_) (fun c_122 => ?_)
    · have tz_123 := (nv_zero V (r := 10 + i_67) (L := a1.toNatClampNeg) (by omega) (by omega)).1 c_122
      refine lv_iinc (v := nI (i_67 + 1)) (lv' := [(2, .int (nI (i_67 + 1))), (3, .ref v_102), (1, .int a1), (0, .ref h0)]) hx hb dX8_trace_77 hl (k := 1) rfl (nI_add i_67 1) (by decide) rfl (fun ls hl => ?_)
      refine lv_goto (tgt := 17) hx hb dX8_trace_80 (by decide) ?_
      exact ih_66 (i_67 + 1, n_68, f9_69) ws_74 _ _ ls (by show 60 - (i_67 + 1) < 60 - i_67; omega) ⟨hlp_76, e_77, e_78, (show (i_67 + 1) ≤ 60 from by omega), (show n_68 ≤ (i_67 + 1) from by omega), (show n_68 = trN (fv 9) a1.toNatClampNeg (min (i_67 + 1) bc) from (by rw [show min (i_67 + 1) bc = i_67 + 1 by omega, trN_z tz_123, hn_72, show min i_67 bc = i_67 by omega])), (show f9_69 = trW (fv 9) a1.toNatClampNeg ffb (min (i_67 + 1) bc) from (by rw [show min (i_67 + 1) bc = i_67 + 1 by omega, trW_z tz_123, hf_73, show min i_67 bc = i_67 by omega]))⟩ hP hD hS (lv_sub hl [0, 2, 3] rfl)
    have tz_124 := (nv_zero V (r := 10 + i_67) (L := a1.toNatClampNeg) (by omega) (by omega)).2 c_122
    refine lv_aload_n hx hb dX8_trace_45 rfl (lv_at hl 3 rfl) ?_
    refine va_get (D := D) (ci := 8) (v := .int (nI n_68)) (C := RX8) (T := TX8) (N := 15) hx hb hts hin8 hown hK hP k0 e_77 rfl 13 (by decide) (hts (.fieldLink RX8 272 "HoneyHouse" "foundCount" "I") (List.mem_of_getElem? (i := 1) rfl)) (fun _ h9 => h9) rfl dX8_trace_46 ?_
    refine lv_aload_n hx hb dX8_trace_49 rfl (lv_at hl 3 rfl) ?_
    refine va_get (D := D) (ci := 8) (v := .ref fb) (C := RX8) (T := TX8) (N := 15) hx hb hts hin8 hown hK hP k0 e_77 rfl 9 (by decide) (hts (.fieldLink RX8 62 "HoneyHouse" "foundBatches" "[I") (List.mem_of_getElem? (i := 3) rfl)) (fun _ h9 => h9) rfl dX8_trace_50 ?_
    refine va_alen (v := 60) hx hb hK hP kfb tfb e_78 ufb rfl dX8_trace_53 ?_
    refine lv_icmp_ge (tgt := 77) hx hb dX8_trace_54 (by decide) (fun c_125 => absurd c_125 (show ¬ (60 : Int32) ≤ nI n_68 from nI_ge (a := n_68) (b := 60) (by omega) (by omega))) (fun c_125 => ?_)
    refine lv_aload_n hx hb dX8_trace_57 rfl (lv_at hl 3 rfl) ?_
    refine va_get (D := D) (ci := 8) (v := .ref fb) (C := RX8) (T := TX8) (N := 15) hx hb hts hin8 hown hK hP k0 e_77 rfl 9 (by decide) (hts (.fieldLink RX8 62 "HoneyHouse" "foundBatches" "[I") (List.mem_of_getElem? (i := 3) rfl)) (fun _ h9 => h9) rfl dX8_trace_58 ?_
    refine lv_aload_n hx hb dX8_trace_61 rfl (lv_at hl 3 rfl) ?_
    refine va_get (D := D) (ci := 8) (v := .int (nI n_68)) (C := RX8) (T := TX8) (N := 15) hx hb hts hin8 hown hK hP k0 e_77 rfl 13 (by decide) (hts (.fieldLink RX8 272 "HoneyHouse" "foundCount" "I") (List.mem_of_getElem? (i := 1) rfl)) (fun _ h9 => h9) rfl dX8_trace_62 ?_
    refine lv_iload_n hx hb dX8_trace_65 rfl (lv_at hl 1 rfl) ?_
    refine va_iast (f := f9_69) (n := 60) hx hb hK hP hD hS kfb tfb e_78 ufb (vp_in_nI (n := n_68) (by omega) (by omega)) dX8_trace_66 (fun H locs hP hD hS => ?_)
    have hm_127 : sm (uy ρ [8007]) [] ws_74 (ws_74.set kfb (fb, .inl (cfb, 60, .inl (upd f9_69 (nI n_68).toNatClampNeg (nI i_67))))) := sm.ints e_78 (uy_in wfb (List.Mem.head _))
    have e_128 : (ws_74.set kfb (fb, .inl (cfb, 60, .inl (upd f9_69 (nI n_68).toNatClampNeg (nI i_67)))))[kfb]? = some (fb, .inl (cfb, 60, .inl (upd f9_69 (nI n_68).toNatClampNeg (nI i_67)))) := wset_self e_78
    have e_129 := set_n (z := (fb, .inl (cfb, 60, .inl (upd f9_69 (nI n_68).toNatClampNeg (nI i_67))))) e_77 (pl_ne e_77 e_78 (by intro h9; simp at h9))
    have e_130 := set_n (z := (fb, .inl (cfb, 60, .inl (upd f9_69 (nI n_68).toNatClampNeg (nI i_67))))) e_87 (pl_ne e_87 e_78 (by intro h9; simp at h9))
    have e_131 := set_n (z := (fb, .inl (cfb, 60, .inl (upd f9_69 (nI n_68).toNatClampNeg (nI i_67))))) e_88 (pl_ne e_88 e_78 (by intro h9; simp at h9))
    have e_132 := set_n (z := (fb, .inl (cfb, 60, .inl (upd f9_69 (nI n_68).toNatClampNeg (nI i_67))))) e_91 (pl_ne e_91 e_78 (by intro h9; simp at h9))
    have e_133 := set_n (z := (fb, .inl (cfb, 60, .inl (upd f9_69 (nI n_68).toNatClampNeg (nI i_67))))) e_92 (pl_ne e_92 e_78 (by intro h9; simp at h9))
    have e_134 := set_n (z := (fb, .inl (cfb, 60, .inl (upd f9_69 (nI n_68).toNatClampNeg (nI i_67))))) e_93 (pl_ne e_93 e_78 (by intro h9; simp at h9))
    have e_135 := set_n (z := (fb, .inl (cfb, 60, .inl (upd f9_69 (nI n_68).toNatClampNeg (nI i_67))))) e_94 (pl_ne e_94 e_78 (by intro h9; simp at h9))
    have e_136 := set_n (z := (fb, .inl (cfb, 60, .inl (upd f9_69 (nI n_68).toNatClampNeg (nI i_67))))) e_95 (pl_ne e_95 e_78 (by intro h9; simp at h9))
    have e_137 := set_n (z := (fb, .inl (cfb, 60, .inl (upd f9_69 (nI n_68).toNatClampNeg (nI i_67))))) e_96 (pl_ne e_96 e_78 (by intro h9; simp at h9))
    have e_138 := set_n (z := (fb, .inl (cfb, 60, .inl (upd f9_69 (nI n_68).toNatClampNeg (nI i_67))))) e_110 (pl_ne e_110 e_78 (by intro h9; simp at h9))
    have e_139 := set_n (z := (fb, .inl (cfb, 60, .inl (upd f9_69 (nI n_68).toNatClampNeg (nI i_67))))) e_116 (pl_ne e_116 e_78 (by intro h9; simp at h9))
    generalize ws_74.set kfb (fb, .inl (cfb, 60, .inl (upd f9_69 (nI n_68).toNatClampNeg (nI i_67)))) = ws_126 at hP hD hm_127 e_128 e_129 e_130 e_131 e_132 e_133 e_134 e_135 e_136 e_137 e_138 e_139
    have hsm := hsm.tr (hm_127.mono (fun _ h9 => absurd h9 List.not_mem_nil))
    have hlp_76 := hlp_76.tr (hm_127.mono (fun _ h9 => absurd h9 List.not_mem_nil))
    obtain ⟨f_140, hf_141⟩ : ∃ g9, g9 = upd f9_69 (nI n_68).toNatClampNeg (nI i_67) := ⟨_, rfl⟩
    rw [← hf_141] at e_128
    refine lv_aload_n hx hb dX8_trace_67 rfl (lv_at hl 3 rfl) ?_
    refine lv_dup hx hb dX8_trace_68 rfl ?_
    refine va_get (D := D) (ci := 8) (v := .int (nI n_68)) (C := RX8) (T := TX8) (N := 15) hx hb hts hin8 hown hK hP k0 e_129 rfl 13 (by decide) (hts (.fieldLink RX8 272 "HoneyHouse" "foundCount" "I") (List.mem_of_getElem? (i := 1) rfl)) (fun _ h9 => h9) rfl dX8_trace_69 ?_
    refine lv_iconst (v := 1) hx hb dX8_trace_72 (by decide) ?_
    refine lv_iadd hx hb dX8_trace_73 ?_
    refine tp_i (y := nI (n_68 + 1)) (nI_add n_68 1) ?_
    refine va_put (D := D) (ci := 8) (v := .int (nI (n_68 + 1))) (ty := .int) (C := RX8) (T := TX8) (N := 15) hx hb hts hin8 tyX8 tyX8_ok nmX8 hown hK hP hD hS k0 e_129 rfl 13 (by decide) (hts (.fieldLink RX8 272 "HoneyHouse" "foundCount" "I") (List.mem_of_getElem? (i := 1) rfl)) (fun _ h9 => h9) rfl (tyX8_ok 13 (by decide)) rfl rfl (Nat.le_of_ble_eq_true rfl) dX8_trace_74 (fun H locs hP hD hS => ?_)
    have hP : va_P D vwCl (ws_126.set k0 (h0, .inr (8, [.ref la, .ref ta, .ref ba, .ref ra, .ref sn, .ref rd, .ref dr, .ref bl, .ref vd, .ref fb, .int (nI lc), .int (nI bc), .int (nI rc), .int (nI (n_68 + 1)), .int dn]))) H := hP
    have hD : va_D A (ws_126.set k0 (h0, .inr (8, [.ref la, .ref ta, .ref ba, .ref ra, .ref sn, .ref rd, .ref dr, .ref bl, .ref vd, .ref fb, .int (nI lc), .int (nI bc), .int (nI rc), .int (nI (n_68 + 1)), .int dn]))) := hD
    have hm_143 : sm (uy ρ [8007]) [8] ws_126 (ws_126.set k0 (h0, .inr (8, [.ref la, .ref ta, .ref ba, .ref ra, .ref sn, .ref rd, .ref dr, .ref bl, .ref vd, .ref fb, .int (nI lc), .int (nI bc), .int (nI rc), .int (nI (n_68 + 1)), .int dn]))) := sm.flds e_129 (smF.c (smV.rf _) (smF.c (smV.rf _) (smF.c (smV.rf _) (smF.c (smV.rf _) (smF.c (smV.rf _) (smF.c (smV.rf _) (smF.c (smV.rf _) (smF.c (smV.rf _) (smF.c (smV.rf _) (smF.c (smV.rf _) (smF.c (smV.rf _) (smF.c (smV.rf _) (smF.c (smV.rf _) (smF.c (smV.i _ _) (smF.c (smV.rf _) (rfl)))))))))))))))) (List.mem_singleton.mpr rfl) (uy_0 w0)
    have e_144 : (ws_126.set k0 (h0, .inr (8, [.ref la, .ref ta, .ref ba, .ref ra, .ref sn, .ref rd, .ref dr, .ref bl, .ref vd, .ref fb, .int (nI lc), .int (nI bc), .int (nI rc), .int (nI (n_68 + 1)), .int dn])))[k0]? = some (h0, .inr (8, [.ref la, .ref ta, .ref ba, .ref ra, .ref sn, .ref rd, .ref dr, .ref bl, .ref vd, .ref fb, .int (nI lc), .int (nI bc), .int (nI rc), .int (nI (n_68 + 1)), .int dn])) := wset_self e_129
    have e_145 := set_n (z := (h0, .inr (8, [.ref la, .ref ta, .ref ba, .ref ra, .ref sn, .ref rd, .ref dr, .ref bl, .ref vd, .ref fb, .int (nI lc), .int (nI bc), .int (nI rc), .int (nI (n_68 + 1)), .int dn]))) e_130 (pl_ne e_130 e_129 (by intro h9; simp at h9))
    have e_146 := set_n (z := (h0, .inr (8, [.ref la, .ref ta, .ref ba, .ref ra, .ref sn, .ref rd, .ref dr, .ref bl, .ref vd, .ref fb, .int (nI lc), .int (nI bc), .int (nI rc), .int (nI (n_68 + 1)), .int dn]))) e_131 (pl_ne e_131 e_129 (by intro h9; simp at h9))
    have e_147 := set_n (z := (h0, .inr (8, [.ref la, .ref ta, .ref ba, .ref ra, .ref sn, .ref rd, .ref dr, .ref bl, .ref vd, .ref fb, .int (nI lc), .int (nI bc), .int (nI rc), .int (nI (n_68 + 1)), .int dn]))) e_128 (pl_ne e_128 e_129 (by intro h9; simp at h9))
    have e_148 := set_n (z := (h0, .inr (8, [.ref la, .ref ta, .ref ba, .ref ra, .ref sn, .ref rd, .ref dr, .ref bl, .ref vd, .ref fb, .int (nI lc), .int (nI bc), .int (nI rc), .int (nI (n_68 + 1)), .int dn]))) e_132 (pl_ne e_132 e_129 (by intro h9; simp at h9))
    have e_149 := set_n (z := (h0, .inr (8, [.ref la, .ref ta, .ref ba, .ref ra, .ref sn, .ref rd, .ref dr, .ref bl, .ref vd, .ref fb, .int (nI lc), .int (nI bc), .int (nI rc), .int (nI (n_68 + 1)), .int dn]))) e_133 (pl_ne e_133 e_129 (by intro h9; simp at h9))
    have e_150 := set_n (z := (h0, .inr (8, [.ref la, .ref ta, .ref ba, .ref ra, .ref sn, .ref rd, .ref dr, .ref bl, .ref vd, .ref fb, .int (nI lc), .int (nI bc), .int (nI rc), .int (nI (n_68 + 1)), .int dn]))) e_134 (pl_ne e_134 e_129 (by intro h9; simp at h9))
    have e_151 := set_n (z := (h0, .inr (8, [.ref la, .ref ta, .ref ba, .ref ra, .ref sn, .ref rd, .ref dr, .ref bl, .ref vd, .ref fb, .int (nI lc), .int (nI bc), .int (nI rc), .int (nI (n_68 + 1)), .int dn]))) e_135 (pl_ne e_135 e_129 (by intro h9; simp at h9))
    have e_152 := set_n (z := (h0, .inr (8, [.ref la, .ref ta, .ref ba, .ref ra, .ref sn, .ref rd, .ref dr, .ref bl, .ref vd, .ref fb, .int (nI lc), .int (nI bc), .int (nI rc), .int (nI (n_68 + 1)), .int dn]))) e_136 (pl_ne e_136 e_129 (by intro h9; simp at h9))
    have e_153 := set_n (z := (h0, .inr (8, [.ref la, .ref ta, .ref ba, .ref ra, .ref sn, .ref rd, .ref dr, .ref bl, .ref vd, .ref fb, .int (nI lc), .int (nI bc), .int (nI rc), .int (nI (n_68 + 1)), .int dn]))) e_137 (pl_ne e_137 e_129 (by intro h9; simp at h9))
    have e_154 := set_n (z := (h0, .inr (8, [.ref la, .ref ta, .ref ba, .ref ra, .ref sn, .ref rd, .ref dr, .ref bl, .ref vd, .ref fb, .int (nI lc), .int (nI bc), .int (nI rc), .int (nI (n_68 + 1)), .int dn]))) e_138 (pl_ne e_138 e_129 (by intro h9; simp at h9))
    have e_155 := set_n (z := (h0, .inr (8, [.ref la, .ref ta, .ref ba, .ref ra, .ref sn, .ref rd, .ref dr, .ref bl, .ref vd, .ref fb, .int (nI lc), .int (nI bc), .int (nI rc), .int (nI (n_68 + 1)), .int dn]))) e_139 (pl_ne e_139 e_129 (by intro h9; simp at h9))
    generalize ws_126.set k0 (h0, .inr (8, [.ref la, .ref ta, .ref ba, .ref ra, .ref sn, .ref rd, .ref dr, .ref bl, .ref vd, .ref fb, .int (nI lc), .int (nI bc), .int (nI rc), .int (nI (n_68 + 1)), .int dn])) = ws_142 at hP hD hm_143 e_144 e_145 e_146 e_147 e_148 e_149 e_150 e_151 e_152 e_153 e_154 e_155
    have hsm := hsm.tr (hm_143.mono (by decide))
    have hlp_76 := hlp_76.tr (hm_143.mono (by decide))
    refine lv_iinc (v := nI (i_67 + 1)) (lv' := [(2, .int (nI (i_67 + 1))), (3, .ref v_102), (1, .int a1), (0, .ref h0)]) hx hb dX8_trace_77 hl (k := 1) rfl (nI_add i_67 1) (by decide) rfl (fun ls hl => ?_)
    refine lv_goto (tgt := 17) hx hb dX8_trace_80 (by decide) ?_
    exact ih_66 (i_67 + 1, n_68 + 1, f_140) ws_142 _ _ ls (by show 60 - (i_67 + 1) < 60 - i_67; omega) ⟨hlp_76, e_144, e_147, (show (i_67 + 1) ≤ 60 from by omega), (show (n_68 + 1) ≤ (i_67 + 1) from by omega), (show (n_68 + 1) = trN (fv 9) a1.toNatClampNeg (min (i_67 + 1) bc) from (by rw [show min (i_67 + 1) bc = i_67 + 1 by omega, trN_y tz_124, hn_72, show min i_67 bc = i_67 by omega])), (show f_140 = trW (fv 9) a1.toNatClampNeg ffb (min (i_67 + 1) bc) from (by rw [show min (i_67 + 1) bc = i_67 + 1 by omega, trW_y tz_124, hf_141, nI_clamp (n := n_68) (by omega), hf_73, show min i_67 bc = i_67 by omega, show n_68 = trN (fv 9) a1.toNatClampNeg i_67 by rw [hn_72, show min i_67 bc = i_67 by omega]]))⟩ hP hD hS (lv_sub hl [0, 2, 3] rfl)
  rw [hba0 i_67 hn_107] at er_101
  subst er_101
  refine tp_v (y := .null) rfl ?_
  refine lv_astore_nN (lv' := [(3, .null), (2, .int (nI i_67)), (1, .int a1), (0, .ref h0)]) hx hb dX8_trace_32 rfl hl (by decide) rfl (fun ls hl => ?_)
  refine lv_aload_nN hx hb dX8_trace_33 rfl (lv_at hl 0 rfl) ?_
  refine lv_ifnullN (tgt := 77) hx hb dX8_trace_34 (by decide) ?_
  refine lv_iinc (v := nI (i_67 + 1)) (lv' := [(2, .int (nI (i_67 + 1))), (3, .null), (1, .int a1), (0, .ref h0)]) hx hb dX8_trace_77 hl (k := 1) rfl (nI_add i_67 1) (by decide) rfl (fun ls hl => ?_)
  refine lv_goto (tgt := 17) hx hb dX8_trace_80 (by decide) ?_
  exact ih_66 (i_67 + 1, n_68, f9_69) ws_74 _ _ ls (by show 60 - (i_67 + 1) < 60 - i_67; omega) ⟨hlp_76, e_77, e_78, (show (i_67 + 1) ≤ 60 from by omega), (show n_68 ≤ (i_67 + 1) from by omega), (show n_68 = trN (fv 9) a1.toNatClampNeg (min (i_67 + 1) bc) from (by rw [show min (i_67 + 1) bc = min i_67 bc by omega]; exact hn_72)), (show f9_69 = trW (fv 9) a1.toNatClampNeg ffb (min (i_67 + 1) bc) from (by rw [show min (i_67 + 1) bc = min i_67 bc by omega]; exact hf_73))⟩ hP hD hS (lv_sub hl [0, 2, 3] rfl)
set_option maxHeartbeats 4000000 in
set_option maxRecDepth 100000 in
theorem s_J6_bitCount (l : Launch) (a1 : Int32) : Met l yJ6_bitCount_0f7a4 wsJ6_bitCount_0f7a4 ({ frames := 0, cells := 0, slots := 0, locals := 0 }) (va_Pc [.int a1] (fun _ => True)) (vp_Si (fun r => r = bcF a1)) 0 0 (fun _ => False) := by
  refine Met.ofW (cc := cJ6_bitCount_0f7a4) (maxL := 1) (ret := (some .int)) (by decide) rfl ?_
  intro p e s m args below meth c s₁ B hml hv
  obtain ⟨rfl, -⟩ := hv
  have hx := B.exec
  have hb := B.bytes
  have hr := B.returns
  have hts := atoms_spec (ws := wsJ6_bitCount_0f7a4) B.pre
  have hown : s.vm.findClass RJ6 = some m.cls := findClass_of_methodNamed B.named
  have hlocks := B.notSynchronized
  have hl := lv_entry ([.int a1]) (n := 1) (Nat.le_of_ble_eq_true rfl)
  rw [lg_entry_eq]
  generalize (lg_sl ([.int a1]) ++ List.replicate (1 - (lg_sl ([.int a1])).length) Slot.unset).toArray = ls at hl ⊢
  have hl : lv_has ls 1 [(0, .int a1)] := hl
  refine lv_iload_n hx hb dJ6_bitCount_0f7a4_0 rfl (lv_at hl 0 rfl) ?_
  refine lv_iload_n hx hb dJ6_bitCount_0f7a4_1 rfl (lv_at hl 0 rfl) ?_
  refine lv_iconst (v := 1) hx hb dJ6_bitCount_0f7a4_2 (by decide) ?_
  refine lv_iushr hx hb dJ6_bitCount_0f7a4_3 rfl ?_
  refine lv_ldcw hx hb hown (hts (.constant RJ6 265 (1431655765)) (List.mem_of_getElem? (i := 1) rfl)) dJ6_bitCount_0f7a4_4 ?_
  refine lv_iand hx hb dJ6_bitCount_0f7a4_7 ?_
  refine lv_isub hx hb dJ6_bitCount_0f7a4_8 ?_
  refine tp_i (y := bc1 a1) (rfl) ?_
  refine lv_istore_n (lv' := [(0, .int (bc1 a1))]) hx hb dJ6_bitCount_0f7a4_9 rfl hl (by decide) rfl (fun ls hl => ?_)
  refine lv_iload_n hx hb dJ6_bitCount_0f7a4_10 rfl (lv_at hl 0 rfl) ?_
  refine lv_ldcw hx hb hown (hts (.constant RJ6 266 (858993459)) (List.mem_of_getElem? (i := 2) rfl)) dJ6_bitCount_0f7a4_11 ?_
  refine lv_iand hx hb dJ6_bitCount_0f7a4_14 ?_
  refine lv_iload_n hx hb dJ6_bitCount_0f7a4_15 rfl (lv_at hl 0 rfl) ?_
  refine lv_iconst (v := 2) hx hb dJ6_bitCount_0f7a4_16 (by decide) ?_
  refine lv_iushr hx hb dJ6_bitCount_0f7a4_17 rfl ?_
  refine lv_ldcw hx hb hown (hts (.constant RJ6 266 (858993459)) (List.mem_of_getElem? (i := 2) rfl)) dJ6_bitCount_0f7a4_18 ?_
  refine lv_iand hx hb dJ6_bitCount_0f7a4_21 ?_
  refine lv_iadd hx hb dJ6_bitCount_0f7a4_22 ?_
  refine tp_i (y := bc2 (bc1 a1)) (rfl) ?_
  refine lv_istore_n (lv' := [(0, .int (bc2 (bc1 a1)))]) hx hb dJ6_bitCount_0f7a4_23 rfl hl (by decide) rfl (fun ls hl => ?_)
  refine lv_iload_n hx hb dJ6_bitCount_0f7a4_24 rfl (lv_at hl 0 rfl) ?_
  refine lv_iload_n hx hb dJ6_bitCount_0f7a4_25 rfl (lv_at hl 0 rfl) ?_
  refine lv_iconst (v := 4) hx hb dJ6_bitCount_0f7a4_26 (by decide) ?_
  refine lv_iushr hx hb dJ6_bitCount_0f7a4_27 rfl ?_
  refine lv_iadd hx hb dJ6_bitCount_0f7a4_28 ?_
  refine lv_ldcw hx hb hown (hts (.constant RJ6 267 (252645135)) (List.mem_of_getElem? (i := 3) rfl)) dJ6_bitCount_0f7a4_29 ?_
  refine lv_iand hx hb dJ6_bitCount_0f7a4_32 ?_
  refine tp_i (y := bc3 (bc2 (bc1 a1))) (rfl) ?_
  refine lv_istore_n (lv' := [(0, .int (bc3 (bc2 (bc1 a1))))]) hx hb dJ6_bitCount_0f7a4_33 rfl hl (by decide) rfl (fun ls hl => ?_)
  refine lv_iload_n hx hb dJ6_bitCount_0f7a4_34 rfl (lv_at hl 0 rfl) ?_
  refine lv_iload_n hx hb dJ6_bitCount_0f7a4_35 rfl (lv_at hl 0 rfl) ?_
  refine lv_bipush (v := 8) hx hb dJ6_bitCount_0f7a4_36 (by decide) ?_
  refine lv_iushr hx hb dJ6_bitCount_0f7a4_38 rfl ?_
  refine lv_iadd hx hb dJ6_bitCount_0f7a4_39 ?_
  refine tp_i (y := bc4 (bc3 (bc2 (bc1 a1)))) (rfl) ?_
  refine lv_istore_n (lv' := [(0, .int (bc4 (bc3 (bc2 (bc1 a1)))))]) hx hb dJ6_bitCount_0f7a4_40 rfl hl (by decide) rfl (fun ls hl => ?_)
  refine lv_iload_n hx hb dJ6_bitCount_0f7a4_41 rfl (lv_at hl 0 rfl) ?_
  refine lv_iload_n hx hb dJ6_bitCount_0f7a4_42 rfl (lv_at hl 0 rfl) ?_
  refine lv_bipush (v := 16) hx hb dJ6_bitCount_0f7a4_43 (by decide) ?_
  refine lv_iushr hx hb dJ6_bitCount_0f7a4_45 rfl ?_
  refine lv_iadd hx hb dJ6_bitCount_0f7a4_46 ?_
  refine tp_i (y := bc5 (bc4 (bc3 (bc2 (bc1 a1))))) (rfl) ?_
  refine lv_istore_n (lv' := [(0, .int (bc5 (bc4 (bc3 (bc2 (bc1 a1))))))]) hx hb dJ6_bitCount_0f7a4_47 rfl hl (by decide) rfl (fun ls hl => ?_)
  refine lv_iload_n hx hb dJ6_bitCount_0f7a4_48 rfl (lv_at hl 0 rfl) ?_
  refine lv_bipush (v := 63) hx hb dJ6_bitCount_0f7a4_49 (by decide) ?_
  refine lv_iand hx hb dJ6_bitCount_0f7a4_51 ?_
  exact W.iret (v := (bc5 (bc4 (bc3 (bc2 (bc1 a1))))) &&& 63) hx hb hr (fun t ht hW => ⟨(bc5 (bc4 (bc3 (bc2 (bc1 a1))))) &&& 63, rfl, rfl, ht⟩) (fun _ h9 => by cases h9) dJ6_bitCount_0f7a4_52
theorem n_14 {k : Nat} (hk : k ≤ 10) : (nI k < 1 ∨ 4 < nI k → ¬ (1 ≤ k ∧ k ≤ 4)) ∧ (¬ nI k < 1 → ¬ 4 < nI k → 1 ≤ k ∧ k ≤ 4) := by
  have c1 : nI k < 1 ↔ k < 1 := nI_ltI (a := k) (b := 1) (by omega) (by omega)
  have c4 : (4 : Int32) < nI k ↔ 4 < k := nI_ltI (a := 4) (b := k) (by omega) (by omega)
  rw [c1, c4]
  exact ⟨fun h => by omega, fun h1 h2 => by omega⟩
set_option maxHeartbeats 4000000 in
set_option maxRecDepth 100000 in
theorem a_areTanks (l : Launch) (D : va_G) (ρ : Nat → Nat) (ws : va_W) (tys : List (ClassId × FieldType)) (fv : Nat → Nat → Int32) (h0 lc bc rc fc : Nat) (dn : Int32) (tl : Nat) (a1 : Int32) (sz : Nat) (X : XI ρ fv ws tys h0 lc bc rc fc dn tl) : Met l yX8_areTanksToBlend wsX8_areTanksToBlend ({ frames := 1, cells := 0, slots := 0, locals := 22 }) (va_Pc [.ref h0, .int a1] (fun U => U.heap.size = sz ∧ va_P D vwCl ws U.heap ∧ va_K D vwCl tys U ∧ va_D (fun _ => True) ws ∧ NZ U)) (va_Qi (fun (r : Int32) (_ : Unit) => (r = 1 ∧ bAT fv a1) ∨ (r = 0 ∧ ¬ bAT fv a1)) (fun (_ : Unit) (t : State) => ∃ (ws' : va_W) (tys' : List (ClassId × FieldType)), sm ρ [] ws ws' ∧ tyx tys tys' ∧ va_P D vwCl ws' t.heap ∧ va_K D vwCl tys' t ∧ va_D (va_A ws sz) ws' ∧ (ws = ws' ∧ tys = tys')) (va_A ws sz)) 0 0 (va_A ws sz) := by
  refine Met.ofW (cc := cX8_areTanksToBlend) (maxL := 3) (ret := (some .boolean)) (by decide) rfl ?_
  intro p e s m args below meth c s₁ B hml hv
  obtain ⟨rfl, hsz, hP, hK, hD0, hnz⟩ := hv
  have hx := B.exec
  have hb := B.bytes
  have hr := B.returns
  have hts := atoms_spec (ws := wsX8_areTanksToBlend) B.pre
  have hown : s.vm.findClass RX8 = some m.cls := findClass_of_methodNamed B.named
  have hlocks := B.notSynchronized
  subst hsz
  have hD := hD0.self (sz := s.heap.size)
  generalize hAe : va_A ws s.heap.size = A at hD ⊢
  have hA : ∀ q : Nat, s.heap.size ≤ q → A q := fun q h => by rw [← hAe]; exact Or.inr h
  have hS : va_S A s.heap s.heap [] := va_S.rf
  have hsm : sm ρ [] ws ws := sm.rf ws
  have htx : tyx tys tys := tyx.rf tys
  have hin7 : ∀ w ∈ u_ws RX7 TX7 5, w ∈ wsX8_areTanksToBlend := (fun _ h9 => List.mem_cons_of_mem _ ((List.mem_append_right _ h9)))
  have hin8 : ∀ w ∈ u_ws RX8 TX8 15, w ∈ wsX8_areTanksToBlend := (fun _ h9 => List.mem_cons_of_mem _ (List.mem_append_left _ ((List.mem_append_right _ h9))))
  have hl := lv_entry ([.ref h0, .int a1]) (n := 3) (Nat.le_of_ble_eq_true rfl)
  rw [lg_entry_eq]
  generalize (lg_sl ([.ref h0, .int a1]) ++ List.replicate (3 - (lg_sl ([.ref h0, .int a1])).length) Slot.unset).toArray = ls at hl ⊢
  have hl : lv_has ls 3 [(0, .ref h0), (1, .int a1)] := hl
  obtain ⟨k0, la, ta, ba, ra, sn, rd, dr, bl, vd, fb, e0, w0, hle0, hnum, qla, qta, qba, qra, qsn, qrd, qdr, qbl, qvd, qfb⟩ := id X
  obtain ⟨kta, cta, tta, fta, eta, uta, hta0, hta1⟩ := id qta
  refine lv_iload_n hx hb dX8_areTanksToBlend_0 rfl (lv_at hl 1 rfl) ?_
  refine lv_bipush (v := 10) hx hb dX8_areTanksToBlend_1 (by decide) ?_
  refine lv_ishr hx hb dX8_areTanksToBlend_3 ?_
  refine lv_if_ne (tgt := 19) hx hb dX8_areTanksToBlend_4 (by decide) (fun c_1 => ?_) (fun c_1 => ?_)
  · refine lv_iconst (v := 0) hx hb dX8_areTanksToBlend_19 (by decide) ?_
    exact W.zret (v := 0) hx hb hr rfl (fun t ht hW => ⟨⟨0, (), rfl, Or.inr ⟨rfl, fun h9 => c_1 (sr_0.mpr h9.1)⟩, ws, tys, hsm, htx, by rw [ht]; exact hP, va_K.moved hW.alike hK, hD, ⟨rfl, rfl⟩⟩, hS.F ht⟩) hS.2.2 dX8_areTanksToBlend_20
  refine lv_iload_n hx hb dX8_areTanksToBlend_7 rfl (lv_at hl 1 rfl) ?_
  refine vp_callSi (W.runS (As := [.int a1]) (rest := []) ⟨hx, hb, hml, hown, hts⟩ (s_J6_bitCount l a1) (va_cwS 1 hts gX8_areTanksToBlend_J6_bitCount_0f7a4 rfl rfl rfl (by decide +kernel) ⟨Nat.le_of_ble_eq_true rfl, Nat.le_of_ble_eq_true rfl⟩) ⟨fun a U g mk q => q, fun U hU hW => ⟨rfl, trivial⟩⟩ rfl rfl hl.1 rfl (lv_room (Nat.le_of_ble_eq_true rfl)) dX8_areTanksToBlend_8 ⟨Nat.le_of_ble_eq_true rfl, Nat.le_of_ble_eq_true rfl⟩) (fun r_2 k_3 => ?_)
  obtain ⟨n_4, hn_5, e_6⟩ := sr_0.mp c_1
  obtain rfl : r_2 = nI (cB a1 10) := k_3.trans (bc_n hn_5 e_6)
  refine lv_iconst (v := 1) hx hb dX8_areTanksToBlend_11 (by decide) ?_
  refine lv_iconst (v := 4) hx hb dX8_areTanksToBlend_12 (by decide) ?_
  refine vp_callSi (W.runS (As := [.int (nI (cB a1 10)), .int 1, .int 4]) (rest := []) ⟨hx, hb, hml, hown, hts⟩ (s_X8_isIn l (nI (cB a1 10)) 1 4) (va_cwS 3 hts gX8_areTanksToBlend_X8_isIn rfl rfl rfl (by decide +kernel) ⟨Nat.le_of_ble_eq_true rfl, Nat.le_of_ble_eq_true rfl⟩) ⟨fun a U g mk q => q, fun U hU hW => ⟨rfl, trivial⟩⟩ rfl rfl hl.1 rfl (lv_room (Nat.le_of_ble_eq_true rfl)) dX8_areTanksToBlend_13 ⟨Nat.le_of_ble_eq_true rfl, Nat.le_of_ble_eq_true rfl⟩) (fun r_7 k_8 => ?_)
  rcases k_8 with ⟨rfl, o_9⟩ | ⟨rfl, a_10, b_11⟩
  · have hk_12 := (n_14 (cB_10 10)).1 o_9
    refine lv_if_ne (tgt := 21) hx hb dX8_areTanksToBlend_16 (by decide) (fun c_13 => absurd (by decide) c_13) (fun c_13 => ?_)
    refine lv_iconst (v := 0) hx hb dX8_areTanksToBlend_19 (by decide) ?_
    exact W.zret (v := 0) hx hb hr rfl (fun t ht hW => ⟨⟨0, (), rfl, Or.inr ⟨rfl, fun h9 => hk_12 ⟨h9.2.1, h9.2.2.1⟩⟩, ws, tys, hsm, htx, by rw [ht]; exact hP, va_K.moved hW.alike hK, hD, ⟨rfl, rfl⟩⟩, hS.F ht⟩) hS.2.2 dX8_areTanksToBlend_20
  have hk_12 := (n_14 (cB_10 10)).2 a_10 b_11
  refine lv_if_ne (tgt := 21) hx hb dX8_areTanksToBlend_16 (by decide) (fun c_14 => ?_) (fun c_14 => absurd c_14 (by decide))
  refine lv_iconst (v := 0) hx hb dX8_areTanksToBlend_21 (by decide) ?_
  refine lv_istore_n (lv' := [(2, .int 0), (0, .ref h0), (1, .int a1)]) hx hb dX8_areTanksToBlend_22 rfl hl (by decide) rfl (fun ls hl => ?_)
  refine lp_V (nL := 3) (σ := Nat) (lv := fun x9 => [(2, .int (nI x9)), (1, .int a1), (0, .ref h0)]) (μ := fun x9 => 10 - x9) (J := fun x9 ws9 => (ws = ws9) ∧ (x9 ≤ 10) ∧ (∀ t9 : Nat, t9 < x9 → bB a1 t9 → ¬ mall (fv 9) t9 40 = 0)) (fun x9 ws_19 H locs ls hj hP hD hS hl ih_15 => ?_) 0 ws _ _ ls ⟨rfl, (show 0 ≤ 10 from by omega), (show ∀ t9 : Nat, t9 < 0 → bB a1 t9 → ¬ mall (fv 9) t9 40 = 0 from fun t9 h9 => absurd h9 (by omega))⟩ hP hD hS (lv_sub hl [0, 2, 1] rfl)
  obtain ⟨i_16, hx9⟩ : ∃ y9, y9 = x9 := ⟨_, rfl⟩
  subst hx9
  replace hj : (ws = ws_19) ∧ (i_16 ≤ 10) ∧ (∀ t9 : Nat, t9 < i_16 → bB a1 t9 → ¬ mall (fv 9) t9 40 = 0) := hj
  obtain ⟨hm_20, hi_17, hno_18⟩ := hj
  subst hm_20
  have hl : lv_has ls 3 [(2, .int (nI i_16)), (1, .int a1), (0, .ref h0)] := hl
  refine lv_iload_n hx hb dX8_areTanksToBlend_23 rfl (lv_at hl 0 rfl) ?_
  refine lv_aload_n hx hb dX8_areTanksToBlend_24 rfl (lv_at hl 2 rfl) ?_
  refine va_get (D := D) (ci := 8) (v := .ref ta) (C := RX8) (T := TX8) (N := 15) hx hb hts hin8 hown hK hP k0 e0 rfl 1 (by decide) (hts (.fieldLink RX8 17 "HoneyHouse" "tanks" "[LHoneyHouse$Vessel;") (List.mem_of_getElem? (i := 1) rfl)) (fun _ h9 => h9) rfl dX8_areTanksToBlend_25 ?_
  refine va_alen (v := 10) hx hb hK hP kta tta eta uta rfl dX8_areTanksToBlend_28 ?_
  refine lv_icmp_ge (tgt := 69) hx hb dX8_areTanksToBlend_29 (by decide) (fun c_22 => ?_) (fun c_22 => ?_)
  · have d_23 := n_le (a := 10) (b := i_16) (by omega) (by omega) c_22
    refine lv_iconst (v := 1) hx hb dX8_areTanksToBlend_69 (by decide) ?_
    exact W.zret (v := 1) hx hb hr rfl (fun t ht hW => ⟨⟨1, (), rfl, Or.inl ⟨rfl, ⟨n_4, hn_5, e_6⟩, hk_12.1, hk_12.2, fun t9 h9 => hno_18 t9 (by omega)⟩, ws, tys, hsm, htx, by rw [ht]; exact hP, va_K.moved hW.alike hK, hD, ⟨rfl, rfl⟩⟩, hS.F ht⟩) hS.2.2 dX8_areTanksToBlend_70
  have d_24 := n_nle (a := 10) (b := i_16) (by omega) (by omega) c_22
  refine lv_iload_n hx hb dX8_areTanksToBlend_32 rfl (lv_at hl 1 rfl) ?_
  refine lv_iload_n hx hb dX8_areTanksToBlend_33 rfl (lv_at hl 0 rfl) ?_
  refine vp_callSi (W.runS (As := [.int a1, .int (nI i_16)]) (rest := []) ⟨hx, hb, hml, hown, hts⟩ (s_X8_hasBit l a1 i_16) (va_cwS 2 hts gX8_areTanksToBlend_X8_hasBit rfl rfl rfl (by decide +kernel) ⟨Nat.le_of_ble_eq_true rfl, Nat.le_of_ble_eq_true rfl⟩) ⟨fun a U g mk q => q, fun U hU hW => ⟨rfl, trivial⟩⟩ rfl rfl hl.1 rfl (lv_room (Nat.le_of_ble_eq_true rfl)) dX8_areTanksToBlend_34 ⟨Nat.le_of_ble_eq_true rfl, Nat.le_of_ble_eq_true rfl⟩) (fun r_25 k_26 => ?_)
  rcases k_26 with ⟨rfl, hb_27⟩ | ⟨rfl, hb_27⟩
  · refine lv_if_eq (tgt := 63) hx hb dX8_areTanksToBlend_37 (by decide) (fun c_28 => absurd c_28 (by decide)) (fun c_28 => ?_)
    refine lv_aload_n hx hb dX8_areTanksToBlend_40 rfl (lv_at hl 2 rfl) ?_
    refine va_get (D := D) (ci := 8) (v := .ref ta) (C := RX8) (T := TX8) (N := 15) hx hb hts hin8 hown hK hP k0 e0 rfl 1 (by decide) (hts (.fieldLink RX8 17 "HoneyHouse" "tanks" "[LHoneyHouse$Vessel;") (List.mem_of_getElem? (i := 1) rfl)) (fun _ h9 => h9) rfl dX8_areTanksToBlend_41 ?_
    refine lv_iload_n hx hb dX8_areTanksToBlend_44 rfl (lv_at hl 0 rfl) ?_
    refine va_aldq (f := fta) (n := 10) hx hb hK hP kta tta eta uta (vp_in_nI (n := i_16) (by omega) (by omega)) dX8_areTanksToBlend_45 ?_
    obtain ⟨r_29, er_30⟩ : ∃ r, r = fta (nI i_16).toNatClampNeg := ⟨_, rfl⟩
    refine tp_v (y := va_rf r_29) (by rw [er_30]) ?_
    rw [nI_clamp (n := i_16) (by omega)] at er_30
    obtain ⟨v_31, ev_32, hV_33⟩ := hta1 i_16 (by omega)
    rw [Nat.zero_add] at hV_33
    rw [ev_32] at er_30
    subst er_30
    have hV_34 := hV_33.sm hsm htx (fun k _ h1 h2 => by omega)
    obtain ⟨k_35, g_36, e_37, wk_38, k_39, c9_40, t_41, f_42, e_43, u_44, wr_45, g_46⟩ := hV_34
    refine tp_v (y := .ref v_31) rfl ?_
    refine lv_ifnull hx hb dX8_areTanksToBlend_46 ?_
    refine lv_aload_n hx hb dX8_areTanksToBlend_49 rfl (lv_at hl 2 rfl) ?_
    refine va_get (D := D) (ci := 8) (v := .ref ta) (C := RX8) (T := TX8) (N := 15) hx hb hts hin8 hown hK hP k0 e0 rfl 1 (by decide) (hts (.fieldLink RX8 17 "HoneyHouse" "tanks" "[LHoneyHouse$Vessel;") (List.mem_of_getElem? (i := 1) rfl)) (fun _ h9 => h9) rfl dX8_areTanksToBlend_50 ?_
    refine lv_iload_n hx hb dX8_areTanksToBlend_53 rfl (lv_at hl 0 rfl) ?_
    refine va_aldq (f := fta) (n := 10) hx hb hK hP kta tta eta uta (vp_in_nI (n := i_16) (by omega) (by omega)) dX8_areTanksToBlend_54 ?_
    refine tp_v (y := .ref v_31) (by rw [nI_clamp (n := i_16) (by omega), ev_32]; rfl) ?_
    refine va_get (D := D) (ci := 7) (v := .int (mall (fv 9) i_16 40)) (C := RX7) (T := TX7) (N := 5) hx hb hts hin7 hown hK hP k_35 e_37 rfl 1 (by decide) (hts (.fieldLink RX8 144 "HoneyHouse$Vessel" "total" "I") (List.mem_of_getElem? (i := 2) rfl)) (fun _ h9 => h9) rfl dX8_areTanksToBlend_55 ?_
    refine lv_if_ne (tgt := 63) hx hb dX8_areTanksToBlend_58 (by decide) (fun c_47 => ?_) (fun c_47 => ?_)
    · refine lv_iinc (v := nI (i_16 + 1)) (lv' := [(2, .int (nI (i_16 + 1))), (1, .int a1), (0, .ref h0)]) hx hb dX8_areTanksToBlend_63 hl (k := 0) rfl (nI_add i_16 1) (by decide) rfl (fun ls hl => ?_)
      refine lv_goto (tgt := 23) hx hb dX8_areTanksToBlend_66 (by decide) ?_
      exact ih_15 (i_16 + 1) ws _ _ ls (by show 10 - (i_16 + 1) < 10 - i_16; omega) ⟨rfl, (show (i_16 + 1) ≤ 10 from by omega), (show ∀ t9 : Nat, t9 < (i_16 + 1) → bB a1 t9 → ¬ mall (fv 9) t9 40 = 0 from fun t9 h9 => (Nat.lt_or_ge t9 i_16).elim (fun q => hno_18 t9 q) (fun q => by rw [show t9 = i_16 by omega]; exact fun _ => c_47))⟩ hP hD hS (lv_sub hl [0, 1, 2] rfl)
    refine lv_iconst (v := 0) hx hb dX8_areTanksToBlend_61 (by decide) ?_
    exact W.zret (v := 0) hx hb hr rfl (fun t ht hW => ⟨⟨0, (), rfl, Or.inr ⟨rfl, fun h9 => h9.2.2.2 i_16 (by omega) hb_27 c_47⟩, ws, tys, hsm, htx, by rw [ht]; exact hP, va_K.moved hW.alike hK, hD, ⟨rfl, rfl⟩⟩, hS.F ht⟩) hS.2.2 dX8_areTanksToBlend_62
  refine lv_if_eq (tgt := 63) hx hb dX8_areTanksToBlend_37 (by decide) (fun c_48 => ?_) (fun c_48 => absurd (by decide) c_48)
  refine lv_iinc (v := nI (i_16 + 1)) (lv' := [(2, .int (nI (i_16 + 1))), (1, .int a1), (0, .ref h0)]) hx hb dX8_areTanksToBlend_63 hl (k := 0) rfl (nI_add i_16 1) (by decide) rfl (fun ls hl => ?_)
  refine lv_goto (tgt := 23) hx hb dX8_areTanksToBlend_66 (by decide) ?_
  exact ih_15 (i_16 + 1) ws _ _ ls (by show 10 - (i_16 + 1) < 10 - i_16; omega) ⟨rfl, (show (i_16 + 1) ≤ 10 from by omega), (show ∀ t9 : Nat, t9 < (i_16 + 1) → bB a1 t9 → ¬ mall (fv 9) t9 40 = 0 from fun t9 h9 => (Nat.lt_or_ge t9 i_16).elim (fun q => hno_18 t9 q) (fun q => by rw [show t9 = i_16 by omega]; exact fun h8 => absurd h8 hb_27))⟩ hP hD hS (lv_sub hl [0, 1, 2] rfl)
set_option maxHeartbeats 4000000 in
set_option maxRecDepth 100000 in
theorem s_isWithin (l : Launch) (D : va_G) (ws : va_W) (tys : List (ClassId × FieldType)) (bl kbl b0 b2 b3 b4 b5 b6 b7 : Nat) (b1 b8 b9 b10 b11 b12 b13 : Int32) (a1 a2 : Int32) (ebl : ws[kbl]? = some (bl, .inr (0, [.ref b0, .int b1, .ref b2, .ref b3, .ref b4, .ref b5, .ref b6, .ref b7, .int b8, .int b9, .int b10, .int b11, .int b12, .int b13]))) : Met l yX0_isWithin wsX0_isWithin ({ frames := 0, cells := 0, slots := 0, locals := 0 }) (va_Pc [.ref bl, .int a1, .int a2] (fun U => va_P D vwCl ws U.heap ∧ va_K D vwCl tys U)) (vp_Si (fun r => (r = 1 ∧ ¬ b11 < a1 ∧ ¬ a2 < b12 ∧ ¬ b13 < a2) ∨ (r = 0 ∧ (b11 < a1 ∨ a2 < b12 ∨ b13 < a2)))) 0 0 (fun _ => False) := by
  refine Met.ofW (cc := cX0_isWithin) (maxL := 3) (ret := (some .boolean)) (by decide) rfl ?_
  intro p e s m args below meth c s₁ B hml hv
  obtain ⟨rfl, hP, hK⟩ := hv
  have hx := B.exec
  have hb := B.bytes
  have hr := B.returns
  have hts := atoms_spec (ws := wsX0_isWithin) B.pre
  have hown : s.vm.findClass RX0 = some m.cls := findClass_of_methodNamed B.named
  have hlocks := B.notSynchronized
  have hin0 : ∀ w ∈ u_ws RX0 TX0 14, w ∈ wsX0_isWithin := (fun _ h9 => List.mem_cons_of_mem _ ((List.mem_append_right _ h9)))
  have hl := lv_entry ([.ref bl, .int a1, .int a2]) (n := 3) (Nat.le_of_ble_eq_true rfl)
  rw [lg_entry_eq]
  generalize (lg_sl ([.ref bl, .int a1, .int a2]) ++ List.replicate (3 - (lg_sl ([.ref bl, .int a1, .int a2])).length) Slot.unset).toArray = ls at hl ⊢
  have hl : lv_has ls 3 [(0, .ref bl), (1, .int a1), (2, .int a2)] := hl
  refine lv_iload_n hx hb dX0_isWithin_0 rfl (lv_at hl 1 rfl) ?_
  refine lv_aload_n hx hb dX0_isWithin_1 rfl (lv_at hl 0 rfl) ?_
  refine va_get (D := D) (ci := 0) (v := .int b11) (C := RX0) (T := TX0) (N := 14) hx hb hts hin0 hown hK hP kbl ebl rfl 11 (by decide) (hts (.fieldLink RX0 46 "HoneyHouse$Blender" "mostWater" "I") (List.mem_of_getElem? (i := 1) rfl)) (fun _ h9 => h9) rfl dX0_isWithin_2 ?_
  refine lv_icmp_gt (tgt := 28) hx hb dX0_isWithin_5 (by decide) (fun c_1 => ?_) (fun c_1 => ?_)
  · refine lv_iconst (v := 0) hx hb dX0_isWithin_28 (by decide) ?_
    exact W.zret (v := 0) hx hb hr rfl (fun t ht hW => ⟨0, rfl, Or.inr ⟨rfl, Or.inl c_1⟩, ht⟩) (fun _ h9 => by cases h9) dX0_isWithin_29
  refine lv_iload_n hx hb dX0_isWithin_8 rfl (lv_at hl 2 rfl) ?_
  refine lv_aload_n hx hb dX0_isWithin_9 rfl (lv_at hl 0 rfl) ?_
  refine va_get (D := D) (ci := 0) (v := .int b12) (C := RX0) (T := TX0) (N := 14) hx hb hts hin0 hown hK hP kbl ebl rfl 12 (by decide) (hts (.fieldLink RX0 49 "HoneyHouse$Blender" "leastColour" "I") (List.mem_of_getElem? (i := 2) rfl)) (fun _ h9 => h9) rfl dX0_isWithin_10 ?_
  refine lv_icmp_lt (tgt := 28) hx hb dX0_isWithin_13 (by decide) (fun c_2 => ?_) (fun c_2 => ?_)
  · refine lv_iconst (v := 0) hx hb dX0_isWithin_28 (by decide) ?_
    exact W.zret (v := 0) hx hb hr rfl (fun t ht hW => ⟨0, rfl, Or.inr ⟨rfl, Or.inr (Or.inl c_2)⟩, ht⟩) (fun _ h9 => by cases h9) dX0_isWithin_29
  refine lv_iload_n hx hb dX0_isWithin_16 rfl (lv_at hl 2 rfl) ?_
  refine lv_aload_n hx hb dX0_isWithin_17 rfl (lv_at hl 0 rfl) ?_
  refine va_get (D := D) (ci := 0) (v := .int b13) (C := RX0) (T := TX0) (N := 14) hx hb hts hin0 hown hK hP kbl ebl rfl 13 (by decide) (hts (.fieldLink RX0 52 "HoneyHouse$Blender" "mostColour" "I") (List.mem_of_getElem? (i := 3) rfl)) (fun _ h9 => h9) rfl dX0_isWithin_18 ?_
  refine lv_icmp_gt (tgt := 28) hx hb dX0_isWithin_21 (by decide) (fun c_3 => ?_) (fun c_3 => ?_)
  · refine lv_iconst (v := 0) hx hb dX0_isWithin_28 (by decide) ?_
    exact W.zret (v := 0) hx hb hr rfl (fun t ht hW => ⟨0, rfl, Or.inr ⟨rfl, Or.inr (Or.inr (c_3))⟩, ht⟩) (fun _ h9 => by cases h9) dX0_isWithin_29
  refine lv_iconst (v := 1) hx hb dX0_isWithin_24 (by decide) ?_
  refine lv_goto (tgt := 29) hx hb dX0_isWithin_25 (by decide) ?_
  exact W.zret (v := 1) hx hb hr rfl (fun t ht hW => ⟨1, rfl, Or.inl ⟨rfl, c_1, c_2, c_3⟩, ht⟩) (fun _ h9 => by cases h9) dX0_isWithin_29
set_option maxHeartbeats 4000000 in
set_option maxRecDepth 100000 in
theorem a_begin (l : Launch) (D : va_G) (ρ : Nat → Nat) (ws : va_W) (tys : List (ClassId × FieldType)) (bl kbl b0 b2 b3 b4 b5 b6 b7 : Nat) (b1 b8 b9 b10 b11 b12 b13 : Int32) (kb3 : Nat) (cb3 : ClassId) (tb3 : Nat) (fb3 : Nat → Int32) (pm wa le mo : Nat) (sz : Nat) (ebl : ws[kbl]? = some (bl, .inr (0, [.ref b0, .int b1, .ref b2, .ref b3, .ref b4, .ref b5, .ref b6, .ref b7, .int b8, .int b9, .int b10, .int b11, .int b12, .int b13]))) (eb3 : ws[kb3]? = some (b3, .inl (cb3, 4, .inl fb3))) (ub3 : tys[tb3]? = some (cb3, .int)) (w_kbl : ρ kbl = 0) (w_kb3 : ρ kb3 = 0) : Met l yX0_begin wsX0_begin ({ frames := 1, cells := 0, slots := 0, locals := 23 }) (va_Pc [.ref bl, .int (nI pm), .int (nI wa), .int (nI le), .int (nI mo)] (fun U => U.heap.size = sz ∧ va_P D vwCl ws U.heap ∧ va_K D vwCl tys U ∧ va_D (fun _ => True) ws)) (va_Qv (fun _ : Unit => True) (fun (_ : Unit) (t : State) => ∃ (ws' : va_W) (tys' : List (ClassId × FieldType)), sm ρ [0] ws ws' ∧ tyx tys tys' ∧ va_P D vwCl ws' t.heap ∧ va_K D vwCl tys' t ∧ va_D (va_A ws sz) ws' ∧ (∃ f3 : Nat → Int32, ws'[kb3]? = some (b3, .inl (cb3, 4, .inl f3)) ∧ (∀ i : Nat, i < 4 → f3 i = 0) ∧ ws'[kbl]? = some (bl, .inr (0, [.ref b0, .int b1, .ref b2, .ref b3, .ref b4, .ref b5, .ref b6, .ref b7, .int 0, .int b9, .int (nI pm), .int (nI (pm * 10 * wa)), .int (nI (pm * 10 * le)), .int (nI (pm * 10 * mo))])))) (va_A ws sz)) 0 0 (va_A ws sz) := by
  refine Met.ofW (cc := cX0_begin) (maxL := 5) (ret := none) (by decide) rfl ?_
  intro p e s m args below meth c s₁ B hml hv
  obtain ⟨rfl, hsz, hP, hK, hD0⟩ := hv
  have hx := B.exec
  have hb := B.bytes
  have hr := B.returns
  have hts := atoms_spec (ws := wsX0_begin) B.pre
  have hown : s.vm.findClass RX0 = some m.cls := findClass_of_methodNamed B.named
  have hlocks := B.notSynchronized
  subst hsz
  have hD := hD0.self (sz := s.heap.size)
  generalize hAe : va_A ws s.heap.size = A at hD ⊢
  have hA : ∀ q : Nat, s.heap.size ≤ q → A q := fun q h => by rw [← hAe]; exact Or.inr h
  have hS : va_S A s.heap s.heap [] := va_S.rf
  have hsm : sm ρ [0] ws ws := sm.rf ws
  have htx : tyx tys tys := tyx.rf tys
  have hin0 : ∀ w ∈ u_ws RX0 TX0 14, w ∈ wsX0_begin := (fun _ h9 => List.mem_cons_of_mem _ ((List.mem_append_right _ h9)))
  have hl := lv_entry ([.ref bl, .int (nI pm), .int (nI wa), .int (nI le), .int (nI mo)]) (n := 5) (Nat.le_of_ble_eq_true rfl)
  rw [lg_entry_eq]
  generalize (lg_sl ([.ref bl, .int (nI pm), .int (nI wa), .int (nI le), .int (nI mo)]) ++ List.replicate (5 - (lg_sl ([.ref bl, .int (nI pm), .int (nI wa), .int (nI le), .int (nI mo)])).length) Slot.unset).toArray = ls at hl ⊢
  have hl : lv_has ls 5 [(0, .ref bl), (1, .int (nI pm)), (2, .int (nI wa)), (3, .int (nI le)), (4, .int (nI mo))] := hl
  refine lv_aload_n hx hb dX0_begin_0 rfl (lv_at hl 0 rfl) ?_
  refine lv_iconst (v := 0) hx hb dX0_begin_1 (by decide) ?_
  refine va_put (D := D) (ci := 0) (v := .int 0) (ty := .int) (C := RX0) (T := TX0) (N := 14) hx hb hts hin0 tyX0 tyX0_ok nmX0 hown hK hP hD hS kbl ebl rfl 8 (by decide) (hts (.fieldLink RX0 33 "HoneyHouse$Blender" "tankCount" "I") (List.mem_of_getElem? (i := 1) rfl)) (fun _ h9 => h9) rfl (tyX0_ok 8 (by decide)) rfl rfl (Nat.le_of_ble_eq_true rfl) dX0_begin_2 (fun H locs hP hD hS => ?_)
  have hP : va_P D vwCl (ws.set kbl (bl, .inr (0, [.ref b0, .int b1, .ref b2, .ref b3, .ref b4, .ref b5, .ref b6, .ref b7, .int 0, .int b9, .int b10, .int b11, .int b12, .int b13]))) H := hP
  have hD : va_D A (ws.set kbl (bl, .inr (0, [.ref b0, .int b1, .ref b2, .ref b3, .ref b4, .ref b5, .ref b6, .ref b7, .int 0, .int b9, .int b10, .int b11, .int b12, .int b13]))) := hD
  have hm_2 : sm ρ [0] ws (ws.set kbl (bl, .inr (0, [.ref b0, .int b1, .ref b2, .ref b3, .ref b4, .ref b5, .ref b6, .ref b7, .int 0, .int b9, .int b10, .int b11, .int b12, .int b13]))) := sm.flds ebl (smF.c (smV.rf _) (smF.c (smV.rf _) (smF.c (smV.rf _) (smF.c (smV.rf _) (smF.c (smV.rf _) (smF.c (smV.rf _) (smF.c (smV.rf _) (smF.c (smV.rf _) (smF.c (smV.i _ _) (smF.c (smV.rf _) (smF.c (smV.rf _) (smF.c (smV.rf _) (smF.c (smV.rf _) (smF.c (smV.rf _) (rfl))))))))))))))) (List.mem_singleton.mpr rfl) w_kbl
  have e_3 : (ws.set kbl (bl, .inr (0, [.ref b0, .int b1, .ref b2, .ref b3, .ref b4, .ref b5, .ref b6, .ref b7, .int 0, .int b9, .int b10, .int b11, .int b12, .int b13])))[kbl]? = some (bl, .inr (0, [.ref b0, .int b1, .ref b2, .ref b3, .ref b4, .ref b5, .ref b6, .ref b7, .int 0, .int b9, .int b10, .int b11, .int b12, .int b13])) := wset_self ebl
  have e_4 := set_n (z := (bl, .inr (0, [.ref b0, .int b1, .ref b2, .ref b3, .ref b4, .ref b5, .ref b6, .ref b7, .int 0, .int b9, .int b10, .int b11, .int b12, .int b13]))) eb3 (pl_ne eb3 ebl (by intro h9; simp at h9))
  generalize ws.set kbl (bl, .inr (0, [.ref b0, .int b1, .ref b2, .ref b3, .ref b4, .ref b5, .ref b6, .ref b7, .int 0, .int b9, .int b10, .int b11, .int b12, .int b13])) = ws_1 at hP hD hm_2 e_3 e_4
  have hsm := hsm.tr (hm_2.mono (by decide))
  refine lv_aload_n hx hb dX0_begin_5 rfl (lv_at hl 0 rfl) ?_
  refine va_get (D := D) (ci := 0) (v := .ref b3) (C := RX0) (T := TX0) (N := 14) hx hb hts hin0 hown hK hP kbl e_3 rfl 3 (by decide) (hts (.fieldLink RX0 18 "HoneyHouse$Blender" "mostParts" "[I") (List.mem_of_getElem? (i := 2) rfl)) (fun _ h9 => h9) rfl dX0_begin_6 ?_
  refine lv_iconst (v := 0) hx hb dX0_begin_9 (by decide) ?_
  have hFc := free_all hD hS hA
  refine va_callv (va_runS (As := [.ref b3, .int 0]) (rest := []) ⟨hx, hb, hml, hown, hts⟩ (a_fill l D (rz [kb3]) ws_1 tys b3 kb3 cb3 tb3 4 fb3 0 H.size (by omega) e_4 ub3 (rz_in (by simp))) (va_cwS 2 hts gX0_begin_J7_fill_53178 rfl rfl rfl (by decide +kernel) ⟨Nat.le_of_ble_eq_true rfl, Nat.le_of_ble_eq_true rfl⟩) ⟨fun a U g mk q => by obtain ⟨q0, q1, qP, qK, qD⟩ := q; exact ⟨q0, q1, qP, va_K.moved (u := U) (U := U.calling g mk a) (Vm.Alike.refl U.vm) qK, qD⟩, fun U hU hW => ⟨rfl, by rw [hU], by rw [hU]; exact hP, va_K.moved hW.alike hK, hD.weaken (fun _ _ _ _ => trivial)⟩⟩ rfl rfl hl.1 rfl (lv_room (Nat.le_of_ble_eq_true rfl)) dX0_begin_10 ⟨Nat.le_of_ble_eq_true rfl, Nat.le_of_ble_eq_true rfl⟩) hS (fun q _ h => hFc q h) hFc (fun u t H1 locs ht hvm w_5 hB hz1 hk1 hS => ?_)
  obtain ⟨ws_6, ty_7, hm_8, ht_10, hP1, hK1, hD1, hx_9⟩ := hB
  rw [ht] at hP1
  have hK := va_K.moved hvm.symm hK1
  have hD := hD1.weaken (fun _ _ _ h => hFc _ h)
  generalize H1 = H at hP1 hS ⊢
  have hP := hP1
  have e_11 := hm_8.keep (rz_o1 (pl_ne e_3 e_4 (by intro h9; simp at h9))) e_3
  have u_12 := ht_10 _ _ ub3
  have hm_13 : sm ρ [] ws_1 ws_6 := hm_8.up (fun k _ h => rz_u1 w_kb3 k h)
  have hsm := hsm.tr (hm_13.mono (by decide))
  have htx := htx.tr ht_10
  obtain ⟨f_14, e_15, g_16⟩ := hx_9
  refine lv_aload_n hx hb dX0_begin_13 rfl (lv_at hl 0 rfl) ?_
  refine lv_iload_n hx hb dX0_begin_14 rfl (lv_at hl 1 rfl) ?_
  refine va_put (D := D) (ci := 0) (v := .int (nI pm)) (ty := .int) (C := RX0) (T := TX0) (N := 14) hx hb hts hin0 tyX0 tyX0_ok nmX0 hown hK hP hD hS kbl e_11 rfl 10 (by decide) (hts (.fieldLink RX0 43 "HoneyHouse$Blender" "partsInAll" "I") (List.mem_of_getElem? (i := 3) rfl)) (fun _ h9 => h9) rfl (tyX0_ok 10 (by decide)) rfl rfl (Nat.le_of_ble_eq_true rfl) dX0_begin_15 (fun H locs hP hD hS => ?_)
  have hP : va_P D vwCl (ws_6.set kbl (bl, .inr (0, [.ref b0, .int b1, .ref b2, .ref b3, .ref b4, .ref b5, .ref b6, .ref b7, .int 0, .int b9, .int (nI pm), .int b11, .int b12, .int b13]))) H := hP
  have hD : va_D A (ws_6.set kbl (bl, .inr (0, [.ref b0, .int b1, .ref b2, .ref b3, .ref b4, .ref b5, .ref b6, .ref b7, .int 0, .int b9, .int (nI pm), .int b11, .int b12, .int b13]))) := hD
  have hm_18 : sm ρ [0] ws_6 (ws_6.set kbl (bl, .inr (0, [.ref b0, .int b1, .ref b2, .ref b3, .ref b4, .ref b5, .ref b6, .ref b7, .int 0, .int b9, .int (nI pm), .int b11, .int b12, .int b13]))) := sm.flds e_11 (smF.c (smV.rf _) (smF.c (smV.rf _) (smF.c (smV.rf _) (smF.c (smV.rf _) (smF.c (smV.rf _) (smF.c (smV.rf _) (smF.c (smV.rf _) (smF.c (smV.rf _) (smF.c (smV.rf _) (smF.c (smV.rf _) (smF.c (smV.i _ _) (smF.c (smV.rf _) (smF.c (smV.rf _) (smF.c (smV.rf _) (rfl))))))))))))))) (List.mem_singleton.mpr rfl) w_kbl
  have e_19 : (ws_6.set kbl (bl, .inr (0, [.ref b0, .int b1, .ref b2, .ref b3, .ref b4, .ref b5, .ref b6, .ref b7, .int 0, .int b9, .int (nI pm), .int b11, .int b12, .int b13])))[kbl]? = some (bl, .inr (0, [.ref b0, .int b1, .ref b2, .ref b3, .ref b4, .ref b5, .ref b6, .ref b7, .int 0, .int b9, .int (nI pm), .int b11, .int b12, .int b13])) := wset_self e_11
  have e_20 := set_n (z := (bl, .inr (0, [.ref b0, .int b1, .ref b2, .ref b3, .ref b4, .ref b5, .ref b6, .ref b7, .int 0, .int b9, .int (nI pm), .int b11, .int b12, .int b13]))) e_15 (pl_ne e_15 e_11 (by intro h9; simp at h9))
  generalize ws_6.set kbl (bl, .inr (0, [.ref b0, .int b1, .ref b2, .ref b3, .ref b4, .ref b5, .ref b6, .ref b7, .int 0, .int b9, .int (nI pm), .int b11, .int b12, .int b13])) = ws_17 at hP hD hm_18 e_19 e_20
  have hsm := hsm.tr (hm_18.mono (by decide))
  refine lv_aload_n hx hb dX0_begin_18 rfl (lv_at hl 0 rfl) ?_
  refine lv_iload_n hx hb dX0_begin_19 rfl (lv_at hl 1 rfl) ?_
  refine lv_bipush (v := 10) hx hb dX0_begin_20 (by decide) ?_
  refine lv_imul hx hb dX0_begin_22 ?_
  refine tp_i (y := nI (pm * 10)) (pk_mul pm 10) ?_
  refine lv_iload_n hx hb dX0_begin_23 rfl (lv_at hl 2 rfl) ?_
  refine lv_imul hx hb dX0_begin_24 ?_
  refine tp_i (y := nI ((pm * 10) * wa)) (pk_mul (pm * 10) wa) ?_
  refine va_put (D := D) (ci := 0) (v := .int (nI ((pm * 10) * wa))) (ty := .int) (C := RX0) (T := TX0) (N := 14) hx hb hts hin0 tyX0 tyX0_ok nmX0 hown hK hP hD hS kbl e_19 rfl 11 (by decide) (hts (.fieldLink RX0 46 "HoneyHouse$Blender" "mostWater" "I") (List.mem_of_getElem? (i := 4) rfl)) (fun _ h9 => h9) rfl (tyX0_ok 11 (by decide)) rfl rfl (Nat.le_of_ble_eq_true rfl) dX0_begin_25 (fun H locs hP hD hS => ?_)
  have hP : va_P D vwCl (ws_17.set kbl (bl, .inr (0, [.ref b0, .int b1, .ref b2, .ref b3, .ref b4, .ref b5, .ref b6, .ref b7, .int 0, .int b9, .int (nI pm), .int (nI ((pm * 10) * wa)), .int b12, .int b13]))) H := hP
  have hD : va_D A (ws_17.set kbl (bl, .inr (0, [.ref b0, .int b1, .ref b2, .ref b3, .ref b4, .ref b5, .ref b6, .ref b7, .int 0, .int b9, .int (nI pm), .int (nI ((pm * 10) * wa)), .int b12, .int b13]))) := hD
  have hm_22 : sm ρ [0] ws_17 (ws_17.set kbl (bl, .inr (0, [.ref b0, .int b1, .ref b2, .ref b3, .ref b4, .ref b5, .ref b6, .ref b7, .int 0, .int b9, .int (nI pm), .int (nI ((pm * 10) * wa)), .int b12, .int b13]))) := sm.flds e_19 (smF.c (smV.rf _) (smF.c (smV.rf _) (smF.c (smV.rf _) (smF.c (smV.rf _) (smF.c (smV.rf _) (smF.c (smV.rf _) (smF.c (smV.rf _) (smF.c (smV.rf _) (smF.c (smV.rf _) (smF.c (smV.rf _) (smF.c (smV.rf _) (smF.c (smV.i _ _) (smF.c (smV.rf _) (smF.c (smV.rf _) (rfl))))))))))))))) (List.mem_singleton.mpr rfl) w_kbl
  have e_23 : (ws_17.set kbl (bl, .inr (0, [.ref b0, .int b1, .ref b2, .ref b3, .ref b4, .ref b5, .ref b6, .ref b7, .int 0, .int b9, .int (nI pm), .int (nI ((pm * 10) * wa)), .int b12, .int b13])))[kbl]? = some (bl, .inr (0, [.ref b0, .int b1, .ref b2, .ref b3, .ref b4, .ref b5, .ref b6, .ref b7, .int 0, .int b9, .int (nI pm), .int (nI ((pm * 10) * wa)), .int b12, .int b13])) := wset_self e_19
  have e_24 := set_n (z := (bl, .inr (0, [.ref b0, .int b1, .ref b2, .ref b3, .ref b4, .ref b5, .ref b6, .ref b7, .int 0, .int b9, .int (nI pm), .int (nI ((pm * 10) * wa)), .int b12, .int b13]))) e_20 (pl_ne e_20 e_19 (by intro h9; simp at h9))
  generalize ws_17.set kbl (bl, .inr (0, [.ref b0, .int b1, .ref b2, .ref b3, .ref b4, .ref b5, .ref b6, .ref b7, .int 0, .int b9, .int (nI pm), .int (nI ((pm * 10) * wa)), .int b12, .int b13])) = ws_21 at hP hD hm_22 e_23 e_24
  have hsm := hsm.tr (hm_22.mono (by decide))
  refine lv_aload_n hx hb dX0_begin_28 rfl (lv_at hl 0 rfl) ?_
  refine lv_iload_n hx hb dX0_begin_29 rfl (lv_at hl 1 rfl) ?_
  refine lv_bipush (v := 10) hx hb dX0_begin_30 (by decide) ?_
  refine lv_imul hx hb dX0_begin_32 ?_
  refine tp_i (y := nI (pm * 10)) (pk_mul pm 10) ?_
  refine lv_iload_n hx hb dX0_begin_33 rfl (lv_at hl 3 rfl) ?_
  refine lv_imul hx hb dX0_begin_34 ?_
  refine tp_i (y := nI ((pm * 10) * le)) (pk_mul (pm * 10) le) ?_
  refine va_put (D := D) (ci := 0) (v := .int (nI ((pm * 10) * le))) (ty := .int) (C := RX0) (T := TX0) (N := 14) hx hb hts hin0 tyX0 tyX0_ok nmX0 hown hK hP hD hS kbl e_23 rfl 12 (by decide) (hts (.fieldLink RX0 49 "HoneyHouse$Blender" "leastColour" "I") (List.mem_of_getElem? (i := 5) rfl)) (fun _ h9 => h9) rfl (tyX0_ok 12 (by decide)) rfl rfl (Nat.le_of_ble_eq_true rfl) dX0_begin_35 (fun H locs hP hD hS => ?_)
  have hP : va_P D vwCl (ws_21.set kbl (bl, .inr (0, [.ref b0, .int b1, .ref b2, .ref b3, .ref b4, .ref b5, .ref b6, .ref b7, .int 0, .int b9, .int (nI pm), .int (nI ((pm * 10) * wa)), .int (nI ((pm * 10) * le)), .int b13]))) H := hP
  have hD : va_D A (ws_21.set kbl (bl, .inr (0, [.ref b0, .int b1, .ref b2, .ref b3, .ref b4, .ref b5, .ref b6, .ref b7, .int 0, .int b9, .int (nI pm), .int (nI ((pm * 10) * wa)), .int (nI ((pm * 10) * le)), .int b13]))) := hD
  have hm_26 : sm ρ [0] ws_21 (ws_21.set kbl (bl, .inr (0, [.ref b0, .int b1, .ref b2, .ref b3, .ref b4, .ref b5, .ref b6, .ref b7, .int 0, .int b9, .int (nI pm), .int (nI ((pm * 10) * wa)), .int (nI ((pm * 10) * le)), .int b13]))) := sm.flds e_23 (smF.c (smV.rf _) (smF.c (smV.rf _) (smF.c (smV.rf _) (smF.c (smV.rf _) (smF.c (smV.rf _) (smF.c (smV.rf _) (smF.c (smV.rf _) (smF.c (smV.rf _) (smF.c (smV.rf _) (smF.c (smV.rf _) (smF.c (smV.rf _) (smF.c (smV.rf _) (smF.c (smV.i _ _) (smF.c (smV.rf _) (rfl))))))))))))))) (List.mem_singleton.mpr rfl) w_kbl
  have e_27 : (ws_21.set kbl (bl, .inr (0, [.ref b0, .int b1, .ref b2, .ref b3, .ref b4, .ref b5, .ref b6, .ref b7, .int 0, .int b9, .int (nI pm), .int (nI ((pm * 10) * wa)), .int (nI ((pm * 10) * le)), .int b13])))[kbl]? = some (bl, .inr (0, [.ref b0, .int b1, .ref b2, .ref b3, .ref b4, .ref b5, .ref b6, .ref b7, .int 0, .int b9, .int (nI pm), .int (nI ((pm * 10) * wa)), .int (nI ((pm * 10) * le)), .int b13])) := wset_self e_23
  have e_28 := set_n (z := (bl, .inr (0, [.ref b0, .int b1, .ref b2, .ref b3, .ref b4, .ref b5, .ref b6, .ref b7, .int 0, .int b9, .int (nI pm), .int (nI ((pm * 10) * wa)), .int (nI ((pm * 10) * le)), .int b13]))) e_24 (pl_ne e_24 e_23 (by intro h9; simp at h9))
  generalize ws_21.set kbl (bl, .inr (0, [.ref b0, .int b1, .ref b2, .ref b3, .ref b4, .ref b5, .ref b6, .ref b7, .int 0, .int b9, .int (nI pm), .int (nI ((pm * 10) * wa)), .int (nI ((pm * 10) * le)), .int b13])) = ws_25 at hP hD hm_26 e_27 e_28
  have hsm := hsm.tr (hm_26.mono (by decide))
  refine lv_aload_n hx hb dX0_begin_38 rfl (lv_at hl 0 rfl) ?_
  refine lv_iload_n hx hb dX0_begin_39 rfl (lv_at hl 1 rfl) ?_
  refine lv_bipush (v := 10) hx hb dX0_begin_40 (by decide) ?_
  refine lv_imul hx hb dX0_begin_42 ?_
  refine tp_i (y := nI (pm * 10)) (pk_mul pm 10) ?_
  refine lv_iload hx hb dX0_begin_43 (lv_at hl 4 rfl) ?_
  refine lv_imul hx hb dX0_begin_45 ?_
  refine tp_i (y := nI ((pm * 10) * mo)) (pk_mul (pm * 10) mo) ?_
  refine va_put (D := D) (ci := 0) (v := .int (nI ((pm * 10) * mo))) (ty := .int) (C := RX0) (T := TX0) (N := 14) hx hb hts hin0 tyX0 tyX0_ok nmX0 hown hK hP hD hS kbl e_27 rfl 13 (by decide) (hts (.fieldLink RX0 52 "HoneyHouse$Blender" "mostColour" "I") (List.mem_of_getElem? (i := 6) rfl)) (fun _ h9 => h9) rfl (tyX0_ok 13 (by decide)) rfl rfl (Nat.le_of_ble_eq_true rfl) dX0_begin_46 (fun H locs hP hD hS => ?_)
  have hP : va_P D vwCl (ws_25.set kbl (bl, .inr (0, [.ref b0, .int b1, .ref b2, .ref b3, .ref b4, .ref b5, .ref b6, .ref b7, .int 0, .int b9, .int (nI pm), .int (nI ((pm * 10) * wa)), .int (nI ((pm * 10) * le)), .int (nI ((pm * 10) * mo))]))) H := hP
  have hD : va_D A (ws_25.set kbl (bl, .inr (0, [.ref b0, .int b1, .ref b2, .ref b3, .ref b4, .ref b5, .ref b6, .ref b7, .int 0, .int b9, .int (nI pm), .int (nI ((pm * 10) * wa)), .int (nI ((pm * 10) * le)), .int (nI ((pm * 10) * mo))]))) := hD
  have hm_30 : sm ρ [0] ws_25 (ws_25.set kbl (bl, .inr (0, [.ref b0, .int b1, .ref b2, .ref b3, .ref b4, .ref b5, .ref b6, .ref b7, .int 0, .int b9, .int (nI pm), .int (nI ((pm * 10) * wa)), .int (nI ((pm * 10) * le)), .int (nI ((pm * 10) * mo))]))) := sm.flds e_27 (smF.c (smV.rf _) (smF.c (smV.rf _) (smF.c (smV.rf _) (smF.c (smV.rf _) (smF.c (smV.rf _) (smF.c (smV.rf _) (smF.c (smV.rf _) (smF.c (smV.rf _) (smF.c (smV.rf _) (smF.c (smV.rf _) (smF.c (smV.rf _) (smF.c (smV.rf _) (smF.c (smV.rf _) (smF.c (smV.i _ _) (rfl))))))))))))))) (List.mem_singleton.mpr rfl) w_kbl
  have e_31 : (ws_25.set kbl (bl, .inr (0, [.ref b0, .int b1, .ref b2, .ref b3, .ref b4, .ref b5, .ref b6, .ref b7, .int 0, .int b9, .int (nI pm), .int (nI ((pm * 10) * wa)), .int (nI ((pm * 10) * le)), .int (nI ((pm * 10) * mo))])))[kbl]? = some (bl, .inr (0, [.ref b0, .int b1, .ref b2, .ref b3, .ref b4, .ref b5, .ref b6, .ref b7, .int 0, .int b9, .int (nI pm), .int (nI ((pm * 10) * wa)), .int (nI ((pm * 10) * le)), .int (nI ((pm * 10) * mo))])) := wset_self e_27
  have e_32 := set_n (z := (bl, .inr (0, [.ref b0, .int b1, .ref b2, .ref b3, .ref b4, .ref b5, .ref b6, .ref b7, .int 0, .int b9, .int (nI pm), .int (nI ((pm * 10) * wa)), .int (nI ((pm * 10) * le)), .int (nI ((pm * 10) * mo))]))) e_28 (pl_ne e_28 e_27 (by intro h9; simp at h9))
  generalize ws_25.set kbl (bl, .inr (0, [.ref b0, .int b1, .ref b2, .ref b3, .ref b4, .ref b5, .ref b6, .ref b7, .int 0, .int b9, .int (nI pm), .int (nI ((pm * 10) * wa)), .int (nI ((pm * 10) * le)), .int (nI ((pm * 10) * mo))])) = ws_29 at hP hD hm_30 e_31 e_32
  have hsm := hsm.tr (hm_30.mono (by decide))
  exact W.vret hx hb hr (fun t ht hW => ⟨⟨(), rfl, trivial, ws_29, ty_7, hsm, htx, by rw [ht]; exact hP, va_K.moved hW.alike hK, hD, ⟨f_14, e_32, g_16, e_31⟩⟩, hS.F ht⟩) hS.2.2 dX0_begin_49
set_option maxHeartbeats 4000000 in
set_option maxRecDepth 100000 in
theorem a_addTank (l : Launch) (D : va_G) (ρ : Nat → Nat) (ws : va_W) (tys : List (ClassId × FieldType)) (bl kbl b0 b2 b3 b4 b5 b6 b7 : Nat) (b1 b9 b10 b11 b12 b13 : Int32) (c8 : Nat) (kb2 : Nat) (cb2 : ClassId) (tb2 : Nat) (fb2 : Nat → Int32) (kb3 : Nat) (cb3 : ClassId) (tb3 : Nat) (fb3 : Nat → Int32) (kb4 : Nat) (cb4 : ClassId) (tb4 : Nat) (fb4 : Nat → Int32) (kb5 : Nat) (cb5 : ClassId) (tb5 : Nat) (fb5 : Nat → Int32) (kb6 : Nat) (cb6 : ClassId) (tb6 : Nat) (fb6 : Nat → Int32) (a1 a2 a3 a4 a5 : Int32) (sz : Nat) (hc8 : c8 < 4) (hbo : kb2 < kb3 ∧ kb3 < kb4 ∧ kb4 < kb5 ∧ kb5 < kb6) (ebl : ws[kbl]? = some (bl, .inr (0, [.ref b0, .int b1, .ref b2, .ref b3, .ref b4, .ref b5, .ref b6, .ref b7, .int (nI c8), .int b9, .int b10, .int b11, .int b12, .int b13]))) (eb2 : ws[kb2]? = some (b2, .inl (cb2, 4, .inl fb2))) (ub2 : tys[tb2]? = some (cb2, .int)) (eb3 : ws[kb3]? = some (b3, .inl (cb3, 4, .inl fb3))) (ub3 : tys[tb3]? = some (cb3, .int)) (eb4 : ws[kb4]? = some (b4, .inl (cb4, 4, .inl fb4))) (ub4 : tys[tb4]? = some (cb4, .int)) (eb5 : ws[kb5]? = some (b5, .inl (cb5, 4, .inl fb5))) (ub5 : tys[tb5]? = some (cb5, .int)) (eb6 : ws[kb6]? = some (b6, .inl (cb6, 4, .inl fb6))) (ub6 : tys[tb6]? = some (cb6, .int)) (w_kb2 : ρ kb2 = 0) (w_kb3 : ρ kb3 = 0) (w_kb4 : ρ kb4 = 0) (w_kb5 : ρ kb5 = 0) (w_kb6 : ρ kb6 = 0) (w_kbl : ρ kbl = 0) : Met l yX0_addTank wsX0_addTank ({ frames := 0, cells := 0, slots := 0, locals := 0 }) (va_Pc [.ref bl, .int a1, .int a2, .int a3, .int a4, .int a5] (fun U => U.heap.size = sz ∧ va_P D vwCl ws U.heap ∧ va_K D vwCl tys U ∧ va_D (fun _ => True) ws)) (va_Qv (fun _ : Unit => True) (fun (_ : Unit) (t : State) => ∃ (ws' : va_W) (tys' : List (ClassId × FieldType)), sm ρ [0] ws ws' ∧ tyx tys tys' ∧ va_P D vwCl ws' t.heap ∧ va_K D vwCl tys' t ∧ va_D (va_A ws sz) ws' ∧ (∃ f2 f3 f4 f5 f6 : Nat → Int32, ws'[kb2]? = some (b2, .inl (cb2, 4, .inl f2)) ∧ f2 = upd fb2 c8 a1 ∧ ws'[kb3]? = some (b3, .inl (cb3, 4, .inl f3)) ∧ f3 = upd fb3 c8 a2 ∧ ws'[kb4]? = some (b4, .inl (cb4, 4, .inl f4)) ∧ f4 = upd fb4 c8 a3 ∧ ws'[kb5]? = some (b5, .inl (cb5, 4, .inl f5)) ∧ f5 = upd fb5 c8 a4 ∧ ws'[kb6]? = some (b6, .inl (cb6, 4, .inl f6)) ∧ f6 = upd fb6 c8 a5 ∧ ws'[kbl]? = some (bl, .inr (0, [.ref b0, .int b1, .ref b2, .ref b3, .ref b4, .ref b5, .ref b6, .ref b7, .int (nI (c8 + 1)), .int b9, .int b10, .int b11, .int b12, .int b13])))) (va_A ws sz)) 0 0 (va_A ws sz) := by
  refine Met.ofW (cc := cX0_addTank) (maxL := 6) (ret := none) (by decide) rfl ?_
  intro p e s m args below meth c s₁ B hml hv
  obtain ⟨rfl, hsz, hP, hK, hD0⟩ := hv
  have hx := B.exec
  have hb := B.bytes
  have hr := B.returns
  have hts := atoms_spec (ws := wsX0_addTank) B.pre
  have hown : s.vm.findClass RX0 = some m.cls := findClass_of_methodNamed B.named
  have hlocks := B.notSynchronized
  subst hsz
  have hD := hD0.self (sz := s.heap.size)
  generalize hAe : va_A ws s.heap.size = A at hD ⊢
  have hA : ∀ q : Nat, s.heap.size ≤ q → A q := fun q h => by rw [← hAe]; exact Or.inr h
  have hS : va_S A s.heap s.heap [] := va_S.rf
  have hsm : sm ρ [0] ws ws := sm.rf ws
  have htx : tyx tys tys := tyx.rf tys
  have hin0 : ∀ w ∈ u_ws RX0 TX0 14, w ∈ wsX0_addTank := (fun _ h9 => List.mem_cons_of_mem _ ((List.mem_append_right _ h9)))
  have hl := lv_entry ([.ref bl, .int a1, .int a2, .int a3, .int a4, .int a5]) (n := 6) (Nat.le_of_ble_eq_true rfl)
  rw [lg_entry_eq]
  generalize (lg_sl ([.ref bl, .int a1, .int a2, .int a3, .int a4, .int a5]) ++ List.replicate (6 - (lg_sl ([.ref bl, .int a1, .int a2, .int a3, .int a4, .int a5])).length) Slot.unset).toArray = ls at hl ⊢
  have hl : lv_has ls 6 [(0, .ref bl), (1, .int a1), (2, .int a2), (3, .int a3), (4, .int a4), (5, .int a5)] := hl
  refine lv_aload_n hx hb dX0_addTank_0 rfl (lv_at hl 0 rfl) ?_
  refine va_get (D := D) (ci := 0) (v := .int (nI c8)) (C := RX0) (T := TX0) (N := 14) hx hb hts hin0 hown hK hP kbl ebl rfl 8 (by decide) (hts (.fieldLink RX0 33 "HoneyHouse$Blender" "tankCount" "I") (List.mem_of_getElem? (i := 1) rfl)) (fun _ h9 => h9) rfl dX0_addTank_1 ?_
  refine lv_iconst (v := 4) hx hb dX0_addTank_4 (by decide) ?_
  refine lv_icmp_lt (tgt := 9) hx hb dX0_addTank_5 (by decide) (fun c_1 => ?_) (fun c_1 => absurd ((nI_ltI (a := c8) (b := 4) (by omega) (by omega)).mpr hc8) c_1)
  refine lv_aload_n hx hb dX0_addTank_9 rfl (lv_at hl 0 rfl) ?_
  refine va_get (D := D) (ci := 0) (v := .ref b2) (C := RX0) (T := TX0) (N := 14) hx hb hts hin0 hown hK hP kbl ebl rfl 2 (by decide) (hts (.fieldLink RX0 15 "HoneyHouse$Blender" "tankNumbers" "[I") (List.mem_of_getElem? (i := 2) rfl)) (fun _ h9 => h9) rfl dX0_addTank_10 ?_
  refine lv_aload_n hx hb dX0_addTank_13 rfl (lv_at hl 0 rfl) ?_
  refine va_get (D := D) (ci := 0) (v := .int (nI c8)) (C := RX0) (T := TX0) (N := 14) hx hb hts hin0 hown hK hP kbl ebl rfl 8 (by decide) (hts (.fieldLink RX0 33 "HoneyHouse$Blender" "tankCount" "I") (List.mem_of_getElem? (i := 1) rfl)) (fun _ h9 => h9) rfl dX0_addTank_14 ?_
  refine lv_iload_n hx hb dX0_addTank_17 rfl (lv_at hl 1 rfl) ?_
  refine va_iast (f := fb2) (n := 4) hx hb hK hP hD hS kb2 tb2 eb2 ub2 (vp_in_nI (n := c8) (by omega) (by omega)) dX0_addTank_18 (fun H locs hP hD hS => ?_)
  have hm_3 : sm ρ [] ws (ws.set kb2 (b2, .inl (cb2, 4, .inl (upd fb2 (nI c8).toNatClampNeg a1)))) := sm.ints eb2 w_kb2
  have e_4 : (ws.set kb2 (b2, .inl (cb2, 4, .inl (upd fb2 (nI c8).toNatClampNeg a1))))[kb2]? = some (b2, .inl (cb2, 4, .inl (upd fb2 (nI c8).toNatClampNeg a1))) := wset_self eb2
  have e_5 := set_n (z := (b2, .inl (cb2, 4, .inl (upd fb2 (nI c8).toNatClampNeg a1)))) ebl (pl_ne ebl eb2 (by intro h9; simp at h9))
  have e_6 := set_n (z := (b2, .inl (cb2, 4, .inl (upd fb2 (nI c8).toNatClampNeg a1)))) eb3 (show kb3 ≠ kb2 by omega)
  have e_7 := set_n (z := (b2, .inl (cb2, 4, .inl (upd fb2 (nI c8).toNatClampNeg a1)))) eb4 (show kb4 ≠ kb2 by omega)
  have e_8 := set_n (z := (b2, .inl (cb2, 4, .inl (upd fb2 (nI c8).toNatClampNeg a1)))) eb5 (show kb5 ≠ kb2 by omega)
  have e_9 := set_n (z := (b2, .inl (cb2, 4, .inl (upd fb2 (nI c8).toNatClampNeg a1)))) eb6 (show kb6 ≠ kb2 by omega)
  generalize ws.set kb2 (b2, .inl (cb2, 4, .inl (upd fb2 (nI c8).toNatClampNeg a1))) = ws_2 at hP hD hm_3 e_4 e_5 e_6 e_7 e_8 e_9
  have hsm := hsm.tr (hm_3.mono (fun _ h9 => absurd h9 List.not_mem_nil))
  obtain ⟨f_10, hf_11⟩ : ∃ g9, g9 = upd fb2 (nI c8).toNatClampNeg a1 := ⟨_, rfl⟩
  rw [← hf_11] at e_4
  refine lv_aload_n hx hb dX0_addTank_19 rfl (lv_at hl 0 rfl) ?_
  refine va_get (D := D) (ci := 0) (v := .ref b3) (C := RX0) (T := TX0) (N := 14) hx hb hts hin0 hown hK hP kbl e_5 rfl 3 (by decide) (hts (.fieldLink RX0 18 "HoneyHouse$Blender" "mostParts" "[I") (List.mem_of_getElem? (i := 3) rfl)) (fun _ h9 => h9) rfl dX0_addTank_20 ?_
  refine lv_aload_n hx hb dX0_addTank_23 rfl (lv_at hl 0 rfl) ?_
  refine va_get (D := D) (ci := 0) (v := .int (nI c8)) (C := RX0) (T := TX0) (N := 14) hx hb hts hin0 hown hK hP kbl e_5 rfl 8 (by decide) (hts (.fieldLink RX0 33 "HoneyHouse$Blender" "tankCount" "I") (List.mem_of_getElem? (i := 1) rfl)) (fun _ h9 => h9) rfl dX0_addTank_24 ?_
  refine lv_iload_n hx hb dX0_addTank_27 rfl (lv_at hl 2 rfl) ?_
  refine va_iast (f := fb3) (n := 4) hx hb hK hP hD hS kb3 tb3 e_6 ub3 (vp_in_nI (n := c8) (by omega) (by omega)) dX0_addTank_28 (fun H locs hP hD hS => ?_)
  have hm_13 : sm ρ [] ws_2 (ws_2.set kb3 (b3, .inl (cb3, 4, .inl (upd fb3 (nI c8).toNatClampNeg a2)))) := sm.ints e_6 w_kb3
  have e_14 : (ws_2.set kb3 (b3, .inl (cb3, 4, .inl (upd fb3 (nI c8).toNatClampNeg a2))))[kb3]? = some (b3, .inl (cb3, 4, .inl (upd fb3 (nI c8).toNatClampNeg a2))) := wset_self e_6
  have e_15 := set_n (z := (b3, .inl (cb3, 4, .inl (upd fb3 (nI c8).toNatClampNeg a2)))) e_5 (pl_ne e_5 e_6 (by intro h9; simp at h9))
  have e_16 := set_n (z := (b3, .inl (cb3, 4, .inl (upd fb3 (nI c8).toNatClampNeg a2)))) e_4 (show kb2 ≠ kb3 by omega)
  have e_17 := set_n (z := (b3, .inl (cb3, 4, .inl (upd fb3 (nI c8).toNatClampNeg a2)))) e_7 (show kb4 ≠ kb3 by omega)
  have e_18 := set_n (z := (b3, .inl (cb3, 4, .inl (upd fb3 (nI c8).toNatClampNeg a2)))) e_8 (show kb5 ≠ kb3 by omega)
  have e_19 := set_n (z := (b3, .inl (cb3, 4, .inl (upd fb3 (nI c8).toNatClampNeg a2)))) e_9 (show kb6 ≠ kb3 by omega)
  generalize ws_2.set kb3 (b3, .inl (cb3, 4, .inl (upd fb3 (nI c8).toNatClampNeg a2))) = ws_12 at hP hD hm_13 e_14 e_15 e_16 e_17 e_18 e_19
  have hsm := hsm.tr (hm_13.mono (fun _ h9 => absurd h9 List.not_mem_nil))
  obtain ⟨f_20, hf_21⟩ : ∃ g9, g9 = upd fb3 (nI c8).toNatClampNeg a2 := ⟨_, rfl⟩
  rw [← hf_21] at e_14
  refine lv_aload_n hx hb dX0_addTank_29 rfl (lv_at hl 0 rfl) ?_
  refine va_get (D := D) (ci := 0) (v := .ref b4) (C := RX0) (T := TX0) (N := 14) hx hb hts hin0 hown hK hP kbl e_15 rfl 4 (by decide) (hts (.fieldLink RX0 21 "HoneyHouse$Blender" "waters" "[I") (List.mem_of_getElem? (i := 4) rfl)) (fun _ h9 => h9) rfl dX0_addTank_30 ?_
  refine lv_aload_n hx hb dX0_addTank_33 rfl (lv_at hl 0 rfl) ?_
  refine va_get (D := D) (ci := 0) (v := .int (nI c8)) (C := RX0) (T := TX0) (N := 14) hx hb hts hin0 hown hK hP kbl e_15 rfl 8 (by decide) (hts (.fieldLink RX0 33 "HoneyHouse$Blender" "tankCount" "I") (List.mem_of_getElem? (i := 1) rfl)) (fun _ h9 => h9) rfl dX0_addTank_34 ?_
  refine lv_iload_n hx hb dX0_addTank_37 rfl (lv_at hl 3 rfl) ?_
  refine va_iast (f := fb4) (n := 4) hx hb hK hP hD hS kb4 tb4 e_17 ub4 (vp_in_nI (n := c8) (by omega) (by omega)) dX0_addTank_38 (fun H locs hP hD hS => ?_)
  have hm_23 : sm ρ [] ws_12 (ws_12.set kb4 (b4, .inl (cb4, 4, .inl (upd fb4 (nI c8).toNatClampNeg a3)))) := sm.ints e_17 w_kb4
  have e_24 : (ws_12.set kb4 (b4, .inl (cb4, 4, .inl (upd fb4 (nI c8).toNatClampNeg a3))))[kb4]? = some (b4, .inl (cb4, 4, .inl (upd fb4 (nI c8).toNatClampNeg a3))) := wset_self e_17
  have e_25 := set_n (z := (b4, .inl (cb4, 4, .inl (upd fb4 (nI c8).toNatClampNeg a3)))) e_15 (pl_ne e_15 e_17 (by intro h9; simp at h9))
  have e_26 := set_n (z := (b4, .inl (cb4, 4, .inl (upd fb4 (nI c8).toNatClampNeg a3)))) e_16 (show kb2 ≠ kb4 by omega)
  have e_27 := set_n (z := (b4, .inl (cb4, 4, .inl (upd fb4 (nI c8).toNatClampNeg a3)))) e_14 (show kb3 ≠ kb4 by omega)
  have e_28 := set_n (z := (b4, .inl (cb4, 4, .inl (upd fb4 (nI c8).toNatClampNeg a3)))) e_18 (show kb5 ≠ kb4 by omega)
  have e_29 := set_n (z := (b4, .inl (cb4, 4, .inl (upd fb4 (nI c8).toNatClampNeg a3)))) e_19 (show kb6 ≠ kb4 by omega)
  generalize ws_12.set kb4 (b4, .inl (cb4, 4, .inl (upd fb4 (nI c8).toNatClampNeg a3))) = ws_22 at hP hD hm_23 e_24 e_25 e_26 e_27 e_28 e_29
  have hsm := hsm.tr (hm_23.mono (fun _ h9 => absurd h9 List.not_mem_nil))
  obtain ⟨f_30, hf_31⟩ : ∃ g9, g9 = upd fb4 (nI c8).toNatClampNeg a3 := ⟨_, rfl⟩
  rw [← hf_31] at e_24
  refine lv_aload_n hx hb dX0_addTank_39 rfl (lv_at hl 0 rfl) ?_
  refine va_get (D := D) (ci := 0) (v := .ref b5) (C := RX0) (T := TX0) (N := 14) hx hb hts hin0 hown hK hP kbl e_25 rfl 5 (by decide) (hts (.fieldLink RX0 24 "HoneyHouse$Blender" "colours" "[I") (List.mem_of_getElem? (i := 5) rfl)) (fun _ h9 => h9) rfl dX0_addTank_40 ?_
  refine lv_aload_n hx hb dX0_addTank_43 rfl (lv_at hl 0 rfl) ?_
  refine va_get (D := D) (ci := 0) (v := .int (nI c8)) (C := RX0) (T := TX0) (N := 14) hx hb hts hin0 hown hK hP kbl e_25 rfl 8 (by decide) (hts (.fieldLink RX0 33 "HoneyHouse$Blender" "tankCount" "I") (List.mem_of_getElem? (i := 1) rfl)) (fun _ h9 => h9) rfl dX0_addTank_44 ?_
  refine lv_iload hx hb dX0_addTank_47 (lv_at hl 4 rfl) ?_
  refine va_iast (f := fb5) (n := 4) hx hb hK hP hD hS kb5 tb5 e_28 ub5 (vp_in_nI (n := c8) (by omega) (by omega)) dX0_addTank_49 (fun H locs hP hD hS => ?_)
  have hm_33 : sm ρ [] ws_22 (ws_22.set kb5 (b5, .inl (cb5, 4, .inl (upd fb5 (nI c8).toNatClampNeg a4)))) := sm.ints e_28 w_kb5
  have e_34 : (ws_22.set kb5 (b5, .inl (cb5, 4, .inl (upd fb5 (nI c8).toNatClampNeg a4))))[kb5]? = some (b5, .inl (cb5, 4, .inl (upd fb5 (nI c8).toNatClampNeg a4))) := wset_self e_28
  have e_35 := set_n (z := (b5, .inl (cb5, 4, .inl (upd fb5 (nI c8).toNatClampNeg a4)))) e_25 (pl_ne e_25 e_28 (by intro h9; simp at h9))
  have e_36 := set_n (z := (b5, .inl (cb5, 4, .inl (upd fb5 (nI c8).toNatClampNeg a4)))) e_26 (show kb2 ≠ kb5 by omega)
  have e_37 := set_n (z := (b5, .inl (cb5, 4, .inl (upd fb5 (nI c8).toNatClampNeg a4)))) e_27 (show kb3 ≠ kb5 by omega)
  have e_38 := set_n (z := (b5, .inl (cb5, 4, .inl (upd fb5 (nI c8).toNatClampNeg a4)))) e_24 (show kb4 ≠ kb5 by omega)
  have e_39 := set_n (z := (b5, .inl (cb5, 4, .inl (upd fb5 (nI c8).toNatClampNeg a4)))) e_29 (show kb6 ≠ kb5 by omega)
  generalize ws_22.set kb5 (b5, .inl (cb5, 4, .inl (upd fb5 (nI c8).toNatClampNeg a4))) = ws_32 at hP hD hm_33 e_34 e_35 e_36 e_37 e_38 e_39
  have hsm := hsm.tr (hm_33.mono (fun _ h9 => absurd h9 List.not_mem_nil))
  obtain ⟨f_40, hf_41⟩ : ∃ g9, g9 = upd fb5 (nI c8).toNatClampNeg a4 := ⟨_, rfl⟩
  rw [← hf_41] at e_34
  refine lv_aload_n hx hb dX0_addTank_50 rfl (lv_at hl 0 rfl) ?_
  refine va_get (D := D) (ci := 0) (v := .ref b6) (C := RX0) (T := TX0) (N := 14) hx hb hts hin0 hown hK hP kbl e_35 rfl 6 (by decide) (hts (.fieldLink RX0 27 "HoneyHouse$Blender" "prices" "[I") (List.mem_of_getElem? (i := 6) rfl)) (fun _ h9 => h9) rfl dX0_addTank_51 ?_
  refine lv_aload_n hx hb dX0_addTank_54 rfl (lv_at hl 0 rfl) ?_
  refine va_get (D := D) (ci := 0) (v := .int (nI c8)) (C := RX0) (T := TX0) (N := 14) hx hb hts hin0 hown hK hP kbl e_35 rfl 8 (by decide) (hts (.fieldLink RX0 33 "HoneyHouse$Blender" "tankCount" "I") (List.mem_of_getElem? (i := 1) rfl)) (fun _ h9 => h9) rfl dX0_addTank_55 ?_
  refine lv_iload hx hb dX0_addTank_58 (lv_at hl 5 rfl) ?_
  refine va_iast (f := fb6) (n := 4) hx hb hK hP hD hS kb6 tb6 e_39 ub6 (vp_in_nI (n := c8) (by omega) (by omega)) dX0_addTank_60 (fun H locs hP hD hS => ?_)
  have hm_43 : sm ρ [] ws_32 (ws_32.set kb6 (b6, .inl (cb6, 4, .inl (upd fb6 (nI c8).toNatClampNeg a5)))) := sm.ints e_39 w_kb6
  have e_44 : (ws_32.set kb6 (b6, .inl (cb6, 4, .inl (upd fb6 (nI c8).toNatClampNeg a5))))[kb6]? = some (b6, .inl (cb6, 4, .inl (upd fb6 (nI c8).toNatClampNeg a5))) := wset_self e_39
  have e_45 := set_n (z := (b6, .inl (cb6, 4, .inl (upd fb6 (nI c8).toNatClampNeg a5)))) e_35 (pl_ne e_35 e_39 (by intro h9; simp at h9))
  have e_46 := set_n (z := (b6, .inl (cb6, 4, .inl (upd fb6 (nI c8).toNatClampNeg a5)))) e_36 (show kb2 ≠ kb6 by omega)
  have e_47 := set_n (z := (b6, .inl (cb6, 4, .inl (upd fb6 (nI c8).toNatClampNeg a5)))) e_37 (show kb3 ≠ kb6 by omega)
  have e_48 := set_n (z := (b6, .inl (cb6, 4, .inl (upd fb6 (nI c8).toNatClampNeg a5)))) e_38 (show kb4 ≠ kb6 by omega)
  have e_49 := set_n (z := (b6, .inl (cb6, 4, .inl (upd fb6 (nI c8).toNatClampNeg a5)))) e_34 (show kb5 ≠ kb6 by omega)
  generalize ws_32.set kb6 (b6, .inl (cb6, 4, .inl (upd fb6 (nI c8).toNatClampNeg a5))) = ws_42 at hP hD hm_43 e_44 e_45 e_46 e_47 e_48 e_49
  have hsm := hsm.tr (hm_43.mono (fun _ h9 => absurd h9 List.not_mem_nil))
  obtain ⟨f_50, hf_51⟩ : ∃ g9, g9 = upd fb6 (nI c8).toNatClampNeg a5 := ⟨_, rfl⟩
  rw [← hf_51] at e_44
  refine lv_aload_n hx hb dX0_addTank_61 rfl (lv_at hl 0 rfl) ?_
  refine lv_dup hx hb dX0_addTank_62 rfl ?_
  refine va_get (D := D) (ci := 0) (v := .int (nI c8)) (C := RX0) (T := TX0) (N := 14) hx hb hts hin0 hown hK hP kbl e_45 rfl 8 (by decide) (hts (.fieldLink RX0 33 "HoneyHouse$Blender" "tankCount" "I") (List.mem_of_getElem? (i := 1) rfl)) (fun _ h9 => h9) rfl dX0_addTank_63 ?_
  refine lv_iconst (v := 1) hx hb dX0_addTank_66 (by decide) ?_
  refine lv_iadd hx hb dX0_addTank_67 ?_
  refine tp_i (y := nI (c8 + 1)) (nI_add c8 1) ?_
  refine va_put (D := D) (ci := 0) (v := .int (nI (c8 + 1))) (ty := .int) (C := RX0) (T := TX0) (N := 14) hx hb hts hin0 tyX0 tyX0_ok nmX0 hown hK hP hD hS kbl e_45 rfl 8 (by decide) (hts (.fieldLink RX0 33 "HoneyHouse$Blender" "tankCount" "I") (List.mem_of_getElem? (i := 1) rfl)) (fun _ h9 => h9) rfl (tyX0_ok 8 (by decide)) rfl rfl (Nat.le_of_ble_eq_true rfl) dX0_addTank_68 (fun H locs hP hD hS => ?_)
  have hP : va_P D vwCl (ws_42.set kbl (bl, .inr (0, [.ref b0, .int b1, .ref b2, .ref b3, .ref b4, .ref b5, .ref b6, .ref b7, .int (nI (c8 + 1)), .int b9, .int b10, .int b11, .int b12, .int b13]))) H := hP
  have hD : va_D A (ws_42.set kbl (bl, .inr (0, [.ref b0, .int b1, .ref b2, .ref b3, .ref b4, .ref b5, .ref b6, .ref b7, .int (nI (c8 + 1)), .int b9, .int b10, .int b11, .int b12, .int b13]))) := hD
  have hm_53 : sm ρ [0] ws_42 (ws_42.set kbl (bl, .inr (0, [.ref b0, .int b1, .ref b2, .ref b3, .ref b4, .ref b5, .ref b6, .ref b7, .int (nI (c8 + 1)), .int b9, .int b10, .int b11, .int b12, .int b13]))) := sm.flds e_45 (smF.c (smV.rf _) (smF.c (smV.rf _) (smF.c (smV.rf _) (smF.c (smV.rf _) (smF.c (smV.rf _) (smF.c (smV.rf _) (smF.c (smV.rf _) (smF.c (smV.rf _) (smF.c (smV.i _ _) (smF.c (smV.rf _) (smF.c (smV.rf _) (smF.c (smV.rf _) (smF.c (smV.rf _) (smF.c (smV.rf _) (rfl))))))))))))))) (List.mem_singleton.mpr rfl) w_kbl
  have e_54 : (ws_42.set kbl (bl, .inr (0, [.ref b0, .int b1, .ref b2, .ref b3, .ref b4, .ref b5, .ref b6, .ref b7, .int (nI (c8 + 1)), .int b9, .int b10, .int b11, .int b12, .int b13])))[kbl]? = some (bl, .inr (0, [.ref b0, .int b1, .ref b2, .ref b3, .ref b4, .ref b5, .ref b6, .ref b7, .int (nI (c8 + 1)), .int b9, .int b10, .int b11, .int b12, .int b13])) := wset_self e_45
  have e_55 := set_n (z := (bl, .inr (0, [.ref b0, .int b1, .ref b2, .ref b3, .ref b4, .ref b5, .ref b6, .ref b7, .int (nI (c8 + 1)), .int b9, .int b10, .int b11, .int b12, .int b13]))) e_46 (pl_ne e_46 e_45 (by intro h9; simp at h9))
  have e_56 := set_n (z := (bl, .inr (0, [.ref b0, .int b1, .ref b2, .ref b3, .ref b4, .ref b5, .ref b6, .ref b7, .int (nI (c8 + 1)), .int b9, .int b10, .int b11, .int b12, .int b13]))) e_47 (pl_ne e_47 e_45 (by intro h9; simp at h9))
  have e_57 := set_n (z := (bl, .inr (0, [.ref b0, .int b1, .ref b2, .ref b3, .ref b4, .ref b5, .ref b6, .ref b7, .int (nI (c8 + 1)), .int b9, .int b10, .int b11, .int b12, .int b13]))) e_48 (pl_ne e_48 e_45 (by intro h9; simp at h9))
  have e_58 := set_n (z := (bl, .inr (0, [.ref b0, .int b1, .ref b2, .ref b3, .ref b4, .ref b5, .ref b6, .ref b7, .int (nI (c8 + 1)), .int b9, .int b10, .int b11, .int b12, .int b13]))) e_49 (pl_ne e_49 e_45 (by intro h9; simp at h9))
  have e_59 := set_n (z := (bl, .inr (0, [.ref b0, .int b1, .ref b2, .ref b3, .ref b4, .ref b5, .ref b6, .ref b7, .int (nI (c8 + 1)), .int b9, .int b10, .int b11, .int b12, .int b13]))) e_44 (pl_ne e_44 e_45 (by intro h9; simp at h9))
  generalize ws_42.set kbl (bl, .inr (0, [.ref b0, .int b1, .ref b2, .ref b3, .ref b4, .ref b5, .ref b6, .ref b7, .int (nI (c8 + 1)), .int b9, .int b10, .int b11, .int b12, .int b13])) = ws_52 at hP hD hm_53 e_54 e_55 e_56 e_57 e_58 e_59
  have hsm := hsm.tr (hm_53.mono (by decide))
  exact W.vret hx hb hr (fun t ht hW => ⟨⟨(), rfl, trivial, ws_52, tys, hsm, htx, by rw [ht]; exact hP, va_K.moved hW.alike hK, hD, ⟨f_10, f_20, f_30, f_40, f_50, e_55, (by rw [hf_11, nI_clamp (n := c8) (by omega)]), e_56, (by rw [hf_21, nI_clamp (n := c8) (by omega)]), e_57, (by rw [hf_31, nI_clamp (n := c8) (by omega)]), e_58, (by rw [hf_41, nI_clamp (n := c8) (by omega)]), e_59, (by rw [hf_51, nI_clamp (n := c8) (by omega)]), e_54⟩⟩, hS.F ht⟩) hS.2.2 dX0_addTank_71
theorem b_bd {pm wa le mo : Nat} (h1 : pm ≤ 40) (h2 : wa ≤ 300) (h3 : le ≤ 140) (h4 : mo ≤ 140) : pm * 10 * wa ≤ 120000 ∧ pm * 10 * le ≤ 56000 ∧ pm * 10 * mo ≤ 56000 := by
  have a1 : pm * 10 * wa ≤ 400 * 300 := Nat.mul_le_mul (by omega) h2
  have a2 : pm * 10 * le ≤ 400 * 140 := Nat.mul_le_mul (by omega) h3
  have a3 : pm * 10 * mo ≤ 400 * 140 := Nat.mul_le_mul (by omega) h4
  omega
theorem iw_n {x y A B C : Nat} (hx : x < 2 ^ 31) (hy : y < 2 ^ 31) (hA : A < 2 ^ 31) (hB : B < 2 ^ 31) (hC : C < 2 ^ 31) : (¬ nI A < nI x ∧ ¬ nI y < nI B ∧ ¬ nI C < nI y → x ≤ A ∧ B ≤ y ∧ y ≤ C) ∧ (nI A < nI x ∨ nI y < nI B ∨ nI C < nI y → ¬ (x ≤ A ∧ B ≤ y ∧ y ≤ C)) := by
  rw [nI_ltI hA hx, nI_ltI hy hB, nI_ltI hC hy]
  exact ⟨fun h => by omega, fun h => by omega⟩
set_option maxHeartbeats 4000000 in
set_option maxRecDepth 100000 in
theorem a_tryWith (l : Launch) (D : va_G) (ρ : Nat → Nat) (ws : va_W) (tys : List (ClassId × FieldType)) (bl kbl b0 b2 b3 b4 b5 b6 b7 : Nat) (b1 b8 : Int32) (y9 : Int32) (kb3 : Nat) (cb3 : ClassId) (tb3 : Nat) (fb3 : Nat → Int32) (kb4 : Nat) (cb4 : ClassId) (tb4 : Nat) (fb4 : Nat → Int32) (kb5 : Nat) (cb5 : ClassId) (tb5 : Nat) (fb5 : Nat → Int32) (kb6 : Nat) (cb6 : ClassId) (tb6 : Nat) (fb6 : Nat → Int32) (kb7 : Nat) (cb7 : ClassId) (tb7 : Nat) (fb7 : Nat → Int32) (mM mW mC mP : Nat → Nat) (pm wa le mo : Nat) (a b : Nat) (sz : Nat) (hpm : pm ≤ 40) (hwa : wa ≤ 300) (hle : le ≤ 140) (hmo : mo ≤ 140) (hMb : ∀ k : Nat, k < 4 → mM k ≤ 1000) (hWb : ∀ k : Nat, k < 4 → mW k ≤ 3000) (hCb : ∀ k : Nat, k < 4 → mC k ≤ 1400) (hPb : ∀ k : Nat, k < 4 → mP k ≤ 10000) (h3 : ∀ k : Nat, k < 4 → fb3 k = nI (mM k)) (h4 : ∀ k : Nat, k < 4 → fb4 k = nI (mW k) ∨ mM k = 0) (h5 : ∀ k : Nat, k < 4 → fb5 k = nI (mC k) ∨ mM k = 0) (h6 : ∀ k : Nat, k < 4 → fb6 k = nI (mP k) ∨ mM k = 0) (hab : a + b ≤ pm) (ha : a ≤ mM 0) (hb9 : b ≤ mM 1) (hs0 : bX (bF mM mW mC pm wa le mo) (mix mP pm) pm y9 fb7 a b 0) (hbo : kb3 < kb7 ∧ kb4 < kb7 ∧ kb5 < kb7 ∧ kb6 < kb7) (ebl : ws[kbl]? = some (bl, .inr (0, [.ref b0, .int b1, .ref b2, .ref b3, .ref b4, .ref b5, .ref b6, .ref b7, .int b8, .int y9, .int (nI pm), .int (nI (pm * 10 * wa)), .int (nI (pm * 10 * le)), .int (nI (pm * 10 * mo))]))) (eb3 : ws[kb3]? = some (b3, .inl (cb3, 4, .inl fb3))) (ub3 : tys[tb3]? = some (cb3, .int)) (eb4 : ws[kb4]? = some (b4, .inl (cb4, 4, .inl fb4))) (ub4 : tys[tb4]? = some (cb4, .int)) (eb5 : ws[kb5]? = some (b5, .inl (cb5, 4, .inl fb5))) (ub5 : tys[tb5]? = some (cb5, .int)) (eb6 : ws[kb6]? = some (b6, .inl (cb6, 4, .inl fb6))) (ub6 : tys[tb6]? = some (cb6, .int)) (eb7 : ws[kb7]? = some (b7, .inl (cb7, 4, .inl fb7))) (ub7 : tys[tb7]? = some (cb7, .int)) (w_kbl : ρ kbl = 0) (w_kb7 : ρ kb7 = 0) : Met l yX0_tryWith wsX0_tryWith ({ frames := 1, cells := 0, slots := 0, locals := 40 }) (va_Pc [.ref bl, .int (nI a), .int (nI b)] (fun U => U.heap.size = sz ∧ va_P D vwCl ws U.heap ∧ va_K D vwCl tys U ∧ va_D (fun _ => True) ws)) (va_Qv (fun _ : Unit => True) (fun (_ : Unit) (t : State) => ∃ (ws' : va_W) (tys' : List (ClassId × FieldType)), sm ρ [0] ws ws' ∧ tyx tys tys' ∧ va_P D vwCl ws' t.heap ∧ va_K D vwCl tys' t ∧ va_D (va_A ws sz) ws' ∧ (∃ (y8 : Int32) (f8 : Nat → Int32), ws'[kbl]? = some (bl, .inr (0, [.ref b0, .int b1, .ref b2, .ref b3, .ref b4, .ref b5, .ref b6, .ref b7, .int b8, .int y8, .int (nI pm), .int (nI (pm * 10 * wa)), .int (nI (pm * 10 * le)), .int (nI (pm * 10 * mo))])) ∧ ws'[kb7]? = some (b7, .inl (cb7, 4, .inl f8)) ∧ bX (bF mM mW mC pm wa le mo) (mix mP pm) pm y8 f8 a (b + 1) 0)) (va_A ws sz)) 0 0 (va_A ws sz) := by
  refine Met.ofW (cc := cX0_tryWith) (maxL := 10) (ret := none) (by decide) rfl ?_
  intro p e s m args below meth c s₁ B hml hv
  obtain ⟨rfl, hsz, hP, hK, hD0⟩ := hv
  have hx := B.exec
  have hb := B.bytes
  have hr := B.returns
  have hts := atoms_spec (ws := wsX0_tryWith) B.pre
  have hown : s.vm.findClass RX0 = some m.cls := findClass_of_methodNamed B.named
  have hlocks := B.notSynchronized
  subst hsz
  have hD := hD0.self (sz := s.heap.size)
  generalize hAe : va_A ws s.heap.size = A at hD ⊢
  have hA : ∀ q : Nat, s.heap.size ≤ q → A q := fun q h => by rw [← hAe]; exact Or.inr h
  have hS : va_S A s.heap s.heap [] := va_S.rf
  have hsm : sm ρ [0] ws ws := sm.rf ws
  have htx : tyx tys tys := tyx.rf tys
  have hin0 : ∀ w ∈ u_ws RX0 TX0 14, w ∈ wsX0_tryWith := (fun _ h9 => List.mem_cons_of_mem _ ((List.mem_append_right _ h9)))
  have hl := lv_entry ([.ref bl, .int (nI a), .int (nI b)]) (n := 10) (Nat.le_of_ble_eq_true rfl)
  rw [lg_entry_eq]
  generalize (lg_sl ([.ref bl, .int (nI a), .int (nI b)]) ++ List.replicate (10 - (lg_sl ([.ref bl, .int (nI a), .int (nI b)])).length) Slot.unset).toArray = ls at hl ⊢
  have hl : lv_has ls 10 [(0, .ref bl), (1, .int (nI a)), (2, .int (nI b))] := hl
  have hbd := b_bd hpm hwa hle hmo
  have hM0 := hMb 0 (by omega)
  have hM1 := hMb 1 (by omega)
  have hM2 := hMb 2 (by omega)
  have hM3 := hMb 3 (by omega)
  refine lv_aload_n hx hb dX0_tryWith_0 rfl (lv_at hl 0 rfl) ?_
  refine va_get (D := D) (ci := 0) (v := .int (nI pm)) (C := RX0) (T := TX0) (N := 14) hx hb hts hin0 hown hK hP kbl ebl rfl 10 (by decide) (hts (.fieldLink RX0 43 "HoneyHouse$Blender" "partsInAll" "I") (List.mem_of_getElem? (i := 1) rfl)) (fun _ h9 => h9) rfl dX0_tryWith_1 ?_
  refine lv_iload_n hx hb dX0_tryWith_4 rfl (lv_at hl 1 rfl) ?_
  refine lv_isub hx hb dX0_tryWith_5 ?_
  refine tp_i (y := nI (pm - a)) (pk_sub (a := pm) (b := a) (by omega)) ?_
  refine lv_iload_n hx hb dX0_tryWith_6 rfl (lv_at hl 2 rfl) ?_
  refine lv_isub hx hb dX0_tryWith_7 ?_
  refine tp_i (y := nI ((pm - a) - b)) (pk_sub (a := pm - a) (b := b) (by omega)) ?_
  refine lv_istore_n (lv' := [(3, .int (nI ((pm - a) - b))), (0, .ref bl), (1, .int (nI a)), (2, .int (nI b))]) hx hb dX0_tryWith_8 rfl hl (by decide) rfl (fun ls hl => ?_)
  refine lv_iload_n hx hb dX0_tryWith_9 rfl (lv_at hl 2 rfl) ?_
  refine lv_aload_n hx hb dX0_tryWith_10 rfl (lv_at hl 1 rfl) ?_
  refine va_get (D := D) (ci := 0) (v := .ref b6) (C := RX0) (T := TX0) (N := 14) hx hb hts hin0 hown hK hP kbl ebl rfl 6 (by decide) (hts (.fieldLink RX0 27 "HoneyHouse$Blender" "prices" "[I") (List.mem_of_getElem? (i := 2) rfl)) (fun _ h9 => h9) rfl dX0_tryWith_11 ?_
  refine lv_iconst (v := 0) hx hb dX0_tryWith_14 (by decide) ?_
  refine va_iald (f := fb6) (n := 4) hx hb hK hP kb6 tb6 eb6 ub6 (vp_in_iff.mpr (by decide)) dX0_tryWith_15 ?_
  refine lv_imul hx hb dX0_tryWith_16 ?_
  refine tp_i (y := nI (a * mP 0)) (mq (h6 0 (by omega)) ha) ?_
  refine lv_iload_n hx hb dX0_tryWith_17 rfl (lv_at hl 3 rfl) ?_
  refine lv_aload_n hx hb dX0_tryWith_18 rfl (lv_at hl 1 rfl) ?_
  refine va_get (D := D) (ci := 0) (v := .ref b6) (C := RX0) (T := TX0) (N := 14) hx hb hts hin0 hown hK hP kbl ebl rfl 6 (by decide) (hts (.fieldLink RX0 27 "HoneyHouse$Blender" "prices" "[I") (List.mem_of_getElem? (i := 2) rfl)) (fun _ h9 => h9) rfl dX0_tryWith_19 ?_
  refine lv_iconst (v := 1) hx hb dX0_tryWith_22 (by decide) ?_
  refine va_iald (f := fb6) (n := 4) hx hb hK hP kb6 tb6 eb6 ub6 (vp_in_iff.mpr (by decide)) dX0_tryWith_23 ?_
  refine lv_imul hx hb dX0_tryWith_24 ?_
  refine tp_i (y := nI (b * mP 1)) (mq (h6 1 (by omega)) hb9) ?_
  refine lv_iadd hx hb dX0_tryWith_25 ?_
  refine tp_i (y := nI ((a * mP 0) + (b * mP 1))) (nI_add (a * mP 0) (b * mP 1)) ?_
  refine lv_istore (lv' := [(4, .int (nI ((a * mP 0) + (b * mP 1)))), (3, .int (nI ((pm - a) - b))), (0, .ref bl), (1, .int (nI a)), (2, .int (nI b))]) hx hb dX0_tryWith_26 hl (by decide) rfl (fun ls hl => ?_)
  refine lv_iload_n hx hb dX0_tryWith_28 rfl (lv_at hl 3 rfl) ?_
  refine lv_aload_n hx hb dX0_tryWith_29 rfl (lv_at hl 2 rfl) ?_
  refine va_get (D := D) (ci := 0) (v := .ref b4) (C := RX0) (T := TX0) (N := 14) hx hb hts hin0 hown hK hP kbl ebl rfl 4 (by decide) (hts (.fieldLink RX0 21 "HoneyHouse$Blender" "waters" "[I") (List.mem_of_getElem? (i := 3) rfl)) (fun _ h9 => h9) rfl dX0_tryWith_30 ?_
  refine lv_iconst (v := 0) hx hb dX0_tryWith_33 (by decide) ?_
  refine va_iald (f := fb4) (n := 4) hx hb hK hP kb4 tb4 eb4 ub4 (vp_in_iff.mpr (by decide)) dX0_tryWith_34 ?_
  refine lv_imul hx hb dX0_tryWith_35 ?_
  refine tp_i (y := nI (a * mW 0)) (mq (h4 0 (by omega)) ha) ?_
  refine lv_iload_n hx hb dX0_tryWith_36 rfl (lv_at hl 4 rfl) ?_
  refine lv_aload_n hx hb dX0_tryWith_37 rfl (lv_at hl 2 rfl) ?_
  refine va_get (D := D) (ci := 0) (v := .ref b4) (C := RX0) (T := TX0) (N := 14) hx hb hts hin0 hown hK hP kbl ebl rfl 4 (by decide) (hts (.fieldLink RX0 21 "HoneyHouse$Blender" "waters" "[I") (List.mem_of_getElem? (i := 3) rfl)) (fun _ h9 => h9) rfl dX0_tryWith_38 ?_
  refine lv_iconst (v := 1) hx hb dX0_tryWith_41 (by decide) ?_
  refine va_iald (f := fb4) (n := 4) hx hb hK hP kb4 tb4 eb4 ub4 (vp_in_iff.mpr (by decide)) dX0_tryWith_42 ?_
  refine lv_imul hx hb dX0_tryWith_43 ?_
  refine tp_i (y := nI (b * mW 1)) (mq (h4 1 (by omega)) hb9) ?_
  refine lv_iadd hx hb dX0_tryWith_44 ?_
  refine tp_i (y := nI ((a * mW 0) + (b * mW 1))) (nI_add (a * mW 0) (b * mW 1)) ?_
  refine lv_istore (lv' := [(5, .int (nI ((a * mW 0) + (b * mW 1)))), (4, .int (nI ((a * mP 0) + (b * mP 1)))), (3, .int (nI ((pm - a) - b))), (0, .ref bl), (1, .int (nI a)), (2, .int (nI b))]) hx hb dX0_tryWith_45 hl (by decide) rfl (fun ls hl => ?_)
  refine lv_iload_n hx hb dX0_tryWith_47 rfl (lv_at hl 4 rfl) ?_
  refine lv_aload_n hx hb dX0_tryWith_48 rfl (lv_at hl 3 rfl) ?_
  refine va_get (D := D) (ci := 0) (v := .ref b5) (C := RX0) (T := TX0) (N := 14) hx hb hts hin0 hown hK hP kbl ebl rfl 5 (by decide) (hts (.fieldLink RX0 24 "HoneyHouse$Blender" "colours" "[I") (List.mem_of_getElem? (i := 4) rfl)) (fun _ h9 => h9) rfl dX0_tryWith_49 ?_
  refine lv_iconst (v := 0) hx hb dX0_tryWith_52 (by decide) ?_
  refine va_iald (f := fb5) (n := 4) hx hb hK hP kb5 tb5 eb5 ub5 (vp_in_iff.mpr (by decide)) dX0_tryWith_53 ?_
  refine lv_imul hx hb dX0_tryWith_54 ?_
  refine tp_i (y := nI (a * mC 0)) (mq (h5 0 (by omega)) ha) ?_
  refine lv_iload_n hx hb dX0_tryWith_55 rfl (lv_at hl 5 rfl) ?_
  refine lv_aload_n hx hb dX0_tryWith_56 rfl (lv_at hl 3 rfl) ?_
  refine va_get (D := D) (ci := 0) (v := .ref b5) (C := RX0) (T := TX0) (N := 14) hx hb hts hin0 hown hK hP kbl ebl rfl 5 (by decide) (hts (.fieldLink RX0 24 "HoneyHouse$Blender" "colours" "[I") (List.mem_of_getElem? (i := 4) rfl)) (fun _ h9 => h9) rfl dX0_tryWith_57 ?_
  refine lv_iconst (v := 1) hx hb dX0_tryWith_60 (by decide) ?_
  refine va_iald (f := fb5) (n := 4) hx hb hK hP kb5 tb5 eb5 ub5 (vp_in_iff.mpr (by decide)) dX0_tryWith_61 ?_
  refine lv_imul hx hb dX0_tryWith_62 ?_
  refine tp_i (y := nI (b * mC 1)) (mq (h5 1 (by omega)) hb9) ?_
  refine lv_iadd hx hb dX0_tryWith_63 ?_
  refine tp_i (y := nI ((a * mC 0) + (b * mC 1))) (nI_add (a * mC 0) (b * mC 1)) ?_
  refine lv_istore (lv' := [(6, .int (nI ((a * mC 0) + (b * mC 1)))), (5, .int (nI ((a * mW 0) + (b * mW 1)))), (4, .int (nI ((a * mP 0) + (b * mP 1)))), (3, .int (nI ((pm - a) - b))), (0, .ref bl), (1, .int (nI a)), (2, .int (nI b))]) hx hb dX0_tryWith_64 hl (by decide) rfl (fun ls hl => ?_)
  refine lv_iconst (v := 0) hx hb dX0_tryWith_66 (by decide) ?_
  refine lv_iload_n hx hb dX0_tryWith_67 rfl (lv_at hl 3 rfl) ?_
  refine lv_aload_n hx hb dX0_tryWith_68 rfl (lv_at hl 4 rfl) ?_
  refine va_get (D := D) (ci := 0) (v := .ref b3) (C := RX0) (T := TX0) (N := 14) hx hb hts hin0 hown hK hP kbl ebl rfl 3 (by decide) (hts (.fieldLink RX0 18 "HoneyHouse$Blender" "mostParts" "[I") (List.mem_of_getElem? (i := 5) rfl)) (fun _ h9 => h9) rfl dX0_tryWith_69 ?_
  refine lv_iconst (v := 3) hx hb dX0_tryWith_72 (by decide) ?_
  refine va_iald (f := fb3) (n := 4) hx hb hK hP kb3 tb3 eb3 ub3 (vp_in_iff.mpr (by decide)) dX0_tryWith_73 ?_
  refine tp_i (y := nI (mM 3)) (h3 3 (by omega)) ?_
  refine lv_isub hx hb dX0_tryWith_74 ?_
  refine va_mmax hx hb (by rw [hml]; exact hl.1.symm) hown (hts (.methodLink RX0 71 Lib.Math.max.name) (List.mem_of_getElem? (i := 6) rfl)) (hts (.static Lib.Math.max.name) (List.mem_of_getElem? (i := 7) rfl)) (hts (.initialized "java/lang/Math") (List.mem_of_getElem? (i := 8) rfl)) (hts (.code Lib.Math.max.name Lib.Math.max.code 2 (some .int)) (List.mem_of_getElem? (i := 9) rfl)) (Nat.le_of_ble_eq_true rfl) (Nat.le_of_ble_eq_true rfl) (Nat.le_of_ble_eq_true rfl) (Nat.le_of_ble_eq_true rfl) dX0_tryWith_75 ?_
  refine lv_topi (fun z_1 hz_2 => ?_)
  obtain rfl : z_1 = nI (pm - a - b - mM 3) := hz_2.trans (mx_s (by omega) (by have := hMb 3 (by omega); omega))
  refine lv_istore (lv' := [(7, .int (nI (pm - a - b - mM 3))), (6, .int (nI ((a * mC 0) + (b * mC 1)))), (5, .int (nI ((a * mW 0) + (b * mW 1)))), (4, .int (nI ((a * mP 0) + (b * mP 1)))), (3, .int (nI ((pm - a) - b))), (0, .ref bl), (1, .int (nI a)), (2, .int (nI b))]) hx hb dX0_tryWith_78 hl (by decide) rfl (fun ls hl => ?_)
  refine lp_V (nL := 10) (σ := Nat × Int32 × (Nat → Int32)) (lv := fun x9 => [(7, .int (nI x9.1)), (6, .int (nI ((a * mC 0) + (b * mC 1)))), (5, .int (nI ((a * mW 0) + (b * mW 1)))), (4, .int (nI ((a * mP 0) + (b * mP 1)))), (3, .int (nI ((pm - a) - b))), (2, .int (nI b)), (1, .int (nI a)), (0, .ref bl)]) (μ := fun x9 => pm + 1 - x9.1) (J := fun x9 ws9 => sm ρ [0] ws ws9 ∧ (ws9[kbl]? = some (bl, .inr (0, [.ref b0, .int b1, .ref b2, .ref b3, .ref b4, .ref b5, .ref b6, .ref b7, .int b8, .int x9.2.1, .int (nI pm), .int (nI (pm * 10 * wa)), .int (nI (pm * 10 * le)), .int (nI (pm * 10 * mo))]))) ∧ (ws9[kb7]? = some (b7, .inl (cb7, 4, .inl x9.2.2))) ∧ (ws9[kb3]? = some (b3, .inl (cb3, 4, .inl fb3))) ∧ (ws9[kb4]? = some (b4, .inl (cb4, 4, .inl fb4))) ∧ (ws9[kb5]? = some (b5, .inl (cb5, 4, .inl fb5))) ∧ (ws9[kb6]? = some (b6, .inl (cb6, 4, .inl fb6))) ∧ (pm - a - b - mM 3 ≤ x9.1) ∧ (x9.1 ≤ pm + 1) ∧ (bX (bF mM mW mC pm wa le mo) (mix mP pm) pm x9.2.1 x9.2.2 a b x9.1)) (fun x9 ws_10 H locs ls hj hP hD hS hl ih_3 => ?_) (pm - a - b - mM 3, y9, fb7) ws _ _ ls ⟨sm.rf _, ebl, eb7, eb3, eb4, eb5, eb6, (show pm - a - b - mM 3 ≤ (pm - a - b - mM 3) from Nat.le_refl _), (show (pm - a - b - mM 3) ≤ pm + 1 from by omega), (show bX (bF mM mW mC pm wa le mo) (mix mP pm) pm y9 fb7 a b (pm - a - b - mM 3) from bX_to hs0 lx_c (rn_0 (fun k9 h9 h8 => by have := h8.2.2.2.2; omega)))⟩ hP hD hS (lv_sub hl [0, 1, 2, 3, 4, 7, 6, 5] rfl)
  obtain ⟨c9_4, y9_5, f7_6⟩ := x9
  replace hj : sm ρ [0] ws ws_10 ∧ (ws_10[kbl]? = some (bl, .inr (0, [.ref b0, .int b1, .ref b2, .ref b3, .ref b4, .ref b5, .ref b6, .ref b7, .int b8, .int y9_5, .int (nI pm), .int (nI (pm * 10 * wa)), .int (nI (pm * 10 * le)), .int (nI (pm * 10 * mo))]))) ∧ (ws_10[kb7]? = some (b7, .inl (cb7, 4, .inl f7_6))) ∧ (ws_10[kb3]? = some (b3, .inl (cb3, 4, .inl fb3))) ∧ (ws_10[kb4]? = some (b4, .inl (cb4, 4, .inl fb4))) ∧ (ws_10[kb5]? = some (b5, .inl (cb5, 4, .inl fb5))) ∧ (ws_10[kb6]? = some (b6, .inl (cb6, 4, .inl fb6))) ∧ (pm - a - b - mM 3 ≤ c9_4) ∧ (c9_4 ≤ pm + 1) ∧ (bX (bF mM mW mC pm wa le mo) (mix mP pm) pm y9_5 f7_6 a b c9_4) := hj
  obtain ⟨hm_11, e_13, e_14, e_15, e_16, e_17, e_18, hc0_7, hcm_8, hs_9⟩ := hj
  obtain ⟨g_20, e_19, h_21⟩ := hm_11.obj ebl
  obtain ⟨z_22, z_23, z_24, z_25, z_26, z_27, z_28, rfl⟩ := smX0 h_21
  obtain ⟨f_30, e_29⟩ := hm_11.arrI eb3
  obtain ⟨f_32, e_31⟩ := hm_11.arrI eb4
  obtain ⟨f_34, e_33⟩ := hm_11.arrI eb5
  obtain ⟨f_36, e_35⟩ := hm_11.arrI eb6
  obtain ⟨f_38, e_37⟩ := hm_11.arrI eb7
  have hsm := hsm.tr (hm_11.mono (by decide))
  have hlp_12 := hm_11
  have hl : lv_has ls 10 [(7, .int (nI c9_4)), (6, .int (nI ((a * mC 0) + (b * mC 1)))), (5, .int (nI ((a * mW 0) + (b * mW 1)))), (4, .int (nI ((a * mP 0) + (b * mP 1)))), (3, .int (nI ((pm - a) - b))), (2, .int (nI b)), (1, .int (nI a)), (0, .ref bl)] := hl
  refine lv_iload hx hb dX0_tryWith_80 (lv_at hl 0 rfl) ?_
  refine lv_aload_n hx hb dX0_tryWith_82 rfl (lv_at hl 7 rfl) ?_
  refine va_get (D := D) (ci := 0) (v := .ref b3) (C := RX0) (T := TX0) (N := 14) hx hb hts hin0 hown hK hP kbl e_13 rfl 3 (by decide) (hts (.fieldLink RX0 18 "HoneyHouse$Blender" "mostParts" "[I") (List.mem_of_getElem? (i := 5) rfl)) (fun _ h9 => h9) rfl dX0_tryWith_83 ?_
  refine lv_iconst (v := 2) hx hb dX0_tryWith_86 (by decide) ?_
  refine va_iald (f := fb3) (n := 4) hx hb hK hP kb3 tb3 e_15 ub3 (vp_in_iff.mpr (by decide)) dX0_tryWith_87 ?_
  refine tp_i (y := nI (mM 2)) (h3 2 (by omega)) ?_
  refine lv_iload_n hx hb dX0_tryWith_88 rfl (lv_at hl 4 rfl) ?_
  refine va_mmin hx hb (by rw [hml]; exact hl.1.symm) hown (hts (.methodLink RX0 58 Lib.Math.min.name) (List.mem_of_getElem? (i := 10) rfl)) (hts (.static Lib.Math.min.name) (List.mem_of_getElem? (i := 11) rfl)) (hts (.initialized "java/lang/Math") (List.mem_of_getElem? (i := 8) rfl)) (hts (.code Lib.Math.min.name Lib.Math.min.code 2 (some .int)) (List.mem_of_getElem? (i := 12) rfl)) (Nat.le_of_ble_eq_true rfl) (Nat.le_of_ble_eq_true rfl) (Nat.le_of_ble_eq_true rfl) (Nat.le_of_ble_eq_true rfl) dX0_tryWith_89 ?_
  refine lv_topi (fun z_39 hz_40 => ?_)
  obtain rfl : z_39 = nI (min (mM 2) (pm - a - b)) := hz_40.trans (mi_s (by omega) (by have := hMb 2 (by omega); omega))
  refine lv_icmp_gt (tgt := 236) hx hb dX0_tryWith_92 (by decide) (fun c_41 => ?_) (fun c_41 => ?_)
  · have d_42 := n_lt (a := min (mM 2) (pm - a - b)) (b := c9_4) (by omega) (by omega) c_41
    exact W.vret hx hb hr (fun t ht hW => ⟨⟨(), rfl, trivial, ws_10, tys, hsm, htx, by rw [ht]; exact hP, va_K.moved hW.alike hK, hD, ⟨y9_5, f7_6, e_13, e_14, bX_to hs_9 lx_b (rn_c (fun k9 h9 h8 => by have := h8.2.2.1; have := h8.2.2.2.1; omega))⟩⟩, hS.F ht⟩) hS.2.2 dX0_tryWith_236
  have d_43 := n_nlt (a := min (mM 2) (pm - a - b)) (b := c9_4) (by omega) (by omega) c_41
  refine lv_iload_n hx hb dX0_tryWith_95 rfl (lv_at hl 4 rfl) ?_
  refine lv_iload hx hb dX0_tryWith_96 (lv_at hl 0 rfl) ?_
  refine lv_isub hx hb dX0_tryWith_98 ?_
  refine tp_i (y := nI (((pm - a) - b) - c9_4)) (pk_sub (a := (pm - a) - b) (b := c9_4) (by omega)) ?_
  refine lv_istore (lv' := [(8, .int (nI (((pm - a) - b) - c9_4))), (7, .int (nI c9_4)), (6, .int (nI ((a * mC 0) + (b * mC 1)))), (5, .int (nI ((a * mW 0) + (b * mW 1)))), (4, .int (nI ((a * mP 0) + (b * mP 1)))), (3, .int (nI ((pm - a) - b))), (2, .int (nI b)), (1, .int (nI a)), (0, .ref bl)]) hx hb dX0_tryWith_99 hl (by decide) rfl (fun ls hl => ?_)
  refine lv_iload hx hb dX0_tryWith_101 (lv_at hl 4 rfl) ?_
  refine lv_iload hx hb dX0_tryWith_103 (lv_at hl 1 rfl) ?_
  refine lv_aload_n hx hb dX0_tryWith_105 rfl (lv_at hl 8 rfl) ?_
  refine va_get (D := D) (ci := 0) (v := .ref b6) (C := RX0) (T := TX0) (N := 14) hx hb hts hin0 hown hK hP kbl e_13 rfl 6 (by decide) (hts (.fieldLink RX0 27 "HoneyHouse$Blender" "prices" "[I") (List.mem_of_getElem? (i := 2) rfl)) (fun _ h9 => h9) rfl dX0_tryWith_106 ?_
  refine lv_iconst (v := 2) hx hb dX0_tryWith_109 (by decide) ?_
  refine va_iald (f := fb6) (n := 4) hx hb hK hP kb6 tb6 e_18 ub6 (vp_in_iff.mpr (by decide)) dX0_tryWith_110 ?_
  refine lv_imul hx hb dX0_tryWith_111 ?_
  refine tp_i (y := nI (c9_4 * mP 2)) (mq (h6 2 (by omega)) (by omega)) ?_
  refine lv_iadd hx hb dX0_tryWith_112 ?_
  refine tp_i (y := nI (((a * mP 0) + (b * mP 1)) + (c9_4 * mP 2))) (nI_add ((a * mP 0) + (b * mP 1)) (c9_4 * mP 2)) ?_
  refine lv_iload hx hb dX0_tryWith_113 (lv_at hl 0 rfl) ?_
  refine lv_aload_n hx hb dX0_tryWith_115 rfl (lv_at hl 8 rfl) ?_
  refine va_get (D := D) (ci := 0) (v := .ref b6) (C := RX0) (T := TX0) (N := 14) hx hb hts hin0 hown hK hP kbl e_13 rfl 6 (by decide) (hts (.fieldLink RX0 27 "HoneyHouse$Blender" "prices" "[I") (List.mem_of_getElem? (i := 2) rfl)) (fun _ h9 => h9) rfl dX0_tryWith_116 ?_
  refine lv_iconst (v := 3) hx hb dX0_tryWith_119 (by decide) ?_
  refine va_iald (f := fb6) (n := 4) hx hb hK hP kb6 tb6 e_18 ub6 (vp_in_iff.mpr (by decide)) dX0_tryWith_120 ?_
  refine lv_imul hx hb dX0_tryWith_121 ?_
  refine tp_i (y := nI ((((pm - a) - b) - c9_4) * mP 3)) (mq (h6 3 (by omega)) (by omega)) ?_
  refine lv_iadd hx hb dX0_tryWith_122 ?_
  refine tp_i (y := nI ((((a * mP 0) + (b * mP 1)) + (c9_4 * mP 2)) + ((((pm - a) - b) - c9_4) * mP 3))) (nI_add (((a * mP 0) + (b * mP 1)) + (c9_4 * mP 2)) ((((pm - a) - b) - c9_4) * mP 3)) ?_
  refine tp_i (y := nI (mix mP pm a b c9_4)) (rfl) ?_
  have hmp : mix mP pm a b c9_4 ≤ pm * 10000 := mix_le hPb (by omega)
  refine lv_istore (lv' := [(9, .int (nI (mix mP pm a b c9_4))), (8, .int (nI (((pm - a) - b) - c9_4))), (7, .int (nI c9_4)), (6, .int (nI ((a * mC 0) + (b * mC 1)))), (5, .int (nI ((a * mW 0) + (b * mW 1)))), (4, .int (nI ((a * mP 0) + (b * mP 1)))), (3, .int (nI ((pm - a) - b))), (2, .int (nI b)), (1, .int (nI a)), (0, .ref bl)]) hx hb dX0_tryWith_123 hl (by decide) rfl (fun ls hl => ?_)
  rcases hs_9 with ⟨hv_53, hN_52⟩ | ⟨x_44, y_45, z_46, hS_47, hv_53, h_48, h_49, h_50, h_51⟩
  · refine lv_aload_n hx hb dX0_tryWith_125 rfl (lv_at hl 9 rfl) ?_
    refine va_get (D := D) (ci := 0) (v := .int y9_5) (C := RX0) (T := TX0) (N := 14) hx hb hts hin0 hown hK hP kbl e_13 rfl 9 (by decide) (hts (.fieldLink RX0 55 "HoneyHouse$Blender" "bestPrice" "I") (List.mem_of_getElem? (i := 13) rfl)) (fun _ h9 => h9) rfl dX0_tryWith_126 ?_
    refine tp_i (y := (-2)) (hv_53) ?_
    refine lv_bipush (v := (-2)) hx hb dX0_tryWith_129 (by decide) ?_
    refine lv_icmp_eq (tgt := 143) hx hb dX0_tryWith_131 (by decide) (fun c_54 => ?_) (fun c_54 => absurd (by decide) c_54)
    refine lv_aload_n hx hb dX0_tryWith_143 rfl (lv_at hl 9 rfl) ?_
    refine lv_iload hx hb dX0_tryWith_144 (lv_at hl 4 rfl) ?_
    refine lv_iload hx hb dX0_tryWith_146 (lv_at hl 2 rfl) ?_
    refine lv_aload_n hx hb dX0_tryWith_148 rfl (lv_at hl 9 rfl) ?_
    refine va_get (D := D) (ci := 0) (v := .ref b4) (C := RX0) (T := TX0) (N := 14) hx hb hts hin0 hown hK hP kbl e_13 rfl 4 (by decide) (hts (.fieldLink RX0 21 "HoneyHouse$Blender" "waters" "[I") (List.mem_of_getElem? (i := 3) rfl)) (fun _ h9 => h9) rfl dX0_tryWith_149 ?_
    refine lv_iconst (v := 2) hx hb dX0_tryWith_152 (by decide) ?_
    refine va_iald (f := fb4) (n := 4) hx hb hK hP kb4 tb4 e_16 ub4 (vp_in_iff.mpr (by decide)) dX0_tryWith_153 ?_
    refine lv_imul hx hb dX0_tryWith_154 ?_
    refine tp_i (y := nI (c9_4 * mW 2)) (mq (h4 2 (by omega)) (by omega)) ?_
    refine lv_iadd hx hb dX0_tryWith_155 ?_
    refine tp_i (y := nI (((a * mW 0) + (b * mW 1)) + (c9_4 * mW 2))) (nI_add ((a * mW 0) + (b * mW 1)) (c9_4 * mW 2)) ?_
    refine lv_iload hx hb dX0_tryWith_156 (lv_at hl 1 rfl) ?_
    refine lv_aload_n hx hb dX0_tryWith_158 rfl (lv_at hl 9 rfl) ?_
    refine va_get (D := D) (ci := 0) (v := .ref b4) (C := RX0) (T := TX0) (N := 14) hx hb hts hin0 hown hK hP kbl e_13 rfl 4 (by decide) (hts (.fieldLink RX0 21 "HoneyHouse$Blender" "waters" "[I") (List.mem_of_getElem? (i := 3) rfl)) (fun _ h9 => h9) rfl dX0_tryWith_159 ?_
    refine lv_iconst (v := 3) hx hb dX0_tryWith_162 (by decide) ?_
    refine va_iald (f := fb4) (n := 4) hx hb hK hP kb4 tb4 e_16 ub4 (vp_in_iff.mpr (by decide)) dX0_tryWith_163 ?_
    refine lv_imul hx hb dX0_tryWith_164 ?_
    refine tp_i (y := nI ((((pm - a) - b) - c9_4) * mW 3)) (mq (h4 3 (by omega)) (by omega)) ?_
    refine lv_iadd hx hb dX0_tryWith_165 ?_
    refine tp_i (y := nI ((((a * mW 0) + (b * mW 1)) + (c9_4 * mW 2)) + ((((pm - a) - b) - c9_4) * mW 3))) (nI_add (((a * mW 0) + (b * mW 1)) + (c9_4 * mW 2)) ((((pm - a) - b) - c9_4) * mW 3)) ?_
    refine tp_i (y := nI (mix mW pm a b c9_4)) (rfl) ?_
    refine lv_iload hx hb dX0_tryWith_166 (lv_at hl 3 rfl) ?_
    refine lv_iload hx hb dX0_tryWith_168 (lv_at hl 2 rfl) ?_
    refine lv_aload_n hx hb dX0_tryWith_170 rfl (lv_at hl 9 rfl) ?_
    refine va_get (D := D) (ci := 0) (v := .ref b5) (C := RX0) (T := TX0) (N := 14) hx hb hts hin0 hown hK hP kbl e_13 rfl 5 (by decide) (hts (.fieldLink RX0 24 "HoneyHouse$Blender" "colours" "[I") (List.mem_of_getElem? (i := 4) rfl)) (fun _ h9 => h9) rfl dX0_tryWith_171 ?_
    refine lv_iconst (v := 2) hx hb dX0_tryWith_174 (by decide) ?_
    refine va_iald (f := fb5) (n := 4) hx hb hK hP kb5 tb5 e_17 ub5 (vp_in_iff.mpr (by decide)) dX0_tryWith_175 ?_
    refine lv_imul hx hb dX0_tryWith_176 ?_
    refine tp_i (y := nI (c9_4 * mC 2)) (mq (h5 2 (by omega)) (by omega)) ?_
    refine lv_iadd hx hb dX0_tryWith_177 ?_
    refine tp_i (y := nI (((a * mC 0) + (b * mC 1)) + (c9_4 * mC 2))) (nI_add ((a * mC 0) + (b * mC 1)) (c9_4 * mC 2)) ?_
    refine lv_iload hx hb dX0_tryWith_178 (lv_at hl 1 rfl) ?_
    refine lv_aload_n hx hb dX0_tryWith_180 rfl (lv_at hl 9 rfl) ?_
    refine va_get (D := D) (ci := 0) (v := .ref b5) (C := RX0) (T := TX0) (N := 14) hx hb hts hin0 hown hK hP kbl e_13 rfl 5 (by decide) (hts (.fieldLink RX0 24 "HoneyHouse$Blender" "colours" "[I") (List.mem_of_getElem? (i := 4) rfl)) (fun _ h9 => h9) rfl dX0_tryWith_181 ?_
    refine lv_iconst (v := 3) hx hb dX0_tryWith_184 (by decide) ?_
    refine va_iald (f := fb5) (n := 4) hx hb hK hP kb5 tb5 e_17 ub5 (vp_in_iff.mpr (by decide)) dX0_tryWith_185 ?_
    refine lv_imul hx hb dX0_tryWith_186 ?_
    refine tp_i (y := nI ((((pm - a) - b) - c9_4) * mC 3)) (mq (h5 3 (by omega)) (by omega)) ?_
    refine lv_iadd hx hb dX0_tryWith_187 ?_
    refine tp_i (y := nI ((((a * mC 0) + (b * mC 1)) + (c9_4 * mC 2)) + ((((pm - a) - b) - c9_4) * mC 3))) (nI_add (((a * mC 0) + (b * mC 1)) + (c9_4 * mC 2)) ((((pm - a) - b) - c9_4) * mC 3)) ?_
    refine tp_i (y := nI (mix mC pm a b c9_4)) (rfl) ?_
    refine vp_callSi (W.runV (As := [.int (nI (mix mW pm a b c9_4)), .int (nI (mix mC pm a b c9_4))]) (rest := []) ⟨hx, hb, hml, hown, hts⟩ (s_isWithin l D ws_10 tys bl kbl b0 b2 b3 b4 b5 b6 b7 b1 b8 y9_5 (nI pm) (nI (pm * 10 * wa)) (nI (pm * 10 * le)) (nI (pm * 10 * mo)) (nI (mix mW pm a b c9_4)) (nI (mix mC pm a b c9_4)) e_13) (cwV 2 hts gX0_tryWith_X0_isWithin rfl rfl rfl (by decide +kernel) ⟨Nat.le_of_ble_eq_true rfl, Nat.le_of_ble_eq_true rfl⟩) ⟨fun a U g mk q => ⟨q.1, q.2.1, va_K.moved (u := U) (U := U.calling g mk a) (Vm.Alike.refl U.vm) q.2.2⟩, va_recv hK hP (ci := 0) (q0 := kbl) rfl e_13, fun U hU hW => ⟨rfl, by rw [hU]; exact hP, va_K.moved hW.alike hK⟩⟩ rfl rfl hl.1 rfl (lv_room (Nat.le_of_ble_eq_true rfl)) dX0_tryWith_188 ⟨Nat.le_of_ble_eq_true rfl, Nat.le_of_ble_eq_true rfl⟩) (fun r_55 k_56 => ?_)
    have hmw : mix mW pm a b c9_4 ≤ pm * 3000 := mix_le hWb (by omega)
    have hmc : mix mC pm a b c9_4 ≤ pm * 1400 := mix_le hCb (by omega)
    have iw_57 := iw_n (x := mix mW pm a b c9_4) (y := mix mC pm a b c9_4) (A := pm * 10 * wa) (B := pm * 10 * le) (C := pm * 10 * mo) (by omega) (by omega) (by omega) (by omega) (by omega)
    rcases k_56 with ⟨rfl, p_59⟩ | ⟨rfl, o_58⟩
    · have hF : (bF mM mW mC pm wa le mo) a b c9_4 := ⟨⟨ha, hb9, by omega, by omega, by omega⟩, iw_57.1 p_59⟩
      refine lv_if_eq (tgt := 230) hx hb dX0_tryWith_191 (by decide) (fun c_60 => absurd c_60 (by decide)) (fun c_60 => ?_)
      refine lv_aload_n hx hb dX0_tryWith_194 rfl (lv_at hl 9 rfl) ?_
      refine lv_iload hx hb dX0_tryWith_195 (lv_at hl 0 rfl) ?_
      refine va_put (D := D) (ci := 0) (v := .int (nI (mix mP pm a b c9_4))) (ty := .int) (C := RX0) (T := TX0) (N := 14) hx hb hts hin0 tyX0 tyX0_ok nmX0 hown hK hP hD hS kbl e_13 rfl 9 (by decide) (hts (.fieldLink RX0 55 "HoneyHouse$Blender" "bestPrice" "I") (List.mem_of_getElem? (i := 13) rfl)) (fun _ h9 => h9) rfl (tyX0_ok 9 (by decide)) rfl rfl (Nat.le_of_ble_eq_true rfl) dX0_tryWith_197 (fun H locs hP hD hS => ?_)
      have hP : va_P D vwCl (ws_10.set kbl (bl, .inr (0, [.ref b0, .int b1, .ref b2, .ref b3, .ref b4, .ref b5, .ref b6, .ref b7, .int b8, .int (nI (mix mP pm a b c9_4)), .int (nI pm), .int (nI (pm * 10 * wa)), .int (nI (pm * 10 * le)), .int (nI (pm * 10 * mo))]))) H := hP
      have hD : va_D A (ws_10.set kbl (bl, .inr (0, [.ref b0, .int b1, .ref b2, .ref b3, .ref b4, .ref b5, .ref b6, .ref b7, .int b8, .int (nI (mix mP pm a b c9_4)), .int (nI pm), .int (nI (pm * 10 * wa)), .int (nI (pm * 10 * le)), .int (nI (pm * 10 * mo))]))) := hD
      have hm_62 : sm ρ [0] ws_10 (ws_10.set kbl (bl, .inr (0, [.ref b0, .int b1, .ref b2, .ref b3, .ref b4, .ref b5, .ref b6, .ref b7, .int b8, .int (nI (mix mP pm a b c9_4)), .int (nI pm), .int (nI (pm * 10 * wa)), .int (nI (pm * 10 * le)), .int (nI (pm * 10 * mo))]))) := sm.flds e_13 (smF.c (smV.rf _) (smF.c (smV.rf _) (smF.c (smV.rf _) (smF.c (smV.rf _) (smF.c (smV.rf _) (smF.c (smV.rf _) (smF.c (smV.rf _) (smF.c (smV.rf _) (smF.c (smV.rf _) (smF.c (smV.i _ _) (smF.c (smV.rf _) (smF.c (smV.rf _) (smF.c (smV.rf _) (smF.c (smV.rf _) (rfl))))))))))))))) (List.mem_singleton.mpr rfl) w_kbl
      have e_63 : (ws_10.set kbl (bl, .inr (0, [.ref b0, .int b1, .ref b2, .ref b3, .ref b4, .ref b5, .ref b6, .ref b7, .int b8, .int (nI (mix mP pm a b c9_4)), .int (nI pm), .int (nI (pm * 10 * wa)), .int (nI (pm * 10 * le)), .int (nI (pm * 10 * mo))])))[kbl]? = some (bl, .inr (0, [.ref b0, .int b1, .ref b2, .ref b3, .ref b4, .ref b5, .ref b6, .ref b7, .int b8, .int (nI (mix mP pm a b c9_4)), .int (nI pm), .int (nI (pm * 10 * wa)), .int (nI (pm * 10 * le)), .int (nI (pm * 10 * mo))])) := wset_self e_13
      have e_64 := set_n (z := (bl, .inr (0, [.ref b0, .int b1, .ref b2, .ref b3, .ref b4, .ref b5, .ref b6, .ref b7, .int b8, .int (nI (mix mP pm a b c9_4)), .int (nI pm), .int (nI (pm * 10 * wa)), .int (nI (pm * 10 * le)), .int (nI (pm * 10 * mo))]))) e_15 (pl_ne e_15 e_13 (by intro h9; simp at h9))
      have e_65 := set_n (z := (bl, .inr (0, [.ref b0, .int b1, .ref b2, .ref b3, .ref b4, .ref b5, .ref b6, .ref b7, .int b8, .int (nI (mix mP pm a b c9_4)), .int (nI pm), .int (nI (pm * 10 * wa)), .int (nI (pm * 10 * le)), .int (nI (pm * 10 * mo))]))) e_16 (pl_ne e_16 e_13 (by intro h9; simp at h9))
      have e_66 := set_n (z := (bl, .inr (0, [.ref b0, .int b1, .ref b2, .ref b3, .ref b4, .ref b5, .ref b6, .ref b7, .int b8, .int (nI (mix mP pm a b c9_4)), .int (nI pm), .int (nI (pm * 10 * wa)), .int (nI (pm * 10 * le)), .int (nI (pm * 10 * mo))]))) e_17 (pl_ne e_17 e_13 (by intro h9; simp at h9))
      have e_67 := set_n (z := (bl, .inr (0, [.ref b0, .int b1, .ref b2, .ref b3, .ref b4, .ref b5, .ref b6, .ref b7, .int b8, .int (nI (mix mP pm a b c9_4)), .int (nI pm), .int (nI (pm * 10 * wa)), .int (nI (pm * 10 * le)), .int (nI (pm * 10 * mo))]))) e_18 (pl_ne e_18 e_13 (by intro h9; simp at h9))
      have e_68 := set_n (z := (bl, .inr (0, [.ref b0, .int b1, .ref b2, .ref b3, .ref b4, .ref b5, .ref b6, .ref b7, .int b8, .int (nI (mix mP pm a b c9_4)), .int (nI pm), .int (nI (pm * 10 * wa)), .int (nI (pm * 10 * le)), .int (nI (pm * 10 * mo))]))) e_14 (pl_ne e_14 e_13 (by intro h9; simp at h9))
      generalize ws_10.set kbl (bl, .inr (0, [.ref b0, .int b1, .ref b2, .ref b3, .ref b4, .ref b5, .ref b6, .ref b7, .int b8, .int (nI (mix mP pm a b c9_4)), .int (nI pm), .int (nI (pm * 10 * wa)), .int (nI (pm * 10 * le)), .int (nI (pm * 10 * mo))])) = ws_61 at hP hD hm_62 e_63 e_64 e_65 e_66 e_67 e_68
      have hsm := hsm.tr (hm_62.mono (by decide))
      have hlp_12 := hlp_12.tr (hm_62.mono (by decide))
      refine lv_aload_n hx hb dX0_tryWith_200 rfl (lv_at hl 9 rfl) ?_
      refine va_get (D := D) (ci := 0) (v := .ref b7) (C := RX0) (T := TX0) (N := 14) hx hb hts hin0 hown hK hP kbl e_63 rfl 7 (by decide) (hts (.fieldLink RX0 30 "HoneyHouse$Blender" "best" "[I") (List.mem_of_getElem? (i := 14) rfl)) (fun _ h9 => h9) rfl dX0_tryWith_201 ?_
      refine lv_iconst (v := 0) hx hb dX0_tryWith_204 (by decide) ?_
      refine lv_iload_n hx hb dX0_tryWith_205 rfl (lv_at hl 8 rfl) ?_
      refine va_iast (f := f7_6) (n := 4) hx hb hK hP hD hS kb7 tb7 e_68 ub7 (vp_in_iff.mpr (by decide)) dX0_tryWith_206 (fun H locs hP hD hS => ?_)
      have hm_70 : sm ρ [] ws_61 (ws_61.set kb7 (b7, .inl (cb7, 4, .inl (upd f7_6 (0 : Int32).toNatClampNeg (nI a))))) := sm.ints e_68 w_kb7
      have e_71 : (ws_61.set kb7 (b7, .inl (cb7, 4, .inl (upd f7_6 (0 : Int32).toNatClampNeg (nI a)))))[kb7]? = some (b7, .inl (cb7, 4, .inl (upd f7_6 (0 : Int32).toNatClampNeg (nI a)))) := wset_self e_68
      have e_72 := set_n (z := (b7, .inl (cb7, 4, .inl (upd f7_6 (0 : Int32).toNatClampNeg (nI a))))) e_63 (pl_ne e_63 e_68 (by intro h9; simp at h9))
      have e_73 := set_n (z := (b7, .inl (cb7, 4, .inl (upd f7_6 (0 : Int32).toNatClampNeg (nI a))))) e_64 (show kb3 ≠ kb7 by omega)
      have e_74 := set_n (z := (b7, .inl (cb7, 4, .inl (upd f7_6 (0 : Int32).toNatClampNeg (nI a))))) e_65 (show kb4 ≠ kb7 by omega)
      have e_75 := set_n (z := (b7, .inl (cb7, 4, .inl (upd f7_6 (0 : Int32).toNatClampNeg (nI a))))) e_66 (show kb5 ≠ kb7 by omega)
      have e_76 := set_n (z := (b7, .inl (cb7, 4, .inl (upd f7_6 (0 : Int32).toNatClampNeg (nI a))))) e_67 (show kb6 ≠ kb7 by omega)
      generalize ws_61.set kb7 (b7, .inl (cb7, 4, .inl (upd f7_6 (0 : Int32).toNatClampNeg (nI a)))) = ws_69 at hP hD hm_70 e_71 e_72 e_73 e_74 e_75 e_76
      have hsm := hsm.tr (hm_70.mono (fun _ h9 => absurd h9 List.not_mem_nil))
      have hlp_12 := hlp_12.tr (hm_70.mono (fun _ h9 => absurd h9 List.not_mem_nil))
      obtain ⟨f_77, hf_78⟩ : ∃ g9, g9 = upd f7_6 (0 : Int32).toNatClampNeg (nI a) := ⟨_, rfl⟩
      rw [← hf_78] at e_71
      refine lv_aload_n hx hb dX0_tryWith_207 rfl (lv_at hl 9 rfl) ?_
      refine va_get (D := D) (ci := 0) (v := .ref b7) (C := RX0) (T := TX0) (N := 14) hx hb hts hin0 hown hK hP kbl e_72 rfl 7 (by decide) (hts (.fieldLink RX0 30 "HoneyHouse$Blender" "best" "[I") (List.mem_of_getElem? (i := 14) rfl)) (fun _ h9 => h9) rfl dX0_tryWith_208 ?_
      refine lv_iconst (v := 1) hx hb dX0_tryWith_211 (by decide) ?_
      refine lv_iload_n hx hb dX0_tryWith_212 rfl (lv_at hl 7 rfl) ?_
      refine va_iast (f := f_77) (n := 4) hx hb hK hP hD hS kb7 tb7 e_71 ub7 (vp_in_iff.mpr (by decide)) dX0_tryWith_213 (fun H locs hP hD hS => ?_)
      have hm_80 : sm ρ [] ws_69 (ws_69.set kb7 (b7, .inl (cb7, 4, .inl (upd f_77 (1 : Int32).toNatClampNeg (nI b))))) := sm.ints e_71 w_kb7
      have e_81 : (ws_69.set kb7 (b7, .inl (cb7, 4, .inl (upd f_77 (1 : Int32).toNatClampNeg (nI b)))))[kb7]? = some (b7, .inl (cb7, 4, .inl (upd f_77 (1 : Int32).toNatClampNeg (nI b)))) := wset_self e_71
      have e_82 := set_n (z := (b7, .inl (cb7, 4, .inl (upd f_77 (1 : Int32).toNatClampNeg (nI b))))) e_72 (pl_ne e_72 e_71 (by intro h9; simp at h9))
      have e_83 := set_n (z := (b7, .inl (cb7, 4, .inl (upd f_77 (1 : Int32).toNatClampNeg (nI b))))) e_73 (show kb3 ≠ kb7 by omega)
      have e_84 := set_n (z := (b7, .inl (cb7, 4, .inl (upd f_77 (1 : Int32).toNatClampNeg (nI b))))) e_74 (show kb4 ≠ kb7 by omega)
      have e_85 := set_n (z := (b7, .inl (cb7, 4, .inl (upd f_77 (1 : Int32).toNatClampNeg (nI b))))) e_75 (show kb5 ≠ kb7 by omega)
      have e_86 := set_n (z := (b7, .inl (cb7, 4, .inl (upd f_77 (1 : Int32).toNatClampNeg (nI b))))) e_76 (show kb6 ≠ kb7 by omega)
      generalize ws_69.set kb7 (b7, .inl (cb7, 4, .inl (upd f_77 (1 : Int32).toNatClampNeg (nI b)))) = ws_79 at hP hD hm_80 e_81 e_82 e_83 e_84 e_85 e_86
      have hsm := hsm.tr (hm_80.mono (fun _ h9 => absurd h9 List.not_mem_nil))
      have hlp_12 := hlp_12.tr (hm_80.mono (fun _ h9 => absurd h9 List.not_mem_nil))
      obtain ⟨f_87, hf_88⟩ : ∃ g9, g9 = upd f_77 (1 : Int32).toNatClampNeg (nI b) := ⟨_, rfl⟩
      rw [← hf_88] at e_81
      refine lv_aload_n hx hb dX0_tryWith_214 rfl (lv_at hl 9 rfl) ?_
      refine va_get (D := D) (ci := 0) (v := .ref b7) (C := RX0) (T := TX0) (N := 14) hx hb hts hin0 hown hK hP kbl e_82 rfl 7 (by decide) (hts (.fieldLink RX0 30 "HoneyHouse$Blender" "best" "[I") (List.mem_of_getElem? (i := 14) rfl)) (fun _ h9 => h9) rfl dX0_tryWith_215 ?_
      refine lv_iconst (v := 2) hx hb dX0_tryWith_218 (by decide) ?_
      refine lv_iload hx hb dX0_tryWith_219 (lv_at hl 2 rfl) ?_
      refine va_iast (f := f_87) (n := 4) hx hb hK hP hD hS kb7 tb7 e_81 ub7 (vp_in_iff.mpr (by decide)) dX0_tryWith_221 (fun H locs hP hD hS => ?_)
      have hm_90 : sm ρ [] ws_79 (ws_79.set kb7 (b7, .inl (cb7, 4, .inl (upd f_87 (2 : Int32).toNatClampNeg (nI c9_4))))) := sm.ints e_81 w_kb7
      have e_91 : (ws_79.set kb7 (b7, .inl (cb7, 4, .inl (upd f_87 (2 : Int32).toNatClampNeg (nI c9_4)))))[kb7]? = some (b7, .inl (cb7, 4, .inl (upd f_87 (2 : Int32).toNatClampNeg (nI c9_4)))) := wset_self e_81
      have e_92 := set_n (z := (b7, .inl (cb7, 4, .inl (upd f_87 (2 : Int32).toNatClampNeg (nI c9_4))))) e_82 (pl_ne e_82 e_81 (by intro h9; simp at h9))
      have e_93 := set_n (z := (b7, .inl (cb7, 4, .inl (upd f_87 (2 : Int32).toNatClampNeg (nI c9_4))))) e_83 (show kb3 ≠ kb7 by omega)
      have e_94 := set_n (z := (b7, .inl (cb7, 4, .inl (upd f_87 (2 : Int32).toNatClampNeg (nI c9_4))))) e_84 (show kb4 ≠ kb7 by omega)
      have e_95 := set_n (z := (b7, .inl (cb7, 4, .inl (upd f_87 (2 : Int32).toNatClampNeg (nI c9_4))))) e_85 (show kb5 ≠ kb7 by omega)
      have e_96 := set_n (z := (b7, .inl (cb7, 4, .inl (upd f_87 (2 : Int32).toNatClampNeg (nI c9_4))))) e_86 (show kb6 ≠ kb7 by omega)
      generalize ws_79.set kb7 (b7, .inl (cb7, 4, .inl (upd f_87 (2 : Int32).toNatClampNeg (nI c9_4)))) = ws_89 at hP hD hm_90 e_91 e_92 e_93 e_94 e_95 e_96
      have hsm := hsm.tr (hm_90.mono (fun _ h9 => absurd h9 List.not_mem_nil))
      have hlp_12 := hlp_12.tr (hm_90.mono (fun _ h9 => absurd h9 List.not_mem_nil))
      obtain ⟨f_97, hf_98⟩ : ∃ g9, g9 = upd f_87 (2 : Int32).toNatClampNeg (nI c9_4) := ⟨_, rfl⟩
      rw [← hf_98] at e_91
      refine lv_aload_n hx hb dX0_tryWith_222 rfl (lv_at hl 9 rfl) ?_
      refine va_get (D := D) (ci := 0) (v := .ref b7) (C := RX0) (T := TX0) (N := 14) hx hb hts hin0 hown hK hP kbl e_92 rfl 7 (by decide) (hts (.fieldLink RX0 30 "HoneyHouse$Blender" "best" "[I") (List.mem_of_getElem? (i := 14) rfl)) (fun _ h9 => h9) rfl dX0_tryWith_223 ?_
      refine lv_iconst (v := 3) hx hb dX0_tryWith_226 (by decide) ?_
      refine lv_iload hx hb dX0_tryWith_227 (lv_at hl 1 rfl) ?_
      refine va_iast (f := f_97) (n := 4) hx hb hK hP hD hS kb7 tb7 e_91 ub7 (vp_in_iff.mpr (by decide)) dX0_tryWith_229 (fun H locs hP hD hS => ?_)
      have hm_100 : sm ρ [] ws_89 (ws_89.set kb7 (b7, .inl (cb7, 4, .inl (upd f_97 (3 : Int32).toNatClampNeg (nI (((pm - a) - b) - c9_4)))))) := sm.ints e_91 w_kb7
      have e_101 : (ws_89.set kb7 (b7, .inl (cb7, 4, .inl (upd f_97 (3 : Int32).toNatClampNeg (nI (((pm - a) - b) - c9_4))))))[kb7]? = some (b7, .inl (cb7, 4, .inl (upd f_97 (3 : Int32).toNatClampNeg (nI (((pm - a) - b) - c9_4))))) := wset_self e_91
      have e_102 := set_n (z := (b7, .inl (cb7, 4, .inl (upd f_97 (3 : Int32).toNatClampNeg (nI (((pm - a) - b) - c9_4)))))) e_92 (pl_ne e_92 e_91 (by intro h9; simp at h9))
      have e_103 := set_n (z := (b7, .inl (cb7, 4, .inl (upd f_97 (3 : Int32).toNatClampNeg (nI (((pm - a) - b) - c9_4)))))) e_93 (show kb3 ≠ kb7 by omega)
      have e_104 := set_n (z := (b7, .inl (cb7, 4, .inl (upd f_97 (3 : Int32).toNatClampNeg (nI (((pm - a) - b) - c9_4)))))) e_94 (show kb4 ≠ kb7 by omega)
      have e_105 := set_n (z := (b7, .inl (cb7, 4, .inl (upd f_97 (3 : Int32).toNatClampNeg (nI (((pm - a) - b) - c9_4)))))) e_95 (show kb5 ≠ kb7 by omega)
      have e_106 := set_n (z := (b7, .inl (cb7, 4, .inl (upd f_97 (3 : Int32).toNatClampNeg (nI (((pm - a) - b) - c9_4)))))) e_96 (show kb6 ≠ kb7 by omega)
      generalize ws_89.set kb7 (b7, .inl (cb7, 4, .inl (upd f_97 (3 : Int32).toNatClampNeg (nI (((pm - a) - b) - c9_4))))) = ws_99 at hP hD hm_100 e_101 e_102 e_103 e_104 e_105 e_106
      have hsm := hsm.tr (hm_100.mono (fun _ h9 => absurd h9 List.not_mem_nil))
      have hlp_12 := hlp_12.tr (hm_100.mono (fun _ h9 => absurd h9 List.not_mem_nil))
      obtain ⟨f_107, hf_108⟩ : ∃ g9, g9 = upd f_97 (3 : Int32).toNatClampNeg (nI (((pm - a) - b) - c9_4)) := ⟨_, rfl⟩
      rw [← hf_108] at e_101
      refine lv_iinc (v := nI (c9_4 + 1)) (lv' := [(7, .int (nI (c9_4 + 1))), (9, .int (nI (mix mP pm a b c9_4))), (8, .int (nI (((pm - a) - b) - c9_4))), (6, .int (nI ((a * mC 0) + (b * mC 1)))), (5, .int (nI ((a * mW 0) + (b * mW 1)))), (4, .int (nI ((a * mP 0) + (b * mP 1)))), (3, .int (nI ((pm - a) - b))), (2, .int (nI b)), (1, .int (nI a)), (0, .ref bl)]) hx hb dX0_tryWith_230 hl (k := 2) rfl (nI_add c9_4 1) (by decide) rfl (fun ls hl => ?_)
      refine lv_goto (tgt := 80) hx hb dX0_tryWith_233 (by decide) ?_
      exact ih_3 (c9_4 + 1, nI (mix mP pm a b c9_4), f_107) ws_99 _ _ ls (by show pm + 1 - (c9_4 + 1) < pm + 1 - c9_4; omega) ⟨hlp_12, e_102, e_101, e_103, e_104, e_105, e_106, (show pm - a - b - mM 3 ≤ (c9_4 + 1) from by omega), (show (c9_4 + 1) ≤ pm + 1 from by omega), (show bX (bF mM mW mC pm wa le mo) (mix mP pm) pm (nI (mix mP pm a b c9_4)) f_107 a b (c9_4 + 1) from Or.inr ⟨a, b, c9_4, bN_new hN_52 hF, rfl, (up4 (f := f7_6) hf_78 hf_88 hf_98 hf_108).1, (up4 (f := f7_6) hf_78 hf_88 hf_98 hf_108).2.1, (up4 (f := f7_6) hf_78 hf_88 hf_98 hf_108).2.2.1, (up4 (f := f7_6) hf_78 hf_88 hf_98 hf_108).2.2.2⟩)⟩ hP hD hS (lv_sub hl [0, 3, 4, 5, 6, 7, 8, 9] rfl)
    have hF : ¬ (bF mM mW mC pm wa le mo) a b c9_4 := fun h9 => iw_57.2 o_58 h9.2
    refine lv_if_eq (tgt := 230) hx hb dX0_tryWith_191 (by decide) (fun c_109 => ?_) (fun c_109 => absurd (by decide) c_109)
    refine lv_iinc (v := nI (c9_4 + 1)) (lv' := [(7, .int (nI (c9_4 + 1))), (9, .int (nI (mix mP pm a b c9_4))), (8, .int (nI (((pm - a) - b) - c9_4))), (6, .int (nI ((a * mC 0) + (b * mC 1)))), (5, .int (nI ((a * mW 0) + (b * mW 1)))), (4, .int (nI ((a * mP 0) + (b * mP 1)))), (3, .int (nI ((pm - a) - b))), (2, .int (nI b)), (1, .int (nI a)), (0, .ref bl)]) hx hb dX0_tryWith_230 hl (k := 2) rfl (nI_add c9_4 1) (by decide) rfl (fun ls hl => ?_)
    refine lv_goto (tgt := 80) hx hb dX0_tryWith_233 (by decide) ?_
    exact ih_3 (c9_4 + 1, y9_5, f7_6) ws_10 _ _ ls (by show pm + 1 - (c9_4 + 1) < pm + 1 - c9_4; omega) ⟨hlp_12, e_13, e_14, e_15, e_16, e_17, e_18, (show pm - a - b - mM 3 ≤ (c9_4 + 1) from by omega), (show (c9_4 + 1) ≤ pm + 1 from by omega), (show bX (bF mM mW mC pm wa le mo) (mix mP pm) pm y9_5 f7_6 a b (c9_4 + 1) from Or.inl ⟨hv_53, bN_no hN_52 hF⟩)⟩ hP hD hS (lv_sub hl [0, 3, 4, 5, 6, 7, 8, 9] rfl)
  have hmq : mix mP pm x_44 y_45 z_46 ≤ pm * 10000 := mix_le hPb hS_47.2.1.1.2.2.2.1
  refine lv_aload_n hx hb dX0_tryWith_125 rfl (lv_at hl 9 rfl) ?_
  refine va_get (D := D) (ci := 0) (v := .int y9_5) (C := RX0) (T := TX0) (N := 14) hx hb hts hin0 hown hK hP kbl e_13 rfl 9 (by decide) (hts (.fieldLink RX0 55 "HoneyHouse$Blender" "bestPrice" "I") (List.mem_of_getElem? (i := 13) rfl)) (fun _ h9 => h9) rfl dX0_tryWith_126 ?_
  refine tp_i (y := nI (mix mP pm x_44 y_45 z_46)) (hv_53) ?_
  refine lv_bipush (v := (-2)) hx hb dX0_tryWith_129 (by decide) ?_
  refine lv_icmp_eq (tgt := 143) hx hb dX0_tryWith_131 (by decide) (fun c_110 => absurd c_110 (nI_m2 (by omega))) (fun c_110 => ?_)
  refine lv_iload hx hb dX0_tryWith_134 (lv_at hl 0 rfl) ?_
  refine lv_aload_n hx hb dX0_tryWith_136 rfl (lv_at hl 9 rfl) ?_
  refine va_get (D := D) (ci := 0) (v := .int y9_5) (C := RX0) (T := TX0) (N := 14) hx hb hts hin0 hown hK hP kbl e_13 rfl 9 (by decide) (hts (.fieldLink RX0 55 "HoneyHouse$Blender" "bestPrice" "I") (List.mem_of_getElem? (i := 13) rfl)) (fun _ h9 => h9) rfl dX0_tryWith_137 ?_
  refine tp_i (y := nI (mix mP pm x_44 y_45 z_46)) (hv_53) ?_
  refine lv_icmp_ge (tgt := 230) hx hb dX0_tryWith_140 (by decide) (fun c_111 => ?_) (fun c_111 => ?_)
  · have d_112 := n_le (a := mix mP pm x_44 y_45 z_46) (b := mix mP pm a b c9_4) (by omega) (by omega) c_111
    refine lv_iinc (v := nI (c9_4 + 1)) (lv' := [(7, .int (nI (c9_4 + 1))), (9, .int (nI (mix mP pm a b c9_4))), (8, .int (nI (((pm - a) - b) - c9_4))), (6, .int (nI ((a * mC 0) + (b * mC 1)))), (5, .int (nI ((a * mW 0) + (b * mW 1)))), (4, .int (nI ((a * mP 0) + (b * mP 1)))), (3, .int (nI ((pm - a) - b))), (2, .int (nI b)), (1, .int (nI a)), (0, .ref bl)]) hx hb dX0_tryWith_230 hl (k := 2) rfl (nI_add c9_4 1) (by decide) rfl (fun ls hl => ?_)
    refine lv_goto (tgt := 80) hx hb dX0_tryWith_233 (by decide) ?_
    exact ih_3 (c9_4 + 1, y9_5, f7_6) ws_10 _ _ ls (by show pm + 1 - (c9_4 + 1) < pm + 1 - c9_4; omega) ⟨hlp_12, e_13, e_14, e_15, e_16, e_17, e_18, (show pm - a - b - mM 3 ≤ (c9_4 + 1) from by omega), (show (c9_4 + 1) ≤ pm + 1 from by omega), (show bX (bF mM mW mC pm wa le mo) (mix mP pm) pm y9_5 f7_6 a b (c9_4 + 1) from Or.inr ⟨x_44, y_45, z_46, bS_ge hS_47 (by omega), hv_53, h_48, h_49, h_50, h_51⟩)⟩ hP hD hS (lv_sub hl [0, 3, 4, 5, 6, 7, 8, 9] rfl)
  have d_113 := n_nle (a := mix mP pm x_44 y_45 z_46) (b := mix mP pm a b c9_4) (by omega) (by omega) c_111
  refine lv_aload_n hx hb dX0_tryWith_143 rfl (lv_at hl 9 rfl) ?_
  refine lv_iload hx hb dX0_tryWith_144 (lv_at hl 4 rfl) ?_
  refine lv_iload hx hb dX0_tryWith_146 (lv_at hl 2 rfl) ?_
  refine lv_aload_n hx hb dX0_tryWith_148 rfl (lv_at hl 9 rfl) ?_
  refine va_get (D := D) (ci := 0) (v := .ref b4) (C := RX0) (T := TX0) (N := 14) hx hb hts hin0 hown hK hP kbl e_13 rfl 4 (by decide) (hts (.fieldLink RX0 21 "HoneyHouse$Blender" "waters" "[I") (List.mem_of_getElem? (i := 3) rfl)) (fun _ h9 => h9) rfl dX0_tryWith_149 ?_
  refine lv_iconst (v := 2) hx hb dX0_tryWith_152 (by decide) ?_
  refine va_iald (f := fb4) (n := 4) hx hb hK hP kb4 tb4 e_16 ub4 (vp_in_iff.mpr (by decide)) dX0_tryWith_153 ?_
  refine lv_imul hx hb dX0_tryWith_154 ?_
  refine tp_i (y := nI (c9_4 * mW 2)) (mq (h4 2 (by omega)) (by omega)) ?_
  refine lv_iadd hx hb dX0_tryWith_155 ?_
  refine tp_i (y := nI (((a * mW 0) + (b * mW 1)) + (c9_4 * mW 2))) (nI_add ((a * mW 0) + (b * mW 1)) (c9_4 * mW 2)) ?_
  refine lv_iload hx hb dX0_tryWith_156 (lv_at hl 1 rfl) ?_
  refine lv_aload_n hx hb dX0_tryWith_158 rfl (lv_at hl 9 rfl) ?_
  refine va_get (D := D) (ci := 0) (v := .ref b4) (C := RX0) (T := TX0) (N := 14) hx hb hts hin0 hown hK hP kbl e_13 rfl 4 (by decide) (hts (.fieldLink RX0 21 "HoneyHouse$Blender" "waters" "[I") (List.mem_of_getElem? (i := 3) rfl)) (fun _ h9 => h9) rfl dX0_tryWith_159 ?_
  refine lv_iconst (v := 3) hx hb dX0_tryWith_162 (by decide) ?_
  refine va_iald (f := fb4) (n := 4) hx hb hK hP kb4 tb4 e_16 ub4 (vp_in_iff.mpr (by decide)) dX0_tryWith_163 ?_
  refine lv_imul hx hb dX0_tryWith_164 ?_
  refine tp_i (y := nI ((((pm - a) - b) - c9_4) * mW 3)) (mq (h4 3 (by omega)) (by omega)) ?_
  refine lv_iadd hx hb dX0_tryWith_165 ?_
  refine tp_i (y := nI ((((a * mW 0) + (b * mW 1)) + (c9_4 * mW 2)) + ((((pm - a) - b) - c9_4) * mW 3))) (nI_add (((a * mW 0) + (b * mW 1)) + (c9_4 * mW 2)) ((((pm - a) - b) - c9_4) * mW 3)) ?_
  refine tp_i (y := nI (mix mW pm a b c9_4)) (rfl) ?_
  refine lv_iload hx hb dX0_tryWith_166 (lv_at hl 3 rfl) ?_
  refine lv_iload hx hb dX0_tryWith_168 (lv_at hl 2 rfl) ?_
  refine lv_aload_n hx hb dX0_tryWith_170 rfl (lv_at hl 9 rfl) ?_
  refine va_get (D := D) (ci := 0) (v := .ref b5) (C := RX0) (T := TX0) (N := 14) hx hb hts hin0 hown hK hP kbl e_13 rfl 5 (by decide) (hts (.fieldLink RX0 24 "HoneyHouse$Blender" "colours" "[I") (List.mem_of_getElem? (i := 4) rfl)) (fun _ h9 => h9) rfl dX0_tryWith_171 ?_
  refine lv_iconst (v := 2) hx hb dX0_tryWith_174 (by decide) ?_
  refine va_iald (f := fb5) (n := 4) hx hb hK hP kb5 tb5 e_17 ub5 (vp_in_iff.mpr (by decide)) dX0_tryWith_175 ?_
  refine lv_imul hx hb dX0_tryWith_176 ?_
  refine tp_i (y := nI (c9_4 * mC 2)) (mq (h5 2 (by omega)) (by omega)) ?_
  refine lv_iadd hx hb dX0_tryWith_177 ?_
  refine tp_i (y := nI (((a * mC 0) + (b * mC 1)) + (c9_4 * mC 2))) (nI_add ((a * mC 0) + (b * mC 1)) (c9_4 * mC 2)) ?_
  refine lv_iload hx hb dX0_tryWith_178 (lv_at hl 1 rfl) ?_
  refine lv_aload_n hx hb dX0_tryWith_180 rfl (lv_at hl 9 rfl) ?_
  refine va_get (D := D) (ci := 0) (v := .ref b5) (C := RX0) (T := TX0) (N := 14) hx hb hts hin0 hown hK hP kbl e_13 rfl 5 (by decide) (hts (.fieldLink RX0 24 "HoneyHouse$Blender" "colours" "[I") (List.mem_of_getElem? (i := 4) rfl)) (fun _ h9 => h9) rfl dX0_tryWith_181 ?_
  refine lv_iconst (v := 3) hx hb dX0_tryWith_184 (by decide) ?_
  refine va_iald (f := fb5) (n := 4) hx hb hK hP kb5 tb5 e_17 ub5 (vp_in_iff.mpr (by decide)) dX0_tryWith_185 ?_
  refine lv_imul hx hb dX0_tryWith_186 ?_
  refine tp_i (y := nI ((((pm - a) - b) - c9_4) * mC 3)) (mq (h5 3 (by omega)) (by omega)) ?_
  refine lv_iadd hx hb dX0_tryWith_187 ?_
  refine tp_i (y := nI ((((a * mC 0) + (b * mC 1)) + (c9_4 * mC 2)) + ((((pm - a) - b) - c9_4) * mC 3))) (nI_add (((a * mC 0) + (b * mC 1)) + (c9_4 * mC 2)) ((((pm - a) - b) - c9_4) * mC 3)) ?_
  refine tp_i (y := nI (mix mC pm a b c9_4)) (rfl) ?_
  refine vp_callSi (W.runV (As := [.int (nI (mix mW pm a b c9_4)), .int (nI (mix mC pm a b c9_4))]) (rest := []) ⟨hx, hb, hml, hown, hts⟩ (s_isWithin l D ws_10 tys bl kbl b0 b2 b3 b4 b5 b6 b7 b1 b8 y9_5 (nI pm) (nI (pm * 10 * wa)) (nI (pm * 10 * le)) (nI (pm * 10 * mo)) (nI (mix mW pm a b c9_4)) (nI (mix mC pm a b c9_4)) e_13) (cwV 2 hts gX0_tryWith_X0_isWithin rfl rfl rfl (by decide +kernel) ⟨Nat.le_of_ble_eq_true rfl, Nat.le_of_ble_eq_true rfl⟩) ⟨fun a U g mk q => ⟨q.1, q.2.1, va_K.moved (u := U) (U := U.calling g mk a) (Vm.Alike.refl U.vm) q.2.2⟩, va_recv hK hP (ci := 0) (q0 := kbl) rfl e_13, fun U hU hW => ⟨rfl, by rw [hU]; exact hP, va_K.moved hW.alike hK⟩⟩ rfl rfl hl.1 rfl (lv_room (Nat.le_of_ble_eq_true rfl)) dX0_tryWith_188 ⟨Nat.le_of_ble_eq_true rfl, Nat.le_of_ble_eq_true rfl⟩) (fun r_114 k_115 => ?_)
  have hmw : mix mW pm a b c9_4 ≤ pm * 3000 := mix_le hWb (by omega)
  have hmc : mix mC pm a b c9_4 ≤ pm * 1400 := mix_le hCb (by omega)
  have iw_116 := iw_n (x := mix mW pm a b c9_4) (y := mix mC pm a b c9_4) (A := pm * 10 * wa) (B := pm * 10 * le) (C := pm * 10 * mo) (by omega) (by omega) (by omega) (by omega) (by omega)
  rcases k_115 with ⟨rfl, p_118⟩ | ⟨rfl, o_117⟩
  · have hF : (bF mM mW mC pm wa le mo) a b c9_4 := ⟨⟨ha, hb9, by omega, by omega, by omega⟩, iw_116.1 p_118⟩
    refine lv_if_eq (tgt := 230) hx hb dX0_tryWith_191 (by decide) (fun c_119 => absurd c_119 (by decide)) (fun c_119 => ?_)
    refine lv_aload_n hx hb dX0_tryWith_194 rfl (lv_at hl 9 rfl) ?_
    refine lv_iload hx hb dX0_tryWith_195 (lv_at hl 0 rfl) ?_
    refine va_put (D := D) (ci := 0) (v := .int (nI (mix mP pm a b c9_4))) (ty := .int) (C := RX0) (T := TX0) (N := 14) hx hb hts hin0 tyX0 tyX0_ok nmX0 hown hK hP hD hS kbl e_13 rfl 9 (by decide) (hts (.fieldLink RX0 55 "HoneyHouse$Blender" "bestPrice" "I") (List.mem_of_getElem? (i := 13) rfl)) (fun _ h9 => h9) rfl (tyX0_ok 9 (by decide)) rfl rfl (Nat.le_of_ble_eq_true rfl) dX0_tryWith_197 (fun H locs hP hD hS => ?_)
    have hP : va_P D vwCl (ws_10.set kbl (bl, .inr (0, [.ref b0, .int b1, .ref b2, .ref b3, .ref b4, .ref b5, .ref b6, .ref b7, .int b8, .int (nI (mix mP pm a b c9_4)), .int (nI pm), .int (nI (pm * 10 * wa)), .int (nI (pm * 10 * le)), .int (nI (pm * 10 * mo))]))) H := hP
    have hD : va_D A (ws_10.set kbl (bl, .inr (0, [.ref b0, .int b1, .ref b2, .ref b3, .ref b4, .ref b5, .ref b6, .ref b7, .int b8, .int (nI (mix mP pm a b c9_4)), .int (nI pm), .int (nI (pm * 10 * wa)), .int (nI (pm * 10 * le)), .int (nI (pm * 10 * mo))]))) := hD
    have hm_121 : sm ρ [0] ws_10 (ws_10.set kbl (bl, .inr (0, [.ref b0, .int b1, .ref b2, .ref b3, .ref b4, .ref b5, .ref b6, .ref b7, .int b8, .int (nI (mix mP pm a b c9_4)), .int (nI pm), .int (nI (pm * 10 * wa)), .int (nI (pm * 10 * le)), .int (nI (pm * 10 * mo))]))) := sm.flds e_13 (smF.c (smV.rf _) (smF.c (smV.rf _) (smF.c (smV.rf _) (smF.c (smV.rf _) (smF.c (smV.rf _) (smF.c (smV.rf _) (smF.c (smV.rf _) (smF.c (smV.rf _) (smF.c (smV.rf _) (smF.c (smV.i _ _) (smF.c (smV.rf _) (smF.c (smV.rf _) (smF.c (smV.rf _) (smF.c (smV.rf _) (rfl))))))))))))))) (List.mem_singleton.mpr rfl) w_kbl
    have e_122 : (ws_10.set kbl (bl, .inr (0, [.ref b0, .int b1, .ref b2, .ref b3, .ref b4, .ref b5, .ref b6, .ref b7, .int b8, .int (nI (mix mP pm a b c9_4)), .int (nI pm), .int (nI (pm * 10 * wa)), .int (nI (pm * 10 * le)), .int (nI (pm * 10 * mo))])))[kbl]? = some (bl, .inr (0, [.ref b0, .int b1, .ref b2, .ref b3, .ref b4, .ref b5, .ref b6, .ref b7, .int b8, .int (nI (mix mP pm a b c9_4)), .int (nI pm), .int (nI (pm * 10 * wa)), .int (nI (pm * 10 * le)), .int (nI (pm * 10 * mo))])) := wset_self e_13
    have e_123 := set_n (z := (bl, .inr (0, [.ref b0, .int b1, .ref b2, .ref b3, .ref b4, .ref b5, .ref b6, .ref b7, .int b8, .int (nI (mix mP pm a b c9_4)), .int (nI pm), .int (nI (pm * 10 * wa)), .int (nI (pm * 10 * le)), .int (nI (pm * 10 * mo))]))) e_15 (pl_ne e_15 e_13 (by intro h9; simp at h9))
    have e_124 := set_n (z := (bl, .inr (0, [.ref b0, .int b1, .ref b2, .ref b3, .ref b4, .ref b5, .ref b6, .ref b7, .int b8, .int (nI (mix mP pm a b c9_4)), .int (nI pm), .int (nI (pm * 10 * wa)), .int (nI (pm * 10 * le)), .int (nI (pm * 10 * mo))]))) e_16 (pl_ne e_16 e_13 (by intro h9; simp at h9))
    have e_125 := set_n (z := (bl, .inr (0, [.ref b0, .int b1, .ref b2, .ref b3, .ref b4, .ref b5, .ref b6, .ref b7, .int b8, .int (nI (mix mP pm a b c9_4)), .int (nI pm), .int (nI (pm * 10 * wa)), .int (nI (pm * 10 * le)), .int (nI (pm * 10 * mo))]))) e_17 (pl_ne e_17 e_13 (by intro h9; simp at h9))
    have e_126 := set_n (z := (bl, .inr (0, [.ref b0, .int b1, .ref b2, .ref b3, .ref b4, .ref b5, .ref b6, .ref b7, .int b8, .int (nI (mix mP pm a b c9_4)), .int (nI pm), .int (nI (pm * 10 * wa)), .int (nI (pm * 10 * le)), .int (nI (pm * 10 * mo))]))) e_18 (pl_ne e_18 e_13 (by intro h9; simp at h9))
    have e_127 := set_n (z := (bl, .inr (0, [.ref b0, .int b1, .ref b2, .ref b3, .ref b4, .ref b5, .ref b6, .ref b7, .int b8, .int (nI (mix mP pm a b c9_4)), .int (nI pm), .int (nI (pm * 10 * wa)), .int (nI (pm * 10 * le)), .int (nI (pm * 10 * mo))]))) e_14 (pl_ne e_14 e_13 (by intro h9; simp at h9))
    generalize ws_10.set kbl (bl, .inr (0, [.ref b0, .int b1, .ref b2, .ref b3, .ref b4, .ref b5, .ref b6, .ref b7, .int b8, .int (nI (mix mP pm a b c9_4)), .int (nI pm), .int (nI (pm * 10 * wa)), .int (nI (pm * 10 * le)), .int (nI (pm * 10 * mo))])) = ws_120 at hP hD hm_121 e_122 e_123 e_124 e_125 e_126 e_127
    have hsm := hsm.tr (hm_121.mono (by decide))
    have hlp_12 := hlp_12.tr (hm_121.mono (by decide))
    refine lv_aload_n hx hb dX0_tryWith_200 rfl (lv_at hl 9 rfl) ?_
    refine va_get (D := D) (ci := 0) (v := .ref b7) (C := RX0) (T := TX0) (N := 14) hx hb hts hin0 hown hK hP kbl e_122 rfl 7 (by decide) (hts (.fieldLink RX0 30 "HoneyHouse$Blender" "best" "[I") (List.mem_of_getElem? (i := 14) rfl)) (fun _ h9 => h9) rfl dX0_tryWith_201 ?_
    refine lv_iconst (v := 0) hx hb dX0_tryWith_204 (by decide) ?_
    refine lv_iload_n hx hb dX0_tryWith_205 rfl (lv_at hl 8 rfl) ?_
    refine va_iast (f := f7_6) (n := 4) hx hb hK hP hD hS kb7 tb7 e_127 ub7 (vp_in_iff.mpr (by decide)) dX0_tryWith_206 (fun H locs hP hD hS => ?_)
    have hm_129 : sm ρ [] ws_120 (ws_120.set kb7 (b7, .inl (cb7, 4, .inl (upd f7_6 (0 : Int32).toNatClampNeg (nI a))))) := sm.ints e_127 w_kb7
    have e_130 : (ws_120.set kb7 (b7, .inl (cb7, 4, .inl (upd f7_6 (0 : Int32).toNatClampNeg (nI a)))))[kb7]? = some (b7, .inl (cb7, 4, .inl (upd f7_6 (0 : Int32).toNatClampNeg (nI a)))) := wset_self e_127
    have e_131 := set_n (z := (b7, .inl (cb7, 4, .inl (upd f7_6 (0 : Int32).toNatClampNeg (nI a))))) e_122 (pl_ne e_122 e_127 (by intro h9; simp at h9))
    have e_132 := set_n (z := (b7, .inl (cb7, 4, .inl (upd f7_6 (0 : Int32).toNatClampNeg (nI a))))) e_123 (show kb3 ≠ kb7 by omega)
    have e_133 := set_n (z := (b7, .inl (cb7, 4, .inl (upd f7_6 (0 : Int32).toNatClampNeg (nI a))))) e_124 (show kb4 ≠ kb7 by omega)
    have e_134 := set_n (z := (b7, .inl (cb7, 4, .inl (upd f7_6 (0 : Int32).toNatClampNeg (nI a))))) e_125 (show kb5 ≠ kb7 by omega)
    have e_135 := set_n (z := (b7, .inl (cb7, 4, .inl (upd f7_6 (0 : Int32).toNatClampNeg (nI a))))) e_126 (show kb6 ≠ kb7 by omega)
    generalize ws_120.set kb7 (b7, .inl (cb7, 4, .inl (upd f7_6 (0 : Int32).toNatClampNeg (nI a)))) = ws_128 at hP hD hm_129 e_130 e_131 e_132 e_133 e_134 e_135
    have hsm := hsm.tr (hm_129.mono (fun _ h9 => absurd h9 List.not_mem_nil))
    have hlp_12 := hlp_12.tr (hm_129.mono (fun _ h9 => absurd h9 List.not_mem_nil))
    obtain ⟨f_136, hf_137⟩ : ∃ g9, g9 = upd f7_6 (0 : Int32).toNatClampNeg (nI a) := ⟨_, rfl⟩
    rw [← hf_137] at e_130
    refine lv_aload_n hx hb dX0_tryWith_207 rfl (lv_at hl 9 rfl) ?_
    refine va_get (D := D) (ci := 0) (v := .ref b7) (C := RX0) (T := TX0) (N := 14) hx hb hts hin0 hown hK hP kbl e_131 rfl 7 (by decide) (hts (.fieldLink RX0 30 "HoneyHouse$Blender" "best" "[I") (List.mem_of_getElem? (i := 14) rfl)) (fun _ h9 => h9) rfl dX0_tryWith_208 ?_
    refine lv_iconst (v := 1) hx hb dX0_tryWith_211 (by decide) ?_
    refine lv_iload_n hx hb dX0_tryWith_212 rfl (lv_at hl 7 rfl) ?_
    refine va_iast (f := f_136) (n := 4) hx hb hK hP hD hS kb7 tb7 e_130 ub7 (vp_in_iff.mpr (by decide)) dX0_tryWith_213 (fun H locs hP hD hS => ?_)
    have hm_139 : sm ρ [] ws_128 (ws_128.set kb7 (b7, .inl (cb7, 4, .inl (upd f_136 (1 : Int32).toNatClampNeg (nI b))))) := sm.ints e_130 w_kb7
    have e_140 : (ws_128.set kb7 (b7, .inl (cb7, 4, .inl (upd f_136 (1 : Int32).toNatClampNeg (nI b)))))[kb7]? = some (b7, .inl (cb7, 4, .inl (upd f_136 (1 : Int32).toNatClampNeg (nI b)))) := wset_self e_130
    have e_141 := set_n (z := (b7, .inl (cb7, 4, .inl (upd f_136 (1 : Int32).toNatClampNeg (nI b))))) e_131 (pl_ne e_131 e_130 (by intro h9; simp at h9))
    have e_142 := set_n (z := (b7, .inl (cb7, 4, .inl (upd f_136 (1 : Int32).toNatClampNeg (nI b))))) e_132 (show kb3 ≠ kb7 by omega)
    have e_143 := set_n (z := (b7, .inl (cb7, 4, .inl (upd f_136 (1 : Int32).toNatClampNeg (nI b))))) e_133 (show kb4 ≠ kb7 by omega)
    have e_144 := set_n (z := (b7, .inl (cb7, 4, .inl (upd f_136 (1 : Int32).toNatClampNeg (nI b))))) e_134 (show kb5 ≠ kb7 by omega)
    have e_145 := set_n (z := (b7, .inl (cb7, 4, .inl (upd f_136 (1 : Int32).toNatClampNeg (nI b))))) e_135 (show kb6 ≠ kb7 by omega)
    generalize ws_128.set kb7 (b7, .inl (cb7, 4, .inl (upd f_136 (1 : Int32).toNatClampNeg (nI b)))) = ws_138 at hP hD hm_139 e_140 e_141 e_142 e_143 e_144 e_145
    have hsm := hsm.tr (hm_139.mono (fun _ h9 => absurd h9 List.not_mem_nil))
    have hlp_12 := hlp_12.tr (hm_139.mono (fun _ h9 => absurd h9 List.not_mem_nil))
    obtain ⟨f_146, hf_147⟩ : ∃ g9, g9 = upd f_136 (1 : Int32).toNatClampNeg (nI b) := ⟨_, rfl⟩
    rw [← hf_147] at e_140
    refine lv_aload_n hx hb dX0_tryWith_214 rfl (lv_at hl 9 rfl) ?_
    refine va_get (D := D) (ci := 0) (v := .ref b7) (C := RX0) (T := TX0) (N := 14) hx hb hts hin0 hown hK hP kbl e_141 rfl 7 (by decide) (hts (.fieldLink RX0 30 "HoneyHouse$Blender" "best" "[I") (List.mem_of_getElem? (i := 14) rfl)) (fun _ h9 => h9) rfl dX0_tryWith_215 ?_
    refine lv_iconst (v := 2) hx hb dX0_tryWith_218 (by decide) ?_
    refine lv_iload hx hb dX0_tryWith_219 (lv_at hl 2 rfl) ?_
    refine va_iast (f := f_146) (n := 4) hx hb hK hP hD hS kb7 tb7 e_140 ub7 (vp_in_iff.mpr (by decide)) dX0_tryWith_221 (fun H locs hP hD hS => ?_)
    have hm_149 : sm ρ [] ws_138 (ws_138.set kb7 (b7, .inl (cb7, 4, .inl (upd f_146 (2 : Int32).toNatClampNeg (nI c9_4))))) := sm.ints e_140 w_kb7
    have e_150 : (ws_138.set kb7 (b7, .inl (cb7, 4, .inl (upd f_146 (2 : Int32).toNatClampNeg (nI c9_4)))))[kb7]? = some (b7, .inl (cb7, 4, .inl (upd f_146 (2 : Int32).toNatClampNeg (nI c9_4)))) := wset_self e_140
    have e_151 := set_n (z := (b7, .inl (cb7, 4, .inl (upd f_146 (2 : Int32).toNatClampNeg (nI c9_4))))) e_141 (pl_ne e_141 e_140 (by intro h9; simp at h9))
    have e_152 := set_n (z := (b7, .inl (cb7, 4, .inl (upd f_146 (2 : Int32).toNatClampNeg (nI c9_4))))) e_142 (show kb3 ≠ kb7 by omega)
    have e_153 := set_n (z := (b7, .inl (cb7, 4, .inl (upd f_146 (2 : Int32).toNatClampNeg (nI c9_4))))) e_143 (show kb4 ≠ kb7 by omega)
    have e_154 := set_n (z := (b7, .inl (cb7, 4, .inl (upd f_146 (2 : Int32).toNatClampNeg (nI c9_4))))) e_144 (show kb5 ≠ kb7 by omega)
    have e_155 := set_n (z := (b7, .inl (cb7, 4, .inl (upd f_146 (2 : Int32).toNatClampNeg (nI c9_4))))) e_145 (show kb6 ≠ kb7 by omega)
    generalize ws_138.set kb7 (b7, .inl (cb7, 4, .inl (upd f_146 (2 : Int32).toNatClampNeg (nI c9_4)))) = ws_148 at hP hD hm_149 e_150 e_151 e_152 e_153 e_154 e_155
    have hsm := hsm.tr (hm_149.mono (fun _ h9 => absurd h9 List.not_mem_nil))
    have hlp_12 := hlp_12.tr (hm_149.mono (fun _ h9 => absurd h9 List.not_mem_nil))
    obtain ⟨f_156, hf_157⟩ : ∃ g9, g9 = upd f_146 (2 : Int32).toNatClampNeg (nI c9_4) := ⟨_, rfl⟩
    rw [← hf_157] at e_150
    refine lv_aload_n hx hb dX0_tryWith_222 rfl (lv_at hl 9 rfl) ?_
    refine va_get (D := D) (ci := 0) (v := .ref b7) (C := RX0) (T := TX0) (N := 14) hx hb hts hin0 hown hK hP kbl e_151 rfl 7 (by decide) (hts (.fieldLink RX0 30 "HoneyHouse$Blender" "best" "[I") (List.mem_of_getElem? (i := 14) rfl)) (fun _ h9 => h9) rfl dX0_tryWith_223 ?_
    refine lv_iconst (v := 3) hx hb dX0_tryWith_226 (by decide) ?_
    refine lv_iload hx hb dX0_tryWith_227 (lv_at hl 1 rfl) ?_
    refine va_iast (f := f_156) (n := 4) hx hb hK hP hD hS kb7 tb7 e_150 ub7 (vp_in_iff.mpr (by decide)) dX0_tryWith_229 (fun H locs hP hD hS => ?_)
    have hm_159 : sm ρ [] ws_148 (ws_148.set kb7 (b7, .inl (cb7, 4, .inl (upd f_156 (3 : Int32).toNatClampNeg (nI (((pm - a) - b) - c9_4)))))) := sm.ints e_150 w_kb7
    have e_160 : (ws_148.set kb7 (b7, .inl (cb7, 4, .inl (upd f_156 (3 : Int32).toNatClampNeg (nI (((pm - a) - b) - c9_4))))))[kb7]? = some (b7, .inl (cb7, 4, .inl (upd f_156 (3 : Int32).toNatClampNeg (nI (((pm - a) - b) - c9_4))))) := wset_self e_150
    have e_161 := set_n (z := (b7, .inl (cb7, 4, .inl (upd f_156 (3 : Int32).toNatClampNeg (nI (((pm - a) - b) - c9_4)))))) e_151 (pl_ne e_151 e_150 (by intro h9; simp at h9))
    have e_162 := set_n (z := (b7, .inl (cb7, 4, .inl (upd f_156 (3 : Int32).toNatClampNeg (nI (((pm - a) - b) - c9_4)))))) e_152 (show kb3 ≠ kb7 by omega)
    have e_163 := set_n (z := (b7, .inl (cb7, 4, .inl (upd f_156 (3 : Int32).toNatClampNeg (nI (((pm - a) - b) - c9_4)))))) e_153 (show kb4 ≠ kb7 by omega)
    have e_164 := set_n (z := (b7, .inl (cb7, 4, .inl (upd f_156 (3 : Int32).toNatClampNeg (nI (((pm - a) - b) - c9_4)))))) e_154 (show kb5 ≠ kb7 by omega)
    have e_165 := set_n (z := (b7, .inl (cb7, 4, .inl (upd f_156 (3 : Int32).toNatClampNeg (nI (((pm - a) - b) - c9_4)))))) e_155 (show kb6 ≠ kb7 by omega)
    generalize ws_148.set kb7 (b7, .inl (cb7, 4, .inl (upd f_156 (3 : Int32).toNatClampNeg (nI (((pm - a) - b) - c9_4))))) = ws_158 at hP hD hm_159 e_160 e_161 e_162 e_163 e_164 e_165
    have hsm := hsm.tr (hm_159.mono (fun _ h9 => absurd h9 List.not_mem_nil))
    have hlp_12 := hlp_12.tr (hm_159.mono (fun _ h9 => absurd h9 List.not_mem_nil))
    obtain ⟨f_166, hf_167⟩ : ∃ g9, g9 = upd f_156 (3 : Int32).toNatClampNeg (nI (((pm - a) - b) - c9_4)) := ⟨_, rfl⟩
    rw [← hf_167] at e_160
    refine lv_iinc (v := nI (c9_4 + 1)) (lv' := [(7, .int (nI (c9_4 + 1))), (9, .int (nI (mix mP pm a b c9_4))), (8, .int (nI (((pm - a) - b) - c9_4))), (6, .int (nI ((a * mC 0) + (b * mC 1)))), (5, .int (nI ((a * mW 0) + (b * mW 1)))), (4, .int (nI ((a * mP 0) + (b * mP 1)))), (3, .int (nI ((pm - a) - b))), (2, .int (nI b)), (1, .int (nI a)), (0, .ref bl)]) hx hb dX0_tryWith_230 hl (k := 2) rfl (nI_add c9_4 1) (by decide) rfl (fun ls hl => ?_)
    refine lv_goto (tgt := 80) hx hb dX0_tryWith_233 (by decide) ?_
    exact ih_3 (c9_4 + 1, nI (mix mP pm a b c9_4), f_166) ws_158 _ _ ls (by show pm + 1 - (c9_4 + 1) < pm + 1 - c9_4; omega) ⟨hlp_12, e_161, e_160, e_162, e_163, e_164, e_165, (show pm - a - b - mM 3 ≤ (c9_4 + 1) from by omega), (show (c9_4 + 1) ≤ pm + 1 from by omega), (show bX (bF mM mW mC pm wa le mo) (mix mP pm) pm (nI (mix mP pm a b c9_4)) f_166 a b (c9_4 + 1) from Or.inr ⟨a, b, c9_4, bS_new hS_47 hF (by omega), rfl, (up4 (f := f7_6) hf_137 hf_147 hf_157 hf_167).1, (up4 (f := f7_6) hf_137 hf_147 hf_157 hf_167).2.1, (up4 (f := f7_6) hf_137 hf_147 hf_157 hf_167).2.2.1, (up4 (f := f7_6) hf_137 hf_147 hf_157 hf_167).2.2.2⟩)⟩ hP hD hS (lv_sub hl [0, 3, 4, 5, 6, 7, 8, 9] rfl)
  have hF : ¬ (bF mM mW mC pm wa le mo) a b c9_4 := fun h9 => iw_116.2 o_117 h9.2
  refine lv_if_eq (tgt := 230) hx hb dX0_tryWith_191 (by decide) (fun c_168 => ?_) (fun c_168 => absurd (by decide) c_168)
  refine lv_iinc (v := nI (c9_4 + 1)) (lv' := [(7, .int (nI (c9_4 + 1))), (9, .int (nI (mix mP pm a b c9_4))), (8, .int (nI (((pm - a) - b) - c9_4))), (6, .int (nI ((a * mC 0) + (b * mC 1)))), (5, .int (nI ((a * mW 0) + (b * mW 1)))), (4, .int (nI ((a * mP 0) + (b * mP 1)))), (3, .int (nI ((pm - a) - b))), (2, .int (nI b)), (1, .int (nI a)), (0, .ref bl)]) hx hb dX0_tryWith_230 hl (k := 2) rfl (nI_add c9_4 1) (by decide) rfl (fun ls hl => ?_)
  refine lv_goto (tgt := 80) hx hb dX0_tryWith_233 (by decide) ?_
  exact ih_3 (c9_4 + 1, y9_5, f7_6) ws_10 _ _ ls (by show pm + 1 - (c9_4 + 1) < pm + 1 - c9_4; omega) ⟨hlp_12, e_13, e_14, e_15, e_16, e_17, e_18, (show pm - a - b - mM 3 ≤ (c9_4 + 1) from by omega), (show (c9_4 + 1) ≤ pm + 1 from by omega), (show bX (bF mM mW mC pm wa le mo) (mix mP pm) pm y9_5 f7_6 a b (c9_4 + 1) from Or.inr ⟨x_44, y_45, z_46, bS_no hS_47 hF, hv_53, h_48, h_49, h_50, h_51⟩)⟩ hP hD hS (lv_sub hl [0, 3, 4, 5, 6, 7, 8, 9] rfl)
theorem kb_s {bits : Int32} {k t : Nat} {g f : Nat → Int32} (hk : k < cB bits 10) (h : ∀ t : Nat, t < 10 → g t = if bB bits t ∧ cB bits t < k then f (cB bits t) else 0) (ht : t < 10) : upd g (tK bits k) (f k) t = if bB bits t ∧ cB bits t < k + 1 then f (cB bits t) else 0 := by
  obtain ⟨h1, h2, h3⟩ := tK_at hk
  rcases Nat.decEq t (tK bits k) with q | q
  · rw [upd_n q, h t ht]
    by_cases z : bB bits t ∧ cB bits t < k
    · rw [if_pos z, if_pos ⟨z.1, by omega⟩]
    · rw [if_neg z, if_neg]
      rintro ⟨z1, z2⟩
      have : cB bits t = k := Nat.le_antisymm (by omega) (Nat.le_of_not_lt (fun y => z ⟨z1, y⟩))
      exact q (by rw [← this, tK_eq z1 ht])
  · subst q
    rw [upd_s, if_pos ⟨h2, by omega⟩, h3]
theorem kb_e {bits : Int32} {g f : Nat → Int32} (h : ∀ t : Nat, t < 10 → g t = if bB bits t ∧ cB bits t < cB bits 10 then f (cB bits t) else 0) : ∀ t : Nat, t < 10 → g t = if bB bits t then f (cB bits t) else 0 := fun t ht => by
  rw [h t ht]
  by_cases z : bB bits t
  · rw [if_pos ⟨z, cB_lt z ht⟩, if_pos z]
  · rw [if_neg (fun y => z y.1), if_neg z]
set_option maxHeartbeats 4000000 in
set_option maxRecDepth 100000 in
theorem a_keepBest (l : Launch) (D : va_G) (ρ : Nat → Nat) (ws : va_W) (tys : List (ClassId × FieldType)) (bl kbl b0 b2 b3 b4 b5 b6 b7 : Nat) (b1 b9 b10 b11 b12 b13 : Int32) (kb0 : Nat) (cb0 : ClassId) (tb0 : Nat) (fb0 : Nat → Int32) (kb2 : Nat) (cb2 : ClassId) (tb2 : Nat) (fb2 : Nat → Int32) (kb7 : Nat) (cb7 : ClassId) (tb7 : Nat) (fb7 : Nat → Int32) (bits : Int32) (sz : Nat) (hc4 : cB bits 10 ≤ 4) (h2 : ∀ k : Nat, k < cB bits 10 → fb2 k = nI (tK bits k)) (ebl : ws[kbl]? = some (bl, .inr (0, [.ref b0, .int b1, .ref b2, .ref b3, .ref b4, .ref b5, .ref b6, .ref b7, .int (nI (cB bits 10)), .int b9, .int b10, .int b11, .int b12, .int b13]))) (eb0 : ws[kb0]? = some (b0, .inl (cb0, 10, .inl fb0))) (ub0 : tys[tb0]? = some (cb0, .int)) (eb2 : ws[kb2]? = some (b2, .inl (cb2, 4, .inl fb2))) (ub2 : tys[tb2]? = some (cb2, .int)) (eb7 : ws[kb7]? = some (b7, .inl (cb7, 4, .inl fb7))) (ub7 : tys[tb7]? = some (cb7, .int)) (w_kb0 : ρ kb0 = 0) (w_kbl : ρ kbl = 0) : Met l yX0_keepBest wsX0_keepBest ({ frames := 1, cells := 0, slots := 0, locals := 23 }) (va_Pc [.ref bl] (fun U => U.heap.size = sz ∧ va_P D vwCl ws U.heap ∧ va_K D vwCl tys U ∧ va_D (fun _ => True) ws)) (va_Qv (fun _ : Unit => True) (fun (_ : Unit) (t : State) => ∃ (ws' : va_W) (tys' : List (ClassId × FieldType)), sm ρ [0] ws ws' ∧ tyx tys tys' ∧ va_P D vwCl ws' t.heap ∧ va_K D vwCl tys' t ∧ va_D (va_A ws sz) ws' ∧ (∃ f0 : Nat → Int32, ws'[kb0]? = some (b0, .inl (cb0, 10, .inl f0)) ∧ (∀ t : Nat, t < 10 → f0 t = if bB bits t then fb7 (cB bits t) else 0) ∧ ws'[kbl]? = some (bl, .inr (0, [.ref b0, .int 1, .ref b2, .ref b3, .ref b4, .ref b5, .ref b6, .ref b7, .int (nI (cB bits 10)), .int b9, .int b10, .int b11, .int b12, .int b13])))) (va_A ws sz)) 0 0 (va_A ws sz) := by
  refine Met.ofW (cc := cX0_keepBest) (maxL := 3) (ret := none) (by decide) rfl ?_
  intro p e s m args below meth c s₁ B hml hv
  obtain ⟨rfl, hsz, hP, hK, hD0⟩ := hv
  have hx := B.exec
  have hb := B.bytes
  have hr := B.returns
  have hts := atoms_spec (ws := wsX0_keepBest) B.pre
  have hown : s.vm.findClass RX0 = some m.cls := findClass_of_methodNamed B.named
  have hlocks := B.notSynchronized
  subst hsz
  have hD := hD0.self (sz := s.heap.size)
  generalize hAe : va_A ws s.heap.size = A at hD ⊢
  have hA : ∀ q : Nat, s.heap.size ≤ q → A q := fun q h => by rw [← hAe]; exact Or.inr h
  have hS : va_S A s.heap s.heap [] := va_S.rf
  have hsm : sm ρ [0] ws ws := sm.rf ws
  have htx : tyx tys tys := tyx.rf tys
  have hin0 : ∀ w ∈ u_ws RX0 TX0 14, w ∈ wsX0_keepBest := (fun _ h9 => List.mem_cons_of_mem _ ((List.mem_append_right _ h9)))
  have hl := lv_entry ([.ref bl]) (n := 3) (Nat.le_of_ble_eq_true rfl)
  rw [lg_entry_eq]
  generalize (lg_sl ([.ref bl]) ++ List.replicate (3 - (lg_sl ([.ref bl])).length) Slot.unset).toArray = ls at hl ⊢
  have hl : lv_has ls 3 [(0, .ref bl)] := hl
  refine lv_aload_n hx hb dX0_keepBest_0 rfl (lv_at hl 0 rfl) ?_
  refine va_get (D := D) (ci := 0) (v := .ref b0) (C := RX0) (T := TX0) (N := 14) hx hb hts hin0 hown hK hP kbl ebl rfl 0 (by decide) (hts (.fieldLink RX0 9 "HoneyHouse$Blender" "toldParts" "[I") (List.mem_of_getElem? (i := 1) rfl)) (fun _ h9 => h9) rfl dX0_keepBest_1 ?_
  refine lv_iconst (v := 0) hx hb dX0_keepBest_4 (by decide) ?_
  have hFc := free_all hD hS hA
  refine va_callv (va_runS (As := [.ref b0, .int 0]) (rest := []) ⟨hx, hb, hml, hown, hts⟩ (a_fill l D (rz [kb0]) ws tys b0 kb0 cb0 tb0 10 fb0 0 s.heap.size (by omega) eb0 ub0 (rz_in (by simp))) (va_cwS 2 hts gX0_keepBest_J7_fill_53178 rfl rfl rfl (by decide +kernel) ⟨Nat.le_of_ble_eq_true rfl, Nat.le_of_ble_eq_true rfl⟩) ⟨fun a U g mk q => by obtain ⟨q0, q1, qP, qK, qD⟩ := q; exact ⟨q0, q1, qP, va_K.moved (u := U) (U := U.calling g mk a) (Vm.Alike.refl U.vm) qK, qD⟩, fun U hU hW => ⟨rfl, by rw [hU], by rw [hU]; exact hP, va_K.moved hW.alike hK, hD.weaken (fun _ _ _ _ => trivial)⟩⟩ rfl rfl hl.1 rfl (lv_room (Nat.le_of_ble_eq_true rfl)) dX0_keepBest_5 ⟨Nat.le_of_ble_eq_true rfl, Nat.le_of_ble_eq_true rfl⟩) hS (fun q _ h => hFc q h) hFc (fun u t H1 locs ht hvm w_1 hB hz1 hk1 hS => ?_)
  obtain ⟨ws_2, ty_3, hm_4, ht_6, hP1, hK1, hD1, hx_5⟩ := hB
  rw [ht] at hP1
  have hK := va_K.moved hvm.symm hK1
  have hD := hD1.weaken (fun _ _ _ h => hFc _ h)
  generalize H1 = H at hP1 hS ⊢
  have hP := hP1
  have e_7 := hm_4.keep (rz_o1 (pl_ne ebl eb0 (by intro h9; simp at h9))) ebl
  have e_8 := hm_4.keep (rz_o1 (pl_ne eb2 eb0 (by intro h9; simp at h9))) eb2
  have e_9 := hm_4.keep (rz_o1 (pl_ne eb7 eb0 (by intro h9; simp at h9))) eb7
  have u_10 := ht_6 _ _ ub0
  have u_11 := ht_6 _ _ ub2
  have u_12 := ht_6 _ _ ub7
  have hm_13 : sm ρ [] ws ws_2 := hm_4.up (fun k _ h => rz_u1 w_kb0 k h)
  have hsm := hsm.tr (hm_13.mono (by decide))
  have htx := htx.tr ht_6
  obtain ⟨f_14, e_15, g_16⟩ := hx_5
  refine lv_iconst (v := 0) hx hb dX0_keepBest_8 (by decide) ?_
  refine lv_istore_n (lv' := [(1, .int 0), (0, .ref bl)]) hx hb dX0_keepBest_9 rfl hl (by decide) rfl (fun ls hl => ?_)
  refine lp_V (nL := 3) (σ := Nat × (Nat → Int32)) (lv := fun x9 => [(1, .int (nI x9.1)), (0, .ref bl)]) (μ := fun x9 => 4 - x9.1) (J := fun x9 ws9 => sm ρ [0] ws_2 ws9 ∧ (ws9[kbl]? = some (bl, .inr (0, [.ref b0, .int b1, .ref b2, .ref b3, .ref b4, .ref b5, .ref b6, .ref b7, .int (nI (cB bits 10)), .int b9, .int b10, .int b11, .int b12, .int b13]))) ∧ (ws9[kb0]? = some (b0, .inl (cb0, 10, .inl x9.2))) ∧ (ws9[kb2]? = some (b2, .inl (cb2, 4, .inl fb2))) ∧ (ws9[kb7]? = some (b7, .inl (cb7, 4, .inl fb7))) ∧ (x9.1 ≤ cB bits 10) ∧ (∀ t9 : Nat, t9 < 10 → x9.2 t9 = if bB bits t9 ∧ cB bits t9 < x9.1 then fb7 (cB bits t9) else 0)) (fun x9 ws_22 H locs ls hj hP hD hS hl ih_17 => ?_) (0, f_14) ws_2 _ _ ls ⟨sm.rf _, e_7, e_15, e_8, e_9, (show 0 ≤ cB bits 10 from by omega), (show ∀ t9 : Nat, t9 < 10 → f_14 t9 = if bB bits t9 ∧ cB bits t9 < 0 then fb7 (cB bits t9) else 0 from fun t9 h9 => by rw [g_16 t9 h9, if_neg (fun h8 => absurd h8.2 (by omega))])⟩ hP hD hS (lv_sub hl [0, 1] rfl)
  obtain ⟨i_18, g9_19⟩ := x9
  replace hj : sm ρ [0] ws_2 ws_22 ∧ (ws_22[kbl]? = some (bl, .inr (0, [.ref b0, .int b1, .ref b2, .ref b3, .ref b4, .ref b5, .ref b6, .ref b7, .int (nI (cB bits 10)), .int b9, .int b10, .int b11, .int b12, .int b13]))) ∧ (ws_22[kb0]? = some (b0, .inl (cb0, 10, .inl g9_19))) ∧ (ws_22[kb2]? = some (b2, .inl (cb2, 4, .inl fb2))) ∧ (ws_22[kb7]? = some (b7, .inl (cb7, 4, .inl fb7))) ∧ (i_18 ≤ cB bits 10) ∧ (∀ t9 : Nat, t9 < 10 → g9_19 t9 = if bB bits t9 ∧ cB bits t9 < i_18 then fb7 (cB bits t9) else 0) := hj
  obtain ⟨hm_23, e_25, e_26, e_27, e_28, hi_20, hg_21⟩ := hj
  obtain ⟨g_30, e_29, h_31⟩ := hm_23.obj e_7
  obtain ⟨z_32, z_33, z_34, z_35, z_36, z_37, z_38, rfl⟩ := smX0 h_31
  obtain ⟨f_40, e_39⟩ := hm_23.arrI e_15
  obtain ⟨f_42, e_41⟩ := hm_23.arrI e_8
  obtain ⟨f_44, e_43⟩ := hm_23.arrI e_9
  have hsm := hsm.tr (hm_23.mono (by decide))
  have hlp_24 := hm_23
  have hl : lv_has ls 3 [(1, .int (nI i_18)), (0, .ref bl)] := hl
  refine lv_iload_n hx hb dX0_keepBest_10 rfl (lv_at hl 0 rfl) ?_
  refine lv_aload_n hx hb dX0_keepBest_11 rfl (lv_at hl 1 rfl) ?_
  refine va_get (D := D) (ci := 0) (v := .int (nI (cB bits 10))) (C := RX0) (T := TX0) (N := 14) hx hb hts hin0 hown hK hP kbl e_25 rfl 8 (by decide) (hts (.fieldLink RX0 33 "HoneyHouse$Blender" "tankCount" "I") (List.mem_of_getElem? (i := 2) rfl)) (fun _ h9 => h9) rfl dX0_keepBest_12 ?_
  refine lv_icmp_ge (tgt := 61) hx hb dX0_keepBest_15 (by decide) (fun c_45 => ?_) (fun c_45 => ?_)
  · have d_46 := n_le (a := cB bits 10) (b := i_18) (by omega) (by omega) c_45
    refine lv_aload_n hx hb dX0_keepBest_61 rfl (lv_at hl 1 rfl) ?_
    refine lv_iconst (v := 1) hx hb dX0_keepBest_62 (by decide) ?_
    refine va_put (D := D) (ci := 0) (v := .int 1) (ty := .boolean) (C := RX0) (T := TX0) (N := 14) hx hb hts hin0 tyX0 tyX0_ok nmX0 hown hK hP hD hS kbl e_25 rfl 1 (by decide) (hts (.fieldLink RX0 78 "HoneyHouse$Blender" "hasTold" "Z") (List.mem_of_getElem? (i := 5) rfl)) (fun _ h9 => h9) rfl (tyX0_ok 1 (by decide)) rfl rfl (Nat.le_of_ble_eq_true rfl) dX0_keepBest_63 (fun H locs hP hD hS => ?_)
    have hP : va_P D vwCl (ws_22.set kbl (bl, .inr (0, [.ref b0, .int 1, .ref b2, .ref b3, .ref b4, .ref b5, .ref b6, .ref b7, .int (nI (cB bits 10)), .int b9, .int b10, .int b11, .int b12, .int b13]))) H := hP
    have hD : va_D A (ws_22.set kbl (bl, .inr (0, [.ref b0, .int 1, .ref b2, .ref b3, .ref b4, .ref b5, .ref b6, .ref b7, .int (nI (cB bits 10)), .int b9, .int b10, .int b11, .int b12, .int b13]))) := hD
    have hm_48 : sm ρ [0] ws_22 (ws_22.set kbl (bl, .inr (0, [.ref b0, .int 1, .ref b2, .ref b3, .ref b4, .ref b5, .ref b6, .ref b7, .int (nI (cB bits 10)), .int b9, .int b10, .int b11, .int b12, .int b13]))) := sm.flds e_25 (smF.c (smV.rf _) (smF.c (smV.i _ _) (smF.c (smV.rf _) (smF.c (smV.rf _) (smF.c (smV.rf _) (smF.c (smV.rf _) (smF.c (smV.rf _) (smF.c (smV.rf _) (smF.c (smV.rf _) (smF.c (smV.rf _) (smF.c (smV.rf _) (smF.c (smV.rf _) (smF.c (smV.rf _) (smF.c (smV.rf _) (rfl))))))))))))))) (List.mem_singleton.mpr rfl) w_kbl
    have e_49 : (ws_22.set kbl (bl, .inr (0, [.ref b0, .int 1, .ref b2, .ref b3, .ref b4, .ref b5, .ref b6, .ref b7, .int (nI (cB bits 10)), .int b9, .int b10, .int b11, .int b12, .int b13])))[kbl]? = some (bl, .inr (0, [.ref b0, .int 1, .ref b2, .ref b3, .ref b4, .ref b5, .ref b6, .ref b7, .int (nI (cB bits 10)), .int b9, .int b10, .int b11, .int b12, .int b13])) := wset_self e_25
    have e_50 := set_n (z := (bl, .inr (0, [.ref b0, .int 1, .ref b2, .ref b3, .ref b4, .ref b5, .ref b6, .ref b7, .int (nI (cB bits 10)), .int b9, .int b10, .int b11, .int b12, .int b13]))) e_26 (pl_ne e_26 e_25 (by intro h9; simp at h9))
    have e_51 := set_n (z := (bl, .inr (0, [.ref b0, .int 1, .ref b2, .ref b3, .ref b4, .ref b5, .ref b6, .ref b7, .int (nI (cB bits 10)), .int b9, .int b10, .int b11, .int b12, .int b13]))) e_27 (pl_ne e_27 e_25 (by intro h9; simp at h9))
    have e_52 := set_n (z := (bl, .inr (0, [.ref b0, .int 1, .ref b2, .ref b3, .ref b4, .ref b5, .ref b6, .ref b7, .int (nI (cB bits 10)), .int b9, .int b10, .int b11, .int b12, .int b13]))) e_28 (pl_ne e_28 e_25 (by intro h9; simp at h9))
    generalize ws_22.set kbl (bl, .inr (0, [.ref b0, .int 1, .ref b2, .ref b3, .ref b4, .ref b5, .ref b6, .ref b7, .int (nI (cB bits 10)), .int b9, .int b10, .int b11, .int b12, .int b13])) = ws_47 at hP hD hm_48 e_49 e_50 e_51 e_52
    have hsm := hsm.tr (hm_48.mono (by decide))
    have hlp_24 := hlp_24.tr (hm_48.mono (by decide))
    exact W.vret hx hb hr (fun t ht hW => ⟨⟨(), rfl, trivial, ws_47, ty_3, hsm, htx, by rw [ht]; exact hP, va_K.moved hW.alike hK, hD, ⟨g9_19, e_50, kb_e (by rw [show i_18 = cB bits 10 by omega] at hg_21; exact hg_21), e_49⟩⟩, hS.F ht⟩) hS.2.2 dX0_keepBest_66
  have d_53 := n_nle (a := cB bits 10) (b := i_18) (by omega) (by omega) c_45
  refine lv_iload_n hx hb dX0_keepBest_18 rfl (lv_at hl 0 rfl) ?_
  refine lv_iconst (v := 4) hx hb dX0_keepBest_19 (by decide) ?_
  refine lv_icmp_ge (tgt := 61) hx hb dX0_keepBest_20 (by decide) (fun c_54 => absurd c_54 (nI_ge (a := i_18) (b := 4) (by omega) (by omega))) (fun c_54 => ?_)
  refine lv_aload_n hx hb dX0_keepBest_23 rfl (lv_at hl 1 rfl) ?_
  refine va_get (D := D) (ci := 0) (v := .ref b2) (C := RX0) (T := TX0) (N := 14) hx hb hts hin0 hown hK hP kbl e_25 rfl 2 (by decide) (hts (.fieldLink RX0 15 "HoneyHouse$Blender" "tankNumbers" "[I") (List.mem_of_getElem? (i := 3) rfl)) (fun _ h9 => h9) rfl dX0_keepBest_24 ?_
  refine lv_iload_n hx hb dX0_keepBest_27 rfl (lv_at hl 0 rfl) ?_
  refine va_iald (f := fb2) (n := 4) hx hb hK hP kb2 tb2 e_27 u_11 (vp_in_nI (n := i_18) (by omega) (by omega)) dX0_keepBest_28 ?_
  refine tp_i (y := nI (tK bits i_18)) (by rw [nI_clamp (n := i_18) (by omega)]; exact h2 i_18 (by omega)) ?_
  have htk := (tK_at (a := bits) (k := i_18) (by omega)).1
  refine lv_istore_n (lv' := [(2, .int (nI (tK bits i_18))), (1, .int (nI i_18)), (0, .ref bl)]) hx hb dX0_keepBest_29 rfl hl (by decide) rfl (fun ls hl => ?_)
  refine lv_iload_n hx hb dX0_keepBest_30 rfl (lv_at hl 0 rfl) ?_
  refine lv_if_lt (tgt := 55) hx hb dX0_keepBest_31 (by decide) (fun c_55 => absurd c_55 (nI_pos (n := tK bits i_18) (by omega))) (fun c_55 => ?_)
  refine lv_iload_n hx hb dX0_keepBest_34 rfl (lv_at hl 0 rfl) ?_
  refine lv_aload_n hx hb dX0_keepBest_35 rfl (lv_at hl 2 rfl) ?_
  refine va_get (D := D) (ci := 0) (v := .ref b0) (C := RX0) (T := TX0) (N := 14) hx hb hts hin0 hown hK hP kbl e_25 rfl 0 (by decide) (hts (.fieldLink RX0 9 "HoneyHouse$Blender" "toldParts" "[I") (List.mem_of_getElem? (i := 1) rfl)) (fun _ h9 => h9) rfl dX0_keepBest_36 ?_
  refine va_alen (v := 10) hx hb hK hP kb0 tb0 e_26 u_10 rfl dX0_keepBest_39 ?_
  refine lv_icmp_ge (tgt := 55) hx hb dX0_keepBest_40 (by decide) (fun c_56 => absurd c_56 (nI_ge (a := tK bits i_18) (b := 10) (by omega) (by omega))) (fun c_56 => ?_)
  refine lv_aload_n hx hb dX0_keepBest_43 rfl (lv_at hl 2 rfl) ?_
  refine va_get (D := D) (ci := 0) (v := .ref b0) (C := RX0) (T := TX0) (N := 14) hx hb hts hin0 hown hK hP kbl e_25 rfl 0 (by decide) (hts (.fieldLink RX0 9 "HoneyHouse$Blender" "toldParts" "[I") (List.mem_of_getElem? (i := 1) rfl)) (fun _ h9 => h9) rfl dX0_keepBest_44 ?_
  refine lv_iload_n hx hb dX0_keepBest_47 rfl (lv_at hl 0 rfl) ?_
  refine lv_aload_n hx hb dX0_keepBest_48 rfl (lv_at hl 2 rfl) ?_
  refine va_get (D := D) (ci := 0) (v := .ref b7) (C := RX0) (T := TX0) (N := 14) hx hb hts hin0 hown hK hP kbl e_25 rfl 7 (by decide) (hts (.fieldLink RX0 30 "HoneyHouse$Blender" "best" "[I") (List.mem_of_getElem? (i := 4) rfl)) (fun _ h9 => h9) rfl dX0_keepBest_49 ?_
  refine lv_iload_n hx hb dX0_keepBest_52 rfl (lv_at hl 1 rfl) ?_
  refine va_iald (f := fb7) (n := 4) hx hb hK hP kb7 tb7 e_28 u_12 (vp_in_nI (n := i_18) (by omega) (by omega)) dX0_keepBest_53 ?_
  refine tp_i (y := fb7 i_18) (by rw [nI_clamp (n := i_18) (by omega)]) ?_
  refine va_iast (f := g9_19) (n := 10) hx hb hK hP hD hS kb0 tb0 e_26 u_10 (vp_in_nI (n := tK bits i_18) (by omega) (by omega)) dX0_keepBest_54 (fun H locs hP hD hS => ?_)
  have hm_58 : sm ρ [] ws_22 (ws_22.set kb0 (b0, .inl (cb0, 10, .inl (upd g9_19 (nI (tK bits i_18)).toNatClampNeg (fb7 i_18))))) := sm.ints e_26 w_kb0
  have e_59 : (ws_22.set kb0 (b0, .inl (cb0, 10, .inl (upd g9_19 (nI (tK bits i_18)).toNatClampNeg (fb7 i_18)))))[kb0]? = some (b0, .inl (cb0, 10, .inl (upd g9_19 (nI (tK bits i_18)).toNatClampNeg (fb7 i_18)))) := wset_self e_26
  have e_60 := set_n (z := (b0, .inl (cb0, 10, .inl (upd g9_19 (nI (tK bits i_18)).toNatClampNeg (fb7 i_18))))) e_25 (pl_ne e_25 e_26 (by intro h9; simp at h9))
  have e_61 := set_n (z := (b0, .inl (cb0, 10, .inl (upd g9_19 (nI (tK bits i_18)).toNatClampNeg (fb7 i_18))))) e_27 (pl_ne e_27 e_26 (by intro h9; simp at h9))
  have e_62 := set_n (z := (b0, .inl (cb0, 10, .inl (upd g9_19 (nI (tK bits i_18)).toNatClampNeg (fb7 i_18))))) e_28 (pl_ne e_28 e_26 (by intro h9; simp at h9))
  generalize ws_22.set kb0 (b0, .inl (cb0, 10, .inl (upd g9_19 (nI (tK bits i_18)).toNatClampNeg (fb7 i_18)))) = ws_57 at hP hD hm_58 e_59 e_60 e_61 e_62
  have hsm := hsm.tr (hm_58.mono (fun _ h9 => absurd h9 List.not_mem_nil))
  have hlp_24 := hlp_24.tr (hm_58.mono (fun _ h9 => absurd h9 List.not_mem_nil))
  obtain ⟨f_63, hf_64⟩ : ∃ g9, g9 = upd g9_19 (nI (tK bits i_18)).toNatClampNeg (fb7 i_18) := ⟨_, rfl⟩
  rw [← hf_64] at e_59
  refine lv_iinc (v := nI (i_18 + 1)) (lv' := [(1, .int (nI (i_18 + 1))), (2, .int (nI (tK bits i_18))), (0, .ref bl)]) hx hb dX0_keepBest_55 hl (k := 1) rfl (nI_add i_18 1) (by decide) rfl (fun ls hl => ?_)
  refine lv_goto (tgt := 10) hx hb dX0_keepBest_58 (by decide) ?_
  exact ih_17 (i_18 + 1, f_63) ws_57 _ _ ls (by show 4 - (i_18 + 1) < 4 - i_18; omega) ⟨hlp_24, e_60, e_59, e_61, e_62, (show (i_18 + 1) ≤ cB bits 10 from by omega), (show ∀ t9 : Nat, t9 < 10 → f_63 t9 = if bB bits t9 ∧ cB bits t9 < (i_18 + 1) then fb7 (cB bits t9) else 0 from fun t9 h9 => by rw [hf_64, nI_clamp (n := tK bits i_18) (by omega)]; exact kb_s (by omega) hg_21 h9)⟩ hP hD hS (lv_sub hl [0, 2] rfl)
theorem pt_of {bits : Int32} {pm a b c : Nat} {g f : Nat → Int32} (hc : cB bits 10 ≤ 4) (hg : ∀ t : Nat, t < 10 → g t = if bB bits t then f (cB bits t) else 0) (h0 : f 0 = nI a) (h1 : f 1 = nI b) (h2 : f 2 = nI c) (h3 : f 3 = nI (pm - a - b - c)) : ∀ t : Nat, t < 10 → g t = nI (bPt bits pm a b c t) := fun t ht => by
  rw [hg t ht, bPt]
  by_cases z : bB bits t
  · rw [if_pos z, if_pos z]
    have hl := cB_lt z ht
    rcases (show cB bits t = 0 ∨ cB bits t = 1 ∨ cB bits t = 2 ∨ cB bits t = 3 by omega) with q | q | q | q
    · rw [q]; exact h0
    · rw [q]; exact h1
    · rw [q]; exact h2
    · rw [q]; exact h3
  · rw [if_neg z, if_neg z]; exact nI_0.symm
set_option maxHeartbeats 4000000 in
set_option maxRecDepth 100000 in
theorem a_leastPrice (l : Launch) (D : va_G) (ρ : Nat → Nat) (ws : va_W) (tys : List (ClassId × FieldType)) (bl kbl b0 b2 b3 b4 b5 b6 b7 : Nat) (b1 : Int32) (y9 : Int32) (kb0 : Nat) (cb0 : ClassId) (tb0 : Nat) (fb0 : Nat → Int32) (kb2 : Nat) (cb2 : ClassId) (tb2 : Nat) (fb2 : Nat → Int32) (kb3 : Nat) (cb3 : ClassId) (tb3 : Nat) (fb3 : Nat → Int32) (kb4 : Nat) (cb4 : ClassId) (tb4 : Nat) (fb4 : Nat → Int32) (kb5 : Nat) (cb5 : ClassId) (tb5 : Nat) (fb5 : Nat → Int32) (kb6 : Nat) (cb6 : ClassId) (tb6 : Nat) (fb6 : Nat → Int32) (kb7 : Nat) (cb7 : ClassId) (tb7 : Nat) (fb7 : Nat → Int32) (mM mW mC mP : Nat → Nat) (pm wa le mo : Nat) (bits : Int32) (sz : Nat) (hpm : pm ≤ 40) (hwa : wa ≤ 300) (hle : le ≤ 140) (hmo : mo ≤ 140) (hMb : ∀ k : Nat, k < 4 → mM k ≤ 1000) (hWb : ∀ k : Nat, k < 4 → mW k ≤ 3000) (hCb : ∀ k : Nat, k < 4 → mC k ≤ 1400) (hPb : ∀ k : Nat, k < 4 → mP k ≤ 10000) (h3 : ∀ k : Nat, k < 4 → fb3 k = nI (mM k)) (h4 : ∀ k : Nat, k < 4 → fb4 k = nI (mW k) ∨ mM k = 0) (h5 : ∀ k : Nat, k < 4 → fb5 k = nI (mC k) ∨ mM k = 0) (h6 : ∀ k : Nat, k < 4 → fb6 k = nI (mP k) ∨ mM k = 0) (hc4 : cB bits 10 ≤ 4) (h2 : ∀ k : Nat, k < cB bits 10 → fb2 k = nI (tK bits k)) (hbo : kb2 < kb3 ∧ kb3 < kb4 ∧ kb4 < kb5 ∧ kb5 < kb6 ∧ kb6 < kb7) (ebl : ws[kbl]? = some (bl, .inr (0, [.ref b0, .int b1, .ref b2, .ref b3, .ref b4, .ref b5, .ref b6, .ref b7, .int (nI (cB bits 10)), .int y9, .int (nI pm), .int (nI (pm * 10 * wa)), .int (nI (pm * 10 * le)), .int (nI (pm * 10 * mo))]))) (eb0 : ws[kb0]? = some (b0, .inl (cb0, 10, .inl fb0))) (ub0 : tys[tb0]? = some (cb0, .int)) (eb2 : ws[kb2]? = some (b2, .inl (cb2, 4, .inl fb2))) (ub2 : tys[tb2]? = some (cb2, .int)) (eb3 : ws[kb3]? = some (b3, .inl (cb3, 4, .inl fb3))) (ub3 : tys[tb3]? = some (cb3, .int)) (eb4 : ws[kb4]? = some (b4, .inl (cb4, 4, .inl fb4))) (ub4 : tys[tb4]? = some (cb4, .int)) (eb5 : ws[kb5]? = some (b5, .inl (cb5, 4, .inl fb5))) (ub5 : tys[tb5]? = some (cb5, .int)) (eb6 : ws[kb6]? = some (b6, .inl (cb6, 4, .inl fb6))) (ub6 : tys[tb6]? = some (cb6, .int)) (eb7 : ws[kb7]? = some (b7, .inl (cb7, 4, .inl fb7))) (ub7 : tys[tb7]? = some (cb7, .int)) (w_kbl : ρ kbl = 0) (w_kb0 : ρ kb0 = 0) (w_kb7 : ρ kb7 = 0) : Met l yX0_leastPrice wsX0_leastPrice ({ frames := 2, cells := 0, slots := 0, locals := 69 }) (va_Pc [.ref bl] (fun U => U.heap.size = sz ∧ va_P D vwCl ws U.heap ∧ va_K D vwCl tys U ∧ va_D (fun _ => True) ws)) (va_Qi (fun (r : Int32) (_ : Unit) => True) (fun (_ : Unit) (t : State) => ∃ (ws' : va_W) (tys' : List (ClassId × FieldType)), sm ρ [0] ws ws' ∧ tyx tys tys' ∧ va_P D vwCl ws' t.heap ∧ va_K D vwCl tys' t ∧ va_D (va_A ws sz) ws' ∧ ((∃ (y8 : Int32) (f8 : Nat → Int32), ws'[kbl]? = some (bl, .inr (0, [.ref b0, .int b1, .ref b2, .ref b3, .ref b4, .ref b5, .ref b6, .ref b7, .int (nI (cB bits 10)), .int y8, .int (nI pm), .int (nI (pm * 10 * wa)), .int (nI (pm * 10 * le)), .int (nI (pm * 10 * mo))])) ∧ ws'[kb7]? = some (b7, .inl (cb7, 4, .inl f8)) ∧ ws'[kb0]? = some (b0, .inl (cb0, 10, .inl fb0)) ∧ ∀ a b c : Nat, ¬ (bF mM mW mC pm wa le mo) a b c) ∨ (∃ (y8 : Int32) (f8 f0 : Nat → Int32) (a b c : Nat), ws'[kbl]? = some (bl, .inr (0, [.ref b0, .int 1, .ref b2, .ref b3, .ref b4, .ref b5, .ref b6, .ref b7, .int (nI (cB bits 10)), .int y8, .int (nI pm), .int (nI (pm * 10 * wa)), .int (nI (pm * 10 * le)), .int (nI (pm * 10 * mo))])) ∧ ws'[kb7]? = some (b7, .inl (cb7, 4, .inl f8)) ∧ ws'[kb0]? = some (b0, .inl (cb0, 10, .inl f0)) ∧ bE (bF mM mW mC pm wa le mo) (mix mP pm) a b c ∧ ∀ t : Nat, t < 10 → f0 t = nI (bPt bits pm a b c t)))) (va_A ws sz)) 0 0 (va_A ws sz) := by
  refine Met.ofW (cc := cX0_leastPrice) (maxL := 3) (ret := (some .int)) (by decide) rfl ?_
  intro p e s m args below meth c s₁ B hml hv
  obtain ⟨rfl, hsz, hP, hK, hD0⟩ := hv
  have hx := B.exec
  have hb := B.bytes
  have hr := B.returns
  have hts := atoms_spec (ws := wsX0_leastPrice) B.pre
  have hown : s.vm.findClass RX0 = some m.cls := findClass_of_methodNamed B.named
  have hlocks := B.notSynchronized
  subst hsz
  have hD := hD0.self (sz := s.heap.size)
  generalize hAe : va_A ws s.heap.size = A at hD ⊢
  have hA : ∀ q : Nat, s.heap.size ≤ q → A q := fun q h => by rw [← hAe]; exact Or.inr h
  have hS : va_S A s.heap s.heap [] := va_S.rf
  have hsm : sm ρ [0] ws ws := sm.rf ws
  have htx : tyx tys tys := tyx.rf tys
  have hin0 : ∀ w ∈ u_ws RX0 TX0 14, w ∈ wsX0_leastPrice := (fun _ h9 => List.mem_cons_of_mem _ ((List.mem_append_right _ h9)))
  have hl := lv_entry ([.ref bl]) (n := 3) (Nat.le_of_ble_eq_true rfl)
  rw [lg_entry_eq]
  generalize (lg_sl ([.ref bl]) ++ List.replicate (3 - (lg_sl ([.ref bl])).length) Slot.unset).toArray = ls at hl ⊢
  have hl : lv_has ls 3 [(0, .ref bl)] := hl
  have hM0 := hMb 0 (by omega)
  have hM1 := hMb 1 (by omega)
  refine lv_aload_n hx hb dX0_leastPrice_0 rfl (lv_at hl 0 rfl) ?_
  refine lv_bipush (v := (-2)) hx hb dX0_leastPrice_1 (by decide) ?_
  refine va_put (D := D) (ci := 0) (v := .int (-2)) (ty := .int) (C := RX0) (T := TX0) (N := 14) hx hb hts hin0 tyX0 tyX0_ok nmX0 hown hK hP hD hS kbl ebl rfl 9 (by decide) (hts (.fieldLink RX0 55 "HoneyHouse$Blender" "bestPrice" "I") (List.mem_of_getElem? (i := 1) rfl)) (fun _ h9 => h9) rfl (tyX0_ok 9 (by decide)) rfl rfl (Nat.le_of_ble_eq_true rfl) dX0_leastPrice_3 (fun H locs hP hD hS => ?_)
  have hP : va_P D vwCl (ws.set kbl (bl, .inr (0, [.ref b0, .int b1, .ref b2, .ref b3, .ref b4, .ref b5, .ref b6, .ref b7, .int (nI (cB bits 10)), .int (-2), .int (nI pm), .int (nI (pm * 10 * wa)), .int (nI (pm * 10 * le)), .int (nI (pm * 10 * mo))]))) H := hP
  have hD : va_D A (ws.set kbl (bl, .inr (0, [.ref b0, .int b1, .ref b2, .ref b3, .ref b4, .ref b5, .ref b6, .ref b7, .int (nI (cB bits 10)), .int (-2), .int (nI pm), .int (nI (pm * 10 * wa)), .int (nI (pm * 10 * le)), .int (nI (pm * 10 * mo))]))) := hD
  have hm_2 : sm ρ [0] ws (ws.set kbl (bl, .inr (0, [.ref b0, .int b1, .ref b2, .ref b3, .ref b4, .ref b5, .ref b6, .ref b7, .int (nI (cB bits 10)), .int (-2), .int (nI pm), .int (nI (pm * 10 * wa)), .int (nI (pm * 10 * le)), .int (nI (pm * 10 * mo))]))) := sm.flds ebl (smF.c (smV.rf _) (smF.c (smV.rf _) (smF.c (smV.rf _) (smF.c (smV.rf _) (smF.c (smV.rf _) (smF.c (smV.rf _) (smF.c (smV.rf _) (smF.c (smV.rf _) (smF.c (smV.rf _) (smF.c (smV.i _ _) (smF.c (smV.rf _) (smF.c (smV.rf _) (smF.c (smV.rf _) (smF.c (smV.rf _) (rfl))))))))))))))) (List.mem_singleton.mpr rfl) w_kbl
  have e_3 : (ws.set kbl (bl, .inr (0, [.ref b0, .int b1, .ref b2, .ref b3, .ref b4, .ref b5, .ref b6, .ref b7, .int (nI (cB bits 10)), .int (-2), .int (nI pm), .int (nI (pm * 10 * wa)), .int (nI (pm * 10 * le)), .int (nI (pm * 10 * mo))])))[kbl]? = some (bl, .inr (0, [.ref b0, .int b1, .ref b2, .ref b3, .ref b4, .ref b5, .ref b6, .ref b7, .int (nI (cB bits 10)), .int (-2), .int (nI pm), .int (nI (pm * 10 * wa)), .int (nI (pm * 10 * le)), .int (nI (pm * 10 * mo))])) := wset_self ebl
  have e_4 := set_n (z := (bl, .inr (0, [.ref b0, .int b1, .ref b2, .ref b3, .ref b4, .ref b5, .ref b6, .ref b7, .int (nI (cB bits 10)), .int (-2), .int (nI pm), .int (nI (pm * 10 * wa)), .int (nI (pm * 10 * le)), .int (nI (pm * 10 * mo))]))) eb0 (pl_ne eb0 ebl (by intro h9; simp at h9))
  have e_5 := set_n (z := (bl, .inr (0, [.ref b0, .int b1, .ref b2, .ref b3, .ref b4, .ref b5, .ref b6, .ref b7, .int (nI (cB bits 10)), .int (-2), .int (nI pm), .int (nI (pm * 10 * wa)), .int (nI (pm * 10 * le)), .int (nI (pm * 10 * mo))]))) eb2 (pl_ne eb2 ebl (by intro h9; simp at h9))
  have e_6 := set_n (z := (bl, .inr (0, [.ref b0, .int b1, .ref b2, .ref b3, .ref b4, .ref b5, .ref b6, .ref b7, .int (nI (cB bits 10)), .int (-2), .int (nI pm), .int (nI (pm * 10 * wa)), .int (nI (pm * 10 * le)), .int (nI (pm * 10 * mo))]))) eb3 (pl_ne eb3 ebl (by intro h9; simp at h9))
  have e_7 := set_n (z := (bl, .inr (0, [.ref b0, .int b1, .ref b2, .ref b3, .ref b4, .ref b5, .ref b6, .ref b7, .int (nI (cB bits 10)), .int (-2), .int (nI pm), .int (nI (pm * 10 * wa)), .int (nI (pm * 10 * le)), .int (nI (pm * 10 * mo))]))) eb4 (pl_ne eb4 ebl (by intro h9; simp at h9))
  have e_8 := set_n (z := (bl, .inr (0, [.ref b0, .int b1, .ref b2, .ref b3, .ref b4, .ref b5, .ref b6, .ref b7, .int (nI (cB bits 10)), .int (-2), .int (nI pm), .int (nI (pm * 10 * wa)), .int (nI (pm * 10 * le)), .int (nI (pm * 10 * mo))]))) eb5 (pl_ne eb5 ebl (by intro h9; simp at h9))
  have e_9 := set_n (z := (bl, .inr (0, [.ref b0, .int b1, .ref b2, .ref b3, .ref b4, .ref b5, .ref b6, .ref b7, .int (nI (cB bits 10)), .int (-2), .int (nI pm), .int (nI (pm * 10 * wa)), .int (nI (pm * 10 * le)), .int (nI (pm * 10 * mo))]))) eb6 (pl_ne eb6 ebl (by intro h9; simp at h9))
  have e_10 := set_n (z := (bl, .inr (0, [.ref b0, .int b1, .ref b2, .ref b3, .ref b4, .ref b5, .ref b6, .ref b7, .int (nI (cB bits 10)), .int (-2), .int (nI pm), .int (nI (pm * 10 * wa)), .int (nI (pm * 10 * le)), .int (nI (pm * 10 * mo))]))) eb7 (pl_ne eb7 ebl (by intro h9; simp at h9))
  generalize ws.set kbl (bl, .inr (0, [.ref b0, .int b1, .ref b2, .ref b3, .ref b4, .ref b5, .ref b6, .ref b7, .int (nI (cB bits 10)), .int (-2), .int (nI pm), .int (nI (pm * 10 * wa)), .int (nI (pm * 10 * le)), .int (nI (pm * 10 * mo))])) = ws_1 at hP hD hm_2 e_3 e_4 e_5 e_6 e_7 e_8 e_9 e_10
  have hsm := hsm.tr (hm_2.mono (by decide))
  refine lv_iconst (v := 0) hx hb dX0_leastPrice_6 (by decide) ?_
  refine lv_istore_n (lv' := [(1, .int 0), (0, .ref bl)]) hx hb dX0_leastPrice_7 rfl hl (by decide) rfl (fun ls hl => ?_)
  refine lp_V (nL := 3) (σ := Nat × Int32 × (Nat → Int32)) (lv := fun x9 => [(1, .int (nI x9.1)), (0, .ref bl)]) (μ := fun x9 => pm + 1 - x9.1) (J := fun x9 ws9 => sm ρ [0] ws_1 ws9 ∧ (ws9[kbl]? = some (bl, .inr (0, [.ref b0, .int b1, .ref b2, .ref b3, .ref b4, .ref b5, .ref b6, .ref b7, .int (nI (cB bits 10)), .int x9.2.1, .int (nI pm), .int (nI (pm * 10 * wa)), .int (nI (pm * 10 * le)), .int (nI (pm * 10 * mo))]))) ∧ (ws9[kb3]? = some (b3, .inl (cb3, 4, .inl fb3))) ∧ (ws9[kb4]? = some (b4, .inl (cb4, 4, .inl fb4))) ∧ (ws9[kb5]? = some (b5, .inl (cb5, 4, .inl fb5))) ∧ (ws9[kb6]? = some (b6, .inl (cb6, 4, .inl fb6))) ∧ (ws9[kb2]? = some (b2, .inl (cb2, 4, .inl fb2))) ∧ (ws9[kb0]? = some (b0, .inl (cb0, 10, .inl fb0))) ∧ (ws9[kb7]? = some (b7, .inl (cb7, 4, .inl x9.2.2))) ∧ (x9.1 ≤ pm + 1) ∧ (bX (bF mM mW mC pm wa le mo) (mix mP pm) pm x9.2.1 x9.2.2 x9.1 0 0)) (fun x9 ws_17 H locs ls hj hP hD hS hl ih_11 => ?_) (0, (-2), fb7) ws_1 _ _ ls ⟨sm.rf _, e_3, e_6, e_7, e_8, e_9, e_5, e_4, e_10, (show 0 ≤ pm + 1 from by omega), (show bX (bF mM mW mC pm wa le mo) (mix mP pm) pm (-2) fb7 0 0 0 from bX_0)⟩ hP hD hS (lv_sub hl [0, 1] rfl)
  obtain ⟨a_12, y9_13, f7_14⟩ := x9
  replace hj : sm ρ [0] ws_1 ws_17 ∧ (ws_17[kbl]? = some (bl, .inr (0, [.ref b0, .int b1, .ref b2, .ref b3, .ref b4, .ref b5, .ref b6, .ref b7, .int (nI (cB bits 10)), .int y9_13, .int (nI pm), .int (nI (pm * 10 * wa)), .int (nI (pm * 10 * le)), .int (nI (pm * 10 * mo))]))) ∧ (ws_17[kb3]? = some (b3, .inl (cb3, 4, .inl fb3))) ∧ (ws_17[kb4]? = some (b4, .inl (cb4, 4, .inl fb4))) ∧ (ws_17[kb5]? = some (b5, .inl (cb5, 4, .inl fb5))) ∧ (ws_17[kb6]? = some (b6, .inl (cb6, 4, .inl fb6))) ∧ (ws_17[kb2]? = some (b2, .inl (cb2, 4, .inl fb2))) ∧ (ws_17[kb0]? = some (b0, .inl (cb0, 10, .inl fb0))) ∧ (ws_17[kb7]? = some (b7, .inl (cb7, 4, .inl f7_14))) ∧ (a_12 ≤ pm + 1) ∧ (bX (bF mM mW mC pm wa le mo) (mix mP pm) pm y9_13 f7_14 a_12 0 0) := hj
  obtain ⟨hm_18, e_20, e_21, e_22, e_23, e_24, e_25, e_26, e_27, ha_15, hs1_16⟩ := hj
  obtain ⟨g_29, e_28, h_30⟩ := hm_18.obj e_3
  obtain ⟨z_31, z_32, z_33, z_34, z_35, z_36, z_37, rfl⟩ := smX0 h_30
  obtain ⟨f_39, e_38⟩ := hm_18.arrI e_4
  obtain ⟨f_41, e_40⟩ := hm_18.arrI e_5
  obtain ⟨f_43, e_42⟩ := hm_18.arrI e_6
  obtain ⟨f_45, e_44⟩ := hm_18.arrI e_7
  obtain ⟨f_47, e_46⟩ := hm_18.arrI e_8
  obtain ⟨f_49, e_48⟩ := hm_18.arrI e_9
  obtain ⟨f_51, e_50⟩ := hm_18.arrI e_10
  have hsm := hsm.tr (hm_18.mono (by decide))
  have hlp_19 := hm_18
  have hl : lv_has ls 3 [(1, .int (nI a_12)), (0, .ref bl)] := hl
  refine lv_iload_n hx hb dX0_leastPrice_8 rfl (lv_at hl 0 rfl) ?_
  refine lv_aload_n hx hb dX0_leastPrice_9 rfl (lv_at hl 1 rfl) ?_
  refine va_get (D := D) (ci := 0) (v := .ref b3) (C := RX0) (T := TX0) (N := 14) hx hb hts hin0 hown hK hP kbl e_20 rfl 3 (by decide) (hts (.fieldLink RX0 18 "HoneyHouse$Blender" "mostParts" "[I") (List.mem_of_getElem? (i := 2) rfl)) (fun _ h9 => h9) rfl dX0_leastPrice_10 ?_
  refine lv_iconst (v := 0) hx hb dX0_leastPrice_13 (by decide) ?_
  refine va_iald (f := fb3) (n := 4) hx hb hK hP kb3 tb3 e_21 ub3 (vp_in_iff.mpr (by decide)) dX0_leastPrice_14 ?_
  refine tp_i (y := nI (mM 0)) (h3 0 (by omega)) ?_
  refine lv_aload_n hx hb dX0_leastPrice_15 rfl (lv_at hl 1 rfl) ?_
  refine va_get (D := D) (ci := 0) (v := .int (nI pm)) (C := RX0) (T := TX0) (N := 14) hx hb hts hin0 hown hK hP kbl e_20 rfl 10 (by decide) (hts (.fieldLink RX0 43 "HoneyHouse$Blender" "partsInAll" "I") (List.mem_of_getElem? (i := 3) rfl)) (fun _ h9 => h9) rfl dX0_leastPrice_16 ?_
  refine va_mmin hx hb (by rw [hml]; exact hl.1.symm) hown (hts (.methodLink RX0 58 Lib.Math.min.name) (List.mem_of_getElem? (i := 4) rfl)) (hts (.static Lib.Math.min.name) (List.mem_of_getElem? (i := 5) rfl)) (hts (.initialized "java/lang/Math") (List.mem_of_getElem? (i := 6) rfl)) (hts (.code Lib.Math.min.name Lib.Math.min.code 2 (some .int)) (List.mem_of_getElem? (i := 7) rfl)) (Nat.le_of_ble_eq_true rfl) (Nat.le_of_ble_eq_true rfl) (Nat.le_of_ble_eq_true rfl) (Nat.le_of_ble_eq_true rfl) dX0_leastPrice_19 ?_
  refine lv_topi (fun z_52 hz_53 => ?_)
  obtain rfl : z_52 = nI (min (mM 0) pm) := hz_53.trans (mi_s (by omega) (by omega))
  refine lv_icmp_gt (tgt := 64) hx hb dX0_leastPrice_22 (by decide) (fun c_54 => ?_) (fun c_54 => ?_)
  · have d_55 := n_lt (a := min (mM 0) pm) (b := a_12) (by omega) (by omega) c_54
    have hlx := rn_a (M := mM) (W := mW) (C := mC) (m := pm) (wa := wa) (le := le) (mo := mo) (x := a_12) (fun k9 b8 c8 h9 h8 => by have := h8.1; have := h8.2.2.2.1; omega)
    rcases hs1_16 with ⟨hv_65, hN_64⟩ | ⟨x_56, y_57, z_58, hS_59, hv_65, h_60, h_61, h_62, h_63⟩
    · refine lv_aload_n hx hb dX0_leastPrice_64 rfl (lv_at hl 1 rfl) ?_
      refine va_get (D := D) (ci := 0) (v := .int y9_13) (C := RX0) (T := TX0) (N := 14) hx hb hts hin0 hown hK hP kbl e_20 rfl 9 (by decide) (hts (.fieldLink RX0 55 "HoneyHouse$Blender" "bestPrice" "I") (List.mem_of_getElem? (i := 1) rfl)) (fun _ h9 => h9) rfl dX0_leastPrice_65 ?_
      refine tp_i (y := (-2)) (hv_65) ?_
      refine lv_bipush (v := (-2)) hx hb dX0_leastPrice_68 (by decide) ?_
      refine lv_icmp_eq (tgt := 77) hx hb dX0_leastPrice_70 (by decide) (fun c_66 => ?_) (fun c_66 => absurd (by decide) c_66)
      refine lv_aload_n hx hb dX0_leastPrice_77 rfl (lv_at hl 1 rfl) ?_
      refine va_get (D := D) (ci := 0) (v := .int y9_13) (C := RX0) (T := TX0) (N := 14) hx hb hts hin0 hown hK hP kbl e_20 rfl 9 (by decide) (hts (.fieldLink RX0 55 "HoneyHouse$Blender" "bestPrice" "I") (List.mem_of_getElem? (i := 1) rfl)) (fun _ h9 => h9) rfl dX0_leastPrice_78 ?_
      exact W.iret (v := y9_13) hx hb hr (fun t ht hW => ⟨⟨y9_13, (), rfl, trivial, ws_17, tys, hsm, htx, by rw [ht]; exact hP, va_K.moved hW.alike hK, hD, Or.inl ⟨y9_13, f7_14, e_20, e_27, e_26, bN.e hN_64 hlx⟩⟩, hS.F ht⟩) hS.2.2 dX0_leastPrice_81
    have hmq : mix mP pm x_56 y_57 z_58 ≤ pm * 10000 := mix_le hPb hS_59.2.1.1.2.2.2.1
    refine lv_aload_n hx hb dX0_leastPrice_64 rfl (lv_at hl 1 rfl) ?_
    refine va_get (D := D) (ci := 0) (v := .int y9_13) (C := RX0) (T := TX0) (N := 14) hx hb hts hin0 hown hK hP kbl e_20 rfl 9 (by decide) (hts (.fieldLink RX0 55 "HoneyHouse$Blender" "bestPrice" "I") (List.mem_of_getElem? (i := 1) rfl)) (fun _ h9 => h9) rfl dX0_leastPrice_65 ?_
    refine tp_i (y := nI (mix mP pm x_56 y_57 z_58)) (hv_65) ?_
    refine lv_bipush (v := (-2)) hx hb dX0_leastPrice_68 (by decide) ?_
    refine lv_icmp_eq (tgt := 77) hx hb dX0_leastPrice_70 (by decide) (fun c_67 => absurd c_67 (nI_m2 (by omega))) (fun c_67 => ?_)
    refine lv_aload_n hx hb dX0_leastPrice_73 rfl (lv_at hl 1 rfl) ?_
    have hFc := free_all hD hS hA
    refine va_callv (va_runV (As := []) (rest := []) ⟨hx, hb, hml, hown, hts⟩ (a_keepBest l D (rz [kb0, kbl]) ws_17 tys bl kbl b0 b2 b3 b4 b5 b6 b7 b1 y9_13 (nI pm) (nI (pm * 10 * wa)) (nI (pm * 10 * le)) (nI (pm * 10 * mo)) kb0 cb0 tb0 fb0 kb2 cb2 tb2 fb2 kb7 cb7 tb7 f7_14 bits H.size hc4 h2 e_20 e_26 ub0 e_25 ub2 e_27 ub7 (rz_in (by simp)) (rz_in (by simp))) (cwV 0 hts gX0_leastPrice_X0_keepBest rfl rfl rfl (by decide +kernel) ⟨Nat.le_of_ble_eq_true rfl, Nat.le_of_ble_eq_true rfl⟩) ⟨fun a U g mk q => by obtain ⟨q0, q1, qP, qK, qD⟩ := q; exact ⟨q0, q1, qP, va_K.moved (u := U) (U := U.calling g mk a) (Vm.Alike.refl U.vm) qK, qD⟩, va_recv hK hP (ci := 0) (q0 := kbl) rfl e_20, fun U hU hW => ⟨rfl, by rw [hU], by rw [hU]; exact hP, va_K.moved hW.alike hK, hD.weaken (fun _ _ _ _ => trivial)⟩⟩ rfl rfl hl.1 rfl (lv_room (Nat.le_of_ble_eq_true rfl)) dX0_leastPrice_74 ⟨Nat.le_of_ble_eq_true rfl, Nat.le_of_ble_eq_true rfl⟩) hS (fun q _ h => hFc q h) hFc (fun u t H1 locs ht hvm w_68 hB hz1 hk1 hS => ?_)
    obtain ⟨ws_69, ty_70, hm_71, ht_73, hP1, hK1, hD1, hx_72⟩ := hB
    rw [ht] at hP1
    have hK := va_K.moved hvm.symm hK1
    have hD := hD1.weaken (fun _ _ _ h => hFc _ h)
    generalize H1 = H at hP1 hS ⊢
    have hP := hP1
    have e_75 := hm_71.keep (rz_o2 (pl_ne e_25 e_26 (by intro h9; simp at h9)) (pl_ne e_25 e_20 (by intro h9; simp at h9))) e_25
    have e_76 := hm_71.keep (rz_o2 (pl_ne e_21 e_26 (by intro h9; simp at h9)) (pl_ne e_21 e_20 (by intro h9; simp at h9))) e_21
    have e_77 := hm_71.keep (rz_o2 (pl_ne e_22 e_26 (by intro h9; simp at h9)) (pl_ne e_22 e_20 (by intro h9; simp at h9))) e_22
    have e_78 := hm_71.keep (rz_o2 (pl_ne e_23 e_26 (by intro h9; simp at h9)) (pl_ne e_23 e_20 (by intro h9; simp at h9))) e_23
    have e_79 := hm_71.keep (rz_o2 (pl_ne e_24 e_26 (by intro h9; simp at h9)) (pl_ne e_24 e_20 (by intro h9; simp at h9))) e_24
    have e_80 := hm_71.keep (rz_o2 (pl_ne e_27 e_26 (by intro h9; simp at h9)) (pl_ne e_27 e_20 (by intro h9; simp at h9))) e_27
    have u_81 := ht_73 _ _ ub0
    have u_82 := ht_73 _ _ ub2
    have u_83 := ht_73 _ _ ub3
    have u_84 := ht_73 _ _ ub4
    have u_85 := ht_73 _ _ ub5
    have u_86 := ht_73 _ _ ub6
    have u_87 := ht_73 _ _ ub7
    have hm_88 : sm ρ [0] ws_17 ws_69 := hm_71.up (fun k _ h => rz_u2 w_kb0 w_kbl k h)
    have hsm := hsm.tr (hm_88.mono (by decide))
    have hlp_19 := hlp_19.tr (hm_88.mono (by decide))
    have htx := htx.tr ht_73
    obtain ⟨f_89, e_90, g_92, e_91⟩ := hx_72
    refine lv_aload_n hx hb dX0_leastPrice_77 rfl (lv_at hl 1 rfl) ?_
    refine va_get (D := D) (ci := 0) (v := .int y9_13) (C := RX0) (T := TX0) (N := 14) hx hb hts hin0 hown hK hP kbl e_91 rfl 9 (by decide) (hts (.fieldLink RX0 55 "HoneyHouse$Blender" "bestPrice" "I") (List.mem_of_getElem? (i := 1) rfl)) (fun _ h9 => h9) rfl dX0_leastPrice_78 ?_
    exact W.iret (v := y9_13) hx hb hr (fun t ht hW => ⟨⟨y9_13, (), rfl, trivial, ws_69, ty_70, hsm, htx, by rw [ht]; exact hP, va_K.moved hW.alike hK, hD, Or.inr ⟨y9_13, f7_14, f_89, x_56, y_57, z_58, e_91, e_80, e_90, bS.e hS_59 hlx, pt_of hc4 g_92 h_60 h_61 h_62 h_63⟩⟩, hS.F ht⟩) hS.2.2 dX0_leastPrice_81
  have d_93 := n_nlt (a := min (mM 0) pm) (b := a_12) (by omega) (by omega) c_54
  refine lv_iconst (v := 0) hx hb dX0_leastPrice_25 (by decide) ?_
  refine lv_istore_n (lv' := [(2, .int 0), (1, .int (nI a_12)), (0, .ref bl)]) hx hb dX0_leastPrice_26 rfl hl (by decide) rfl (fun ls hl => ?_)
  refine lp_V (nL := 3) (σ := Nat × Int32 × (Nat → Int32)) (lv := fun x9 => [(2, .int (nI x9.1)), (1, .int (nI a_12)), (0, .ref bl)]) (μ := fun x9 => pm + 1 - x9.1) (J := fun x9 ws9 => sm ρ [0] ws_17 ws9 ∧ (ws9[kbl]? = some (bl, .inr (0, [.ref b0, .int b1, .ref b2, .ref b3, .ref b4, .ref b5, .ref b6, .ref b7, .int (nI (cB bits 10)), .int x9.2.1, .int (nI pm), .int (nI (pm * 10 * wa)), .int (nI (pm * 10 * le)), .int (nI (pm * 10 * mo))]))) ∧ (ws9[kb3]? = some (b3, .inl (cb3, 4, .inl fb3))) ∧ (ws9[kb4]? = some (b4, .inl (cb4, 4, .inl fb4))) ∧ (ws9[kb5]? = some (b5, .inl (cb5, 4, .inl fb5))) ∧ (ws9[kb6]? = some (b6, .inl (cb6, 4, .inl fb6))) ∧ (ws9[kb2]? = some (b2, .inl (cb2, 4, .inl fb2))) ∧ (ws9[kb0]? = some (b0, .inl (cb0, 10, .inl fb0))) ∧ (ws9[kb7]? = some (b7, .inl (cb7, 4, .inl x9.2.2))) ∧ (x9.1 ≤ pm + 1) ∧ (bX (bF mM mW mC pm wa le mo) (mix mP pm) pm x9.2.1 x9.2.2 a_12 x9.1 0)) (fun x9 ws_100 H locs ls hj hP hD hS hl ih_94 => ?_) (0, y9_13, f7_14) ws_17 _ _ ls ⟨sm.rf _, e_20, e_21, e_22, e_23, e_24, e_25, e_26, e_27, (show 0 ≤ pm + 1 from by omega), (show bX (bF mM mW mC pm wa le mo) (mix mP pm) pm y9_13 f7_14 a_12 0 0 from hs1_16)⟩ hP hD hS (lv_sub hl [0, 1, 2] rfl)
  obtain ⟨b_95, y8_96, f8_97⟩ := x9
  replace hj : sm ρ [0] ws_17 ws_100 ∧ (ws_100[kbl]? = some (bl, .inr (0, [.ref b0, .int b1, .ref b2, .ref b3, .ref b4, .ref b5, .ref b6, .ref b7, .int (nI (cB bits 10)), .int y8_96, .int (nI pm), .int (nI (pm * 10 * wa)), .int (nI (pm * 10 * le)), .int (nI (pm * 10 * mo))]))) ∧ (ws_100[kb3]? = some (b3, .inl (cb3, 4, .inl fb3))) ∧ (ws_100[kb4]? = some (b4, .inl (cb4, 4, .inl fb4))) ∧ (ws_100[kb5]? = some (b5, .inl (cb5, 4, .inl fb5))) ∧ (ws_100[kb6]? = some (b6, .inl (cb6, 4, .inl fb6))) ∧ (ws_100[kb2]? = some (b2, .inl (cb2, 4, .inl fb2))) ∧ (ws_100[kb0]? = some (b0, .inl (cb0, 10, .inl fb0))) ∧ (ws_100[kb7]? = some (b7, .inl (cb7, 4, .inl f8_97))) ∧ (b_95 ≤ pm + 1) ∧ (bX (bF mM mW mC pm wa le mo) (mix mP pm) pm y8_96 f8_97 a_12 b_95 0) := hj
  obtain ⟨hm_101, e_103, e_104, e_105, e_106, e_107, e_108, e_109, e_110, hb_98, hs2_99⟩ := hj
  obtain ⟨g_112, e_111, h_113⟩ := hm_101.obj e_20
  obtain ⟨z_114, z_115, z_116, z_117, z_118, z_119, z_120, rfl⟩ := smX0 h_113
  obtain ⟨f_122, e_121⟩ := hm_101.arrI e_26
  obtain ⟨f_124, e_123⟩ := hm_101.arrI e_25
  obtain ⟨f_126, e_125⟩ := hm_101.arrI e_21
  obtain ⟨f_128, e_127⟩ := hm_101.arrI e_22
  obtain ⟨f_130, e_129⟩ := hm_101.arrI e_23
  obtain ⟨f_132, e_131⟩ := hm_101.arrI e_24
  obtain ⟨f_134, e_133⟩ := hm_101.arrI e_27
  have hsm := hsm.tr (hm_101.mono (by decide))
  have hlp_19 := hlp_19.tr (hm_101.mono (by decide))
  have hlp_102 := hm_101
  have hl : lv_has ls 3 [(2, .int (nI b_95)), (1, .int (nI a_12)), (0, .ref bl)] := hl
  refine lv_iload_n hx hb dX0_leastPrice_27 rfl (lv_at hl 0 rfl) ?_
  refine lv_aload_n hx hb dX0_leastPrice_28 rfl (lv_at hl 2 rfl) ?_
  refine va_get (D := D) (ci := 0) (v := .ref b3) (C := RX0) (T := TX0) (N := 14) hx hb hts hin0 hown hK hP kbl e_103 rfl 3 (by decide) (hts (.fieldLink RX0 18 "HoneyHouse$Blender" "mostParts" "[I") (List.mem_of_getElem? (i := 2) rfl)) (fun _ h9 => h9) rfl dX0_leastPrice_29 ?_
  refine lv_iconst (v := 1) hx hb dX0_leastPrice_32 (by decide) ?_
  refine va_iald (f := fb3) (n := 4) hx hb hK hP kb3 tb3 e_104 ub3 (vp_in_iff.mpr (by decide)) dX0_leastPrice_33 ?_
  refine tp_i (y := nI (mM 1)) (h3 1 (by omega)) ?_
  refine lv_aload_n hx hb dX0_leastPrice_34 rfl (lv_at hl 2 rfl) ?_
  refine va_get (D := D) (ci := 0) (v := .int (nI pm)) (C := RX0) (T := TX0) (N := 14) hx hb hts hin0 hown hK hP kbl e_103 rfl 10 (by decide) (hts (.fieldLink RX0 43 "HoneyHouse$Blender" "partsInAll" "I") (List.mem_of_getElem? (i := 3) rfl)) (fun _ h9 => h9) rfl dX0_leastPrice_35 ?_
  refine lv_iload_n hx hb dX0_leastPrice_38 rfl (lv_at hl 1 rfl) ?_
  refine lv_isub hx hb dX0_leastPrice_39 ?_
  refine tp_i (y := nI (pm - a_12)) (pk_sub (a := pm) (b := a_12) (by omega)) ?_
  refine va_mmin hx hb (by rw [hml]; exact hl.1.symm) hown (hts (.methodLink RX0 58 Lib.Math.min.name) (List.mem_of_getElem? (i := 4) rfl)) (hts (.static Lib.Math.min.name) (List.mem_of_getElem? (i := 5) rfl)) (hts (.initialized "java/lang/Math") (List.mem_of_getElem? (i := 6) rfl)) (hts (.code Lib.Math.min.name Lib.Math.min.code 2 (some .int)) (List.mem_of_getElem? (i := 7) rfl)) (Nat.le_of_ble_eq_true rfl) (Nat.le_of_ble_eq_true rfl) (Nat.le_of_ble_eq_true rfl) (Nat.le_of_ble_eq_true rfl) dX0_leastPrice_40 ?_
  refine lv_topi (fun z_135 hz_136 => ?_)
  obtain rfl : z_135 = nI (min (mM 1) (pm - a_12)) := hz_136.trans (mi_s (by omega) (by omega))
  refine lv_icmp_gt (tgt := 58) hx hb dX0_leastPrice_43 (by decide) (fun c_137 => ?_) (fun c_137 => ?_)
  · have d_138 := n_lt (a := min (mM 1) (pm - a_12)) (b := b_95) (by omega) (by omega) c_137
    refine lv_iinc (v := nI (a_12 + 1)) (lv' := [(1, .int (nI (a_12 + 1))), (2, .int (nI b_95)), (0, .ref bl)]) hx hb dX0_leastPrice_58 hl (k := 1) rfl (nI_add a_12 1) (by decide) rfl (fun ls hl => ?_)
    refine lv_goto (tgt := 8) hx hb dX0_leastPrice_61 (by decide) ?_
    exact ih_11 (a_12 + 1, y8_96, f8_97) ws_100 _ _ ls (by show pm + 1 - (a_12 + 1) < pm + 1 - a_12; omega) ⟨hlp_19, e_103, e_104, e_105, e_106, e_107, e_108, e_109, e_110, (show (a_12 + 1) ≤ pm + 1 from by omega), (show bX (bF mM mW mC pm wa le mo) (mix mP pm) pm y8_96 f8_97 (a_12 + 1) 0 0 from bX_to hs2_99 lx_a (rn_b (fun k9 c8 h9 h8 => by have := h8.2.1; have := h8.2.2.2.1; omega)))⟩ hP hD hS (lv_sub hl [0, 2] rfl)
  have d_139 := n_nlt (a := min (mM 1) (pm - a_12)) (b := b_95) (by omega) (by omega) c_137
  refine lv_aload_n hx hb dX0_leastPrice_46 rfl (lv_at hl 2 rfl) ?_
  refine lv_iload_n hx hb dX0_leastPrice_47 rfl (lv_at hl 1 rfl) ?_
  refine lv_iload_n hx hb dX0_leastPrice_48 rfl (lv_at hl 0 rfl) ?_
  have hFc := free_all hD hS hA
  refine va_callv (va_runV (As := [.int (nI a_12), .int (nI b_95)]) (rest := []) ⟨hx, hb, hml, hown, hts⟩ (a_tryWith l D (rz [kbl, kb7]) ws_100 tys bl kbl b0 b2 b3 b4 b5 b6 b7 b1 (nI (cB bits 10)) y8_96 kb3 cb3 tb3 fb3 kb4 cb4 tb4 fb4 kb5 cb5 tb5 fb5 kb6 cb6 tb6 fb6 kb7 cb7 tb7 f8_97 mM mW mC mP pm wa le mo a_12 b_95 H.size hpm hwa hle hmo hMb hWb hCb hPb h3 h4 h5 h6 (by omega) (by omega) (by omega) hs2_99 ⟨by omega, by omega, by omega, by omega⟩ e_103 e_104 ub3 e_105 ub4 e_106 ub5 e_107 ub6 e_110 ub7 (rz_in (by simp)) (rz_in (by simp))) (cwV 2 hts gX0_leastPrice_X0_tryWith rfl rfl rfl (by decide +kernel) ⟨Nat.le_of_ble_eq_true rfl, Nat.le_of_ble_eq_true rfl⟩) ⟨fun a U g mk q => by obtain ⟨q0, q1, qP, qK, qD⟩ := q; exact ⟨q0, q1, qP, va_K.moved (u := U) (U := U.calling g mk a) (Vm.Alike.refl U.vm) qK, qD⟩, va_recv hK hP (ci := 0) (q0 := kbl) rfl e_103, fun U hU hW => ⟨rfl, by rw [hU], by rw [hU]; exact hP, va_K.moved hW.alike hK, hD.weaken (fun _ _ _ _ => trivial)⟩⟩ rfl rfl hl.1 rfl (lv_room (Nat.le_of_ble_eq_true rfl)) dX0_leastPrice_49 ⟨Nat.le_of_ble_eq_true rfl, Nat.le_of_ble_eq_true rfl⟩) hS (fun q _ h => hFc q h) hFc (fun u t H1 locs ht hvm w_140 hB hz1 hk1 hS => ?_)
  obtain ⟨ws_141, ty_142, hm_143, ht_145, hP1, hK1, hD1, hx_144⟩ := hB
  rw [ht] at hP1
  have hK := va_K.moved hvm.symm hK1
  have hD := hD1.weaken (fun _ _ _ h => hFc _ h)
  generalize H1 = H at hP1 hS ⊢
  have hP := hP1
  have e_147 := hm_143.keep (rz_o2 (pl_ne e_109 e_103 (by intro h9; simp at h9)) (pl_ne e_109 e_110 (by intro h9; simp at h9))) e_109
  have e_148 := hm_143.keep (rz_o2 (pl_ne e_108 e_103 (by intro h9; simp at h9)) (show kb2 ≠ kb7 by omega)) e_108
  have e_149 := hm_143.keep (rz_o2 (pl_ne e_104 e_103 (by intro h9; simp at h9)) (show kb3 ≠ kb7 by omega)) e_104
  have e_150 := hm_143.keep (rz_o2 (pl_ne e_105 e_103 (by intro h9; simp at h9)) (show kb4 ≠ kb7 by omega)) e_105
  have e_151 := hm_143.keep (rz_o2 (pl_ne e_106 e_103 (by intro h9; simp at h9)) (show kb5 ≠ kb7 by omega)) e_106
  have e_152 := hm_143.keep (rz_o2 (pl_ne e_107 e_103 (by intro h9; simp at h9)) (show kb6 ≠ kb7 by omega)) e_107
  have u_153 := ht_145 _ _ ub0
  have u_154 := ht_145 _ _ ub2
  have u_155 := ht_145 _ _ ub3
  have u_156 := ht_145 _ _ ub4
  have u_157 := ht_145 _ _ ub5
  have u_158 := ht_145 _ _ ub6
  have u_159 := ht_145 _ _ ub7
  have hm_160 : sm ρ [0] ws_100 ws_141 := hm_143.up (fun k _ h => rz_u2 w_kbl w_kb7 k h)
  have hsm := hsm.tr (hm_160.mono (by decide))
  have hlp_19 := hlp_19.tr (hm_160.mono (by decide))
  have hlp_102 := hlp_102.tr (hm_160.mono (by decide))
  have htx := htx.tr ht_145
  obtain ⟨y_161, f_162, e_163, e_164, hs_165⟩ := hx_144
  refine lv_iinc (v := nI (b_95 + 1)) (lv' := [(2, .int (nI (b_95 + 1))), (1, .int (nI a_12)), (0, .ref bl)]) hx hb dX0_leastPrice_52 hl (k := 0) rfl (nI_add b_95 1) (by decide) rfl (fun ls hl => ?_)
  refine lv_goto (tgt := 27) hx hb dX0_leastPrice_55 (by decide) ?_
  exact ih_94 (b_95 + 1, y_161, f_162) ws_141 _ _ ls (by show pm + 1 - (b_95 + 1) < pm + 1 - b_95; omega) ⟨hlp_102, e_163, e_149, e_150, e_151, e_152, e_148, e_147, e_164, (show (b_95 + 1) ≤ pm + 1 from by omega), (show bX (bF mM mW mC pm wa le mo) (mix mP pm) pm y_161 f_162 a_12 (b_95 + 1) 0 from hs_165)⟩ hP hD hS (lv_sub hl [0, 1, 2] rfl)
theorem bm_d {fv : Nat → Nat → Int32} {n t : Nat} {a : Int32} (V : NV fv n) (ht : t < 10) (h : bB a t) : mall (fv 9) t 40 / 1000 = nI (bM fv a (cB a t)) := by
  obtain ⟨w, hw, e⟩ := mall_tot V (t := t) (by omega)
  rw [bM_at ht h, (cl_n e (by omega)).1, e]
  exact dv_n (k := 1000) (by omega) (by omega)
theorem bt_x {fv : Nat → Nat → Int32} {f : Nat → Int32} {n t : Nat} {q : Int32} (hn : n ≤ 40) (hf : ∀ i : Nat, i < 40 → f i = fv 9 (40 * t + i)) : tld fv f n (mall (fv 9) t 40) (fv 10 t) q = bT fv n t q := tld_cg (fun i hi => hf i (by omega))
theorem bw_x {fv : Nat → Nat → Int32} {n t : Nat} {a : Int32} (V : NV fv n) (X : WV fv n) (hn : n ≤ 40) (ht : t < 10) (h : bB a t) (h0 : ¬ mall (fv 9) t 40 = 0) : bT fv n t 0 = nI (bW fv n a (cB a t)) ∧ bT fv n t 1 = nI (bC fv n a (cB a t)) ∧ fv 12 t = nI (bP fv a (cB a t)) := by
  obtain ⟨w1, b1, e1⟩ := bT_w V X hn ht h0
  obtain ⟨w2, b2, e2⟩ := bT_c V X hn ht h0
  obtain ⟨w3, b3, e3⟩ := X.2 t ht
  rw [bW_at ht h, bC_at ht h, bP_at ht h]
  exact ⟨(cl_n e1 (by omega)).2, (cl_n e2 (by omega)).2, (cl_n e3 (by omega)).2⟩
theorem rw_b {f f' : Nat → Int32} {c c' : Nat} {φ : Nat → Nat} {v : Int32} (h : ∀ k : Nat, k < c → f k = nI (φ k)) (e : f' = upd f c v) (hv : v = nI (φ c)) (hc : c' = c + 1) : ∀ k : Nat, k < c' → f' k = nI (φ k) := fun k hk => by
  rw [e]
  rcases Nat.decEq k c with q | q
  · rw [upd_n q]; exact h k (by omega)
  · rw [q, upd_s]; exact hv
theorem bM_z {fv : Nat → Nat → Int32} {a : Int32} {k : Nat} (h : cB a 10 ≤ k) : bM fv a k = 0 := if_neg (by omega)
set_option maxHeartbeats 4000000 in
set_option maxRecDepth 100000 in
theorem h_blend (l : Launch) (D : va_G) (ρ : Nat → Nat) (ws : va_W) (tys : List (ClassId × FieldType)) (fv : Nat → Nat → Int32) (h0 lc bc rc fc : Nat) (dn : Int32) (tl : Nat) (a1 a2 a3 a4 a5 : Int32) (sz : Nat) (X : XI ρ fv ws tys h0 lc bc rc fc dn tl) (V : NV fv lc) (X9 : WV fv lc) : Met l yX8_blend wsX8_blend ({ frames := 5, cells := 0, slots := 0, locals := 111 }) (va_Pc [.ref h0, .int a1, .int a2, .int a3, .int a4, .int a5] (fun U => U.heap.size = sz ∧ va_P D vwCl ws U.heap ∧ va_K D vwCl tys U ∧ va_D (fun _ => True) ws ∧ NZ U)) (va_Qi (fun (r : Int32) (_ : Unit) => True) (fun (_ : Unit) (t : State) => ∃ (ws' : va_W) (tys' : List (ClassId × FieldType)), tyx tys tys' ∧ va_P D vwCl ws' t.heap ∧ va_K D vwCl tys' t ∧ va_D (va_A ws sz) ws' ∧ ((bNo fv lc a1 a2 a3 a4 a5 ∧ XI ρ fv ws' tys' h0 lc bc rc fc dn tl) ∨ (∃ g : Nat → Int32, bTd fv lc a1 a2 a3 a4 a5 g ∧ XI ρ (uF (uF fv 36 g) 35 (fun _ => 1)) ws' tys' h0 lc bc rc fc dn tl))) (va_A ws sz)) 0 0 (va_A ws sz) := by
  refine Met.ofW (cc := cX8_blend) (maxL := 9) (ret := (some .int)) (by decide) rfl ?_
  intro p e s m args below meth c s₁ B hml hv
  obtain ⟨rfl, hsz, hP, hK, hD0, hnz⟩ := hv
  have hx := B.exec
  have hb := B.bytes
  have hr := B.returns
  have hts := atoms_spec (ws := wsX8_blend) B.pre
  have hown : s.vm.findClass RX8 = some m.cls := findClass_of_methodNamed B.named
  have hlocks := B.notSynchronized
  subst hsz
  have hD := hD0.self (sz := s.heap.size)
  generalize hAe : va_A ws s.heap.size = A at hD ⊢
  have hA : ∀ q : Nat, s.heap.size ≤ q → A q := fun q h => by rw [← hAe]; exact Or.inr h
  have hS : va_S A s.heap s.heap [] := va_S.rf
  have hsm : sm (uy ρ [8009]) [0] ws ws := sm.rf ws
  have htx : tyx tys tys := tyx.rf tys
  have hin7 : ∀ w ∈ u_ws RX7 TX7 5, w ∈ wsX8_blend := (fun _ h9 => List.mem_cons_of_mem _ (List.mem_append_left _ (List.mem_append_left _ ((List.mem_append_right _ h9)))))
  have hin8 : ∀ w ∈ u_ws RX8 TX8 15, w ∈ wsX8_blend := (fun _ h9 => List.mem_cons_of_mem _ (List.mem_append_left _ (List.mem_append_left _ (List.mem_append_left _ ((List.mem_append_right _ h9))))))
  have hl := lv_entry ([.ref h0, .int a1, .int a2, .int a3, .int a4, .int a5]) (n := 9) (Nat.le_of_ble_eq_true rfl)
  rw [lg_entry_eq]
  generalize (lg_sl ([.ref h0, .int a1, .int a2, .int a3, .int a4, .int a5]) ++ List.replicate (9 - (lg_sl ([.ref h0, .int a1, .int a2, .int a3, .int a4, .int a5])).length) Slot.unset).toArray = ls at hl ⊢
  have hl : lv_has ls 9 [(0, .ref h0), (1, .int a1), (2, .int a2), (3, .int a3), (4, .int a4), (5, .int a5)] := hl
  obtain ⟨k0, la, ta, ba, ra, sn, rd, dr, bl, vd, fb, e0, w0, hle0, hnum, qla, qta, qba, qra, qsn, qrd, qdr, qbl, qvd, qfb⟩ := id X
  obtain ⟨kbl, b0, b2, b3, b4, b5, b6, b7, kb2, kb3, kb4, kb5, kb6, kb7, b8, b9, b10, b11, b12, b13, ebl, wbl, ⟨kb0, cb0, tb0, fb0, eb0, ub0, wb0, gb0⟩, hbo, ⟨cb2, tb2, fb2, eb2, ub2, wb2⟩, ⟨cb3, tb3, fb3, eb3, ub3, wb3⟩, ⟨cb4, tb4, fb4, eb4, ub4, wb4⟩, ⟨cb5, tb5, fb5, eb5, ub5, wb5⟩, ⟨cb6, tb6, fb6, eb6, ub6, wb6⟩, ⟨cb7, tb7, fb7, eb7, ub7, wb7⟩⟩ := id qbl
  obtain ⟨kta, cta, tta, fta, eta, uta, hta0, hta1⟩ := id qta
  have hlc := hnum.1
  refine lv_iload_n hx hb dX8_blend_0 rfl (lv_at hl 2 rfl) ?_
  refine lv_iconst (v := 1) hx hb dX8_blend_1 (by decide) ?_
  refine lv_bipush (v := 40) hx hb dX8_blend_2 (by decide) ?_
  refine vp_callSi (W.runS (As := [.int a2, .int 1, .int 40]) (rest := []) ⟨hx, hb, hml, hown, hts⟩ (s_X8_isIn l a2 1 40) (va_cwS 3 hts gX8_blend_X8_isIn rfl rfl rfl (by decide +kernel) ⟨Nat.le_of_ble_eq_true rfl, Nat.le_of_ble_eq_true rfl⟩) ⟨fun a U g mk q => q, fun U hU hW => ⟨rfl, trivial⟩⟩ rfl rfl hl.1 rfl (lv_room (Nat.le_of_ble_eq_true rfl)) dX8_blend_4 ⟨Nat.le_of_ble_eq_true rfl, Nat.le_of_ble_eq_true rfl⟩) (fun r_1 k_2 => ?_)
  rcases k_2 with ⟨rfl, o_3⟩ | ⟨rfl, a_4, b_5⟩
  · refine lv_if_eq (tgt := 49) hx hb dX8_blend_7 (by decide) (fun c_10 => ?_) (fun c_10 => absurd (by decide) c_10)
    refine lv_iconst (v := 0) hx hb dX8_blend_49 (by decide) ?_
    refine lv_istore (lv' := [(6, .int 0), (0, .ref h0), (1, .int a1), (2, .int a2), (3, .int a3), (4, .int a4), (5, .int a5)]) hx hb dX8_blend_50 hl (by decide) rfl (fun ls hl => ?_)
    refine lv_iload hx hb dX8_blend_52 (lv_at hl 0 rfl) ?_
    refine lv_if_eq (tgt := 65) hx hb dX8_blend_54 (by decide) (fun c_11 => ?_) (fun c_11 => absurd (by decide) c_11)
    refine lv_iconst (v := (-1)) hx hb dX8_blend_65 (by decide) ?_
    exact W.iret (v := (-1)) hx hb hr (fun t ht hW => ⟨⟨(-1), (), rfl, trivial, ws, tys, htx, by rw [ht]; exact hP, va_K.moved hW.alike hK, hD, Or.inl ⟨bNo_i (Or.inl o_3), X⟩⟩, hS.F ht⟩) hS.2.2 dX8_blend_66
  obtain ⟨j_6, hj_7, hj_8, e_9⟩ := is_nat (a := 1) (b := 40) a_4 b_5 (by omega)
  refine lv_if_eq (tgt := 49) hx hb dX8_blend_7 (by decide) (fun c_12 => absurd c_12 (by decide)) (fun c_12 => ?_)
  refine lv_iload_n hx hb dX8_blend_10 rfl (lv_at hl 3 rfl) ?_
  refine lv_iconst (v := 0) hx hb dX8_blend_11 (by decide) ?_
  refine lv_sipush (v := 300) hx hb dX8_blend_12 (by decide) ?_
  refine vp_callSi (W.runS (As := [.int a3, .int 0, .int 300]) (rest := []) ⟨hx, hb, hml, hown, hts⟩ (s_X8_isIn l a3 0 300) (va_cwS 3 hts gX8_blend_X8_isIn rfl rfl rfl (by decide +kernel) ⟨Nat.le_of_ble_eq_true rfl, Nat.le_of_ble_eq_true rfl⟩) ⟨fun a U g mk q => q, fun U hU hW => ⟨rfl, trivial⟩⟩ rfl rfl hl.1 rfl (lv_room (Nat.le_of_ble_eq_true rfl)) dX8_blend_15 ⟨Nat.le_of_ble_eq_true rfl, Nat.le_of_ble_eq_true rfl⟩) (fun r_13 k_14 => ?_)
  rcases k_14 with ⟨rfl, o_15⟩ | ⟨rfl, a_16, b_17⟩
  · refine lv_if_eq (tgt := 49) hx hb dX8_blend_18 (by decide) (fun c_22 => ?_) (fun c_22 => absurd (by decide) c_22)
    refine lv_iconst (v := 0) hx hb dX8_blend_49 (by decide) ?_
    refine lv_istore (lv' := [(6, .int 0), (0, .ref h0), (1, .int a1), (2, .int a2), (3, .int a3), (4, .int a4), (5, .int a5)]) hx hb dX8_blend_50 hl (by decide) rfl (fun ls hl => ?_)
    refine lv_iload hx hb dX8_blend_52 (lv_at hl 0 rfl) ?_
    refine lv_if_eq (tgt := 65) hx hb dX8_blend_54 (by decide) (fun c_23 => ?_) (fun c_23 => absurd (by decide) c_23)
    refine lv_iconst (v := (-1)) hx hb dX8_blend_65 (by decide) ?_
    exact W.iret (v := (-1)) hx hb hr (fun t ht hW => ⟨⟨(-1), (), rfl, trivial, ws, tys, htx, by rw [ht]; exact hP, va_K.moved hW.alike hK, hD, Or.inl ⟨bNo_i (Or.inr (Or.inl o_15)), X⟩⟩, hS.F ht⟩) hS.2.2 dX8_blend_66
  obtain ⟨j_18, hj_19, hj_20, e_21⟩ := is_nat (a := 0) (b := 300) a_16 b_17 (by omega)
  refine lv_if_eq (tgt := 49) hx hb dX8_blend_18 (by decide) (fun c_24 => absurd c_24 (by decide)) (fun c_24 => ?_)
  refine lv_iload hx hb dX8_blend_21 (lv_at hl 4 rfl) ?_
  refine lv_iconst (v := 0) hx hb dX8_blend_23 (by decide) ?_
  refine lv_sipush (v := 140) hx hb dX8_blend_24 (by decide) ?_
  refine vp_callSi (W.runS (As := [.int a4, .int 0, .int 140]) (rest := []) ⟨hx, hb, hml, hown, hts⟩ (s_X8_isIn l a4 0 140) (va_cwS 3 hts gX8_blend_X8_isIn rfl rfl rfl (by decide +kernel) ⟨Nat.le_of_ble_eq_true rfl, Nat.le_of_ble_eq_true rfl⟩) ⟨fun a U g mk q => q, fun U hU hW => ⟨rfl, trivial⟩⟩ rfl rfl hl.1 rfl (lv_room (Nat.le_of_ble_eq_true rfl)) dX8_blend_27 ⟨Nat.le_of_ble_eq_true rfl, Nat.le_of_ble_eq_true rfl⟩) (fun r_25 k_26 => ?_)
  rcases k_26 with ⟨rfl, o_27⟩ | ⟨rfl, a_28, b_29⟩
  · refine lv_if_eq (tgt := 49) hx hb dX8_blend_30 (by decide) (fun c_34 => ?_) (fun c_34 => absurd (by decide) c_34)
    refine lv_iconst (v := 0) hx hb dX8_blend_49 (by decide) ?_
    refine lv_istore (lv' := [(6, .int 0), (0, .ref h0), (1, .int a1), (2, .int a2), (3, .int a3), (4, .int a4), (5, .int a5)]) hx hb dX8_blend_50 hl (by decide) rfl (fun ls hl => ?_)
    refine lv_iload hx hb dX8_blend_52 (lv_at hl 0 rfl) ?_
    refine lv_if_eq (tgt := 65) hx hb dX8_blend_54 (by decide) (fun c_35 => ?_) (fun c_35 => absurd (by decide) c_35)
    refine lv_iconst (v := (-1)) hx hb dX8_blend_65 (by decide) ?_
    exact W.iret (v := (-1)) hx hb hr (fun t ht hW => ⟨⟨(-1), (), rfl, trivial, ws, tys, htx, by rw [ht]; exact hP, va_K.moved hW.alike hK, hD, Or.inl ⟨bNo_i (Or.inr (Or.inr (Or.inl o_27))), X⟩⟩, hS.F ht⟩) hS.2.2 dX8_blend_66
  obtain ⟨j_30, hj_31, hj_32, e_33⟩ := is_nat (a := 0) (b := 140) a_28 b_29 (by omega)
  refine lv_if_eq (tgt := 49) hx hb dX8_blend_30 (by decide) (fun c_36 => absurd c_36 (by decide)) (fun c_36 => ?_)
  refine lv_iload hx hb dX8_blend_33 (lv_at hl 5 rfl) ?_
  refine lv_iconst (v := 0) hx hb dX8_blend_35 (by decide) ?_
  refine lv_sipush (v := 140) hx hb dX8_blend_36 (by decide) ?_
  refine vp_callSi (W.runS (As := [.int a5, .int 0, .int 140]) (rest := []) ⟨hx, hb, hml, hown, hts⟩ (s_X8_isIn l a5 0 140) (va_cwS 3 hts gX8_blend_X8_isIn rfl rfl rfl (by decide +kernel) ⟨Nat.le_of_ble_eq_true rfl, Nat.le_of_ble_eq_true rfl⟩) ⟨fun a U g mk q => q, fun U hU hW => ⟨rfl, trivial⟩⟩ rfl rfl hl.1 rfl (lv_room (Nat.le_of_ble_eq_true rfl)) dX8_blend_39 ⟨Nat.le_of_ble_eq_true rfl, Nat.le_of_ble_eq_true rfl⟩) (fun r_37 k_38 => ?_)
  rcases k_38 with ⟨rfl, o_39⟩ | ⟨rfl, a_40, b_41⟩
  · refine lv_if_eq (tgt := 49) hx hb dX8_blend_42 (by decide) (fun c_46 => ?_) (fun c_46 => absurd (by decide) c_46)
    refine lv_iconst (v := 0) hx hb dX8_blend_49 (by decide) ?_
    refine lv_istore (lv' := [(6, .int 0), (0, .ref h0), (1, .int a1), (2, .int a2), (3, .int a3), (4, .int a4), (5, .int a5)]) hx hb dX8_blend_50 hl (by decide) rfl (fun ls hl => ?_)
    refine lv_iload hx hb dX8_blend_52 (lv_at hl 0 rfl) ?_
    refine lv_if_eq (tgt := 65) hx hb dX8_blend_54 (by decide) (fun c_47 => ?_) (fun c_47 => absurd (by decide) c_47)
    refine lv_iconst (v := (-1)) hx hb dX8_blend_65 (by decide) ?_
    exact W.iret (v := (-1)) hx hb hr (fun t ht hW => ⟨⟨(-1), (), rfl, trivial, ws, tys, htx, by rw [ht]; exact hP, va_K.moved hW.alike hK, hD, Or.inl ⟨bNo_i (Or.inr (Or.inr (Or.inr (Or.inl o_39)))), X⟩⟩, hS.F ht⟩) hS.2.2 dX8_blend_66
  obtain ⟨j_42, hj_43, hj_44, e_45⟩ := is_nat (a := 0) (b := 140) a_40 b_41 (by omega)
  refine lv_if_eq (tgt := 49) hx hb dX8_blend_42 (by decide) (fun c_48 => absurd c_48 (by decide)) (fun c_48 => ?_)
  refine lv_iconst (v := 1) hx hb dX8_blend_45 (by decide) ?_
  refine lv_goto (tgt := 50) hx hb dX8_blend_46 (by decide) ?_
  refine lv_istore (lv' := [(6, .int 1), (0, .ref h0), (1, .int a1), (2, .int a2), (3, .int a3), (4, .int a4), (5, .int a5)]) hx hb dX8_blend_50 hl (by decide) rfl (fun ls hl => ?_)
  refine lv_iload hx hb dX8_blend_52 (lv_at hl 0 rfl) ?_
  refine lv_if_eq (tgt := 65) hx hb dX8_blend_54 (by decide) (fun c_49 => absurd c_49 (by decide)) (fun c_49 => ?_)
  refine lv_aload_n hx hb dX8_blend_57 rfl (lv_at hl 1 rfl) ?_
  refine lv_iload_n hx hb dX8_blend_58 rfl (lv_at hl 2 rfl) ?_
  have hFc := free_all hD hS hA
  refine va_calli (va_runV (As := [.int a1]) (rest := []) ⟨hx, hb, hml, hown, hts⟩ (a_areTanks l D ρ ws tys fv h0 lc bc rc fc dn tl a1 s.heap.size X) (cwV 1 hts gX8_blend_X8_areTanksToBlend rfl rfl rfl (by decide +kernel) ⟨Nat.le_of_ble_eq_true rfl, Nat.le_of_ble_eq_true rfl⟩) ⟨fun a U g mk q => by obtain ⟨q0, q1, qP, qK, qD, qZ⟩ := q; exact ⟨q0, q1, qP, va_K.moved (u := U) (U := U.calling g mk a) (Vm.Alike.refl U.vm) qK, qD, NZ.same rfl qZ⟩, va_recv hK hP (ci := 8) (q0 := k0) rfl e0, fun U hU hW => ⟨rfl, by rw [hU], by rw [hU]; exact hP, va_K.moved hW.alike hK, hD.weaken (fun _ _ _ _ => trivial), NZ.warm hW hnz⟩⟩ rfl rfl hl.1 rfl (lv_room (Nat.le_of_ble_eq_true rfl)) dX8_blend_59 ⟨Nat.le_of_ble_eq_true rfl, Nat.le_of_ble_eq_true rfl⟩) hS (fun q _ h => hFc q h) hFc (fun r_50 u t H1 locs ht hvm w_51 hB hz1 hk1 hS => ?_)
  obtain ⟨ws_52, ty_53, hm_54, ht_56, hP1, hK1, hD1, hx_55⟩ := hB
  rw [ht] at hP1
  have hK := va_K.moved hvm.symm hK1
  have hD := hD1.weaken (fun _ _ _ h => hFc _ h)
  generalize H1 = H at hP1 hS ⊢
  have hP := hP1
  obtain ⟨hx_55a, hx_55b⟩ := hx_55
  subst hx_55a
  subst hx_55b
  rcases w_51 with ⟨rfl, hAT_57⟩ | ⟨rfl, hAT_57⟩
  · refine lv_if_ne (tgt := 67) hx hb dX8_blend_62 (by decide) (fun c_58 => ?_) (fun c_58 => absurd c_58 (by decide))
    refine lv_aload_n hx hb dX8_blend_67 rfl (lv_at hl 1 rfl) ?_
    refine va_get (D := D) (ci := 8) (v := .ref bl) (C := RX8) (T := TX8) (N := 15) hx hb hts hin8 hown hK hP k0 e0 rfl 7 (by decide) (hts (.fieldLink RX8 54 "HoneyHouse" "blender" "LHoneyHouse$Blender;") (List.mem_of_getElem? (i := 1) rfl)) (fun _ h9 => h9) rfl dX8_blend_68 ?_
    refine lv_iload_n hx hb dX8_blend_71 rfl (lv_at hl 3 rfl) ?_
    refine tp_i (y := nI j_6) (e_9) ?_
    refine lv_iload_n hx hb dX8_blend_72 rfl (lv_at hl 4 rfl) ?_
    refine tp_i (y := nI j_18) (e_21) ?_
    refine lv_iload hx hb dX8_blend_73 (lv_at hl 5 rfl) ?_
    refine tp_i (y := nI j_30) (e_33) ?_
    refine lv_iload hx hb dX8_blend_75 (lv_at hl 6 rfl) ?_
    refine tp_i (y := nI j_42) (e_45) ?_
    have hFc := free_all hD hS hA
    refine va_callv (va_runV (As := [.int (nI j_6), .int (nI j_18), .int (nI j_30), .int (nI j_42)]) (rest := []) ⟨hx, hb, hml, hown, hts⟩ (a_begin l D (rz [kbl, kb3]) ws tys bl kbl b0 b2 b3 b4 b5 b6 b7 (fv 35 0) b8 b9 b10 b11 b12 b13 kb3 cb3 tb3 fb3 j_6 j_18 j_30 j_42 H.size ebl eb3 ub3 (rz_in (by simp)) (rz_in (by simp))) (cwV 4 hts gX8_blend_X0_begin rfl rfl rfl (by decide +kernel) ⟨Nat.le_of_ble_eq_true rfl, Nat.le_of_ble_eq_true rfl⟩) ⟨fun a U g mk q => by obtain ⟨q0, q1, qP, qK, qD⟩ := q; exact ⟨q0, q1, qP, va_K.moved (u := U) (U := U.calling g mk a) (Vm.Alike.refl U.vm) qK, qD⟩, va_recv hK hP (ci := 0) (q0 := kbl) rfl ebl, fun U hU hW => ⟨rfl, by rw [hU], by rw [hU]; exact hP, va_K.moved hW.alike hK, hD.weaken (fun _ _ _ _ => trivial)⟩⟩ rfl rfl hl.1 rfl (lv_room (Nat.le_of_ble_eq_true rfl)) dX8_blend_77 ⟨Nat.le_of_ble_eq_true rfl, Nat.le_of_ble_eq_true rfl⟩) hS (fun q _ h => hFc q h) hFc (fun u t H1 locs ht hvm w_59 hB hz1 hk1 hS => ?_)
    obtain ⟨ws_60, ty_61, hm_62, ht_64, hP1, hK1, hD1, hx_63⟩ := hB
    rw [ht] at hP1
    have hK := va_K.moved hvm.symm hK1
    have hD := hD1.weaken (fun _ _ _ h => hFc _ h)
    generalize H1 = H at hP1 hS ⊢
    have hP := hP1
    have e_66 := hm_62.keep (rz_o2 (pl_ne e0 ebl (by intro h9; simp at h9)) (pl_ne e0 eb3 (by intro h9; simp at h9))) e0
    have e_67 := hm_62.keep (rz_o2 (pl_ne eta ebl (by intro h9; simp at h9)) (pl_ne eta eb3 (by intro h9; simp at h9))) eta
    have e_68 := hm_62.keep (rz_o2 (pl_ne eb0 ebl (by intro h9; simp at h9)) (pl_ne eb0 eb3 (by intro h9; simp at h9))) eb0
    have e_69 := hm_62.keep (rz_o2 (pl_ne eb2 ebl (by intro h9; simp at h9)) (show kb2 ≠ kb3 by omega)) eb2
    have e_70 := hm_62.keep (rz_o2 (pl_ne eb4 ebl (by intro h9; simp at h9)) (show kb4 ≠ kb3 by omega)) eb4
    have e_71 := hm_62.keep (rz_o2 (pl_ne eb5 ebl (by intro h9; simp at h9)) (show kb5 ≠ kb3 by omega)) eb5
    have e_72 := hm_62.keep (rz_o2 (pl_ne eb6 ebl (by intro h9; simp at h9)) (show kb6 ≠ kb3 by omega)) eb6
    have e_73 := hm_62.keep (rz_o2 (pl_ne eb7 ebl (by intro h9; simp at h9)) (show kb7 ≠ kb3 by omega)) eb7
    have u_74 := ht_64 _ _ uta
    have u_75 := ht_64 _ _ ub0
    have u_76 := ht_64 _ _ ub2
    have u_77 := ht_64 _ _ ub3
    have u_78 := ht_64 _ _ ub4
    have u_79 := ht_64 _ _ ub5
    have u_80 := ht_64 _ _ ub6
    have u_81 := ht_64 _ _ ub7
    have hm_82 : sm (uy ρ [8009]) [0] ws ws_60 := hm_62.up (fun k _ h => rz_u2 (uy_0 wbl) (uy_0 wb3) k h)
    have hsm := hsm.tr (hm_82.mono (by decide))
    have htx := htx.tr ht_64
    obtain ⟨f_83, e_84, g_85, e_86⟩ := hx_63
    refine lv_iconst (v := 0) hx hb dX8_blend_80 (by decide) ?_
    refine lv_istore (lv' := [(7, .int 0), (6, .int 1), (0, .ref h0), (1, .int a1), (2, .int a2), (3, .int a3), (4, .int a4), (5, .int a5)]) hx hb dX8_blend_81 hl (by decide) rfl (fun ls hl => ?_)
    refine lp_V (nL := 9) (σ := Nat × (Nat → Int32) × (Nat → Int32) × (Nat → Int32) × (Nat → Int32) × (Nat → Int32)) (lv := fun x9 => [(7, .int (nI x9.1)), (1, .int a1), (0, .ref h0)]) (μ := fun x9 => 10 - x9.1) (J := fun x9 ws9 => sm (uy ρ [8009]) [0] ws_60 ws9 ∧ (ws9[kbl]? = some (bl, .inr (0, [.ref b0, .int (fv 35 0), .ref b2, .ref b3, .ref b4, .ref b5, .ref b6, .ref b7, .int (nI (cB a1 x9.1)), .int b9, .int (nI j_6), .int (nI (j_6 * 10 * j_18)), .int (nI (j_6 * 10 * j_30)), .int (nI (j_6 * 10 * j_42))]))) ∧ (ws9[kb2]? = some (b2, .inl (cb2, 4, .inl x9.2.1))) ∧ (ws9[kb3]? = some (b3, .inl (cb3, 4, .inl x9.2.2.1))) ∧ (ws9[kb4]? = some (b4, .inl (cb4, 4, .inl x9.2.2.2.1))) ∧ (ws9[kb5]? = some (b5, .inl (cb5, 4, .inl x9.2.2.2.2.1))) ∧ (ws9[kb6]? = some (b6, .inl (cb6, 4, .inl x9.2.2.2.2.2))) ∧ (ws9[kb0]? = some (b0, .inl (cb0, 10, .inl fb0))) ∧ (x9.1 ≤ 10) ∧ (∀ k9 : Nat, k9 < cB a1 x9.1 → x9.2.1 k9 = nI (tK a1 k9)) ∧ (∀ k9 : Nat, k9 < cB a1 x9.1 → x9.2.2.1 k9 = nI (bM fv a1 k9)) ∧ (∀ k9 : Nat, k9 < cB a1 x9.1 → x9.2.2.2.1 k9 = nI (bW fv lc a1 k9)) ∧ (∀ k9 : Nat, k9 < cB a1 x9.1 → x9.2.2.2.2.1 k9 = nI (bC fv lc a1 k9)) ∧ (∀ k9 : Nat, k9 < cB a1 x9.1 → x9.2.2.2.2.2 k9 = nI (bP fv a1 k9)) ∧ (∀ k9 : Nat, cB a1 x9.1 ≤ k9 → k9 < 4 → x9.2.2.1 k9 = 0)) (fun x9 ws_101 H locs ls hj hP hD hS hl ih_87 => ?_) (0, fb2, f_83, fb4, fb5, fb6) ws_60 _ _ ls ⟨sm.rf _, e_86, e_69, e_84, e_70, e_71, e_72, e_68, (show 0 ≤ 10 from by omega), (show ∀ k9 : Nat, k9 < cB a1 0 → fb2 k9 = nI (tK a1 k9) from fun k9 h9 => absurd h9 (Nat.not_lt_zero _)), (show ∀ k9 : Nat, k9 < cB a1 0 → f_83 k9 = nI (bM fv a1 k9) from fun k9 h9 => absurd h9 (Nat.not_lt_zero _)), (show ∀ k9 : Nat, k9 < cB a1 0 → fb4 k9 = nI (bW fv lc a1 k9) from fun k9 h9 => absurd h9 (Nat.not_lt_zero _)), (show ∀ k9 : Nat, k9 < cB a1 0 → fb5 k9 = nI (bC fv lc a1 k9) from fun k9 h9 => absurd h9 (Nat.not_lt_zero _)), (show ∀ k9 : Nat, k9 < cB a1 0 → fb6 k9 = nI (bP fv a1 k9) from fun k9 h9 => absurd h9 (Nat.not_lt_zero _)), (show ∀ k9 : Nat, cB a1 0 ≤ k9 → k9 < 4 → f_83 k9 = 0 from fun k9 _ h9 => g_85 k9 h9)⟩ hP hD hS (lv_sub hl [0, 3, 2] rfl)
    obtain ⟨i_88, f2_89, f3_90, f4_91, f5_92, f6_93⟩ := x9
    replace hj : sm (uy ρ [8009]) [0] ws_60 ws_101 ∧ (ws_101[kbl]? = some (bl, .inr (0, [.ref b0, .int (fv 35 0), .ref b2, .ref b3, .ref b4, .ref b5, .ref b6, .ref b7, .int (nI (cB a1 i_88)), .int b9, .int (nI j_6), .int (nI (j_6 * 10 * j_18)), .int (nI (j_6 * 10 * j_30)), .int (nI (j_6 * 10 * j_42))]))) ∧ (ws_101[kb2]? = some (b2, .inl (cb2, 4, .inl f2_89))) ∧ (ws_101[kb3]? = some (b3, .inl (cb3, 4, .inl f3_90))) ∧ (ws_101[kb4]? = some (b4, .inl (cb4, 4, .inl f4_91))) ∧ (ws_101[kb5]? = some (b5, .inl (cb5, 4, .inl f5_92))) ∧ (ws_101[kb6]? = some (b6, .inl (cb6, 4, .inl f6_93))) ∧ (ws_101[kb0]? = some (b0, .inl (cb0, 10, .inl fb0))) ∧ (i_88 ≤ 10) ∧ (∀ k9 : Nat, k9 < cB a1 i_88 → f2_89 k9 = nI (tK a1 k9)) ∧ (∀ k9 : Nat, k9 < cB a1 i_88 → f3_90 k9 = nI (bM fv a1 k9)) ∧ (∀ k9 : Nat, k9 < cB a1 i_88 → f4_91 k9 = nI (bW fv lc a1 k9)) ∧ (∀ k9 : Nat, k9 < cB a1 i_88 → f5_92 k9 = nI (bC fv lc a1 k9)) ∧ (∀ k9 : Nat, k9 < cB a1 i_88 → f6_93 k9 = nI (bP fv a1 k9)) ∧ (∀ k9 : Nat, cB a1 i_88 ≤ k9 → k9 < 4 → f3_90 k9 = 0) := hj
    obtain ⟨hm_102, e_104, e_105, e_106, e_107, e_108, e_109, e_110, hi_94, hr2_95, hr3_96, hr4_97, hr5_98, hr6_99, hz_100⟩ := hj
    have e_111 := hm_102.objK e_66 (by decide)
    have e_112 := hm_102.arrQ e_67
    obtain ⟨g_114, e_113, h_115⟩ := hm_102.obj e_86
    obtain ⟨z_116, z_117, z_118, z_119, z_120, z_121, z_122, rfl⟩ := smX0 h_115
    obtain ⟨f_124, e_123⟩ := hm_102.arrI e_68
    obtain ⟨f_126, e_125⟩ := hm_102.arrI e_69
    obtain ⟨f_128, e_127⟩ := hm_102.arrI e_84
    obtain ⟨f_130, e_129⟩ := hm_102.arrI e_70
    obtain ⟨f_132, e_131⟩ := hm_102.arrI e_71
    obtain ⟨f_134, e_133⟩ := hm_102.arrI e_72
    obtain ⟨f_136, e_135⟩ := hm_102.arrI e_73
    have hsm := hsm.tr (hm_102.mono (by decide))
    have hlp_103 := hm_102
    have hl : lv_has ls 9 [(7, .int (nI i_88)), (1, .int a1), (0, .ref h0)] := hl
    refine lv_iload hx hb dX8_blend_83 (lv_at hl 0 rfl) ?_
    refine lv_aload_n hx hb dX8_blend_85 rfl (lv_at hl 2 rfl) ?_
    refine va_get (D := D) (ci := 8) (v := .ref ta) (C := RX8) (T := TX8) (N := 15) hx hb hts hin8 hown hK hP k0 e_111 rfl 1 (by decide) (hts (.fieldLink RX8 17 "HoneyHouse" "tanks" "[LHoneyHouse$Vessel;") (List.mem_of_getElem? (i := 2) rfl)) (fun _ h9 => h9) rfl dX8_blend_86 ?_
    refine va_alen (v := 10) hx hb hK hP kta tta e_112 u_74 rfl dX8_blend_89 ?_
    refine lv_icmp_ge (tgt := 159) hx hb dX8_blend_90 (by decide) (fun c_137 => ?_) (fun c_137 => ?_)
    · have d_138 := n_le (a := 10) (b := i_88) (by omega) (by omega) c_137
      obtain rfl : i_88 = 10 := by omega
      have hpl := plc_le V X9 hlc hAT_57
      have h3x : ∀ k : Nat, k < 4 → f3_90 k = nI (bM fv a1 k) := fun k hk => (Nat.lt_or_ge k (cB a1 10)).elim (fun q => hr3_96 k q) (fun q => by rw [hz_100 k q hk, bM_z q, nI_0])
      have h4x : ∀ k : Nat, k < 4 → f4_91 k = nI (bW fv lc a1 k) ∨ bM fv a1 k = 0 := fun k hk => (Nat.lt_or_ge k (cB a1 10)).elim (fun q => Or.inl (hr4_97 k q)) (fun q => Or.inr (bM_z q))
      have h5x : ∀ k : Nat, k < 4 → f5_92 k = nI (bC fv lc a1 k) ∨ bM fv a1 k = 0 := fun k hk => (Nat.lt_or_ge k (cB a1 10)).elim (fun q => Or.inl (hr5_98 k q)) (fun q => Or.inr (bM_z q))
      have h6x : ∀ k : Nat, k < 4 → f6_93 k = nI (bP fv a1 k) ∨ bM fv a1 k = 0 := fun k hk => (Nat.lt_or_ge k (cB a1 10)).elim (fun q => Or.inl (hr6_99 k q)) (fun q => Or.inr (bM_z q))
      refine lv_aload_n hx hb dX8_blend_159 rfl (lv_at hl 2 rfl) ?_
      refine va_get (D := D) (ci := 8) (v := .ref bl) (C := RX8) (T := TX8) (N := 15) hx hb hts hin8 hown hK hP k0 e_111 rfl 7 (by decide) (hts (.fieldLink RX8 54 "HoneyHouse" "blender" "LHoneyHouse$Blender;") (List.mem_of_getElem? (i := 1) rfl)) (fun _ h9 => h9) rfl dX8_blend_160 ?_
      have hFc := free_all hD hS hA
      refine va_calli (va_runV (As := []) (rest := []) ⟨hx, hb, hml, hown, hts⟩ (a_leastPrice l D (rz [kbl, kb0, kb7]) ws_101 ty_61 bl kbl b0 b2 b3 b4 b5 b6 b7 (fv 35 0) b9 kb0 cb0 tb0 fb0 kb2 cb2 tb2 f2_89 kb3 cb3 tb3 f3_90 kb4 cb4 tb4 f4_91 kb5 cb5 tb5 f5_92 kb6 cb6 tb6 f6_93 kb7 cb7 tb7 f_136 (bM fv a1) (bW fv lc a1) (bC fv lc a1) (bP fv a1) j_6 j_18 j_30 j_42 a1 H.size hj_8 hj_20 hj_32 hj_44 (fun k _ => (hpl k).1) (fun k _ => (hpl k).2.1) (fun k _ => (hpl k).2.2.1) (fun k _ => (hpl k).2.2.2) h3x h4x h5x h6x hAT_57.2.2.1 hr2_95 hbo e_104 e_110 u_75 e_105 u_76 e_106 u_77 e_107 u_78 e_108 u_79 e_109 u_80 e_135 u_81 (rz_in (by simp)) (rz_in (by simp)) (rz_in (by simp))) (cwV 0 hts gX8_blend_X0_leastPrice rfl rfl rfl (by decide +kernel) ⟨Nat.le_of_ble_eq_true rfl, Nat.le_of_ble_eq_true rfl⟩) ⟨fun a U g mk q => by obtain ⟨q0, q1, qP, qK, qD⟩ := q; exact ⟨q0, q1, qP, va_K.moved (u := U) (U := U.calling g mk a) (Vm.Alike.refl U.vm) qK, qD⟩, va_recv hK hP (ci := 0) (q0 := kbl) rfl e_104, fun U hU hW => ⟨rfl, by rw [hU], by rw [hU]; exact hP, va_K.moved hW.alike hK, hD.weaken (fun _ _ _ _ => trivial)⟩⟩ rfl rfl hl.1 rfl (lv_room (Nat.le_of_ble_eq_true rfl)) dX8_blend_163 ⟨Nat.le_of_ble_eq_true rfl, Nat.le_of_ble_eq_true rfl⟩) hS (fun q _ h => hFc q h) hFc (fun r_145 u t H1 locs ht hvm w_139 hB hz1 hk1 hS => ?_)
      obtain ⟨ws_140, ty_141, hm_142, ht_144, hP1, hK1, hD1, hx_143⟩ := hB
      rw [ht] at hP1
      have hK := va_K.moved hvm.symm hK1
      have hD := hD1.weaken (fun _ _ _ h => hFc _ h)
      generalize H1 = H at hP1 hS ⊢
      have hP := hP1
      have e_146 := hm_142.keep (rz_o3 (pl_ne e_111 e_104 (by intro h9; simp at h9)) (pl_ne e_111 e_110 (by intro h9; simp at h9)) (pl_ne e_111 e_135 (by intro h9; simp at h9))) e_111
      have e_147 := hm_142.keep (rz_o3 (pl_ne e_112 e_104 (by intro h9; simp at h9)) (pl_ne e_112 e_110 (by intro h9; simp at h9)) (pl_ne e_112 e_135 (by intro h9; simp at h9))) e_112
      have e_148 := hm_142.keep (rz_o3 (pl_ne e_105 e_104 (by intro h9; simp at h9)) (pl_ne e_105 e_110 (by intro h9; simp at h9)) (show kb2 ≠ kb7 by omega)) e_105
      have e_149 := hm_142.keep (rz_o3 (pl_ne e_106 e_104 (by intro h9; simp at h9)) (pl_ne e_106 e_110 (by intro h9; simp at h9)) (show kb3 ≠ kb7 by omega)) e_106
      have e_150 := hm_142.keep (rz_o3 (pl_ne e_107 e_104 (by intro h9; simp at h9)) (pl_ne e_107 e_110 (by intro h9; simp at h9)) (show kb4 ≠ kb7 by omega)) e_107
      have e_151 := hm_142.keep (rz_o3 (pl_ne e_108 e_104 (by intro h9; simp at h9)) (pl_ne e_108 e_110 (by intro h9; simp at h9)) (show kb5 ≠ kb7 by omega)) e_108
      have e_152 := hm_142.keep (rz_o3 (pl_ne e_109 e_104 (by intro h9; simp at h9)) (pl_ne e_109 e_110 (by intro h9; simp at h9)) (show kb6 ≠ kb7 by omega)) e_109
      have u_153 := ht_144 _ _ u_74
      have u_154 := ht_144 _ _ u_75
      have u_155 := ht_144 _ _ u_76
      have u_156 := ht_144 _ _ u_77
      have u_157 := ht_144 _ _ u_78
      have u_158 := ht_144 _ _ u_79
      have u_159 := ht_144 _ _ u_80
      have u_160 := ht_144 _ _ u_81
      have hm_161 : sm (uy ρ [8009]) [0] ws_101 ws_140 := hm_142.up (fun k _ h => rz_u3 (uy_0 wbl) (uy_in wb0 (List.Mem.head _)) (uy_0 wb7) k h)
      have hsm := hsm.tr (hm_161.mono (by decide))
      have hlp_103 := hlp_103.tr (hm_161.mono (by decide))
      have htx := htx.tr ht_144
      rcases hx_143 with ⟨y_162, f_163, e1_168, e2_169, e3_170, hE_171⟩ | ⟨y_162, f_163, g_164, a_165, b_166, c_167, e1_168, e2_169, e3_170, hE_171, hg_172⟩
      · exact W.iret (v := r_145) hx hb hr (fun t ht hW => ⟨⟨r_145, (), rfl, trivial, ws_140, ty_141, htx, by rw [ht]; exact hP, va_K.moved hW.alike hK, hD, Or.inl ⟨bNo_of ⟨⟨e_9, hj_7, hj_8⟩, ⟨e_21, hj_20⟩, ⟨e_33, hj_32⟩, ⟨e_45, hj_44⟩, hAT_57⟩ hE_171, (xi_mk2 (fv := fv) e_146 w0 hle0 hnum ((CL.sm qla hsm htx (fun k _ h1 h2 => uy1 (by omega) (by omega))).fvx (fun _ _ _ _ => rfl) rfl rfl rfl) ((CW.sm qta hsm htx (fun k _ h1 h2 => uy1 (by omega) (by omega))).fvx (fun _ _ _ _ => rfl) (fun _ _ => rfl) (fun _ _ => rfl) (fun _ _ => rfl)) ((CW.sm qba hsm htx (fun k _ h1 h2 => uy1 (by omega) (by omega))).fvx (fun _ _ _ _ => rfl) (fun _ _ => rfl) (fun _ _ => rfl) (fun _ _ => rfl)) ((CR.sm qra hsm htx (fun k _ h1 h2 => uy1 (by omega) (by omega))).fvx (fun _ _ => ⟨rfl, rfl, rfl, rfl, fun _ _ => rfl, fun _ _ => rfl⟩)) (oST.sm qsn hsm htx (fun k _ h1 h2 => uy1 (by omega) (by omega))) ((oW.sm qrd hsm htx (by decide) (fun k _ h => uy1 (by omega) (by omega))).fvx (fun _ _ => rfl) rfl rfl) qdr (⟨kbl, b0, b2, b3, b4, b5, b6, b7, kb2, kb3, kb4, kb5, kb6, kb7, (nI (cB a1 10)), y_162, (nI j_6), (nI (j_6 * 10 * j_18)), (nI (j_6 * 10 * j_30)), (nI (j_6 * 10 * j_42)), e1_168, wbl, ⟨kb0, cb0, tb0, fb0, e3_170, u_154, wb0, gb0⟩, hbo, ⟨cb2, tb2, f2_89, e_148, u_155, wb2⟩, ⟨cb3, tb3, f3_90, e_149, u_156, wb3⟩, ⟨cb4, tb4, f4_91, e_150, u_157, wb4⟩, ⟨cb5, tb5, f5_92, e_151, u_158, wb5⟩, ⟨cb6, tb6, f6_93, e_152, u_159, wb6⟩, ⟨cb7, tb7, f_163, e2_169, u_160, wb7⟩⟩ : oB ρ fv ws_140 ty_141 bl) qvd ((oF.sm qfb hsm htx (fun k _ h => uy1 (by omega) (by omega))).fvx rfl) hsm htx trivial)⟩⟩, hS.F ht⟩) hS.2.2 dX8_blend_166
      exact W.iret (v := r_145) hx hb hr (fun t ht hW => ⟨⟨r_145, (), rfl, trivial, ws_140, ty_141, htx, by rw [ht]; exact hP, va_K.moved hW.alike hK, hD, Or.inr ⟨g_164, ⟨j_6, j_18, j_30, j_42, a_165, b_166, c_167, ⟨⟨e_9, hj_7, hj_8⟩, ⟨e_21, hj_20⟩, ⟨e_33, hj_32⟩, ⟨e_45, hj_44⟩, hAT_57⟩, hE_171, hg_172⟩, (xi_mk2 (fv := (uF (uF fv 36 g_164) 35 (fun _ => 1))) e_146 w0 hle0 hnum ((CL.sm qla hsm htx (fun k _ h1 h2 => uy1 (by omega) (by omega))).fvx (fun _ _ _ _ => rfl) rfl rfl rfl) ((CW.sm qta hsm htx (fun k _ h1 h2 => uy1 (by omega) (by omega))).fvx (fun _ _ _ _ => rfl) (fun _ _ => rfl) (fun _ _ => rfl) (fun _ _ => rfl)) ((CW.sm qba hsm htx (fun k _ h1 h2 => uy1 (by omega) (by omega))).fvx (fun _ _ _ _ => rfl) (fun _ _ => rfl) (fun _ _ => rfl) (fun _ _ => rfl)) ((CR.sm qra hsm htx (fun k _ h1 h2 => uy1 (by omega) (by omega))).fvx (fun _ _ => ⟨rfl, rfl, rfl, rfl, fun _ _ => rfl, fun _ _ => rfl⟩)) (oST.sm qsn hsm htx (fun k _ h1 h2 => uy1 (by omega) (by omega))) ((oW.sm qrd hsm htx (by decide) (fun k _ h => uy1 (by omega) (by omega))).fvx (fun _ _ => rfl) rfl rfl) qdr (⟨kbl, b0, b2, b3, b4, b5, b6, b7, kb2, kb3, kb4, kb5, kb6, kb7, (nI (cB a1 10)), y_162, (nI j_6), (nI (j_6 * 10 * j_18)), (nI (j_6 * 10 * j_30)), (nI (j_6 * 10 * j_42)), e1_168, wbl, ⟨kb0, cb0, tb0, g_164, e3_170, u_154, wb0, (fun _ _ => rfl)⟩, hbo, ⟨cb2, tb2, f2_89, e_148, u_155, wb2⟩, ⟨cb3, tb3, f3_90, e_149, u_156, wb3⟩, ⟨cb4, tb4, f4_91, e_150, u_157, wb4⟩, ⟨cb5, tb5, f5_92, e_151, u_158, wb5⟩, ⟨cb6, tb6, f6_93, e_152, u_159, wb6⟩, ⟨cb7, tb7, f_163, e2_169, u_160, wb7⟩⟩ : oB ρ (uF (uF fv 36 g_164) 35 (fun _ => 1)) ws_140 ty_141 bl) qvd ((oF.sm qfb hsm htx (fun k _ h => uy1 (by omega) (by omega))).fvx rfl) hsm htx trivial)⟩⟩, hS.F ht⟩) hS.2.2 dX8_blend_166
    have d_173 := n_nle (a := 10) (b := i_88) (by omega) (by omega) c_137
    refine lv_aload_n hx hb dX8_blend_93 rfl (lv_at hl 2 rfl) ?_
    refine va_get (D := D) (ci := 8) (v := .ref ta) (C := RX8) (T := TX8) (N := 15) hx hb hts hin8 hown hK hP k0 e_111 rfl 1 (by decide) (hts (.fieldLink RX8 17 "HoneyHouse" "tanks" "[LHoneyHouse$Vessel;") (List.mem_of_getElem? (i := 2) rfl)) (fun _ h9 => h9) rfl dX8_blend_94 ?_
    refine lv_iload hx hb dX8_blend_97 (lv_at hl 0 rfl) ?_
    refine va_aldq (f := fta) (n := 10) hx hb hK hP kta tta e_112 u_74 (vp_in_nI (n := i_88) (by omega) (by omega)) dX8_blend_99 ?_
    obtain ⟨r_174, er_175⟩ : ∃ r, r = fta (nI i_88).toNatClampNeg := ⟨_, rfl⟩
    refine tp_v (y := va_rf r_174) (by rw [er_175]) ?_
    rw [nI_clamp (n := i_88) (by omega)] at er_175
    obtain ⟨v_176, ev_177, hV_178⟩ := hta1 i_88 (by omega)
    rw [Nat.zero_add] at hV_178
    rw [ev_177] at er_175
    subst er_175
    have hV_179 := hV_178.sm hsm htx (fun k _ h1 h2 => uy1 (by omega) (by omega))
    obtain ⟨k_180, g_181, e_182, wk_183, k_184, c9_185, t_186, f_187, e_188, u_189, wr_190, g_191⟩ := hV_179
    refine tp_v (y := .ref v_176) rfl ?_
    refine lv_astore (lv' := [(8, .ref v_176), (7, .int (nI i_88)), (1, .int a1), (0, .ref h0)]) hx hb dX8_blend_100 hl (by decide) rfl (fun ls hl => ?_)
    refine lv_aload hx hb dX8_blend_102 (lv_at hl 0 rfl) ?_
    refine lv_ifnull hx hb dX8_blend_104 ?_
    refine lv_iload_n hx hb dX8_blend_107 rfl (lv_at hl 2 rfl) ?_
    refine lv_iload hx hb dX8_blend_108 (lv_at hl 1 rfl) ?_
    refine vp_callSi (W.runS (As := [.int a1, .int (nI i_88)]) (rest := []) ⟨hx, hb, hml, hown, hts⟩ (s_X8_hasBit l a1 i_88) (va_cwS 2 hts gX8_blend_X8_hasBit rfl rfl rfl (by decide +kernel) ⟨Nat.le_of_ble_eq_true rfl, Nat.le_of_ble_eq_true rfl⟩) ⟨fun a U g mk q => q, fun U hU hW => ⟨rfl, trivial⟩⟩ rfl rfl hl.1 rfl (lv_room (Nat.le_of_ble_eq_true rfl)) dX8_blend_110 ⟨Nat.le_of_ble_eq_true rfl, Nat.le_of_ble_eq_true rfl⟩) (fun r_192 k_193 => ?_)
    rcases k_193 with ⟨rfl, hb_194⟩ | ⟨rfl, hb_194⟩
    · refine lv_if_eq (tgt := 153) hx hb dX8_blend_113 (by decide) (fun c_195 => absurd c_195 (by decide)) (fun c_195 => ?_)
      have XB : XI ρ fv ws_101 ty_61 h0 lc bc rc fc dn tl := (xi_mk2 (fv := fv) e_111 w0 hle0 hnum ((CL.sm qla hsm htx (fun k _ h1 h2 => uy1 (by omega) (by omega))).fvx (fun _ _ _ _ => rfl) rfl rfl rfl) ((CW.sm qta hsm htx (fun k _ h1 h2 => uy1 (by omega) (by omega))).fvx (fun _ _ _ _ => rfl) (fun _ _ => rfl) (fun _ _ => rfl) (fun _ _ => rfl)) ((CW.sm qba hsm htx (fun k _ h1 h2 => uy1 (by omega) (by omega))).fvx (fun _ _ _ _ => rfl) (fun _ _ => rfl) (fun _ _ => rfl) (fun _ _ => rfl)) ((CR.sm qra hsm htx (fun k _ h1 h2 => uy1 (by omega) (by omega))).fvx (fun _ _ => ⟨rfl, rfl, rfl, rfl, fun _ _ => rfl, fun _ _ => rfl⟩)) (oST.sm qsn hsm htx (fun k _ h1 h2 => uy1 (by omega) (by omega))) ((oW.sm qrd hsm htx (by decide) (fun k _ h => uy1 (by omega) (by omega))).fvx (fun _ _ => rfl) rfl rfl) qdr (⟨kbl, b0, b2, b3, b4, b5, b6, b7, kb2, kb3, kb4, kb5, kb6, kb7, (nI (cB a1 i_88)), b9, (nI j_6), (nI (j_6 * 10 * j_18)), (nI (j_6 * 10 * j_30)), (nI (j_6 * 10 * j_42)), e_104, wbl, ⟨kb0, cb0, tb0, fb0, e_110, u_75, wb0, gb0⟩, hbo, ⟨cb2, tb2, f2_89, e_105, u_76, wb2⟩, ⟨cb3, tb3, f3_90, e_106, u_77, wb3⟩, ⟨cb4, tb4, f4_91, e_107, u_78, wb4⟩, ⟨cb5, tb5, f5_92, e_108, u_79, wb5⟩, ⟨cb6, tb6, f6_93, e_109, u_80, wb6⟩, ⟨cb7, tb7, f_136, e_135, u_81, wb7⟩⟩ : oB ρ fv ws_101 ty_61 bl) qvd ((oF.sm qfb hsm htx (fun k _ h => uy1 (by omega) (by omega))).fvx rfl) hsm htx trivial)
      have n0_196 := hAT_57.2.2.2 i_88 (by omega) hb_194
      have bx_197 := bw_x V X9 hlc (t := i_88) (by omega) hb_194 n0_196
      have h4 : cB a1 i_88 < 4 := Nat.lt_of_lt_of_le (cB_lt hb_194 (show i_88 < 10 by omega)) hAT_57.2.2.1
      refine lv_aload_n hx hb dX8_blend_116 rfl (lv_at hl 3 rfl) ?_
      refine va_get (D := D) (ci := 8) (v := .ref bl) (C := RX8) (T := TX8) (N := 15) hx hb hts hin8 hown hK hP k0 e_111 rfl 7 (by decide) (hts (.fieldLink RX8 54 "HoneyHouse" "blender" "LHoneyHouse$Blender;") (List.mem_of_getElem? (i := 1) rfl)) (fun _ h9 => h9) rfl dX8_blend_117 ?_
      refine lv_iload hx hb dX8_blend_120 (lv_at hl 1 rfl) ?_
      refine lv_aload hx hb dX8_blend_122 (lv_at hl 0 rfl) ?_
      refine va_get (D := D) (ci := 7) (v := .int (mall (fv 9) i_88 40)) (C := RX7) (T := TX7) (N := 5) hx hb hts hin7 hown hK hP k_180 e_182 rfl 1 (by decide) (hts (.fieldLink RX8 144 "HoneyHouse$Vessel" "total" "I") (List.mem_of_getElem? (i := 3) rfl)) (fun _ h9 => h9) rfl dX8_blend_124 ?_
      refine lv_sipush (v := 1000) hx hb dX8_blend_127 (by decide) ?_
      refine lv_idiv hx hb dX8_blend_130 (by decide) ?_
      refine tp_i (y := nI (bM fv a1 (cB a1 i_88))) (bm_d V (by omega) hb_194) ?_
      refine lv_aload_n hx hb dX8_blend_131 rfl (lv_at hl 3 rfl) ?_
      refine lv_aload hx hb dX8_blend_132 (lv_at hl 0 rfl) ?_
      refine lv_iconst (v := 0) hx hb dX8_blend_134 (by decide) ?_
      have hFc := free_all hD hS hA
      refine va_calli (va_runV (As := [.ref v_176, .int 0]) (rest := [.int (nI (bM fv a1 (cB a1 i_88))), .int (nI i_88), .ref bl]) ⟨hx, hb, hml, hown, hts⟩ (a_told l D ρ ws_101 ty_61 fv h0 lc bc rc fc dn tl v_176 k_180 (mall (fv 9) i_88 40) (fv 10 i_88) (fv 11 i_88) (fv 12 i_88) g_181 k_184 c9_185 t_186 f_187 0 H.size XB (by rw [wk_183]; omega) (by rw [wr_190]; omega) e_182 e_188 u_189) (cwV 2 hts gX8_blend_X8_told rfl rfl rfl (by decide +kernel) ⟨Nat.le_of_ble_eq_true rfl, Nat.le_of_ble_eq_true rfl⟩) ⟨fun a U g mk q => by obtain ⟨q0, q1, qP, qK, qD, qZ⟩ := q; exact ⟨q0, q1, qP, va_K.moved (u := U) (U := U.calling g mk a) (Vm.Alike.refl U.vm) qK, qD, NZ.same rfl qZ⟩, va_recv hK hP (ci := 8) (q0 := k0) rfl e_111, fun U hU hW => ⟨rfl, by rw [hU], by rw [hU]; exact hP, va_K.moved hW.alike hK, hD.weaken (fun _ _ _ _ => trivial), NZ.warm hW hnz⟩⟩ rfl rfl hl.1 rfl (lv_room (Nat.le_of_ble_eq_true rfl)) dX8_blend_135 ⟨Nat.le_of_ble_eq_true rfl, Nat.le_of_ble_eq_true rfl⟩) hS (fun q _ h => hFc q h) hFc (fun r_198 u t H1 locs ht hvm w_199 hB hz1 hk1 hS => ?_)
      obtain ⟨ws_200, ty_201, hm_202, ht_204, hP1, hK1, hD1, hx_203⟩ := hB
      rw [ht] at hP1
      have hK := va_K.moved hvm.symm hK1
      have hD := hD1.weaken (fun _ _ _ h => hFc _ h)
      generalize H1 = H at hP1 hS ⊢
      have hP := hP1
      obtain ⟨hx_203a, hx_203b⟩ := hx_203
      subst hx_203a
      subst hx_203b
      obtain rfl : r_198 = nI (bW fv lc a1 (cB a1 i_88)) := by rcases w_199 with ⟨h9, -⟩ | ⟨-, h9⟩; exact absurd ((nv_tot V (by omega)).2 h9) n0_196; exact h9.trans ((bt_x hlc g_191).trans bx_197.1)
      refine lv_aload_n hx hb dX8_blend_138 rfl (lv_at hl 3 rfl) ?_
      refine lv_aload hx hb dX8_blend_139 (lv_at hl 0 rfl) ?_
      refine lv_iconst (v := 1) hx hb dX8_blend_141 (by decide) ?_
      have hFc := free_all hD hS hA
      refine va_calli (va_runV (As := [.ref v_176, .int 1]) (rest := [.int (nI (bW fv lc a1 (cB a1 i_88))), .int (nI (bM fv a1 (cB a1 i_88))), .int (nI i_88), .ref bl]) ⟨hx, hb, hml, hown, hts⟩ (a_told l D ρ ws_101 ty_61 fv h0 lc bc rc fc dn tl v_176 k_180 (mall (fv 9) i_88 40) (fv 10 i_88) (fv 11 i_88) (fv 12 i_88) g_181 k_184 c9_185 t_186 f_187 1 H.size XB (by rw [wk_183]; omega) (by rw [wr_190]; omega) e_182 e_188 u_189) (cwV 2 hts gX8_blend_X8_told rfl rfl rfl (by decide +kernel) ⟨Nat.le_of_ble_eq_true rfl, Nat.le_of_ble_eq_true rfl⟩) ⟨fun a U g mk q => by obtain ⟨q0, q1, qP, qK, qD, qZ⟩ := q; exact ⟨q0, q1, qP, va_K.moved (u := U) (U := U.calling g mk a) (Vm.Alike.refl U.vm) qK, qD, NZ.same rfl qZ⟩, va_recv hK hP (ci := 8) (q0 := k0) rfl e_111, fun U hU hW => ⟨rfl, by rw [hU], by rw [hU]; exact hP, va_K.moved hW.alike hK, hD.weaken (fun _ _ _ _ => trivial), NZ.warm hW hnz⟩⟩ rfl rfl hl.1 rfl (lv_room (Nat.le_of_ble_eq_true rfl)) dX8_blend_142 ⟨Nat.le_of_ble_eq_true rfl, Nat.le_of_ble_eq_true rfl⟩) hS (fun q _ h => hFc q h) hFc (fun r_205 u t H1 locs ht hvm w_206 hB hz1 hk1 hS => ?_)
      obtain ⟨ws_207, ty_208, hm_209, ht_211, hP1, hK1, hD1, hx_210⟩ := hB
      rw [ht] at hP1
      have hK := va_K.moved hvm.symm hK1
      have hD := hD1.weaken (fun _ _ _ h => hFc _ h)
      generalize H1 = H at hP1 hS ⊢
      have hP := hP1
      obtain ⟨hx_210a, hx_210b⟩ := hx_210
      subst hx_210a
      subst hx_210b
      obtain rfl : r_205 = nI (bC fv lc a1 (cB a1 i_88)) := by rcases w_206 with ⟨h9, -⟩ | ⟨-, h9⟩; exact absurd ((nv_tot V (by omega)).2 h9) n0_196; exact h9.trans ((bt_x hlc g_191).trans bx_197.2.1)
      refine lv_aload hx hb dX8_blend_145 (lv_at hl 0 rfl) ?_
      refine va_get (D := D) (ci := 7) (v := .int (fv 12 i_88)) (C := RX7) (T := TX7) (N := 5) hx hb hts hin7 hown hK hP k_180 e_182 rfl 4 (by decide) (hts (.fieldLink RX8 150 "HoneyHouse$Vessel" "priceOrDay" "I") (List.mem_of_getElem? (i := 4) rfl)) (fun _ h9 => h9) rfl dX8_blend_147 ?_
      refine tp_i (y := nI (bP fv a1 (cB a1 i_88))) (bx_197.2.2) ?_
      have hFc := free_all hD hS hA
      refine va_callv (va_runV (As := [.int (nI i_88), .int (nI (bM fv a1 (cB a1 i_88))), .int (nI (bW fv lc a1 (cB a1 i_88))), .int (nI (bC fv lc a1 (cB a1 i_88))), .int (nI (bP fv a1 (cB a1 i_88)))]) (rest := []) ⟨hx, hb, hml, hown, hts⟩ (a_addTank l D (rz [kb2, kb3, kb4, kb5, kb6, kbl]) ws_101 ty_61 bl kbl b0 b2 b3 b4 b5 b6 b7 (fv 35 0) b9 (nI j_6) (nI (j_6 * 10 * j_18)) (nI (j_6 * 10 * j_30)) (nI (j_6 * 10 * j_42)) (cB a1 i_88) kb2 cb2 tb2 f2_89 kb3 cb3 tb3 f3_90 kb4 cb4 tb4 f4_91 kb5 cb5 tb5 f5_92 kb6 cb6 tb6 f6_93 (nI i_88) (nI (bM fv a1 (cB a1 i_88))) (nI (bW fv lc a1 (cB a1 i_88))) (nI (bC fv lc a1 (cB a1 i_88))) (nI (bP fv a1 (cB a1 i_88))) H.size h4 ⟨by omega, by omega, by omega, by omega⟩ e_104 e_105 u_76 e_106 u_77 e_107 u_78 e_108 u_79 e_109 u_80 (rz_in (by simp)) (rz_in (by simp)) (rz_in (by simp)) (rz_in (by simp)) (rz_in (by simp)) (rz_in (by simp))) (cwV 5 hts gX8_blend_X0_addTank rfl rfl rfl (by decide +kernel) ⟨Nat.le_of_ble_eq_true rfl, Nat.le_of_ble_eq_true rfl⟩) ⟨fun a U g mk q => by obtain ⟨q0, q1, qP, qK, qD⟩ := q; exact ⟨q0, q1, qP, va_K.moved (u := U) (U := U.calling g mk a) (Vm.Alike.refl U.vm) qK, qD⟩, va_recv hK hP (ci := 0) (q0 := kbl) rfl e_104, fun U hU hW => ⟨rfl, by rw [hU], by rw [hU]; exact hP, va_K.moved hW.alike hK, hD.weaken (fun _ _ _ _ => trivial)⟩⟩ rfl rfl hl.1 rfl (lv_room (Nat.le_of_ble_eq_true rfl)) dX8_blend_150 ⟨Nat.le_of_ble_eq_true rfl, Nat.le_of_ble_eq_true rfl⟩) hS (fun q _ h => hFc q h) hFc (fun u t H1 locs ht hvm w_212 hB hz1 hk1 hS => ?_)
      obtain ⟨ws_213, ty_214, hm_215, ht_217, hP1, hK1, hD1, hx_216⟩ := hB
      rw [ht] at hP1
      have hK := va_K.moved hvm.symm hK1
      have hD := hD1.weaken (fun _ _ _ h => hFc _ h)
      generalize H1 = H at hP1 hS ⊢
      have hP := hP1
      have e_219 := hm_215.keep (rz_o6 (pl_ne e_111 e_105 (by intro h9; simp at h9)) (pl_ne e_111 e_106 (by intro h9; simp at h9)) (pl_ne e_111 e_107 (by intro h9; simp at h9)) (pl_ne e_111 e_108 (by intro h9; simp at h9)) (pl_ne e_111 e_109 (by intro h9; simp at h9)) (pl_ne e_111 e_104 (by intro h9; simp at h9))) e_111
      have e_220 := hm_215.keep (rz_o6 (pl_ne e_112 e_105 (by intro h9; simp at h9)) (pl_ne e_112 e_106 (by intro h9; simp at h9)) (pl_ne e_112 e_107 (by intro h9; simp at h9)) (pl_ne e_112 e_108 (by intro h9; simp at h9)) (pl_ne e_112 e_109 (by intro h9; simp at h9)) (pl_ne e_112 e_104 (by intro h9; simp at h9))) e_112
      have e_221 := hm_215.keep (rz_o6 (pl_ne e_110 e_105 (by intro h9; simp at h9)) (pl_ne e_110 e_106 (by intro h9; simp at h9)) (pl_ne e_110 e_107 (by intro h9; simp at h9)) (pl_ne e_110 e_108 (by intro h9; simp at h9)) (pl_ne e_110 e_109 (by intro h9; simp at h9)) (pl_ne e_110 e_104 (by intro h9; simp at h9))) e_110
      have e_222 := hm_215.keep (rz_o6 (show kb7 ≠ kb2 by omega) (show kb7 ≠ kb3 by omega) (show kb7 ≠ kb4 by omega) (show kb7 ≠ kb5 by omega) (show kb7 ≠ kb6 by omega) (pl_ne e_135 e_104 (by intro h9; simp at h9))) e_135
      have e_223 := hm_215.keep (rz_o6 (pl_ne e_182 e_105 (by intro h9; simp at h9)) (pl_ne e_182 e_106 (by intro h9; simp at h9)) (pl_ne e_182 e_107 (by intro h9; simp at h9)) (pl_ne e_182 e_108 (by intro h9; simp at h9)) (pl_ne e_182 e_109 (by intro h9; simp at h9)) (pl_ne e_182 e_104 (by intro h9; simp at h9))) e_182
      have e_224 := hm_215.keep (rz_o6 (pl_ne e_188 e_105 (by intro h9; simp at h9)) (pl_ne e_188 e_106 (by intro h9; simp at h9)) (pl_ne e_188 e_107 (by intro h9; simp at h9)) (pl_ne e_188 e_108 (by intro h9; simp at h9)) (pl_ne e_188 e_109 (by intro h9; simp at h9)) (pl_ne e_188 e_104 (by intro h9; simp at h9))) e_188
      have u_225 := ht_217 _ _ u_74
      have u_226 := ht_217 _ _ u_75
      have u_227 := ht_217 _ _ u_76
      have u_228 := ht_217 _ _ u_77
      have u_229 := ht_217 _ _ u_78
      have u_230 := ht_217 _ _ u_79
      have u_231 := ht_217 _ _ u_80
      have u_232 := ht_217 _ _ u_81
      have u_233 := ht_217 _ _ u_189
      have hm_234 : sm (uy ρ [8009]) [0] ws_101 ws_213 := hm_215.up (fun k _ h => rz_u6 (uy_0 wb2) (uy_0 wb3) (uy_0 wb4) (uy_0 wb5) (uy_0 wb6) (uy_0 wbl) k h)
      have hsm := hsm.tr (hm_234.mono (by decide))
      have hlp_103 := hlp_103.tr (hm_234.mono (by decide))
      have htx := htx.tr ht_217
      obtain ⟨f_235, f_236, f_237, f_238, f_239, e_240, up_245, e_241, up_246, e_242, up_247, e_243, up_248, e_244, up_249, e_250⟩ := hx_216
      have e_251 := e_250
      rw [← cB_y hb_194] at e_251
      refine lv_iinc (v := nI (i_88 + 1)) (lv' := [(7, .int (nI (i_88 + 1))), (8, .ref v_176), (1, .int a1), (0, .ref h0)]) hx hb dX8_blend_153 hl (k := 1) rfl (nI_add i_88 1) (by decide) rfl (fun ls hl => ?_)
      refine lv_goto (tgt := 83) hx hb dX8_blend_156 (by decide) ?_
      exact ih_87 (i_88 + 1, f_235, f_236, f_237, f_238, f_239) ws_213 _ _ ls (by show 10 - (i_88 + 1) < 10 - i_88; omega) ⟨hlp_103, e_251, e_240, e_241, e_242, e_243, e_244, e_221, (show (i_88 + 1) ≤ 10 from by omega), (show ∀ k9 : Nat, k9 < cB a1 (i_88 + 1) → f_235 k9 = nI (tK a1 k9) from rw_b hr2_95 up_245 (by rw [tK_eq hb_194 (by omega)]) (cB_y hb_194)), (show ∀ k9 : Nat, k9 < cB a1 (i_88 + 1) → f_236 k9 = nI (bM fv a1 k9) from rw_b hr3_96 up_246 rfl (cB_y hb_194)), (show ∀ k9 : Nat, k9 < cB a1 (i_88 + 1) → f_237 k9 = nI (bW fv lc a1 k9) from rw_b hr4_97 up_247 rfl (cB_y hb_194)), (show ∀ k9 : Nat, k9 < cB a1 (i_88 + 1) → f_238 k9 = nI (bC fv lc a1 k9) from rw_b hr5_98 up_248 rfl (cB_y hb_194)), (show ∀ k9 : Nat, k9 < cB a1 (i_88 + 1) → f_239 k9 = nI (bP fv a1 k9) from rw_b hr6_99 up_249 rfl (cB_y hb_194)), (show ∀ k9 : Nat, cB a1 (i_88 + 1) ≤ k9 → k9 < 4 → f_236 k9 = 0 from fun k9 h8 h9 => by rw [cB_y hb_194] at h8; rw [up_246, upd_n (by omega)]; exact hz_100 k9 (by omega) h9)⟩ hP hD hS (lv_sub hl [0, 2, 3] rfl)
    refine lv_if_eq (tgt := 153) hx hb dX8_blend_113 (by decide) (fun c_252 => ?_) (fun c_252 => absurd (by decide) c_252)
    have e_253 := e_104
    rw [← cB_n hb_194] at e_253
    refine lv_iinc (v := nI (i_88 + 1)) (lv' := [(7, .int (nI (i_88 + 1))), (8, .ref v_176), (1, .int a1), (0, .ref h0)]) hx hb dX8_blend_153 hl (k := 1) rfl (nI_add i_88 1) (by decide) rfl (fun ls hl => ?_)
    refine lv_goto (tgt := 83) hx hb dX8_blend_156 (by decide) ?_
    exact ih_87 (i_88 + 1, f2_89, f3_90, f4_91, f5_92, f6_93) ws_101 _ _ ls (by show 10 - (i_88 + 1) < 10 - i_88; omega) ⟨hlp_103, e_253, e_105, e_106, e_107, e_108, e_109, e_110, (show (i_88 + 1) ≤ 10 from by omega), (show ∀ k9 : Nat, k9 < cB a1 (i_88 + 1) → f2_89 k9 = nI (tK a1 k9) from (by rw [cB_n hb_194]; exact hr2_95)), (show ∀ k9 : Nat, k9 < cB a1 (i_88 + 1) → f3_90 k9 = nI (bM fv a1 k9) from (by rw [cB_n hb_194]; exact hr3_96)), (show ∀ k9 : Nat, k9 < cB a1 (i_88 + 1) → f4_91 k9 = nI (bW fv lc a1 k9) from (by rw [cB_n hb_194]; exact hr4_97)), (show ∀ k9 : Nat, k9 < cB a1 (i_88 + 1) → f5_92 k9 = nI (bC fv lc a1 k9) from (by rw [cB_n hb_194]; exact hr5_98)), (show ∀ k9 : Nat, k9 < cB a1 (i_88 + 1) → f6_93 k9 = nI (bP fv a1 k9) from (by rw [cB_n hb_194]; exact hr6_99)), (show ∀ k9 : Nat, cB a1 (i_88 + 1) ≤ k9 → k9 < 4 → f3_90 k9 = 0 from (by rw [cB_n hb_194]; exact hz_100))⟩ hP hD hS (lv_sub hl [0, 2, 3] rfl)
  refine lv_if_ne (tgt := 67) hx hb dX8_blend_62 (by decide) (fun c_254 => absurd (by decide) c_254) (fun c_254 => ?_)
  refine lv_iconst (v := (-1)) hx hb dX8_blend_65 (by decide) ?_
  exact W.iret (v := (-1)) hx hb hr (fun t ht hW => ⟨⟨(-1), (), rfl, trivial, ws, tys, htx, by rw [ht]; exact hP, va_K.moved hW.alike hK, hD, Or.inl ⟨bNo_i (Or.inr (Or.inr (Or.inr (Or.inr hAT_57)))), X⟩⟩, hS.F ht⟩) hS.2.2 dX8_blend_66
set_option maxHeartbeats 4000000 in
set_option maxRecDepth 100000 in
theorem h_parts (l : Launch) (D : va_G) (ρ : Nat → Nat) (ws : va_W) (tys : List (ClassId × FieldType)) (fv : Nat → Nat → Int32) (h0 lc bc rc fc : Nat) (dn : Int32) (tl : Nat) (a1 : Int32) (sz : Nat) (X : XI ρ fv ws tys h0 lc bc rc fc dn tl) : Met l yX8_parts wsX8_parts ({ frames := 2, cells := 0, slots := 0, locals := 43 }) (va_Pc [.ref h0, .int a1] (fun U => U.heap.size = sz ∧ va_P D vwCl ws U.heap ∧ va_K D vwCl tys U ∧ va_D (fun _ => True) ws ∧ NZ U)) (va_Qi (fun (r : Int32) (_ : Unit) => (((a1 < 0 ∨ 9 < a1) ∨ fv 35 0 = 0) ∧ r = (-1)) ∨ (¬ ((a1 < 0 ∨ 9 < a1) ∨ fv 35 0 = 0) ∧ r = fv 36 a1.toNatClampNeg)) (fun (_ : Unit) (t : State) => ∃ (ws' : va_W) (tys' : List (ClassId × FieldType)), sm ρ [] ws ws' ∧ tyx tys tys' ∧ va_P D vwCl ws' t.heap ∧ va_K D vwCl tys' t ∧ va_D (va_A ws sz) ws' ∧ (XI ρ fv ws' tys' h0 lc bc rc fc dn tl)) (va_A ws sz)) 0 0 (va_A ws sz) := by
  refine Met.ofW (cc := cX8_parts) (maxL := 2) (ret := (some .int)) (by decide) rfl ?_
  intro p e s m args below meth c s₁ B hml hv
  obtain ⟨rfl, hsz, hP, hK, hD0, hnz⟩ := hv
  have hx := B.exec
  have hb := B.bytes
  have hr := B.returns
  have hts := atoms_spec (ws := wsX8_parts) B.pre
  have hown : s.vm.findClass RX8 = some m.cls := findClass_of_methodNamed B.named
  have hlocks := B.notSynchronized
  subst hsz
  have hD := hD0.self (sz := s.heap.size)
  generalize hAe : va_A ws s.heap.size = A at hD ⊢
  have hA : ∀ q : Nat, s.heap.size ≤ q → A q := fun q h => by rw [← hAe]; exact Or.inr h
  have hS : va_S A s.heap s.heap [] := va_S.rf
  have hsm : sm ρ [] ws ws := sm.rf ws
  have htx : tyx tys tys := tyx.rf tys
  have hin0 : ∀ w ∈ u_ws RX0 TX0 14, w ∈ wsX8_parts := (fun _ h9 => List.mem_cons_of_mem _ ((List.mem_append_right _ h9)))
  have hin8 : ∀ w ∈ u_ws RX8 TX8 15, w ∈ wsX8_parts := (fun _ h9 => List.mem_cons_of_mem _ (List.mem_append_left _ ((List.mem_append_right _ h9))))
  have hl := lv_entry ([.ref h0, .int a1]) (n := 2) (Nat.le_of_ble_eq_true rfl)
  rw [lg_entry_eq]
  generalize (lg_sl ([.ref h0, .int a1]) ++ List.replicate (2 - (lg_sl ([.ref h0, .int a1])).length) Slot.unset).toArray = ls at hl ⊢
  have hl : lv_has ls 2 [(0, .ref h0), (1, .int a1)] := hl
  obtain ⟨k0, la, ta, ba, ra, sn, rd, dr, bl, vd, fb, e0, w0, hle0, hnum, qla, qta, qba, qra, qsn, qrd, qdr, qbl, qvd, qfb⟩ := id X
  obtain ⟨kbl, b0, b2, b3, b4, b5, b6, b7, kb2, kb3, kb4, kb5, kb6, kb7, b8, b9, b10, b11, b12, b13, ebl, wbl, ⟨kb0, cb0, tb0, fb0, eb0, ub0, wb0, gb0⟩, hbo, ⟨cb2, tb2, fb2, eb2, ub2, wb2⟩, ⟨cb3, tb3, fb3, eb3, ub3, wb3⟩, ⟨cb4, tb4, fb4, eb4, ub4, wb4⟩, ⟨cb5, tb5, fb5, eb5, ub5, wb5⟩, ⟨cb6, tb6, fb6, eb6, ub6, wb6⟩, ⟨cb7, tb7, fb7, eb7, ub7, wb7⟩⟩ := id qbl
  obtain ⟨kta, cta, tta, fta, eta, uta, hta0, hta1⟩ := id qta
  refine lv_aload_n hx hb dX8_parts_0 rfl (lv_at hl 0 rfl) ?_
  refine lv_iload_n hx hb dX8_parts_1 rfl (lv_at hl 1 rfl) ?_
  refine va_csq (W.runV (As := [.int a1]) (rest := []) ⟨hx, hb, hml, hown, hts⟩ (s_X8_tankAt l D ws tys h0 k0 _ ta kta cta fta tta a1 e0 rfl eta uta) (cwV 1 hts gX8_parts_X8_tankAt rfl rfl rfl (by decide +kernel) ⟨Nat.le_of_ble_eq_true rfl, Nat.le_of_ble_eq_true rfl⟩) ⟨fun a U g mk q => ⟨q.1, q.2.1, va_K.moved (u := U) (U := U.calling g mk a) (Vm.Alike.refl U.vm) q.2.2⟩, va_recv hK hP (ci := 8) (q0 := k0) rfl e0, fun U hU hW => ⟨rfl, by rw [hU]; exact hP, va_K.moved hW.alike hK⟩⟩ rfl rfl hl.1 rfl (lv_room (Nat.le_of_ble_eq_true rfl)) dX8_parts_2 ⟨Nat.le_of_ble_eq_true rfl, Nat.le_of_ble_eq_true rfl⟩) (fun r_1 k_2 => ?_)
  have hz_7 : (r_1 = none ∧ (a1 < 0 ∨ 9 < a1)) ∨ ∃ v9, r_1 = some v9 ∧ ¬ a1 < 0 ∧ ¬ 9 < a1 := by rcases k_2 with h9 | ⟨q1, q2, q3⟩; exact Or.inl h9; obtain ⟨v9, e9, -⟩ := hta1 a1.toNatClampNeg (cl_lt q1 q2 (by decide)); exact Or.inr ⟨v9, q3.trans e9, q1, q2⟩
  rcases hz_7 with ⟨rfl, o_8⟩ | ⟨v_6, rfl, a_3, b_4⟩
  · refine tp_v (y := .null) rfl ?_
    refine lv_ifnullN (tgt := 18) hx hb dX8_parts_5 (by decide) ?_
    refine lv_iconst (v := (-1)) hx hb dX8_parts_18 (by decide) ?_
    exact W.iret (v := (-1)) hx hb hr (fun t ht hW => ⟨⟨(-1), (), rfl, Or.inl ⟨Or.inl o_8, rfl⟩, ws, tys, hsm, htx, by rw [ht]; exact hP, va_K.moved hW.alike hK, hD, X.sm hsm htx (by decide) (by decide)⟩, hS.F ht⟩) hS.2.2 dX8_parts_19
  refine tp_v (y := .ref v_6) rfl ?_
  refine lv_ifnull hx hb dX8_parts_5 ?_
  refine lv_aload_n hx hb dX8_parts_8 rfl (lv_at hl 0 rfl) ?_
  refine va_get (D := D) (ci := 8) (v := .ref bl) (C := RX8) (T := TX8) (N := 15) hx hb hts hin8 hown hK hP k0 e0 rfl 7 (by decide) (hts (.fieldLink RX8 54 "HoneyHouse" "blender" "LHoneyHouse$Blender;") (List.mem_of_getElem? (i := 1) rfl)) (fun _ h9 => h9) rfl dX8_parts_9 ?_
  refine va_get (D := D) (ci := 0) (v := .int (fv 35 0)) (C := RX0) (T := TX0) (N := 14) hx hb hts hin0 hown hK hP kbl ebl rfl 1 (by decide) (hts (.fieldLink RX8 266 "HoneyHouse$Blender" "hasTold" "Z") (List.mem_of_getElem? (i := 2) rfl)) (fun _ h9 => h9) rfl dX8_parts_12 ?_
  refine lv_if_ne (tgt := 20) hx hb dX8_parts_15 (by decide) (fun c_9 => ?_) (fun c_9 => ?_)
  · refine lv_aload_n hx hb dX8_parts_20 rfl (lv_at hl 0 rfl) ?_
    refine va_get (D := D) (ci := 8) (v := .ref bl) (C := RX8) (T := TX8) (N := 15) hx hb hts hin8 hown hK hP k0 e0 rfl 7 (by decide) (hts (.fieldLink RX8 54 "HoneyHouse" "blender" "LHoneyHouse$Blender;") (List.mem_of_getElem? (i := 1) rfl)) (fun _ h9 => h9) rfl dX8_parts_21 ?_
    refine va_get (D := D) (ci := 0) (v := .ref b0) (C := RX0) (T := TX0) (N := 14) hx hb hts hin0 hown hK hP kbl ebl rfl 0 (by decide) (hts (.fieldLink RX8 269 "HoneyHouse$Blender" "toldParts" "[I") (List.mem_of_getElem? (i := 3) rfl)) (fun _ h9 => h9) rfl dX8_parts_24 ?_
    refine lv_iload_n hx hb dX8_parts_27 rfl (lv_at hl 1 rfl) ?_
    refine va_iald (f := fb0) (n := 10) hx hb hK hP kb0 tb0 eb0 ub0 (i_in a_3 b_4 (by decide)) dX8_parts_28 ?_
    exact W.iret (v := fb0 a1.toNatClampNeg) hx hb hr (fun t ht hW => ⟨⟨fb0 a1.toNatClampNeg, (), rfl, Or.inr ⟨(fun h9 => Or.elim h9 (fun h9 => Or.elim h9 a_3 b_4) c_9), gb0 _ (cl_lt a_3 b_4 (by decide))⟩, ws, tys, hsm, htx, by rw [ht]; exact hP, va_K.moved hW.alike hK, hD, X.sm hsm htx (by decide) (by decide)⟩, hS.F ht⟩) hS.2.2 dX8_parts_29
  refine lv_iconst (v := (-1)) hx hb dX8_parts_18 (by decide) ?_
  exact W.iret (v := (-1)) hx hb hr (fun t ht hW => ⟨⟨(-1), (), rfl, Or.inl ⟨Or.inr c_9, rfl⟩, ws, tys, hsm, htx, by rw [ht]; exact hP, va_K.moved hW.alike hK, hD, X.sm hsm htx (by decide) (by decide)⟩, hS.F ht⟩) hS.2.2 dX8_parts_19
