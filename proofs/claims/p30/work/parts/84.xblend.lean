theorem dX8_trace_0 : decode cX8_trace 0 = .ok (.aload_n 0, 1) := by decide +kernel
theorem dX8_trace_1 : decode cX8_trace 1 = .ok (.iload_n 1, 1) := by decide +kernel
theorem dX8_trace_2 : decode cX8_trace 2 = .ok (.invokevirtual 96, 3) := by decide +kernel
theorem dX8_trace_5 : decode cX8_trace 5 = .ok (.ifnonnull 5, 3) := by decide +kernel
theorem dX8_trace_8 : decode cX8_trace 8 = .ok (.iconst (-1), 1) := by decide +kernel
theorem dX8_trace_9 : decode cX8_trace 9 = .ok (.ireturn, 1) := by decide +kernel
theorem dX8_trace_10 : decode cX8_trace 10 = .ok (.aload_n 0, 1) := by decide +kernel
theorem dX8_trace_11 : decode cX8_trace 11 = .ok (.iconst 0, 1) := by decide +kernel
theorem dX8_trace_12 : decode cX8_trace 12 = .ok (.putfield 272, 3) := by decide +kernel
theorem dX8_trace_15 : decode cX8_trace 15 = .ok (.iconst 0, 1) := by decide +kernel
theorem dX8_trace_16 : decode cX8_trace 16 = .ok (.istore_n 2, 1) := by decide +kernel
theorem dX8_trace_17 : decode cX8_trace 17 = .ok (.iload_n 2, 1) := by decide +kernel
theorem dX8_trace_18 : decode cX8_trace 18 = .ok (.aload_n 0, 1) := by decide +kernel
theorem dX8_trace_19 : decode cX8_trace 19 = .ok (.getfield 21, 3) := by decide +kernel
theorem dX8_trace_22 : decode cX8_trace 22 = .ok (.arraylength, 1) := by decide +kernel
theorem dX8_trace_23 : decode cX8_trace 23 = .ok (.if_icmp .ge 60, 3) := by decide +kernel
theorem dX8_trace_26 : decode cX8_trace 26 = .ok (.aload_n 0, 1) := by decide +kernel
theorem dX8_trace_27 : decode cX8_trace 27 = .ok (.getfield 21, 3) := by decide +kernel
theorem dX8_trace_30 : decode cX8_trace 30 = .ok (.iload_n 2, 1) := by decide +kernel
theorem dX8_trace_31 : decode cX8_trace 31 = .ok (.aaload, 1) := by decide +kernel
theorem dX8_trace_32 : decode cX8_trace 32 = .ok (.astore_n 3, 1) := by decide +kernel
theorem dX8_trace_33 : decode cX8_trace 33 = .ok (.aload_n 3, 1) := by decide +kernel
theorem dX8_trace_34 : decode cX8_trace 34 = .ok (.ifnull 43, 3) := by decide +kernel
theorem dX8_trace_37 : decode cX8_trace 37 = .ok (.aload_n 3, 1) := by decide +kernel
theorem dX8_trace_38 : decode cX8_trace 38 = .ok (.iload_n 1, 1) := by decide +kernel
theorem dX8_trace_39 : decode cX8_trace 39 = .ok (.invokevirtual 181, 3) := by decide +kernel
theorem dX8_trace_42 : decode cX8_trace 42 = .ok (.ifCond .le 35, 3) := by decide +kernel
theorem dX8_trace_45 : decode cX8_trace 45 = .ok (.aload_n 0, 1) := by decide +kernel
theorem dX8_trace_46 : decode cX8_trace 46 = .ok (.getfield 272, 3) := by decide +kernel
theorem dX8_trace_49 : decode cX8_trace 49 = .ok (.aload_n 0, 1) := by decide +kernel
theorem dX8_trace_50 : decode cX8_trace 50 = .ok (.getfield 62, 3) := by decide +kernel
theorem dX8_trace_53 : decode cX8_trace 53 = .ok (.arraylength, 1) := by decide +kernel
theorem dX8_trace_54 : decode cX8_trace 54 = .ok (.if_icmp .ge 23, 3) := by decide +kernel
theorem dX8_trace_57 : decode cX8_trace 57 = .ok (.aload_n 0, 1) := by decide +kernel
theorem dX8_trace_58 : decode cX8_trace 58 = .ok (.getfield 62, 3) := by decide +kernel
theorem dX8_trace_61 : decode cX8_trace 61 = .ok (.aload_n 0, 1) := by decide +kernel
theorem dX8_trace_62 : decode cX8_trace 62 = .ok (.getfield 272, 3) := by decide +kernel
theorem dX8_trace_65 : decode cX8_trace 65 = .ok (.iload_n 2, 1) := by decide +kernel
theorem dX8_trace_66 : decode cX8_trace 66 = .ok (.iastore, 1) := by decide +kernel
theorem dX8_trace_67 : decode cX8_trace 67 = .ok (.aload_n 0, 1) := by decide +kernel
theorem dX8_trace_68 : decode cX8_trace 68 = .ok (.dup, 1) := by decide +kernel
theorem dX8_trace_69 : decode cX8_trace 69 = .ok (.getfield 272, 3) := by decide +kernel
theorem dX8_trace_72 : decode cX8_trace 72 = .ok (.iconst 1, 1) := by decide +kernel
theorem dX8_trace_73 : decode cX8_trace 73 = .ok (.iadd, 1) := by decide +kernel
theorem dX8_trace_74 : decode cX8_trace 74 = .ok (.putfield 272, 3) := by decide +kernel
theorem dX8_trace_77 : decode cX8_trace 77 = .ok (.iinc 2 1, 3) := by decide +kernel
theorem dX8_trace_80 : decode cX8_trace 80 = .ok (.goto (-63), 3) := by decide +kernel
theorem dX8_trace_83 : decode cX8_trace 83 = .ok (.aload_n 0, 1) := by decide +kernel
theorem dX8_trace_84 : decode cX8_trace 84 = .ok (.getfield 272, 3) := by decide +kernel
theorem dX8_trace_87 : decode cX8_trace 87 = .ok (.ireturn, 1) := by decide +kernel
theorem dJ6_bitCount_0f7a4_0 : decode cJ6_bitCount_0f7a4 0 = .ok (.iload_n 0, 1) := by decide +kernel
theorem dJ6_bitCount_0f7a4_1 : decode cJ6_bitCount_0f7a4 1 = .ok (.iload_n 0, 1) := by decide +kernel
theorem dJ6_bitCount_0f7a4_2 : decode cJ6_bitCount_0f7a4 2 = .ok (.iconst 1, 1) := by decide +kernel
theorem dJ6_bitCount_0f7a4_3 : decode cJ6_bitCount_0f7a4 3 = .ok (.iushr, 1) := by decide +kernel
theorem dJ6_bitCount_0f7a4_4 : decode cJ6_bitCount_0f7a4 4 = .ok (.ldc_w 265, 3) := by decide +kernel
theorem dJ6_bitCount_0f7a4_7 : decode cJ6_bitCount_0f7a4 7 = .ok (.iand, 1) := by decide +kernel
theorem dJ6_bitCount_0f7a4_8 : decode cJ6_bitCount_0f7a4 8 = .ok (.isub, 1) := by decide +kernel
theorem dJ6_bitCount_0f7a4_9 : decode cJ6_bitCount_0f7a4 9 = .ok (.istore_n 0, 1) := by decide +kernel
theorem dJ6_bitCount_0f7a4_10 : decode cJ6_bitCount_0f7a4 10 = .ok (.iload_n 0, 1) := by decide +kernel
theorem dJ6_bitCount_0f7a4_11 : decode cJ6_bitCount_0f7a4 11 = .ok (.ldc_w 266, 3) := by decide +kernel
theorem dJ6_bitCount_0f7a4_14 : decode cJ6_bitCount_0f7a4 14 = .ok (.iand, 1) := by decide +kernel
theorem dJ6_bitCount_0f7a4_15 : decode cJ6_bitCount_0f7a4 15 = .ok (.iload_n 0, 1) := by decide +kernel
theorem dJ6_bitCount_0f7a4_16 : decode cJ6_bitCount_0f7a4 16 = .ok (.iconst 2, 1) := by decide +kernel
theorem dJ6_bitCount_0f7a4_17 : decode cJ6_bitCount_0f7a4 17 = .ok (.iushr, 1) := by decide +kernel
theorem dJ6_bitCount_0f7a4_18 : decode cJ6_bitCount_0f7a4 18 = .ok (.ldc_w 266, 3) := by decide +kernel
theorem dJ6_bitCount_0f7a4_21 : decode cJ6_bitCount_0f7a4 21 = .ok (.iand, 1) := by decide +kernel
theorem dJ6_bitCount_0f7a4_22 : decode cJ6_bitCount_0f7a4 22 = .ok (.iadd, 1) := by decide +kernel
theorem dJ6_bitCount_0f7a4_23 : decode cJ6_bitCount_0f7a4 23 = .ok (.istore_n 0, 1) := by decide +kernel
theorem dJ6_bitCount_0f7a4_24 : decode cJ6_bitCount_0f7a4 24 = .ok (.iload_n 0, 1) := by decide +kernel
theorem dJ6_bitCount_0f7a4_25 : decode cJ6_bitCount_0f7a4 25 = .ok (.iload_n 0, 1) := by decide +kernel
theorem dJ6_bitCount_0f7a4_26 : decode cJ6_bitCount_0f7a4 26 = .ok (.iconst 4, 1) := by decide +kernel
theorem dJ6_bitCount_0f7a4_27 : decode cJ6_bitCount_0f7a4 27 = .ok (.iushr, 1) := by decide +kernel
theorem dJ6_bitCount_0f7a4_28 : decode cJ6_bitCount_0f7a4 28 = .ok (.iadd, 1) := by decide +kernel
theorem dJ6_bitCount_0f7a4_29 : decode cJ6_bitCount_0f7a4 29 = .ok (.ldc_w 267, 3) := by decide +kernel
theorem dJ6_bitCount_0f7a4_32 : decode cJ6_bitCount_0f7a4 32 = .ok (.iand, 1) := by decide +kernel
theorem dJ6_bitCount_0f7a4_33 : decode cJ6_bitCount_0f7a4 33 = .ok (.istore_n 0, 1) := by decide +kernel
theorem dJ6_bitCount_0f7a4_34 : decode cJ6_bitCount_0f7a4 34 = .ok (.iload_n 0, 1) := by decide +kernel
theorem dJ6_bitCount_0f7a4_35 : decode cJ6_bitCount_0f7a4 35 = .ok (.iload_n 0, 1) := by decide +kernel
theorem dJ6_bitCount_0f7a4_36 : decode cJ6_bitCount_0f7a4 36 = .ok (.bipush 8, 2) := by decide +kernel
theorem dJ6_bitCount_0f7a4_38 : decode cJ6_bitCount_0f7a4 38 = .ok (.iushr, 1) := by decide +kernel
theorem dJ6_bitCount_0f7a4_39 : decode cJ6_bitCount_0f7a4 39 = .ok (.iadd, 1) := by decide +kernel
theorem dJ6_bitCount_0f7a4_40 : decode cJ6_bitCount_0f7a4 40 = .ok (.istore_n 0, 1) := by decide +kernel
theorem dJ6_bitCount_0f7a4_41 : decode cJ6_bitCount_0f7a4 41 = .ok (.iload_n 0, 1) := by decide +kernel
theorem dJ6_bitCount_0f7a4_42 : decode cJ6_bitCount_0f7a4 42 = .ok (.iload_n 0, 1) := by decide +kernel
theorem dJ6_bitCount_0f7a4_43 : decode cJ6_bitCount_0f7a4 43 = .ok (.bipush 16, 2) := by decide +kernel
theorem dJ6_bitCount_0f7a4_45 : decode cJ6_bitCount_0f7a4 45 = .ok (.iushr, 1) := by decide +kernel
theorem dJ6_bitCount_0f7a4_46 : decode cJ6_bitCount_0f7a4 46 = .ok (.iadd, 1) := by decide +kernel
theorem dJ6_bitCount_0f7a4_47 : decode cJ6_bitCount_0f7a4 47 = .ok (.istore_n 0, 1) := by decide +kernel
theorem dJ6_bitCount_0f7a4_48 : decode cJ6_bitCount_0f7a4 48 = .ok (.iload_n 0, 1) := by decide +kernel
theorem dJ6_bitCount_0f7a4_49 : decode cJ6_bitCount_0f7a4 49 = .ok (.bipush 63, 2) := by decide +kernel
theorem dJ6_bitCount_0f7a4_51 : decode cJ6_bitCount_0f7a4 51 = .ok (.iand, 1) := by decide +kernel
theorem dJ6_bitCount_0f7a4_52 : decode cJ6_bitCount_0f7a4 52 = .ok (.ireturn, 1) := by decide +kernel
theorem dX8_areTanksToBlend_0 : decode cX8_areTanksToBlend 0 = .ok (.iload_n 1, 1) := by decide +kernel
theorem dX8_areTanksToBlend_1 : decode cX8_areTanksToBlend 1 = .ok (.bipush 10, 2) := by decide +kernel
theorem dX8_areTanksToBlend_3 : decode cX8_areTanksToBlend 3 = .ok (.ishr, 1) := by decide +kernel
theorem dX8_areTanksToBlend_4 : decode cX8_areTanksToBlend 4 = .ok (.ifCond .ne 15, 3) := by decide +kernel
theorem dX8_areTanksToBlend_7 : decode cX8_areTanksToBlend 7 = .ok (.iload_n 1, 1) := by decide +kernel
theorem dX8_areTanksToBlend_8 : decode cX8_areTanksToBlend 8 = .ok (.invokestatic 310, 3) := by decide +kernel
theorem dX8_areTanksToBlend_11 : decode cX8_areTanksToBlend 11 = .ok (.iconst 1, 1) := by decide +kernel
theorem dX8_areTanksToBlend_12 : decode cX8_areTanksToBlend 12 = .ok (.iconst 4, 1) := by decide +kernel
theorem dX8_areTanksToBlend_13 : decode cX8_areTanksToBlend 13 = .ok (.invokestatic 85, 3) := by decide +kernel
theorem dX8_areTanksToBlend_16 : decode cX8_areTanksToBlend 16 = .ok (.ifCond .ne 5, 3) := by decide +kernel
theorem dX8_areTanksToBlend_19 : decode cX8_areTanksToBlend 19 = .ok (.iconst 0, 1) := by decide +kernel
theorem dX8_areTanksToBlend_20 : decode cX8_areTanksToBlend 20 = .ok (.ireturn, 1) := by decide +kernel
theorem dX8_areTanksToBlend_21 : decode cX8_areTanksToBlend 21 = .ok (.iconst 0, 1) := by decide +kernel
theorem dX8_areTanksToBlend_22 : decode cX8_areTanksToBlend 22 = .ok (.istore_n 2, 1) := by decide +kernel
theorem dX8_areTanksToBlend_23 : decode cX8_areTanksToBlend 23 = .ok (.iload_n 2, 1) := by decide +kernel
theorem dX8_areTanksToBlend_24 : decode cX8_areTanksToBlend 24 = .ok (.aload_n 0, 1) := by decide +kernel
theorem dX8_areTanksToBlend_25 : decode cX8_areTanksToBlend 25 = .ok (.getfield 17, 3) := by decide +kernel
theorem dX8_areTanksToBlend_28 : decode cX8_areTanksToBlend 28 = .ok (.arraylength, 1) := by decide +kernel
theorem dX8_areTanksToBlend_29 : decode cX8_areTanksToBlend 29 = .ok (.if_icmp .ge 40, 3) := by decide +kernel
theorem dX8_areTanksToBlend_32 : decode cX8_areTanksToBlend 32 = .ok (.iload_n 1, 1) := by decide +kernel
theorem dX8_areTanksToBlend_33 : decode cX8_areTanksToBlend 33 = .ok (.iload_n 2, 1) := by decide +kernel
theorem dX8_areTanksToBlend_34 : decode cX8_areTanksToBlend 34 = .ok (.invokestatic 255, 3) := by decide +kernel
theorem dX8_areTanksToBlend_37 : decode cX8_areTanksToBlend 37 = .ok (.ifCond .eq 26, 3) := by decide +kernel
theorem dX8_areTanksToBlend_40 : decode cX8_areTanksToBlend 40 = .ok (.aload_n 0, 1) := by decide +kernel
theorem dX8_areTanksToBlend_41 : decode cX8_areTanksToBlend 41 = .ok (.getfield 17, 3) := by decide +kernel
theorem dX8_areTanksToBlend_44 : decode cX8_areTanksToBlend 44 = .ok (.iload_n 2, 1) := by decide +kernel
theorem dX8_areTanksToBlend_45 : decode cX8_areTanksToBlend 45 = .ok (.aaload, 1) := by decide +kernel
theorem dX8_areTanksToBlend_46 : decode cX8_areTanksToBlend 46 = .ok (.ifnull 15, 3) := by decide +kernel
theorem dX8_areTanksToBlend_49 : decode cX8_areTanksToBlend 49 = .ok (.aload_n 0, 1) := by decide +kernel
theorem dX8_areTanksToBlend_50 : decode cX8_areTanksToBlend 50 = .ok (.getfield 17, 3) := by decide +kernel
theorem dX8_areTanksToBlend_53 : decode cX8_areTanksToBlend 53 = .ok (.iload_n 2, 1) := by decide +kernel
theorem dX8_areTanksToBlend_54 : decode cX8_areTanksToBlend 54 = .ok (.aaload, 1) := by decide +kernel
theorem dX8_areTanksToBlend_55 : decode cX8_areTanksToBlend 55 = .ok (.getfield 144, 3) := by decide +kernel
theorem dX8_areTanksToBlend_58 : decode cX8_areTanksToBlend 58 = .ok (.ifCond .ne 5, 3) := by decide +kernel
theorem dX8_areTanksToBlend_61 : decode cX8_areTanksToBlend 61 = .ok (.iconst 0, 1) := by decide +kernel
theorem dX8_areTanksToBlend_62 : decode cX8_areTanksToBlend 62 = .ok (.ireturn, 1) := by decide +kernel
theorem dX8_areTanksToBlend_63 : decode cX8_areTanksToBlend 63 = .ok (.iinc 2 1, 3) := by decide +kernel
theorem dX8_areTanksToBlend_66 : decode cX8_areTanksToBlend 66 = .ok (.goto (-43), 3) := by decide +kernel
theorem dX8_areTanksToBlend_69 : decode cX8_areTanksToBlend 69 = .ok (.iconst 1, 1) := by decide +kernel
theorem dX8_areTanksToBlend_70 : decode cX8_areTanksToBlend 70 = .ok (.ireturn, 1) := by decide +kernel
theorem dX0_tryWith_0 : decode cX0_tryWith 0 = .ok (.aload_n 0, 1) := by decide +kernel
theorem dX0_tryWith_1 : decode cX0_tryWith 1 = .ok (.getfield 43, 3) := by decide +kernel
theorem dX0_tryWith_4 : decode cX0_tryWith 4 = .ok (.iload_n 1, 1) := by decide +kernel
theorem dX0_tryWith_5 : decode cX0_tryWith 5 = .ok (.isub, 1) := by decide +kernel
theorem dX0_tryWith_6 : decode cX0_tryWith 6 = .ok (.iload_n 2, 1) := by decide +kernel
theorem dX0_tryWith_7 : decode cX0_tryWith 7 = .ok (.isub, 1) := by decide +kernel
theorem dX0_tryWith_8 : decode cX0_tryWith 8 = .ok (.istore_n 3, 1) := by decide +kernel
theorem dX0_tryWith_9 : decode cX0_tryWith 9 = .ok (.iload_n 1, 1) := by decide +kernel
theorem dX0_tryWith_10 : decode cX0_tryWith 10 = .ok (.aload_n 0, 1) := by decide +kernel
theorem dX0_tryWith_11 : decode cX0_tryWith 11 = .ok (.getfield 27, 3) := by decide +kernel
theorem dX0_tryWith_14 : decode cX0_tryWith 14 = .ok (.iconst 0, 1) := by decide +kernel
theorem dX0_tryWith_15 : decode cX0_tryWith 15 = .ok (.iaload, 1) := by decide +kernel
theorem dX0_tryWith_16 : decode cX0_tryWith 16 = .ok (.imul, 1) := by decide +kernel
theorem dX0_tryWith_17 : decode cX0_tryWith 17 = .ok (.iload_n 2, 1) := by decide +kernel
theorem dX0_tryWith_18 : decode cX0_tryWith 18 = .ok (.aload_n 0, 1) := by decide +kernel
theorem dX0_tryWith_19 : decode cX0_tryWith 19 = .ok (.getfield 27, 3) := by decide +kernel
theorem dX0_tryWith_22 : decode cX0_tryWith 22 = .ok (.iconst 1, 1) := by decide +kernel
theorem dX0_tryWith_23 : decode cX0_tryWith 23 = .ok (.iaload, 1) := by decide +kernel
theorem dX0_tryWith_24 : decode cX0_tryWith 24 = .ok (.imul, 1) := by decide +kernel
theorem dX0_tryWith_25 : decode cX0_tryWith 25 = .ok (.iadd, 1) := by decide +kernel
theorem dX0_tryWith_26 : decode cX0_tryWith 26 = .ok (.istore 4, 2) := by decide +kernel
theorem dX0_tryWith_28 : decode cX0_tryWith 28 = .ok (.iload_n 1, 1) := by decide +kernel
theorem dX0_tryWith_29 : decode cX0_tryWith 29 = .ok (.aload_n 0, 1) := by decide +kernel
theorem dX0_tryWith_30 : decode cX0_tryWith 30 = .ok (.getfield 21, 3) := by decide +kernel
theorem dX0_tryWith_33 : decode cX0_tryWith 33 = .ok (.iconst 0, 1) := by decide +kernel
theorem dX0_tryWith_34 : decode cX0_tryWith 34 = .ok (.iaload, 1) := by decide +kernel
theorem dX0_tryWith_35 : decode cX0_tryWith 35 = .ok (.imul, 1) := by decide +kernel
theorem dX0_tryWith_36 : decode cX0_tryWith 36 = .ok (.iload_n 2, 1) := by decide +kernel
theorem dX0_tryWith_37 : decode cX0_tryWith 37 = .ok (.aload_n 0, 1) := by decide +kernel
theorem dX0_tryWith_38 : decode cX0_tryWith 38 = .ok (.getfield 21, 3) := by decide +kernel
theorem dX0_tryWith_41 : decode cX0_tryWith 41 = .ok (.iconst 1, 1) := by decide +kernel
theorem dX0_tryWith_42 : decode cX0_tryWith 42 = .ok (.iaload, 1) := by decide +kernel
theorem dX0_tryWith_43 : decode cX0_tryWith 43 = .ok (.imul, 1) := by decide +kernel
theorem dX0_tryWith_44 : decode cX0_tryWith 44 = .ok (.iadd, 1) := by decide +kernel
theorem dX0_tryWith_45 : decode cX0_tryWith 45 = .ok (.istore 5, 2) := by decide +kernel
theorem dX0_tryWith_47 : decode cX0_tryWith 47 = .ok (.iload_n 1, 1) := by decide +kernel
theorem dX0_tryWith_48 : decode cX0_tryWith 48 = .ok (.aload_n 0, 1) := by decide +kernel
theorem dX0_tryWith_49 : decode cX0_tryWith 49 = .ok (.getfield 24, 3) := by decide +kernel
theorem dX0_tryWith_52 : decode cX0_tryWith 52 = .ok (.iconst 0, 1) := by decide +kernel
theorem dX0_tryWith_53 : decode cX0_tryWith 53 = .ok (.iaload, 1) := by decide +kernel
theorem dX0_tryWith_54 : decode cX0_tryWith 54 = .ok (.imul, 1) := by decide +kernel
theorem dX0_tryWith_55 : decode cX0_tryWith 55 = .ok (.iload_n 2, 1) := by decide +kernel
theorem dX0_tryWith_56 : decode cX0_tryWith 56 = .ok (.aload_n 0, 1) := by decide +kernel
theorem dX0_tryWith_57 : decode cX0_tryWith 57 = .ok (.getfield 24, 3) := by decide +kernel
theorem dX0_tryWith_60 : decode cX0_tryWith 60 = .ok (.iconst 1, 1) := by decide +kernel
theorem dX0_tryWith_61 : decode cX0_tryWith 61 = .ok (.iaload, 1) := by decide +kernel
theorem dX0_tryWith_62 : decode cX0_tryWith 62 = .ok (.imul, 1) := by decide +kernel
theorem dX0_tryWith_63 : decode cX0_tryWith 63 = .ok (.iadd, 1) := by decide +kernel
theorem dX0_tryWith_64 : decode cX0_tryWith 64 = .ok (.istore 6, 2) := by decide +kernel
theorem dX0_tryWith_66 : decode cX0_tryWith 66 = .ok (.iconst 0, 1) := by decide +kernel
theorem dX0_tryWith_67 : decode cX0_tryWith 67 = .ok (.iload_n 3, 1) := by decide +kernel
theorem dX0_tryWith_68 : decode cX0_tryWith 68 = .ok (.aload_n 0, 1) := by decide +kernel
theorem dX0_tryWith_69 : decode cX0_tryWith 69 = .ok (.getfield 18, 3) := by decide +kernel
theorem dX0_tryWith_72 : decode cX0_tryWith 72 = .ok (.iconst 3, 1) := by decide +kernel
theorem dX0_tryWith_73 : decode cX0_tryWith 73 = .ok (.iaload, 1) := by decide +kernel
theorem dX0_tryWith_74 : decode cX0_tryWith 74 = .ok (.isub, 1) := by decide +kernel
theorem dX0_tryWith_75 : decode cX0_tryWith 75 = .ok (.invokestatic 71, 3) := by decide +kernel
theorem dX0_tryWith_78 : decode cX0_tryWith 78 = .ok (.istore 7, 2) := by decide +kernel
theorem dX0_tryWith_80 : decode cX0_tryWith 80 = .ok (.iload 7, 2) := by decide +kernel
theorem dX0_tryWith_82 : decode cX0_tryWith 82 = .ok (.aload_n 0, 1) := by decide +kernel
theorem dX0_tryWith_83 : decode cX0_tryWith 83 = .ok (.getfield 18, 3) := by decide +kernel
theorem dX0_tryWith_86 : decode cX0_tryWith 86 = .ok (.iconst 2, 1) := by decide +kernel
theorem dX0_tryWith_87 : decode cX0_tryWith 87 = .ok (.iaload, 1) := by decide +kernel
theorem dX0_tryWith_88 : decode cX0_tryWith 88 = .ok (.iload_n 3, 1) := by decide +kernel
theorem dX0_tryWith_89 : decode cX0_tryWith 89 = .ok (.invokestatic 58, 3) := by decide +kernel
theorem dX0_tryWith_92 : decode cX0_tryWith 92 = .ok (.if_icmp .gt 144, 3) := by decide +kernel
theorem dX0_tryWith_95 : decode cX0_tryWith 95 = .ok (.iload_n 3, 1) := by decide +kernel
theorem dX0_tryWith_96 : decode cX0_tryWith 96 = .ok (.iload 7, 2) := by decide +kernel
theorem dX0_tryWith_98 : decode cX0_tryWith 98 = .ok (.isub, 1) := by decide +kernel
theorem dX0_tryWith_99 : decode cX0_tryWith 99 = .ok (.istore 8, 2) := by decide +kernel
theorem dX0_tryWith_101 : decode cX0_tryWith 101 = .ok (.iload 4, 2) := by decide +kernel
theorem dX0_tryWith_103 : decode cX0_tryWith 103 = .ok (.iload 7, 2) := by decide +kernel
theorem dX0_tryWith_105 : decode cX0_tryWith 105 = .ok (.aload_n 0, 1) := by decide +kernel
theorem dX0_tryWith_106 : decode cX0_tryWith 106 = .ok (.getfield 27, 3) := by decide +kernel
theorem dX0_tryWith_109 : decode cX0_tryWith 109 = .ok (.iconst 2, 1) := by decide +kernel
theorem dX0_tryWith_110 : decode cX0_tryWith 110 = .ok (.iaload, 1) := by decide +kernel
theorem dX0_tryWith_111 : decode cX0_tryWith 111 = .ok (.imul, 1) := by decide +kernel
theorem dX0_tryWith_112 : decode cX0_tryWith 112 = .ok (.iadd, 1) := by decide +kernel
theorem dX0_tryWith_113 : decode cX0_tryWith 113 = .ok (.iload 8, 2) := by decide +kernel
theorem dX0_tryWith_115 : decode cX0_tryWith 115 = .ok (.aload_n 0, 1) := by decide +kernel
theorem dX0_tryWith_116 : decode cX0_tryWith 116 = .ok (.getfield 27, 3) := by decide +kernel
theorem dX0_tryWith_119 : decode cX0_tryWith 119 = .ok (.iconst 3, 1) := by decide +kernel
theorem dX0_tryWith_120 : decode cX0_tryWith 120 = .ok (.iaload, 1) := by decide +kernel
theorem dX0_tryWith_121 : decode cX0_tryWith 121 = .ok (.imul, 1) := by decide +kernel
theorem dX0_tryWith_122 : decode cX0_tryWith 122 = .ok (.iadd, 1) := by decide +kernel
theorem dX0_tryWith_123 : decode cX0_tryWith 123 = .ok (.istore 9, 2) := by decide +kernel
theorem dX0_tryWith_125 : decode cX0_tryWith 125 = .ok (.aload_n 0, 1) := by decide +kernel
theorem dX0_tryWith_126 : decode cX0_tryWith 126 = .ok (.getfield 55, 3) := by decide +kernel
theorem dX0_tryWith_129 : decode cX0_tryWith 129 = .ok (.bipush (-2), 2) := by decide +kernel
theorem dX0_tryWith_131 : decode cX0_tryWith 131 = .ok (.if_icmp .eq 12, 3) := by decide +kernel
theorem dX0_tryWith_134 : decode cX0_tryWith 134 = .ok (.iload 9, 2) := by decide +kernel
theorem dX0_tryWith_136 : decode cX0_tryWith 136 = .ok (.aload_n 0, 1) := by decide +kernel
theorem dX0_tryWith_137 : decode cX0_tryWith 137 = .ok (.getfield 55, 3) := by decide +kernel
theorem dX0_tryWith_140 : decode cX0_tryWith 140 = .ok (.if_icmp .ge 90, 3) := by decide +kernel
theorem dX0_tryWith_143 : decode cX0_tryWith 143 = .ok (.aload_n 0, 1) := by decide +kernel
theorem dX0_tryWith_144 : decode cX0_tryWith 144 = .ok (.iload 5, 2) := by decide +kernel
theorem dX0_tryWith_146 : decode cX0_tryWith 146 = .ok (.iload 7, 2) := by decide +kernel
theorem dX0_tryWith_148 : decode cX0_tryWith 148 = .ok (.aload_n 0, 1) := by decide +kernel
theorem dX0_tryWith_149 : decode cX0_tryWith 149 = .ok (.getfield 21, 3) := by decide +kernel
theorem dX0_tryWith_152 : decode cX0_tryWith 152 = .ok (.iconst 2, 1) := by decide +kernel
theorem dX0_tryWith_153 : decode cX0_tryWith 153 = .ok (.iaload, 1) := by decide +kernel
theorem dX0_tryWith_154 : decode cX0_tryWith 154 = .ok (.imul, 1) := by decide +kernel
theorem dX0_tryWith_155 : decode cX0_tryWith 155 = .ok (.iadd, 1) := by decide +kernel
theorem dX0_tryWith_156 : decode cX0_tryWith 156 = .ok (.iload 8, 2) := by decide +kernel
theorem dX0_tryWith_158 : decode cX0_tryWith 158 = .ok (.aload_n 0, 1) := by decide +kernel
theorem dX0_tryWith_159 : decode cX0_tryWith 159 = .ok (.getfield 21, 3) := by decide +kernel
theorem dX0_tryWith_162 : decode cX0_tryWith 162 = .ok (.iconst 3, 1) := by decide +kernel
theorem dX0_tryWith_163 : decode cX0_tryWith 163 = .ok (.iaload, 1) := by decide +kernel
theorem dX0_tryWith_164 : decode cX0_tryWith 164 = .ok (.imul, 1) := by decide +kernel
theorem dX0_tryWith_165 : decode cX0_tryWith 165 = .ok (.iadd, 1) := by decide +kernel
theorem dX0_tryWith_166 : decode cX0_tryWith 166 = .ok (.iload 6, 2) := by decide +kernel
theorem dX0_tryWith_168 : decode cX0_tryWith 168 = .ok (.iload 7, 2) := by decide +kernel
theorem dX0_tryWith_170 : decode cX0_tryWith 170 = .ok (.aload_n 0, 1) := by decide +kernel
theorem dX0_tryWith_171 : decode cX0_tryWith 171 = .ok (.getfield 24, 3) := by decide +kernel
theorem dX0_tryWith_174 : decode cX0_tryWith 174 = .ok (.iconst 2, 1) := by decide +kernel
theorem dX0_tryWith_175 : decode cX0_tryWith 175 = .ok (.iaload, 1) := by decide +kernel
theorem dX0_tryWith_176 : decode cX0_tryWith 176 = .ok (.imul, 1) := by decide +kernel
theorem dX0_tryWith_177 : decode cX0_tryWith 177 = .ok (.iadd, 1) := by decide +kernel
theorem dX0_tryWith_178 : decode cX0_tryWith 178 = .ok (.iload 8, 2) := by decide +kernel
theorem dX0_tryWith_180 : decode cX0_tryWith 180 = .ok (.aload_n 0, 1) := by decide +kernel
theorem dX0_tryWith_181 : decode cX0_tryWith 181 = .ok (.getfield 24, 3) := by decide +kernel
theorem dX0_tryWith_184 : decode cX0_tryWith 184 = .ok (.iconst 3, 1) := by decide +kernel
theorem dX0_tryWith_185 : decode cX0_tryWith 185 = .ok (.iaload, 1) := by decide +kernel
theorem dX0_tryWith_186 : decode cX0_tryWith 186 = .ok (.imul, 1) := by decide +kernel
theorem dX0_tryWith_187 : decode cX0_tryWith 187 = .ok (.iadd, 1) := by decide +kernel
theorem dX0_tryWith_188 : decode cX0_tryWith 188 = .ok (.invokevirtual 74, 3) := by decide +kernel
theorem dX0_tryWith_191 : decode cX0_tryWith 191 = .ok (.ifCond .eq 39, 3) := by decide +kernel
theorem dX0_tryWith_194 : decode cX0_tryWith 194 = .ok (.aload_n 0, 1) := by decide +kernel
theorem dX0_tryWith_195 : decode cX0_tryWith 195 = .ok (.iload 9, 2) := by decide +kernel
theorem dX0_tryWith_197 : decode cX0_tryWith 197 = .ok (.putfield 55, 3) := by decide +kernel
theorem dX0_tryWith_200 : decode cX0_tryWith 200 = .ok (.aload_n 0, 1) := by decide +kernel
theorem dX0_tryWith_201 : decode cX0_tryWith 201 = .ok (.getfield 30, 3) := by decide +kernel
theorem dX0_tryWith_204 : decode cX0_tryWith 204 = .ok (.iconst 0, 1) := by decide +kernel
theorem dX0_tryWith_205 : decode cX0_tryWith 205 = .ok (.iload_n 1, 1) := by decide +kernel
theorem dX0_tryWith_206 : decode cX0_tryWith 206 = .ok (.iastore, 1) := by decide +kernel
theorem dX0_tryWith_207 : decode cX0_tryWith 207 = .ok (.aload_n 0, 1) := by decide +kernel
theorem dX0_tryWith_208 : decode cX0_tryWith 208 = .ok (.getfield 30, 3) := by decide +kernel
theorem dX0_tryWith_211 : decode cX0_tryWith 211 = .ok (.iconst 1, 1) := by decide +kernel
theorem dX0_tryWith_212 : decode cX0_tryWith 212 = .ok (.iload_n 2, 1) := by decide +kernel
theorem dX0_tryWith_213 : decode cX0_tryWith 213 = .ok (.iastore, 1) := by decide +kernel
theorem dX0_tryWith_214 : decode cX0_tryWith 214 = .ok (.aload_n 0, 1) := by decide +kernel
theorem dX0_tryWith_215 : decode cX0_tryWith 215 = .ok (.getfield 30, 3) := by decide +kernel
theorem dX0_tryWith_218 : decode cX0_tryWith 218 = .ok (.iconst 2, 1) := by decide +kernel
theorem dX0_tryWith_219 : decode cX0_tryWith 219 = .ok (.iload 7, 2) := by decide +kernel
theorem dX0_tryWith_221 : decode cX0_tryWith 221 = .ok (.iastore, 1) := by decide +kernel
theorem dX0_tryWith_222 : decode cX0_tryWith 222 = .ok (.aload_n 0, 1) := by decide +kernel
theorem dX0_tryWith_223 : decode cX0_tryWith 223 = .ok (.getfield 30, 3) := by decide +kernel
theorem dX0_tryWith_226 : decode cX0_tryWith 226 = .ok (.iconst 3, 1) := by decide +kernel
theorem dX0_tryWith_227 : decode cX0_tryWith 227 = .ok (.iload 8, 2) := by decide +kernel
theorem dX0_tryWith_229 : decode cX0_tryWith 229 = .ok (.iastore, 1) := by decide +kernel
theorem dX0_tryWith_230 : decode cX0_tryWith 230 = .ok (.iinc 7 1, 3) := by decide +kernel
theorem dX0_tryWith_233 : decode cX0_tryWith 233 = .ok (.goto (-153), 3) := by decide +kernel
theorem dX0_tryWith_236 : decode cX0_tryWith 236 = .ok (.return_, 1) := by decide +kernel
theorem dX0_leastPrice_0 : decode cX0_leastPrice 0 = .ok (.aload_n 0, 1) := by decide +kernel
theorem dX0_leastPrice_1 : decode cX0_leastPrice 1 = .ok (.bipush (-2), 2) := by decide +kernel
theorem dX0_leastPrice_3 : decode cX0_leastPrice 3 = .ok (.putfield 55, 3) := by decide +kernel
theorem dX0_leastPrice_6 : decode cX0_leastPrice 6 = .ok (.iconst 0, 1) := by decide +kernel
theorem dX0_leastPrice_7 : decode cX0_leastPrice 7 = .ok (.istore_n 1, 1) := by decide +kernel
theorem dX0_leastPrice_8 : decode cX0_leastPrice 8 = .ok (.iload_n 1, 1) := by decide +kernel
theorem dX0_leastPrice_9 : decode cX0_leastPrice 9 = .ok (.aload_n 0, 1) := by decide +kernel
theorem dX0_leastPrice_10 : decode cX0_leastPrice 10 = .ok (.getfield 18, 3) := by decide +kernel
theorem dX0_leastPrice_13 : decode cX0_leastPrice 13 = .ok (.iconst 0, 1) := by decide +kernel
theorem dX0_leastPrice_14 : decode cX0_leastPrice 14 = .ok (.iaload, 1) := by decide +kernel
theorem dX0_leastPrice_15 : decode cX0_leastPrice 15 = .ok (.aload_n 0, 1) := by decide +kernel
theorem dX0_leastPrice_16 : decode cX0_leastPrice 16 = .ok (.getfield 43, 3) := by decide +kernel
theorem dX0_leastPrice_19 : decode cX0_leastPrice 19 = .ok (.invokestatic 58, 3) := by decide +kernel
theorem dX0_leastPrice_22 : decode cX0_leastPrice 22 = .ok (.if_icmp .gt 42, 3) := by decide +kernel
theorem dX0_leastPrice_25 : decode cX0_leastPrice 25 = .ok (.iconst 0, 1) := by decide +kernel
theorem dX0_leastPrice_26 : decode cX0_leastPrice 26 = .ok (.istore_n 2, 1) := by decide +kernel
theorem dX0_leastPrice_27 : decode cX0_leastPrice 27 = .ok (.iload_n 2, 1) := by decide +kernel
theorem dX0_leastPrice_28 : decode cX0_leastPrice 28 = .ok (.aload_n 0, 1) := by decide +kernel
theorem dX0_leastPrice_29 : decode cX0_leastPrice 29 = .ok (.getfield 18, 3) := by decide +kernel
theorem dX0_leastPrice_32 : decode cX0_leastPrice 32 = .ok (.iconst 1, 1) := by decide +kernel
theorem dX0_leastPrice_33 : decode cX0_leastPrice 33 = .ok (.iaload, 1) := by decide +kernel
theorem dX0_leastPrice_34 : decode cX0_leastPrice 34 = .ok (.aload_n 0, 1) := by decide +kernel
theorem dX0_leastPrice_35 : decode cX0_leastPrice 35 = .ok (.getfield 43, 3) := by decide +kernel
theorem dX0_leastPrice_38 : decode cX0_leastPrice 38 = .ok (.iload_n 1, 1) := by decide +kernel
theorem dX0_leastPrice_39 : decode cX0_leastPrice 39 = .ok (.isub, 1) := by decide +kernel
theorem dX0_leastPrice_40 : decode cX0_leastPrice 40 = .ok (.invokestatic 58, 3) := by decide +kernel
theorem dX0_leastPrice_43 : decode cX0_leastPrice 43 = .ok (.if_icmp .gt 15, 3) := by decide +kernel
theorem dX0_leastPrice_46 : decode cX0_leastPrice 46 = .ok (.aload_n 0, 1) := by decide +kernel
theorem dX0_leastPrice_47 : decode cX0_leastPrice 47 = .ok (.iload_n 1, 1) := by decide +kernel
theorem dX0_leastPrice_48 : decode cX0_leastPrice 48 = .ok (.iload_n 2, 1) := by decide +kernel
theorem dX0_leastPrice_49 : decode cX0_leastPrice 49 = .ok (.invokevirtual 64, 3) := by decide +kernel
theorem dX0_leastPrice_52 : decode cX0_leastPrice 52 = .ok (.iinc 2 1, 3) := by decide +kernel
theorem dX0_leastPrice_55 : decode cX0_leastPrice 55 = .ok (.goto (-28), 3) := by decide +kernel
theorem dX0_leastPrice_58 : decode cX0_leastPrice 58 = .ok (.iinc 1 1, 3) := by decide +kernel
theorem dX0_leastPrice_61 : decode cX0_leastPrice 61 = .ok (.goto (-53), 3) := by decide +kernel
theorem dX0_leastPrice_64 : decode cX0_leastPrice 64 = .ok (.aload_n 0, 1) := by decide +kernel
theorem dX0_leastPrice_65 : decode cX0_leastPrice 65 = .ok (.getfield 55, 3) := by decide +kernel
theorem dX0_leastPrice_68 : decode cX0_leastPrice 68 = .ok (.bipush (-2), 2) := by decide +kernel
theorem dX0_leastPrice_70 : decode cX0_leastPrice 70 = .ok (.if_icmp .eq 7, 3) := by decide +kernel
theorem dX0_leastPrice_73 : decode cX0_leastPrice 73 = .ok (.aload_n 0, 1) := by decide +kernel
theorem dX0_leastPrice_74 : decode cX0_leastPrice 74 = .ok (.invokevirtual 68, 3) := by decide +kernel
theorem dX0_leastPrice_77 : decode cX0_leastPrice 77 = .ok (.aload_n 0, 1) := by decide +kernel
theorem dX0_leastPrice_78 : decode cX0_leastPrice 78 = .ok (.getfield 55, 3) := by decide +kernel
theorem dX0_leastPrice_81 : decode cX0_leastPrice 81 = .ok (.ireturn, 1) := by decide +kernel
theorem dX8_blend_0 : decode cX8_blend 0 = .ok (.iload_n 2, 1) := by decide +kernel
theorem dX8_blend_1 : decode cX8_blend 1 = .ok (.iconst 1, 1) := by decide +kernel
theorem dX8_blend_2 : decode cX8_blend 2 = .ok (.bipush 40, 2) := by decide +kernel
theorem dX8_blend_4 : decode cX8_blend 4 = .ok (.invokestatic 85, 3) := by decide +kernel
theorem dX8_blend_7 : decode cX8_blend 7 = .ok (.ifCond .eq 42, 3) := by decide +kernel
theorem dX8_blend_10 : decode cX8_blend 10 = .ok (.iload_n 3, 1) := by decide +kernel
theorem dX8_blend_11 : decode cX8_blend 11 = .ok (.iconst 0, 1) := by decide +kernel
theorem dX8_blend_12 : decode cX8_blend 12 = .ok (.sipush 300, 3) := by decide +kernel
theorem dX8_blend_15 : decode cX8_blend 15 = .ok (.invokestatic 85, 3) := by decide +kernel
theorem dX8_blend_18 : decode cX8_blend 18 = .ok (.ifCond .eq 31, 3) := by decide +kernel
theorem dX8_blend_21 : decode cX8_blend 21 = .ok (.iload 4, 2) := by decide +kernel
theorem dX8_blend_23 : decode cX8_blend 23 = .ok (.iconst 0, 1) := by decide +kernel
theorem dX8_blend_24 : decode cX8_blend 24 = .ok (.sipush 140, 3) := by decide +kernel
theorem dX8_blend_27 : decode cX8_blend 27 = .ok (.invokestatic 85, 3) := by decide +kernel
theorem dX8_blend_30 : decode cX8_blend 30 = .ok (.ifCond .eq 19, 3) := by decide +kernel
theorem dX8_blend_33 : decode cX8_blend 33 = .ok (.iload 5, 2) := by decide +kernel
theorem dX8_blend_35 : decode cX8_blend 35 = .ok (.iconst 0, 1) := by decide +kernel
theorem dX8_blend_36 : decode cX8_blend 36 = .ok (.sipush 140, 3) := by decide +kernel
theorem dX8_blend_39 : decode cX8_blend 39 = .ok (.invokestatic 85, 3) := by decide +kernel
theorem dX8_blend_42 : decode cX8_blend 42 = .ok (.ifCond .eq 7, 3) := by decide +kernel
theorem dX8_blend_45 : decode cX8_blend 45 = .ok (.iconst 1, 1) := by decide +kernel
theorem dX8_blend_46 : decode cX8_blend 46 = .ok (.goto 4, 3) := by decide +kernel
theorem dX8_blend_49 : decode cX8_blend 49 = .ok (.iconst 0, 1) := by decide +kernel
theorem dX8_blend_50 : decode cX8_blend 50 = .ok (.istore 6, 2) := by decide +kernel
theorem dX8_blend_52 : decode cX8_blend 52 = .ok (.iload 6, 2) := by decide +kernel
theorem dX8_blend_54 : decode cX8_blend 54 = .ok (.ifCond .eq 11, 3) := by decide +kernel
theorem dX8_blend_57 : decode cX8_blend 57 = .ok (.aload_n 0, 1) := by decide +kernel
theorem dX8_blend_58 : decode cX8_blend 58 = .ok (.iload_n 1, 1) := by decide +kernel
theorem dX8_blend_59 : decode cX8_blend 59 = .ok (.invokevirtual 248, 3) := by decide +kernel
theorem dX8_blend_62 : decode cX8_blend 62 = .ok (.ifCond .ne 5, 3) := by decide +kernel
theorem dX8_blend_65 : decode cX8_blend 65 = .ok (.iconst (-1), 1) := by decide +kernel
theorem dX8_blend_66 : decode cX8_blend 66 = .ok (.ireturn, 1) := by decide +kernel
theorem dX8_blend_67 : decode cX8_blend 67 = .ok (.aload_n 0, 1) := by decide +kernel
theorem dX8_blend_68 : decode cX8_blend 68 = .ok (.getfield 54, 3) := by decide +kernel
theorem dX8_blend_71 : decode cX8_blend 71 = .ok (.iload_n 2, 1) := by decide +kernel
theorem dX8_blend_72 : decode cX8_blend 72 = .ok (.iload_n 3, 1) := by decide +kernel
theorem dX8_blend_73 : decode cX8_blend 73 = .ok (.iload 4, 2) := by decide +kernel
theorem dX8_blend_75 : decode cX8_blend 75 = .ok (.iload 5, 2) := by decide +kernel
theorem dX8_blend_77 : decode cX8_blend 77 = .ok (.invokevirtual 251, 3) := by decide +kernel
theorem dX8_blend_80 : decode cX8_blend 80 = .ok (.iconst 0, 1) := by decide +kernel
theorem dX8_blend_81 : decode cX8_blend 81 = .ok (.istore 7, 2) := by decide +kernel
theorem dX8_blend_83 : decode cX8_blend 83 = .ok (.iload 7, 2) := by decide +kernel
theorem dX8_blend_85 : decode cX8_blend 85 = .ok (.aload_n 0, 1) := by decide +kernel
theorem dX8_blend_86 : decode cX8_blend 86 = .ok (.getfield 17, 3) := by decide +kernel
theorem dX8_blend_89 : decode cX8_blend 89 = .ok (.arraylength, 1) := by decide +kernel
theorem dX8_blend_90 : decode cX8_blend 90 = .ok (.if_icmp .ge 69, 3) := by decide +kernel
theorem dX8_blend_93 : decode cX8_blend 93 = .ok (.aload_n 0, 1) := by decide +kernel
theorem dX8_blend_94 : decode cX8_blend 94 = .ok (.getfield 17, 3) := by decide +kernel
theorem dX8_blend_97 : decode cX8_blend 97 = .ok (.iload 7, 2) := by decide +kernel
theorem dX8_blend_99 : decode cX8_blend 99 = .ok (.aaload, 1) := by decide +kernel
theorem dX8_blend_100 : decode cX8_blend 100 = .ok (.astore 8, 2) := by decide +kernel
theorem dX8_blend_102 : decode cX8_blend 102 = .ok (.aload 8, 2) := by decide +kernel
theorem dX8_blend_104 : decode cX8_blend 104 = .ok (.ifnull 49, 3) := by decide +kernel
theorem dX8_blend_107 : decode cX8_blend 107 = .ok (.iload_n 1, 1) := by decide +kernel
theorem dX8_blend_108 : decode cX8_blend 108 = .ok (.iload 7, 2) := by decide +kernel
theorem dX8_blend_110 : decode cX8_blend 110 = .ok (.invokestatic 255, 3) := by decide +kernel
theorem dX8_blend_113 : decode cX8_blend 113 = .ok (.ifCond .eq 40, 3) := by decide +kernel
theorem dX8_blend_116 : decode cX8_blend 116 = .ok (.aload_n 0, 1) := by decide +kernel
theorem dX8_blend_117 : decode cX8_blend 117 = .ok (.getfield 54, 3) := by decide +kernel
theorem dX8_blend_120 : decode cX8_blend 120 = .ok (.iload 7, 2) := by decide +kernel
theorem dX8_blend_122 : decode cX8_blend 122 = .ok (.aload 8, 2) := by decide +kernel
theorem dX8_blend_124 : decode cX8_blend 124 = .ok (.getfield 144, 3) := by decide +kernel
theorem dX8_blend_127 : decode cX8_blend 127 = .ok (.sipush 1000, 3) := by decide +kernel
theorem dX8_blend_130 : decode cX8_blend 130 = .ok (.idiv, 1) := by decide +kernel
theorem dX8_blend_131 : decode cX8_blend 131 = .ok (.aload_n 0, 1) := by decide +kernel
theorem dX8_blend_132 : decode cX8_blend 132 = .ok (.aload 8, 2) := by decide +kernel
theorem dX8_blend_134 : decode cX8_blend 134 = .ok (.iconst 0, 1) := by decide +kernel
theorem dX8_blend_135 : decode cX8_blend 135 = .ok (.invokevirtual 188, 3) := by decide +kernel
theorem dX8_blend_138 : decode cX8_blend 138 = .ok (.aload_n 0, 1) := by decide +kernel
theorem dX8_blend_139 : decode cX8_blend 139 = .ok (.aload 8, 2) := by decide +kernel
theorem dX8_blend_141 : decode cX8_blend 141 = .ok (.iconst 1, 1) := by decide +kernel
theorem dX8_blend_142 : decode cX8_blend 142 = .ok (.invokevirtual 188, 3) := by decide +kernel
theorem dX8_blend_145 : decode cX8_blend 145 = .ok (.aload 8, 2) := by decide +kernel
theorem dX8_blend_147 : decode cX8_blend 147 = .ok (.getfield 150, 3) := by decide +kernel
theorem dX8_blend_150 : decode cX8_blend 150 = .ok (.invokevirtual 259, 3) := by decide +kernel
theorem dX8_blend_153 : decode cX8_blend 153 = .ok (.iinc 7 1, 3) := by decide +kernel
theorem dX8_blend_156 : decode cX8_blend 156 = .ok (.goto (-73), 3) := by decide +kernel
theorem dX8_blend_159 : decode cX8_blend 159 = .ok (.aload_n 0, 1) := by decide +kernel
theorem dX8_blend_160 : decode cX8_blend 160 = .ok (.getfield 54, 3) := by decide +kernel
theorem dX8_blend_163 : decode cX8_blend 163 = .ok (.invokevirtual 263, 3) := by decide +kernel
theorem dX8_blend_166 : decode cX8_blend 166 = .ok (.ireturn, 1) := by decide +kernel
set_option maxRecDepth 20000 in
theorem ggX8_trace_X8_lotAt : GoodIn wsX8_trace wsX8_lotAt := goodIn_r _ [8, 9, 10, 11, 7, 12, 19, 20, 21, 22, 23, 24, 25, 26, 27, 28, 29, 30, 31, 32, 33] rfl (by decide +kernel)
set_option maxRecDepth 20000 in
theorem gX8_trace_X8_lotAt : GoodIn wsX8_trace (wsV RX8 96 RX8 yX8_lotAt wsX8_lotAt) := goodIn_app (goodIn_of _ (by decide +kernel)) ggX8_trace_X8_lotAt
set_option maxRecDepth 20000 in
theorem ggX8_trace_X7_gramsOf : GoodIn wsX8_trace wsX7_gramsOf := goodIn_r _ [17, 18, 34, 35, 36, 37, 38] rfl (by decide +kernel)
set_option maxRecDepth 20000 in
theorem gX8_trace_X7_gramsOf : GoodIn wsX8_trace (wsV RX8 181 RX7 yX7_gramsOf wsX7_gramsOf) := goodIn_app (goodIn_of _ (by decide +kernel)) ggX8_trace_X7_gramsOf
set_option maxRecDepth 20000 in
theorem ggX8_areTanksToBlend_J6_bitCount_0f7a4 : GoodIn wsX8_areTanksToBlend wsJ6_bitCount_0f7a4 := goodIn_r _ [6, 7, 8, 9] rfl (by decide +kernel)
set_option maxRecDepth 20000 in
theorem gX8_areTanksToBlend_J6_bitCount_0f7a4 : GoodIn wsX8_areTanksToBlend (va_wsS RX8 310 yJ6_bitCount_0f7a4 wsJ6_bitCount_0f7a4) := goodIn_app (goodIn_of _ (by decide +kernel)) ggX8_areTanksToBlend_J6_bitCount_0f7a4
set_option maxRecDepth 20000 in
theorem ggX8_areTanksToBlend_X8_isIn : GoodIn wsX8_areTanksToBlend wsX8_isIn := goodIn_r _ [13] rfl (by decide +kernel)
set_option maxRecDepth 20000 in
theorem gX8_areTanksToBlend_X8_isIn : GoodIn wsX8_areTanksToBlend (va_wsS RX8 85 yX8_isIn wsX8_isIn) := goodIn_app (goodIn_of _ (by decide +kernel)) ggX8_areTanksToBlend_X8_isIn
set_option maxRecDepth 20000 in
theorem ggX8_areTanksToBlend_X8_hasBit : GoodIn wsX8_areTanksToBlend wsX8_hasBit := goodIn_r _ [16] rfl (by decide +kernel)
set_option maxRecDepth 20000 in
theorem gX8_areTanksToBlend_X8_hasBit : GoodIn wsX8_areTanksToBlend (va_wsS RX8 255 yX8_hasBit wsX8_hasBit) := goodIn_app (goodIn_of _ (by decide +kernel)) ggX8_areTanksToBlend_X8_hasBit
set_option maxRecDepth 20000 in
theorem ggX0_tryWith_X0_isWithin : GoodIn wsX0_tryWith wsX0_isWithin := goodIn_r _ [19, 20, 21, 22, 23, 24, 25, 26, 27, 28, 29, 30, 31, 32, 33, 34, 35, 36] rfl (by decide +kernel)
set_option maxRecDepth 20000 in
theorem gX0_tryWith_X0_isWithin : GoodIn wsX0_tryWith (wsV RX0 74 RX0 yX0_isWithin wsX0_isWithin) := goodIn_app (goodIn_of _ (by decide +kernel)) ggX0_tryWith_X0_isWithin
set_option maxRecDepth 20000 in
theorem ggX0_leastPrice_X0_keepBest : GoodIn wsX0_leastPrice wsX0_keepBest := goodIn_r _ [30, 31, 32, 33, 19, 34, 35, 36, 37, 38, 39, 40, 41, 42, 43, 44, 45, 46, 47, 48, 49, 50, 51, 52] rfl (by decide +kernel)
set_option maxRecDepth 20000 in
theorem gX0_leastPrice_X0_keepBest : GoodIn wsX0_leastPrice (wsV RX0 68 RX0 yX0_keepBest wsX0_keepBest) := goodIn_app (goodIn_of _ (by decide +kernel)) ggX0_leastPrice_X0_keepBest
set_option maxRecDepth 20000 in
theorem ggX0_leastPrice_X0_tryWith : GoodIn wsX0_leastPrice wsX0_tryWith := goodIn_r _ [12, 3, 13, 14, 15, 2, 16, 17, 6, 18, 4, 5, 7, 1, 19, 20, 21, 22, 11, 23, 24, 25, 26, 39, 40, 41, 42, 43, 44, 45, 46, 47, 48, 49, 50, 51, 52] rfl (by decide +kernel)
set_option maxRecDepth 20000 in
theorem gX0_leastPrice_X0_tryWith : GoodIn wsX0_leastPrice (wsV RX0 64 RX0 yX0_tryWith wsX0_tryWith) := goodIn_app (goodIn_of _ (by decide +kernel)) ggX0_leastPrice_X0_tryWith
set_option maxRecDepth 20000 in
theorem ggX8_blend_X8_isIn : GoodIn wsX8_blend wsX8_isIn := goodIn_r _ [8] rfl (by decide +kernel)
set_option maxRecDepth 20000 in
theorem gX8_blend_X8_isIn : GoodIn wsX8_blend (va_wsS RX8 85 yX8_isIn wsX8_isIn) := goodIn_app (goodIn_of _ (by decide +kernel)) ggX8_blend_X8_isIn
set_option maxRecDepth 20000 in
theorem ggX8_blend_X8_areTanksToBlend : GoodIn wsX8_blend wsX8_areTanksToBlend := goodIn_r _ [12, 2, 3, 13, 14, 15, 16, 17, 18, 19, 5, 6, 7, 8, 20, 21, 22, 105, 106, 107, 108, 109, 110, 111, 112, 113, 114, 115, 116, 117, 118, 119, 120, 121, 122, 123, 124] rfl (by decide +kernel)
set_option maxRecDepth 20000 in
theorem gX8_blend_X8_areTanksToBlend : GoodIn wsX8_blend (wsV RX8 248 RX8 yX8_areTanksToBlend wsX8_areTanksToBlend) := goodIn_app (goodIn_of _ (by decide +kernel)) ggX8_blend_X8_areTanksToBlend
set_option maxRecDepth 20000 in
theorem ggX8_blend_X0_begin : GoodIn wsX8_blend wsX0_begin := goodIn_r _ [27, 28, 29, 30, 31, 32, 33, 34, 35, 36, 37, 125, 126, 127, 128, 129, 130, 131, 132, 133, 134, 135, 136, 137, 138] rfl (by decide +kernel)
set_option maxRecDepth 20000 in
theorem gX8_blend_X0_begin : GoodIn wsX8_blend (wsV RX8 251 RX0 yX0_begin wsX0_begin) := goodIn_app (goodIn_of _ (by decide +kernel)) ggX8_blend_X0_begin
set_option maxRecDepth 20000 in
theorem ggX8_blend_X0_leastPrice : GoodIn wsX8_blend wsX0_leastPrice := goodIn_r _ [81, 82, 29, 30, 83, 84, 85, 86, 87, 88, 89, 26, 90, 77, 75, 76, 91, 92, 93, 94, 95, 96, 97, 98, 31, 32, 33, 99, 100, 101, 102, 103, 28, 74, 104, 34, 35, 36, 37, 125, 126, 127, 128, 129, 130, 131, 132, 133, 134, 135, 136, 137, 138] rfl (by decide +kernel)
set_option maxRecDepth 20000 in
theorem gX8_blend_X0_leastPrice : GoodIn wsX8_blend (wsV RX8 263 RX0 yX0_leastPrice wsX0_leastPrice) := goodIn_app (goodIn_of _ (by decide +kernel)) ggX8_blend_X0_leastPrice
set_option maxRecDepth 20000 in
theorem ggX8_blend_X8_hasBit : GoodIn wsX8_blend wsX8_hasBit := goodIn_r _ [22] rfl (by decide +kernel)
set_option maxRecDepth 20000 in
theorem gX8_blend_X8_hasBit : GoodIn wsX8_blend (va_wsS RX8 255 yX8_hasBit wsX8_hasBit) := goodIn_app (goodIn_of _ (by decide +kernel)) ggX8_blend_X8_hasBit
set_option maxRecDepth 20000 in
theorem ggX8_blend_X8_told : GoodIn wsX8_blend wsX8_told := goodIn_r _ [41, 3, 42, 43, 44, 45, 46, 7, 47, 48, 49, 50, 51, 52, 53, 54, 55, 56, 57, 58, 59, 60, 61, 62, 63, 64, 65, 66, 67, 5, 6, 8, 68, 69, 120, 121, 122, 123, 124, 105, 106, 107, 108, 109, 110, 111, 112, 113, 114, 115, 116, 117, 118, 119, 139, 140, 141, 142, 143, 144, 145, 146, 147, 148] rfl (by decide +kernel)
set_option maxRecDepth 20000 in
theorem gX8_blend_X8_told : GoodIn wsX8_blend (wsV RX8 188 RX8 yX8_told wsX8_told) := goodIn_app (goodIn_of _ (by decide +kernel)) ggX8_blend_X8_told
set_option maxRecDepth 20000 in
theorem ggX8_blend_X0_addTank : GoodIn wsX8_blend wsX0_addTank := goodIn_r _ [73, 28, 74, 29, 75, 76, 77, 125, 126, 127, 128, 129, 130, 131, 132, 133, 134, 135, 136, 137, 138] rfl (by decide +kernel)
set_option maxRecDepth 20000 in
theorem gX8_blend_X0_addTank : GoodIn wsX8_blend (wsV RX8 259 RX0 yX0_addTank wsX0_addTank) := goodIn_app (goodIn_of _ (by decide +kernel)) ggX8_blend_X0_addTank
theorem mn_le {z x y : Int32} {a p : Nat} (hz : z = if y < x then y else x) (hy : y = nI p) (ha : a < 2 ^ 31) (hp : p < 2 ^ 31) (c : ¬ z < nI a) : a ≤ p := by
  have h1 : z ≤ y := by
    rw [hz]
    split
    · rw [i_le]; omega
    · next q => rw [i_lt] at q; rw [i_le]; omega
  rw [hy, i_le, nI_toInt hp] at h1
  rw [i_lt, nI_toInt ha] at c
  omega
theorem mx_0 {z x y : Int32} (hz : z = if x < y then y else x) (hx : x = 0) : ∃ n : Nat, n < 2 ^ 31 ∧ z = nI n := by
  apply nI_of
  rw [hz, hx]
  split
  · next q => rw [i_lt] at q ⊢; omega
  · decide
theorem mx_0' {z x y : Int32} (hz : z = if y < x then x else y) (hx : x = 0) : ∃ n : Nat, n < 2 ^ 31 ∧ z = nI n := by
  apply nI_of
  rw [hz, hx]
  split
  · decide
  · next q => rw [i_lt] at q ⊢; exact q
set_option maxHeartbeats 4000000 in
set_option maxRecDepth 100000 in
theorem h_trace (l : Launch) (D : va_G) (ρ : Nat → Nat) (ws : va_W) (tys : List (ClassId × FieldType)) (fv : Nat → Nat → Int32) (h0 lc bc rc fc : Nat) (dn : Int32) (tl : Nat) (a1 : Int32) (sz : Nat) (X : XI ρ fv ws tys h0 lc bc rc fc dn tl) (V : NV fv lc) : Met l yX8_trace wsX8_trace ({ frames := 2, cells := 0, slots := 0, locals := 43 }) (va_Pc [.ref h0, .int a1] (fun U => U.heap.size = sz ∧ va_P D vwCl ws U.heap ∧ va_K D vwCl tys U ∧ va_D (fun _ => True) ws)) (va_Qi (fun (r : Int32) (_ : Unit) => ((a1 < 0 ∨ nI lc ≤ a1) ∧ r = (-1)) ∨ (¬ (a1 < 0 ∨ nI lc ≤ a1) ∧ r = nI (trN (fv 9) a1.toNatClampNeg bc))) (fun (_ : Unit) (t : State) => ∃ (ws' : va_W) (tys' : List (ClassId × FieldType)), tyx tys tys' ∧ va_P D vwCl ws' t.heap ∧ va_K D vwCl tys' t ∧ va_D (va_A ws sz) ws' ∧ (((a1 < 0 ∨ nI lc ≤ a1) ∧ XI ρ fv ws' tys' h0 lc bc rc fc dn tl) ∨ (¬ (a1 < 0 ∨ nI lc ≤ a1) ∧ XI ρ (uF fv 42 (trW (fv 9) a1.toNatClampNeg (fv 42) bc)) ws' tys' h0 lc bc rc (trN (fv 9) a1.toNatClampNeg bc) dn tl))) (va_A ws sz)) 0 0 (va_A ws sz) := by
  refine Met.ofW (cc := cX8_trace) (maxL := 4) (ret := (some .int)) (by decide) rfl ?_
  intro p e s m args below meth c s₁ B hml hv
  obtain ⟨rfl, hsz, hP, hK, hD0⟩ := hv
  have hx := B.exec
  have hb := B.bytes
  have hr := B.returns
  have hts := atoms_spec (ws := wsX8_trace) B.pre
  have hown : s.vm.findClass RX8 = some m.cls := findClass_of_methodNamed B.named
  have hlocks := B.notSynchronized
  subst hsz
  have hD := hD0.self (sz := s.heap.size)
  generalize hAe : va_A ws s.heap.size = A at hD ⊢
  have hA : ∀ q : Nat, s.heap.size ≤ q → A q := fun q h => by rw [← hAe]; exact Or.inr h
  have hS : va_S A s.heap s.heap [] := va_S.rf
  have hsm : sm (uy ρ [8007]) [8] ws ws := sm.rf ws
  have htx : tyx tys tys := tyx.rf tys
  have hin8 : ∀ w ∈ u_ws RX8 TX8 15, w ∈ wsX8_trace := (fun _ h9 => List.mem_cons_of_mem _ (List.mem_append_left _ ((List.mem_append_right _ h9))))
  have hl := lv_entry ([.ref h0, .int a1]) (n := 4) (Nat.le_of_ble_eq_true rfl)
  rw [lg_entry_eq]
  generalize (lg_sl ([.ref h0, .int a1]) ++ List.replicate (4 - (lg_sl ([.ref h0, .int a1])).length) Slot.unset).toArray = ls at hl ⊢
  have hl : lv_has ls 4 [(0, .ref h0), (1, .int a1)] := hl
  obtain ⟨k0, la, ta, ba, ra, sn, rd, dr, bl, vd, fb, e0, w0, hle0, hnum, qla, qta, qba, qra, qsn, qrd, qdr, qbl, qvd, qfb⟩ := id X
  obtain ⟨kla, cla, tla, fla, ela, ula, hla0, hla1⟩ := id qla
  have hlc := hnum.1
  obtain ⟨kba, cba, tba, fba, eba, uba, hba0, hba1⟩ := id qba
  obtain ⟨kfb, cfb, tfb, ffb, efb, ufb, wfb, gfb⟩ := id qfb
  have hbc := hnum.2.1
  refine lv_aload_n hx hb dX8_trace_0 rfl (lv_at hl 0 rfl) ?_
  refine lv_iload_n hx hb dX8_trace_1 rfl (lv_at hl 1 rfl) ?_
  refine va_csq (W.runV (As := [.int a1]) (rest := []) ⟨hx, hb, hml, hown, hts⟩ (s_X8_lotAt l D ws tys h0 k0 _ la kla cla fla tla a1 e0 rfl ela ula) (cwV 1 hts gX8_trace_X8_lotAt rfl rfl rfl (by decide +kernel) ⟨Nat.le_of_ble_eq_true rfl, Nat.le_of_ble_eq_true rfl⟩) ⟨fun a U g mk q => ⟨q.1, q.2.1, va_K.moved (u := U) (U := U.calling g mk a) (Vm.Alike.refl U.vm) q.2.2⟩, va_recv hK hP (ci := 8) (q0 := k0) rfl e0, fun U hU hW => ⟨rfl, by rw [hU]; exact hP, va_K.moved hW.alike hK⟩⟩ rfl rfl hl.1 rfl (lv_room (Nat.le_of_ble_eq_true rfl)) dX8_trace_2 ⟨Nat.le_of_ble_eq_true rfl, Nat.le_of_ble_eq_true rfl⟩) (fun r_1 k_2 => ?_)
  have hz_3 := lotx hlc hla0 hla1 k_2
  rcases hz_3 with ⟨rfl, o_4⟩ | ⟨a_5, b_6, hj_7, v_8, rfl, hg_9, hL_10⟩
  · refine tp_v (y := .null) rfl ?_
    refine lv_ifnonnullN hx hb dX8_trace_5 ?_
    refine lv_iconst (v := (-1)) hx hb dX8_trace_8 (by decide) ?_
    exact W.iret (v := (-1)) hx hb hr (fun t ht hW => ⟨⟨(-1), (), rfl, Or.inl ⟨o_4, rfl⟩, ws, tys, htx, by rw [ht]; exact hP, va_K.moved hW.alike hK, hD, Or.inl ⟨o_4, X⟩⟩, hS.F ht⟩) hS.2.2 dX8_trace_9
  obtain ⟨k_11, lo_12, hi_13, st_14, e_15, wk_16, ⟨k_22, c9_23, t_24, f_25, e_26, u_27, wr_28, g_29⟩, ⟨k_30, c9_31, t_32, f_33, e_34, u_35, wr_36, g_37⟩, ks_17, ga_18, gb_19, es_20, wks_21, ⟨k_38, c9_39, t_40, f_41, e_42, u_43, wr_44, g_45⟩, ⟨k_46, c9_47, t_48, f_49, e_50, u_51, wr_52, g_53⟩⟩ := hL_10
  refine tp_v (y := .ref v_8) rfl ?_
  refine lv_ifnonnull (tgt := 10) hx hb dX8_trace_5 (by decide) ?_
  refine lv_aload_n hx hb dX8_trace_10 rfl (lv_at hl 0 rfl) ?_
  refine lv_iconst (v := 0) hx hb dX8_trace_11 (by decide) ?_
  refine va_put (D := D) (ci := 8) (v := .int 0) (ty := .int) (C := RX8) (T := TX8) (N := 15) hx hb hts hin8 tyX8 tyX8_ok nmX8 hown hK hP hD hS k0 e0 rfl 13 (by decide) (hts (.fieldLink RX8 272 "HoneyHouse" "foundCount" "I") (List.mem_of_getElem? (i := 1) rfl)) (fun _ h9 => h9) rfl (tyX8_ok 13 (by decide)) rfl rfl (Nat.le_of_ble_eq_true rfl) dX8_trace_12 (fun H locs hP hD hS => ?_)
  have hP : va_P D vwCl (ws.set k0 (h0, .inr (8, [.ref la, .ref ta, .ref ba, .ref ra, .ref sn, .ref rd, .ref dr, .ref bl, .ref vd, .ref fb, .int (nI lc), .int (nI bc), .int (nI rc), .int 0, .int dn]))) H := hP
  have hD : va_D A (ws.set k0 (h0, .inr (8, [.ref la, .ref ta, .ref ba, .ref ra, .ref sn, .ref rd, .ref dr, .ref bl, .ref vd, .ref fb, .int (nI lc), .int (nI bc), .int (nI rc), .int 0, .int dn]))) := hD
  have hm_55 : sm (uy ρ [8007]) [8] ws (ws.set k0 (h0, .inr (8, [.ref la, .ref ta, .ref ba, .ref ra, .ref sn, .ref rd, .ref dr, .ref bl, .ref vd, .ref fb, .int (nI lc), .int (nI bc), .int (nI rc), .int 0, .int dn]))) := sm.flds e0 (smF.c (smV.rf _) (smF.c (smV.rf _) (smF.c (smV.rf _) (smF.c (smV.rf _) (smF.c (smV.rf _) (smF.c (smV.rf _) (smF.c (smV.rf _) (smF.c (smV.rf _) (smF.c (smV.rf _) (smF.c (smV.rf _) (smF.c (smV.rf _) (smF.c (smV.rf _) (smF.c (smV.rf _) (smF.c (smV.i _ _) (smF.c (smV.rf _) (rfl)))))))))))))))) (List.mem_singleton.mpr rfl) (uy_0 w0)
  have e_56 : (ws.set k0 (h0, .inr (8, [.ref la, .ref ta, .ref ba, .ref ra, .ref sn, .ref rd, .ref dr, .ref bl, .ref vd, .ref fb, .int (nI lc), .int (nI bc), .int (nI rc), .int 0, .int dn])))[k0]? = some (h0, .inr (8, [.ref la, .ref ta, .ref ba, .ref ra, .ref sn, .ref rd, .ref dr, .ref bl, .ref vd, .ref fb, .int (nI lc), .int (nI bc), .int (nI rc), .int 0, .int dn])) := wset_self e0
  have e_57 := set_n (z := (h0, .inr (8, [.ref la, .ref ta, .ref ba, .ref ra, .ref sn, .ref rd, .ref dr, .ref bl, .ref vd, .ref fb, .int (nI lc), .int (nI bc), .int (nI rc), .int 0, .int dn]))) ela (pl_ne ela e0 (by intro h9; simp at h9))
  have e_58 := set_n (z := (h0, .inr (8, [.ref la, .ref ta, .ref ba, .ref ra, .ref sn, .ref rd, .ref dr, .ref bl, .ref vd, .ref fb, .int (nI lc), .int (nI bc), .int (nI rc), .int 0, .int dn]))) eba (pl_ne eba e0 (by intro h9; simp at h9))
  have e_59 := set_n (z := (h0, .inr (8, [.ref la, .ref ta, .ref ba, .ref ra, .ref sn, .ref rd, .ref dr, .ref bl, .ref vd, .ref fb, .int (nI lc), .int (nI bc), .int (nI rc), .int 0, .int dn]))) efb (pl_ne efb e0 (by intro h9; simp at h9))
  have e_60 := set_n (z := (h0, .inr (8, [.ref la, .ref ta, .ref ba, .ref ra, .ref sn, .ref rd, .ref dr, .ref bl, .ref vd, .ref fb, .int (nI lc), .int (nI bc), .int (nI rc), .int 0, .int dn]))) e_15 (pl_ne e_15 e0 (by intro h9; simp at h9))
  have e_61 := set_n (z := (h0, .inr (8, [.ref la, .ref ta, .ref ba, .ref ra, .ref sn, .ref rd, .ref dr, .ref bl, .ref vd, .ref fb, .int (nI lc), .int (nI bc), .int (nI rc), .int 0, .int dn]))) e_26 (pl_ne e_26 e0 (by intro h9; simp at h9))
  have e_62 := set_n (z := (h0, .inr (8, [.ref la, .ref ta, .ref ba, .ref ra, .ref sn, .ref rd, .ref dr, .ref bl, .ref vd, .ref fb, .int (nI lc), .int (nI bc), .int (nI rc), .int 0, .int dn]))) e_34 (pl_ne e_34 e0 (by intro h9; simp at h9))
  have e_63 := set_n (z := (h0, .inr (8, [.ref la, .ref ta, .ref ba, .ref ra, .ref sn, .ref rd, .ref dr, .ref bl, .ref vd, .ref fb, .int (nI lc), .int (nI bc), .int (nI rc), .int 0, .int dn]))) es_20 (pl_ne es_20 e0 (by intro h9; simp at h9))
  have e_64 := set_n (z := (h0, .inr (8, [.ref la, .ref ta, .ref ba, .ref ra, .ref sn, .ref rd, .ref dr, .ref bl, .ref vd, .ref fb, .int (nI lc), .int (nI bc), .int (nI rc), .int 0, .int dn]))) e_42 (pl_ne e_42 e0 (by intro h9; simp at h9))
  have e_65 := set_n (z := (h0, .inr (8, [.ref la, .ref ta, .ref ba, .ref ra, .ref sn, .ref rd, .ref dr, .ref bl, .ref vd, .ref fb, .int (nI lc), .int (nI bc), .int (nI rc), .int 0, .int dn]))) e_50 (pl_ne e_50 e0 (by intro h9; simp at h9))
  generalize ws.set k0 (h0, .inr (8, [.ref la, .ref ta, .ref ba, .ref ra, .ref sn, .ref rd, .ref dr, .ref bl, .ref vd, .ref fb, .int (nI lc), .int (nI bc), .int (nI rc), .int 0, .int dn])) = ws_54 at hP hD hm_55 e_56 e_57 e_58 e_59 e_60 e_61 e_62 e_63 e_64 e_65
  have hsm := hsm.tr (hm_55.mono (by decide))
  refine lv_iconst (v := 0) hx hb dX8_trace_15 (by decide) ?_
  refine lv_istore_n (lv' := [(2, .int 0), (0, .ref h0), (1, .int a1)]) hx hb dX8_trace_16 rfl hl (by decide) rfl (fun ls hl => ?_)
  refine lp_V (nL := 4) (σ := Nat × Nat × (Nat → Int32)) (lv := fun x9 => [(2, .int (nI x9.1)), (1, .int a1), (0, .ref h0)]) (μ := fun x9 => 60 - x9.1) (J := fun x9 ws9 => sm (uy ρ [8007]) [8] ws_54 ws9 ∧ (ws9[k0]? = some (h0, .inr (8, [.ref la, .ref ta, .ref ba, .ref ra, .ref sn, .ref rd, .ref dr, .ref bl, .ref vd, .ref fb, .int (nI lc), .int (nI bc), .int (nI rc), .int (nI x9.2.1), .int dn]))) ∧ (ws9[kfb]? = some (fb, .inl (cfb, 60, .inl x9.2.2))) ∧ (x9.1 ≤ 60) ∧ (x9.2.1 ≤ x9.1) ∧ (x9.2.1 = trN (fv 9) a1.toNatClampNeg (min x9.1 bc)) ∧ (x9.2.2 = trW (fv 9) a1.toNatClampNeg ffb (min x9.1 bc))) (fun x9 ws_74 H locs ls hj hP hD hS hl ih_66 => ?_) (0, 0, ffb) ws_54 _ _ ls ⟨sm.rf _, e_56, e_59, (show 0 ≤ 60 from by omega), (show 0 ≤ 0 from by omega), (show 0 = trN (fv 9) a1.toNatClampNeg (min 0 bc) from (by rw [Nat.zero_min]; rfl)), (show ffb = trW (fv 9) a1.toNatClampNeg ffb (min 0 bc) from (by rw [Nat.zero_min]; rfl))⟩ hP hD hS (lv_sub hl [0, 2, 1] rfl)
  obtain ⟨i_67, n_68, f9_69⟩ := x9
  replace hj : sm (uy ρ [8007]) [8] ws_54 ws_74 ∧ (ws_74[k0]? = some (h0, .inr (8, [.ref la, .ref ta, .ref ba, .ref ra, .ref sn, .ref rd, .ref dr, .ref bl, .ref vd, .ref fb, .int (nI lc), .int (nI bc), .int (nI rc), .int (nI n_68), .int dn]))) ∧ (ws_74[kfb]? = some (fb, .inl (cfb, 60, .inl f9_69))) ∧ (i_67 ≤ 60) ∧ (n_68 ≤ i_67) ∧ (n_68 = trN (fv 9) a1.toNatClampNeg (min i_67 bc)) ∧ (f9_69 = trW (fv 9) a1.toNatClampNeg ffb (min i_67 bc)) := hj
  obtain ⟨hm_75, e_77, e_78, hi_70, hn0_71, hn_72, hf_73⟩ := hj
  obtain ⟨g_80, e_79, h_81⟩ := hm_75.obj e_56
  obtain ⟨z_82, z_83, z_84, z_85, z_86, rfl⟩ := smX8 h_81
  have e_87 := hm_75.arrQ e_57
  have e_88 := hm_75.arrQ e_58
  obtain ⟨f_90, e_89⟩ := hm_75.arrI e_59
  have e_91 := hm_75.keep (uy1 (by rw [wk_16]; omega) (by rw [wk_16]; omega)) e_60
  have e_92 := hm_75.keep (uy1 (by rw [wr_28]; omega) (by rw [wr_28]; omega)) e_61
  have e_93 := hm_75.keep (uy1 (by rw [wr_36]; omega) (by rw [wr_36]; omega)) e_62
  have e_94 := hm_75.keep (uy1 (by rw [wks_21]; omega) (by rw [wks_21]; omega)) e_63
  have e_95 := hm_75.keep (uy1 (by rw [wr_44]; omega) (by rw [wr_44]; omega)) e_64
  have e_96 := hm_75.keep (uy1 (by rw [wr_52]; omega) (by rw [wr_52]; omega)) e_65
  have hsm := hsm.tr (hm_75.mono (by decide))
  have hlp_76 := hm_75
  have hl : lv_has ls 4 [(2, .int (nI i_67)), (1, .int a1), (0, .ref h0)] := hl
  refine lv_iload_n hx hb dX8_trace_17 rfl (lv_at hl 0 rfl) ?_
  refine lv_aload_n hx hb dX8_trace_18 rfl (lv_at hl 2 rfl) ?_
  refine va_get (D := D) (ci := 8) (v := .ref ba) (C := RX8) (T := TX8) (N := 15) hx hb hts hin8 hown hK hP k0 e_77 rfl 2 (by decide) (hts (.fieldLink RX8 21 "HoneyHouse" "batches" "[LHoneyHouse$Vessel;") (List.mem_of_getElem? (i := 2) rfl)) (fun _ h9 => h9) rfl dX8_trace_19 ?_
  refine va_alen (v := 60) hx hb hK hP kba tba e_88 uba rfl dX8_trace_22 ?_
  refine lv_icmp_ge (tgt := 83) hx hb dX8_trace_23 (by decide) (fun c_97 => ?_) (fun c_97 => ?_)
  · have d_98 := n_le (a := 60) (b := i_67) (by omega) (by omega) c_97
    refine lv_aload_n hx hb dX8_trace_83 rfl (lv_at hl 2 rfl) ?_
    refine va_get (D := D) (ci := 8) (v := .int (nI n_68)) (C := RX8) (T := TX8) (N := 15) hx hb hts hin8 hown hK hP k0 e_77 rfl 13 (by decide) (hts (.fieldLink RX8 272 "HoneyHouse" "foundCount" "I") (List.mem_of_getElem? (i := 1) rfl)) (fun _ h9 => h9) rfl dX8_trace_84 ?_
    have eN : n_68 = trN (fv 9) a1.toNatClampNeg bc := by rw [hn_72, show min i_67 bc = bc by omega]
    have eF : f9_69 = trW (fv 9) a1.toNatClampNeg ffb bc := by rw [hf_73, show min i_67 bc = bc by omega]
    exact W.iret (v := nI n_68) hx hb hr (fun t ht hW => ⟨⟨nI n_68, (), rfl, Or.inr ⟨(fun h => Or.elim h a_5 b_6), by rw [eN]⟩, ws_74, tys, htx, by rw [ht]; exact hP, va_K.moved hW.alike hK, hD, Or.inr ⟨(fun h => Or.elim h a_5 b_6), (xi_mk2 (fv := (uF fv 42 (trW (fv 9) a1.toNatClampNeg (fv 42) bc))) (by rw [← eN]; exact e_77) w0 hle0 ⟨hnum.1, hnum.2.1, hnum.2.2.1, by rw [← eN]; omega, hnum.2.2.2.2⟩ ((CL.sm qla hsm htx (fun k _ h1 h2 => uy1 (by omega) (by omega))).fvx (fun _ _ _ _ => rfl) rfl rfl rfl) ((CW.sm qta hsm htx (fun k _ h1 h2 => uy1 (by omega) (by omega))).fvx (fun _ _ _ _ => rfl) (fun _ _ => rfl) (fun _ _ => rfl) (fun _ _ => rfl)) ((CW.sm qba hsm htx (fun k _ h1 h2 => uy1 (by omega) (by omega))).fvx (fun _ _ _ _ => rfl) (fun _ _ => rfl) (fun _ _ => rfl) (fun _ _ => rfl)) qra (oST.sm qsn hsm htx (fun k _ h1 h2 => uy1 (by omega) (by omega))) qrd qdr qbl qvd ⟨kfb, cfb, tfb, f9_69, e_78, ufb, wfb, fun j hj => by rw [eF]; exact trW_cg bc j hj⟩ hsm htx (by decide))⟩⟩, hS.F ht⟩) hS.2.2 dX8_trace_87
  have d_99 := n_nle (a := 60) (b := i_67) (by omega) (by omega) c_97
  refine lv_aload_n hx hb dX8_trace_26 rfl (lv_at hl 2 rfl) ?_
  refine va_get (D := D) (ci := 8) (v := .ref ba) (C := RX8) (T := TX8) (N := 15) hx hb hts hin8 hown hK hP k0 e_77 rfl 2 (by decide) (hts (.fieldLink RX8 21 "HoneyHouse" "batches" "[LHoneyHouse$Vessel;") (List.mem_of_getElem? (i := 2) rfl)) (fun _ h9 => h9) rfl dX8_trace_27 ?_
  refine lv_iload_n hx hb dX8_trace_30 rfl (lv_at hl 0 rfl) ?_
  refine va_aldq (f := fba) (n := 60) hx hb hK hP kba tba e_88 uba (vp_in_nI (n := i_67) (by omega) (by omega)) dX8_trace_31 ?_
  obtain ⟨r_100, er_101⟩ : ∃ r, r = fba (nI i_67).toNatClampNeg := ⟨_, rfl⟩
  refine tp_v (y := va_rf r_100) (by rw [er_101]) ?_
  rw [nI_clamp (n := i_67) (by omega)] at er_101
  rcases Nat.lt_or_ge i_67 bc with hl_106 | hn_107
  · obtain ⟨v_102, ev_103, hV_104⟩ := hba1 i_67 hl_106
    rw [ev_103] at er_101
    subst er_101
    have hV_105 := hV_104.sm hsm htx (fun k _ h1 h2 => uy1 (by omega) (by omega))
    obtain ⟨k_108, g_109, e_110, wk_111, k_112, c9_113, t_114, f_115, e_116, u_117, wr_118, g_119⟩ := hV_105
    refine tp_v (y := .ref v_102) rfl ?_
    refine lv_astore_n (lv' := [(3, .ref v_102), (2, .int (nI i_67)), (1, .int a1), (0, .ref h0)]) hx hb dX8_trace_32 rfl hl (by decide) rfl (fun ls hl => ?_)
    refine lv_aload_n hx hb dX8_trace_33 rfl (lv_at hl 0 rfl) ?_
    refine lv_ifnull hx hb dX8_trace_34 ?_
    refine lv_aload_n hx hb dX8_trace_37 rfl (lv_at hl 0 rfl) ?_
    refine lv_iload_n hx hb dX8_trace_38 rfl (lv_at hl 2 rfl) ?_
    refine vp_callSi (W.runV (As := [.int a1]) (rest := []) ⟨hx, hb, hml, hown, hts⟩ (s_gramsOf l D ws_74 tys v_102 k_108 (mall (fv 9) (10 + i_67) 40) (fv 10 (10 + i_67)) (fv 11 (10 + i_67)) (fv 12 (10 + i_67)) g_109 k_112 c9_113 t_114 f_115 a1 e_110 e_116 u_117) (cwV 1 hts gX8_trace_X7_gramsOf rfl rfl rfl (by decide +kernel) ⟨Nat.le_of_ble_eq_true rfl, Nat.le_of_ble_eq_true rfl⟩) ⟨fun a U g mk q => ⟨q.1, q.2.1, va_K.moved (u := U) (U := U.calling g mk a) (Vm.Alike.refl U.vm) q.2.2⟩, va_recv hK hP (ci := 7) (q0 := k_108) rfl e_110, fun U hU hW => ⟨rfl, by rw [hU]; exact hP, va_K.moved hW.alike hK⟩⟩ rfl rfl hl.1 rfl (lv_room (Nat.le_of_ble_eq_true rfl)) dX8_trace_39 ⟨Nat.le_of_ble_eq_true rfl, Nat.le_of_ble_eq_true rfl⟩) (fun r_120 k_121 => ?_)
    obtain rfl : r_120 = fv 9 (40 * (10 + i_67) + a1.toNatClampNeg) := by rcases k_121 with ⟨-, h9 | h9⟩ | ⟨-, -, h9⟩; exact absurd h9 a_5; exact absurd h9 (i_not40 hlc b_6); exact h9.trans (g_119 _ (by omega))
    refine lv_if_le (tgt := 77) hx hb dX8_trace_42 (by decide) (fun c_122 => ?_) (fun c_122 => ?_)
    · have tz_123 := (nv_zero V (r := 10 + i_67) (L := a1.toNatClampNeg) (by omega) (by omega)).1 c_122
      refine lv_iinc (v := nI (i_67 + 1)) (lv' := [(2, .int (nI (i_67 + 1))), (3, .ref v_102), (1, .int a1), (0, .ref h0)]) hx hb dX8_trace_77 hl (k := 1) rfl (nI_add i_67 1) (by decide) rfl (fun ls hl => ?_)
      refine lv_goto (tgt := 17) hx hb dX8_trace_80 (by decide) ?_
      exact ih_66 (i_67 + 1, n_68, f9_69) ws_74 _ _ ls (by show 60 - (i_67 + 1) < 60 - i_67; omega) ⟨hlp_76, e_77, e_78, (show (i_67 + 1) ≤ 60 from by omega), (show n_68 ≤ (i_67 + 1) from by omega), (show n_68 = trN (fv 9) a1.toNatClampNeg (min (i_67 + 1) bc) from (by rw [show min (i_67 + 1) bc = i_67 + 1 by omega, trN_z tz_123, hn_72, show min i_67 bc = i_67 by omega])), (show f9_69 = trW (fv 9) a1.toNatClampNeg ffb (min (i_67 + 1) bc) from (by rw [show min (i_67 + 1) bc = i_67 + 1 by omega, trW_z tz_123, hf_73, show min i_67 bc = i_67 by omega]))⟩ hP hD hS (lv_sub hl [0, 2, 3] rfl)
    have tz_124 := (nv_zero V (r := 10 + i_67) (L := a1.toNatClampNeg) (by omega) (by omega)).2 c_122
    refine lv_aload_n hx hb dX8_trace_45 rfl (lv_at hl 3 rfl) ?_
    refine va_get (D := D) (ci := 8) (v := .int (nI n_68)) (C := RX8) (T := TX8) (N := 15) hx hb hts hin8 hown hK hP k0 e_77 rfl 13 (by decide) (hts (.fieldLink RX8 272 "HoneyHouse" "foundCount" "I") (List.mem_of_getElem? (i := 1) rfl)) (fun _ h9 => h9) rfl dX8_trace_46 ?_
    refine lv_aload_n hx hb dX8_trace_49 rfl (lv_at hl 3 rfl) ?_
    refine va_get (D := D) (ci := 8) (v := .ref fb) (C := RX8) (T := TX8) (N := 15) hx hb hts hin8 hown hK hP k0 e_77 rfl 9 (by decide) (hts (.fieldLink RX8 62 "HoneyHouse" "foundBatches" "[I") (List.mem_of_getElem? (i := 3) rfl)) (fun _ h9 => h9) rfl dX8_trace_50 ?_
    refine va_alen (v := 60) hx hb hK hP kfb tfb e_78 ufb rfl dX8_trace_53 ?_
    refine lv_icmp_ge (tgt := 77) hx hb dX8_trace_54 (by decide) (fun c_125 => absurd c_125 (show ¬ (60 : Int32) ≤ nI n_68 from nI_ge (a := n_68) (b := 60) (by omega) (by omega))) (fun c_125 => ?_)
    refine lv_aload_n hx hb dX8_trace_57 rfl (lv_at hl 3 rfl) ?_
    refine va_get (D := D) (ci := 8) (v := .ref fb) (C := RX8) (T := TX8) (N := 15) hx hb hts hin8 hown hK hP k0 e_77 rfl 9 (by decide) (hts (.fieldLink RX8 62 "HoneyHouse" "foundBatches" "[I") (List.mem_of_getElem? (i := 3) rfl)) (fun _ h9 => h9) rfl dX8_trace_58 ?_
    refine lv_aload_n hx hb dX8_trace_61 rfl (lv_at hl 3 rfl) ?_
    refine va_get (D := D) (ci := 8) (v := .int (nI n_68)) (C := RX8) (T := TX8) (N := 15) hx hb hts hin8 hown hK hP k0 e_77 rfl 13 (by decide) (hts (.fieldLink RX8 272 "HoneyHouse" "foundCount" "I") (List.mem_of_getElem? (i := 1) rfl)) (fun _ h9 => h9) rfl dX8_trace_62 ?_
    refine lv_iload_n hx hb dX8_trace_65 rfl (lv_at hl 1 rfl) ?_
    refine va_iast (f := f9_69) (n := 60) hx hb hK hP hD hS kfb tfb e_78 ufb (vp_in_nI (n := n_68) (by omega) (by omega)) dX8_trace_66 (fun H locs hP hD hS => ?_)
    have hm_127 : sm (uy ρ [8007]) [] ws_74 (ws_74.set kfb (fb, .inl (cfb, 60, .inl (upd f9_69 (nI n_68).toNatClampNeg (nI i_67))))) := sm.ints e_78 (uy_in wfb (List.Mem.head _))
    have e_128 : (ws_74.set kfb (fb, .inl (cfb, 60, .inl (upd f9_69 (nI n_68).toNatClampNeg (nI i_67)))))[kfb]? = some (fb, .inl (cfb, 60, .inl (upd f9_69 (nI n_68).toNatClampNeg (nI i_67)))) := wset_self e_78
    have e_129 := set_n (z := (fb, .inl (cfb, 60, .inl (upd f9_69 (nI n_68).toNatClampNeg (nI i_67))))) e_77 (pl_ne e_77 e_78 (by intro h9; simp at h9))
    have e_130 := set_n (z := (fb, .inl (cfb, 60, .inl (upd f9_69 (nI n_68).toNatClampNeg (nI i_67))))) e_87 (pl_ne e_87 e_78 (by intro h9; simp at h9))
    have e_131 := set_n (z := (fb, .inl (cfb, 60, .inl (upd f9_69 (nI n_68).toNatClampNeg (nI i_67))))) e_88 (pl_ne e_88 e_78 (by intro h9; simp at h9))
    have e_132 := set_n (z := (fb, .inl (cfb, 60, .inl (upd f9_69 (nI n_68).toNatClampNeg (nI i_67))))) e_91 (pl_ne e_91 e_78 (by intro h9; simp at h9))
    have e_133 := set_n (z := (fb, .inl (cfb, 60, .inl (upd f9_69 (nI n_68).toNatClampNeg (nI i_67))))) e_92 (pl_ne e_92 e_78 (by intro h9; simp at h9))
    have e_134 := set_n (z := (fb, .inl (cfb, 60, .inl (upd f9_69 (nI n_68).toNatClampNeg (nI i_67))))) e_93 (pl_ne e_93 e_78 (by intro h9; simp at h9))
    have e_135 := set_n (z := (fb, .inl (cfb, 60, .inl (upd f9_69 (nI n_68).toNatClampNeg (nI i_67))))) e_94 (pl_ne e_94 e_78 (by intro h9; simp at h9))
    have e_136 := set_n (z := (fb, .inl (cfb, 60, .inl (upd f9_69 (nI n_68).toNatClampNeg (nI i_67))))) e_95 (pl_ne e_95 e_78 (by intro h9; simp at h9))
    have e_137 := set_n (z := (fb, .inl (cfb, 60, .inl (upd f9_69 (nI n_68).toNatClampNeg (nI i_67))))) e_96 (pl_ne e_96 e_78 (by intro h9; simp at h9))
    have e_138 := set_n (z := (fb, .inl (cfb, 60, .inl (upd f9_69 (nI n_68).toNatClampNeg (nI i_67))))) e_110 (pl_ne e_110 e_78 (by intro h9; simp at h9))
    have e_139 := set_n (z := (fb, .inl (cfb, 60, .inl (upd f9_69 (nI n_68).toNatClampNeg (nI i_67))))) e_116 (pl_ne e_116 e_78 (by intro h9; simp at h9))
    generalize ws_74.set kfb (fb, .inl (cfb, 60, .inl (upd f9_69 (nI n_68).toNatClampNeg (nI i_67)))) = ws_126 at hP hD hm_127 e_128 e_129 e_130 e_131 e_132 e_133 e_134 e_135 e_136 e_137 e_138 e_139
    have hsm := hsm.tr (hm_127.mono (fun _ h9 => absurd h9 List.not_mem_nil))
    have hlp_76 := hlp_76.tr (hm_127.mono (fun _ h9 => absurd h9 List.not_mem_nil))
    obtain ⟨f_140, hf_141⟩ : ∃ g9, g9 = upd f9_69 (nI n_68).toNatClampNeg (nI i_67) := ⟨_, rfl⟩
    rw [← hf_141] at e_128
    refine lv_aload_n hx hb dX8_trace_67 rfl (lv_at hl 3 rfl) ?_
    refine lv_dup hx hb dX8_trace_68 rfl ?_
    refine va_get (D := D) (ci := 8) (v := .int (nI n_68)) (C := RX8) (T := TX8) (N := 15) hx hb hts hin8 hown hK hP k0 e_129 rfl 13 (by decide) (hts (.fieldLink RX8 272 "HoneyHouse" "foundCount" "I") (List.mem_of_getElem? (i := 1) rfl)) (fun _ h9 => h9) rfl dX8_trace_69 ?_
    refine lv_iconst (v := 1) hx hb dX8_trace_72 (by decide) ?_
    refine lv_iadd hx hb dX8_trace_73 ?_
    refine tp_i (y := nI (n_68 + 1)) (nI_add n_68 1) ?_
    refine va_put (D := D) (ci := 8) (v := .int (nI (n_68 + 1))) (ty := .int) (C := RX8) (T := TX8) (N := 15) hx hb hts hin8 tyX8 tyX8_ok nmX8 hown hK hP hD hS k0 e_129 rfl 13 (by decide) (hts (.fieldLink RX8 272 "HoneyHouse" "foundCount" "I") (List.mem_of_getElem? (i := 1) rfl)) (fun _ h9 => h9) rfl (tyX8_ok 13 (by decide)) rfl rfl (Nat.le_of_ble_eq_true rfl) dX8_trace_74 (fun H locs hP hD hS => ?_)
    have hP : va_P D vwCl (ws_126.set k0 (h0, .inr (8, [.ref la, .ref ta, .ref ba, .ref ra, .ref sn, .ref rd, .ref dr, .ref bl, .ref vd, .ref fb, .int (nI lc), .int (nI bc), .int (nI rc), .int (nI (n_68 + 1)), .int dn]))) H := hP
    have hD : va_D A (ws_126.set k0 (h0, .inr (8, [.ref la, .ref ta, .ref ba, .ref ra, .ref sn, .ref rd, .ref dr, .ref bl, .ref vd, .ref fb, .int (nI lc), .int (nI bc), .int (nI rc), .int (nI (n_68 + 1)), .int dn]))) := hD
    have hm_143 : sm (uy ρ [8007]) [8] ws_126 (ws_126.set k0 (h0, .inr (8, [.ref la, .ref ta, .ref ba, .ref ra, .ref sn, .ref rd, .ref dr, .ref bl, .ref vd, .ref fb, .int (nI lc), .int (nI bc), .int (nI rc), .int (nI (n_68 + 1)), .int dn]))) := sm.flds e_129 (smF.c (smV.rf _) (smF.c (smV.rf _) (smF.c (smV.rf _) (smF.c (smV.rf _) (smF.c (smV.rf _) (smF.c (smV.rf _) (smF.c (smV.rf _) (smF.c (smV.rf _) (smF.c (smV.rf _) (smF.c (smV.rf _) (smF.c (smV.rf _) (smF.c (smV.rf _) (smF.c (smV.rf _) (smF.c (smV.i _ _) (smF.c (smV.rf _) (rfl)))))))))))))))) (List.mem_singleton.mpr rfl) (uy_0 w0)
    have e_144 : (ws_126.set k0 (h0, .inr (8, [.ref la, .ref ta, .ref ba, .ref ra, .ref sn, .ref rd, .ref dr, .ref bl, .ref vd, .ref fb, .int (nI lc), .int (nI bc), .int (nI rc), .int (nI (n_68 + 1)), .int dn])))[k0]? = some (h0, .inr (8, [.ref la, .ref ta, .ref ba, .ref ra, .ref sn, .ref rd, .ref dr, .ref bl, .ref vd, .ref fb, .int (nI lc), .int (nI bc), .int (nI rc), .int (nI (n_68 + 1)), .int dn])) := wset_self e_129
    have e_145 := set_n (z := (h0, .inr (8, [.ref la, .ref ta, .ref ba, .ref ra, .ref sn, .ref rd, .ref dr, .ref bl, .ref vd, .ref fb, .int (nI lc), .int (nI bc), .int (nI rc), .int (nI (n_68 + 1)), .int dn]))) e_130 (pl_ne e_130 e_129 (by intro h9; simp at h9))
    have e_146 := set_n (z := (h0, .inr (8, [.ref la, .ref ta, .ref ba, .ref ra, .ref sn, .ref rd, .ref dr, .ref bl, .ref vd, .ref fb, .int (nI lc), .int (nI bc), .int (nI rc), .int (nI (n_68 + 1)), .int dn]))) e_131 (pl_ne e_131 e_129 (by intro h9; simp at h9))
    have e_147 := set_n (z := (h0, .inr (8, [.ref la, .ref ta, .ref ba, .ref ra, .ref sn, .ref rd, .ref dr, .ref bl, .ref vd, .ref fb, .int (nI lc), .int (nI bc), .int (nI rc), .int (nI (n_68 + 1)), .int dn]))) e_128 (pl_ne e_128 e_129 (by intro h9; simp at h9))
    have e_148 := set_n (z := (h0, .inr (8, [.ref la, .ref ta, .ref ba, .ref ra, .ref sn, .ref rd, .ref dr, .ref bl, .ref vd, .ref fb, .int (nI lc), .int (nI bc), .int (nI rc), .int (nI (n_68 + 1)), .int dn]))) e_132 (pl_ne e_132 e_129 (by intro h9; simp at h9))
    have e_149 := set_n (z := (h0, .inr (8, [.ref la, .ref ta, .ref ba, .ref ra, .ref sn, .ref rd, .ref dr, .ref bl, .ref vd, .ref fb, .int (nI lc), .int (nI bc), .int (nI rc), .int (nI (n_68 + 1)), .int dn]))) e_133 (pl_ne e_133 e_129 (by intro h9; simp at h9))
    have e_150 := set_n (z := (h0, .inr (8, [.ref la, .ref ta, .ref ba, .ref ra, .ref sn, .ref rd, .ref dr, .ref bl, .ref vd, .ref fb, .int (nI lc), .int (nI bc), .int (nI rc), .int (nI (n_68 + 1)), .int dn]))) e_134 (pl_ne e_134 e_129 (by intro h9; simp at h9))
    have e_151 := set_n (z := (h0, .inr (8, [.ref la, .ref ta, .ref ba, .ref ra, .ref sn, .ref rd, .ref dr, .ref bl, .ref vd, .ref fb, .int (nI lc), .int (nI bc), .int (nI rc), .int (nI (n_68 + 1)), .int dn]))) e_135 (pl_ne e_135 e_129 (by intro h9; simp at h9))
    have e_152 := set_n (z := (h0, .inr (8, [.ref la, .ref ta, .ref ba, .ref ra, .ref sn, .ref rd, .ref dr, .ref bl, .ref vd, .ref fb, .int (nI lc), .int (nI bc), .int (nI rc), .int (nI (n_68 + 1)), .int dn]))) e_136 (pl_ne e_136 e_129 (by intro h9; simp at h9))
    have e_153 := set_n (z := (h0, .inr (8, [.ref la, .ref ta, .ref ba, .ref ra, .ref sn, .ref rd, .ref dr, .ref bl, .ref vd, .ref fb, .int (nI lc), .int (nI bc), .int (nI rc), .int (nI (n_68 + 1)), .int dn]))) e_137 (pl_ne e_137 e_129 (by intro h9; simp at h9))
    have e_154 := set_n (z := (h0, .inr (8, [.ref la, .ref ta, .ref ba, .ref ra, .ref sn, .ref rd, .ref dr, .ref bl, .ref vd, .ref fb, .int (nI lc), .int (nI bc), .int (nI rc), .int (nI (n_68 + 1)), .int dn]))) e_138 (pl_ne e_138 e_129 (by intro h9; simp at h9))
    have e_155 := set_n (z := (h0, .inr (8, [.ref la, .ref ta, .ref ba, .ref ra, .ref sn, .ref rd, .ref dr, .ref bl, .ref vd, .ref fb, .int (nI lc), .int (nI bc), .int (nI rc), .int (nI (n_68 + 1)), .int dn]))) e_139 (pl_ne e_139 e_129 (by intro h9; simp at h9))
    generalize ws_126.set k0 (h0, .inr (8, [.ref la, .ref ta, .ref ba, .ref ra, .ref sn, .ref rd, .ref dr, .ref bl, .ref vd, .ref fb, .int (nI lc), .int (nI bc), .int (nI rc), .int (nI (n_68 + 1)), .int dn])) = ws_142 at hP hD hm_143 e_144 e_145 e_146 e_147 e_148 e_149 e_150 e_151 e_152 e_153 e_154 e_155
    have hsm := hsm.tr (hm_143.mono (by decide))
    have hlp_76 := hlp_76.tr (hm_143.mono (by decide))
    refine lv_iinc (v := nI (i_67 + 1)) (lv' := [(2, .int (nI (i_67 + 1))), (3, .ref v_102), (1, .int a1), (0, .ref h0)]) hx hb dX8_trace_77 hl (k := 1) rfl (nI_add i_67 1) (by decide) rfl (fun ls hl => ?_)
    refine lv_goto (tgt := 17) hx hb dX8_trace_80 (by decide) ?_
    exact ih_66 (i_67 + 1, n_68 + 1, f_140) ws_142 _ _ ls (by show 60 - (i_67 + 1) < 60 - i_67; omega) ⟨hlp_76, e_144, e_147, (show (i_67 + 1) ≤ 60 from by omega), (show (n_68 + 1) ≤ (i_67 + 1) from by omega), (show (n_68 + 1) = trN (fv 9) a1.toNatClampNeg (min (i_67 + 1) bc) from (by rw [show min (i_67 + 1) bc = i_67 + 1 by omega, trN_y tz_124, hn_72, show min i_67 bc = i_67 by omega])), (show f_140 = trW (fv 9) a1.toNatClampNeg ffb (min (i_67 + 1) bc) from (by rw [show min (i_67 + 1) bc = i_67 + 1 by omega, trW_y tz_124, hf_141, nI_clamp (n := n_68) (by omega), hf_73, show min i_67 bc = i_67 by omega, show n_68 = trN (fv 9) a1.toNatClampNeg i_67 by rw [hn_72, show min i_67 bc = i_67 by omega]]))⟩ hP hD hS (lv_sub hl [0, 2, 3] rfl)
  rw [hba0 i_67 hn_107] at er_101
  subst er_101
  refine tp_v (y := .null) rfl ?_
  refine lv_astore_nN (lv' := [(3, .null), (2, .int (nI i_67)), (1, .int a1), (0, .ref h0)]) hx hb dX8_trace_32 rfl hl (by decide) rfl (fun ls hl => ?_)
  refine lv_aload_nN hx hb dX8_trace_33 rfl (lv_at hl 0 rfl) ?_
  refine lv_ifnullN (tgt := 77) hx hb dX8_trace_34 (by decide) ?_
  refine lv_iinc (v := nI (i_67 + 1)) (lv' := [(2, .int (nI (i_67 + 1))), (3, .null), (1, .int a1), (0, .ref h0)]) hx hb dX8_trace_77 hl (k := 1) rfl (nI_add i_67 1) (by decide) rfl (fun ls hl => ?_)
  refine lv_goto (tgt := 17) hx hb dX8_trace_80 (by decide) ?_
  exact ih_66 (i_67 + 1, n_68, f9_69) ws_74 _ _ ls (by show 60 - (i_67 + 1) < 60 - i_67; omega) ⟨hlp_76, e_77, e_78, (show (i_67 + 1) ≤ 60 from by omega), (show n_68 ≤ (i_67 + 1) from by omega), (show n_68 = trN (fv 9) a1.toNatClampNeg (min (i_67 + 1) bc) from (by rw [show min (i_67 + 1) bc = min i_67 bc by omega]; exact hn_72)), (show f9_69 = trW (fv 9) a1.toNatClampNeg ffb (min (i_67 + 1) bc) from (by rw [show min (i_67 + 1) bc = min i_67 bc by omega]; exact hf_73))⟩ hP hD hS (lv_sub hl [0, 2, 3] rfl)
set_option maxHeartbeats 4000000 in
set_option maxRecDepth 100000 in
theorem s_J6_bitCount (l : Launch) (a1 : Int32) : Met l yJ6_bitCount_0f7a4 wsJ6_bitCount_0f7a4 ({ frames := 0, cells := 0, slots := 0, locals := 0 }) (va_Pc [.int a1] (fun _ => True)) (vp_Si (fun r => True)) 0 0 (fun _ => False) := by
  refine Met.ofW (cc := cJ6_bitCount_0f7a4) (maxL := 1) (ret := (some .int)) (by decide) rfl ?_
  intro p e s m args below meth c s₁ B hml hv
  obtain ⟨rfl, -⟩ := hv
  have hx := B.exec
  have hb := B.bytes
  have hr := B.returns
  have hts := atoms_spec (ws := wsJ6_bitCount_0f7a4) B.pre
  have hown : s.vm.findClass RJ6 = some m.cls := findClass_of_methodNamed B.named
  have hlocks := B.notSynchronized
  have hl := lv_entry ([.int a1]) (n := 1) (Nat.le_of_ble_eq_true rfl)
  rw [lg_entry_eq]
  generalize (lg_sl ([.int a1]) ++ List.replicate (1 - (lg_sl ([.int a1])).length) Slot.unset).toArray = ls at hl ⊢
  have hl : lv_has ls 1 [(0, .int a1)] := hl
  refine lv_iload_n hx hb dJ6_bitCount_0f7a4_0 rfl (lv_at hl 0 rfl) ?_
  refine lv_iload_n hx hb dJ6_bitCount_0f7a4_1 rfl (lv_at hl 0 rfl) ?_
  refine lv_iconst (v := 1) hx hb dJ6_bitCount_0f7a4_2 (by decide) ?_
  refine lv_iushr hx hb dJ6_bitCount_0f7a4_3 rfl ?_
  refine lv_topi (fun z_1 _ => ?_)
  refine lv_ldcw hx hb hown (hts (.constant RJ6 265 (1431655765)) (List.mem_of_getElem? (i := 1) rfl)) dJ6_bitCount_0f7a4_4 ?_
  refine lv_iand hx hb dJ6_bitCount_0f7a4_7 ?_
  refine lv_topi (fun z_2 _ => ?_)
  refine lv_isub hx hb dJ6_bitCount_0f7a4_8 ?_
  refine lv_topi (fun z_3 _ => ?_)
  refine lv_istore_n (lv' := [(0, .int z_3)]) hx hb dJ6_bitCount_0f7a4_9 rfl hl (by decide) rfl (fun ls hl => ?_)
  refine lv_iload_n hx hb dJ6_bitCount_0f7a4_10 rfl (lv_at hl 0 rfl) ?_
  refine lv_ldcw hx hb hown (hts (.constant RJ6 266 (858993459)) (List.mem_of_getElem? (i := 2) rfl)) dJ6_bitCount_0f7a4_11 ?_
  refine lv_iand hx hb dJ6_bitCount_0f7a4_14 ?_
  refine lv_topi (fun z_4 _ => ?_)
  refine lv_iload_n hx hb dJ6_bitCount_0f7a4_15 rfl (lv_at hl 0 rfl) ?_
  refine lv_iconst (v := 2) hx hb dJ6_bitCount_0f7a4_16 (by decide) ?_
  refine lv_iushr hx hb dJ6_bitCount_0f7a4_17 rfl ?_
  refine lv_topi (fun z_5 _ => ?_)
  refine lv_ldcw hx hb hown (hts (.constant RJ6 266 (858993459)) (List.mem_of_getElem? (i := 2) rfl)) dJ6_bitCount_0f7a4_18 ?_
  refine lv_iand hx hb dJ6_bitCount_0f7a4_21 ?_
  refine lv_topi (fun z_6 _ => ?_)
  refine lv_iadd hx hb dJ6_bitCount_0f7a4_22 ?_
  refine lv_topi (fun z_7 _ => ?_)
  refine lv_istore_n (lv' := [(0, .int z_7)]) hx hb dJ6_bitCount_0f7a4_23 rfl hl (by decide) rfl (fun ls hl => ?_)
  refine lv_iload_n hx hb dJ6_bitCount_0f7a4_24 rfl (lv_at hl 0 rfl) ?_
  refine lv_iload_n hx hb dJ6_bitCount_0f7a4_25 rfl (lv_at hl 0 rfl) ?_
  refine lv_iconst (v := 4) hx hb dJ6_bitCount_0f7a4_26 (by decide) ?_
  refine lv_iushr hx hb dJ6_bitCount_0f7a4_27 rfl ?_
  refine lv_topi (fun z_8 _ => ?_)
  refine lv_iadd hx hb dJ6_bitCount_0f7a4_28 ?_
  refine lv_topi (fun z_9 _ => ?_)
  refine lv_ldcw hx hb hown (hts (.constant RJ6 267 (252645135)) (List.mem_of_getElem? (i := 3) rfl)) dJ6_bitCount_0f7a4_29 ?_
  refine lv_iand hx hb dJ6_bitCount_0f7a4_32 ?_
  refine lv_topi (fun z_10 _ => ?_)
  refine lv_istore_n (lv' := [(0, .int z_10)]) hx hb dJ6_bitCount_0f7a4_33 rfl hl (by decide) rfl (fun ls hl => ?_)
  refine lv_iload_n hx hb dJ6_bitCount_0f7a4_34 rfl (lv_at hl 0 rfl) ?_
  refine lv_iload_n hx hb dJ6_bitCount_0f7a4_35 rfl (lv_at hl 0 rfl) ?_
  refine lv_bipush (v := 8) hx hb dJ6_bitCount_0f7a4_36 (by decide) ?_
  refine lv_iushr hx hb dJ6_bitCount_0f7a4_38 rfl ?_
  refine lv_topi (fun z_11 _ => ?_)
  refine lv_iadd hx hb dJ6_bitCount_0f7a4_39 ?_
  refine lv_topi (fun z_12 _ => ?_)
  refine lv_istore_n (lv' := [(0, .int z_12)]) hx hb dJ6_bitCount_0f7a4_40 rfl hl (by decide) rfl (fun ls hl => ?_)
  refine lv_iload_n hx hb dJ6_bitCount_0f7a4_41 rfl (lv_at hl 0 rfl) ?_
  refine lv_iload_n hx hb dJ6_bitCount_0f7a4_42 rfl (lv_at hl 0 rfl) ?_
  refine lv_bipush (v := 16) hx hb dJ6_bitCount_0f7a4_43 (by decide) ?_
  refine lv_iushr hx hb dJ6_bitCount_0f7a4_45 rfl ?_
  refine lv_topi (fun z_13 _ => ?_)
  refine lv_iadd hx hb dJ6_bitCount_0f7a4_46 ?_
  refine lv_topi (fun z_14 _ => ?_)
  refine lv_istore_n (lv' := [(0, .int z_14)]) hx hb dJ6_bitCount_0f7a4_47 rfl hl (by decide) rfl (fun ls hl => ?_)
  refine lv_iload_n hx hb dJ6_bitCount_0f7a4_48 rfl (lv_at hl 0 rfl) ?_
  refine lv_bipush (v := 63) hx hb dJ6_bitCount_0f7a4_49 (by decide) ?_
  refine lv_iand hx hb dJ6_bitCount_0f7a4_51 ?_
  refine lv_topi (fun z_15 _ => ?_)
  exact W.iret (v := z_15) hx hb hr (fun t ht hW => ⟨z_15, rfl, trivial, ht⟩) (fun _ h9 => by cases h9) dJ6_bitCount_0f7a4_52
set_option maxHeartbeats 4000000 in
set_option maxRecDepth 100000 in
theorem a_areTanks (l : Launch) (D : va_G) (ρ : Nat → Nat) (ws : va_W) (tys : List (ClassId × FieldType)) (fv : Nat → Nat → Int32) (h0 lc bc rc fc : Nat) (dn : Int32) (tl : Nat) (a1 : Int32) (sz : Nat) (X : XI ρ fv ws tys h0 lc bc rc fc dn tl) : Met l yX8_areTanksToBlend wsX8_areTanksToBlend ({ frames := 1, cells := 0, slots := 0, locals := 22 }) (va_Pc [.ref h0, .int a1] (fun U => U.heap.size = sz ∧ va_P D vwCl ws U.heap ∧ va_K D vwCl tys U ∧ va_D (fun _ => True) ws ∧ NZ U)) (va_Qi (fun (r : Int32) (_ : Unit) => r = 0 ∨ r = 1) (fun (_ : Unit) (t : State) => ∃ (ws' : va_W) (tys' : List (ClassId × FieldType)), sm ρ [] ws ws' ∧ tyx tys tys' ∧ va_P D vwCl ws' t.heap ∧ va_K D vwCl tys' t ∧ va_D (va_A ws sz) ws' ∧ (True)) (va_A ws sz)) 0 0 (va_A ws sz) := by
  refine Met.ofW (cc := cX8_areTanksToBlend) (maxL := 3) (ret := (some .boolean)) (by decide) rfl ?_
  intro p e s m args below meth c s₁ B hml hv
  obtain ⟨rfl, hsz, hP, hK, hD0, hnz⟩ := hv
  have hx := B.exec
  have hb := B.bytes
  have hr := B.returns
  have hts := atoms_spec (ws := wsX8_areTanksToBlend) B.pre
  have hown : s.vm.findClass RX8 = some m.cls := findClass_of_methodNamed B.named
  have hlocks := B.notSynchronized
  subst hsz
  have hD := hD0.self (sz := s.heap.size)
  generalize hAe : va_A ws s.heap.size = A at hD ⊢
  have hA : ∀ q : Nat, s.heap.size ≤ q → A q := fun q h => by rw [← hAe]; exact Or.inr h
  have hS : va_S A s.heap s.heap [] := va_S.rf
  have hsm : sm ρ [] ws ws := sm.rf ws
  have htx : tyx tys tys := tyx.rf tys
  have hin7 : ∀ w ∈ u_ws RX7 TX7 5, w ∈ wsX8_areTanksToBlend := (fun _ h9 => List.mem_cons_of_mem _ ((List.mem_append_right _ h9)))
  have hin8 : ∀ w ∈ u_ws RX8 TX8 15, w ∈ wsX8_areTanksToBlend := (fun _ h9 => List.mem_cons_of_mem _ (List.mem_append_left _ ((List.mem_append_right _ h9))))
  have hl := lv_entry ([.ref h0, .int a1]) (n := 3) (Nat.le_of_ble_eq_true rfl)
  rw [lg_entry_eq]
  generalize (lg_sl ([.ref h0, .int a1]) ++ List.replicate (3 - (lg_sl ([.ref h0, .int a1])).length) Slot.unset).toArray = ls at hl ⊢
  have hl : lv_has ls 3 [(0, .ref h0), (1, .int a1)] := hl
  obtain ⟨k0, la, ta, ba, ra, sn, rd, dr, bl, vd, fb, e0, w0, hle0, hnum, qla, qta, qba, qra, qsn, qrd, qdr, qbl, qvd, qfb⟩ := id X
  obtain ⟨kta, cta, tta, fta, eta, uta, pta⟩ := id qta.q
  refine lv_iload_n hx hb dX8_areTanksToBlend_0 rfl (lv_at hl 1 rfl) ?_
  refine lv_bipush (v := 10) hx hb dX8_areTanksToBlend_1 (by decide) ?_
  refine lv_ishr hx hb dX8_areTanksToBlend_3 ?_
  refine lv_topi (fun z_1 _ => ?_)
  refine lv_if_ne (tgt := 19) hx hb dX8_areTanksToBlend_4 (by decide) (fun c_2 => ?_) (fun c_2 => ?_)
  · refine lv_iconst (v := 0) hx hb dX8_areTanksToBlend_19 (by decide) ?_
    exact W.zret (v := 0) hx hb hr rfl (fun t ht hW => ⟨⟨0, (), rfl, Or.inl rfl, ws, tys, hsm, htx, by rw [ht]; exact hP, va_K.moved hW.alike hK, hD, trivial⟩, hS.F ht⟩) hS.2.2 dX8_areTanksToBlend_20
  refine lv_iload_n hx hb dX8_areTanksToBlend_7 rfl (lv_at hl 1 rfl) ?_
  refine vp_callSi (W.runS (As := [.int a1]) (rest := []) ⟨hx, hb, hml, hown, hts⟩ (s_J6_bitCount l a1) (va_cwS 1 hts gX8_areTanksToBlend_J6_bitCount_0f7a4 rfl rfl rfl (by decide +kernel) ⟨Nat.le_of_ble_eq_true rfl, Nat.le_of_ble_eq_true rfl⟩) ⟨fun a U g mk q => q, fun U hU hW => ⟨rfl, trivial⟩⟩ rfl rfl hl.1 rfl (lv_room (Nat.le_of_ble_eq_true rfl)) dX8_areTanksToBlend_8 ⟨Nat.le_of_ble_eq_true rfl, Nat.le_of_ble_eq_true rfl⟩) (fun r_3 k_4 => ?_)
  refine lv_iconst (v := 1) hx hb dX8_areTanksToBlend_11 (by decide) ?_
  refine lv_iconst (v := 4) hx hb dX8_areTanksToBlend_12 (by decide) ?_
  refine vp_callSi (W.runS (As := [.int r_3, .int 1, .int 4]) (rest := []) ⟨hx, hb, hml, hown, hts⟩ (s_X8_isIn l r_3 1 4) (va_cwS 3 hts gX8_areTanksToBlend_X8_isIn rfl rfl rfl (by decide +kernel) ⟨Nat.le_of_ble_eq_true rfl, Nat.le_of_ble_eq_true rfl⟩) ⟨fun a U g mk q => q, fun U hU hW => ⟨rfl, trivial⟩⟩ rfl rfl hl.1 rfl (lv_room (Nat.le_of_ble_eq_true rfl)) dX8_areTanksToBlend_13 ⟨Nat.le_of_ble_eq_true rfl, Nat.le_of_ble_eq_true rfl⟩) (fun r_5 k_6 => ?_)
  rcases k_6 with ⟨rfl, -⟩ | ⟨rfl, -, -⟩
  · refine lv_if_ne (tgt := 21) hx hb dX8_areTanksToBlend_16 (by decide) (fun c_7 => absurd (by decide) c_7) (fun c_7 => ?_)
    refine lv_iconst (v := 0) hx hb dX8_areTanksToBlend_19 (by decide) ?_
    exact W.zret (v := 0) hx hb hr rfl (fun t ht hW => ⟨⟨0, (), rfl, Or.inl rfl, ws, tys, hsm, htx, by rw [ht]; exact hP, va_K.moved hW.alike hK, hD, trivial⟩, hS.F ht⟩) hS.2.2 dX8_areTanksToBlend_20
  refine lv_if_ne (tgt := 21) hx hb dX8_areTanksToBlend_16 (by decide) (fun c_8 => ?_) (fun c_8 => absurd c_8 (by decide))
  refine lv_iconst (v := 0) hx hb dX8_areTanksToBlend_21 (by decide) ?_
  refine lv_istore_n (lv' := [(2, .int 0), (0, .ref h0), (1, .int a1)]) hx hb dX8_areTanksToBlend_22 rfl hl (by decide) rfl (fun ls hl => ?_)
  refine lp_V (nL := 3) (σ := Nat) (lv := fun x9 => [(2, .int (nI x9)), (1, .int a1), (0, .ref h0)]) (μ := fun x9 => 10 - x9) (J := fun x9 ws9 => sm ρ [] ws ws9 ∧ (x9 ≤ 10)) (fun x9 ws_12 H locs ls hj hP hD hS hl ih_9 => ?_) 0 ws _ _ ls ⟨sm.rf _, (show 0 ≤ 10 from by omega)⟩ hP hD hS (lv_sub hl [0, 2, 1] rfl)
  obtain ⟨i_10, hx9⟩ : ∃ y9, y9 = x9 := ⟨_, rfl⟩
  subst hx9
  replace hj : sm ρ [] ws ws_12 ∧ (i_10 ≤ 10) := hj
  obtain ⟨hm_13, hi_11⟩ := hj
  have e_15 := hm_13.objK e0 (by decide)
  have e_16 := hm_13.arrQ eta
  have hsm := hsm.tr (hm_13.mono (by decide))
  have hlp_14 := hm_13
  have hl : lv_has ls 3 [(2, .int (nI i_10)), (1, .int a1), (0, .ref h0)] := hl
  refine lv_iload_n hx hb dX8_areTanksToBlend_23 rfl (lv_at hl 0 rfl) ?_
  refine lv_aload_n hx hb dX8_areTanksToBlend_24 rfl (lv_at hl 2 rfl) ?_
  refine va_get (D := D) (ci := 8) (v := .ref ta) (C := RX8) (T := TX8) (N := 15) hx hb hts hin8 hown hK hP k0 e_15 rfl 1 (by decide) (hts (.fieldLink RX8 17 "HoneyHouse" "tanks" "[LHoneyHouse$Vessel;") (List.mem_of_getElem? (i := 1) rfl)) (fun _ h9 => h9) rfl dX8_areTanksToBlend_25 ?_
  refine va_alen (v := 10) hx hb hK hP kta tta e_16 uta rfl dX8_areTanksToBlend_28 ?_
  refine lv_icmp_ge (tgt := 69) hx hb dX8_areTanksToBlend_29 (by decide) (fun c_17 => ?_) (fun c_17 => ?_)
  · have d_18 := n_le (a := 10) (b := i_10) (by omega) (by omega) c_17
    refine lv_iconst (v := 1) hx hb dX8_areTanksToBlend_69 (by decide) ?_
    exact W.zret (v := 1) hx hb hr rfl (fun t ht hW => ⟨⟨1, (), rfl, Or.inr rfl, ws_12, tys, hsm, htx, by rw [ht]; exact hP, va_K.moved hW.alike hK, hD, trivial⟩, hS.F ht⟩) hS.2.2 dX8_areTanksToBlend_70
  have d_19 := n_nle (a := 10) (b := i_10) (by omega) (by omega) c_17
  refine lv_iload_n hx hb dX8_areTanksToBlend_32 rfl (lv_at hl 1 rfl) ?_
  refine lv_iload_n hx hb dX8_areTanksToBlend_33 rfl (lv_at hl 0 rfl) ?_
  refine vp_callSi (W.runS (As := [.int a1, .int (nI i_10)]) (rest := []) ⟨hx, hb, hml, hown, hts⟩ (s_X8_hasBit l a1 (nI i_10)) (va_cwS 2 hts gX8_areTanksToBlend_X8_hasBit rfl rfl rfl (by decide +kernel) ⟨Nat.le_of_ble_eq_true rfl, Nat.le_of_ble_eq_true rfl⟩) ⟨fun a U g mk q => q, fun U hU hW => ⟨rfl, trivial⟩⟩ rfl rfl hl.1 rfl (lv_room (Nat.le_of_ble_eq_true rfl)) dX8_areTanksToBlend_34 ⟨Nat.le_of_ble_eq_true rfl, Nat.le_of_ble_eq_true rfl⟩) (fun r_20 k_21 => ?_)
  rcases k_21 with rfl | rfl
  · refine lv_if_eq (tgt := 63) hx hb dX8_areTanksToBlend_37 (by decide) (fun c_22 => ?_) (fun c_22 => absurd (by decide) c_22)
    refine lv_iinc (v := nI (i_10 + 1)) (lv' := [(2, .int (nI (i_10 + 1))), (1, .int a1), (0, .ref h0)]) hx hb dX8_areTanksToBlend_63 hl (k := 0) rfl (nI_add i_10 1) (by decide) rfl (fun ls hl => ?_)
    refine lv_goto (tgt := 23) hx hb dX8_areTanksToBlend_66 (by decide) ?_
    exact ih_9 (i_10 + 1) ws_12 _ _ ls (by show 10 - (i_10 + 1) < 10 - i_10; omega) ⟨hlp_14, (show (i_10 + 1) ≤ 10 from by omega)⟩ hP hD hS (lv_sub hl [0, 1, 2] rfl)
  refine lv_if_eq (tgt := 63) hx hb dX8_areTanksToBlend_37 (by decide) (fun c_23 => absurd c_23 (by decide)) (fun c_23 => ?_)
  refine lv_aload_n hx hb dX8_areTanksToBlend_40 rfl (lv_at hl 2 rfl) ?_
  refine va_get (D := D) (ci := 8) (v := .ref ta) (C := RX8) (T := TX8) (N := 15) hx hb hts hin8 hown hK hP k0 e_15 rfl 1 (by decide) (hts (.fieldLink RX8 17 "HoneyHouse" "tanks" "[LHoneyHouse$Vessel;") (List.mem_of_getElem? (i := 1) rfl)) (fun _ h9 => h9) rfl dX8_areTanksToBlend_41 ?_
  refine lv_iload_n hx hb dX8_areTanksToBlend_44 rfl (lv_at hl 0 rfl) ?_
  refine va_aldq (f := fta) (n := 10) hx hb hK hP kta tta e_16 uta (vp_in_nI (n := i_10) (by omega) (by omega)) dX8_areTanksToBlend_45 ?_
  obtain ⟨r_24, er_25⟩ : ∃ r, r = fta (nI i_10).toNatClampNeg := ⟨_, rfl⟩
  refine tp_v (y := va_rf r_24) (by rw [er_25]) ?_
  have hz_28 : r_24 = none ∨ ∃ v, r_24 = some v ∧ oV ws tys v := by
    rcases r_24 with _ | v
    · exact Or.inl rfl
    · exact Or.inr ⟨v, rfl, pta _ _ er_25.symm⟩
  rcases hz_28 with rfl | ⟨v_26, rfl, hv_27⟩
  · refine tp_v (y := .null) rfl ?_
    refine lv_ifnullN (tgt := 61) hx hb dX8_areTanksToBlend_46 (by decide) ?_
    refine lv_iconst (v := 0) hx hb dX8_areTanksToBlend_61 (by decide) ?_
    exact W.zret (v := 0) hx hb hr rfl (fun t ht hW => ⟨⟨0, (), rfl, Or.inl rfl, ws_12, tys, hsm, htx, by rw [ht]; exact hP, va_K.moved hW.alike hK, hD, trivial⟩, hS.F ht⟩) hS.2.2 dX8_areTanksToBlend_62
  obtain ⟨k_29, g_30, x_31, x_32, x_33, x_34, e_35, k_36, c9_37, t_38, f_39, e_40, u_41⟩ := hv_27.sm hsm htx
  refine tp_v (y := .ref v_26) rfl ?_
  refine lv_ifnull hx hb dX8_areTanksToBlend_46 ?_
  refine lv_aload_n hx hb dX8_areTanksToBlend_49 rfl (lv_at hl 2 rfl) ?_
  refine va_get (D := D) (ci := 8) (v := .ref ta) (C := RX8) (T := TX8) (N := 15) hx hb hts hin8 hown hK hP k0 e_15 rfl 1 (by decide) (hts (.fieldLink RX8 17 "HoneyHouse" "tanks" "[LHoneyHouse$Vessel;") (List.mem_of_getElem? (i := 1) rfl)) (fun _ h9 => h9) rfl dX8_areTanksToBlend_50 ?_
  refine lv_iload_n hx hb dX8_areTanksToBlend_53 rfl (lv_at hl 0 rfl) ?_
  refine va_aldq (f := fta) (n := 10) hx hb hK hP kta tta e_16 uta (vp_in_nI (n := i_10) (by omega) (by omega)) dX8_areTanksToBlend_54 ?_
  refine tp_v (y := .ref v_26) (by rw [← er_25]; rfl) ?_
  refine va_get (D := D) (ci := 7) (v := .int x_31) (C := RX7) (T := TX7) (N := 5) hx hb hts hin7 hown hK hP k_29 e_35 rfl 1 (by decide) (hts (.fieldLink RX8 144 "HoneyHouse$Vessel" "total" "I") (List.mem_of_getElem? (i := 2) rfl)) (fun _ h9 => h9) rfl dX8_areTanksToBlend_55 ?_
  refine lv_if_ne (tgt := 63) hx hb dX8_areTanksToBlend_58 (by decide) (fun c_42 => ?_) (fun c_42 => ?_)
  · refine lv_iinc (v := nI (i_10 + 1)) (lv' := [(2, .int (nI (i_10 + 1))), (1, .int a1), (0, .ref h0)]) hx hb dX8_areTanksToBlend_63 hl (k := 0) rfl (nI_add i_10 1) (by decide) rfl (fun ls hl => ?_)
    refine lv_goto (tgt := 23) hx hb dX8_areTanksToBlend_66 (by decide) ?_
    exact ih_9 (i_10 + 1) ws_12 _ _ ls (by show 10 - (i_10 + 1) < 10 - i_10; omega) ⟨hlp_14, (show (i_10 + 1) ≤ 10 from by omega)⟩ hP hD hS (lv_sub hl [0, 1, 2] rfl)
  refine lv_iconst (v := 0) hx hb dX8_areTanksToBlend_61 (by decide) ?_
  exact W.zret (v := 0) hx hb hr rfl (fun t ht hW => ⟨⟨0, (), rfl, Or.inl rfl, ws_12, tys, hsm, htx, by rw [ht]; exact hP, va_K.moved hW.alike hK, hD, trivial⟩, hS.F ht⟩) hS.2.2 dX8_areTanksToBlend_62
set_option maxHeartbeats 4000000 in
set_option maxRecDepth 100000 in
theorem a_tryWith (l : Launch) (D : va_G) (ρ : Nat → Nat) (ws : va_W) (tys : List (ClassId × FieldType)) (bl kbl b0 b2 b3 b4 b5 b6 b7 : Nat) (b1 b8 b11 b12 b13 : Int32) (b9 : Int32) (pa : Nat) (kb3 : Nat) (cb3 : ClassId) (tb3 : Nat) (fb3 : Nat → Int32) (kb4 : Nat) (cb4 : ClassId) (tb4 : Nat) (fb4 : Nat → Int32) (kb5 : Nat) (cb5 : ClassId) (tb5 : Nat) (fb5 : Nat → Int32) (kb6 : Nat) (cb6 : ClassId) (tb6 : Nat) (fb6 : Nat → Int32) (kb7 : Nat) (cb7 : ClassId) (tb7 : Nat) (fb7 : Nat → Int32) (a b : Nat) (sz : Nat) (hpa : pa ≤ 40) (hab : a + b ≤ pa) (ebl : ws[kbl]? = some (bl, .inr (0, [.ref b0, .int b1, .ref b2, .ref b3, .ref b4, .ref b5, .ref b6, .ref b7, .int b8, .int b9, .int (nI pa), .int b11, .int b12, .int b13]))) (eb3 : ws[kb3]? = some (b3, .inl (cb3, 4, .inl fb3))) (ub3 : tys[tb3]? = some (cb3, .int)) (eb4 : ws[kb4]? = some (b4, .inl (cb4, 4, .inl fb4))) (ub4 : tys[tb4]? = some (cb4, .int)) (eb5 : ws[kb5]? = some (b5, .inl (cb5, 4, .inl fb5))) (ub5 : tys[tb5]? = some (cb5, .int)) (eb6 : ws[kb6]? = some (b6, .inl (cb6, 4, .inl fb6))) (ub6 : tys[tb6]? = some (cb6, .int)) (eb7 : ws[kb7]? = some (b7, .inl (cb7, 4, .inl fb7))) (ub7 : tys[tb7]? = some (cb7, .int)) (w_kbl : ρ kbl = 0) (w_kb7 : ρ kb7 = 0) : Met l yX0_tryWith wsX0_tryWith ({ frames := 1, cells := 0, slots := 0, locals := 40 }) (va_Pc [.ref bl, .int (nI a), .int (nI b)] (fun U => U.heap.size = sz ∧ va_P D vwCl ws U.heap ∧ va_K D vwCl tys U ∧ va_D (fun _ => True) ws)) (va_Qv (fun _ : Unit => True) (fun (_ : Unit) (t : State) => ∃ (ws' : va_W) (tys' : List (ClassId × FieldType)), sm ρ [0] ws ws' ∧ tyx tys tys' ∧ va_P D vwCl ws' t.heap ∧ va_K D vwCl tys' t ∧ va_D (va_A ws sz) ws' ∧ (∃ y9 : Int32, ws'[kbl]? = some (bl, .inr (0, [.ref b0, .int b1, .ref b2, .ref b3, .ref b4, .ref b5, .ref b6, .ref b7, .int b8, .int y9, .int (nI pa), .int b11, .int b12, .int b13])))) (va_A ws sz)) 0 0 (va_A ws sz) := by
  refine Met.ofW (cc := cX0_tryWith) (maxL := 10) (ret := none) (by decide) rfl ?_
  intro p e s m args below meth c s₁ B hml hv
  obtain ⟨rfl, hsz, hP, hK, hD0⟩ := hv
  have hx := B.exec
  have hb := B.bytes
  have hr := B.returns
  have hts := atoms_spec (ws := wsX0_tryWith) B.pre
  have hown : s.vm.findClass RX0 = some m.cls := findClass_of_methodNamed B.named
  have hlocks := B.notSynchronized
  subst hsz
  have hD := hD0.self (sz := s.heap.size)
  generalize hAe : va_A ws s.heap.size = A at hD ⊢
  have hA : ∀ q : Nat, s.heap.size ≤ q → A q := fun q h => by rw [← hAe]; exact Or.inr h
  have hS : va_S A s.heap s.heap [] := va_S.rf
  have hsm : sm ρ [0] ws ws := sm.rf ws
  have htx : tyx tys tys := tyx.rf tys
  have hin0 : ∀ w ∈ u_ws RX0 TX0 14, w ∈ wsX0_tryWith := (fun _ h9 => List.mem_cons_of_mem _ ((List.mem_append_right _ h9)))
  have hl := lv_entry ([.ref bl, .int (nI a), .int (nI b)]) (n := 10) (Nat.le_of_ble_eq_true rfl)
  rw [lg_entry_eq]
  generalize (lg_sl ([.ref bl, .int (nI a), .int (nI b)]) ++ List.replicate (10 - (lg_sl ([.ref bl, .int (nI a), .int (nI b)])).length) Slot.unset).toArray = ls at hl ⊢
  have hl : lv_has ls 10 [(0, .ref bl), (1, .int (nI a)), (2, .int (nI b))] := hl
  refine lv_aload_n hx hb dX0_tryWith_0 rfl (lv_at hl 0 rfl) ?_
  refine va_get (D := D) (ci := 0) (v := .int (nI pa)) (C := RX0) (T := TX0) (N := 14) hx hb hts hin0 hown hK hP kbl ebl rfl 10 (by decide) (hts (.fieldLink RX0 43 "HoneyHouse$Blender" "partsInAll" "I") (List.mem_of_getElem? (i := 1) rfl)) (fun _ h9 => h9) rfl dX0_tryWith_1 ?_
  refine lv_iload_n hx hb dX0_tryWith_4 rfl (lv_at hl 1 rfl) ?_
  refine lv_isub hx hb dX0_tryWith_5 ?_
  refine tp_i (y := nI (pa - a)) (pk_sub (a := pa) (b := a) (by omega)) ?_
  refine lv_iload_n hx hb dX0_tryWith_6 rfl (lv_at hl 2 rfl) ?_
  refine lv_isub hx hb dX0_tryWith_7 ?_
  refine tp_i (y := nI ((pa - a) - b)) (pk_sub (a := pa - a) (b := b) (by omega)) ?_
  refine lv_istore_n (lv' := [(3, .int (nI ((pa - a) - b))), (0, .ref bl), (1, .int (nI a)), (2, .int (nI b))]) hx hb dX0_tryWith_8 rfl hl (by decide) rfl (fun ls hl => ?_)
  refine lv_iload_n hx hb dX0_tryWith_9 rfl (lv_at hl 2 rfl) ?_
  refine lv_aload_n hx hb dX0_tryWith_10 rfl (lv_at hl 1 rfl) ?_
  refine va_get (D := D) (ci := 0) (v := .ref b6) (C := RX0) (T := TX0) (N := 14) hx hb hts hin0 hown hK hP kbl ebl rfl 6 (by decide) (hts (.fieldLink RX0 27 "HoneyHouse$Blender" "prices" "[I") (List.mem_of_getElem? (i := 2) rfl)) (fun _ h9 => h9) rfl dX0_tryWith_11 ?_
  refine lv_iconst (v := 0) hx hb dX0_tryWith_14 (by decide) ?_
  refine va_iald (f := fb6) (n := 4) hx hb hK hP kb6 tb6 eb6 ub6 (vp_in_iff.mpr (by decide)) dX0_tryWith_15 ?_
  refine lv_topi (fun z_1 _ => ?_)
  refine lv_imul hx hb dX0_tryWith_16 ?_
  refine lv_topi (fun z_2 _ => ?_)
  refine lv_iload_n hx hb dX0_tryWith_17 rfl (lv_at hl 3 rfl) ?_
  refine lv_aload_n hx hb dX0_tryWith_18 rfl (lv_at hl 1 rfl) ?_
  refine va_get (D := D) (ci := 0) (v := .ref b6) (C := RX0) (T := TX0) (N := 14) hx hb hts hin0 hown hK hP kbl ebl rfl 6 (by decide) (hts (.fieldLink RX0 27 "HoneyHouse$Blender" "prices" "[I") (List.mem_of_getElem? (i := 2) rfl)) (fun _ h9 => h9) rfl dX0_tryWith_19 ?_
  refine lv_iconst (v := 1) hx hb dX0_tryWith_22 (by decide) ?_
  refine va_iald (f := fb6) (n := 4) hx hb hK hP kb6 tb6 eb6 ub6 (vp_in_iff.mpr (by decide)) dX0_tryWith_23 ?_
  refine lv_topi (fun z_3 _ => ?_)
  refine lv_imul hx hb dX0_tryWith_24 ?_
  refine lv_topi (fun z_4 _ => ?_)
  refine lv_iadd hx hb dX0_tryWith_25 ?_
  refine lv_topi (fun z_5 _ => ?_)
  refine lv_istore (lv' := [(4, .int z_5), (3, .int (nI ((pa - a) - b))), (0, .ref bl), (1, .int (nI a)), (2, .int (nI b))]) hx hb dX0_tryWith_26 hl (by decide) rfl (fun ls hl => ?_)
  refine lv_iload_n hx hb dX0_tryWith_28 rfl (lv_at hl 3 rfl) ?_
  refine lv_aload_n hx hb dX0_tryWith_29 rfl (lv_at hl 2 rfl) ?_
  refine va_get (D := D) (ci := 0) (v := .ref b4) (C := RX0) (T := TX0) (N := 14) hx hb hts hin0 hown hK hP kbl ebl rfl 4 (by decide) (hts (.fieldLink RX0 21 "HoneyHouse$Blender" "waters" "[I") (List.mem_of_getElem? (i := 3) rfl)) (fun _ h9 => h9) rfl dX0_tryWith_30 ?_
  refine lv_iconst (v := 0) hx hb dX0_tryWith_33 (by decide) ?_
  refine va_iald (f := fb4) (n := 4) hx hb hK hP kb4 tb4 eb4 ub4 (vp_in_iff.mpr (by decide)) dX0_tryWith_34 ?_
  refine lv_topi (fun z_6 _ => ?_)
  refine lv_imul hx hb dX0_tryWith_35 ?_
  refine lv_topi (fun z_7 _ => ?_)
  refine lv_iload_n hx hb dX0_tryWith_36 rfl (lv_at hl 4 rfl) ?_
  refine lv_aload_n hx hb dX0_tryWith_37 rfl (lv_at hl 2 rfl) ?_
  refine va_get (D := D) (ci := 0) (v := .ref b4) (C := RX0) (T := TX0) (N := 14) hx hb hts hin0 hown hK hP kbl ebl rfl 4 (by decide) (hts (.fieldLink RX0 21 "HoneyHouse$Blender" "waters" "[I") (List.mem_of_getElem? (i := 3) rfl)) (fun _ h9 => h9) rfl dX0_tryWith_38 ?_
  refine lv_iconst (v := 1) hx hb dX0_tryWith_41 (by decide) ?_
  refine va_iald (f := fb4) (n := 4) hx hb hK hP kb4 tb4 eb4 ub4 (vp_in_iff.mpr (by decide)) dX0_tryWith_42 ?_
  refine lv_topi (fun z_8 _ => ?_)
  refine lv_imul hx hb dX0_tryWith_43 ?_
  refine lv_topi (fun z_9 _ => ?_)
  refine lv_iadd hx hb dX0_tryWith_44 ?_
  refine lv_topi (fun z_10 _ => ?_)
  refine lv_istore (lv' := [(5, .int z_10), (4, .int z_5), (3, .int (nI ((pa - a) - b))), (0, .ref bl), (1, .int (nI a)), (2, .int (nI b))]) hx hb dX0_tryWith_45 hl (by decide) rfl (fun ls hl => ?_)
  refine lv_iload_n hx hb dX0_tryWith_47 rfl (lv_at hl 4 rfl) ?_
  refine lv_aload_n hx hb dX0_tryWith_48 rfl (lv_at hl 3 rfl) ?_
  refine va_get (D := D) (ci := 0) (v := .ref b5) (C := RX0) (T := TX0) (N := 14) hx hb hts hin0 hown hK hP kbl ebl rfl 5 (by decide) (hts (.fieldLink RX0 24 "HoneyHouse$Blender" "colours" "[I") (List.mem_of_getElem? (i := 4) rfl)) (fun _ h9 => h9) rfl dX0_tryWith_49 ?_
  refine lv_iconst (v := 0) hx hb dX0_tryWith_52 (by decide) ?_
  refine va_iald (f := fb5) (n := 4) hx hb hK hP kb5 tb5 eb5 ub5 (vp_in_iff.mpr (by decide)) dX0_tryWith_53 ?_
  refine lv_topi (fun z_11 _ => ?_)
  refine lv_imul hx hb dX0_tryWith_54 ?_
  refine lv_topi (fun z_12 _ => ?_)
  refine lv_iload_n hx hb dX0_tryWith_55 rfl (lv_at hl 5 rfl) ?_
  refine lv_aload_n hx hb dX0_tryWith_56 rfl (lv_at hl 3 rfl) ?_
  refine va_get (D := D) (ci := 0) (v := .ref b5) (C := RX0) (T := TX0) (N := 14) hx hb hts hin0 hown hK hP kbl ebl rfl 5 (by decide) (hts (.fieldLink RX0 24 "HoneyHouse$Blender" "colours" "[I") (List.mem_of_getElem? (i := 4) rfl)) (fun _ h9 => h9) rfl dX0_tryWith_57 ?_
  refine lv_iconst (v := 1) hx hb dX0_tryWith_60 (by decide) ?_
  refine va_iald (f := fb5) (n := 4) hx hb hK hP kb5 tb5 eb5 ub5 (vp_in_iff.mpr (by decide)) dX0_tryWith_61 ?_
  refine lv_topi (fun z_13 _ => ?_)
  refine lv_imul hx hb dX0_tryWith_62 ?_
  refine lv_topi (fun z_14 _ => ?_)
  refine lv_iadd hx hb dX0_tryWith_63 ?_
  refine lv_topi (fun z_15 _ => ?_)
  refine lv_istore (lv' := [(6, .int z_15), (5, .int z_10), (4, .int z_5), (3, .int (nI ((pa - a) - b))), (0, .ref bl), (1, .int (nI a)), (2, .int (nI b))]) hx hb dX0_tryWith_64 hl (by decide) rfl (fun ls hl => ?_)
  refine lv_iconst (v := 0) hx hb dX0_tryWith_66 (by decide) ?_
  refine lv_iload_n hx hb dX0_tryWith_67 rfl (lv_at hl 3 rfl) ?_
  refine lv_aload_n hx hb dX0_tryWith_68 rfl (lv_at hl 4 rfl) ?_
  refine va_get (D := D) (ci := 0) (v := .ref b3) (C := RX0) (T := TX0) (N := 14) hx hb hts hin0 hown hK hP kbl ebl rfl 3 (by decide) (hts (.fieldLink RX0 18 "HoneyHouse$Blender" "mostParts" "[I") (List.mem_of_getElem? (i := 5) rfl)) (fun _ h9 => h9) rfl dX0_tryWith_69 ?_
  refine lv_iconst (v := 3) hx hb dX0_tryWith_72 (by decide) ?_
  refine va_iald (f := fb3) (n := 4) hx hb hK hP kb3 tb3 eb3 ub3 (vp_in_iff.mpr (by decide)) dX0_tryWith_73 ?_
  refine lv_topi (fun z_16 _ => ?_)
  refine lv_isub hx hb dX0_tryWith_74 ?_
  refine lv_topi (fun z_17 _ => ?_)
  refine va_mmax hx hb (by rw [hml]; exact hl.1.symm) hown (hts (.methodLink RX0 71 Lib.Math.max.name) (List.mem_of_getElem? (i := 6) rfl)) (hts (.static Lib.Math.max.name) (List.mem_of_getElem? (i := 7) rfl)) (hts (.initialized "java/lang/Math") (List.mem_of_getElem? (i := 8) rfl)) (hts (.code Lib.Math.max.name Lib.Math.max.code 2 (some .int)) (List.mem_of_getElem? (i := 9) rfl)) (Nat.le_of_ble_eq_true rfl) (Nat.le_of_ble_eq_true rfl) (Nat.le_of_ble_eq_true rfl) (Nat.le_of_ble_eq_true rfl) dX0_tryWith_75 ?_
  refine lv_topi (fun z_18 hz_19 => ?_)
  obtain ⟨n_20, hn_21, rfl⟩ := mx_0 hz_19 rfl
  refine lv_istore (lv' := [(7, .int (nI n_20)), (6, .int z_15), (5, .int z_10), (4, .int z_5), (3, .int (nI ((pa - a) - b))), (0, .ref bl), (1, .int (nI a)), (2, .int (nI b))]) hx hb dX0_tryWith_78 hl (by decide) rfl (fun ls hl => ?_)
  refine lp_V (nL := 10) (σ := Nat × Int32) (lv := fun x9 => [(7, .int (nI x9.1)), (6, .int z_15), (5, .int z_10), (4, .int z_5), (3, .int (nI ((pa - a) - b))), (2, .int (nI b)), (1, .int (nI a)), (0, .ref bl)]) (μ := fun x9 => pa + 1 - x9.1) (J := fun x9 ws9 => sm ρ [0] ws ws9 ∧ (ws9[kbl]? = some (bl, .inr (0, [.ref b0, .int b1, .ref b2, .ref b3, .ref b4, .ref b5, .ref b6, .ref b7, .int b8, .int x9.2, .int (nI pa), .int b11, .int b12, .int b13]))) ∧ (x9.1 < 2 ^ 31)) (fun x9 ws_26 H locs ls hj hP hD hS hl ih_22 => ?_) (n_20, b9) ws _ _ ls ⟨sm.rf _, ebl, (show n_20 < 2 ^ 31 from by omega)⟩ hP hD hS (lv_sub hl [0, 1, 2, 3, 4, 7, 6, 5] rfl)
  obtain ⟨c9_23, y9_24⟩ := x9
  replace hj : sm ρ [0] ws ws_26 ∧ (ws_26[kbl]? = some (bl, .inr (0, [.ref b0, .int b1, .ref b2, .ref b3, .ref b4, .ref b5, .ref b6, .ref b7, .int b8, .int y9_24, .int (nI pa), .int b11, .int b12, .int b13]))) ∧ (c9_23 < 2 ^ 31) := hj
  obtain ⟨hm_27, e_29, hc_25⟩ := hj
  obtain ⟨g_31, e_30, h_32⟩ := hm_27.obj ebl
  obtain ⟨z_33, z_34, z_35, z_36, z_37, z_38, z_39, rfl⟩ := smX0 h_32
  obtain ⟨f_41, e_40⟩ := hm_27.arrI eb3
  obtain ⟨f_43, e_42⟩ := hm_27.arrI eb4
  obtain ⟨f_45, e_44⟩ := hm_27.arrI eb5
  obtain ⟨f_47, e_46⟩ := hm_27.arrI eb6
  obtain ⟨f_49, e_48⟩ := hm_27.arrI eb7
  have hsm := hsm.tr (hm_27.mono (by decide))
  have hlp_28 := hm_27
  have hl : lv_has ls 10 [(7, .int (nI c9_23)), (6, .int z_15), (5, .int z_10), (4, .int z_5), (3, .int (nI ((pa - a) - b))), (2, .int (nI b)), (1, .int (nI a)), (0, .ref bl)] := hl
  refine lv_iload hx hb dX0_tryWith_80 (lv_at hl 0 rfl) ?_
  refine lv_aload_n hx hb dX0_tryWith_82 rfl (lv_at hl 7 rfl) ?_
  refine va_get (D := D) (ci := 0) (v := .ref b3) (C := RX0) (T := TX0) (N := 14) hx hb hts hin0 hown hK hP kbl e_29 rfl 3 (by decide) (hts (.fieldLink RX0 18 "HoneyHouse$Blender" "mostParts" "[I") (List.mem_of_getElem? (i := 5) rfl)) (fun _ h9 => h9) rfl dX0_tryWith_83 ?_
  refine lv_iconst (v := 2) hx hb dX0_tryWith_86 (by decide) ?_
  refine va_iald (f := f_41) (n := 4) hx hb hK hP kb3 tb3 e_40 ub3 (vp_in_iff.mpr (by decide)) dX0_tryWith_87 ?_
  refine lv_topi (fun z_50 _ => ?_)
  refine lv_iload_n hx hb dX0_tryWith_88 rfl (lv_at hl 4 rfl) ?_
  refine va_mmin hx hb (by rw [hml]; exact hl.1.symm) hown (hts (.methodLink RX0 58 Lib.Math.min.name) (List.mem_of_getElem? (i := 10) rfl)) (hts (.static Lib.Math.min.name) (List.mem_of_getElem? (i := 11) rfl)) (hts (.initialized "java/lang/Math") (List.mem_of_getElem? (i := 8) rfl)) (hts (.code Lib.Math.min.name Lib.Math.min.code 2 (some .int)) (List.mem_of_getElem? (i := 12) rfl)) (Nat.le_of_ble_eq_true rfl) (Nat.le_of_ble_eq_true rfl) (Nat.le_of_ble_eq_true rfl) (Nat.le_of_ble_eq_true rfl) dX0_tryWith_89 ?_
  refine lv_topi (fun z_51 hz_52 => ?_)
  refine lv_icmp_gt (tgt := 236) hx hb dX0_tryWith_92 (by decide) (fun c_53 => ?_) (fun c_53 => ?_)
  · exact W.vret hx hb hr (fun t ht hW => ⟨⟨(), rfl, trivial, ws_26, tys, hsm, htx, by rw [ht]; exact hP, va_K.moved hW.alike hK, hD, ⟨y9_24, e_29⟩⟩, hS.F ht⟩) hS.2.2 dX0_tryWith_236
  have hle := mn_le (a := c9_23) (p := (pa - a) - b) hz_52 rfl (by omega) (by omega) c_53
  refine lv_iload_n hx hb dX0_tryWith_95 rfl (lv_at hl 4 rfl) ?_
  refine lv_iload hx hb dX0_tryWith_96 (lv_at hl 0 rfl) ?_
  refine lv_isub hx hb dX0_tryWith_98 ?_
  refine tp_i (y := nI (((pa - a) - b) - c9_23)) (pk_sub (a := (pa - a) - b) (b := c9_23) (by omega)) ?_
  refine lv_istore (lv' := [(8, .int (nI (((pa - a) - b) - c9_23))), (7, .int (nI c9_23)), (6, .int z_15), (5, .int z_10), (4, .int z_5), (3, .int (nI ((pa - a) - b))), (2, .int (nI b)), (1, .int (nI a)), (0, .ref bl)]) hx hb dX0_tryWith_99 hl (by decide) rfl (fun ls hl => ?_)
  refine lv_iload hx hb dX0_tryWith_101 (lv_at hl 4 rfl) ?_
  refine lv_iload hx hb dX0_tryWith_103 (lv_at hl 1 rfl) ?_
  refine lv_aload_n hx hb dX0_tryWith_105 rfl (lv_at hl 8 rfl) ?_
  refine va_get (D := D) (ci := 0) (v := .ref b6) (C := RX0) (T := TX0) (N := 14) hx hb hts hin0 hown hK hP kbl e_29 rfl 6 (by decide) (hts (.fieldLink RX0 27 "HoneyHouse$Blender" "prices" "[I") (List.mem_of_getElem? (i := 2) rfl)) (fun _ h9 => h9) rfl dX0_tryWith_106 ?_
  refine lv_iconst (v := 2) hx hb dX0_tryWith_109 (by decide) ?_
  refine va_iald (f := f_47) (n := 4) hx hb hK hP kb6 tb6 e_46 ub6 (vp_in_iff.mpr (by decide)) dX0_tryWith_110 ?_
  refine lv_topi (fun z_54 _ => ?_)
  refine lv_imul hx hb dX0_tryWith_111 ?_
  refine lv_topi (fun z_55 _ => ?_)
  refine lv_iadd hx hb dX0_tryWith_112 ?_
  refine lv_topi (fun z_56 _ => ?_)
  refine lv_iload hx hb dX0_tryWith_113 (lv_at hl 0 rfl) ?_
  refine lv_aload_n hx hb dX0_tryWith_115 rfl (lv_at hl 8 rfl) ?_
  refine va_get (D := D) (ci := 0) (v := .ref b6) (C := RX0) (T := TX0) (N := 14) hx hb hts hin0 hown hK hP kbl e_29 rfl 6 (by decide) (hts (.fieldLink RX0 27 "HoneyHouse$Blender" "prices" "[I") (List.mem_of_getElem? (i := 2) rfl)) (fun _ h9 => h9) rfl dX0_tryWith_116 ?_
  refine lv_iconst (v := 3) hx hb dX0_tryWith_119 (by decide) ?_
  refine va_iald (f := f_47) (n := 4) hx hb hK hP kb6 tb6 e_46 ub6 (vp_in_iff.mpr (by decide)) dX0_tryWith_120 ?_
  refine lv_topi (fun z_57 _ => ?_)
  refine lv_imul hx hb dX0_tryWith_121 ?_
  refine lv_topi (fun z_58 _ => ?_)
  refine lv_iadd hx hb dX0_tryWith_122 ?_
  refine lv_topi (fun z_59 _ => ?_)
  refine lv_istore (lv' := [(9, .int z_59), (8, .int (nI (((pa - a) - b) - c9_23))), (7, .int (nI c9_23)), (6, .int z_15), (5, .int z_10), (4, .int z_5), (3, .int (nI ((pa - a) - b))), (2, .int (nI b)), (1, .int (nI a)), (0, .ref bl)]) hx hb dX0_tryWith_123 hl (by decide) rfl (fun ls hl => ?_)
  refine lv_aload_n hx hb dX0_tryWith_125 rfl (lv_at hl 9 rfl) ?_
  refine va_get (D := D) (ci := 0) (v := .int y9_24) (C := RX0) (T := TX0) (N := 14) hx hb hts hin0 hown hK hP kbl e_29 rfl 9 (by decide) (hts (.fieldLink RX0 55 "HoneyHouse$Blender" "bestPrice" "I") (List.mem_of_getElem? (i := 13) rfl)) (fun _ h9 => h9) rfl dX0_tryWith_126 ?_
  refine lv_bipush (v := (-2)) hx hb dX0_tryWith_129 (by decide) ?_
  refine lv_icmp_eq (tgt := 143) hx hb dX0_tryWith_131 (by decide) (fun c_60 => ?_) (fun c_60 => ?_)
  · refine lv_aload_n hx hb dX0_tryWith_143 rfl (lv_at hl 9 rfl) ?_
    refine lv_iload hx hb dX0_tryWith_144 (lv_at hl 4 rfl) ?_
    refine lv_iload hx hb dX0_tryWith_146 (lv_at hl 2 rfl) ?_
    refine lv_aload_n hx hb dX0_tryWith_148 rfl (lv_at hl 9 rfl) ?_
    refine va_get (D := D) (ci := 0) (v := .ref b4) (C := RX0) (T := TX0) (N := 14) hx hb hts hin0 hown hK hP kbl e_29 rfl 4 (by decide) (hts (.fieldLink RX0 21 "HoneyHouse$Blender" "waters" "[I") (List.mem_of_getElem? (i := 3) rfl)) (fun _ h9 => h9) rfl dX0_tryWith_149 ?_
    refine lv_iconst (v := 2) hx hb dX0_tryWith_152 (by decide) ?_
    refine va_iald (f := f_43) (n := 4) hx hb hK hP kb4 tb4 e_42 ub4 (vp_in_iff.mpr (by decide)) dX0_tryWith_153 ?_
    refine lv_topi (fun z_61 _ => ?_)
    refine lv_imul hx hb dX0_tryWith_154 ?_
    refine lv_topi (fun z_62 _ => ?_)
    refine lv_iadd hx hb dX0_tryWith_155 ?_
    refine lv_topi (fun z_63 _ => ?_)
    refine lv_iload hx hb dX0_tryWith_156 (lv_at hl 1 rfl) ?_
    refine lv_aload_n hx hb dX0_tryWith_158 rfl (lv_at hl 9 rfl) ?_
    refine va_get (D := D) (ci := 0) (v := .ref b4) (C := RX0) (T := TX0) (N := 14) hx hb hts hin0 hown hK hP kbl e_29 rfl 4 (by decide) (hts (.fieldLink RX0 21 "HoneyHouse$Blender" "waters" "[I") (List.mem_of_getElem? (i := 3) rfl)) (fun _ h9 => h9) rfl dX0_tryWith_159 ?_
    refine lv_iconst (v := 3) hx hb dX0_tryWith_162 (by decide) ?_
    refine va_iald (f := f_43) (n := 4) hx hb hK hP kb4 tb4 e_42 ub4 (vp_in_iff.mpr (by decide)) dX0_tryWith_163 ?_
    refine lv_topi (fun z_64 _ => ?_)
    refine lv_imul hx hb dX0_tryWith_164 ?_
    refine lv_topi (fun z_65 _ => ?_)
    refine lv_iadd hx hb dX0_tryWith_165 ?_
    refine lv_topi (fun z_66 _ => ?_)
    refine lv_iload hx hb dX0_tryWith_166 (lv_at hl 3 rfl) ?_
    refine lv_iload hx hb dX0_tryWith_168 (lv_at hl 2 rfl) ?_
    refine lv_aload_n hx hb dX0_tryWith_170 rfl (lv_at hl 9 rfl) ?_
    refine va_get (D := D) (ci := 0) (v := .ref b5) (C := RX0) (T := TX0) (N := 14) hx hb hts hin0 hown hK hP kbl e_29 rfl 5 (by decide) (hts (.fieldLink RX0 24 "HoneyHouse$Blender" "colours" "[I") (List.mem_of_getElem? (i := 4) rfl)) (fun _ h9 => h9) rfl dX0_tryWith_171 ?_
    refine lv_iconst (v := 2) hx hb dX0_tryWith_174 (by decide) ?_
    refine va_iald (f := f_45) (n := 4) hx hb hK hP kb5 tb5 e_44 ub5 (vp_in_iff.mpr (by decide)) dX0_tryWith_175 ?_
    refine lv_topi (fun z_67 _ => ?_)
    refine lv_imul hx hb dX0_tryWith_176 ?_
    refine lv_topi (fun z_68 _ => ?_)
    refine lv_iadd hx hb dX0_tryWith_177 ?_
    refine lv_topi (fun z_69 _ => ?_)
    refine lv_iload hx hb dX0_tryWith_178 (lv_at hl 1 rfl) ?_
    refine lv_aload_n hx hb dX0_tryWith_180 rfl (lv_at hl 9 rfl) ?_
    refine va_get (D := D) (ci := 0) (v := .ref b5) (C := RX0) (T := TX0) (N := 14) hx hb hts hin0 hown hK hP kbl e_29 rfl 5 (by decide) (hts (.fieldLink RX0 24 "HoneyHouse$Blender" "colours" "[I") (List.mem_of_getElem? (i := 4) rfl)) (fun _ h9 => h9) rfl dX0_tryWith_181 ?_
    refine lv_iconst (v := 3) hx hb dX0_tryWith_184 (by decide) ?_
    refine va_iald (f := f_45) (n := 4) hx hb hK hP kb5 tb5 e_44 ub5 (vp_in_iff.mpr (by decide)) dX0_tryWith_185 ?_
    refine lv_topi (fun z_70 _ => ?_)
    refine lv_imul hx hb dX0_tryWith_186 ?_
    refine lv_topi (fun z_71 _ => ?_)
    refine lv_iadd hx hb dX0_tryWith_187 ?_
    refine lv_topi (fun z_72 _ => ?_)
    refine vp_callSi (W.runV (As := [.int z_66, .int z_72]) (rest := []) ⟨hx, hb, hml, hown, hts⟩ (s_isWithin l D ws_26 tys bl kbl b0 b2 b3 b4 b5 b6 b7 b1 b8 y9_24 (nI pa) b11 b12 b13 z_66 z_72 e_29) (cwV 2 hts gX0_tryWith_X0_isWithin rfl rfl rfl (by decide +kernel) ⟨Nat.le_of_ble_eq_true rfl, Nat.le_of_ble_eq_true rfl⟩) ⟨fun a U g mk q => ⟨q.1, q.2.1, va_K.moved (u := U) (U := U.calling g mk a) (Vm.Alike.refl U.vm) q.2.2⟩, va_recv hK hP (ci := 0) (q0 := kbl) rfl e_29, fun U hU hW => ⟨rfl, by rw [hU]; exact hP, va_K.moved hW.alike hK⟩⟩ rfl rfl hl.1 rfl (lv_room (Nat.le_of_ble_eq_true rfl)) dX0_tryWith_188 ⟨Nat.le_of_ble_eq_true rfl, Nat.le_of_ble_eq_true rfl⟩) (fun r_73 k_74 => ?_)
    rcases k_74 with rfl | rfl
    · refine lv_if_eq (tgt := 230) hx hb dX0_tryWith_191 (by decide) (fun c_75 => ?_) (fun c_75 => absurd (by decide) c_75)
      refine lv_iinc (v := nI (c9_23 + 1)) (lv' := [(7, .int (nI (c9_23 + 1))), (9, .int z_59), (8, .int (nI (((pa - a) - b) - c9_23))), (6, .int z_15), (5, .int z_10), (4, .int z_5), (3, .int (nI ((pa - a) - b))), (2, .int (nI b)), (1, .int (nI a)), (0, .ref bl)]) hx hb dX0_tryWith_230 hl (k := 2) rfl (nI_add c9_23 1) (by decide) rfl (fun ls hl => ?_)
      refine lv_goto (tgt := 80) hx hb dX0_tryWith_233 (by decide) ?_
      exact ih_22 (c9_23 + 1, y9_24) ws_26 _ _ ls (by show pa + 1 - (c9_23 + 1) < pa + 1 - c9_23; omega) ⟨hlp_28, e_29, (show (c9_23 + 1) < 2 ^ 31 from by omega)⟩ hP hD hS (lv_sub hl [0, 3, 4, 5, 6, 7, 8, 9] rfl)
    refine lv_if_eq (tgt := 230) hx hb dX0_tryWith_191 (by decide) (fun c_76 => absurd c_76 (by decide)) (fun c_76 => ?_)
    refine lv_aload_n hx hb dX0_tryWith_194 rfl (lv_at hl 9 rfl) ?_
    refine lv_iload hx hb dX0_tryWith_195 (lv_at hl 0 rfl) ?_
    refine va_put (D := D) (ci := 0) (v := .int z_59) (ty := .int) (C := RX0) (T := TX0) (N := 14) hx hb hts hin0 tyX0 tyX0_ok nmX0 hown hK hP hD hS kbl e_29 rfl 9 (by decide) (hts (.fieldLink RX0 55 "HoneyHouse$Blender" "bestPrice" "I") (List.mem_of_getElem? (i := 13) rfl)) (fun _ h9 => h9) rfl (tyX0_ok 9 (by decide)) rfl rfl (Nat.le_of_ble_eq_true rfl) dX0_tryWith_197 (fun H locs hP hD hS => ?_)
    have hP : va_P D vwCl (ws_26.set kbl (bl, .inr (0, [.ref b0, .int b1, .ref b2, .ref b3, .ref b4, .ref b5, .ref b6, .ref b7, .int b8, .int z_59, .int (nI pa), .int b11, .int b12, .int b13]))) H := hP
    have hD : va_D A (ws_26.set kbl (bl, .inr (0, [.ref b0, .int b1, .ref b2, .ref b3, .ref b4, .ref b5, .ref b6, .ref b7, .int b8, .int z_59, .int (nI pa), .int b11, .int b12, .int b13]))) := hD
    have hm_78 : sm ρ [0] ws_26 (ws_26.set kbl (bl, .inr (0, [.ref b0, .int b1, .ref b2, .ref b3, .ref b4, .ref b5, .ref b6, .ref b7, .int b8, .int z_59, .int (nI pa), .int b11, .int b12, .int b13]))) := sm.flds e_29 (smF.c (smV.rf _) (smF.c (smV.rf _) (smF.c (smV.rf _) (smF.c (smV.rf _) (smF.c (smV.rf _) (smF.c (smV.rf _) (smF.c (smV.rf _) (smF.c (smV.rf _) (smF.c (smV.rf _) (smF.c (smV.i _ _) (smF.c (smV.rf _) (smF.c (smV.rf _) (smF.c (smV.rf _) (smF.c (smV.rf _) (rfl))))))))))))))) (List.mem_singleton.mpr rfl) w_kbl
    have e_79 : (ws_26.set kbl (bl, .inr (0, [.ref b0, .int b1, .ref b2, .ref b3, .ref b4, .ref b5, .ref b6, .ref b7, .int b8, .int z_59, .int (nI pa), .int b11, .int b12, .int b13])))[kbl]? = some (bl, .inr (0, [.ref b0, .int b1, .ref b2, .ref b3, .ref b4, .ref b5, .ref b6, .ref b7, .int b8, .int z_59, .int (nI pa), .int b11, .int b12, .int b13])) := wset_self e_29
    generalize ws_26.set kbl (bl, .inr (0, [.ref b0, .int b1, .ref b2, .ref b3, .ref b4, .ref b5, .ref b6, .ref b7, .int b8, .int z_59, .int (nI pa), .int b11, .int b12, .int b13])) = ws_77 at hP hD hm_78 e_79
    obtain ⟨f_81, e_80⟩ := hm_78.arrI e_40
    obtain ⟨f_83, e_82⟩ := hm_78.arrI e_42
    obtain ⟨f_85, e_84⟩ := hm_78.arrI e_44
    obtain ⟨f_87, e_86⟩ := hm_78.arrI e_46
    obtain ⟨f_89, e_88⟩ := hm_78.arrI e_48
    have hsm := hsm.tr (hm_78.mono (by decide))
    have hlp_28 := hlp_28.tr (hm_78.mono (by decide))
    refine lv_aload_n hx hb dX0_tryWith_200 rfl (lv_at hl 9 rfl) ?_
    refine va_get (D := D) (ci := 0) (v := .ref b7) (C := RX0) (T := TX0) (N := 14) hx hb hts hin0 hown hK hP kbl e_79 rfl 7 (by decide) (hts (.fieldLink RX0 30 "HoneyHouse$Blender" "best" "[I") (List.mem_of_getElem? (i := 14) rfl)) (fun _ h9 => h9) rfl dX0_tryWith_201 ?_
    refine lv_iconst (v := 0) hx hb dX0_tryWith_204 (by decide) ?_
    refine lv_iload_n hx hb dX0_tryWith_205 rfl (lv_at hl 8 rfl) ?_
    refine va_iast (f := f_89) (n := 4) hx hb hK hP hD hS kb7 tb7 e_88 ub7 (vp_in_iff.mpr (by decide)) dX0_tryWith_206 (fun H locs hP hD hS => ?_)
    have hm_91 : sm ρ [] ws_77 (ws_77.set kb7 (b7, .inl (cb7, 4, .inl (upd f_89 (0 : Int32).toNatClampNeg (nI a))))) := sm.ints e_88 w_kb7
    have e_92 : (ws_77.set kb7 (b7, .inl (cb7, 4, .inl (upd f_89 (0 : Int32).toNatClampNeg (nI a)))))[kb7]? = some (b7, .inl (cb7, 4, .inl (upd f_89 (0 : Int32).toNatClampNeg (nI a)))) := wset_self e_88
    generalize ws_77.set kb7 (b7, .inl (cb7, 4, .inl (upd f_89 (0 : Int32).toNatClampNeg (nI a)))) = ws_90 at hP hD hm_91 e_92
    have e_93 := hm_91.objK e_79 (by decide)
    obtain ⟨f_95, e_94⟩ := hm_91.arrI e_80
    obtain ⟨f_97, e_96⟩ := hm_91.arrI e_82
    obtain ⟨f_99, e_98⟩ := hm_91.arrI e_84
    obtain ⟨f_101, e_100⟩ := hm_91.arrI e_86
    have hsm := hsm.tr (hm_91.mono (fun _ h9 => absurd h9 List.not_mem_nil))
    have hlp_28 := hlp_28.tr (hm_91.mono (fun _ h9 => absurd h9 List.not_mem_nil))
    generalize upd f_89 (0 : Int32).toNatClampNeg (nI a) = f_102 at e_92
    refine lv_aload_n hx hb dX0_tryWith_207 rfl (lv_at hl 9 rfl) ?_
    refine va_get (D := D) (ci := 0) (v := .ref b7) (C := RX0) (T := TX0) (N := 14) hx hb hts hin0 hown hK hP kbl e_93 rfl 7 (by decide) (hts (.fieldLink RX0 30 "HoneyHouse$Blender" "best" "[I") (List.mem_of_getElem? (i := 14) rfl)) (fun _ h9 => h9) rfl dX0_tryWith_208 ?_
    refine lv_iconst (v := 1) hx hb dX0_tryWith_211 (by decide) ?_
    refine lv_iload_n hx hb dX0_tryWith_212 rfl (lv_at hl 7 rfl) ?_
    refine va_iast (f := f_102) (n := 4) hx hb hK hP hD hS kb7 tb7 e_92 ub7 (vp_in_iff.mpr (by decide)) dX0_tryWith_213 (fun H locs hP hD hS => ?_)
    have hm_104 : sm ρ [] ws_90 (ws_90.set kb7 (b7, .inl (cb7, 4, .inl (upd f_102 (1 : Int32).toNatClampNeg (nI b))))) := sm.ints e_92 w_kb7
    have e_105 : (ws_90.set kb7 (b7, .inl (cb7, 4, .inl (upd f_102 (1 : Int32).toNatClampNeg (nI b)))))[kb7]? = some (b7, .inl (cb7, 4, .inl (upd f_102 (1 : Int32).toNatClampNeg (nI b)))) := wset_self e_92
    generalize ws_90.set kb7 (b7, .inl (cb7, 4, .inl (upd f_102 (1 : Int32).toNatClampNeg (nI b)))) = ws_103 at hP hD hm_104 e_105
    have e_106 := hm_104.objK e_93 (by decide)
    obtain ⟨f_108, e_107⟩ := hm_104.arrI e_94
    obtain ⟨f_110, e_109⟩ := hm_104.arrI e_96
    obtain ⟨f_112, e_111⟩ := hm_104.arrI e_98
    obtain ⟨f_114, e_113⟩ := hm_104.arrI e_100
    have hsm := hsm.tr (hm_104.mono (fun _ h9 => absurd h9 List.not_mem_nil))
    have hlp_28 := hlp_28.tr (hm_104.mono (fun _ h9 => absurd h9 List.not_mem_nil))
    generalize upd f_102 (1 : Int32).toNatClampNeg (nI b) = f_115 at e_105
    refine lv_aload_n hx hb dX0_tryWith_214 rfl (lv_at hl 9 rfl) ?_
    refine va_get (D := D) (ci := 0) (v := .ref b7) (C := RX0) (T := TX0) (N := 14) hx hb hts hin0 hown hK hP kbl e_106 rfl 7 (by decide) (hts (.fieldLink RX0 30 "HoneyHouse$Blender" "best" "[I") (List.mem_of_getElem? (i := 14) rfl)) (fun _ h9 => h9) rfl dX0_tryWith_215 ?_
    refine lv_iconst (v := 2) hx hb dX0_tryWith_218 (by decide) ?_
    refine lv_iload hx hb dX0_tryWith_219 (lv_at hl 2 rfl) ?_
    refine va_iast (f := f_115) (n := 4) hx hb hK hP hD hS kb7 tb7 e_105 ub7 (vp_in_iff.mpr (by decide)) dX0_tryWith_221 (fun H locs hP hD hS => ?_)
    have hm_117 : sm ρ [] ws_103 (ws_103.set kb7 (b7, .inl (cb7, 4, .inl (upd f_115 (2 : Int32).toNatClampNeg (nI c9_23))))) := sm.ints e_105 w_kb7
    have e_118 : (ws_103.set kb7 (b7, .inl (cb7, 4, .inl (upd f_115 (2 : Int32).toNatClampNeg (nI c9_23)))))[kb7]? = some (b7, .inl (cb7, 4, .inl (upd f_115 (2 : Int32).toNatClampNeg (nI c9_23)))) := wset_self e_105
    generalize ws_103.set kb7 (b7, .inl (cb7, 4, .inl (upd f_115 (2 : Int32).toNatClampNeg (nI c9_23)))) = ws_116 at hP hD hm_117 e_118
    have e_119 := hm_117.objK e_106 (by decide)
    obtain ⟨f_121, e_120⟩ := hm_117.arrI e_107
    obtain ⟨f_123, e_122⟩ := hm_117.arrI e_109
    obtain ⟨f_125, e_124⟩ := hm_117.arrI e_111
    obtain ⟨f_127, e_126⟩ := hm_117.arrI e_113
    have hsm := hsm.tr (hm_117.mono (fun _ h9 => absurd h9 List.not_mem_nil))
    have hlp_28 := hlp_28.tr (hm_117.mono (fun _ h9 => absurd h9 List.not_mem_nil))
    generalize upd f_115 (2 : Int32).toNatClampNeg (nI c9_23) = f_128 at e_118
    refine lv_aload_n hx hb dX0_tryWith_222 rfl (lv_at hl 9 rfl) ?_
    refine va_get (D := D) (ci := 0) (v := .ref b7) (C := RX0) (T := TX0) (N := 14) hx hb hts hin0 hown hK hP kbl e_119 rfl 7 (by decide) (hts (.fieldLink RX0 30 "HoneyHouse$Blender" "best" "[I") (List.mem_of_getElem? (i := 14) rfl)) (fun _ h9 => h9) rfl dX0_tryWith_223 ?_
    refine lv_iconst (v := 3) hx hb dX0_tryWith_226 (by decide) ?_
    refine lv_iload hx hb dX0_tryWith_227 (lv_at hl 1 rfl) ?_
    refine va_iast (f := f_128) (n := 4) hx hb hK hP hD hS kb7 tb7 e_118 ub7 (vp_in_iff.mpr (by decide)) dX0_tryWith_229 (fun H locs hP hD hS => ?_)
    have hm_130 : sm ρ [] ws_116 (ws_116.set kb7 (b7, .inl (cb7, 4, .inl (upd f_128 (3 : Int32).toNatClampNeg (nI (((pa - a) - b) - c9_23)))))) := sm.ints e_118 w_kb7
    have e_131 : (ws_116.set kb7 (b7, .inl (cb7, 4, .inl (upd f_128 (3 : Int32).toNatClampNeg (nI (((pa - a) - b) - c9_23))))))[kb7]? = some (b7, .inl (cb7, 4, .inl (upd f_128 (3 : Int32).toNatClampNeg (nI (((pa - a) - b) - c9_23))))) := wset_self e_118
    generalize ws_116.set kb7 (b7, .inl (cb7, 4, .inl (upd f_128 (3 : Int32).toNatClampNeg (nI (((pa - a) - b) - c9_23))))) = ws_129 at hP hD hm_130 e_131
    have e_132 := hm_130.objK e_119 (by decide)
    obtain ⟨f_134, e_133⟩ := hm_130.arrI e_120
    obtain ⟨f_136, e_135⟩ := hm_130.arrI e_122
    obtain ⟨f_138, e_137⟩ := hm_130.arrI e_124
    obtain ⟨f_140, e_139⟩ := hm_130.arrI e_126
    have hsm := hsm.tr (hm_130.mono (fun _ h9 => absurd h9 List.not_mem_nil))
    have hlp_28 := hlp_28.tr (hm_130.mono (fun _ h9 => absurd h9 List.not_mem_nil))
    generalize upd f_128 (3 : Int32).toNatClampNeg (nI (((pa - a) - b) - c9_23)) = f_141 at e_131
    refine lv_iinc (v := nI (c9_23 + 1)) (lv' := [(7, .int (nI (c9_23 + 1))), (9, .int z_59), (8, .int (nI (((pa - a) - b) - c9_23))), (6, .int z_15), (5, .int z_10), (4, .int z_5), (3, .int (nI ((pa - a) - b))), (2, .int (nI b)), (1, .int (nI a)), (0, .ref bl)]) hx hb dX0_tryWith_230 hl (k := 2) rfl (nI_add c9_23 1) (by decide) rfl (fun ls hl => ?_)
    refine lv_goto (tgt := 80) hx hb dX0_tryWith_233 (by decide) ?_
    exact ih_22 (c9_23 + 1, z_59) ws_129 _ _ ls (by show pa + 1 - (c9_23 + 1) < pa + 1 - c9_23; omega) ⟨hlp_28, e_132, (show (c9_23 + 1) < 2 ^ 31 from by omega)⟩ hP hD hS (lv_sub hl [0, 3, 4, 5, 6, 7, 8, 9] rfl)
  refine lv_iload hx hb dX0_tryWith_134 (lv_at hl 0 rfl) ?_
  refine lv_aload_n hx hb dX0_tryWith_136 rfl (lv_at hl 9 rfl) ?_
  refine va_get (D := D) (ci := 0) (v := .int y9_24) (C := RX0) (T := TX0) (N := 14) hx hb hts hin0 hown hK hP kbl e_29 rfl 9 (by decide) (hts (.fieldLink RX0 55 "HoneyHouse$Blender" "bestPrice" "I") (List.mem_of_getElem? (i := 13) rfl)) (fun _ h9 => h9) rfl dX0_tryWith_137 ?_
  refine lv_icmp_ge (tgt := 230) hx hb dX0_tryWith_140 (by decide) (fun c_142 => ?_) (fun c_142 => ?_)
  · refine lv_iinc (v := nI (c9_23 + 1)) (lv' := [(7, .int (nI (c9_23 + 1))), (9, .int z_59), (8, .int (nI (((pa - a) - b) - c9_23))), (6, .int z_15), (5, .int z_10), (4, .int z_5), (3, .int (nI ((pa - a) - b))), (2, .int (nI b)), (1, .int (nI a)), (0, .ref bl)]) hx hb dX0_tryWith_230 hl (k := 2) rfl (nI_add c9_23 1) (by decide) rfl (fun ls hl => ?_)
    refine lv_goto (tgt := 80) hx hb dX0_tryWith_233 (by decide) ?_
    exact ih_22 (c9_23 + 1, y9_24) ws_26 _ _ ls (by show pa + 1 - (c9_23 + 1) < pa + 1 - c9_23; omega) ⟨hlp_28, e_29, (show (c9_23 + 1) < 2 ^ 31 from by omega)⟩ hP hD hS (lv_sub hl [0, 3, 4, 5, 6, 7, 8, 9] rfl)
  refine lv_aload_n hx hb dX0_tryWith_143 rfl (lv_at hl 9 rfl) ?_
  refine lv_iload hx hb dX0_tryWith_144 (lv_at hl 4 rfl) ?_
  refine lv_iload hx hb dX0_tryWith_146 (lv_at hl 2 rfl) ?_
  refine lv_aload_n hx hb dX0_tryWith_148 rfl (lv_at hl 9 rfl) ?_
  refine va_get (D := D) (ci := 0) (v := .ref b4) (C := RX0) (T := TX0) (N := 14) hx hb hts hin0 hown hK hP kbl e_29 rfl 4 (by decide) (hts (.fieldLink RX0 21 "HoneyHouse$Blender" "waters" "[I") (List.mem_of_getElem? (i := 3) rfl)) (fun _ h9 => h9) rfl dX0_tryWith_149 ?_
  refine lv_iconst (v := 2) hx hb dX0_tryWith_152 (by decide) ?_
  refine va_iald (f := f_43) (n := 4) hx hb hK hP kb4 tb4 e_42 ub4 (vp_in_iff.mpr (by decide)) dX0_tryWith_153 ?_
  refine lv_topi (fun z_143 _ => ?_)
  refine lv_imul hx hb dX0_tryWith_154 ?_
  refine lv_topi (fun z_144 _ => ?_)
  refine lv_iadd hx hb dX0_tryWith_155 ?_
  refine lv_topi (fun z_145 _ => ?_)
  refine lv_iload hx hb dX0_tryWith_156 (lv_at hl 1 rfl) ?_
  refine lv_aload_n hx hb dX0_tryWith_158 rfl (lv_at hl 9 rfl) ?_
  refine va_get (D := D) (ci := 0) (v := .ref b4) (C := RX0) (T := TX0) (N := 14) hx hb hts hin0 hown hK hP kbl e_29 rfl 4 (by decide) (hts (.fieldLink RX0 21 "HoneyHouse$Blender" "waters" "[I") (List.mem_of_getElem? (i := 3) rfl)) (fun _ h9 => h9) rfl dX0_tryWith_159 ?_
  refine lv_iconst (v := 3) hx hb dX0_tryWith_162 (by decide) ?_
  refine va_iald (f := f_43) (n := 4) hx hb hK hP kb4 tb4 e_42 ub4 (vp_in_iff.mpr (by decide)) dX0_tryWith_163 ?_
  refine lv_topi (fun z_146 _ => ?_)
  refine lv_imul hx hb dX0_tryWith_164 ?_
  refine lv_topi (fun z_147 _ => ?_)
  refine lv_iadd hx hb dX0_tryWith_165 ?_
  refine lv_topi (fun z_148 _ => ?_)
  refine lv_iload hx hb dX0_tryWith_166 (lv_at hl 3 rfl) ?_
  refine lv_iload hx hb dX0_tryWith_168 (lv_at hl 2 rfl) ?_
  refine lv_aload_n hx hb dX0_tryWith_170 rfl (lv_at hl 9 rfl) ?_
  refine va_get (D := D) (ci := 0) (v := .ref b5) (C := RX0) (T := TX0) (N := 14) hx hb hts hin0 hown hK hP kbl e_29 rfl 5 (by decide) (hts (.fieldLink RX0 24 "HoneyHouse$Blender" "colours" "[I") (List.mem_of_getElem? (i := 4) rfl)) (fun _ h9 => h9) rfl dX0_tryWith_171 ?_
  refine lv_iconst (v := 2) hx hb dX0_tryWith_174 (by decide) ?_
  refine va_iald (f := f_45) (n := 4) hx hb hK hP kb5 tb5 e_44 ub5 (vp_in_iff.mpr (by decide)) dX0_tryWith_175 ?_
  refine lv_topi (fun z_149 _ => ?_)
  refine lv_imul hx hb dX0_tryWith_176 ?_
  refine lv_topi (fun z_150 _ => ?_)
  refine lv_iadd hx hb dX0_tryWith_177 ?_
  refine lv_topi (fun z_151 _ => ?_)
  refine lv_iload hx hb dX0_tryWith_178 (lv_at hl 1 rfl) ?_
  refine lv_aload_n hx hb dX0_tryWith_180 rfl (lv_at hl 9 rfl) ?_
  refine va_get (D := D) (ci := 0) (v := .ref b5) (C := RX0) (T := TX0) (N := 14) hx hb hts hin0 hown hK hP kbl e_29 rfl 5 (by decide) (hts (.fieldLink RX0 24 "HoneyHouse$Blender" "colours" "[I") (List.mem_of_getElem? (i := 4) rfl)) (fun _ h9 => h9) rfl dX0_tryWith_181 ?_
  refine lv_iconst (v := 3) hx hb dX0_tryWith_184 (by decide) ?_
  refine va_iald (f := f_45) (n := 4) hx hb hK hP kb5 tb5 e_44 ub5 (vp_in_iff.mpr (by decide)) dX0_tryWith_185 ?_
  refine lv_topi (fun z_152 _ => ?_)
  refine lv_imul hx hb dX0_tryWith_186 ?_
  refine lv_topi (fun z_153 _ => ?_)
  refine lv_iadd hx hb dX0_tryWith_187 ?_
  refine lv_topi (fun z_154 _ => ?_)
  refine vp_callSi (W.runV (As := [.int z_148, .int z_154]) (rest := []) ⟨hx, hb, hml, hown, hts⟩ (s_isWithin l D ws_26 tys bl kbl b0 b2 b3 b4 b5 b6 b7 b1 b8 y9_24 (nI pa) b11 b12 b13 z_148 z_154 e_29) (cwV 2 hts gX0_tryWith_X0_isWithin rfl rfl rfl (by decide +kernel) ⟨Nat.le_of_ble_eq_true rfl, Nat.le_of_ble_eq_true rfl⟩) ⟨fun a U g mk q => ⟨q.1, q.2.1, va_K.moved (u := U) (U := U.calling g mk a) (Vm.Alike.refl U.vm) q.2.2⟩, va_recv hK hP (ci := 0) (q0 := kbl) rfl e_29, fun U hU hW => ⟨rfl, by rw [hU]; exact hP, va_K.moved hW.alike hK⟩⟩ rfl rfl hl.1 rfl (lv_room (Nat.le_of_ble_eq_true rfl)) dX0_tryWith_188 ⟨Nat.le_of_ble_eq_true rfl, Nat.le_of_ble_eq_true rfl⟩) (fun r_155 k_156 => ?_)
  rcases k_156 with rfl | rfl
  · refine lv_if_eq (tgt := 230) hx hb dX0_tryWith_191 (by decide) (fun c_157 => ?_) (fun c_157 => absurd (by decide) c_157)
    refine lv_iinc (v := nI (c9_23 + 1)) (lv' := [(7, .int (nI (c9_23 + 1))), (9, .int z_59), (8, .int (nI (((pa - a) - b) - c9_23))), (6, .int z_15), (5, .int z_10), (4, .int z_5), (3, .int (nI ((pa - a) - b))), (2, .int (nI b)), (1, .int (nI a)), (0, .ref bl)]) hx hb dX0_tryWith_230 hl (k := 2) rfl (nI_add c9_23 1) (by decide) rfl (fun ls hl => ?_)
    refine lv_goto (tgt := 80) hx hb dX0_tryWith_233 (by decide) ?_
    exact ih_22 (c9_23 + 1, y9_24) ws_26 _ _ ls (by show pa + 1 - (c9_23 + 1) < pa + 1 - c9_23; omega) ⟨hlp_28, e_29, (show (c9_23 + 1) < 2 ^ 31 from by omega)⟩ hP hD hS (lv_sub hl [0, 3, 4, 5, 6, 7, 8, 9] rfl)
  refine lv_if_eq (tgt := 230) hx hb dX0_tryWith_191 (by decide) (fun c_158 => absurd c_158 (by decide)) (fun c_158 => ?_)
  refine lv_aload_n hx hb dX0_tryWith_194 rfl (lv_at hl 9 rfl) ?_
  refine lv_iload hx hb dX0_tryWith_195 (lv_at hl 0 rfl) ?_
  refine va_put (D := D) (ci := 0) (v := .int z_59) (ty := .int) (C := RX0) (T := TX0) (N := 14) hx hb hts hin0 tyX0 tyX0_ok nmX0 hown hK hP hD hS kbl e_29 rfl 9 (by decide) (hts (.fieldLink RX0 55 "HoneyHouse$Blender" "bestPrice" "I") (List.mem_of_getElem? (i := 13) rfl)) (fun _ h9 => h9) rfl (tyX0_ok 9 (by decide)) rfl rfl (Nat.le_of_ble_eq_true rfl) dX0_tryWith_197 (fun H locs hP hD hS => ?_)
  have hP : va_P D vwCl (ws_26.set kbl (bl, .inr (0, [.ref b0, .int b1, .ref b2, .ref b3, .ref b4, .ref b5, .ref b6, .ref b7, .int b8, .int z_59, .int (nI pa), .int b11, .int b12, .int b13]))) H := hP
  have hD : va_D A (ws_26.set kbl (bl, .inr (0, [.ref b0, .int b1, .ref b2, .ref b3, .ref b4, .ref b5, .ref b6, .ref b7, .int b8, .int z_59, .int (nI pa), .int b11, .int b12, .int b13]))) := hD
  have hm_160 : sm ρ [0] ws_26 (ws_26.set kbl (bl, .inr (0, [.ref b0, .int b1, .ref b2, .ref b3, .ref b4, .ref b5, .ref b6, .ref b7, .int b8, .int z_59, .int (nI pa), .int b11, .int b12, .int b13]))) := sm.flds e_29 (smF.c (smV.rf _) (smF.c (smV.rf _) (smF.c (smV.rf _) (smF.c (smV.rf _) (smF.c (smV.rf _) (smF.c (smV.rf _) (smF.c (smV.rf _) (smF.c (smV.rf _) (smF.c (smV.rf _) (smF.c (smV.i _ _) (smF.c (smV.rf _) (smF.c (smV.rf _) (smF.c (smV.rf _) (smF.c (smV.rf _) (rfl))))))))))))))) (List.mem_singleton.mpr rfl) w_kbl
  have e_161 : (ws_26.set kbl (bl, .inr (0, [.ref b0, .int b1, .ref b2, .ref b3, .ref b4, .ref b5, .ref b6, .ref b7, .int b8, .int z_59, .int (nI pa), .int b11, .int b12, .int b13])))[kbl]? = some (bl, .inr (0, [.ref b0, .int b1, .ref b2, .ref b3, .ref b4, .ref b5, .ref b6, .ref b7, .int b8, .int z_59, .int (nI pa), .int b11, .int b12, .int b13])) := wset_self e_29
  generalize ws_26.set kbl (bl, .inr (0, [.ref b0, .int b1, .ref b2, .ref b3, .ref b4, .ref b5, .ref b6, .ref b7, .int b8, .int z_59, .int (nI pa), .int b11, .int b12, .int b13])) = ws_159 at hP hD hm_160 e_161
  obtain ⟨f_163, e_162⟩ := hm_160.arrI e_40
  obtain ⟨f_165, e_164⟩ := hm_160.arrI e_42
  obtain ⟨f_167, e_166⟩ := hm_160.arrI e_44
  obtain ⟨f_169, e_168⟩ := hm_160.arrI e_46
  obtain ⟨f_171, e_170⟩ := hm_160.arrI e_48
  have hsm := hsm.tr (hm_160.mono (by decide))
  have hlp_28 := hlp_28.tr (hm_160.mono (by decide))
  refine lv_aload_n hx hb dX0_tryWith_200 rfl (lv_at hl 9 rfl) ?_
  refine va_get (D := D) (ci := 0) (v := .ref b7) (C := RX0) (T := TX0) (N := 14) hx hb hts hin0 hown hK hP kbl e_161 rfl 7 (by decide) (hts (.fieldLink RX0 30 "HoneyHouse$Blender" "best" "[I") (List.mem_of_getElem? (i := 14) rfl)) (fun _ h9 => h9) rfl dX0_tryWith_201 ?_
  refine lv_iconst (v := 0) hx hb dX0_tryWith_204 (by decide) ?_
  refine lv_iload_n hx hb dX0_tryWith_205 rfl (lv_at hl 8 rfl) ?_
  refine va_iast (f := f_171) (n := 4) hx hb hK hP hD hS kb7 tb7 e_170 ub7 (vp_in_iff.mpr (by decide)) dX0_tryWith_206 (fun H locs hP hD hS => ?_)
  have hm_173 : sm ρ [] ws_159 (ws_159.set kb7 (b7, .inl (cb7, 4, .inl (upd f_171 (0 : Int32).toNatClampNeg (nI a))))) := sm.ints e_170 w_kb7
  have e_174 : (ws_159.set kb7 (b7, .inl (cb7, 4, .inl (upd f_171 (0 : Int32).toNatClampNeg (nI a)))))[kb7]? = some (b7, .inl (cb7, 4, .inl (upd f_171 (0 : Int32).toNatClampNeg (nI a)))) := wset_self e_170
  generalize ws_159.set kb7 (b7, .inl (cb7, 4, .inl (upd f_171 (0 : Int32).toNatClampNeg (nI a)))) = ws_172 at hP hD hm_173 e_174
  have e_175 := hm_173.objK e_161 (by decide)
  obtain ⟨f_177, e_176⟩ := hm_173.arrI e_162
  obtain ⟨f_179, e_178⟩ := hm_173.arrI e_164
  obtain ⟨f_181, e_180⟩ := hm_173.arrI e_166
  obtain ⟨f_183, e_182⟩ := hm_173.arrI e_168
  have hsm := hsm.tr (hm_173.mono (fun _ h9 => absurd h9 List.not_mem_nil))
  have hlp_28 := hlp_28.tr (hm_173.mono (fun _ h9 => absurd h9 List.not_mem_nil))
  generalize upd f_171 (0 : Int32).toNatClampNeg (nI a) = f_184 at e_174
  refine lv_aload_n hx hb dX0_tryWith_207 rfl (lv_at hl 9 rfl) ?_
  refine va_get (D := D) (ci := 0) (v := .ref b7) (C := RX0) (T := TX0) (N := 14) hx hb hts hin0 hown hK hP kbl e_175 rfl 7 (by decide) (hts (.fieldLink RX0 30 "HoneyHouse$Blender" "best" "[I") (List.mem_of_getElem? (i := 14) rfl)) (fun _ h9 => h9) rfl dX0_tryWith_208 ?_
  refine lv_iconst (v := 1) hx hb dX0_tryWith_211 (by decide) ?_
  refine lv_iload_n hx hb dX0_tryWith_212 rfl (lv_at hl 7 rfl) ?_
  refine va_iast (f := f_184) (n := 4) hx hb hK hP hD hS kb7 tb7 e_174 ub7 (vp_in_iff.mpr (by decide)) dX0_tryWith_213 (fun H locs hP hD hS => ?_)
  have hm_186 : sm ρ [] ws_172 (ws_172.set kb7 (b7, .inl (cb7, 4, .inl (upd f_184 (1 : Int32).toNatClampNeg (nI b))))) := sm.ints e_174 w_kb7
  have e_187 : (ws_172.set kb7 (b7, .inl (cb7, 4, .inl (upd f_184 (1 : Int32).toNatClampNeg (nI b)))))[kb7]? = some (b7, .inl (cb7, 4, .inl (upd f_184 (1 : Int32).toNatClampNeg (nI b)))) := wset_self e_174
  generalize ws_172.set kb7 (b7, .inl (cb7, 4, .inl (upd f_184 (1 : Int32).toNatClampNeg (nI b)))) = ws_185 at hP hD hm_186 e_187
  have e_188 := hm_186.objK e_175 (by decide)
  obtain ⟨f_190, e_189⟩ := hm_186.arrI e_176
  obtain ⟨f_192, e_191⟩ := hm_186.arrI e_178
  obtain ⟨f_194, e_193⟩ := hm_186.arrI e_180
  obtain ⟨f_196, e_195⟩ := hm_186.arrI e_182
  have hsm := hsm.tr (hm_186.mono (fun _ h9 => absurd h9 List.not_mem_nil))
  have hlp_28 := hlp_28.tr (hm_186.mono (fun _ h9 => absurd h9 List.not_mem_nil))
  generalize upd f_184 (1 : Int32).toNatClampNeg (nI b) = f_197 at e_187
  refine lv_aload_n hx hb dX0_tryWith_214 rfl (lv_at hl 9 rfl) ?_
  refine va_get (D := D) (ci := 0) (v := .ref b7) (C := RX0) (T := TX0) (N := 14) hx hb hts hin0 hown hK hP kbl e_188 rfl 7 (by decide) (hts (.fieldLink RX0 30 "HoneyHouse$Blender" "best" "[I") (List.mem_of_getElem? (i := 14) rfl)) (fun _ h9 => h9) rfl dX0_tryWith_215 ?_
  refine lv_iconst (v := 2) hx hb dX0_tryWith_218 (by decide) ?_
  refine lv_iload hx hb dX0_tryWith_219 (lv_at hl 2 rfl) ?_
  refine va_iast (f := f_197) (n := 4) hx hb hK hP hD hS kb7 tb7 e_187 ub7 (vp_in_iff.mpr (by decide)) dX0_tryWith_221 (fun H locs hP hD hS => ?_)
  have hm_199 : sm ρ [] ws_185 (ws_185.set kb7 (b7, .inl (cb7, 4, .inl (upd f_197 (2 : Int32).toNatClampNeg (nI c9_23))))) := sm.ints e_187 w_kb7
  have e_200 : (ws_185.set kb7 (b7, .inl (cb7, 4, .inl (upd f_197 (2 : Int32).toNatClampNeg (nI c9_23)))))[kb7]? = some (b7, .inl (cb7, 4, .inl (upd f_197 (2 : Int32).toNatClampNeg (nI c9_23)))) := wset_self e_187
  generalize ws_185.set kb7 (b7, .inl (cb7, 4, .inl (upd f_197 (2 : Int32).toNatClampNeg (nI c9_23)))) = ws_198 at hP hD hm_199 e_200
  have e_201 := hm_199.objK e_188 (by decide)
  obtain ⟨f_203, e_202⟩ := hm_199.arrI e_189
  obtain ⟨f_205, e_204⟩ := hm_199.arrI e_191
  obtain ⟨f_207, e_206⟩ := hm_199.arrI e_193
  obtain ⟨f_209, e_208⟩ := hm_199.arrI e_195
  have hsm := hsm.tr (hm_199.mono (fun _ h9 => absurd h9 List.not_mem_nil))
  have hlp_28 := hlp_28.tr (hm_199.mono (fun _ h9 => absurd h9 List.not_mem_nil))
  generalize upd f_197 (2 : Int32).toNatClampNeg (nI c9_23) = f_210 at e_200
  refine lv_aload_n hx hb dX0_tryWith_222 rfl (lv_at hl 9 rfl) ?_
  refine va_get (D := D) (ci := 0) (v := .ref b7) (C := RX0) (T := TX0) (N := 14) hx hb hts hin0 hown hK hP kbl e_201 rfl 7 (by decide) (hts (.fieldLink RX0 30 "HoneyHouse$Blender" "best" "[I") (List.mem_of_getElem? (i := 14) rfl)) (fun _ h9 => h9) rfl dX0_tryWith_223 ?_
  refine lv_iconst (v := 3) hx hb dX0_tryWith_226 (by decide) ?_
  refine lv_iload hx hb dX0_tryWith_227 (lv_at hl 1 rfl) ?_
  refine va_iast (f := f_210) (n := 4) hx hb hK hP hD hS kb7 tb7 e_200 ub7 (vp_in_iff.mpr (by decide)) dX0_tryWith_229 (fun H locs hP hD hS => ?_)
  have hm_212 : sm ρ [] ws_198 (ws_198.set kb7 (b7, .inl (cb7, 4, .inl (upd f_210 (3 : Int32).toNatClampNeg (nI (((pa - a) - b) - c9_23)))))) := sm.ints e_200 w_kb7
  have e_213 : (ws_198.set kb7 (b7, .inl (cb7, 4, .inl (upd f_210 (3 : Int32).toNatClampNeg (nI (((pa - a) - b) - c9_23))))))[kb7]? = some (b7, .inl (cb7, 4, .inl (upd f_210 (3 : Int32).toNatClampNeg (nI (((pa - a) - b) - c9_23))))) := wset_self e_200
  generalize ws_198.set kb7 (b7, .inl (cb7, 4, .inl (upd f_210 (3 : Int32).toNatClampNeg (nI (((pa - a) - b) - c9_23))))) = ws_211 at hP hD hm_212 e_213
  have e_214 := hm_212.objK e_201 (by decide)
  obtain ⟨f_216, e_215⟩ := hm_212.arrI e_202
  obtain ⟨f_218, e_217⟩ := hm_212.arrI e_204
  obtain ⟨f_220, e_219⟩ := hm_212.arrI e_206
  obtain ⟨f_222, e_221⟩ := hm_212.arrI e_208
  have hsm := hsm.tr (hm_212.mono (fun _ h9 => absurd h9 List.not_mem_nil))
  have hlp_28 := hlp_28.tr (hm_212.mono (fun _ h9 => absurd h9 List.not_mem_nil))
  generalize upd f_210 (3 : Int32).toNatClampNeg (nI (((pa - a) - b) - c9_23)) = f_223 at e_213
  refine lv_iinc (v := nI (c9_23 + 1)) (lv' := [(7, .int (nI (c9_23 + 1))), (9, .int z_59), (8, .int (nI (((pa - a) - b) - c9_23))), (6, .int z_15), (5, .int z_10), (4, .int z_5), (3, .int (nI ((pa - a) - b))), (2, .int (nI b)), (1, .int (nI a)), (0, .ref bl)]) hx hb dX0_tryWith_230 hl (k := 2) rfl (nI_add c9_23 1) (by decide) rfl (fun ls hl => ?_)
  refine lv_goto (tgt := 80) hx hb dX0_tryWith_233 (by decide) ?_
  exact ih_22 (c9_23 + 1, z_59) ws_211 _ _ ls (by show pa + 1 - (c9_23 + 1) < pa + 1 - c9_23; omega) ⟨hlp_28, e_214, (show (c9_23 + 1) < 2 ^ 31 from by omega)⟩ hP hD hS (lv_sub hl [0, 3, 4, 5, 6, 7, 8, 9] rfl)
set_option maxHeartbeats 4000000 in
set_option maxRecDepth 100000 in
theorem a_leastPrice (l : Launch) (D : va_G) (ρ : Nat → Nat) (ws : va_W) (tys : List (ClassId × FieldType)) (bl kbl b0 b2 b3 b4 b5 b6 b7 : Nat) (b1 b8 b11 b12 b13 : Int32) (b9 : Int32) (pa : Nat) (kb0 : Nat) (cb0 : ClassId) (tb0 : Nat) (fb0 : Nat → Int32) (kb2 : Nat) (cb2 : ClassId) (tb2 : Nat) (fb2 : Nat → Int32) (kb3 : Nat) (cb3 : ClassId) (tb3 : Nat) (fb3 : Nat → Int32) (kb4 : Nat) (cb4 : ClassId) (tb4 : Nat) (fb4 : Nat → Int32) (kb5 : Nat) (cb5 : ClassId) (tb5 : Nat) (fb5 : Nat → Int32) (kb6 : Nat) (cb6 : ClassId) (tb6 : Nat) (fb6 : Nat → Int32) (kb7 : Nat) (cb7 : ClassId) (tb7 : Nat) (fb7 : Nat → Int32) (sz : Nat) (hpa : pa ≤ 40) (ebl : ws[kbl]? = some (bl, .inr (0, [.ref b0, .int b1, .ref b2, .ref b3, .ref b4, .ref b5, .ref b6, .ref b7, .int b8, .int b9, .int (nI pa), .int b11, .int b12, .int b13]))) (eb0 : ws[kb0]? = some (b0, .inl (cb0, 10, .inl fb0))) (ub0 : tys[tb0]? = some (cb0, .int)) (eb2 : ws[kb2]? = some (b2, .inl (cb2, 4, .inl fb2))) (ub2 : tys[tb2]? = some (cb2, .int)) (eb3 : ws[kb3]? = some (b3, .inl (cb3, 4, .inl fb3))) (ub3 : tys[tb3]? = some (cb3, .int)) (eb4 : ws[kb4]? = some (b4, .inl (cb4, 4, .inl fb4))) (ub4 : tys[tb4]? = some (cb4, .int)) (eb5 : ws[kb5]? = some (b5, .inl (cb5, 4, .inl fb5))) (ub5 : tys[tb5]? = some (cb5, .int)) (eb6 : ws[kb6]? = some (b6, .inl (cb6, 4, .inl fb6))) (ub6 : tys[tb6]? = some (cb6, .int)) (eb7 : ws[kb7]? = some (b7, .inl (cb7, 4, .inl fb7))) (ub7 : tys[tb7]? = some (cb7, .int)) (w_kbl : ρ kbl = 0) (w_kb0 : ρ kb0 = 0) (w_kb7 : ρ kb7 = 0) : Met l yX0_leastPrice wsX0_leastPrice ({ frames := 2, cells := 0, slots := 0, locals := 69 }) (va_Pc [.ref bl] (fun U => U.heap.size = sz ∧ va_P D vwCl ws U.heap ∧ va_K D vwCl tys U ∧ va_D (fun _ => True) ws)) (va_Qi (fun (r : Int32) (_ : Unit) => True) (fun (_ : Unit) (t : State) => ∃ (ws' : va_W) (tys' : List (ClassId × FieldType)), sm ρ [0] ws ws' ∧ tyx tys tys' ∧ va_P D vwCl ws' t.heap ∧ va_K D vwCl tys' t ∧ va_D (va_A ws sz) ws' ∧ (True)) (va_A ws sz)) 0 0 (va_A ws sz) := by
  refine Met.ofW (cc := cX0_leastPrice) (maxL := 3) (ret := (some .int)) (by decide) rfl ?_
  intro p e s m args below meth c s₁ B hml hv
  obtain ⟨rfl, hsz, hP, hK, hD0⟩ := hv
  have hx := B.exec
  have hb := B.bytes
  have hr := B.returns
  have hts := atoms_spec (ws := wsX0_leastPrice) B.pre
  have hown : s.vm.findClass RX0 = some m.cls := findClass_of_methodNamed B.named
  have hlocks := B.notSynchronized
  subst hsz
  have hD := hD0.self (sz := s.heap.size)
  generalize hAe : va_A ws s.heap.size = A at hD ⊢
  have hA : ∀ q : Nat, s.heap.size ≤ q → A q := fun q h => by rw [← hAe]; exact Or.inr h
  have hS : va_S A s.heap s.heap [] := va_S.rf
  have hsm : sm ρ [0] ws ws := sm.rf ws
  have htx : tyx tys tys := tyx.rf tys
  have hin0 : ∀ w ∈ u_ws RX0 TX0 14, w ∈ wsX0_leastPrice := (fun _ h9 => List.mem_cons_of_mem _ ((List.mem_append_right _ h9)))
  have hl := lv_entry ([.ref bl]) (n := 3) (Nat.le_of_ble_eq_true rfl)
  rw [lg_entry_eq]
  generalize (lg_sl ([.ref bl]) ++ List.replicate (3 - (lg_sl ([.ref bl])).length) Slot.unset).toArray = ls at hl ⊢
  have hl : lv_has ls 3 [(0, .ref bl)] := hl
  refine lv_aload_n hx hb dX0_leastPrice_0 rfl (lv_at hl 0 rfl) ?_
  refine lv_bipush (v := (-2)) hx hb dX0_leastPrice_1 (by decide) ?_
  refine va_put (D := D) (ci := 0) (v := .int (-2)) (ty := .int) (C := RX0) (T := TX0) (N := 14) hx hb hts hin0 tyX0 tyX0_ok nmX0 hown hK hP hD hS kbl ebl rfl 9 (by decide) (hts (.fieldLink RX0 55 "HoneyHouse$Blender" "bestPrice" "I") (List.mem_of_getElem? (i := 1) rfl)) (fun _ h9 => h9) rfl (tyX0_ok 9 (by decide)) rfl rfl (Nat.le_of_ble_eq_true rfl) dX0_leastPrice_3 (fun H locs hP hD hS => ?_)
  have hP : va_P D vwCl (ws.set kbl (bl, .inr (0, [.ref b0, .int b1, .ref b2, .ref b3, .ref b4, .ref b5, .ref b6, .ref b7, .int b8, .int (-2), .int (nI pa), .int b11, .int b12, .int b13]))) H := hP
  have hD : va_D A (ws.set kbl (bl, .inr (0, [.ref b0, .int b1, .ref b2, .ref b3, .ref b4, .ref b5, .ref b6, .ref b7, .int b8, .int (-2), .int (nI pa), .int b11, .int b12, .int b13]))) := hD
  have hm_2 : sm ρ [0] ws (ws.set kbl (bl, .inr (0, [.ref b0, .int b1, .ref b2, .ref b3, .ref b4, .ref b5, .ref b6, .ref b7, .int b8, .int (-2), .int (nI pa), .int b11, .int b12, .int b13]))) := sm.flds ebl (smF.c (smV.rf _) (smF.c (smV.rf _) (smF.c (smV.rf _) (smF.c (smV.rf _) (smF.c (smV.rf _) (smF.c (smV.rf _) (smF.c (smV.rf _) (smF.c (smV.rf _) (smF.c (smV.rf _) (smF.c (smV.i _ _) (smF.c (smV.rf _) (smF.c (smV.rf _) (smF.c (smV.rf _) (smF.c (smV.rf _) (rfl))))))))))))))) (List.mem_singleton.mpr rfl) w_kbl
  have e_3 : (ws.set kbl (bl, .inr (0, [.ref b0, .int b1, .ref b2, .ref b3, .ref b4, .ref b5, .ref b6, .ref b7, .int b8, .int (-2), .int (nI pa), .int b11, .int b12, .int b13])))[kbl]? = some (bl, .inr (0, [.ref b0, .int b1, .ref b2, .ref b3, .ref b4, .ref b5, .ref b6, .ref b7, .int b8, .int (-2), .int (nI pa), .int b11, .int b12, .int b13])) := wset_self ebl
  generalize ws.set kbl (bl, .inr (0, [.ref b0, .int b1, .ref b2, .ref b3, .ref b4, .ref b5, .ref b6, .ref b7, .int b8, .int (-2), .int (nI pa), .int b11, .int b12, .int b13])) = ws_1 at hP hD hm_2 e_3
  obtain ⟨f_5, e_4⟩ := hm_2.arrI eb0
  obtain ⟨f_7, e_6⟩ := hm_2.arrI eb2
  obtain ⟨f_9, e_8⟩ := hm_2.arrI eb3
  obtain ⟨f_11, e_10⟩ := hm_2.arrI eb4
  obtain ⟨f_13, e_12⟩ := hm_2.arrI eb5
  obtain ⟨f_15, e_14⟩ := hm_2.arrI eb6
  obtain ⟨f_17, e_16⟩ := hm_2.arrI eb7
  have hsm := hsm.tr (hm_2.mono (by decide))
  refine lv_iconst (v := 0) hx hb dX0_leastPrice_6 (by decide) ?_
  refine lv_istore_n (lv' := [(1, .int 0), (0, .ref bl)]) hx hb dX0_leastPrice_7 rfl hl (by decide) rfl (fun ls hl => ?_)
  refine lp_V (nL := 3) (σ := Nat × Int32) (lv := fun x9 => [(1, .int (nI x9.1)), (0, .ref bl)]) (μ := fun x9 => pa + 1 - x9.1) (J := fun x9 ws9 => sm ρ [0] ws_1 ws9 ∧ (ws9[kbl]? = some (bl, .inr (0, [.ref b0, .int b1, .ref b2, .ref b3, .ref b4, .ref b5, .ref b6, .ref b7, .int b8, .int x9.2, .int (nI pa), .int b11, .int b12, .int b13]))) ∧ (x9.1 ≤ pa + 1)) (fun x9 ws_22 H locs ls hj hP hD hS hl ih_18 => ?_) (0, (-2)) ws_1 _ _ ls ⟨sm.rf _, e_3, (show 0 ≤ pa + 1 from by omega)⟩ hP hD hS (lv_sub hl [0, 1] rfl)
  obtain ⟨a_19, y9_20⟩ := x9
  replace hj : sm ρ [0] ws_1 ws_22 ∧ (ws_22[kbl]? = some (bl, .inr (0, [.ref b0, .int b1, .ref b2, .ref b3, .ref b4, .ref b5, .ref b6, .ref b7, .int b8, .int y9_20, .int (nI pa), .int b11, .int b12, .int b13]))) ∧ (a_19 ≤ pa + 1) := hj
  obtain ⟨hm_23, e_25, ha_21⟩ := hj
  obtain ⟨g_27, e_26, h_28⟩ := hm_23.obj e_3
  obtain ⟨z_29, z_30, z_31, z_32, z_33, z_34, z_35, rfl⟩ := smX0 h_28
  obtain ⟨f_37, e_36⟩ := hm_23.arrI e_4
  obtain ⟨f_39, e_38⟩ := hm_23.arrI e_6
  obtain ⟨f_41, e_40⟩ := hm_23.arrI e_8
  obtain ⟨f_43, e_42⟩ := hm_23.arrI e_10
  obtain ⟨f_45, e_44⟩ := hm_23.arrI e_12
  obtain ⟨f_47, e_46⟩ := hm_23.arrI e_14
  obtain ⟨f_49, e_48⟩ := hm_23.arrI e_16
  have hsm := hsm.tr (hm_23.mono (by decide))
  have hlp_24 := hm_23
  have hl : lv_has ls 3 [(1, .int (nI a_19)), (0, .ref bl)] := hl
  refine lv_iload_n hx hb dX0_leastPrice_8 rfl (lv_at hl 0 rfl) ?_
  refine lv_aload_n hx hb dX0_leastPrice_9 rfl (lv_at hl 1 rfl) ?_
  refine va_get (D := D) (ci := 0) (v := .ref b3) (C := RX0) (T := TX0) (N := 14) hx hb hts hin0 hown hK hP kbl e_25 rfl 3 (by decide) (hts (.fieldLink RX0 18 "HoneyHouse$Blender" "mostParts" "[I") (List.mem_of_getElem? (i := 2) rfl)) (fun _ h9 => h9) rfl dX0_leastPrice_10 ?_
  refine lv_iconst (v := 0) hx hb dX0_leastPrice_13 (by decide) ?_
  refine va_iald (f := f_41) (n := 4) hx hb hK hP kb3 tb3 e_40 ub3 (vp_in_iff.mpr (by decide)) dX0_leastPrice_14 ?_
  refine lv_topi (fun z_50 _ => ?_)
  refine lv_aload_n hx hb dX0_leastPrice_15 rfl (lv_at hl 1 rfl) ?_
  refine va_get (D := D) (ci := 0) (v := .int (nI pa)) (C := RX0) (T := TX0) (N := 14) hx hb hts hin0 hown hK hP kbl e_25 rfl 10 (by decide) (hts (.fieldLink RX0 43 "HoneyHouse$Blender" "partsInAll" "I") (List.mem_of_getElem? (i := 3) rfl)) (fun _ h9 => h9) rfl dX0_leastPrice_16 ?_
  refine va_mmin hx hb (by rw [hml]; exact hl.1.symm) hown (hts (.methodLink RX0 58 Lib.Math.min.name) (List.mem_of_getElem? (i := 4) rfl)) (hts (.static Lib.Math.min.name) (List.mem_of_getElem? (i := 5) rfl)) (hts (.initialized "java/lang/Math") (List.mem_of_getElem? (i := 6) rfl)) (hts (.code Lib.Math.min.name Lib.Math.min.code 2 (some .int)) (List.mem_of_getElem? (i := 7) rfl)) (Nat.le_of_ble_eq_true rfl) (Nat.le_of_ble_eq_true rfl) (Nat.le_of_ble_eq_true rfl) (Nat.le_of_ble_eq_true rfl) dX0_leastPrice_19 ?_
  refine lv_topi (fun z_51 hz_52 => ?_)
  refine lv_icmp_gt (tgt := 64) hx hb dX0_leastPrice_22 (by decide) (fun c_53 => ?_) (fun c_53 => ?_)
  · refine lv_aload_n hx hb dX0_leastPrice_64 rfl (lv_at hl 1 rfl) ?_
    refine va_get (D := D) (ci := 0) (v := .int y9_20) (C := RX0) (T := TX0) (N := 14) hx hb hts hin0 hown hK hP kbl e_25 rfl 9 (by decide) (hts (.fieldLink RX0 55 "HoneyHouse$Blender" "bestPrice" "I") (List.mem_of_getElem? (i := 1) rfl)) (fun _ h9 => h9) rfl dX0_leastPrice_65 ?_
    refine lv_bipush (v := (-2)) hx hb dX0_leastPrice_68 (by decide) ?_
    refine lv_icmp_eq (tgt := 77) hx hb dX0_leastPrice_70 (by decide) (fun c_54 => ?_) (fun c_54 => ?_)
    · refine lv_aload_n hx hb dX0_leastPrice_77 rfl (lv_at hl 1 rfl) ?_
      refine va_get (D := D) (ci := 0) (v := .int y9_20) (C := RX0) (T := TX0) (N := 14) hx hb hts hin0 hown hK hP kbl e_25 rfl 9 (by decide) (hts (.fieldLink RX0 55 "HoneyHouse$Blender" "bestPrice" "I") (List.mem_of_getElem? (i := 1) rfl)) (fun _ h9 => h9) rfl dX0_leastPrice_78 ?_
      exact W.iret (v := y9_20) hx hb hr (fun t ht hW => ⟨⟨y9_20, (), rfl, trivial, ws_22, tys, hsm, htx, by rw [ht]; exact hP, va_K.moved hW.alike hK, hD, trivial⟩, hS.F ht⟩) hS.2.2 dX0_leastPrice_81
    refine lv_aload_n hx hb dX0_leastPrice_73 rfl (lv_at hl 1 rfl) ?_
    have hFc := free_all hD hS hA
    refine va_callv (va_runV (As := []) (rest := []) ⟨hx, hb, hml, hown, hts⟩ (a_keepBest l D ρ ws_22 tys bl kbl b0 b2 b3 b4 b5 b6 b7 b1 b8 y9_20 (nI pa) b11 b12 b13 kb0 cb0 tb0 f_37 kb2 cb2 tb2 f_39 kb7 cb7 tb7 f_49 H.size e_25 e_36 ub0 e_38 ub2 e_48 ub7 w_kb0 w_kbl) (cwV 0 hts gX0_leastPrice_X0_keepBest rfl rfl rfl (by decide +kernel) ⟨Nat.le_of_ble_eq_true rfl, Nat.le_of_ble_eq_true rfl⟩) ⟨fun a U g mk q => by obtain ⟨q0, q1, qP, qK, qD⟩ := q; exact ⟨q0, q1, qP, va_K.moved (u := U) (U := U.calling g mk a) (Vm.Alike.refl U.vm) qK, qD⟩, va_recv hK hP (ci := 0) (q0 := kbl) rfl e_25, fun U hU hW => ⟨rfl, by rw [hU], by rw [hU]; exact hP, va_K.moved hW.alike hK, hD.weaken (fun _ _ _ _ => trivial)⟩⟩ rfl rfl hl.1 rfl (lv_room (Nat.le_of_ble_eq_true rfl)) dX0_leastPrice_74 ⟨Nat.le_of_ble_eq_true rfl, Nat.le_of_ble_eq_true rfl⟩) hS (fun q _ h => hFc q h) hFc (fun u t H1 locs ht hvm w_56 hB hz1 hk1 hS => ?_)
    obtain ⟨ws_57, ty_58, hm_59, ht_61, hP1, hK1, hD1, hx_60⟩ := hB
    rw [ht] at hP1
    have hK := va_K.moved hvm.symm hK1
    have hD := hD1.weaken (fun _ _ _ h => hFc _ h)
    generalize H1 = H at hP1 hS ⊢
    have hP := hP1
    obtain ⟨g_63, e_62, h_64⟩ := hm_59.obj e_25
    obtain ⟨z_65, z_66, z_67, z_68, z_69, z_70, z_71, rfl⟩ := smX0 h_64
    obtain ⟨f_73, e_72⟩ := hm_59.arrI e_36
    have u_74 := ht_61 _ _ ub0
    obtain ⟨f_76, e_75⟩ := hm_59.arrI e_38
    have u_77 := ht_61 _ _ ub2
    obtain ⟨f_79, e_78⟩ := hm_59.arrI e_40
    have u_80 := ht_61 _ _ ub3
    obtain ⟨f_82, e_81⟩ := hm_59.arrI e_42
    have u_83 := ht_61 _ _ ub4
    obtain ⟨f_85, e_84⟩ := hm_59.arrI e_44
    have u_86 := ht_61 _ _ ub5
    obtain ⟨f_88, e_87⟩ := hm_59.arrI e_46
    have u_89 := ht_61 _ _ ub6
    obtain ⟨f_91, e_90⟩ := hm_59.arrI e_48
    have u_92 := ht_61 _ _ ub7
    have hsm := hsm.tr (hm_59.mono (by decide))
    have hlp_24 := hlp_24.tr (hm_59.mono (by decide))
    have htx := htx.tr ht_61
    refine lv_aload_n hx hb dX0_leastPrice_77 rfl (lv_at hl 1 rfl) ?_
    refine va_get (D := D) (ci := 0) (v := .int z_67) (C := RX0) (T := TX0) (N := 14) hx hb hts hin0 hown hK hP kbl e_62 rfl 9 (by decide) (hts (.fieldLink RX0 55 "HoneyHouse$Blender" "bestPrice" "I") (List.mem_of_getElem? (i := 1) rfl)) (fun _ h9 => h9) rfl dX0_leastPrice_78 ?_
    exact W.iret (v := z_67) hx hb hr (fun t ht hW => ⟨⟨z_67, (), rfl, trivial, ws_57, ty_58, hsm, htx, by rw [ht]; exact hP, va_K.moved hW.alike hK, hD, trivial⟩, hS.F ht⟩) hS.2.2 dX0_leastPrice_81
  have hle1 := mn_le (a := a_19) (p := pa) hz_52 rfl (by omega) (by omega) c_53
  refine lv_iconst (v := 0) hx hb dX0_leastPrice_25 (by decide) ?_
  refine lv_istore_n (lv' := [(2, .int 0), (1, .int (nI a_19)), (0, .ref bl)]) hx hb dX0_leastPrice_26 rfl hl (by decide) rfl (fun ls hl => ?_)
  refine lp_V (nL := 3) (σ := Nat × Int32) (lv := fun x9 => [(2, .int (nI x9.1)), (1, .int (nI a_19)), (0, .ref bl)]) (μ := fun x9 => pa + 1 - x9.1) (J := fun x9 ws9 => sm ρ [0] ws_22 ws9 ∧ (ws9[kbl]? = some (bl, .inr (0, [.ref b0, .int b1, .ref b2, .ref b3, .ref b4, .ref b5, .ref b6, .ref b7, .int b8, .int x9.2, .int (nI pa), .int b11, .int b12, .int b13]))) ∧ (x9.1 ≤ pa + 1)) (fun x9 ws_97 H locs ls hj hP hD hS hl ih_93 => ?_) (0, y9_20) ws_22 _ _ ls ⟨sm.rf _, e_25, (show 0 ≤ pa + 1 from by omega)⟩ hP hD hS (lv_sub hl [0, 1, 2] rfl)
  obtain ⟨b_94, y9_95⟩ := x9
  replace hj : sm ρ [0] ws_22 ws_97 ∧ (ws_97[kbl]? = some (bl, .inr (0, [.ref b0, .int b1, .ref b2, .ref b3, .ref b4, .ref b5, .ref b6, .ref b7, .int b8, .int y9_95, .int (nI pa), .int b11, .int b12, .int b13]))) ∧ (b_94 ≤ pa + 1) := hj
  obtain ⟨hm_98, e_100, hb_96⟩ := hj
  obtain ⟨g_102, e_101, h_103⟩ := hm_98.obj e_25
  obtain ⟨z_104, z_105, z_106, z_107, z_108, z_109, z_110, rfl⟩ := smX0 h_103
  obtain ⟨f_112, e_111⟩ := hm_98.arrI e_36
  obtain ⟨f_114, e_113⟩ := hm_98.arrI e_38
  obtain ⟨f_116, e_115⟩ := hm_98.arrI e_40
  obtain ⟨f_118, e_117⟩ := hm_98.arrI e_42
  obtain ⟨f_120, e_119⟩ := hm_98.arrI e_44
  obtain ⟨f_122, e_121⟩ := hm_98.arrI e_46
  obtain ⟨f_124, e_123⟩ := hm_98.arrI e_48
  have hsm := hsm.tr (hm_98.mono (by decide))
  have hlp_24 := hlp_24.tr (hm_98.mono (by decide))
  have hlp_99 := hm_98
  have hl : lv_has ls 3 [(2, .int (nI b_94)), (1, .int (nI a_19)), (0, .ref bl)] := hl
  refine lv_iload_n hx hb dX0_leastPrice_27 rfl (lv_at hl 0 rfl) ?_
  refine lv_aload_n hx hb dX0_leastPrice_28 rfl (lv_at hl 2 rfl) ?_
  refine va_get (D := D) (ci := 0) (v := .ref b3) (C := RX0) (T := TX0) (N := 14) hx hb hts hin0 hown hK hP kbl e_100 rfl 3 (by decide) (hts (.fieldLink RX0 18 "HoneyHouse$Blender" "mostParts" "[I") (List.mem_of_getElem? (i := 2) rfl)) (fun _ h9 => h9) rfl dX0_leastPrice_29 ?_
  refine lv_iconst (v := 1) hx hb dX0_leastPrice_32 (by decide) ?_
  refine va_iald (f := f_116) (n := 4) hx hb hK hP kb3 tb3 e_115 ub3 (vp_in_iff.mpr (by decide)) dX0_leastPrice_33 ?_
  refine lv_topi (fun z_125 _ => ?_)
  refine lv_aload_n hx hb dX0_leastPrice_34 rfl (lv_at hl 2 rfl) ?_
  refine va_get (D := D) (ci := 0) (v := .int (nI pa)) (C := RX0) (T := TX0) (N := 14) hx hb hts hin0 hown hK hP kbl e_100 rfl 10 (by decide) (hts (.fieldLink RX0 43 "HoneyHouse$Blender" "partsInAll" "I") (List.mem_of_getElem? (i := 3) rfl)) (fun _ h9 => h9) rfl dX0_leastPrice_35 ?_
  refine lv_iload_n hx hb dX0_leastPrice_38 rfl (lv_at hl 1 rfl) ?_
  refine lv_isub hx hb dX0_leastPrice_39 ?_
  refine tp_i (y := nI (pa - a_19)) (pk_sub (a := pa) (b := a_19) (by omega)) ?_
  refine va_mmin hx hb (by rw [hml]; exact hl.1.symm) hown (hts (.methodLink RX0 58 Lib.Math.min.name) (List.mem_of_getElem? (i := 4) rfl)) (hts (.static Lib.Math.min.name) (List.mem_of_getElem? (i := 5) rfl)) (hts (.initialized "java/lang/Math") (List.mem_of_getElem? (i := 6) rfl)) (hts (.code Lib.Math.min.name Lib.Math.min.code 2 (some .int)) (List.mem_of_getElem? (i := 7) rfl)) (Nat.le_of_ble_eq_true rfl) (Nat.le_of_ble_eq_true rfl) (Nat.le_of_ble_eq_true rfl) (Nat.le_of_ble_eq_true rfl) dX0_leastPrice_40 ?_
  refine lv_topi (fun z_126 hz_127 => ?_)
  refine lv_icmp_gt (tgt := 58) hx hb dX0_leastPrice_43 (by decide) (fun c_128 => ?_) (fun c_128 => ?_)
  · refine lv_iinc (v := nI (a_19 + 1)) (lv' := [(1, .int (nI (a_19 + 1))), (2, .int (nI b_94)), (0, .ref bl)]) hx hb dX0_leastPrice_58 hl (k := 1) rfl (nI_add a_19 1) (by decide) rfl (fun ls hl => ?_)
    refine lv_goto (tgt := 8) hx hb dX0_leastPrice_61 (by decide) ?_
    exact ih_18 (a_19 + 1, y9_95) ws_97 _ _ ls (by show pa + 1 - (a_19 + 1) < pa + 1 - a_19; omega) ⟨hlp_24, e_100, (show (a_19 + 1) ≤ pa + 1 from by omega)⟩ hP hD hS (lv_sub hl [0, 2] rfl)
  have hle2 := mn_le (a := b_94) (p := pa - a_19) hz_127 rfl (by omega) (by omega) c_128
  refine lv_aload_n hx hb dX0_leastPrice_46 rfl (lv_at hl 2 rfl) ?_
  refine lv_iload_n hx hb dX0_leastPrice_47 rfl (lv_at hl 1 rfl) ?_
  refine lv_iload_n hx hb dX0_leastPrice_48 rfl (lv_at hl 0 rfl) ?_
  have hFc := free_all hD hS hA
  refine va_callv (va_runV (As := [.int (nI a_19), .int (nI b_94)]) (rest := []) ⟨hx, hb, hml, hown, hts⟩ (a_tryWith l D ρ ws_97 tys bl kbl b0 b2 b3 b4 b5 b6 b7 b1 b8 b11 b12 b13 y9_95 pa kb3 cb3 tb3 f_116 kb4 cb4 tb4 f_118 kb5 cb5 tb5 f_120 kb6 cb6 tb6 f_122 kb7 cb7 tb7 f_124 a_19 b_94 H.size (by omega) (by omega) e_100 e_115 ub3 e_117 ub4 e_119 ub5 e_121 ub6 e_123 ub7 w_kbl w_kb7) (cwV 2 hts gX0_leastPrice_X0_tryWith rfl rfl rfl (by decide +kernel) ⟨Nat.le_of_ble_eq_true rfl, Nat.le_of_ble_eq_true rfl⟩) ⟨fun a U g mk q => by obtain ⟨q0, q1, qP, qK, qD⟩ := q; exact ⟨q0, q1, qP, va_K.moved (u := U) (U := U.calling g mk a) (Vm.Alike.refl U.vm) qK, qD⟩, va_recv hK hP (ci := 0) (q0 := kbl) rfl e_100, fun U hU hW => ⟨rfl, by rw [hU], by rw [hU]; exact hP, va_K.moved hW.alike hK, hD.weaken (fun _ _ _ _ => trivial)⟩⟩ rfl rfl hl.1 rfl (lv_room (Nat.le_of_ble_eq_true rfl)) dX0_leastPrice_49 ⟨Nat.le_of_ble_eq_true rfl, Nat.le_of_ble_eq_true rfl⟩) hS (fun q _ h => hFc q h) hFc (fun u t H1 locs ht hvm w_130 hB hz1 hk1 hS => ?_)
  obtain ⟨ws_131, ty_132, hm_133, ht_135, hP1, hK1, hD1, hx_134⟩ := hB
  rw [ht] at hP1
  have hK := va_K.moved hvm.symm hK1
  have hD := hD1.weaken (fun _ _ _ h => hFc _ h)
  generalize H1 = H at hP1 hS ⊢
  have hP := hP1
  obtain ⟨g_137, e_136, h_138⟩ := hm_133.obj e_100
  obtain ⟨z_139, z_140, z_141, z_142, z_143, z_144, z_145, rfl⟩ := smX0 h_138
  obtain ⟨f_147, e_146⟩ := hm_133.arrI e_111
  have u_148 := ht_135 _ _ ub0
  obtain ⟨f_150, e_149⟩ := hm_133.arrI e_113
  have u_151 := ht_135 _ _ ub2
  obtain ⟨f_153, e_152⟩ := hm_133.arrI e_115
  have u_154 := ht_135 _ _ ub3
  obtain ⟨f_156, e_155⟩ := hm_133.arrI e_117
  have u_157 := ht_135 _ _ ub4
  obtain ⟨f_159, e_158⟩ := hm_133.arrI e_119
  have u_160 := ht_135 _ _ ub5
  obtain ⟨f_162, e_161⟩ := hm_133.arrI e_121
  have u_163 := ht_135 _ _ ub6
  obtain ⟨f_165, e_164⟩ := hm_133.arrI e_123
  have u_166 := ht_135 _ _ ub7
  have hsm := hsm.tr (hm_133.mono (by decide))
  have hlp_24 := hlp_24.tr (hm_133.mono (by decide))
  have hlp_99 := hlp_99.tr (hm_133.mono (by decide))
  have htx := htx.tr ht_135
  obtain ⟨y_167, e_168⟩ := hx_134
  refine lv_iinc (v := nI (b_94 + 1)) (lv' := [(2, .int (nI (b_94 + 1))), (1, .int (nI a_19)), (0, .ref bl)]) hx hb dX0_leastPrice_52 hl (k := 0) rfl (nI_add b_94 1) (by decide) rfl (fun ls hl => ?_)
  refine lv_goto (tgt := 27) hx hb dX0_leastPrice_55 (by decide) ?_
  exact ih_93 (b_94 + 1, y_167) ws_131 _ _ ls (by show pa + 1 - (b_94 + 1) < pa + 1 - b_94; omega) ⟨hlp_99, e_168, (show (b_94 + 1) ≤ pa + 1 from by omega)⟩ hP hD hS (lv_sub hl [0, 1, 2] rfl)
set_option maxHeartbeats 4000000 in
set_option maxRecDepth 100000 in
theorem h_blend (l : Launch) (D : va_G) (ρ : Nat → Nat) (ws : va_W) (tys : List (ClassId × FieldType)) (fv : Nat → Nat → Int32) (h0 lc bc rc fc : Nat) (dn : Int32) (tl : Nat) (a1 a2 a3 a4 a5 : Int32) (sz : Nat) (X : XI ρ fv ws tys h0 lc bc rc fc dn tl) : Met l yX8_blend wsX8_blend ({ frames := 5, cells := 0, slots := 0, locals := 111 }) (va_Pc [.ref h0, .int a1, .int a2, .int a3, .int a4, .int a5] (fun U => U.heap.size = sz ∧ va_P D vwCl ws U.heap ∧ va_K D vwCl tys U ∧ va_D (fun _ => True) ws ∧ NZ U)) (va_Qi (fun (r : Int32) (_ : Unit) => True) (fun (_ : Unit) (t : State) => ∃ (ws' : va_W) (tys' : List (ClassId × FieldType)), sm ρ [0] ws ws' ∧ tyx tys tys' ∧ va_P D vwCl ws' t.heap ∧ va_K D vwCl tys' t ∧ va_D (va_A ws sz) ws' ∧ (XI ρ fv ws' tys' h0 lc bc rc fc dn tl)) (va_A ws sz)) 0 0 (va_A ws sz) := by
  refine Met.ofW (cc := cX8_blend) (maxL := 9) (ret := (some .int)) (by decide) rfl ?_
  intro p e s m args below meth c s₁ B hml hv
  obtain ⟨rfl, hsz, hP, hK, hD0, hnz⟩ := hv
  have hx := B.exec
  have hb := B.bytes
  have hr := B.returns
  have hts := atoms_spec (ws := wsX8_blend) B.pre
  have hown : s.vm.findClass RX8 = some m.cls := findClass_of_methodNamed B.named
  have hlocks := B.notSynchronized
  subst hsz
  have hD := hD0.self (sz := s.heap.size)
  generalize hAe : va_A ws s.heap.size = A at hD ⊢
  have hA : ∀ q : Nat, s.heap.size ≤ q → A q := fun q h => by rw [← hAe]; exact Or.inr h
  have hS : va_S A s.heap s.heap [] := va_S.rf
  have hsm : sm ρ [0] ws ws := sm.rf ws
  have htx : tyx tys tys := tyx.rf tys
  have hin7 : ∀ w ∈ u_ws RX7 TX7 5, w ∈ wsX8_blend := (fun _ h9 => List.mem_cons_of_mem _ (List.mem_append_left _ (List.mem_append_left _ ((List.mem_append_right _ h9)))))
  have hin8 : ∀ w ∈ u_ws RX8 TX8 15, w ∈ wsX8_blend := (fun _ h9 => List.mem_cons_of_mem _ (List.mem_append_left _ (List.mem_append_left _ (List.mem_append_left _ ((List.mem_append_right _ h9))))))
  have hl := lv_entry ([.ref h0, .int a1, .int a2, .int a3, .int a4, .int a5]) (n := 9) (Nat.le_of_ble_eq_true rfl)
  rw [lg_entry_eq]
  generalize (lg_sl ([.ref h0, .int a1, .int a2, .int a3, .int a4, .int a5]) ++ List.replicate (9 - (lg_sl ([.ref h0, .int a1, .int a2, .int a3, .int a4, .int a5])).length) Slot.unset).toArray = ls at hl ⊢
  have hl : lv_has ls 9 [(0, .ref h0), (1, .int a1), (2, .int a2), (3, .int a3), (4, .int a4), (5, .int a5)] := hl
  obtain ⟨k0, la, ta, ba, ra, sn, rd, dr, bl, vd, fb, e0, w0, hle0, hnum, qla, qta, qba, qra, qsn, qrd, qdr, qbl, qvd, qfb⟩ := id X
  obtain ⟨kbl, b0, b2, b3, b4, b5, b6, b7, b1, b8, b9, b10, b11, b12, b13, ebl, wbl, ⟨kb0, cb0, tb0, fb0, eb0, ub0, wb0⟩, ⟨kb2, cb2, tb2, fb2, eb2, ub2, wb2⟩, ⟨kb3, cb3, tb3, fb3, eb3, ub3, wb3⟩, ⟨kb4, cb4, tb4, fb4, eb4, ub4, wb4⟩, ⟨kb5, cb5, tb5, fb5, eb5, ub5, wb5⟩, ⟨kb6, cb6, tb6, fb6, eb6, ub6, wb6⟩, ⟨kb7, cb7, tb7, fb7, eb7, ub7, wb7⟩⟩ := id qbl
  obtain ⟨kta, cta, tta, fta, eta, uta, hta0, hta1⟩ := id qta
  refine lv_iload_n hx hb dX8_blend_0 rfl (lv_at hl 2 rfl) ?_
  refine lv_iconst (v := 1) hx hb dX8_blend_1 (by decide) ?_
  refine lv_bipush (v := 40) hx hb dX8_blend_2 (by decide) ?_
  refine vp_callSi (W.runS (As := [.int a2, .int 1, .int 40]) (rest := []) ⟨hx, hb, hml, hown, hts⟩ (s_X8_isIn l a2 1 40) (va_cwS 3 hts gX8_blend_X8_isIn rfl rfl rfl (by decide +kernel) ⟨Nat.le_of_ble_eq_true rfl, Nat.le_of_ble_eq_true rfl⟩) ⟨fun a U g mk q => q, fun U hU hW => ⟨rfl, trivial⟩⟩ rfl rfl hl.1 rfl (lv_room (Nat.le_of_ble_eq_true rfl)) dX8_blend_4 ⟨Nat.le_of_ble_eq_true rfl, Nat.le_of_ble_eq_true rfl⟩) (fun r_1 k_2 => ?_)
  rcases k_2 with ⟨rfl, o_3⟩ | ⟨rfl, a_4, b_5⟩
  · refine lv_if_eq (tgt := 49) hx hb dX8_blend_7 (by decide) (fun c_9 => ?_) (fun c_9 => absurd (by decide) c_9)
    refine lv_iconst (v := 0) hx hb dX8_blend_49 (by decide) ?_
    refine lv_istore (lv' := [(6, .int 0), (0, .ref h0), (1, .int a1), (2, .int a2), (3, .int a3), (4, .int a4), (5, .int a5)]) hx hb dX8_blend_50 hl (by decide) rfl (fun ls hl => ?_)
    refine lv_iload hx hb dX8_blend_52 (lv_at hl 0 rfl) ?_
    refine lv_if_eq (tgt := 65) hx hb dX8_blend_54 (by decide) (fun c_10 => ?_) (fun c_10 => absurd (by decide) c_10)
    refine lv_iconst (v := (-1)) hx hb dX8_blend_65 (by decide) ?_
    exact W.iret (v := (-1)) hx hb hr (fun t ht hW => ⟨⟨(-1), (), rfl, trivial, ws, tys, hsm, htx, by rw [ht]; exact hP, va_K.moved hW.alike hK, hD, X.sm hsm htx (by decide) (by decide)⟩, hS.F ht⟩) hS.2.2 dX8_blend_66
  obtain ⟨j_6, hj_7, hj_8, rfl⟩ := is_nat (a := 1) (b := 40) a_4 b_5 (by omega)
  refine lv_if_eq (tgt := 49) hx hb dX8_blend_7 (by decide) (fun c_11 => absurd c_11 (by decide)) (fun c_11 => ?_)
  refine lv_iload_n hx hb dX8_blend_10 rfl (lv_at hl 3 rfl) ?_
  refine lv_iconst (v := 0) hx hb dX8_blend_11 (by decide) ?_
  refine lv_sipush (v := 300) hx hb dX8_blend_12 (by decide) ?_
  refine vp_callSi (W.runS (As := [.int a3, .int 0, .int 300]) (rest := []) ⟨hx, hb, hml, hown, hts⟩ (s_X8_isIn l a3 0 300) (va_cwS 3 hts gX8_blend_X8_isIn rfl rfl rfl (by decide +kernel) ⟨Nat.le_of_ble_eq_true rfl, Nat.le_of_ble_eq_true rfl⟩) ⟨fun a U g mk q => q, fun U hU hW => ⟨rfl, trivial⟩⟩ rfl rfl hl.1 rfl (lv_room (Nat.le_of_ble_eq_true rfl)) dX8_blend_15 ⟨Nat.le_of_ble_eq_true rfl, Nat.le_of_ble_eq_true rfl⟩) (fun r_12 k_13 => ?_)
  rcases k_13 with ⟨rfl, -⟩ | ⟨rfl, -, -⟩
  · refine lv_if_eq (tgt := 49) hx hb dX8_blend_18 (by decide) (fun c_14 => ?_) (fun c_14 => absurd (by decide) c_14)
    refine lv_iconst (v := 0) hx hb dX8_blend_49 (by decide) ?_
    refine lv_istore (lv' := [(6, .int 0), (0, .ref h0), (1, .int a1), (2, .int (nI j_6)), (3, .int a3), (4, .int a4), (5, .int a5)]) hx hb dX8_blend_50 hl (by decide) rfl (fun ls hl => ?_)
    refine lv_iload hx hb dX8_blend_52 (lv_at hl 0 rfl) ?_
    refine lv_if_eq (tgt := 65) hx hb dX8_blend_54 (by decide) (fun c_15 => ?_) (fun c_15 => absurd (by decide) c_15)
    refine lv_iconst (v := (-1)) hx hb dX8_blend_65 (by decide) ?_
    exact W.iret (v := (-1)) hx hb hr (fun t ht hW => ⟨⟨(-1), (), rfl, trivial, ws, tys, hsm, htx, by rw [ht]; exact hP, va_K.moved hW.alike hK, hD, X.sm hsm htx (by decide) (by decide)⟩, hS.F ht⟩) hS.2.2 dX8_blend_66
  refine lv_if_eq (tgt := 49) hx hb dX8_blend_18 (by decide) (fun c_16 => absurd c_16 (by decide)) (fun c_16 => ?_)
  refine lv_iload hx hb dX8_blend_21 (lv_at hl 4 rfl) ?_
  refine lv_iconst (v := 0) hx hb dX8_blend_23 (by decide) ?_
  refine lv_sipush (v := 140) hx hb dX8_blend_24 (by decide) ?_
  refine vp_callSi (W.runS (As := [.int a4, .int 0, .int 140]) (rest := []) ⟨hx, hb, hml, hown, hts⟩ (s_X8_isIn l a4 0 140) (va_cwS 3 hts gX8_blend_X8_isIn rfl rfl rfl (by decide +kernel) ⟨Nat.le_of_ble_eq_true rfl, Nat.le_of_ble_eq_true rfl⟩) ⟨fun a U g mk q => q, fun U hU hW => ⟨rfl, trivial⟩⟩ rfl rfl hl.1 rfl (lv_room (Nat.le_of_ble_eq_true rfl)) dX8_blend_27 ⟨Nat.le_of_ble_eq_true rfl, Nat.le_of_ble_eq_true rfl⟩) (fun r_17 k_18 => ?_)
  rcases k_18 with ⟨rfl, -⟩ | ⟨rfl, -, -⟩
  · refine lv_if_eq (tgt := 49) hx hb dX8_blend_30 (by decide) (fun c_19 => ?_) (fun c_19 => absurd (by decide) c_19)
    refine lv_iconst (v := 0) hx hb dX8_blend_49 (by decide) ?_
    refine lv_istore (lv' := [(6, .int 0), (0, .ref h0), (1, .int a1), (2, .int (nI j_6)), (3, .int a3), (4, .int a4), (5, .int a5)]) hx hb dX8_blend_50 hl (by decide) rfl (fun ls hl => ?_)
    refine lv_iload hx hb dX8_blend_52 (lv_at hl 0 rfl) ?_
    refine lv_if_eq (tgt := 65) hx hb dX8_blend_54 (by decide) (fun c_20 => ?_) (fun c_20 => absurd (by decide) c_20)
    refine lv_iconst (v := (-1)) hx hb dX8_blend_65 (by decide) ?_
    exact W.iret (v := (-1)) hx hb hr (fun t ht hW => ⟨⟨(-1), (), rfl, trivial, ws, tys, hsm, htx, by rw [ht]; exact hP, va_K.moved hW.alike hK, hD, X.sm hsm htx (by decide) (by decide)⟩, hS.F ht⟩) hS.2.2 dX8_blend_66
  refine lv_if_eq (tgt := 49) hx hb dX8_blend_30 (by decide) (fun c_21 => absurd c_21 (by decide)) (fun c_21 => ?_)
  refine lv_iload hx hb dX8_blend_33 (lv_at hl 5 rfl) ?_
  refine lv_iconst (v := 0) hx hb dX8_blend_35 (by decide) ?_
  refine lv_sipush (v := 140) hx hb dX8_blend_36 (by decide) ?_
  refine vp_callSi (W.runS (As := [.int a5, .int 0, .int 140]) (rest := []) ⟨hx, hb, hml, hown, hts⟩ (s_X8_isIn l a5 0 140) (va_cwS 3 hts gX8_blend_X8_isIn rfl rfl rfl (by decide +kernel) ⟨Nat.le_of_ble_eq_true rfl, Nat.le_of_ble_eq_true rfl⟩) ⟨fun a U g mk q => q, fun U hU hW => ⟨rfl, trivial⟩⟩ rfl rfl hl.1 rfl (lv_room (Nat.le_of_ble_eq_true rfl)) dX8_blend_39 ⟨Nat.le_of_ble_eq_true rfl, Nat.le_of_ble_eq_true rfl⟩) (fun r_22 k_23 => ?_)
  rcases k_23 with ⟨rfl, -⟩ | ⟨rfl, -, -⟩
  · refine lv_if_eq (tgt := 49) hx hb dX8_blend_42 (by decide) (fun c_24 => ?_) (fun c_24 => absurd (by decide) c_24)
    refine lv_iconst (v := 0) hx hb dX8_blend_49 (by decide) ?_
    refine lv_istore (lv' := [(6, .int 0), (0, .ref h0), (1, .int a1), (2, .int (nI j_6)), (3, .int a3), (4, .int a4), (5, .int a5)]) hx hb dX8_blend_50 hl (by decide) rfl (fun ls hl => ?_)
    refine lv_iload hx hb dX8_blend_52 (lv_at hl 0 rfl) ?_
    refine lv_if_eq (tgt := 65) hx hb dX8_blend_54 (by decide) (fun c_25 => ?_) (fun c_25 => absurd (by decide) c_25)
    refine lv_iconst (v := (-1)) hx hb dX8_blend_65 (by decide) ?_
    exact W.iret (v := (-1)) hx hb hr (fun t ht hW => ⟨⟨(-1), (), rfl, trivial, ws, tys, hsm, htx, by rw [ht]; exact hP, va_K.moved hW.alike hK, hD, X.sm hsm htx (by decide) (by decide)⟩, hS.F ht⟩) hS.2.2 dX8_blend_66
  refine lv_if_eq (tgt := 49) hx hb dX8_blend_42 (by decide) (fun c_26 => absurd c_26 (by decide)) (fun c_26 => ?_)
  refine lv_iconst (v := 1) hx hb dX8_blend_45 (by decide) ?_
  refine lv_goto (tgt := 50) hx hb dX8_blend_46 (by decide) ?_
  refine lv_istore (lv' := [(6, .int 1), (0, .ref h0), (1, .int a1), (2, .int (nI j_6)), (3, .int a3), (4, .int a4), (5, .int a5)]) hx hb dX8_blend_50 hl (by decide) rfl (fun ls hl => ?_)
  refine lv_iload hx hb dX8_blend_52 (lv_at hl 0 rfl) ?_
  refine lv_if_eq (tgt := 65) hx hb dX8_blend_54 (by decide) (fun c_27 => absurd c_27 (by decide)) (fun c_27 => ?_)
  refine lv_aload_n hx hb dX8_blend_57 rfl (lv_at hl 1 rfl) ?_
  refine lv_iload_n hx hb dX8_blend_58 rfl (lv_at hl 2 rfl) ?_
  have hFc := free_all hD hS hA
  refine va_calli (va_runV (As := [.int a1]) (rest := []) ⟨hx, hb, hml, hown, hts⟩ (a_areTanks l D ρ ws tys fv h0 lc bc rc fc dn tl a1 s.heap.size (X.sm hsm htx (by decide) (by decide))) (cwV 1 hts gX8_blend_X8_areTanksToBlend rfl rfl rfl (by decide +kernel) ⟨Nat.le_of_ble_eq_true rfl, Nat.le_of_ble_eq_true rfl⟩) ⟨fun a U g mk q => by obtain ⟨q0, q1, qP, qK, qD, qZ⟩ := q; exact ⟨q0, q1, qP, va_K.moved (u := U) (U := U.calling g mk a) (Vm.Alike.refl U.vm) qK, qD, NZ.same rfl qZ⟩, va_recv hK hP (ci := 8) (q0 := k0) rfl e0, fun U hU hW => ⟨rfl, by rw [hU], by rw [hU]; exact hP, va_K.moved hW.alike hK, hD.weaken (fun _ _ _ _ => trivial), NZ.warm hW hnz⟩⟩ rfl rfl hl.1 rfl (lv_room (Nat.le_of_ble_eq_true rfl)) dX8_blend_59 ⟨Nat.le_of_ble_eq_true rfl, Nat.le_of_ble_eq_true rfl⟩) hS (fun q _ h => hFc q h) hFc (fun r_28 u t H1 locs ht hvm w_29 hB hz1 hk1 hS => ?_)
  obtain ⟨ws_30, ty_31, hm_32, ht_34, hP1, hK1, hD1, hx_33⟩ := hB
  rw [ht] at hP1
  have hK := va_K.moved hvm.symm hK1
  have hD := hD1.weaken (fun _ _ _ h => hFc _ h)
  generalize H1 = H at hP1 hS ⊢
  have hP := hP1
  have e_35 := hm_32.objK e0 (by decide)
  have e_36 := hm_32.arrQ eta
  have u_37 := ht_34 _ _ uta
  have e_38 := hm_32.objK ebl (by decide)
  obtain ⟨f_40, e_39⟩ := hm_32.arrI eb0
  have u_41 := ht_34 _ _ ub0
  obtain ⟨f_43, e_42⟩ := hm_32.arrI eb2
  have u_44 := ht_34 _ _ ub2
  obtain ⟨f_46, e_45⟩ := hm_32.arrI eb3
  have u_47 := ht_34 _ _ ub3
  obtain ⟨f_49, e_48⟩ := hm_32.arrI eb4
  have u_50 := ht_34 _ _ ub4
  obtain ⟨f_52, e_51⟩ := hm_32.arrI eb5
  have u_53 := ht_34 _ _ ub5
  obtain ⟨f_55, e_54⟩ := hm_32.arrI eb6
  have u_56 := ht_34 _ _ ub6
  obtain ⟨f_58, e_57⟩ := hm_32.arrI eb7
  have u_59 := ht_34 _ _ ub7
  have hsm := hsm.tr (hm_32.mono (by decide))
  have htx := htx.tr ht_34
  rcases w_29 with rfl | rfl
  · refine lv_if_ne (tgt := 67) hx hb dX8_blend_62 (by decide) (fun c_60 => absurd (by decide) c_60) (fun c_60 => ?_)
    refine lv_iconst (v := (-1)) hx hb dX8_blend_65 (by decide) ?_
    exact W.iret (v := (-1)) hx hb hr (fun t ht hW => ⟨⟨(-1), (), rfl, trivial, ws_30, ty_31, hsm, htx, by rw [ht]; exact hP, va_K.moved hW.alike hK, hD, X.sm hsm htx (by decide) (by decide)⟩, hS.F ht⟩) hS.2.2 dX8_blend_66
  refine lv_if_ne (tgt := 67) hx hb dX8_blend_62 (by decide) (fun c_61 => ?_) (fun c_61 => absurd c_61 (by decide))
  refine lv_aload_n hx hb dX8_blend_67 rfl (lv_at hl 1 rfl) ?_
  refine va_get (D := D) (ci := 8) (v := .ref bl) (C := RX8) (T := TX8) (N := 15) hx hb hts hin8 hown hK hP k0 e_35 rfl 7 (by decide) (hts (.fieldLink RX8 54 "HoneyHouse" "blender" "LHoneyHouse$Blender;") (List.mem_of_getElem? (i := 1) rfl)) (fun _ h9 => h9) rfl dX8_blend_68 ?_
  refine lv_iload_n hx hb dX8_blend_71 rfl (lv_at hl 3 rfl) ?_
  refine lv_iload_n hx hb dX8_blend_72 rfl (lv_at hl 4 rfl) ?_
  refine lv_iload hx hb dX8_blend_73 (lv_at hl 5 rfl) ?_
  refine lv_iload hx hb dX8_blend_75 (lv_at hl 6 rfl) ?_
  have hFc := free_all hD hS hA
  refine va_callv (va_runV (As := [.int (nI j_6), .int a3, .int a4, .int a5]) (rest := []) ⟨hx, hb, hml, hown, hts⟩ (a_begin l D ρ ws_30 ty_31 bl kbl b0 b2 b3 b4 b5 b6 b7 b1 b8 b9 b10 b11 b12 b13 kb3 cb3 tb3 f_46 (nI j_6) a3 a4 a5 H.size e_38 e_45 u_47 wbl wb3) (cwV 4 hts gX8_blend_X0_begin rfl rfl rfl (by decide +kernel) ⟨Nat.le_of_ble_eq_true rfl, Nat.le_of_ble_eq_true rfl⟩) ⟨fun a U g mk q => by obtain ⟨q0, q1, qP, qK, qD⟩ := q; exact ⟨q0, q1, qP, va_K.moved (u := U) (U := U.calling g mk a) (Vm.Alike.refl U.vm) qK, qD⟩, va_recv hK hP (ci := 0) (q0 := kbl) rfl e_38, fun U hU hW => ⟨rfl, by rw [hU], by rw [hU]; exact hP, va_K.moved hW.alike hK, hD.weaken (fun _ _ _ _ => trivial)⟩⟩ rfl rfl hl.1 rfl (lv_room (Nat.le_of_ble_eq_true rfl)) dX8_blend_77 ⟨Nat.le_of_ble_eq_true rfl, Nat.le_of_ble_eq_true rfl⟩) hS (fun q _ h => hFc q h) hFc (fun u t H1 locs ht hvm w_63 hB hz1 hk1 hS => ?_)
  obtain ⟨ws_64, ty_65, hm_66, ht_68, hP1, hK1, hD1, hx_67⟩ := hB
  rw [ht] at hP1
  have hK := va_K.moved hvm.symm hK1
  have hD := hD1.weaken (fun _ _ _ h => hFc _ h)
  generalize H1 = H at hP1 hS ⊢
  have hP := hP1
  have e_69 := hm_66.objK e_35 (by decide)
  have e_70 := hm_66.arrQ e_36
  have u_71 := ht_68 _ _ u_37
  obtain ⟨g_73, e_72, h_74⟩ := hm_66.obj e_38
  obtain ⟨z_75, z_76, z_77, z_78, z_79, z_80, z_81, rfl⟩ := smX0 h_74
  obtain ⟨f_83, e_82⟩ := hm_66.arrI e_39
  have u_84 := ht_68 _ _ u_41
  obtain ⟨f_86, e_85⟩ := hm_66.arrI e_42
  have u_87 := ht_68 _ _ u_44
  obtain ⟨f_89, e_88⟩ := hm_66.arrI e_45
  have u_90 := ht_68 _ _ u_47
  obtain ⟨f_92, e_91⟩ := hm_66.arrI e_48
  have u_93 := ht_68 _ _ u_50
  obtain ⟨f_95, e_94⟩ := hm_66.arrI e_51
  have u_96 := ht_68 _ _ u_53
  obtain ⟨f_98, e_97⟩ := hm_66.arrI e_54
  have u_99 := ht_68 _ _ u_56
  obtain ⟨f_101, e_100⟩ := hm_66.arrI e_57
  have u_102 := ht_68 _ _ u_59
  have hsm := hsm.tr (hm_66.mono (by decide))
  have htx := htx.tr ht_68
  obtain ⟨y_103, y_104, y_105, e_106⟩ := hx_67
  refine lv_iconst (v := 0) hx hb dX8_blend_80 (by decide) ?_
  refine lv_istore (lv' := [(7, .int 0), (6, .int 1), (0, .ref h0), (1, .int a1), (2, .int (nI j_6)), (3, .int a3), (4, .int a4), (5, .int a5)]) hx hb dX8_blend_81 hl (by decide) rfl (fun ls hl => ?_)
  refine lp_V (nL := 9) (σ := Nat × Nat) (lv := fun x9 => [(7, .int (nI x9.1)), (1, .int a1), (0, .ref h0)]) (μ := fun x9 => 10 - x9.1) (J := fun x9 ws9 => sm ρ [0] ws_64 ws9 ∧ (ws9[kbl]? = some (bl, .inr (0, [.ref b0, .int b1, .ref b2, .ref b3, .ref b4, .ref b5, .ref b6, .ref b7, .int (nI x9.2), .int b9, .int (nI j_6), .int y_103, .int y_104, .int y_105]))) ∧ (x9.1 ≤ 10) ∧ (x9.2 ≤ 4)) (fun x9 ws_112 H locs ls hj hP hD hS hl ih_107 => ?_) (0, 0) ws_64 _ _ ls ⟨sm.rf _, e_106, (show 0 ≤ 10 from by omega), (show 0 ≤ 4 from by omega)⟩ hP hD hS (lv_sub hl [0, 3, 2] rfl)
  obtain ⟨i_108, c8_109⟩ := x9
  replace hj : sm ρ [0] ws_64 ws_112 ∧ (ws_112[kbl]? = some (bl, .inr (0, [.ref b0, .int b1, .ref b2, .ref b3, .ref b4, .ref b5, .ref b6, .ref b7, .int (nI c8_109), .int b9, .int (nI j_6), .int y_103, .int y_104, .int y_105]))) ∧ (i_108 ≤ 10) ∧ (c8_109 ≤ 4) := hj
  obtain ⟨hm_113, e_115, hi_110, hc_111⟩ := hj
  have e_116 := hm_113.objK e_69 (by decide)
  have e_117 := hm_113.arrQ e_70
  obtain ⟨g_119, e_118, h_120⟩ := hm_113.obj e_106
  obtain ⟨z_121, z_122, z_123, z_124, z_125, z_126, z_127, rfl⟩ := smX0 h_120
  obtain ⟨f_129, e_128⟩ := hm_113.arrI e_82
  obtain ⟨f_131, e_130⟩ := hm_113.arrI e_85
  obtain ⟨f_133, e_132⟩ := hm_113.arrI e_88
  obtain ⟨f_135, e_134⟩ := hm_113.arrI e_91
  obtain ⟨f_137, e_136⟩ := hm_113.arrI e_94
  obtain ⟨f_139, e_138⟩ := hm_113.arrI e_97
  obtain ⟨f_141, e_140⟩ := hm_113.arrI e_100
  have hsm := hsm.tr (hm_113.mono (by decide))
  have hlp_114 := hm_113
  have hl : lv_has ls 9 [(7, .int (nI i_108)), (1, .int a1), (0, .ref h0)] := hl
  refine lv_iload hx hb dX8_blend_83 (lv_at hl 0 rfl) ?_
  refine lv_aload_n hx hb dX8_blend_85 rfl (lv_at hl 2 rfl) ?_
  refine va_get (D := D) (ci := 8) (v := .ref ta) (C := RX8) (T := TX8) (N := 15) hx hb hts hin8 hown hK hP k0 e_116 rfl 1 (by decide) (hts (.fieldLink RX8 17 "HoneyHouse" "tanks" "[LHoneyHouse$Vessel;") (List.mem_of_getElem? (i := 2) rfl)) (fun _ h9 => h9) rfl dX8_blend_86 ?_
  refine va_alen (v := 10) hx hb hK hP kta tta e_117 u_71 rfl dX8_blend_89 ?_
  refine lv_icmp_ge (tgt := 159) hx hb dX8_blend_90 (by decide) (fun c_142 => ?_) (fun c_142 => ?_)
  · have d_143 := n_le (a := 10) (b := i_108) (by omega) (by omega) c_142
    refine lv_aload_n hx hb dX8_blend_159 rfl (lv_at hl 2 rfl) ?_
    refine va_get (D := D) (ci := 8) (v := .ref bl) (C := RX8) (T := TX8) (N := 15) hx hb hts hin8 hown hK hP k0 e_116 rfl 7 (by decide) (hts (.fieldLink RX8 54 "HoneyHouse" "blender" "LHoneyHouse$Blender;") (List.mem_of_getElem? (i := 1) rfl)) (fun _ h9 => h9) rfl dX8_blend_160 ?_
    have hFc := free_all hD hS hA
    refine va_calli (va_runV (As := []) (rest := []) ⟨hx, hb, hml, hown, hts⟩ (a_leastPrice l D ρ ws_112 ty_65 bl kbl b0 b2 b3 b4 b5 b6 b7 b1 (nI c8_109) y_103 y_104 y_105 b9 j_6 kb0 cb0 tb0 f_129 kb2 cb2 tb2 f_131 kb3 cb3 tb3 f_133 kb4 cb4 tb4 f_135 kb5 cb5 tb5 f_137 kb6 cb6 tb6 f_139 kb7 cb7 tb7 f_141 H.size (by omega) e_115 e_128 u_84 e_130 u_87 e_132 u_90 e_134 u_93 e_136 u_96 e_138 u_99 e_140 u_102 wbl wb0 wb7) (cwV 0 hts gX8_blend_X0_leastPrice rfl rfl rfl (by decide +kernel) ⟨Nat.le_of_ble_eq_true rfl, Nat.le_of_ble_eq_true rfl⟩) ⟨fun a U g mk q => by obtain ⟨q0, q1, qP, qK, qD⟩ := q; exact ⟨q0, q1, qP, va_K.moved (u := U) (U := U.calling g mk a) (Vm.Alike.refl U.vm) qK, qD⟩, va_recv hK hP (ci := 0) (q0 := kbl) rfl e_115, fun U hU hW => ⟨rfl, by rw [hU], by rw [hU]; exact hP, va_K.moved hW.alike hK, hD.weaken (fun _ _ _ _ => trivial)⟩⟩ rfl rfl hl.1 rfl (lv_room (Nat.le_of_ble_eq_true rfl)) dX8_blend_163 ⟨Nat.le_of_ble_eq_true rfl, Nat.le_of_ble_eq_true rfl⟩) hS (fun q _ h => hFc q h) hFc (fun r_144 u t H1 locs ht hvm w_145 hB hz1 hk1 hS => ?_)
    obtain ⟨ws_146, ty_147, hm_148, ht_150, hP1, hK1, hD1, hx_149⟩ := hB
    rw [ht] at hP1
    have hK := va_K.moved hvm.symm hK1
    have hD := hD1.weaken (fun _ _ _ h => hFc _ h)
    generalize H1 = H at hP1 hS ⊢
    have hP := hP1
    have e_151 := hm_148.objK e_116 (by decide)
    have e_152 := hm_148.arrQ e_117
    have u_153 := ht_150 _ _ u_71
    obtain ⟨g_155, e_154, h_156⟩ := hm_148.obj e_115
    obtain ⟨z_157, z_158, z_159, z_160, z_161, z_162, z_163, rfl⟩ := smX0 h_156
    obtain ⟨f_165, e_164⟩ := hm_148.arrI e_128
    have u_166 := ht_150 _ _ u_84
    obtain ⟨f_168, e_167⟩ := hm_148.arrI e_130
    have u_169 := ht_150 _ _ u_87
    obtain ⟨f_171, e_170⟩ := hm_148.arrI e_132
    have u_172 := ht_150 _ _ u_90
    obtain ⟨f_174, e_173⟩ := hm_148.arrI e_134
    have u_175 := ht_150 _ _ u_93
    obtain ⟨f_177, e_176⟩ := hm_148.arrI e_136
    have u_178 := ht_150 _ _ u_96
    obtain ⟨f_180, e_179⟩ := hm_148.arrI e_138
    have u_181 := ht_150 _ _ u_99
    obtain ⟨f_183, e_182⟩ := hm_148.arrI e_140
    have u_184 := ht_150 _ _ u_102
    have hsm := hsm.tr (hm_148.mono (by decide))
    have hlp_114 := hlp_114.tr (hm_148.mono (by decide))
    have htx := htx.tr ht_150
    exact W.iret (v := r_144) hx hb hr (fun t ht hW => ⟨⟨r_144, (), rfl, trivial, ws_146, ty_147, hsm, htx, by rw [ht]; exact hP, va_K.moved hW.alike hK, hD, X.sm hsm htx (by decide) (by decide)⟩, hS.F ht⟩) hS.2.2 dX8_blend_166
  have d_185 := n_nle (a := 10) (b := i_108) (by omega) (by omega) c_142
  refine lv_aload_n hx hb dX8_blend_93 rfl (lv_at hl 2 rfl) ?_
  refine va_get (D := D) (ci := 8) (v := .ref ta) (C := RX8) (T := TX8) (N := 15) hx hb hts hin8 hown hK hP k0 e_116 rfl 1 (by decide) (hts (.fieldLink RX8 17 "HoneyHouse" "tanks" "[LHoneyHouse$Vessel;") (List.mem_of_getElem? (i := 2) rfl)) (fun _ h9 => h9) rfl dX8_blend_94 ?_
  refine lv_iload hx hb dX8_blend_97 (lv_at hl 0 rfl) ?_
  refine va_aldq (f := fta) (n := 10) hx hb hK hP kta tta e_117 u_71 (vp_in_nI (n := i_108) (by omega) (by omega)) dX8_blend_99 ?_
  obtain ⟨r_186, er_187⟩ : ∃ r, r = fta (nI i_108).toNatClampNeg := ⟨_, rfl⟩
  refine tp_v (y := va_rf r_186) (by rw [er_187]) ?_
  rw [nI_clamp (n := i_108) (by omega)] at er_187
  obtain ⟨v_188, ev_189, hV_190⟩ := hta1 i_108 (by omega)
  rw [ev_189] at er_187
  subst er_187
  have hV_191 := hV_190.sm hsm htx (fun k _ h1 h2 => by omega)
  obtain ⟨k_192, g_193, e_194, wk_195, k_196, c9_197, t_198, f_199, e_200, u_201, wr_202, g_203⟩ := hV_191
  refine tp_v (y := .ref v_188) rfl ?_
  refine lv_astore (lv' := [(8, .ref v_188), (7, .int (nI i_108)), (1, .int a1), (0, .ref h0)]) hx hb dX8_blend_100 hl (by decide) rfl (fun ls hl => ?_)
  refine lv_aload hx hb dX8_blend_102 (lv_at hl 0 rfl) ?_
  refine lv_ifnull hx hb dX8_blend_104 ?_
  refine lv_iload_n hx hb dX8_blend_107 rfl (lv_at hl 2 rfl) ?_
  refine lv_iload hx hb dX8_blend_108 (lv_at hl 1 rfl) ?_
  refine vp_callSi (W.runS (As := [.int a1, .int (nI i_108)]) (rest := []) ⟨hx, hb, hml, hown, hts⟩ (s_X8_hasBit l a1 (nI i_108)) (va_cwS 2 hts gX8_blend_X8_hasBit rfl rfl rfl (by decide +kernel) ⟨Nat.le_of_ble_eq_true rfl, Nat.le_of_ble_eq_true rfl⟩) ⟨fun a U g mk q => q, fun U hU hW => ⟨rfl, trivial⟩⟩ rfl rfl hl.1 rfl (lv_room (Nat.le_of_ble_eq_true rfl)) dX8_blend_110 ⟨Nat.le_of_ble_eq_true rfl, Nat.le_of_ble_eq_true rfl⟩) (fun r_204 k_205 => ?_)
  rcases k_205 with rfl | rfl
  · refine lv_if_eq (tgt := 153) hx hb dX8_blend_113 (by decide) (fun c_206 => ?_) (fun c_206 => absurd (by decide) c_206)
    refine lv_iinc (v := nI (i_108 + 1)) (lv' := [(7, .int (nI (i_108 + 1))), (8, .ref v_188), (1, .int a1), (0, .ref h0)]) hx hb dX8_blend_153 hl (k := 1) rfl (nI_add i_108 1) (by decide) rfl (fun ls hl => ?_)
    refine lv_goto (tgt := 83) hx hb dX8_blend_156 (by decide) ?_
    exact ih_107 (i_108 + 1, c8_109) ws_112 _ _ ls (by show 10 - (i_108 + 1) < 10 - i_108; omega) ⟨hlp_114, e_115, (show (i_108 + 1) ≤ 10 from by omega), (show c8_109 ≤ 4 from by omega)⟩ hP hD hS (lv_sub hl [0, 2, 3] rfl)
  refine lv_if_eq (tgt := 153) hx hb dX8_blend_113 (by decide) (fun c_207 => absurd c_207 (by decide)) (fun c_207 => ?_)
  refine lv_aload_n hx hb dX8_blend_116 rfl (lv_at hl 3 rfl) ?_
  refine va_get (D := D) (ci := 8) (v := .ref bl) (C := RX8) (T := TX8) (N := 15) hx hb hts hin8 hown hK hP k0 e_116 rfl 7 (by decide) (hts (.fieldLink RX8 54 "HoneyHouse" "blender" "LHoneyHouse$Blender;") (List.mem_of_getElem? (i := 1) rfl)) (fun _ h9 => h9) rfl dX8_blend_117 ?_
  refine lv_iload hx hb dX8_blend_120 (lv_at hl 1 rfl) ?_
  refine lv_aload hx hb dX8_blend_122 (lv_at hl 0 rfl) ?_
  refine va_get (D := D) (ci := 7) (v := .int (mall (fv 9) (0 + i_108) 40)) (C := RX7) (T := TX7) (N := 5) hx hb hts hin7 hown hK hP k_192 e_194 rfl 1 (by decide) (hts (.fieldLink RX8 144 "HoneyHouse$Vessel" "total" "I") (List.mem_of_getElem? (i := 3) rfl)) (fun _ h9 => h9) rfl dX8_blend_124 ?_
  refine lv_sipush (v := 1000) hx hb dX8_blend_127 (by decide) ?_
  refine lv_idiv hx hb dX8_blend_130 (by decide) ?_
  refine lv_topi (fun z_208 _ => ?_)
  refine lv_aload_n hx hb dX8_blend_131 rfl (lv_at hl 3 rfl) ?_
  refine lv_aload hx hb dX8_blend_132 (lv_at hl 0 rfl) ?_
  refine lv_iconst (v := 0) hx hb dX8_blend_134 (by decide) ?_
  have hFc := free_all hD hS hA
  refine va_calli (va_runV (As := [.ref v_188, .int 0]) (rest := [.int z_208, .int (nI i_108), .ref bl]) ⟨hx, hb, hml, hown, hts⟩ (a_told l D ρ ws_112 ty_65 fv h0 lc bc rc fc dn tl v_188 k_192 (mall (fv 9) (0 + i_108) 40) (fv 10 (0 + i_108)) (fv 11 (0 + i_108)) (fv 12 (0 + i_108)) g_193 k_196 c9_197 t_198 f_199 0 H.size (X.sm hsm htx (by decide) (by decide)) (by rw [wk_195]; omega) (by rw [wr_202]; omega) e_194 e_200 u_201) (cwV 2 hts gX8_blend_X8_told rfl rfl rfl (by decide +kernel) ⟨Nat.le_of_ble_eq_true rfl, Nat.le_of_ble_eq_true rfl⟩) ⟨fun a U g mk q => by obtain ⟨q0, q1, qP, qK, qD, qZ⟩ := q; exact ⟨q0, q1, qP, va_K.moved (u := U) (U := U.calling g mk a) (Vm.Alike.refl U.vm) qK, qD, NZ.same rfl qZ⟩, va_recv hK hP (ci := 8) (q0 := k0) rfl e_116, fun U hU hW => ⟨rfl, by rw [hU], by rw [hU]; exact hP, va_K.moved hW.alike hK, hD.weaken (fun _ _ _ _ => trivial), NZ.warm hW hnz⟩⟩ rfl rfl hl.1 rfl (lv_room (Nat.le_of_ble_eq_true rfl)) dX8_blend_135 ⟨Nat.le_of_ble_eq_true rfl, Nat.le_of_ble_eq_true rfl⟩) hS (fun q _ h => hFc q h) hFc (fun r_209 u t H1 locs ht hvm w_210 hB hz1 hk1 hS => ?_)
  obtain ⟨ws_211, ty_212, hm_213, ht_215, hP1, hK1, hD1, hx_214⟩ := hB
  rw [ht] at hP1
  have hK := va_K.moved hvm.symm hK1
  have hD := hD1.weaken (fun _ _ _ h => hFc _ h)
  generalize H1 = H at hP1 hS ⊢
  have hP := hP1
  have e_216 := hm_213.objK e_116 (by decide)
  have e_217 := hm_213.arrQ e_117
  have u_218 := ht_215 _ _ u_71
  have e_219 := hm_213.objK e_115 (by decide)
  obtain ⟨f_221, e_220⟩ := hm_213.arrI e_128
  have u_222 := ht_215 _ _ u_84
  obtain ⟨f_224, e_223⟩ := hm_213.arrI e_130
  have u_225 := ht_215 _ _ u_87
  obtain ⟨f_227, e_226⟩ := hm_213.arrI e_132
  have u_228 := ht_215 _ _ u_90
  obtain ⟨f_230, e_229⟩ := hm_213.arrI e_134
  have u_231 := ht_215 _ _ u_93
  obtain ⟨f_233, e_232⟩ := hm_213.arrI e_136
  have u_234 := ht_215 _ _ u_96
  obtain ⟨f_236, e_235⟩ := hm_213.arrI e_138
  have u_237 := ht_215 _ _ u_99
  obtain ⟨f_239, e_238⟩ := hm_213.arrI e_140
  have u_240 := ht_215 _ _ u_102
  have e_241 := hm_213.keep (by rw [wk_195]; omega) e_194
  have e_242 := hm_213.keep (by rw [wr_202]; omega) e_200
  have u_243 := ht_215 _ _ u_201
  have hsm := hsm.tr (hm_213.mono (by decide))
  have hlp_114 := hlp_114.tr (hm_213.mono (by decide))
  have htx := htx.tr ht_215
  refine lv_aload_n hx hb dX8_blend_138 rfl (lv_at hl 3 rfl) ?_
  refine lv_aload hx hb dX8_blend_139 (lv_at hl 0 rfl) ?_
  refine lv_iconst (v := 1) hx hb dX8_blend_141 (by decide) ?_
  have hFc := free_all hD hS hA
  refine va_calli (va_runV (As := [.ref v_188, .int 1]) (rest := [.int r_209, .int z_208, .int (nI i_108), .ref bl]) ⟨hx, hb, hml, hown, hts⟩ (a_told l D ρ ws_211 ty_212 fv h0 lc bc rc fc dn tl v_188 k_192 (mall (fv 9) (0 + i_108) 40) (fv 10 (0 + i_108)) (fv 11 (0 + i_108)) (fv 12 (0 + i_108)) g_193 k_196 c9_197 t_198 f_199 1 H.size (X.sm hsm htx (by decide) (by decide)) (by rw [wk_195]; omega) (by rw [wr_202]; omega) e_241 e_242 u_243) (cwV 2 hts gX8_blend_X8_told rfl rfl rfl (by decide +kernel) ⟨Nat.le_of_ble_eq_true rfl, Nat.le_of_ble_eq_true rfl⟩) ⟨fun a U g mk q => by obtain ⟨q0, q1, qP, qK, qD, qZ⟩ := q; exact ⟨q0, q1, qP, va_K.moved (u := U) (U := U.calling g mk a) (Vm.Alike.refl U.vm) qK, qD, NZ.same rfl qZ⟩, va_recv hK hP (ci := 8) (q0 := k0) rfl e_216, fun U hU hW => ⟨rfl, by rw [hU], by rw [hU]; exact hP, va_K.moved hW.alike hK, hD.weaken (fun _ _ _ _ => trivial), NZ.warm hW hnz⟩⟩ rfl rfl hl.1 rfl (lv_room (Nat.le_of_ble_eq_true rfl)) dX8_blend_142 ⟨Nat.le_of_ble_eq_true rfl, Nat.le_of_ble_eq_true rfl⟩) hS (fun q _ h => hFc q h) hFc (fun r_244 u t H1 locs ht hvm w_245 hB hz1 hk1 hS => ?_)
  obtain ⟨ws_246, ty_247, hm_248, ht_250, hP1, hK1, hD1, hx_249⟩ := hB
  rw [ht] at hP1
  have hK := va_K.moved hvm.symm hK1
  have hD := hD1.weaken (fun _ _ _ h => hFc _ h)
  generalize H1 = H at hP1 hS ⊢
  have hP := hP1
  have e_251 := hm_248.objK e_216 (by decide)
  have e_252 := hm_248.arrQ e_217
  have u_253 := ht_250 _ _ u_218
  have e_254 := hm_248.objK e_219 (by decide)
  obtain ⟨f_256, e_255⟩ := hm_248.arrI e_220
  have u_257 := ht_250 _ _ u_222
  obtain ⟨f_259, e_258⟩ := hm_248.arrI e_223
  have u_260 := ht_250 _ _ u_225
  obtain ⟨f_262, e_261⟩ := hm_248.arrI e_226
  have u_263 := ht_250 _ _ u_228
  obtain ⟨f_265, e_264⟩ := hm_248.arrI e_229
  have u_266 := ht_250 _ _ u_231
  obtain ⟨f_268, e_267⟩ := hm_248.arrI e_232
  have u_269 := ht_250 _ _ u_234
  obtain ⟨f_271, e_270⟩ := hm_248.arrI e_235
  have u_272 := ht_250 _ _ u_237
  obtain ⟨f_274, e_273⟩ := hm_248.arrI e_238
  have u_275 := ht_250 _ _ u_240
  have e_276 := hm_248.keep (by rw [wk_195]; omega) e_241
  have e_277 := hm_248.keep (by rw [wr_202]; omega) e_242
  have u_278 := ht_250 _ _ u_243
  have hsm := hsm.tr (hm_248.mono (by decide))
  have hlp_114 := hlp_114.tr (hm_248.mono (by decide))
  have htx := htx.tr ht_250
  refine lv_aload hx hb dX8_blend_145 (lv_at hl 0 rfl) ?_
  refine va_get (D := D) (ci := 7) (v := .int (fv 12 (0 + i_108))) (C := RX7) (T := TX7) (N := 5) hx hb hts hin7 hown hK hP k_192 e_276 rfl 4 (by decide) (hts (.fieldLink RX8 150 "HoneyHouse$Vessel" "priceOrDay" "I") (List.mem_of_getElem? (i := 4) rfl)) (fun _ h9 => h9) rfl dX8_blend_147 ?_
  have hFc := free_all hD hS hA
  refine va_callv (va_runV (As := [.int (nI i_108), .int z_208, .int r_209, .int r_244, .int (fv 12 (0 + i_108))]) (rest := []) ⟨hx, hb, hml, hown, hts⟩ (a_addTank l D ρ ws_246 ty_247 bl kbl b0 b2 b3 b4 b5 b6 b7 b1 b9 (nI j_6) y_103 y_104 y_105 c8_109 kb2 cb2 tb2 f_259 kb3 cb3 tb3 f_262 kb4 cb4 tb4 f_265 kb5 cb5 tb5 f_268 kb6 cb6 tb6 f_271 (nI i_108) z_208 r_209 r_244 (fv 12 (0 + i_108)) H.size (by omega) e_254 e_258 u_260 e_261 u_263 e_264 u_266 e_267 u_269 e_270 u_272 wb2 wb3 wb4 wb5 wb6 wbl) (cwV 5 hts gX8_blend_X0_addTank rfl rfl rfl (by decide +kernel) ⟨Nat.le_of_ble_eq_true rfl, Nat.le_of_ble_eq_true rfl⟩) ⟨fun a U g mk q => by obtain ⟨q0, q1, qP, qK, qD⟩ := q; exact ⟨q0, q1, qP, va_K.moved (u := U) (U := U.calling g mk a) (Vm.Alike.refl U.vm) qK, qD⟩, va_recv hK hP (ci := 0) (q0 := kbl) rfl e_254, fun U hU hW => ⟨rfl, by rw [hU], by rw [hU]; exact hP, va_K.moved hW.alike hK, hD.weaken (fun _ _ _ _ => trivial)⟩⟩ rfl rfl hl.1 rfl (lv_room (Nat.le_of_ble_eq_true rfl)) dX8_blend_150 ⟨Nat.le_of_ble_eq_true rfl, Nat.le_of_ble_eq_true rfl⟩) hS (fun q _ h => hFc q h) hFc (fun u t H1 locs ht hvm w_280 hB hz1 hk1 hS => ?_)
  obtain ⟨ws_281, ty_282, hm_283, ht_285, hP1, hK1, hD1, hx_284⟩ := hB
  rw [ht] at hP1
  have hK := va_K.moved hvm.symm hK1
  have hD := hD1.weaken (fun _ _ _ h => hFc _ h)
  generalize H1 = H at hP1 hS ⊢
  have hP := hP1
  have e_286 := hm_283.objK e_251 (by decide)
  have e_287 := hm_283.arrQ e_252
  have u_288 := ht_285 _ _ u_253
  obtain ⟨g_290, e_289, h_291⟩ := hm_283.obj e_254
  obtain ⟨z_292, z_293, z_294, z_295, z_296, z_297, z_298, rfl⟩ := smX0 h_291
  obtain ⟨f_300, e_299⟩ := hm_283.arrI e_255
  have u_301 := ht_285 _ _ u_257
  obtain ⟨f_303, e_302⟩ := hm_283.arrI e_258
  have u_304 := ht_285 _ _ u_260
  obtain ⟨f_306, e_305⟩ := hm_283.arrI e_261
  have u_307 := ht_285 _ _ u_263
  obtain ⟨f_309, e_308⟩ := hm_283.arrI e_264
  have u_310 := ht_285 _ _ u_266
  obtain ⟨f_312, e_311⟩ := hm_283.arrI e_267
  have u_313 := ht_285 _ _ u_269
  obtain ⟨f_315, e_314⟩ := hm_283.arrI e_270
  have u_316 := ht_285 _ _ u_272
  obtain ⟨f_318, e_317⟩ := hm_283.arrI e_273
  have u_319 := ht_285 _ _ u_275
  have e_320 := hm_283.keep (by rw [wk_195]; omega) e_276
  have e_321 := hm_283.keep (by rw [wr_202]; omega) e_277
  have u_322 := ht_285 _ _ u_278
  have hsm := hsm.tr (hm_283.mono (by decide))
  have hlp_114 := hlp_114.tr (hm_283.mono (by decide))
  have htx := htx.tr ht_285
  obtain ⟨c_323, hc_324, e_325⟩ := hx_284
  refine lv_iinc (v := nI (i_108 + 1)) (lv' := [(7, .int (nI (i_108 + 1))), (8, .ref v_188), (1, .int a1), (0, .ref h0)]) hx hb dX8_blend_153 hl (k := 1) rfl (nI_add i_108 1) (by decide) rfl (fun ls hl => ?_)
  refine lv_goto (tgt := 83) hx hb dX8_blend_156 (by decide) ?_
  exact ih_107 (i_108 + 1, c_323) ws_281 _ _ ls (by show 10 - (i_108 + 1) < 10 - i_108; omega) ⟨hlp_114, e_325, (show (i_108 + 1) ≤ 10 from by omega), (show c_323 ≤ 4 from by omega)⟩ hP hD hS (lv_sub hl [0, 2, 3] rfl)
