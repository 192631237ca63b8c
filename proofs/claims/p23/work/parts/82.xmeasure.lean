theorem dX8_isPollenLow_0 : decode cX8_isPollenLow 0 = .ok (.iload_n 0, 1) := by decide +kernel
theorem dX8_isPollenLow_1 : decode cX8_isPollenLow 1 = .ok (.bipush 10, 2) := by decide +kernel
theorem dX8_isPollenLow_3 : decode cX8_isPollenLow 3 = .ok (.bipush 14, 2) := by decide +kernel
theorem dX8_isPollenLow_5 : decode cX8_isPollenLow 5 = .ok (.invokestatic 85, 3) := by decide +kernel
theorem dX8_isPollenLow_8 : decode cX8_isPollenLow 8 = .ok (.ireturn, 1) := by decide +kernel
theorem dX8_isPollenHigh_0 : decode cX8_isPollenHigh 0 = .ok (.iload_n 0, 1) := by decide +kernel
theorem dX8_isPollenHigh_1 : decode cX8_isPollenHigh 1 = .ok (.bipush 20, 2) := by decide +kernel
theorem dX8_isPollenHigh_3 : decode cX8_isPollenHigh 3 = .ok (.bipush 24, 2) := by decide +kernel
theorem dX8_isPollenHigh_5 : decode cX8_isPollenHigh 5 = .ok (.invokestatic 85, 3) := by decide +kernel
theorem dX8_isPollenHigh_8 : decode cX8_isPollenHigh 8 = .ok (.ireturn, 1) := by decide +kernel
theorem dX8_isMeasure_0 : decode cX8_isMeasure 0 = .ok (.iload_n 0, 1) := by decide +kernel
theorem dX8_isMeasure_1 : decode cX8_isMeasure 1 = .ok (.iconst 0, 1) := by decide +kernel
theorem dX8_isMeasure_2 : decode cX8_isMeasure 2 = .ok (.iconst 2, 1) := by decide +kernel
theorem dX8_isMeasure_3 : decode cX8_isMeasure 3 = .ok (.invokestatic 85, 3) := by decide +kernel
theorem dX8_isMeasure_6 : decode cX8_isMeasure 6 = .ok (.ifCond .ne 28, 3) := by decide +kernel
theorem dX8_isMeasure_9 : decode cX8_isMeasure 9 = .ok (.iload_n 0, 1) := by decide +kernel
theorem dX8_isMeasure_10 : decode cX8_isMeasure 10 = .ok (.invokestatic 279, 3) := by decide +kernel
theorem dX8_isMeasure_13 : decode cX8_isMeasure 13 = .ok (.ifCond .ne 21, 3) := by decide +kernel
theorem dX8_isMeasure_16 : decode cX8_isMeasure 16 = .ok (.iload_n 0, 1) := by decide +kernel
theorem dX8_isMeasure_17 : decode cX8_isMeasure 17 = .ok (.invokestatic 282, 3) := by decide +kernel
theorem dX8_isMeasure_20 : decode cX8_isMeasure 20 = .ok (.ifCond .ne 14, 3) := by decide +kernel
theorem dX8_isMeasure_23 : decode cX8_isMeasure 23 = .ok (.iload_n 0, 1) := by decide +kernel
theorem dX8_isMeasure_24 : decode cX8_isMeasure 24 = .ok (.bipush 30, 2) := by decide +kernel
theorem dX8_isMeasure_26 : decode cX8_isMeasure 26 = .ok (.bipush 33, 2) := by decide +kernel
theorem dX8_isMeasure_28 : decode cX8_isMeasure 28 = .ok (.invokestatic 85, 3) := by decide +kernel
theorem dX8_isMeasure_31 : decode cX8_isMeasure 31 = .ok (.ifCond .eq 7, 3) := by decide +kernel
theorem dX8_isMeasure_34 : decode cX8_isMeasure 34 = .ok (.iconst 1, 1) := by decide +kernel
theorem dX8_isMeasure_35 : decode cX8_isMeasure 35 = .ok (.goto 4, 3) := by decide +kernel
theorem dX8_isMeasure_38 : decode cX8_isMeasure 38 = .ok (.iconst 0, 1) := by decide +kernel
theorem dX8_isMeasure_39 : decode cX8_isMeasure 39 = .ok (.ireturn, 1) := by decide +kernel
theorem dX8_hasBit_0 : decode cX8_hasBit 0 = .ok (.iload_n 0, 1) := by decide +kernel
theorem dX8_hasBit_1 : decode cX8_hasBit 1 = .ok (.iload_n 1, 1) := by decide +kernel
theorem dX8_hasBit_2 : decode cX8_hasBit 2 = .ok (.ishr, 1) := by decide +kernel
theorem dX8_hasBit_3 : decode cX8_hasBit 3 = .ok (.iconst 1, 1) := by decide +kernel
theorem dX8_hasBit_4 : decode cX8_hasBit 4 = .ok (.iand, 1) := by decide +kernel
theorem dX8_hasBit_5 : decode cX8_hasBit 5 = .ok (.iconst 1, 1) := by decide +kernel
theorem dX8_hasBit_6 : decode cX8_hasBit 6 = .ok (.if_icmp .ne 7, 3) := by decide +kernel
theorem dX8_hasBit_9 : decode cX8_hasBit 9 = .ok (.iconst 1, 1) := by decide +kernel
theorem dX8_hasBit_10 : decode cX8_hasBit 10 = .ok (.goto 4, 3) := by decide +kernel
theorem dX8_hasBit_13 : decode cX8_hasBit 13 = .ok (.iconst 0, 1) := by decide +kernel
theorem dX8_hasBit_14 : decode cX8_hasBit 14 = .ok (.ireturn, 1) := by decide +kernel
theorem dX2_perGram_0 : decode cX2_perGram 0 = .ok (.iload_n 1, 1) := by decide +kernel
theorem dX2_perGram_1 : decode cX2_perGram 1 = .ok (.ifCond .ne 8, 3) := by decide +kernel
theorem dX2_perGram_4 : decode cX2_perGram 4 = .ok (.aload_n 0, 1) := by decide +kernel
theorem dX2_perGram_5 : decode cX2_perGram 5 = .ok (.getfield 32, 3) := by decide +kernel
theorem dX2_perGram_8 : decode cX2_perGram 8 = .ok (.ireturn, 1) := by decide +kernel
theorem dX2_perGram_9 : decode cX2_perGram 9 = .ok (.iload_n 1, 1) := by decide +kernel
theorem dX2_perGram_10 : decode cX2_perGram 10 = .ok (.iconst 1, 1) := by decide +kernel
theorem dX2_perGram_11 : decode cX2_perGram 11 = .ok (.if_icmp .ne 8, 3) := by decide +kernel
theorem dX2_perGram_14 : decode cX2_perGram 14 = .ok (.aload_n 0, 1) := by decide +kernel
theorem dX2_perGram_15 : decode cX2_perGram 15 = .ok (.getfield 35, 3) := by decide +kernel
theorem dX2_perGram_18 : decode cX2_perGram 18 = .ok (.ireturn, 1) := by decide +kernel
theorem dX2_perGram_19 : decode cX2_perGram 19 = .ok (.iload_n 1, 1) := by decide +kernel
theorem dX2_perGram_20 : decode cX2_perGram 20 = .ok (.invokestatic 61, 3) := by decide +kernel
theorem dX2_perGram_23 : decode cX2_perGram 23 = .ok (.ifCond .eq 13, 3) := by decide +kernel
theorem dX2_perGram_26 : decode cX2_perGram 26 = .ok (.aload_n 0, 1) := by decide +kernel
theorem dX2_perGram_27 : decode cX2_perGram 27 = .ok (.getfield 9, 3) := by decide +kernel
theorem dX2_perGram_30 : decode cX2_perGram 30 = .ok (.iload_n 1, 1) := by decide +kernel
theorem dX2_perGram_31 : decode cX2_perGram 31 = .ok (.bipush 10, 2) := by decide +kernel
theorem dX2_perGram_33 : decode cX2_perGram 33 = .ok (.isub, 1) := by decide +kernel
theorem dX2_perGram_34 : decode cX2_perGram 34 = .ok (.iaload, 1) := by decide +kernel
theorem dX2_perGram_35 : decode cX2_perGram 35 = .ok (.ireturn, 1) := by decide +kernel
theorem dX2_perGram_36 : decode cX2_perGram 36 = .ok (.iload_n 1, 1) := by decide +kernel
theorem dX2_perGram_37 : decode cX2_perGram 37 = .ok (.invokestatic 65, 3) := by decide +kernel
theorem dX2_perGram_40 : decode cX2_perGram 40 = .ok (.ifCond .eq 13, 3) := by decide +kernel
theorem dX2_perGram_43 : decode cX2_perGram 43 = .ok (.aload_n 0, 1) := by decide +kernel
theorem dX2_perGram_44 : decode cX2_perGram 44 = .ok (.getfield 15, 3) := by decide +kernel
theorem dX2_perGram_47 : decode cX2_perGram 47 = .ok (.iload_n 1, 1) := by decide +kernel
theorem dX2_perGram_48 : decode cX2_perGram 48 = .ok (.bipush 20, 2) := by decide +kernel
theorem dX2_perGram_50 : decode cX2_perGram 50 = .ok (.isub, 1) := by decide +kernel
theorem dX2_perGram_51 : decode cX2_perGram 51 = .ok (.iaload, 1) := by decide +kernel
theorem dX2_perGram_52 : decode cX2_perGram 52 = .ok (.ireturn, 1) := by decide +kernel
theorem dX2_perGram_53 : decode cX2_perGram 53 = .ok (.iload_n 1, 1) := by decide +kernel
theorem dX2_perGram_54 : decode cX2_perGram 54 = .ok (.bipush 30, 2) := by decide +kernel
theorem dX2_perGram_56 : decode cX2_perGram 56 = .ok (.aload_n 0, 1) := by decide +kernel
theorem dX2_perGram_57 : decode cX2_perGram 57 = .ok (.getfield 38, 3) := by decide +kernel
theorem dX2_perGram_60 : decode cX2_perGram 60 = .ok (.iadd, 1) := by decide +kernel
theorem dX2_perGram_61 : decode cX2_perGram 61 = .ok (.if_icmp .ne 9, 3) := by decide +kernel
theorem dX2_perGram_64 : decode cX2_perGram 64 = .ok (.sipush 1000, 3) := by decide +kernel
theorem dX2_perGram_67 : decode cX2_perGram 67 = .ok (.goto 4, 3) := by decide +kernel
theorem dX2_perGram_70 : decode cX2_perGram 70 = .ok (.iconst 0, 1) := by decide +kernel
theorem dX2_perGram_71 : decode cX2_perGram 71 = .ok (.ireturn, 1) := by decide +kernel
theorem dX8_weighed_0 : decode cX8_weighed 0 = .ok (.iload_n 2, 1) := by decide +kernel
theorem dX8_weighed_1 : decode cX8_weighed 1 = .ok (.iconst 2, 1) := by decide +kernel
theorem dX8_weighed_2 : decode cX8_weighed 2 = .ok (.if_icmp .ne 15, 3) := by decide +kernel
theorem dX8_weighed_5 : decode cX8_weighed 5 = .ok (.aload_n 1, 1) := by decide +kernel
theorem dX8_weighed_6 : decode cX8_weighed 6 = .ok (.getfield 160, 3) := by decide +kernel
theorem dX8_weighed_9 : decode cX8_weighed 9 = .ok (.i2l, 1) := by decide +kernel
theorem dX8_weighed_10 : decode cX8_weighed 10 = .ok (.aload_n 1, 1) := by decide +kernel
theorem dX8_weighed_11 : decode cX8_weighed 11 = .ok (.getfield 144, 3) := by decide +kernel
theorem dX8_weighed_14 : decode cX8_weighed 14 = .ok (.i2l, 1) := by decide +kernel
theorem dX8_weighed_15 : decode cX8_weighed 15 = .ok (.lmul, 1) := by decide +kernel
theorem dX8_weighed_16 : decode cX8_weighed 16 = .ok (.lreturn, 1) := by decide +kernel
theorem dX8_weighed_17 : decode cX8_weighed 17 = .ok (.lconst 0, 1) := by decide +kernel
theorem dX8_weighed_18 : decode cX8_weighed 18 = .ok (.lstore_n 3, 1) := by decide +kernel
theorem dX8_weighed_19 : decode cX8_weighed 19 = .ok (.iconst 0, 1) := by decide +kernel
theorem dX8_weighed_20 : decode cX8_weighed 20 = .ok (.istore 5, 2) := by decide +kernel
theorem dX8_weighed_22 : decode cX8_weighed 22 = .ok (.iload 5, 2) := by decide +kernel
theorem dX8_weighed_24 : decode cX8_weighed 24 = .ok (.aload_n 0, 1) := by decide +kernel
theorem dX8_weighed_25 : decode cX8_weighed 25 = .ok (.getfield 90, 3) := by decide +kernel
theorem dX8_weighed_28 : decode cX8_weighed 28 = .ok (.if_icmp .ge 51, 3) := by decide +kernel
theorem dX8_weighed_31 : decode cX8_weighed 31 = .ok (.iload 5, 2) := by decide +kernel
theorem dX8_weighed_33 : decode cX8_weighed 33 = .ok (.aload_n 0, 1) := by decide +kernel
theorem dX8_weighed_34 : decode cX8_weighed 34 = .ok (.getfield 11, 3) := by decide +kernel
theorem dX8_weighed_37 : decode cX8_weighed 37 = .ok (.arraylength, 1) := by decide +kernel
theorem dX8_weighed_38 : decode cX8_weighed 38 = .ok (.if_icmp .ge 41, 3) := by decide +kernel
theorem dX8_weighed_41 : decode cX8_weighed 41 = .ok (.aload_n 0, 1) := by decide +kernel
theorem dX8_weighed_42 : decode cX8_weighed 42 = .ok (.getfield 11, 3) := by decide +kernel
theorem dX8_weighed_45 : decode cX8_weighed 45 = .ok (.iload 5, 2) := by decide +kernel
theorem dX8_weighed_47 : decode cX8_weighed 47 = .ok (.aaload, 1) := by decide +kernel
theorem dX8_weighed_48 : decode cX8_weighed 48 = .ok (.astore 6, 2) := by decide +kernel
theorem dX8_weighed_50 : decode cX8_weighed 50 = .ok (.aload 6, 2) := by decide +kernel
theorem dX8_weighed_52 : decode cX8_weighed 52 = .ok (.ifnull 21, 3) := by decide +kernel
theorem dX8_weighed_55 : decode cX8_weighed 55 = .ok (.lload_n 3, 1) := by decide +kernel
theorem dX8_weighed_56 : decode cX8_weighed 56 = .ok (.aload_n 1, 1) := by decide +kernel
theorem dX8_weighed_57 : decode cX8_weighed 57 = .ok (.iload 5, 2) := by decide +kernel
theorem dX8_weighed_59 : decode cX8_weighed 59 = .ok (.invokevirtual 181, 3) := by decide +kernel
theorem dX8_weighed_62 : decode cX8_weighed 62 = .ok (.i2l, 1) := by decide +kernel
theorem dX8_weighed_63 : decode cX8_weighed 63 = .ok (.aload 6, 2) := by decide +kernel
theorem dX8_weighed_65 : decode cX8_weighed 65 = .ok (.iload_n 2, 1) := by decide +kernel
theorem dX8_weighed_66 : decode cX8_weighed 66 = .ok (.invokevirtual 285, 3) := by decide +kernel
theorem dX8_weighed_69 : decode cX8_weighed 69 = .ok (.i2l, 1) := by decide +kernel
theorem dX8_weighed_70 : decode cX8_weighed 70 = .ok (.lmul, 1) := by decide +kernel
theorem dX8_weighed_71 : decode cX8_weighed 71 = .ok (.ladd, 1) := by decide +kernel
theorem dX8_weighed_72 : decode cX8_weighed 72 = .ok (.lstore_n 3, 1) := by decide +kernel
theorem dX8_weighed_73 : decode cX8_weighed 73 = .ok (.iinc 5 1, 3) := by decide +kernel
theorem dX8_weighed_76 : decode cX8_weighed 76 = .ok (.goto (-54), 3) := by decide +kernel
theorem dX8_weighed_79 : decode cX8_weighed 79 = .ok (.lload_n 3, 1) := by decide +kernel
theorem dX8_weighed_80 : decode cX8_weighed 80 = .ok (.lreturn, 1) := by decide +kernel
theorem dX8_told_0 : decode cX8_told 0 = .ok (.aload_n 1, 1) := by decide +kernel
theorem dX8_told_1 : decode cX8_told 1 = .ok (.getfield 144, 3) := by decide +kernel
theorem dX8_told_4 : decode cX8_told 4 = .ok (.ifCond .gt 5, 3) := by decide +kernel
theorem dX8_told_7 : decode cX8_told 7 = .ok (.iconst (-1), 1) := by decide +kernel
theorem dX8_told_8 : decode cX8_told 8 = .ok (.ireturn, 1) := by decide +kernel
theorem dX8_told_9 : decode cX8_told 9 = .ok (.iload_n 2, 1) := by decide +kernel
theorem dX8_told_10 : decode cX8_told 10 = .ok (.iconst 2, 1) := by decide +kernel
theorem dX8_told_11 : decode cX8_told 11 = .ok (.if_icmp .ne 8, 3) := by decide +kernel
theorem dX8_told_14 : decode cX8_told 14 = .ok (.aload_n 1, 1) := by decide +kernel
theorem dX8_told_15 : decode cX8_told 15 = .ok (.getfield 160, 3) := by decide +kernel
theorem dX8_told_18 : decode cX8_told 18 = .ok (.ireturn, 1) := by decide +kernel
theorem dX8_told_19 : decode cX8_told 19 = .ok (.ldc2_w 288, 3) := by decide +kernel
theorem dX8_told_22 : decode cX8_told 22 = .ok (.aload_n 0, 1) := by decide +kernel
theorem dX8_told_23 : decode cX8_told 23 = .ok (.aload_n 1, 1) := by decide +kernel
theorem dX8_told_24 : decode cX8_told 24 = .ok (.iload_n 2, 1) := by decide +kernel
theorem dX8_told_25 : decode cX8_told 25 = .ok (.invokevirtual 290, 3) := by decide +kernel
theorem dX8_told_28 : decode cX8_told 28 = .ok (.lmul, 1) := by decide +kernel
theorem dX8_told_29 : decode cX8_told 29 = .ok (.aload_n 1, 1) := by decide +kernel
theorem dX8_told_30 : decode cX8_told 30 = .ok (.getfield 144, 3) := by decide +kernel
theorem dX8_told_33 : decode cX8_told 33 = .ok (.i2l, 1) := by decide +kernel
theorem dX8_told_34 : decode cX8_told 34 = .ok (.ldiv, 1) := by decide +kernel
theorem dX8_told_35 : decode cX8_told 35 = .ok (.l2i, 1) := by decide +kernel
theorem dX8_told_36 : decode cX8_told 36 = .ok (.ireturn, 1) := by decide +kernel
theorem dX8_measure_0 : decode cX8_measure 0 = .ok (.aload_n 0, 1) := by decide +kernel
theorem dX8_measure_1 : decode cX8_measure 1 = .ok (.iload_n 1, 1) := by decide +kernel
theorem dX8_measure_2 : decode cX8_measure 2 = .ok (.iload_n 2, 1) := by decide +kernel
theorem dX8_measure_3 : decode cX8_measure 3 = .ok (.invokevirtual 173, 3) := by decide +kernel
theorem dX8_measure_6 : decode cX8_measure 6 = .ok (.astore 4, 2) := by decide +kernel
theorem dX8_measure_8 : decode cX8_measure 8 = .ok (.aload 4, 2) := by decide +kernel
theorem dX8_measure_10 : decode cX8_measure 10 = .ok (.ifnull 10, 3) := by decide +kernel
theorem dX8_measure_13 : decode cX8_measure 13 = .ok (.iload_n 3, 1) := by decide +kernel
theorem dX8_measure_14 : decode cX8_measure 14 = .ok (.invokestatic 185, 3) := by decide +kernel
theorem dX8_measure_17 : decode cX8_measure 17 = .ok (.ifCond .ne 5, 3) := by decide +kernel
theorem dX8_measure_20 : decode cX8_measure 20 = .ok (.iconst (-1), 1) := by decide +kernel
theorem dX8_measure_21 : decode cX8_measure 21 = .ok (.ireturn, 1) := by decide +kernel
theorem dX8_measure_22 : decode cX8_measure 22 = .ok (.aload_n 0, 1) := by decide +kernel
theorem dX8_measure_23 : decode cX8_measure 23 = .ok (.aload 4, 2) := by decide +kernel
theorem dX8_measure_25 : decode cX8_measure 25 = .ok (.iload_n 3, 1) := by decide +kernel
theorem dX8_measure_26 : decode cX8_measure 26 = .ok (.invokevirtual 188, 3) := by decide +kernel
theorem dX8_measure_29 : decode cX8_measure 29 = .ok (.ireturn, 1) := by decide +kernel
theorem dX8_verdictOfTest_0 : decode cX8_verdictOfTest 0 = .ok (.iload_n 1, 1) := by decide +kernel
theorem dX8_verdictOfTest_1 : decode cX8_verdictOfTest 1 = .ok (.bipush 11, 2) := by decide +kernel
theorem dX8_verdictOfTest_3 : decode cX8_verdictOfTest 3 = .ok (.ishr, 1) := by decide +kernel
theorem dX8_verdictOfTest_4 : decode cX8_verdictOfTest 4 = .ok (.istore_n 3, 1) := by decide +kernel
theorem dX8_verdictOfTest_5 : decode cX8_verdictOfTest 5 = .ok (.iload_n 1, 1) := by decide +kernel
theorem dX8_verdictOfTest_6 : decode cX8_verdictOfTest 6 = .ok (.bipush 10, 2) := by decide +kernel
theorem dX8_verdictOfTest_8 : decode cX8_verdictOfTest 8 = .ok (.ishr, 1) := by decide +kernel
theorem dX8_verdictOfTest_9 : decode cX8_verdictOfTest 9 = .ok (.iconst 1, 1) := by decide +kernel
theorem dX8_verdictOfTest_10 : decode cX8_verdictOfTest 10 = .ok (.iand, 1) := by decide +kernel
theorem dX8_verdictOfTest_11 : decode cX8_verdictOfTest 11 = .ok (.iconst 1, 1) := by decide +kernel
theorem dX8_verdictOfTest_12 : decode cX8_verdictOfTest 12 = .ok (.if_icmp .ne 7, 3) := by decide +kernel
theorem dX8_verdictOfTest_15 : decode cX8_verdictOfTest 15 = .ok (.iconst 1, 1) := by decide +kernel
theorem dX8_verdictOfTest_16 : decode cX8_verdictOfTest 16 = .ok (.goto 4, 3) := by decide +kernel
theorem dX8_verdictOfTest_19 : decode cX8_verdictOfTest 19 = .ok (.iconst 0, 1) := by decide +kernel
theorem dX8_verdictOfTest_20 : decode cX8_verdictOfTest 20 = .ok (.istore 4, 2) := by decide +kernel
theorem dX8_verdictOfTest_22 : decode cX8_verdictOfTest 22 = .ok (.iload_n 1, 1) := by decide +kernel
theorem dX8_verdictOfTest_23 : decode cX8_verdictOfTest 23 = .ok (.sipush 1023, 3) := by decide +kernel
theorem dX8_verdictOfTest_26 : decode cX8_verdictOfTest 26 = .ok (.iand, 1) := by decide +kernel
theorem dX8_verdictOfTest_27 : decode cX8_verdictOfTest 27 = .ok (.i2l, 1) := by decide +kernel
theorem dX8_verdictOfTest_28 : decode cX8_verdictOfTest 28 = .ok (.aload_n 2, 1) := by decide +kernel
theorem dX8_verdictOfTest_29 : decode cX8_verdictOfTest 29 = .ok (.getfield 144, 3) := by decide +kernel
theorem dX8_verdictOfTest_32 : decode cX8_verdictOfTest 32 = .ok (.i2l, 1) := by decide +kernel
theorem dX8_verdictOfTest_33 : decode cX8_verdictOfTest 33 = .ok (.lmul, 1) := by decide +kernel
theorem dX8_verdictOfTest_34 : decode cX8_verdictOfTest 34 = .ok (.lstore 5, 2) := by decide +kernel
theorem dX8_verdictOfTest_36 : decode cX8_verdictOfTest 36 = .ok (.aload_n 0, 1) := by decide +kernel
theorem dX8_verdictOfTest_37 : decode cX8_verdictOfTest 37 = .ok (.aload_n 2, 1) := by decide +kernel
theorem dX8_verdictOfTest_38 : decode cX8_verdictOfTest 38 = .ok (.iload_n 3, 1) := by decide +kernel
theorem dX8_verdictOfTest_39 : decode cX8_verdictOfTest 39 = .ok (.invokevirtual 290, 3) := by decide +kernel
theorem dX8_verdictOfTest_42 : decode cX8_verdictOfTest 42 = .ok (.lstore 7, 2) := by decide +kernel
theorem dX8_verdictOfTest_44 : decode cX8_verdictOfTest 44 = .ok (.iload_n 3, 1) := by decide +kernel
theorem dX8_verdictOfTest_45 : decode cX8_verdictOfTest 45 = .ok (.invokestatic 279, 3) := by decide +kernel
theorem dX8_verdictOfTest_48 : decode cX8_verdictOfTest 48 = .ok (.ifCond .eq 18, 3) := by decide +kernel
theorem dX8_verdictOfTest_51 : decode cX8_verdictOfTest 51 = .ok (.aload_n 0, 1) := by decide +kernel
theorem dX8_verdictOfTest_52 : decode cX8_verdictOfTest 52 = .ok (.aload_n 2, 1) := by decide +kernel
theorem dX8_verdictOfTest_53 : decode cX8_verdictOfTest 53 = .ok (.iload_n 3, 1) := by decide +kernel
theorem dX8_verdictOfTest_54 : decode cX8_verdictOfTest 54 = .ok (.bipush 10, 2) := by decide +kernel
theorem dX8_verdictOfTest_56 : decode cX8_verdictOfTest 56 = .ok (.isub, 1) := by decide +kernel
theorem dX8_verdictOfTest_57 : decode cX8_verdictOfTest 57 = .ok (.bipush 20, 2) := by decide +kernel
theorem dX8_verdictOfTest_59 : decode cX8_verdictOfTest 59 = .ok (.iadd, 1) := by decide +kernel
theorem dX8_verdictOfTest_60 : decode cX8_verdictOfTest 60 = .ok (.invokevirtual 290, 3) := by decide +kernel
theorem dX8_verdictOfTest_63 : decode cX8_verdictOfTest 63 = .ok (.goto 5, 3) := by decide +kernel
theorem dX8_verdictOfTest_66 : decode cX8_verdictOfTest 66 = .ok (.lload 7, 2) := by decide +kernel
theorem dX8_verdictOfTest_68 : decode cX8_verdictOfTest 68 = .ok (.lstore 9, 2) := by decide +kernel
theorem dX8_verdictOfTest_70 : decode cX8_verdictOfTest 70 = .ok (.iload 4, 2) := by decide +kernel
theorem dX8_verdictOfTest_72 : decode cX8_verdictOfTest 72 = .ok (.ifCond .eq 14, 3) := by decide +kernel
theorem dX8_verdictOfTest_75 : decode cX8_verdictOfTest 75 = .ok (.lload 9, 2) := by decide +kernel
theorem dX8_verdictOfTest_77 : decode cX8_verdictOfTest 77 = .ok (.lload 5, 2) := by decide +kernel
theorem dX8_verdictOfTest_79 : decode cX8_verdictOfTest 79 = .ok (.lcmp, 1) := by decide +kernel
theorem dX8_verdictOfTest_80 : decode cX8_verdictOfTest 80 = .ok (.ifCond .gt 16, 3) := by decide +kernel
theorem dX8_verdictOfTest_83 : decode cX8_verdictOfTest 83 = .ok (.goto 11, 3) := by decide +kernel
theorem dX8_verdictOfTest_86 : decode cX8_verdictOfTest 86 = .ok (.lload 7, 2) := by decide +kernel
theorem dX8_verdictOfTest_88 : decode cX8_verdictOfTest 88 = .ok (.lload 5, 2) := by decide +kernel
theorem dX8_verdictOfTest_90 : decode cX8_verdictOfTest 90 = .ok (.lcmp, 1) := by decide +kernel
theorem dX8_verdictOfTest_91 : decode cX8_verdictOfTest 91 = .ok (.ifCond .lt 5, 3) := by decide +kernel
theorem dX8_verdictOfTest_94 : decode cX8_verdictOfTest 94 = .ok (.iconst 2, 1) := by decide +kernel
theorem dX8_verdictOfTest_95 : decode cX8_verdictOfTest 95 = .ok (.ireturn, 1) := by decide +kernel
theorem dX8_verdictOfTest_96 : decode cX8_verdictOfTest 96 = .ok (.iload 4, 2) := by decide +kernel
theorem dX8_verdictOfTest_98 : decode cX8_verdictOfTest 98 = .ok (.ifCond .eq 14, 3) := by decide +kernel
theorem dX8_verdictOfTest_101 : decode cX8_verdictOfTest 101 = .ok (.lload 7, 2) := by decide +kernel
theorem dX8_verdictOfTest_103 : decode cX8_verdictOfTest 103 = .ok (.lload 5, 2) := by decide +kernel
theorem dX8_verdictOfTest_105 : decode cX8_verdictOfTest 105 = .ok (.lcmp, 1) := by decide +kernel
theorem dX8_verdictOfTest_106 : decode cX8_verdictOfTest 106 = .ok (.ifCond .gt 18, 3) := by decide +kernel
theorem dX8_verdictOfTest_109 : decode cX8_verdictOfTest 109 = .ok (.goto 11, 3) := by decide +kernel
theorem dX8_verdictOfTest_112 : decode cX8_verdictOfTest 112 = .ok (.lload 9, 2) := by decide +kernel
theorem dX8_verdictOfTest_114 : decode cX8_verdictOfTest 114 = .ok (.lload 5, 2) := by decide +kernel
theorem dX8_verdictOfTest_116 : decode cX8_verdictOfTest 116 = .ok (.lcmp, 1) := by decide +kernel
theorem dX8_verdictOfTest_117 : decode cX8_verdictOfTest 117 = .ok (.ifCond .lt 7, 3) := by decide +kernel
theorem dX8_verdictOfTest_120 : decode cX8_verdictOfTest 120 = .ok (.iconst 1, 1) := by decide +kernel
theorem dX8_verdictOfTest_121 : decode cX8_verdictOfTest 121 = .ok (.goto 4, 3) := by decide +kernel
theorem dX8_verdictOfTest_124 : decode cX8_verdictOfTest 124 = .ok (.iconst 0, 1) := by decide +kernel
theorem dX8_verdictOfTest_125 : decode cX8_verdictOfTest 125 = .ok (.ireturn, 1) := by decide +kernel
theorem dX8_verdict_0 : decode cX8_verdict 0 = .ok (.iconst 0, 1) := by decide +kernel
theorem dX8_verdict_1 : decode cX8_verdict 1 = .ok (.istore_n 3, 1) := by decide +kernel
theorem dX8_verdict_2 : decode cX8_verdict 2 = .ok (.iconst 0, 1) := by decide +kernel
theorem dX8_verdict_3 : decode cX8_verdict 3 = .ok (.istore 4, 2) := by decide +kernel
theorem dX8_verdict_5 : decode cX8_verdict 5 = .ok (.iload 4, 2) := by decide +kernel
theorem dX8_verdict_7 : decode cX8_verdict 7 = .ok (.aload_n 1, 1) := by decide +kernel
theorem dX8_verdict_8 : decode cX8_verdict 8 = .ok (.getfield 294, 3) := by decide +kernel
theorem dX8_verdict_11 : decode cX8_verdict 11 = .ok (.arraylength, 1) := by decide +kernel
theorem dX8_verdict_12 : decode cX8_verdict 12 = .ok (.if_icmp .ge 157, 3) := by decide +kernel
theorem dX8_verdict_15 : decode cX8_verdict 15 = .ok (.aload_n 1, 1) := by decide +kernel
theorem dX8_verdict_16 : decode cX8_verdict 16 = .ok (.getfield 294, 3) := by decide +kernel
theorem dX8_verdict_19 : decode cX8_verdict 19 = .ok (.iload 4, 2) := by decide +kernel
theorem dX8_verdict_21 : decode cX8_verdict 21 = .ok (.iaload, 1) := by decide +kernel
theorem dX8_verdict_22 : decode cX8_verdict 22 = .ok (.istore 5, 2) := by decide +kernel
theorem dX8_verdict_24 : decode cX8_verdict 24 = .ok (.iload 5, 2) := by decide +kernel
theorem dX8_verdict_26 : decode cX8_verdict 26 = .ok (.ifCond .lt 31, 3) := by decide +kernel
theorem dX8_verdict_29 : decode cX8_verdict 29 = .ok (.iload_n 3, 1) := by decide +kernel
theorem dX8_verdict_30 : decode cX8_verdict 30 = .ok (.aload_n 0, 1) := by decide +kernel
theorem dX8_verdict_31 : decode cX8_verdict 31 = .ok (.getfield 58, 3) := by decide +kernel
theorem dX8_verdict_34 : decode cX8_verdict 34 = .ok (.arraylength, 1) := by decide +kernel
theorem dX8_verdict_35 : decode cX8_verdict 35 = .ok (.if_icmp .ge 128, 3) := by decide +kernel
theorem dX8_verdict_38 : decode cX8_verdict 38 = .ok (.aload_n 0, 1) := by decide +kernel
theorem dX8_verdict_39 : decode cX8_verdict 39 = .ok (.getfield 58, 3) := by decide +kernel
theorem dX8_verdict_42 : decode cX8_verdict 42 = .ok (.iload_n 3, 1) := by decide +kernel
theorem dX8_verdict_43 : decode cX8_verdict 43 = .ok (.aload_n 0, 1) := by decide +kernel
theorem dX8_verdict_44 : decode cX8_verdict 44 = .ok (.iload 5, 2) := by decide +kernel
theorem dX8_verdict_46 : decode cX8_verdict 46 = .ok (.aload_n 2, 1) := by decide +kernel
theorem dX8_verdict_47 : decode cX8_verdict 47 = .ok (.invokevirtual 297, 3) := by decide +kernel
theorem dX8_verdict_50 : decode cX8_verdict 50 = .ok (.iastore, 1) := by decide +kernel
theorem dX8_verdict_51 : decode cX8_verdict 51 = .ok (.iinc 3 1, 3) := by decide +kernel
theorem dX8_verdict_54 : decode cX8_verdict 54 = .ok (.goto 109, 3) := by decide +kernel
theorem dX8_verdict_57 : decode cX8_verdict 57 = .ok (.iload 5, 2) := by decide +kernel
theorem dX8_verdict_59 : decode cX8_verdict 59 = .ok (.iconst (-1), 1) := by decide +kernel
theorem dX8_verdict_60 : decode cX8_verdict 60 = .ok (.if_icmp .ne 37, 3) := by decide +kernel
theorem dX8_verdict_63 : decode cX8_verdict 63 = .ok (.iload_n 3, 1) := by decide +kernel
theorem dX8_verdict_64 : decode cX8_verdict 64 = .ok (.iconst 1, 1) := by decide +kernel
theorem dX8_verdict_65 : decode cX8_verdict 65 = .ok (.aload_n 0, 1) := by decide +kernel
theorem dX8_verdict_66 : decode cX8_verdict 66 = .ok (.getfield 58, 3) := by decide +kernel
theorem dX8_verdict_69 : decode cX8_verdict 69 = .ok (.arraylength, 1) := by decide +kernel
theorem dX8_verdict_70 : decode cX8_verdict 70 = .ok (.invokestatic 85, 3) := by decide +kernel
theorem dX8_verdict_73 : decode cX8_verdict 73 = .ok (.ifCond .eq 90, 3) := by decide +kernel
theorem dX8_verdict_76 : decode cX8_verdict 76 = .ok (.aload_n 0, 1) := by decide +kernel
theorem dX8_verdict_77 : decode cX8_verdict 77 = .ok (.getfield 58, 3) := by decide +kernel
theorem dX8_verdict_80 : decode cX8_verdict 80 = .ok (.iload_n 3, 1) := by decide +kernel
theorem dX8_verdict_81 : decode cX8_verdict 81 = .ok (.iconst 1, 1) := by decide +kernel
theorem dX8_verdict_82 : decode cX8_verdict 82 = .ok (.isub, 1) := by decide +kernel
theorem dX8_verdict_83 : decode cX8_verdict 83 = .ok (.iconst 2, 1) := by decide +kernel
theorem dX8_verdict_84 : decode cX8_verdict 84 = .ok (.aload_n 0, 1) := by decide +kernel
theorem dX8_verdict_85 : decode cX8_verdict 85 = .ok (.getfield 58, 3) := by decide +kernel
theorem dX8_verdict_88 : decode cX8_verdict 88 = .ok (.iload_n 3, 1) := by decide +kernel
theorem dX8_verdict_89 : decode cX8_verdict 89 = .ok (.iconst 1, 1) := by decide +kernel
theorem dX8_verdict_90 : decode cX8_verdict 90 = .ok (.isub, 1) := by decide +kernel
theorem dX8_verdict_91 : decode cX8_verdict 91 = .ok (.iaload, 1) := by decide +kernel
theorem dX8_verdict_92 : decode cX8_verdict 92 = .ok (.isub, 1) := by decide +kernel
theorem dX8_verdict_93 : decode cX8_verdict 93 = .ok (.iastore, 1) := by decide +kernel
theorem dX8_verdict_94 : decode cX8_verdict 94 = .ok (.goto 69, 3) := by decide +kernel
theorem dX8_verdict_97 : decode cX8_verdict 97 = .ok (.iload_n 3, 1) := by decide +kernel
theorem dX8_verdict_98 : decode cX8_verdict 98 = .ok (.iconst 2, 1) := by decide +kernel
theorem dX8_verdict_99 : decode cX8_verdict 99 = .ok (.aload_n 0, 1) := by decide +kernel
theorem dX8_verdict_100 : decode cX8_verdict 100 = .ok (.getfield 58, 3) := by decide +kernel
theorem dX8_verdict_103 : decode cX8_verdict 103 = .ok (.arraylength, 1) := by decide +kernel
theorem dX8_verdict_104 : decode cX8_verdict 104 = .ok (.invokestatic 85, 3) := by decide +kernel
theorem dX8_verdict_107 : decode cX8_verdict 107 = .ok (.ifCond .eq 56, 3) := by decide +kernel
theorem dX8_verdict_110 : decode cX8_verdict 110 = .ok (.iinc 3 (-1), 3) := by decide +kernel
theorem dX8_verdict_113 : decode cX8_verdict 113 = .ok (.aload_n 0, 1) := by decide +kernel
theorem dX8_verdict_114 : decode cX8_verdict 114 = .ok (.getfield 58, 3) := by decide +kernel
theorem dX8_verdict_117 : decode cX8_verdict 117 = .ok (.iload_n 3, 1) := by decide +kernel
theorem dX8_verdict_118 : decode cX8_verdict 118 = .ok (.iconst 1, 1) := by decide +kernel
theorem dX8_verdict_119 : decode cX8_verdict 119 = .ok (.isub, 1) := by decide +kernel
theorem dX8_verdict_120 : decode cX8_verdict 120 = .ok (.iaload, 1) := by decide +kernel
theorem dX8_verdict_121 : decode cX8_verdict 121 = .ok (.istore 6, 2) := by decide +kernel
theorem dX8_verdict_123 : decode cX8_verdict 123 = .ok (.aload_n 0, 1) := by decide +kernel
theorem dX8_verdict_124 : decode cX8_verdict 124 = .ok (.getfield 58, 3) := by decide +kernel
theorem dX8_verdict_127 : decode cX8_verdict 127 = .ok (.iload_n 3, 1) := by decide +kernel
theorem dX8_verdict_128 : decode cX8_verdict 128 = .ok (.iaload, 1) := by decide +kernel
theorem dX8_verdict_129 : decode cX8_verdict 129 = .ok (.istore 7, 2) := by decide +kernel
theorem dX8_verdict_131 : decode cX8_verdict 131 = .ok (.aload_n 0, 1) := by decide +kernel
theorem dX8_verdict_132 : decode cX8_verdict 132 = .ok (.getfield 58, 3) := by decide +kernel
theorem dX8_verdict_135 : decode cX8_verdict 135 = .ok (.iload_n 3, 1) := by decide +kernel
theorem dX8_verdict_136 : decode cX8_verdict 136 = .ok (.iconst 1, 1) := by decide +kernel
theorem dX8_verdict_137 : decode cX8_verdict 137 = .ok (.isub, 1) := by decide +kernel
theorem dX8_verdict_138 : decode cX8_verdict 138 = .ok (.iload 5, 2) := by decide +kernel
theorem dX8_verdict_140 : decode cX8_verdict 140 = .ok (.bipush (-2), 2) := by decide +kernel
theorem dX8_verdict_142 : decode cX8_verdict 142 = .ok (.if_icmp .ne 13, 3) := by decide +kernel
theorem dX8_verdict_145 : decode cX8_verdict 145 = .ok (.iload 6, 2) := by decide +kernel
theorem dX8_verdict_147 : decode cX8_verdict 147 = .ok (.iload 7, 2) := by decide +kernel
theorem dX8_verdict_149 : decode cX8_verdict 149 = .ok (.invokestatic 301, 3) := by decide +kernel
theorem dX8_verdict_152 : decode cX8_verdict 152 = .ok (.goto 10, 3) := by decide +kernel
theorem dX8_verdict_155 : decode cX8_verdict 155 = .ok (.iload 6, 2) := by decide +kernel
theorem dX8_verdict_157 : decode cX8_verdict 157 = .ok (.iload 7, 2) := by decide +kernel
theorem dX8_verdict_159 : decode cX8_verdict 159 = .ok (.invokestatic 306, 3) := by decide +kernel
theorem dX8_verdict_162 : decode cX8_verdict 162 = .ok (.iastore, 1) := by decide +kernel
theorem dX8_verdict_163 : decode cX8_verdict 163 = .ok (.iinc 4 1, 3) := by decide +kernel
theorem dX8_verdict_166 : decode cX8_verdict 166 = .ok (.goto (-161), 3) := by decide +kernel
theorem dX8_verdict_169 : decode cX8_verdict 169 = .ok (.iload_n 3, 1) := by decide +kernel
theorem dX8_verdict_170 : decode cX8_verdict 170 = .ok (.ifCond .le 12, 3) := by decide +kernel
theorem dX8_verdict_173 : decode cX8_verdict 173 = .ok (.aload_n 0, 1) := by decide +kernel
theorem dX8_verdict_174 : decode cX8_verdict 174 = .ok (.getfield 58, 3) := by decide +kernel
theorem dX8_verdict_177 : decode cX8_verdict 177 = .ok (.iconst 0, 1) := by decide +kernel
theorem dX8_verdict_178 : decode cX8_verdict 178 = .ok (.iaload, 1) := by decide +kernel
theorem dX8_verdict_179 : decode cX8_verdict 179 = .ok (.goto 4, 3) := by decide +kernel
theorem dX8_verdict_183 : decode cX8_verdict 183 = .ok (.ireturn, 1) := by decide +kernel
theorem dX8_says_0 : decode cX8_says 0 = .ok (.aload_n 0, 1) := by decide +kernel
theorem dX8_says_1 : decode cX8_says 1 = .ok (.iload_n 1, 1) := by decide +kernel
theorem dX8_says_2 : decode cX8_says 2 = .ok (.invokevirtual 219, 3) := by decide +kernel
theorem dX8_says_5 : decode cX8_says 5 = .ok (.astore 4, 2) := by decide +kernel
theorem dX8_says_7 : decode cX8_says 7 = .ok (.aload_n 0, 1) := by decide +kernel
theorem dX8_says_8 : decode cX8_says 8 = .ok (.iload_n 2, 1) := by decide +kernel
theorem dX8_says_9 : decode cX8_says 9 = .ok (.iload_n 3, 1) := by decide +kernel
theorem dX8_says_10 : decode cX8_says 10 = .ok (.invokevirtual 173, 3) := by decide +kernel
theorem dX8_says_13 : decode cX8_says 13 = .ok (.astore 5, 2) := by decide +kernel
theorem dX8_says_15 : decode cX8_says 15 = .ok (.aload 4, 2) := by decide +kernel
theorem dX8_says_17 : decode cX8_says 17 = .ok (.ifnull 16, 3) := by decide +kernel
theorem dX8_says_20 : decode cX8_says 20 = .ok (.aload 5, 2) := by decide +kernel
theorem dX8_says_22 : decode cX8_says 22 = .ok (.ifnull 11, 3) := by decide +kernel
theorem dX8_says_25 : decode cX8_says 25 = .ok (.aload 5, 2) := by decide +kernel
theorem dX8_says_27 : decode cX8_says 27 = .ok (.getfield 144, 3) := by decide +kernel
theorem dX8_says_30 : decode cX8_says 30 = .ok (.ifCond .ne 5, 3) := by decide +kernel
theorem dX8_says_33 : decode cX8_says 33 = .ok (.iconst (-1), 1) := by decide +kernel
theorem dX8_says_34 : decode cX8_says 34 = .ok (.ireturn, 1) := by decide +kernel
theorem dX8_says_35 : decode cX8_says 35 = .ok (.aload_n 0, 1) := by decide +kernel
theorem dX8_says_36 : decode cX8_says 36 = .ok (.aload 4, 2) := by decide +kernel
theorem dX8_says_38 : decode cX8_says 38 = .ok (.aload 5, 2) := by decide +kernel
theorem dX8_says_40 : decode cX8_says 40 = .ok (.invokevirtual 231, 3) := by decide +kernel
theorem dX8_says_43 : decode cX8_says 43 = .ok (.ireturn, 1) := by decide +kernel
theorem dX8_isInForce_0 : decode cX8_isInForce 0 = .ok (.aload_n 1, 1) := by decide +kernel
theorem dX8_isInForce_1 : decode cX8_isInForce 1 = .ok (.getfield 227, 3) := by decide +kernel
theorem dX8_isInForce_4 : decode cX8_isInForce 4 = .ok (.iload_n 3, 1) := by decide +kernel
theorem dX8_isInForce_5 : decode cX8_isInForce 5 = .ok (.if_icmp .gt 18, 3) := by decide +kernel
theorem dX8_isInForce_8 : decode cX8_isInForce 8 = .ok (.aload_n 1, 1) := by decide +kernel
theorem dX8_isInForce_9 : decode cX8_isInForce 9 = .ok (.getfield 223, 3) := by decide +kernel
theorem dX8_isInForce_12 : decode cX8_isInForce 12 = .ok (.ifCond .eq 13, 3) := by decide +kernel
theorem dX8_isInForce_15 : decode cX8_isInForce 15 = .ok (.aload_n 1, 1) := by decide +kernel
theorem dX8_isInForce_16 : decode cX8_isInForce 16 = .ok (.getfield 228, 3) := by decide +kernel
theorem dX8_isInForce_19 : decode cX8_isInForce 19 = .ok (.iload_n 3, 1) := by decide +kernel
theorem dX8_isInForce_20 : decode cX8_isInForce 20 = .ok (.if_icmp .gt 5, 3) := by decide +kernel
theorem dX8_isInForce_23 : decode cX8_isInForce 23 = .ok (.iconst 0, 1) := by decide +kernel
theorem dX8_isInForce_24 : decode cX8_isInForce 24 = .ok (.ireturn, 1) := by decide +kernel
theorem dX8_isInForce_25 : decode cX8_isInForce 25 = .ok (.iconst 0, 1) := by decide +kernel
theorem dX8_isInForce_26 : decode cX8_isInForce 26 = .ok (.istore 4, 2) := by decide +kernel
theorem dX8_isInForce_28 : decode cX8_isInForce 28 = .ok (.iload 4, 2) := by decide +kernel
theorem dX8_isInForce_30 : decode cX8_isInForce 30 = .ok (.aload_n 0, 1) := by decide +kernel
theorem dX8_isInForce_31 : decode cX8_isInForce 31 = .ok (.getfield 26, 3) := by decide +kernel
theorem dX8_isInForce_34 : decode cX8_isInForce 34 = .ok (.arraylength, 1) := by decide +kernel
theorem dX8_isInForce_35 : decode cX8_isInForce 35 = .ok (.if_icmp .ge 77, 3) := by decide +kernel
theorem dX8_isInForce_38 : decode cX8_isInForce 38 = .ok (.aload_n 0, 1) := by decide +kernel
theorem dX8_isInForce_39 : decode cX8_isInForce 39 = .ok (.getfield 26, 3) := by decide +kernel
theorem dX8_isInForce_42 : decode cX8_isInForce 42 = .ok (.iload 4, 2) := by decide +kernel
theorem dX8_isInForce_44 : decode cX8_isInForce 44 = .ok (.aaload, 1) := by decide +kernel
theorem dX8_isInForce_45 : decode cX8_isInForce 45 = .ok (.astore 5, 2) := by decide +kernel
theorem dX8_isInForce_47 : decode cX8_isInForce 47 = .ok (.aload 5, 2) := by decide +kernel
theorem dX8_isInForce_49 : decode cX8_isInForce 49 = .ok (.ifnull 57, 3) := by decide +kernel
theorem dX8_isInForce_52 : decode cX8_isInForce 52 = .ok (.aload 5, 2) := by decide +kernel
theorem dX8_isInForce_54 : decode cX8_isInForce 54 = .ok (.getfield 309, 3) := by decide +kernel
theorem dX8_isInForce_57 : decode cX8_isInForce 57 = .ok (.aload_n 1, 1) := by decide +kernel
theorem dX8_isInForce_58 : decode cX8_isInForce 58 = .ok (.getfield 309, 3) := by decide +kernel
theorem dX8_isInForce_61 : decode cX8_isInForce 61 = .ok (.lcmp, 1) := by decide +kernel
theorem dX8_isInForce_62 : decode cX8_isInForce 62 = .ok (.ifCond .ne 44, 3) := by decide +kernel
theorem dX8_isInForce_65 : decode cX8_isInForce 65 = .ok (.aload 5, 2) := by decide +kernel
theorem dX8_isInForce_67 : decode cX8_isInForce 67 = .ok (.getfield 227, 3) := by decide +kernel
theorem dX8_isInForce_70 : decode cX8_isInForce 70 = .ok (.iload_n 3, 1) := by decide +kernel
theorem dX8_isInForce_71 : decode cX8_isInForce 71 = .ok (.if_icmp .gt 35, 3) := by decide +kernel
theorem dX8_isInForce_74 : decode cX8_isInForce 74 = .ok (.aload 5, 2) := by decide +kernel
theorem dX8_isInForce_76 : decode cX8_isInForce 76 = .ok (.getfield 227, 3) := by decide +kernel
theorem dX8_isInForce_79 : decode cX8_isInForce 79 = .ok (.aload_n 1, 1) := by decide +kernel
theorem dX8_isInForce_80 : decode cX8_isInForce 80 = .ok (.getfield 227, 3) := by decide +kernel
theorem dX8_isInForce_83 : decode cX8_isInForce 83 = .ok (.if_icmp .gt 21, 3) := by decide +kernel
theorem dX8_isInForce_86 : decode cX8_isInForce 86 = .ok (.aload 5, 2) := by decide +kernel
theorem dX8_isInForce_88 : decode cX8_isInForce 88 = .ok (.getfield 227, 3) := by decide +kernel
theorem dX8_isInForce_91 : decode cX8_isInForce 91 = .ok (.aload_n 1, 1) := by decide +kernel
theorem dX8_isInForce_92 : decode cX8_isInForce 92 = .ok (.getfield 227, 3) := by decide +kernel
theorem dX8_isInForce_95 : decode cX8_isInForce 95 = .ok (.if_icmp .ne 11, 3) := by decide +kernel
theorem dX8_isInForce_98 : decode cX8_isInForce 98 = .ok (.iload 4, 2) := by decide +kernel
theorem dX8_isInForce_100 : decode cX8_isInForce 100 = .ok (.iload_n 2, 1) := by decide +kernel
theorem dX8_isInForce_101 : decode cX8_isInForce 101 = .ok (.if_icmp .le 5, 3) := by decide +kernel
theorem dX8_isInForce_104 : decode cX8_isInForce 104 = .ok (.iconst 0, 1) := by decide +kernel
theorem dX8_isInForce_105 : decode cX8_isInForce 105 = .ok (.ireturn, 1) := by decide +kernel
theorem dX8_isInForce_106 : decode cX8_isInForce 106 = .ok (.iinc 4 1, 3) := by decide +kernel
theorem dX8_isInForce_109 : decode cX8_isInForce 109 = .ok (.goto (-81), 3) := by decide +kernel
theorem dX8_isInForce_112 : decode cX8_isInForce 112 = .ok (.iconst 1, 1) := by decide +kernel
theorem dX8_isInForce_113 : decode cX8_isInForce 113 = .ok (.ireturn, 1) := by decide +kernel
theorem dX8_name_0 : decode cX8_name 0 = .ok (.aload_n 0, 1) := by decide +kernel
theorem dX8_name_1 : decode cX8_name 1 = .ok (.iload_n 1, 1) := by decide +kernel
theorem dX8_name_2 : decode cX8_name 2 = .ok (.iload_n 2, 1) := by decide +kernel
theorem dX8_name_3 : decode cX8_name 3 = .ok (.invokevirtual 173, 3) := by decide +kernel
theorem dX8_name_6 : decode cX8_name 6 = .ok (.astore 4, 2) := by decide +kernel
theorem dX8_name_8 : decode cX8_name 8 = .ok (.aload 4, 2) := by decide +kernel
theorem dX8_name_10 : decode cX8_name 10 = .ok (.ifnull 11, 3) := by decide +kernel
theorem dX8_name_13 : decode cX8_name 13 = .ok (.aload 4, 2) := by decide +kernel
theorem dX8_name_15 : decode cX8_name 15 = .ok (.getfield 144, 3) := by decide +kernel
theorem dX8_name_18 : decode cX8_name 18 = .ok (.ifCond .ne 5, 3) := by decide +kernel
theorem dX8_name_21 : decode cX8_name 21 = .ok (.iconst (-1), 1) := by decide +kernel
theorem dX8_name_22 : decode cX8_name 22 = .ok (.ireturn, 1) := by decide +kernel
theorem dX8_name_23 : decode cX8_name 23 = .ok (.iconst 0, 1) := by decide +kernel
theorem dX8_name_24 : decode cX8_name 24 = .ok (.istore 5, 2) := by decide +kernel
theorem dX8_name_26 : decode cX8_name 26 = .ok (.iload 5, 2) := by decide +kernel
theorem dX8_name_28 : decode cX8_name 28 = .ok (.aload_n 0, 1) := by decide +kernel
theorem dX8_name_29 : decode cX8_name 29 = .ok (.getfield 26, 3) := by decide +kernel
theorem dX8_name_32 : decode cX8_name 32 = .ok (.arraylength, 1) := by decide +kernel
theorem dX8_name_33 : decode cX8_name 33 = .ok (.if_icmp .ge 50, 3) := by decide +kernel
theorem dX8_name_36 : decode cX8_name 36 = .ok (.aload_n 0, 1) := by decide +kernel
theorem dX8_name_37 : decode cX8_name 37 = .ok (.getfield 26, 3) := by decide +kernel
theorem dX8_name_40 : decode cX8_name 40 = .ok (.iload 5, 2) := by decide +kernel
theorem dX8_name_42 : decode cX8_name 42 = .ok (.aaload, 1) := by decide +kernel
theorem dX8_name_43 : decode cX8_name 43 = .ok (.astore 6, 2) := by decide +kernel
theorem dX8_name_45 : decode cX8_name 45 = .ok (.aload 6, 2) := by decide +kernel
theorem dX8_name_47 : decode cX8_name 47 = .ok (.ifnull 30, 3) := by decide +kernel
theorem dX8_name_50 : decode cX8_name 50 = .ok (.aload_n 0, 1) := by decide +kernel
theorem dX8_name_51 : decode cX8_name 51 = .ok (.aload 6, 2) := by decide +kernel
theorem dX8_name_53 : decode cX8_name 53 = .ok (.iload 5, 2) := by decide +kernel
theorem dX8_name_55 : decode cX8_name 55 = .ok (.iload_n 3, 1) := by decide +kernel
theorem dX8_name_56 : decode cX8_name 56 = .ok (.invokevirtual 235, 3) := by decide +kernel
theorem dX8_name_59 : decode cX8_name 59 = .ok (.ifCond .eq 18, 3) := by decide +kernel
theorem dX8_name_62 : decode cX8_name 62 = .ok (.aload_n 0, 1) := by decide +kernel
theorem dX8_name_63 : decode cX8_name 63 = .ok (.aload 6, 2) := by decide +kernel
theorem dX8_name_65 : decode cX8_name 65 = .ok (.aload 4, 2) := by decide +kernel
theorem dX8_name_67 : decode cX8_name 67 = .ok (.invokevirtual 231, 3) := by decide +kernel
theorem dX8_name_70 : decode cX8_name 70 = .ok (.iconst 2, 1) := by decide +kernel
theorem dX8_name_71 : decode cX8_name 71 = .ok (.if_icmp .ne 6, 3) := by decide +kernel
theorem dX8_name_74 : decode cX8_name 74 = .ok (.iload 5, 2) := by decide +kernel
theorem dX8_name_76 : decode cX8_name 76 = .ok (.ireturn, 1) := by decide +kernel
theorem dX8_name_77 : decode cX8_name 77 = .ok (.iinc 5 1, 3) := by decide +kernel
theorem dX8_name_80 : decode cX8_name 80 = .ok (.goto (-54), 3) := by decide +kernel
theorem dX8_name_83 : decode cX8_name 83 = .ok (.iconst (-1), 1) := by decide +kernel
theorem dX8_name_84 : decode cX8_name 84 = .ok (.ireturn, 1) := by decide +kernel
set_option maxRecDepth 20000 in
theorem ggX8_isPollenLow_X8_isIn : GoodIn wsX8_isPollenLow wsX8_isIn := goodIn_r _ [4] rfl (by decide +kernel)
set_option maxRecDepth 20000 in
theorem gX8_isPollenLow_X8_isIn : GoodIn wsX8_isPollenLow (va_wsS RX8 85 yX8_isIn wsX8_isIn) := goodIn_app (goodIn_of _ (by decide +kernel)) ggX8_isPollenLow_X8_isIn
set_option maxRecDepth 20000 in
theorem ggX8_isPollenHigh_X8_isIn : GoodIn wsX8_isPollenHigh wsX8_isIn := goodIn_r _ [4] rfl (by decide +kernel)
set_option maxRecDepth 20000 in
theorem gX8_isPollenHigh_X8_isIn : GoodIn wsX8_isPollenHigh (va_wsS RX8 85 yX8_isIn wsX8_isIn) := goodIn_app (goodIn_of _ (by decide +kernel)) ggX8_isPollenHigh_X8_isIn
set_option maxRecDepth 20000 in
theorem ggX8_isMeasure_X8_isIn : GoodIn wsX8_isMeasure wsX8_isIn := goodIn_r _ [4] rfl (by decide +kernel)
set_option maxRecDepth 20000 in
theorem gX8_isMeasure_X8_isIn : GoodIn wsX8_isMeasure (va_wsS RX8 85 yX8_isIn wsX8_isIn) := goodIn_app (goodIn_of _ (by decide +kernel)) ggX8_isMeasure_X8_isIn
set_option maxRecDepth 20000 in
theorem ggX8_isMeasure_X8_isPollenLow : GoodIn wsX8_isMeasure wsX8_isPollenLow := goodIn_r _ [7, 1, 2, 3, 4] rfl (by decide +kernel)
set_option maxRecDepth 20000 in
theorem gX8_isMeasure_X8_isPollenLow : GoodIn wsX8_isMeasure (va_wsS RX8 279 yX8_isPollenLow wsX8_isPollenLow) := goodIn_app (goodIn_of _ (by decide +kernel)) ggX8_isMeasure_X8_isPollenLow
set_option maxRecDepth 20000 in
theorem ggX8_isMeasure_X8_isPollenHigh : GoodIn wsX8_isMeasure wsX8_isPollenHigh := goodIn_r _ [10, 1, 2, 3, 4] rfl (by decide +kernel)
set_option maxRecDepth 20000 in
theorem gX8_isMeasure_X8_isPollenHigh : GoodIn wsX8_isMeasure (va_wsS RX8 282 yX8_isPollenHigh wsX8_isPollenHigh) := goodIn_app (goodIn_of _ (by decide +kernel)) ggX8_isMeasure_X8_isPollenHigh
set_option maxRecDepth 20000 in
theorem ggX2_perGram_X8_isPollenLow : GoodIn wsX2_perGram wsX8_isPollenLow := goodIn_r _ [8, 9, 10, 7, 11] rfl (by decide +kernel)
set_option maxRecDepth 20000 in
theorem gX2_perGram_X8_isPollenLow_n61 : GoodIn wsX2_perGram (wsX8_isPollenLow) := ggX2_perGram_X8_isPollenLow
set_option maxRecDepth 20000 in
theorem ggX2_perGram_X8_isPollenHigh : GoodIn wsX2_perGram wsX8_isPollenHigh := goodIn_r _ [13, 9, 10, 7, 11] rfl (by decide +kernel)
set_option maxRecDepth 20000 in
theorem gX2_perGram_X8_isPollenHigh_n65 : GoodIn wsX2_perGram (wsX8_isPollenHigh) := ggX2_perGram_X8_isPollenHigh
set_option maxRecDepth 20000 in
theorem ggX8_weighed_X7_gramsOf : GoodIn wsX8_weighed wsX7_gramsOf := goodIn_r _ [9, 10, 29, 30, 31, 32, 33] rfl (by decide +kernel)
set_option maxRecDepth 20000 in
theorem gX8_weighed_X7_gramsOf : GoodIn wsX8_weighed (wsV RX8 181 RX7 yX7_gramsOf wsX7_gramsOf) := goodIn_app (goodIn_of _ (by decide +kernel)) ggX8_weighed_X7_gramsOf
set_option maxRecDepth 20000 in
theorem ggX8_weighed_X2_perGram : GoodIn wsX8_weighed wsX2_perGram := goodIn_r _ [15, 16, 17, 18, 19, 20, 21, 22, 23, 24, 25, 26, 27, 28, 49, 50, 51, 52, 53, 54, 55, 56, 57, 58] rfl (by decide +kernel)
set_option maxRecDepth 20000 in
theorem gX8_weighed_X2_perGram : GoodIn wsX8_weighed (wsV RX8 285 RX2 yX2_perGram wsX2_perGram) := goodIn_app (goodIn_of _ (by decide +kernel)) ggX8_weighed_X2_perGram
set_option maxRecDepth 20000 in
theorem ggX8_told_X8_weighed : GoodIn wsX8_told wsX8_weighed := goodIn_r _ [8, 2, 1, 9, 10, 11, 12, 13, 14, 15, 16, 17, 18, 19, 20, 21, 22, 23, 24, 25, 26, 27, 7, 28, 29, 30, 31, 32, 33, 34, 35, 36, 37, 38, 39, 40, 41, 42, 43, 44, 45, 46, 47, 48, 49, 50, 51, 52, 53, 54, 55, 56, 57, 58, 59, 60, 61, 62, 63] rfl (by decide +kernel)
set_option maxRecDepth 20000 in
theorem gX8_told_X8_weighed : GoodIn wsX8_told (wsV RX8 290 RX8 yX8_weighed wsX8_weighed) := goodIn_app (goodIn_of _ (by decide +kernel)) ggX8_told_X8_weighed
set_option maxRecDepth 20000 in
theorem ggX8_measure_X8_vesselAt : GoodIn wsX8_measure wsX8_vesselAt := goodIn_r _ [5, 6, 7, 8, 9, 4, 10, 11, 12, 13, 14, 53, 54, 55, 56, 57, 58, 59, 60, 61, 62, 63, 64, 65, 66, 67] rfl (by decide +kernel)
set_option maxRecDepth 20000 in
theorem gX8_measure_X8_vesselAt : GoodIn wsX8_measure (wsV RX8 173 RX8 yX8_vesselAt wsX8_vesselAt) := goodIn_app (goodIn_of _ (by decide +kernel)) ggX8_measure_X8_vesselAt
set_option maxRecDepth 20000 in
theorem ggX8_measure_X8_isMeasure : GoodIn wsX8_measure wsX8_isMeasure := goodIn_r _ [17, 12, 13, 4, 14, 18, 19, 20, 21, 22, 23] rfl (by decide +kernel)
set_option maxRecDepth 20000 in
theorem gX8_measure_X8_isMeasure : GoodIn wsX8_measure (va_wsS RX8 185 yX8_isMeasure wsX8_isMeasure) := goodIn_app (goodIn_of _ (by decide +kernel)) ggX8_measure_X8_isMeasure
set_option maxRecDepth 20000 in
theorem ggX8_measure_X8_told : GoodIn wsX8_measure wsX8_told := goodIn_r _ [27, 28, 29, 30, 31, 32, 33, 4, 34, 35, 36, 37, 38, 39, 40, 41, 42, 43, 44, 45, 46, 47, 48, 49, 50, 51, 52, 19, 20, 12, 13, 14, 22, 23, 68, 69, 70, 71, 72, 53, 54, 55, 56, 57, 58, 59, 60, 61, 62, 63, 64, 65, 66, 67, 73, 74, 75, 76, 77, 78, 79, 80, 81, 82] rfl (by decide +kernel)
set_option maxRecDepth 20000 in
theorem gX8_measure_X8_told : GoodIn wsX8_measure (wsV RX8 188 RX8 yX8_told wsX8_told) := goodIn_app (goodIn_of _ (by decide +kernel)) ggX8_measure_X8_told
set_option maxRecDepth 20000 in
theorem ggX8_verdictOfTest_X8_weighed : GoodIn wsX8_verdictOfTest wsX8_weighed := goodIn_r _ [6, 7, 1, 8, 9, 10, 11, 12, 13, 14, 15, 16, 17, 18, 19, 20, 21, 22, 23, 24, 25, 26, 5, 27, 28, 29, 30, 31, 32, 34, 35, 36, 37, 38, 39, 40, 41, 42, 43, 44, 45, 46, 47, 48, 49, 50, 51, 52, 53, 54, 55, 56, 57, 58, 59, 60, 61, 62, 63] rfl (by decide +kernel)
set_option maxRecDepth 20000 in
theorem gX8_verdictOfTest_X8_weighed : GoodIn wsX8_verdictOfTest (wsV RX8 290 RX8 yX8_weighed wsX8_weighed) := goodIn_app (goodIn_of _ (by decide +kernel)) ggX8_verdictOfTest_X8_weighed
set_option maxRecDepth 20000 in
theorem ggX8_verdictOfTest_X8_isPollenLow : GoodIn wsX8_verdictOfTest wsX8_isPollenLow := goodIn_r _ [27, 28, 29, 5, 30] rfl (by decide +kernel)
set_option maxRecDepth 20000 in
theorem gX8_verdictOfTest_X8_isPollenLow : GoodIn wsX8_verdictOfTest (va_wsS RX8 279 yX8_isPollenLow wsX8_isPollenLow) := goodIn_app (goodIn_of _ (by decide +kernel)) ggX8_verdictOfTest_X8_isPollenLow
set_option maxRecDepth 20000 in
theorem ggX8_verdict_X8_verdictOfTest : GoodIn wsX8_verdict wsX8_verdictOfTest := goodIn_r _ [14, 15, 16, 17, 18, 13, 19, 20, 21, 22, 23, 24, 25, 26, 27, 28, 29, 30, 31, 32, 33, 34, 35, 36, 37, 38, 39, 40, 41, 42, 43, 44, 45, 46, 67, 68, 69, 70, 71, 52, 53, 54, 55, 56, 57, 58, 59, 60, 61, 62, 63, 64, 65, 66, 72, 73, 74, 75, 76, 77, 78, 79, 80, 81] rfl (by decide +kernel)
set_option maxRecDepth 20000 in
theorem gX8_verdict_X8_verdictOfTest : GoodIn wsX8_verdict (wsV RX8 297 RX8 yX8_verdictOfTest wsX8_verdictOfTest) := goodIn_app (goodIn_of _ (by decide +kernel)) ggX8_verdict_X8_verdictOfTest
set_option maxRecDepth 20000 in
theorem ggX8_verdict_X8_isIn : GoodIn wsX8_verdict wsX8_isIn := goodIn_r _ [43] rfl (by decide +kernel)
set_option maxRecDepth 20000 in
theorem gX8_verdict_X8_isIn : GoodIn wsX8_verdict (va_wsS RX8 85 yX8_isIn wsX8_isIn) := goodIn_app (goodIn_of _ (by decide +kernel)) ggX8_verdict_X8_isIn
set_option maxRecDepth 20000 in
theorem ggX8_says_X8_ruleAt : GoodIn wsX8_says wsX8_ruleAt := goodIn_r _ [6, 7, 8, 9, 5, 10, 71, 72, 73, 74, 75, 76, 77, 78, 79, 80, 81, 82, 83, 84, 85] rfl (by decide +kernel)
set_option maxRecDepth 20000 in
theorem gX8_says_X8_ruleAt : GoodIn wsX8_says (wsV RX8 219 RX8 yX8_ruleAt wsX8_ruleAt) := goodIn_app (goodIn_of _ (by decide +kernel)) ggX8_says_X8_ruleAt
set_option maxRecDepth 20000 in
theorem ggX8_says_X8_vesselAt : GoodIn wsX8_says wsX8_vesselAt := goodIn_r _ [14, 15, 16, 17, 18, 5, 19, 20, 8, 9, 10, 71, 72, 73, 74, 75, 76, 77, 78, 79, 80, 81, 82, 83, 84, 85] rfl (by decide +kernel)
set_option maxRecDepth 20000 in
theorem gX8_says_X8_vesselAt : GoodIn wsX8_says (wsV RX8 173 RX8 yX8_vesselAt wsX8_vesselAt) := goodIn_app (goodIn_of _ (by decide +kernel)) ggX8_says_X8_vesselAt
set_option maxRecDepth 20000 in
theorem ggX8_says_X8_verdict : GoodIn wsX8_says wsX8_verdict := goodIn_r _ [24, 25, 26, 27, 28, 29, 30, 31, 32, 33, 34, 35, 36, 5, 37, 1, 38, 39, 40, 41, 42, 43, 44, 45, 46, 47, 48, 49, 50, 51, 52, 53, 54, 55, 56, 57, 58, 59, 60, 61, 62, 8, 9, 10, 63, 64, 65, 86, 87, 88, 89, 90, 71, 72, 73, 74, 75, 76, 77, 78, 79, 80, 81, 82, 83, 84, 85, 66, 67, 68, 69, 70, 91, 92, 93, 94, 95, 96, 97, 98, 99, 100] rfl (by decide +kernel)
set_option maxRecDepth 20000 in
theorem gX8_says_X8_verdict : GoodIn wsX8_says (wsV RX8 231 RX8 yX8_verdict wsX8_verdict) := goodIn_app (goodIn_of _ (by decide +kernel)) ggX8_says_X8_verdict
set_option maxRecDepth 20000 in
theorem ggX8_name_X8_vesselAt : GoodIn wsX8_name wsX8_vesselAt := goodIn_r _ [7, 8, 9, 10, 11, 6, 12, 13, 14, 15, 16, 75, 76, 77, 78, 79, 80, 81, 82, 83, 84, 85, 86, 87, 88, 89] rfl (by decide +kernel)
set_option maxRecDepth 20000 in
theorem gX8_name_X8_vesselAt : GoodIn wsX8_name (wsV RX8 173 RX8 yX8_vesselAt wsX8_vesselAt) := goodIn_app (goodIn_of _ (by decide +kernel)) ggX8_name_X8_vesselAt
set_option maxRecDepth 20000 in
theorem ggX8_name_X8_isInForce : GoodIn wsX8_name wsX8_isInForce := goodIn_r _ [20, 21, 22, 23, 2, 24, 90, 91, 92, 93, 94, 75, 76, 77, 78, 79, 80, 81, 82, 83, 84, 85, 86, 87, 88, 89] rfl (by decide +kernel)
set_option maxRecDepth 20000 in
theorem gX8_name_X8_isInForce : GoodIn wsX8_name (wsV RX8 235 RX8 yX8_isInForce wsX8_isInForce) := goodIn_app (goodIn_of _ (by decide +kernel)) ggX8_name_X8_isInForce
set_option maxRecDepth 20000 in
theorem ggX8_name_X8_verdict : GoodIn wsX8_name wsX8_verdict := goodIn_r _ [28, 29, 30, 31, 32, 33, 34, 35, 36, 37, 38, 39, 40, 6, 41, 1, 42, 43, 44, 45, 46, 47, 48, 49, 50, 51, 52, 53, 54, 55, 56, 57, 58, 59, 60, 61, 62, 63, 64, 65, 66, 14, 15, 16, 67, 68, 69, 90, 91, 92, 93, 94, 75, 76, 77, 78, 79, 80, 81, 82, 83, 84, 85, 86, 87, 88, 89, 70, 71, 72, 73, 74, 95, 96, 97, 98, 99, 100, 101, 102, 103, 104] rfl (by decide +kernel)
set_option maxRecDepth 20000 in
theorem gX8_name_X8_verdict : GoodIn wsX8_name (wsV RX8 231 RX8 yX8_verdict wsX8_verdict) := goodIn_app (goodIn_of _ (by decide +kernel)) ggX8_name_X8_verdict
set_option maxHeartbeats 4000000 in
set_option maxRecDepth 100000 in
theorem s_X8_isPollenLow (l : Launch) (n : Int32) : Met l yX8_isPollenLow wsX8_isPollenLow ({ frames := 1, cells := 0, slots := 0, locals := 22 }) (va_Pc [.int n] (fun _ => True)) (vp_Si (fun r => (r = 0 ∧ (n < 10 ∨ 14 < n)) ∨ (r = 1 ∧ ¬ n < 10 ∧ ¬ 14 < n))) 0 0 (fun _ => False) := by
  refine Met.ofW (cc := cX8_isPollenLow) (maxL := 1) (ret := (some .boolean)) (by decide) rfl ?_
  intro p e s m args below meth c s₁ B hml hv
  obtain ⟨rfl, -⟩ := hv
  have hx := B.exec
  have hb := B.bytes
  have hr := B.returns
  have hts := atoms_spec (ws := wsX8_isPollenLow) B.pre
  have hown : s.vm.findClass RX8 = some m.cls := findClass_of_methodNamed B.named
  have hlocks := B.notSynchronized
  have hl := lv_entry ([.int n]) (n := 1) (Nat.le_of_ble_eq_true rfl)
  rw [lg_entry_eq]
  generalize (lg_sl ([.int n]) ++ List.replicate (1 - (lg_sl ([.int n])).length) Slot.unset).toArray = ls at hl ⊢
  have hl : lv_has ls 1 [(0, .int n)] := hl
  refine lv_iload_n hx hb dX8_isPollenLow_0 rfl (lv_at hl 0 rfl) ?_
  refine lv_bipush (v := 10) hx hb dX8_isPollenLow_1 (by decide) ?_
  refine lv_bipush (v := 14) hx hb dX8_isPollenLow_3 (by decide) ?_
  refine vp_callSi (W.runS (As := [.int n, .int 10, .int 14]) (rest := []) ⟨hx, hb, hml, hown, hts⟩ (s_X8_isIn l n 10 14) (va_cwS 3 hts gX8_isPollenLow_X8_isIn rfl rfl rfl (by decide +kernel) ⟨Nat.le_of_ble_eq_true rfl, Nat.le_of_ble_eq_true rfl⟩) ⟨fun a U g mk q => q, fun U hU hW => ⟨rfl, trivial⟩⟩ rfl rfl hl.1 rfl (lv_room (Nat.le_of_ble_eq_true rfl)) dX8_isPollenLow_5 ⟨Nat.le_of_ble_eq_true rfl, Nat.le_of_ble_eq_true rfl⟩) (fun r_1 k_2 => ?_)
  rcases k_2 with ⟨rfl, a_3o⟩ | ⟨rfl, a_3, b_4⟩
  · exact W.zret (v := 0) hx hb hr rfl (fun t ht hW => ⟨0, rfl, Or.inl ⟨rfl, a_3o⟩, ht⟩) (fun _ h9 => by cases h9) dX8_isPollenLow_8
  exact W.zret (v := 1) hx hb hr rfl (fun t ht hW => ⟨1, rfl, Or.inr ⟨rfl, a_3, b_4⟩, ht⟩) (fun _ h9 => by cases h9) dX8_isPollenLow_8
set_option maxHeartbeats 4000000 in
set_option maxRecDepth 100000 in
theorem s_X8_isPollenHigh (l : Launch) (n : Int32) : Met l yX8_isPollenHigh wsX8_isPollenHigh ({ frames := 1, cells := 0, slots := 0, locals := 22 }) (va_Pc [.int n] (fun _ => True)) (vp_Si (fun r => (r = 0 ∧ (n < 20 ∨ 24 < n)) ∨ (r = 1 ∧ ¬ n < 20 ∧ ¬ 24 < n))) 0 0 (fun _ => False) := by
  refine Met.ofW (cc := cX8_isPollenHigh) (maxL := 1) (ret := (some .boolean)) (by decide) rfl ?_
  intro p e s m args below meth c s₁ B hml hv
  obtain ⟨rfl, -⟩ := hv
  have hx := B.exec
  have hb := B.bytes
  have hr := B.returns
  have hts := atoms_spec (ws := wsX8_isPollenHigh) B.pre
  have hown : s.vm.findClass RX8 = some m.cls := findClass_of_methodNamed B.named
  have hlocks := B.notSynchronized
  have hl := lv_entry ([.int n]) (n := 1) (Nat.le_of_ble_eq_true rfl)
  rw [lg_entry_eq]
  generalize (lg_sl ([.int n]) ++ List.replicate (1 - (lg_sl ([.int n])).length) Slot.unset).toArray = ls at hl ⊢
  have hl : lv_has ls 1 [(0, .int n)] := hl
  refine lv_iload_n hx hb dX8_isPollenHigh_0 rfl (lv_at hl 0 rfl) ?_
  refine lv_bipush (v := 20) hx hb dX8_isPollenHigh_1 (by decide) ?_
  refine lv_bipush (v := 24) hx hb dX8_isPollenHigh_3 (by decide) ?_
  refine vp_callSi (W.runS (As := [.int n, .int 20, .int 24]) (rest := []) ⟨hx, hb, hml, hown, hts⟩ (s_X8_isIn l n 20 24) (va_cwS 3 hts gX8_isPollenHigh_X8_isIn rfl rfl rfl (by decide +kernel) ⟨Nat.le_of_ble_eq_true rfl, Nat.le_of_ble_eq_true rfl⟩) ⟨fun a U g mk q => q, fun U hU hW => ⟨rfl, trivial⟩⟩ rfl rfl hl.1 rfl (lv_room (Nat.le_of_ble_eq_true rfl)) dX8_isPollenHigh_5 ⟨Nat.le_of_ble_eq_true rfl, Nat.le_of_ble_eq_true rfl⟩) (fun r_1 k_2 => ?_)
  rcases k_2 with ⟨rfl, a_3o⟩ | ⟨rfl, a_3, b_4⟩
  · exact W.zret (v := 0) hx hb hr rfl (fun t ht hW => ⟨0, rfl, Or.inl ⟨rfl, a_3o⟩, ht⟩) (fun _ h9 => by cases h9) dX8_isPollenHigh_8
  exact W.zret (v := 1) hx hb hr rfl (fun t ht hW => ⟨1, rfl, Or.inr ⟨rfl, a_3, b_4⟩, ht⟩) (fun _ h9 => by cases h9) dX8_isPollenHigh_8
set_option maxHeartbeats 4000000 in
set_option maxRecDepth 100000 in
theorem s_X8_isMeasure (l : Launch) (n : Int32) : Met l yX8_isMeasure wsX8_isMeasure ({ frames := 2, cells := 0, slots := 0, locals := 42 }) (va_Pc [.int n] (fun _ => True)) (vp_Si (fun r => (r = 0 ∧ ¬ isM n) ∨ (r = 1 ∧ isM n))) 0 0 (fun _ => False) := by
  refine Met.ofW (cc := cX8_isMeasure) (maxL := 1) (ret := (some .boolean)) (by decide) rfl ?_
  intro p e s m args below meth c s₁ B hml hv
  obtain ⟨rfl, -⟩ := hv
  have hx := B.exec
  have hb := B.bytes
  have hr := B.returns
  have hts := atoms_spec (ws := wsX8_isMeasure) B.pre
  have hown : s.vm.findClass RX8 = some m.cls := findClass_of_methodNamed B.named
  have hlocks := B.notSynchronized
  have hl := lv_entry ([.int n]) (n := 1) (Nat.le_of_ble_eq_true rfl)
  rw [lg_entry_eq]
  generalize (lg_sl ([.int n]) ++ List.replicate (1 - (lg_sl ([.int n])).length) Slot.unset).toArray = ls at hl ⊢
  have hl : lv_has ls 1 [(0, .int n)] := hl
  refine lv_iload_n hx hb dX8_isMeasure_0 rfl (lv_at hl 0 rfl) ?_
  refine lv_iconst (v := 0) hx hb dX8_isMeasure_1 (by decide) ?_
  refine lv_iconst (v := 2) hx hb dX8_isMeasure_2 (by decide) ?_
  refine vp_callSi (W.runS (As := [.int n, .int 0, .int 2]) (rest := []) ⟨hx, hb, hml, hown, hts⟩ (s_X8_isIn l n 0 2) (va_cwS 3 hts gX8_isMeasure_X8_isIn rfl rfl rfl (by decide +kernel) ⟨Nat.le_of_ble_eq_true rfl, Nat.le_of_ble_eq_true rfl⟩) ⟨fun a U g mk q => q, fun U hU hW => ⟨rfl, trivial⟩⟩ rfl rfl hl.1 rfl (lv_room (Nat.le_of_ble_eq_true rfl)) dX8_isMeasure_3 ⟨Nat.le_of_ble_eq_true rfl, Nat.le_of_ble_eq_true rfl⟩) (fun r_1 k_2 => ?_)
  rcases k_2 with ⟨rfl, a_3o⟩ | ⟨rfl, a_3, b_4⟩
  · refine lv_if_ne (tgt := 34) hx hb dX8_isMeasure_6 (by decide) (fun c_5 => absurd (by decide) c_5) (fun c_5 => ?_)
    refine lv_iload_n hx hb dX8_isMeasure_9 rfl (lv_at hl 0 rfl) ?_
    refine vp_callSi (W.runS (As := [.int n]) (rest := []) ⟨hx, hb, hml, hown, hts⟩ (s_X8_isPollenLow l n) (va_cwS 1 hts gX8_isMeasure_X8_isPollenLow rfl rfl rfl (by decide +kernel) ⟨Nat.le_of_ble_eq_true rfl, Nat.le_of_ble_eq_true rfl⟩) ⟨fun a U g mk q => q, fun U hU hW => ⟨rfl, trivial⟩⟩ rfl rfl hl.1 rfl (lv_room (Nat.le_of_ble_eq_true rfl)) dX8_isMeasure_10 ⟨Nat.le_of_ble_eq_true rfl, Nat.le_of_ble_eq_true rfl⟩) (fun r_6 k_7 => ?_)
    rcases k_7 with ⟨rfl, a_8o⟩ | ⟨rfl, a_8, b_9⟩
    · refine lv_if_ne (tgt := 34) hx hb dX8_isMeasure_13 (by decide) (fun c_10 => absurd (by decide) c_10) (fun c_10 => ?_)
      refine lv_iload_n hx hb dX8_isMeasure_16 rfl (lv_at hl 0 rfl) ?_
      refine vp_callSi (W.runS (As := [.int n]) (rest := []) ⟨hx, hb, hml, hown, hts⟩ (s_X8_isPollenHigh l n) (va_cwS 1 hts gX8_isMeasure_X8_isPollenHigh rfl rfl rfl (by decide +kernel) ⟨Nat.le_of_ble_eq_true rfl, Nat.le_of_ble_eq_true rfl⟩) ⟨fun a U g mk q => q, fun U hU hW => ⟨rfl, trivial⟩⟩ rfl rfl hl.1 rfl (lv_room (Nat.le_of_ble_eq_true rfl)) dX8_isMeasure_17 ⟨Nat.le_of_ble_eq_true rfl, Nat.le_of_ble_eq_true rfl⟩) (fun r_11 k_12 => ?_)
      rcases k_12 with ⟨rfl, a_13o⟩ | ⟨rfl, a_13, b_14⟩
      · refine lv_if_ne (tgt := 34) hx hb dX8_isMeasure_20 (by decide) (fun c_15 => absurd (by decide) c_15) (fun c_15 => ?_)
        refine lv_iload_n hx hb dX8_isMeasure_23 rfl (lv_at hl 0 rfl) ?_
        refine lv_bipush (v := 30) hx hb dX8_isMeasure_24 (by decide) ?_
        refine lv_bipush (v := 33) hx hb dX8_isMeasure_26 (by decide) ?_
        refine vp_callSi (W.runS (As := [.int n, .int 30, .int 33]) (rest := []) ⟨hx, hb, hml, hown, hts⟩ (s_X8_isIn l n 30 33) (va_cwS 3 hts gX8_isMeasure_X8_isIn rfl rfl rfl (by decide +kernel) ⟨Nat.le_of_ble_eq_true rfl, Nat.le_of_ble_eq_true rfl⟩) ⟨fun a U g mk q => q, fun U hU hW => ⟨rfl, trivial⟩⟩ rfl rfl hl.1 rfl (lv_room (Nat.le_of_ble_eq_true rfl)) dX8_isMeasure_28 ⟨Nat.le_of_ble_eq_true rfl, Nat.le_of_ble_eq_true rfl⟩) (fun r_16 k_17 => ?_)
        rcases k_17 with ⟨rfl, a_18o⟩ | ⟨rfl, a_18, b_19⟩
        · refine lv_if_eq (tgt := 38) hx hb dX8_isMeasure_31 (by decide) (fun c_20 => ?_) (fun c_20 => absurd (by decide) c_20)
          refine lv_iconst (v := 0) hx hb dX8_isMeasure_38 (by decide) ?_
          exact W.zret (v := 0) hx hb hr rfl (fun t ht hW => ⟨0, rfl, Or.inl ⟨rfl, fun h => Or.elim h (fun h => h a_3o) (fun h => Or.elim h (fun h => h a_8o) (fun h => Or.elim h (fun h => h a_13o) (fun h => h a_18o)))⟩, ht⟩) (fun _ h9 => by cases h9) dX8_isMeasure_39
        refine lv_if_eq (tgt := 38) hx hb dX8_isMeasure_31 (by decide) (fun c_21 => absurd c_21 (by decide)) (fun c_21 => ?_)
        refine lv_iconst (v := 1) hx hb dX8_isMeasure_34 (by decide) ?_
        refine lv_goto (tgt := 39) hx hb dX8_isMeasure_35 (by decide) ?_
        exact W.zret (v := 1) hx hb hr rfl (fun t ht hW => ⟨1, rfl, Or.inr ⟨rfl, Or.inr (Or.inr (Or.inr ((fun h => Or.elim h a_18 b_19))))⟩, ht⟩) (fun _ h9 => by cases h9) dX8_isMeasure_39
      refine lv_if_ne (tgt := 34) hx hb dX8_isMeasure_20 (by decide) (fun c_22 => ?_) (fun c_22 => absurd c_22 (by decide))
      refine lv_iconst (v := 1) hx hb dX8_isMeasure_34 (by decide) ?_
      refine lv_goto (tgt := 39) hx hb dX8_isMeasure_35 (by decide) ?_
      exact W.zret (v := 1) hx hb hr rfl (fun t ht hW => ⟨1, rfl, Or.inr ⟨rfl, Or.inr (Or.inr (Or.inl (fun h => Or.elim h a_13 b_14)))⟩, ht⟩) (fun _ h9 => by cases h9) dX8_isMeasure_39
    refine lv_if_ne (tgt := 34) hx hb dX8_isMeasure_13 (by decide) (fun c_23 => ?_) (fun c_23 => absurd c_23 (by decide))
    refine lv_iconst (v := 1) hx hb dX8_isMeasure_34 (by decide) ?_
    refine lv_goto (tgt := 39) hx hb dX8_isMeasure_35 (by decide) ?_
    exact W.zret (v := 1) hx hb hr rfl (fun t ht hW => ⟨1, rfl, Or.inr ⟨rfl, Or.inr (Or.inl (fun h => Or.elim h a_8 b_9))⟩, ht⟩) (fun _ h9 => by cases h9) dX8_isMeasure_39
  refine lv_if_ne (tgt := 34) hx hb dX8_isMeasure_6 (by decide) (fun c_24 => ?_) (fun c_24 => absurd c_24 (by decide))
  refine lv_iconst (v := 1) hx hb dX8_isMeasure_34 (by decide) ?_
  refine lv_goto (tgt := 39) hx hb dX8_isMeasure_35 (by decide) ?_
  exact W.zret (v := 1) hx hb hr rfl (fun t ht hW => ⟨1, rfl, Or.inr ⟨rfl, Or.inl (fun h => Or.elim h a_3 b_4)⟩, ht⟩) (fun _ h9 => by cases h9) dX8_isMeasure_39
set_option maxHeartbeats 4000000 in
set_option maxRecDepth 100000 in
theorem s_X8_hasBit (l : Launch) (n : Int32) (k : Nat) : Met l yX8_hasBit wsX8_hasBit ({ frames := 0, cells := 0, slots := 0, locals := 0 }) (va_Pc [.int n, .int (nI k)] (fun _ => True)) (vp_Si (fun r => (r = 1 ∧ bB n k) ∨ (r = 0 ∧ ¬ bB n k))) 0 0 (fun _ => False) := by
  refine Met.ofW (cc := cX8_hasBit) (maxL := 2) (ret := (some .boolean)) (by decide) rfl ?_
  intro p e s m args below meth c s₁ B hml hv
  obtain ⟨rfl, -⟩ := hv
  have hx := B.exec
  have hb := B.bytes
  have hr := B.returns
  have hts := atoms_spec (ws := wsX8_hasBit) B.pre
  have hown : s.vm.findClass RX8 = some m.cls := findClass_of_methodNamed B.named
  have hlocks := B.notSynchronized
  have hl := lv_entry ([.int n, .int (nI k)]) (n := 2) (Nat.le_of_ble_eq_true rfl)
  rw [lg_entry_eq]
  generalize (lg_sl ([.int n, .int (nI k)]) ++ List.replicate (2 - (lg_sl ([.int n, .int (nI k)])).length) Slot.unset).toArray = ls at hl ⊢
  have hl : lv_has ls 2 [(0, .int n), (1, .int (nI k))] := hl
  refine lv_iload_n hx hb dX8_hasBit_0 rfl (lv_at hl 0 rfl) ?_
  refine lv_iload_n hx hb dX8_hasBit_1 rfl (lv_at hl 1 rfl) ?_
  refine lv_ishr hx hb dX8_hasBit_2 ?_
  refine lv_iconst (v := 1) hx hb dX8_hasBit_3 (by decide) ?_
  refine lv_iand hx hb dX8_hasBit_4 ?_
  refine lv_iconst (v := 1) hx hb dX8_hasBit_5 (by decide) ?_
  refine lv_icmp_ne (tgt := 13) hx hb dX8_hasBit_6 (by decide) (fun c_1 => ?_) (fun c_1 => ?_)
  · refine lv_iconst (v := 0) hx hb dX8_hasBit_13 (by decide) ?_
    exact W.zret (v := 0) hx hb hr rfl (fun t ht hW => ⟨0, rfl, Or.inr ⟨rfl, c_1⟩, ht⟩) (fun _ h9 => by cases h9) dX8_hasBit_14
  refine lv_iconst (v := 1) hx hb dX8_hasBit_9 (by decide) ?_
  refine lv_goto (tgt := 14) hx hb dX8_hasBit_10 (by decide) ?_
  exact W.zret (v := 1) hx hb hr rfl (fun t ht hW => ⟨1, rfl, Or.inl ⟨rfl, c_1⟩, ht⟩) (fun _ h9 => by cases h9) dX8_hasBit_14
set_option maxHeartbeats 4000000 in
set_option maxRecDepth 100000 in
theorem a_perGram (l : Launch) (D : va_G) (ρ : Nat → Nat) (ws : va_W) (tys : List (ClassId × FieldType)) (lt klt sx : Nat) (x0 x1 x2 x3 x7 x8 x9 : Int32) (lo klo : Nat) (clo : ClassId) (tlo : Nat) (flo : Nat → Int32) (hi khi : Nat) (chi : ClassId) (thi : Nat) (fhi : Nat → Int32) (a1 : Int32) (sz : Nat) (elt : ws[klt]? = some (lt, .inr (2, [.int x0, .int x1, .int x2, .int x3, .ref lo, .ref hi, .ref sx, .int x7, .int x8, .int x9]))) (elo : ws[klo]? = some (lo, .inl (clo, 5, .inl flo))) (ulo : tys[tlo]? = some (clo, .int)) (ehi : ws[khi]? = some (hi, .inl (chi, 5, .inl fhi))) (uhi : tys[thi]? = some (chi, .int)) : Met l yX2_perGram wsX2_perGram ({ frames := 2, cells := 0, slots := 0, locals := 42 }) (va_Pc [.ref lt, .int a1] (fun U => U.heap.size = sz ∧ va_P D vwCl ws U.heap ∧ va_K D vwCl tys U ∧ va_D (fun _ => True) ws ∧ NZ U)) (va_Qi (fun (r : Int32) (_ : Unit) => r = pgC x7 x2 x3 flo fhi a1) (fun (_ : Unit) (t : State) => ∃ (ws' : va_W) (tys' : List (ClassId × FieldType)), sm ρ [] ws ws' ∧ tyx tys tys' ∧ va_P D vwCl ws' t.heap ∧ va_K D vwCl tys' t ∧ va_D (va_A ws sz) ws' ∧ (ws = ws' ∧ tys = tys')) (va_A ws sz)) 0 0 (va_A ws sz) := by
  refine Met.ofW (cc := cX2_perGram) (maxL := 2) (ret := (some .int)) (by decide) rfl ?_
  intro p e s m args below meth c s₁ B hml hv
  obtain ⟨rfl, hsz, hP, hK, hD0, hnz⟩ := hv
  have hx := B.exec
  have hb := B.bytes
  have hr := B.returns
  have hts := atoms_spec (ws := wsX2_perGram) B.pre
  have hown : s.vm.findClass RX2 = some m.cls := findClass_of_methodNamed B.named
  have hlocks := B.notSynchronized
  subst hsz
  have hD := hD0.self (sz := s.heap.size)
  generalize hAe : va_A ws s.heap.size = A at hD ⊢
  have hA : ∀ q : Nat, s.heap.size ≤ q → A q := fun q h => by rw [← hAe]; exact Or.inr h
  have hS : va_S A s.heap s.heap [] := va_S.rf
  have hsm : sm ρ [] ws ws := sm.rf ws
  have htx : tyx tys tys := tyx.rf tys
  have hin2 : ∀ w ∈ u_ws RX2 TX2 10, w ∈ wsX2_perGram := (fun _ h9 => List.mem_cons_of_mem _ ((List.mem_append_right _ h9)))
  have hl := lv_entry ([.ref lt, .int a1]) (n := 2) (Nat.le_of_ble_eq_true rfl)
  rw [lg_entry_eq]
  generalize (lg_sl ([.ref lt, .int a1]) ++ List.replicate (2 - (lg_sl ([.ref lt, .int a1])).length) Slot.unset).toArray = ls at hl ⊢
  have hl : lv_has ls 2 [(0, .ref lt), (1, .int a1)] := hl
  refine lv_iload_n hx hb dX2_perGram_0 rfl (lv_at hl 1 rfl) ?_
  refine lv_if_ne (tgt := 9) hx hb dX2_perGram_1 (by decide) (fun c_1 => ?_) (fun c_1 => ?_)
  · refine lv_iload_n hx hb dX2_perGram_9 rfl (lv_at hl 1 rfl) ?_
    refine lv_iconst (v := 1) hx hb dX2_perGram_10 (by decide) ?_
    refine lv_icmp_ne (tgt := 19) hx hb dX2_perGram_11 (by decide) (fun c_2 => ?_) (fun c_2 => ?_)
    · refine lv_iload_n hx hb dX2_perGram_19 rfl (lv_at hl 1 rfl) ?_
      refine vp_callSi (run_cr (va_runSN (As := [.int a1]) (rest := []) ⟨hx, hb, hml, hown, hts⟩ (s_X8_isPollenLow l a1) ⟨va_cnB 1 hts gX2_perGram_X8_isPollenLow_n61 rfl rfl rfl hnz.2.1 (hts (.initialized RX8) (List.mem_of_getElem? (i := 7) rfl)) (by decide +kernel) ⟨Nat.le_of_ble_eq_true rfl, Nat.le_of_ble_eq_true rfl⟩, (hts (.static yX8_isPollenLow) (List.mem_of_getElem? (i := 6) rfl)), trivial⟩ ⟨fun a U g mk q => q, fun U hU hW => ⟨rfl, trivial⟩⟩ rfl rfl hl.1 rfl (lv_room (Nat.le_of_ble_eq_true rfl)) dX2_perGram_20 ⟨Nat.le_of_ble_eq_true rfl, Nat.le_of_ble_eq_true rfl⟩)) (fun r_3 k_4 => ?_)
      rcases k_4 with ⟨rfl, o_5⟩ | ⟨rfl, a_6, b_7⟩
      · refine lv_if_eq (tgt := 36) hx hb dX2_perGram_23 (by decide) (fun c_11 => ?_) (fun c_11 => absurd (by decide) c_11)
        refine lv_iload_n hx hb dX2_perGram_36 rfl (lv_at hl 1 rfl) ?_
        refine vp_callSi (run_cr (va_runSN (As := [.int a1]) (rest := []) ⟨hx, hb, hml, hown, hts⟩ (s_X8_isPollenHigh l a1) ⟨va_cnB 1 hts gX2_perGram_X8_isPollenHigh_n65 rfl rfl rfl hnz.2.2 (hts (.initialized RX8) (List.mem_of_getElem? (i := 7) rfl)) (by decide +kernel) ⟨Nat.le_of_ble_eq_true rfl, Nat.le_of_ble_eq_true rfl⟩, (hts (.static yX8_isPollenHigh) (List.mem_of_getElem? (i := 12) rfl)), trivial⟩ ⟨fun a U g mk q => q, fun U hU hW => ⟨rfl, trivial⟩⟩ rfl rfl hl.1 rfl (lv_room (Nat.le_of_ble_eq_true rfl)) dX2_perGram_37 ⟨Nat.le_of_ble_eq_true rfl, Nat.le_of_ble_eq_true rfl⟩)) (fun r_12 k_13 => ?_)
        rcases k_13 with ⟨rfl, o_14⟩ | ⟨rfl, a_15, b_16⟩
        · refine lv_if_eq (tgt := 53) hx hb dX2_perGram_40 (by decide) (fun c_20 => ?_) (fun c_20 => absurd (by decide) c_20)
          refine lv_iload_n hx hb dX2_perGram_53 rfl (lv_at hl 1 rfl) ?_
          refine lv_bipush (v := 30) hx hb dX2_perGram_54 (by decide) ?_
          refine lv_aload_n hx hb dX2_perGram_56 rfl (lv_at hl 0 rfl) ?_
          refine va_get (D := D) (ci := 2) (v := .int x3) (C := RX2) (T := TX2) (N := 10) hx hb hts hin2 hown hK hP klt elt rfl 3 (by decide) (hts (.fieldLink RX2 38 "HoneyHouse$Lot" "land" "I") (List.mem_of_getElem? (i := 5) rfl)) (fun _ h9 => h9) rfl dX2_perGram_57 ?_
          refine lv_iadd hx hb dX2_perGram_60 ?_
          refine lv_icmp_ne (tgt := 70) hx hb dX2_perGram_61 (by decide) (fun c_21 => ?_) (fun c_21 => ?_)
          · refine lv_iconst (v := 0) hx hb dX2_perGram_70 (by decide) ?_
            exact W.iret (v := 0) hx hb hr (fun t ht hW => ⟨⟨0, (), rfl, (by rw [pgC, if_neg c_1, if_neg c_2, if_pos o_5, if_pos o_14, if_neg c_21]), ws, tys, hsm, htx, by rw [ht]; exact hP, va_K.moved hW.alike hK, hD, ⟨rfl, rfl⟩⟩, hS.F ht⟩) hS.2.2 dX2_perGram_71
          refine lv_sipush (v := 1000) hx hb dX2_perGram_64 (by decide) ?_
          refine lv_goto (tgt := 71) hx hb dX2_perGram_67 (by decide) ?_
          exact W.iret (v := 1000) hx hb hr (fun t ht hW => ⟨⟨1000, (), rfl, (by rw [pgC, if_neg c_1, if_neg c_2, if_pos o_5, if_pos o_14, if_pos c_21]), ws, tys, hsm, htx, by rw [ht]; exact hP, va_K.moved hW.alike hK, hD, ⟨rfl, rfl⟩⟩, hS.F ht⟩) hS.2.2 dX2_perGram_71
        obtain ⟨j_17, hj_18, hj_19, rfl⟩ := is_nat (a := 20) (b := 24) a_15 b_16 (by omega)
        refine lv_if_eq (tgt := 53) hx hb dX2_perGram_40 (by decide) (fun c_22 => absurd c_22 (by decide)) (fun c_22 => ?_)
        refine lv_aload_n hx hb dX2_perGram_43 rfl (lv_at hl 0 rfl) ?_
        refine va_get (D := D) (ci := 2) (v := .ref hi) (C := RX2) (T := TX2) (N := 10) hx hb hts hin2 hown hK hP klt elt rfl 5 (by decide) (hts (.fieldLink RX2 15 "HoneyHouse$Lot" "high" "[I") (List.mem_of_getElem? (i := 4) rfl)) (fun _ h9 => h9) rfl dX2_perGram_44 ?_
        refine lv_iload_n hx hb dX2_perGram_47 rfl (lv_at hl 1 rfl) ?_
        refine lv_bipush (v := 20) hx hb dX2_perGram_48 (by decide) ?_
        refine lv_isub hx hb dX2_perGram_50 ?_
        refine tp_i (y := nI (j_17 - 20)) (pk_sub (a := j_17) (b := 20) (by omega)) ?_
        refine va_iald (f := fhi) (n := 5) hx hb hK hP khi thi ehi uhi (vp_in_nI (n := j_17 - 20) (by omega) (by omega)) dX2_perGram_51 ?_
        exact W.iret (v := fhi (nI (j_17 - 20)).toNatClampNeg) hx hb hr (fun t ht hW => ⟨⟨fhi (nI (j_17 - 20)).toNatClampNeg, (), rfl, (by rw [pgC, if_neg c_1, if_neg c_2, if_pos o_5, if_neg (fun h => Or.elim h a_15 b_16), nI_clamp (n := j_17) (by omega), nI_clamp (n := j_17 - 20) (by omega)]), ws, tys, hsm, htx, by rw [ht]; exact hP, va_K.moved hW.alike hK, hD, ⟨rfl, rfl⟩⟩, hS.F ht⟩) hS.2.2 dX2_perGram_52
      obtain ⟨j_8, hj_9, hj_10, rfl⟩ := is_nat (a := 10) (b := 14) a_6 b_7 (by omega)
      refine lv_if_eq (tgt := 36) hx hb dX2_perGram_23 (by decide) (fun c_23 => absurd c_23 (by decide)) (fun c_23 => ?_)
      refine lv_aload_n hx hb dX2_perGram_26 rfl (lv_at hl 0 rfl) ?_
      refine va_get (D := D) (ci := 2) (v := .ref lo) (C := RX2) (T := TX2) (N := 10) hx hb hts hin2 hown hK hP klt elt rfl 4 (by decide) (hts (.fieldLink RX2 9 "HoneyHouse$Lot" "low" "[I") (List.mem_of_getElem? (i := 3) rfl)) (fun _ h9 => h9) rfl dX2_perGram_27 ?_
      refine lv_iload_n hx hb dX2_perGram_30 rfl (lv_at hl 1 rfl) ?_
      refine lv_bipush (v := 10) hx hb dX2_perGram_31 (by decide) ?_
      refine lv_isub hx hb dX2_perGram_33 ?_
      refine tp_i (y := nI (j_8 - 10)) (pk_sub (a := j_8) (b := 10) (by omega)) ?_
      refine va_iald (f := flo) (n := 5) hx hb hK hP klo tlo elo ulo (vp_in_nI (n := j_8 - 10) (by omega) (by omega)) dX2_perGram_34 ?_
      exact W.iret (v := flo (nI (j_8 - 10)).toNatClampNeg) hx hb hr (fun t ht hW => ⟨⟨flo (nI (j_8 - 10)).toNatClampNeg, (), rfl, (by rw [pgC, if_neg c_1, if_neg c_2, if_neg (fun h => Or.elim h a_6 b_7), nI_clamp (n := j_8) (by omega), nI_clamp (n := j_8 - 10) (by omega)]), ws, tys, hsm, htx, by rw [ht]; exact hP, va_K.moved hW.alike hK, hD, ⟨rfl, rfl⟩⟩, hS.F ht⟩) hS.2.2 dX2_perGram_35
    refine lv_aload_n hx hb dX2_perGram_14 rfl (lv_at hl 0 rfl) ?_
    refine va_get (D := D) (ci := 2) (v := .int x2) (C := RX2) (T := TX2) (N := 10) hx hb hts hin2 hown hK hP klt elt rfl 2 (by decide) (hts (.fieldLink RX2 35 "HoneyHouse$Lot" "colour" "I") (List.mem_of_getElem? (i := 2) rfl)) (fun _ h9 => h9) rfl dX2_perGram_15 ?_
    exact W.iret (v := x2) hx hb hr (fun t ht hW => ⟨⟨x2, (), rfl, (by rw [pgC, if_neg c_1, if_pos c_2]), ws, tys, hsm, htx, by rw [ht]; exact hP, va_K.moved hW.alike hK, hD, ⟨rfl, rfl⟩⟩, hS.F ht⟩) hS.2.2 dX2_perGram_18
  refine lv_aload_n hx hb dX2_perGram_4 rfl (lv_at hl 0 rfl) ?_
  refine va_get (D := D) (ci := 2) (v := .int x7) (C := RX2) (T := TX2) (N := 10) hx hb hts hin2 hown hK hP klt elt rfl 7 (by decide) (hts (.fieldLink RX2 32 "HoneyHouse$Lot" "water" "I") (List.mem_of_getElem? (i := 1) rfl)) (fun _ h9 => h9) rfl dX2_perGram_5 ?_
  exact W.iret (v := x7) hx hb hr (fun t ht hW => ⟨⟨x7, (), rfl, (by rw [pgC, if_pos c_1]), ws, tys, hsm, htx, by rw [ht]; exact hP, va_K.moved hW.alike hK, hD, ⟨rfl, rfl⟩⟩, hS.F ht⟩) hS.2.2 dX2_perGram_8
set_option maxHeartbeats 4000000 in
set_option maxRecDepth 100000 in
theorem a_weighed (l : Launch) (D : va_G) (ρ : Nat → Nat) (ws : va_W) (tys : List (ClassId × FieldType)) (fv : Nat → Nat → Int32) (h0 lc bc rc fc : Nat) (dn : Int32) (tl : Nat) (v kv : Nat) (vt vh vr vp : Int32) (g kg : Nat) (cg : ClassId) (tg : Nat) (f : Nat → Int32) (a2 : Int32) (sz : Nat) (X : XI ρ fv ws tys h0 lc bc rc fc dn tl) (hkv : ρ kv ≠ 0) (hkg : ρ kg ≠ 0) (ev : ws[kv]? = some (v, .inr (7, [.ref g, .int vt, .int vh, .int vr, .int vp]))) (eg : ws[kg]? = some (g, .inl (cg, 40, .inl f))) (ug : tys[tg]? = some (cg, .int)) : Met l yX8_weighed wsX8_weighed ({ frames := 3, cells := 0, slots := 0, locals := 63 }) (va_Pc [.ref h0, .ref v, .int a2] (fun U => U.heap.size = sz ∧ va_P D vwCl ws U.heap ∧ va_K D vwCl tys U ∧ va_D (fun _ => True) ws ∧ NZ U)) (va_Ql (fun (r : Int64) (_ : Unit) => (a2 = 2 ∧ r = vh.toInt64 * vt.toInt64) ∨ (¬ a2 = 2 ∧ r = wG f (pgL fv a2) lc)) (fun (_ : Unit) (t : State) => ∃ (ws' : va_W) (tys' : List (ClassId × FieldType)), sm ρ [] ws ws' ∧ tyx tys tys' ∧ va_P D vwCl ws' t.heap ∧ va_K D vwCl tys' t ∧ va_D (va_A ws sz) ws' ∧ (ws = ws' ∧ tys = tys')) (va_A ws sz)) 0 0 (va_A ws sz) := by
  refine Met.ofW (cc := cX8_weighed) (maxL := 7) (ret := (some .long)) (by decide) rfl ?_
  intro p e s m args below meth c s₁ B hml hv
  obtain ⟨rfl, hsz, hP, hK, hD0, hnz⟩ := hv
  have hx := B.exec
  have hb := B.bytes
  have hr := B.returns
  have hts := atoms_spec (ws := wsX8_weighed) B.pre
  have hown : s.vm.findClass RX8 = some m.cls := findClass_of_methodNamed B.named
  have hlocks := B.notSynchronized
  subst hsz
  have hD := hD0.self (sz := s.heap.size)
  generalize hAe : va_A ws s.heap.size = A at hD ⊢
  have hA : ∀ q : Nat, s.heap.size ≤ q → A q := fun q h => by rw [← hAe]; exact Or.inr h
  have hS : va_S A s.heap s.heap [] := va_S.rf
  have hsm : sm ρ [] ws ws := sm.rf ws
  have htx : tyx tys tys := tyx.rf tys
  have hin7 : ∀ w ∈ u_ws RX7 TX7 5, w ∈ wsX8_weighed := (fun _ h9 => List.mem_cons_of_mem _ (List.mem_append_left _ (List.mem_append_left _ ((List.mem_append_right _ h9)))))
  have hin8 : ∀ w ∈ u_ws RX8 TX8 15, w ∈ wsX8_weighed := (fun _ h9 => List.mem_cons_of_mem _ (List.mem_append_left _ ((List.mem_append_right _ h9))))
  have hl := lv_entry ([.ref h0, .ref v, .int a2]) (n := 7) (Nat.le_of_ble_eq_true rfl)
  rw [lg_entry_eq]
  generalize (lg_sl ([.ref h0, .ref v, .int a2]) ++ List.replicate (7 - (lg_sl ([.ref h0, .ref v, .int a2])).length) Slot.unset).toArray = ls at hl ⊢
  have hl : lv_has ls 7 [(0, .ref h0), (1, .ref v), (2, .int a2)] := hl
  obtain ⟨k0, la, ta, ba, ra, sn, rd, dr, bl, vd, fb, e0, w0, hle0, hnum, qla, qta, qba, qra, qsn, qrd, qdr, qbl, qvd, qfb⟩ := id X
  obtain ⟨kla, cla, tla, fla, ela, ula, hla0, hla1⟩ := id qla
  have hlc := hnum.1
  refine lv_iload_n hx hb dX8_weighed_0 rfl (lv_at hl 2 rfl) ?_
  refine lv_iconst (v := 2) hx hb dX8_weighed_1 (by decide) ?_
  refine lv_icmp_ne (tgt := 17) hx hb dX8_weighed_2 (by decide) (fun c_1 => ?_) (fun c_1 => ?_)
  · refine lv_lconst (v := 0) hx hb dX8_weighed_17 (by decide) ?_
    refine lv_lstore_n (lv' := [(3, .long 0), (0, .ref h0), (1, .ref v), (2, .int a2)]) hx hb dX8_weighed_18 rfl hl (by decide) rfl (fun ls hl => ?_)
    refine lv_iconst (v := 0) hx hb dX8_weighed_19 (by decide) ?_
    refine lv_istore (lv' := [(5, .int 0), (3, .long 0), (0, .ref h0), (1, .ref v), (2, .int a2)]) hx hb dX8_weighed_20 hl (by decide) rfl (fun ls hl => ?_)
    refine lp_V (nL := 7) (σ := Nat × Int64) (lv := fun x9 => [(5, .int (nI x9.1)), (3, .long x9.2), (2, .int a2), (1, .ref v), (0, .ref h0)]) (μ := fun x9 => 40 - x9.1) (J := fun x9 ws9 => (ws = ws9) ∧ (x9.1 ≤ lc) ∧ (x9.2 = wG f (pgL fv a2) x9.1)) (fun x9 ws_7 H locs ls hj hP hD hS hl ih_2 => ?_) (0, 0) ws _ _ ls ⟨rfl, (show 0 ≤ lc from by omega), (show 0 = wG f (pgL fv a2) 0 from rfl)⟩ hP hD hS (lv_sub hl [0, 1, 4, 3, 2] rfl)
    obtain ⟨i_3, x_4⟩ := x9
    replace hj : (ws = ws_7) ∧ (i_3 ≤ lc) ∧ (x_4 = wG f (pgL fv a2) i_3) := hj
    obtain ⟨hm_8, hi_5, hs_6⟩ := hj
    subst hm_8
    have hl : lv_has ls 7 [(5, .int (nI i_3)), (3, .long x_4), (2, .int a2), (1, .ref v), (0, .ref h0)] := hl
    refine lv_iload hx hb dX8_weighed_22 (lv_at hl 0 rfl) ?_
    refine lv_aload_n hx hb dX8_weighed_24 rfl (lv_at hl 4 rfl) ?_
    refine va_get (D := D) (ci := 8) (v := .int (nI lc)) (C := RX8) (T := TX8) (N := 15) hx hb hts hin8 hown hK hP k0 e0 rfl 10 (by decide) (hts (.fieldLink RX8 90 "HoneyHouse" "lotCount" "I") (List.mem_of_getElem? (i := 3) rfl)) (fun _ h9 => h9) rfl dX8_weighed_25 ?_
    refine lv_icmp_ge (tgt := 79) hx hb dX8_weighed_28 (by decide) (fun c_10 => ?_) (fun c_10 => ?_)
    · have d_11 := n_le (a := lc) (b := i_3) (by omega) (by omega) c_10
      refine lv_lload_n hx hb dX8_weighed_79 rfl (lv_at hl 1 rfl) ?_
      exact W.lret (v := x_4) hx hb hr (fun t ht hW => ⟨⟨x_4, (), rfl, Or.inr ⟨c_1, by rw [hs_6, show i_3 = lc by omega]⟩, ws, tys, hsm, htx, by rw [ht]; exact hP, va_K.moved hW.alike hK, hD, ⟨rfl, rfl⟩⟩, hS.F ht⟩) hS.2.2 dX8_weighed_80
    have d_12 := n_nle (a := lc) (b := i_3) (by omega) (by omega) c_10
    refine lv_iload hx hb dX8_weighed_31 (lv_at hl 0 rfl) ?_
    refine lv_aload_n hx hb dX8_weighed_33 rfl (lv_at hl 4 rfl) ?_
    refine va_get (D := D) (ci := 8) (v := .ref la) (C := RX8) (T := TX8) (N := 15) hx hb hts hin8 hown hK hP k0 e0 rfl 0 (by decide) (hts (.fieldLink RX8 11 "HoneyHouse" "lots" "[LHoneyHouse$Lot;") (List.mem_of_getElem? (i := 4) rfl)) (fun _ h9 => h9) rfl dX8_weighed_34 ?_
    refine va_alen (v := 40) hx hb hK hP kla tla ela ula rfl dX8_weighed_37 ?_
    refine lv_icmp_ge (tgt := 79) hx hb dX8_weighed_38 (by decide) (fun c_13 => ?_) (fun c_13 => ?_)
    · have d_14 := n_le (a := 40) (b := i_3) (by omega) (by omega) c_13
      refine lv_lload_n hx hb dX8_weighed_79 rfl (lv_at hl 1 rfl) ?_
      exact W.lret (v := x_4) hx hb hr (fun t ht hW => ⟨⟨x_4, (), rfl, Or.inr ⟨c_1, by rw [hs_6, show i_3 = lc by omega]⟩, ws, tys, hsm, htx, by rw [ht]; exact hP, va_K.moved hW.alike hK, hD, ⟨rfl, rfl⟩⟩, hS.F ht⟩) hS.2.2 dX8_weighed_80
    have d_15 := n_nle (a := 40) (b := i_3) (by omega) (by omega) c_13
    refine lv_aload_n hx hb dX8_weighed_41 rfl (lv_at hl 4 rfl) ?_
    refine va_get (D := D) (ci := 8) (v := .ref la) (C := RX8) (T := TX8) (N := 15) hx hb hts hin8 hown hK hP k0 e0 rfl 0 (by decide) (hts (.fieldLink RX8 11 "HoneyHouse" "lots" "[LHoneyHouse$Lot;") (List.mem_of_getElem? (i := 4) rfl)) (fun _ h9 => h9) rfl dX8_weighed_42 ?_
    refine lv_iload hx hb dX8_weighed_45 (lv_at hl 0 rfl) ?_
    refine va_aldq (f := fla) (n := 40) hx hb hK hP kla tla ela ula (vp_in_nI (n := i_3) (by omega) (by omega)) dX8_weighed_47 ?_
    obtain ⟨r_16, er_17⟩ : ∃ r, r = fla (nI i_3).toNatClampNeg := ⟨_, rfl⟩
    refine tp_v (y := va_rf r_16) (by rw [er_17]) ?_
    rw [nI_clamp (n := i_3) (by omega)] at er_17
    obtain ⟨v_18, ev_19, hL_20⟩ := hla1 i_3 (by omega)
    rw [ev_19] at er_17
    subst er_17
    have hL_21 := hL_20.sm hsm htx (fun k _ h1 h2 => by omega)
    obtain ⟨k_22, lo_23, hi_24, st_25, e_26, wk_27, ⟨k_33, c9_34, t_35, f_36, e_37, u_38, wr_39, g_40⟩, ⟨k_41, c9_42, t_43, f_44, e_45, u_46, wr_47, g_48⟩, ks_28, ga_29, gb_30, es_31, wks_32, ⟨k_49, c9_50, t_51, f_52, e_53, u_54, wr_55, g_56⟩, ⟨k_57, c9_58, t_59, f_60, e_61, u_62, wr_63, g_64⟩⟩ := hL_21
    refine tp_v (y := .ref v_18) rfl ?_
    refine lv_astore (lv' := [(6, .ref v_18), (5, .int (nI i_3)), (3, .long x_4), (2, .int a2), (1, .ref v), (0, .ref h0)]) hx hb dX8_weighed_48 hl (by decide) rfl (fun ls hl => ?_)
    refine lv_aload hx hb dX8_weighed_50 (lv_at hl 0 rfl) ?_
    refine lv_ifnull hx hb dX8_weighed_52 ?_
    refine lv_lload_n hx hb dX8_weighed_55 rfl (lv_at hl 2 rfl) ?_
    refine lv_aload_n hx hb dX8_weighed_56 rfl (lv_at hl 4 rfl) ?_
    refine lv_iload hx hb dX8_weighed_57 (lv_at hl 1 rfl) ?_
    refine vp_callSi (W.runV (As := [.int (nI i_3)]) (rest := [.long x_4]) ⟨hx, hb, hml, hown, hts⟩ (s_gramsOf l D ws tys v kv vt vh vr vp g kg cg tg f (nI i_3) ev eg ug) (cwV 1 hts gX8_weighed_X7_gramsOf rfl rfl rfl (by decide +kernel) ⟨Nat.le_of_ble_eq_true rfl, Nat.le_of_ble_eq_true rfl⟩) ⟨fun a U g mk q => ⟨q.1, q.2.1, va_K.moved (u := U) (U := U.calling g mk a) (Vm.Alike.refl U.vm) q.2.2⟩, va_recv hK hP (ci := 7) (q0 := kv) rfl ev, fun U hU hW => ⟨rfl, by rw [hU]; exact hP, va_K.moved hW.alike hK⟩⟩ rfl rfl hl.1 rfl (lv_room (Nat.le_of_ble_eq_true rfl)) dX8_weighed_59 ⟨Nat.le_of_ble_eq_true rfl, Nat.le_of_ble_eq_true rfl⟩) (fun r_65 k_66 => ?_)
    obtain rfl : r_65 = f i_3 := by rcases k_66 with ⟨-, h9 | h9⟩ | ⟨-, -, h9⟩; exact absurd h9 (nI_pos (by omega)); exact absurd h9 (show ¬ (40 : Int32) ≤ _ from nI_ge (a := i_3) (b := 40) (by omega) (by omega)); rw [h9, nI_clamp (n := i_3) (by omega)]
    refine lv_i2l hx hb dX8_weighed_62 rfl ?_
    refine lv_aload hx hb dX8_weighed_63 (lv_at hl 0 rfl) ?_
    refine lv_iload_n hx hb dX8_weighed_65 rfl (lv_at hl 3 rfl) ?_
    have hFc := free_all hD hS hA
    refine va_calli (va_runV (As := [.int a2]) (rest := [.long ((f i_3).toInt64), .long x_4]) ⟨hx, hb, hml, hown, hts⟩ (a_perGram l D ρ ws tys v_18 k_22 st_25 (fv 4 (7 * i_3)) (fv 4 (7 * i_3 + 1)) (fv 4 (7 * i_3 + 3)) (fv 4 (7 * i_3 + 4)) (fv 4 (7 * i_3 + 2)) (fv 4 (7 * i_3 + 5)) (fv 4 (7 * i_3 + 6)) lo_23 k_33 c9_34 t_35 f_36 hi_24 k_41 c9_42 t_43 f_44 a2 H.size e_26 e_37 u_38 e_45 u_46) (cwV 1 hts gX8_weighed_X2_perGram rfl rfl rfl (by decide +kernel) ⟨Nat.le_of_ble_eq_true rfl, Nat.le_of_ble_eq_true rfl⟩) ⟨fun a U g mk q => by obtain ⟨q0, q1, qP, qK, qD, qZ⟩ := q; exact ⟨q0, q1, qP, va_K.moved (u := U) (U := U.calling g mk a) (Vm.Alike.refl U.vm) qK, qD, NZ.same rfl qZ⟩, va_recv hK hP (ci := 2) (q0 := k_22) rfl e_26, fun U hU hW => ⟨rfl, by rw [hU], by rw [hU]; exact hP, va_K.moved hW.alike hK, hD.weaken (fun _ _ _ _ => trivial), NZ.warm hW hnz⟩⟩ rfl rfl hl.1 rfl (lv_room (Nat.le_of_ble_eq_true rfl)) dX8_weighed_66 ⟨Nat.le_of_ble_eq_true rfl, Nat.le_of_ble_eq_true rfl⟩) hS (fun q _ h => hFc q h) hFc (fun r_67 u t H1 locs ht hvm w_68 hB hz1 hk1 hS => ?_)
    obtain ⟨ws_69, ty_70, hm_71, ht_73, hP1, hK1, hD1, hx_72⟩ := hB
    rw [ht] at hP1
    have hK := va_K.moved hvm.symm hK1
    have hD := hD1.weaken (fun _ _ _ h => hFc _ h)
    generalize H1 = H at hP1 hS ⊢
    have hP := hP1
    obtain ⟨hx_72a, hx_72b⟩ := hx_72
    subst hx_72a
    subst hx_72b
    obtain rfl : r_67 = pgL fv a2 i_3 := w_68.trans (pgC_cg g_40 g_48)
    refine lv_i2l hx hb dX8_weighed_69 rfl ?_
    refine lv_lmul hx hb dX8_weighed_70 ?_
    refine lv_ladd hx hb dX8_weighed_71 ?_
    refine lv_lstore_n (lv' := [(3, .long (x_4 + (((f i_3).toInt64) * ((pgL fv a2 i_3).toInt64)))), (6, .ref v_18), (5, .int (nI i_3)), (2, .int a2), (1, .ref v), (0, .ref h0)]) hx hb dX8_weighed_72 rfl hl (by decide) rfl (fun ls hl => ?_)
    refine lv_iinc (v := nI (i_3 + 1)) (lv' := [(5, .int (nI (i_3 + 1))), (3, .long (x_4 + (((f i_3).toInt64) * ((pgL fv a2 i_3).toInt64)))), (6, .ref v_18), (2, .int a2), (1, .ref v), (0, .ref h0)]) hx hb dX8_weighed_73 hl (k := 2) rfl (nI_add i_3 1) (by decide) rfl (fun ls hl => ?_)
    refine lv_goto (tgt := 22) hx hb dX8_weighed_76 (by decide) ?_
    exact ih_2 (i_3 + 1, x_4 + (((f i_3).toInt64) * ((pgL fv a2 i_3).toInt64))) ws _ _ ls (by show 40 - (i_3 + 1) < 40 - i_3; omega) ⟨rfl, (show (i_3 + 1) ≤ lc from by omega), (show (x_4 + (((f i_3).toInt64) * ((pgL fv a2 i_3).toInt64))) = wG f (pgL fv a2) (i_3 + 1) from (by rw [hs_6]; rfl))⟩ hP hD hS (lv_sub hl [0, 1, 3, 4, 5] rfl)
  refine lv_aload_n hx hb dX8_weighed_5 rfl (lv_at hl 1 rfl) ?_
  refine va_get (D := D) (ci := 7) (v := .int vh) (C := RX7) (T := TX7) (N := 5) hx hb hts hin7 hown hK hP kv ev rfl 2 (by decide) (hts (.fieldLink RX8 160 "HoneyHouse$Vessel" "heat" "I") (List.mem_of_getElem? (i := 1) rfl)) (fun _ h9 => h9) rfl dX8_weighed_6 ?_
  refine lv_i2l hx hb dX8_weighed_9 rfl ?_
  refine lv_aload_n hx hb dX8_weighed_10 rfl (lv_at hl 1 rfl) ?_
  refine va_get (D := D) (ci := 7) (v := .int vt) (C := RX7) (T := TX7) (N := 5) hx hb hts hin7 hown hK hP kv ev rfl 1 (by decide) (hts (.fieldLink RX8 144 "HoneyHouse$Vessel" "total" "I") (List.mem_of_getElem? (i := 2) rfl)) (fun _ h9 => h9) rfl dX8_weighed_11 ?_
  refine lv_i2l hx hb dX8_weighed_14 rfl ?_
  refine lv_lmul hx hb dX8_weighed_15 ?_
  exact W.lret (v := vh.toInt64 * vt.toInt64) hx hb hr (fun t ht hW => ⟨⟨vh.toInt64 * vt.toInt64, (), rfl, Or.inl ⟨c_1, rfl⟩, ws, tys, hsm, htx, by rw [ht]; exact hP, va_K.moved hW.alike hK, hD, ⟨rfl, rfl⟩⟩, hS.F ht⟩) hS.2.2 dX8_weighed_16
set_option maxHeartbeats 4000000 in
set_option maxRecDepth 100000 in
theorem a_told (l : Launch) (D : va_G) (ρ : Nat → Nat) (ws : va_W) (tys : List (ClassId × FieldType)) (fv : Nat → Nat → Int32) (h0 lc bc rc fc : Nat) (dn : Int32) (tl : Nat) (v kv : Nat) (vt vh vr vp : Int32) (g kg : Nat) (cg : ClassId) (tg : Nat) (f : Nat → Int32) (a2 : Int32) (sz : Nat) (X : XI ρ fv ws tys h0 lc bc rc fc dn tl) (hkv : ρ kv ≠ 0) (hkg : ρ kg ≠ 0) (ev : ws[kv]? = some (v, .inr (7, [.ref g, .int vt, .int vh, .int vr, .int vp]))) (eg : ws[kg]? = some (g, .inl (cg, 40, .inl f))) (ug : tys[tg]? = some (cg, .int)) : Met l yX8_told wsX8_told ({ frames := 4, cells := 0, slots := 0, locals := 89 }) (va_Pc [.ref h0, .ref v, .int a2] (fun U => U.heap.size = sz ∧ va_P D vwCl ws U.heap ∧ va_K D vwCl tys U ∧ va_D (fun _ => True) ws ∧ NZ U)) (va_Qi (fun (r : Int32) (_ : Unit) => (¬ 0 < vt ∧ r = (-1)) ∨ (0 < vt ∧ r = tld fv f lc vt vh a2)) (fun (_ : Unit) (t : State) => ∃ (ws' : va_W) (tys' : List (ClassId × FieldType)), sm ρ [] ws ws' ∧ tyx tys tys' ∧ va_P D vwCl ws' t.heap ∧ va_K D vwCl tys' t ∧ va_D (va_A ws sz) ws' ∧ (ws = ws' ∧ tys = tys')) (va_A ws sz)) 0 0 (va_A ws sz) := by
  refine Met.ofW (cc := cX8_told) (maxL := 3) (ret := (some .int)) (by decide) rfl ?_
  intro p e s m args below meth c s₁ B hml hv
  obtain ⟨rfl, hsz, hP, hK, hD0, hnz⟩ := hv
  have hx := B.exec
  have hb := B.bytes
  have hr := B.returns
  have hts := atoms_spec (ws := wsX8_told) B.pre
  have hown : s.vm.findClass RX8 = some m.cls := findClass_of_methodNamed B.named
  have hlocks := B.notSynchronized
  subst hsz
  have hD := hD0.self (sz := s.heap.size)
  generalize hAe : va_A ws s.heap.size = A at hD ⊢
  have hA : ∀ q : Nat, s.heap.size ≤ q → A q := fun q h => by rw [← hAe]; exact Or.inr h
  have hS : va_S A s.heap s.heap [] := va_S.rf
  have hsm : sm ρ [] ws ws := sm.rf ws
  have htx : tyx tys tys := tyx.rf tys
  have hin7 : ∀ w ∈ u_ws RX7 TX7 5, w ∈ wsX8_told := (fun _ h9 => List.mem_cons_of_mem _ (List.mem_append_left _ (List.mem_append_left _ ((List.mem_append_right _ h9)))))
  have hl := lv_entry ([.ref h0, .ref v, .int a2]) (n := 3) (Nat.le_of_ble_eq_true rfl)
  rw [lg_entry_eq]
  generalize (lg_sl ([.ref h0, .ref v, .int a2]) ++ List.replicate (3 - (lg_sl ([.ref h0, .ref v, .int a2])).length) Slot.unset).toArray = ls at hl ⊢
  have hl : lv_has ls 3 [(0, .ref h0), (1, .ref v), (2, .int a2)] := hl
  obtain ⟨k0, la, ta, ba, ra, sn, rd, dr, bl, vd, fb, e0, w0, hle0, hnum, qla, qta, qba, qra, qsn, qrd, qdr, qbl, qvd, qfb⟩ := id X
  refine lv_aload_n hx hb dX8_told_0 rfl (lv_at hl 1 rfl) ?_
  refine va_get (D := D) (ci := 7) (v := .int vt) (C := RX7) (T := TX7) (N := 5) hx hb hts hin7 hown hK hP kv ev rfl 1 (by decide) (hts (.fieldLink RX8 144 "HoneyHouse$Vessel" "total" "I") (List.mem_of_getElem? (i := 1) rfl)) (fun _ h9 => h9) rfl dX8_told_1 ?_
  refine lv_if_gt (tgt := 9) hx hb dX8_told_4 (by decide) (fun c_1 => ?_) (fun c_1 => ?_)
  · refine lv_iload_n hx hb dX8_told_9 rfl (lv_at hl 2 rfl) ?_
    refine lv_iconst (v := 2) hx hb dX8_told_10 (by decide) ?_
    refine lv_icmp_ne (tgt := 19) hx hb dX8_told_11 (by decide) (fun c_2 => ?_) (fun c_2 => ?_)
    · refine lv_ldc2 hx hb hown (hts (.constantLong RX8 288 (10)) (List.mem_of_getElem? (i := 3) rfl)) dX8_told_19 ?_
      refine lv_aload_n hx hb dX8_told_22 rfl (lv_at hl 0 rfl) ?_
      refine lv_aload_n hx hb dX8_told_23 rfl (lv_at hl 1 rfl) ?_
      refine lv_iload_n hx hb dX8_told_24 rfl (lv_at hl 2 rfl) ?_
      have hFc := free_all hD hS hA
      refine va_calll (va_runV (As := [.ref v, .int a2]) (rest := [.long 10]) ⟨hx, hb, hml, hown, hts⟩ (a_weighed l D ρ ws tys fv h0 lc bc rc fc dn tl v kv vt vh vr vp g kg cg tg f a2 s.heap.size (X.sm hsm htx (by decide) (by decide)) hkv hkg ev eg ug) (cwV 2 hts gX8_told_X8_weighed rfl rfl rfl (by decide +kernel) ⟨Nat.le_of_ble_eq_true rfl, Nat.le_of_ble_eq_true rfl⟩) ⟨fun a U g mk q => by obtain ⟨q0, q1, qP, qK, qD, qZ⟩ := q; exact ⟨q0, q1, qP, va_K.moved (u := U) (U := U.calling g mk a) (Vm.Alike.refl U.vm) qK, qD, NZ.same rfl qZ⟩, va_recv hK hP (ci := 8) (q0 := k0) rfl e0, fun U hU hW => ⟨rfl, by rw [hU], by rw [hU]; exact hP, va_K.moved hW.alike hK, hD.weaken (fun _ _ _ _ => trivial), NZ.warm hW hnz⟩⟩ rfl rfl hl.1 rfl (lv_room (Nat.le_of_ble_eq_true rfl)) dX8_told_25 ⟨Nat.le_of_ble_eq_true rfl, Nat.le_of_ble_eq_true rfl⟩) hS (fun q _ h => hFc q h) hFc (fun r_3 u t H1 locs ht hvm w_4 hB hz1 hk1 hS => ?_)
      obtain ⟨ws_5, ty_6, hm_7, ht_9, hP1, hK1, hD1, hx_8⟩ := hB
      rw [ht] at hP1
      have hK := va_K.moved hvm.symm hK1
      have hD := hD1.weaken (fun _ _ _ h => hFc _ h)
      generalize H1 = H at hP1 hS ⊢
      have hP := hP1
      obtain ⟨hx_8a, hx_8b⟩ := hx_8
      subst hx_8a
      subst hx_8b
      obtain rfl : r_3 = wG f (pgL fv a2) lc := by rcases w_4 with ⟨h9, -⟩ | ⟨-, h9⟩; exact absurd h9 c_2; exact h9
      refine lv_lmul hx hb dX8_told_28 ?_
      refine lv_aload_n hx hb dX8_told_29 rfl (lv_at hl 1 rfl) ?_
      refine va_get (D := D) (ci := 7) (v := .int vt) (C := RX7) (T := TX7) (N := 5) hx hb hts hin7 hown hK hP kv ev rfl 1 (by decide) (hts (.fieldLink RX8 144 "HoneyHouse$Vessel" "total" "I") (List.mem_of_getElem? (i := 1) rfl)) (fun _ h9 => h9) rfl dX8_told_30 ?_
      refine lv_i2l hx hb dX8_told_33 rfl ?_
      refine lv_ldiv hx hb dX8_told_34 (i_pos64 c_1) ?_
      refine lv_l2i hx hb dX8_told_35 rfl ?_
      exact W.iret (v := ((10 * (wG f (pgL fv a2) lc)) / vt.toInt64).toInt32) hx hb hr (fun t ht hW => ⟨⟨((10 * (wG f (pgL fv a2) lc)) / vt.toInt64).toInt32, (), rfl, Or.inr ⟨c_1, by rw [tld, if_neg c_2]⟩, ws, tys, hsm, htx, by rw [ht]; exact hP, va_K.moved hW.alike hK, hD, ⟨rfl, rfl⟩⟩, hS.F ht⟩) hS.2.2 dX8_told_36
    refine lv_aload_n hx hb dX8_told_14 rfl (lv_at hl 1 rfl) ?_
    refine va_get (D := D) (ci := 7) (v := .int vh) (C := RX7) (T := TX7) (N := 5) hx hb hts hin7 hown hK hP kv ev rfl 2 (by decide) (hts (.fieldLink RX8 160 "HoneyHouse$Vessel" "heat" "I") (List.mem_of_getElem? (i := 2) rfl)) (fun _ h9 => h9) rfl dX8_told_15 ?_
    exact W.iret (v := vh) hx hb hr (fun t ht hW => ⟨⟨vh, (), rfl, Or.inr ⟨c_1, by rw [tld, if_pos c_2]⟩, ws, tys, hsm, htx, by rw [ht]; exact hP, va_K.moved hW.alike hK, hD, ⟨rfl, rfl⟩⟩, hS.F ht⟩) hS.2.2 dX8_told_18
  refine lv_iconst (v := (-1)) hx hb dX8_told_7 (by decide) ?_
  exact W.iret (v := (-1)) hx hb hr (fun t ht hW => ⟨⟨(-1), (), rfl, Or.inl ⟨c_1, rfl⟩, ws, tys, hsm, htx, by rw [ht]; exact hP, va_K.moved hW.alike hK, hD, ⟨rfl, rfl⟩⟩, hS.F ht⟩) hS.2.2 dX8_told_8
set_option maxHeartbeats 4000000 in
set_option maxRecDepth 100000 in
theorem h_measure (l : Launch) (D : va_G) (ρ : Nat → Nat) (ws : va_W) (tys : List (ClassId × FieldType)) (fv : Nat → Nat → Int32) (h0 lc bc rc fc : Nat) (dn : Int32) (tl : Nat) (a1 a2 a3 : Int32) (sz : Nat) (X : XI ρ fv ws tys h0 lc bc rc fc dn tl) (V : NV fv lc) : Met l yX8_measure wsX8_measure ({ frames := 5, cells := 0, slots := 0, locals := 111 }) (va_Pc [.ref h0, .int a1, .int a2, .int a3] (fun U => U.heap.size = sz ∧ va_P D vwCl ws U.heap ∧ va_K D vwCl tys U ∧ va_D (fun _ => True) ws ∧ NZ U)) (va_Qi (fun (r : Int32) (_ : Unit) => (meaN fv bc a1 a2 a3 ∧ r = (-1)) ∨ (¬ meaN fv bc a1 a2 a3 ∧ r = meaV fv lc a1 a2 a3)) (fun (_ : Unit) (t : State) => ∃ (ws' : va_W) (tys' : List (ClassId × FieldType)), sm ρ [] ws ws' ∧ tyx tys tys' ∧ va_P D vwCl ws' t.heap ∧ va_K D vwCl tys' t ∧ va_D (va_A ws sz) ws' ∧ (XI ρ fv ws' tys' h0 lc bc rc fc dn tl)) (va_A ws sz)) 0 0 (va_A ws sz) := by
  refine Met.ofW (cc := cX8_measure) (maxL := 5) (ret := (some .int)) (by decide) rfl ?_
  intro p e s m args below meth c s₁ B hml hv
  obtain ⟨rfl, hsz, hP, hK, hD0, hnz⟩ := hv
  have hx := B.exec
  have hb := B.bytes
  have hr := B.returns
  have hts := atoms_spec (ws := wsX8_measure) B.pre
  have hown : s.vm.findClass RX8 = some m.cls := findClass_of_methodNamed B.named
  have hlocks := B.notSynchronized
  subst hsz
  have hD := hD0.self (sz := s.heap.size)
  generalize hAe : va_A ws s.heap.size = A at hD ⊢
  have hA : ∀ q : Nat, s.heap.size ≤ q → A q := fun q h => by rw [← hAe]; exact Or.inr h
  have hS : va_S A s.heap s.heap [] := va_S.rf
  have hsm : sm ρ [] ws ws := sm.rf ws
  have htx : tyx tys tys := tyx.rf tys
  have hl := lv_entry ([.ref h0, .int a1, .int a2, .int a3]) (n := 5) (Nat.le_of_ble_eq_true rfl)
  rw [lg_entry_eq]
  generalize (lg_sl ([.ref h0, .int a1, .int a2, .int a3]) ++ List.replicate (5 - (lg_sl ([.ref h0, .int a1, .int a2, .int a3])).length) Slot.unset).toArray = ls at hl ⊢
  have hl : lv_has ls 5 [(0, .ref h0), (1, .int a1), (2, .int a2), (3, .int a3)] := hl
  obtain ⟨k0, la, ta, ba, ra, sn, rd, dr, bl, vd, fb, e0, w0, hle0, hnum, qla, qta, qba, qra, qsn, qrd, qdr, qbl, qvd, qfb⟩ := id X
  have hlc := hnum.1
  obtain ⟨kta, cta, tta, fta, eta, uta, hta0, hta1⟩ := id qta
  obtain ⟨kba, cba, tba, fba, eba, uba, hba0, hba1⟩ := id qba
  refine lv_aload_n hx hb dX8_measure_0 rfl (lv_at hl 0 rfl) ?_
  refine lv_iload_n hx hb dX8_measure_1 rfl (lv_at hl 1 rfl) ?_
  refine lv_iload_n hx hb dX8_measure_2 rfl (lv_at hl 2 rfl) ?_
  refine va_csq (W.runV (As := [.int a1, .int a2]) (rest := []) ⟨hx, hb, hml, hown, hts⟩ (s_vesselAt l D ws tys h0 k0 _ ta kta cta fta tta ba kba cba fba tba a1 a2 e0 rfl eta uta rfl eba uba) (cwV 2 hts gX8_measure_X8_vesselAt rfl rfl rfl (by decide +kernel) ⟨Nat.le_of_ble_eq_true rfl, Nat.le_of_ble_eq_true rfl⟩) ⟨fun a U g mk q => ⟨q.1, q.2.1, va_K.moved (u := U) (U := U.calling g mk a) (Vm.Alike.refl U.vm) q.2.2⟩, va_recv hK hP (ci := 8) (q0 := k0) rfl e0, fun U hU hW => ⟨rfl, by rw [hU]; exact hP, va_K.moved hW.alike hK⟩⟩ rfl rfl hl.1 rfl (lv_room (Nat.le_of_ble_eq_true rfl)) dX8_measure_3 ⟨Nat.le_of_ble_eq_true rfl, Nat.le_of_ble_eq_true rfl⟩) (fun r_1 k_2 => ?_)
  have hz_3 := vesx hnum.2.1 hta1 hba0 hba1 k_2
  rcases hz_3 with ⟨rfl, rn_4⟩ | ⟨rn_4, hr_5, v_6, rfl, hV_7⟩
  · refine tp_v (y := .null) rfl ?_
    refine lv_astoreN (lv' := [(4, .null), (0, .ref h0), (1, .int a1), (2, .int a2), (3, .int a3)]) hx hb dX8_measure_6 hl (by decide) rfl (fun ls hl => ?_)
    refine lv_aloadN hx hb dX8_measure_8 (lv_at hl 0 rfl) ?_
    refine lv_ifnullN (tgt := 20) hx hb dX8_measure_10 (by decide) ?_
    refine lv_iconst (v := (-1)) hx hb dX8_measure_20 (by decide) ?_
    exact W.iret (v := (-1)) hx hb hr (fun t ht hW => ⟨⟨(-1), (), rfl, Or.inl ⟨Or.inl rn_4, rfl⟩, ws, tys, hsm, htx, by rw [ht]; exact hP, va_K.moved hW.alike hK, hD, X.sm hsm htx (by decide) (by decide)⟩, hS.F ht⟩) hS.2.2 dX8_measure_21
  obtain ⟨k_9, g_10, e_11, wk_12, k_13, c9_14, t_15, f_16, e_17, u_18, wr_19, g_20⟩ := hV_7
  refine tp_v (y := .ref v_6) rfl ?_
  refine lv_astore (lv' := [(4, .ref v_6), (0, .ref h0), (1, .int a1), (2, .int a2), (3, .int a3)]) hx hb dX8_measure_6 hl (by decide) rfl (fun ls hl => ?_)
  refine lv_aload hx hb dX8_measure_8 (lv_at hl 0 rfl) ?_
  refine lv_ifnull hx hb dX8_measure_10 ?_
  refine lv_iload_n hx hb dX8_measure_13 rfl (lv_at hl 4 rfl) ?_
  refine vp_callSi (W.runS (As := [.int a3]) (rest := []) ⟨hx, hb, hml, hown, hts⟩ (s_X8_isMeasure l a3) (va_cwS 1 hts gX8_measure_X8_isMeasure rfl rfl rfl (by decide +kernel) ⟨Nat.le_of_ble_eq_true rfl, Nat.le_of_ble_eq_true rfl⟩) ⟨fun a U g mk q => q, fun U hU hW => ⟨rfl, trivial⟩⟩ rfl rfl hl.1 rfl (lv_room (Nat.le_of_ble_eq_true rfl)) dX8_measure_14 ⟨Nat.le_of_ble_eq_true rfl, Nat.le_of_ble_eq_true rfl⟩) (fun r_21 k_22 => ?_)
  rcases k_22 with ⟨rfl, im_23⟩ | ⟨rfl, im_23⟩
  · refine lv_if_ne (tgt := 22) hx hb dX8_measure_17 (by decide) (fun c_24 => absurd (by decide) c_24) (fun c_24 => ?_)
    refine lv_iconst (v := (-1)) hx hb dX8_measure_20 (by decide) ?_
    exact W.iret (v := (-1)) hx hb hr (fun t ht hW => ⟨⟨(-1), (), rfl, Or.inl ⟨Or.inr (Or.inr im_23), rfl⟩, ws, tys, hsm, htx, by rw [ht]; exact hP, va_K.moved hW.alike hK, hD, X.sm hsm htx (by decide) (by decide)⟩, hS.F ht⟩) hS.2.2 dX8_measure_21
  refine lv_if_ne (tgt := 22) hx hb dX8_measure_17 (by decide) (fun c_25 => ?_) (fun c_25 => absurd c_25 (by decide))
  refine lv_aload_n hx hb dX8_measure_22 rfl (lv_at hl 1 rfl) ?_
  refine lv_aload hx hb dX8_measure_23 (lv_at hl 0 rfl) ?_
  refine lv_iload_n hx hb dX8_measure_25 rfl (lv_at hl 4 rfl) ?_
  have hFc := free_all hD hS hA
  refine va_calli (va_runV (As := [.ref v_6, .int a3]) (rest := []) ⟨hx, hb, hml, hown, hts⟩ (a_told l D ρ ws tys fv h0 lc bc rc fc dn tl v_6 k_9 (mall (fv 9) (rowI a1 a2) 40) (fv 10 (rowI a1 a2)) (fv 11 (rowI a1 a2)) (fv 12 (rowI a1 a2)) g_10 k_13 c9_14 t_15 f_16 a3 s.heap.size (X.sm hsm htx (by decide) (by decide)) (by rw [wk_12]; omega) (by rw [wr_19]; omega) e_11 e_17 u_18) (cwV 2 hts gX8_measure_X8_told rfl rfl rfl (by decide +kernel) ⟨Nat.le_of_ble_eq_true rfl, Nat.le_of_ble_eq_true rfl⟩) ⟨fun a U g mk q => by obtain ⟨q0, q1, qP, qK, qD, qZ⟩ := q; exact ⟨q0, q1, qP, va_K.moved (u := U) (U := U.calling g mk a) (Vm.Alike.refl U.vm) qK, qD, NZ.same rfl qZ⟩, va_recv hK hP (ci := 8) (q0 := k0) rfl e0, fun U hU hW => ⟨rfl, by rw [hU], by rw [hU]; exact hP, va_K.moved hW.alike hK, hD.weaken (fun _ _ _ _ => trivial), NZ.warm hW hnz⟩⟩ rfl rfl hl.1 rfl (lv_room (Nat.le_of_ble_eq_true rfl)) dX8_measure_26 ⟨Nat.le_of_ble_eq_true rfl, Nat.le_of_ble_eq_true rfl⟩) hS (fun q _ h => hFc q h) hFc (fun r_26 u t H1 locs ht hvm w_27 hB hz1 hk1 hS => ?_)
  obtain ⟨ws_28, ty_29, hm_30, ht_32, hP1, hK1, hD1, hx_31⟩ := hB
  rw [ht] at hP1
  have hK := va_K.moved hvm.symm hK1
  have hD := hD1.weaken (fun _ _ _ h => hFc _ h)
  generalize H1 = H at hP1 hS ⊢
  have hP := hP1
  obtain ⟨hx_31a, hx_31b⟩ := hx_31
  subst hx_31a
  subst hx_31b
  rcases w_27 with ⟨tt_33, rfl⟩ | ⟨tt_33, rfl⟩
  · exact W.iret (v := (-1)) hx hb hr (fun t ht hW => ⟨⟨(-1), (), rfl, Or.inl ⟨Or.inr (Or.inl ((nv_tot V hr_5).2 tt_33)), rfl⟩, ws, tys, hsm, htx, by rw [ht]; exact hP, va_K.moved hW.alike hK, hD, X.sm hsm htx (by decide) (by decide)⟩, hS.F ht⟩) hS.2.2 dX8_measure_29
  exact W.iret (v := tld fv f_16 lc (mall (fv 9) (rowI a1 a2) 40) (fv 10 (rowI a1 a2)) a3) hx hb hr (fun t ht hW => ⟨⟨tld fv f_16 lc (mall (fv 9) (rowI a1 a2) 40) (fv 10 (rowI a1 a2)) a3, (), rfl, Or.inr ⟨(fun h => Or.elim h rn_4 (fun h => Or.elim h ((nv_tot V hr_5).1 tt_33) (fun h => h im_23))), tld_cg (fun i hi => g_20 i (by omega))⟩, ws, tys, hsm, htx, by rw [ht]; exact hP, va_K.moved hW.alike hK, hD, X.sm hsm htx (by decide) (by decide)⟩, hS.F ht⟩) hS.2.2 dX8_measure_29
theorem sr_n {n k : Nat} (hn : n < 2 ^ 31) (hk : k = 10 ∨ k = 11) : nI n >>> ((nI k) &&& 31) = nI (n / 2 ^ k) := by
  rcases hk with rfl | rfl
  · have e0 : (nI 10 &&& 31) = 10 := by decide
    rw [e0]
    apply Int32.toBitVec_inj.mp
    have e1 : (nI n >>> (10 : Int32)).toBitVec = (nI n).toBitVec.sshiftRight 10 := rfl
    have e2 : (nI n).toBitVec = BitVec.ofNat 32 n := rfl
    have e3 : (nI (n / 2 ^ 10)).toBitVec = BitVec.ofNat 32 (n / 2 ^ 10) := rfl
    rw [e1, e2, e3, BitVec.sshiftRight_eq_of_msb_false]
    · apply BitVec.eq_of_toNat_eq
      rw [BitVec.toNat_ushiftRight, BitVec.toNat_ofNat, BitVec.toNat_ofNat, Nat.shiftRight_eq_div_pow, Nat.mod_eq_of_lt (by omega), Nat.mod_eq_of_lt (by omega)]
    · rw [BitVec.msb_eq_false_iff_two_mul_lt, BitVec.toNat_ofNat, Nat.mod_eq_of_lt (by omega)]
      omega
  · have e0 : (nI 11 &&& 31) = 11 := by decide
    rw [e0]
    apply Int32.toBitVec_inj.mp
    have e1 : (nI n >>> (11 : Int32)).toBitVec = (nI n).toBitVec.sshiftRight 11 := rfl
    have e2 : (nI n).toBitVec = BitVec.ofNat 32 n := rfl
    have e3 : (nI (n / 2 ^ 11)).toBitVec = BitVec.ofNat 32 (n / 2 ^ 11) := rfl
    rw [e1, e2, e3, BitVec.sshiftRight_eq_of_msb_false]
    · apply BitVec.eq_of_toNat_eq
      rw [BitVec.toNat_ushiftRight, BitVec.toNat_ofNat, BitVec.toNat_ofNat, Nat.shiftRight_eq_div_pow, Nat.mod_eq_of_lt (by omega), Nat.mod_eq_of_lt (by omega)]
    · rw [BitVec.msb_eq_false_iff_two_mul_lt, BitVec.toNat_ofNat, Nat.mod_eq_of_lt (by omega)]
      omega
theorem an_n {n k : Nat} (hn : n < 2 ^ 31) (hk : k = 1 ∨ k = 10) : nI n &&& nI (2 ^ k - 1) = nI (n % 2 ^ k) := by
  have hk2 : 2 ^ k ≤ 1024 := by rcases hk with rfl | rfl <;> decide
  have hp : 0 < 2 ^ k := Nat.two_pow_pos k
  have hm : n % 2 ^ k < 2 ^ k := Nat.mod_lt _ hp
  apply Int32.toBitVec_inj.mp
  have e1 : (nI n &&& nI (2 ^ k - 1)).toBitVec = BitVec.ofNat 32 n &&& BitVec.ofNat 32 (2 ^ k - 1) := rfl
  have e3 : (nI (n % 2 ^ k)).toBitVec = BitVec.ofNat 32 (n % 2 ^ k) := rfl
  rw [e1, e3]
  apply BitVec.eq_of_toNat_eq
  rw [BitVec.toNat_and, BitVec.toNat_ofNat, BitVec.toNat_ofNat, BitVec.toNat_ofNat, Nat.mod_eq_of_lt (a := n) (by omega), Nat.mod_eq_of_lt (a := n % 2 ^ k) (by omega), Nat.mod_eq_of_lt (a := 2 ^ k - 1) (by omega)]
  exact Nat.and_two_pow_sub_one_eq_mod n k
theorem cd_w {q b u : Nat} (hq : q < 40) (hb : b ≤ 1) (hu : u ≤ 1000) : nI ((q * 2 + b) * 1024 + u) >>> ((11 : Int32) &&& 31) = nI q := by
  have h := sr_n (n := (q * 2 + b) * 1024 + u) (k := 11) (by omega) (Or.inr rfl)
  rw [show ((q * 2 + b) * 1024 + u) / 2 ^ 11 = q by omega] at h
  exact h
theorem cd_h {q b u : Nat} (hq : q < 40) (hb : b ≤ 1) (hu : u ≤ 1000) : nI ((q * 2 + b) * 1024 + u) >>> ((10 : Int32) &&& 31) = nI (q * 2 + b) := by
  have h := sr_n (n := (q * 2 + b) * 1024 + u) (k := 10) (by omega) (Or.inl rfl)
  rw [show ((q * 2 + b) * 1024 + u) / 2 ^ 10 = q * 2 + b by omega] at h
  exact h
theorem cd_b {q b : Nat} (hq : q < 40) (hb : b ≤ 1) : nI (q * 2 + b) &&& 1 = nI b := by
  have h := an_n (n := q * 2 + b) (k := 1) (by omega) (Or.inl rfl)
  rw [show (q * 2 + b) % 2 ^ 1 = b by omega] at h
  exact h
theorem cd_n {q b u : Nat} (hq : q < 40) (hb : b ≤ 1) (hu : u ≤ 1000) : nI ((q * 2 + b) * 1024 + u) &&& 1023 = nI u := by
  have h := an_n (n := (q * 2 + b) * 1024 + u) (k := 10) (by omega) (Or.inr rfl)
  rw [show ((q * 2 + b) * 1024 + u) % 2 ^ 10 = u by omega] at h
  exact h
theorem vq_lt {q : Nat} (h : q = 0 ∨ q = 1 ∨ q = 2 ∨ (10 ≤ q ∧ q < 15) ∨ (30 ≤ q ∧ q < 34)) : q < 40 := by omega
theorem pl_n {q : Nat} (hq : q < 100) : (nI q < 10 ∨ 14 < nI q → ¬ (10 ≤ q ∧ q < 15)) ∧ (¬ nI q < 10 → ¬ 14 < nI q → 10 ≤ q ∧ q < 15) := by
  have c10 : nI q < 10 ↔ q < 10 := nI_ltI (a := q) (b := 10) (by omega) (by omega)
  have c14 : (14 : Int32) < nI q ↔ 14 < q := nI_ltI (a := 14) (b := q) (by omega) (by omega)
  rw [c10, c14]
  exact ⟨fun h => by omega, fun h1 h2 => by omega⟩
section WGS
variable {fv : Nat → Nat → Int32} {f : Nat → Int32} {n r q p : Nat} {vt vh : Int32} {x : Int64}
theorem wg_lo (hq : q = 0 ∨ q = 1 ∨ q = 2 ∨ (10 ≤ q ∧ q < 15) ∨ (30 ≤ q ∧ q < 34)) (hn : n ≤ 40) (hf : ∀ i : Nat, i < 40 → f i = fv 9 (40 * r + i)) (hvt : vt = mall (fv 9) r 40) (hvh : vh = fv 10 r) (h : (nI q = 2 ∧ x = vh.toInt64 * vt.toInt64) ∨ (¬ nI q = 2 ∧ x = wG f (pgL fv (nI q)) n)) : x = wLo fv n r q := by
  have e2 : nI q = 2 ↔ q = 2 := nI_eq (a := q) (b := 2) (by omega) (by omega)
  rcases h with ⟨h1, h2⟩ | ⟨h1, h2⟩
  · rw [wLo, if_pos (e2.mp h1), h2, hvt, hvh]
  · have q2 : ¬ q = 2 := fun z => h1 (e2.mpr z)
    rw [wLo, if_neg q2, h2]
    exact wG_cg n (fun i hi => hf i (by omega)) (fun i _ => pg_eq (show isQ q from by unfold isQ; omega))
theorem wg_hi (h10 : 10 ≤ q ∧ q < 15) (hp : p = q + 10) (hn : n ≤ 40) (hf : ∀ i : Nat, i < 40 → f i = fv 9 (40 * r + i)) (h : (nI p = 2 ∧ x = vh.toInt64 * vt.toInt64) ∨ (¬ nI p = 2 ∧ x = wG f (pgL fv (nI p)) n)) : x = wHi fv n r q := by
  have e2 : nI p = 2 ↔ p = 2 := nI_eq (a := p) (b := 2) (by omega) (by omega)
  rcases h with ⟨h1, h2⟩ | ⟨h1, h2⟩
  · exact absurd (e2.mp h1) (by omega)
  · rw [wHi, if_pos h10, h2, hp]
    exact wG_cg n (fun i hi => hf i (by omega)) (fun i _ => pg_eq (show isQ (q + 10) from by unfold isQ; omega))
end WGS
section VTS
variable {fv : Nat → Nat → Int32} {n r q u : Nat} {x y B : Int64}
theorem vt_mx (hx : x = wLo fv n r q) (hy : y = wHi fv n r q) (hB : B = wBd fv r u) : (0 < lg_cmp y B → 0 < lg_cmp x B → (0 : Int32) = nI (tsv fv n r (13, q, 10, u))) ∧ (0 < lg_cmp y B → ¬ 0 < lg_cmp x B → (1 : Int32) = nI (tsv fv n r (13, q, 10, u))) ∧ (¬ 0 < lg_cmp y B → (2 : Int32) = nI (tsv fv n r (13, q, 10, u))) := by
  rw [tsv_10, ← hx, ← hy, ← hB, lg_cmp_gt, lg_cmp_gt]
  refine ⟨fun c d => ?_, fun c d => ?_, fun c => ?_⟩
  · rw [if_pos c, if_pos d]; rfl
  · rw [if_pos c, if_neg d]; rfl
  · rw [if_neg c]; rfl
theorem vt_mi (hx : x = wLo fv n r q) (hy : y = wHi fv n r q) (hB : B = wBd fv r u) : (lg_cmp x B < 0 → lg_cmp y B < 0 → (0 : Int32) = nI (tsv fv n r (13, q, 9, u))) ∧ (lg_cmp x B < 0 → ¬ lg_cmp y B < 0 → (1 : Int32) = nI (tsv fv n r (13, q, 9, u))) ∧ (¬ lg_cmp x B < 0 → (2 : Int32) = nI (tsv fv n r (13, q, 9, u))) := by
  rw [tsv_9, ← hx, ← hy, ← hB, lg_cmp_lt, lg_cmp_lt]
  refine ⟨fun c d => ?_, fun c d => ?_, fun c => ?_⟩
  · rw [if_pos c, if_pos d]; rfl
  · rw [if_pos c, if_neg d]; rfl
  · rw [if_neg c]; rfl
end VTS
set_option maxHeartbeats 4000000 in
set_option maxRecDepth 100000 in
theorem a_verdictOfTest (l : Launch) (D : va_G) (ρ : Nat → Nat) (ws : va_W) (tys : List (ClassId × FieldType)) (fv : Nat → Nat → Int32) (h0 lc bc rc fc : Nat) (dn : Int32) (tl : Nat) (v kv : Nat) (vt vh vr vp : Int32) (g kg : Nat) (cg : ClassId) (tg : Nat) (f : Nat → Int32) (q9 b9 v9 : Nat) (u9 : Nat) (sz : Nat) (X : XI ρ fv ws tys h0 lc bc rc fc dn tl) (hkv : ρ kv ≠ 0) (hkg : ρ kg ≠ 0) (ev : ws[kv]? = some (v, .inr (7, [.ref g, .int vt, .int vh, .int vr, .int vp]))) (eg : ws[kg]? = some (g, .inl (cg, 40, .inl f))) (ug : tys[tg]? = some (cg, .int)) (hq9 : q9 = 0 ∨ q9 = 1 ∨ q9 = 2 ∨ (10 ≤ q9 ∧ q9 < 15) ∨ (30 ≤ q9 ∧ q9 < 34)) (hb9 : b9 = 0 ∨ b9 = 1) (hu9 : v9 ≤ 1000) (hfr : ∀ i : Nat, i < 40 → f i = fv 9 (40 * u9 + i)) (hvt9 : vt = mall (fv 9) u9 40) (hvh9 : vh = fv 10 u9) : Met l yX8_verdictOfTest wsX8_verdictOfTest ({ frames := 4, cells := 0, slots := 0, locals := 89 }) (va_Pc [.ref h0, .int (nI ((q9 * 2 + b9) * 1024 + v9)), .ref v] (fun U => U.heap.size = sz ∧ va_P D vwCl ws U.heap ∧ va_K D vwCl tys U ∧ va_D (fun _ => True) ws ∧ NZ U)) (va_Qi (fun (r : Int32) (_ : Unit) => r = nI (tsv fv lc u9 (13, q9, 9 + b9, v9))) (fun (_ : Unit) (t : State) => ∃ (ws' : va_W) (tys' : List (ClassId × FieldType)), sm ρ [] ws ws' ∧ tyx tys tys' ∧ va_P D vwCl ws' t.heap ∧ va_K D vwCl tys' t ∧ va_D (va_A ws sz) ws' ∧ (ws = ws' ∧ tys = tys')) (va_A ws sz)) 0 0 (va_A ws sz) := by
  refine Met.ofW (cc := cX8_verdictOfTest) (maxL := 11) (ret := (some .int)) (by decide) rfl ?_
  intro p e s m args below meth c s₁ B hml hv
  obtain ⟨rfl, hsz, hP, hK, hD0, hnz⟩ := hv
  have hx := B.exec
  have hb := B.bytes
  have hr := B.returns
  have hts := atoms_spec (ws := wsX8_verdictOfTest) B.pre
  have hown : s.vm.findClass RX8 = some m.cls := findClass_of_methodNamed B.named
  have hlocks := B.notSynchronized
  subst hsz
  have hD := hD0.self (sz := s.heap.size)
  generalize hAe : va_A ws s.heap.size = A at hD ⊢
  have hA : ∀ q : Nat, s.heap.size ≤ q → A q := fun q h => by rw [← hAe]; exact Or.inr h
  have hS : va_S A s.heap s.heap [] := va_S.rf
  have hsm : sm ρ [] ws ws := sm.rf ws
  have htx : tyx tys tys := tyx.rf tys
  have hin7 : ∀ w ∈ u_ws RX7 TX7 5, w ∈ wsX8_verdictOfTest := (fun _ h9 => List.mem_cons_of_mem _ (List.mem_append_left _ (List.mem_append_left _ ((List.mem_append_right _ h9)))))
  have hl := lv_entry ([.ref h0, .int (nI ((q9 * 2 + b9) * 1024 + v9)), .ref v]) (n := 11) (Nat.le_of_ble_eq_true rfl)
  rw [lg_entry_eq]
  generalize (lg_sl ([.ref h0, .int (nI ((q9 * 2 + b9) * 1024 + v9)), .ref v]) ++ List.replicate (11 - (lg_sl ([.ref h0, .int (nI ((q9 * 2 + b9) * 1024 + v9)), .ref v])).length) Slot.unset).toArray = ls at hl ⊢
  have hl : lv_has ls 11 [(0, .ref h0), (1, .int (nI ((q9 * 2 + b9) * 1024 + v9))), (2, .ref v)] := hl
  obtain ⟨k0, la, ta, ba, ra, sn, rd, dr, bl, vd, fb, e0, w0, hle0, hnum, qla, qta, qba, qra, qsn, qrd, qdr, qbl, qvd, qfb⟩ := id X
  rcases hb9 with rfl | rfl
  · refine lv_iload_n hx hb dX8_verdictOfTest_0 rfl (lv_at hl 1 rfl) ?_
    refine lv_bipush (v := 11) hx hb dX8_verdictOfTest_1 (by decide) ?_
    refine lv_ishr hx hb dX8_verdictOfTest_3 ?_
    refine tp_i (y := nI q9) (cd_w (vq_lt hq9) (by decide) hu9) ?_
    refine lv_istore_n (lv' := [(3, .int (nI q9)), (0, .ref h0), (1, .int (nI ((q9 * 2 + (0)) * 1024 + v9))), (2, .ref v)]) hx hb dX8_verdictOfTest_4 rfl hl (by decide) rfl (fun ls hl => ?_)
    refine lv_iload_n hx hb dX8_verdictOfTest_5 rfl (lv_at hl 2 rfl) ?_
    refine lv_bipush (v := 10) hx hb dX8_verdictOfTest_6 (by decide) ?_
    refine lv_ishr hx hb dX8_verdictOfTest_8 ?_
    refine tp_i (y := nI (q9 * 2 + 0)) (cd_h (vq_lt hq9) (by decide) hu9) ?_
    refine lv_iconst (v := 1) hx hb dX8_verdictOfTest_9 (by decide) ?_
    refine lv_iand hx hb dX8_verdictOfTest_10 ?_
    refine tp_i (y := 0) (cd_b (vq_lt hq9) (by decide)) ?_
    refine lv_iconst (v := 1) hx hb dX8_verdictOfTest_11 (by decide) ?_
    refine lv_icmp_ne (tgt := 19) hx hb dX8_verdictOfTest_12 (by decide) (fun c_1 => ?_) (fun c_1 => absurd c_1 (by decide))
    refine lv_iconst (v := 0) hx hb dX8_verdictOfTest_19 (by decide) ?_
    refine lv_istore (lv' := [(4, .int 0), (3, .int (nI q9)), (0, .ref h0), (1, .int (nI ((q9 * 2 + (0)) * 1024 + v9))), (2, .ref v)]) hx hb dX8_verdictOfTest_20 hl (by decide) rfl (fun ls hl => ?_)
    refine lv_iload_n hx hb dX8_verdictOfTest_22 rfl (lv_at hl 3 rfl) ?_
    refine lv_sipush (v := 1023) hx hb dX8_verdictOfTest_23 (by decide) ?_
    refine lv_iand hx hb dX8_verdictOfTest_26 ?_
    refine tp_i (y := nI v9) (cd_n (vq_lt hq9) (by decide) hu9) ?_
    refine lv_i2l hx hb dX8_verdictOfTest_27 rfl ?_
    refine lv_aload_n hx hb dX8_verdictOfTest_28 rfl (lv_at hl 4 rfl) ?_
    refine va_get (D := D) (ci := 7) (v := .int vt) (C := RX7) (T := TX7) (N := 5) hx hb hts hin7 hown hK hP kv ev rfl 1 (by decide) (hts (.fieldLink RX8 144 "HoneyHouse$Vessel" "total" "I") (List.mem_of_getElem? (i := 1) rfl)) (fun _ h9 => h9) rfl dX8_verdictOfTest_29 ?_
    refine lv_i2l hx hb dX8_verdictOfTest_32 rfl ?_
    refine lv_lmul hx hb dX8_verdictOfTest_33 ?_
    refine lv_lstore (lv' := [(5, .long (((nI v9).toInt64) * vt.toInt64)), (4, .int 0), (3, .int (nI q9)), (0, .ref h0), (1, .int (nI ((q9 * 2 + (0)) * 1024 + v9))), (2, .ref v)]) hx hb dX8_verdictOfTest_34 hl (by decide) rfl (fun ls hl => ?_)
    refine lv_aload_n hx hb dX8_verdictOfTest_36 rfl (lv_at hl 3 rfl) ?_
    refine lv_aload_n hx hb dX8_verdictOfTest_37 rfl (lv_at hl 5 rfl) ?_
    refine lv_iload_n hx hb dX8_verdictOfTest_38 rfl (lv_at hl 2 rfl) ?_
    have hFc := free_all hD hS hA
    refine va_calll (va_runV (As := [.ref v, .int (nI q9)]) (rest := []) ⟨hx, hb, hml, hown, hts⟩ (a_weighed l D ρ ws tys fv h0 lc bc rc fc dn tl v kv vt vh vr vp g kg cg tg f (nI q9) s.heap.size (X.sm hsm htx (by decide) (by decide)) hkv hkg ev eg ug) (cwV 2 hts gX8_verdictOfTest_X8_weighed rfl rfl rfl (by decide +kernel) ⟨Nat.le_of_ble_eq_true rfl, Nat.le_of_ble_eq_true rfl⟩) ⟨fun a U g mk q => by obtain ⟨q0, q1, qP, qK, qD, qZ⟩ := q; exact ⟨q0, q1, qP, va_K.moved (u := U) (U := U.calling g mk a) (Vm.Alike.refl U.vm) qK, qD, NZ.same rfl qZ⟩, va_recv hK hP (ci := 8) (q0 := k0) rfl e0, fun U hU hW => ⟨rfl, by rw [hU], by rw [hU]; exact hP, va_K.moved hW.alike hK, hD.weaken (fun _ _ _ _ => trivial), NZ.warm hW hnz⟩⟩ rfl rfl hl.1 rfl (lv_room (Nat.le_of_ble_eq_true rfl)) dX8_verdictOfTest_39 ⟨Nat.le_of_ble_eq_true rfl, Nat.le_of_ble_eq_true rfl⟩) hS (fun q _ h => hFc q h) hFc (fun r_2 u t H1 locs ht hvm w_3 hB hz1 hk1 hS => ?_)
    obtain ⟨ws_4, ty_5, hm_6, ht_8, hP1, hK1, hD1, hx_7⟩ := hB
    rw [ht] at hP1
    have hK := va_K.moved hvm.symm hK1
    have hD := hD1.weaken (fun _ _ _ h => hFc _ h)
    generalize H1 = H at hP1 hS ⊢
    have hP := hP1
    obtain ⟨hx_7a, hx_7b⟩ := hx_7
    subst hx_7a
    subst hx_7b
    have hlo_9 := wg_lo hq9 hnum.1 hfr hvt9 hvh9 w_3
    refine lv_lstore (lv' := [(7, .long r_2), (5, .long (((nI v9).toInt64) * vt.toInt64)), (4, .int 0), (3, .int (nI q9)), (0, .ref h0), (1, .int (nI ((q9 * 2 + (0)) * 1024 + v9))), (2, .ref v)]) hx hb dX8_verdictOfTest_42 hl (by decide) rfl (fun ls hl => ?_)
    refine lv_iload_n hx hb dX8_verdictOfTest_44 rfl (lv_at hl 3 rfl) ?_
    refine vp_callSi (W.runS (As := [.int (nI q9)]) (rest := []) ⟨hx, hb, hml, hown, hts⟩ (s_X8_isPollenLow l (nI q9)) (va_cwS 1 hts gX8_verdictOfTest_X8_isPollenLow rfl rfl rfl (by decide +kernel) ⟨Nat.le_of_ble_eq_true rfl, Nat.le_of_ble_eq_true rfl⟩) ⟨fun a U g mk q => q, fun U hU hW => ⟨rfl, trivial⟩⟩ rfl rfl hl.1 rfl (lv_room (Nat.le_of_ble_eq_true rfl)) dX8_verdictOfTest_45 ⟨Nat.le_of_ble_eq_true rfl, Nat.le_of_ble_eq_true rfl⟩) (fun r_10 k_11 => ?_)
    rcases k_11 with ⟨rfl, o_12⟩ | ⟨rfl, a_13, b_14⟩
    · have hk_15 := hi_n (fv := fv) (n := lc) (r := u9) ((pl_n (q := q9) (by omega)).1 o_12)
      refine lv_if_eq (tgt := 66) hx hb dX8_verdictOfTest_48 (by decide) (fun c_16 => ?_) (fun c_16 => absurd (by decide) c_16)
      refine lv_lload hx hb dX8_verdictOfTest_66 (lv_at hl 0 rfl) ?_
      refine lv_lstore (lv' := [(9, .long r_2), (7, .long r_2), (5, .long (((nI v9).toInt64) * vt.toInt64)), (4, .int 0), (3, .int (nI q9)), (0, .ref h0), (1, .int (nI ((q9 * 2 + (0)) * 1024 + v9))), (2, .ref v)]) hx hb dX8_verdictOfTest_68 hl (by decide) rfl (fun ls hl => ?_)
      refine lv_iload hx hb dX8_verdictOfTest_70 (lv_at hl 3 rfl) ?_
      refine lv_if_eq (tgt := 86) hx hb dX8_verdictOfTest_72 (by decide) (fun c_17 => ?_) (fun c_17 => absurd (by decide) c_17)
      refine lv_lload hx hb dX8_verdictOfTest_86 (lv_at hl 1 rfl) ?_
      refine lv_lload hx hb dX8_verdictOfTest_88 (lv_at hl 2 rfl) ?_
      refine W.lcmp hx hb dX8_verdictOfTest_90 ?_
      refine lv_if_lt (tgt := 96) hx hb dX8_verdictOfTest_91 (by decide) (fun c_18 => ?_) (fun c_18 => ?_)
      · refine lv_iload hx hb dX8_verdictOfTest_96 (lv_at hl 3 rfl) ?_
        refine lv_if_eq (tgt := 112) hx hb dX8_verdictOfTest_98 (by decide) (fun c_19 => ?_) (fun c_19 => absurd (by decide) c_19)
        refine lv_lload hx hb dX8_verdictOfTest_112 (lv_at hl 0 rfl) ?_
        refine lv_lload hx hb dX8_verdictOfTest_114 (lv_at hl 2 rfl) ?_
        refine W.lcmp hx hb dX8_verdictOfTest_116 ?_
        refine lv_if_lt (tgt := 124) hx hb dX8_verdictOfTest_117 (by decide) (fun c_20 => ?_) (fun c_20 => ?_)
        · refine lv_iconst (v := 0) hx hb dX8_verdictOfTest_124 (by decide) ?_
          exact W.iret (v := 0) hx hb hr (fun t ht hW => ⟨⟨0, (), rfl, ((vt_mi hlo_9 (hlo_9.trans hk_15.symm) (show _ = wBd fv u9 v9 from by rw [wBd, ← hvt9])).1 c_18 c_20), ws, tys, hsm, htx, by rw [ht]; exact hP, va_K.moved hW.alike hK, hD, ⟨rfl, rfl⟩⟩, hS.F ht⟩) hS.2.2 dX8_verdictOfTest_125
        refine lv_iconst (v := 1) hx hb dX8_verdictOfTest_120 (by decide) ?_
        refine lv_goto (tgt := 125) hx hb dX8_verdictOfTest_121 (by decide) ?_
        exact W.iret (v := 1) hx hb hr (fun t ht hW => ⟨⟨1, (), rfl, ((vt_mi hlo_9 (hlo_9.trans hk_15.symm) (show _ = wBd fv u9 v9 from by rw [wBd, ← hvt9])).2.1 c_18 c_20), ws, tys, hsm, htx, by rw [ht]; exact hP, va_K.moved hW.alike hK, hD, ⟨rfl, rfl⟩⟩, hS.F ht⟩) hS.2.2 dX8_verdictOfTest_125
      refine lv_iconst (v := 2) hx hb dX8_verdictOfTest_94 (by decide) ?_
      exact W.iret (v := 2) hx hb hr (fun t ht hW => ⟨⟨2, (), rfl, ((vt_mi hlo_9 (hlo_9.trans hk_15.symm) (show _ = wBd fv u9 v9 from by rw [wBd, ← hvt9])).2.2 c_18), ws, tys, hsm, htx, by rw [ht]; exact hP, va_K.moved hW.alike hK, hD, ⟨rfl, rfl⟩⟩, hS.F ht⟩) hS.2.2 dX8_verdictOfTest_95
    have hk_15 := (pl_n (q := q9) (by omega)).2 a_13 b_14
    refine lv_if_eq (tgt := 66) hx hb dX8_verdictOfTest_48 (by decide) (fun c_21 => absurd c_21 (by decide)) (fun c_21 => ?_)
    refine lv_aload_n hx hb dX8_verdictOfTest_51 rfl (lv_at hl 4 rfl) ?_
    refine lv_aload_n hx hb dX8_verdictOfTest_52 rfl (lv_at hl 6 rfl) ?_
    refine lv_iload_n hx hb dX8_verdictOfTest_53 rfl (lv_at hl 3 rfl) ?_
    refine lv_bipush (v := 10) hx hb dX8_verdictOfTest_54 (by decide) ?_
    refine lv_isub hx hb dX8_verdictOfTest_56 ?_
    refine tp_i (y := nI (q9 - 10)) (pk_sub (a := q9) (b := 10) (by omega)) ?_
    refine lv_bipush (v := 20) hx hb dX8_verdictOfTest_57 (by decide) ?_
    refine lv_iadd hx hb dX8_verdictOfTest_59 ?_
    refine tp_i (y := nI ((q9 - 10) + 20)) (nI_add (q9 - 10) 20) ?_
    have hFc := free_all hD hS hA
    refine va_calll (va_runV (As := [.ref v, .int (nI ((q9 - 10) + 20))]) (rest := []) ⟨hx, hb, hml, hown, hts⟩ (a_weighed l D ρ ws tys fv h0 lc bc rc fc dn tl v kv vt vh vr vp g kg cg tg f (nI ((q9 - 10) + 20)) H.size (X.sm hsm htx (by decide) (by decide)) hkv hkg ev eg ug) (cwV 2 hts gX8_verdictOfTest_X8_weighed rfl rfl rfl (by decide +kernel) ⟨Nat.le_of_ble_eq_true rfl, Nat.le_of_ble_eq_true rfl⟩) ⟨fun a U g mk q => by obtain ⟨q0, q1, qP, qK, qD, qZ⟩ := q; exact ⟨q0, q1, qP, va_K.moved (u := U) (U := U.calling g mk a) (Vm.Alike.refl U.vm) qK, qD, NZ.same rfl qZ⟩, va_recv hK hP (ci := 8) (q0 := k0) rfl e0, fun U hU hW => ⟨rfl, by rw [hU], by rw [hU]; exact hP, va_K.moved hW.alike hK, hD.weaken (fun _ _ _ _ => trivial), NZ.warm hW hnz⟩⟩ rfl rfl hl.1 rfl (lv_room (Nat.le_of_ble_eq_true rfl)) dX8_verdictOfTest_60 ⟨Nat.le_of_ble_eq_true rfl, Nat.le_of_ble_eq_true rfl⟩) hS (fun q _ h => hFc q h) hFc (fun r_22 u t H1 locs ht hvm w_23 hB hz1 hk1 hS => ?_)
    obtain ⟨ws_24, ty_25, hm_26, ht_28, hP1, hK1, hD1, hx_27⟩ := hB
    rw [ht] at hP1
    have hK := va_K.moved hvm.symm hK1
    have hD := hD1.weaken (fun _ _ _ h => hFc _ h)
    generalize H1 = H at hP1 hS ⊢
    have hP := hP1
    obtain ⟨hx_27a, hx_27b⟩ := hx_27
    subst hx_27a
    subst hx_27b
    have hhi_29 := wg_hi hk_15 (by omega) hnum.1 hfr w_23
    refine lv_goto (tgt := 68) hx hb dX8_verdictOfTest_63 (by decide) ?_
    refine lv_lstore (lv' := [(9, .long r_22), (7, .long r_2), (5, .long (((nI v9).toInt64) * vt.toInt64)), (4, .int 0), (3, .int (nI q9)), (0, .ref h0), (1, .int (nI ((q9 * 2 + (0)) * 1024 + v9))), (2, .ref v)]) hx hb dX8_verdictOfTest_68 hl (by decide) rfl (fun ls hl => ?_)
    refine lv_iload hx hb dX8_verdictOfTest_70 (lv_at hl 3 rfl) ?_
    refine lv_if_eq (tgt := 86) hx hb dX8_verdictOfTest_72 (by decide) (fun c_30 => ?_) (fun c_30 => absurd (by decide) c_30)
    refine lv_lload hx hb dX8_verdictOfTest_86 (lv_at hl 1 rfl) ?_
    refine lv_lload hx hb dX8_verdictOfTest_88 (lv_at hl 2 rfl) ?_
    refine W.lcmp hx hb dX8_verdictOfTest_90 ?_
    refine lv_if_lt (tgt := 96) hx hb dX8_verdictOfTest_91 (by decide) (fun c_31 => ?_) (fun c_31 => ?_)
    · refine lv_iload hx hb dX8_verdictOfTest_96 (lv_at hl 3 rfl) ?_
      refine lv_if_eq (tgt := 112) hx hb dX8_verdictOfTest_98 (by decide) (fun c_32 => ?_) (fun c_32 => absurd (by decide) c_32)
      refine lv_lload hx hb dX8_verdictOfTest_112 (lv_at hl 0 rfl) ?_
      refine lv_lload hx hb dX8_verdictOfTest_114 (lv_at hl 2 rfl) ?_
      refine W.lcmp hx hb dX8_verdictOfTest_116 ?_
      refine lv_if_lt (tgt := 124) hx hb dX8_verdictOfTest_117 (by decide) (fun c_33 => ?_) (fun c_33 => ?_)
      · refine lv_iconst (v := 0) hx hb dX8_verdictOfTest_124 (by decide) ?_
        exact W.iret (v := 0) hx hb hr (fun t ht hW => ⟨⟨0, (), rfl, ((vt_mi hlo_9 hhi_29 (show _ = wBd fv u9 v9 from by rw [wBd, ← hvt9])).1 c_31 c_33), ws, tys, hsm, htx, by rw [ht]; exact hP, va_K.moved hW.alike hK, hD, ⟨rfl, rfl⟩⟩, hS.F ht⟩) hS.2.2 dX8_verdictOfTest_125
      refine lv_iconst (v := 1) hx hb dX8_verdictOfTest_120 (by decide) ?_
      refine lv_goto (tgt := 125) hx hb dX8_verdictOfTest_121 (by decide) ?_
      exact W.iret (v := 1) hx hb hr (fun t ht hW => ⟨⟨1, (), rfl, ((vt_mi hlo_9 hhi_29 (show _ = wBd fv u9 v9 from by rw [wBd, ← hvt9])).2.1 c_31 c_33), ws, tys, hsm, htx, by rw [ht]; exact hP, va_K.moved hW.alike hK, hD, ⟨rfl, rfl⟩⟩, hS.F ht⟩) hS.2.2 dX8_verdictOfTest_125
    refine lv_iconst (v := 2) hx hb dX8_verdictOfTest_94 (by decide) ?_
    exact W.iret (v := 2) hx hb hr (fun t ht hW => ⟨⟨2, (), rfl, ((vt_mi hlo_9 hhi_29 (show _ = wBd fv u9 v9 from by rw [wBd, ← hvt9])).2.2 c_31), ws, tys, hsm, htx, by rw [ht]; exact hP, va_K.moved hW.alike hK, hD, ⟨rfl, rfl⟩⟩, hS.F ht⟩) hS.2.2 dX8_verdictOfTest_95
  refine lv_iload_n hx hb dX8_verdictOfTest_0 rfl (lv_at hl 1 rfl) ?_
  refine lv_bipush (v := 11) hx hb dX8_verdictOfTest_1 (by decide) ?_
  refine lv_ishr hx hb dX8_verdictOfTest_3 ?_
  refine tp_i (y := nI q9) (cd_w (vq_lt hq9) (by decide) hu9) ?_
  refine lv_istore_n (lv' := [(3, .int (nI q9)), (0, .ref h0), (1, .int (nI ((q9 * 2 + (1)) * 1024 + v9))), (2, .ref v)]) hx hb dX8_verdictOfTest_4 rfl hl (by decide) rfl (fun ls hl => ?_)
  refine lv_iload_n hx hb dX8_verdictOfTest_5 rfl (lv_at hl 2 rfl) ?_
  refine lv_bipush (v := 10) hx hb dX8_verdictOfTest_6 (by decide) ?_
  refine lv_ishr hx hb dX8_verdictOfTest_8 ?_
  refine tp_i (y := nI (q9 * 2 + 1)) (cd_h (vq_lt hq9) (by decide) hu9) ?_
  refine lv_iconst (v := 1) hx hb dX8_verdictOfTest_9 (by decide) ?_
  refine lv_iand hx hb dX8_verdictOfTest_10 ?_
  refine tp_i (y := 1) (cd_b (vq_lt hq9) (by decide)) ?_
  refine lv_iconst (v := 1) hx hb dX8_verdictOfTest_11 (by decide) ?_
  refine lv_icmp_ne (tgt := 19) hx hb dX8_verdictOfTest_12 (by decide) (fun c_34 => absurd (by decide) c_34) (fun c_34 => ?_)
  refine lv_iconst (v := 1) hx hb dX8_verdictOfTest_15 (by decide) ?_
  refine lv_goto (tgt := 20) hx hb dX8_verdictOfTest_16 (by decide) ?_
  refine lv_istore (lv' := [(4, .int 1), (3, .int (nI q9)), (0, .ref h0), (1, .int (nI ((q9 * 2 + (1)) * 1024 + v9))), (2, .ref v)]) hx hb dX8_verdictOfTest_20 hl (by decide) rfl (fun ls hl => ?_)
  refine lv_iload_n hx hb dX8_verdictOfTest_22 rfl (lv_at hl 3 rfl) ?_
  refine lv_sipush (v := 1023) hx hb dX8_verdictOfTest_23 (by decide) ?_
  refine lv_iand hx hb dX8_verdictOfTest_26 ?_
  refine tp_i (y := nI v9) (cd_n (vq_lt hq9) (by decide) hu9) ?_
  refine lv_i2l hx hb dX8_verdictOfTest_27 rfl ?_
  refine lv_aload_n hx hb dX8_verdictOfTest_28 rfl (lv_at hl 4 rfl) ?_
  refine va_get (D := D) (ci := 7) (v := .int vt) (C := RX7) (T := TX7) (N := 5) hx hb hts hin7 hown hK hP kv ev rfl 1 (by decide) (hts (.fieldLink RX8 144 "HoneyHouse$Vessel" "total" "I") (List.mem_of_getElem? (i := 1) rfl)) (fun _ h9 => h9) rfl dX8_verdictOfTest_29 ?_
  refine lv_i2l hx hb dX8_verdictOfTest_32 rfl ?_
  refine lv_lmul hx hb dX8_verdictOfTest_33 ?_
  refine lv_lstore (lv' := [(5, .long (((nI v9).toInt64) * vt.toInt64)), (4, .int 1), (3, .int (nI q9)), (0, .ref h0), (1, .int (nI ((q9 * 2 + (1)) * 1024 + v9))), (2, .ref v)]) hx hb dX8_verdictOfTest_34 hl (by decide) rfl (fun ls hl => ?_)
  refine lv_aload_n hx hb dX8_verdictOfTest_36 rfl (lv_at hl 3 rfl) ?_
  refine lv_aload_n hx hb dX8_verdictOfTest_37 rfl (lv_at hl 5 rfl) ?_
  refine lv_iload_n hx hb dX8_verdictOfTest_38 rfl (lv_at hl 2 rfl) ?_
  have hFc := free_all hD hS hA
  refine va_calll (va_runV (As := [.ref v, .int (nI q9)]) (rest := []) ⟨hx, hb, hml, hown, hts⟩ (a_weighed l D ρ ws tys fv h0 lc bc rc fc dn tl v kv vt vh vr vp g kg cg tg f (nI q9) s.heap.size (X.sm hsm htx (by decide) (by decide)) hkv hkg ev eg ug) (cwV 2 hts gX8_verdictOfTest_X8_weighed rfl rfl rfl (by decide +kernel) ⟨Nat.le_of_ble_eq_true rfl, Nat.le_of_ble_eq_true rfl⟩) ⟨fun a U g mk q => by obtain ⟨q0, q1, qP, qK, qD, qZ⟩ := q; exact ⟨q0, q1, qP, va_K.moved (u := U) (U := U.calling g mk a) (Vm.Alike.refl U.vm) qK, qD, NZ.same rfl qZ⟩, va_recv hK hP (ci := 8) (q0 := k0) rfl e0, fun U hU hW => ⟨rfl, by rw [hU], by rw [hU]; exact hP, va_K.moved hW.alike hK, hD.weaken (fun _ _ _ _ => trivial), NZ.warm hW hnz⟩⟩ rfl rfl hl.1 rfl (lv_room (Nat.le_of_ble_eq_true rfl)) dX8_verdictOfTest_39 ⟨Nat.le_of_ble_eq_true rfl, Nat.le_of_ble_eq_true rfl⟩) hS (fun q _ h => hFc q h) hFc (fun r_35 u t H1 locs ht hvm w_36 hB hz1 hk1 hS => ?_)
  obtain ⟨ws_37, ty_38, hm_39, ht_41, hP1, hK1, hD1, hx_40⟩ := hB
  rw [ht] at hP1
  have hK := va_K.moved hvm.symm hK1
  have hD := hD1.weaken (fun _ _ _ h => hFc _ h)
  generalize H1 = H at hP1 hS ⊢
  have hP := hP1
  obtain ⟨hx_40a, hx_40b⟩ := hx_40
  subst hx_40a
  subst hx_40b
  have hlo_42 := wg_lo hq9 hnum.1 hfr hvt9 hvh9 w_36
  refine lv_lstore (lv' := [(7, .long r_35), (5, .long (((nI v9).toInt64) * vt.toInt64)), (4, .int 1), (3, .int (nI q9)), (0, .ref h0), (1, .int (nI ((q9 * 2 + (1)) * 1024 + v9))), (2, .ref v)]) hx hb dX8_verdictOfTest_42 hl (by decide) rfl (fun ls hl => ?_)
  refine lv_iload_n hx hb dX8_verdictOfTest_44 rfl (lv_at hl 3 rfl) ?_
  refine vp_callSi (W.runS (As := [.int (nI q9)]) (rest := []) ⟨hx, hb, hml, hown, hts⟩ (s_X8_isPollenLow l (nI q9)) (va_cwS 1 hts gX8_verdictOfTest_X8_isPollenLow rfl rfl rfl (by decide +kernel) ⟨Nat.le_of_ble_eq_true rfl, Nat.le_of_ble_eq_true rfl⟩) ⟨fun a U g mk q => q, fun U hU hW => ⟨rfl, trivial⟩⟩ rfl rfl hl.1 rfl (lv_room (Nat.le_of_ble_eq_true rfl)) dX8_verdictOfTest_45 ⟨Nat.le_of_ble_eq_true rfl, Nat.le_of_ble_eq_true rfl⟩) (fun r_43 k_44 => ?_)
  rcases k_44 with ⟨rfl, o_45⟩ | ⟨rfl, a_46, b_47⟩
  · have hk_48 := hi_n (fv := fv) (n := lc) (r := u9) ((pl_n (q := q9) (by omega)).1 o_45)
    refine lv_if_eq (tgt := 66) hx hb dX8_verdictOfTest_48 (by decide) (fun c_49 => ?_) (fun c_49 => absurd (by decide) c_49)
    refine lv_lload hx hb dX8_verdictOfTest_66 (lv_at hl 0 rfl) ?_
    refine lv_lstore (lv' := [(9, .long r_35), (7, .long r_35), (5, .long (((nI v9).toInt64) * vt.toInt64)), (4, .int 1), (3, .int (nI q9)), (0, .ref h0), (1, .int (nI ((q9 * 2 + (1)) * 1024 + v9))), (2, .ref v)]) hx hb dX8_verdictOfTest_68 hl (by decide) rfl (fun ls hl => ?_)
    refine lv_iload hx hb dX8_verdictOfTest_70 (lv_at hl 3 rfl) ?_
    refine lv_if_eq (tgt := 86) hx hb dX8_verdictOfTest_72 (by decide) (fun c_50 => absurd c_50 (by decide)) (fun c_50 => ?_)
    refine lv_lload hx hb dX8_verdictOfTest_75 (lv_at hl 0 rfl) ?_
    refine lv_lload hx hb dX8_verdictOfTest_77 (lv_at hl 2 rfl) ?_
    refine W.lcmp hx hb dX8_verdictOfTest_79 ?_
    refine lv_if_gt (tgt := 96) hx hb dX8_verdictOfTest_80 (by decide) (fun c_51 => ?_) (fun c_51 => ?_)
    · refine lv_iload hx hb dX8_verdictOfTest_96 (lv_at hl 3 rfl) ?_
      refine lv_if_eq (tgt := 112) hx hb dX8_verdictOfTest_98 (by decide) (fun c_52 => absurd c_52 (by decide)) (fun c_52 => ?_)
      refine lv_lload hx hb dX8_verdictOfTest_101 (lv_at hl 1 rfl) ?_
      refine lv_lload hx hb dX8_verdictOfTest_103 (lv_at hl 2 rfl) ?_
      refine W.lcmp hx hb dX8_verdictOfTest_105 ?_
      refine lv_if_gt (tgt := 124) hx hb dX8_verdictOfTest_106 (by decide) (fun c_53 => ?_) (fun c_53 => ?_)
      · refine lv_iconst (v := 0) hx hb dX8_verdictOfTest_124 (by decide) ?_
        exact W.iret (v := 0) hx hb hr (fun t ht hW => ⟨⟨0, (), rfl, ((vt_mx hlo_42 (hlo_42.trans hk_48.symm) (show _ = wBd fv u9 v9 from by rw [wBd, ← hvt9])).1 c_51 c_53), ws, tys, hsm, htx, by rw [ht]; exact hP, va_K.moved hW.alike hK, hD, ⟨rfl, rfl⟩⟩, hS.F ht⟩) hS.2.2 dX8_verdictOfTest_125
      refine lv_goto (tgt := 120) hx hb dX8_verdictOfTest_109 (by decide) ?_
      refine lv_iconst (v := 1) hx hb dX8_verdictOfTest_120 (by decide) ?_
      refine lv_goto (tgt := 125) hx hb dX8_verdictOfTest_121 (by decide) ?_
      exact W.iret (v := 1) hx hb hr (fun t ht hW => ⟨⟨1, (), rfl, ((vt_mx hlo_42 (hlo_42.trans hk_48.symm) (show _ = wBd fv u9 v9 from by rw [wBd, ← hvt9])).2.1 c_51 c_53), ws, tys, hsm, htx, by rw [ht]; exact hP, va_K.moved hW.alike hK, hD, ⟨rfl, rfl⟩⟩, hS.F ht⟩) hS.2.2 dX8_verdictOfTest_125
    refine lv_goto (tgt := 94) hx hb dX8_verdictOfTest_83 (by decide) ?_
    refine lv_iconst (v := 2) hx hb dX8_verdictOfTest_94 (by decide) ?_
    exact W.iret (v := 2) hx hb hr (fun t ht hW => ⟨⟨2, (), rfl, ((vt_mx hlo_42 (hlo_42.trans hk_48.symm) (show _ = wBd fv u9 v9 from by rw [wBd, ← hvt9])).2.2 c_51), ws, tys, hsm, htx, by rw [ht]; exact hP, va_K.moved hW.alike hK, hD, ⟨rfl, rfl⟩⟩, hS.F ht⟩) hS.2.2 dX8_verdictOfTest_95
  have hk_48 := (pl_n (q := q9) (by omega)).2 a_46 b_47
  refine lv_if_eq (tgt := 66) hx hb dX8_verdictOfTest_48 (by decide) (fun c_54 => absurd c_54 (by decide)) (fun c_54 => ?_)
  refine lv_aload_n hx hb dX8_verdictOfTest_51 rfl (lv_at hl 4 rfl) ?_
  refine lv_aload_n hx hb dX8_verdictOfTest_52 rfl (lv_at hl 6 rfl) ?_
  refine lv_iload_n hx hb dX8_verdictOfTest_53 rfl (lv_at hl 3 rfl) ?_
  refine lv_bipush (v := 10) hx hb dX8_verdictOfTest_54 (by decide) ?_
  refine lv_isub hx hb dX8_verdictOfTest_56 ?_
  refine tp_i (y := nI (q9 - 10)) (pk_sub (a := q9) (b := 10) (by omega)) ?_
  refine lv_bipush (v := 20) hx hb dX8_verdictOfTest_57 (by decide) ?_
  refine lv_iadd hx hb dX8_verdictOfTest_59 ?_
  refine tp_i (y := nI ((q9 - 10) + 20)) (nI_add (q9 - 10) 20) ?_
  have hFc := free_all hD hS hA
  refine va_calll (va_runV (As := [.ref v, .int (nI ((q9 - 10) + 20))]) (rest := []) ⟨hx, hb, hml, hown, hts⟩ (a_weighed l D ρ ws tys fv h0 lc bc rc fc dn tl v kv vt vh vr vp g kg cg tg f (nI ((q9 - 10) + 20)) H.size (X.sm hsm htx (by decide) (by decide)) hkv hkg ev eg ug) (cwV 2 hts gX8_verdictOfTest_X8_weighed rfl rfl rfl (by decide +kernel) ⟨Nat.le_of_ble_eq_true rfl, Nat.le_of_ble_eq_true rfl⟩) ⟨fun a U g mk q => by obtain ⟨q0, q1, qP, qK, qD, qZ⟩ := q; exact ⟨q0, q1, qP, va_K.moved (u := U) (U := U.calling g mk a) (Vm.Alike.refl U.vm) qK, qD, NZ.same rfl qZ⟩, va_recv hK hP (ci := 8) (q0 := k0) rfl e0, fun U hU hW => ⟨rfl, by rw [hU], by rw [hU]; exact hP, va_K.moved hW.alike hK, hD.weaken (fun _ _ _ _ => trivial), NZ.warm hW hnz⟩⟩ rfl rfl hl.1 rfl (lv_room (Nat.le_of_ble_eq_true rfl)) dX8_verdictOfTest_60 ⟨Nat.le_of_ble_eq_true rfl, Nat.le_of_ble_eq_true rfl⟩) hS (fun q _ h => hFc q h) hFc (fun r_55 u t H1 locs ht hvm w_56 hB hz1 hk1 hS => ?_)
  obtain ⟨ws_57, ty_58, hm_59, ht_61, hP1, hK1, hD1, hx_60⟩ := hB
  rw [ht] at hP1
  have hK := va_K.moved hvm.symm hK1
  have hD := hD1.weaken (fun _ _ _ h => hFc _ h)
  generalize H1 = H at hP1 hS ⊢
  have hP := hP1
  obtain ⟨hx_60a, hx_60b⟩ := hx_60
  subst hx_60a
  subst hx_60b
  have hhi_62 := wg_hi hk_48 (by omega) hnum.1 hfr w_56
  refine lv_goto (tgt := 68) hx hb dX8_verdictOfTest_63 (by decide) ?_
  refine lv_lstore (lv' := [(9, .long r_55), (7, .long r_35), (5, .long (((nI v9).toInt64) * vt.toInt64)), (4, .int 1), (3, .int (nI q9)), (0, .ref h0), (1, .int (nI ((q9 * 2 + (1)) * 1024 + v9))), (2, .ref v)]) hx hb dX8_verdictOfTest_68 hl (by decide) rfl (fun ls hl => ?_)
  refine lv_iload hx hb dX8_verdictOfTest_70 (lv_at hl 3 rfl) ?_
  refine lv_if_eq (tgt := 86) hx hb dX8_verdictOfTest_72 (by decide) (fun c_63 => absurd c_63 (by decide)) (fun c_63 => ?_)
  refine lv_lload hx hb dX8_verdictOfTest_75 (lv_at hl 0 rfl) ?_
  refine lv_lload hx hb dX8_verdictOfTest_77 (lv_at hl 2 rfl) ?_
  refine W.lcmp hx hb dX8_verdictOfTest_79 ?_
  refine lv_if_gt (tgt := 96) hx hb dX8_verdictOfTest_80 (by decide) (fun c_64 => ?_) (fun c_64 => ?_)
  · refine lv_iload hx hb dX8_verdictOfTest_96 (lv_at hl 3 rfl) ?_
    refine lv_if_eq (tgt := 112) hx hb dX8_verdictOfTest_98 (by decide) (fun c_65 => absurd c_65 (by decide)) (fun c_65 => ?_)
    refine lv_lload hx hb dX8_verdictOfTest_101 (lv_at hl 1 rfl) ?_
    refine lv_lload hx hb dX8_verdictOfTest_103 (lv_at hl 2 rfl) ?_
    refine W.lcmp hx hb dX8_verdictOfTest_105 ?_
    refine lv_if_gt (tgt := 124) hx hb dX8_verdictOfTest_106 (by decide) (fun c_66 => ?_) (fun c_66 => ?_)
    · refine lv_iconst (v := 0) hx hb dX8_verdictOfTest_124 (by decide) ?_
      exact W.iret (v := 0) hx hb hr (fun t ht hW => ⟨⟨0, (), rfl, ((vt_mx hlo_42 hhi_62 (show _ = wBd fv u9 v9 from by rw [wBd, ← hvt9])).1 c_64 c_66), ws, tys, hsm, htx, by rw [ht]; exact hP, va_K.moved hW.alike hK, hD, ⟨rfl, rfl⟩⟩, hS.F ht⟩) hS.2.2 dX8_verdictOfTest_125
    refine lv_goto (tgt := 120) hx hb dX8_verdictOfTest_109 (by decide) ?_
    refine lv_iconst (v := 1) hx hb dX8_verdictOfTest_120 (by decide) ?_
    refine lv_goto (tgt := 125) hx hb dX8_verdictOfTest_121 (by decide) ?_
    exact W.iret (v := 1) hx hb hr (fun t ht hW => ⟨⟨1, (), rfl, ((vt_mx hlo_42 hhi_62 (show _ = wBd fv u9 v9 from by rw [wBd, ← hvt9])).2.1 c_64 c_66), ws, tys, hsm, htx, by rw [ht]; exact hP, va_K.moved hW.alike hK, hD, ⟨rfl, rfl⟩⟩, hS.F ht⟩) hS.2.2 dX8_verdictOfTest_125
  refine lv_goto (tgt := 94) hx hb dX8_verdictOfTest_83 (by decide) ?_
  refine lv_iconst (v := 2) hx hb dX8_verdictOfTest_94 (by decide) ?_
  exact W.iret (v := 2) hx hb hr (fun t ht hW => ⟨⟨2, (), rfl, ((vt_mx hlo_42 hhi_62 (show _ = wBd fv u9 v9 from by rw [wBd, ← hvt9])).2.2 c_64), ws, tys, hsm, htx, by rw [ht]; exact hP, va_K.moved hW.alike hK, hD, ⟨rfl, rfl⟩⟩, hS.F ht⟩) hS.2.2 dX8_verdictOfTest_95
theorem vd_step {n i d : Nat} {φ : Nat → Int32} {T9 T2 : List Tk} (hT : n = T9.length) (hf : ∀ i : Nat, i < n → φ i = enc (T9.getD i (0, 0, 0, 0))) (hi : i < n) (h2 : T2 = T9.drop i) (hw : wfT T2 d 1) :
    (∃ (q b u : Nat) (T3 : List Tk), T2 = (13, q, 9 + b, u) :: T3 ∧ φ i = nI ((q * 2 + b) * 1024 + u) ∧ (q = 0 ∨ q = 1 ∨ q = 2 ∨ (10 ≤ q ∧ q < 15) ∨ (30 ≤ q ∧ q < 34)) ∧ (b = 0 ∨ b = 1) ∧ u ≤ 1000 ∧ d < 16 ∧ T3 = T9.drop (i + 1) ∧ wfT T3 (d + 1) 1) ∨
    (∃ T3 : List Tk, T2 = (3, 0, 0, 0) :: T3 ∧ φ i = (-1) ∧ 1 ≤ d ∧ T3 = T9.drop (i + 1) ∧ wfT T3 d 1) ∨
    (∃ T3 : List Tk, T2 = (1, 0, 0, 0) :: T3 ∧ φ i = (-3) ∧ 2 ≤ d ∧ T3 = T9.drop (i + 1) ∧ wfT T3 (d - 1) 1) ∨
    (∃ T3 : List Tk, T2 = (2, 0, 0, 0) :: T3 ∧ φ i = (-2) ∧ 2 ≤ d ∧ T3 = T9.drop (i + 1) ∧ wfT T3 (d - 1) 1) := by
  have hl : i < T9.length := by omega
  have hd : T9.drop i = T9[i] :: T9.drop (i + 1) := List.drop_eq_getElem_cons hl
  have hg : φ i = enc T9[i] := by rw [hf i hi, List.getD_eq_getElem?_getD, List.getElem?_eq_getElem hl]; rfl
  rw [hd] at h2
  obtain ⟨t, ht⟩ : ∃ t, t = T9[i] := ⟨_, rfl⟩
  rw [← ht] at h2 hg
  rw [h2] at hw
  obtain ⟨a, w, m, v⟩ := t
  obtain ⟨o, hw⟩ := hw
  have z : ∀ b : Nat, ¬ b = 13 → a = b → (w, m, v) = (0, 0, 0) := fun b hb hab => by
    rcases o with o | o
    · exact absurd (hab.symm.trans o.1) hb
    · exact o.2
  rcases hw with ⟨ha, hn, hw⟩ | ⟨ha, hn, hw⟩ | ⟨ha, hn, hw⟩
  · have ha : a = 13 := ha
    subst ha
    rcases o with ⟨-, o1, o2, o3⟩ | o
    · have o2 : m = 9 ∨ m = 10 := o2
      refine Or.inl ⟨w, m - 9, v, T9.drop (i + 1), ?_, ?_, o1, ?_, o3, hn, rfl, hw⟩
      · rw [h2, show 9 + (m - 9) = m by omega]
      · rw [hg]
        rcases o2 with rfl | rfl <;> rfl
      · omega
    · exact absurd o.1 (show ¬ (13 = 1 ∨ 13 = 2 ∨ 13 = 3) by decide)
  · have ha : a = 3 := ha
    subst ha
    exact Or.inr (Or.inl ⟨_, by rw [h2, z 3 (by decide) rfl], hg, hn, rfl, hw⟩)
  · have ha : a = 1 ∨ a = 2 := ha
    rcases ha with rfl | rfl
    · exact Or.inr (Or.inr (Or.inl ⟨_, by rw [h2, z 1 (by decide) rfl], hg, hn, rfl, hw⟩))
    · exact Or.inr (Or.inr (Or.inr ⟨_, by rw [h2, z 2 (by decide) rfl], hg, hn, rfl, hw⟩))
theorem in_no {d k : Nat} (h1 : k ≤ d) (h2 : d ≤ 16) : ¬ (nI d < nI k ∨ 16 < nI d) := by
  have c1 : nI d < nI k ↔ d < k := nI_ltI (by omega) (by omega)
  have c2 : (16 : Int32) < nI d ↔ 16 < d := nI_ltI (a := 16) (b := d) (by omega) (by omega)
  rw [c1, c2]
  omega
theorem mn_n {x y : Nat} (hx : x ≤ 2) (hy : y ≤ 2) : (if nI y < nI x then nI y else nI x) = nI (min x y) := by
  rcases lt3 hx with rfl | rfl | rfl <;> rcases lt3 hy with rfl | rfl | rfl <;> decide
theorem mx_n {x y : Nat} (hx : x ≤ 2) (hy : y ≤ 2) : (if nI x < nI y then nI y else nI x) = nI (max x y) := by
  rcases lt3 hx with rfl | rfl | rfl <;> rcases lt3 hy with rfl | rfl | rfl <;> decide
set_option maxHeartbeats 4000000 in
set_option maxRecDepth 100000 in
theorem a_verdict (l : Launch) (D : va_G) (ρ : Nat → Nat) (ws : va_W) (tys : List (ClassId × FieldType)) (fv : Nat → Nat → Int32) (h0 lc bc rc fc : Nat) (dn : Int32) (tl : Nat) (v kv : Nat) (vt vh vr vp : Int32) (g kg : Nat) (cg : ClassId) (tg : Nat) (f : Nat → Int32) (rl krl cd kcd n : Nat) (ccd : ClassId) (tcd : Nat) (fcd : Nat → Int32) (y0 : Int64) (y1 y3 y4 : Int32) (T9 : List Tk) (u9 : Nat) (sz : Nat) (X : XI ρ fv ws tys h0 lc bc rc fc dn tl) (hkv : ρ kv ≠ 0) (hkg : ρ kg ≠ 0) (ev : ws[kv]? = some (v, .inr (7, [.ref g, .int vt, .int vh, .int vr, .int vp]))) (eg : ws[kg]? = some (g, .inl (cg, 40, .inl f))) (ug : tys[tg]? = some (cg, .int)) (hn : n ≤ 200) (erl : ws[krl]? = some (rl, .inr (3, [.long y0, .int y1, .ref cd, .int y3, .int y4]))) (ecd : ws[kcd]? = some (cd, .inl (ccd, n, .inl fcd))) (ucd : tys[tcd]? = some (ccd, .int)) (hkcd : ρ kcd ≠ 0) (hT9 : n = T9.length) (hfT9 : ∀ i : Nat, i < n → fcd i = enc (T9.getD i (0, 0, 0, 0))) (hwT9 : wfT T9 0 1) (hfr : ∀ i : Nat, i < 40 → f i = fv 9 (40 * u9 + i)) (hvt9 : vt = mall (fv 9) u9 40) (hvh9 : vh = fv 10 u9) : Met l yX8_verdict wsX8_verdict ({ frames := 5, cells := 0, slots := 0, locals := 119 }) (va_Pc [.ref h0, .ref rl, .ref v] (fun U => U.heap.size = sz ∧ va_P D vwCl ws U.heap ∧ va_K D vwCl tys U ∧ va_D (fun _ => True) ws ∧ NZ U)) (va_Qi (fun (r : Int32) (_ : Unit) => vT (tsv fv lc u9) T9 ≤ 2 ∧ r = nI (vT (tsv fv lc u9) T9)) (fun (_ : Unit) (t : State) => ∃ (ws' : va_W) (tys' : List (ClassId × FieldType)), sm ρ [] ws ws' ∧ tyx tys tys' ∧ va_P D vwCl ws' t.heap ∧ va_K D vwCl tys' t ∧ va_D (va_A ws sz) ws' ∧ (True)) (va_A ws sz)) 0 0 (va_A ws sz) := by
  refine Met.ofW (cc := cX8_verdict) (maxL := 8) (ret := (some .int)) (by decide) rfl ?_
  intro p e s m args below meth c s₁ B hml hv
  obtain ⟨rfl, hsz, hP, hK, hD0, hnz⟩ := hv
  have hx := B.exec
  have hb := B.bytes
  have hr := B.returns
  have hts := atoms_spec (ws := wsX8_verdict) B.pre
  have hown : s.vm.findClass RX8 = some m.cls := findClass_of_methodNamed B.named
  have hlocks := B.notSynchronized
  subst hsz
  have hD := hD0.self (sz := s.heap.size)
  generalize hAe : va_A ws s.heap.size = A at hD ⊢
  have hA : ∀ q : Nat, s.heap.size ≤ q → A q := fun q h => by rw [← hAe]; exact Or.inr h
  have hS : va_S A s.heap s.heap [] := va_S.rf
  have hsm : sm ρ [] ws ws := sm.rf ws
  have htx : tyx tys tys := tyx.rf tys
  have hin3 : ∀ w ∈ u_ws RX3 TX3 5, w ∈ wsX8_verdict := (fun _ h9 => List.mem_cons_of_mem _ (List.mem_append_left _ (List.mem_append_left _ (List.mem_append_left _ ((List.mem_append_right _ h9))))))
  have hin8 : ∀ w ∈ u_ws RX8 TX8 15, w ∈ wsX8_verdict := (fun _ h9 => List.mem_cons_of_mem _ (List.mem_append_left _ (List.mem_append_left _ ((List.mem_append_right _ h9)))))
  have hl := lv_entry ([.ref h0, .ref rl, .ref v]) (n := 8) (Nat.le_of_ble_eq_true rfl)
  rw [lg_entry_eq]
  generalize (lg_sl ([.ref h0, .ref rl, .ref v]) ++ List.replicate (8 - (lg_sl ([.ref h0, .ref rl, .ref v])).length) Slot.unset).toArray = ls at hl ⊢
  have hl : lv_has ls 8 [(0, .ref h0), (1, .ref rl), (2, .ref v)] := hl
  obtain ⟨k0, la, ta, ba, ra, sn, rd, dr, bl, vd, fb, e0, w0, hle0, hnum, qla, qta, qba, qra, qsn, qrd, qdr, qbl, qvd, qfb⟩ := id X
  obtain ⟨kvd, cvd, tvd, fvd, evd, uvd, wvd⟩ := id qvd
  refine lv_iconst (v := 0) hx hb dX8_verdict_0 (by decide) ?_
  refine lv_istore_n (lv' := [(3, .int 0), (0, .ref h0), (1, .ref rl), (2, .ref v)]) hx hb dX8_verdict_1 rfl hl (by decide) rfl (fun ls hl => ?_)
  refine lv_iconst (v := 0) hx hb dX8_verdict_2 (by decide) ?_
  refine lv_istore (lv' := [(4, .int 0), (3, .int 0), (0, .ref h0), (1, .ref rl), (2, .ref v)]) hx hb dX8_verdict_3 hl (by decide) rfl (fun ls hl => ?_)
  refine lp_V (nL := 8) (σ := Nat × Nat × (Nat → Int32) × (List Tk) × (List Nat)) (lv := fun x9 => [(4, .int (nI x9.1)), (3, .int (nI x9.2.1)), (2, .ref v), (1, .ref rl), (0, .ref h0)]) (μ := fun x9 => n - x9.1) (J := fun x9 ws9 => sm ρ [] ws ws9 ∧ (ws9[kvd]? = some (vd, .inl (cvd, 16, .inl x9.2.2.1))) ∧ (x9.1 ≤ n) ∧ (x9.2.2.2.1 = T9.drop x9.1) ∧ (wfT x9.2.2.2.1 x9.2.1 1) ∧ (x9.2.1 = x9.2.2.2.2.length) ∧ (stk nI x9.2.2.1 x9.2.2.2.2) ∧ (evS (tsv fv lc u9) x9.2.2.2.1 x9.2.2.2.2 = evS (tsv fv lc u9) T9 []) ∧ (x9.2.1 ≤ 16)) (fun x9 ws_14 H locs ls hj hP hD hS hl ih_1 => ?_) (0, 0, fvd, T9, []) ws _ _ ls ⟨sm.rf _, evd, (show 0 ≤ n from by omega), (show T9 = T9.drop 0 from rfl), (show wfT T9 0 1 from hwT9), (show 0 = ([]).length from rfl), (show stk nI fvd ([]) from trivial), (show evS (tsv fv lc u9) T9 ([]) = evS (tsv fv lc u9) T9 [] from rfl), (show 0 ≤ 16 from by omega)⟩ hP hD hS (lv_sub hl [0, 1, 4, 3, 2] rfl)
  obtain ⟨i_2, d_3, g_4, T2_5, S_6⟩ := x9
  replace hj : sm ρ [] ws ws_14 ∧ (ws_14[kvd]? = some (vd, .inl (cvd, 16, .inl g_4))) ∧ (i_2 ≤ n) ∧ (T2_5 = T9.drop i_2) ∧ (wfT T2_5 d_3 1) ∧ (d_3 = S_6.length) ∧ (stk nI g_4 S_6) ∧ (evS (tsv fv lc u9) T2_5 S_6 = evS (tsv fv lc u9) T9 []) ∧ (d_3 ≤ 16) := hj
  obtain ⟨hm_15, e_17, hi_7, hTd_8, hwt_9, hdS_10, hst_11, hev_12, hd_13⟩ := hj
  have e_18 := hm_15.objK e0 (by decide)
  obtain ⟨f_20, e_19⟩ := hm_15.arrI evd
  have e_21 := hm_15.keep hkv ev
  have e_22 := hm_15.keep hkg eg
  have e_23 := hm_15.objK erl (by decide)
  have e_24 := hm_15.keep hkcd ecd
  have hsm := hsm.tr (hm_15.mono (by decide))
  have hlp_16 := hm_15
  have hl : lv_has ls 8 [(4, .int (nI i_2)), (3, .int (nI d_3)), (2, .ref v), (1, .ref rl), (0, .ref h0)] := hl
  refine lv_iload hx hb dX8_verdict_5 (lv_at hl 0 rfl) ?_
  refine lv_aload_n hx hb dX8_verdict_7 rfl (lv_at hl 3 rfl) ?_
  refine va_get (D := D) (ci := 3) (v := .ref cd) (C := RX3) (T := TX3) (N := 5) hx hb hts hin3 hown hK hP krl e_23 rfl 2 (by decide) (hts (.fieldLink RX8 294 "HoneyHouse$Rule" "code" "[I") (List.mem_of_getElem? (i := 1) rfl)) (fun _ h9 => h9) rfl dX8_verdict_8 ?_
  refine va_alen (v := nI n) hx hb hK hP kcd tcd e_24 ucd rfl dX8_verdict_11 ?_
  refine lv_icmp_ge (tgt := 169) hx hb dX8_verdict_12 (by decide) (fun c_25 => ?_) (fun c_25 => ?_)
  · have d_26 := n_le (a := n) (b := i_2) (by omega) (by omega) c_25
    obtain rfl : T2_5 = [] := hTd_8.trans (List.drop_eq_nil_of_le (by omega))
    obtain ⟨he1, he2, he3⟩ := ev_end hwt_9 hdS_10 hst_11 hev_12
    refine lv_iload_n hx hb dX8_verdict_169 rfl (lv_at hl 1 rfl) ?_
    refine lv_if_le (tgt := 182) hx hb dX8_verdict_170 (by decide) (fun c_27 => absurd c_27 (nI_nle (n := d_3) (by omega) (by omega))) (fun c_27 => ?_)
    refine lv_aload_n hx hb dX8_verdict_173 rfl (lv_at hl 4 rfl) ?_
    refine va_get (D := D) (ci := 8) (v := .ref vd) (C := RX8) (T := TX8) (N := 15) hx hb hts hin8 hown hK hP k0 e_18 rfl 8 (by decide) (hts (.fieldLink RX8 58 "HoneyHouse" "verdicts" "[I") (List.mem_of_getElem? (i := 2) rfl)) (fun _ h9 => h9) rfl dX8_verdict_174 ?_
    refine lv_iconst (v := 0) hx hb dX8_verdict_177 (by decide) ?_
    refine va_iald (f := g_4) (n := 16) hx hb hK hP kvd tvd e_17 uvd (vp_in_iff.mpr (by decide)) dX8_verdict_178 ?_
    refine lv_goto (tgt := 183) hx hb dX8_verdict_179 (by decide) ?_
    exact W.iret (v := g_4 (0 : Int32).toNatClampNeg) hx hb hr (fun t ht hW => ⟨⟨g_4 (0 : Int32).toNatClampNeg, (), rfl, ⟨he1, he2⟩, ws_14, tys, hsm, htx, by rw [ht]; exact hP, va_K.moved hW.alike hK, hD, trivial⟩, hS.F ht⟩) hS.2.2 dX8_verdict_183
  have d_28 := n_nle (a := n) (b := i_2) (by omega) (by omega) c_25
  rcases vd_step hT9 hfT9 (by omega) hTd_8 hwt_9 with ⟨q_29, b_30, u_31, T3_32, eT_33, e0_34, hq_35, hb_36, hu_37, d16_38, hT3_39, hw_40⟩ | ⟨T3_32, eT_33, e0_34, hd_41, hT3_39, hw_40⟩ | ⟨T3_32, eT_33, e0_34, hd_41, hT3_39, hw_40⟩ | ⟨T3_32, eT_33, e0_34, hd_41, hT3_39, hw_40⟩
  · refine lv_aload_n hx hb dX8_verdict_15 rfl (lv_at hl 3 rfl) ?_
    refine va_get (D := D) (ci := 3) (v := .ref cd) (C := RX3) (T := TX3) (N := 5) hx hb hts hin3 hown hK hP krl e_23 rfl 2 (by decide) (hts (.fieldLink RX8 294 "HoneyHouse$Rule" "code" "[I") (List.mem_of_getElem? (i := 1) rfl)) (fun _ h9 => h9) rfl dX8_verdict_16 ?_
    refine lv_iload hx hb dX8_verdict_19 (lv_at hl 0 rfl) ?_
    refine va_iald (f := fcd) (n := n) hx hb hK hP kcd tcd e_24 ucd (vp_in_nI (n := i_2) (by omega) (by omega)) dX8_verdict_21 ?_
    refine tp_i (y := nI ((q_29 * 2 + b_30) * 1024 + u_31)) (by rw [nI_clamp (n := i_2) (by omega)]; exact e0_34) ?_
    refine lv_istore (lv' := [(5, .int (nI ((q_29 * 2 + b_30) * 1024 + u_31))), (4, .int (nI i_2)), (3, .int (nI d_3)), (2, .ref v), (1, .ref rl), (0, .ref h0)]) hx hb dX8_verdict_22 hl (by decide) rfl (fun ls hl => ?_)
    refine lv_iload hx hb dX8_verdict_24 (lv_at hl 0 rfl) ?_
    refine lv_if_lt (tgt := 57) hx hb dX8_verdict_26 (by decide) (fun c_42 => absurd c_42 (nI_pos (n := (q_29 * 2 + b_30) * 1024 + u_31) (by omega))) (fun c_42 => ?_)
    refine lv_iload_n hx hb dX8_verdict_29 rfl (lv_at hl 2 rfl) ?_
    refine lv_aload_n hx hb dX8_verdict_30 rfl (lv_at hl 5 rfl) ?_
    refine va_get (D := D) (ci := 8) (v := .ref vd) (C := RX8) (T := TX8) (N := 15) hx hb hts hin8 hown hK hP k0 e_18 rfl 8 (by decide) (hts (.fieldLink RX8 58 "HoneyHouse" "verdicts" "[I") (List.mem_of_getElem? (i := 2) rfl)) (fun _ h9 => h9) rfl dX8_verdict_31 ?_
    refine va_alen (v := 16) hx hb hK hP kvd tvd e_17 uvd rfl dX8_verdict_34 ?_
    refine lv_icmp_ge (tgt := 163) hx hb dX8_verdict_35 (by decide) (fun c_43 => absurd c_43 (nI_ge (a := d_3) (b := 16) (by omega) (by omega))) (fun c_43 => ?_)
    refine lv_aload_n hx hb dX8_verdict_38 rfl (lv_at hl 5 rfl) ?_
    refine va_get (D := D) (ci := 8) (v := .ref vd) (C := RX8) (T := TX8) (N := 15) hx hb hts hin8 hown hK hP k0 e_18 rfl 8 (by decide) (hts (.fieldLink RX8 58 "HoneyHouse" "verdicts" "[I") (List.mem_of_getElem? (i := 2) rfl)) (fun _ h9 => h9) rfl dX8_verdict_39 ?_
    refine lv_iload_n hx hb dX8_verdict_42 rfl (lv_at hl 2 rfl) ?_
    refine lv_aload_n hx hb dX8_verdict_43 rfl (lv_at hl 5 rfl) ?_
    refine lv_iload hx hb dX8_verdict_44 (lv_at hl 0 rfl) ?_
    refine lv_aload_n hx hb dX8_verdict_46 rfl (lv_at hl 3 rfl) ?_
    have hFc := free_all hD hS hA
    refine va_calli (va_runV (As := [.int (nI ((q_29 * 2 + b_30) * 1024 + u_31)), .ref v]) (rest := [.int (nI d_3), .ref vd]) ⟨hx, hb, hml, hown, hts⟩ (a_verdictOfTest l D ρ ws_14 tys fv h0 lc bc rc fc dn tl v kv vt vh vr vp g kg cg tg f q_29 b_30 u_31 u9 H.size (X.sm hsm htx (by decide) (by decide)) hkv hkg e_21 e_22 ug hq_35 hb_36 hu_37 hfr hvt9 hvh9) (cwV 2 hts gX8_verdict_X8_verdictOfTest rfl rfl rfl (by decide +kernel) ⟨Nat.le_of_ble_eq_true rfl, Nat.le_of_ble_eq_true rfl⟩) ⟨fun a U g mk q => by obtain ⟨q0, q1, qP, qK, qD, qZ⟩ := q; exact ⟨q0, q1, qP, va_K.moved (u := U) (U := U.calling g mk a) (Vm.Alike.refl U.vm) qK, qD, NZ.same rfl qZ⟩, va_recv hK hP (ci := 8) (q0 := k0) rfl e_18, fun U hU hW => ⟨rfl, by rw [hU], by rw [hU]; exact hP, va_K.moved hW.alike hK, hD.weaken (fun _ _ _ _ => trivial), NZ.warm hW hnz⟩⟩ rfl rfl hl.1 rfl (lv_room (Nat.le_of_ble_eq_true rfl)) dX8_verdict_47 ⟨Nat.le_of_ble_eq_true rfl, Nat.le_of_ble_eq_true rfl⟩) hS (fun q _ h => hFc q h) hFc (fun r_44 u t H1 locs ht hvm w_45 hB hz1 hk1 hS => ?_)
    obtain ⟨ws_46, ty_47, hm_48, ht_50, hP1, hK1, hD1, hx_49⟩ := hB
    rw [ht] at hP1
    have hK := va_K.moved hvm.symm hK1
    have hD := hD1.weaken (fun _ _ _ h => hFc _ h)
    generalize H1 = H at hP1 hS ⊢
    have hP := hP1
    obtain ⟨hx_49a, hx_49b⟩ := hx_49
    subst hx_49a
    subst hx_49b
    obtain rfl : r_44 = nI (tsv fv lc u9 (13, q_29, 9 + b_30, u_31)) := w_45
    refine va_iast (f := g_4) (n := 16) hx hb hK hP hD hS kvd tvd e_17 uvd (vp_in_nI (n := d_3) (by omega) (by omega)) dX8_verdict_50 (fun H locs hP hD hS => ?_)
    have hm_52 : sm ρ [] ws_14 (ws_14.set kvd (vd, .inl (cvd, 16, .inl (upd g_4 (nI d_3).toNatClampNeg (nI (tsv fv lc u9 (13, q_29, 9 + b_30, u_31))))))) := sm.ints e_17 wvd
    have e_53 : (ws_14.set kvd (vd, .inl (cvd, 16, .inl (upd g_4 (nI d_3).toNatClampNeg (nI (tsv fv lc u9 (13, q_29, 9 + b_30, u_31)))))))[kvd]? = some (vd, .inl (cvd, 16, .inl (upd g_4 (nI d_3).toNatClampNeg (nI (tsv fv lc u9 (13, q_29, 9 + b_30, u_31)))))) := wset_self e_17
    have e_54 := set_n (z := (vd, .inl (cvd, 16, .inl (upd g_4 (nI d_3).toNatClampNeg (nI (tsv fv lc u9 (13, q_29, 9 + b_30, u_31))))))) e_18 (pl_ne e_18 e_17 (by intro h9; simp at h9))
    have e_55 := set_n (z := (vd, .inl (cvd, 16, .inl (upd g_4 (nI d_3).toNatClampNeg (nI (tsv fv lc u9 (13, q_29, 9 + b_30, u_31))))))) e_21 (pl_ne e_21 e_17 (by intro h9; simp at h9))
    have e_56 := set_n (z := (vd, .inl (cvd, 16, .inl (upd g_4 (nI d_3).toNatClampNeg (nI (tsv fv lc u9 (13, q_29, 9 + b_30, u_31))))))) e_22 (pl_ne e_22 e_17 (by intro h9; simp at h9))
    have e_57 := set_n (z := (vd, .inl (cvd, 16, .inl (upd g_4 (nI d_3).toNatClampNeg (nI (tsv fv lc u9 (13, q_29, 9 + b_30, u_31))))))) e_23 (pl_ne e_23 e_17 (by intro h9; simp at h9))
    generalize ws_14.set kvd (vd, .inl (cvd, 16, .inl (upd g_4 (nI d_3).toNatClampNeg (nI (tsv fv lc u9 (13, q_29, 9 + b_30, u_31)))))) = ws_51 at hP hD hm_52 e_53 e_54 e_55 e_56 e_57
    have e_58 := hm_52.keep hkcd e_24
    have hsm := hsm.tr (hm_52.mono (fun _ h9 => absurd h9 List.not_mem_nil))
    have hlp_16 := hlp_16.tr (hm_52.mono (fun _ h9 => absurd h9 List.not_mem_nil))
    obtain ⟨f_59, hf_60⟩ : ∃ g9, g9 = upd g_4 (nI d_3).toNatClampNeg (nI (tsv fv lc u9 (13, q_29, 9 + b_30, u_31))) := ⟨_, rfl⟩
    rw [← hf_60] at e_53
    refine lv_iinc (v := nI (d_3 + 1)) (lv' := [(3, .int (nI (d_3 + 1))), (5, .int (nI ((q_29 * 2 + b_30) * 1024 + u_31))), (4, .int (nI i_2)), (2, .ref v), (1, .ref rl), (0, .ref h0)]) hx hb dX8_verdict_51 hl (k := 2) rfl (nI_add d_3 1) (by decide) rfl (fun ls hl => ?_)
    refine lv_goto (tgt := 163) hx hb dX8_verdict_54 (by decide) ?_
    refine lv_iinc (v := nI (i_2 + 1)) (lv' := [(4, .int (nI (i_2 + 1))), (3, .int (nI (d_3 + 1))), (5, .int (nI ((q_29 * 2 + b_30) * 1024 + u_31))), (2, .ref v), (1, .ref rl), (0, .ref h0)]) hx hb dX8_verdict_163 hl (k := 2) rfl (nI_add i_2 1) (by decide) rfl (fun ls hl => ?_)
    refine lv_goto (tgt := 5) hx hb dX8_verdict_166 (by decide) ?_
    exact ih_1 (i_2 + 1, d_3 + 1, f_59, T3_32, tsv fv lc u9 (13, q_29, 9 + b_30, u_31) :: S_6) ws_51 _ _ ls (by show n - (i_2 + 1) < n - i_2; omega) ⟨hlp_16, e_53, (show (i_2 + 1) ≤ n from by omega), (show T3_32 = T9.drop (i_2 + 1) from hT3_39), (show wfT T3_32 (d_3 + 1) 1 from hw_40), (show (d_3 + 1) = (tsv fv lc u9 (13, q_29, 9 + b_30, u_31) :: S_6).length from (by rw [List.length_cons]; omega)), (show stk nI f_59 (tsv fv lc u9 (13, q_29, 9 + b_30, u_31) :: S_6) from (by rw [hf_60, nI_clamp (n := d_3) (by omega)]; exact hst_11.push tsv_le hdS_10 rfl)), (show evS (tsv fv lc u9) T3_32 (tsv fv lc u9 (13, q_29, 9 + b_30, u_31) :: S_6) = evS (tsv fv lc u9) T9 [] from (by rw [← hev_12, eT_33]; rfl)), (show (d_3 + 1) ≤ 16 from by omega)⟩ hP hD hS (lv_sub hl [0, 1, 3, 4, 5] rfl)
  · refine lv_aload_n hx hb dX8_verdict_15 rfl (lv_at hl 3 rfl) ?_
    refine va_get (D := D) (ci := 3) (v := .ref cd) (C := RX3) (T := TX3) (N := 5) hx hb hts hin3 hown hK hP krl e_23 rfl 2 (by decide) (hts (.fieldLink RX8 294 "HoneyHouse$Rule" "code" "[I") (List.mem_of_getElem? (i := 1) rfl)) (fun _ h9 => h9) rfl dX8_verdict_16 ?_
    refine lv_iload hx hb dX8_verdict_19 (lv_at hl 0 rfl) ?_
    refine va_iald (f := fcd) (n := n) hx hb hK hP kcd tcd e_24 ucd (vp_in_nI (n := i_2) (by omega) (by omega)) dX8_verdict_21 ?_
    refine tp_i (y := (-1)) (by rw [nI_clamp (n := i_2) (by omega)]; exact e0_34) ?_
    refine lv_istore (lv' := [(5, .int (-1)), (4, .int (nI i_2)), (3, .int (nI d_3)), (2, .ref v), (1, .ref rl), (0, .ref h0)]) hx hb dX8_verdict_22 hl (by decide) rfl (fun ls hl => ?_)
    refine lv_iload hx hb dX8_verdict_24 (lv_at hl 0 rfl) ?_
    refine lv_if_lt (tgt := 57) hx hb dX8_verdict_26 (by decide) (fun c_61 => ?_) (fun c_61 => absurd (by decide) c_61)
    refine lv_iload hx hb dX8_verdict_57 (lv_at hl 0 rfl) ?_
    refine lv_iconst (v := (-1)) hx hb dX8_verdict_59 (by decide) ?_
    refine lv_icmp_ne (tgt := 97) hx hb dX8_verdict_60 (by decide) (fun c_62 => absurd (by decide) c_62) (fun c_62 => ?_)
    refine lv_iload_n hx hb dX8_verdict_63 rfl (lv_at hl 2 rfl) ?_
    refine lv_iconst (v := 1) hx hb dX8_verdict_64 (by decide) ?_
    refine lv_aload_n hx hb dX8_verdict_65 rfl (lv_at hl 5 rfl) ?_
    refine va_get (D := D) (ci := 8) (v := .ref vd) (C := RX8) (T := TX8) (N := 15) hx hb hts hin8 hown hK hP k0 e_18 rfl 8 (by decide) (hts (.fieldLink RX8 58 "HoneyHouse" "verdicts" "[I") (List.mem_of_getElem? (i := 2) rfl)) (fun _ h9 => h9) rfl dX8_verdict_66 ?_
    refine va_alen (v := 16) hx hb hK hP kvd tvd e_17 uvd rfl dX8_verdict_69 ?_
    refine vp_callSi (W.runS (As := [.int (nI d_3), .int 1, .int 16]) (rest := []) ⟨hx, hb, hml, hown, hts⟩ (s_X8_isIn l (nI d_3) 1 16) (va_cwS 3 hts gX8_verdict_X8_isIn rfl rfl rfl (by decide +kernel) ⟨Nat.le_of_ble_eq_true rfl, Nat.le_of_ble_eq_true rfl⟩) ⟨fun a U g mk q => q, fun U hU hW => ⟨rfl, trivial⟩⟩ rfl rfl hl.1 rfl (lv_room (Nat.le_of_ble_eq_true rfl)) dX8_verdict_70 ⟨Nat.le_of_ble_eq_true rfl, Nat.le_of_ble_eq_true rfl⟩) (fun r_63 k_64 => ?_)
    obtain rfl : r_63 = 1 := by rcases k_64 with ⟨-, h9⟩ | ⟨h9, -⟩; exact absurd h9 (in_no (d := d_3) (k := 1) (by omega) (by omega)); exact h9
    refine lv_if_eq (tgt := 163) hx hb dX8_verdict_73 (by decide) (fun c_65 => absurd c_65 (by decide)) (fun c_65 => ?_)
    obtain ⟨x_66, s_67, eS_68, el_69, hx_70, ef_71, hs_72⟩ := hst_11.pop hdS_10 (by omega)
    refine lv_aload_n hx hb dX8_verdict_76 rfl (lv_at hl 5 rfl) ?_
    refine va_get (D := D) (ci := 8) (v := .ref vd) (C := RX8) (T := TX8) (N := 15) hx hb hts hin8 hown hK hP k0 e_18 rfl 8 (by decide) (hts (.fieldLink RX8 58 "HoneyHouse" "verdicts" "[I") (List.mem_of_getElem? (i := 2) rfl)) (fun _ h9 => h9) rfl dX8_verdict_77 ?_
    refine lv_iload_n hx hb dX8_verdict_80 rfl (lv_at hl 2 rfl) ?_
    refine lv_iconst (v := 1) hx hb dX8_verdict_81 (by decide) ?_
    refine lv_isub hx hb dX8_verdict_82 ?_
    refine tp_i (y := nI (d_3 - 1)) (pk_sub (a := d_3) (b := 1) (by omega)) ?_
    refine lv_iconst (v := 2) hx hb dX8_verdict_83 (by decide) ?_
    refine lv_aload_n hx hb dX8_verdict_84 rfl (lv_at hl 5 rfl) ?_
    refine va_get (D := D) (ci := 8) (v := .ref vd) (C := RX8) (T := TX8) (N := 15) hx hb hts hin8 hown hK hP k0 e_18 rfl 8 (by decide) (hts (.fieldLink RX8 58 "HoneyHouse" "verdicts" "[I") (List.mem_of_getElem? (i := 2) rfl)) (fun _ h9 => h9) rfl dX8_verdict_85 ?_
    refine lv_iload_n hx hb dX8_verdict_88 rfl (lv_at hl 2 rfl) ?_
    refine lv_iconst (v := 1) hx hb dX8_verdict_89 (by decide) ?_
    refine lv_isub hx hb dX8_verdict_90 ?_
    refine tp_i (y := nI (d_3 - 1)) (pk_sub (a := d_3) (b := 1) (by omega)) ?_
    refine va_iald (f := g_4) (n := 16) hx hb hK hP kvd tvd e_17 uvd (vp_in_nI (n := d_3 - 1) (by omega) (by omega)) dX8_verdict_91 ?_
    refine tp_i (y := nI x_66) (by rw [nI_clamp (n := d_3 - 1) (by omega)]; exact ef_71) ?_
    refine lv_isub hx hb dX8_verdict_92 ?_
    refine tp_i (y := nI (2 - x_66)) (pk_sub (a := 2) (b := x_66) (by omega)) ?_
    refine va_iast (f := g_4) (n := 16) hx hb hK hP hD hS kvd tvd e_17 uvd (vp_in_nI (n := d_3 - 1) (by omega) (by omega)) dX8_verdict_93 (fun H locs hP hD hS => ?_)
    have hm_74 : sm ρ [] ws_14 (ws_14.set kvd (vd, .inl (cvd, 16, .inl (upd g_4 (nI (d_3 - 1)).toNatClampNeg (nI (2 - x_66)))))) := sm.ints e_17 wvd
    have e_75 : (ws_14.set kvd (vd, .inl (cvd, 16, .inl (upd g_4 (nI (d_3 - 1)).toNatClampNeg (nI (2 - x_66))))))[kvd]? = some (vd, .inl (cvd, 16, .inl (upd g_4 (nI (d_3 - 1)).toNatClampNeg (nI (2 - x_66))))) := wset_self e_17
    have e_76 := set_n (z := (vd, .inl (cvd, 16, .inl (upd g_4 (nI (d_3 - 1)).toNatClampNeg (nI (2 - x_66)))))) e_18 (pl_ne e_18 e_17 (by intro h9; simp at h9))
    have e_77 := set_n (z := (vd, .inl (cvd, 16, .inl (upd g_4 (nI (d_3 - 1)).toNatClampNeg (nI (2 - x_66)))))) e_21 (pl_ne e_21 e_17 (by intro h9; simp at h9))
    have e_78 := set_n (z := (vd, .inl (cvd, 16, .inl (upd g_4 (nI (d_3 - 1)).toNatClampNeg (nI (2 - x_66)))))) e_22 (pl_ne e_22 e_17 (by intro h9; simp at h9))
    have e_79 := set_n (z := (vd, .inl (cvd, 16, .inl (upd g_4 (nI (d_3 - 1)).toNatClampNeg (nI (2 - x_66)))))) e_23 (pl_ne e_23 e_17 (by intro h9; simp at h9))
    generalize ws_14.set kvd (vd, .inl (cvd, 16, .inl (upd g_4 (nI (d_3 - 1)).toNatClampNeg (nI (2 - x_66))))) = ws_73 at hP hD hm_74 e_75 e_76 e_77 e_78 e_79
    have e_80 := hm_74.keep hkcd e_24
    have hsm := hsm.tr (hm_74.mono (fun _ h9 => absurd h9 List.not_mem_nil))
    have hlp_16 := hlp_16.tr (hm_74.mono (fun _ h9 => absurd h9 List.not_mem_nil))
    obtain ⟨f_81, hf_82⟩ : ∃ g9, g9 = upd g_4 (nI (d_3 - 1)).toNatClampNeg (nI (2 - x_66)) := ⟨_, rfl⟩
    rw [← hf_82] at e_75
    refine lv_goto (tgt := 163) hx hb dX8_verdict_94 (by decide) ?_
    refine lv_iinc (v := nI (i_2 + 1)) (lv' := [(4, .int (nI (i_2 + 1))), (5, .int (-1)), (3, .int (nI d_3)), (2, .ref v), (1, .ref rl), (0, .ref h0)]) hx hb dX8_verdict_163 hl (k := 1) rfl (nI_add i_2 1) (by decide) rfl (fun ls hl => ?_)
    refine lv_goto (tgt := 5) hx hb dX8_verdict_166 (by decide) ?_
    exact ih_1 (i_2 + 1, d_3, f_81, T3_32, (2 - x_66) :: s_67) ws_73 _ _ ls (by show n - (i_2 + 1) < n - i_2; omega) ⟨hlp_16, e_75, (show (i_2 + 1) ≤ n from by omega), (show T3_32 = T9.drop (i_2 + 1) from hT3_39), (show wfT T3_32 d_3 1 from hw_40), (show d_3 = ((2 - x_66) :: s_67).length from (by rw [List.length_cons]; omega)), (show stk nI f_81 ((2 - x_66) :: s_67) from (by rw [hf_82, nI_clamp (n := d_3 - 1) (by omega)]; exact hs_72.push (x := 2 - x_66) (by omega) (by omega) rfl)), (show evS (tsv fv lc u9) T3_32 ((2 - x_66) :: s_67) = evS (tsv fv lc u9) T9 [] from (by rw [← hev_12, eT_33, eS_68]; rfl)), (show d_3 ≤ 16 from by omega)⟩ hP hD hS (lv_sub hl [0, 2, 3, 4, 5] rfl)
  · refine lv_aload_n hx hb dX8_verdict_15 rfl (lv_at hl 3 rfl) ?_
    refine va_get (D := D) (ci := 3) (v := .ref cd) (C := RX3) (T := TX3) (N := 5) hx hb hts hin3 hown hK hP krl e_23 rfl 2 (by decide) (hts (.fieldLink RX8 294 "HoneyHouse$Rule" "code" "[I") (List.mem_of_getElem? (i := 1) rfl)) (fun _ h9 => h9) rfl dX8_verdict_16 ?_
    refine lv_iload hx hb dX8_verdict_19 (lv_at hl 0 rfl) ?_
    refine va_iald (f := fcd) (n := n) hx hb hK hP kcd tcd e_24 ucd (vp_in_nI (n := i_2) (by omega) (by omega)) dX8_verdict_21 ?_
    refine tp_i (y := (-3)) (by rw [nI_clamp (n := i_2) (by omega)]; exact e0_34) ?_
    refine lv_istore (lv' := [(5, .int (-3)), (4, .int (nI i_2)), (3, .int (nI d_3)), (2, .ref v), (1, .ref rl), (0, .ref h0)]) hx hb dX8_verdict_22 hl (by decide) rfl (fun ls hl => ?_)
    refine lv_iload hx hb dX8_verdict_24 (lv_at hl 0 rfl) ?_
    refine lv_if_lt (tgt := 57) hx hb dX8_verdict_26 (by decide) (fun c_83 => ?_) (fun c_83 => absurd (by decide) c_83)
    refine lv_iload hx hb dX8_verdict_57 (lv_at hl 0 rfl) ?_
    refine lv_iconst (v := (-1)) hx hb dX8_verdict_59 (by decide) ?_
    refine lv_icmp_ne (tgt := 97) hx hb dX8_verdict_60 (by decide) (fun c_84 => ?_) (fun c_84 => absurd c_84 (by decide))
    refine lv_iload_n hx hb dX8_verdict_97 rfl (lv_at hl 2 rfl) ?_
    refine lv_iconst (v := 2) hx hb dX8_verdict_98 (by decide) ?_
    refine lv_aload_n hx hb dX8_verdict_99 rfl (lv_at hl 5 rfl) ?_
    refine va_get (D := D) (ci := 8) (v := .ref vd) (C := RX8) (T := TX8) (N := 15) hx hb hts hin8 hown hK hP k0 e_18 rfl 8 (by decide) (hts (.fieldLink RX8 58 "HoneyHouse" "verdicts" "[I") (List.mem_of_getElem? (i := 2) rfl)) (fun _ h9 => h9) rfl dX8_verdict_100 ?_
    refine va_alen (v := 16) hx hb hK hP kvd tvd e_17 uvd rfl dX8_verdict_103 ?_
    refine vp_callSi (W.runS (As := [.int (nI d_3), .int 2, .int 16]) (rest := []) ⟨hx, hb, hml, hown, hts⟩ (s_X8_isIn l (nI d_3) 2 16) (va_cwS 3 hts gX8_verdict_X8_isIn rfl rfl rfl (by decide +kernel) ⟨Nat.le_of_ble_eq_true rfl, Nat.le_of_ble_eq_true rfl⟩) ⟨fun a U g mk q => q, fun U hU hW => ⟨rfl, trivial⟩⟩ rfl rfl hl.1 rfl (lv_room (Nat.le_of_ble_eq_true rfl)) dX8_verdict_104 ⟨Nat.le_of_ble_eq_true rfl, Nat.le_of_ble_eq_true rfl⟩) (fun r_85 k_86 => ?_)
    obtain rfl : r_85 = 1 := by rcases k_86 with ⟨-, h9⟩ | ⟨h9, -⟩; exact absurd h9 (in_no (d := d_3) (k := 2) (by omega) (by omega)); exact h9
    refine lv_if_eq (tgt := 163) hx hb dX8_verdict_107 (by decide) (fun c_87 => absurd c_87 (by decide)) (fun c_87 => ?_)
    obtain ⟨y_88, x_89, s_90, eS_91, el_92, hy_93, hx_94, fy_95, fx_96, hs_97⟩ := hst_11.pop2 hdS_10 (by omega)
    refine lv_iinc (v := nI (d_3 - 1)) (lv' := [(3, .int (nI (d_3 - 1))), (5, .int (-3)), (4, .int (nI i_2)), (2, .ref v), (1, .ref rl), (0, .ref h0)]) hx hb dX8_verdict_110 hl (k := 2) rfl (sb_m1 (by omega)) (by decide) rfl (fun ls hl => ?_)
    refine lv_aload_n hx hb dX8_verdict_113 rfl (lv_at hl 5 rfl) ?_
    refine va_get (D := D) (ci := 8) (v := .ref vd) (C := RX8) (T := TX8) (N := 15) hx hb hts hin8 hown hK hP k0 e_18 rfl 8 (by decide) (hts (.fieldLink RX8 58 "HoneyHouse" "verdicts" "[I") (List.mem_of_getElem? (i := 2) rfl)) (fun _ h9 => h9) rfl dX8_verdict_114 ?_
    refine lv_iload_n hx hb dX8_verdict_117 rfl (lv_at hl 0 rfl) ?_
    refine lv_iconst (v := 1) hx hb dX8_verdict_118 (by decide) ?_
    refine lv_isub hx hb dX8_verdict_119 ?_
    refine tp_i (y := nI ((d_3 - 1) - 1)) (pk_sub (a := d_3 - 1) (b := 1) (by omega)) ?_
    refine va_iald (f := g_4) (n := 16) hx hb hK hP kvd tvd e_17 uvd (vp_in_nI (n := (d_3 - 1) - 1) (by omega) (by omega)) dX8_verdict_120 ?_
    refine tp_i (y := nI x_89) (by rw [nI_clamp (n := d_3 - 1 - 1) (by omega), show d_3 - 1 - 1 = d_3 - 2 by omega]; exact fx_96) ?_
    refine lv_istore (lv' := [(6, .int (nI x_89)), (3, .int (nI (d_3 - 1))), (5, .int (-3)), (4, .int (nI i_2)), (2, .ref v), (1, .ref rl), (0, .ref h0)]) hx hb dX8_verdict_121 hl (by decide) rfl (fun ls hl => ?_)
    refine lv_aload_n hx hb dX8_verdict_123 rfl (lv_at hl 6 rfl) ?_
    refine va_get (D := D) (ci := 8) (v := .ref vd) (C := RX8) (T := TX8) (N := 15) hx hb hts hin8 hown hK hP k0 e_18 rfl 8 (by decide) (hts (.fieldLink RX8 58 "HoneyHouse" "verdicts" "[I") (List.mem_of_getElem? (i := 2) rfl)) (fun _ h9 => h9) rfl dX8_verdict_124 ?_
    refine lv_iload_n hx hb dX8_verdict_127 rfl (lv_at hl 1 rfl) ?_
    refine va_iald (f := g_4) (n := 16) hx hb hK hP kvd tvd e_17 uvd (vp_in_nI (n := d_3 - 1) (by omega) (by omega)) dX8_verdict_128 ?_
    refine tp_i (y := nI y_88) (by rw [nI_clamp (n := d_3 - 1) (by omega)]; exact fy_95) ?_
    refine lv_istore (lv' := [(7, .int (nI y_88)), (6, .int (nI x_89)), (3, .int (nI (d_3 - 1))), (5, .int (-3)), (4, .int (nI i_2)), (2, .ref v), (1, .ref rl), (0, .ref h0)]) hx hb dX8_verdict_129 hl (by decide) rfl (fun ls hl => ?_)
    refine lv_aload_n hx hb dX8_verdict_131 rfl (lv_at hl 7 rfl) ?_
    refine va_get (D := D) (ci := 8) (v := .ref vd) (C := RX8) (T := TX8) (N := 15) hx hb hts hin8 hown hK hP k0 e_18 rfl 8 (by decide) (hts (.fieldLink RX8 58 "HoneyHouse" "verdicts" "[I") (List.mem_of_getElem? (i := 2) rfl)) (fun _ h9 => h9) rfl dX8_verdict_132 ?_
    refine lv_iload_n hx hb dX8_verdict_135 rfl (lv_at hl 2 rfl) ?_
    refine lv_iconst (v := 1) hx hb dX8_verdict_136 (by decide) ?_
    refine lv_isub hx hb dX8_verdict_137 ?_
    refine tp_i (y := nI ((d_3 - 1) - 1)) (pk_sub (a := d_3 - 1) (b := 1) (by omega)) ?_
    refine lv_iload hx hb dX8_verdict_138 (lv_at hl 3 rfl) ?_
    refine lv_bipush (v := (-2)) hx hb dX8_verdict_140 (by decide) ?_
    refine lv_icmp_ne (tgt := 155) hx hb dX8_verdict_142 (by decide) (fun c_98 => ?_) (fun c_98 => absurd c_98 (by decide))
    refine lv_iload hx hb dX8_verdict_155 (lv_at hl 1 rfl) ?_
    refine lv_iload hx hb dX8_verdict_157 (lv_at hl 0 rfl) ?_
    refine va_mmax hx hb (by rw [hml]; exact hl.1.symm) hown (hts (.methodLink RX8 306 Lib.Math.max.name) (List.mem_of_getElem? (i := 7) rfl)) (hts (.static Lib.Math.max.name) (List.mem_of_getElem? (i := 8) rfl)) (hts (.initialized "java/lang/Math") (List.mem_of_getElem? (i := 5) rfl)) (hts (.code Lib.Math.max.name Lib.Math.max.code 2 (some .int)) (List.mem_of_getElem? (i := 9) rfl)) (Nat.le_of_ble_eq_true rfl) (Nat.le_of_ble_eq_true rfl) (Nat.le_of_ble_eq_true rfl) (Nat.le_of_ble_eq_true rfl) dX8_verdict_159 ?_
    refine lv_topi (fun z_99 hz_100 => ?_)
    obtain rfl : z_99 = if nI x_89 < nI y_88 then nI y_88 else nI x_89 := hz_100
    refine tp_i (y := nI (max x_89 y_88)) (mx_n hx_94 hy_93) ?_
    refine va_iast (f := g_4) (n := 16) hx hb hK hP hD hS kvd tvd e_17 uvd (vp_in_nI (n := (d_3 - 1) - 1) (by omega) (by omega)) dX8_verdict_162 (fun H locs hP hD hS => ?_)
    have hm_102 : sm ρ [] ws_14 (ws_14.set kvd (vd, .inl (cvd, 16, .inl (upd g_4 (nI ((d_3 - 1) - 1)).toNatClampNeg (nI (max x_89 y_88)))))) := sm.ints e_17 wvd
    have e_103 : (ws_14.set kvd (vd, .inl (cvd, 16, .inl (upd g_4 (nI ((d_3 - 1) - 1)).toNatClampNeg (nI (max x_89 y_88))))))[kvd]? = some (vd, .inl (cvd, 16, .inl (upd g_4 (nI ((d_3 - 1) - 1)).toNatClampNeg (nI (max x_89 y_88))))) := wset_self e_17
    have e_104 := set_n (z := (vd, .inl (cvd, 16, .inl (upd g_4 (nI ((d_3 - 1) - 1)).toNatClampNeg (nI (max x_89 y_88)))))) e_18 (pl_ne e_18 e_17 (by intro h9; simp at h9))
    have e_105 := set_n (z := (vd, .inl (cvd, 16, .inl (upd g_4 (nI ((d_3 - 1) - 1)).toNatClampNeg (nI (max x_89 y_88)))))) e_21 (pl_ne e_21 e_17 (by intro h9; simp at h9))
    have e_106 := set_n (z := (vd, .inl (cvd, 16, .inl (upd g_4 (nI ((d_3 - 1) - 1)).toNatClampNeg (nI (max x_89 y_88)))))) e_22 (pl_ne e_22 e_17 (by intro h9; simp at h9))
    have e_107 := set_n (z := (vd, .inl (cvd, 16, .inl (upd g_4 (nI ((d_3 - 1) - 1)).toNatClampNeg (nI (max x_89 y_88)))))) e_23 (pl_ne e_23 e_17 (by intro h9; simp at h9))
    generalize ws_14.set kvd (vd, .inl (cvd, 16, .inl (upd g_4 (nI ((d_3 - 1) - 1)).toNatClampNeg (nI (max x_89 y_88))))) = ws_101 at hP hD hm_102 e_103 e_104 e_105 e_106 e_107
    have e_108 := hm_102.keep hkcd e_24
    have hsm := hsm.tr (hm_102.mono (fun _ h9 => absurd h9 List.not_mem_nil))
    have hlp_16 := hlp_16.tr (hm_102.mono (fun _ h9 => absurd h9 List.not_mem_nil))
    obtain ⟨f_109, hf_110⟩ : ∃ g9, g9 = upd g_4 (nI ((d_3 - 1) - 1)).toNatClampNeg (nI (max x_89 y_88)) := ⟨_, rfl⟩
    rw [← hf_110] at e_103
    refine lv_iinc (v := nI (i_2 + 1)) (lv' := [(4, .int (nI (i_2 + 1))), (7, .int (nI y_88)), (6, .int (nI x_89)), (3, .int (nI (d_3 - 1))), (5, .int (-3)), (2, .ref v), (1, .ref rl), (0, .ref h0)]) hx hb dX8_verdict_163 hl (k := 4) rfl (nI_add i_2 1) (by decide) rfl (fun ls hl => ?_)
    refine lv_goto (tgt := 5) hx hb dX8_verdict_166 (by decide) ?_
    exact ih_1 (i_2 + 1, d_3 - 1, f_109, T3_32, max x_89 y_88 :: s_90) ws_101 _ _ ls (by show n - (i_2 + 1) < n - i_2; omega) ⟨hlp_16, e_103, (show (i_2 + 1) ≤ n from by omega), (show T3_32 = T9.drop (i_2 + 1) from hT3_39), (show wfT T3_32 (d_3 - 1) 1 from hw_40), (show (d_3 - 1) = (max x_89 y_88 :: s_90).length from (by rw [List.length_cons]; omega)), (show stk nI f_109 (max x_89 y_88 :: s_90) from (by rw [hf_110, nI_clamp (n := (d_3 - 1) - 1) (by omega)]; exact hs_97.push (by omega) (by omega) rfl)), (show evS (tsv fv lc u9) T3_32 (max x_89 y_88 :: s_90) = evS (tsv fv lc u9) T9 [] from (by rw [← hev_12, eT_33, eS_91]; rfl)), (show (d_3 - 1) ≤ 16 from by omega)⟩ hP hD hS (lv_sub hl [0, 3, 5, 6, 7] rfl)
  refine lv_aload_n hx hb dX8_verdict_15 rfl (lv_at hl 3 rfl) ?_
  refine va_get (D := D) (ci := 3) (v := .ref cd) (C := RX3) (T := TX3) (N := 5) hx hb hts hin3 hown hK hP krl e_23 rfl 2 (by decide) (hts (.fieldLink RX8 294 "HoneyHouse$Rule" "code" "[I") (List.mem_of_getElem? (i := 1) rfl)) (fun _ h9 => h9) rfl dX8_verdict_16 ?_
  refine lv_iload hx hb dX8_verdict_19 (lv_at hl 0 rfl) ?_
  refine va_iald (f := fcd) (n := n) hx hb hK hP kcd tcd e_24 ucd (vp_in_nI (n := i_2) (by omega) (by omega)) dX8_verdict_21 ?_
  refine tp_i (y := (-2)) (by rw [nI_clamp (n := i_2) (by omega)]; exact e0_34) ?_
  refine lv_istore (lv' := [(5, .int (-2)), (4, .int (nI i_2)), (3, .int (nI d_3)), (2, .ref v), (1, .ref rl), (0, .ref h0)]) hx hb dX8_verdict_22 hl (by decide) rfl (fun ls hl => ?_)
  refine lv_iload hx hb dX8_verdict_24 (lv_at hl 0 rfl) ?_
  refine lv_if_lt (tgt := 57) hx hb dX8_verdict_26 (by decide) (fun c_111 => ?_) (fun c_111 => absurd (by decide) c_111)
  refine lv_iload hx hb dX8_verdict_57 (lv_at hl 0 rfl) ?_
  refine lv_iconst (v := (-1)) hx hb dX8_verdict_59 (by decide) ?_
  refine lv_icmp_ne (tgt := 97) hx hb dX8_verdict_60 (by decide) (fun c_112 => ?_) (fun c_112 => absurd c_112 (by decide))
  refine lv_iload_n hx hb dX8_verdict_97 rfl (lv_at hl 2 rfl) ?_
  refine lv_iconst (v := 2) hx hb dX8_verdict_98 (by decide) ?_
  refine lv_aload_n hx hb dX8_verdict_99 rfl (lv_at hl 5 rfl) ?_
  refine va_get (D := D) (ci := 8) (v := .ref vd) (C := RX8) (T := TX8) (N := 15) hx hb hts hin8 hown hK hP k0 e_18 rfl 8 (by decide) (hts (.fieldLink RX8 58 "HoneyHouse" "verdicts" "[I") (List.mem_of_getElem? (i := 2) rfl)) (fun _ h9 => h9) rfl dX8_verdict_100 ?_
  refine va_alen (v := 16) hx hb hK hP kvd tvd e_17 uvd rfl dX8_verdict_103 ?_
  refine vp_callSi (W.runS (As := [.int (nI d_3), .int 2, .int 16]) (rest := []) ⟨hx, hb, hml, hown, hts⟩ (s_X8_isIn l (nI d_3) 2 16) (va_cwS 3 hts gX8_verdict_X8_isIn rfl rfl rfl (by decide +kernel) ⟨Nat.le_of_ble_eq_true rfl, Nat.le_of_ble_eq_true rfl⟩) ⟨fun a U g mk q => q, fun U hU hW => ⟨rfl, trivial⟩⟩ rfl rfl hl.1 rfl (lv_room (Nat.le_of_ble_eq_true rfl)) dX8_verdict_104 ⟨Nat.le_of_ble_eq_true rfl, Nat.le_of_ble_eq_true rfl⟩) (fun r_113 k_114 => ?_)
  obtain rfl : r_113 = 1 := by rcases k_114 with ⟨-, h9⟩ | ⟨h9, -⟩; exact absurd h9 (in_no (d := d_3) (k := 2) (by omega) (by omega)); exact h9
  refine lv_if_eq (tgt := 163) hx hb dX8_verdict_107 (by decide) (fun c_115 => absurd c_115 (by decide)) (fun c_115 => ?_)
  obtain ⟨y_116, x_117, s_118, eS_119, el_120, hy_121, hx_122, fy_123, fx_124, hs_125⟩ := hst_11.pop2 hdS_10 (by omega)
  refine lv_iinc (v := nI (d_3 - 1)) (lv' := [(3, .int (nI (d_3 - 1))), (5, .int (-2)), (4, .int (nI i_2)), (2, .ref v), (1, .ref rl), (0, .ref h0)]) hx hb dX8_verdict_110 hl (k := 2) rfl (sb_m1 (by omega)) (by decide) rfl (fun ls hl => ?_)
  refine lv_aload_n hx hb dX8_verdict_113 rfl (lv_at hl 5 rfl) ?_
  refine va_get (D := D) (ci := 8) (v := .ref vd) (C := RX8) (T := TX8) (N := 15) hx hb hts hin8 hown hK hP k0 e_18 rfl 8 (by decide) (hts (.fieldLink RX8 58 "HoneyHouse" "verdicts" "[I") (List.mem_of_getElem? (i := 2) rfl)) (fun _ h9 => h9) rfl dX8_verdict_114 ?_
  refine lv_iload_n hx hb dX8_verdict_117 rfl (lv_at hl 0 rfl) ?_
  refine lv_iconst (v := 1) hx hb dX8_verdict_118 (by decide) ?_
  refine lv_isub hx hb dX8_verdict_119 ?_
  refine tp_i (y := nI ((d_3 - 1) - 1)) (pk_sub (a := d_3 - 1) (b := 1) (by omega)) ?_
  refine va_iald (f := g_4) (n := 16) hx hb hK hP kvd tvd e_17 uvd (vp_in_nI (n := (d_3 - 1) - 1) (by omega) (by omega)) dX8_verdict_120 ?_
  refine tp_i (y := nI x_117) (by rw [nI_clamp (n := d_3 - 1 - 1) (by omega), show d_3 - 1 - 1 = d_3 - 2 by omega]; exact fx_124) ?_
  refine lv_istore (lv' := [(6, .int (nI x_117)), (3, .int (nI (d_3 - 1))), (5, .int (-2)), (4, .int (nI i_2)), (2, .ref v), (1, .ref rl), (0, .ref h0)]) hx hb dX8_verdict_121 hl (by decide) rfl (fun ls hl => ?_)
  refine lv_aload_n hx hb dX8_verdict_123 rfl (lv_at hl 6 rfl) ?_
  refine va_get (D := D) (ci := 8) (v := .ref vd) (C := RX8) (T := TX8) (N := 15) hx hb hts hin8 hown hK hP k0 e_18 rfl 8 (by decide) (hts (.fieldLink RX8 58 "HoneyHouse" "verdicts" "[I") (List.mem_of_getElem? (i := 2) rfl)) (fun _ h9 => h9) rfl dX8_verdict_124 ?_
  refine lv_iload_n hx hb dX8_verdict_127 rfl (lv_at hl 1 rfl) ?_
  refine va_iald (f := g_4) (n := 16) hx hb hK hP kvd tvd e_17 uvd (vp_in_nI (n := d_3 - 1) (by omega) (by omega)) dX8_verdict_128 ?_
  refine tp_i (y := nI y_116) (by rw [nI_clamp (n := d_3 - 1) (by omega)]; exact fy_123) ?_
  refine lv_istore (lv' := [(7, .int (nI y_116)), (6, .int (nI x_117)), (3, .int (nI (d_3 - 1))), (5, .int (-2)), (4, .int (nI i_2)), (2, .ref v), (1, .ref rl), (0, .ref h0)]) hx hb dX8_verdict_129 hl (by decide) rfl (fun ls hl => ?_)
  refine lv_aload_n hx hb dX8_verdict_131 rfl (lv_at hl 7 rfl) ?_
  refine va_get (D := D) (ci := 8) (v := .ref vd) (C := RX8) (T := TX8) (N := 15) hx hb hts hin8 hown hK hP k0 e_18 rfl 8 (by decide) (hts (.fieldLink RX8 58 "HoneyHouse" "verdicts" "[I") (List.mem_of_getElem? (i := 2) rfl)) (fun _ h9 => h9) rfl dX8_verdict_132 ?_
  refine lv_iload_n hx hb dX8_verdict_135 rfl (lv_at hl 2 rfl) ?_
  refine lv_iconst (v := 1) hx hb dX8_verdict_136 (by decide) ?_
  refine lv_isub hx hb dX8_verdict_137 ?_
  refine tp_i (y := nI ((d_3 - 1) - 1)) (pk_sub (a := d_3 - 1) (b := 1) (by omega)) ?_
  refine lv_iload hx hb dX8_verdict_138 (lv_at hl 3 rfl) ?_
  refine lv_bipush (v := (-2)) hx hb dX8_verdict_140 (by decide) ?_
  refine lv_icmp_ne (tgt := 155) hx hb dX8_verdict_142 (by decide) (fun c_126 => absurd (by decide) c_126) (fun c_126 => ?_)
  refine lv_iload hx hb dX8_verdict_145 (lv_at hl 1 rfl) ?_
  refine lv_iload hx hb dX8_verdict_147 (lv_at hl 0 rfl) ?_
  refine va_mmin hx hb (by rw [hml]; exact hl.1.symm) hown (hts (.methodLink RX8 301 Lib.Math.min.name) (List.mem_of_getElem? (i := 3) rfl)) (hts (.static Lib.Math.min.name) (List.mem_of_getElem? (i := 4) rfl)) (hts (.initialized "java/lang/Math") (List.mem_of_getElem? (i := 5) rfl)) (hts (.code Lib.Math.min.name Lib.Math.min.code 2 (some .int)) (List.mem_of_getElem? (i := 6) rfl)) (Nat.le_of_ble_eq_true rfl) (Nat.le_of_ble_eq_true rfl) (Nat.le_of_ble_eq_true rfl) (Nat.le_of_ble_eq_true rfl) dX8_verdict_149 ?_
  refine lv_topi (fun z_127 hz_128 => ?_)
  obtain rfl : z_127 = if nI y_116 < nI x_117 then nI y_116 else nI x_117 := hz_128
  refine tp_i (y := nI (min x_117 y_116)) (mn_n hx_122 hy_121) ?_
  refine lv_goto (tgt := 162) hx hb dX8_verdict_152 (by decide) ?_
  refine va_iast (f := g_4) (n := 16) hx hb hK hP hD hS kvd tvd e_17 uvd (vp_in_nI (n := (d_3 - 1) - 1) (by omega) (by omega)) dX8_verdict_162 (fun H locs hP hD hS => ?_)
  have hm_130 : sm ρ [] ws_14 (ws_14.set kvd (vd, .inl (cvd, 16, .inl (upd g_4 (nI ((d_3 - 1) - 1)).toNatClampNeg (nI (min x_117 y_116)))))) := sm.ints e_17 wvd
  have e_131 : (ws_14.set kvd (vd, .inl (cvd, 16, .inl (upd g_4 (nI ((d_3 - 1) - 1)).toNatClampNeg (nI (min x_117 y_116))))))[kvd]? = some (vd, .inl (cvd, 16, .inl (upd g_4 (nI ((d_3 - 1) - 1)).toNatClampNeg (nI (min x_117 y_116))))) := wset_self e_17
  have e_132 := set_n (z := (vd, .inl (cvd, 16, .inl (upd g_4 (nI ((d_3 - 1) - 1)).toNatClampNeg (nI (min x_117 y_116)))))) e_18 (pl_ne e_18 e_17 (by intro h9; simp at h9))
  have e_133 := set_n (z := (vd, .inl (cvd, 16, .inl (upd g_4 (nI ((d_3 - 1) - 1)).toNatClampNeg (nI (min x_117 y_116)))))) e_21 (pl_ne e_21 e_17 (by intro h9; simp at h9))
  have e_134 := set_n (z := (vd, .inl (cvd, 16, .inl (upd g_4 (nI ((d_3 - 1) - 1)).toNatClampNeg (nI (min x_117 y_116)))))) e_22 (pl_ne e_22 e_17 (by intro h9; simp at h9))
  have e_135 := set_n (z := (vd, .inl (cvd, 16, .inl (upd g_4 (nI ((d_3 - 1) - 1)).toNatClampNeg (nI (min x_117 y_116)))))) e_23 (pl_ne e_23 e_17 (by intro h9; simp at h9))
  generalize ws_14.set kvd (vd, .inl (cvd, 16, .inl (upd g_4 (nI ((d_3 - 1) - 1)).toNatClampNeg (nI (min x_117 y_116))))) = ws_129 at hP hD hm_130 e_131 e_132 e_133 e_134 e_135
  have e_136 := hm_130.keep hkcd e_24
  have hsm := hsm.tr (hm_130.mono (fun _ h9 => absurd h9 List.not_mem_nil))
  have hlp_16 := hlp_16.tr (hm_130.mono (fun _ h9 => absurd h9 List.not_mem_nil))
  obtain ⟨f_137, hf_138⟩ : ∃ g9, g9 = upd g_4 (nI ((d_3 - 1) - 1)).toNatClampNeg (nI (min x_117 y_116)) := ⟨_, rfl⟩
  rw [← hf_138] at e_131
  refine lv_iinc (v := nI (i_2 + 1)) (lv' := [(4, .int (nI (i_2 + 1))), (7, .int (nI y_116)), (6, .int (nI x_117)), (3, .int (nI (d_3 - 1))), (5, .int (-2)), (2, .ref v), (1, .ref rl), (0, .ref h0)]) hx hb dX8_verdict_163 hl (k := 4) rfl (nI_add i_2 1) (by decide) rfl (fun ls hl => ?_)
  refine lv_goto (tgt := 5) hx hb dX8_verdict_166 (by decide) ?_
  exact ih_1 (i_2 + 1, d_3 - 1, f_137, T3_32, min x_117 y_116 :: s_118) ws_129 _ _ ls (by show n - (i_2 + 1) < n - i_2; omega) ⟨hlp_16, e_131, (show (i_2 + 1) ≤ n from by omega), (show T3_32 = T9.drop (i_2 + 1) from hT3_39), (show wfT T3_32 (d_3 - 1) 1 from hw_40), (show (d_3 - 1) = (min x_117 y_116 :: s_118).length from (by rw [List.length_cons]; omega)), (show stk nI f_137 (min x_117 y_116 :: s_118) from (by rw [hf_138, nI_clamp (n := (d_3 - 1) - 1) (by omega)]; exact hs_125.push (by omega) (by omega) rfl)), (show evS (tsv fv lc u9) T3_32 (min x_117 y_116 :: s_118) = evS (tsv fv lc u9) T9 [] from (by rw [← hev_12, eT_33, eS_119]; rfl)), (show (d_3 - 1) ≤ 16 from by omega)⟩ hP hD hS (lv_sub hl [0, 3, 5, 6, 7] rfl)
set_option maxHeartbeats 4000000 in
set_option maxRecDepth 100000 in
theorem h_says (l : Launch) (D : va_G) (ρ : Nat → Nat) (ws : va_W) (tys : List (ClassId × FieldType)) (fv : Nat → Nat → Int32) (h0 lc bc rc fc : Nat) (dn : Int32) (tl : Nat) (a1 a2 a3 : Int32) (sz : Nat) (X : XI ρ fv ws tys h0 lc bc rc fc dn tl) : Met l yX8_says wsX8_says ({ frames := 6, cells := 0, slots := 0, locals := 146 }) (va_Pc [.ref h0, .int a1, .int a2, .int a3] (fun U => U.heap.size = sz ∧ va_P D vwCl ws U.heap ∧ va_K D vwCl tys U ∧ va_D (fun _ => True) ws ∧ NZ U)) (va_Qi (fun (r : Int32) (_ : Unit) => (sayN fv bc rc a1 a2 a3 ∧ r = (-1)) ∨ (¬ sayN fv bc rc a1 a2 a3 ∧ ∃ T : List Tk, CFR fv a1.toNatClampNeg T ∧ r = nI (vT (tsv fv lc (rowI a2 a3)) T))) (fun (_ : Unit) (t : State) => ∃ (ws' : va_W) (tys' : List (ClassId × FieldType)), sm ρ [] ws ws' ∧ tyx tys tys' ∧ va_P D vwCl ws' t.heap ∧ va_K D vwCl tys' t ∧ va_D (va_A ws sz) ws' ∧ (XI ρ fv ws' tys' h0 lc bc rc fc dn tl)) (va_A ws sz)) 0 0 (va_A ws sz) := by
  refine Met.ofW (cc := cX8_says) (maxL := 6) (ret := (some .int)) (by decide) rfl ?_
  intro p e s m args below meth c s₁ B hml hv
  obtain ⟨rfl, hsz, hP, hK, hD0, hnz⟩ := hv
  have hx := B.exec
  have hb := B.bytes
  have hr := B.returns
  have hts := atoms_spec (ws := wsX8_says) B.pre
  have hown : s.vm.findClass RX8 = some m.cls := findClass_of_methodNamed B.named
  have hlocks := B.notSynchronized
  subst hsz
  have hD := hD0.self (sz := s.heap.size)
  generalize hAe : va_A ws s.heap.size = A at hD ⊢
  have hA : ∀ q : Nat, s.heap.size ≤ q → A q := fun q h => by rw [← hAe]; exact Or.inr h
  have hS : va_S A s.heap s.heap [] := va_S.rf
  have hsm : sm ρ [] ws ws := sm.rf ws
  have htx : tyx tys tys := tyx.rf tys
  have hin7 : ∀ w ∈ u_ws RX7 TX7 5, w ∈ wsX8_says := (fun _ h9 => List.mem_cons_of_mem _ (List.mem_append_left _ (List.mem_append_left _ (List.mem_append_left _ ((List.mem_append_right _ h9))))))
  have hl := lv_entry ([.ref h0, .int a1, .int a2, .int a3]) (n := 6) (Nat.le_of_ble_eq_true rfl)
  rw [lg_entry_eq]
  generalize (lg_sl ([.ref h0, .int a1, .int a2, .int a3]) ++ List.replicate (6 - (lg_sl ([.ref h0, .int a1, .int a2, .int a3])).length) Slot.unset).toArray = ls at hl ⊢
  have hl : lv_has ls 6 [(0, .ref h0), (1, .int a1), (2, .int a2), (3, .int a3)] := hl
  obtain ⟨k0, la, ta, ba, ra, sn, rd, dr, bl, vd, fb, e0, w0, hle0, hnum, qla, qta, qba, qra, qsn, qrd, qdr, qbl, qvd, qfb⟩ := id X
  obtain ⟨kra, cra, tra, fra, era, ura, pra⟩ := id qra.q
  have hlc := hnum.1
  obtain ⟨kta, cta, tta, fta, eta, uta, hta0, hta1⟩ := id qta
  obtain ⟨kba, cba, tba, fba, eba, uba, hba0, hba1⟩ := id qba
  obtain ⟨kra, cra, tra, fra, era, ura, hra0, hra1⟩ := id qra
  refine lv_aload_n hx hb dX8_says_0 rfl (lv_at hl 0 rfl) ?_
  refine lv_iload_n hx hb dX8_says_1 rfl (lv_at hl 1 rfl) ?_
  refine va_csq (W.runV (As := [.int a1]) (rest := []) ⟨hx, hb, hml, hown, hts⟩ (s_X8_ruleAt l D ws tys h0 k0 _ ra kra cra fra tra a1 e0 rfl era ura) (cwV 1 hts gX8_says_X8_ruleAt rfl rfl rfl (by decide +kernel) ⟨Nat.le_of_ble_eq_true rfl, Nat.le_of_ble_eq_true rfl⟩) ⟨fun a U g mk q => ⟨q.1, q.2.1, va_K.moved (u := U) (U := U.calling g mk a) (Vm.Alike.refl U.vm) q.2.2⟩, va_recv hK hP (ci := 8) (q0 := k0) rfl e0, fun U hU hW => ⟨rfl, by rw [hU]; exact hP, va_K.moved hW.alike hK⟩⟩ rfl rfl hl.1 rfl (lv_room (Nat.le_of_ble_eq_true rfl)) dX8_says_2 ⟨Nat.le_of_ble_eq_true rfl, Nat.le_of_ble_eq_true rfl⟩) (fun r_1 k_2 => ?_)
  have hz_3 := rulx hnum.2.2.1 hra0 hra1 k_2
  rcases hz_3 with ⟨rfl, o_4⟩ | ⟨a_5, b_6, hj_7, v_8, rfl, hg_9, hL_10⟩
  · refine tp_v (y := .null) rfl ?_
    refine lv_astoreN (lv' := [(4, .null), (0, .ref h0), (1, .int a1), (2, .int a2), (3, .int a3)]) hx hb dX8_says_5 hl (by decide) rfl (fun ls hl => ?_)
    refine lv_aload_n hx hb dX8_says_7 rfl (lv_at hl 1 rfl) ?_
    refine lv_iload_n hx hb dX8_says_8 rfl (lv_at hl 3 rfl) ?_
    refine lv_iload_n hx hb dX8_says_9 rfl (lv_at hl 4 rfl) ?_
    refine va_csq (W.runV (As := [.int a2, .int a3]) (rest := []) ⟨hx, hb, hml, hown, hts⟩ (s_vesselAt l D ws tys h0 k0 _ ta kta cta fta tta ba kba cba fba tba a2 a3 e0 rfl eta uta rfl eba uba) (cwV 2 hts gX8_says_X8_vesselAt rfl rfl rfl (by decide +kernel) ⟨Nat.le_of_ble_eq_true rfl, Nat.le_of_ble_eq_true rfl⟩) ⟨fun a U g mk q => ⟨q.1, q.2.1, va_K.moved (u := U) (U := U.calling g mk a) (Vm.Alike.refl U.vm) q.2.2⟩, va_recv hK hP (ci := 8) (q0 := k0) rfl e0, fun U hU hW => ⟨rfl, by rw [hU]; exact hP, va_K.moved hW.alike hK⟩⟩ rfl rfl hl.1 rfl (lv_room (Nat.le_of_ble_eq_true rfl)) dX8_says_10 ⟨Nat.le_of_ble_eq_true rfl, Nat.le_of_ble_eq_true rfl⟩) (fun r_31 k_32 => ?_)
    have hz_33 := vesx hnum.2.1 hta1 hba0 hba1 k_32
    rcases hz_33 with ⟨rfl, rn_34⟩ | ⟨rn_34, hr_35, v_36, rfl, hV_37⟩
    · refine tp_v (y := .null) rfl ?_
      refine lv_astoreN (lv' := [(5, .null), (4, .null), (0, .ref h0), (1, .int a1), (2, .int a2), (3, .int a3)]) hx hb dX8_says_13 hl (by decide) rfl (fun ls hl => ?_)
      refine lv_aloadN hx hb dX8_says_15 (lv_at hl 1 rfl) ?_
      refine lv_ifnullN (tgt := 33) hx hb dX8_says_17 (by decide) ?_
      refine lv_iconst (v := (-1)) hx hb dX8_says_33 (by decide) ?_
      exact W.iret (v := (-1)) hx hb hr (fun t ht hW => ⟨⟨(-1), (), rfl, Or.inl ⟨Or.inl o_4, rfl⟩, ws, tys, hsm, htx, by rw [ht]; exact hP, va_K.moved hW.alike hK, hD, X.sm hsm htx (by decide) (by decide)⟩, hS.F ht⟩) hS.2.2 dX8_says_34
    obtain ⟨k_39, g_40, e_41, wk_42, k_43, c9_44, t_45, f_46, e_47, u_48, wr_49, g_50⟩ := hV_37
    refine tp_v (y := .ref v_36) rfl ?_
    refine lv_astore (lv' := [(5, .ref v_36), (4, .null), (0, .ref h0), (1, .int a1), (2, .int a2), (3, .int a3)]) hx hb dX8_says_13 hl (by decide) rfl (fun ls hl => ?_)
    refine lv_aloadN hx hb dX8_says_15 (lv_at hl 1 rfl) ?_
    refine lv_ifnullN (tgt := 33) hx hb dX8_says_17 (by decide) ?_
    refine lv_iconst (v := (-1)) hx hb dX8_says_33 (by decide) ?_
    exact W.iret (v := (-1)) hx hb hr (fun t ht hW => ⟨⟨(-1), (), rfl, Or.inl ⟨Or.inl o_4, rfl⟩, ws, tys, hsm, htx, by rw [ht]; exact hP, va_K.moved hW.alike hK, hD, X.sm hsm htx (by decide) (by decide)⟩, hS.F ht⟩) hS.2.2 dX8_says_34
  obtain ⟨k_11, cd_12, n_13, x0_14, x3_15, x4_16, ph_17, e_18, wk_19, ⟨k_23, c9_24, t_25, f_26, e_27, u_28, wr_29, g_30⟩, hn_20, hs_21, hq_22⟩ := hL_10
  refine tp_v (y := .ref v_8) rfl ?_
  refine lv_astore (lv' := [(4, .ref v_8), (0, .ref h0), (1, .int a1), (2, .int a2), (3, .int a3)]) hx hb dX8_says_5 hl (by decide) rfl (fun ls hl => ?_)
  refine lv_aload_n hx hb dX8_says_7 rfl (lv_at hl 1 rfl) ?_
  refine lv_iload_n hx hb dX8_says_8 rfl (lv_at hl 3 rfl) ?_
  refine lv_iload_n hx hb dX8_says_9 rfl (lv_at hl 4 rfl) ?_
  refine va_csq (W.runV (As := [.int a2, .int a3]) (rest := []) ⟨hx, hb, hml, hown, hts⟩ (s_vesselAt l D ws tys h0 k0 _ ta kta cta fta tta ba kba cba fba tba a2 a3 e0 rfl eta uta rfl eba uba) (cwV 2 hts gX8_says_X8_vesselAt rfl rfl rfl (by decide +kernel) ⟨Nat.le_of_ble_eq_true rfl, Nat.le_of_ble_eq_true rfl⟩) ⟨fun a U g mk q => ⟨q.1, q.2.1, va_K.moved (u := U) (U := U.calling g mk a) (Vm.Alike.refl U.vm) q.2.2⟩, va_recv hK hP (ci := 8) (q0 := k0) rfl e0, fun U hU hW => ⟨rfl, by rw [hU]; exact hP, va_K.moved hW.alike hK⟩⟩ rfl rfl hl.1 rfl (lv_room (Nat.le_of_ble_eq_true rfl)) dX8_says_10 ⟨Nat.le_of_ble_eq_true rfl, Nat.le_of_ble_eq_true rfl⟩) (fun r_51 k_52 => ?_)
  have hz_53 := vesx hnum.2.1 hta1 hba0 hba1 k_52
  rcases hz_53 with ⟨rfl, rn_54⟩ | ⟨rn_54, hr_55, v_56, rfl, hV_57⟩
  · refine tp_v (y := .null) rfl ?_
    refine lv_astoreN (lv' := [(5, .null), (4, .ref v_8), (0, .ref h0), (1, .int a1), (2, .int a2), (3, .int a3)]) hx hb dX8_says_13 hl (by decide) rfl (fun ls hl => ?_)
    refine lv_aload hx hb dX8_says_15 (lv_at hl 1 rfl) ?_
    refine lv_ifnull hx hb dX8_says_17 ?_
    refine lv_aloadN hx hb dX8_says_20 (lv_at hl 0 rfl) ?_
    refine lv_ifnullN (tgt := 33) hx hb dX8_says_22 (by decide) ?_
    refine lv_iconst (v := (-1)) hx hb dX8_says_33 (by decide) ?_
    exact W.iret (v := (-1)) hx hb hr (fun t ht hW => ⟨⟨(-1), (), rfl, Or.inl ⟨Or.inr (Or.inl rn_54), rfl⟩, ws, tys, hsm, htx, by rw [ht]; exact hP, va_K.moved hW.alike hK, hD, X.sm hsm htx (by decide) (by decide)⟩, hS.F ht⟩) hS.2.2 dX8_says_34
  obtain ⟨k_59, g_60, e_61, wk_62, k_63, c9_64, t_65, f_66, e_67, u_68, wr_69, g_70⟩ := hV_57
  refine tp_v (y := .ref v_56) rfl ?_
  refine lv_astore (lv' := [(5, .ref v_56), (4, .ref v_8), (0, .ref h0), (1, .int a1), (2, .int a2), (3, .int a3)]) hx hb dX8_says_13 hl (by decide) rfl (fun ls hl => ?_)
  refine lv_aload hx hb dX8_says_15 (lv_at hl 1 rfl) ?_
  refine lv_ifnull hx hb dX8_says_17 ?_
  refine lv_aload hx hb dX8_says_20 (lv_at hl 0 rfl) ?_
  refine lv_ifnull hx hb dX8_says_22 ?_
  refine lv_aload hx hb dX8_says_25 (lv_at hl 0 rfl) ?_
  refine va_get (D := D) (ci := 7) (v := .int (mall (fv 9) (rowI a2 a3) 40)) (C := RX7) (T := TX7) (N := 5) hx hb hts hin7 hown hK hP k_59 e_61 rfl 1 (by decide) (hts (.fieldLink RX8 144 "HoneyHouse$Vessel" "total" "I") (List.mem_of_getElem? (i := 1) rfl)) (fun _ h9 => h9) rfl dX8_says_27 ?_
  refine lv_if_ne (tgt := 35) hx hb dX8_says_30 (by decide) (fun c_71 => ?_) (fun c_71 => ?_)
  · refine lv_aload_n hx hb dX8_says_35 rfl (lv_at hl 2 rfl) ?_
    refine lv_aload hx hb dX8_says_36 (lv_at hl 1 rfl) ?_
    refine lv_aload hx hb dX8_says_38 (lv_at hl 0 rfl) ?_
    obtain ⟨T_72, eT_73, fT_74, hT_75⟩ := hq_22.1
    have hFc := free_all hD hS hA
    refine va_calli (va_runV (As := [.ref v_8, .ref v_56]) (rest := []) ⟨hx, hb, hml, hown, hts⟩ (a_verdict l D ρ ws tys fv h0 lc bc rc fc dn tl v_56 k_59 (mall (fv 9) (rowI a2 a3) 40) (fv 10 (rowI a2 a3)) (fv 11 (rowI a2 a3)) (fv 12 (rowI a2 a3)) g_60 k_63 c9_64 t_65 f_66 v_8 k_11 cd_12 k_23 n_13 c9_24 t_25 f_26 x0_14 (fv 17 a1.toNatClampNeg) x3_15 x4_16 T_72 (rowI a2 a3) s.heap.size (X.sm hsm htx (by decide) (by decide)) (by rw [wk_62]; omega) (by rw [wr_69]; omega) e_61 e_67 u_68 hn_20 e_18 e_27 u_28 (by rw [wr_29]; omega) eT_73 (fun i hi => (g_30 i hi).trans (fT_74 i hi)) hT_75.2 g_70 rfl rfl) (cwV 2 hts gX8_says_X8_verdict rfl rfl rfl (by decide +kernel) ⟨Nat.le_of_ble_eq_true rfl, Nat.le_of_ble_eq_true rfl⟩) ⟨fun a U g mk q => by obtain ⟨q0, q1, qP, qK, qD, qZ⟩ := q; exact ⟨q0, q1, qP, va_K.moved (u := U) (U := U.calling g mk a) (Vm.Alike.refl U.vm) qK, qD, NZ.same rfl qZ⟩, va_recv hK hP (ci := 8) (q0 := k0) rfl e0, fun U hU hW => ⟨rfl, by rw [hU], by rw [hU]; exact hP, va_K.moved hW.alike hK, hD.weaken (fun _ _ _ _ => trivial), NZ.warm hW hnz⟩⟩ rfl rfl hl.1 rfl (lv_room (Nat.le_of_ble_eq_true rfl)) dX8_says_40 ⟨Nat.le_of_ble_eq_true rfl, Nat.le_of_ble_eq_true rfl⟩) hS (fun q _ h => hFc q h) hFc (fun r_76 u t H1 locs ht hvm w_77 hB hz1 hk1 hS => ?_)
    obtain ⟨ws_78, ty_79, hm_80, ht_82, hP1, hK1, hD1, hx_81⟩ := hB
    rw [ht] at hP1
    have hK := va_K.moved hvm.symm hK1
    have hD := hD1.weaken (fun _ _ _ h => hFc _ h)
    generalize H1 = H at hP1 hS ⊢
    have hP := hP1
    have e_83 := hm_80.objK e0 (by decide)
    have e_84 := hm_80.arrQ eta
    have u_85 := ht_82 _ _ uta
    have e_86 := hm_80.arrQ eba
    have u_87 := ht_82 _ _ uba
    have e_88 := hm_80.arrQ era
    have u_89 := ht_82 _ _ ura
    have e_90 := hm_80.keep (by rw [wk_19]; omega) e_18
    have e_91 := hm_80.keep (by rw [wr_29]; omega) e_27
    have u_92 := ht_82 _ _ u_28
    have e_93 := hm_80.keep (by rw [wk_62]; omega) e_61
    have e_94 := hm_80.keep (by rw [wr_69]; omega) e_67
    have u_95 := ht_82 _ _ u_68
    have hsm := hsm.tr (hm_80.mono (by decide))
    have htx := htx.tr ht_82
    exact W.iret (v := r_76) hx hb hr (fun t ht hW => ⟨⟨r_76, (), rfl, Or.inr ⟨(fun h9 => Or.elim h9 (fun h9 => Or.elim h9 a_5 b_6) (fun h9 => Or.elim h9 rn_54 c_71)), T_72, hT_75, w_77.2⟩, ws_78, ty_79, hsm, htx, by rw [ht]; exact hP, va_K.moved hW.alike hK, hD, X.sm hsm htx (by decide) (by decide)⟩, hS.F ht⟩) hS.2.2 dX8_says_43
  refine lv_iconst (v := (-1)) hx hb dX8_says_33 (by decide) ?_
  exact W.iret (v := (-1)) hx hb hr (fun t ht hW => ⟨⟨(-1), (), rfl, Or.inl ⟨Or.inr (Or.inr c_71), rfl⟩, ws, tys, hsm, htx, by rw [ht]; exact hP, va_K.moved hW.alike hK, hD, X.sm hsm htx (by decide) (by decide)⟩, hS.F ht⟩) hS.2.2 dX8_says_34
theorem lg_cmp_0 {x y : Int64} : lg_cmp x y = 0 ↔ x = y := by
  constructor
  · intro h
    have h1 : ¬ x < y := fun z => absurd ((lg_cmp_lt (x := x) (y := y)).mpr z) (by rw [h]; decide)
    have h2 : ¬ y < x := fun z => absurd ((lg_cmp_gt (x := x) (y := y)).mpr z) (by rw [h]; decide)
    rw [Int64.lt_iff_toInt_lt] at h1 h2
    exact Int64.toInt_inj.mp (by omega)
  · rintro rfl
    exact lg_cmp_self x
theorem shu_4 {s x3 x4 : Int32} (h : shuR s x3 x4) (h3 : ¬ x3 = 0) : x4 = s := by
  rcases h with ⟨-, h⟩ | ⟨-, -, h⟩
  · exact absurd h h3
  · exact h
set_option maxHeartbeats 4000000 in
set_option maxRecDepth 100000 in
theorem a_isInForce (l : Launch) (D : va_G) (ρ : Nat → Nat) (ws : va_W) (tys : List (ClassId × FieldType)) (fv : Nat → Nat → Int32) (h0 lc bc rc fc : Nat) (dn : Int32) (tl : Nat) (rl krl cd kcd n : Nat) (ccd : ClassId) (tcd : Nat) (fcd : Nat → Int32) (y0 : Int64) (y3 y4 : Int32) (j9 : Nat) (a3 : Int32) (sz : Nat) (X : XI ρ fv ws tys h0 lc bc rc fc dn tl) (hn : n ≤ 200) (erl : ws[krl]? = some (rl, .inr (3, [.long y0, .int (fv 17 j9), .ref cd, .int y3, .int y4]))) (ecd : ws[kcd]? = some (cd, .inl (ccd, n, .inl fcd))) (ucd : tys[tcd]? = some (ccd, .int)) (hkcd : ρ kcd ≠ 0) (hj9 : j9 < rc) (hsh : shuR (fv 18 j9) y3 y4) (hky : NKY fv j9 y0) : Met l yX8_isInForce wsX8_isInForce ({ frames := 0, cells := 0, slots := 0, locals := 0 }) (va_Pc [.ref h0, .ref rl, .int (nI j9), .int a3] (fun U => U.heap.size = sz ∧ va_P D vwCl ws U.heap ∧ va_K D vwCl tys U ∧ va_D (fun _ => True) ws ∧ NZ U)) (va_Qi (fun (r : Int32) (_ : Unit) => (r = 1 ∧ inF fv rc j9 a3) ∨ (r = 0 ∧ ¬ inF fv rc j9 a3)) (fun (_ : Unit) (t : State) => ∃ (ws' : va_W) (tys' : List (ClassId × FieldType)), sm ρ [] ws ws' ∧ tyx tys tys' ∧ va_P D vwCl ws' t.heap ∧ va_K D vwCl tys' t ∧ va_D (va_A ws sz) ws' ∧ (True)) (va_A ws sz)) 0 0 (va_A ws sz) := by
  refine Met.ofW (cc := cX8_isInForce) (maxL := 6) (ret := (some .boolean)) (by decide) rfl ?_
  intro p e s m args below meth c s₁ B hml hv
  obtain ⟨rfl, hsz, hP, hK, hD0, hnz⟩ := hv
  have hx := B.exec
  have hb := B.bytes
  have hr := B.returns
  have hts := atoms_spec (ws := wsX8_isInForce) B.pre
  have hown : s.vm.findClass RX8 = some m.cls := findClass_of_methodNamed B.named
  have hlocks := B.notSynchronized
  subst hsz
  have hD := hD0.self (sz := s.heap.size)
  generalize hAe : va_A ws s.heap.size = A at hD ⊢
  have hA : ∀ q : Nat, s.heap.size ≤ q → A q := fun q h => by rw [← hAe]; exact Or.inr h
  have hS : va_S A s.heap s.heap [] := va_S.rf
  have hsm : sm ρ [] ws ws := sm.rf ws
  have htx : tyx tys tys := tyx.rf tys
  have hin3 : ∀ w ∈ u_ws RX3 TX3 5, w ∈ wsX8_isInForce := (fun _ h9 => List.mem_cons_of_mem _ (List.mem_append_left _ ((List.mem_append_right _ h9))))
  have hin8 : ∀ w ∈ u_ws RX8 TX8 15, w ∈ wsX8_isInForce := (fun _ h9 => List.mem_cons_of_mem _ ((List.mem_append_right _ h9)))
  have hl := lv_entry ([.ref h0, .ref rl, .int (nI j9), .int a3]) (n := 6) (Nat.le_of_ble_eq_true rfl)
  rw [lg_entry_eq]
  generalize (lg_sl ([.ref h0, .ref rl, .int (nI j9), .int a3]) ++ List.replicate (6 - (lg_sl ([.ref h0, .ref rl, .int (nI j9), .int a3])).length) Slot.unset).toArray = ls at hl ⊢
  have hl : lv_has ls 6 [(0, .ref h0), (1, .ref rl), (2, .int (nI j9)), (3, .int a3)] := hl
  obtain ⟨k0, la, ta, ba, ra, sn, rd, dr, bl, vd, fb, e0, w0, hle0, hnum, qla, qta, qba, qra, qsn, qrd, qdr, qbl, qvd, qfb⟩ := id X
  have hrc := hnum.2.2.1
  obtain ⟨kra, cra, tra, fra, era, ura, hra0, hra1⟩ := id qra
  refine lv_aload_n hx hb dX8_isInForce_0 rfl (lv_at hl 1 rfl) ?_
  refine va_get (D := D) (ci := 3) (v := .int (fv 17 j9)) (C := RX3) (T := TX3) (N := 5) hx hb hts hin3 hown hK hP krl erl rfl 1 (by decide) (hts (.fieldLink RX8 227 "HoneyHouse$Rule" "from" "I") (List.mem_of_getElem? (i := 1) rfl)) (fun _ h9 => h9) rfl dX8_isInForce_1 ?_
  refine lv_iload_n hx hb dX8_isInForce_4 rfl (lv_at hl 3 rfl) ?_
  refine lv_icmp_gt (tgt := 23) hx hb dX8_isInForce_5 (by decide) (fun c_1 => ?_) (fun c_1 => ?_)
  · refine lv_iconst (v := 0) hx hb dX8_isInForce_23 (by decide) ?_
    exact W.zret (v := 0) hx hb hr rfl (fun t ht hW => ⟨⟨0, (), rfl, Or.inr ⟨rfl, fun h9 => h9.1 c_1⟩, ws, tys, hsm, htx, by rw [ht]; exact hP, va_K.moved hW.alike hK, hD, trivial⟩, hS.F ht⟩) hS.2.2 dX8_isInForce_24
  refine lv_aload_n hx hb dX8_isInForce_8 rfl (lv_at hl 1 rfl) ?_
  refine va_get (D := D) (ci := 3) (v := .int y3) (C := RX3) (T := TX3) (N := 5) hx hb hts hin3 hown hK hP krl erl rfl 3 (by decide) (hts (.fieldLink RX8 223 "HoneyHouse$Rule" "isShut" "Z") (List.mem_of_getElem? (i := 2) rfl)) (fun _ h9 => h9) rfl dX8_isInForce_9 ?_
  refine lv_if_eq (tgt := 25) hx hb dX8_isInForce_12 (by decide) (fun c_2 => ?_) (fun c_2 => ?_)
  · have g_3 := (shu_n hsh).1 c_2
    refine lv_iconst (v := 0) hx hb dX8_isInForce_25 (by decide) ?_
    refine lv_istore (lv' := [(4, .int 0), (0, .ref h0), (1, .ref rl), (2, .int (nI j9)), (3, .int a3)]) hx hb dX8_isInForce_26 hl (by decide) rfl (fun ls hl => ?_)
    refine lp_V (nL := 6) (σ := Nat) (lv := fun x9 => [(4, .int (nI x9)), (3, .int a3), (2, .int (nI j9)), (1, .ref rl), (0, .ref h0)]) (μ := fun x9 => 16 - x9) (J := fun x9 ws9 => sm ρ [] ws ws9 ∧ (x9 ≤ 16) ∧ (∀ k9 : Nat, k9 < x9 → k9 < rc → ¬ (sameN fv k9 j9 ∧ ¬ a3 < fv 17 k9 ∧ (fv 17 j9 < fv 17 k9 ∨ (fv 17 k9 = fv 17 j9 ∧ j9 < k9))))) (fun x9 ws_8 H locs ls hj hP hD hS hl ih_4 => ?_) 0 ws _ _ ls ⟨sm.rf _, (show 0 ≤ 16 from by omega), (show ∀ k9 : Nat, k9 < 0 → k9 < rc → ¬ (sameN fv k9 j9 ∧ ¬ a3 < fv 17 k9 ∧ (fv 17 j9 < fv 17 k9 ∨ (fv 17 k9 = fv 17 j9 ∧ j9 < k9))) from fun k9 h9 => absurd h9 (by omega))⟩ hP hD hS (lv_sub hl [0, 4, 3, 2, 1] rfl)
    obtain ⟨i_5, hx9⟩ : ∃ y9, y9 = x9 := ⟨_, rfl⟩
    subst hx9
    replace hj : sm ρ [] ws ws_8 ∧ (i_5 ≤ 16) ∧ (∀ k9 : Nat, k9 < i_5 → k9 < rc → ¬ (sameN fv k9 j9 ∧ ¬ a3 < fv 17 k9 ∧ (fv 17 j9 < fv 17 k9 ∨ (fv 17 k9 = fv 17 j9 ∧ j9 < k9)))) := hj
    obtain ⟨hm_9, hi_6, hno_7⟩ := hj
    have e_11 := hm_9.objK e0 (by decide)
    have e_12 := hm_9.arrQ era
    have e_13 := hm_9.objK erl (by decide)
    have e_14 := hm_9.keep hkcd ecd
    have hsm := hsm.tr (hm_9.mono (by decide))
    have hlp_10 := hm_9
    have hl : lv_has ls 6 [(4, .int (nI i_5)), (3, .int a3), (2, .int (nI j9)), (1, .ref rl), (0, .ref h0)] := hl
    refine lv_iload hx hb dX8_isInForce_28 (lv_at hl 0 rfl) ?_
    refine lv_aload_n hx hb dX8_isInForce_30 rfl (lv_at hl 4 rfl) ?_
    refine va_get (D := D) (ci := 8) (v := .ref ra) (C := RX8) (T := TX8) (N := 15) hx hb hts hin8 hown hK hP k0 e_11 rfl 3 (by decide) (hts (.fieldLink RX8 26 "HoneyHouse" "rules" "[LHoneyHouse$Rule;") (List.mem_of_getElem? (i := 4) rfl)) (fun _ h9 => h9) rfl dX8_isInForce_31 ?_
    refine va_alen (v := 16) hx hb hK hP kra tra e_12 ura rfl dX8_isInForce_34 ?_
    refine lv_icmp_ge (tgt := 112) hx hb dX8_isInForce_35 (by decide) (fun c_15 => ?_) (fun c_15 => ?_)
    · have d_16 := n_le (a := 16) (b := i_5) (by omega) (by omega) c_15
      refine lv_iconst (v := 1) hx hb dX8_isInForce_112 (by decide) ?_
      exact W.zret (v := 1) hx hb hr rfl (fun t ht hW => ⟨⟨1, (), rfl, Or.inl ⟨rfl, c_1, Or.inl g_3, fun k9 h9 => hno_7 k9 (by omega) h9⟩, ws_8, tys, hsm, htx, by rw [ht]; exact hP, va_K.moved hW.alike hK, hD, trivial⟩, hS.F ht⟩) hS.2.2 dX8_isInForce_113
    have d_17 := n_nle (a := 16) (b := i_5) (by omega) (by omega) c_15
    refine lv_aload_n hx hb dX8_isInForce_38 rfl (lv_at hl 4 rfl) ?_
    refine va_get (D := D) (ci := 8) (v := .ref ra) (C := RX8) (T := TX8) (N := 15) hx hb hts hin8 hown hK hP k0 e_11 rfl 3 (by decide) (hts (.fieldLink RX8 26 "HoneyHouse" "rules" "[LHoneyHouse$Rule;") (List.mem_of_getElem? (i := 4) rfl)) (fun _ h9 => h9) rfl dX8_isInForce_39 ?_
    refine lv_iload hx hb dX8_isInForce_42 (lv_at hl 0 rfl) ?_
    refine va_aldq (f := fra) (n := 16) hx hb hK hP kra tra e_12 ura (vp_in_nI (n := i_5) (by omega) (by omega)) dX8_isInForce_44 ?_
    obtain ⟨r_18, er_19⟩ : ∃ r, r = fra (nI i_5).toNatClampNeg := ⟨_, rfl⟩
    refine tp_v (y := va_rf r_18) (by rw [er_19]) ?_
    rw [nI_clamp (n := i_5) (by omega)] at er_19
    rcases Nat.lt_or_ge i_5 rc with q_24 | q_24
    · obtain ⟨v_20, ev_21, hL_22⟩ := hra1 i_5 q_24
      rw [ev_21] at er_19
      subst er_19
      have hL_23 := hL_22.sm hsm htx (fun k _ h1 h2 => by omega)
      obtain ⟨k_25, cd_26, n_27, x0_28, x3_29, x4_30, ph_31, e_32, wk_33, ⟨k_37, c9_38, t_39, f_40, e_41, u_42, wr_43, g_44⟩, hn_34, hs_35, hq_36⟩ := hL_23
      refine tp_v (y := .ref v_20) rfl ?_
      refine lv_astore (lv' := [(5, .ref v_20), (4, .int (nI i_5)), (3, .int a3), (2, .int (nI j9)), (1, .ref rl), (0, .ref h0)]) hx hb dX8_isInForce_45 hl (by decide) rfl (fun ls hl => ?_)
      refine lv_aload hx hb dX8_isInForce_47 (lv_at hl 0 rfl) ?_
      refine lv_ifnull hx hb dX8_isInForce_49 ?_
      refine lv_aload hx hb dX8_isInForce_52 (lv_at hl 0 rfl) ?_
      refine va_get (D := D) (ci := 3) (v := .long x0_28) (C := RX3) (T := TX3) (N := 5) hx hb hts hin3 hown hK hP k_25 e_32 rfl 0 (by decide) (hts (.fieldLink RX8 309 "HoneyHouse$Rule" "nameKey" "J") (List.mem_of_getElem? (i := 5) rfl)) (fun _ h9 => h9) rfl dX8_isInForce_54 ?_
      refine lv_aload_n hx hb dX8_isInForce_57 rfl (lv_at hl 4 rfl) ?_
      refine va_get (D := D) (ci := 3) (v := .long y0) (C := RX3) (T := TX3) (N := 5) hx hb hts hin3 hown hK hP krl e_13 rfl 0 (by decide) (hts (.fieldLink RX8 309 "HoneyHouse$Rule" "nameKey" "J") (List.mem_of_getElem? (i := 5) rfl)) (fun _ h9 => h9) rfl dX8_isInForce_58 ?_
      refine W.lcmp hx hb dX8_isInForce_61 ?_
      refine lv_if_ne (tgt := 106) hx hb dX8_isInForce_62 (by decide) (fun c_45 => ?_) (fun c_45 => ?_)
      · refine lv_iinc (v := nI (i_5 + 1)) (lv' := [(4, .int (nI (i_5 + 1))), (5, .ref v_20), (3, .int a3), (2, .int (nI j9)), (1, .ref rl), (0, .ref h0)]) hx hb dX8_isInForce_106 hl (k := 1) rfl (nI_add i_5 1) (by decide) rfl (fun ls hl => ?_)
        refine lv_goto (tgt := 28) hx hb dX8_isInForce_109 (by decide) ?_
        exact ih_4 (i_5 + 1) ws_8 _ _ ls (by show 16 - (i_5 + 1) < 16 - i_5; omega) ⟨hlp_10, (show (i_5 + 1) ≤ 16 from by omega), (show ∀ k9 : Nat, k9 < (i_5 + 1) → k9 < rc → ¬ (sameN fv k9 j9 ∧ ¬ a3 < fv 17 k9 ∧ (fv 17 j9 < fv 17 k9 ∨ (fv 17 k9 = fv 17 j9 ∧ j9 < k9))) from fun k9 h9 => (Nat.lt_or_ge k9 i_5).elim (fun q => hno_7 k9 q) (fun q => by rw [show k9 = i_5 by omega]; exact fun _ h8 => c_45 (lg_cmp_0.mpr ((nky_eq hq_36.2.1 hky).mpr h8.1))))⟩ hP hD hS (lv_sub hl [0, 2, 3, 4, 5] rfl)
      refine lv_aload hx hb dX8_isInForce_65 (lv_at hl 0 rfl) ?_
      refine va_get (D := D) (ci := 3) (v := .int (fv 17 i_5)) (C := RX3) (T := TX3) (N := 5) hx hb hts hin3 hown hK hP k_25 e_32 rfl 1 (by decide) (hts (.fieldLink RX8 227 "HoneyHouse$Rule" "from" "I") (List.mem_of_getElem? (i := 1) rfl)) (fun _ h9 => h9) rfl dX8_isInForce_67 ?_
      refine lv_iload_n hx hb dX8_isInForce_70 rfl (lv_at hl 2 rfl) ?_
      refine lv_icmp_gt (tgt := 106) hx hb dX8_isInForce_71 (by decide) (fun c_46 => ?_) (fun c_46 => ?_)
      · refine lv_iinc (v := nI (i_5 + 1)) (lv' := [(4, .int (nI (i_5 + 1))), (5, .ref v_20), (3, .int a3), (2, .int (nI j9)), (1, .ref rl), (0, .ref h0)]) hx hb dX8_isInForce_106 hl (k := 1) rfl (nI_add i_5 1) (by decide) rfl (fun ls hl => ?_)
        refine lv_goto (tgt := 28) hx hb dX8_isInForce_109 (by decide) ?_
        exact ih_4 (i_5 + 1) ws_8 _ _ ls (by show 16 - (i_5 + 1) < 16 - i_5; omega) ⟨hlp_10, (show (i_5 + 1) ≤ 16 from by omega), (show ∀ k9 : Nat, k9 < (i_5 + 1) → k9 < rc → ¬ (sameN fv k9 j9 ∧ ¬ a3 < fv 17 k9 ∧ (fv 17 j9 < fv 17 k9 ∨ (fv 17 k9 = fv 17 j9 ∧ j9 < k9))) from fun k9 h9 => (Nat.lt_or_ge k9 i_5).elim (fun q => hno_7 k9 q) (fun q => by rw [show k9 = i_5 by omega]; exact fun _ h8 => h8.2.1 c_46))⟩ hP hD hS (lv_sub hl [0, 2, 3, 4, 5] rfl)
      refine lv_aload hx hb dX8_isInForce_74 (lv_at hl 0 rfl) ?_
      refine va_get (D := D) (ci := 3) (v := .int (fv 17 i_5)) (C := RX3) (T := TX3) (N := 5) hx hb hts hin3 hown hK hP k_25 e_32 rfl 1 (by decide) (hts (.fieldLink RX8 227 "HoneyHouse$Rule" "from" "I") (List.mem_of_getElem? (i := 1) rfl)) (fun _ h9 => h9) rfl dX8_isInForce_76 ?_
      refine lv_aload_n hx hb dX8_isInForce_79 rfl (lv_at hl 4 rfl) ?_
      refine va_get (D := D) (ci := 3) (v := .int (fv 17 j9)) (C := RX3) (T := TX3) (N := 5) hx hb hts hin3 hown hK hP krl e_13 rfl 1 (by decide) (hts (.fieldLink RX8 227 "HoneyHouse$Rule" "from" "I") (List.mem_of_getElem? (i := 1) rfl)) (fun _ h9 => h9) rfl dX8_isInForce_80 ?_
      refine lv_icmp_gt (tgt := 104) hx hb dX8_isInForce_83 (by decide) (fun c_47 => ?_) (fun c_47 => ?_)
      · refine lv_iconst (v := 0) hx hb dX8_isInForce_104 (by decide) ?_
        exact W.zret (v := 0) hx hb hr rfl (fun t ht hW => ⟨⟨0, (), rfl, Or.inr ⟨rfl, fun h9 => h9.2.2 i_5 (by omega) ⟨(nky_eq hq_36.2.1 hky).mp (lg_cmp_0.mp c_45), c_46, Or.inl c_47⟩⟩, ws_8, tys, hsm, htx, by rw [ht]; exact hP, va_K.moved hW.alike hK, hD, trivial⟩, hS.F ht⟩) hS.2.2 dX8_isInForce_105
      refine lv_aload hx hb dX8_isInForce_86 (lv_at hl 0 rfl) ?_
      refine va_get (D := D) (ci := 3) (v := .int (fv 17 i_5)) (C := RX3) (T := TX3) (N := 5) hx hb hts hin3 hown hK hP k_25 e_32 rfl 1 (by decide) (hts (.fieldLink RX8 227 "HoneyHouse$Rule" "from" "I") (List.mem_of_getElem? (i := 1) rfl)) (fun _ h9 => h9) rfl dX8_isInForce_88 ?_
      refine lv_aload_n hx hb dX8_isInForce_91 rfl (lv_at hl 4 rfl) ?_
      refine va_get (D := D) (ci := 3) (v := .int (fv 17 j9)) (C := RX3) (T := TX3) (N := 5) hx hb hts hin3 hown hK hP krl e_13 rfl 1 (by decide) (hts (.fieldLink RX8 227 "HoneyHouse$Rule" "from" "I") (List.mem_of_getElem? (i := 1) rfl)) (fun _ h9 => h9) rfl dX8_isInForce_92 ?_
      refine lv_icmp_ne (tgt := 106) hx hb dX8_isInForce_95 (by decide) (fun c_48 => ?_) (fun c_48 => ?_)
      · refine lv_iinc (v := nI (i_5 + 1)) (lv' := [(4, .int (nI (i_5 + 1))), (5, .ref v_20), (3, .int a3), (2, .int (nI j9)), (1, .ref rl), (0, .ref h0)]) hx hb dX8_isInForce_106 hl (k := 1) rfl (nI_add i_5 1) (by decide) rfl (fun ls hl => ?_)
        refine lv_goto (tgt := 28) hx hb dX8_isInForce_109 (by decide) ?_
        exact ih_4 (i_5 + 1) ws_8 _ _ ls (by show 16 - (i_5 + 1) < 16 - i_5; omega) ⟨hlp_10, (show (i_5 + 1) ≤ 16 from by omega), (show ∀ k9 : Nat, k9 < (i_5 + 1) → k9 < rc → ¬ (sameN fv k9 j9 ∧ ¬ a3 < fv 17 k9 ∧ (fv 17 j9 < fv 17 k9 ∨ (fv 17 k9 = fv 17 j9 ∧ j9 < k9))) from fun k9 h9 => (Nat.lt_or_ge k9 i_5).elim (fun q => hno_7 k9 q) (fun q => by rw [show k9 = i_5 by omega]; exact fun _ h8 => h8.2.2.elim c_47 (fun h7 => c_48 h7.1)))⟩ hP hD hS (lv_sub hl [0, 2, 3, 4, 5] rfl)
      refine lv_iload hx hb dX8_isInForce_98 (lv_at hl 1 rfl) ?_
      refine lv_iload_n hx hb dX8_isInForce_100 rfl (lv_at hl 3 rfl) ?_
      refine lv_icmp_le (tgt := 106) hx hb dX8_isInForce_101 (by decide) (fun c_49 => ?_) (fun c_49 => ?_)
      · have d_50 := n_le (a := i_5) (b := j9) (by omega) (by omega) c_49
        refine lv_iinc (v := nI (i_5 + 1)) (lv' := [(4, .int (nI (i_5 + 1))), (5, .ref v_20), (3, .int a3), (2, .int (nI j9)), (1, .ref rl), (0, .ref h0)]) hx hb dX8_isInForce_106 hl (k := 1) rfl (nI_add i_5 1) (by decide) rfl (fun ls hl => ?_)
        refine lv_goto (tgt := 28) hx hb dX8_isInForce_109 (by decide) ?_
        exact ih_4 (i_5 + 1) ws_8 _ _ ls (by show 16 - (i_5 + 1) < 16 - i_5; omega) ⟨hlp_10, (show (i_5 + 1) ≤ 16 from by omega), (show ∀ k9 : Nat, k9 < (i_5 + 1) → k9 < rc → ¬ (sameN fv k9 j9 ∧ ¬ a3 < fv 17 k9 ∧ (fv 17 j9 < fv 17 k9 ∨ (fv 17 k9 = fv 17 j9 ∧ j9 < k9))) from fun k9 h9 => (Nat.lt_or_ge k9 i_5).elim (fun q => hno_7 k9 q) (fun q => by rw [show k9 = i_5 by omega]; exact fun _ h8 => h8.2.2.elim c_47 (fun h7 => absurd h7.2 (by omega))))⟩ hP hD hS (lv_sub hl [0, 2, 3, 4, 5] rfl)
      have d_51 := n_nle (a := i_5) (b := j9) (by omega) (by omega) c_49
      refine lv_iconst (v := 0) hx hb dX8_isInForce_104 (by decide) ?_
      exact W.zret (v := 0) hx hb hr rfl (fun t ht hW => ⟨⟨0, (), rfl, Or.inr ⟨rfl, fun h9 => h9.2.2 i_5 (by omega) ⟨(nky_eq hq_36.2.1 hky).mp (lg_cmp_0.mp c_45), c_46, Or.inr ⟨c_48, by omega⟩⟩⟩, ws_8, tys, hsm, htx, by rw [ht]; exact hP, va_K.moved hW.alike hK, hD, trivial⟩, hS.F ht⟩) hS.2.2 dX8_isInForce_105
    rw [hra0 i_5 q_24] at er_19
    subst er_19
    refine tp_v (y := .null) rfl ?_
    refine lv_astoreN (lv' := [(5, .null), (4, .int (nI i_5)), (3, .int a3), (2, .int (nI j9)), (1, .ref rl), (0, .ref h0)]) hx hb dX8_isInForce_45 hl (by decide) rfl (fun ls hl => ?_)
    refine lv_aloadN hx hb dX8_isInForce_47 (lv_at hl 0 rfl) ?_
    refine lv_ifnullN (tgt := 106) hx hb dX8_isInForce_49 (by decide) ?_
    refine lv_iinc (v := nI (i_5 + 1)) (lv' := [(4, .int (nI (i_5 + 1))), (5, .null), (3, .int a3), (2, .int (nI j9)), (1, .ref rl), (0, .ref h0)]) hx hb dX8_isInForce_106 hl (k := 1) rfl (nI_add i_5 1) (by decide) rfl (fun ls hl => ?_)
    refine lv_goto (tgt := 28) hx hb dX8_isInForce_109 (by decide) ?_
    exact ih_4 (i_5 + 1) ws_8 _ _ ls (by show 16 - (i_5 + 1) < 16 - i_5; omega) ⟨hlp_10, (show (i_5 + 1) ≤ 16 from by omega), (show ∀ k9 : Nat, k9 < (i_5 + 1) → k9 < rc → ¬ (sameN fv k9 j9 ∧ ¬ a3 < fv 17 k9 ∧ (fv 17 j9 < fv 17 k9 ∨ (fv 17 k9 = fv 17 j9 ∧ j9 < k9))) from fun k9 h9 => (Nat.lt_or_ge k9 i_5).elim (fun q => hno_7 k9 q) (fun q => by rw [show k9 = i_5 by omega]; exact fun hr9 => absurd hr9 (by omega)))⟩ hP hD hS (lv_sub hl [0, 2, 3, 4, 5] rfl)
  refine lv_aload_n hx hb dX8_isInForce_15 rfl (lv_at hl 1 rfl) ?_
  refine va_get (D := D) (ci := 3) (v := .int y4) (C := RX3) (T := TX3) (N := 5) hx hb hts hin3 hown hK hP krl erl rfl 4 (by decide) (hts (.fieldLink RX8 228 "HoneyHouse$Rule" "shutDay" "I") (List.mem_of_getElem? (i := 3) rfl)) (fun _ h9 => h9) rfl dX8_isInForce_16 ?_
  refine lv_iload_n hx hb dX8_isInForce_19 rfl (lv_at hl 3 rfl) ?_
  refine lv_icmp_gt (tgt := 25) hx hb dX8_isInForce_20 (by decide) (fun c_52 => ?_) (fun c_52 => ?_)
  · have g_53 := c_52
    rw [shu_4 hsh c_2] at g_53
    refine lv_iconst (v := 0) hx hb dX8_isInForce_25 (by decide) ?_
    refine lv_istore (lv' := [(4, .int 0), (0, .ref h0), (1, .ref rl), (2, .int (nI j9)), (3, .int a3)]) hx hb dX8_isInForce_26 hl (by decide) rfl (fun ls hl => ?_)
    refine lp_V (nL := 6) (σ := Nat) (lv := fun x9 => [(4, .int (nI x9)), (3, .int a3), (2, .int (nI j9)), (1, .ref rl), (0, .ref h0)]) (μ := fun x9 => 16 - x9) (J := fun x9 ws9 => sm ρ [] ws ws9 ∧ (x9 ≤ 16) ∧ (∀ k9 : Nat, k9 < x9 → k9 < rc → ¬ (sameN fv k9 j9 ∧ ¬ a3 < fv 17 k9 ∧ (fv 17 j9 < fv 17 k9 ∨ (fv 17 k9 = fv 17 j9 ∧ j9 < k9))))) (fun x9 ws_58 H locs ls hj hP hD hS hl ih_54 => ?_) 0 ws _ _ ls ⟨sm.rf _, (show 0 ≤ 16 from by omega), (show ∀ k9 : Nat, k9 < 0 → k9 < rc → ¬ (sameN fv k9 j9 ∧ ¬ a3 < fv 17 k9 ∧ (fv 17 j9 < fv 17 k9 ∨ (fv 17 k9 = fv 17 j9 ∧ j9 < k9))) from fun k9 h9 => absurd h9 (by omega))⟩ hP hD hS (lv_sub hl [0, 4, 3, 2, 1] rfl)
    obtain ⟨i_55, hx9⟩ : ∃ y9, y9 = x9 := ⟨_, rfl⟩
    subst hx9
    replace hj : sm ρ [] ws ws_58 ∧ (i_55 ≤ 16) ∧ (∀ k9 : Nat, k9 < i_55 → k9 < rc → ¬ (sameN fv k9 j9 ∧ ¬ a3 < fv 17 k9 ∧ (fv 17 j9 < fv 17 k9 ∨ (fv 17 k9 = fv 17 j9 ∧ j9 < k9)))) := hj
    obtain ⟨hm_59, hi_56, hno_57⟩ := hj
    have e_61 := hm_59.objK e0 (by decide)
    have e_62 := hm_59.arrQ era
    have e_63 := hm_59.objK erl (by decide)
    have e_64 := hm_59.keep hkcd ecd
    have hsm := hsm.tr (hm_59.mono (by decide))
    have hlp_60 := hm_59
    have hl : lv_has ls 6 [(4, .int (nI i_55)), (3, .int a3), (2, .int (nI j9)), (1, .ref rl), (0, .ref h0)] := hl
    refine lv_iload hx hb dX8_isInForce_28 (lv_at hl 0 rfl) ?_
    refine lv_aload_n hx hb dX8_isInForce_30 rfl (lv_at hl 4 rfl) ?_
    refine va_get (D := D) (ci := 8) (v := .ref ra) (C := RX8) (T := TX8) (N := 15) hx hb hts hin8 hown hK hP k0 e_61 rfl 3 (by decide) (hts (.fieldLink RX8 26 "HoneyHouse" "rules" "[LHoneyHouse$Rule;") (List.mem_of_getElem? (i := 4) rfl)) (fun _ h9 => h9) rfl dX8_isInForce_31 ?_
    refine va_alen (v := 16) hx hb hK hP kra tra e_62 ura rfl dX8_isInForce_34 ?_
    refine lv_icmp_ge (tgt := 112) hx hb dX8_isInForce_35 (by decide) (fun c_65 => ?_) (fun c_65 => ?_)
    · have d_66 := n_le (a := 16) (b := i_55) (by omega) (by omega) c_65
      refine lv_iconst (v := 1) hx hb dX8_isInForce_112 (by decide) ?_
      exact W.zret (v := 1) hx hb hr rfl (fun t ht hW => ⟨⟨1, (), rfl, Or.inl ⟨rfl, c_1, Or.inr g_53, fun k9 h9 => hno_57 k9 (by omega) h9⟩, ws_58, tys, hsm, htx, by rw [ht]; exact hP, va_K.moved hW.alike hK, hD, trivial⟩, hS.F ht⟩) hS.2.2 dX8_isInForce_113
    have d_67 := n_nle (a := 16) (b := i_55) (by omega) (by omega) c_65
    refine lv_aload_n hx hb dX8_isInForce_38 rfl (lv_at hl 4 rfl) ?_
    refine va_get (D := D) (ci := 8) (v := .ref ra) (C := RX8) (T := TX8) (N := 15) hx hb hts hin8 hown hK hP k0 e_61 rfl 3 (by decide) (hts (.fieldLink RX8 26 "HoneyHouse" "rules" "[LHoneyHouse$Rule;") (List.mem_of_getElem? (i := 4) rfl)) (fun _ h9 => h9) rfl dX8_isInForce_39 ?_
    refine lv_iload hx hb dX8_isInForce_42 (lv_at hl 0 rfl) ?_
    refine va_aldq (f := fra) (n := 16) hx hb hK hP kra tra e_62 ura (vp_in_nI (n := i_55) (by omega) (by omega)) dX8_isInForce_44 ?_
    obtain ⟨r_68, er_69⟩ : ∃ r, r = fra (nI i_55).toNatClampNeg := ⟨_, rfl⟩
    refine tp_v (y := va_rf r_68) (by rw [er_69]) ?_
    rw [nI_clamp (n := i_55) (by omega)] at er_69
    rcases Nat.lt_or_ge i_55 rc with q_74 | q_74
    · obtain ⟨v_70, ev_71, hL_72⟩ := hra1 i_55 q_74
      rw [ev_71] at er_69
      subst er_69
      have hL_73 := hL_72.sm hsm htx (fun k _ h1 h2 => by omega)
      obtain ⟨k_75, cd_76, n_77, x0_78, x3_79, x4_80, ph_81, e_82, wk_83, ⟨k_87, c9_88, t_89, f_90, e_91, u_92, wr_93, g_94⟩, hn_84, hs_85, hq_86⟩ := hL_73
      refine tp_v (y := .ref v_70) rfl ?_
      refine lv_astore (lv' := [(5, .ref v_70), (4, .int (nI i_55)), (3, .int a3), (2, .int (nI j9)), (1, .ref rl), (0, .ref h0)]) hx hb dX8_isInForce_45 hl (by decide) rfl (fun ls hl => ?_)
      refine lv_aload hx hb dX8_isInForce_47 (lv_at hl 0 rfl) ?_
      refine lv_ifnull hx hb dX8_isInForce_49 ?_
      refine lv_aload hx hb dX8_isInForce_52 (lv_at hl 0 rfl) ?_
      refine va_get (D := D) (ci := 3) (v := .long x0_78) (C := RX3) (T := TX3) (N := 5) hx hb hts hin3 hown hK hP k_75 e_82 rfl 0 (by decide) (hts (.fieldLink RX8 309 "HoneyHouse$Rule" "nameKey" "J") (List.mem_of_getElem? (i := 5) rfl)) (fun _ h9 => h9) rfl dX8_isInForce_54 ?_
      refine lv_aload_n hx hb dX8_isInForce_57 rfl (lv_at hl 4 rfl) ?_
      refine va_get (D := D) (ci := 3) (v := .long y0) (C := RX3) (T := TX3) (N := 5) hx hb hts hin3 hown hK hP krl e_63 rfl 0 (by decide) (hts (.fieldLink RX8 309 "HoneyHouse$Rule" "nameKey" "J") (List.mem_of_getElem? (i := 5) rfl)) (fun _ h9 => h9) rfl dX8_isInForce_58 ?_
      refine W.lcmp hx hb dX8_isInForce_61 ?_
      refine lv_if_ne (tgt := 106) hx hb dX8_isInForce_62 (by decide) (fun c_95 => ?_) (fun c_95 => ?_)
      · refine lv_iinc (v := nI (i_55 + 1)) (lv' := [(4, .int (nI (i_55 + 1))), (5, .ref v_70), (3, .int a3), (2, .int (nI j9)), (1, .ref rl), (0, .ref h0)]) hx hb dX8_isInForce_106 hl (k := 1) rfl (nI_add i_55 1) (by decide) rfl (fun ls hl => ?_)
        refine lv_goto (tgt := 28) hx hb dX8_isInForce_109 (by decide) ?_
        exact ih_54 (i_55 + 1) ws_58 _ _ ls (by show 16 - (i_55 + 1) < 16 - i_55; omega) ⟨hlp_60, (show (i_55 + 1) ≤ 16 from by omega), (show ∀ k9 : Nat, k9 < (i_55 + 1) → k9 < rc → ¬ (sameN fv k9 j9 ∧ ¬ a3 < fv 17 k9 ∧ (fv 17 j9 < fv 17 k9 ∨ (fv 17 k9 = fv 17 j9 ∧ j9 < k9))) from fun k9 h9 => (Nat.lt_or_ge k9 i_55).elim (fun q => hno_57 k9 q) (fun q => by rw [show k9 = i_55 by omega]; exact fun _ h8 => c_95 (lg_cmp_0.mpr ((nky_eq hq_86.2.1 hky).mpr h8.1))))⟩ hP hD hS (lv_sub hl [0, 2, 3, 4, 5] rfl)
      refine lv_aload hx hb dX8_isInForce_65 (lv_at hl 0 rfl) ?_
      refine va_get (D := D) (ci := 3) (v := .int (fv 17 i_55)) (C := RX3) (T := TX3) (N := 5) hx hb hts hin3 hown hK hP k_75 e_82 rfl 1 (by decide) (hts (.fieldLink RX8 227 "HoneyHouse$Rule" "from" "I") (List.mem_of_getElem? (i := 1) rfl)) (fun _ h9 => h9) rfl dX8_isInForce_67 ?_
      refine lv_iload_n hx hb dX8_isInForce_70 rfl (lv_at hl 2 rfl) ?_
      refine lv_icmp_gt (tgt := 106) hx hb dX8_isInForce_71 (by decide) (fun c_96 => ?_) (fun c_96 => ?_)
      · refine lv_iinc (v := nI (i_55 + 1)) (lv' := [(4, .int (nI (i_55 + 1))), (5, .ref v_70), (3, .int a3), (2, .int (nI j9)), (1, .ref rl), (0, .ref h0)]) hx hb dX8_isInForce_106 hl (k := 1) rfl (nI_add i_55 1) (by decide) rfl (fun ls hl => ?_)
        refine lv_goto (tgt := 28) hx hb dX8_isInForce_109 (by decide) ?_
        exact ih_54 (i_55 + 1) ws_58 _ _ ls (by show 16 - (i_55 + 1) < 16 - i_55; omega) ⟨hlp_60, (show (i_55 + 1) ≤ 16 from by omega), (show ∀ k9 : Nat, k9 < (i_55 + 1) → k9 < rc → ¬ (sameN fv k9 j9 ∧ ¬ a3 < fv 17 k9 ∧ (fv 17 j9 < fv 17 k9 ∨ (fv 17 k9 = fv 17 j9 ∧ j9 < k9))) from fun k9 h9 => (Nat.lt_or_ge k9 i_55).elim (fun q => hno_57 k9 q) (fun q => by rw [show k9 = i_55 by omega]; exact fun _ h8 => h8.2.1 c_96))⟩ hP hD hS (lv_sub hl [0, 2, 3, 4, 5] rfl)
      refine lv_aload hx hb dX8_isInForce_74 (lv_at hl 0 rfl) ?_
      refine va_get (D := D) (ci := 3) (v := .int (fv 17 i_55)) (C := RX3) (T := TX3) (N := 5) hx hb hts hin3 hown hK hP k_75 e_82 rfl 1 (by decide) (hts (.fieldLink RX8 227 "HoneyHouse$Rule" "from" "I") (List.mem_of_getElem? (i := 1) rfl)) (fun _ h9 => h9) rfl dX8_isInForce_76 ?_
      refine lv_aload_n hx hb dX8_isInForce_79 rfl (lv_at hl 4 rfl) ?_
      refine va_get (D := D) (ci := 3) (v := .int (fv 17 j9)) (C := RX3) (T := TX3) (N := 5) hx hb hts hin3 hown hK hP krl e_63 rfl 1 (by decide) (hts (.fieldLink RX8 227 "HoneyHouse$Rule" "from" "I") (List.mem_of_getElem? (i := 1) rfl)) (fun _ h9 => h9) rfl dX8_isInForce_80 ?_
      refine lv_icmp_gt (tgt := 104) hx hb dX8_isInForce_83 (by decide) (fun c_97 => ?_) (fun c_97 => ?_)
      · refine lv_iconst (v := 0) hx hb dX8_isInForce_104 (by decide) ?_
        exact W.zret (v := 0) hx hb hr rfl (fun t ht hW => ⟨⟨0, (), rfl, Or.inr ⟨rfl, fun h9 => h9.2.2 i_55 (by omega) ⟨(nky_eq hq_86.2.1 hky).mp (lg_cmp_0.mp c_95), c_96, Or.inl c_97⟩⟩, ws_58, tys, hsm, htx, by rw [ht]; exact hP, va_K.moved hW.alike hK, hD, trivial⟩, hS.F ht⟩) hS.2.2 dX8_isInForce_105
      refine lv_aload hx hb dX8_isInForce_86 (lv_at hl 0 rfl) ?_
      refine va_get (D := D) (ci := 3) (v := .int (fv 17 i_55)) (C := RX3) (T := TX3) (N := 5) hx hb hts hin3 hown hK hP k_75 e_82 rfl 1 (by decide) (hts (.fieldLink RX8 227 "HoneyHouse$Rule" "from" "I") (List.mem_of_getElem? (i := 1) rfl)) (fun _ h9 => h9) rfl dX8_isInForce_88 ?_
      refine lv_aload_n hx hb dX8_isInForce_91 rfl (lv_at hl 4 rfl) ?_
      refine va_get (D := D) (ci := 3) (v := .int (fv 17 j9)) (C := RX3) (T := TX3) (N := 5) hx hb hts hin3 hown hK hP krl e_63 rfl 1 (by decide) (hts (.fieldLink RX8 227 "HoneyHouse$Rule" "from" "I") (List.mem_of_getElem? (i := 1) rfl)) (fun _ h9 => h9) rfl dX8_isInForce_92 ?_
      refine lv_icmp_ne (tgt := 106) hx hb dX8_isInForce_95 (by decide) (fun c_98 => ?_) (fun c_98 => ?_)
      · refine lv_iinc (v := nI (i_55 + 1)) (lv' := [(4, .int (nI (i_55 + 1))), (5, .ref v_70), (3, .int a3), (2, .int (nI j9)), (1, .ref rl), (0, .ref h0)]) hx hb dX8_isInForce_106 hl (k := 1) rfl (nI_add i_55 1) (by decide) rfl (fun ls hl => ?_)
        refine lv_goto (tgt := 28) hx hb dX8_isInForce_109 (by decide) ?_
        exact ih_54 (i_55 + 1) ws_58 _ _ ls (by show 16 - (i_55 + 1) < 16 - i_55; omega) ⟨hlp_60, (show (i_55 + 1) ≤ 16 from by omega), (show ∀ k9 : Nat, k9 < (i_55 + 1) → k9 < rc → ¬ (sameN fv k9 j9 ∧ ¬ a3 < fv 17 k9 ∧ (fv 17 j9 < fv 17 k9 ∨ (fv 17 k9 = fv 17 j9 ∧ j9 < k9))) from fun k9 h9 => (Nat.lt_or_ge k9 i_55).elim (fun q => hno_57 k9 q) (fun q => by rw [show k9 = i_55 by omega]; exact fun _ h8 => h8.2.2.elim c_97 (fun h7 => c_98 h7.1)))⟩ hP hD hS (lv_sub hl [0, 2, 3, 4, 5] rfl)
      refine lv_iload hx hb dX8_isInForce_98 (lv_at hl 1 rfl) ?_
      refine lv_iload_n hx hb dX8_isInForce_100 rfl (lv_at hl 3 rfl) ?_
      refine lv_icmp_le (tgt := 106) hx hb dX8_isInForce_101 (by decide) (fun c_99 => ?_) (fun c_99 => ?_)
      · have d_100 := n_le (a := i_55) (b := j9) (by omega) (by omega) c_99
        refine lv_iinc (v := nI (i_55 + 1)) (lv' := [(4, .int (nI (i_55 + 1))), (5, .ref v_70), (3, .int a3), (2, .int (nI j9)), (1, .ref rl), (0, .ref h0)]) hx hb dX8_isInForce_106 hl (k := 1) rfl (nI_add i_55 1) (by decide) rfl (fun ls hl => ?_)
        refine lv_goto (tgt := 28) hx hb dX8_isInForce_109 (by decide) ?_
        exact ih_54 (i_55 + 1) ws_58 _ _ ls (by show 16 - (i_55 + 1) < 16 - i_55; omega) ⟨hlp_60, (show (i_55 + 1) ≤ 16 from by omega), (show ∀ k9 : Nat, k9 < (i_55 + 1) → k9 < rc → ¬ (sameN fv k9 j9 ∧ ¬ a3 < fv 17 k9 ∧ (fv 17 j9 < fv 17 k9 ∨ (fv 17 k9 = fv 17 j9 ∧ j9 < k9))) from fun k9 h9 => (Nat.lt_or_ge k9 i_55).elim (fun q => hno_57 k9 q) (fun q => by rw [show k9 = i_55 by omega]; exact fun _ h8 => h8.2.2.elim c_97 (fun h7 => absurd h7.2 (by omega))))⟩ hP hD hS (lv_sub hl [0, 2, 3, 4, 5] rfl)
      have d_101 := n_nle (a := i_55) (b := j9) (by omega) (by omega) c_99
      refine lv_iconst (v := 0) hx hb dX8_isInForce_104 (by decide) ?_
      exact W.zret (v := 0) hx hb hr rfl (fun t ht hW => ⟨⟨0, (), rfl, Or.inr ⟨rfl, fun h9 => h9.2.2 i_55 (by omega) ⟨(nky_eq hq_86.2.1 hky).mp (lg_cmp_0.mp c_95), c_96, Or.inr ⟨c_98, by omega⟩⟩⟩, ws_58, tys, hsm, htx, by rw [ht]; exact hP, va_K.moved hW.alike hK, hD, trivial⟩, hS.F ht⟩) hS.2.2 dX8_isInForce_105
    rw [hra0 i_55 q_74] at er_69
    subst er_69
    refine tp_v (y := .null) rfl ?_
    refine lv_astoreN (lv' := [(5, .null), (4, .int (nI i_55)), (3, .int a3), (2, .int (nI j9)), (1, .ref rl), (0, .ref h0)]) hx hb dX8_isInForce_45 hl (by decide) rfl (fun ls hl => ?_)
    refine lv_aloadN hx hb dX8_isInForce_47 (lv_at hl 0 rfl) ?_
    refine lv_ifnullN (tgt := 106) hx hb dX8_isInForce_49 (by decide) ?_
    refine lv_iinc (v := nI (i_55 + 1)) (lv' := [(4, .int (nI (i_55 + 1))), (5, .null), (3, .int a3), (2, .int (nI j9)), (1, .ref rl), (0, .ref h0)]) hx hb dX8_isInForce_106 hl (k := 1) rfl (nI_add i_55 1) (by decide) rfl (fun ls hl => ?_)
    refine lv_goto (tgt := 28) hx hb dX8_isInForce_109 (by decide) ?_
    exact ih_54 (i_55 + 1) ws_58 _ _ ls (by show 16 - (i_55 + 1) < 16 - i_55; omega) ⟨hlp_60, (show (i_55 + 1) ≤ 16 from by omega), (show ∀ k9 : Nat, k9 < (i_55 + 1) → k9 < rc → ¬ (sameN fv k9 j9 ∧ ¬ a3 < fv 17 k9 ∧ (fv 17 j9 < fv 17 k9 ∨ (fv 17 k9 = fv 17 j9 ∧ j9 < k9))) from fun k9 h9 => (Nat.lt_or_ge k9 i_55).elim (fun q => hno_57 k9 q) (fun q => by rw [show k9 = i_55 by omega]; exact fun hr9 => absurd hr9 (by omega)))⟩ hP hD hS (lv_sub hl [0, 2, 3, 4, 5] rfl)
  refine lv_iconst (v := 0) hx hb dX8_isInForce_23 (by decide) ?_
  exact W.zret (v := 0) hx hb hr rfl (fun t ht hW => ⟨⟨0, (), rfl, Or.inr ⟨rfl, fun h9 => h9.2.1.elim ((shu_n hsh).2 c_2) (fun h8 => c_52 (by rw [shu_4 hsh c_2]; exact h8))⟩, ws, tys, hsm, htx, by rw [ht]; exact hP, va_K.moved hW.alike hK, hD, trivial⟩, hS.F ht⟩) hS.2.2 dX8_isInForce_24
set_option maxHeartbeats 4000000 in
set_option maxRecDepth 100000 in
theorem h_name (l : Launch) (D : va_G) (ρ : Nat → Nat) (ws : va_W) (tys : List (ClassId × FieldType)) (fv : Nat → Nat → Int32) (h0 lc bc rc fc : Nat) (dn : Int32) (tl : Nat) (a1 a2 a3 : Int32) (sz : Nat) (X : XI ρ fv ws tys h0 lc bc rc fc dn tl) : Met l yX8_name wsX8_name ({ frames := 6, cells := 0, slots := 0, locals := 146 }) (va_Pc [.ref h0, .int a1, .int a2, .int a3] (fun U => U.heap.size = sz ∧ va_P D vwCl ws U.heap ∧ va_K D vwCl tys U ∧ va_D (fun _ => True) ws ∧ NZ U)) (va_Qi (fun (r : Int32) (_ : Unit) => (namN fv bc a1 a2 ∧ r = (-1)) ∨ (¬ namN fv bc a1 a2 ∧ namV fv lc rc (rowI a1 a2) a3 r)) (fun (_ : Unit) (t : State) => ∃ (ws' : va_W) (tys' : List (ClassId × FieldType)), sm ρ [] ws ws' ∧ tyx tys tys' ∧ va_P D vwCl ws' t.heap ∧ va_K D vwCl tys' t ∧ va_D (va_A ws sz) ws' ∧ (XI ρ fv ws' tys' h0 lc bc rc fc dn tl)) (va_A ws sz)) 0 0 (va_A ws sz) := by
  refine Met.ofW (cc := cX8_name) (maxL := 7) (ret := (some .int)) (by decide) rfl ?_
  intro p e s m args below meth c s₁ B hml hv
  obtain ⟨rfl, hsz, hP, hK, hD0, hnz⟩ := hv
  have hx := B.exec
  have hb := B.bytes
  have hr := B.returns
  have hts := atoms_spec (ws := wsX8_name) B.pre
  have hown : s.vm.findClass RX8 = some m.cls := findClass_of_methodNamed B.named
  have hlocks := B.notSynchronized
  subst hsz
  have hD := hD0.self (sz := s.heap.size)
  generalize hAe : va_A ws s.heap.size = A at hD ⊢
  have hA : ∀ q : Nat, s.heap.size ≤ q → A q := fun q h => by rw [← hAe]; exact Or.inr h
  have hS : va_S A s.heap s.heap [] := va_S.rf
  have hsm : sm ρ [] ws ws := sm.rf ws
  have htx : tyx tys tys := tyx.rf tys
  have hin7 : ∀ w ∈ u_ws RX7 TX7 5, w ∈ wsX8_name := (fun _ h9 => List.mem_cons_of_mem _ (List.mem_append_left _ (List.mem_append_left _ (List.mem_append_left _ ((List.mem_append_right _ h9))))))
  have hin8 : ∀ w ∈ u_ws RX8 TX8 15, w ∈ wsX8_name := (fun _ h9 => List.mem_cons_of_mem _ (List.mem_append_left _ (List.mem_append_left _ ((List.mem_append_right _ h9)))))
  have hl := lv_entry ([.ref h0, .int a1, .int a2, .int a3]) (n := 7) (Nat.le_of_ble_eq_true rfl)
  rw [lg_entry_eq]
  generalize (lg_sl ([.ref h0, .int a1, .int a2, .int a3]) ++ List.replicate (7 - (lg_sl ([.ref h0, .int a1, .int a2, .int a3])).length) Slot.unset).toArray = ls at hl ⊢
  have hl : lv_has ls 7 [(0, .ref h0), (1, .int a1), (2, .int a2), (3, .int a3)] := hl
  obtain ⟨k0, la, ta, ba, ra, sn, rd, dr, bl, vd, fb, e0, w0, hle0, hnum, qla, qta, qba, qra, qsn, qrd, qdr, qbl, qvd, qfb⟩ := id X
  obtain ⟨kra, cra, tra, fra, era, ura, pra⟩ := id qra.q
  have hlc := hnum.1
  obtain ⟨kta, cta, tta, fta, eta, uta, hta0, hta1⟩ := id qta
  obtain ⟨kba, cba, tba, fba, eba, uba, hba0, hba1⟩ := id qba
  have hrc := hnum.2.2.1
  obtain ⟨kra, cra, tra, fra, era, ura, hra0, hra1⟩ := id qra
  refine lv_aload_n hx hb dX8_name_0 rfl (lv_at hl 0 rfl) ?_
  refine lv_iload_n hx hb dX8_name_1 rfl (lv_at hl 1 rfl) ?_
  refine lv_iload_n hx hb dX8_name_2 rfl (lv_at hl 2 rfl) ?_
  refine va_csq (W.runV (As := [.int a1, .int a2]) (rest := []) ⟨hx, hb, hml, hown, hts⟩ (s_vesselAt l D ws tys h0 k0 _ ta kta cta fta tta ba kba cba fba tba a1 a2 e0 rfl eta uta rfl eba uba) (cwV 2 hts gX8_name_X8_vesselAt rfl rfl rfl (by decide +kernel) ⟨Nat.le_of_ble_eq_true rfl, Nat.le_of_ble_eq_true rfl⟩) ⟨fun a U g mk q => ⟨q.1, q.2.1, va_K.moved (u := U) (U := U.calling g mk a) (Vm.Alike.refl U.vm) q.2.2⟩, va_recv hK hP (ci := 8) (q0 := k0) rfl e0, fun U hU hW => ⟨rfl, by rw [hU]; exact hP, va_K.moved hW.alike hK⟩⟩ rfl rfl hl.1 rfl (lv_room (Nat.le_of_ble_eq_true rfl)) dX8_name_3 ⟨Nat.le_of_ble_eq_true rfl, Nat.le_of_ble_eq_true rfl⟩) (fun r_1 k_2 => ?_)
  have hz_3 := vesx hnum.2.1 hta1 hba0 hba1 k_2
  rcases hz_3 with ⟨rfl, rn_4⟩ | ⟨rn_4, hr_5, v_6, rfl, hV_7⟩
  · refine tp_v (y := .null) rfl ?_
    refine lv_astoreN (lv' := [(4, .null), (0, .ref h0), (1, .int a1), (2, .int a2), (3, .int a3)]) hx hb dX8_name_6 hl (by decide) rfl (fun ls hl => ?_)
    refine lv_aloadN hx hb dX8_name_8 (lv_at hl 0 rfl) ?_
    refine lv_ifnullN (tgt := 21) hx hb dX8_name_10 (by decide) ?_
    refine lv_iconst (v := (-1)) hx hb dX8_name_21 (by decide) ?_
    exact W.iret (v := (-1)) hx hb hr (fun t ht hW => ⟨⟨(-1), (), rfl, Or.inl ⟨Or.inl rn_4, rfl⟩, ws, tys, hsm, htx, by rw [ht]; exact hP, va_K.moved hW.alike hK, hD, X.sm hsm htx (by decide) (by decide)⟩, hS.F ht⟩) hS.2.2 dX8_name_22
  obtain ⟨k_9, g_10, e_11, wk_12, k_13, c9_14, t_15, f_16, e_17, u_18, wr_19, g_20⟩ := hV_7
  refine tp_v (y := .ref v_6) rfl ?_
  refine lv_astore (lv' := [(4, .ref v_6), (0, .ref h0), (1, .int a1), (2, .int a2), (3, .int a3)]) hx hb dX8_name_6 hl (by decide) rfl (fun ls hl => ?_)
  refine lv_aload hx hb dX8_name_8 (lv_at hl 0 rfl) ?_
  refine lv_ifnull hx hb dX8_name_10 ?_
  refine lv_aload hx hb dX8_name_13 (lv_at hl 0 rfl) ?_
  refine va_get (D := D) (ci := 7) (v := .int (mall (fv 9) (rowI a1 a2) 40)) (C := RX7) (T := TX7) (N := 5) hx hb hts hin7 hown hK hP k_9 e_11 rfl 1 (by decide) (hts (.fieldLink RX8 144 "HoneyHouse$Vessel" "total" "I") (List.mem_of_getElem? (i := 1) rfl)) (fun _ h9 => h9) rfl dX8_name_15 ?_
  refine lv_if_ne (tgt := 23) hx hb dX8_name_18 (by decide) (fun c_21 => ?_) (fun c_21 => ?_)
  · refine lv_iconst (v := 0) hx hb dX8_name_23 (by decide) ?_
    refine lv_istore (lv' := [(5, .int 0), (4, .ref v_6), (0, .ref h0), (1, .int a1), (2, .int a2), (3, .int a3)]) hx hb dX8_name_24 hl (by decide) rfl (fun ls hl => ?_)
    refine lp_V (nL := 7) (σ := Nat) (lv := fun x9 => [(5, .int (nI x9)), (4, .ref v_6), (3, .int a3), (0, .ref h0)]) (μ := fun x9 => 16 - x9) (J := fun x9 ws9 => sm ρ [] ws ws9 ∧ (x9 ≤ 16) ∧ (∀ k9 : Nat, k9 < x9 → k9 < rc → ¬ (inF fv rc k9 a3 ∧ sureP fv lc (rowI a1 a2) k9))) (fun x9 ws_26 H locs ls hj hP hD hS hl ih_22 => ?_) 0 ws _ _ ls ⟨sm.rf _, (show 0 ≤ 16 from by omega), (show ∀ k9 : Nat, k9 < 0 → k9 < rc → ¬ (inF fv rc k9 a3 ∧ sureP fv lc (rowI a1 a2) k9) from fun k9 h9 => absurd h9 (by omega))⟩ hP hD hS (lv_sub hl [0, 1, 5, 2] rfl)
    obtain ⟨i_23, hx9⟩ : ∃ y9, y9 = x9 := ⟨_, rfl⟩
    subst hx9
    replace hj : sm ρ [] ws ws_26 ∧ (i_23 ≤ 16) ∧ (∀ k9 : Nat, k9 < i_23 → k9 < rc → ¬ (inF fv rc k9 a3 ∧ sureP fv lc (rowI a1 a2) k9)) := hj
    obtain ⟨hm_27, hi_24, hno_25⟩ := hj
    have e_29 := hm_27.objK e0 (by decide)
    have e_30 := hm_27.arrQ eta
    have e_31 := hm_27.arrQ eba
    have e_32 := hm_27.arrQ era
    have e_33 := hm_27.keep (by rw [wk_12]; omega) e_11
    have e_34 := hm_27.keep (by rw [wr_19]; omega) e_17
    have hsm := hsm.tr (hm_27.mono (by decide))
    have hlp_28 := hm_27
    have hl : lv_has ls 7 [(5, .int (nI i_23)), (4, .ref v_6), (3, .int a3), (0, .ref h0)] := hl
    refine lv_iload hx hb dX8_name_26 (lv_at hl 0 rfl) ?_
    refine lv_aload_n hx hb dX8_name_28 rfl (lv_at hl 3 rfl) ?_
    refine va_get (D := D) (ci := 8) (v := .ref ra) (C := RX8) (T := TX8) (N := 15) hx hb hts hin8 hown hK hP k0 e_29 rfl 3 (by decide) (hts (.fieldLink RX8 26 "HoneyHouse" "rules" "[LHoneyHouse$Rule;") (List.mem_of_getElem? (i := 2) rfl)) (fun _ h9 => h9) rfl dX8_name_29 ?_
    refine va_alen (v := 16) hx hb hK hP kra tra e_32 ura rfl dX8_name_32 ?_
    refine lv_icmp_ge (tgt := 83) hx hb dX8_name_33 (by decide) (fun c_35 => ?_) (fun c_35 => ?_)
    · have d_36 := n_le (a := 16) (b := i_23) (by omega) (by omega) c_35
      refine lv_iconst (v := (-1)) hx hb dX8_name_83 (by decide) ?_
      exact W.iret (v := (-1)) hx hb hr (fun t ht hW => ⟨⟨(-1), (), rfl, Or.inr ⟨(fun h9 => Or.elim h9 rn_4 c_21), Or.inl ⟨rfl, fun k9 h9 => hno_25 k9 (by omega) h9⟩⟩, ws_26, tys, hsm, htx, by rw [ht]; exact hP, va_K.moved hW.alike hK, hD, X.sm hsm htx (by decide) (by decide)⟩, hS.F ht⟩) hS.2.2 dX8_name_84
    have d_37 := n_nle (a := 16) (b := i_23) (by omega) (by omega) c_35
    refine lv_aload_n hx hb dX8_name_36 rfl (lv_at hl 3 rfl) ?_
    refine va_get (D := D) (ci := 8) (v := .ref ra) (C := RX8) (T := TX8) (N := 15) hx hb hts hin8 hown hK hP k0 e_29 rfl 3 (by decide) (hts (.fieldLink RX8 26 "HoneyHouse" "rules" "[LHoneyHouse$Rule;") (List.mem_of_getElem? (i := 2) rfl)) (fun _ h9 => h9) rfl dX8_name_37 ?_
    refine lv_iload hx hb dX8_name_40 (lv_at hl 0 rfl) ?_
    refine va_aldq (f := fra) (n := 16) hx hb hK hP kra tra e_32 ura (vp_in_nI (n := i_23) (by omega) (by omega)) dX8_name_42 ?_
    obtain ⟨r_38, er_39⟩ : ∃ r, r = fra (nI i_23).toNatClampNeg := ⟨_, rfl⟩
    refine tp_v (y := va_rf r_38) (by rw [er_39]) ?_
    rw [nI_clamp (n := i_23) (by omega)] at er_39
    rcases Nat.lt_or_ge i_23 rc with q_44 | q_44
    · obtain ⟨v_40, ev_41, hL_42⟩ := hra1 i_23 q_44
      rw [ev_41] at er_39
      subst er_39
      have hL_43 := hL_42.sm hsm htx (fun k _ h1 h2 => by omega)
      obtain ⟨k_45, cd_46, n_47, x0_48, x3_49, x4_50, ph_51, e_52, wk_53, ⟨k_57, c9_58, t_59, f_60, e_61, u_62, wr_63, g_64⟩, hn_54, hs_55, hq_56⟩ := hL_43
      refine tp_v (y := .ref v_40) rfl ?_
      refine lv_astore (lv' := [(6, .ref v_40), (5, .int (nI i_23)), (4, .ref v_6), (3, .int a3), (0, .ref h0)]) hx hb dX8_name_43 hl (by decide) rfl (fun ls hl => ?_)
      refine lv_aload hx hb dX8_name_45 (lv_at hl 0 rfl) ?_
      refine lv_ifnull hx hb dX8_name_47 ?_
      refine lv_aload_n hx hb dX8_name_50 rfl (lv_at hl 4 rfl) ?_
      refine lv_aload hx hb dX8_name_51 (lv_at hl 0 rfl) ?_
      refine lv_iload hx hb dX8_name_53 (lv_at hl 1 rfl) ?_
      refine lv_iload_n hx hb dX8_name_55 rfl (lv_at hl 3 rfl) ?_
      have hFc := free_all hD hS hA
      refine va_calli (va_runV (As := [.ref v_40, .int (nI i_23), .int a3]) (rest := []) ⟨hx, hb, hml, hown, hts⟩ (a_isInForce l D ρ ws_26 tys fv h0 lc bc rc fc dn tl v_40 k_45 cd_46 k_57 n_47 c9_58 t_59 f_60 x0_48 x3_49 x4_50 i_23 a3 H.size (X.sm hsm htx (by decide) (by decide)) hn_54 e_52 e_61 u_62 (by rw [wr_63]; omega) (by omega) hs_55 hq_56.2.1) (cwV 3 hts gX8_name_X8_isInForce rfl rfl rfl (by decide +kernel) ⟨Nat.le_of_ble_eq_true rfl, Nat.le_of_ble_eq_true rfl⟩) ⟨fun a U g mk q => by obtain ⟨q0, q1, qP, qK, qD, qZ⟩ := q; exact ⟨q0, q1, qP, va_K.moved (u := U) (U := U.calling g mk a) (Vm.Alike.refl U.vm) qK, qD, NZ.same rfl qZ⟩, va_recv hK hP (ci := 8) (q0 := k0) rfl e_29, fun U hU hW => ⟨rfl, by rw [hU], by rw [hU]; exact hP, va_K.moved hW.alike hK, hD.weaken (fun _ _ _ _ => trivial), NZ.warm hW hnz⟩⟩ rfl rfl hl.1 rfl (lv_room (Nat.le_of_ble_eq_true rfl)) dX8_name_56 ⟨Nat.le_of_ble_eq_true rfl, Nat.le_of_ble_eq_true rfl⟩) hS (fun q _ h => hFc q h) hFc (fun r_65 u t H1 locs ht hvm w_66 hB hz1 hk1 hS => ?_)
      obtain ⟨ws_67, ty_68, hm_69, ht_71, hP1, hK1, hD1, hx_70⟩ := hB
      rw [ht] at hP1
      have hK := va_K.moved hvm.symm hK1
      have hD := hD1.weaken (fun _ _ _ h => hFc _ h)
      generalize H1 = H at hP1 hS ⊢
      have hP := hP1
      have e_72 := hm_69.objK e_29 (by decide)
      have e_73 := hm_69.arrQ e_30
      have u_74 := ht_71 _ _ uta
      have e_75 := hm_69.arrQ e_31
      have u_76 := ht_71 _ _ uba
      have e_77 := hm_69.arrQ e_32
      have u_78 := ht_71 _ _ ura
      have e_79 := hm_69.keep (by rw [wk_12]; omega) e_33
      have e_80 := hm_69.keep (by rw [wr_19]; omega) e_34
      have u_81 := ht_71 _ _ u_18
      have e_82 := hm_69.keep (by rw [wk_53]; omega) e_52
      have e_83 := hm_69.keep (by rw [wr_63]; omega) e_61
      have u_84 := ht_71 _ _ u_62
      have hsm := hsm.tr (hm_69.mono (by decide))
      have hlp_28 := hlp_28.tr (hm_69.mono (by decide))
      have htx := htx.tr ht_71
      rcases w_66 with ⟨rfl, fo_85⟩ | ⟨rfl, fo_85⟩
      · refine lv_if_eq (tgt := 77) hx hb dX8_name_59 (by decide) (fun c_86 => absurd c_86 (by decide)) (fun c_86 => ?_)
        refine lv_aload_n hx hb dX8_name_62 rfl (lv_at hl 4 rfl) ?_
        refine lv_aload hx hb dX8_name_63 (lv_at hl 0 rfl) ?_
        refine lv_aload hx hb dX8_name_65 (lv_at hl 2 rfl) ?_
        obtain ⟨T_87, eT_88, fT_89, hT_90⟩ := hq_56.1
        have hFc := free_all hD hS hA
        refine va_calli (va_runV (As := [.ref v_40, .ref v_6]) (rest := []) ⟨hx, hb, hml, hown, hts⟩ (a_verdict l D ρ ws_67 ty_68 fv h0 lc bc rc fc dn tl v_6 k_9 (mall (fv 9) (rowI a1 a2) 40) (fv 10 (rowI a1 a2)) (fv 11 (rowI a1 a2)) (fv 12 (rowI a1 a2)) g_10 k_13 c9_14 t_15 f_16 v_40 k_45 cd_46 k_57 n_47 c9_58 t_59 f_60 x0_48 (fv 17 i_23) x3_49 x4_50 T_87 (rowI a1 a2) H.size (X.sm hsm htx (by decide) (by decide)) (by rw [wk_12]; omega) (by rw [wr_19]; omega) e_79 e_80 u_81 hn_54 e_82 e_83 u_84 (by rw [wr_63]; omega) eT_88 (fun i hi => (g_64 i hi).trans (fT_89 i hi)) hT_90.2 g_20 rfl rfl) (cwV 2 hts gX8_name_X8_verdict rfl rfl rfl (by decide +kernel) ⟨Nat.le_of_ble_eq_true rfl, Nat.le_of_ble_eq_true rfl⟩) ⟨fun a U g mk q => by obtain ⟨q0, q1, qP, qK, qD, qZ⟩ := q; exact ⟨q0, q1, qP, va_K.moved (u := U) (U := U.calling g mk a) (Vm.Alike.refl U.vm) qK, qD, NZ.same rfl qZ⟩, va_recv hK hP (ci := 8) (q0 := k0) rfl e_72, fun U hU hW => ⟨rfl, by rw [hU], by rw [hU]; exact hP, va_K.moved hW.alike hK, hD.weaken (fun _ _ _ _ => trivial), NZ.warm hW hnz⟩⟩ rfl rfl hl.1 rfl (lv_room (Nat.le_of_ble_eq_true rfl)) dX8_name_67 ⟨Nat.le_of_ble_eq_true rfl, Nat.le_of_ble_eq_true rfl⟩) hS (fun q _ h => hFc q h) hFc (fun r_91 u t H1 locs ht hvm w_92 hB hz1 hk1 hS => ?_)
        obtain ⟨ws_93, ty_94, hm_95, ht_97, hP1, hK1, hD1, hx_96⟩ := hB
        rw [ht] at hP1
        have hK := va_K.moved hvm.symm hK1
        have hD := hD1.weaken (fun _ _ _ h => hFc _ h)
        generalize H1 = H at hP1 hS ⊢
        have hP := hP1
        have e_98 := hm_95.objK e_72 (by decide)
        have e_99 := hm_95.arrQ e_73
        have u_100 := ht_97 _ _ u_74
        have e_101 := hm_95.arrQ e_75
        have u_102 := ht_97 _ _ u_76
        have e_103 := hm_95.arrQ e_77
        have u_104 := ht_97 _ _ u_78
        have e_105 := hm_95.keep (by rw [wk_12]; omega) e_79
        have e_106 := hm_95.keep (by rw [wr_19]; omega) e_80
        have u_107 := ht_97 _ _ u_81
        have e_108 := hm_95.keep (by rw [wk_53]; omega) e_82
        have e_109 := hm_95.keep (by rw [wr_63]; omega) e_83
        have u_110 := ht_97 _ _ u_84
        have hsm := hsm.tr (hm_95.mono (by decide))
        have hlp_28 := hlp_28.tr (hm_95.mono (by decide))
        have htx := htx.tr ht_97
        obtain ⟨x_111, ex_112⟩ : ∃ x9 : Nat, x9 = vT (tsv fv lc (rowI a1 a2)) T_87 := ⟨_, rfl⟩
        rw [← ex_112] at w_92
        obtain ⟨h_113, h_114⟩ := w_92
        rcases lt3 h_113 with rfl | rfl | rfl
        · obtain rfl : r_91 = (0 : Int32) := h_114
          refine lv_iconst (v := 2) hx hb dX8_name_70 (by decide) ?_
          refine lv_icmp_ne (tgt := 77) hx hb dX8_name_71 (by decide) (fun c_115 => ?_) (fun c_115 => absurd c_115 (by decide))
          refine lv_iinc (v := nI (i_23 + 1)) (lv' := [(5, .int (nI (i_23 + 1))), (6, .ref v_40), (4, .ref v_6), (3, .int a3), (0, .ref h0)]) hx hb dX8_name_77 hl (k := 1) rfl (nI_add i_23 1) (by decide) rfl (fun ls hl => ?_)
          refine lv_goto (tgt := 26) hx hb dX8_name_80 (by decide) ?_
          exact ih_22 (i_23 + 1) ws_93 _ _ ls (by show 16 - (i_23 + 1) < 16 - i_23; omega) ⟨hlp_28, (show (i_23 + 1) ≤ 16 from by omega), (show ∀ k9 : Nat, k9 < (i_23 + 1) → k9 < rc → ¬ (inF fv rc k9 a3 ∧ sureP fv lc (rowI a1 a2) k9) from fun k9 h9 => (Nat.lt_or_ge k9 i_23).elim (fun q => hno_25 k9 q) (fun q => by rw [show k9 = i_23 by omega]; exact fun _ h8 => sure_no hT_90 ex_112 (by omega) h8.2))⟩ hP hD hS (lv_sub hl [0, 2, 3, 4] rfl)
        · obtain rfl : r_91 = (1 : Int32) := h_114
          refine lv_iconst (v := 2) hx hb dX8_name_70 (by decide) ?_
          refine lv_icmp_ne (tgt := 77) hx hb dX8_name_71 (by decide) (fun c_116 => ?_) (fun c_116 => absurd c_116 (by decide))
          refine lv_iinc (v := nI (i_23 + 1)) (lv' := [(5, .int (nI (i_23 + 1))), (6, .ref v_40), (4, .ref v_6), (3, .int a3), (0, .ref h0)]) hx hb dX8_name_77 hl (k := 1) rfl (nI_add i_23 1) (by decide) rfl (fun ls hl => ?_)
          refine lv_goto (tgt := 26) hx hb dX8_name_80 (by decide) ?_
          exact ih_22 (i_23 + 1) ws_93 _ _ ls (by show 16 - (i_23 + 1) < 16 - i_23; omega) ⟨hlp_28, (show (i_23 + 1) ≤ 16 from by omega), (show ∀ k9 : Nat, k9 < (i_23 + 1) → k9 < rc → ¬ (inF fv rc k9 a3 ∧ sureP fv lc (rowI a1 a2) k9) from fun k9 h9 => (Nat.lt_or_ge k9 i_23).elim (fun q => hno_25 k9 q) (fun q => by rw [show k9 = i_23 by omega]; exact fun _ h8 => sure_no hT_90 ex_112 (by omega) h8.2))⟩ hP hD hS (lv_sub hl [0, 2, 3, 4] rfl)
        obtain rfl : r_91 = (2 : Int32) := h_114
        refine lv_iconst (v := 2) hx hb dX8_name_70 (by decide) ?_
        refine lv_icmp_ne (tgt := 77) hx hb dX8_name_71 (by decide) (fun c_117 => absurd (by decide) c_117) (fun c_117 => ?_)
        refine lv_iload hx hb dX8_name_74 (lv_at hl 1 rfl) ?_
        exact W.iret (v := nI i_23) hx hb hr (fun t ht hW => ⟨⟨nI i_23, (), rfl, Or.inr ⟨(fun h9 => Or.elim h9 rn_4 c_21), Or.inr ⟨i_23, by omega, rfl, ⟨fo_85, T_87, hT_90, ex_112.symm⟩, fun k9 h9 => hno_25 k9 h9 (by omega)⟩⟩, ws_93, ty_94, hsm, htx, by rw [ht]; exact hP, va_K.moved hW.alike hK, hD, X.sm hsm htx (by decide) (by decide)⟩, hS.F ht⟩) hS.2.2 dX8_name_76
      refine lv_if_eq (tgt := 77) hx hb dX8_name_59 (by decide) (fun c_118 => ?_) (fun c_118 => absurd (by decide) c_118)
      refine lv_iinc (v := nI (i_23 + 1)) (lv' := [(5, .int (nI (i_23 + 1))), (6, .ref v_40), (4, .ref v_6), (3, .int a3), (0, .ref h0)]) hx hb dX8_name_77 hl (k := 1) rfl (nI_add i_23 1) (by decide) rfl (fun ls hl => ?_)
      refine lv_goto (tgt := 26) hx hb dX8_name_80 (by decide) ?_
      exact ih_22 (i_23 + 1) ws_67 _ _ ls (by show 16 - (i_23 + 1) < 16 - i_23; omega) ⟨hlp_28, (show (i_23 + 1) ≤ 16 from by omega), (show ∀ k9 : Nat, k9 < (i_23 + 1) → k9 < rc → ¬ (inF fv rc k9 a3 ∧ sureP fv lc (rowI a1 a2) k9) from fun k9 h9 => (Nat.lt_or_ge k9 i_23).elim (fun q => hno_25 k9 q) (fun q => by rw [show k9 = i_23 by omega]; exact fun _ h8 => fo_85 h8.1))⟩ hP hD hS (lv_sub hl [0, 2, 3, 4] rfl)
    rw [hra0 i_23 q_44] at er_39
    subst er_39
    refine tp_v (y := .null) rfl ?_
    refine lv_astoreN (lv' := [(6, .null), (5, .int (nI i_23)), (4, .ref v_6), (3, .int a3), (0, .ref h0)]) hx hb dX8_name_43 hl (by decide) rfl (fun ls hl => ?_)
    refine lv_aloadN hx hb dX8_name_45 (lv_at hl 0 rfl) ?_
    refine lv_ifnullN (tgt := 77) hx hb dX8_name_47 (by decide) ?_
    refine lv_iinc (v := nI (i_23 + 1)) (lv' := [(5, .int (nI (i_23 + 1))), (6, .null), (4, .ref v_6), (3, .int a3), (0, .ref h0)]) hx hb dX8_name_77 hl (k := 1) rfl (nI_add i_23 1) (by decide) rfl (fun ls hl => ?_)
    refine lv_goto (tgt := 26) hx hb dX8_name_80 (by decide) ?_
    exact ih_22 (i_23 + 1) ws_26 _ _ ls (by show 16 - (i_23 + 1) < 16 - i_23; omega) ⟨hlp_28, (show (i_23 + 1) ≤ 16 from by omega), (show ∀ k9 : Nat, k9 < (i_23 + 1) → k9 < rc → ¬ (inF fv rc k9 a3 ∧ sureP fv lc (rowI a1 a2) k9) from fun k9 h9 => (Nat.lt_or_ge k9 i_23).elim (fun q => hno_25 k9 q) (fun q => by rw [show k9 = i_23 by omega]; exact fun hr9 => absurd hr9 (by omega)))⟩ hP hD hS (lv_sub hl [0, 2, 3, 4] rfl)
  refine lv_iconst (v := (-1)) hx hb dX8_name_21 (by decide) ?_
  exact W.iret (v := (-1)) hx hb hr (fun t ht hW => ⟨⟨(-1), (), rfl, Or.inl ⟨Or.inr c_21, rfl⟩, ws, tys, hsm, htx, by rw [ht]; exact hP, va_K.moved hW.alike hK, hD, X.sm hsm htx (by decide) (by decide)⟩, hS.F ht⟩) hS.2.2 dX8_name_22
