theorem dX8_isPollenLow_0 : decode cX8_isPollenLow 0 = .ok (.iload_n 0, 1) := by decide +kernel
theorem dX8_isPollenLow_1 : decode cX8_isPollenLow 1 = .ok (.bipush 10, 2) := by decide +kernel
theorem dX8_isPollenLow_3 : decode cX8_isPollenLow 3 = .ok (.bipush 14, 2) := by decide +kernel
theorem dX8_isPollenLow_5 : decode cX8_isPollenLow 5 = .ok (.invokestatic 85, 3) := by decide +kernel
theorem dX8_isPollenLow_8 : decode cX8_isPollenLow 8 = .ok (.ireturn, 1) := by decide +kernel
theorem dX8_isPollenHigh_0 : decode cX8_isPollenHigh 0 = .ok (.iload_n 0, 1) := by decide +kernel
theorem dX8_isPollenHigh_1 : decode cX8_isPollenHigh 1 = .ok (.bipush 20, 2) := by decide +kernel
theorem dX8_isPollenHigh_3 : decode cX8_isPollenHigh 3 = .ok (.bipush 24, 2) := by decide +kernel
theorem dX8_isPollenHigh_5 : decode cX8_isPollenHigh 5 = .ok (.invokestatic 85, 3) := by decide +kernel
theorem dX8_isPollenHigh_8 : decode cX8_isPollenHigh 8 = .ok (.ireturn, 1) := by decide +kernel
theorem dX8_isMeasure_0 : decode cX8_isMeasure 0 = .ok (.iload_n 0, 1) := by decide +kernel
theorem dX8_isMeasure_1 : decode cX8_isMeasure 1 = .ok (.iconst 0, 1) := by decide +kernel
theorem dX8_isMeasure_2 : decode cX8_isMeasure 2 = .ok (.iconst 2, 1) := by decide +kernel
theorem dX8_isMeasure_3 : decode cX8_isMeasure 3 = .ok (.invokestatic 85, 3) := by decide +kernel
theorem dX8_isMeasure_6 : decode cX8_isMeasure 6 = .ok (.ifCond .ne 28, 3) := by decide +kernel
theorem dX8_isMeasure_9 : decode cX8_isMeasure 9 = .ok (.iload_n 0, 1) := by decide +kernel
theorem dX8_isMeasure_10 : decode cX8_isMeasure 10 = .ok (.invokestatic 279, 3) := by decide +kernel
theorem dX8_isMeasure_13 : decode cX8_isMeasure 13 = .ok (.ifCond .ne 21, 3) := by decide +kernel
theorem dX8_isMeasure_16 : decode cX8_isMeasure 16 = .ok (.iload_n 0, 1) := by decide +kernel
theorem dX8_isMeasure_17 : decode cX8_isMeasure 17 = .ok (.invokestatic 282, 3) := by decide +kernel
theorem dX8_isMeasure_20 : decode cX8_isMeasure 20 = .ok (.ifCond .ne 14, 3) := by decide +kernel
theorem dX8_isMeasure_23 : decode cX8_isMeasure 23 = .ok (.iload_n 0, 1) := by decide +kernel
theorem dX8_isMeasure_24 : decode cX8_isMeasure 24 = .ok (.bipush 30, 2) := by decide +kernel
theorem dX8_isMeasure_26 : decode cX8_isMeasure 26 = .ok (.bipush 33, 2) := by decide +kernel
theorem dX8_isMeasure_28 : decode cX8_isMeasure 28 = .ok (.invokestatic 85, 3) := by decide +kernel
theorem dX8_isMeasure_31 : decode cX8_isMeasure 31 = .ok (.ifCond .eq 7, 3) := by decide +kernel
theorem dX8_isMeasure_34 : decode cX8_isMeasure 34 = .ok (.iconst 1, 1) := by decide +kernel
theorem dX8_isMeasure_35 : decode cX8_isMeasure 35 = .ok (.goto 4, 3) := by decide +kernel
theorem dX8_isMeasure_38 : decode cX8_isMeasure 38 = .ok (.iconst 0, 1) := by decide +kernel
theorem dX8_isMeasure_39 : decode cX8_isMeasure 39 = .ok (.ireturn, 1) := by decide +kernel
theorem dX8_hasBit_0 : decode cX8_hasBit 0 = .ok (.iload_n 0, 1) := by decide +kernel
theorem dX8_hasBit_1 : decode cX8_hasBit 1 = .ok (.iload_n 1, 1) := by decide +kernel
theorem dX8_hasBit_2 : decode cX8_hasBit 2 = .ok (.ishr, 1) := by decide +kernel
theorem dX8_hasBit_3 : decode cX8_hasBit 3 = .ok (.iconst 1, 1) := by decide +kernel
theorem dX8_hasBit_4 : decode cX8_hasBit 4 = .ok (.iand, 1) := by decide +kernel
theorem dX8_hasBit_5 : decode cX8_hasBit 5 = .ok (.iconst 1, 1) := by decide +kernel
theorem dX8_hasBit_6 : decode cX8_hasBit 6 = .ok (.if_icmp .ne 7, 3) := by decide +kernel
theorem dX8_hasBit_9 : decode cX8_hasBit 9 = .ok (.iconst 1, 1) := by decide +kernel
theorem dX8_hasBit_10 : decode cX8_hasBit 10 = .ok (.goto 4, 3) := by decide +kernel
theorem dX8_hasBit_13 : decode cX8_hasBit 13 = .ok (.iconst 0, 1) := by decide +kernel
theorem dX8_hasBit_14 : decode cX8_hasBit 14 = .ok (.ireturn, 1) := by decide +kernel
theorem dX2_perGram_0 : decode cX2_perGram 0 = .ok (.iload_n 1, 1) := by decide +kernel
theorem dX2_perGram_1 : decode cX2_perGram 1 = .ok (.ifCond .ne 8, 3) := by decide +kernel
theorem dX2_perGram_4 : decode cX2_perGram 4 = .ok (.aload_n 0, 1) := by decide +kernel
theorem dX2_perGram_5 : decode cX2_perGram 5 = .ok (.getfield 32, 3) := by decide +kernel
theorem dX2_perGram_8 : decode cX2_perGram 8 = .ok (.ireturn, 1) := by decide +kernel
theorem dX2_perGram_9 : decode cX2_perGram 9 = .ok (.iload_n 1, 1) := by decide +kernel
theorem dX2_perGram_10 : decode cX2_perGram 10 = .ok (.iconst 1, 1) := by decide +kernel
theorem dX2_perGram_11 : decode cX2_perGram 11 = .ok (.if_icmp .ne 8, 3) := by decide +kernel
theorem dX2_perGram_14 : decode cX2_perGram 14 = .ok (.aload_n 0, 1) := by decide +kernel
theorem dX2_perGram_15 : decode cX2_perGram 15 = .ok (.getfield 35, 3) := by decide +kernel
theorem dX2_perGram_18 : decode cX2_perGram 18 = .ok (.ireturn, 1) := by decide +kernel
theorem dX2_perGram_19 : decode cX2_perGram 19 = .ok (.iload_n 1, 1) := by decide +kernel
theorem dX2_perGram_20 : decode cX2_perGram 20 = .ok (.invokestatic 61, 3) := by decide +kernel
theorem dX2_perGram_23 : decode cX2_perGram 23 = .ok (.ifCond .eq 13, 3) := by decide +kernel
theorem dX2_perGram_26 : decode cX2_perGram 26 = .ok (.aload_n 0, 1) := by decide +kernel
theorem dX2_perGram_27 : decode cX2_perGram 27 = .ok (.getfield 9, 3) := by decide +kernel
theorem dX2_perGram_30 : decode cX2_perGram 30 = .ok (.iload_n 1, 1) := by decide +kernel
theorem dX2_perGram_31 : decode cX2_perGram 31 = .ok (.bipush 10, 2) := by decide +kernel
theorem dX2_perGram_33 : decode cX2_perGram 33 = .ok (.isub, 1) := by decide +kernel
theorem dX2_perGram_34 : decode cX2_perGram 34 = .ok (.iaload, 1) := by decide +kernel
theorem dX2_perGram_35 : decode cX2_perGram 35 = .ok (.ireturn, 1) := by decide +kernel
theorem dX2_perGram_36 : decode cX2_perGram 36 = .ok (.iload_n 1, 1) := by decide +kernel
theorem dX2_perGram_37 : decode cX2_perGram 37 = .ok (.invokestatic 65, 3) := by decide +kernel
theorem dX2_perGram_40 : decode cX2_perGram 40 = .ok (.ifCond .eq 13, 3) := by decide +kernel
theorem dX2_perGram_43 : decode cX2_perGram 43 = .ok (.aload_n 0, 1) := by decide +kernel
theorem dX2_perGram_44 : decode cX2_perGram 44 = .ok (.getfield 15, 3) := by decide +kernel
theorem dX2_perGram_47 : decode cX2_perGram 47 = .ok (.iload_n 1, 1) := by decide +kernel
theorem dX2_perGram_48 : decode cX2_perGram 48 = .ok (.bipush 20, 2) := by decide +kernel
theorem dX2_perGram_50 : decode cX2_perGram 50 = .ok (.isub, 1) := by decide +kernel
theorem dX2_perGram_51 : decode cX2_perGram 51 = .ok (.iaload, 1) := by decide +kernel
theorem dX2_perGram_52 : decode cX2_perGram 52 = .ok (.ireturn, 1) := by decide +kernel
theorem dX2_perGram_53 : decode cX2_perGram 53 = .ok (.iload_n 1, 1) := by decide +kernel
theorem dX2_perGram_54 : decode cX2_perGram 54 = .ok (.bipush 30, 2) := by decide +kernel
theorem dX2_perGram_56 : decode cX2_perGram 56 = .ok (.aload_n 0, 1) := by decide +kernel
theorem dX2_perGram_57 : decode cX2_perGram 57 = .ok (.getfield 38, 3) := by decide +kernel
theorem dX2_perGram_60 : decode cX2_perGram 60 = .ok (.iadd, 1) := by decide +kernel
theorem dX2_perGram_61 : decode cX2_perGram 61 = .ok (.if_icmp .ne 9, 3) := by decide +kernel
theorem dX2_perGram_64 : decode cX2_perGram 64 = .ok (.sipush 1000, 3) := by decide +kernel
theorem dX2_perGram_67 : decode cX2_perGram 67 = .ok (.goto 4, 3) := by decide +kernel
theorem dX2_perGram_70 : decode cX2_perGram 70 = .ok (.iconst 0, 1) := by decide +kernel
theorem dX2_perGram_71 : decode cX2_perGram 71 = .ok (.ireturn, 1) := by decide +kernel
theorem dX8_weighed_0 : decode cX8_weighed 0 = .ok (.iload_n 2, 1) := by decide +kernel
theorem dX8_weighed_1 : decode cX8_weighed 1 = .ok (.iconst 2, 1) := by decide +kernel
theorem dX8_weighed_2 : decode cX8_weighed 2 = .ok (.if_icmp .ne 15, 3) := by decide +kernel
theorem dX8_weighed_5 : decode cX8_weighed 5 = .ok (.aload_n 1, 1) := by decide +kernel
theorem dX8_weighed_6 : decode cX8_weighed 6 = .ok (.getfield 160, 3) := by decide +kernel
theorem dX8_weighed_9 : decode cX8_weighed 9 = .ok (.i2l, 1) := by decide +kernel
theorem dX8_weighed_10 : decode cX8_weighed 10 = .ok (.aload_n 1, 1) := by decide +kernel
theorem dX8_weighed_11 : decode cX8_weighed 11 = .ok (.getfield 144, 3) := by decide +kernel
theorem dX8_weighed_14 : decode cX8_weighed 14 = .ok (.i2l, 1) := by decide +kernel
theorem dX8_weighed_15 : decode cX8_weighed 15 = .ok (.lmul, 1) := by decide +kernel
theorem dX8_weighed_16 : decode cX8_weighed 16 = .ok (.lreturn, 1) := by decide +kernel
theorem dX8_weighed_17 : decode cX8_weighed 17 = .ok (.lconst 0, 1) := by decide +kernel
theorem dX8_weighed_18 : decode cX8_weighed 18 = .ok (.lstore_n 3, 1) := by decide +kernel
theorem dX8_weighed_19 : decode cX8_weighed 19 = .ok (.iconst 0, 1) := by decide +kernel
theorem dX8_weighed_20 : decode cX8_weighed 20 = .ok (.istore 5, 2) := by decide +kernel
theorem dX8_weighed_22 : decode cX8_weighed 22 = .ok (.iload 5, 2) := by decide +kernel
theorem dX8_weighed_24 : decode cX8_weighed 24 = .ok (.aload_n 0, 1) := by decide +kernel
theorem dX8_weighed_25 : decode cX8_weighed 25 = .ok (.getfield 90, 3) := by decide +kernel
theorem dX8_weighed_28 : decode cX8_weighed 28 = .ok (.if_icmp .ge 51, 3) := by decide +kernel
theorem dX8_weighed_31 : decode cX8_weighed 31 = .ok (.iload 5, 2) := by decide +kernel
theorem dX8_weighed_33 : decode cX8_weighed 33 = .ok (.aload_n 0, 1) := by decide +kernel
theorem dX8_weighed_34 : decode cX8_weighed 34 = .ok (.getfield 11, 3) := by decide +kernel
theorem dX8_weighed_37 : decode cX8_weighed 37 = .ok (.arraylength, 1) := by decide +kernel
theorem dX8_weighed_38 : decode cX8_weighed 38 = .ok (.if_icmp .ge 41, 3) := by decide +kernel
theorem dX8_weighed_41 : decode cX8_weighed 41 = .ok (.aload_n 0, 1) := by decide +kernel
theorem dX8_weighed_42 : decode cX8_weighed 42 = .ok (.getfield 11, 3) := by decide +kernel
theorem dX8_weighed_45 : decode cX8_weighed 45 = .ok (.iload 5, 2) := by decide +kernel
theorem dX8_weighed_47 : decode cX8_weighed 47 = .ok (.aaload, 1) := by decide +kernel
theorem dX8_weighed_48 : decode cX8_weighed 48 = .ok (.astore 6, 2) := by decide +kernel
theorem dX8_weighed_50 : decode cX8_weighed 50 = .ok (.aload 6, 2) := by decide +kernel
theorem dX8_weighed_52 : decode cX8_weighed 52 = .ok (.ifnull 21, 3) := by decide +kernel
theorem dX8_weighed_55 : decode cX8_weighed 55 = .ok (.lload_n 3, 1) := by decide +kernel
theorem dX8_weighed_56 : decode cX8_weighed 56 = .ok (.aload_n 1, 1) := by decide +kernel
theorem dX8_weighed_57 : decode cX8_weighed 57 = .ok (.iload 5, 2) := by decide +kernel
theorem dX8_weighed_59 : decode cX8_weighed 59 = .ok (.invokevirtual 181, 3) := by decide +kernel
theorem dX8_weighed_62 : decode cX8_weighed 62 = .ok (.i2l, 1) := by decide +kernel
theorem dX8_weighed_63 : decode cX8_weighed 63 = .ok (.aload 6, 2) := by decide +kernel
theorem dX8_weighed_65 : decode cX8_weighed 65 = .ok (.iload_n 2, 1) := by decide +kernel
theorem dX8_weighed_66 : decode cX8_weighed 66 = .ok (.invokevirtual 285, 3) := by decide +kernel
theorem dX8_weighed_69 : decode cX8_weighed 69 = .ok (.i2l, 1) := by decide +kernel
theorem dX8_weighed_70 : decode cX8_weighed 70 = .ok (.lmul, 1) := by decide +kernel
theorem dX8_weighed_71 : decode cX8_weighed 71 = .ok (.ladd, 1) := by decide +kernel
theorem dX8_weighed_72 : decode cX8_weighed 72 = .ok (.lstore_n 3, 1) := by decide +kernel
theorem dX8_weighed_73 : decode cX8_weighed 73 = .ok (.iinc 5 1, 3) := by decide +kernel
theorem dX8_weighed_76 : decode cX8_weighed 76 = .ok (.goto (-54), 3) := by decide +kernel
theorem dX8_weighed_79 : decode cX8_weighed 79 = .ok (.lload_n 3, 1) := by decide +kernel
theorem dX8_weighed_80 : decode cX8_weighed 80 = .ok (.lreturn, 1) := by decide +kernel
theorem dX8_told_0 : decode cX8_told 0 = .ok (.aload_n 1, 1) := by decide +kernel
theorem dX8_told_1 : decode cX8_told 1 = .ok (.getfield 144, 3) := by decide +kernel
theorem dX8_told_4 : decode cX8_told 4 = .ok (.ifCond .gt 5, 3) := by decide +kernel
theorem dX8_told_7 : decode cX8_told 7 = .ok (.iconst (-1), 1) := by decide +kernel
theorem dX8_told_8 : decode cX8_told 8 = .ok (.ireturn, 1) := by decide +kernel
theorem dX8_told_9 : decode cX8_told 9 = .ok (.iload_n 2, 1) := by decide +kernel
theorem dX8_told_10 : decode cX8_told 10 = .ok (.iconst 2, 1) := by decide +kernel
theorem dX8_told_11 : decode cX8_told 11 = .ok (.if_icmp .ne 8, 3) := by decide +kernel
theorem dX8_told_14 : decode cX8_told 14 = .ok (.aload_n 1, 1) := by decide +kernel
theorem dX8_told_15 : decode cX8_told 15 = .ok (.getfield 160, 3) := by decide +kernel
theorem dX8_told_18 : decode cX8_told 18 = .ok (.ireturn, 1) := by decide +kernel
theorem dX8_told_19 : decode cX8_told 19 = .ok (.ldc2_w 288, 3) := by decide +kernel
theorem dX8_told_22 : decode cX8_told 22 = .ok (.aload_n 0, 1) := by decide +kernel
theorem dX8_told_23 : decode cX8_told 23 = .ok (.aload_n 1, 1) := by decide +kernel
theorem dX8_told_24 : decode cX8_told 24 = .ok (.iload_n 2, 1) := by decide +kernel
theorem dX8_told_25 : decode cX8_told 25 = .ok (.invokevirtual 290, 3) := by decide +kernel
theorem dX8_told_28 : decode cX8_told 28 = .ok (.lmul, 1) := by decide +kernel
theorem dX8_told_29 : decode cX8_told 29 = .ok (.aload_n 1, 1) := by decide +kernel
theorem dX8_told_30 : decode cX8_told 30 = .ok (.getfield 144, 3) := by decide +kernel
theorem dX8_told_33 : decode cX8_told 33 = .ok (.i2l, 1) := by decide +kernel
theorem dX8_told_34 : decode cX8_told 34 = .ok (.ldiv, 1) := by decide +kernel
theorem dX8_told_35 : decode cX8_told 35 = .ok (.l2i, 1) := by decide +kernel
theorem dX8_told_36 : decode cX8_told 36 = .ok (.ireturn, 1) := by decide +kernel
theorem dX8_measure_0 : decode cX8_measure 0 = .ok (.aload_n 0, 1) := by decide +kernel
theorem dX8_measure_1 : decode cX8_measure 1 = .ok (.iload_n 1, 1) := by decide +kernel
theorem dX8_measure_2 : decode cX8_measure 2 = .ok (.iload_n 2, 1) := by decide +kernel
theorem dX8_measure_3 : decode cX8_measure 3 = .ok (.invokevirtual 173, 3) := by decide +kernel
theorem dX8_measure_6 : decode cX8_measure 6 = .ok (.astore 4, 2) := by decide +kernel
theorem dX8_measure_8 : decode cX8_measure 8 = .ok (.aload 4, 2) := by decide +kernel
theorem dX8_measure_10 : decode cX8_measure 10 = .ok (.ifnull 10, 3) := by decide +kernel
theorem dX8_measure_13 : decode cX8_measure 13 = .ok (.iload_n 3, 1) := by decide +kernel
theorem dX8_measure_14 : decode cX8_measure 14 = .ok (.invokestatic 185, 3) := by decide +kernel
theorem dX8_measure_17 : decode cX8_measure 17 = .ok (.ifCond .ne 5, 3) := by decide +kernel
theorem dX8_measure_20 : decode cX8_measure 20 = .ok (.iconst (-1), 1) := by decide +kernel
theorem dX8_measure_21 : decode cX8_measure 21 = .ok (.ireturn, 1) := by decide +kernel
theorem dX8_measure_22 : decode cX8_measure 22 = .ok (.aload_n 0, 1) := by decide +kernel
theorem dX8_measure_23 : decode cX8_measure 23 = .ok (.aload 4, 2) := by decide +kernel
theorem dX8_measure_25 : decode cX8_measure 25 = .ok (.iload_n 3, 1) := by decide +kernel
theorem dX8_measure_26 : decode cX8_measure 26 = .ok (.invokevirtual 188, 3) := by decide +kernel
theorem dX8_measure_29 : decode cX8_measure 29 = .ok (.ireturn, 1) := by decide +kernel
theorem dX8_verdictOfTest_0 : decode cX8_verdictOfTest 0 = .ok (.iload_n 1, 1) := by decide +kernel
theorem dX8_verdictOfTest_1 : decode cX8_verdictOfTest 1 = .ok (.bipush 11, 2) := by decide +kernel
theorem dX8_verdictOfTest_3 : decode cX8_verdictOfTest 3 = .ok (.ishr, 1) := by decide +kernel
theorem dX8_verdictOfTest_4 : decode cX8_verdictOfTest 4 = .ok (.istore_n 3, 1) := by decide +kernel
theorem dX8_verdictOfTest_5 : decode cX8_verdictOfTest 5 = .ok (.iload_n 1, 1) := by decide +kernel
theorem dX8_verdictOfTest_6 : decode cX8_verdictOfTest 6 = .ok (.bipush 10, 2) := by decide +kernel
theorem dX8_verdictOfTest_8 : decode cX8_verdictOfTest 8 = .ok (.ishr, 1) := by decide +kernel
theorem dX8_verdictOfTest_9 : decode cX8_verdictOfTest 9 = .ok (.iconst 1, 1) := by decide +kernel
theorem dX8_verdictOfTest_10 : decode cX8_verdictOfTest 10 = .ok (.iand, 1) := by decide +kernel
theorem dX8_verdictOfTest_11 : decode cX8_verdictOfTest 11 = .ok (.iconst 1, 1) := by decide +kernel
theorem dX8_verdictOfTest_12 : decode cX8_verdictOfTest 12 = .ok (.if_icmp .ne 7, 3) := by decide +kernel
theorem dX8_verdictOfTest_15 : decode cX8_verdictOfTest 15 = .ok (.iconst 1, 1) := by decide +kernel
theorem dX8_verdictOfTest_16 : decode cX8_verdictOfTest 16 = .ok (.goto 4, 3) := by decide +kernel
theorem dX8_verdictOfTest_19 : decode cX8_verdictOfTest 19 = .ok (.iconst 0, 1) := by decide +kernel
theorem dX8_verdictOfTest_20 : decode cX8_verdictOfTest 20 = .ok (.istore 4, 2) := by decide +kernel
theorem dX8_verdictOfTest_22 : decode cX8_verdictOfTest 22 = .ok (.iload_n 1, 1) := by decide +kernel
theorem dX8_verdictOfTest_23 : decode cX8_verdictOfTest 23 = .ok (.sipush 1023, 3) := by decide +kernel
theorem dX8_verdictOfTest_26 : decode cX8_verdictOfTest 26 = .ok (.iand, 1) := by decide +kernel
theorem dX8_verdictOfTest_27 : decode cX8_verdictOfTest 27 = .ok (.i2l, 1) := by decide +kernel
theorem dX8_verdictOfTest_28 : decode cX8_verdictOfTest 28 = .ok (.aload_n 2, 1) := by decide +kernel
theorem dX8_verdictOfTest_29 : decode cX8_verdictOfTest 29 = .ok (.getfield 144, 3) := by decide +kernel
theorem dX8_verdictOfTest_32 : decode cX8_verdictOfTest 32 = .ok (.i2l, 1) := by decide +kernel
theorem dX8_verdictOfTest_33 : decode cX8_verdictOfTest 33 = .ok (.lmul, 1) := by decide +kernel
theorem dX8_verdictOfTest_34 : decode cX8_verdictOfTest 34 = .ok (.lstore 5, 2) := by decide +kernel
theorem dX8_verdictOfTest_36 : decode cX8_verdictOfTest 36 = .ok (.aload_n 0, 1) := by decide +kernel
theorem dX8_verdictOfTest_37 : decode cX8_verdictOfTest 37 = .ok (.aload_n 2, 1) := by decide +kernel
theorem dX8_verdictOfTest_38 : decode cX8_verdictOfTest 38 = .ok (.iload_n 3, 1) := by decide +kernel
theorem dX8_verdictOfTest_39 : decode cX8_verdictOfTest 39 = .ok (.invokevirtual 290, 3) := by decide +kernel
theorem dX8_verdictOfTest_42 : decode cX8_verdictOfTest 42 = .ok (.lstore 7, 2) := by decide +kernel
theorem dX8_verdictOfTest_44 : decode cX8_verdictOfTest 44 = .ok (.iload_n 3, 1) := by decide +kernel
theorem dX8_verdictOfTest_45 : decode cX8_verdictOfTest 45 = .ok (.invokestatic 279, 3) := by decide +kernel
theorem dX8_verdictOfTest_48 : decode cX8_verdictOfTest 48 = .ok (.ifCond .eq 18, 3) := by decide +kernel
theorem dX8_verdictOfTest_51 : decode cX8_verdictOfTest 51 = .ok (.aload_n 0, 1) := by decide +kernel
theorem dX8_verdictOfTest_52 : decode cX8_verdictOfTest 52 = .ok (.aload_n 2, 1) := by decide +kernel
theorem dX8_verdictOfTest_53 : decode cX8_verdictOfTest 53 = .ok (.iload_n 3, 1) := by decide +kernel
theorem dX8_verdictOfTest_54 : decode cX8_verdictOfTest 54 = .ok (.bipush 10, 2) := by decide +kernel
theorem dX8_verdictOfTest_56 : decode cX8_verdictOfTest 56 = .ok (.isub, 1) := by decide +kernel
theorem dX8_verdictOfTest_57 : decode cX8_verdictOfTest 57 = .ok (.bipush 20, 2) := by decide +kernel
theorem dX8_verdictOfTest_59 : decode cX8_verdictOfTest 59 = .ok (.iadd, 1) := by decide +kernel
theorem dX8_verdictOfTest_60 : decode cX8_verdictOfTest 60 = .ok (.invokevirtual 290, 3) := by decide +kernel
theorem dX8_verdictOfTest_63 : decode cX8_verdictOfTest 63 = .ok (.goto 5, 3) := by decide +kernel
theorem dX8_verdictOfTest_66 : decode cX8_verdictOfTest 66 = .ok (.lload 7, 2) := by decide +kernel
theorem dX8_verdictOfTest_68 : decode cX8_verdictOfTest 68 = .ok (.lstore 9, 2) := by decide +kernel
theorem dX8_verdictOfTest_70 : decode cX8_verdictOfTest 70 = .ok (.iload 4, 2) := by decide +kernel
theorem dX8_verdictOfTest_72 : decode cX8_verdictOfTest 72 = .ok (.ifCond .eq 14, 3) := by decide +kernel
theorem dX8_verdictOfTest_75 : decode cX8_verdictOfTest 75 = .ok (.lload 9, 2) := by decide +kernel
theorem dX8_verdictOfTest_77 : decode cX8_verdictOfTest 77 = .ok (.lload 5, 2) := by decide +kernel
theorem dX8_verdictOfTest_79 : decode cX8_verdictOfTest 79 = .ok (.lcmp, 1) := by decide +kernel
theorem dX8_verdictOfTest_80 : decode cX8_verdictOfTest 80 = .ok (.ifCond .gt 16, 3) := by decide +kernel
theorem dX8_verdictOfTest_83 : decode cX8_verdictOfTest 83 = .ok (.goto 11, 3) := by decide +kernel
theorem dX8_verdictOfTest_86 : decode cX8_verdictOfTest 86 = .ok (.lload 7, 2) := by decide +kernel
theorem dX8_verdictOfTest_88 : decode cX8_verdictOfTest 88 = .ok (.lload 5, 2) := by decide +kernel
theorem dX8_verdictOfTest_90 : decode cX8_verdictOfTest 90 = .ok (.lcmp, 1) := by decide +kernel
theorem dX8_verdictOfTest_91 : decode cX8_verdictOfTest 91 = .ok (.ifCond .lt 5, 3) := by decide +kernel
theorem dX8_verdictOfTest_94 : decode cX8_verdictOfTest 94 = .ok (.iconst 2, 1) := by decide +kernel
theorem dX8_verdictOfTest_95 : decode cX8_verdictOfTest 95 = .ok (.ireturn, 1) := by decide +kernel
theorem dX8_verdictOfTest_96 : decode cX8_verdictOfTest 96 = .ok (.iload 4, 2) := by decide +kernel
theorem dX8_verdictOfTest_98 : decode cX8_verdictOfTest 98 = .ok (.ifCond .eq 14, 3) := by decide +kernel
theorem dX8_verdictOfTest_101 : decode cX8_verdictOfTest 101 = .ok (.lload 7, 2) := by decide +kernel
theorem dX8_verdictOfTest_103 : decode cX8_verdictOfTest 103 = .ok (.lload 5, 2) := by decide +kernel
theorem dX8_verdictOfTest_105 : decode cX8_verdictOfTest 105 = .ok (.lcmp, 1) := by decide +kernel
theorem dX8_verdictOfTest_106 : decode cX8_verdictOfTest 106 = .ok (.ifCond .gt 18, 3) := by decide +kernel
theorem dX8_verdictOfTest_109 : decode cX8_verdictOfTest 109 = .ok (.goto 11, 3) := by decide +kernel
theorem dX8_verdictOfTest_112 : decode cX8_verdictOfTest 112 = .ok (.lload 9, 2) := by decide +kernel
theorem dX8_verdictOfTest_114 : decode cX8_verdictOfTest 114 = .ok (.lload 5, 2) := by decide +kernel
theorem dX8_verdictOfTest_116 : decode cX8_verdictOfTest 116 = .ok (.lcmp, 1) := by decide +kernel
theorem dX8_verdictOfTest_117 : decode cX8_verdictOfTest 117 = .ok (.ifCond .lt 7, 3) := by decide +kernel
theorem dX8_verdictOfTest_120 : decode cX8_verdictOfTest 120 = .ok (.iconst 1, 1) := by decide +kernel
theorem dX8_verdictOfTest_121 : decode cX8_verdictOfTest 121 = .ok (.goto 4, 3) := by decide +kernel
theorem dX8_verdictOfTest_124 : decode cX8_verdictOfTest 124 = .ok (.iconst 0, 1) := by decide +kernel
theorem dX8_verdictOfTest_125 : decode cX8_verdictOfTest 125 = .ok (.ireturn, 1) := by decide +kernel
theorem dX8_verdict_0 : decode cX8_verdict 0 = .ok (.iconst 0, 1) := by decide +kernel
theorem dX8_verdict_1 : decode cX8_verdict 1 = .ok (.istore_n 3, 1) := by decide +kernel
theorem dX8_verdict_2 : decode cX8_verdict 2 = .ok (.iconst 0, 1) := by decide +kernel
theorem dX8_verdict_3 : decode cX8_verdict 3 = .ok (.istore 4, 2) := by decide +kernel
theorem dX8_verdict_5 : decode cX8_verdict 5 = .ok (.iload 4, 2) := by decide +kernel
theorem dX8_verdict_7 : decode cX8_verdict 7 = .ok (.aload_n 1, 1) := by decide +kernel
theorem dX8_verdict_8 : decode cX8_verdict 8 = .ok (.getfield 294, 3) := by decide +kernel
theorem dX8_verdict_11 : decode cX8_verdict 11 = .ok (.arraylength, 1) := by decide +kernel
theorem dX8_verdict_12 : decode cX8_verdict 12 = .ok (.if_icmp .ge 157, 3) := by decide +kernel
theorem dX8_verdict_15 : decode cX8_verdict 15 = .ok (.aload_n 1, 1) := by decide +kernel
theorem dX8_verdict_16 : decode cX8_verdict 16 = .ok (.getfield 294, 3) := by decide +kernel
theorem dX8_verdict_19 : decode cX8_verdict 19 = .ok (.iload 4, 2) := by decide +kernel
theorem dX8_verdict_21 : decode cX8_verdict 21 = .ok (.iaload, 1) := by decide +kernel
theorem dX8_verdict_22 : decode cX8_verdict 22 = .ok (.istore 5, 2) := by decide +kernel
theorem dX8_verdict_24 : decode cX8_verdict 24 = .ok (.iload 5, 2) := by decide +kernel
theorem dX8_verdict_26 : decode cX8_verdict 26 = .ok (.ifCond .lt 31, 3) := by decide +kernel
theorem dX8_verdict_29 : decode cX8_verdict 29 = .ok (.iload_n 3, 1) := by decide +kernel
theorem dX8_verdict_30 : decode cX8_verdict 30 = .ok (.aload_n 0, 1) := by decide +kernel
theorem dX8_verdict_31 : decode cX8_verdict 31 = .ok (.getfield 58, 3) := by decide +kernel
theorem dX8_verdict_34 : decode cX8_verdict 34 = .ok (.arraylength, 1) := by decide +kernel
theorem dX8_verdict_35 : decode cX8_verdict 35 = .ok (.if_icmp .ge 128, 3) := by decide +kernel
theorem dX8_verdict_38 : decode cX8_verdict 38 = .ok (.aload_n 0, 1) := by decide +kernel
theorem dX8_verdict_39 : decode cX8_verdict 39 = .ok (.getfield 58, 3) := by decide +kernel
theorem dX8_verdict_42 : decode cX8_verdict 42 = .ok (.iload_n 3, 1) := by decide +kernel
theorem dX8_verdict_43 : decode cX8_verdict 43 = .ok (.aload_n 0, 1) := by decide +kernel
theorem dX8_verdict_44 : decode cX8_verdict 44 = .ok (.iload 5, 2) := by decide +kernel
theorem dX8_verdict_46 : decode cX8_verdict 46 = .ok (.aload_n 2, 1) := by decide +kernel
theorem dX8_verdict_47 : decode cX8_verdict 47 = .ok (.invokevirtual 297, 3) := by decide +kernel
theorem dX8_verdict_50 : decode cX8_verdict 50 = .ok (.iastore, 1) := by decide +kernel
theorem dX8_verdict_51 : decode cX8_verdict 51 = .ok (.iinc 3 1, 3) := by decide +kernel
theorem dX8_verdict_54 : decode cX8_verdict 54 = .ok (.goto 109, 3) := by decide +kernel
theorem dX8_verdict_57 : decode cX8_verdict 57 = .ok (.iload 5, 2) := by decide +kernel
theorem dX8_verdict_59 : decode cX8_verdict 59 = .ok (.iconst (-1), 1) := by decide +kernel
theorem dX8_verdict_60 : decode cX8_verdict 60 = .ok (.if_icmp .ne 37, 3) := by decide +kernel
theorem dX8_verdict_63 : decode cX8_verdict 63 = .ok (.iload_n 3, 1) := by decide +kernel
theorem dX8_verdict_64 : decode cX8_verdict 64 = .ok (.iconst 1, 1) := by decide +kernel
theorem dX8_verdict_65 : decode cX8_verdict 65 = .ok (.aload_n 0, 1) := by decide +kernel
theorem dX8_verdict_66 : decode cX8_verdict 66 = .ok (.getfield 58, 3) := by decide +kernel
theorem dX8_verdict_69 : decode cX8_verdict 69 = .ok (.arraylength, 1) := by decide +kernel
theorem dX8_verdict_70 : decode cX8_verdict 70 = .ok (.invokestatic 85, 3) := by decide +kernel
theorem dX8_verdict_73 : decode cX8_verdict 73 = .ok (.ifCond .eq 90, 3) := by decide +kernel
theorem dX8_verdict_76 : decode cX8_verdict 76 = .ok (.aload_n 0, 1) := by decide +kernel
theorem dX8_verdict_77 : decode cX8_verdict 77 = .ok (.getfield 58, 3) := by decide +kernel
theorem dX8_verdict_80 : decode cX8_verdict 80 = .ok (.iload_n 3, 1) := by decide +kernel
theorem dX8_verdict_81 : decode cX8_verdict 81 = .ok (.iconst 1, 1) := by decide +kernel
theorem dX8_verdict_82 : decode cX8_verdict 82 = .ok (.isub, 1) := by decide +kernel
theorem dX8_verdict_83 : decode cX8_verdict 83 = .ok (.iconst 2, 1) := by decide +kernel
theorem dX8_verdict_84 : decode cX8_verdict 84 = .ok (.aload_n 0, 1) := by decide +kernel
theorem dX8_verdict_85 : decode cX8_verdict 85 = .ok (.getfield 58, 3) := by decide +kernel
theorem dX8_verdict_88 : decode cX8_verdict 88 = .ok (.iload_n 3, 1) := by decide +kernel
theorem dX8_verdict_89 : decode cX8_verdict 89 = .ok (.iconst 1, 1) := by decide +kernel
theorem dX8_verdict_90 : decode cX8_verdict 90 = .ok (.isub, 1) := by decide +kernel
theorem dX8_verdict_91 : decode cX8_verdict 91 = .ok (.iaload, 1) := by decide +kernel
theorem dX8_verdict_92 : decode cX8_verdict 92 = .ok (.isub, 1) := by decide +kernel
theorem dX8_verdict_93 : decode cX8_verdict 93 = .ok (.iastore, 1) := by decide +kernel
theorem dX8_verdict_94 : decode cX8_verdict 94 = .ok (.goto 69, 3) := by decide +kernel
theorem dX8_verdict_97 : decode cX8_verdict 97 = .ok (.iload_n 3, 1) := by decide +kernel
theorem dX8_verdict_98 : decode cX8_verdict 98 = .ok (.iconst 2, 1) := by decide +kernel
theorem dX8_verdict_99 : decode cX8_verdict 99 = .ok (.aload_n 0, 1) := by decide +kernel
theorem dX8_verdict_100 : decode cX8_verdict 100 = .ok (.getfield 58, 3) := by decide +kernel
theorem dX8_verdict_103 : decode cX8_verdict 103 = .ok (.arraylength, 1) := by decide +kernel
theorem dX8_verdict_104 : decode cX8_verdict 104 = .ok (.invokestatic 85, 3) := by decide +kernel
theorem dX8_verdict_107 : decode cX8_verdict 107 = .ok (.ifCond .eq 56, 3) := by decide +kernel
theorem dX8_verdict_110 : decode cX8_verdict 110 = .ok (.iinc 3 (-1), 3) := by decide +kernel
theorem dX8_verdict_113 : decode cX8_verdict 113 = .ok (.aload_n 0, 1) := by decide +kernel
theorem dX8_verdict_114 : decode cX8_verdict 114 = .ok (.getfield 58, 3) := by decide +kernel
theorem dX8_verdict_117 : decode cX8_verdict 117 = .ok (.iload_n 3, 1) := by decide +kernel
theorem dX8_verdict_118 : decode cX8_verdict 118 = .ok (.iconst 1, 1) := by decide +kernel
theorem dX8_verdict_119 : decode cX8_verdict 119 = .ok (.isub, 1) := by decide +kernel
theorem dX8_verdict_120 : decode cX8_verdict 120 = .ok (.iaload, 1) := by decide +kernel
theorem dX8_verdict_121 : decode cX8_verdict 121 = .ok (.istore 6, 2) := by decide +kernel
theorem dX8_verdict_123 : decode cX8_verdict 123 = .ok (.aload_n 0, 1) := by decide +kernel
theorem dX8_verdict_124 : decode cX8_verdict 124 = .ok (.getfield 58, 3) := by decide +kernel
theorem dX8_verdict_127 : decode cX8_verdict 127 = .ok (.iload_n 3, 1) := by decide +kernel
theorem dX8_verdict_128 : decode cX8_verdict 128 = .ok (.iaload, 1) := by decide +kernel
theorem dX8_verdict_129 : decode cX8_verdict 129 = .ok (.istore 7, 2) := by decide +kernel
theorem dX8_verdict_131 : decode cX8_verdict 131 = .ok (.aload_n 0, 1) := by decide +kernel
theorem dX8_verdict_132 : decode cX8_verdict 132 = .ok (.getfield 58, 3) := by decide +kernel
theorem dX8_verdict_135 : decode cX8_verdict 135 = .ok (.iload_n 3, 1) := by decide +kernel
theorem dX8_verdict_136 : decode cX8_verdict 136 = .ok (.iconst 1, 1) := by decide +kernel
theorem dX8_verdict_137 : decode cX8_verdict 137 = .ok (.isub, 1) := by decide +kernel
theorem dX8_verdict_138 : decode cX8_verdict 138 = .ok (.iload 5, 2) := by decide +kernel
theorem dX8_verdict_140 : decode cX8_verdict 140 = .ok (.bipush (-2), 2) := by decide +kernel
theorem dX8_verdict_142 : decode cX8_verdict 142 = .ok (.if_icmp .ne 13, 3) := by decide +kernel
theorem dX8_verdict_145 : decode cX8_verdict 145 = .ok (.iload 6, 2) := by decide +kernel
theorem dX8_verdict_147 : decode cX8_verdict 147 = .ok (.iload 7, 2) := by decide +kernel
theorem dX8_verdict_149 : decode cX8_verdict 149 = .ok (.invokestatic 301, 3) := by decide +kernel
theorem dX8_verdict_152 : decode cX8_verdict 152 = .ok (.goto 10, 3) := by decide +kernel
theorem dX8_verdict_155 : decode cX8_verdict 155 = .ok (.iload 6, 2) := by decide +kernel
theorem dX8_verdict_157 : decode cX8_verdict 157 = .ok (.iload 7, 2) := by decide +kernel
theorem dX8_verdict_159 : decode cX8_verdict 159 = .ok (.invokestatic 306, 3) := by decide +kernel
theorem dX8_verdict_162 : decode cX8_verdict 162 = .ok (.iastore, 1) := by decide +kernel
theorem dX8_verdict_163 : decode cX8_verdict 163 = .ok (.iinc 4 1, 3) := by decide +kernel
theorem dX8_verdict_166 : decode cX8_verdict 166 = .ok (.goto (-161), 3) := by decide +kernel
theorem dX8_verdict_169 : decode cX8_verdict 169 = .ok (.iload_n 3, 1) := by decide +kernel
theorem dX8_verdict_170 : decode cX8_verdict 170 = .ok (.ifCond .le 12, 3) := by decide +kernel
theorem dX8_verdict_173 : decode cX8_verdict 173 = .ok (.aload_n 0, 1) := by decide +kernel
theorem dX8_verdict_174 : decode cX8_verdict 174 = .ok (.getfield 58, 3) := by decide +kernel
theorem dX8_verdict_177 : decode cX8_verdict 177 = .ok (.iconst 0, 1) := by decide +kernel
theorem dX8_verdict_178 : decode cX8_verdict 178 = .ok (.iaload, 1) := by decide +kernel
theorem dX8_verdict_179 : decode cX8_verdict 179 = .ok (.goto 4, 3) := by decide +kernel
theorem dX8_verdict_182 : decode cX8_verdict 182 = .ok (.iconst 0, 1) := by decide +kernel
theorem dX8_verdict_183 : decode cX8_verdict 183 = .ok (.ireturn, 1) := by decide +kernel
theorem dX8_says_0 : decode cX8_says 0 = .ok (.aload_n 0, 1) := by decide +kernel
theorem dX8_says_1 : decode cX8_says 1 = .ok (.iload_n 1, 1) := by decide +kernel
theorem dX8_says_2 : decode cX8_says 2 = .ok (.invokevirtual 219, 3) := by decide +kernel
theorem dX8_says_5 : decode cX8_says 5 = .ok (.astore 4, 2) := by decide +kernel
theorem dX8_says_7 : decode cX8_says 7 = .ok (.aload_n 0, 1) := by decide +kernel
theorem dX8_says_8 : decode cX8_says 8 = .ok (.iload_n 2, 1) := by decide +kernel
theorem dX8_says_9 : decode cX8_says 9 = .ok (.iload_n 3, 1) := by decide +kernel
theorem dX8_says_10 : decode cX8_says 10 = .ok (.invokevirtual 173, 3) := by decide +kernel
theorem dX8_says_13 : decode cX8_says 13 = .ok (.astore 5, 2) := by decide +kernel
theorem dX8_says_15 : decode cX8_says 15 = .ok (.aload 4, 2) := by decide +kernel
theorem dX8_says_17 : decode cX8_says 17 = .ok (.ifnull 16, 3) := by decide +kernel
theorem dX8_says_20 : decode cX8_says 20 = .ok (.aload 5, 2) := by decide +kernel
theorem dX8_says_22 : decode cX8_says 22 = .ok (.ifnull 11, 3) := by decide +kernel
theorem dX8_says_25 : decode cX8_says 25 = .ok (.aload 5, 2) := by decide +kernel
theorem dX8_says_27 : decode cX8_says 27 = .ok (.getfield 144, 3) := by decide +kernel
theorem dX8_says_30 : decode cX8_says 30 = .ok (.ifCond .ne 5, 3) := by decide +kernel
theorem dX8_says_33 : decode cX8_says 33 = .ok (.iconst (-1), 1) := by decide +kernel
theorem dX8_says_34 : decode cX8_says 34 = .ok (.ireturn, 1) := by decide +kernel
theorem dX8_says_35 : decode cX8_says 35 = .ok (.aload_n 0, 1) := by decide +kernel
theorem dX8_says_36 : decode cX8_says 36 = .ok (.aload 4, 2) := by decide +kernel
theorem dX8_says_38 : decode cX8_says 38 = .ok (.aload 5, 2) := by decide +kernel
theorem dX8_says_40 : decode cX8_says 40 = .ok (.invokevirtual 231, 3) := by decide +kernel
theorem dX8_says_43 : decode cX8_says 43 = .ok (.ireturn, 1) := by decide +kernel
theorem dX8_isInForce_0 : decode cX8_isInForce 0 = .ok (.aload_n 1, 1) := by decide +kernel
theorem dX8_isInForce_1 : decode cX8_isInForce 1 = .ok (.getfield 227, 3) := by decide +kernel
theorem dX8_isInForce_4 : decode cX8_isInForce 4 = .ok (.iload_n 3, 1) := by decide +kernel
theorem dX8_isInForce_5 : decode cX8_isInForce 5 = .ok (.if_icmp .gt 18, 3) := by decide +kernel
theorem dX8_isInForce_8 : decode cX8_isInForce 8 = .ok (.aload_n 1, 1) := by decide +kernel
theorem dX8_isInForce_9 : decode cX8_isInForce 9 = .ok (.getfield 223, 3) := by decide +kernel
theorem dX8_isInForce_12 : decode cX8_isInForce 12 = .ok (.ifCond .eq 13, 3) := by decide +kernel
theorem dX8_isInForce_15 : decode cX8_isInForce 15 = .ok (.aload_n 1, 1) := by decide +kernel
theorem dX8_isInForce_16 : decode cX8_isInForce 16 = .ok (.getfield 228, 3) := by decide +kernel
theorem dX8_isInForce_19 : decode cX8_isInForce 19 = .ok (.iload_n 3, 1) := by decide +kernel
theorem dX8_isInForce_20 : decode cX8_isInForce 20 = .ok (.if_icmp .gt 5, 3) := by decide +kernel
theorem dX8_isInForce_23 : decode cX8_isInForce 23 = .ok (.iconst 0, 1) := by decide +kernel
theorem dX8_isInForce_24 : decode cX8_isInForce 24 = .ok (.ireturn, 1) := by decide +kernel
theorem dX8_isInForce_25 : decode cX8_isInForce 25 = .ok (.iconst 0, 1) := by decide +kernel
theorem dX8_isInForce_26 : decode cX8_isInForce 26 = .ok (.istore 4, 2) := by decide +kernel
theorem dX8_isInForce_28 : decode cX8_isInForce 28 = .ok (.iload 4, 2) := by decide +kernel
theorem dX8_isInForce_30 : decode cX8_isInForce 30 = .ok (.aload_n 0, 1) := by decide +kernel
theorem dX8_isInForce_31 : decode cX8_isInForce 31 = .ok (.getfield 26, 3) := by decide +kernel
theorem dX8_isInForce_34 : decode cX8_isInForce 34 = .ok (.arraylength, 1) := by decide +kernel
theorem dX8_isInForce_35 : decode cX8_isInForce 35 = .ok (.if_icmp .ge 77, 3) := by decide +kernel
theorem dX8_isInForce_38 : decode cX8_isInForce 38 = .ok (.aload_n 0, 1) := by decide +kernel
theorem dX8_isInForce_39 : decode cX8_isInForce 39 = .ok (.getfield 26, 3) := by decide +kernel
theorem dX8_isInForce_42 : decode cX8_isInForce 42 = .ok (.iload 4, 2) := by decide +kernel
theorem dX8_isInForce_44 : decode cX8_isInForce 44 = .ok (.aaload, 1) := by decide +kernel
theorem dX8_isInForce_45 : decode cX8_isInForce 45 = .ok (.astore 5, 2) := by decide +kernel
theorem dX8_isInForce_47 : decode cX8_isInForce 47 = .ok (.aload 5, 2) := by decide +kernel
theorem dX8_isInForce_49 : decode cX8_isInForce 49 = .ok (.ifnull 57, 3) := by decide +kernel
theorem dX8_isInForce_52 : decode cX8_isInForce 52 = .ok (.aload 5, 2) := by decide +kernel
theorem dX8_isInForce_54 : decode cX8_isInForce 54 = .ok (.getfield 309, 3) := by decide +kernel
theorem dX8_isInForce_57 : decode cX8_isInForce 57 = .ok (.aload_n 1, 1) := by decide +kernel
theorem dX8_isInForce_58 : decode cX8_isInForce 58 = .ok (.getfield 309, 3) := by decide +kernel
theorem dX8_isInForce_61 : decode cX8_isInForce 61 = .ok (.lcmp, 1) := by decide +kernel
theorem dX8_isInForce_62 : decode cX8_isInForce 62 = .ok (.ifCond .ne 44, 3) := by decide +kernel
theorem dX8_isInForce_65 : decode cX8_isInForce 65 = .ok (.aload 5, 2) := by decide +kernel
theorem dX8_isInForce_67 : decode cX8_isInForce 67 = .ok (.getfield 227, 3) := by decide +kernel
theorem dX8_isInForce_70 : decode cX8_isInForce 70 = .ok (.iload_n 3, 1) := by decide +kernel
theorem dX8_isInForce_71 : decode cX8_isInForce 71 = .ok (.if_icmp .gt 35, 3) := by decide +kernel
theorem dX8_isInForce_74 : decode cX8_isInForce 74 = .ok (.aload 5, 2) := by decide +kernel
theorem dX8_isInForce_76 : decode cX8_isInForce 76 = .ok (.getfield 227, 3) := by decide +kernel
theorem dX8_isInForce_79 : decode cX8_isInForce 79 = .ok (.aload_n 1, 1) := by decide +kernel
theorem dX8_isInForce_80 : decode cX8_isInForce 80 = .ok (.getfield 227, 3) := by decide +kernel
theorem dX8_isInForce_83 : decode cX8_isInForce 83 = .ok (.if_icmp .gt 21, 3) := by decide +kernel
theorem dX8_isInForce_86 : decode cX8_isInForce 86 = .ok (.aload 5, 2) := by decide +kernel
theorem dX8_isInForce_88 : decode cX8_isInForce 88 = .ok (.getfield 227, 3) := by decide +kernel
theorem dX8_isInForce_91 : decode cX8_isInForce 91 = .ok (.aload_n 1, 1) := by decide +kernel
theorem dX8_isInForce_92 : decode cX8_isInForce 92 = .ok (.getfield 227, 3) := by decide +kernel
theorem dX8_isInForce_95 : decode cX8_isInForce 95 = .ok (.if_icmp .ne 11, 3) := by decide +kernel
theorem dX8_isInForce_98 : decode cX8_isInForce 98 = .ok (.iload 4, 2) := by decide +kernel
theorem dX8_isInForce_100 : decode cX8_isInForce 100 = .ok (.iload_n 2, 1) := by decide +kernel
theorem dX8_isInForce_101 : decode cX8_isInForce 101 = .ok (.if_icmp .le 5, 3) := by decide +kernel
theorem dX8_isInForce_104 : decode cX8_isInForce 104 = .ok (.iconst 0, 1) := by decide +kernel
theorem dX8_isInForce_105 : decode cX8_isInForce 105 = .ok (.ireturn, 1) := by decide +kernel
theorem dX8_isInForce_106 : decode cX8_isInForce 106 = .ok (.iinc 4 1, 3) := by decide +kernel
theorem dX8_isInForce_109 : decode cX8_isInForce 109 = .ok (.goto (-81), 3) := by decide +kernel
theorem dX8_isInForce_112 : decode cX8_isInForce 112 = .ok (.iconst 1, 1) := by decide +kernel
theorem dX8_isInForce_113 : decode cX8_isInForce 113 = .ok (.ireturn, 1) := by decide +kernel
theorem dX8_name_0 : decode cX8_name 0 = .ok (.aload_n 0, 1) := by decide +kernel
theorem dX8_name_1 : decode cX8_name 1 = .ok (.iload_n 1, 1) := by decide +kernel
theorem dX8_name_2 : decode cX8_name 2 = .ok (.iload_n 2, 1) := by decide +kernel
theorem dX8_name_3 : decode cX8_name 3 = .ok (.invokevirtual 173, 3) := by decide +kernel
theorem dX8_name_6 : decode cX8_name 6 = .ok (.astore 4, 2) := by decide +kernel
theorem dX8_name_8 : decode cX8_name 8 = .ok (.aload 4, 2) := by decide +kernel
theorem dX8_name_10 : decode cX8_name 10 = .ok (.ifnull 11, 3) := by decide +kernel
theorem dX8_name_13 : decode cX8_name 13 = .ok (.aload 4, 2) := by decide +kernel
theorem dX8_name_15 : decode cX8_name 15 = .ok (.getfield 144, 3) := by decide +kernel
theorem dX8_name_18 : decode cX8_name 18 = .ok (.ifCond .ne 5, 3) := by decide +kernel
theorem dX8_name_21 : decode cX8_name 21 = .ok (.iconst (-1), 1) := by decide +kernel
theorem dX8_name_22 : decode cX8_name 22 = .ok (.ireturn, 1) := by decide +kernel
theorem dX8_name_23 : decode cX8_name 23 = .ok (.iconst 0, 1) := by decide +kernel
theorem dX8_name_24 : decode cX8_name 24 = .ok (.istore 5, 2) := by decide +kernel
theorem dX8_name_26 : decode cX8_name 26 = .ok (.iload 5, 2) := by decide +kernel
theorem dX8_name_28 : decode cX8_name 28 = .ok (.aload_n 0, 1) := by decide +kernel
theorem dX8_name_29 : decode cX8_name 29 = .ok (.getfield 26, 3) := by decide +kernel
theorem dX8_name_32 : decode cX8_name 32 = .ok (.arraylength, 1) := by decide +kernel
theorem dX8_name_33 : decode cX8_name 33 = .ok (.if_icmp .ge 50, 3) := by decide +kernel
theorem dX8_name_36 : decode cX8_name 36 = .ok (.aload_n 0, 1) := by decide +kernel
theorem dX8_name_37 : decode cX8_name 37 = .ok (.getfield 26, 3) := by decide +kernel
theorem dX8_name_40 : decode cX8_name 40 = .ok (.iload 5, 2) := by decide +kernel
theorem dX8_name_42 : decode cX8_name 42 = .ok (.aaload, 1) := by decide +kernel
theorem dX8_name_43 : decode cX8_name 43 = .ok (.astore 6, 2) := by decide +kernel
theorem dX8_name_45 : decode cX8_name 45 = .ok (.aload 6, 2) := by decide +kernel
theorem dX8_name_47 : decode cX8_name 47 = .ok (.ifnull 30, 3) := by decide +kernel
theorem dX8_name_50 : decode cX8_name 50 = .ok (.aload_n 0, 1) := by decide +kernel
theorem dX8_name_51 : decode cX8_name 51 = .ok (.aload 6, 2) := by decide +kernel
theorem dX8_name_53 : decode cX8_name 53 = .ok (.iload 5, 2) := by decide +kernel
theorem dX8_name_55 : decode cX8_name 55 = .ok (.iload_n 3, 1) := by decide +kernel
theorem dX8_name_56 : decode cX8_name 56 = .ok (.invokevirtual 235, 3) := by decide +kernel
theorem dX8_name_59 : decode cX8_name 59 = .ok (.ifCond .eq 18, 3) := by decide +kernel
theorem dX8_name_62 : decode cX8_name 62 = .ok (.aload_n 0, 1) := by decide +kernel
theorem dX8_name_63 : decode cX8_name 63 = .ok (.aload 6, 2) := by decide +kernel
theorem dX8_name_65 : decode cX8_name 65 = .ok (.aload 4, 2) := by decide +kernel
theorem dX8_name_67 : decode cX8_name 67 = .ok (.invokevirtual 231, 3) := by decide +kernel
theorem dX8_name_70 : decode cX8_name 70 = .ok (.iconst 2, 1) := by decide +kernel
theorem dX8_name_71 : decode cX8_name 71 = .ok (.if_icmp .ne 6, 3) := by decide +kernel
theorem dX8_name_74 : decode cX8_name 74 = .ok (.iload 5, 2) := by decide +kernel
theorem dX8_name_76 : decode cX8_name 76 = .ok (.ireturn, 1) := by decide +kernel
theorem dX8_name_77 : decode cX8_name 77 = .ok (.iinc 5 1, 3) := by decide +kernel
theorem dX8_name_80 : decode cX8_name 80 = .ok (.goto (-54), 3) := by decide +kernel
theorem dX8_name_83 : decode cX8_name 83 = .ok (.iconst (-1), 1) := by decide +kernel
theorem dX8_name_84 : decode cX8_name 84 = .ok (.ireturn, 1) := by decide +kernel
set_option maxRecDepth 20000 in
theorem ggX8_isPollenLow_X8_isIn : GoodIn wsX8_isPollenLow wsX8_isIn := goodIn_r _ [4] rfl (by decide +kernel)
set_option maxRecDepth 20000 in
theorem gX8_isPollenLow_X8_isIn : GoodIn wsX8_isPollenLow (va_wsS RX8 85 yX8_isIn wsX8_isIn) := goodIn_app (goodIn_of _ (by decide +kernel)) ggX8_isPollenLow_X8_isIn
set_option maxRecDepth 20000 in
theorem ggX8_isPollenHigh_X8_isIn : GoodIn wsX8_isPollenHigh wsX8_isIn := goodIn_r _ [4] rfl (by decide +kernel)
set_option maxRecDepth 20000 in
theorem gX8_isPollenHigh_X8_isIn : GoodIn wsX8_isPollenHigh (va_wsS RX8 85 yX8_isIn wsX8_isIn) := goodIn_app (goodIn_of _ (by decide +kernel)) ggX8_isPollenHigh_X8_isIn
set_option maxRecDepth 20000 in
theorem ggX8_isMeasure_X8_isIn : GoodIn wsX8_isMeasure wsX8_isIn := goodIn_r _ [4] rfl (by decide +kernel)
set_option maxRecDepth 20000 in
theorem gX8_isMeasure_X8_isIn : GoodIn wsX8_isMeasure (va_wsS RX8 85 yX8_isIn wsX8_isIn) := goodIn_app (goodIn_of _ (by decide +kernel)) ggX8_isMeasure_X8_isIn
set_option maxRecDepth 20000 in
theorem ggX8_isMeasure_X8_isPollenLow : GoodIn wsX8_isMeasure wsX8_isPollenLow := goodIn_r _ [7, 1, 2, 3, 4] rfl (by decide +kernel)
set_option maxRecDepth 20000 in
theorem gX8_isMeasure_X8_isPollenLow : GoodIn wsX8_isMeasure (va_wsS RX8 279 yX8_isPollenLow wsX8_isPollenLow) := goodIn_app (goodIn_of _ (by decide +kernel)) ggX8_isMeasure_X8_isPollenLow
set_option maxRecDepth 20000 in
theorem ggX8_isMeasure_X8_isPollenHigh : GoodIn wsX8_isMeasure wsX8_isPollenHigh := goodIn_r _ [10, 1, 2, 3, 4] rfl (by decide +kernel)
set_option maxRecDepth 20000 in
theorem gX8_isMeasure_X8_isPollenHigh : GoodIn wsX8_isMeasure (va_wsS RX8 282 yX8_isPollenHigh wsX8_isPollenHigh) := goodIn_app (goodIn_of _ (by decide +kernel)) ggX8_isMeasure_X8_isPollenHigh
set_option maxRecDepth 20000 in
theorem ggX2_perGram_X8_isPollenLow : GoodIn wsX2_perGram wsX8_isPollenLow := goodIn_r _ [8, 9, 10, 7, 11] rfl (by decide +kernel)
set_option maxRecDepth 20000 in
theorem gX2_perGram_X8_isPollenLow_n61 : GoodIn wsX2_perGram (wsX8_isPollenLow) := ggX2_perGram_X8_isPollenLow
set_option maxRecDepth 20000 in
theorem ggX2_perGram_X8_isPollenHigh : GoodIn wsX2_perGram wsX8_isPollenHigh := goodIn_r _ [13, 9, 10, 7, 11] rfl (by decide +kernel)
set_option maxRecDepth 20000 in
theorem gX2_perGram_X8_isPollenHigh_n65 : GoodIn wsX2_perGram (wsX8_isPollenHigh) := ggX2_perGram_X8_isPollenHigh
set_option maxRecDepth 20000 in
theorem ggX8_weighed_X7_gramsOf : GoodIn wsX8_weighed wsX7_gramsOf := goodIn_r _ [9, 10, 29, 30, 31, 32, 33] rfl (by decide +kernel)
set_option maxRecDepth 20000 in
theorem gX8_weighed_X7_gramsOf : GoodIn wsX8_weighed (wsV RX8 181 RX7 yX7_gramsOf wsX7_gramsOf) := goodIn_app (goodIn_of _ (by decide +kernel)) ggX8_weighed_X7_gramsOf
set_option maxRecDepth 20000 in
theorem ggX8_weighed_X2_perGram : GoodIn wsX8_weighed wsX2_perGram := goodIn_r _ [15, 16, 17, 18, 19, 20, 21, 22, 23, 24, 25, 26, 27, 28, 49, 50, 51, 52, 53, 54, 55, 56, 57, 58] rfl (by decide +kernel)
set_option maxRecDepth 20000 in
theorem gX8_weighed_X2_perGram : GoodIn wsX8_weighed (wsV RX8 285 RX2 yX2_perGram wsX2_perGram) := goodIn_app (goodIn_of _ (by decide +kernel)) ggX8_weighed_X2_perGram
set_option maxRecDepth 20000 in
theorem ggX8_told_X8_weighed : GoodIn wsX8_told wsX8_weighed := goodIn_r _ [8, 2, 1, 9, 10, 11, 12, 13, 14, 15, 16, 17, 18, 19, 20, 21, 22, 23, 24, 25, 26, 27, 7, 28, 29, 30, 31, 32, 33, 34, 35, 36, 37, 38, 39, 40, 41, 42, 43, 44, 45, 46, 47, 48, 49, 50, 51, 52, 53, 54, 55, 56, 57, 58, 59, 60, 61, 62, 63] rfl (by decide +kernel)
set_option maxRecDepth 20000 in
theorem gX8_told_X8_weighed : GoodIn wsX8_told (wsV RX8 290 RX8 yX8_weighed wsX8_weighed) := goodIn_app (goodIn_of _ (by decide +kernel)) ggX8_told_X8_weighed
set_option maxRecDepth 20000 in
theorem ggX8_measure_X8_vesselAt : GoodIn wsX8_measure wsX8_vesselAt := goodIn_r _ [5, 6, 7, 8, 9, 4, 10, 11, 12, 13, 14, 53, 54, 55, 56, 57, 58, 59, 60, 61, 62, 63, 64, 65, 66, 67] rfl (by decide +kernel)
set_option maxRecDepth 20000 in
theorem gX8_measure_X8_vesselAt : GoodIn wsX8_measure (wsV RX8 173 RX8 yX8_vesselAt wsX8_vesselAt) := goodIn_app (goodIn_of _ (by decide +kernel)) ggX8_measure_X8_vesselAt
set_option maxRecDepth 20000 in
theorem ggX8_measure_X8_isMeasure : GoodIn wsX8_measure wsX8_isMeasure := goodIn_r _ [17, 12, 13, 4, 14, 18, 19, 20, 21, 22, 23] rfl (by decide +kernel)
set_option maxRecDepth 20000 in
theorem gX8_measure_X8_isMeasure : GoodIn wsX8_measure (va_wsS RX8 185 yX8_isMeasure wsX8_isMeasure) := goodIn_app (goodIn_of _ (by decide +kernel)) ggX8_measure_X8_isMeasure
set_option maxRecDepth 20000 in
theorem ggX8_measure_X8_told : GoodIn wsX8_measure wsX8_told := goodIn_r _ [27, 28, 29, 30, 31, 32, 33, 4, 34, 35, 36, 37, 38, 39, 40, 41, 42, 43, 44, 45, 46, 47, 48, 49, 50, 51, 52, 19, 20, 12, 13, 14, 22, 23, 68, 69, 70, 71, 72, 53, 54, 55, 56, 57, 58, 59, 60, 61, 62, 63, 64, 65, 66, 67, 73, 74, 75, 76, 77, 78, 79, 80, 81, 82] rfl (by decide +kernel)
set_option maxRecDepth 20000 in
theorem gX8_measure_X8_told : GoodIn wsX8_measure (wsV RX8 188 RX8 yX8_told wsX8_told) := goodIn_app (goodIn_of _ (by decide +kernel)) ggX8_measure_X8_told
set_option maxRecDepth 20000 in
theorem ggX8_verdictOfTest_X8_weighed : GoodIn wsX8_verdictOfTest wsX8_weighed := goodIn_r _ [6, 7, 1, 8, 9, 10, 11, 12, 13, 14, 15, 16, 17, 18, 19, 20, 21, 22, 23, 24, 25, 26, 5, 27, 28, 29, 30, 31, 32, 34, 35, 36, 37, 38, 39, 40, 41, 42, 43, 44, 45, 46, 47, 48, 49, 50, 51, 52, 53, 54, 55, 56, 57, 58, 59, 60, 61, 62, 63] rfl (by decide +kernel)
set_option maxRecDepth 20000 in
theorem gX8_verdictOfTest_X8_weighed : GoodIn wsX8_verdictOfTest (wsV RX8 290 RX8 yX8_weighed wsX8_weighed) := goodIn_app (goodIn_of _ (by decide +kernel)) ggX8_verdictOfTest_X8_weighed
set_option maxRecDepth 20000 in
theorem ggX8_verdictOfTest_X8_isPollenLow : GoodIn wsX8_verdictOfTest wsX8_isPollenLow := goodIn_r _ [27, 28, 29, 5, 30] rfl (by decide +kernel)
set_option maxRecDepth 20000 in
theorem gX8_verdictOfTest_X8_isPollenLow : GoodIn wsX8_verdictOfTest (va_wsS RX8 279 yX8_isPollenLow wsX8_isPollenLow) := goodIn_app (goodIn_of _ (by decide +kernel)) ggX8_verdictOfTest_X8_isPollenLow
set_option maxRecDepth 20000 in
theorem ggX8_verdict_X8_isIn : GoodIn wsX8_verdict wsX8_isIn := goodIn_r _ [43] rfl (by decide +kernel)
set_option maxRecDepth 20000 in
theorem gX8_verdict_X8_isIn : GoodIn wsX8_verdict (va_wsS RX8 85 yX8_isIn wsX8_isIn) := goodIn_app (goodIn_of _ (by decide +kernel)) ggX8_verdict_X8_isIn
set_option maxRecDepth 20000 in
theorem ggX8_verdict_X8_verdictOfTest : GoodIn wsX8_verdict wsX8_verdictOfTest := goodIn_r _ [14, 15, 16, 17, 18, 13, 19, 20, 21, 22, 23, 24, 25, 26, 27, 28, 29, 30, 31, 32, 33, 34, 35, 36, 37, 38, 39, 40, 41, 42, 43, 44, 45, 46, 67, 68, 69, 70, 71, 52, 53, 54, 55, 56, 57, 58, 59, 60, 61, 62, 63, 64, 65, 66, 72, 73, 74, 75, 76, 77, 78, 79, 80, 81] rfl (by decide +kernel)
set_option maxRecDepth 20000 in
theorem gX8_verdict_X8_verdictOfTest : GoodIn wsX8_verdict (wsV RX8 297 RX8 yX8_verdictOfTest wsX8_verdictOfTest) := goodIn_app (goodIn_of _ (by decide +kernel)) ggX8_verdict_X8_verdictOfTest
set_option maxRecDepth 20000 in
theorem ggX8_says_X8_ruleAt : GoodIn wsX8_says wsX8_ruleAt := goodIn_r _ [6, 7, 8, 9, 5, 10, 71, 72, 73, 74, 75, 76, 77, 78, 79, 80, 81, 82, 83, 84, 85] rfl (by decide +kernel)
set_option maxRecDepth 20000 in
theorem gX8_says_X8_ruleAt : GoodIn wsX8_says (wsV RX8 219 RX8 yX8_ruleAt wsX8_ruleAt) := goodIn_app (goodIn_of _ (by decide +kernel)) ggX8_says_X8_ruleAt
set_option maxRecDepth 20000 in
theorem ggX8_says_X8_vesselAt : GoodIn wsX8_says wsX8_vesselAt := goodIn_r _ [14, 15, 16, 17, 18, 5, 19, 20, 8, 9, 10, 71, 72, 73, 74, 75, 76, 77, 78, 79, 80, 81, 82, 83, 84, 85] rfl (by decide +kernel)
set_option maxRecDepth 20000 in
theorem gX8_says_X8_vesselAt : GoodIn wsX8_says (wsV RX8 173 RX8 yX8_vesselAt wsX8_vesselAt) := goodIn_app (goodIn_of _ (by decide +kernel)) ggX8_says_X8_vesselAt
set_option maxRecDepth 20000 in
theorem ggX8_says_X8_verdict : GoodIn wsX8_says wsX8_verdict := goodIn_r _ [24, 25, 26, 27, 28, 29, 30, 31, 32, 33, 34, 35, 36, 5, 37, 1, 38, 39, 40, 41, 42, 43, 44, 45, 46, 47, 48, 49, 50, 51, 52, 53, 54, 55, 56, 57, 58, 59, 60, 61, 62, 8, 9, 10, 63, 64, 65, 86, 87, 88, 89, 90, 71, 72, 73, 74, 75, 76, 77, 78, 79, 80, 81, 82, 83, 84, 85, 66, 67, 68, 69, 70, 91, 92, 93, 94, 95, 96, 97, 98, 99, 100] rfl (by decide +kernel)
set_option maxRecDepth 20000 in
theorem gX8_says_X8_verdict : GoodIn wsX8_says (wsV RX8 231 RX8 yX8_verdict wsX8_verdict) := goodIn_app (goodIn_of _ (by decide +kernel)) ggX8_says_X8_verdict
set_option maxRecDepth 20000 in
theorem ggX8_name_X8_vesselAt : GoodIn wsX8_name wsX8_vesselAt := goodIn_r _ [7, 8, 9, 10, 11, 6, 12, 13, 14, 15, 16, 75, 76, 77, 78, 79, 80, 81, 82, 83, 84, 85, 86, 87, 88, 89] rfl (by decide +kernel)
set_option maxRecDepth 20000 in
theorem gX8_name_X8_vesselAt : GoodIn wsX8_name (wsV RX8 173 RX8 yX8_vesselAt wsX8_vesselAt) := goodIn_app (goodIn_of _ (by decide +kernel)) ggX8_name_X8_vesselAt
set_option maxRecDepth 20000 in
theorem ggX8_name_X8_isInForce : GoodIn wsX8_name wsX8_isInForce := goodIn_r _ [20, 21, 22, 23, 2, 24, 90, 91, 92, 93, 94, 75, 76, 77, 78, 79, 80, 81, 82, 83, 84, 85, 86, 87, 88, 89] rfl (by decide +kernel)
set_option maxRecDepth 20000 in
theorem gX8_name_X8_isInForce : GoodIn wsX8_name (wsV RX8 235 RX8 yX8_isInForce wsX8_isInForce) := goodIn_app (goodIn_of _ (by decide +kernel)) ggX8_name_X8_isInForce
set_option maxRecDepth 20000 in
theorem ggX8_name_X8_verdict : GoodIn wsX8_name wsX8_verdict := goodIn_r _ [28, 29, 30, 31, 32, 33, 34, 35, 36, 37, 38, 39, 40, 6, 41, 1, 42, 43, 44, 45, 46, 47, 48, 49, 50, 51, 52, 53, 54, 55, 56, 57, 58, 59, 60, 61, 62, 63, 64, 65, 66, 14, 15, 16, 67, 68, 69, 90, 91, 92, 93, 94, 75, 76, 77, 78, 79, 80, 81, 82, 83, 84, 85, 86, 87, 88, 89, 70, 71, 72, 73, 74, 95, 96, 97, 98, 99, 100, 101, 102, 103, 104] rfl (by decide +kernel)
set_option maxRecDepth 20000 in
theorem gX8_name_X8_verdict : GoodIn wsX8_name (wsV RX8 231 RX8 yX8_verdict wsX8_verdict) := goodIn_app (goodIn_of _ (by decide +kernel)) ggX8_name_X8_verdict
set_option maxHeartbeats 4000000 in
set_option maxRecDepth 100000 in
theorem s_X8_isPollenLow (l : Launch) (n : Int32) : Met l yX8_isPollenLow wsX8_isPollenLow ({ frames := 1, cells := 0, slots := 0, locals := 22 }) (va_Pc [.int n] (fun _ => True)) (vp_Si (fun r => (r = 0 ∧ (n < 10 ∨ 14 < n)) ∨ (r = 1 ∧ ¬ n < 10 ∧ ¬ 14 < n))) 0 0 (fun _ => False) := by
  refine Met.ofW (cc := cX8_isPollenLow) (maxL := 1) (ret := (some .boolean)) (by decide) rfl ?_
  intro p e s m args below meth c s₁ B hml hv
  obtain ⟨rfl, -⟩ := hv
  have hx := B.exec
  have hb := B.bytes
  have hr := B.returns
  have hts := atoms_spec (ws := wsX8_isPollenLow) B.pre
  have hown : s.vm.findClass RX8 = some m.cls := findClass_of_methodNamed B.named
  have hlocks := B.notSynchronized
  have hl := lv_entry ([.int n]) (n := 1) (Nat.le_of_ble_eq_true rfl)
  rw [lg_entry_eq]
  generalize (lg_sl ([.int n]) ++ List.replicate (1 - (lg_sl ([.int n])).length) Slot.unset).toArray = ls at hl ⊢
  have hl : lv_has ls 1 [(0, .int n)] := hl
  refine lv_iload_n hx hb dX8_isPollenLow_0 rfl (lv_at hl 0 rfl) ?_
  refine lv_bipush (v := 10) hx hb dX8_isPollenLow_1 (by decide) ?_
  refine lv_bipush (v := 14) hx hb dX8_isPollenLow_3 (by decide) ?_
  refine vp_callSi (W.runS (As := [.int n, .int 10, .int 14]) (rest := []) ⟨hx, hb, hml, hown, hts⟩ (s_X8_isIn l n 10 14) (va_cwS 3 hts gX8_isPollenLow_X8_isIn rfl rfl rfl (by decide +kernel) ⟨Nat.le_of_ble_eq_true rfl, Nat.le_of_ble_eq_true rfl⟩) ⟨fun a U g mk q => q, fun U hU hW => ⟨rfl, trivial⟩⟩ rfl rfl hl.1 rfl (lv_room (Nat.le_of_ble_eq_true rfl)) dX8_isPollenLow_5 ⟨Nat.le_of_ble_eq_true rfl, Nat.le_of_ble_eq_true rfl⟩) (fun r_1 k_2 => ?_)
  rcases k_2 with ⟨rfl, a_3o⟩ | ⟨rfl, a_3, b_4⟩
  · exact W.zret (v := 0) hx hb hr rfl (fun t ht hW => ⟨0, rfl, Or.inl ⟨rfl, a_3o⟩, ht⟩) (fun _ h9 => by cases h9) dX8_isPollenLow_8
  exact W.zret (v := 1) hx hb hr rfl (fun t ht hW => ⟨1, rfl, Or.inr ⟨rfl, a_3, b_4⟩, ht⟩) (fun _ h9 => by cases h9) dX8_isPollenLow_8
set_option maxHeartbeats 4000000 in
set_option maxRecDepth 100000 in
theorem s_X8_isPollenHigh (l : Launch) (n : Int32) : Met l yX8_isPollenHigh wsX8_isPollenHigh ({ frames := 1, cells := 0, slots := 0, locals := 22 }) (va_Pc [.int n] (fun _ => True)) (vp_Si (fun r => (r = 0 ∧ (n < 20 ∨ 24 < n)) ∨ (r = 1 ∧ ¬ n < 20 ∧ ¬ 24 < n))) 0 0 (fun _ => False) := by
  refine Met.ofW (cc := cX8_isPollenHigh) (maxL := 1) (ret := (some .boolean)) (by decide) rfl ?_
  intro p e s m args below meth c s₁ B hml hv
  obtain ⟨rfl, -⟩ := hv
  have hx := B.exec
  have hb := B.bytes
  have hr := B.returns
  have hts := atoms_spec (ws := wsX8_isPollenHigh) B.pre
  have hown : s.vm.findClass RX8 = some m.cls := findClass_of_methodNamed B.named
  have hlocks := B.notSynchronized
  have hl := lv_entry ([.int n]) (n := 1) (Nat.le_of_ble_eq_true rfl)
  rw [lg_entry_eq]
  generalize (lg_sl ([.int n]) ++ List.replicate (1 - (lg_sl ([.int n])).length) Slot.unset).toArray = ls at hl ⊢
  have hl : lv_has ls 1 [(0, .int n)] := hl
  refine lv_iload_n hx hb dX8_isPollenHigh_0 rfl (lv_at hl 0 rfl) ?_
  refine lv_bipush (v := 20) hx hb dX8_isPollenHigh_1 (by decide) ?_
  refine lv_bipush (v := 24) hx hb dX8_isPollenHigh_3 (by decide) ?_
  refine vp_callSi (W.runS (As := [.int n, .int 20, .int 24]) (rest := []) ⟨hx, hb, hml, hown, hts⟩ (s_X8_isIn l n 20 24) (va_cwS 3 hts gX8_isPollenHigh_X8_isIn rfl rfl rfl (by decide +kernel) ⟨Nat.le_of_ble_eq_true rfl, Nat.le_of_ble_eq_true rfl⟩) ⟨fun a U g mk q => q, fun U hU hW => ⟨rfl, trivial⟩⟩ rfl rfl hl.1 rfl (lv_room (Nat.le_of_ble_eq_true rfl)) dX8_isPollenHigh_5 ⟨Nat.le_of_ble_eq_true rfl, Nat.le_of_ble_eq_true rfl⟩) (fun r_1 k_2 => ?_)
  rcases k_2 with ⟨rfl, a_3o⟩ | ⟨rfl, a_3, b_4⟩
  · exact W.zret (v := 0) hx hb hr rfl (fun t ht hW => ⟨0, rfl, Or.inl ⟨rfl, a_3o⟩, ht⟩) (fun _ h9 => by cases h9) dX8_isPollenHigh_8
  exact W.zret (v := 1) hx hb hr rfl (fun t ht hW => ⟨1, rfl, Or.inr ⟨rfl, a_3, b_4⟩, ht⟩) (fun _ h9 => by cases h9) dX8_isPollenHigh_8
set_option maxHeartbeats 4000000 in
set_option maxRecDepth 100000 in
theorem s_X8_isMeasure (l : Launch) (n : Int32) : Met l yX8_isMeasure wsX8_isMeasure ({ frames := 2, cells := 0, slots := 0, locals := 42 }) (va_Pc [.int n] (fun _ => True)) (vp_Si (fun r => (r = 0 ∧ ¬ isM n) ∨ (r = 1 ∧ isM n))) 0 0 (fun _ => False) := by
  refine Met.ofW (cc := cX8_isMeasure) (maxL := 1) (ret := (some .boolean)) (by decide) rfl ?_
  intro p e s m args below meth c s₁ B hml hv
  obtain ⟨rfl, -⟩ := hv
  have hx := B.exec
  have hb := B.bytes
  have hr := B.returns
  have hts := atoms_spec (ws := wsX8_isMeasure) B.pre
  have hown : s.vm.findClass RX8 = some m.cls := findClass_of_methodNamed B.named
  have hlocks := B.notSynchronized
  have hl := lv_entry ([.int n]) (n := 1) (Nat.le_of_ble_eq_true rfl)
  rw [lg_entry_eq]
  generalize (lg_sl ([.int n]) ++ List.replicate (1 - (lg_sl ([.int n])).length) Slot.unset).toArray = ls at hl ⊢
  have hl : lv_has ls 1 [(0, .int n)] := hl
  refine lv_iload_n hx hb dX8_isMeasure_0 rfl (lv_at hl 0 rfl) ?_
  refine lv_iconst (v := 0) hx hb dX8_isMeasure_1 (by decide) ?_
  refine lv_iconst (v := 2) hx hb dX8_isMeasure_2 (by decide) ?_
  refine vp_callSi (W.runS (As := [.int n, .int 0, .int 2]) (rest := []) ⟨hx, hb, hml, hown, hts⟩ (s_X8_isIn l n 0 2) (va_cwS 3 hts gX8_isMeasure_X8_isIn rfl rfl rfl (by decide +kernel) ⟨Nat.le_of_ble_eq_true rfl, Nat.le_of_ble_eq_true rfl⟩) ⟨fun a U g mk q => q, fun U hU hW => ⟨rfl, trivial⟩⟩ rfl rfl hl.1 rfl (lv_room (Nat.le_of_ble_eq_true rfl)) dX8_isMeasure_3 ⟨Nat.le_of_ble_eq_true rfl, Nat.le_of_ble_eq_true rfl⟩) (fun r_1 k_2 => ?_)
  rcases k_2 with ⟨rfl, a_3o⟩ | ⟨rfl, a_3, b_4⟩
  · refine lv_if_ne (tgt := 34) hx hb dX8_isMeasure_6 (by decide) (fun c_5 => absurd (by decide) c_5) (fun c_5 => ?_)
    refine lv_iload_n hx hb dX8_isMeasure_9 rfl (lv_at hl 0 rfl) ?_
    refine vp_callSi (W.runS (As := [.int n]) (rest := []) ⟨hx, hb, hml, hown, hts⟩ (s_X8_isPollenLow l n) (va_cwS 1 hts gX8_isMeasure_X8_isPollenLow rfl rfl rfl (by decide +kernel) ⟨Nat.le_of_ble_eq_true rfl, Nat.le_of_ble_eq_true rfl⟩) ⟨fun a U g mk q => q, fun U hU hW => ⟨rfl, trivial⟩⟩ rfl rfl hl.1 rfl (lv_room (Nat.le_of_ble_eq_true rfl)) dX8_isMeasure_10 ⟨Nat.le_of_ble_eq_true rfl, Nat.le_of_ble_eq_true rfl⟩) (fun r_6 k_7 => ?_)
    rcases k_7 with ⟨rfl, a_8o⟩ | ⟨rfl, a_8, b_9⟩
    · refine lv_if_ne (tgt := 34) hx hb dX8_isMeasure_13 (by decide) (fun c_10 => absurd (by decide) c_10) (fun c_10 => ?_)
      refine lv_iload_n hx hb dX8_isMeasure_16 rfl (lv_at hl 0 rfl) ?_
      refine vp_callSi (W.runS (As := [.int n]) (rest := []) ⟨hx, hb, hml, hown, hts⟩ (s_X8_isPollenHigh l n) (va_cwS 1 hts gX8_isMeasure_X8_isPollenHigh rfl rfl rfl (by decide +kernel) ⟨Nat.le_of_ble_eq_true rfl, Nat.le_of_ble_eq_true rfl⟩) ⟨fun a U g mk q => q, fun U hU hW => ⟨rfl, trivial⟩⟩ rfl rfl hl.1 rfl (lv_room (Nat.le_of_ble_eq_true rfl)) dX8_isMeasure_17 ⟨Nat.le_of_ble_eq_true rfl, Nat.le_of_ble_eq_true rfl⟩) (fun r_11 k_12 => ?_)
      rcases k_12 with ⟨rfl, a_13o⟩ | ⟨rfl, a_13, b_14⟩
      · refine lv_if_ne (tgt := 34) hx hb dX8_isMeasure_20 (by decide) (fun c_15 => absurd (by decide) c_15) (fun c_15 => ?_)
        refine lv_iload_n hx hb dX8_isMeasure_23 rfl (lv_at hl 0 rfl) ?_
        refine lv_bipush (v := 30) hx hb dX8_isMeasure_24 (by decide) ?_
        refine lv_bipush (v := 33) hx hb dX8_isMeasure_26 (by decide) ?_
        refine vp_callSi (W.runS (As := [.int n, .int 30, .int 33]) (rest := []) ⟨hx, hb, hml, hown, hts⟩ (s_X8_isIn l n 30 33) (va_cwS 3 hts gX8_isMeasure_X8_isIn rfl rfl rfl (by decide +kernel) ⟨Nat.le_of_ble_eq_true rfl, Nat.le_of_ble_eq_true rfl⟩) ⟨fun a U g mk q => q, fun U hU hW => ⟨rfl, trivial⟩⟩ rfl rfl hl.1 rfl (lv_room (Nat.le_of_ble_eq_true rfl)) dX8_isMeasure_28 ⟨Nat.le_of_ble_eq_true rfl, Nat.le_of_ble_eq_true rfl⟩) (fun r_16 k_17 => ?_)
        rcases k_17 with ⟨rfl, a_18o⟩ | ⟨rfl, a_18, b_19⟩
        · refine lv_if_eq (tgt := 38) hx hb dX8_isMeasure_31 (by decide) (fun c_20 => ?_) (fun c_20 => absurd (by decide) c_20)
          refine lv_iconst (v := 0) hx hb dX8_isMeasure_38 (by decide) ?_
          exact W.zret (v := 0) hx hb hr rfl (fun t ht hW => ⟨0, rfl, Or.inl ⟨rfl, fun h => Or.elim h (fun h => h a_3o) (fun h => Or.elim h (fun h => h a_8o) (fun h => Or.elim h (fun h => h a_13o) (fun h => h a_18o)))⟩, ht⟩) (fun _ h9 => by cases h9) dX8_isMeasure_39
        refine lv_if_eq (tgt := 38) hx hb dX8_isMeasure_31 (by decide) (fun c_21 => absurd c_21 (by decide)) (fun c_21 => ?_)
        refine lv_iconst (v := 1) hx hb dX8_isMeasure_34 (by decide) ?_
        refine lv_goto (tgt := 39) hx hb dX8_isMeasure_35 (by decide) ?_
        exact W.zret (v := 1) hx hb hr rfl (fun t ht hW => ⟨1, rfl, Or.inr ⟨rfl, Or.inr (Or.inr (Or.inr ((fun h => Or.elim h a_18 b_19))))⟩, ht⟩) (fun _ h9 => by cases h9) dX8_isMeasure_39
      refine lv_if_ne (tgt := 34) hx hb dX8_isMeasure_20 (by decide) (fun c_22 => ?_) (fun c_22 => absurd c_22 (by decide))
      refine lv_iconst (v := 1) hx hb dX8_isMeasure_34 (by decide) ?_
      refine lv_goto (tgt := 39) hx hb dX8_isMeasure_35 (by decide) ?_
      exact W.zret (v := 1) hx hb hr rfl (fun t ht hW => ⟨1, rfl, Or.inr ⟨rfl, Or.inr (Or.inr (Or.inl (fun h => Or.elim h a_13 b_14)))⟩, ht⟩) (fun _ h9 => by cases h9) dX8_isMeasure_39
    refine lv_if_ne (tgt := 34) hx hb dX8_isMeasure_13 (by decide) (fun c_23 => ?_) (fun c_23 => absurd c_23 (by decide))
    refine lv_iconst (v := 1) hx hb dX8_isMeasure_34 (by decide) ?_
    refine lv_goto (tgt := 39) hx hb dX8_isMeasure_35 (by decide) ?_
    exact W.zret (v := 1) hx hb hr rfl (fun t ht hW => ⟨1, rfl, Or.inr ⟨rfl, Or.inr (Or.inl (fun h => Or.elim h a_8 b_9))⟩, ht⟩) (fun _ h9 => by cases h9) dX8_isMeasure_39
  refine lv_if_ne (tgt := 34) hx hb dX8_isMeasure_6 (by decide) (fun c_24 => ?_) (fun c_24 => absurd c_24 (by decide))
  refine lv_iconst (v := 1) hx hb dX8_isMeasure_34 (by decide) ?_
  refine lv_goto (tgt := 39) hx hb dX8_isMeasure_35 (by decide) ?_
  exact W.zret (v := 1) hx hb hr rfl (fun t ht hW => ⟨1, rfl, Or.inr ⟨rfl, Or.inl (fun h => Or.elim h a_3 b_4)⟩, ht⟩) (fun _ h9 => by cases h9) dX8_isMeasure_39
set_option maxHeartbeats 4000000 in
set_option maxRecDepth 100000 in
theorem s_X8_hasBit (l : Launch) (n k : Int32) : Met l yX8_hasBit wsX8_hasBit ({ frames := 0, cells := 0, slots := 0, locals := 0 }) (va_Pc [.int n, .int k] (fun _ => True)) (vp_Si (fun r => r = 0 ∨ r = 1)) 0 0 (fun _ => False) := by
  refine Met.ofW (cc := cX8_hasBit) (maxL := 2) (ret := (some .boolean)) (by decide) rfl ?_
  intro p e s m args below meth c s₁ B hml hv
  obtain ⟨rfl, -⟩ := hv
  have hx := B.exec
  have hb := B.bytes
  have hr := B.returns
  have hts := atoms_spec (ws := wsX8_hasBit) B.pre
  have hown : s.vm.findClass RX8 = some m.cls := findClass_of_methodNamed B.named
  have hlocks := B.notSynchronized
  have hl := lv_entry ([.int n, .int k]) (n := 2) (Nat.le_of_ble_eq_true rfl)
  rw [lg_entry_eq]
  generalize (lg_sl ([.int n, .int k]) ++ List.replicate (2 - (lg_sl ([.int n, .int k])).length) Slot.unset).toArray = ls at hl ⊢
  have hl : lv_has ls 2 [(0, .int n), (1, .int k)] := hl
  refine lv_iload_n hx hb dX8_hasBit_0 rfl (lv_at hl 0 rfl) ?_
  refine lv_iload_n hx hb dX8_hasBit_1 rfl (lv_at hl 1 rfl) ?_
  refine lv_ishr hx hb dX8_hasBit_2 ?_
  refine lv_iconst (v := 1) hx hb dX8_hasBit_3 (by decide) ?_
  refine lv_iand hx hb dX8_hasBit_4 ?_
  refine lv_iconst (v := 1) hx hb dX8_hasBit_5 (by decide) ?_
  refine lv_icmp_ne (tgt := 13) hx hb dX8_hasBit_6 (by decide) (fun c_1 => ?_) (fun c_1 => ?_)
  · refine lv_iconst (v := 0) hx hb dX8_hasBit_13 (by decide) ?_
    exact W.zret (v := 0) hx hb hr rfl (fun t ht hW => ⟨0, rfl, Or.inl rfl, ht⟩) (fun _ h9 => by cases h9) dX8_hasBit_14
  refine lv_iconst (v := 1) hx hb dX8_hasBit_9 (by decide) ?_
  refine lv_goto (tgt := 14) hx hb dX8_hasBit_10 (by decide) ?_
  exact W.zret (v := 1) hx hb hr rfl (fun t ht hW => ⟨1, rfl, Or.inr rfl, ht⟩) (fun _ h9 => by cases h9) dX8_hasBit_14
set_option maxHeartbeats 4000000 in
set_option maxRecDepth 100000 in
theorem a_perGram (l : Launch) (D : va_G) (ρ : Nat → Nat) (ws : va_W) (tys : List (ClassId × FieldType)) (lt klt sx : Nat) (x0 x1 x2 x3 x7 x8 x9 : Int32) (lo klo : Nat) (clo : ClassId) (tlo : Nat) (flo : Nat → Int32) (hi khi : Nat) (chi : ClassId) (thi : Nat) (fhi : Nat → Int32) (a1 : Int32) (sz : Nat) (elt : ws[klt]? = some (lt, .inr (2, [.int x0, .int x1, .int x2, .int x3, .ref lo, .ref hi, .ref sx, .int x7, .int x8, .int x9]))) (elo : ws[klo]? = some (lo, .inl (clo, 5, .inl flo))) (ulo : tys[tlo]? = some (clo, .int)) (ehi : ws[khi]? = some (hi, .inl (chi, 5, .inl fhi))) (uhi : tys[thi]? = some (chi, .int)) : Met l yX2_perGram wsX2_perGram ({ frames := 2, cells := 0, slots := 0, locals := 42 }) (va_Pc [.ref lt, .int a1] (fun U => U.heap.size = sz ∧ va_P D vwCl ws U.heap ∧ va_K D vwCl tys U ∧ va_D (fun _ => True) ws ∧ NZ U)) (va_Qi (fun (r : Int32) (_ : Unit) => r = pgC x7 x2 x3 flo fhi a1) (fun (_ : Unit) (t : State) => ∃ (ws' : va_W) (tys' : List (ClassId × FieldType)), sm ρ [] ws ws' ∧ tyx tys tys' ∧ va_P D vwCl ws' t.heap ∧ va_K D vwCl tys' t ∧ va_D (va_A ws sz) ws' ∧ (True)) (va_A ws sz)) 0 0 (va_A ws sz) := by
  refine Met.ofW (cc := cX2_perGram) (maxL := 2) (ret := (some .int)) (by decide) rfl ?_
  intro p e s m args below meth c s₁ B hml hv
  obtain ⟨rfl, hsz, hP, hK, hD0, hnz⟩ := hv
  have hx := B.exec
  have hb := B.bytes
  have hr := B.returns
  have hts := atoms_spec (ws := wsX2_perGram) B.pre
  have hown : s.vm.findClass RX2 = some m.cls := findClass_of_methodNamed B.named
  have hlocks := B.notSynchronized
  subst hsz
  have hD := hD0.self (sz := s.heap.size)
  generalize hAe : va_A ws s.heap.size = A at hD ⊢
  have hA : ∀ q : Nat, s.heap.size ≤ q → A q := fun q h => by rw [← hAe]; exact Or.inr h
  have hS : va_S A s.heap s.heap [] := va_S.rf
  have hsm : sm ρ [] ws ws := sm.rf ws
  have htx : tyx tys tys := tyx.rf tys
  have hin2 : ∀ w ∈ u_ws RX2 TX2 10, w ∈ wsX2_perGram := (fun _ h9 => List.mem_cons_of_mem _ ((List.mem_append_right _ h9)))
  have hl := lv_entry ([.ref lt, .int a1]) (n := 2) (Nat.le_of_ble_eq_true rfl)
  rw [lg_entry_eq]
  generalize (lg_sl ([.ref lt, .int a1]) ++ List.replicate (2 - (lg_sl ([.ref lt, .int a1])).length) Slot.unset).toArray = ls at hl ⊢
  have hl : lv_has ls 2 [(0, .ref lt), (1, .int a1)] := hl
  refine lv_iload_n hx hb dX2_perGram_0 rfl (lv_at hl 1 rfl) ?_
  refine lv_if_ne (tgt := 9) hx hb dX2_perGram_1 (by decide) (fun c_1 => ?_) (fun c_1 => ?_)
  · refine lv_iload_n hx hb dX2_perGram_9 rfl (lv_at hl 1 rfl) ?_
    refine lv_iconst (v := 1) hx hb dX2_perGram_10 (by decide) ?_
    refine lv_icmp_ne (tgt := 19) hx hb dX2_perGram_11 (by decide) (fun c_2 => ?_) (fun c_2 => ?_)
    · refine lv_iload_n hx hb dX2_perGram_19 rfl (lv_at hl 1 rfl) ?_
      refine vp_callSi (run_cr (va_runSN (As := [.int a1]) (rest := []) ⟨hx, hb, hml, hown, hts⟩ (s_X8_isPollenLow l a1) ⟨va_cnB 1 hts gX2_perGram_X8_isPollenLow_n61 rfl rfl rfl hnz.2.1 (hts (.initialized RX8) (List.mem_of_getElem? (i := 7) rfl)) (by decide +kernel) ⟨Nat.le_of_ble_eq_true rfl, Nat.le_of_ble_eq_true rfl⟩, (hts (.static yX8_isPollenLow) (List.mem_of_getElem? (i := 6) rfl)), trivial⟩ ⟨fun a U g mk q => q, fun U hU hW => ⟨rfl, trivial⟩⟩ rfl rfl hl.1 rfl (lv_room (Nat.le_of_ble_eq_true rfl)) dX2_perGram_20 ⟨Nat.le_of_ble_eq_true rfl, Nat.le_of_ble_eq_true rfl⟩)) (fun r_3 k_4 => ?_)
      rcases k_4 with ⟨rfl, o_5⟩ | ⟨rfl, a_6, b_7⟩
      · refine lv_if_eq (tgt := 36) hx hb dX2_perGram_23 (by decide) (fun c_11 => ?_) (fun c_11 => absurd (by decide) c_11)
        refine lv_iload_n hx hb dX2_perGram_36 rfl (lv_at hl 1 rfl) ?_
        refine vp_callSi (run_cr (va_runSN (As := [.int a1]) (rest := []) ⟨hx, hb, hml, hown, hts⟩ (s_X8_isPollenHigh l a1) ⟨va_cnB 1 hts gX2_perGram_X8_isPollenHigh_n65 rfl rfl rfl hnz.2.2 (hts (.initialized RX8) (List.mem_of_getElem? (i := 7) rfl)) (by decide +kernel) ⟨Nat.le_of_ble_eq_true rfl, Nat.le_of_ble_eq_true rfl⟩, (hts (.static yX8_isPollenHigh) (List.mem_of_getElem? (i := 12) rfl)), trivial⟩ ⟨fun a U g mk q => q, fun U hU hW => ⟨rfl, trivial⟩⟩ rfl rfl hl.1 rfl (lv_room (Nat.le_of_ble_eq_true rfl)) dX2_perGram_37 ⟨Nat.le_of_ble_eq_true rfl, Nat.le_of_ble_eq_true rfl⟩)) (fun r_12 k_13 => ?_)
        rcases k_13 with ⟨rfl, o_14⟩ | ⟨rfl, a_15, b_16⟩
        · refine lv_if_eq (tgt := 53) hx hb dX2_perGram_40 (by decide) (fun c_20 => ?_) (fun c_20 => absurd (by decide) c_20)
          refine lv_iload_n hx hb dX2_perGram_53 rfl (lv_at hl 1 rfl) ?_
          refine lv_bipush (v := 30) hx hb dX2_perGram_54 (by decide) ?_
          refine lv_aload_n hx hb dX2_perGram_56 rfl (lv_at hl 0 rfl) ?_
          refine va_get (D := D) (ci := 2) (v := .int x3) (C := RX2) (T := TX2) (N := 10) hx hb hts hin2 hown hK hP klt elt rfl 3 (by decide) (hts (.fieldLink RX2 38 "HoneyHouse$Lot" "land" "I") (List.mem_of_getElem? (i := 5) rfl)) (fun _ h9 => h9) rfl dX2_perGram_57 ?_
          refine lv_iadd hx hb dX2_perGram_60 ?_
          refine lv_icmp_ne (tgt := 70) hx hb dX2_perGram_61 (by decide) (fun c_21 => ?_) (fun c_21 => ?_)
          · refine lv_iconst (v := 0) hx hb dX2_perGram_70 (by decide) ?_
            exact W.iret (v := 0) hx hb hr (fun t ht hW => ⟨⟨0, (), rfl, (by rw [pgC, if_neg c_1, if_neg c_2, if_pos o_5, if_pos o_14, if_neg c_21]), ws, tys, hsm, htx, by rw [ht]; exact hP, va_K.moved hW.alike hK, hD, trivial⟩, hS.F ht⟩) hS.2.2 dX2_perGram_71
          refine lv_sipush (v := 1000) hx hb dX2_perGram_64 (by decide) ?_
          refine lv_goto (tgt := 71) hx hb dX2_perGram_67 (by decide) ?_
          exact W.iret (v := 1000) hx hb hr (fun t ht hW => ⟨⟨1000, (), rfl, (by rw [pgC, if_neg c_1, if_neg c_2, if_pos o_5, if_pos o_14, if_pos c_21]), ws, tys, hsm, htx, by rw [ht]; exact hP, va_K.moved hW.alike hK, hD, trivial⟩, hS.F ht⟩) hS.2.2 dX2_perGram_71
        obtain ⟨j_17, hj_18, hj_19, rfl⟩ := is_nat (a := 20) (b := 24) a_15 b_16 (by omega)
        refine lv_if_eq (tgt := 53) hx hb dX2_perGram_40 (by decide) (fun c_22 => absurd c_22 (by decide)) (fun c_22 => ?_)
        refine lv_aload_n hx hb dX2_perGram_43 rfl (lv_at hl 0 rfl) ?_
        refine va_get (D := D) (ci := 2) (v := .ref hi) (C := RX2) (T := TX2) (N := 10) hx hb hts hin2 hown hK hP klt elt rfl 5 (by decide) (hts (.fieldLink RX2 15 "HoneyHouse$Lot" "high" "[I") (List.mem_of_getElem? (i := 4) rfl)) (fun _ h9 => h9) rfl dX2_perGram_44 ?_
        refine lv_iload_n hx hb dX2_perGram_47 rfl (lv_at hl 1 rfl) ?_
        refine lv_bipush (v := 20) hx hb dX2_perGram_48 (by decide) ?_
        refine lv_isub hx hb dX2_perGram_50 ?_
        refine tp_i (y := nI (j_17 - 20)) (pk_sub (a := j_17) (b := 20) (by omega)) ?_
        refine va_iald (f := fhi) (n := 5) hx hb hK hP khi thi ehi uhi (vp_in_nI (n := j_17 - 20) (by omega) (by omega)) dX2_perGram_51 ?_
        exact W.iret (v := fhi (nI (j_17 - 20)).toNatClampNeg) hx hb hr (fun t ht hW => ⟨⟨fhi (nI (j_17 - 20)).toNatClampNeg, (), rfl, (by rw [pgC, if_neg c_1, if_neg c_2, if_pos o_5, if_neg (fun h => Or.elim h a_15 b_16), nI_clamp (n := j_17) (by omega), nI_clamp (n := j_17 - 20) (by omega)]), ws, tys, hsm, htx, by rw [ht]; exact hP, va_K.moved hW.alike hK, hD, trivial⟩, hS.F ht⟩) hS.2.2 dX2_perGram_52
      obtain ⟨j_8, hj_9, hj_10, rfl⟩ := is_nat (a := 10) (b := 14) a_6 b_7 (by omega)
      refine lv_if_eq (tgt := 36) hx hb dX2_perGram_23 (by decide) (fun c_23 => absurd c_23 (by decide)) (fun c_23 => ?_)
      refine lv_aload_n hx hb dX2_perGram_26 rfl (lv_at hl 0 rfl) ?_
      refine va_get (D := D) (ci := 2) (v := .ref lo) (C := RX2) (T := TX2) (N := 10) hx hb hts hin2 hown hK hP klt elt rfl 4 (by decide) (hts (.fieldLink RX2 9 "HoneyHouse$Lot" "low" "[I") (List.mem_of_getElem? (i := 3) rfl)) (fun _ h9 => h9) rfl dX2_perGram_27 ?_
      refine lv_iload_n hx hb dX2_perGram_30 rfl (lv_at hl 1 rfl) ?_
      refine lv_bipush (v := 10) hx hb dX2_perGram_31 (by decide) ?_
      refine lv_isub hx hb dX2_perGram_33 ?_
      refine tp_i (y := nI (j_8 - 10)) (pk_sub (a := j_8) (b := 10) (by omega)) ?_
      refine va_iald (f := flo) (n := 5) hx hb hK hP klo tlo elo ulo (vp_in_nI (n := j_8 - 10) (by omega) (by omega)) dX2_perGram_34 ?_
      exact W.iret (v := flo (nI (j_8 - 10)).toNatClampNeg) hx hb hr (fun t ht hW => ⟨⟨flo (nI (j_8 - 10)).toNatClampNeg, (), rfl, (by rw [pgC, if_neg c_1, if_neg c_2, if_neg (fun h => Or.elim h a_6 b_7), nI_clamp (n := j_8) (by omega), nI_clamp (n := j_8 - 10) (by omega)]), ws, tys, hsm, htx, by rw [ht]; exact hP, va_K.moved hW.alike hK, hD, trivial⟩, hS.F ht⟩) hS.2.2 dX2_perGram_35
    refine lv_aload_n hx hb dX2_perGram_14 rfl (lv_at hl 0 rfl) ?_
    refine va_get (D := D) (ci := 2) (v := .int x2) (C := RX2) (T := TX2) (N := 10) hx hb hts hin2 hown hK hP klt elt rfl 2 (by decide) (hts (.fieldLink RX2 35 "HoneyHouse$Lot" "colour" "I") (List.mem_of_getElem? (i := 2) rfl)) (fun _ h9 => h9) rfl dX2_perGram_15 ?_
    exact W.iret (v := x2) hx hb hr (fun t ht hW => ⟨⟨x2, (), rfl, (by rw [pgC, if_neg c_1, if_pos c_2]), ws, tys, hsm, htx, by rw [ht]; exact hP, va_K.moved hW.alike hK, hD, trivial⟩, hS.F ht⟩) hS.2.2 dX2_perGram_18
  refine lv_aload_n hx hb dX2_perGram_4 rfl (lv_at hl 0 rfl) ?_
  refine va_get (D := D) (ci := 2) (v := .int x7) (C := RX2) (T := TX2) (N := 10) hx hb hts hin2 hown hK hP klt elt rfl 7 (by decide) (hts (.fieldLink RX2 32 "HoneyHouse$Lot" "water" "I") (List.mem_of_getElem? (i := 1) rfl)) (fun _ h9 => h9) rfl dX2_perGram_5 ?_
  exact W.iret (v := x7) hx hb hr (fun t ht hW => ⟨⟨x7, (), rfl, (by rw [pgC, if_pos c_1]), ws, tys, hsm, htx, by rw [ht]; exact hP, va_K.moved hW.alike hK, hD, trivial⟩, hS.F ht⟩) hS.2.2 dX2_perGram_8
set_option maxHeartbeats 4000000 in
set_option maxRecDepth 100000 in
theorem a_weighed (l : Launch) (D : va_G) (ρ : Nat → Nat) (ws : va_W) (tys : List (ClassId × FieldType)) (fv : Nat → Nat → Int32) (h0 lc bc rc fc : Nat) (dn : Int32) (tl : Nat) (v kv : Nat) (vt vh vr vp : Int32) (g kg : Nat) (cg : ClassId) (tg : Nat) (f : Nat → Int32) (a2 : Int32) (sz : Nat) (X : XI ρ fv ws tys h0 lc bc rc fc dn tl) (hkv : ρ kv ≠ 0) (hkg : ρ kg ≠ 0) (ev : ws[kv]? = some (v, .inr (7, [.ref g, .int vt, .int vh, .int vr, .int vp]))) (eg : ws[kg]? = some (g, .inl (cg, 40, .inl f))) (ug : tys[tg]? = some (cg, .int)) : Met l yX8_weighed wsX8_weighed ({ frames := 3, cells := 0, slots := 0, locals := 63 }) (va_Pc [.ref h0, .ref v, .int a2] (fun U => U.heap.size = sz ∧ va_P D vwCl ws U.heap ∧ va_K D vwCl tys U ∧ va_D (fun _ => True) ws ∧ NZ U)) (va_Ql (fun (r : Int64) (_ : Unit) => (a2 = 2 ∧ r = vh.toInt64 * vt.toInt64) ∨ (¬ a2 = 2 ∧ r = wG f (pgL fv a2) lc)) (fun (_ : Unit) (t : State) => ∃ (ws' : va_W) (tys' : List (ClassId × FieldType)), sm ρ [] ws ws' ∧ tyx tys tys' ∧ va_P D vwCl ws' t.heap ∧ va_K D vwCl tys' t ∧ va_D (va_A ws sz) ws' ∧ (True)) (va_A ws sz)) 0 0 (va_A ws sz) := by
  refine Met.ofW (cc := cX8_weighed) (maxL := 7) (ret := (some .long)) (by decide) rfl ?_
  intro p e s m args below meth c s₁ B hml hv
  obtain ⟨rfl, hsz, hP, hK, hD0, hnz⟩ := hv
  have hx := B.exec
  have hb := B.bytes
  have hr := B.returns
  have hts := atoms_spec (ws := wsX8_weighed) B.pre
  have hown : s.vm.findClass RX8 = some m.cls := findClass_of_methodNamed B.named
  have hlocks := B.notSynchronized
  subst hsz
  have hD := hD0.self (sz := s.heap.size)
  generalize hAe : va_A ws s.heap.size = A at hD ⊢
  have hA : ∀ q : Nat, s.heap.size ≤ q → A q := fun q h => by rw [← hAe]; exact Or.inr h
  have hS : va_S A s.heap s.heap [] := va_S.rf
  have hsm : sm ρ [] ws ws := sm.rf ws
  have htx : tyx tys tys := tyx.rf tys
  have hin7 : ∀ w ∈ u_ws RX7 TX7 5, w ∈ wsX8_weighed := (fun _ h9 => List.mem_cons_of_mem _ (List.mem_append_left _ (List.mem_append_left _ ((List.mem_append_right _ h9)))))
  have hin8 : ∀ w ∈ u_ws RX8 TX8 15, w ∈ wsX8_weighed := (fun _ h9 => List.mem_cons_of_mem _ (List.mem_append_left _ ((List.mem_append_right _ h9))))
  have hl := lv_entry ([.ref h0, .ref v, .int a2]) (n := 7) (Nat.le_of_ble_eq_true rfl)
  rw [lg_entry_eq]
  generalize (lg_sl ([.ref h0, .ref v, .int a2]) ++ List.replicate (7 - (lg_sl ([.ref h0, .ref v, .int a2])).length) Slot.unset).toArray = ls at hl ⊢
  have hl : lv_has ls 7 [(0, .ref h0), (1, .ref v), (2, .int a2)] := hl
  obtain ⟨k0, la, ta, ba, ra, sn, rd, dr, bl, vd, fb, e0, w0, hle0, hnum, qla, qta, qba, qra, qsn, qrd, qdr, qbl, qvd, qfb⟩ := id X
  obtain ⟨kla, cla, tla, fla, ela, ula, hla0, hla1⟩ := id qla
  have hlc := hnum.1
  refine lv_iload_n hx hb dX8_weighed_0 rfl (lv_at hl 2 rfl) ?_
  refine lv_iconst (v := 2) hx hb dX8_weighed_1 (by decide) ?_
  refine lv_icmp_ne (tgt := 17) hx hb dX8_weighed_2 (by decide) (fun c_1 => ?_) (fun c_1 => ?_)
  · refine lv_lconst (v := 0) hx hb dX8_weighed_17 (by decide) ?_
    refine lv_lstore_n (lv' := [(3, .long 0), (0, .ref h0), (1, .ref v), (2, .int a2)]) hx hb dX8_weighed_18 rfl hl (by decide) rfl (fun ls hl => ?_)
    refine lv_iconst (v := 0) hx hb dX8_weighed_19 (by decide) ?_
    refine lv_istore (lv' := [(5, .int 0), (3, .long 0), (0, .ref h0), (1, .ref v), (2, .int a2)]) hx hb dX8_weighed_20 hl (by decide) rfl (fun ls hl => ?_)
    refine lp_V (nL := 7) (σ := Nat × Int64) (lv := fun x9 => [(5, .int (nI x9.1)), (3, .long x9.2), (2, .int a2), (1, .ref v), (0, .ref h0)]) (μ := fun x9 => 40 - x9.1) (J := fun x9 ws9 => sm ρ [] ws ws9 ∧ (x9.1 ≤ lc) ∧ (x9.2 = wG f (pgL fv a2) x9.1)) (fun x9 ws_7 H locs ls hj hP hD hS hl ih_2 => ?_) (0, 0) ws _ _ ls ⟨sm.rf _, (show 0 ≤ lc from by omega), (show 0 = wG f (pgL fv a2) 0 from rfl)⟩ hP hD hS (lv_sub hl [0, 1, 4, 3, 2] rfl)
    obtain ⟨i_3, x_4⟩ := x9
    replace hj : sm ρ [] ws ws_7 ∧ (i_3 ≤ lc) ∧ (x_4 = wG f (pgL fv a2) i_3) := hj
    obtain ⟨hm_8, hi_5, hs_6⟩ := hj
    have e_10 := hm_8.objK e0 (by decide)
    have e_11 := hm_8.arrQ ela
    have e_12 := hm_8.keep hkv ev
    have e_13 := hm_8.keep hkg eg
    have hsm := hsm.tr (hm_8.mono (by decide))
    have hlp_9 := hm_8
    have hl : lv_has ls 7 [(5, .int (nI i_3)), (3, .long x_4), (2, .int a2), (1, .ref v), (0, .ref h0)] := hl
    refine lv_iload hx hb dX8_weighed_22 (lv_at hl 0 rfl) ?_
    refine lv_aload_n hx hb dX8_weighed_24 rfl (lv_at hl 4 rfl) ?_
    refine va_get (D := D) (ci := 8) (v := .int (nI lc)) (C := RX8) (T := TX8) (N := 15) hx hb hts hin8 hown hK hP k0 e_10 rfl 10 (by decide) (hts (.fieldLink RX8 90 "HoneyHouse" "lotCount" "I") (List.mem_of_getElem? (i := 3) rfl)) (fun _ h9 => h9) rfl dX8_weighed_25 ?_
    refine lv_icmp_ge (tgt := 79) hx hb dX8_weighed_28 (by decide) (fun c_14 => ?_) (fun c_14 => ?_)
    · have d_15 := n_le (a := lc) (b := i_3) (by omega) (by omega) c_14
      refine lv_lload_n hx hb dX8_weighed_79 rfl (lv_at hl 1 rfl) ?_
      exact W.lret (v := x_4) hx hb hr (fun t ht hW => ⟨⟨x_4, (), rfl, Or.inr ⟨c_1, by rw [hs_6, show i_3 = lc by omega]⟩, ws_7, tys, hsm, htx, by rw [ht]; exact hP, va_K.moved hW.alike hK, hD, trivial⟩, hS.F ht⟩) hS.2.2 dX8_weighed_80
    have d_16 := n_nle (a := lc) (b := i_3) (by omega) (by omega) c_14
    refine lv_iload hx hb dX8_weighed_31 (lv_at hl 0 rfl) ?_
    refine lv_aload_n hx hb dX8_weighed_33 rfl (lv_at hl 4 rfl) ?_
    refine va_get (D := D) (ci := 8) (v := .ref la) (C := RX8) (T := TX8) (N := 15) hx hb hts hin8 hown hK hP k0 e_10 rfl 0 (by decide) (hts (.fieldLink RX8 11 "HoneyHouse" "lots" "[LHoneyHouse$Lot;") (List.mem_of_getElem? (i := 4) rfl)) (fun _ h9 => h9) rfl dX8_weighed_34 ?_
    refine va_alen (v := 40) hx hb hK hP kla tla e_11 ula rfl dX8_weighed_37 ?_
    refine lv_icmp_ge (tgt := 79) hx hb dX8_weighed_38 (by decide) (fun c_17 => ?_) (fun c_17 => ?_)
    · have d_18 := n_le (a := 40) (b := i_3) (by omega) (by omega) c_17
      refine lv_lload_n hx hb dX8_weighed_79 rfl (lv_at hl 1 rfl) ?_
      exact W.lret (v := x_4) hx hb hr (fun t ht hW => ⟨⟨x_4, (), rfl, Or.inr ⟨c_1, by rw [hs_6, show i_3 = lc by omega]⟩, ws_7, tys, hsm, htx, by rw [ht]; exact hP, va_K.moved hW.alike hK, hD, trivial⟩, hS.F ht⟩) hS.2.2 dX8_weighed_80
    have d_19 := n_nle (a := 40) (b := i_3) (by omega) (by omega) c_17
    refine lv_aload_n hx hb dX8_weighed_41 rfl (lv_at hl 4 rfl) ?_
    refine va_get (D := D) (ci := 8) (v := .ref la) (C := RX8) (T := TX8) (N := 15) hx hb hts hin8 hown hK hP k0 e_10 rfl 0 (by decide) (hts (.fieldLink RX8 11 "HoneyHouse" "lots" "[LHoneyHouse$Lot;") (List.mem_of_getElem? (i := 4) rfl)) (fun _ h9 => h9) rfl dX8_weighed_42 ?_
    refine lv_iload hx hb dX8_weighed_45 (lv_at hl 0 rfl) ?_
    refine va_aldq (f := fla) (n := 40) hx hb hK hP kla tla e_11 ula (vp_in_nI (n := i_3) (by omega) (by omega)) dX8_weighed_47 ?_
    obtain ⟨r_20, er_21⟩ : ∃ r, r = fla (nI i_3).toNatClampNeg := ⟨_, rfl⟩
    refine tp_v (y := va_rf r_20) (by rw [er_21]) ?_
    rw [nI_clamp (n := i_3) (by omega)] at er_21
    obtain ⟨v_22, ev_23, hL_24⟩ := hla1 i_3 (by omega)
    rw [ev_23] at er_21
    subst er_21
    have hL_25 := hL_24.sm hsm htx (fun k _ h1 h2 => by omega)
    obtain ⟨k_26, lo_27, hi_28, st_29, e_30, wk_31, ⟨k_37, c9_38, t_39, f_40, e_41, u_42, wr_43, g_44⟩, ⟨k_45, c9_46, t_47, f_48, e_49, u_50, wr_51, g_52⟩, ks_32, ga_33, gb_34, es_35, wks_36, ⟨k_53, c9_54, t_55, f_56, e_57, u_58, wr_59, g_60⟩, ⟨k_61, c9_62, t_63, f_64, e_65, u_66, wr_67, g_68⟩⟩ := hL_25
    refine tp_v (y := .ref v_22) rfl ?_
    refine lv_astore (lv' := [(6, .ref v_22), (5, .int (nI i_3)), (3, .long x_4), (2, .int a2), (1, .ref v), (0, .ref h0)]) hx hb dX8_weighed_48 hl (by decide) rfl (fun ls hl => ?_)
    refine lv_aload hx hb dX8_weighed_50 (lv_at hl 0 rfl) ?_
    refine lv_ifnull hx hb dX8_weighed_52 ?_
    refine lv_lload_n hx hb dX8_weighed_55 rfl (lv_at hl 2 rfl) ?_
    refine lv_aload_n hx hb dX8_weighed_56 rfl (lv_at hl 4 rfl) ?_
    refine lv_iload hx hb dX8_weighed_57 (lv_at hl 1 rfl) ?_
    refine vp_callSi (W.runV (As := [.int (nI i_3)]) (rest := [.long x_4]) ⟨hx, hb, hml, hown, hts⟩ (s_gramsOf l D ws_7 tys v kv vt vh vr vp g kg cg tg f (nI i_3) e_12 e_13 ug) (cwV 1 hts gX8_weighed_X7_gramsOf rfl rfl rfl (by decide +kernel) ⟨Nat.le_of_ble_eq_true rfl, Nat.le_of_ble_eq_true rfl⟩) ⟨fun a U g mk q => ⟨q.1, q.2.1, va_K.moved (u := U) (U := U.calling g mk a) (Vm.Alike.refl U.vm) q.2.2⟩, va_recv hK hP (ci := 7) (q0 := kv) rfl e_12, fun U hU hW => ⟨rfl, by rw [hU]; exact hP, va_K.moved hW.alike hK⟩⟩ rfl rfl hl.1 rfl (lv_room (Nat.le_of_ble_eq_true rfl)) dX8_weighed_59 ⟨Nat.le_of_ble_eq_true rfl, Nat.le_of_ble_eq_true rfl⟩) (fun r_69 k_70 => ?_)
    obtain rfl : r_69 = f i_3 := by rcases k_70 with ⟨-, h9 | h9⟩ | ⟨-, -, h9⟩; exact absurd h9 (nI_pos (by omega)); exact absurd h9 (show ¬ (40 : Int32) ≤ _ from nI_ge (a := i_3) (b := 40) (by omega) (by omega)); rw [h9, nI_clamp (n := i_3) (by omega)]
    refine lv_i2l hx hb dX8_weighed_62 rfl ?_
    refine lv_aload hx hb dX8_weighed_63 (lv_at hl 0 rfl) ?_
    refine lv_iload_n hx hb dX8_weighed_65 rfl (lv_at hl 3 rfl) ?_
    have hFc := free_all hD hS hA
    refine va_calli (va_runV (As := [.int a2]) (rest := [.long ((f i_3).toInt64), .long x_4]) ⟨hx, hb, hml, hown, hts⟩ (a_perGram l D ρ ws_7 tys v_22 k_26 st_29 (fv 4 (7 * i_3)) (fv 4 (7 * i_3 + 1)) (fv 4 (7 * i_3 + 3)) (fv 4 (7 * i_3 + 4)) (fv 4 (7 * i_3 + 2)) (fv 4 (7 * i_3 + 5)) (fv 4 (7 * i_3 + 6)) lo_27 k_37 c9_38 t_39 f_40 hi_28 k_45 c9_46 t_47 f_48 a2 H.size e_30 e_41 u_42 e_49 u_50) (cwV 1 hts gX8_weighed_X2_perGram rfl rfl rfl (by decide +kernel) ⟨Nat.le_of_ble_eq_true rfl, Nat.le_of_ble_eq_true rfl⟩) ⟨fun a U g mk q => by obtain ⟨q0, q1, qP, qK, qD, qZ⟩ := q; exact ⟨q0, q1, qP, va_K.moved (u := U) (U := U.calling g mk a) (Vm.Alike.refl U.vm) qK, qD, NZ.same rfl qZ⟩, va_recv hK hP (ci := 2) (q0 := k_26) rfl e_30, fun U hU hW => ⟨rfl, by rw [hU], by rw [hU]; exact hP, va_K.moved hW.alike hK, hD.weaken (fun _ _ _ _ => trivial), NZ.warm hW hnz⟩⟩ rfl rfl hl.1 rfl (lv_room (Nat.le_of_ble_eq_true rfl)) dX8_weighed_66 ⟨Nat.le_of_ble_eq_true rfl, Nat.le_of_ble_eq_true rfl⟩) hS (fun q _ h => hFc q h) hFc (fun r_71 u t H1 locs ht hvm w_72 hB hz1 hk1 hS => ?_)
    obtain ⟨ws_73, ty_74, hm_75, ht_77, hP1, hK1, hD1, hx_76⟩ := hB
    rw [ht] at hP1
    have hK := va_K.moved hvm.symm hK1
    have hD := hD1.weaken (fun _ _ _ h => hFc _ h)
    generalize H1 = H at hP1 hS ⊢
    have hP := hP1
    have e_78 := hm_75.objK e_10 (by decide)
    have e_79 := hm_75.arrQ e_11
    have u_80 := ht_77 _ _ ula
    have e_81 := hm_75.keep hkv e_12
    have e_82 := hm_75.keep hkg e_13
    have u_83 := ht_77 _ _ ug
    have e_84 := hm_75.keep (by rw [wk_31]; omega) e_30
    have e_85 := hm_75.keep (by rw [wr_43]; omega) e_41
    have u_86 := ht_77 _ _ u_42
    have e_87 := hm_75.keep (by rw [wr_51]; omega) e_49
    have u_88 := ht_77 _ _ u_50
    have e_89 := hm_75.keep (by rw [wks_36]; omega) es_35
    have e_90 := hm_75.keep (by rw [wr_59]; omega) e_57
    have u_91 := ht_77 _ _ u_58
    have e_92 := hm_75.keep (by rw [wr_67]; omega) e_65
    have u_93 := ht_77 _ _ u_66
    have hsm := hsm.tr (hm_75.mono (by decide))
    have hlp_9 := hlp_9.tr (hm_75.mono (by decide))
    have htx := htx.tr ht_77
    obtain rfl : r_71 = pgL fv a2 i_3 := w_72.trans (pgC_cg g_44 g_52)
    refine lv_i2l hx hb dX8_weighed_69 rfl ?_
    refine lv_lmul hx hb dX8_weighed_70 ?_
    refine lv_ladd hx hb dX8_weighed_71 ?_
    refine lv_lstore_n (lv' := [(3, .long (x_4 + (((f i_3).toInt64) * ((pgL fv a2 i_3).toInt64)))), (6, .ref v_22), (5, .int (nI i_3)), (2, .int a2), (1, .ref v), (0, .ref h0)]) hx hb dX8_weighed_72 rfl hl (by decide) rfl (fun ls hl => ?_)
    refine lv_iinc (v := nI (i_3 + 1)) (lv' := [(5, .int (nI (i_3 + 1))), (3, .long (x_4 + (((f i_3).toInt64) * ((pgL fv a2 i_3).toInt64)))), (6, .ref v_22), (2, .int a2), (1, .ref v), (0, .ref h0)]) hx hb dX8_weighed_73 hl (k := 2) rfl (nI_add i_3 1) (by decide) rfl (fun ls hl => ?_)
    refine lv_goto (tgt := 22) hx hb dX8_weighed_76 (by decide) ?_
    exact ih_2 (i_3 + 1, x_4 + (((f i_3).toInt64) * ((pgL fv a2 i_3).toInt64))) ws_73 _ _ ls (by show 40 - (i_3 + 1) < 40 - i_3; omega) ⟨hlp_9, (show (i_3 + 1) ≤ lc from by omega), (show (x_4 + (((f i_3).toInt64) * ((pgL fv a2 i_3).toInt64))) = wG f (pgL fv a2) (i_3 + 1) from (by rw [hs_6]; rfl))⟩ hP hD hS (lv_sub hl [0, 1, 3, 4, 5] rfl)
  refine lv_aload_n hx hb dX8_weighed_5 rfl (lv_at hl 1 rfl) ?_
  refine va_get (D := D) (ci := 7) (v := .int vh) (C := RX7) (T := TX7) (N := 5) hx hb hts hin7 hown hK hP kv ev rfl 2 (by decide) (hts (.fieldLink RX8 160 "HoneyHouse$Vessel" "heat" "I") (List.mem_of_getElem? (i := 1) rfl)) (fun _ h9 => h9) rfl dX8_weighed_6 ?_
  refine lv_i2l hx hb dX8_weighed_9 rfl ?_
  refine lv_aload_n hx hb dX8_weighed_10 rfl (lv_at hl 1 rfl) ?_
  refine va_get (D := D) (ci := 7) (v := .int vt) (C := RX7) (T := TX7) (N := 5) hx hb hts hin7 hown hK hP kv ev rfl 1 (by decide) (hts (.fieldLink RX8 144 "HoneyHouse$Vessel" "total" "I") (List.mem_of_getElem? (i := 2) rfl)) (fun _ h9 => h9) rfl dX8_weighed_11 ?_
  refine lv_i2l hx hb dX8_weighed_14 rfl ?_
  refine lv_lmul hx hb dX8_weighed_15 ?_
  exact W.lret (v := vh.toInt64 * vt.toInt64) hx hb hr (fun t ht hW => ⟨⟨vh.toInt64 * vt.toInt64, (), rfl, Or.inl ⟨c_1, rfl⟩, ws, tys, hsm, htx, by rw [ht]; exact hP, va_K.moved hW.alike hK, hD, trivial⟩, hS.F ht⟩) hS.2.2 dX8_weighed_16
set_option maxHeartbeats 4000000 in
set_option maxRecDepth 100000 in
theorem a_told (l : Launch) (D : va_G) (ρ : Nat → Nat) (ws : va_W) (tys : List (ClassId × FieldType)) (fv : Nat → Nat → Int32) (h0 lc bc rc fc : Nat) (dn : Int32) (tl : Nat) (v kv : Nat) (vt vh vr vp : Int32) (g kg : Nat) (cg : ClassId) (tg : Nat) (f : Nat → Int32) (a2 : Int32) (sz : Nat) (X : XI ρ fv ws tys h0 lc bc rc fc dn tl) (hkv : ρ kv ≠ 0) (hkg : ρ kg ≠ 0) (ev : ws[kv]? = some (v, .inr (7, [.ref g, .int vt, .int vh, .int vr, .int vp]))) (eg : ws[kg]? = some (g, .inl (cg, 40, .inl f))) (ug : tys[tg]? = some (cg, .int)) : Met l yX8_told wsX8_told ({ frames := 4, cells := 0, slots := 0, locals := 89 }) (va_Pc [.ref h0, .ref v, .int a2] (fun U => U.heap.size = sz ∧ va_P D vwCl ws U.heap ∧ va_K D vwCl tys U ∧ va_D (fun _ => True) ws ∧ NZ U)) (va_Qi (fun (r : Int32) (_ : Unit) => (¬ 0 < vt ∧ r = (-1)) ∨ (0 < vt ∧ r = tld fv f lc vt vh a2)) (fun (_ : Unit) (t : State) => ∃ (ws' : va_W) (tys' : List (ClassId × FieldType)), sm ρ [] ws ws' ∧ tyx tys tys' ∧ va_P D vwCl ws' t.heap ∧ va_K D vwCl tys' t ∧ va_D (va_A ws sz) ws' ∧ (True)) (va_A ws sz)) 0 0 (va_A ws sz) := by
  refine Met.ofW (cc := cX8_told) (maxL := 3) (ret := (some .int)) (by decide) rfl ?_
  intro p e s m args below meth c s₁ B hml hv
  obtain ⟨rfl, hsz, hP, hK, hD0, hnz⟩ := hv
  have hx := B.exec
  have hb := B.bytes
  have hr := B.returns
  have hts := atoms_spec (ws := wsX8_told) B.pre
  have hown : s.vm.findClass RX8 = some m.cls := findClass_of_methodNamed B.named
  have hlocks := B.notSynchronized
  subst hsz
  have hD := hD0.self (sz := s.heap.size)
  generalize hAe : va_A ws s.heap.size = A at hD ⊢
  have hA : ∀ q : Nat, s.heap.size ≤ q → A q := fun q h => by rw [← hAe]; exact Or.inr h
  have hS : va_S A s.heap s.heap [] := va_S.rf
  have hsm : sm ρ [] ws ws := sm.rf ws
  have htx : tyx tys tys := tyx.rf tys
  have hin7 : ∀ w ∈ u_ws RX7 TX7 5, w ∈ wsX8_told := (fun _ h9 => List.mem_cons_of_mem _ (List.mem_append_left _ (List.mem_append_left _ ((List.mem_append_right _ h9)))))
  have hl := lv_entry ([.ref h0, .ref v, .int a2]) (n := 3) (Nat.le_of_ble_eq_true rfl)
  rw [lg_entry_eq]
  generalize (lg_sl ([.ref h0, .ref v, .int a2]) ++ List.replicate (3 - (lg_sl ([.ref h0, .ref v, .int a2])).length) Slot.unset).toArray = ls at hl ⊢
  have hl : lv_has ls 3 [(0, .ref h0), (1, .ref v), (2, .int a2)] := hl
  obtain ⟨k0, la, ta, ba, ra, sn, rd, dr, bl, vd, fb, e0, w0, hle0, hnum, qla, qta, qba, qra, qsn, qrd, qdr, qbl, qvd, qfb⟩ := id X
  refine lv_aload_n hx hb dX8_told_0 rfl (lv_at hl 1 rfl) ?_
  refine va_get (D := D) (ci := 7) (v := .int vt) (C := RX7) (T := TX7) (N := 5) hx hb hts hin7 hown hK hP kv ev rfl 1 (by decide) (hts (.fieldLink RX8 144 "HoneyHouse$Vessel" "total" "I") (List.mem_of_getElem? (i := 1) rfl)) (fun _ h9 => h9) rfl dX8_told_1 ?_
  refine lv_if_gt (tgt := 9) hx hb dX8_told_4 (by decide) (fun c_1 => ?_) (fun c_1 => ?_)
  · refine lv_iload_n hx hb dX8_told_9 rfl (lv_at hl 2 rfl) ?_
    refine lv_iconst (v := 2) hx hb dX8_told_10 (by decide) ?_
    refine lv_icmp_ne (tgt := 19) hx hb dX8_told_11 (by decide) (fun c_2 => ?_) (fun c_2 => ?_)
    · refine lv_ldc2 hx hb hown (hts (.constantLong RX8 288 (10)) (List.mem_of_getElem? (i := 3) rfl)) dX8_told_19 ?_
      refine lv_aload_n hx hb dX8_told_22 rfl (lv_at hl 0 rfl) ?_
      refine lv_aload_n hx hb dX8_told_23 rfl (lv_at hl 1 rfl) ?_
      refine lv_iload_n hx hb dX8_told_24 rfl (lv_at hl 2 rfl) ?_
      have hFc := free_all hD hS hA
      refine va_calll (va_runV (As := [.ref v, .int a2]) (rest := [.long 10]) ⟨hx, hb, hml, hown, hts⟩ (a_weighed l D ρ ws tys fv h0 lc bc rc fc dn tl v kv vt vh vr vp g kg cg tg f a2 s.heap.size (X.sm hsm htx (by decide) (by decide)) hkv hkg ev eg ug) (cwV 2 hts gX8_told_X8_weighed rfl rfl rfl (by decide +kernel) ⟨Nat.le_of_ble_eq_true rfl, Nat.le_of_ble_eq_true rfl⟩) ⟨fun a U g mk q => by obtain ⟨q0, q1, qP, qK, qD, qZ⟩ := q; exact ⟨q0, q1, qP, va_K.moved (u := U) (U := U.calling g mk a) (Vm.Alike.refl U.vm) qK, qD, NZ.same rfl qZ⟩, va_recv hK hP (ci := 8) (q0 := k0) rfl e0, fun U hU hW => ⟨rfl, by rw [hU], by rw [hU]; exact hP, va_K.moved hW.alike hK, hD.weaken (fun _ _ _ _ => trivial), NZ.warm hW hnz⟩⟩ rfl rfl hl.1 rfl (lv_room (Nat.le_of_ble_eq_true rfl)) dX8_told_25 ⟨Nat.le_of_ble_eq_true rfl, Nat.le_of_ble_eq_true rfl⟩) hS (fun q _ h => hFc q h) hFc (fun r_3 u t H1 locs ht hvm w_4 hB hz1 hk1 hS => ?_)
      obtain ⟨ws_5, ty_6, hm_7, ht_9, hP1, hK1, hD1, hx_8⟩ := hB
      rw [ht] at hP1
      have hK := va_K.moved hvm.symm hK1
      have hD := hD1.weaken (fun _ _ _ h => hFc _ h)
      generalize H1 = H at hP1 hS ⊢
      have hP := hP1
      have e_10 := hm_7.objK e0 (by decide)
      have e_11 := hm_7.keep hkv ev
      have e_12 := hm_7.keep hkg eg
      have u_13 := ht_9 _ _ ug
      have hsm := hsm.tr (hm_7.mono (by decide))
      have htx := htx.tr ht_9
      obtain rfl : r_3 = wG f (pgL fv a2) lc := by rcases w_4 with ⟨h9, -⟩ | ⟨-, h9⟩; exact absurd h9 c_2; exact h9
      refine lv_lmul hx hb dX8_told_28 ?_
      refine lv_aload_n hx hb dX8_told_29 rfl (lv_at hl 1 rfl) ?_
      refine va_get (D := D) (ci := 7) (v := .int vt) (C := RX7) (T := TX7) (N := 5) hx hb hts hin7 hown hK hP kv e_11 rfl 1 (by decide) (hts (.fieldLink RX8 144 "HoneyHouse$Vessel" "total" "I") (List.mem_of_getElem? (i := 1) rfl)) (fun _ h9 => h9) rfl dX8_told_30 ?_
      refine lv_i2l hx hb dX8_told_33 rfl ?_
      refine lv_ldiv hx hb dX8_told_34 (i_pos64 c_1) ?_
      refine lv_l2i hx hb dX8_told_35 rfl ?_
      exact W.iret (v := ((10 * (wG f (pgL fv a2) lc)) / vt.toInt64).toInt32) hx hb hr (fun t ht hW => ⟨⟨((10 * (wG f (pgL fv a2) lc)) / vt.toInt64).toInt32, (), rfl, Or.inr ⟨c_1, by rw [tld, if_neg c_2]⟩, ws_5, ty_6, hsm, htx, by rw [ht]; exact hP, va_K.moved hW.alike hK, hD, trivial⟩, hS.F ht⟩) hS.2.2 dX8_told_36
    refine lv_aload_n hx hb dX8_told_14 rfl (lv_at hl 1 rfl) ?_
    refine va_get (D := D) (ci := 7) (v := .int vh) (C := RX7) (T := TX7) (N := 5) hx hb hts hin7 hown hK hP kv ev rfl 2 (by decide) (hts (.fieldLink RX8 160 "HoneyHouse$Vessel" "heat" "I") (List.mem_of_getElem? (i := 2) rfl)) (fun _ h9 => h9) rfl dX8_told_15 ?_
    exact W.iret (v := vh) hx hb hr (fun t ht hW => ⟨⟨vh, (), rfl, Or.inr ⟨c_1, by rw [tld, if_pos c_2]⟩, ws, tys, hsm, htx, by rw [ht]; exact hP, va_K.moved hW.alike hK, hD, trivial⟩, hS.F ht⟩) hS.2.2 dX8_told_18
  refine lv_iconst (v := (-1)) hx hb dX8_told_7 (by decide) ?_
  exact W.iret (v := (-1)) hx hb hr (fun t ht hW => ⟨⟨(-1), (), rfl, Or.inl ⟨c_1, rfl⟩, ws, tys, hsm, htx, by rw [ht]; exact hP, va_K.moved hW.alike hK, hD, trivial⟩, hS.F ht⟩) hS.2.2 dX8_told_8
set_option maxHeartbeats 4000000 in
set_option maxRecDepth 100000 in
theorem h_measure (l : Launch) (D : va_G) (ρ : Nat → Nat) (ws : va_W) (tys : List (ClassId × FieldType)) (fv : Nat → Nat → Int32) (h0 lc bc rc fc : Nat) (dn : Int32) (tl : Nat) (a1 a2 a3 : Int32) (sz : Nat) (X : XI ρ fv ws tys h0 lc bc rc fc dn tl) (V : NV fv lc) : Met l yX8_measure wsX8_measure ({ frames := 5, cells := 0, slots := 0, locals := 111 }) (va_Pc [.ref h0, .int a1, .int a2, .int a3] (fun U => U.heap.size = sz ∧ va_P D vwCl ws U.heap ∧ va_K D vwCl tys U ∧ va_D (fun _ => True) ws ∧ NZ U)) (va_Qi (fun (r : Int32) (_ : Unit) => (meaN fv bc a1 a2 a3 ∧ r = (-1)) ∨ (¬ meaN fv bc a1 a2 a3 ∧ r = meaV fv lc a1 a2 a3)) (fun (_ : Unit) (t : State) => ∃ (ws' : va_W) (tys' : List (ClassId × FieldType)), sm ρ [] ws ws' ∧ tyx tys tys' ∧ va_P D vwCl ws' t.heap ∧ va_K D vwCl tys' t ∧ va_D (va_A ws sz) ws' ∧ (XI ρ fv ws' tys' h0 lc bc rc fc dn tl)) (va_A ws sz)) 0 0 (va_A ws sz) := by
  refine Met.ofW (cc := cX8_measure) (maxL := 5) (ret := (some .int)) (by decide) rfl ?_
  intro p e s m args below meth c s₁ B hml hv
  obtain ⟨rfl, hsz, hP, hK, hD0, hnz⟩ := hv
  have hx := B.exec
  have hb := B.bytes
  have hr := B.returns
  have hts := atoms_spec (ws := wsX8_measure) B.pre
  have hown : s.vm.findClass RX8 = some m.cls := findClass_of_methodNamed B.named
  have hlocks := B.notSynchronized
  subst hsz
  have hD := hD0.self (sz := s.heap.size)
  generalize hAe : va_A ws s.heap.size = A at hD ⊢
  have hA : ∀ q : Nat, s.heap.size ≤ q → A q := fun q h => by rw [← hAe]; exact Or.inr h
  have hS : va_S A s.heap s.heap [] := va_S.rf
  have hsm : sm ρ [] ws ws := sm.rf ws
  have htx : tyx tys tys := tyx.rf tys
  have hl := lv_entry ([.ref h0, .int a1, .int a2, .int a3]) (n := 5) (Nat.le_of_ble_eq_true rfl)
  rw [lg_entry_eq]
  generalize (lg_sl ([.ref h0, .int a1, .int a2, .int a3]) ++ List.replicate (5 - (lg_sl ([.ref h0, .int a1, .int a2, .int a3])).length) Slot.unset).toArray = ls at hl ⊢
  have hl : lv_has ls 5 [(0, .ref h0), (1, .int a1), (2, .int a2), (3, .int a3)] := hl
  obtain ⟨k0, la, ta, ba, ra, sn, rd, dr, bl, vd, fb, e0, w0, hle0, hnum, qla, qta, qba, qra, qsn, qrd, qdr, qbl, qvd, qfb⟩ := id X
  have hlc := hnum.1
  obtain ⟨kta, cta, tta, fta, eta, uta, hta0, hta1⟩ := id qta
  obtain ⟨kba, cba, tba, fba, eba, uba, hba0, hba1⟩ := id qba
  refine lv_aload_n hx hb dX8_measure_0 rfl (lv_at hl 0 rfl) ?_
  refine lv_iload_n hx hb dX8_measure_1 rfl (lv_at hl 1 rfl) ?_
  refine lv_iload_n hx hb dX8_measure_2 rfl (lv_at hl 2 rfl) ?_
  refine va_csq (W.runV (As := [.int a1, .int a2]) (rest := []) ⟨hx, hb, hml, hown, hts⟩ (s_vesselAt l D ws tys h0 k0 _ ta kta cta fta tta ba kba cba fba tba a1 a2 e0 rfl eta uta rfl eba uba) (cwV 2 hts gX8_measure_X8_vesselAt rfl rfl rfl (by decide +kernel) ⟨Nat.le_of_ble_eq_true rfl, Nat.le_of_ble_eq_true rfl⟩) ⟨fun a U g mk q => ⟨q.1, q.2.1, va_K.moved (u := U) (U := U.calling g mk a) (Vm.Alike.refl U.vm) q.2.2⟩, va_recv hK hP (ci := 8) (q0 := k0) rfl e0, fun U hU hW => ⟨rfl, by rw [hU]; exact hP, va_K.moved hW.alike hK⟩⟩ rfl rfl hl.1 rfl (lv_room (Nat.le_of_ble_eq_true rfl)) dX8_measure_3 ⟨Nat.le_of_ble_eq_true rfl, Nat.le_of_ble_eq_true rfl⟩) (fun r_1 k_2 => ?_)
  have hz_3 := vesx hnum.2.1 hta1 hba0 hba1 k_2
  rcases hz_3 with ⟨rfl, rn_4⟩ | ⟨rn_4, hr_5, v_6, rfl, hV_7⟩
  · refine tp_v (y := .null) rfl ?_
    refine lv_astoreN (lv' := [(4, .null), (0, .ref h0), (1, .int a1), (2, .int a2), (3, .int a3)]) hx hb dX8_measure_6 hl (by decide) rfl (fun ls hl => ?_)
    refine lv_aloadN hx hb dX8_measure_8 (lv_at hl 0 rfl) ?_
    refine lv_ifnullN (tgt := 20) hx hb dX8_measure_10 (by decide) ?_
    refine lv_iconst (v := (-1)) hx hb dX8_measure_20 (by decide) ?_
    exact W.iret (v := (-1)) hx hb hr (fun t ht hW => ⟨⟨(-1), (), rfl, Or.inl ⟨Or.inl rn_4, rfl⟩, ws, tys, hsm, htx, by rw [ht]; exact hP, va_K.moved hW.alike hK, hD, X.sm hsm htx (by decide) (by decide)⟩, hS.F ht⟩) hS.2.2 dX8_measure_21
  obtain ⟨k_9, g_10, e_11, wk_12, k_13, c9_14, t_15, f_16, e_17, u_18, wr_19, g_20⟩ := hV_7
  refine tp_v (y := .ref v_6) rfl ?_
  refine lv_astore (lv' := [(4, .ref v_6), (0, .ref h0), (1, .int a1), (2, .int a2), (3, .int a3)]) hx hb dX8_measure_6 hl (by decide) rfl (fun ls hl => ?_)
  refine lv_aload hx hb dX8_measure_8 (lv_at hl 0 rfl) ?_
  refine lv_ifnull hx hb dX8_measure_10 ?_
  refine lv_iload_n hx hb dX8_measure_13 rfl (lv_at hl 4 rfl) ?_
  refine vp_callSi (W.runS (As := [.int a3]) (rest := []) ⟨hx, hb, hml, hown, hts⟩ (s_X8_isMeasure l a3) (va_cwS 1 hts gX8_measure_X8_isMeasure rfl rfl rfl (by decide +kernel) ⟨Nat.le_of_ble_eq_true rfl, Nat.le_of_ble_eq_true rfl⟩) ⟨fun a U g mk q => q, fun U hU hW => ⟨rfl, trivial⟩⟩ rfl rfl hl.1 rfl (lv_room (Nat.le_of_ble_eq_true rfl)) dX8_measure_14 ⟨Nat.le_of_ble_eq_true rfl, Nat.le_of_ble_eq_true rfl⟩) (fun r_21 k_22 => ?_)
  rcases k_22 with ⟨rfl, im_23⟩ | ⟨rfl, im_23⟩
  · refine lv_if_ne (tgt := 22) hx hb dX8_measure_17 (by decide) (fun c_24 => absurd (by decide) c_24) (fun c_24 => ?_)
    refine lv_iconst (v := (-1)) hx hb dX8_measure_20 (by decide) ?_
    exact W.iret (v := (-1)) hx hb hr (fun t ht hW => ⟨⟨(-1), (), rfl, Or.inl ⟨Or.inr (Or.inr im_23), rfl⟩, ws, tys, hsm, htx, by rw [ht]; exact hP, va_K.moved hW.alike hK, hD, X.sm hsm htx (by decide) (by decide)⟩, hS.F ht⟩) hS.2.2 dX8_measure_21
  refine lv_if_ne (tgt := 22) hx hb dX8_measure_17 (by decide) (fun c_25 => ?_) (fun c_25 => absurd c_25 (by decide))
  refine lv_aload_n hx hb dX8_measure_22 rfl (lv_at hl 1 rfl) ?_
  refine lv_aload hx hb dX8_measure_23 (lv_at hl 0 rfl) ?_
  refine lv_iload_n hx hb dX8_measure_25 rfl (lv_at hl 4 rfl) ?_
  have hFc := free_all hD hS hA
  refine va_calli (va_runV (As := [.ref v_6, .int a3]) (rest := []) ⟨hx, hb, hml, hown, hts⟩ (a_told l D ρ ws tys fv h0 lc bc rc fc dn tl v_6 k_9 (mall (fv 9) (rowI a1 a2) 40) (fv 10 (rowI a1 a2)) (fv 11 (rowI a1 a2)) (fv 12 (rowI a1 a2)) g_10 k_13 c9_14 t_15 f_16 a3 s.heap.size (X.sm hsm htx (by decide) (by decide)) (by rw [wk_12]; omega) (by rw [wr_19]; omega) e_11 e_17 u_18) (cwV 2 hts gX8_measure_X8_told rfl rfl rfl (by decide +kernel) ⟨Nat.le_of_ble_eq_true rfl, Nat.le_of_ble_eq_true rfl⟩) ⟨fun a U g mk q => by obtain ⟨q0, q1, qP, qK, qD, qZ⟩ := q; exact ⟨q0, q1, qP, va_K.moved (u := U) (U := U.calling g mk a) (Vm.Alike.refl U.vm) qK, qD, NZ.same rfl qZ⟩, va_recv hK hP (ci := 8) (q0 := k0) rfl e0, fun U hU hW => ⟨rfl, by rw [hU], by rw [hU]; exact hP, va_K.moved hW.alike hK, hD.weaken (fun _ _ _ _ => trivial), NZ.warm hW hnz⟩⟩ rfl rfl hl.1 rfl (lv_room (Nat.le_of_ble_eq_true rfl)) dX8_measure_26 ⟨Nat.le_of_ble_eq_true rfl, Nat.le_of_ble_eq_true rfl⟩) hS (fun q _ h => hFc q h) hFc (fun r_26 u t H1 locs ht hvm w_27 hB hz1 hk1 hS => ?_)
  obtain ⟨ws_28, ty_29, hm_30, ht_32, hP1, hK1, hD1, hx_31⟩ := hB
  rw [ht] at hP1
  have hK := va_K.moved hvm.symm hK1
  have hD := hD1.weaken (fun _ _ _ h => hFc _ h)
  generalize H1 = H at hP1 hS ⊢
  have hP := hP1
  have e_33 := hm_30.objK e0 (by decide)
  have e_34 := hm_30.arrQ eta
  have u_35 := ht_32 _ _ uta
  have e_36 := hm_30.arrQ eba
  have u_37 := ht_32 _ _ uba
  have e_38 := hm_30.keep (by rw [wk_12]; omega) e_11
  have e_39 := hm_30.keep (by rw [wr_19]; omega) e_17
  have u_40 := ht_32 _ _ u_18
  have hsm := hsm.tr (hm_30.mono (by decide))
  have htx := htx.tr ht_32
  rcases w_27 with ⟨tt_41, rfl⟩ | ⟨tt_41, rfl⟩
  · exact W.iret (v := (-1)) hx hb hr (fun t ht hW => ⟨⟨(-1), (), rfl, Or.inl ⟨Or.inr (Or.inl ((nv_tot V hr_5).2 tt_41)), rfl⟩, ws_28, ty_29, hsm, htx, by rw [ht]; exact hP, va_K.moved hW.alike hK, hD, X.sm hsm htx (by decide) (by decide)⟩, hS.F ht⟩) hS.2.2 dX8_measure_29
  exact W.iret (v := tld fv f_16 lc (mall (fv 9) (rowI a1 a2) 40) (fv 10 (rowI a1 a2)) a3) hx hb hr (fun t ht hW => ⟨⟨tld fv f_16 lc (mall (fv 9) (rowI a1 a2) 40) (fv 10 (rowI a1 a2)) a3, (), rfl, Or.inr ⟨(fun h => Or.elim h rn_4 (fun h => Or.elim h ((nv_tot V hr_5).1 tt_41) (fun h => h im_23))), tld_cg (fun i hi => g_20 i (by omega))⟩, ws_28, ty_29, hsm, htx, by rw [ht]; exact hP, va_K.moved hW.alike hK, hD, X.sm hsm htx (by decide) (by decide)⟩, hS.F ht⟩) hS.2.2 dX8_measure_29
set_option maxHeartbeats 4000000 in
set_option maxRecDepth 100000 in
theorem a_verdictOfTest (l : Launch) (D : va_G) (ρ : Nat → Nat) (ws : va_W) (tys : List (ClassId × FieldType)) (fv : Nat → Nat → Int32) (h0 lc bc rc fc : Nat) (dn : Int32) (tl : Nat) (v kv : Nat) (vt vh vr vp : Int32) (g kg : Nat) (cg : ClassId) (tg : Nat) (f : Nat → Int32) (a1 : Int32) (sz : Nat) (X : XI ρ fv ws tys h0 lc bc rc fc dn tl) (hkv : ρ kv ≠ 0) (hkg : ρ kg ≠ 0) (ev : ws[kv]? = some (v, .inr (7, [.ref g, .int vt, .int vh, .int vr, .int vp]))) (eg : ws[kg]? = some (g, .inl (cg, 40, .inl f))) (ug : tys[tg]? = some (cg, .int)) : Met l yX8_verdictOfTest wsX8_verdictOfTest ({ frames := 4, cells := 0, slots := 0, locals := 89 }) (va_Pc [.ref h0, .int a1, .ref v] (fun U => U.heap.size = sz ∧ va_P D vwCl ws U.heap ∧ va_K D vwCl tys U ∧ va_D (fun _ => True) ws ∧ NZ U)) (va_Qi (fun (r : Int32) (_ : Unit) => True) (fun (_ : Unit) (t : State) => ∃ (ws' : va_W) (tys' : List (ClassId × FieldType)), sm ρ [] ws ws' ∧ tyx tys tys' ∧ va_P D vwCl ws' t.heap ∧ va_K D vwCl tys' t ∧ va_D (va_A ws sz) ws' ∧ (True)) (va_A ws sz)) 0 0 (va_A ws sz) := by
  refine Met.ofW (cc := cX8_verdictOfTest) (maxL := 11) (ret := (some .int)) (by decide) rfl ?_
  intro p e s m args below meth c s₁ B hml hv
  obtain ⟨rfl, hsz, hP, hK, hD0, hnz⟩ := hv
  have hx := B.exec
  have hb := B.bytes
  have hr := B.returns
  have hts := atoms_spec (ws := wsX8_verdictOfTest) B.pre
  have hown : s.vm.findClass RX8 = some m.cls := findClass_of_methodNamed B.named
  have hlocks := B.notSynchronized
  subst hsz
  have hD := hD0.self (sz := s.heap.size)
  generalize hAe : va_A ws s.heap.size = A at hD ⊢
  have hA : ∀ q : Nat, s.heap.size ≤ q → A q := fun q h => by rw [← hAe]; exact Or.inr h
  have hS : va_S A s.heap s.heap [] := va_S.rf
  have hsm : sm ρ [] ws ws := sm.rf ws
  have htx : tyx tys tys := tyx.rf tys
  have hin7 : ∀ w ∈ u_ws RX7 TX7 5, w ∈ wsX8_verdictOfTest := (fun _ h9 => List.mem_cons_of_mem _ (List.mem_append_left _ (List.mem_append_left _ ((List.mem_append_right _ h9)))))
  have hl := lv_entry ([.ref h0, .int a1, .ref v]) (n := 11) (Nat.le_of_ble_eq_true rfl)
  rw [lg_entry_eq]
  generalize (lg_sl ([.ref h0, .int a1, .ref v]) ++ List.replicate (11 - (lg_sl ([.ref h0, .int a1, .ref v])).length) Slot.unset).toArray = ls at hl ⊢
  have hl : lv_has ls 11 [(0, .ref h0), (1, .int a1), (2, .ref v)] := hl
  obtain ⟨k0, la, ta, ba, ra, sn, rd, dr, bl, vd, fb, e0, w0, hle0, hnum, qla, qta, qba, qra, qsn, qrd, qdr, qbl, qvd, qfb⟩ := id X
  refine lv_iload_n hx hb dX8_verdictOfTest_0 rfl (lv_at hl 1 rfl) ?_
  refine lv_bipush (v := 11) hx hb dX8_verdictOfTest_1 (by decide) ?_
  refine lv_ishr hx hb dX8_verdictOfTest_3 ?_
  refine lv_topi (fun z_1 _ => ?_)
  refine lv_istore_n (lv' := [(3, .int z_1), (0, .ref h0), (1, .int a1), (2, .ref v)]) hx hb dX8_verdictOfTest_4 rfl hl (by decide) rfl (fun ls hl => ?_)
  refine lv_iload_n hx hb dX8_verdictOfTest_5 rfl (lv_at hl 2 rfl) ?_
  refine lv_bipush (v := 10) hx hb dX8_verdictOfTest_6 (by decide) ?_
  refine lv_ishr hx hb dX8_verdictOfTest_8 ?_
  refine lv_topi (fun z_2 _ => ?_)
  refine lv_iconst (v := 1) hx hb dX8_verdictOfTest_9 (by decide) ?_
  refine lv_iand hx hb dX8_verdictOfTest_10 ?_
  refine lv_topi (fun z_3 _ => ?_)
  refine lv_iconst (v := 1) hx hb dX8_verdictOfTest_11 (by decide) ?_
  refine lv_icmp_ne (tgt := 19) hx hb dX8_verdictOfTest_12 (by decide) (fun c_4 => ?_) (fun c_4 => ?_)
  · refine lv_iconst (v := 0) hx hb dX8_verdictOfTest_19 (by decide) ?_
    refine lv_istore (lv' := [(4, .int 0), (3, .int z_1), (0, .ref h0), (1, .int a1), (2, .ref v)]) hx hb dX8_verdictOfTest_20 hl (by decide) rfl (fun ls hl => ?_)
    refine lv_iload_n hx hb dX8_verdictOfTest_22 rfl (lv_at hl 3 rfl) ?_
    refine lv_sipush (v := 1023) hx hb dX8_verdictOfTest_23 (by decide) ?_
    refine lv_iand hx hb dX8_verdictOfTest_26 ?_
    refine lv_topi (fun z_5 _ => ?_)
    refine lv_i2l hx hb dX8_verdictOfTest_27 rfl ?_
    refine lv_aload_n hx hb dX8_verdictOfTest_28 rfl (lv_at hl 4 rfl) ?_
    refine va_get (D := D) (ci := 7) (v := .int vt) (C := RX7) (T := TX7) (N := 5) hx hb hts hin7 hown hK hP kv ev rfl 1 (by decide) (hts (.fieldLink RX8 144 "HoneyHouse$Vessel" "total" "I") (List.mem_of_getElem? (i := 1) rfl)) (fun _ h9 => h9) rfl dX8_verdictOfTest_29 ?_
    refine lv_i2l hx hb dX8_verdictOfTest_32 rfl ?_
    refine lv_lmul hx hb dX8_verdictOfTest_33 ?_
    refine lv_topl (fun z_6 _ => ?_)
    refine lv_lstore (lv' := [(5, .long z_6), (4, .int 0), (3, .int z_1), (0, .ref h0), (1, .int a1), (2, .ref v)]) hx hb dX8_verdictOfTest_34 hl (by decide) rfl (fun ls hl => ?_)
    refine lv_aload_n hx hb dX8_verdictOfTest_36 rfl (lv_at hl 3 rfl) ?_
    refine lv_aload_n hx hb dX8_verdictOfTest_37 rfl (lv_at hl 5 rfl) ?_
    refine lv_iload_n hx hb dX8_verdictOfTest_38 rfl (lv_at hl 2 rfl) ?_
    have hFc := free_all hD hS hA
    refine va_calll (va_runV (As := [.ref v, .int z_1]) (rest := []) ⟨hx, hb, hml, hown, hts⟩ (a_weighed l D ρ ws tys fv h0 lc bc rc fc dn tl v kv vt vh vr vp g kg cg tg f z_1 s.heap.size (X.sm hsm htx (by decide) (by decide)) hkv hkg ev eg ug) (cwV 2 hts gX8_verdictOfTest_X8_weighed rfl rfl rfl (by decide +kernel) ⟨Nat.le_of_ble_eq_true rfl, Nat.le_of_ble_eq_true rfl⟩) ⟨fun a U g mk q => by obtain ⟨q0, q1, qP, qK, qD, qZ⟩ := q; exact ⟨q0, q1, qP, va_K.moved (u := U) (U := U.calling g mk a) (Vm.Alike.refl U.vm) qK, qD, NZ.same rfl qZ⟩, va_recv hK hP (ci := 8) (q0 := k0) rfl e0, fun U hU hW => ⟨rfl, by rw [hU], by rw [hU]; exact hP, va_K.moved hW.alike hK, hD.weaken (fun _ _ _ _ => trivial), NZ.warm hW hnz⟩⟩ rfl rfl hl.1 rfl (lv_room (Nat.le_of_ble_eq_true rfl)) dX8_verdictOfTest_39 ⟨Nat.le_of_ble_eq_true rfl, Nat.le_of_ble_eq_true rfl⟩) hS (fun q _ h => hFc q h) hFc (fun r_7 u t H1 locs ht hvm w_8 hB hz1 hk1 hS => ?_)
    obtain ⟨ws_9, ty_10, hm_11, ht_13, hP1, hK1, hD1, hx_12⟩ := hB
    rw [ht] at hP1
    have hK := va_K.moved hvm.symm hK1
    have hD := hD1.weaken (fun _ _ _ h => hFc _ h)
    generalize H1 = H at hP1 hS ⊢
    have hP := hP1
    have e_14 := hm_11.objK e0 (by decide)
    have e_15 := hm_11.keep hkv ev
    have e_16 := hm_11.keep hkg eg
    have u_17 := ht_13 _ _ ug
    have hsm := hsm.tr (hm_11.mono (by decide))
    have htx := htx.tr ht_13
    refine lv_lstore (lv' := [(7, .long r_7), (5, .long z_6), (4, .int 0), (3, .int z_1), (0, .ref h0), (1, .int a1), (2, .ref v)]) hx hb dX8_verdictOfTest_42 hl (by decide) rfl (fun ls hl => ?_)
    refine lv_iload_n hx hb dX8_verdictOfTest_44 rfl (lv_at hl 3 rfl) ?_
    refine vp_callSi (W.runS (As := [.int z_1]) (rest := []) ⟨hx, hb, hml, hown, hts⟩ (s_X8_isPollenLow l z_1) (va_cwS 1 hts gX8_verdictOfTest_X8_isPollenLow rfl rfl rfl (by decide +kernel) ⟨Nat.le_of_ble_eq_true rfl, Nat.le_of_ble_eq_true rfl⟩) ⟨fun a U g mk q => q, fun U hU hW => ⟨rfl, trivial⟩⟩ rfl rfl hl.1 rfl (lv_room (Nat.le_of_ble_eq_true rfl)) dX8_verdictOfTest_45 ⟨Nat.le_of_ble_eq_true rfl, Nat.le_of_ble_eq_true rfl⟩) (fun r_18 k_19 => ?_)
    rcases k_19 with ⟨rfl, -⟩ | ⟨rfl, -, -⟩
    · refine lv_if_eq (tgt := 66) hx hb dX8_verdictOfTest_48 (by decide) (fun c_20 => ?_) (fun c_20 => absurd (by decide) c_20)
      refine lv_lload hx hb dX8_verdictOfTest_66 (lv_at hl 0 rfl) ?_
      refine lv_lstore (lv' := [(9, .long r_7), (7, .long r_7), (5, .long z_6), (4, .int 0), (3, .int z_1), (0, .ref h0), (1, .int a1), (2, .ref v)]) hx hb dX8_verdictOfTest_68 hl (by decide) rfl (fun ls hl => ?_)
      refine lv_iload hx hb dX8_verdictOfTest_70 (lv_at hl 3 rfl) ?_
      refine lv_if_eq (tgt := 86) hx hb dX8_verdictOfTest_72 (by decide) (fun c_21 => ?_) (fun c_21 => absurd (by decide) c_21)
      refine lv_lload hx hb dX8_verdictOfTest_86 (lv_at hl 1 rfl) ?_
      refine lv_lload hx hb dX8_verdictOfTest_88 (lv_at hl 2 rfl) ?_
      refine W.lcmp hx hb dX8_verdictOfTest_90 ?_
      refine lv_topi (fun z_22 _ => ?_)
      refine lv_if_lt (tgt := 96) hx hb dX8_verdictOfTest_91 (by decide) (fun c_23 => ?_) (fun c_23 => ?_)
      · refine lv_iload hx hb dX8_verdictOfTest_96 (lv_at hl 3 rfl) ?_
        refine lv_if_eq (tgt := 112) hx hb dX8_verdictOfTest_98 (by decide) (fun c_24 => ?_) (fun c_24 => absurd (by decide) c_24)
        refine lv_lload hx hb dX8_verdictOfTest_112 (lv_at hl 0 rfl) ?_
        refine lv_lload hx hb dX8_verdictOfTest_114 (lv_at hl 2 rfl) ?_
        refine W.lcmp hx hb dX8_verdictOfTest_116 ?_
        refine lv_topi (fun z_25 _ => ?_)
        refine lv_if_lt (tgt := 124) hx hb dX8_verdictOfTest_117 (by decide) (fun c_26 => ?_) (fun c_26 => ?_)
        · refine lv_iconst (v := 0) hx hb dX8_verdictOfTest_124 (by decide) ?_
          exact W.iret (v := 0) hx hb hr (fun t ht hW => ⟨⟨0, (), rfl, trivial, ws_9, ty_10, hsm, htx, by rw [ht]; exact hP, va_K.moved hW.alike hK, hD, trivial⟩, hS.F ht⟩) hS.2.2 dX8_verdictOfTest_125
        refine lv_iconst (v := 1) hx hb dX8_verdictOfTest_120 (by decide) ?_
        refine lv_goto (tgt := 125) hx hb dX8_verdictOfTest_121 (by decide) ?_
        exact W.iret (v := 1) hx hb hr (fun t ht hW => ⟨⟨1, (), rfl, trivial, ws_9, ty_10, hsm, htx, by rw [ht]; exact hP, va_K.moved hW.alike hK, hD, trivial⟩, hS.F ht⟩) hS.2.2 dX8_verdictOfTest_125
      refine lv_iconst (v := 2) hx hb dX8_verdictOfTest_94 (by decide) ?_
      exact W.iret (v := 2) hx hb hr (fun t ht hW => ⟨⟨2, (), rfl, trivial, ws_9, ty_10, hsm, htx, by rw [ht]; exact hP, va_K.moved hW.alike hK, hD, trivial⟩, hS.F ht⟩) hS.2.2 dX8_verdictOfTest_95
    refine lv_if_eq (tgt := 66) hx hb dX8_verdictOfTest_48 (by decide) (fun c_27 => absurd c_27 (by decide)) (fun c_27 => ?_)
    refine lv_aload_n hx hb dX8_verdictOfTest_51 rfl (lv_at hl 4 rfl) ?_
    refine lv_aload_n hx hb dX8_verdictOfTest_52 rfl (lv_at hl 6 rfl) ?_
    refine lv_iload_n hx hb dX8_verdictOfTest_53 rfl (lv_at hl 3 rfl) ?_
    refine lv_bipush (v := 10) hx hb dX8_verdictOfTest_54 (by decide) ?_
    refine lv_isub hx hb dX8_verdictOfTest_56 ?_
    refine lv_topi (fun z_28 _ => ?_)
    refine lv_bipush (v := 20) hx hb dX8_verdictOfTest_57 (by decide) ?_
    refine lv_iadd hx hb dX8_verdictOfTest_59 ?_
    refine lv_topi (fun z_29 _ => ?_)
    have hFc := free_all hD hS hA
    refine va_calll (va_runV (As := [.ref v, .int z_29]) (rest := []) ⟨hx, hb, hml, hown, hts⟩ (a_weighed l D ρ ws_9 ty_10 fv h0 lc bc rc fc dn tl v kv vt vh vr vp g kg cg tg f z_29 H.size (X.sm hsm htx (by decide) (by decide)) hkv hkg e_15 e_16 u_17) (cwV 2 hts gX8_verdictOfTest_X8_weighed rfl rfl rfl (by decide +kernel) ⟨Nat.le_of_ble_eq_true rfl, Nat.le_of_ble_eq_true rfl⟩) ⟨fun a U g mk q => by obtain ⟨q0, q1, qP, qK, qD, qZ⟩ := q; exact ⟨q0, q1, qP, va_K.moved (u := U) (U := U.calling g mk a) (Vm.Alike.refl U.vm) qK, qD, NZ.same rfl qZ⟩, va_recv hK hP (ci := 8) (q0 := k0) rfl e_14, fun U hU hW => ⟨rfl, by rw [hU], by rw [hU]; exact hP, va_K.moved hW.alike hK, hD.weaken (fun _ _ _ _ => trivial), NZ.warm hW hnz⟩⟩ rfl rfl hl.1 rfl (lv_room (Nat.le_of_ble_eq_true rfl)) dX8_verdictOfTest_60 ⟨Nat.le_of_ble_eq_true rfl, Nat.le_of_ble_eq_true rfl⟩) hS (fun q _ h => hFc q h) hFc (fun r_30 u t H1 locs ht hvm w_31 hB hz1 hk1 hS => ?_)
    obtain ⟨ws_32, ty_33, hm_34, ht_36, hP1, hK1, hD1, hx_35⟩ := hB
    rw [ht] at hP1
    have hK := va_K.moved hvm.symm hK1
    have hD := hD1.weaken (fun _ _ _ h => hFc _ h)
    generalize H1 = H at hP1 hS ⊢
    have hP := hP1
    have e_37 := hm_34.objK e_14 (by decide)
    have e_38 := hm_34.keep hkv e_15
    have e_39 := hm_34.keep hkg e_16
    have u_40 := ht_36 _ _ u_17
    have hsm := hsm.tr (hm_34.mono (by decide))
    have htx := htx.tr ht_36
    refine lv_goto (tgt := 68) hx hb dX8_verdictOfTest_63 (by decide) ?_
    refine lv_lstore (lv' := [(9, .long r_30), (7, .long r_7), (5, .long z_6), (4, .int 0), (3, .int z_1), (0, .ref h0), (1, .int a1), (2, .ref v)]) hx hb dX8_verdictOfTest_68 hl (by decide) rfl (fun ls hl => ?_)
    refine lv_iload hx hb dX8_verdictOfTest_70 (lv_at hl 3 rfl) ?_
    refine lv_if_eq (tgt := 86) hx hb dX8_verdictOfTest_72 (by decide) (fun c_41 => ?_) (fun c_41 => absurd (by decide) c_41)
    refine lv_lload hx hb dX8_verdictOfTest_86 (lv_at hl 1 rfl) ?_
    refine lv_lload hx hb dX8_verdictOfTest_88 (lv_at hl 2 rfl) ?_
    refine W.lcmp hx hb dX8_verdictOfTest_90 ?_
    refine lv_topi (fun z_42 _ => ?_)
    refine lv_if_lt (tgt := 96) hx hb dX8_verdictOfTest_91 (by decide) (fun c_43 => ?_) (fun c_43 => ?_)
    · refine lv_iload hx hb dX8_verdictOfTest_96 (lv_at hl 3 rfl) ?_
      refine lv_if_eq (tgt := 112) hx hb dX8_verdictOfTest_98 (by decide) (fun c_44 => ?_) (fun c_44 => absurd (by decide) c_44)
      refine lv_lload hx hb dX8_verdictOfTest_112 (lv_at hl 0 rfl) ?_
      refine lv_lload hx hb dX8_verdictOfTest_114 (lv_at hl 2 rfl) ?_
      refine W.lcmp hx hb dX8_verdictOfTest_116 ?_
      refine lv_topi (fun z_45 _ => ?_)
      refine lv_if_lt (tgt := 124) hx hb dX8_verdictOfTest_117 (by decide) (fun c_46 => ?_) (fun c_46 => ?_)
      · refine lv_iconst (v := 0) hx hb dX8_verdictOfTest_124 (by decide) ?_
        exact W.iret (v := 0) hx hb hr (fun t ht hW => ⟨⟨0, (), rfl, trivial, ws_32, ty_33, hsm, htx, by rw [ht]; exact hP, va_K.moved hW.alike hK, hD, trivial⟩, hS.F ht⟩) hS.2.2 dX8_verdictOfTest_125
      refine lv_iconst (v := 1) hx hb dX8_verdictOfTest_120 (by decide) ?_
      refine lv_goto (tgt := 125) hx hb dX8_verdictOfTest_121 (by decide) ?_
      exact W.iret (v := 1) hx hb hr (fun t ht hW => ⟨⟨1, (), rfl, trivial, ws_32, ty_33, hsm, htx, by rw [ht]; exact hP, va_K.moved hW.alike hK, hD, trivial⟩, hS.F ht⟩) hS.2.2 dX8_verdictOfTest_125
    refine lv_iconst (v := 2) hx hb dX8_verdictOfTest_94 (by decide) ?_
    exact W.iret (v := 2) hx hb hr (fun t ht hW => ⟨⟨2, (), rfl, trivial, ws_32, ty_33, hsm, htx, by rw [ht]; exact hP, va_K.moved hW.alike hK, hD, trivial⟩, hS.F ht⟩) hS.2.2 dX8_verdictOfTest_95
  refine lv_iconst (v := 1) hx hb dX8_verdictOfTest_15 (by decide) ?_
  refine lv_goto (tgt := 20) hx hb dX8_verdictOfTest_16 (by decide) ?_
  refine lv_istore (lv' := [(4, .int 1), (3, .int z_1), (0, .ref h0), (1, .int a1), (2, .ref v)]) hx hb dX8_verdictOfTest_20 hl (by decide) rfl (fun ls hl => ?_)
  refine lv_iload_n hx hb dX8_verdictOfTest_22 rfl (lv_at hl 3 rfl) ?_
  refine lv_sipush (v := 1023) hx hb dX8_verdictOfTest_23 (by decide) ?_
  refine lv_iand hx hb dX8_verdictOfTest_26 ?_
  refine lv_topi (fun z_47 _ => ?_)
  refine lv_i2l hx hb dX8_verdictOfTest_27 rfl ?_
  refine lv_aload_n hx hb dX8_verdictOfTest_28 rfl (lv_at hl 4 rfl) ?_
  refine va_get (D := D) (ci := 7) (v := .int vt) (C := RX7) (T := TX7) (N := 5) hx hb hts hin7 hown hK hP kv ev rfl 1 (by decide) (hts (.fieldLink RX8 144 "HoneyHouse$Vessel" "total" "I") (List.mem_of_getElem? (i := 1) rfl)) (fun _ h9 => h9) rfl dX8_verdictOfTest_29 ?_
  refine lv_i2l hx hb dX8_verdictOfTest_32 rfl ?_
  refine lv_lmul hx hb dX8_verdictOfTest_33 ?_
  refine lv_topl (fun z_48 _ => ?_)
  refine lv_lstore (lv' := [(5, .long z_48), (4, .int 1), (3, .int z_1), (0, .ref h0), (1, .int a1), (2, .ref v)]) hx hb dX8_verdictOfTest_34 hl (by decide) rfl (fun ls hl => ?_)
  refine lv_aload_n hx hb dX8_verdictOfTest_36 rfl (lv_at hl 3 rfl) ?_
  refine lv_aload_n hx hb dX8_verdictOfTest_37 rfl (lv_at hl 5 rfl) ?_
  refine lv_iload_n hx hb dX8_verdictOfTest_38 rfl (lv_at hl 2 rfl) ?_
  have hFc := free_all hD hS hA
  refine va_calll (va_runV (As := [.ref v, .int z_1]) (rest := []) ⟨hx, hb, hml, hown, hts⟩ (a_weighed l D ρ ws tys fv h0 lc bc rc fc dn tl v kv vt vh vr vp g kg cg tg f z_1 s.heap.size (X.sm hsm htx (by decide) (by decide)) hkv hkg ev eg ug) (cwV 2 hts gX8_verdictOfTest_X8_weighed rfl rfl rfl (by decide +kernel) ⟨Nat.le_of_ble_eq_true rfl, Nat.le_of_ble_eq_true rfl⟩) ⟨fun a U g mk q => by obtain ⟨q0, q1, qP, qK, qD, qZ⟩ := q; exact ⟨q0, q1, qP, va_K.moved (u := U) (U := U.calling g mk a) (Vm.Alike.refl U.vm) qK, qD, NZ.same rfl qZ⟩, va_recv hK hP (ci := 8) (q0 := k0) rfl e0, fun U hU hW => ⟨rfl, by rw [hU], by rw [hU]; exact hP, va_K.moved hW.alike hK, hD.weaken (fun _ _ _ _ => trivial), NZ.warm hW hnz⟩⟩ rfl rfl hl.1 rfl (lv_room (Nat.le_of_ble_eq_true rfl)) dX8_verdictOfTest_39 ⟨Nat.le_of_ble_eq_true rfl, Nat.le_of_ble_eq_true rfl⟩) hS (fun q _ h => hFc q h) hFc (fun r_49 u t H1 locs ht hvm w_50 hB hz1 hk1 hS => ?_)
  obtain ⟨ws_51, ty_52, hm_53, ht_55, hP1, hK1, hD1, hx_54⟩ := hB
  rw [ht] at hP1
  have hK := va_K.moved hvm.symm hK1
  have hD := hD1.weaken (fun _ _ _ h => hFc _ h)
  generalize H1 = H at hP1 hS ⊢
  have hP := hP1
  have e_56 := hm_53.objK e0 (by decide)
  have e_57 := hm_53.keep hkv ev
  have e_58 := hm_53.keep hkg eg
  have u_59 := ht_55 _ _ ug
  have hsm := hsm.tr (hm_53.mono (by decide))
  have htx := htx.tr ht_55
  refine lv_lstore (lv' := [(7, .long r_49), (5, .long z_48), (4, .int 1), (3, .int z_1), (0, .ref h0), (1, .int a1), (2, .ref v)]) hx hb dX8_verdictOfTest_42 hl (by decide) rfl (fun ls hl => ?_)
  refine lv_iload_n hx hb dX8_verdictOfTest_44 rfl (lv_at hl 3 rfl) ?_
  refine vp_callSi (W.runS (As := [.int z_1]) (rest := []) ⟨hx, hb, hml, hown, hts⟩ (s_X8_isPollenLow l z_1) (va_cwS 1 hts gX8_verdictOfTest_X8_isPollenLow rfl rfl rfl (by decide +kernel) ⟨Nat.le_of_ble_eq_true rfl, Nat.le_of_ble_eq_true rfl⟩) ⟨fun a U g mk q => q, fun U hU hW => ⟨rfl, trivial⟩⟩ rfl rfl hl.1 rfl (lv_room (Nat.le_of_ble_eq_true rfl)) dX8_verdictOfTest_45 ⟨Nat.le_of_ble_eq_true rfl, Nat.le_of_ble_eq_true rfl⟩) (fun r_60 k_61 => ?_)
  rcases k_61 with ⟨rfl, -⟩ | ⟨rfl, -, -⟩
  · refine lv_if_eq (tgt := 66) hx hb dX8_verdictOfTest_48 (by decide) (fun c_62 => ?_) (fun c_62 => absurd (by decide) c_62)
    refine lv_lload hx hb dX8_verdictOfTest_66 (lv_at hl 0 rfl) ?_
    refine lv_lstore (lv' := [(9, .long r_49), (7, .long r_49), (5, .long z_48), (4, .int 1), (3, .int z_1), (0, .ref h0), (1, .int a1), (2, .ref v)]) hx hb dX8_verdictOfTest_68 hl (by decide) rfl (fun ls hl => ?_)
    refine lv_iload hx hb dX8_verdictOfTest_70 (lv_at hl 3 rfl) ?_
    refine lv_if_eq (tgt := 86) hx hb dX8_verdictOfTest_72 (by decide) (fun c_63 => absurd c_63 (by decide)) (fun c_63 => ?_)
    refine lv_lload hx hb dX8_verdictOfTest_75 (lv_at hl 0 rfl) ?_
    refine lv_lload hx hb dX8_verdictOfTest_77 (lv_at hl 2 rfl) ?_
    refine W.lcmp hx hb dX8_verdictOfTest_79 ?_
    refine lv_topi (fun z_64 _ => ?_)
    refine lv_if_gt (tgt := 96) hx hb dX8_verdictOfTest_80 (by decide) (fun c_65 => ?_) (fun c_65 => ?_)
    · refine lv_iload hx hb dX8_verdictOfTest_96 (lv_at hl 3 rfl) ?_
      refine lv_if_eq (tgt := 112) hx hb dX8_verdictOfTest_98 (by decide) (fun c_66 => absurd c_66 (by decide)) (fun c_66 => ?_)
      refine lv_lload hx hb dX8_verdictOfTest_101 (lv_at hl 1 rfl) ?_
      refine lv_lload hx hb dX8_verdictOfTest_103 (lv_at hl 2 rfl) ?_
      refine W.lcmp hx hb dX8_verdictOfTest_105 ?_
      refine lv_topi (fun z_67 _ => ?_)
      refine lv_if_gt (tgt := 124) hx hb dX8_verdictOfTest_106 (by decide) (fun c_68 => ?_) (fun c_68 => ?_)
      · refine lv_iconst (v := 0) hx hb dX8_verdictOfTest_124 (by decide) ?_
        exact W.iret (v := 0) hx hb hr (fun t ht hW => ⟨⟨0, (), rfl, trivial, ws_51, ty_52, hsm, htx, by rw [ht]; exact hP, va_K.moved hW.alike hK, hD, trivial⟩, hS.F ht⟩) hS.2.2 dX8_verdictOfTest_125
      refine lv_goto (tgt := 120) hx hb dX8_verdictOfTest_109 (by decide) ?_
      refine lv_iconst (v := 1) hx hb dX8_verdictOfTest_120 (by decide) ?_
      refine lv_goto (tgt := 125) hx hb dX8_verdictOfTest_121 (by decide) ?_
      exact W.iret (v := 1) hx hb hr (fun t ht hW => ⟨⟨1, (), rfl, trivial, ws_51, ty_52, hsm, htx, by rw [ht]; exact hP, va_K.moved hW.alike hK, hD, trivial⟩, hS.F ht⟩) hS.2.2 dX8_verdictOfTest_125
    refine lv_goto (tgt := 94) hx hb dX8_verdictOfTest_83 (by decide) ?_
    refine lv_iconst (v := 2) hx hb dX8_verdictOfTest_94 (by decide) ?_
    exact W.iret (v := 2) hx hb hr (fun t ht hW => ⟨⟨2, (), rfl, trivial, ws_51, ty_52, hsm, htx, by rw [ht]; exact hP, va_K.moved hW.alike hK, hD, trivial⟩, hS.F ht⟩) hS.2.2 dX8_verdictOfTest_95
  refine lv_if_eq (tgt := 66) hx hb dX8_verdictOfTest_48 (by decide) (fun c_69 => absurd c_69 (by decide)) (fun c_69 => ?_)
  refine lv_aload_n hx hb dX8_verdictOfTest_51 rfl (lv_at hl 4 rfl) ?_
  refine lv_aload_n hx hb dX8_verdictOfTest_52 rfl (lv_at hl 6 rfl) ?_
  refine lv_iload_n hx hb dX8_verdictOfTest_53 rfl (lv_at hl 3 rfl) ?_
  refine lv_bipush (v := 10) hx hb dX8_verdictOfTest_54 (by decide) ?_
  refine lv_isub hx hb dX8_verdictOfTest_56 ?_
  refine lv_topi (fun z_70 _ => ?_)
  refine lv_bipush (v := 20) hx hb dX8_verdictOfTest_57 (by decide) ?_
  refine lv_iadd hx hb dX8_verdictOfTest_59 ?_
  refine lv_topi (fun z_71 _ => ?_)
  have hFc := free_all hD hS hA
  refine va_calll (va_runV (As := [.ref v, .int z_71]) (rest := []) ⟨hx, hb, hml, hown, hts⟩ (a_weighed l D ρ ws_51 ty_52 fv h0 lc bc rc fc dn tl v kv vt vh vr vp g kg cg tg f z_71 H.size (X.sm hsm htx (by decide) (by decide)) hkv hkg e_57 e_58 u_59) (cwV 2 hts gX8_verdictOfTest_X8_weighed rfl rfl rfl (by decide +kernel) ⟨Nat.le_of_ble_eq_true rfl, Nat.le_of_ble_eq_true rfl⟩) ⟨fun a U g mk q => by obtain ⟨q0, q1, qP, qK, qD, qZ⟩ := q; exact ⟨q0, q1, qP, va_K.moved (u := U) (U := U.calling g mk a) (Vm.Alike.refl U.vm) qK, qD, NZ.same rfl qZ⟩, va_recv hK hP (ci := 8) (q0 := k0) rfl e_56, fun U hU hW => ⟨rfl, by rw [hU], by rw [hU]; exact hP, va_K.moved hW.alike hK, hD.weaken (fun _ _ _ _ => trivial), NZ.warm hW hnz⟩⟩ rfl rfl hl.1 rfl (lv_room (Nat.le_of_ble_eq_true rfl)) dX8_verdictOfTest_60 ⟨Nat.le_of_ble_eq_true rfl, Nat.le_of_ble_eq_true rfl⟩) hS (fun q _ h => hFc q h) hFc (fun r_72 u t H1 locs ht hvm w_73 hB hz1 hk1 hS => ?_)
  obtain ⟨ws_74, ty_75, hm_76, ht_78, hP1, hK1, hD1, hx_77⟩ := hB
  rw [ht] at hP1
  have hK := va_K.moved hvm.symm hK1
  have hD := hD1.weaken (fun _ _ _ h => hFc _ h)
  generalize H1 = H at hP1 hS ⊢
  have hP := hP1
  have e_79 := hm_76.objK e_56 (by decide)
  have e_80 := hm_76.keep hkv e_57
  have e_81 := hm_76.keep hkg e_58
  have u_82 := ht_78 _ _ u_59
  have hsm := hsm.tr (hm_76.mono (by decide))
  have htx := htx.tr ht_78
  refine lv_goto (tgt := 68) hx hb dX8_verdictOfTest_63 (by decide) ?_
  refine lv_lstore (lv' := [(9, .long r_72), (7, .long r_49), (5, .long z_48), (4, .int 1), (3, .int z_1), (0, .ref h0), (1, .int a1), (2, .ref v)]) hx hb dX8_verdictOfTest_68 hl (by decide) rfl (fun ls hl => ?_)
  refine lv_iload hx hb dX8_verdictOfTest_70 (lv_at hl 3 rfl) ?_
  refine lv_if_eq (tgt := 86) hx hb dX8_verdictOfTest_72 (by decide) (fun c_83 => absurd c_83 (by decide)) (fun c_83 => ?_)
  refine lv_lload hx hb dX8_verdictOfTest_75 (lv_at hl 0 rfl) ?_
  refine lv_lload hx hb dX8_verdictOfTest_77 (lv_at hl 2 rfl) ?_
  refine W.lcmp hx hb dX8_verdictOfTest_79 ?_
  refine lv_topi (fun z_84 _ => ?_)
  refine lv_if_gt (tgt := 96) hx hb dX8_verdictOfTest_80 (by decide) (fun c_85 => ?_) (fun c_85 => ?_)
  · refine lv_iload hx hb dX8_verdictOfTest_96 (lv_at hl 3 rfl) ?_
    refine lv_if_eq (tgt := 112) hx hb dX8_verdictOfTest_98 (by decide) (fun c_86 => absurd c_86 (by decide)) (fun c_86 => ?_)
    refine lv_lload hx hb dX8_verdictOfTest_101 (lv_at hl 1 rfl) ?_
    refine lv_lload hx hb dX8_verdictOfTest_103 (lv_at hl 2 rfl) ?_
    refine W.lcmp hx hb dX8_verdictOfTest_105 ?_
    refine lv_topi (fun z_87 _ => ?_)
    refine lv_if_gt (tgt := 124) hx hb dX8_verdictOfTest_106 (by decide) (fun c_88 => ?_) (fun c_88 => ?_)
    · refine lv_iconst (v := 0) hx hb dX8_verdictOfTest_124 (by decide) ?_
      exact W.iret (v := 0) hx hb hr (fun t ht hW => ⟨⟨0, (), rfl, trivial, ws_74, ty_75, hsm, htx, by rw [ht]; exact hP, va_K.moved hW.alike hK, hD, trivial⟩, hS.F ht⟩) hS.2.2 dX8_verdictOfTest_125
    refine lv_goto (tgt := 120) hx hb dX8_verdictOfTest_109 (by decide) ?_
    refine lv_iconst (v := 1) hx hb dX8_verdictOfTest_120 (by decide) ?_
    refine lv_goto (tgt := 125) hx hb dX8_verdictOfTest_121 (by decide) ?_
    exact W.iret (v := 1) hx hb hr (fun t ht hW => ⟨⟨1, (), rfl, trivial, ws_74, ty_75, hsm, htx, by rw [ht]; exact hP, va_K.moved hW.alike hK, hD, trivial⟩, hS.F ht⟩) hS.2.2 dX8_verdictOfTest_125
  refine lv_goto (tgt := 94) hx hb dX8_verdictOfTest_83 (by decide) ?_
  refine lv_iconst (v := 2) hx hb dX8_verdictOfTest_94 (by decide) ?_
  exact W.iret (v := 2) hx hb hr (fun t ht hW => ⟨⟨2, (), rfl, trivial, ws_74, ty_75, hsm, htx, by rw [ht]; exact hP, va_K.moved hW.alike hK, hD, trivial⟩, hS.F ht⟩) hS.2.2 dX8_verdictOfTest_95
set_option maxHeartbeats 4000000 in
set_option maxRecDepth 100000 in
theorem a_verdict (l : Launch) (D : va_G) (ρ : Nat → Nat) (ws : va_W) (tys : List (ClassId × FieldType)) (fv : Nat → Nat → Int32) (h0 lc bc rc fc : Nat) (dn : Int32) (tl : Nat) (v kv : Nat) (vt vh vr vp : Int32) (g kg : Nat) (cg : ClassId) (tg : Nat) (f : Nat → Int32) (rl krl cd kcd n : Nat) (ccd : ClassId) (tcd : Nat) (fcd : Nat → Int32) (y0 : Int64) (y1 y3 y4 : Int32) (sz : Nat) (X : XI ρ fv ws tys h0 lc bc rc fc dn tl) (hkv : ρ kv ≠ 0) (hkg : ρ kg ≠ 0) (ev : ws[kv]? = some (v, .inr (7, [.ref g, .int vt, .int vh, .int vr, .int vp]))) (eg : ws[kg]? = some (g, .inl (cg, 40, .inl f))) (ug : tys[tg]? = some (cg, .int)) (hn : n ≤ 200) (erl : ws[krl]? = some (rl, .inr (3, [.long y0, .int y1, .ref cd, .int y3, .int y4]))) (ecd : ws[kcd]? = some (cd, .inl (ccd, n, .inl fcd))) (ucd : tys[tcd]? = some (ccd, .int)) : Met l yX8_verdict wsX8_verdict ({ frames := 5, cells := 0, slots := 0, locals := 119 }) (va_Pc [.ref h0, .ref rl, .ref v] (fun U => U.heap.size = sz ∧ va_P D vwCl ws U.heap ∧ va_K D vwCl tys U ∧ va_D (fun _ => True) ws ∧ NZ U)) (va_Qi (fun (r : Int32) (_ : Unit) => True) (fun (_ : Unit) (t : State) => ∃ (ws' : va_W) (tys' : List (ClassId × FieldType)), sm ρ [] ws ws' ∧ tyx tys tys' ∧ va_P D vwCl ws' t.heap ∧ va_K D vwCl tys' t ∧ va_D (va_A ws sz) ws' ∧ (True)) (va_A ws sz)) 0 0 (va_A ws sz) := by
  refine Met.ofW (cc := cX8_verdict) (maxL := 8) (ret := (some .int)) (by decide) rfl ?_
  intro p e s m args below meth c s₁ B hml hv
  obtain ⟨rfl, hsz, hP, hK, hD0, hnz⟩ := hv
  have hx := B.exec
  have hb := B.bytes
  have hr := B.returns
  have hts := atoms_spec (ws := wsX8_verdict) B.pre
  have hown : s.vm.findClass RX8 = some m.cls := findClass_of_methodNamed B.named
  have hlocks := B.notSynchronized
  subst hsz
  have hD := hD0.self (sz := s.heap.size)
  generalize hAe : va_A ws s.heap.size = A at hD ⊢
  have hA : ∀ q : Nat, s.heap.size ≤ q → A q := fun q h => by rw [← hAe]; exact Or.inr h
  have hS : va_S A s.heap s.heap [] := va_S.rf
  have hsm : sm ρ [] ws ws := sm.rf ws
  have htx : tyx tys tys := tyx.rf tys
  have hin3 : ∀ w ∈ u_ws RX3 TX3 5, w ∈ wsX8_verdict := (fun _ h9 => List.mem_cons_of_mem _ (List.mem_append_left _ (List.mem_append_left _ (List.mem_append_left _ ((List.mem_append_right _ h9))))))
  have hin8 : ∀ w ∈ u_ws RX8 TX8 15, w ∈ wsX8_verdict := (fun _ h9 => List.mem_cons_of_mem _ (List.mem_append_left _ (List.mem_append_left _ ((List.mem_append_right _ h9)))))
  have hl := lv_entry ([.ref h0, .ref rl, .ref v]) (n := 8) (Nat.le_of_ble_eq_true rfl)
  rw [lg_entry_eq]
  generalize (lg_sl ([.ref h0, .ref rl, .ref v]) ++ List.replicate (8 - (lg_sl ([.ref h0, .ref rl, .ref v])).length) Slot.unset).toArray = ls at hl ⊢
  have hl : lv_has ls 8 [(0, .ref h0), (1, .ref rl), (2, .ref v)] := hl
  obtain ⟨k0, la, ta, ba, ra, sn, rd, dr, bl, vd, fb, e0, w0, hle0, hnum, qla, qta, qba, qra, qsn, qrd, qdr, qbl, qvd, qfb⟩ := id X
  obtain ⟨kvd, cvd, tvd, fvd, evd, uvd, wvd⟩ := id qvd
  refine lv_iconst (v := 0) hx hb dX8_verdict_0 (by decide) ?_
  refine lv_istore_n (lv' := [(3, .int 0), (0, .ref h0), (1, .ref rl), (2, .ref v)]) hx hb dX8_verdict_1 rfl hl (by decide) rfl (fun ls hl => ?_)
  refine lv_iconst (v := 0) hx hb dX8_verdict_2 (by decide) ?_
  refine lv_istore (lv' := [(4, .int 0), (3, .int 0), (0, .ref h0), (1, .ref rl), (2, .ref v)]) hx hb dX8_verdict_3 hl (by decide) rfl (fun ls hl => ?_)
  refine lp_V (nL := 8) (σ := Nat × Nat) (lv := fun x9 => [(4, .int (nI x9.1)), (3, .int (nI x9.2)), (2, .ref v), (1, .ref rl), (0, .ref h0)]) (μ := fun x9 => n - x9.1) (J := fun x9 ws9 => sm ρ [] ws ws9 ∧ (x9.1 ≤ n) ∧ (x9.2 ≤ 16)) (fun x9 ws_6 H locs ls hj hP hD hS hl ih_1 => ?_) (0, 0) ws _ _ ls ⟨sm.rf _, (show 0 ≤ n from by omega), (show 0 ≤ 16 from by omega)⟩ hP hD hS (lv_sub hl [0, 1, 4, 3, 2] rfl)
  obtain ⟨i_2, d_3⟩ := x9
  replace hj : sm ρ [] ws ws_6 ∧ (i_2 ≤ n) ∧ (d_3 ≤ 16) := hj
  obtain ⟨hm_7, hi_4, hd_5⟩ := hj
  have e_9 := hm_7.objK e0 (by decide)
  obtain ⟨f_11, e_10⟩ := hm_7.arrI evd
  have e_12 := hm_7.keep hkv ev
  have e_13 := hm_7.keep hkg eg
  have e_14 := hm_7.objK erl (by decide)
  obtain ⟨f_16, e_15⟩ := hm_7.arrI ecd
  have hsm := hsm.tr (hm_7.mono (by decide))
  have hlp_8 := hm_7
  have hl : lv_has ls 8 [(4, .int (nI i_2)), (3, .int (nI d_3)), (2, .ref v), (1, .ref rl), (0, .ref h0)] := hl
  refine lv_iload hx hb dX8_verdict_5 (lv_at hl 0 rfl) ?_
  refine lv_aload_n hx hb dX8_verdict_7 rfl (lv_at hl 3 rfl) ?_
  refine va_get (D := D) (ci := 3) (v := .ref cd) (C := RX3) (T := TX3) (N := 5) hx hb hts hin3 hown hK hP krl e_14 rfl 2 (by decide) (hts (.fieldLink RX8 294 "HoneyHouse$Rule" "code" "[I") (List.mem_of_getElem? (i := 1) rfl)) (fun _ h9 => h9) rfl dX8_verdict_8 ?_
  refine va_alen (v := nI n) hx hb hK hP kcd tcd e_15 ucd rfl dX8_verdict_11 ?_
  refine lv_icmp_ge (tgt := 169) hx hb dX8_verdict_12 (by decide) (fun c_17 => ?_) (fun c_17 => ?_)
  · have d_18 := n_le (a := n) (b := i_2) (by omega) (by omega) c_17
    refine lv_iload_n hx hb dX8_verdict_169 rfl (lv_at hl 1 rfl) ?_
    refine lv_if_le (tgt := 182) hx hb dX8_verdict_170 (by decide) (fun c_19 => ?_) (fun c_19 => ?_)
    · have d_20 := n_le (a := d_3) (b := 0) (by omega) (by omega) c_19
      refine lv_iconst (v := 0) hx hb dX8_verdict_182 (by decide) ?_
      exact W.iret (v := 0) hx hb hr (fun t ht hW => ⟨⟨0, (), rfl, trivial, ws_6, tys, hsm, htx, by rw [ht]; exact hP, va_K.moved hW.alike hK, hD, trivial⟩, hS.F ht⟩) hS.2.2 dX8_verdict_183
    have d_21 := n_nle (a := d_3) (b := 0) (by omega) (by omega) c_19
    refine lv_aload_n hx hb dX8_verdict_173 rfl (lv_at hl 4 rfl) ?_
    refine va_get (D := D) (ci := 8) (v := .ref vd) (C := RX8) (T := TX8) (N := 15) hx hb hts hin8 hown hK hP k0 e_9 rfl 8 (by decide) (hts (.fieldLink RX8 58 "HoneyHouse" "verdicts" "[I") (List.mem_of_getElem? (i := 2) rfl)) (fun _ h9 => h9) rfl dX8_verdict_174 ?_
    refine lv_iconst (v := 0) hx hb dX8_verdict_177 (by decide) ?_
    refine va_iald (f := f_11) (n := 16) hx hb hK hP kvd tvd e_10 uvd (vp_in_iff.mpr (by decide)) dX8_verdict_178 ?_
    refine lv_topi (fun z_22 _ => ?_)
    refine lv_goto (tgt := 183) hx hb dX8_verdict_179 (by decide) ?_
    exact W.iret (v := z_22) hx hb hr (fun t ht hW => ⟨⟨z_22, (), rfl, trivial, ws_6, tys, hsm, htx, by rw [ht]; exact hP, va_K.moved hW.alike hK, hD, trivial⟩, hS.F ht⟩) hS.2.2 dX8_verdict_183
  have d_23 := n_nle (a := n) (b := i_2) (by omega) (by omega) c_17
  refine lv_aload_n hx hb dX8_verdict_15 rfl (lv_at hl 3 rfl) ?_
  refine va_get (D := D) (ci := 3) (v := .ref cd) (C := RX3) (T := TX3) (N := 5) hx hb hts hin3 hown hK hP krl e_14 rfl 2 (by decide) (hts (.fieldLink RX8 294 "HoneyHouse$Rule" "code" "[I") (List.mem_of_getElem? (i := 1) rfl)) (fun _ h9 => h9) rfl dX8_verdict_16 ?_
  refine lv_iload hx hb dX8_verdict_19 (lv_at hl 0 rfl) ?_
  refine va_iald (f := f_16) (n := n) hx hb hK hP kcd tcd e_15 ucd (vp_in_nI (n := i_2) (by omega) (by omega)) dX8_verdict_21 ?_
  refine lv_topi (fun z_24 _ => ?_)
  refine lv_istore (lv' := [(5, .int z_24), (4, .int (nI i_2)), (3, .int (nI d_3)), (2, .ref v), (1, .ref rl), (0, .ref h0)]) hx hb dX8_verdict_22 hl (by decide) rfl (fun ls hl => ?_)
  refine lv_iload hx hb dX8_verdict_24 (lv_at hl 0 rfl) ?_
  refine lv_if_lt (tgt := 57) hx hb dX8_verdict_26 (by decide) (fun c_25 => ?_) (fun c_25 => ?_)
  · refine lv_iload hx hb dX8_verdict_57 (lv_at hl 0 rfl) ?_
    refine lv_iconst (v := (-1)) hx hb dX8_verdict_59 (by decide) ?_
    refine lv_icmp_ne (tgt := 97) hx hb dX8_verdict_60 (by decide) (fun c_26 => ?_) (fun c_26 => ?_)
    · refine lv_iload_n hx hb dX8_verdict_97 rfl (lv_at hl 2 rfl) ?_
      refine lv_iconst (v := 2) hx hb dX8_verdict_98 (by decide) ?_
      refine lv_aload_n hx hb dX8_verdict_99 rfl (lv_at hl 5 rfl) ?_
      refine va_get (D := D) (ci := 8) (v := .ref vd) (C := RX8) (T := TX8) (N := 15) hx hb hts hin8 hown hK hP k0 e_9 rfl 8 (by decide) (hts (.fieldLink RX8 58 "HoneyHouse" "verdicts" "[I") (List.mem_of_getElem? (i := 2) rfl)) (fun _ h9 => h9) rfl dX8_verdict_100 ?_
      refine va_alen (v := 16) hx hb hK hP kvd tvd e_10 uvd rfl dX8_verdict_103 ?_
      refine vp_callSi (W.runS (As := [.int (nI d_3), .int 2, .int 16]) (rest := []) ⟨hx, hb, hml, hown, hts⟩ (s_X8_isIn l (nI d_3) 2 16) (va_cwS 3 hts gX8_verdict_X8_isIn rfl rfl rfl (by decide +kernel) ⟨Nat.le_of_ble_eq_true rfl, Nat.le_of_ble_eq_true rfl⟩) ⟨fun a U g mk q => q, fun U hU hW => ⟨rfl, trivial⟩⟩ rfl rfl hl.1 rfl (lv_room (Nat.le_of_ble_eq_true rfl)) dX8_verdict_104 ⟨Nat.le_of_ble_eq_true rfl, Nat.le_of_ble_eq_true rfl⟩) (fun r_27 k_28 => ?_)
      rcases k_28 with ⟨rfl, o_29⟩ | ⟨rfl, a_30, b_31⟩
      · refine lv_if_eq (tgt := 163) hx hb dX8_verdict_107 (by decide) (fun c_34 => ?_) (fun c_34 => absurd (by decide) c_34)
        refine lv_iinc (v := nI (i_2 + 1)) (lv' := [(4, .int (nI (i_2 + 1))), (5, .int z_24), (3, .int (nI d_3)), (2, .ref v), (1, .ref rl), (0, .ref h0)]) hx hb dX8_verdict_163 hl (k := 1) rfl (nI_add i_2 1) (by decide) rfl (fun ls hl => ?_)
        refine lv_goto (tgt := 5) hx hb dX8_verdict_166 (by decide) ?_
        exact ih_1 (i_2 + 1, d_3) ws_6 _ _ ls (by show n - (i_2 + 1) < n - i_2; omega) ⟨hlp_8, (show (i_2 + 1) ≤ n from by omega), (show d_3 ≤ 16 from by omega)⟩ hP hD hS (lv_sub hl [0, 2, 3, 4, 5] rfl)
      have d_32 := n_nlt (a := d_3) (b := 2) (by omega) (by omega) a_30
      have d_33 := n_nlt (a := 16) (b := d_3) (by omega) (by omega) b_31
      refine lv_if_eq (tgt := 163) hx hb dX8_verdict_107 (by decide) (fun c_35 => absurd c_35 (by decide)) (fun c_35 => ?_)
      refine lv_iinc (v := nI (d_3 - 1)) (lv' := [(3, .int (nI (d_3 - 1))), (5, .int z_24), (4, .int (nI i_2)), (2, .ref v), (1, .ref rl), (0, .ref h0)]) hx hb dX8_verdict_110 hl (k := 2) rfl (sb_m1 (by omega)) (by decide) rfl (fun ls hl => ?_)
      refine lv_aload_n hx hb dX8_verdict_113 rfl (lv_at hl 5 rfl) ?_
      refine va_get (D := D) (ci := 8) (v := .ref vd) (C := RX8) (T := TX8) (N := 15) hx hb hts hin8 hown hK hP k0 e_9 rfl 8 (by decide) (hts (.fieldLink RX8 58 "HoneyHouse" "verdicts" "[I") (List.mem_of_getElem? (i := 2) rfl)) (fun _ h9 => h9) rfl dX8_verdict_114 ?_
      refine lv_iload_n hx hb dX8_verdict_117 rfl (lv_at hl 0 rfl) ?_
      refine lv_iconst (v := 1) hx hb dX8_verdict_118 (by decide) ?_
      refine lv_isub hx hb dX8_verdict_119 ?_
      refine tp_i (y := nI ((d_3 - 1) - 1)) (pk_sub (a := d_3 - 1) (b := 1) (by omega)) ?_
      refine va_iald (f := f_11) (n := 16) hx hb hK hP kvd tvd e_10 uvd (vp_in_nI (n := (d_3 - 1) - 1) (by omega) (by omega)) dX8_verdict_120 ?_
      refine lv_topi (fun z_36 _ => ?_)
      refine lv_istore (lv' := [(6, .int z_36), (3, .int (nI (d_3 - 1))), (5, .int z_24), (4, .int (nI i_2)), (2, .ref v), (1, .ref rl), (0, .ref h0)]) hx hb dX8_verdict_121 hl (by decide) rfl (fun ls hl => ?_)
      refine lv_aload_n hx hb dX8_verdict_123 rfl (lv_at hl 6 rfl) ?_
      refine va_get (D := D) (ci := 8) (v := .ref vd) (C := RX8) (T := TX8) (N := 15) hx hb hts hin8 hown hK hP k0 e_9 rfl 8 (by decide) (hts (.fieldLink RX8 58 "HoneyHouse" "verdicts" "[I") (List.mem_of_getElem? (i := 2) rfl)) (fun _ h9 => h9) rfl dX8_verdict_124 ?_
      refine lv_iload_n hx hb dX8_verdict_127 rfl (lv_at hl 1 rfl) ?_
      refine va_iald (f := f_11) (n := 16) hx hb hK hP kvd tvd e_10 uvd (vp_in_nI (n := d_3 - 1) (by omega) (by omega)) dX8_verdict_128 ?_
      refine lv_topi (fun z_37 _ => ?_)
      refine lv_istore (lv' := [(7, .int z_37), (6, .int z_36), (3, .int (nI (d_3 - 1))), (5, .int z_24), (4, .int (nI i_2)), (2, .ref v), (1, .ref rl), (0, .ref h0)]) hx hb dX8_verdict_129 hl (by decide) rfl (fun ls hl => ?_)
      refine lv_aload_n hx hb dX8_verdict_131 rfl (lv_at hl 7 rfl) ?_
      refine va_get (D := D) (ci := 8) (v := .ref vd) (C := RX8) (T := TX8) (N := 15) hx hb hts hin8 hown hK hP k0 e_9 rfl 8 (by decide) (hts (.fieldLink RX8 58 "HoneyHouse" "verdicts" "[I") (List.mem_of_getElem? (i := 2) rfl)) (fun _ h9 => h9) rfl dX8_verdict_132 ?_
      refine lv_iload_n hx hb dX8_verdict_135 rfl (lv_at hl 2 rfl) ?_
      refine lv_iconst (v := 1) hx hb dX8_verdict_136 (by decide) ?_
      refine lv_isub hx hb dX8_verdict_137 ?_
      refine tp_i (y := nI ((d_3 - 1) - 1)) (pk_sub (a := d_3 - 1) (b := 1) (by omega)) ?_
      refine lv_iload hx hb dX8_verdict_138 (lv_at hl 3 rfl) ?_
      refine lv_bipush (v := (-2)) hx hb dX8_verdict_140 (by decide) ?_
      refine lv_icmp_ne (tgt := 155) hx hb dX8_verdict_142 (by decide) (fun c_38 => ?_) (fun c_38 => ?_)
      · refine lv_iload hx hb dX8_verdict_155 (lv_at hl 1 rfl) ?_
        refine lv_iload hx hb dX8_verdict_157 (lv_at hl 0 rfl) ?_
        refine va_mmax hx hb (by rw [hml]; exact hl.1.symm) hown (hts (.methodLink RX8 306 Lib.Math.max.name) (List.mem_of_getElem? (i := 7) rfl)) (hts (.static Lib.Math.max.name) (List.mem_of_getElem? (i := 8) rfl)) (hts (.initialized "java/lang/Math") (List.mem_of_getElem? (i := 5) rfl)) (hts (.code Lib.Math.max.name Lib.Math.max.code 2 (some .int)) (List.mem_of_getElem? (i := 9) rfl)) (Nat.le_of_ble_eq_true rfl) (Nat.le_of_ble_eq_true rfl) (Nat.le_of_ble_eq_true rfl) (Nat.le_of_ble_eq_true rfl) dX8_verdict_159 ?_
        refine lv_topi (fun z_39 _ => ?_)
        refine va_iast (f := f_11) (n := 16) hx hb hK hP hD hS kvd tvd e_10 uvd (vp_in_nI (n := (d_3 - 1) - 1) (by omega) (by omega)) dX8_verdict_162 (fun H locs hP hD hS => ?_)
        have hm_41 : sm ρ [] ws_6 (ws_6.set kvd (vd, .inl (cvd, 16, .inl (upd f_11 (nI ((d_3 - 1) - 1)).toNatClampNeg z_39)))) := sm.ints e_10 wvd
        have e_42 : (ws_6.set kvd (vd, .inl (cvd, 16, .inl (upd f_11 (nI ((d_3 - 1) - 1)).toNatClampNeg z_39))))[kvd]? = some (vd, .inl (cvd, 16, .inl (upd f_11 (nI ((d_3 - 1) - 1)).toNatClampNeg z_39))) := wset_self e_10
        generalize ws_6.set kvd (vd, .inl (cvd, 16, .inl (upd f_11 (nI ((d_3 - 1) - 1)).toNatClampNeg z_39))) = ws_40 at hP hD hm_41 e_42
        have e_43 := hm_41.objK e_9 (by decide)
        have e_44 := hm_41.keep hkv e_12
        have e_45 := hm_41.keep hkg e_13
        have e_46 := hm_41.objK e_14 (by decide)
        obtain ⟨f_48, e_47⟩ := hm_41.arrI e_15
        have hsm := hsm.tr (hm_41.mono (fun _ h9 => absurd h9 List.not_mem_nil))
        have hlp_8 := hlp_8.tr (hm_41.mono (fun _ h9 => absurd h9 List.not_mem_nil))
        generalize upd f_11 (nI ((d_3 - 1) - 1)).toNatClampNeg z_39 = f_49 at e_42
        refine lv_iinc (v := nI (i_2 + 1)) (lv' := [(4, .int (nI (i_2 + 1))), (7, .int z_37), (6, .int z_36), (3, .int (nI (d_3 - 1))), (5, .int z_24), (2, .ref v), (1, .ref rl), (0, .ref h0)]) hx hb dX8_verdict_163 hl (k := 4) rfl (nI_add i_2 1) (by decide) rfl (fun ls hl => ?_)
        refine lv_goto (tgt := 5) hx hb dX8_verdict_166 (by decide) ?_
        exact ih_1 (i_2 + 1, d_3 - 1) ws_40 _ _ ls (by show n - (i_2 + 1) < n - i_2; omega) ⟨hlp_8, (show (i_2 + 1) ≤ n from by omega), (show (d_3 - 1) ≤ 16 from by omega)⟩ hP hD hS (lv_sub hl [0, 3, 5, 6, 7] rfl)
      refine lv_iload hx hb dX8_verdict_145 (lv_at hl 1 rfl) ?_
      refine lv_iload hx hb dX8_verdict_147 (lv_at hl 0 rfl) ?_
      refine va_mmin hx hb (by rw [hml]; exact hl.1.symm) hown (hts (.methodLink RX8 301 Lib.Math.min.name) (List.mem_of_getElem? (i := 3) rfl)) (hts (.static Lib.Math.min.name) (List.mem_of_getElem? (i := 4) rfl)) (hts (.initialized "java/lang/Math") (List.mem_of_getElem? (i := 5) rfl)) (hts (.code Lib.Math.min.name Lib.Math.min.code 2 (some .int)) (List.mem_of_getElem? (i := 6) rfl)) (Nat.le_of_ble_eq_true rfl) (Nat.le_of_ble_eq_true rfl) (Nat.le_of_ble_eq_true rfl) (Nat.le_of_ble_eq_true rfl) dX8_verdict_149 ?_
      refine lv_topi (fun z_50 _ => ?_)
      refine lv_goto (tgt := 162) hx hb dX8_verdict_152 (by decide) ?_
      refine va_iast (f := f_11) (n := 16) hx hb hK hP hD hS kvd tvd e_10 uvd (vp_in_nI (n := (d_3 - 1) - 1) (by omega) (by omega)) dX8_verdict_162 (fun H locs hP hD hS => ?_)
      have hm_52 : sm ρ [] ws_6 (ws_6.set kvd (vd, .inl (cvd, 16, .inl (upd f_11 (nI ((d_3 - 1) - 1)).toNatClampNeg z_50)))) := sm.ints e_10 wvd
      have e_53 : (ws_6.set kvd (vd, .inl (cvd, 16, .inl (upd f_11 (nI ((d_3 - 1) - 1)).toNatClampNeg z_50))))[kvd]? = some (vd, .inl (cvd, 16, .inl (upd f_11 (nI ((d_3 - 1) - 1)).toNatClampNeg z_50))) := wset_self e_10
      generalize ws_6.set kvd (vd, .inl (cvd, 16, .inl (upd f_11 (nI ((d_3 - 1) - 1)).toNatClampNeg z_50))) = ws_51 at hP hD hm_52 e_53
      have e_54 := hm_52.objK e_9 (by decide)
      have e_55 := hm_52.keep hkv e_12
      have e_56 := hm_52.keep hkg e_13
      have e_57 := hm_52.objK e_14 (by decide)
      obtain ⟨f_59, e_58⟩ := hm_52.arrI e_15
      have hsm := hsm.tr (hm_52.mono (fun _ h9 => absurd h9 List.not_mem_nil))
      have hlp_8 := hlp_8.tr (hm_52.mono (fun _ h9 => absurd h9 List.not_mem_nil))
      generalize upd f_11 (nI ((d_3 - 1) - 1)).toNatClampNeg z_50 = f_60 at e_53
      refine lv_iinc (v := nI (i_2 + 1)) (lv' := [(4, .int (nI (i_2 + 1))), (7, .int z_37), (6, .int z_36), (3, .int (nI (d_3 - 1))), (5, .int z_24), (2, .ref v), (1, .ref rl), (0, .ref h0)]) hx hb dX8_verdict_163 hl (k := 4) rfl (nI_add i_2 1) (by decide) rfl (fun ls hl => ?_)
      refine lv_goto (tgt := 5) hx hb dX8_verdict_166 (by decide) ?_
      exact ih_1 (i_2 + 1, d_3 - 1) ws_51 _ _ ls (by show n - (i_2 + 1) < n - i_2; omega) ⟨hlp_8, (show (i_2 + 1) ≤ n from by omega), (show (d_3 - 1) ≤ 16 from by omega)⟩ hP hD hS (lv_sub hl [0, 3, 5, 6, 7] rfl)
    refine lv_iload_n hx hb dX8_verdict_63 rfl (lv_at hl 2 rfl) ?_
    refine lv_iconst (v := 1) hx hb dX8_verdict_64 (by decide) ?_
    refine lv_aload_n hx hb dX8_verdict_65 rfl (lv_at hl 5 rfl) ?_
    refine va_get (D := D) (ci := 8) (v := .ref vd) (C := RX8) (T := TX8) (N := 15) hx hb hts hin8 hown hK hP k0 e_9 rfl 8 (by decide) (hts (.fieldLink RX8 58 "HoneyHouse" "verdicts" "[I") (List.mem_of_getElem? (i := 2) rfl)) (fun _ h9 => h9) rfl dX8_verdict_66 ?_
    refine va_alen (v := 16) hx hb hK hP kvd tvd e_10 uvd rfl dX8_verdict_69 ?_
    refine vp_callSi (W.runS (As := [.int (nI d_3), .int 1, .int 16]) (rest := []) ⟨hx, hb, hml, hown, hts⟩ (s_X8_isIn l (nI d_3) 1 16) (va_cwS 3 hts gX8_verdict_X8_isIn rfl rfl rfl (by decide +kernel) ⟨Nat.le_of_ble_eq_true rfl, Nat.le_of_ble_eq_true rfl⟩) ⟨fun a U g mk q => q, fun U hU hW => ⟨rfl, trivial⟩⟩ rfl rfl hl.1 rfl (lv_room (Nat.le_of_ble_eq_true rfl)) dX8_verdict_70 ⟨Nat.le_of_ble_eq_true rfl, Nat.le_of_ble_eq_true rfl⟩) (fun r_61 k_62 => ?_)
    rcases k_62 with ⟨rfl, o_63⟩ | ⟨rfl, a_64, b_65⟩
    · refine lv_if_eq (tgt := 163) hx hb dX8_verdict_73 (by decide) (fun c_68 => ?_) (fun c_68 => absurd (by decide) c_68)
      refine lv_iinc (v := nI (i_2 + 1)) (lv' := [(4, .int (nI (i_2 + 1))), (5, .int z_24), (3, .int (nI d_3)), (2, .ref v), (1, .ref rl), (0, .ref h0)]) hx hb dX8_verdict_163 hl (k := 1) rfl (nI_add i_2 1) (by decide) rfl (fun ls hl => ?_)
      refine lv_goto (tgt := 5) hx hb dX8_verdict_166 (by decide) ?_
      exact ih_1 (i_2 + 1, d_3) ws_6 _ _ ls (by show n - (i_2 + 1) < n - i_2; omega) ⟨hlp_8, (show (i_2 + 1) ≤ n from by omega), (show d_3 ≤ 16 from by omega)⟩ hP hD hS (lv_sub hl [0, 2, 3, 4, 5] rfl)
    have d_66 := n_nlt (a := d_3) (b := 1) (by omega) (by omega) a_64
    have d_67 := n_nlt (a := 16) (b := d_3) (by omega) (by omega) b_65
    refine lv_if_eq (tgt := 163) hx hb dX8_verdict_73 (by decide) (fun c_69 => absurd c_69 (by decide)) (fun c_69 => ?_)
    refine lv_aload_n hx hb dX8_verdict_76 rfl (lv_at hl 5 rfl) ?_
    refine va_get (D := D) (ci := 8) (v := .ref vd) (C := RX8) (T := TX8) (N := 15) hx hb hts hin8 hown hK hP k0 e_9 rfl 8 (by decide) (hts (.fieldLink RX8 58 "HoneyHouse" "verdicts" "[I") (List.mem_of_getElem? (i := 2) rfl)) (fun _ h9 => h9) rfl dX8_verdict_77 ?_
    refine lv_iload_n hx hb dX8_verdict_80 rfl (lv_at hl 2 rfl) ?_
    refine lv_iconst (v := 1) hx hb dX8_verdict_81 (by decide) ?_
    refine lv_isub hx hb dX8_verdict_82 ?_
    refine tp_i (y := nI (d_3 - 1)) (pk_sub (a := d_3) (b := 1) (by omega)) ?_
    refine lv_iconst (v := 2) hx hb dX8_verdict_83 (by decide) ?_
    refine lv_aload_n hx hb dX8_verdict_84 rfl (lv_at hl 5 rfl) ?_
    refine va_get (D := D) (ci := 8) (v := .ref vd) (C := RX8) (T := TX8) (N := 15) hx hb hts hin8 hown hK hP k0 e_9 rfl 8 (by decide) (hts (.fieldLink RX8 58 "HoneyHouse" "verdicts" "[I") (List.mem_of_getElem? (i := 2) rfl)) (fun _ h9 => h9) rfl dX8_verdict_85 ?_
    refine lv_iload_n hx hb dX8_verdict_88 rfl (lv_at hl 2 rfl) ?_
    refine lv_iconst (v := 1) hx hb dX8_verdict_89 (by decide) ?_
    refine lv_isub hx hb dX8_verdict_90 ?_
    refine tp_i (y := nI (d_3 - 1)) (pk_sub (a := d_3) (b := 1) (by omega)) ?_
    refine va_iald (f := f_11) (n := 16) hx hb hK hP kvd tvd e_10 uvd (vp_in_nI (n := d_3 - 1) (by omega) (by omega)) dX8_verdict_91 ?_
    refine lv_topi (fun z_70 _ => ?_)
    refine lv_isub hx hb dX8_verdict_92 ?_
    refine lv_topi (fun z_71 _ => ?_)
    refine va_iast (f := f_11) (n := 16) hx hb hK hP hD hS kvd tvd e_10 uvd (vp_in_nI (n := d_3 - 1) (by omega) (by omega)) dX8_verdict_93 (fun H locs hP hD hS => ?_)
    have hm_73 : sm ρ [] ws_6 (ws_6.set kvd (vd, .inl (cvd, 16, .inl (upd f_11 (nI (d_3 - 1)).toNatClampNeg z_71)))) := sm.ints e_10 wvd
    have e_74 : (ws_6.set kvd (vd, .inl (cvd, 16, .inl (upd f_11 (nI (d_3 - 1)).toNatClampNeg z_71))))[kvd]? = some (vd, .inl (cvd, 16, .inl (upd f_11 (nI (d_3 - 1)).toNatClampNeg z_71))) := wset_self e_10
    generalize ws_6.set kvd (vd, .inl (cvd, 16, .inl (upd f_11 (nI (d_3 - 1)).toNatClampNeg z_71))) = ws_72 at hP hD hm_73 e_74
    have e_75 := hm_73.objK e_9 (by decide)
    have e_76 := hm_73.keep hkv e_12
    have e_77 := hm_73.keep hkg e_13
    have e_78 := hm_73.objK e_14 (by decide)
    obtain ⟨f_80, e_79⟩ := hm_73.arrI e_15
    have hsm := hsm.tr (hm_73.mono (fun _ h9 => absurd h9 List.not_mem_nil))
    have hlp_8 := hlp_8.tr (hm_73.mono (fun _ h9 => absurd h9 List.not_mem_nil))
    generalize upd f_11 (nI (d_3 - 1)).toNatClampNeg z_71 = f_81 at e_74
    refine lv_goto (tgt := 163) hx hb dX8_verdict_94 (by decide) ?_
    refine lv_iinc (v := nI (i_2 + 1)) (lv' := [(4, .int (nI (i_2 + 1))), (5, .int z_24), (3, .int (nI d_3)), (2, .ref v), (1, .ref rl), (0, .ref h0)]) hx hb dX8_verdict_163 hl (k := 1) rfl (nI_add i_2 1) (by decide) rfl (fun ls hl => ?_)
    refine lv_goto (tgt := 5) hx hb dX8_verdict_166 (by decide) ?_
    exact ih_1 (i_2 + 1, d_3) ws_72 _ _ ls (by show n - (i_2 + 1) < n - i_2; omega) ⟨hlp_8, (show (i_2 + 1) ≤ n from by omega), (show d_3 ≤ 16 from by omega)⟩ hP hD hS (lv_sub hl [0, 2, 3, 4, 5] rfl)
  refine lv_iload_n hx hb dX8_verdict_29 rfl (lv_at hl 2 rfl) ?_
  refine lv_aload_n hx hb dX8_verdict_30 rfl (lv_at hl 5 rfl) ?_
  refine va_get (D := D) (ci := 8) (v := .ref vd) (C := RX8) (T := TX8) (N := 15) hx hb hts hin8 hown hK hP k0 e_9 rfl 8 (by decide) (hts (.fieldLink RX8 58 "HoneyHouse" "verdicts" "[I") (List.mem_of_getElem? (i := 2) rfl)) (fun _ h9 => h9) rfl dX8_verdict_31 ?_
  refine va_alen (v := 16) hx hb hK hP kvd tvd e_10 uvd rfl dX8_verdict_34 ?_
  refine lv_icmp_ge (tgt := 163) hx hb dX8_verdict_35 (by decide) (fun c_82 => ?_) (fun c_82 => ?_)
  · have d_83 := n_le (a := 16) (b := d_3) (by omega) (by omega) c_82
    refine lv_iinc (v := nI (i_2 + 1)) (lv' := [(4, .int (nI (i_2 + 1))), (5, .int z_24), (3, .int (nI d_3)), (2, .ref v), (1, .ref rl), (0, .ref h0)]) hx hb dX8_verdict_163 hl (k := 1) rfl (nI_add i_2 1) (by decide) rfl (fun ls hl => ?_)
    refine lv_goto (tgt := 5) hx hb dX8_verdict_166 (by decide) ?_
    exact ih_1 (i_2 + 1, d_3) ws_6 _ _ ls (by show n - (i_2 + 1) < n - i_2; omega) ⟨hlp_8, (show (i_2 + 1) ≤ n from by omega), (show d_3 ≤ 16 from by omega)⟩ hP hD hS (lv_sub hl [0, 2, 3, 4, 5] rfl)
  have d_84 := n_nle (a := 16) (b := d_3) (by omega) (by omega) c_82
  refine lv_aload_n hx hb dX8_verdict_38 rfl (lv_at hl 5 rfl) ?_
  refine va_get (D := D) (ci := 8) (v := .ref vd) (C := RX8) (T := TX8) (N := 15) hx hb hts hin8 hown hK hP k0 e_9 rfl 8 (by decide) (hts (.fieldLink RX8 58 "HoneyHouse" "verdicts" "[I") (List.mem_of_getElem? (i := 2) rfl)) (fun _ h9 => h9) rfl dX8_verdict_39 ?_
  refine lv_iload_n hx hb dX8_verdict_42 rfl (lv_at hl 2 rfl) ?_
  refine lv_aload_n hx hb dX8_verdict_43 rfl (lv_at hl 5 rfl) ?_
  refine lv_iload hx hb dX8_verdict_44 (lv_at hl 0 rfl) ?_
  refine lv_aload_n hx hb dX8_verdict_46 rfl (lv_at hl 3 rfl) ?_
  have hFc := free_all hD hS hA
  refine va_calli (va_runV (As := [.int z_24, .ref v]) (rest := [.int (nI d_3), .ref vd]) ⟨hx, hb, hml, hown, hts⟩ (a_verdictOfTest l D ρ ws_6 tys fv h0 lc bc rc fc dn tl v kv vt vh vr vp g kg cg tg f z_24 H.size (X.sm hsm htx (by decide) (by decide)) hkv hkg e_12 e_13 ug) (cwV 2 hts gX8_verdict_X8_verdictOfTest rfl rfl rfl (by decide +kernel) ⟨Nat.le_of_ble_eq_true rfl, Nat.le_of_ble_eq_true rfl⟩) ⟨fun a U g mk q => by obtain ⟨q0, q1, qP, qK, qD, qZ⟩ := q; exact ⟨q0, q1, qP, va_K.moved (u := U) (U := U.calling g mk a) (Vm.Alike.refl U.vm) qK, qD, NZ.same rfl qZ⟩, va_recv hK hP (ci := 8) (q0 := k0) rfl e_9, fun U hU hW => ⟨rfl, by rw [hU], by rw [hU]; exact hP, va_K.moved hW.alike hK, hD.weaken (fun _ _ _ _ => trivial), NZ.warm hW hnz⟩⟩ rfl rfl hl.1 rfl (lv_room (Nat.le_of_ble_eq_true rfl)) dX8_verdict_47 ⟨Nat.le_of_ble_eq_true rfl, Nat.le_of_ble_eq_true rfl⟩) hS (fun q _ h => hFc q h) hFc (fun r_85 u t H1 locs ht hvm w_86 hB hz1 hk1 hS => ?_)
  obtain ⟨ws_87, ty_88, hm_89, ht_91, hP1, hK1, hD1, hx_90⟩ := hB
  rw [ht] at hP1
  have hK := va_K.moved hvm.symm hK1
  have hD := hD1.weaken (fun _ _ _ h => hFc _ h)
  generalize H1 = H at hP1 hS ⊢
  have hP := hP1
  have e_92 := hm_89.objK e_9 (by decide)
  obtain ⟨f_94, e_93⟩ := hm_89.arrI e_10
  have u_95 := ht_91 _ _ uvd
  have e_96 := hm_89.keep hkv e_12
  have e_97 := hm_89.keep hkg e_13
  have u_98 := ht_91 _ _ ug
  have e_99 := hm_89.objK e_14 (by decide)
  obtain ⟨f_101, e_100⟩ := hm_89.arrI e_15
  have u_102 := ht_91 _ _ ucd
  have hsm := hsm.tr (hm_89.mono (by decide))
  have hlp_8 := hlp_8.tr (hm_89.mono (by decide))
  have htx := htx.tr ht_91
  refine va_iast (f := f_94) (n := 16) hx hb hK hP hD hS kvd tvd e_93 u_95 (vp_in_nI (n := d_3) (by omega) (by omega)) dX8_verdict_50 (fun H locs hP hD hS => ?_)
  have hm_104 : sm ρ [] ws_87 (ws_87.set kvd (vd, .inl (cvd, 16, .inl (upd f_94 (nI d_3).toNatClampNeg r_85)))) := sm.ints e_93 wvd
  have e_105 : (ws_87.set kvd (vd, .inl (cvd, 16, .inl (upd f_94 (nI d_3).toNatClampNeg r_85))))[kvd]? = some (vd, .inl (cvd, 16, .inl (upd f_94 (nI d_3).toNatClampNeg r_85))) := wset_self e_93
  generalize ws_87.set kvd (vd, .inl (cvd, 16, .inl (upd f_94 (nI d_3).toNatClampNeg r_85))) = ws_103 at hP hD hm_104 e_105
  have e_106 := hm_104.objK e_92 (by decide)
  have e_107 := hm_104.keep hkv e_96
  have e_108 := hm_104.keep hkg e_97
  have e_109 := hm_104.objK e_99 (by decide)
  obtain ⟨f_111, e_110⟩ := hm_104.arrI e_100
  have hsm := hsm.tr (hm_104.mono (fun _ h9 => absurd h9 List.not_mem_nil))
  have hlp_8 := hlp_8.tr (hm_104.mono (fun _ h9 => absurd h9 List.not_mem_nil))
  generalize upd f_94 (nI d_3).toNatClampNeg r_85 = f_112 at e_105
  refine lv_iinc (v := nI (d_3 + 1)) (lv' := [(3, .int (nI (d_3 + 1))), (5, .int z_24), (4, .int (nI i_2)), (2, .ref v), (1, .ref rl), (0, .ref h0)]) hx hb dX8_verdict_51 hl (k := 2) rfl (nI_add d_3 1) (by decide) rfl (fun ls hl => ?_)
  refine lv_goto (tgt := 163) hx hb dX8_verdict_54 (by decide) ?_
  refine lv_iinc (v := nI (i_2 + 1)) (lv' := [(4, .int (nI (i_2 + 1))), (3, .int (nI (d_3 + 1))), (5, .int z_24), (2, .ref v), (1, .ref rl), (0, .ref h0)]) hx hb dX8_verdict_163 hl (k := 2) rfl (nI_add i_2 1) (by decide) rfl (fun ls hl => ?_)
  refine lv_goto (tgt := 5) hx hb dX8_verdict_166 (by decide) ?_
  exact ih_1 (i_2 + 1, d_3 + 1) ws_103 _ _ ls (by show n - (i_2 + 1) < n - i_2; omega) ⟨hlp_8, (show (i_2 + 1) ≤ n from by omega), (show (d_3 + 1) ≤ 16 from by omega)⟩ hP hD hS (lv_sub hl [0, 1, 3, 4, 5] rfl)
set_option maxHeartbeats 4000000 in
set_option maxRecDepth 100000 in
theorem h_says (l : Launch) (D : va_G) (ρ : Nat → Nat) (ws : va_W) (tys : List (ClassId × FieldType)) (fv : Nat → Nat → Int32) (h0 lc bc rc fc : Nat) (dn : Int32) (tl : Nat) (a1 a2 a3 : Int32) (sz : Nat) (X : XI ρ fv ws tys h0 lc bc rc fc dn tl) : Met l yX8_says wsX8_says ({ frames := 6, cells := 0, slots := 0, locals := 146 }) (va_Pc [.ref h0, .int a1, .int a2, .int a3] (fun U => U.heap.size = sz ∧ va_P D vwCl ws U.heap ∧ va_K D vwCl tys U ∧ va_D (fun _ => True) ws ∧ NZ U)) (va_Qi (fun (r : Int32) (_ : Unit) => True) (fun (_ : Unit) (t : State) => ∃ (ws' : va_W) (tys' : List (ClassId × FieldType)), sm ρ [] ws ws' ∧ tyx tys tys' ∧ va_P D vwCl ws' t.heap ∧ va_K D vwCl tys' t ∧ va_D (va_A ws sz) ws' ∧ (XI ρ fv ws' tys' h0 lc bc rc fc dn tl)) (va_A ws sz)) 0 0 (va_A ws sz) := by
  refine Met.ofW (cc := cX8_says) (maxL := 6) (ret := (some .int)) (by decide) rfl ?_
  intro p e s m args below meth c s₁ B hml hv
  obtain ⟨rfl, hsz, hP, hK, hD0, hnz⟩ := hv
  have hx := B.exec
  have hb := B.bytes
  have hr := B.returns
  have hts := atoms_spec (ws := wsX8_says) B.pre
  have hown : s.vm.findClass RX8 = some m.cls := findClass_of_methodNamed B.named
  have hlocks := B.notSynchronized
  subst hsz
  have hD := hD0.self (sz := s.heap.size)
  generalize hAe : va_A ws s.heap.size = A at hD ⊢
  have hA : ∀ q : Nat, s.heap.size ≤ q → A q := fun q h => by rw [← hAe]; exact Or.inr h
  have hS : va_S A s.heap s.heap [] := va_S.rf
  have hsm : sm ρ [] ws ws := sm.rf ws
  have htx : tyx tys tys := tyx.rf tys
  have hin7 : ∀ w ∈ u_ws RX7 TX7 5, w ∈ wsX8_says := (fun _ h9 => List.mem_cons_of_mem _ (List.mem_append_left _ (List.mem_append_left _ (List.mem_append_left _ ((List.mem_append_right _ h9))))))
  have hl := lv_entry ([.ref h0, .int a1, .int a2, .int a3]) (n := 6) (Nat.le_of_ble_eq_true rfl)
  rw [lg_entry_eq]
  generalize (lg_sl ([.ref h0, .int a1, .int a2, .int a3]) ++ List.replicate (6 - (lg_sl ([.ref h0, .int a1, .int a2, .int a3])).length) Slot.unset).toArray = ls at hl ⊢
  have hl : lv_has ls 6 [(0, .ref h0), (1, .int a1), (2, .int a2), (3, .int a3)] := hl
  obtain ⟨k0, la, ta, ba, ra, sn, rd, dr, bl, vd, fb, e0, w0, hle0, hnum, qla, qta, qba, qra, qsn, qrd, qdr, qbl, qvd, qfb⟩ := id X
  obtain ⟨kra, cra, tra, fra, era, ura, pra⟩ := id qra
  have hlc := hnum.1
  obtain ⟨kta, cta, tta, fta, eta, uta, hta0, hta1⟩ := id qta
  obtain ⟨kba, cba, tba, fba, eba, uba, hba0, hba1⟩ := id qba
  refine lv_aload_n hx hb dX8_says_0 rfl (lv_at hl 0 rfl) ?_
  refine lv_iload_n hx hb dX8_says_1 rfl (lv_at hl 1 rfl) ?_
  refine va_csq (W.runV (As := [.int a1]) (rest := []) ⟨hx, hb, hml, hown, hts⟩ (s_X8_ruleAt l D ws tys h0 k0 _ ra kra cra fra tra a1 e0 rfl era ura) (cwV 1 hts gX8_says_X8_ruleAt rfl rfl rfl (by decide +kernel) ⟨Nat.le_of_ble_eq_true rfl, Nat.le_of_ble_eq_true rfl⟩) ⟨fun a U g mk q => ⟨q.1, q.2.1, va_K.moved (u := U) (U := U.calling g mk a) (Vm.Alike.refl U.vm) q.2.2⟩, va_recv hK hP (ci := 8) (q0 := k0) rfl e0, fun U hU hW => ⟨rfl, by rw [hU]; exact hP, va_K.moved hW.alike hK⟩⟩ rfl rfl hl.1 rfl (lv_room (Nat.le_of_ble_eq_true rfl)) dX8_says_2 ⟨Nat.le_of_ble_eq_true rfl, Nat.le_of_ble_eq_true rfl⟩) (fun r_1 k_2 => ?_)
  have hz_5 : r_1 = none ∨ ∃ v, r_1 = some v ∧ oR ρ ws tys v := by
    rcases k_2 with ⟨q, -⟩ | ⟨-, -, q⟩
    · exact Or.inl q
    · rcases r_1 with _ | v
      · exact Or.inl rfl
      · exact Or.inr ⟨v, rfl, pra _ _ q.symm⟩
  rcases hz_5 with rfl | ⟨v_3, rfl, hv_4⟩
  · refine tp_v (y := .null) rfl ?_
    refine lv_astoreN (lv' := [(4, .null), (0, .ref h0), (1, .int a1), (2, .int a2), (3, .int a3)]) hx hb dX8_says_5 hl (by decide) rfl (fun ls hl => ?_)
    refine lv_aload_n hx hb dX8_says_7 rfl (lv_at hl 1 rfl) ?_
    refine lv_iload_n hx hb dX8_says_8 rfl (lv_at hl 3 rfl) ?_
    refine lv_iload_n hx hb dX8_says_9 rfl (lv_at hl 4 rfl) ?_
    refine va_csq (W.runV (As := [.int a2, .int a3]) (rest := []) ⟨hx, hb, hml, hown, hts⟩ (s_vesselAt l D ws tys h0 k0 _ ta kta cta fta tta ba kba cba fba tba a2 a3 e0 rfl eta uta rfl eba uba) (cwV 2 hts gX8_says_X8_vesselAt rfl rfl rfl (by decide +kernel) ⟨Nat.le_of_ble_eq_true rfl, Nat.le_of_ble_eq_true rfl⟩) ⟨fun a U g mk q => ⟨q.1, q.2.1, va_K.moved (u := U) (U := U.calling g mk a) (Vm.Alike.refl U.vm) q.2.2⟩, va_recv hK hP (ci := 8) (q0 := k0) rfl e0, fun U hU hW => ⟨rfl, by rw [hU]; exact hP, va_K.moved hW.alike hK⟩⟩ rfl rfl hl.1 rfl (lv_room (Nat.le_of_ble_eq_true rfl)) dX8_says_10 ⟨Nat.le_of_ble_eq_true rfl, Nat.le_of_ble_eq_true rfl⟩) (fun r_24 k_25 => ?_)
    have hz_26 := vesx hnum.2.1 hta1 hba0 hba1 k_25
    rcases hz_26 with ⟨rfl, rn_27⟩ | ⟨rn_27, hr_28, v_29, rfl, hV_30⟩
    · refine tp_v (y := .null) rfl ?_
      refine lv_astoreN (lv' := [(5, .null), (4, .null), (0, .ref h0), (1, .int a1), (2, .int a2), (3, .int a3)]) hx hb dX8_says_13 hl (by decide) rfl (fun ls hl => ?_)
      refine lv_aloadN hx hb dX8_says_15 (lv_at hl 1 rfl) ?_
      refine lv_ifnullN (tgt := 33) hx hb dX8_says_17 (by decide) ?_
      refine lv_iconst (v := (-1)) hx hb dX8_says_33 (by decide) ?_
      exact W.iret (v := (-1)) hx hb hr (fun t ht hW => ⟨⟨(-1), (), rfl, trivial, ws, tys, hsm, htx, by rw [ht]; exact hP, va_K.moved hW.alike hK, hD, X.sm hsm htx (by decide) (by decide)⟩, hS.F ht⟩) hS.2.2 dX8_says_34
    obtain ⟨k_32, g_33, e_34, wk_35, k_36, c9_37, t_38, f_39, e_40, u_41, wr_42, g_43⟩ := hV_30
    refine tp_v (y := .ref v_29) rfl ?_
    refine lv_astore (lv' := [(5, .ref v_29), (4, .null), (0, .ref h0), (1, .int a1), (2, .int a2), (3, .int a3)]) hx hb dX8_says_13 hl (by decide) rfl (fun ls hl => ?_)
    refine lv_aloadN hx hb dX8_says_15 (lv_at hl 1 rfl) ?_
    refine lv_ifnullN (tgt := 33) hx hb dX8_says_17 (by decide) ?_
    refine lv_iconst (v := (-1)) hx hb dX8_says_33 (by decide) ?_
    exact W.iret (v := (-1)) hx hb hr (fun t ht hW => ⟨⟨(-1), (), rfl, trivial, ws, tys, hsm, htx, by rw [ht]; exact hP, va_K.moved hW.alike hK, hD, X.sm hsm htx (by decide) (by decide)⟩, hS.F ht⟩) hS.2.2 dX8_says_34
  obtain ⟨k_7, g_8, n_9, x_10, x_11, x_12, x_13, e_14, w_23, ⟨k_15, c9_16, t_17, f_18, e_19, u_20, w_21⟩, hn_22⟩ := hv_4.sm hsm htx
  refine tp_v (y := .ref v_3) rfl ?_
  refine lv_astore (lv' := [(4, .ref v_3), (0, .ref h0), (1, .int a1), (2, .int a2), (3, .int a3)]) hx hb dX8_says_5 hl (by decide) rfl (fun ls hl => ?_)
  refine lv_aload_n hx hb dX8_says_7 rfl (lv_at hl 1 rfl) ?_
  refine lv_iload_n hx hb dX8_says_8 rfl (lv_at hl 3 rfl) ?_
  refine lv_iload_n hx hb dX8_says_9 rfl (lv_at hl 4 rfl) ?_
  refine va_csq (W.runV (As := [.int a2, .int a3]) (rest := []) ⟨hx, hb, hml, hown, hts⟩ (s_vesselAt l D ws tys h0 k0 _ ta kta cta fta tta ba kba cba fba tba a2 a3 e0 rfl eta uta rfl eba uba) (cwV 2 hts gX8_says_X8_vesselAt rfl rfl rfl (by decide +kernel) ⟨Nat.le_of_ble_eq_true rfl, Nat.le_of_ble_eq_true rfl⟩) ⟨fun a U g mk q => ⟨q.1, q.2.1, va_K.moved (u := U) (U := U.calling g mk a) (Vm.Alike.refl U.vm) q.2.2⟩, va_recv hK hP (ci := 8) (q0 := k0) rfl e0, fun U hU hW => ⟨rfl, by rw [hU]; exact hP, va_K.moved hW.alike hK⟩⟩ rfl rfl hl.1 rfl (lv_room (Nat.le_of_ble_eq_true rfl)) dX8_says_10 ⟨Nat.le_of_ble_eq_true rfl, Nat.le_of_ble_eq_true rfl⟩) (fun r_44 k_45 => ?_)
  have hz_46 := vesx hnum.2.1 hta1 hba0 hba1 k_45
  rcases hz_46 with ⟨rfl, rn_47⟩ | ⟨rn_47, hr_48, v_49, rfl, hV_50⟩
  · refine tp_v (y := .null) rfl ?_
    refine lv_astoreN (lv' := [(5, .null), (4, .ref v_3), (0, .ref h0), (1, .int a1), (2, .int a2), (3, .int a3)]) hx hb dX8_says_13 hl (by decide) rfl (fun ls hl => ?_)
    refine lv_aload hx hb dX8_says_15 (lv_at hl 1 rfl) ?_
    refine lv_ifnull hx hb dX8_says_17 ?_
    refine lv_aloadN hx hb dX8_says_20 (lv_at hl 0 rfl) ?_
    refine lv_ifnullN (tgt := 33) hx hb dX8_says_22 (by decide) ?_
    refine lv_iconst (v := (-1)) hx hb dX8_says_33 (by decide) ?_
    exact W.iret (v := (-1)) hx hb hr (fun t ht hW => ⟨⟨(-1), (), rfl, trivial, ws, tys, hsm, htx, by rw [ht]; exact hP, va_K.moved hW.alike hK, hD, X.sm hsm htx (by decide) (by decide)⟩, hS.F ht⟩) hS.2.2 dX8_says_34
  obtain ⟨k_52, g_53, e_54, wk_55, k_56, c9_57, t_58, f_59, e_60, u_61, wr_62, g_63⟩ := hV_50
  refine tp_v (y := .ref v_49) rfl ?_
  refine lv_astore (lv' := [(5, .ref v_49), (4, .ref v_3), (0, .ref h0), (1, .int a1), (2, .int a2), (3, .int a3)]) hx hb dX8_says_13 hl (by decide) rfl (fun ls hl => ?_)
  refine lv_aload hx hb dX8_says_15 (lv_at hl 1 rfl) ?_
  refine lv_ifnull hx hb dX8_says_17 ?_
  refine lv_aload hx hb dX8_says_20 (lv_at hl 0 rfl) ?_
  refine lv_ifnull hx hb dX8_says_22 ?_
  refine lv_aload hx hb dX8_says_25 (lv_at hl 0 rfl) ?_
  refine va_get (D := D) (ci := 7) (v := .int (mall (fv 9) (rowI a2 a3) 40)) (C := RX7) (T := TX7) (N := 5) hx hb hts hin7 hown hK hP k_52 e_54 rfl 1 (by decide) (hts (.fieldLink RX8 144 "HoneyHouse$Vessel" "total" "I") (List.mem_of_getElem? (i := 1) rfl)) (fun _ h9 => h9) rfl dX8_says_27 ?_
  refine lv_if_ne (tgt := 35) hx hb dX8_says_30 (by decide) (fun c_64 => ?_) (fun c_64 => ?_)
  · refine lv_aload_n hx hb dX8_says_35 rfl (lv_at hl 2 rfl) ?_
    refine lv_aload hx hb dX8_says_36 (lv_at hl 1 rfl) ?_
    refine lv_aload hx hb dX8_says_38 (lv_at hl 0 rfl) ?_
    have hFc := free_all hD hS hA
    refine va_calli (va_runV (As := [.ref v_3, .ref v_49]) (rest := []) ⟨hx, hb, hml, hown, hts⟩ (a_verdict l D ρ ws tys fv h0 lc bc rc fc dn tl v_49 k_52 (mall (fv 9) (rowI a2 a3) 40) (fv 10 (rowI a2 a3)) (fv 11 (rowI a2 a3)) (fv 12 (rowI a2 a3)) g_53 k_56 c9_57 t_58 f_59 v_3 k_7 g_8 k_15 n_9 c9_16 t_17 f_18 x_10 x_11 x_12 x_13 s.heap.size (X.sm hsm htx (by decide) (by decide)) (by rw [wk_55]; omega) (by rw [wr_62]; omega) e_54 e_60 u_61 hn_22 e_14 e_19 u_20) (cwV 2 hts gX8_says_X8_verdict rfl rfl rfl (by decide +kernel) ⟨Nat.le_of_ble_eq_true rfl, Nat.le_of_ble_eq_true rfl⟩) ⟨fun a U g mk q => by obtain ⟨q0, q1, qP, qK, qD, qZ⟩ := q; exact ⟨q0, q1, qP, va_K.moved (u := U) (U := U.calling g mk a) (Vm.Alike.refl U.vm) qK, qD, NZ.same rfl qZ⟩, va_recv hK hP (ci := 8) (q0 := k0) rfl e0, fun U hU hW => ⟨rfl, by rw [hU], by rw [hU]; exact hP, va_K.moved hW.alike hK, hD.weaken (fun _ _ _ _ => trivial), NZ.warm hW hnz⟩⟩ rfl rfl hl.1 rfl (lv_room (Nat.le_of_ble_eq_true rfl)) dX8_says_40 ⟨Nat.le_of_ble_eq_true rfl, Nat.le_of_ble_eq_true rfl⟩) hS (fun q _ h => hFc q h) hFc (fun r_65 u t H1 locs ht hvm w_66 hB hz1 hk1 hS => ?_)
    obtain ⟨ws_67, ty_68, hm_69, ht_71, hP1, hK1, hD1, hx_70⟩ := hB
    rw [ht] at hP1
    have hK := va_K.moved hvm.symm hK1
    have hD := hD1.weaken (fun _ _ _ h => hFc _ h)
    generalize H1 = H at hP1 hS ⊢
    have hP := hP1
    have e_72 := hm_69.objK e0 (by decide)
    have e_73 := hm_69.arrQ eta
    have u_74 := ht_71 _ _ uta
    have e_75 := hm_69.arrQ eba
    have u_76 := ht_71 _ _ uba
    have e_77 := hm_69.arrQ era
    have u_78 := ht_71 _ _ ura
    have e_79 := hm_69.objK e_14 (by decide)
    obtain ⟨f_81, e_80⟩ := hm_69.arrI e_19
    have u_82 := ht_71 _ _ u_20
    have e_83 := hm_69.keep (by rw [wk_55]; omega) e_54
    have e_84 := hm_69.keep (by rw [wr_62]; omega) e_60
    have u_85 := ht_71 _ _ u_61
    have hsm := hsm.tr (hm_69.mono (by decide))
    have htx := htx.tr ht_71
    exact W.iret (v := r_65) hx hb hr (fun t ht hW => ⟨⟨r_65, (), rfl, trivial, ws_67, ty_68, hsm, htx, by rw [ht]; exact hP, va_K.moved hW.alike hK, hD, X.sm hsm htx (by decide) (by decide)⟩, hS.F ht⟩) hS.2.2 dX8_says_43
  refine lv_iconst (v := (-1)) hx hb dX8_says_33 (by decide) ?_
  exact W.iret (v := (-1)) hx hb hr (fun t ht hW => ⟨⟨(-1), (), rfl, trivial, ws, tys, hsm, htx, by rw [ht]; exact hP, va_K.moved hW.alike hK, hD, X.sm hsm htx (by decide) (by decide)⟩, hS.F ht⟩) hS.2.2 dX8_says_34
set_option maxHeartbeats 4000000 in
set_option maxRecDepth 100000 in
theorem a_isInForce (l : Launch) (D : va_G) (ρ : Nat → Nat) (ws : va_W) (tys : List (ClassId × FieldType)) (fv : Nat → Nat → Int32) (h0 lc bc rc fc : Nat) (dn : Int32) (tl : Nat) (rl krl cd kcd n : Nat) (ccd : ClassId) (tcd : Nat) (fcd : Nat → Int32) (y0 : Int64) (y1 y3 y4 : Int32) (a2 a3 : Int32) (sz : Nat) (X : XI ρ fv ws tys h0 lc bc rc fc dn tl) (hn : n ≤ 200) (erl : ws[krl]? = some (rl, .inr (3, [.long y0, .int y1, .ref cd, .int y3, .int y4]))) (ecd : ws[kcd]? = some (cd, .inl (ccd, n, .inl fcd))) (ucd : tys[tcd]? = some (ccd, .int)) : Met l yX8_isInForce wsX8_isInForce ({ frames := 0, cells := 0, slots := 0, locals := 0 }) (va_Pc [.ref h0, .ref rl, .int a2, .int a3] (fun U => U.heap.size = sz ∧ va_P D vwCl ws U.heap ∧ va_K D vwCl tys U ∧ va_D (fun _ => True) ws ∧ NZ U)) (va_Qi (fun (r : Int32) (_ : Unit) => r = 0 ∨ r = 1) (fun (_ : Unit) (t : State) => ∃ (ws' : va_W) (tys' : List (ClassId × FieldType)), sm ρ [] ws ws' ∧ tyx tys tys' ∧ va_P D vwCl ws' t.heap ∧ va_K D vwCl tys' t ∧ va_D (va_A ws sz) ws' ∧ (True)) (va_A ws sz)) 0 0 (va_A ws sz) := by
  refine Met.ofW (cc := cX8_isInForce) (maxL := 6) (ret := (some .boolean)) (by decide) rfl ?_
  intro p e s m args below meth c s₁ B hml hv
  obtain ⟨rfl, hsz, hP, hK, hD0, hnz⟩ := hv
  have hx := B.exec
  have hb := B.bytes
  have hr := B.returns
  have hts := atoms_spec (ws := wsX8_isInForce) B.pre
  have hown : s.vm.findClass RX8 = some m.cls := findClass_of_methodNamed B.named
  have hlocks := B.notSynchronized
  subst hsz
  have hD := hD0.self (sz := s.heap.size)
  generalize hAe : va_A ws s.heap.size = A at hD ⊢
  have hA : ∀ q : Nat, s.heap.size ≤ q → A q := fun q h => by rw [← hAe]; exact Or.inr h
  have hS : va_S A s.heap s.heap [] := va_S.rf
  have hsm : sm ρ [] ws ws := sm.rf ws
  have htx : tyx tys tys := tyx.rf tys
  have hin3 : ∀ w ∈ u_ws RX3 TX3 5, w ∈ wsX8_isInForce := (fun _ h9 => List.mem_cons_of_mem _ (List.mem_append_left _ ((List.mem_append_right _ h9))))
  have hin8 : ∀ w ∈ u_ws RX8 TX8 15, w ∈ wsX8_isInForce := (fun _ h9 => List.mem_cons_of_mem _ ((List.mem_append_right _ h9)))
  have hl := lv_entry ([.ref h0, .ref rl, .int a2, .int a3]) (n := 6) (Nat.le_of_ble_eq_true rfl)
  rw [lg_entry_eq]
  generalize (lg_sl ([.ref h0, .ref rl, .int a2, .int a3]) ++ List.replicate (6 - (lg_sl ([.ref h0, .ref rl, .int a2, .int a3])).length) Slot.unset).toArray = ls at hl ⊢
  have hl : lv_has ls 6 [(0, .ref h0), (1, .ref rl), (2, .int a2), (3, .int a3)] := hl
  obtain ⟨k0, la, ta, ba, ra, sn, rd, dr, bl, vd, fb, e0, w0, hle0, hnum, qla, qta, qba, qra, qsn, qrd, qdr, qbl, qvd, qfb⟩ := id X
  obtain ⟨kra, cra, tra, fra, era, ura, pra⟩ := id qra
  refine lv_aload_n hx hb dX8_isInForce_0 rfl (lv_at hl 1 rfl) ?_
  refine va_get (D := D) (ci := 3) (v := .int y1) (C := RX3) (T := TX3) (N := 5) hx hb hts hin3 hown hK hP krl erl rfl 1 (by decide) (hts (.fieldLink RX8 227 "HoneyHouse$Rule" "from" "I") (List.mem_of_getElem? (i := 1) rfl)) (fun _ h9 => h9) rfl dX8_isInForce_1 ?_
  refine lv_iload_n hx hb dX8_isInForce_4 rfl (lv_at hl 3 rfl) ?_
  refine lv_icmp_gt (tgt := 23) hx hb dX8_isInForce_5 (by decide) (fun c_1 => ?_) (fun c_1 => ?_)
  · refine lv_iconst (v := 0) hx hb dX8_isInForce_23 (by decide) ?_
    exact W.zret (v := 0) hx hb hr rfl (fun t ht hW => ⟨⟨0, (), rfl, Or.inl rfl, ws, tys, hsm, htx, by rw [ht]; exact hP, va_K.moved hW.alike hK, hD, trivial⟩, hS.F ht⟩) hS.2.2 dX8_isInForce_24
  refine lv_aload_n hx hb dX8_isInForce_8 rfl (lv_at hl 1 rfl) ?_
  refine va_get (D := D) (ci := 3) (v := .int y3) (C := RX3) (T := TX3) (N := 5) hx hb hts hin3 hown hK hP krl erl rfl 3 (by decide) (hts (.fieldLink RX8 223 "HoneyHouse$Rule" "isShut" "Z") (List.mem_of_getElem? (i := 2) rfl)) (fun _ h9 => h9) rfl dX8_isInForce_9 ?_
  refine lv_if_eq (tgt := 25) hx hb dX8_isInForce_12 (by decide) (fun c_2 => ?_) (fun c_2 => ?_)
  · refine lv_iconst (v := 0) hx hb dX8_isInForce_25 (by decide) ?_
    refine lv_istore (lv' := [(4, .int 0), (0, .ref h0), (1, .ref rl), (2, .int a2), (3, .int a3)]) hx hb dX8_isInForce_26 hl (by decide) rfl (fun ls hl => ?_)
    refine lp_V (nL := 6) (σ := Nat) (lv := fun x9 => [(4, .int (nI x9)), (3, .int a3), (2, .int a2), (1, .ref rl), (0, .ref h0)]) (μ := fun x9 => 16 - x9) (J := fun x9 ws9 => sm ρ [] ws ws9 ∧ (x9 ≤ 16)) (fun x9 ws_6 H locs ls hj hP hD hS hl ih_3 => ?_) 0 ws _ _ ls ⟨sm.rf _, (show 0 ≤ 16 from by omega)⟩ hP hD hS (lv_sub hl [0, 4, 3, 2, 1] rfl)
    obtain ⟨i_4, hx9⟩ : ∃ y9, y9 = x9 := ⟨_, rfl⟩
    subst hx9
    replace hj : sm ρ [] ws ws_6 ∧ (i_4 ≤ 16) := hj
    obtain ⟨hm_7, hi_5⟩ := hj
    have e_9 := hm_7.objK e0 (by decide)
    have e_10 := hm_7.arrQ era
    have e_11 := hm_7.objK erl (by decide)
    obtain ⟨f_13, e_12⟩ := hm_7.arrI ecd
    have hsm := hsm.tr (hm_7.mono (by decide))
    have hlp_8 := hm_7
    have hl : lv_has ls 6 [(4, .int (nI i_4)), (3, .int a3), (2, .int a2), (1, .ref rl), (0, .ref h0)] := hl
    refine lv_iload hx hb dX8_isInForce_28 (lv_at hl 0 rfl) ?_
    refine lv_aload_n hx hb dX8_isInForce_30 rfl (lv_at hl 4 rfl) ?_
    refine va_get (D := D) (ci := 8) (v := .ref ra) (C := RX8) (T := TX8) (N := 15) hx hb hts hin8 hown hK hP k0 e_9 rfl 3 (by decide) (hts (.fieldLink RX8 26 "HoneyHouse" "rules" "[LHoneyHouse$Rule;") (List.mem_of_getElem? (i := 4) rfl)) (fun _ h9 => h9) rfl dX8_isInForce_31 ?_
    refine va_alen (v := 16) hx hb hK hP kra tra e_10 ura rfl dX8_isInForce_34 ?_
    refine lv_icmp_ge (tgt := 112) hx hb dX8_isInForce_35 (by decide) (fun c_14 => ?_) (fun c_14 => ?_)
    · have d_15 := n_le (a := 16) (b := i_4) (by omega) (by omega) c_14
      refine lv_iconst (v := 1) hx hb dX8_isInForce_112 (by decide) ?_
      exact W.zret (v := 1) hx hb hr rfl (fun t ht hW => ⟨⟨1, (), rfl, Or.inr rfl, ws_6, tys, hsm, htx, by rw [ht]; exact hP, va_K.moved hW.alike hK, hD, trivial⟩, hS.F ht⟩) hS.2.2 dX8_isInForce_113
    have d_16 := n_nle (a := 16) (b := i_4) (by omega) (by omega) c_14
    refine lv_aload_n hx hb dX8_isInForce_38 rfl (lv_at hl 4 rfl) ?_
    refine va_get (D := D) (ci := 8) (v := .ref ra) (C := RX8) (T := TX8) (N := 15) hx hb hts hin8 hown hK hP k0 e_9 rfl 3 (by decide) (hts (.fieldLink RX8 26 "HoneyHouse" "rules" "[LHoneyHouse$Rule;") (List.mem_of_getElem? (i := 4) rfl)) (fun _ h9 => h9) rfl dX8_isInForce_39 ?_
    refine lv_iload hx hb dX8_isInForce_42 (lv_at hl 0 rfl) ?_
    refine va_aldq (f := fra) (n := 16) hx hb hK hP kra tra e_10 ura (vp_in_nI (n := i_4) (by omega) (by omega)) dX8_isInForce_44 ?_
    obtain ⟨r_17, er_18⟩ : ∃ r, r = fra (nI i_4).toNatClampNeg := ⟨_, rfl⟩
    refine tp_v (y := va_rf r_17) (by rw [er_18]) ?_
    have hz_21 : r_17 = none ∨ ∃ v, r_17 = some v ∧ oR ρ ws tys v := by
      rcases r_17 with _ | v
      · exact Or.inl rfl
      · exact Or.inr ⟨v, rfl, pra _ _ er_18.symm⟩
    rcases hz_21 with rfl | ⟨v_19, rfl, hv_20⟩
    · refine tp_v (y := .null) rfl ?_
      refine lv_astoreN (lv' := [(5, .null), (4, .int (nI i_4)), (3, .int a3), (2, .int a2), (1, .ref rl), (0, .ref h0)]) hx hb dX8_isInForce_45 hl (by decide) rfl (fun ls hl => ?_)
      refine lv_aloadN hx hb dX8_isInForce_47 (lv_at hl 0 rfl) ?_
      refine lv_ifnullN (tgt := 106) hx hb dX8_isInForce_49 (by decide) ?_
      refine lv_iinc (v := nI (i_4 + 1)) (lv' := [(4, .int (nI (i_4 + 1))), (5, .null), (3, .int a3), (2, .int a2), (1, .ref rl), (0, .ref h0)]) hx hb dX8_isInForce_106 hl (k := 1) rfl (nI_add i_4 1) (by decide) rfl (fun ls hl => ?_)
      refine lv_goto (tgt := 28) hx hb dX8_isInForce_109 (by decide) ?_
      exact ih_3 (i_4 + 1) ws_6 _ _ ls (by show 16 - (i_4 + 1) < 16 - i_4; omega) ⟨hlp_8, (show (i_4 + 1) ≤ 16 from by omega)⟩ hP hD hS (lv_sub hl [0, 2, 3, 4, 5] rfl)
    obtain ⟨k_22, g_23, n_24, x_25, x_26, x_27, x_28, e_29, w_38, ⟨k_30, c9_31, t_32, f_33, e_34, u_35, w_36⟩, hn_37⟩ := hv_20.sm hsm htx
    refine tp_v (y := .ref v_19) rfl ?_
    refine lv_astore (lv' := [(5, .ref v_19), (4, .int (nI i_4)), (3, .int a3), (2, .int a2), (1, .ref rl), (0, .ref h0)]) hx hb dX8_isInForce_45 hl (by decide) rfl (fun ls hl => ?_)
    refine lv_aload hx hb dX8_isInForce_47 (lv_at hl 0 rfl) ?_
    refine lv_ifnull hx hb dX8_isInForce_49 ?_
    refine lv_aload hx hb dX8_isInForce_52 (lv_at hl 0 rfl) ?_
    refine va_get (D := D) (ci := 3) (v := .long x_25) (C := RX3) (T := TX3) (N := 5) hx hb hts hin3 hown hK hP k_22 e_29 rfl 0 (by decide) (hts (.fieldLink RX8 309 "HoneyHouse$Rule" "nameKey" "J") (List.mem_of_getElem? (i := 5) rfl)) (fun _ h9 => h9) rfl dX8_isInForce_54 ?_
    refine lv_aload_n hx hb dX8_isInForce_57 rfl (lv_at hl 4 rfl) ?_
    refine va_get (D := D) (ci := 3) (v := .long y0) (C := RX3) (T := TX3) (N := 5) hx hb hts hin3 hown hK hP krl e_11 rfl 0 (by decide) (hts (.fieldLink RX8 309 "HoneyHouse$Rule" "nameKey" "J") (List.mem_of_getElem? (i := 5) rfl)) (fun _ h9 => h9) rfl dX8_isInForce_58 ?_
    refine W.lcmp hx hb dX8_isInForce_61 ?_
    refine lv_topi (fun z_39 _ => ?_)
    refine lv_if_ne (tgt := 106) hx hb dX8_isInForce_62 (by decide) (fun c_40 => ?_) (fun c_40 => ?_)
    · refine lv_iinc (v := nI (i_4 + 1)) (lv' := [(4, .int (nI (i_4 + 1))), (5, .ref v_19), (3, .int a3), (2, .int a2), (1, .ref rl), (0, .ref h0)]) hx hb dX8_isInForce_106 hl (k := 1) rfl (nI_add i_4 1) (by decide) rfl (fun ls hl => ?_)
      refine lv_goto (tgt := 28) hx hb dX8_isInForce_109 (by decide) ?_
      exact ih_3 (i_4 + 1) ws_6 _ _ ls (by show 16 - (i_4 + 1) < 16 - i_4; omega) ⟨hlp_8, (show (i_4 + 1) ≤ 16 from by omega)⟩ hP hD hS (lv_sub hl [0, 2, 3, 4, 5] rfl)
    refine lv_aload hx hb dX8_isInForce_65 (lv_at hl 0 rfl) ?_
    refine va_get (D := D) (ci := 3) (v := .int x_26) (C := RX3) (T := TX3) (N := 5) hx hb hts hin3 hown hK hP k_22 e_29 rfl 1 (by decide) (hts (.fieldLink RX8 227 "HoneyHouse$Rule" "from" "I") (List.mem_of_getElem? (i := 1) rfl)) (fun _ h9 => h9) rfl dX8_isInForce_67 ?_
    refine lv_iload_n hx hb dX8_isInForce_70 rfl (lv_at hl 2 rfl) ?_
    refine lv_icmp_gt (tgt := 106) hx hb dX8_isInForce_71 (by decide) (fun c_41 => ?_) (fun c_41 => ?_)
    · refine lv_iinc (v := nI (i_4 + 1)) (lv' := [(4, .int (nI (i_4 + 1))), (5, .ref v_19), (3, .int a3), (2, .int a2), (1, .ref rl), (0, .ref h0)]) hx hb dX8_isInForce_106 hl (k := 1) rfl (nI_add i_4 1) (by decide) rfl (fun ls hl => ?_)
      refine lv_goto (tgt := 28) hx hb dX8_isInForce_109 (by decide) ?_
      exact ih_3 (i_4 + 1) ws_6 _ _ ls (by show 16 - (i_4 + 1) < 16 - i_4; omega) ⟨hlp_8, (show (i_4 + 1) ≤ 16 from by omega)⟩ hP hD hS (lv_sub hl [0, 2, 3, 4, 5] rfl)
    refine lv_aload hx hb dX8_isInForce_74 (lv_at hl 0 rfl) ?_
    refine va_get (D := D) (ci := 3) (v := .int x_26) (C := RX3) (T := TX3) (N := 5) hx hb hts hin3 hown hK hP k_22 e_29 rfl 1 (by decide) (hts (.fieldLink RX8 227 "HoneyHouse$Rule" "from" "I") (List.mem_of_getElem? (i := 1) rfl)) (fun _ h9 => h9) rfl dX8_isInForce_76 ?_
    refine lv_aload_n hx hb dX8_isInForce_79 rfl (lv_at hl 4 rfl) ?_
    refine va_get (D := D) (ci := 3) (v := .int y1) (C := RX3) (T := TX3) (N := 5) hx hb hts hin3 hown hK hP krl e_11 rfl 1 (by decide) (hts (.fieldLink RX8 227 "HoneyHouse$Rule" "from" "I") (List.mem_of_getElem? (i := 1) rfl)) (fun _ h9 => h9) rfl dX8_isInForce_80 ?_
    refine lv_icmp_gt (tgt := 104) hx hb dX8_isInForce_83 (by decide) (fun c_42 => ?_) (fun c_42 => ?_)
    · refine lv_iconst (v := 0) hx hb dX8_isInForce_104 (by decide) ?_
      exact W.zret (v := 0) hx hb hr rfl (fun t ht hW => ⟨⟨0, (), rfl, Or.inl rfl, ws_6, tys, hsm, htx, by rw [ht]; exact hP, va_K.moved hW.alike hK, hD, trivial⟩, hS.F ht⟩) hS.2.2 dX8_isInForce_105
    refine lv_aload hx hb dX8_isInForce_86 (lv_at hl 0 rfl) ?_
    refine va_get (D := D) (ci := 3) (v := .int x_26) (C := RX3) (T := TX3) (N := 5) hx hb hts hin3 hown hK hP k_22 e_29 rfl 1 (by decide) (hts (.fieldLink RX8 227 "HoneyHouse$Rule" "from" "I") (List.mem_of_getElem? (i := 1) rfl)) (fun _ h9 => h9) rfl dX8_isInForce_88 ?_
    refine lv_aload_n hx hb dX8_isInForce_91 rfl (lv_at hl 4 rfl) ?_
    refine va_get (D := D) (ci := 3) (v := .int y1) (C := RX3) (T := TX3) (N := 5) hx hb hts hin3 hown hK hP krl e_11 rfl 1 (by decide) (hts (.fieldLink RX8 227 "HoneyHouse$Rule" "from" "I") (List.mem_of_getElem? (i := 1) rfl)) (fun _ h9 => h9) rfl dX8_isInForce_92 ?_
    refine lv_icmp_ne (tgt := 106) hx hb dX8_isInForce_95 (by decide) (fun c_43 => ?_) (fun c_43 => ?_)
    · refine lv_iinc (v := nI (i_4 + 1)) (lv' := [(4, .int (nI (i_4 + 1))), (5, .ref v_19), (3, .int a3), (2, .int a2), (1, .ref rl), (0, .ref h0)]) hx hb dX8_isInForce_106 hl (k := 1) rfl (nI_add i_4 1) (by decide) rfl (fun ls hl => ?_)
      refine lv_goto (tgt := 28) hx hb dX8_isInForce_109 (by decide) ?_
      exact ih_3 (i_4 + 1) ws_6 _ _ ls (by show 16 - (i_4 + 1) < 16 - i_4; omega) ⟨hlp_8, (show (i_4 + 1) ≤ 16 from by omega)⟩ hP hD hS (lv_sub hl [0, 2, 3, 4, 5] rfl)
    refine lv_iload hx hb dX8_isInForce_98 (lv_at hl 1 rfl) ?_
    refine lv_iload_n hx hb dX8_isInForce_100 rfl (lv_at hl 3 rfl) ?_
    refine lv_icmp_le (tgt := 106) hx hb dX8_isInForce_101 (by decide) (fun c_44 => ?_) (fun c_44 => ?_)
    · refine lv_iinc (v := nI (i_4 + 1)) (lv' := [(4, .int (nI (i_4 + 1))), (5, .ref v_19), (3, .int a3), (2, .int a2), (1, .ref rl), (0, .ref h0)]) hx hb dX8_isInForce_106 hl (k := 1) rfl (nI_add i_4 1) (by decide) rfl (fun ls hl => ?_)
      refine lv_goto (tgt := 28) hx hb dX8_isInForce_109 (by decide) ?_
      exact ih_3 (i_4 + 1) ws_6 _ _ ls (by show 16 - (i_4 + 1) < 16 - i_4; omega) ⟨hlp_8, (show (i_4 + 1) ≤ 16 from by omega)⟩ hP hD hS (lv_sub hl [0, 2, 3, 4, 5] rfl)
    refine lv_iconst (v := 0) hx hb dX8_isInForce_104 (by decide) ?_
    exact W.zret (v := 0) hx hb hr rfl (fun t ht hW => ⟨⟨0, (), rfl, Or.inl rfl, ws_6, tys, hsm, htx, by rw [ht]; exact hP, va_K.moved hW.alike hK, hD, trivial⟩, hS.F ht⟩) hS.2.2 dX8_isInForce_105
  refine lv_aload_n hx hb dX8_isInForce_15 rfl (lv_at hl 1 rfl) ?_
  refine va_get (D := D) (ci := 3) (v := .int y4) (C := RX3) (T := TX3) (N := 5) hx hb hts hin3 hown hK hP krl erl rfl 4 (by decide) (hts (.fieldLink RX8 228 "HoneyHouse$Rule" "shutDay" "I") (List.mem_of_getElem? (i := 3) rfl)) (fun _ h9 => h9) rfl dX8_isInForce_16 ?_
  refine lv_iload_n hx hb dX8_isInForce_19 rfl (lv_at hl 3 rfl) ?_
  refine lv_icmp_gt (tgt := 25) hx hb dX8_isInForce_20 (by decide) (fun c_45 => ?_) (fun c_45 => ?_)
  · refine lv_iconst (v := 0) hx hb dX8_isInForce_25 (by decide) ?_
    refine lv_istore (lv' := [(4, .int 0), (0, .ref h0), (1, .ref rl), (2, .int a2), (3, .int a3)]) hx hb dX8_isInForce_26 hl (by decide) rfl (fun ls hl => ?_)
    refine lp_V (nL := 6) (σ := Nat) (lv := fun x9 => [(4, .int (nI x9)), (3, .int a3), (2, .int a2), (1, .ref rl), (0, .ref h0)]) (μ := fun x9 => 16 - x9) (J := fun x9 ws9 => sm ρ [] ws ws9 ∧ (x9 ≤ 16)) (fun x9 ws_49 H locs ls hj hP hD hS hl ih_46 => ?_) 0 ws _ _ ls ⟨sm.rf _, (show 0 ≤ 16 from by omega)⟩ hP hD hS (lv_sub hl [0, 4, 3, 2, 1] rfl)
    obtain ⟨i_47, hx9⟩ : ∃ y9, y9 = x9 := ⟨_, rfl⟩
    subst hx9
    replace hj : sm ρ [] ws ws_49 ∧ (i_47 ≤ 16) := hj
    obtain ⟨hm_50, hi_48⟩ := hj
    have e_52 := hm_50.objK e0 (by decide)
    have e_53 := hm_50.arrQ era
    have e_54 := hm_50.objK erl (by decide)
    obtain ⟨f_56, e_55⟩ := hm_50.arrI ecd
    have hsm := hsm.tr (hm_50.mono (by decide))
    have hlp_51 := hm_50
    have hl : lv_has ls 6 [(4, .int (nI i_47)), (3, .int a3), (2, .int a2), (1, .ref rl), (0, .ref h0)] := hl
    refine lv_iload hx hb dX8_isInForce_28 (lv_at hl 0 rfl) ?_
    refine lv_aload_n hx hb dX8_isInForce_30 rfl (lv_at hl 4 rfl) ?_
    refine va_get (D := D) (ci := 8) (v := .ref ra) (C := RX8) (T := TX8) (N := 15) hx hb hts hin8 hown hK hP k0 e_52 rfl 3 (by decide) (hts (.fieldLink RX8 26 "HoneyHouse" "rules" "[LHoneyHouse$Rule;") (List.mem_of_getElem? (i := 4) rfl)) (fun _ h9 => h9) rfl dX8_isInForce_31 ?_
    refine va_alen (v := 16) hx hb hK hP kra tra e_53 ura rfl dX8_isInForce_34 ?_
    refine lv_icmp_ge (tgt := 112) hx hb dX8_isInForce_35 (by decide) (fun c_57 => ?_) (fun c_57 => ?_)
    · have d_58 := n_le (a := 16) (b := i_47) (by omega) (by omega) c_57
      refine lv_iconst (v := 1) hx hb dX8_isInForce_112 (by decide) ?_
      exact W.zret (v := 1) hx hb hr rfl (fun t ht hW => ⟨⟨1, (), rfl, Or.inr rfl, ws_49, tys, hsm, htx, by rw [ht]; exact hP, va_K.moved hW.alike hK, hD, trivial⟩, hS.F ht⟩) hS.2.2 dX8_isInForce_113
    have d_59 := n_nle (a := 16) (b := i_47) (by omega) (by omega) c_57
    refine lv_aload_n hx hb dX8_isInForce_38 rfl (lv_at hl 4 rfl) ?_
    refine va_get (D := D) (ci := 8) (v := .ref ra) (C := RX8) (T := TX8) (N := 15) hx hb hts hin8 hown hK hP k0 e_52 rfl 3 (by decide) (hts (.fieldLink RX8 26 "HoneyHouse" "rules" "[LHoneyHouse$Rule;") (List.mem_of_getElem? (i := 4) rfl)) (fun _ h9 => h9) rfl dX8_isInForce_39 ?_
    refine lv_iload hx hb dX8_isInForce_42 (lv_at hl 0 rfl) ?_
    refine va_aldq (f := fra) (n := 16) hx hb hK hP kra tra e_53 ura (vp_in_nI (n := i_47) (by omega) (by omega)) dX8_isInForce_44 ?_
    obtain ⟨r_60, er_61⟩ : ∃ r, r = fra (nI i_47).toNatClampNeg := ⟨_, rfl⟩
    refine tp_v (y := va_rf r_60) (by rw [er_61]) ?_
    have hz_64 : r_60 = none ∨ ∃ v, r_60 = some v ∧ oR ρ ws tys v := by
      rcases r_60 with _ | v
      · exact Or.inl rfl
      · exact Or.inr ⟨v, rfl, pra _ _ er_61.symm⟩
    rcases hz_64 with rfl | ⟨v_62, rfl, hv_63⟩
    · refine tp_v (y := .null) rfl ?_
      refine lv_astoreN (lv' := [(5, .null), (4, .int (nI i_47)), (3, .int a3), (2, .int a2), (1, .ref rl), (0, .ref h0)]) hx hb dX8_isInForce_45 hl (by decide) rfl (fun ls hl => ?_)
      refine lv_aloadN hx hb dX8_isInForce_47 (lv_at hl 0 rfl) ?_
      refine lv_ifnullN (tgt := 106) hx hb dX8_isInForce_49 (by decide) ?_
      refine lv_iinc (v := nI (i_47 + 1)) (lv' := [(4, .int (nI (i_47 + 1))), (5, .null), (3, .int a3), (2, .int a2), (1, .ref rl), (0, .ref h0)]) hx hb dX8_isInForce_106 hl (k := 1) rfl (nI_add i_47 1) (by decide) rfl (fun ls hl => ?_)
      refine lv_goto (tgt := 28) hx hb dX8_isInForce_109 (by decide) ?_
      exact ih_46 (i_47 + 1) ws_49 _ _ ls (by show 16 - (i_47 + 1) < 16 - i_47; omega) ⟨hlp_51, (show (i_47 + 1) ≤ 16 from by omega)⟩ hP hD hS (lv_sub hl [0, 2, 3, 4, 5] rfl)
    obtain ⟨k_65, g_66, n_67, x_68, x_69, x_70, x_71, e_72, w_81, ⟨k_73, c9_74, t_75, f_76, e_77, u_78, w_79⟩, hn_80⟩ := hv_63.sm hsm htx
    refine tp_v (y := .ref v_62) rfl ?_
    refine lv_astore (lv' := [(5, .ref v_62), (4, .int (nI i_47)), (3, .int a3), (2, .int a2), (1, .ref rl), (0, .ref h0)]) hx hb dX8_isInForce_45 hl (by decide) rfl (fun ls hl => ?_)
    refine lv_aload hx hb dX8_isInForce_47 (lv_at hl 0 rfl) ?_
    refine lv_ifnull hx hb dX8_isInForce_49 ?_
    refine lv_aload hx hb dX8_isInForce_52 (lv_at hl 0 rfl) ?_
    refine va_get (D := D) (ci := 3) (v := .long x_68) (C := RX3) (T := TX3) (N := 5) hx hb hts hin3 hown hK hP k_65 e_72 rfl 0 (by decide) (hts (.fieldLink RX8 309 "HoneyHouse$Rule" "nameKey" "J") (List.mem_of_getElem? (i := 5) rfl)) (fun _ h9 => h9) rfl dX8_isInForce_54 ?_
    refine lv_aload_n hx hb dX8_isInForce_57 rfl (lv_at hl 4 rfl) ?_
    refine va_get (D := D) (ci := 3) (v := .long y0) (C := RX3) (T := TX3) (N := 5) hx hb hts hin3 hown hK hP krl e_54 rfl 0 (by decide) (hts (.fieldLink RX8 309 "HoneyHouse$Rule" "nameKey" "J") (List.mem_of_getElem? (i := 5) rfl)) (fun _ h9 => h9) rfl dX8_isInForce_58 ?_
    refine W.lcmp hx hb dX8_isInForce_61 ?_
    refine lv_topi (fun z_82 _ => ?_)
    refine lv_if_ne (tgt := 106) hx hb dX8_isInForce_62 (by decide) (fun c_83 => ?_) (fun c_83 => ?_)
    · refine lv_iinc (v := nI (i_47 + 1)) (lv' := [(4, .int (nI (i_47 + 1))), (5, .ref v_62), (3, .int a3), (2, .int a2), (1, .ref rl), (0, .ref h0)]) hx hb dX8_isInForce_106 hl (k := 1) rfl (nI_add i_47 1) (by decide) rfl (fun ls hl => ?_)
      refine lv_goto (tgt := 28) hx hb dX8_isInForce_109 (by decide) ?_
      exact ih_46 (i_47 + 1) ws_49 _ _ ls (by show 16 - (i_47 + 1) < 16 - i_47; omega) ⟨hlp_51, (show (i_47 + 1) ≤ 16 from by omega)⟩ hP hD hS (lv_sub hl [0, 2, 3, 4, 5] rfl)
    refine lv_aload hx hb dX8_isInForce_65 (lv_at hl 0 rfl) ?_
    refine va_get (D := D) (ci := 3) (v := .int x_69) (C := RX3) (T := TX3) (N := 5) hx hb hts hin3 hown hK hP k_65 e_72 rfl 1 (by decide) (hts (.fieldLink RX8 227 "HoneyHouse$Rule" "from" "I") (List.mem_of_getElem? (i := 1) rfl)) (fun _ h9 => h9) rfl dX8_isInForce_67 ?_
    refine lv_iload_n hx hb dX8_isInForce_70 rfl (lv_at hl 2 rfl) ?_
    refine lv_icmp_gt (tgt := 106) hx hb dX8_isInForce_71 (by decide) (fun c_84 => ?_) (fun c_84 => ?_)
    · refine lv_iinc (v := nI (i_47 + 1)) (lv' := [(4, .int (nI (i_47 + 1))), (5, .ref v_62), (3, .int a3), (2, .int a2), (1, .ref rl), (0, .ref h0)]) hx hb dX8_isInForce_106 hl (k := 1) rfl (nI_add i_47 1) (by decide) rfl (fun ls hl => ?_)
      refine lv_goto (tgt := 28) hx hb dX8_isInForce_109 (by decide) ?_
      exact ih_46 (i_47 + 1) ws_49 _ _ ls (by show 16 - (i_47 + 1) < 16 - i_47; omega) ⟨hlp_51, (show (i_47 + 1) ≤ 16 from by omega)⟩ hP hD hS (lv_sub hl [0, 2, 3, 4, 5] rfl)
    refine lv_aload hx hb dX8_isInForce_74 (lv_at hl 0 rfl) ?_
    refine va_get (D := D) (ci := 3) (v := .int x_69) (C := RX3) (T := TX3) (N := 5) hx hb hts hin3 hown hK hP k_65 e_72 rfl 1 (by decide) (hts (.fieldLink RX8 227 "HoneyHouse$Rule" "from" "I") (List.mem_of_getElem? (i := 1) rfl)) (fun _ h9 => h9) rfl dX8_isInForce_76 ?_
    refine lv_aload_n hx hb dX8_isInForce_79 rfl (lv_at hl 4 rfl) ?_
    refine va_get (D := D) (ci := 3) (v := .int y1) (C := RX3) (T := TX3) (N := 5) hx hb hts hin3 hown hK hP krl e_54 rfl 1 (by decide) (hts (.fieldLink RX8 227 "HoneyHouse$Rule" "from" "I") (List.mem_of_getElem? (i := 1) rfl)) (fun _ h9 => h9) rfl dX8_isInForce_80 ?_
    refine lv_icmp_gt (tgt := 104) hx hb dX8_isInForce_83 (by decide) (fun c_85 => ?_) (fun c_85 => ?_)
    · refine lv_iconst (v := 0) hx hb dX8_isInForce_104 (by decide) ?_
      exact W.zret (v := 0) hx hb hr rfl (fun t ht hW => ⟨⟨0, (), rfl, Or.inl rfl, ws_49, tys, hsm, htx, by rw [ht]; exact hP, va_K.moved hW.alike hK, hD, trivial⟩, hS.F ht⟩) hS.2.2 dX8_isInForce_105
    refine lv_aload hx hb dX8_isInForce_86 (lv_at hl 0 rfl) ?_
    refine va_get (D := D) (ci := 3) (v := .int x_69) (C := RX3) (T := TX3) (N := 5) hx hb hts hin3 hown hK hP k_65 e_72 rfl 1 (by decide) (hts (.fieldLink RX8 227 "HoneyHouse$Rule" "from" "I") (List.mem_of_getElem? (i := 1) rfl)) (fun _ h9 => h9) rfl dX8_isInForce_88 ?_
    refine lv_aload_n hx hb dX8_isInForce_91 rfl (lv_at hl 4 rfl) ?_
    refine va_get (D := D) (ci := 3) (v := .int y1) (C := RX3) (T := TX3) (N := 5) hx hb hts hin3 hown hK hP krl e_54 rfl 1 (by decide) (hts (.fieldLink RX8 227 "HoneyHouse$Rule" "from" "I") (List.mem_of_getElem? (i := 1) rfl)) (fun _ h9 => h9) rfl dX8_isInForce_92 ?_
    refine lv_icmp_ne (tgt := 106) hx hb dX8_isInForce_95 (by decide) (fun c_86 => ?_) (fun c_86 => ?_)
    · refine lv_iinc (v := nI (i_47 + 1)) (lv' := [(4, .int (nI (i_47 + 1))), (5, .ref v_62), (3, .int a3), (2, .int a2), (1, .ref rl), (0, .ref h0)]) hx hb dX8_isInForce_106 hl (k := 1) rfl (nI_add i_47 1) (by decide) rfl (fun ls hl => ?_)
      refine lv_goto (tgt := 28) hx hb dX8_isInForce_109 (by decide) ?_
      exact ih_46 (i_47 + 1) ws_49 _ _ ls (by show 16 - (i_47 + 1) < 16 - i_47; omega) ⟨hlp_51, (show (i_47 + 1) ≤ 16 from by omega)⟩ hP hD hS (lv_sub hl [0, 2, 3, 4, 5] rfl)
    refine lv_iload hx hb dX8_isInForce_98 (lv_at hl 1 rfl) ?_
    refine lv_iload_n hx hb dX8_isInForce_100 rfl (lv_at hl 3 rfl) ?_
    refine lv_icmp_le (tgt := 106) hx hb dX8_isInForce_101 (by decide) (fun c_87 => ?_) (fun c_87 => ?_)
    · refine lv_iinc (v := nI (i_47 + 1)) (lv' := [(4, .int (nI (i_47 + 1))), (5, .ref v_62), (3, .int a3), (2, .int a2), (1, .ref rl), (0, .ref h0)]) hx hb dX8_isInForce_106 hl (k := 1) rfl (nI_add i_47 1) (by decide) rfl (fun ls hl => ?_)
      refine lv_goto (tgt := 28) hx hb dX8_isInForce_109 (by decide) ?_
      exact ih_46 (i_47 + 1) ws_49 _ _ ls (by show 16 - (i_47 + 1) < 16 - i_47; omega) ⟨hlp_51, (show (i_47 + 1) ≤ 16 from by omega)⟩ hP hD hS (lv_sub hl [0, 2, 3, 4, 5] rfl)
    refine lv_iconst (v := 0) hx hb dX8_isInForce_104 (by decide) ?_
    exact W.zret (v := 0) hx hb hr rfl (fun t ht hW => ⟨⟨0, (), rfl, Or.inl rfl, ws_49, tys, hsm, htx, by rw [ht]; exact hP, va_K.moved hW.alike hK, hD, trivial⟩, hS.F ht⟩) hS.2.2 dX8_isInForce_105
  refine lv_iconst (v := 0) hx hb dX8_isInForce_23 (by decide) ?_
  exact W.zret (v := 0) hx hb hr rfl (fun t ht hW => ⟨⟨0, (), rfl, Or.inl rfl, ws, tys, hsm, htx, by rw [ht]; exact hP, va_K.moved hW.alike hK, hD, trivial⟩, hS.F ht⟩) hS.2.2 dX8_isInForce_24
set_option maxHeartbeats 4000000 in
set_option maxRecDepth 100000 in
theorem h_name (l : Launch) (D : va_G) (ρ : Nat → Nat) (ws : va_W) (tys : List (ClassId × FieldType)) (fv : Nat → Nat → Int32) (h0 lc bc rc fc : Nat) (dn : Int32) (tl : Nat) (a1 a2 a3 : Int32) (sz : Nat) (X : XI ρ fv ws tys h0 lc bc rc fc dn tl) : Met l yX8_name wsX8_name ({ frames := 6, cells := 0, slots := 0, locals := 146 }) (va_Pc [.ref h0, .int a1, .int a2, .int a3] (fun U => U.heap.size = sz ∧ va_P D vwCl ws U.heap ∧ va_K D vwCl tys U ∧ va_D (fun _ => True) ws ∧ NZ U)) (va_Qi (fun (r : Int32) (_ : Unit) => True) (fun (_ : Unit) (t : State) => ∃ (ws' : va_W) (tys' : List (ClassId × FieldType)), sm ρ [] ws ws' ∧ tyx tys tys' ∧ va_P D vwCl ws' t.heap ∧ va_K D vwCl tys' t ∧ va_D (va_A ws sz) ws' ∧ (XI ρ fv ws' tys' h0 lc bc rc fc dn tl)) (va_A ws sz)) 0 0 (va_A ws sz) := by
  refine Met.ofW (cc := cX8_name) (maxL := 7) (ret := (some .int)) (by decide) rfl ?_
  intro p e s m args below meth c s₁ B hml hv
  obtain ⟨rfl, hsz, hP, hK, hD0, hnz⟩ := hv
  have hx := B.exec
  have hb := B.bytes
  have hr := B.returns
  have hts := atoms_spec (ws := wsX8_name) B.pre
  have hown : s.vm.findClass RX8 = some m.cls := findClass_of_methodNamed B.named
  have hlocks := B.notSynchronized
  subst hsz
  have hD := hD0.self (sz := s.heap.size)
  generalize hAe : va_A ws s.heap.size = A at hD ⊢
  have hA : ∀ q : Nat, s.heap.size ≤ q → A q := fun q h => by rw [← hAe]; exact Or.inr h
  have hS : va_S A s.heap s.heap [] := va_S.rf
  have hsm : sm ρ [] ws ws := sm.rf ws
  have htx : tyx tys tys := tyx.rf tys
  have hin7 : ∀ w ∈ u_ws RX7 TX7 5, w ∈ wsX8_name := (fun _ h9 => List.mem_cons_of_mem _ (List.mem_append_left _ (List.mem_append_left _ (List.mem_append_left _ ((List.mem_append_right _ h9))))))
  have hin8 : ∀ w ∈ u_ws RX8 TX8 15, w ∈ wsX8_name := (fun _ h9 => List.mem_cons_of_mem _ (List.mem_append_left _ (List.mem_append_left _ ((List.mem_append_right _ h9)))))
  have hl := lv_entry ([.ref h0, .int a1, .int a2, .int a3]) (n := 7) (Nat.le_of_ble_eq_true rfl)
  rw [lg_entry_eq]
  generalize (lg_sl ([.ref h0, .int a1, .int a2, .int a3]) ++ List.replicate (7 - (lg_sl ([.ref h0, .int a1, .int a2, .int a3])).length) Slot.unset).toArray = ls at hl ⊢
  have hl : lv_has ls 7 [(0, .ref h0), (1, .int a1), (2, .int a2), (3, .int a3)] := hl
  obtain ⟨k0, la, ta, ba, ra, sn, rd, dr, bl, vd, fb, e0, w0, hle0, hnum, qla, qta, qba, qra, qsn, qrd, qdr, qbl, qvd, qfb⟩ := id X
  obtain ⟨kra, cra, tra, fra, era, ura, pra⟩ := id qra
  have hlc := hnum.1
  obtain ⟨kta, cta, tta, fta, eta, uta, hta0, hta1⟩ := id qta
  obtain ⟨kba, cba, tba, fba, eba, uba, hba0, hba1⟩ := id qba
  refine lv_aload_n hx hb dX8_name_0 rfl (lv_at hl 0 rfl) ?_
  refine lv_iload_n hx hb dX8_name_1 rfl (lv_at hl 1 rfl) ?_
  refine lv_iload_n hx hb dX8_name_2 rfl (lv_at hl 2 rfl) ?_
  refine va_csq (W.runV (As := [.int a1, .int a2]) (rest := []) ⟨hx, hb, hml, hown, hts⟩ (s_vesselAt l D ws tys h0 k0 _ ta kta cta fta tta ba kba cba fba tba a1 a2 e0 rfl eta uta rfl eba uba) (cwV 2 hts gX8_name_X8_vesselAt rfl rfl rfl (by decide +kernel) ⟨Nat.le_of_ble_eq_true rfl, Nat.le_of_ble_eq_true rfl⟩) ⟨fun a U g mk q => ⟨q.1, q.2.1, va_K.moved (u := U) (U := U.calling g mk a) (Vm.Alike.refl U.vm) q.2.2⟩, va_recv hK hP (ci := 8) (q0 := k0) rfl e0, fun U hU hW => ⟨rfl, by rw [hU]; exact hP, va_K.moved hW.alike hK⟩⟩ rfl rfl hl.1 rfl (lv_room (Nat.le_of_ble_eq_true rfl)) dX8_name_3 ⟨Nat.le_of_ble_eq_true rfl, Nat.le_of_ble_eq_true rfl⟩) (fun r_1 k_2 => ?_)
  have hz_3 := vesx hnum.2.1 hta1 hba0 hba1 k_2
  rcases hz_3 with ⟨rfl, rn_4⟩ | ⟨rn_4, hr_5, v_6, rfl, hV_7⟩
  · refine tp_v (y := .null) rfl ?_
    refine lv_astoreN (lv' := [(4, .null), (0, .ref h0), (1, .int a1), (2, .int a2), (3, .int a3)]) hx hb dX8_name_6 hl (by decide) rfl (fun ls hl => ?_)
    refine lv_aloadN hx hb dX8_name_8 (lv_at hl 0 rfl) ?_
    refine lv_ifnullN (tgt := 21) hx hb dX8_name_10 (by decide) ?_
    refine lv_iconst (v := (-1)) hx hb dX8_name_21 (by decide) ?_
    exact W.iret (v := (-1)) hx hb hr (fun t ht hW => ⟨⟨(-1), (), rfl, trivial, ws, tys, hsm, htx, by rw [ht]; exact hP, va_K.moved hW.alike hK, hD, X.sm hsm htx (by decide) (by decide)⟩, hS.F ht⟩) hS.2.2 dX8_name_22
  obtain ⟨k_9, g_10, e_11, wk_12, k_13, c9_14, t_15, f_16, e_17, u_18, wr_19, g_20⟩ := hV_7
  refine tp_v (y := .ref v_6) rfl ?_
  refine lv_astore (lv' := [(4, .ref v_6), (0, .ref h0), (1, .int a1), (2, .int a2), (3, .int a3)]) hx hb dX8_name_6 hl (by decide) rfl (fun ls hl => ?_)
  refine lv_aload hx hb dX8_name_8 (lv_at hl 0 rfl) ?_
  refine lv_ifnull hx hb dX8_name_10 ?_
  refine lv_aload hx hb dX8_name_13 (lv_at hl 0 rfl) ?_
  refine va_get (D := D) (ci := 7) (v := .int (mall (fv 9) (rowI a1 a2) 40)) (C := RX7) (T := TX7) (N := 5) hx hb hts hin7 hown hK hP k_9 e_11 rfl 1 (by decide) (hts (.fieldLink RX8 144 "HoneyHouse$Vessel" "total" "I") (List.mem_of_getElem? (i := 1) rfl)) (fun _ h9 => h9) rfl dX8_name_15 ?_
  refine lv_if_ne (tgt := 23) hx hb dX8_name_18 (by decide) (fun c_21 => ?_) (fun c_21 => ?_)
  · refine lv_iconst (v := 0) hx hb dX8_name_23 (by decide) ?_
    refine lv_istore (lv' := [(5, .int 0), (4, .ref v_6), (0, .ref h0), (1, .int a1), (2, .int a2), (3, .int a3)]) hx hb dX8_name_24 hl (by decide) rfl (fun ls hl => ?_)
    refine lp_V (nL := 7) (σ := Nat) (lv := fun x9 => [(5, .int (nI x9)), (4, .ref v_6), (3, .int a3), (0, .ref h0)]) (μ := fun x9 => 16 - x9) (J := fun x9 ws9 => sm ρ [] ws ws9 ∧ (x9 ≤ 16)) (fun x9 ws_25 H locs ls hj hP hD hS hl ih_22 => ?_) 0 ws _ _ ls ⟨sm.rf _, (show 0 ≤ 16 from by omega)⟩ hP hD hS (lv_sub hl [0, 1, 5, 2] rfl)
    obtain ⟨i_23, hx9⟩ : ∃ y9, y9 = x9 := ⟨_, rfl⟩
    subst hx9
    replace hj : sm ρ [] ws ws_25 ∧ (i_23 ≤ 16) := hj
    obtain ⟨hm_26, hi_24⟩ := hj
    have e_28 := hm_26.objK e0 (by decide)
    have e_29 := hm_26.arrQ eta
    have e_30 := hm_26.arrQ eba
    have e_31 := hm_26.arrQ era
    have e_32 := hm_26.keep (by rw [wk_12]; omega) e_11
    have e_33 := hm_26.keep (by rw [wr_19]; omega) e_17
    have hsm := hsm.tr (hm_26.mono (by decide))
    have hlp_27 := hm_26
    have hl : lv_has ls 7 [(5, .int (nI i_23)), (4, .ref v_6), (3, .int a3), (0, .ref h0)] := hl
    refine lv_iload hx hb dX8_name_26 (lv_at hl 0 rfl) ?_
    refine lv_aload_n hx hb dX8_name_28 rfl (lv_at hl 3 rfl) ?_
    refine va_get (D := D) (ci := 8) (v := .ref ra) (C := RX8) (T := TX8) (N := 15) hx hb hts hin8 hown hK hP k0 e_28 rfl 3 (by decide) (hts (.fieldLink RX8 26 "HoneyHouse" "rules" "[LHoneyHouse$Rule;") (List.mem_of_getElem? (i := 2) rfl)) (fun _ h9 => h9) rfl dX8_name_29 ?_
    refine va_alen (v := 16) hx hb hK hP kra tra e_31 ura rfl dX8_name_32 ?_
    refine lv_icmp_ge (tgt := 83) hx hb dX8_name_33 (by decide) (fun c_34 => ?_) (fun c_34 => ?_)
    · have d_35 := n_le (a := 16) (b := i_23) (by omega) (by omega) c_34
      refine lv_iconst (v := (-1)) hx hb dX8_name_83 (by decide) ?_
      exact W.iret (v := (-1)) hx hb hr (fun t ht hW => ⟨⟨(-1), (), rfl, trivial, ws_25, tys, hsm, htx, by rw [ht]; exact hP, va_K.moved hW.alike hK, hD, X.sm hsm htx (by decide) (by decide)⟩, hS.F ht⟩) hS.2.2 dX8_name_84
    have d_36 := n_nle (a := 16) (b := i_23) (by omega) (by omega) c_34
    refine lv_aload_n hx hb dX8_name_36 rfl (lv_at hl 3 rfl) ?_
    refine va_get (D := D) (ci := 8) (v := .ref ra) (C := RX8) (T := TX8) (N := 15) hx hb hts hin8 hown hK hP k0 e_28 rfl 3 (by decide) (hts (.fieldLink RX8 26 "HoneyHouse" "rules" "[LHoneyHouse$Rule;") (List.mem_of_getElem? (i := 2) rfl)) (fun _ h9 => h9) rfl dX8_name_37 ?_
    refine lv_iload hx hb dX8_name_40 (lv_at hl 0 rfl) ?_
    refine va_aldq (f := fra) (n := 16) hx hb hK hP kra tra e_31 ura (vp_in_nI (n := i_23) (by omega) (by omega)) dX8_name_42 ?_
    obtain ⟨r_37, er_38⟩ : ∃ r, r = fra (nI i_23).toNatClampNeg := ⟨_, rfl⟩
    refine tp_v (y := va_rf r_37) (by rw [er_38]) ?_
    have hz_41 : r_37 = none ∨ ∃ v, r_37 = some v ∧ oR ρ ws tys v := by
      rcases r_37 with _ | v
      · exact Or.inl rfl
      · exact Or.inr ⟨v, rfl, pra _ _ er_38.symm⟩
    rcases hz_41 with rfl | ⟨v_39, rfl, hv_40⟩
    · refine tp_v (y := .null) rfl ?_
      refine lv_astoreN (lv' := [(6, .null), (5, .int (nI i_23)), (4, .ref v_6), (3, .int a3), (0, .ref h0)]) hx hb dX8_name_43 hl (by decide) rfl (fun ls hl => ?_)
      refine lv_aloadN hx hb dX8_name_45 (lv_at hl 0 rfl) ?_
      refine lv_ifnullN (tgt := 77) hx hb dX8_name_47 (by decide) ?_
      refine lv_iinc (v := nI (i_23 + 1)) (lv' := [(5, .int (nI (i_23 + 1))), (6, .null), (4, .ref v_6), (3, .int a3), (0, .ref h0)]) hx hb dX8_name_77 hl (k := 1) rfl (nI_add i_23 1) (by decide) rfl (fun ls hl => ?_)
      refine lv_goto (tgt := 26) hx hb dX8_name_80 (by decide) ?_
      exact ih_22 (i_23 + 1) ws_25 _ _ ls (by show 16 - (i_23 + 1) < 16 - i_23; omega) ⟨hlp_27, (show (i_23 + 1) ≤ 16 from by omega)⟩ hP hD hS (lv_sub hl [0, 2, 3, 4] rfl)
    obtain ⟨k_42, g_43, n_44, x_45, x_46, x_47, x_48, e_49, w_58, ⟨k_50, c9_51, t_52, f_53, e_54, u_55, w_56⟩, hn_57⟩ := hv_40.sm hsm htx
    refine tp_v (y := .ref v_39) rfl ?_
    refine lv_astore (lv' := [(6, .ref v_39), (5, .int (nI i_23)), (4, .ref v_6), (3, .int a3), (0, .ref h0)]) hx hb dX8_name_43 hl (by decide) rfl (fun ls hl => ?_)
    refine lv_aload hx hb dX8_name_45 (lv_at hl 0 rfl) ?_
    refine lv_ifnull hx hb dX8_name_47 ?_
    refine lv_aload_n hx hb dX8_name_50 rfl (lv_at hl 4 rfl) ?_
    refine lv_aload hx hb dX8_name_51 (lv_at hl 0 rfl) ?_
    refine lv_iload hx hb dX8_name_53 (lv_at hl 1 rfl) ?_
    refine lv_iload_n hx hb dX8_name_55 rfl (lv_at hl 3 rfl) ?_
    have hFc := free_all hD hS hA
    refine va_calli (va_runV (As := [.ref v_39, .int (nI i_23), .int a3]) (rest := []) ⟨hx, hb, hml, hown, hts⟩ (a_isInForce l D ρ ws_25 tys fv h0 lc bc rc fc dn tl v_39 k_42 g_43 k_50 n_44 c9_51 t_52 f_53 x_45 x_46 x_47 x_48 (nI i_23) a3 H.size (X.sm hsm htx (by decide) (by decide)) hn_57 e_49 e_54 u_55) (cwV 3 hts gX8_name_X8_isInForce rfl rfl rfl (by decide +kernel) ⟨Nat.le_of_ble_eq_true rfl, Nat.le_of_ble_eq_true rfl⟩) ⟨fun a U g mk q => by obtain ⟨q0, q1, qP, qK, qD, qZ⟩ := q; exact ⟨q0, q1, qP, va_K.moved (u := U) (U := U.calling g mk a) (Vm.Alike.refl U.vm) qK, qD, NZ.same rfl qZ⟩, va_recv hK hP (ci := 8) (q0 := k0) rfl e_28, fun U hU hW => ⟨rfl, by rw [hU], by rw [hU]; exact hP, va_K.moved hW.alike hK, hD.weaken (fun _ _ _ _ => trivial), NZ.warm hW hnz⟩⟩ rfl rfl hl.1 rfl (lv_room (Nat.le_of_ble_eq_true rfl)) dX8_name_56 ⟨Nat.le_of_ble_eq_true rfl, Nat.le_of_ble_eq_true rfl⟩) hS (fun q _ h => hFc q h) hFc (fun r_59 u t H1 locs ht hvm w_60 hB hz1 hk1 hS => ?_)
    obtain ⟨ws_61, ty_62, hm_63, ht_65, hP1, hK1, hD1, hx_64⟩ := hB
    rw [ht] at hP1
    have hK := va_K.moved hvm.symm hK1
    have hD := hD1.weaken (fun _ _ _ h => hFc _ h)
    generalize H1 = H at hP1 hS ⊢
    have hP := hP1
    have e_66 := hm_63.objK e_28 (by decide)
    have e_67 := hm_63.arrQ e_29
    have u_68 := ht_65 _ _ uta
    have e_69 := hm_63.arrQ e_30
    have u_70 := ht_65 _ _ uba
    have e_71 := hm_63.arrQ e_31
    have u_72 := ht_65 _ _ ura
    have e_73 := hm_63.keep (by rw [wk_12]; omega) e_32
    have e_74 := hm_63.keep (by rw [wr_19]; omega) e_33
    have u_75 := ht_65 _ _ u_18
    have e_76 := hm_63.objK e_49 (by decide)
    obtain ⟨f_78, e_77⟩ := hm_63.arrI e_54
    have u_79 := ht_65 _ _ u_55
    have hsm := hsm.tr (hm_63.mono (by decide))
    have hlp_27 := hlp_27.tr (hm_63.mono (by decide))
    have htx := htx.tr ht_65
    rcases w_60 with rfl | rfl
    · refine lv_if_eq (tgt := 77) hx hb dX8_name_59 (by decide) (fun c_80 => ?_) (fun c_80 => absurd (by decide) c_80)
      refine lv_iinc (v := nI (i_23 + 1)) (lv' := [(5, .int (nI (i_23 + 1))), (6, .ref v_39), (4, .ref v_6), (3, .int a3), (0, .ref h0)]) hx hb dX8_name_77 hl (k := 1) rfl (nI_add i_23 1) (by decide) rfl (fun ls hl => ?_)
      refine lv_goto (tgt := 26) hx hb dX8_name_80 (by decide) ?_
      exact ih_22 (i_23 + 1) ws_61 _ _ ls (by show 16 - (i_23 + 1) < 16 - i_23; omega) ⟨hlp_27, (show (i_23 + 1) ≤ 16 from by omega)⟩ hP hD hS (lv_sub hl [0, 2, 3, 4] rfl)
    refine lv_if_eq (tgt := 77) hx hb dX8_name_59 (by decide) (fun c_81 => absurd c_81 (by decide)) (fun c_81 => ?_)
    refine lv_aload_n hx hb dX8_name_62 rfl (lv_at hl 4 rfl) ?_
    refine lv_aload hx hb dX8_name_63 (lv_at hl 0 rfl) ?_
    refine lv_aload hx hb dX8_name_65 (lv_at hl 2 rfl) ?_
    have hFc := free_all hD hS hA
    refine va_calli (va_runV (As := [.ref v_39, .ref v_6]) (rest := []) ⟨hx, hb, hml, hown, hts⟩ (a_verdict l D ρ ws_61 ty_62 fv h0 lc bc rc fc dn tl v_6 k_9 (mall (fv 9) (rowI a1 a2) 40) (fv 10 (rowI a1 a2)) (fv 11 (rowI a1 a2)) (fv 12 (rowI a1 a2)) g_10 k_13 c9_14 t_15 f_16 v_39 k_42 g_43 k_50 n_44 c9_51 t_52 f_78 x_45 x_46 x_47 x_48 H.size (X.sm hsm htx (by decide) (by decide)) (by rw [wk_12]; omega) (by rw [wr_19]; omega) e_73 e_74 u_75 hn_57 e_76 e_77 u_79) (cwV 2 hts gX8_name_X8_verdict rfl rfl rfl (by decide +kernel) ⟨Nat.le_of_ble_eq_true rfl, Nat.le_of_ble_eq_true rfl⟩) ⟨fun a U g mk q => by obtain ⟨q0, q1, qP, qK, qD, qZ⟩ := q; exact ⟨q0, q1, qP, va_K.moved (u := U) (U := U.calling g mk a) (Vm.Alike.refl U.vm) qK, qD, NZ.same rfl qZ⟩, va_recv hK hP (ci := 8) (q0 := k0) rfl e_66, fun U hU hW => ⟨rfl, by rw [hU], by rw [hU]; exact hP, va_K.moved hW.alike hK, hD.weaken (fun _ _ _ _ => trivial), NZ.warm hW hnz⟩⟩ rfl rfl hl.1 rfl (lv_room (Nat.le_of_ble_eq_true rfl)) dX8_name_67 ⟨Nat.le_of_ble_eq_true rfl, Nat.le_of_ble_eq_true rfl⟩) hS (fun q _ h => hFc q h) hFc (fun r_82 u t H1 locs ht hvm w_83 hB hz1 hk1 hS => ?_)
    obtain ⟨ws_84, ty_85, hm_86, ht_88, hP1, hK1, hD1, hx_87⟩ := hB
    rw [ht] at hP1
    have hK := va_K.moved hvm.symm hK1
    have hD := hD1.weaken (fun _ _ _ h => hFc _ h)
    generalize H1 = H at hP1 hS ⊢
    have hP := hP1
    have e_89 := hm_86.objK e_66 (by decide)
    have e_90 := hm_86.arrQ e_67
    have u_91 := ht_88 _ _ u_68
    have e_92 := hm_86.arrQ e_69
    have u_93 := ht_88 _ _ u_70
    have e_94 := hm_86.arrQ e_71
    have u_95 := ht_88 _ _ u_72
    have e_96 := hm_86.keep (by rw [wk_12]; omega) e_73
    have e_97 := hm_86.keep (by rw [wr_19]; omega) e_74
    have u_98 := ht_88 _ _ u_75
    have e_99 := hm_86.objK e_76 (by decide)
    obtain ⟨f_101, e_100⟩ := hm_86.arrI e_77
    have u_102 := ht_88 _ _ u_79
    have hsm := hsm.tr (hm_86.mono (by decide))
    have hlp_27 := hlp_27.tr (hm_86.mono (by decide))
    have htx := htx.tr ht_88
    refine lv_iconst (v := 2) hx hb dX8_name_70 (by decide) ?_
    refine lv_icmp_ne (tgt := 77) hx hb dX8_name_71 (by decide) (fun c_103 => ?_) (fun c_103 => ?_)
    · refine lv_iinc (v := nI (i_23 + 1)) (lv' := [(5, .int (nI (i_23 + 1))), (6, .ref v_39), (4, .ref v_6), (3, .int a3), (0, .ref h0)]) hx hb dX8_name_77 hl (k := 1) rfl (nI_add i_23 1) (by decide) rfl (fun ls hl => ?_)
      refine lv_goto (tgt := 26) hx hb dX8_name_80 (by decide) ?_
      exact ih_22 (i_23 + 1) ws_84 _ _ ls (by show 16 - (i_23 + 1) < 16 - i_23; omega) ⟨hlp_27, (show (i_23 + 1) ≤ 16 from by omega)⟩ hP hD hS (lv_sub hl [0, 2, 3, 4] rfl)
    refine lv_iload hx hb dX8_name_74 (lv_at hl 1 rfl) ?_
    exact W.iret (v := nI i_23) hx hb hr (fun t ht hW => ⟨⟨nI i_23, (), rfl, trivial, ws_84, ty_85, hsm, htx, by rw [ht]; exact hP, va_K.moved hW.alike hK, hD, X.sm hsm htx (by decide) (by decide)⟩, hS.F ht⟩) hS.2.2 dX8_name_76
  refine lv_iconst (v := (-1)) hx hb dX8_name_21 (by decide) ?_
  exact W.iret (v := (-1)) hx hb hr (fun t ht hW => ⟨⟨(-1), (), rfl, trivial, ws, tys, hsm, htx, by rw [ht]; exact hP, va_K.moved hW.alike hK, hD, X.sm hsm htx (by decide) (by decide)⟩, hS.F ht⟩) hS.2.2 dX8_name_22
