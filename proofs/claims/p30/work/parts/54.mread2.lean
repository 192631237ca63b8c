theorem dX9_sum_0 : decode cX9_sum 0 = .ok (.lconst 0, 1) := by decide +kernel
theorem dX9_sum_1 : decode cX9_sum 1 = .ok (.lstore_n 3, 1) := by decide +kernel
theorem dX9_sum_2 : decode cX9_sum 2 = .ok (.iconst 0, 1) := by decide +kernel
theorem dX9_sum_3 : decode cX9_sum 3 = .ok (.istore 5, 2) := by decide +kernel
theorem dX9_sum_5 : decode cX9_sum 5 = .ok (.iload 5, 2) := by decide +kernel
theorem dX9_sum_7 : decode cX9_sum 7 = .ok (.aload_n 0, 1) := by decide +kernel
theorem dX9_sum_8 : decode cX9_sum 8 = .ok (.getfield 20, 3) := by decide +kernel
theorem dX9_sum_11 : decode cX9_sum 11 = .ok (.if_icmp .ge 142, 3) := by decide +kernel
theorem dX9_sum_14 : decode cX9_sum 14 = .ok (.iload_n 2, 1) := by decide +kernel
theorem dX9_sum_15 : decode cX9_sum 15 = .ok (.ifCond .ne 18, 3) := by decide +kernel
theorem dX9_sum_18 : decode cX9_sum 18 = .ok (.aload_n 0, 1) := by decide +kernel
theorem dX9_sum_19 : decode cX9_sum 19 = .ok (.getfield 23, 3) := by decide +kernel
theorem dX9_sum_22 : decode cX9_sum 22 = .ok (.bipush 7, 2) := by decide +kernel
theorem dX9_sum_24 : decode cX9_sum 24 = .ok (.iload 5, 2) := by decide +kernel
theorem dX9_sum_26 : decode cX9_sum 26 = .ok (.imul, 1) := by decide +kernel
theorem dX9_sum_27 : decode cX9_sum 27 = .ok (.iconst 2, 1) := by decide +kernel
theorem dX9_sum_28 : decode cX9_sum 28 = .ok (.iadd, 1) := by decide +kernel
theorem dX9_sum_29 : decode cX9_sum 29 = .ok (.iaload, 1) := by decide +kernel
theorem dX9_sum_30 : decode cX9_sum 30 = .ok (.goto 95, 3) := by decide +kernel
theorem dX9_sum_33 : decode cX9_sum 33 = .ok (.iload_n 2, 1) := by decide +kernel
theorem dX9_sum_34 : decode cX9_sum 34 = .ok (.iconst 1, 1) := by decide +kernel
theorem dX9_sum_35 : decode cX9_sum 35 = .ok (.if_icmp .ne 18, 3) := by decide +kernel
theorem dX9_sum_38 : decode cX9_sum 38 = .ok (.aload_n 0, 1) := by decide +kernel
theorem dX9_sum_39 : decode cX9_sum 39 = .ok (.getfield 23, 3) := by decide +kernel
theorem dX9_sum_42 : decode cX9_sum 42 = .ok (.bipush 7, 2) := by decide +kernel
theorem dX9_sum_44 : decode cX9_sum 44 = .ok (.iload 5, 2) := by decide +kernel
theorem dX9_sum_46 : decode cX9_sum 46 = .ok (.imul, 1) := by decide +kernel
theorem dX9_sum_47 : decode cX9_sum 47 = .ok (.iconst 3, 1) := by decide +kernel
theorem dX9_sum_48 : decode cX9_sum 48 = .ok (.iadd, 1) := by decide +kernel
theorem dX9_sum_49 : decode cX9_sum 49 = .ok (.iaload, 1) := by decide +kernel
theorem dX9_sum_50 : decode cX9_sum 50 = .ok (.goto 75, 3) := by decide +kernel
theorem dX9_sum_53 : decode cX9_sum 53 = .ok (.iload_n 2, 1) := by decide +kernel
theorem dX9_sum_54 : decode cX9_sum 54 = .ok (.bipush 20, 2) := by decide +kernel
theorem dX9_sum_56 : decode cX9_sum 56 = .ok (.if_icmp .ge 20, 3) := by decide +kernel
theorem dX9_sum_59 : decode cX9_sum 59 = .ok (.aload_n 0, 1) := by decide +kernel
theorem dX9_sum_60 : decode cX9_sum 60 = .ok (.getfield 26, 3) := by decide +kernel
theorem dX9_sum_63 : decode cX9_sum 63 = .ok (.iconst 5, 1) := by decide +kernel
theorem dX9_sum_64 : decode cX9_sum 64 = .ok (.iload 5, 2) := by decide +kernel
theorem dX9_sum_66 : decode cX9_sum 66 = .ok (.imul, 1) := by decide +kernel
theorem dX9_sum_67 : decode cX9_sum 67 = .ok (.iload_n 2, 1) := by decide +kernel
theorem dX9_sum_68 : decode cX9_sum 68 = .ok (.iadd, 1) := by decide +kernel
theorem dX9_sum_69 : decode cX9_sum 69 = .ok (.bipush 10, 2) := by decide +kernel
theorem dX9_sum_71 : decode cX9_sum 71 = .ok (.isub, 1) := by decide +kernel
theorem dX9_sum_72 : decode cX9_sum 72 = .ok (.iaload, 1) := by decide +kernel
theorem dX9_sum_73 : decode cX9_sum 73 = .ok (.goto 52, 3) := by decide +kernel
theorem dX9_sum_76 : decode cX9_sum 76 = .ok (.iload_n 2, 1) := by decide +kernel
theorem dX9_sum_77 : decode cX9_sum 77 = .ok (.bipush 30, 2) := by decide +kernel
theorem dX9_sum_79 : decode cX9_sum 79 = .ok (.if_icmp .ge 20, 3) := by decide +kernel
theorem dX9_sum_82 : decode cX9_sum 82 = .ok (.aload_n 0, 1) := by decide +kernel
theorem dX9_sum_83 : decode cX9_sum 83 = .ok (.getfield 29, 3) := by decide +kernel
theorem dX9_sum_86 : decode cX9_sum 86 = .ok (.iconst 5, 1) := by decide +kernel
theorem dX9_sum_87 : decode cX9_sum 87 = .ok (.iload 5, 2) := by decide +kernel
theorem dX9_sum_89 : decode cX9_sum 89 = .ok (.imul, 1) := by decide +kernel
theorem dX9_sum_90 : decode cX9_sum 90 = .ok (.iload_n 2, 1) := by decide +kernel
theorem dX9_sum_91 : decode cX9_sum 91 = .ok (.iadd, 1) := by decide +kernel
theorem dX9_sum_92 : decode cX9_sum 92 = .ok (.bipush 20, 2) := by decide +kernel
theorem dX9_sum_94 : decode cX9_sum 94 = .ok (.isub, 1) := by decide +kernel
theorem dX9_sum_95 : decode cX9_sum 95 = .ok (.iaload, 1) := by decide +kernel
theorem dX9_sum_96 : decode cX9_sum 96 = .ok (.goto 29, 3) := by decide +kernel
theorem dX9_sum_99 : decode cX9_sum 99 = .ok (.aload_n 0, 1) := by decide +kernel
theorem dX9_sum_100 : decode cX9_sum 100 = .ok (.getfield 23, 3) := by decide +kernel
theorem dX9_sum_103 : decode cX9_sum 103 = .ok (.bipush 7, 2) := by decide +kernel
theorem dX9_sum_105 : decode cX9_sum 105 = .ok (.iload 5, 2) := by decide +kernel
theorem dX9_sum_107 : decode cX9_sum 107 = .ok (.imul, 1) := by decide +kernel
theorem dX9_sum_108 : decode cX9_sum 108 = .ok (.iconst 4, 1) := by decide +kernel
theorem dX9_sum_109 : decode cX9_sum 109 = .ok (.iadd, 1) := by decide +kernel
theorem dX9_sum_110 : decode cX9_sum 110 = .ok (.iaload, 1) := by decide +kernel
theorem dX9_sum_111 : decode cX9_sum 111 = .ok (.iload_n 2, 1) := by decide +kernel
theorem dX9_sum_112 : decode cX9_sum 112 = .ok (.bipush 30, 2) := by decide +kernel
theorem dX9_sum_114 : decode cX9_sum 114 = .ok (.isub, 1) := by decide +kernel
theorem dX9_sum_115 : decode cX9_sum 115 = .ok (.if_icmp .ne 9, 3) := by decide +kernel
theorem dX9_sum_118 : decode cX9_sum 118 = .ok (.sipush 1000, 3) := by decide +kernel
theorem dX9_sum_121 : decode cX9_sum 121 = .ok (.goto 4, 3) := by decide +kernel
theorem dX9_sum_124 : decode cX9_sum 124 = .ok (.iconst 0, 1) := by decide +kernel
theorem dX9_sum_125 : decode cX9_sum 125 = .ok (.istore 6, 2) := by decide +kernel
theorem dX9_sum_127 : decode cX9_sum 127 = .ok (.lload_n 3, 1) := by decide +kernel
theorem dX9_sum_128 : decode cX9_sum 128 = .ok (.aload_n 0, 1) := by decide +kernel
theorem dX9_sum_129 : decode cX9_sum 129 = .ok (.getfield 38, 3) := by decide +kernel
theorem dX9_sum_132 : decode cX9_sum 132 = .ok (.bipush 40, 2) := by decide +kernel
theorem dX9_sum_134 : decode cX9_sum 134 = .ok (.iload_n 1, 1) := by decide +kernel
theorem dX9_sum_135 : decode cX9_sum 135 = .ok (.imul, 1) := by decide +kernel
theorem dX9_sum_136 : decode cX9_sum 136 = .ok (.iload 5, 2) := by decide +kernel
theorem dX9_sum_138 : decode cX9_sum 138 = .ok (.iadd, 1) := by decide +kernel
theorem dX9_sum_139 : decode cX9_sum 139 = .ok (.iaload, 1) := by decide +kernel
theorem dX9_sum_140 : decode cX9_sum 140 = .ok (.i2l, 1) := by decide +kernel
theorem dX9_sum_141 : decode cX9_sum 141 = .ok (.iload 6, 2) := by decide +kernel
theorem dX9_sum_143 : decode cX9_sum 143 = .ok (.i2l, 1) := by decide +kernel
theorem dX9_sum_144 : decode cX9_sum 144 = .ok (.lmul, 1) := by decide +kernel
theorem dX9_sum_145 : decode cX9_sum 145 = .ok (.ladd, 1) := by decide +kernel
theorem dX9_sum_146 : decode cX9_sum 146 = .ok (.lstore_n 3, 1) := by decide +kernel
theorem dX9_sum_147 : decode cX9_sum 147 = .ok (.iinc 5 1, 3) := by decide +kernel
theorem dX9_sum_150 : decode cX9_sum 150 = .ok (.goto (-145), 3) := by decide +kernel
theorem dX9_sum_153 : decode cX9_sum 153 = .ok (.lload_n 3, 1) := by decide +kernel
theorem dX9_sum_154 : decode cX9_sum 154 = .ok (.lreturn, 1) := by decide +kernel
theorem dX9_isMeasure_0 : decode cX9_isMeasure 0 = .ok (.iload_n 0, 1) := by decide +kernel
theorem dX9_isMeasure_1 : decode cX9_isMeasure 1 = .ok (.iconst 0, 1) := by decide +kernel
theorem dX9_isMeasure_2 : decode cX9_isMeasure 2 = .ok (.iconst 2, 1) := by decide +kernel
theorem dX9_isMeasure_3 : decode cX9_isMeasure 3 = .ok (.invokestatic 151, 3) := by decide +kernel
theorem dX9_isMeasure_6 : decode cX9_isMeasure 6 = .ok (.ifCond .ne 36, 3) := by decide +kernel
theorem dX9_isMeasure_9 : decode cX9_isMeasure 9 = .ok (.iload_n 0, 1) := by decide +kernel
theorem dX9_isMeasure_10 : decode cX9_isMeasure 10 = .ok (.bipush 10, 2) := by decide +kernel
theorem dX9_isMeasure_12 : decode cX9_isMeasure 12 = .ok (.bipush 14, 2) := by decide +kernel
theorem dX9_isMeasure_14 : decode cX9_isMeasure 14 = .ok (.invokestatic 151, 3) := by decide +kernel
theorem dX9_isMeasure_17 : decode cX9_isMeasure 17 = .ok (.ifCond .ne 25, 3) := by decide +kernel
theorem dX9_isMeasure_20 : decode cX9_isMeasure 20 = .ok (.iload_n 0, 1) := by decide +kernel
theorem dX9_isMeasure_21 : decode cX9_isMeasure 21 = .ok (.bipush 20, 2) := by decide +kernel
theorem dX9_isMeasure_23 : decode cX9_isMeasure 23 = .ok (.bipush 24, 2) := by decide +kernel
theorem dX9_isMeasure_25 : decode cX9_isMeasure 25 = .ok (.invokestatic 151, 3) := by decide +kernel
theorem dX9_isMeasure_28 : decode cX9_isMeasure 28 = .ok (.ifCond .ne 14, 3) := by decide +kernel
theorem dX9_isMeasure_31 : decode cX9_isMeasure 31 = .ok (.iload_n 0, 1) := by decide +kernel
theorem dX9_isMeasure_32 : decode cX9_isMeasure 32 = .ok (.bipush 30, 2) := by decide +kernel
theorem dX9_isMeasure_34 : decode cX9_isMeasure 34 = .ok (.bipush 33, 2) := by decide +kernel
theorem dX9_isMeasure_36 : decode cX9_isMeasure 36 = .ok (.invokestatic 151, 3) := by decide +kernel
theorem dX9_isMeasure_39 : decode cX9_isMeasure 39 = .ok (.ifCond .eq 7, 3) := by decide +kernel
theorem dX9_isMeasure_42 : decode cX9_isMeasure 42 = .ok (.iconst 1, 1) := by decide +kernel
theorem dX9_isMeasure_43 : decode cX9_isMeasure 43 = .ok (.goto 4, 3) := by decide +kernel
theorem dX9_isMeasure_46 : decode cX9_isMeasure 46 = .ok (.iconst 0, 1) := by decide +kernel
theorem dX9_isMeasure_47 : decode cX9_isMeasure 47 = .ok (.ireturn, 1) := by decide +kernel
theorem dX9_measure_0 : decode cX9_measure 0 = .ok (.aload_n 0, 1) := by decide +kernel
theorem dX9_measure_1 : decode cX9_measure 1 = .ok (.iload_n 1, 1) := by decide +kernel
theorem dX9_measure_2 : decode cX9_measure 2 = .ok (.iload_n 2, 1) := by decide +kernel
theorem dX9_measure_3 : decode cX9_measure 3 = .ok (.invokevirtual 179, 3) := by decide +kernel
theorem dX9_measure_6 : decode cX9_measure 6 = .ok (.istore 4, 2) := by decide +kernel
theorem dX9_measure_8 : decode cX9_measure 8 = .ok (.iload 4, 2) := by decide +kernel
theorem dX9_measure_10 : decode cX9_measure 10 = .ok (.ifCond .lt 19, 3) := by decide +kernel
theorem dX9_measure_13 : decode cX9_measure 13 = .ok (.aload_n 0, 1) := by decide +kernel
theorem dX9_measure_14 : decode cX9_measure 14 = .ok (.iload 4, 2) := by decide +kernel
theorem dX9_measure_16 : decode cX9_measure 16 = .ok (.invokevirtual 169, 3) := by decide +kernel
theorem dX9_measure_19 : decode cX9_measure 19 = .ok (.ifCond .eq 10, 3) := by decide +kernel
theorem dX9_measure_22 : decode cX9_measure 22 = .ok (.iload_n 3, 1) := by decide +kernel
theorem dX9_measure_23 : decode cX9_measure 23 = .ok (.invokestatic 182, 3) := by decide +kernel
theorem dX9_measure_26 : decode cX9_measure 26 = .ok (.ifCond .ne 5, 3) := by decide +kernel
theorem dX9_measure_29 : decode cX9_measure 29 = .ok (.iconst (-1), 1) := by decide +kernel
theorem dX9_measure_30 : decode cX9_measure 30 = .ok (.ireturn, 1) := by decide +kernel
theorem dX9_measure_31 : decode cX9_measure 31 = .ok (.iload_n 3, 1) := by decide +kernel
theorem dX9_measure_32 : decode cX9_measure 32 = .ok (.iconst 2, 1) := by decide +kernel
theorem dX9_measure_33 : decode cX9_measure 33 = .ok (.if_icmp .ne 13, 3) := by decide +kernel
theorem dX9_measure_36 : decode cX9_measure 36 = .ok (.aload_n 0, 1) := by decide +kernel
theorem dX9_measure_37 : decode cX9_measure 37 = .ok (.getfield 41, 3) := by decide +kernel
theorem dX9_measure_40 : decode cX9_measure 40 = .ok (.iload 4, 2) := by decide +kernel
theorem dX9_measure_42 : decode cX9_measure 42 = .ok (.iaload, 1) := by decide +kernel
theorem dX9_measure_43 : decode cX9_measure 43 = .ok (.goto 23, 3) := by decide +kernel
theorem dX9_measure_46 : decode cX9_measure 46 = .ok (.ldc2_w 185, 3) := by decide +kernel
theorem dX9_measure_49 : decode cX9_measure 49 = .ok (.aload_n 0, 1) := by decide +kernel
theorem dX9_measure_50 : decode cX9_measure 50 = .ok (.iload 4, 2) := by decide +kernel
theorem dX9_measure_52 : decode cX9_measure 52 = .ok (.iload_n 3, 1) := by decide +kernel
theorem dX9_measure_53 : decode cX9_measure 53 = .ok (.invokevirtual 187, 3) := by decide +kernel
theorem dX9_measure_56 : decode cX9_measure 56 = .ok (.lmul, 1) := by decide +kernel
theorem dX9_measure_57 : decode cX9_measure 57 = .ok (.aload_n 0, 1) := by decide +kernel
theorem dX9_measure_58 : decode cX9_measure 58 = .ok (.iload 4, 2) := by decide +kernel
theorem dX9_measure_60 : decode cX9_measure 60 = .ok (.invokevirtual 169, 3) := by decide +kernel
theorem dX9_measure_63 : decode cX9_measure 63 = .ok (.i2l, 1) := by decide +kernel
theorem dX9_measure_64 : decode cX9_measure 64 = .ok (.ldiv, 1) := by decide +kernel
theorem dX9_measure_65 : decode cX9_measure 65 = .ok (.l2i, 1) := by decide +kernel
theorem dX9_measure_66 : decode cX9_measure 66 = .ok (.ireturn, 1) := by decide +kernel
theorem dX9_isSame_0 : decode cX9_isSame 0 = .ok (.aload_n 0, 1) := by decide +kernel
theorem dX9_isSame_1 : decode cX9_isSame 1 = .ok (.getfield 59, 3) := by decide +kernel
theorem dX9_isSame_4 : decode cX9_isSame 4 = .ok (.iload_n 1, 1) := by decide +kernel
theorem dX9_isSame_5 : decode cX9_isSame 5 = .ok (.iaload, 1) := by decide +kernel
theorem dX9_isSame_6 : decode cX9_isSame 6 = .ok (.aload_n 0, 1) := by decide +kernel
theorem dX9_isSame_7 : decode cX9_isSame 7 = .ok (.getfield 59, 3) := by decide +kernel
theorem dX9_isSame_10 : decode cX9_isSame 10 = .ok (.iload_n 2, 1) := by decide +kernel
theorem dX9_isSame_11 : decode cX9_isSame 11 = .ok (.iaload, 1) := by decide +kernel
theorem dX9_isSame_12 : decode cX9_isSame 12 = .ok (.if_icmp .ne 7, 3) := by decide +kernel
theorem dX9_isSame_15 : decode cX9_isSame 15 = .ok (.iconst 1, 1) := by decide +kernel
theorem dX9_isSame_16 : decode cX9_isSame 16 = .ok (.goto 4, 3) := by decide +kernel
theorem dX9_isSame_19 : decode cX9_isSame 19 = .ok (.iconst 0, 1) := by decide +kernel
theorem dX9_isSame_20 : decode cX9_isSame 20 = .ok (.istore_n 3, 1) := by decide +kernel
theorem dX9_isSame_21 : decode cX9_isSame 21 = .ok (.iconst 0, 1) := by decide +kernel
theorem dX9_isSame_22 : decode cX9_isSame 22 = .ok (.istore 4, 2) := by decide +kernel
theorem dX9_isSame_24 : decode cX9_isSame 24 = .ok (.iload 4, 2) := by decide +kernel
theorem dX9_isSame_26 : decode cX9_isSame 26 = .ok (.aload_n 0, 1) := by decide +kernel
theorem dX9_isSame_27 : decode cX9_isSame 27 = .ok (.getfield 59, 3) := by decide +kernel
theorem dX9_isSame_30 : decode cX9_isSame 30 = .ok (.iload_n 1, 1) := by decide +kernel
theorem dX9_isSame_31 : decode cX9_isSame 31 = .ok (.iaload, 1) := by decide +kernel
theorem dX9_isSame_32 : decode cX9_isSame 32 = .ok (.if_icmp .ge 46, 3) := by decide +kernel
theorem dX9_isSame_35 : decode cX9_isSame 35 = .ok (.iload_n 3, 1) := by decide +kernel
theorem dX9_isSame_36 : decode cX9_isSame 36 = .ok (.ifCond .eq 42, 3) := by decide +kernel
theorem dX9_isSame_39 : decode cX9_isSame 39 = .ok (.aload_n 0, 1) := by decide +kernel
theorem dX9_isSame_40 : decode cX9_isSame 40 = .ok (.getfield 56, 3) := by decide +kernel
theorem dX9_isSame_43 : decode cX9_isSame 43 = .ok (.bipush 12, 2) := by decide +kernel
theorem dX9_isSame_45 : decode cX9_isSame 45 = .ok (.iload_n 1, 1) := by decide +kernel
theorem dX9_isSame_46 : decode cX9_isSame 46 = .ok (.imul, 1) := by decide +kernel
theorem dX9_isSame_47 : decode cX9_isSame 47 = .ok (.iload 4, 2) := by decide +kernel
theorem dX9_isSame_49 : decode cX9_isSame 49 = .ok (.iadd, 1) := by decide +kernel
theorem dX9_isSame_50 : decode cX9_isSame 50 = .ok (.iaload, 1) := by decide +kernel
theorem dX9_isSame_51 : decode cX9_isSame 51 = .ok (.aload_n 0, 1) := by decide +kernel
theorem dX9_isSame_52 : decode cX9_isSame 52 = .ok (.getfield 56, 3) := by decide +kernel
theorem dX9_isSame_55 : decode cX9_isSame 55 = .ok (.bipush 12, 2) := by decide +kernel
theorem dX9_isSame_57 : decode cX9_isSame 57 = .ok (.iload_n 2, 1) := by decide +kernel
theorem dX9_isSame_58 : decode cX9_isSame 58 = .ok (.imul, 1) := by decide +kernel
theorem dX9_isSame_59 : decode cX9_isSame 59 = .ok (.iload 4, 2) := by decide +kernel
theorem dX9_isSame_61 : decode cX9_isSame 61 = .ok (.iadd, 1) := by decide +kernel
theorem dX9_isSame_62 : decode cX9_isSame 62 = .ok (.iaload, 1) := by decide +kernel
theorem dX9_isSame_63 : decode cX9_isSame 63 = .ok (.if_icmp .ne 7, 3) := by decide +kernel
theorem dX9_isSame_66 : decode cX9_isSame 66 = .ok (.iconst 1, 1) := by decide +kernel
theorem dX9_isSame_67 : decode cX9_isSame 67 = .ok (.goto 4, 3) := by decide +kernel
theorem dX9_isSame_70 : decode cX9_isSame 70 = .ok (.iconst 0, 1) := by decide +kernel
theorem dX9_isSame_71 : decode cX9_isSame 71 = .ok (.istore_n 3, 1) := by decide +kernel
theorem dX9_isSame_72 : decode cX9_isSame 72 = .ok (.iinc 4 1, 3) := by decide +kernel
theorem dX9_isSame_75 : decode cX9_isSame 75 = .ok (.goto (-51), 3) := by decide +kernel
theorem dX9_isSame_78 : decode cX9_isSame 78 = .ok (.iload_n 3, 1) := by decide +kernel
theorem dX9_isSame_79 : decode cX9_isSame 79 = .ok (.ireturn, 1) := by decide +kernel
theorem dX9_isInForce_0 : decode cX9_isInForce 0 = .ok (.aload_n 0, 1) := by decide +kernel
theorem dX9_isInForce_1 : decode cX9_isInForce 1 = .ok (.getfield 62, 3) := by decide +kernel
theorem dX9_isInForce_4 : decode cX9_isInForce 4 = .ok (.iload_n 1, 1) := by decide +kernel
theorem dX9_isInForce_5 : decode cX9_isInForce 5 = .ok (.iaload, 1) := by decide +kernel
theorem dX9_isInForce_6 : decode cX9_isInForce 6 = .ok (.iload_n 2, 1) := by decide +kernel
theorem dX9_isInForce_7 : decode cX9_isInForce 7 = .ok (.if_icmp .gt 23, 3) := by decide +kernel
theorem dX9_isInForce_10 : decode cX9_isInForce 10 = .ok (.aload_n 0, 1) := by decide +kernel
theorem dX9_isInForce_11 : decode cX9_isInForce 11 = .ok (.getfield 65, 3) := by decide +kernel
theorem dX9_isInForce_14 : decode cX9_isInForce 14 = .ok (.iload_n 1, 1) := by decide +kernel
theorem dX9_isInForce_15 : decode cX9_isInForce 15 = .ok (.iaload, 1) := by decide +kernel
theorem dX9_isInForce_16 : decode cX9_isInForce 16 = .ok (.iconst (-1), 1) := by decide +kernel
theorem dX9_isInForce_17 : decode cX9_isInForce 17 = .ok (.if_icmp .eq 15, 3) := by decide +kernel
theorem dX9_isInForce_20 : decode cX9_isInForce 20 = .ok (.aload_n 0, 1) := by decide +kernel
theorem dX9_isInForce_21 : decode cX9_isInForce 21 = .ok (.getfield 65, 3) := by decide +kernel
theorem dX9_isInForce_24 : decode cX9_isInForce 24 = .ok (.iload_n 1, 1) := by decide +kernel
theorem dX9_isInForce_25 : decode cX9_isInForce 25 = .ok (.iaload, 1) := by decide +kernel
theorem dX9_isInForce_26 : decode cX9_isInForce 26 = .ok (.iload_n 2, 1) := by decide +kernel
theorem dX9_isInForce_27 : decode cX9_isInForce 27 = .ok (.if_icmp .gt 5, 3) := by decide +kernel
theorem dX9_isInForce_30 : decode cX9_isInForce 30 = .ok (.iconst 0, 1) := by decide +kernel
theorem dX9_isInForce_31 : decode cX9_isInForce 31 = .ok (.ireturn, 1) := by decide +kernel
theorem dX9_isInForce_32 : decode cX9_isInForce 32 = .ok (.iconst 1, 1) := by decide +kernel
theorem dX9_isInForce_33 : decode cX9_isInForce 33 = .ok (.istore_n 3, 1) := by decide +kernel
theorem dX9_isInForce_34 : decode cX9_isInForce 34 = .ok (.iconst 0, 1) := by decide +kernel
theorem dX9_isInForce_35 : decode cX9_isInForce 35 = .ok (.istore 4, 2) := by decide +kernel
theorem dX9_isInForce_37 : decode cX9_isInForce 37 = .ok (.iload 4, 2) := by decide +kernel
theorem dX9_isInForce_39 : decode cX9_isInForce 39 = .ok (.aload_n 0, 1) := by decide +kernel
theorem dX9_isInForce_40 : decode cX9_isInForce 40 = .ok (.getfield 53, 3) := by decide +kernel
theorem dX9_isInForce_43 : decode cX9_isInForce 43 = .ok (.if_icmp .ge 78, 3) := by decide +kernel
theorem dX9_isInForce_46 : decode cX9_isInForce 46 = .ok (.iload_n 3, 1) := by decide +kernel
theorem dX9_isInForce_47 : decode cX9_isInForce 47 = .ok (.ifCond .eq 66, 3) := by decide +kernel
theorem dX9_isInForce_50 : decode cX9_isInForce 50 = .ok (.aload_n 0, 1) := by decide +kernel
theorem dX9_isInForce_51 : decode cX9_isInForce 51 = .ok (.iload 4, 2) := by decide +kernel
theorem dX9_isInForce_53 : decode cX9_isInForce 53 = .ok (.iload_n 1, 1) := by decide +kernel
theorem dX9_isInForce_54 : decode cX9_isInForce 54 = .ok (.invokevirtual 284, 3) := by decide +kernel
theorem dX9_isInForce_57 : decode cX9_isInForce 57 = .ok (.ifCond .eq 52, 3) := by decide +kernel
theorem dX9_isInForce_60 : decode cX9_isInForce 60 = .ok (.aload_n 0, 1) := by decide +kernel
theorem dX9_isInForce_61 : decode cX9_isInForce 61 = .ok (.getfield 62, 3) := by decide +kernel
theorem dX9_isInForce_64 : decode cX9_isInForce 64 = .ok (.iload 4, 2) := by decide +kernel
theorem dX9_isInForce_66 : decode cX9_isInForce 66 = .ok (.iaload, 1) := by decide +kernel
theorem dX9_isInForce_67 : decode cX9_isInForce 67 = .ok (.iload_n 2, 1) := by decide +kernel
theorem dX9_isInForce_68 : decode cX9_isInForce 68 = .ok (.if_icmp .gt 41, 3) := by decide +kernel
theorem dX9_isInForce_71 : decode cX9_isInForce 71 = .ok (.aload_n 0, 1) := by decide +kernel
theorem dX9_isInForce_72 : decode cX9_isInForce 72 = .ok (.getfield 62, 3) := by decide +kernel
theorem dX9_isInForce_75 : decode cX9_isInForce 75 = .ok (.iload 4, 2) := by decide +kernel
theorem dX9_isInForce_77 : decode cX9_isInForce 77 = .ok (.iaload, 1) := by decide +kernel
theorem dX9_isInForce_78 : decode cX9_isInForce 78 = .ok (.aload_n 0, 1) := by decide +kernel
theorem dX9_isInForce_79 : decode cX9_isInForce 79 = .ok (.getfield 62, 3) := by decide +kernel
theorem dX9_isInForce_82 : decode cX9_isInForce 82 = .ok (.iload_n 1, 1) := by decide +kernel
theorem dX9_isInForce_83 : decode cX9_isInForce 83 = .ok (.iaload, 1) := by decide +kernel
theorem dX9_isInForce_84 : decode cX9_isInForce 84 = .ok (.if_icmp .lt 25, 3) := by decide +kernel
theorem dX9_isInForce_87 : decode cX9_isInForce 87 = .ok (.aload_n 0, 1) := by decide +kernel
theorem dX9_isInForce_88 : decode cX9_isInForce 88 = .ok (.getfield 62, 3) := by decide +kernel
theorem dX9_isInForce_91 : decode cX9_isInForce 91 = .ok (.iload 4, 2) := by decide +kernel
theorem dX9_isInForce_93 : decode cX9_isInForce 93 = .ok (.iaload, 1) := by decide +kernel
theorem dX9_isInForce_94 : decode cX9_isInForce 94 = .ok (.aload_n 0, 1) := by decide +kernel
theorem dX9_isInForce_95 : decode cX9_isInForce 95 = .ok (.getfield 62, 3) := by decide +kernel
theorem dX9_isInForce_98 : decode cX9_isInForce 98 = .ok (.iload_n 1, 1) := by decide +kernel
theorem dX9_isInForce_99 : decode cX9_isInForce 99 = .ok (.iaload, 1) := by decide +kernel
theorem dX9_isInForce_100 : decode cX9_isInForce 100 = .ok (.if_icmp .ne 13, 3) := by decide +kernel
theorem dX9_isInForce_103 : decode cX9_isInForce 103 = .ok (.iload 4, 2) := by decide +kernel
theorem dX9_isInForce_105 : decode cX9_isInForce 105 = .ok (.iload_n 1, 1) := by decide +kernel
theorem dX9_isInForce_106 : decode cX9_isInForce 106 = .ok (.if_icmp .gt 7, 3) := by decide +kernel
theorem dX9_isInForce_109 : decode cX9_isInForce 109 = .ok (.iconst 1, 1) := by decide +kernel
theorem dX9_isInForce_110 : decode cX9_isInForce 110 = .ok (.goto 4, 3) := by decide +kernel
theorem dX9_isInForce_113 : decode cX9_isInForce 113 = .ok (.iconst 0, 1) := by decide +kernel
theorem dX9_isInForce_114 : decode cX9_isInForce 114 = .ok (.istore_n 3, 1) := by decide +kernel
theorem dX9_isInForce_115 : decode cX9_isInForce 115 = .ok (.iinc 4 1, 3) := by decide +kernel
theorem dX9_isInForce_118 : decode cX9_isInForce 118 = .ok (.goto (-81), 3) := by decide +kernel
theorem dX9_isInForce_121 : decode cX9_isInForce 121 = .ok (.iload_n 3, 1) := by decide +kernel
theorem dX9_isInForce_122 : decode cX9_isInForce 122 = .ok (.ireturn, 1) := by decide +kernel
theorem dX9_whose_0 : decode cX9_whose 0 = .ok (.iload_n 1, 1) := by decide +kernel
theorem dX9_whose_1 : decode cX9_whose 1 = .ok (.iconst 0, 1) := by decide +kernel
theorem dX9_whose_2 : decode cX9_whose 2 = .ok (.bipush 9, 2) := by decide +kernel
theorem dX9_whose_4 : decode cX9_whose 4 = .ok (.invokestatic 151, 3) := by decide +kernel
theorem dX9_whose_7 : decode cX9_whose 7 = .ok (.ifCond .eq 12, 3) := by decide +kernel
theorem dX9_whose_10 : decode cX9_whose 10 = .ok (.iload_n 2, 1) := by decide +kernel
theorem dX9_whose_11 : decode cX9_whose 11 = .ok (.iconst 0, 1) := by decide +kernel
theorem dX9_whose_12 : decode cX9_whose 12 = .ok (.iconst 3, 1) := by decide +kernel
theorem dX9_whose_13 : decode cX9_whose 13 = .ok (.invokestatic 151, 3) := by decide +kernel
theorem dX9_whose_16 : decode cX9_whose 16 = .ok (.ifCond .ne 7, 3) := by decide +kernel
theorem dX9_whose_19 : decode cX9_whose 19 = .ok (.ldc2_w 173, 3) := by decide +kernel
theorem dX9_whose_22 : decode cX9_whose 22 = .ok (.lreturn, 1) := by decide +kernel
theorem dX9_whose_23 : decode cX9_whose 23 = .ok (.lconst 0, 1) := by decide +kernel
theorem dX9_whose_24 : decode cX9_whose 24 = .ok (.lstore_n 3, 1) := by decide +kernel
theorem dX9_whose_25 : decode cX9_whose 25 = .ok (.lconst 0, 1) := by decide +kernel
theorem dX9_whose_26 : decode cX9_whose 26 = .ok (.lstore 5, 2) := by decide +kernel
theorem dX9_whose_28 : decode cX9_whose 28 = .ok (.lconst 0, 1) := by decide +kernel
theorem dX9_whose_29 : decode cX9_whose 29 = .ok (.lstore 7, 2) := by decide +kernel
theorem dX9_whose_31 : decode cX9_whose 31 = .ok (.lconst 0, 1) := by decide +kernel
theorem dX9_whose_32 : decode cX9_whose 32 = .ok (.lstore 9, 2) := by decide +kernel
theorem dX9_whose_34 : decode cX9_whose 34 = .ok (.iconst 0, 1) := by decide +kernel
theorem dX9_whose_35 : decode cX9_whose 35 = .ok (.istore 11, 2) := by decide +kernel
theorem dX9_whose_37 : decode cX9_whose 37 = .ok (.iload 11, 2) := by decide +kernel
theorem dX9_whose_39 : decode cX9_whose 39 = .ok (.aload_n 0, 1) := by decide +kernel
theorem dX9_whose_40 : decode cX9_whose 40 = .ok (.getfield 20, 3) := by decide +kernel
theorem dX9_whose_43 : decode cX9_whose 43 = .ok (.if_icmp .ge 141, 3) := by decide +kernel
theorem dX9_whose_46 : decode cX9_whose 46 = .ok (.aload_n 0, 1) := by decide +kernel
theorem dX9_whose_47 : decode cX9_whose 47 = .ok (.getfield 23, 3) := by decide +kernel
theorem dX9_whose_50 : decode cX9_whose 50 = .ok (.bipush 7, 2) := by decide +kernel
theorem dX9_whose_52 : decode cX9_whose 52 = .ok (.iload 11, 2) := by decide +kernel
theorem dX9_whose_54 : decode cX9_whose 54 = .ok (.imul, 1) := by decide +kernel
theorem dX9_whose_55 : decode cX9_whose 55 = .ok (.iaload, 1) := by decide +kernel
theorem dX9_whose_56 : decode cX9_whose 56 = .ok (.iload_n 1, 1) := by decide +kernel
theorem dX9_whose_57 : decode cX9_whose 57 = .ok (.if_icmp .eq 6, 3) := by decide +kernel
theorem dX9_whose_60 : decode cX9_whose 60 = .ok (.goto 118, 3) := by decide +kernel
theorem dX9_whose_63 : decode cX9_whose 63 = .ok (.lload_n 3, 1) := by decide +kernel
theorem dX9_whose_64 : decode cX9_whose 64 = .ok (.aload_n 0, 1) := by decide +kernel
theorem dX9_whose_65 : decode cX9_whose 65 = .ok (.getfield 23, 3) := by decide +kernel
theorem dX9_whose_68 : decode cX9_whose 68 = .ok (.bipush 7, 2) := by decide +kernel
theorem dX9_whose_70 : decode cX9_whose 70 = .ok (.iload 11, 2) := by decide +kernel
theorem dX9_whose_72 : decode cX9_whose 72 = .ok (.imul, 1) := by decide +kernel
theorem dX9_whose_73 : decode cX9_whose 73 = .ok (.iconst 1, 1) := by decide +kernel
theorem dX9_whose_74 : decode cX9_whose 74 = .ok (.iadd, 1) := by decide +kernel
theorem dX9_whose_75 : decode cX9_whose 75 = .ok (.iaload, 1) := by decide +kernel
theorem dX9_whose_76 : decode cX9_whose 76 = .ok (.i2l, 1) := by decide +kernel
theorem dX9_whose_77 : decode cX9_whose 77 = .ok (.ladd, 1) := by decide +kernel
theorem dX9_whose_78 : decode cX9_whose 78 = .ok (.lstore_n 3, 1) := by decide +kernel
theorem dX9_whose_79 : decode cX9_whose 79 = .ok (.lload 5, 2) := by decide +kernel
theorem dX9_whose_81 : decode cX9_whose 81 = .ok (.aload_n 0, 1) := by decide +kernel
theorem dX9_whose_82 : decode cX9_whose 82 = .ok (.getfield 23, 3) := by decide +kernel
theorem dX9_whose_85 : decode cX9_whose 85 = .ok (.bipush 7, 2) := by decide +kernel
theorem dX9_whose_87 : decode cX9_whose 87 = .ok (.iload 11, 2) := by decide +kernel
theorem dX9_whose_89 : decode cX9_whose 89 = .ok (.imul, 1) := by decide +kernel
theorem dX9_whose_90 : decode cX9_whose 90 = .ok (.iconst 5, 1) := by decide +kernel
theorem dX9_whose_91 : decode cX9_whose 91 = .ok (.iadd, 1) := by decide +kernel
theorem dX9_whose_92 : decode cX9_whose 92 = .ok (.iaload, 1) := by decide +kernel
theorem dX9_whose_93 : decode cX9_whose 93 = .ok (.i2l, 1) := by decide +kernel
theorem dX9_whose_94 : decode cX9_whose 94 = .ok (.ladd, 1) := by decide +kernel
theorem dX9_whose_95 : decode cX9_whose 95 = .ok (.lstore 5, 2) := by decide +kernel
theorem dX9_whose_97 : decode cX9_whose 97 = .ok (.iconst 0, 1) := by decide +kernel
theorem dX9_whose_98 : decode cX9_whose 98 = .ok (.istore 12, 2) := by decide +kernel
theorem dX9_whose_100 : decode cX9_whose 100 = .ok (.iload 12, 2) := by decide +kernel
theorem dX9_whose_102 : decode cX9_whose 102 = .ok (.bipush 10, 2) := by decide +kernel
theorem dX9_whose_104 : decode cX9_whose 104 = .ok (.aload_n 0, 1) := by decide +kernel
theorem dX9_whose_105 : decode cX9_whose 105 = .ok (.getfield 50, 3) := by decide +kernel
theorem dX9_whose_108 : decode cX9_whose 108 = .ok (.iadd, 1) := by decide +kernel
theorem dX9_whose_109 : decode cX9_whose 109 = .ok (.if_icmp .ge 69, 3) := by decide +kernel
theorem dX9_whose_112 : decode cX9_whose 112 = .ok (.lload 7, 2) := by decide +kernel
theorem dX9_whose_114 : decode cX9_whose 114 = .ok (.iload 12, 2) := by decide +kernel
theorem dX9_whose_116 : decode cX9_whose 116 = .ok (.bipush 10, 2) := by decide +kernel
theorem dX9_whose_118 : decode cX9_whose 118 = .ok (.if_icmp .ge 20, 3) := by decide +kernel
theorem dX9_whose_121 : decode cX9_whose 121 = .ok (.aload_n 0, 1) := by decide +kernel
theorem dX9_whose_122 : decode cX9_whose 122 = .ok (.getfield 38, 3) := by decide +kernel
theorem dX9_whose_125 : decode cX9_whose 125 = .ok (.bipush 40, 2) := by decide +kernel
theorem dX9_whose_127 : decode cX9_whose 127 = .ok (.iload 12, 2) := by decide +kernel
theorem dX9_whose_129 : decode cX9_whose 129 = .ok (.imul, 1) := by decide +kernel
theorem dX9_whose_130 : decode cX9_whose 130 = .ok (.iload 11, 2) := by decide +kernel
theorem dX9_whose_132 : decode cX9_whose 132 = .ok (.iadd, 1) := by decide +kernel
theorem dX9_whose_133 : decode cX9_whose 133 = .ok (.iaload, 1) := by decide +kernel
theorem dX9_whose_134 : decode cX9_whose 134 = .ok (.i2l, 1) := by decide +kernel
theorem dX9_whose_135 : decode cX9_whose 135 = .ok (.goto 4, 3) := by decide +kernel
theorem dX9_whose_138 : decode cX9_whose 138 = .ok (.lconst 0, 1) := by decide +kernel
theorem dX9_whose_139 : decode cX9_whose 139 = .ok (.ladd, 1) := by decide +kernel
theorem dX9_whose_140 : decode cX9_whose 140 = .ok (.lstore 7, 2) := by decide +kernel
theorem dX9_whose_142 : decode cX9_whose 142 = .ok (.lload 9, 2) := by decide +kernel
theorem dX9_whose_144 : decode cX9_whose 144 = .ok (.iload 12, 2) := by decide +kernel
theorem dX9_whose_146 : decode cX9_whose 146 = .ok (.bipush 10, 2) := by decide +kernel
theorem dX9_whose_148 : decode cX9_whose 148 = .ok (.if_icmp .ge 7, 3) := by decide +kernel
theorem dX9_whose_151 : decode cX9_whose 151 = .ok (.lconst 0, 1) := by decide +kernel
theorem dX9_whose_152 : decode cX9_whose 152 = .ok (.goto 17, 3) := by decide +kernel
theorem dX9_whose_155 : decode cX9_whose 155 = .ok (.aload_n 0, 1) := by decide +kernel
theorem dX9_whose_156 : decode cX9_whose 156 = .ok (.getfield 38, 3) := by decide +kernel
theorem dX9_whose_159 : decode cX9_whose 159 = .ok (.bipush 40, 2) := by decide +kernel
theorem dX9_whose_161 : decode cX9_whose 161 = .ok (.iload 12, 2) := by decide +kernel
theorem dX9_whose_163 : decode cX9_whose 163 = .ok (.imul, 1) := by decide +kernel
theorem dX9_whose_164 : decode cX9_whose 164 = .ok (.iload 11, 2) := by decide +kernel
theorem dX9_whose_166 : decode cX9_whose 166 = .ok (.iadd, 1) := by decide +kernel
theorem dX9_whose_167 : decode cX9_whose 167 = .ok (.iaload, 1) := by decide +kernel
theorem dX9_whose_168 : decode cX9_whose 168 = .ok (.i2l, 1) := by decide +kernel
theorem dX9_whose_169 : decode cX9_whose 169 = .ok (.ladd, 1) := by decide +kernel
theorem dX9_whose_170 : decode cX9_whose 170 = .ok (.lstore 9, 2) := by decide +kernel
theorem dX9_whose_172 : decode cX9_whose 172 = .ok (.iinc 12 1, 3) := by decide +kernel
theorem dX9_whose_175 : decode cX9_whose 175 = .ok (.goto (-75), 3) := by decide +kernel
theorem dX9_whose_178 : decode cX9_whose 178 = .ok (.iinc 11 1, 3) := by decide +kernel
theorem dX9_whose_181 : decode cX9_whose 181 = .ok (.goto (-144), 3) := by decide +kernel
theorem dX9_whose_184 : decode cX9_whose 184 = .ok (.iload_n 2, 1) := by decide +kernel
theorem dX9_whose_185 : decode cX9_whose 185 = .ok (.ifCond .ne 8, 3) := by decide +kernel
theorem dX9_whose_188 : decode cX9_whose 188 = .ok (.lload 5, 2) := by decide +kernel
theorem dX9_whose_190 : decode cX9_whose 190 = .ok (.goto 33, 3) := by decide +kernel
theorem dX9_whose_193 : decode cX9_whose 193 = .ok (.iload_n 2, 1) := by decide +kernel
theorem dX9_whose_194 : decode cX9_whose 194 = .ok (.iconst 1, 1) := by decide +kernel
theorem dX9_whose_195 : decode cX9_whose 195 = .ok (.if_icmp .ne 8, 3) := by decide +kernel
theorem dX9_whose_198 : decode cX9_whose 198 = .ok (.lload 7, 2) := by decide +kernel
theorem dX9_whose_200 : decode cX9_whose 200 = .ok (.goto 23, 3) := by decide +kernel
theorem dX9_whose_203 : decode cX9_whose 203 = .ok (.iload_n 2, 1) := by decide +kernel
theorem dX9_whose_204 : decode cX9_whose 204 = .ok (.iconst 2, 1) := by decide +kernel
theorem dX9_whose_205 : decode cX9_whose 205 = .ok (.if_icmp .ne 8, 3) := by decide +kernel
theorem dX9_whose_208 : decode cX9_whose 208 = .ok (.lload 9, 2) := by decide +kernel
theorem dX9_whose_210 : decode cX9_whose 210 = .ok (.goto 13, 3) := by decide +kernel
theorem dX9_whose_213 : decode cX9_whose 213 = .ok (.lload_n 3, 1) := by decide +kernel
theorem dX9_whose_214 : decode cX9_whose 214 = .ok (.lload 5, 2) := by decide +kernel
theorem dX9_whose_216 : decode cX9_whose 216 = .ok (.lsub, 1) := by decide +kernel
theorem dX9_whose_217 : decode cX9_whose 217 = .ok (.lload 7, 2) := by decide +kernel
theorem dX9_whose_219 : decode cX9_whose 219 = .ok (.lsub, 1) := by decide +kernel
theorem dX9_whose_220 : decode cX9_whose 220 = .ok (.lload 9, 2) := by decide +kernel
theorem dX9_whose_222 : decode cX9_whose 222 = .ok (.lsub, 1) := by decide +kernel
theorem dX9_whose_223 : decode cX9_whose 223 = .ok (.lreturn, 1) := by decide +kernel
theorem dX9_tells_0 : decode cX9_tells 0 = .ok (.iload 4, 2) := by decide +kernel
theorem dX9_tells_2 : decode cX9_tells 2 = .ok (.i2l, 1) := by decide +kernel
theorem dX9_tells_3 : decode cX9_tells 3 = .ok (.aload_n 0, 1) := by decide +kernel
theorem dX9_tells_4 : decode cX9_tells 4 = .ok (.iload_n 1, 1) := by decide +kernel
theorem dX9_tells_5 : decode cX9_tells 5 = .ok (.invokevirtual 169, 3) := by decide +kernel
theorem dX9_tells_8 : decode cX9_tells 8 = .ok (.i2l, 1) := by decide +kernel
theorem dX9_tells_9 : decode cX9_tells 9 = .ok (.lmul, 1) := by decide +kernel
theorem dX9_tells_10 : decode cX9_tells 10 = .ok (.lstore 5, 2) := by decide +kernel
theorem dX9_tells_12 : decode cX9_tells 12 = .ok (.iload_n 2, 1) := by decide +kernel
theorem dX9_tells_13 : decode cX9_tells 13 = .ok (.iconst 2, 1) := by decide +kernel
theorem dX9_tells_14 : decode cX9_tells 14 = .ok (.if_icmp .ne 40, 3) := by decide +kernel
theorem dX9_tells_17 : decode cX9_tells 17 = .ok (.iload_n 3, 1) := by decide +kernel
theorem dX9_tells_18 : decode cX9_tells 18 = .ok (.bipush 9, 2) := by decide +kernel
theorem dX9_tells_20 : decode cX9_tells 20 = .ok (.if_icmp .ne 17, 3) := by decide +kernel
theorem dX9_tells_23 : decode cX9_tells 23 = .ok (.aload_n 0, 1) := by decide +kernel
theorem dX9_tells_24 : decode cX9_tells 24 = .ok (.getfield 41, 3) := by decide +kernel
theorem dX9_tells_27 : decode cX9_tells 27 = .ok (.iload_n 1, 1) := by decide +kernel
theorem dX9_tells_28 : decode cX9_tells 28 = .ok (.iaload, 1) := by decide +kernel
theorem dX9_tells_29 : decode cX9_tells 29 = .ok (.iload 4, 2) := by decide +kernel
theorem dX9_tells_31 : decode cX9_tells 31 = .ok (.if_icmp .lt 21, 3) := by decide +kernel
theorem dX9_tells_34 : decode cX9_tells 34 = .ok (.goto 14, 3) := by decide +kernel
theorem dX9_tells_37 : decode cX9_tells 37 = .ok (.aload_n 0, 1) := by decide +kernel
theorem dX9_tells_38 : decode cX9_tells 38 = .ok (.getfield 41, 3) := by decide +kernel
theorem dX9_tells_41 : decode cX9_tells 41 = .ok (.iload_n 1, 1) := by decide +kernel
theorem dX9_tells_42 : decode cX9_tells 42 = .ok (.iaload, 1) := by decide +kernel
theorem dX9_tells_43 : decode cX9_tells 43 = .ok (.iload 4, 2) := by decide +kernel
theorem dX9_tells_45 : decode cX9_tells 45 = .ok (.if_icmp .gt 7, 3) := by decide +kernel
theorem dX9_tells_48 : decode cX9_tells 48 = .ok (.iconst 3, 1) := by decide +kernel
theorem dX9_tells_49 : decode cX9_tells 49 = .ok (.goto 4, 3) := by decide +kernel
theorem dX9_tells_52 : decode cX9_tells 52 = .ok (.iconst 0, 1) := by decide +kernel
theorem dX9_tells_53 : decode cX9_tells 53 = .ok (.ireturn, 1) := by decide +kernel
theorem dX9_tells_54 : decode cX9_tells 54 = .ok (.iload_n 2, 1) := by decide +kernel
theorem dX9_tells_55 : decode cX9_tells 55 = .ok (.bipush 10, 2) := by decide +kernel
theorem dX9_tells_57 : decode cX9_tells 57 = .ok (.if_icmp .lt 9, 3) := by decide +kernel
theorem dX9_tells_60 : decode cX9_tells 60 = .ok (.iload_n 2, 1) := by decide +kernel
theorem dX9_tells_61 : decode cX9_tells 61 = .ok (.bipush 30, 2) := by decide +kernel
theorem dX9_tells_63 : decode cX9_tells 63 = .ok (.if_icmp .lt 42, 3) := by decide +kernel
theorem dX9_tells_66 : decode cX9_tells 66 = .ok (.iload_n 3, 1) := by decide +kernel
theorem dX9_tells_67 : decode cX9_tells 67 = .ok (.bipush 9, 2) := by decide +kernel
theorem dX9_tells_69 : decode cX9_tells 69 = .ok (.if_icmp .ne 18, 3) := by decide +kernel
theorem dX9_tells_72 : decode cX9_tells 72 = .ok (.aload_n 0, 1) := by decide +kernel
theorem dX9_tells_73 : decode cX9_tells 73 = .ok (.iload_n 1, 1) := by decide +kernel
theorem dX9_tells_74 : decode cX9_tells 74 = .ok (.iload_n 2, 1) := by decide +kernel
theorem dX9_tells_75 : decode cX9_tells 75 = .ok (.invokevirtual 187, 3) := by decide +kernel
theorem dX9_tells_78 : decode cX9_tells 78 = .ok (.lload 5, 2) := by decide +kernel
theorem dX9_tells_80 : decode cX9_tells 80 = .ok (.lcmp, 1) := by decide +kernel
theorem dX9_tells_81 : decode cX9_tells 81 = .ok (.ifCond .lt 22, 3) := by decide +kernel
theorem dX9_tells_84 : decode cX9_tells 84 = .ok (.goto 15, 3) := by decide +kernel
theorem dX9_tells_87 : decode cX9_tells 87 = .ok (.aload_n 0, 1) := by decide +kernel
theorem dX9_tells_88 : decode cX9_tells 88 = .ok (.iload_n 1, 1) := by decide +kernel
theorem dX9_tells_89 : decode cX9_tells 89 = .ok (.iload_n 2, 1) := by decide +kernel
theorem dX9_tells_90 : decode cX9_tells 90 = .ok (.invokevirtual 187, 3) := by decide +kernel
theorem dX9_tells_93 : decode cX9_tells 93 = .ok (.lload 5, 2) := by decide +kernel
theorem dX9_tells_95 : decode cX9_tells 95 = .ok (.lcmp, 1) := by decide +kernel
theorem dX9_tells_96 : decode cX9_tells 96 = .ok (.ifCond .gt 7, 3) := by decide +kernel
theorem dX9_tells_99 : decode cX9_tells 99 = .ok (.iconst 3, 1) := by decide +kernel
theorem dX9_tells_100 : decode cX9_tells 100 = .ok (.goto 4, 3) := by decide +kernel
theorem dX9_tells_103 : decode cX9_tells 103 = .ok (.iconst 0, 1) := by decide +kernel
theorem dX9_tells_104 : decode cX9_tells 104 = .ok (.ireturn, 1) := by decide +kernel
theorem dX9_tells_105 : decode cX9_tells 105 = .ok (.iload_n 3, 1) := by decide +kernel
theorem dX9_tells_106 : decode cX9_tells 106 = .ok (.bipush 9, 2) := by decide +kernel
theorem dX9_tells_108 : decode cX9_tells 108 = .ok (.if_icmp .ne 23, 3) := by decide +kernel
theorem dX9_tells_111 : decode cX9_tells 111 = .ok (.aload_n 0, 1) := by decide +kernel
theorem dX9_tells_112 : decode cX9_tells 112 = .ok (.iload_n 1, 1) := by decide +kernel
theorem dX9_tells_113 : decode cX9_tells 113 = .ok (.iload_n 2, 1) := by decide +kernel
theorem dX9_tells_114 : decode cX9_tells 114 = .ok (.invokevirtual 187, 3) := by decide +kernel
theorem dX9_tells_117 : decode cX9_tells 117 = .ok (.lload 5, 2) := by decide +kernel
theorem dX9_tells_119 : decode cX9_tells 119 = .ok (.lcmp, 1) := by decide +kernel
theorem dX9_tells_120 : decode cX9_tells 120 = .ok (.ifCond .lt 7, 3) := by decide +kernel
theorem dX9_tells_123 : decode cX9_tells 123 = .ok (.iconst 1, 1) := by decide +kernel
theorem dX9_tells_124 : decode cX9_tells 124 = .ok (.goto 24, 3) := by decide +kernel
theorem dX9_tells_127 : decode cX9_tells 127 = .ok (.iconst 0, 1) := by decide +kernel
theorem dX9_tells_128 : decode cX9_tells 128 = .ok (.goto 20, 3) := by decide +kernel
theorem dX9_tells_131 : decode cX9_tells 131 = .ok (.aload_n 0, 1) := by decide +kernel
theorem dX9_tells_132 : decode cX9_tells 132 = .ok (.iload_n 1, 1) := by decide +kernel
theorem dX9_tells_133 : decode cX9_tells 133 = .ok (.iload_n 2, 1) := by decide +kernel
theorem dX9_tells_134 : decode cX9_tells 134 = .ok (.invokevirtual 187, 3) := by decide +kernel
theorem dX9_tells_137 : decode cX9_tells 137 = .ok (.lload 5, 2) := by decide +kernel
theorem dX9_tells_139 : decode cX9_tells 139 = .ok (.lcmp, 1) := by decide +kernel
theorem dX9_tells_140 : decode cX9_tells 140 = .ok (.ifCond .gt 7, 3) := by decide +kernel
theorem dX9_tells_143 : decode cX9_tells 143 = .ok (.iconst 1, 1) := by decide +kernel
theorem dX9_tells_144 : decode cX9_tells 144 = .ok (.goto 4, 3) := by decide +kernel
theorem dX9_tells_147 : decode cX9_tells 147 = .ok (.iconst 0, 1) := by decide +kernel
theorem dX9_tells_148 : decode cX9_tells 148 = .ok (.istore 7, 2) := by decide +kernel
theorem dX9_tells_150 : decode cX9_tells 150 = .ok (.iload_n 3, 1) := by decide +kernel
theorem dX9_tells_151 : decode cX9_tells 151 = .ok (.bipush 9, 2) := by decide +kernel
theorem dX9_tells_153 : decode cX9_tells 153 = .ok (.if_icmp .ne 26, 3) := by decide +kernel
theorem dX9_tells_156 : decode cX9_tells 156 = .ok (.aload_n 0, 1) := by decide +kernel
theorem dX9_tells_157 : decode cX9_tells 157 = .ok (.iload_n 1, 1) := by decide +kernel
theorem dX9_tells_158 : decode cX9_tells 158 = .ok (.iload_n 2, 1) := by decide +kernel
theorem dX9_tells_159 : decode cX9_tells 159 = .ok (.bipush 10, 2) := by decide +kernel
theorem dX9_tells_161 : decode cX9_tells 161 = .ok (.iadd, 1) := by decide +kernel
theorem dX9_tells_162 : decode cX9_tells 162 = .ok (.invokevirtual 187, 3) := by decide +kernel
theorem dX9_tells_165 : decode cX9_tells 165 = .ok (.lload 5, 2) := by decide +kernel
theorem dX9_tells_167 : decode cX9_tells 167 = .ok (.lcmp, 1) := by decide +kernel
theorem dX9_tells_168 : decode cX9_tells 168 = .ok (.ifCond .lt 7, 3) := by decide +kernel
theorem dX9_tells_171 : decode cX9_tells 171 = .ok (.iconst 1, 1) := by decide +kernel
theorem dX9_tells_172 : decode cX9_tells 172 = .ok (.goto 27, 3) := by decide +kernel
theorem dX9_tells_175 : decode cX9_tells 175 = .ok (.iconst 0, 1) := by decide +kernel
theorem dX9_tells_176 : decode cX9_tells 176 = .ok (.goto 23, 3) := by decide +kernel
theorem dX9_tells_179 : decode cX9_tells 179 = .ok (.aload_n 0, 1) := by decide +kernel
theorem dX9_tells_180 : decode cX9_tells 180 = .ok (.iload_n 1, 1) := by decide +kernel
theorem dX9_tells_181 : decode cX9_tells 181 = .ok (.iload_n 2, 1) := by decide +kernel
theorem dX9_tells_182 : decode cX9_tells 182 = .ok (.bipush 10, 2) := by decide +kernel
theorem dX9_tells_184 : decode cX9_tells 184 = .ok (.iadd, 1) := by decide +kernel
theorem dX9_tells_185 : decode cX9_tells 185 = .ok (.invokevirtual 187, 3) := by decide +kernel
theorem dX9_tells_188 : decode cX9_tells 188 = .ok (.lload 5, 2) := by decide +kernel
theorem dX9_tells_190 : decode cX9_tells 190 = .ok (.lcmp, 1) := by decide +kernel
theorem dX9_tells_191 : decode cX9_tells 191 = .ok (.ifCond .gt 7, 3) := by decide +kernel
theorem dX9_tells_194 : decode cX9_tells 194 = .ok (.iconst 1, 1) := by decide +kernel
theorem dX9_tells_195 : decode cX9_tells 195 = .ok (.goto 4, 3) := by decide +kernel
theorem dX9_tells_198 : decode cX9_tells 198 = .ok (.iconst 0, 1) := by decide +kernel
theorem dX9_tells_199 : decode cX9_tells 199 = .ok (.istore 8, 2) := by decide +kernel
theorem dX9_tells_201 : decode cX9_tells 201 = .ok (.iload_n 3, 1) := by decide +kernel
theorem dX9_tells_202 : decode cX9_tells 202 = .ok (.bipush 9, 2) := by decide +kernel
theorem dX9_tells_204 : decode cX9_tells 204 = .ok (.if_icmp .ne 11, 3) := by decide +kernel
theorem dX9_tells_207 : decode cX9_tells 207 = .ok (.iload 7, 2) := by decide +kernel
theorem dX9_tells_209 : decode cX9_tells 209 = .ok (.ifCond .eq 15, 3) := by decide +kernel
theorem dX9_tells_212 : decode cX9_tells 212 = .ok (.goto 8, 3) := by decide +kernel
theorem dX9_tells_215 : decode cX9_tells 215 = .ok (.iload 8, 2) := by decide +kernel
theorem dX9_tells_217 : decode cX9_tells 217 = .ok (.ifCond .eq 7, 3) := by decide +kernel
theorem dX9_tells_220 : decode cX9_tells 220 = .ok (.iconst 2, 1) := by decide +kernel
theorem dX9_tells_221 : decode cX9_tells 221 = .ok (.goto 4, 3) := by decide +kernel
theorem dX9_tells_224 : decode cX9_tells 224 = .ok (.iconst 0, 1) := by decide +kernel
theorem dX9_tells_225 : decode cX9_tells 225 = .ok (.iload_n 3, 1) := by decide +kernel
theorem dX9_tells_226 : decode cX9_tells 226 = .ok (.bipush 9, 2) := by decide +kernel
theorem dX9_tells_228 : decode cX9_tells 228 = .ok (.if_icmp .ne 11, 3) := by decide +kernel
theorem dX9_tells_231 : decode cX9_tells 231 = .ok (.iload 8, 2) := by decide +kernel
theorem dX9_tells_233 : decode cX9_tells 233 = .ok (.ifCond .eq 15, 3) := by decide +kernel
theorem dX9_tells_236 : decode cX9_tells 236 = .ok (.goto 8, 3) := by decide +kernel
theorem dX9_tells_239 : decode cX9_tells 239 = .ok (.iload 7, 2) := by decide +kernel
theorem dX9_tells_241 : decode cX9_tells 241 = .ok (.ifCond .eq 7, 3) := by decide +kernel
theorem dX9_tells_244 : decode cX9_tells 244 = .ok (.iconst 1, 1) := by decide +kernel
theorem dX9_tells_245 : decode cX9_tells 245 = .ok (.goto 4, 3) := by decide +kernel
theorem dX9_tells_248 : decode cX9_tells 248 = .ok (.iconst 0, 1) := by decide +kernel
theorem dX9_tells_249 : decode cX9_tells 249 = .ok (.iadd, 1) := by decide +kernel
theorem dX9_tells_250 : decode cX9_tells 250 = .ok (.ireturn, 1) := by decide +kernel
set_option maxRecDepth 20000 in
theorem ggX9_isMeasure_X9_is : GoodIn wsX9_isMeasure wsX9_is := goodIn_r _ [4] rfl (by decide +kernel)
set_option maxRecDepth 20000 in
theorem gX9_isMeasure_X9_is : GoodIn wsX9_isMeasure (va_wsS RX9 151 yX9_is wsX9_is) := goodIn_app (goodIn_of _ (by decide +kernel)) ggX9_isMeasure_X9_is
set_option maxRecDepth 20000 in
theorem ggX9_measure_X9_row : GoodIn wsX9_measure wsX9_row := goodIn_r _ [7, 8, 9, 10, 6, 11, 31, 32, 33, 34, 35, 36, 37, 38, 39, 40, 41, 42, 43, 44, 45, 46, 47, 48, 49, 50, 51, 52, 53, 54, 55, 56, 57, 58, 59, 60, 61, 62, 63, 64, 65, 66, 67, 68, 69, 70, 71, 72, 73, 74] rfl (by decide +kernel)
set_option maxRecDepth 20000 in
theorem gX9_measure_X9_row : GoodIn wsX9_measure (wsV RX9 179 RX9 yX9_row wsX9_row) := goodIn_app (goodIn_of _ (by decide +kernel)) ggX9_measure_X9_row
set_option maxRecDepth 20000 in
theorem ggX9_measure_X9_all : GoodIn wsX9_measure wsX9_all := goodIn_r _ [15, 16, 17, 31, 32, 33, 34, 35, 36, 37, 38, 39, 40, 41, 42, 43, 44, 45, 46, 47, 48, 49, 50, 51, 52, 53, 54, 55, 56, 57, 58, 59, 60, 61, 62, 63, 64, 65, 66, 67, 68, 69, 70, 71, 72, 73, 74] rfl (by decide +kernel)
set_option maxRecDepth 20000 in
theorem gX9_measure_X9_all : GoodIn wsX9_measure (wsV RX9 169 RX9 yX9_all wsX9_all) := goodIn_app (goodIn_of _ (by decide +kernel)) ggX9_measure_X9_all
set_option maxRecDepth 20000 in
theorem ggX9_measure_X9_isMeasure : GoodIn wsX9_measure wsX9_isMeasure := goodIn_r _ [20, 21, 22, 6, 23] rfl (by decide +kernel)
set_option maxRecDepth 20000 in
theorem gX9_measure_X9_isMeasure : GoodIn wsX9_measure (va_wsS RX9 182 yX9_isMeasure wsX9_isMeasure) := goodIn_app (goodIn_of _ (by decide +kernel)) ggX9_measure_X9_isMeasure
set_option maxRecDepth 20000 in
theorem ggX9_measure_X9_sum : GoodIn wsX9_measure wsX9_sum := goodIn_r _ [27, 16, 28, 29, 30, 17, 31, 32, 33, 34, 35, 36, 37, 38, 39, 40, 41, 42, 43, 44, 45, 46, 47, 48, 49, 50, 51, 52, 53, 54, 55, 56, 57, 58, 59, 60, 61, 62, 63, 64, 65, 66, 67, 68, 69, 70, 71, 72, 73, 74] rfl (by decide +kernel)
set_option maxRecDepth 20000 in
theorem gX9_measure_X9_sum : GoodIn wsX9_measure (wsV RX9 187 RX9 yX9_sum wsX9_sum) := goodIn_app (goodIn_of _ (by decide +kernel)) ggX9_measure_X9_sum
set_option maxRecDepth 20000 in
theorem ggX9_isInForce_X9_isSame : GoodIn wsX9_isInForce wsX9_isSame := goodIn_r _ [8, 9, 10, 11, 12, 13, 14, 15, 16, 17, 18, 19, 20, 21, 22, 23, 24, 25, 26, 27, 28, 29, 30, 31, 32, 33, 34, 35, 36, 37, 38, 39, 40, 41, 42, 43, 44, 45, 46, 47, 48, 49, 50, 51, 52, 53, 54] rfl (by decide +kernel)
set_option maxRecDepth 20000 in
theorem gX9_isInForce_X9_isSame : GoodIn wsX9_isInForce (wsV RX9 284 RX9 yX9_isSame wsX9_isSame) := goodIn_app (goodIn_of _ (by decide +kernel)) ggX9_isInForce_X9_isSame
set_option maxRecDepth 20000 in
theorem ggX9_whose_X9_is : GoodIn wsX9_whose wsX9_is := goodIn_r _ [9] rfl (by decide +kernel)
set_option maxRecDepth 20000 in
theorem gX9_whose_X9_is : GoodIn wsX9_whose (va_wsS RX9 151 yX9_is wsX9_is) := goodIn_app (goodIn_of _ (by decide +kernel)) ggX9_whose_X9_is
set_option maxRecDepth 20000 in
theorem ggX9_tells_X9_all : GoodIn wsX9_tells wsX9_all := goodIn_r _ [6, 7, 8, 16, 17, 18, 19, 20, 21, 22, 23, 24, 25, 26, 27, 28, 29, 30, 31, 32, 33, 34, 35, 36, 37, 38, 39, 40, 41, 42, 43, 44, 45, 46, 47, 48, 49, 50, 51, 52, 53, 54, 55, 56, 57, 58, 59] rfl (by decide +kernel)
set_option maxRecDepth 20000 in
theorem gX9_tells_X9_all : GoodIn wsX9_tells (wsV RX9 169 RX9 yX9_all wsX9_all) := goodIn_app (goodIn_of _ (by decide +kernel)) ggX9_tells_X9_all
set_option maxRecDepth 20000 in
theorem ggX9_tells_X9_sum : GoodIn wsX9_tells wsX9_sum := goodIn_r _ [12, 7, 13, 14, 15, 8, 16, 17, 18, 19, 20, 21, 22, 23, 24, 25, 26, 27, 28, 29, 30, 31, 32, 33, 34, 35, 36, 37, 38, 39, 40, 41, 42, 43, 44, 45, 46, 47, 48, 49, 50, 51, 52, 53, 54, 55, 56, 57, 58, 59] rfl (by decide +kernel)
set_option maxRecDepth 20000 in
theorem gX9_tells_X9_sum : GoodIn wsX9_tells (wsV RX9 187 RX9 yX9_sum wsX9_sum) := goodIn_app (goodIn_of _ (by decide +kernel)) ggX9_tells_X9_sum
set_option maxHeartbeats 4000000 in
set_option maxRecDepth 100000 in
theorem m_sum (l : Launch) (D : va_G) (h0 : Nat) (ad : Nat → Nat) (cs : Nat → ClassId) (iv : Nat → Int32) (fv : Nat → Nat → Int32) (gv : Nat → Int64) (n3 : Nat) (u9 q : Nat) (h3 : iv 3 = nI n3) (b3 : n3 ≤ 40) (bt : u9 < 70) (hq : q = 0 ∨ q = 1 ∨ (10 ≤ q ∧ q < 15) ∨ (20 ≤ q ∧ q < 25) ∨ (30 ≤ q ∧ q < 34)) : Met l yX9_sum wsX9_sum ({ frames := 0, cells := 0, slots := 0, locals := 0 }) (va_Pc [.ref h0, .int (nI u9), .int (nI q)] (fun U => va_P D vwCl (mw h0 ad cs iv fv gv) U.heap ∧ va_K D vwCl (mT cs) U)) (vp_Sl (fun r => r = wG (fun i9 => fv 9 (40 * u9 + i9)) (pgN fv q) n3)) 0 0 (fun _ => False) := by
  refine Met.ofW (cc := cX9_sum) (maxL := 7) (ret := (some .long)) (by decide) rfl ?_
  intro p e s m args below meth c s₁ B hml hv
  obtain ⟨rfl, hP, hK⟩ := hv
  have hx := B.exec
  have hb := B.bytes
  have hr := B.returns
  have hts := atoms_spec (ws := wsX9_sum) B.pre
  have hown : s.vm.findClass RX9 = some m.cls := findClass_of_methodNamed B.named
  have hlocks := B.notSynchronized
  have hin9 : ∀ w ∈ u_ws RX9 TX9 44, w ∈ wsX9_sum := (fun _ h9 => List.mem_cons_of_mem _ ((List.mem_append_right _ h9)))
  have hl := lv_entry ([.ref h0, .int (nI u9), .int (nI q)]) (n := 7) (Nat.le_of_ble_eq_true rfl)
  rw [lg_entry_eq]
  generalize (lg_sl ([.ref h0, .int (nI u9), .int (nI q)]) ++ List.replicate (7 - (lg_sl ([.ref h0, .int (nI u9), .int (nI q)])).length) Slot.unset).toArray = ls at hl ⊢
  have hl : lv_has ls 7 [(0, .ref h0), (1, .int (nI u9)), (2, .int (nI q))] := hl
  refine lv_lconst (v := 0) hx hb dX9_sum_0 (by decide) ?_
  refine lv_lstore_n (lv' := [(3, .long 0), (0, .ref h0), (1, .int (nI u9)), (2, .int (nI q))]) hx hb dX9_sum_1 rfl hl (by decide) rfl (fun ls hl => ?_)
  refine lv_iconst (v := 0) hx hb dX9_sum_2 (by decide) ?_
  refine lv_istore (lv' := [(5, .int 0), (3, .long 0), (0, .ref h0), (1, .int (nI u9)), (2, .int (nI q))]) hx hb dX9_sum_3 hl (by decide) rfl (fun ls hl => ?_)
  refine lp_R (nL := 7) (σ := Nat × Int64) (lv := fun x9 => [(5, .int (nI x9.1)), (3, .long x9.2), (2, .int (nI q)), (1, .int (nI u9)), (0, .ref h0)]) (μ := fun x9 => n3 - x9.1) (J := fun x9 => (x9.1 ≤ n3) ∧ (x9.2 = wG (fun i9 => fv 9 (40 * u9 + i9)) (pgN fv q) x9.1)) (fun x9 ls hj hl ih_1 => ?_) (0, 0) ls ⟨(show 0 ≤ n3 from by omega), (show 0 = wG (fun i9 => fv 9 (40 * u9 + i9)) (pgN fv q) 0 from rfl)⟩ (lv_sub hl [0, 1, 4, 3, 2] rfl)
  obtain ⟨i_2, x_3⟩ := x9
  replace hj : (i_2 ≤ n3) ∧ (x_3 = wG (fun i9 => fv 9 (40 * u9 + i9)) (pgN fv q) i_2) := hj
  obtain ⟨hi_4, hs_5⟩ := hj
  have hl : lv_has ls 7 [(5, .int (nI i_2)), (3, .long x_3), (2, .int (nI q)), (1, .int (nI u9)), (0, .ref h0)] := hl
  refine lv_iload hx hb dX9_sum_5 (lv_at hl 0 rfl) ?_
  refine lv_aload_n hx hb dX9_sum_7 rfl (lv_at hl 4 rfl) ?_
  refine va_get (D := D) (ci := 9) (v := .int (iv 3)) (C := RX9) (T := TX9) (N := 44) hx hb hts hin9 hown hK hP 0 rfl rfl 3 (by decide) (hts (.fieldLink RX9 20 "HoneyHouseModel" "lots" "I") (List.mem_of_getElem? (i := 1) rfl)) (fun _ h9 => h9) rfl dX9_sum_8 ?_
  refine tp_i (y := nI n3) (h3) ?_
  refine lv_icmp_ge (tgt := 153) hx hb dX9_sum_11 (by decide) (fun c_6 => ?_) (fun c_6 => ?_)
  · have d_7 := n_le (a := n3) (b := i_2) (by omega) (by omega) c_6
    refine lv_lload_n hx hb dX9_sum_153 rfl (lv_at hl 1 rfl) ?_
    exact W.lret (v := x_3) hx hb hr (fun t ht hW => ⟨x_3, rfl, (by rw [hs_5, show i_2 = n3 by omega]), ht⟩) (fun _ h9 => by cases h9) dX9_sum_154
  have d_8 := n_nle (a := n3) (b := i_2) (by omega) (by omega) c_6
  refine lv_iload_n hx hb dX9_sum_14 rfl (lv_at hl 2 rfl) ?_
  refine lv_if_ne (tgt := 33) hx hb dX9_sum_15 (by decide) (fun c_9 => ?_) (fun c_9 => ?_)
  · have d_10 := n_ne (a := q) (b := 0) (by omega) (by omega) c_9
    refine lv_iload_n hx hb dX9_sum_33 rfl (lv_at hl 2 rfl) ?_
    refine lv_iconst (v := 1) hx hb dX9_sum_34 (by decide) ?_
    refine lv_icmp_ne (tgt := 53) hx hb dX9_sum_35 (by decide) (fun c_11 => ?_) (fun c_11 => ?_)
    · have d_12 := n_ne (a := q) (b := 1) (by omega) (by omega) c_11
      refine lv_iload_n hx hb dX9_sum_53 rfl (lv_at hl 2 rfl) ?_
      refine lv_bipush (v := 20) hx hb dX9_sum_54 (by decide) ?_
      refine lv_icmp_ge (tgt := 76) hx hb dX9_sum_56 (by decide) (fun c_13 => ?_) (fun c_13 => ?_)
      · have d_14 := n_le (a := 20) (b := q) (by omega) (by omega) c_13
        refine lv_iload_n hx hb dX9_sum_76 rfl (lv_at hl 2 rfl) ?_
        refine lv_bipush (v := 30) hx hb dX9_sum_77 (by decide) ?_
        refine lv_icmp_ge (tgt := 99) hx hb dX9_sum_79 (by decide) (fun c_15 => ?_) (fun c_15 => ?_)
        · have d_16 := n_le (a := 30) (b := q) (by omega) (by omega) c_15
          refine lv_aload_n hx hb dX9_sum_99 rfl (lv_at hl 4 rfl) ?_
          refine va_get (D := D) (ci := 9) (v := .ref (ad 4)) (C := RX9) (T := TX9) (N := 44) hx hb hts hin9 hown hK hP 0 rfl rfl 4 (by decide) (hts (.fieldLink RX9 23 "HoneyHouseModel" "lot" "[I") (List.mem_of_getElem? (i := 2) rfl)) (fun _ h9 => h9) rfl dX9_sum_100 ?_
          refine lv_bipush (v := 7) hx hb dX9_sum_103 (by decide) ?_
          refine lv_iload hx hb dX9_sum_105 (lv_at hl 0 rfl) ?_
          refine lv_imul hx hb dX9_sum_107 ?_
          refine tp_i (y := nI (7 * i_2)) (pk_mul 7 i_2) ?_
          refine lv_iconst (v := 4) hx hb dX9_sum_108 (by decide) ?_
          refine lv_iadd hx hb dX9_sum_109 ?_
          refine tp_i (y := nI ((7 * i_2) + 4)) (nI_add (7 * i_2) 4) ?_
          refine va_iald (f := fv 4) (n := 280) hx hb hK hP 2 1 rfl rfl (vp_in_nI (n := (7 * i_2) + 4) (by omega) (by omega)) dX9_sum_110 ?_
          refine lv_topi (fun z_17 hz_18 => ?_)
          rw [nI_clamp (n := (7 * i_2) + 4) (by omega)] at hz_18
          obtain rfl : z_17 = fv 4 ((7 * i_2) + 4) := hz_18
          refine lv_iload_n hx hb dX9_sum_111 rfl (lv_at hl 2 rfl) ?_
          refine lv_bipush (v := 30) hx hb dX9_sum_112 (by decide) ?_
          refine lv_isub hx hb dX9_sum_114 ?_
          refine tp_i (y := nI (q - 30)) (pk_sub (a := q) (b := 30) (by omega)) ?_
          refine lv_icmp_ne (tgt := 124) hx hb dX9_sum_115 (by decide) (fun c_19 => ?_) (fun c_19 => ?_)
          · refine lv_iconst (v := 0) hx hb dX9_sum_124 (by decide) ?_
            refine lv_istore (lv' := [(6, .int 0), (5, .int (nI i_2)), (3, .long x_3), (2, .int (nI q)), (1, .int (nI u9)), (0, .ref h0)]) hx hb dX9_sum_125 hl (by decide) rfl (fun ls hl => ?_)
            refine lv_lload_n hx hb dX9_sum_127 rfl (lv_at hl 2 rfl) ?_
            refine lv_aload_n hx hb dX9_sum_128 rfl (lv_at hl 5 rfl) ?_
            refine va_get (D := D) (ci := 9) (v := .ref (ad 9)) (C := RX9) (T := TX9) (N := 44) hx hb hts hin9 hown hK hP 0 rfl rfl 9 (by decide) (hts (.fieldLink RX9 38 "HoneyHouseModel" "grams" "[I") (List.mem_of_getElem? (i := 5) rfl)) (fun _ h9 => h9) rfl dX9_sum_129 ?_
            refine lv_bipush (v := 40) hx hb dX9_sum_132 (by decide) ?_
            refine lv_iload_n hx hb dX9_sum_134 rfl (lv_at hl 4 rfl) ?_
            refine lv_imul hx hb dX9_sum_135 ?_
            refine tp_i (y := nI (40 * u9)) (pk_mul 40 u9) ?_
            refine lv_iload hx hb dX9_sum_136 (lv_at hl 1 rfl) ?_
            refine lv_iadd hx hb dX9_sum_138 ?_
            refine tp_i (y := nI ((40 * u9) + i_2)) (nI_add (40 * u9) i_2) ?_
            refine va_iald (f := fv 9) (n := 2800) hx hb hK hP 7 6 rfl rfl (vp_in_nI (n := (40 * u9) + i_2) (by omega) (by omega)) dX9_sum_139 ?_
            refine lv_topi (fun z_20 hz_21 => ?_)
            rw [nI_clamp (n := (40 * u9) + i_2) (by omega)] at hz_21
            obtain rfl : z_20 = fv 9 ((40 * u9) + i_2) := hz_21
            refine lv_i2l hx hb dX9_sum_140 rfl ?_
            refine lv_iload hx hb dX9_sum_141 (lv_at hl 0 rfl) ?_
            refine lv_i2l (v := 0) hx hb dX9_sum_143 (by decide) ?_
            refine lv_lmul hx hb dX9_sum_144 ?_
            refine lv_ladd hx hb dX9_sum_145 ?_
            refine lv_lstore_n (lv' := [(3, .long (x_3 + (((fv 9 ((40 * u9) + i_2)).toInt64) * 0))), (6, .int 0), (5, .int (nI i_2)), (2, .int (nI q)), (1, .int (nI u9)), (0, .ref h0)]) hx hb dX9_sum_146 rfl hl (by decide) rfl (fun ls hl => ?_)
            refine lv_iinc (v := nI (i_2 + 1)) (lv' := [(5, .int (nI (i_2 + 1))), (3, .long (x_3 + (((fv 9 ((40 * u9) + i_2)).toInt64) * 0))), (6, .int 0), (2, .int (nI q)), (1, .int (nI u9)), (0, .ref h0)]) hx hb dX9_sum_147 hl (k := 2) rfl (nI_add i_2 1) (by decide) rfl (fun ls hl => ?_)
            refine lv_goto (tgt := 5) hx hb dX9_sum_150 (by decide) ?_
            exact ih_1 (i_2 + 1, x_3 + (((fv 9 ((40 * u9) + i_2)).toInt64) * 0)) ls (by show n3 - (i_2 + 1) < n3 - i_2; omega) ⟨(show (i_2 + 1) ≤ n3 from by omega), (show (x_3 + (((fv 9 ((40 * u9) + i_2)).toInt64) * 0)) = wG (fun i9 => fv 9 (40 * u9 + i9)) (pgN fv q) (i_2 + 1) from by rw [hs_5]; exact wG_c (g := (fun i9 => fv 9 (40 * u9 + i9))) (p := pgN fv q) 0 (by decide) rfl (show 0 = pgN fv q i_2 from by rw [pgN, if_neg (show ¬ q = 0 by omega), if_neg (show ¬ q = 1 by omega), if_neg (show ¬ q < 20 by omega), if_neg (show ¬ q < 30 by omega), if_neg c_19]))⟩ (lv_sub hl [0, 1, 3, 4, 5] rfl)
          refine lv_sipush (v := 1000) hx hb dX9_sum_118 (by decide) ?_
          refine lv_goto (tgt := 125) hx hb dX9_sum_121 (by decide) ?_
          refine lv_istore (lv' := [(6, .int 1000), (5, .int (nI i_2)), (3, .long x_3), (2, .int (nI q)), (1, .int (nI u9)), (0, .ref h0)]) hx hb dX9_sum_125 hl (by decide) rfl (fun ls hl => ?_)
          refine lv_lload_n hx hb dX9_sum_127 rfl (lv_at hl 2 rfl) ?_
          refine lv_aload_n hx hb dX9_sum_128 rfl (lv_at hl 5 rfl) ?_
          refine va_get (D := D) (ci := 9) (v := .ref (ad 9)) (C := RX9) (T := TX9) (N := 44) hx hb hts hin9 hown hK hP 0 rfl rfl 9 (by decide) (hts (.fieldLink RX9 38 "HoneyHouseModel" "grams" "[I") (List.mem_of_getElem? (i := 5) rfl)) (fun _ h9 => h9) rfl dX9_sum_129 ?_
          refine lv_bipush (v := 40) hx hb dX9_sum_132 (by decide) ?_
          refine lv_iload_n hx hb dX9_sum_134 rfl (lv_at hl 4 rfl) ?_
          refine lv_imul hx hb dX9_sum_135 ?_
          refine tp_i (y := nI (40 * u9)) (pk_mul 40 u9) ?_
          refine lv_iload hx hb dX9_sum_136 (lv_at hl 1 rfl) ?_
          refine lv_iadd hx hb dX9_sum_138 ?_
          refine tp_i (y := nI ((40 * u9) + i_2)) (nI_add (40 * u9) i_2) ?_
          refine va_iald (f := fv 9) (n := 2800) hx hb hK hP 7 6 rfl rfl (vp_in_nI (n := (40 * u9) + i_2) (by omega) (by omega)) dX9_sum_139 ?_
          refine lv_topi (fun z_22 hz_23 => ?_)
          rw [nI_clamp (n := (40 * u9) + i_2) (by omega)] at hz_23
          obtain rfl : z_22 = fv 9 ((40 * u9) + i_2) := hz_23
          refine lv_i2l hx hb dX9_sum_140 rfl ?_
          refine lv_iload hx hb dX9_sum_141 (lv_at hl 0 rfl) ?_
          refine lv_i2l (v := 1000) hx hb dX9_sum_143 (by decide) ?_
          refine lv_lmul hx hb dX9_sum_144 ?_
          refine lv_ladd hx hb dX9_sum_145 ?_
          refine lv_lstore_n (lv' := [(3, .long (x_3 + (((fv 9 ((40 * u9) + i_2)).toInt64) * 1000))), (6, .int 1000), (5, .int (nI i_2)), (2, .int (nI q)), (1, .int (nI u9)), (0, .ref h0)]) hx hb dX9_sum_146 rfl hl (by decide) rfl (fun ls hl => ?_)
          refine lv_iinc (v := nI (i_2 + 1)) (lv' := [(5, .int (nI (i_2 + 1))), (3, .long (x_3 + (((fv 9 ((40 * u9) + i_2)).toInt64) * 1000))), (6, .int 1000), (2, .int (nI q)), (1, .int (nI u9)), (0, .ref h0)]) hx hb dX9_sum_147 hl (k := 2) rfl (nI_add i_2 1) (by decide) rfl (fun ls hl => ?_)
          refine lv_goto (tgt := 5) hx hb dX9_sum_150 (by decide) ?_
          exact ih_1 (i_2 + 1, x_3 + (((fv 9 ((40 * u9) + i_2)).toInt64) * 1000)) ls (by show n3 - (i_2 + 1) < n3 - i_2; omega) ⟨(show (i_2 + 1) ≤ n3 from by omega), (show (x_3 + (((fv 9 ((40 * u9) + i_2)).toInt64) * 1000)) = wG (fun i9 => fv 9 (40 * u9 + i9)) (pgN fv q) (i_2 + 1) from by rw [hs_5]; exact wG_c (g := (fun i9 => fv 9 (40 * u9 + i9))) (p := pgN fv q) 1000 (by decide) rfl (show 1000 = pgN fv q i_2 from by rw [pgN, if_neg (show ¬ q = 0 by omega), if_neg (show ¬ q = 1 by omega), if_neg (show ¬ q < 20 by omega), if_neg (show ¬ q < 30 by omega), if_pos c_19]))⟩ (lv_sub hl [0, 1, 3, 4, 5] rfl)
        have d_24 := n_nle (a := 30) (b := q) (by omega) (by omega) c_15
        refine lv_aload_n hx hb dX9_sum_82 rfl (lv_at hl 4 rfl) ?_
        refine va_get (D := D) (ci := 9) (v := .ref (ad 6)) (C := RX9) (T := TX9) (N := 44) hx hb hts hin9 hown hK hP 0 rfl rfl 6 (by decide) (hts (.fieldLink RX9 29 "HoneyHouseModel" "high" "[I") (List.mem_of_getElem? (i := 4) rfl)) (fun _ h9 => h9) rfl dX9_sum_83 ?_
        refine lv_iconst (v := 5) hx hb dX9_sum_86 (by decide) ?_
        refine lv_iload hx hb dX9_sum_87 (lv_at hl 0 rfl) ?_
        refine lv_imul hx hb dX9_sum_89 ?_
        refine tp_i (y := nI (5 * i_2)) (pk_mul 5 i_2) ?_
        refine lv_iload_n hx hb dX9_sum_90 rfl (lv_at hl 2 rfl) ?_
        refine lv_iadd hx hb dX9_sum_91 ?_
        refine tp_i (y := nI ((5 * i_2) + q)) (nI_add (5 * i_2) q) ?_
        refine lv_bipush (v := 20) hx hb dX9_sum_92 (by decide) ?_
        refine lv_isub hx hb dX9_sum_94 ?_
        refine tp_i (y := nI (((5 * i_2) + q) - 20)) (pk_sub (a := (5 * i_2) + q) (b := 20) (by omega)) ?_
        refine va_iald (f := fv 6) (n := 200) hx hb hK hP 4 3 rfl rfl (vp_in_nI (n := ((5 * i_2) + q) - 20) (by omega) (by omega)) dX9_sum_95 ?_
        refine lv_topi (fun z_25 hz_26 => ?_)
        rw [nI_clamp (n := ((5 * i_2) + q) - 20) (by omega)] at hz_26
        obtain rfl : z_25 = fv 6 (((5 * i_2) + q) - 20) := hz_26
        refine lv_goto (tgt := 125) hx hb dX9_sum_96 (by decide) ?_
        refine lv_istore (lv' := [(6, .int (fv 6 (((5 * i_2) + q) - 20))), (5, .int (nI i_2)), (3, .long x_3), (2, .int (nI q)), (1, .int (nI u9)), (0, .ref h0)]) hx hb dX9_sum_125 hl (by decide) rfl (fun ls hl => ?_)
        refine lv_lload_n hx hb dX9_sum_127 rfl (lv_at hl 2 rfl) ?_
        refine lv_aload_n hx hb dX9_sum_128 rfl (lv_at hl 5 rfl) ?_
        refine va_get (D := D) (ci := 9) (v := .ref (ad 9)) (C := RX9) (T := TX9) (N := 44) hx hb hts hin9 hown hK hP 0 rfl rfl 9 (by decide) (hts (.fieldLink RX9 38 "HoneyHouseModel" "grams" "[I") (List.mem_of_getElem? (i := 5) rfl)) (fun _ h9 => h9) rfl dX9_sum_129 ?_
        refine lv_bipush (v := 40) hx hb dX9_sum_132 (by decide) ?_
        refine lv_iload_n hx hb dX9_sum_134 rfl (lv_at hl 4 rfl) ?_
        refine lv_imul hx hb dX9_sum_135 ?_
        refine tp_i (y := nI (40 * u9)) (pk_mul 40 u9) ?_
        refine lv_iload hx hb dX9_sum_136 (lv_at hl 1 rfl) ?_
        refine lv_iadd hx hb dX9_sum_138 ?_
        refine tp_i (y := nI ((40 * u9) + i_2)) (nI_add (40 * u9) i_2) ?_
        refine va_iald (f := fv 9) (n := 2800) hx hb hK hP 7 6 rfl rfl (vp_in_nI (n := (40 * u9) + i_2) (by omega) (by omega)) dX9_sum_139 ?_
        refine lv_topi (fun z_27 hz_28 => ?_)
        rw [nI_clamp (n := (40 * u9) + i_2) (by omega)] at hz_28
        obtain rfl : z_27 = fv 9 ((40 * u9) + i_2) := hz_28
        refine lv_i2l hx hb dX9_sum_140 rfl ?_
        refine lv_iload hx hb dX9_sum_141 (lv_at hl 0 rfl) ?_
        refine lv_i2l hx hb dX9_sum_143 rfl ?_
        refine lv_lmul hx hb dX9_sum_144 ?_
        refine lv_ladd hx hb dX9_sum_145 ?_
        refine lv_lstore_n (lv' := [(3, .long (x_3 + (((fv 9 ((40 * u9) + i_2)).toInt64) * ((fv 6 (((5 * i_2) + q) - 20)).toInt64)))), (6, .int (fv 6 (((5 * i_2) + q) - 20))), (5, .int (nI i_2)), (2, .int (nI q)), (1, .int (nI u9)), (0, .ref h0)]) hx hb dX9_sum_146 rfl hl (by decide) rfl (fun ls hl => ?_)
        refine lv_iinc (v := nI (i_2 + 1)) (lv' := [(5, .int (nI (i_2 + 1))), (3, .long (x_3 + (((fv 9 ((40 * u9) + i_2)).toInt64) * ((fv 6 (((5 * i_2) + q) - 20)).toInt64)))), (6, .int (fv 6 (((5 * i_2) + q) - 20))), (2, .int (nI q)), (1, .int (nI u9)), (0, .ref h0)]) hx hb dX9_sum_147 hl (k := 2) rfl (nI_add i_2 1) (by decide) rfl (fun ls hl => ?_)
        refine lv_goto (tgt := 5) hx hb dX9_sum_150 (by decide) ?_
        exact ih_1 (i_2 + 1, x_3 + (((fv 9 ((40 * u9) + i_2)).toInt64) * ((fv 6 (((5 * i_2) + q) - 20)).toInt64))) ls (by show n3 - (i_2 + 1) < n3 - i_2; omega) ⟨(show (i_2 + 1) ≤ n3 from by omega), (show (x_3 + (((fv 9 ((40 * u9) + i_2)).toInt64) * ((fv 6 (((5 * i_2) + q) - 20)).toInt64))) = wG (fun i9 => fv 9 (40 * u9 + i9)) (pgN fv q) (i_2 + 1) from by rw [hs_5]; exact wG_s (g := (fun i9 => fv 9 (40 * u9 + i9))) (p := pgN fv q) rfl (show fv 6 (((5 * i_2) + q) - 20) = pgN fv q i_2 from by rw [pgN, if_neg (show ¬ q = 0 by omega), if_neg (show ¬ q = 1 by omega), if_neg (show ¬ q < 20 by omega), if_pos (show q < 30 by omega)]; exact congrArg (fv 6) (by omega)))⟩ (lv_sub hl [0, 1, 3, 4, 5] rfl)
      have d_29 := n_nle (a := 20) (b := q) (by omega) (by omega) c_13
      refine lv_aload_n hx hb dX9_sum_59 rfl (lv_at hl 4 rfl) ?_
      refine va_get (D := D) (ci := 9) (v := .ref (ad 5)) (C := RX9) (T := TX9) (N := 44) hx hb hts hin9 hown hK hP 0 rfl rfl 5 (by decide) (hts (.fieldLink RX9 26 "HoneyHouseModel" "low" "[I") (List.mem_of_getElem? (i := 3) rfl)) (fun _ h9 => h9) rfl dX9_sum_60 ?_
      refine lv_iconst (v := 5) hx hb dX9_sum_63 (by decide) ?_
      refine lv_iload hx hb dX9_sum_64 (lv_at hl 0 rfl) ?_
      refine lv_imul hx hb dX9_sum_66 ?_
      refine tp_i (y := nI (5 * i_2)) (pk_mul 5 i_2) ?_
      refine lv_iload_n hx hb dX9_sum_67 rfl (lv_at hl 2 rfl) ?_
      refine lv_iadd hx hb dX9_sum_68 ?_
      refine tp_i (y := nI ((5 * i_2) + q)) (nI_add (5 * i_2) q) ?_
      refine lv_bipush (v := 10) hx hb dX9_sum_69 (by decide) ?_
      refine lv_isub hx hb dX9_sum_71 ?_
      refine tp_i (y := nI (((5 * i_2) + q) - 10)) (pk_sub (a := (5 * i_2) + q) (b := 10) (by omega)) ?_
      refine va_iald (f := fv 5) (n := 200) hx hb hK hP 3 2 rfl rfl (vp_in_nI (n := ((5 * i_2) + q) - 10) (by omega) (by omega)) dX9_sum_72 ?_
      refine lv_topi (fun z_30 hz_31 => ?_)
      rw [nI_clamp (n := ((5 * i_2) + q) - 10) (by omega)] at hz_31
      obtain rfl : z_30 = fv 5 (((5 * i_2) + q) - 10) := hz_31
      refine lv_goto (tgt := 125) hx hb dX9_sum_73 (by decide) ?_
      refine lv_istore (lv' := [(6, .int (fv 5 (((5 * i_2) + q) - 10))), (5, .int (nI i_2)), (3, .long x_3), (2, .int (nI q)), (1, .int (nI u9)), (0, .ref h0)]) hx hb dX9_sum_125 hl (by decide) rfl (fun ls hl => ?_)
      refine lv_lload_n hx hb dX9_sum_127 rfl (lv_at hl 2 rfl) ?_
      refine lv_aload_n hx hb dX9_sum_128 rfl (lv_at hl 5 rfl) ?_
      refine va_get (D := D) (ci := 9) (v := .ref (ad 9)) (C := RX9) (T := TX9) (N := 44) hx hb hts hin9 hown hK hP 0 rfl rfl 9 (by decide) (hts (.fieldLink RX9 38 "HoneyHouseModel" "grams" "[I") (List.mem_of_getElem? (i := 5) rfl)) (fun _ h9 => h9) rfl dX9_sum_129 ?_
      refine lv_bipush (v := 40) hx hb dX9_sum_132 (by decide) ?_
      refine lv_iload_n hx hb dX9_sum_134 rfl (lv_at hl 4 rfl) ?_
      refine lv_imul hx hb dX9_sum_135 ?_
      refine tp_i (y := nI (40 * u9)) (pk_mul 40 u9) ?_
      refine lv_iload hx hb dX9_sum_136 (lv_at hl 1 rfl) ?_
      refine lv_iadd hx hb dX9_sum_138 ?_
      refine tp_i (y := nI ((40 * u9) + i_2)) (nI_add (40 * u9) i_2) ?_
      refine va_iald (f := fv 9) (n := 2800) hx hb hK hP 7 6 rfl rfl (vp_in_nI (n := (40 * u9) + i_2) (by omega) (by omega)) dX9_sum_139 ?_
      refine lv_topi (fun z_32 hz_33 => ?_)
      rw [nI_clamp (n := (40 * u9) + i_2) (by omega)] at hz_33
      obtain rfl : z_32 = fv 9 ((40 * u9) + i_2) := hz_33
      refine lv_i2l hx hb dX9_sum_140 rfl ?_
      refine lv_iload hx hb dX9_sum_141 (lv_at hl 0 rfl) ?_
      refine lv_i2l hx hb dX9_sum_143 rfl ?_
      refine lv_lmul hx hb dX9_sum_144 ?_
      refine lv_ladd hx hb dX9_sum_145 ?_
      refine lv_lstore_n (lv' := [(3, .long (x_3 + (((fv 9 ((40 * u9) + i_2)).toInt64) * ((fv 5 (((5 * i_2) + q) - 10)).toInt64)))), (6, .int (fv 5 (((5 * i_2) + q) - 10))), (5, .int (nI i_2)), (2, .int (nI q)), (1, .int (nI u9)), (0, .ref h0)]) hx hb dX9_sum_146 rfl hl (by decide) rfl (fun ls hl => ?_)
      refine lv_iinc (v := nI (i_2 + 1)) (lv' := [(5, .int (nI (i_2 + 1))), (3, .long (x_3 + (((fv 9 ((40 * u9) + i_2)).toInt64) * ((fv 5 (((5 * i_2) + q) - 10)).toInt64)))), (6, .int (fv 5 (((5 * i_2) + q) - 10))), (2, .int (nI q)), (1, .int (nI u9)), (0, .ref h0)]) hx hb dX9_sum_147 hl (k := 2) rfl (nI_add i_2 1) (by decide) rfl (fun ls hl => ?_)
      refine lv_goto (tgt := 5) hx hb dX9_sum_150 (by decide) ?_
      exact ih_1 (i_2 + 1, x_3 + (((fv 9 ((40 * u9) + i_2)).toInt64) * ((fv 5 (((5 * i_2) + q) - 10)).toInt64))) ls (by show n3 - (i_2 + 1) < n3 - i_2; omega) ⟨(show (i_2 + 1) ≤ n3 from by omega), (show (x_3 + (((fv 9 ((40 * u9) + i_2)).toInt64) * ((fv 5 (((5 * i_2) + q) - 10)).toInt64))) = wG (fun i9 => fv 9 (40 * u9 + i9)) (pgN fv q) (i_2 + 1) from by rw [hs_5]; exact wG_s (g := (fun i9 => fv 9 (40 * u9 + i9))) (p := pgN fv q) rfl (show fv 5 (((5 * i_2) + q) - 10) = pgN fv q i_2 from by rw [pgN, if_neg (show ¬ q = 0 by omega), if_neg (show ¬ q = 1 by omega), if_pos (show q < 20 by omega)]; exact congrArg (fv 5) (by omega)))⟩ (lv_sub hl [0, 1, 3, 4, 5] rfl)
    have d_34 := n_eq (a := q) (b := 1) (by omega) (by omega) c_11
    refine lv_aload_n hx hb dX9_sum_38 rfl (lv_at hl 4 rfl) ?_
    refine va_get (D := D) (ci := 9) (v := .ref (ad 4)) (C := RX9) (T := TX9) (N := 44) hx hb hts hin9 hown hK hP 0 rfl rfl 4 (by decide) (hts (.fieldLink RX9 23 "HoneyHouseModel" "lot" "[I") (List.mem_of_getElem? (i := 2) rfl)) (fun _ h9 => h9) rfl dX9_sum_39 ?_
    refine lv_bipush (v := 7) hx hb dX9_sum_42 (by decide) ?_
    refine lv_iload hx hb dX9_sum_44 (lv_at hl 0 rfl) ?_
    refine lv_imul hx hb dX9_sum_46 ?_
    refine tp_i (y := nI (7 * i_2)) (pk_mul 7 i_2) ?_
    refine lv_iconst (v := 3) hx hb dX9_sum_47 (by decide) ?_
    refine lv_iadd hx hb dX9_sum_48 ?_
    refine tp_i (y := nI ((7 * i_2) + 3)) (nI_add (7 * i_2) 3) ?_
    refine va_iald (f := fv 4) (n := 280) hx hb hK hP 2 1 rfl rfl (vp_in_nI (n := (7 * i_2) + 3) (by omega) (by omega)) dX9_sum_49 ?_
    refine lv_topi (fun z_35 hz_36 => ?_)
    rw [nI_clamp (n := (7 * i_2) + 3) (by omega)] at hz_36
    obtain rfl : z_35 = fv 4 ((7 * i_2) + 3) := hz_36
    refine lv_goto (tgt := 125) hx hb dX9_sum_50 (by decide) ?_
    refine lv_istore (lv' := [(6, .int (fv 4 ((7 * i_2) + 3))), (5, .int (nI i_2)), (3, .long x_3), (2, .int (nI q)), (1, .int (nI u9)), (0, .ref h0)]) hx hb dX9_sum_125 hl (by decide) rfl (fun ls hl => ?_)
    refine lv_lload_n hx hb dX9_sum_127 rfl (lv_at hl 2 rfl) ?_
    refine lv_aload_n hx hb dX9_sum_128 rfl (lv_at hl 5 rfl) ?_
    refine va_get (D := D) (ci := 9) (v := .ref (ad 9)) (C := RX9) (T := TX9) (N := 44) hx hb hts hin9 hown hK hP 0 rfl rfl 9 (by decide) (hts (.fieldLink RX9 38 "HoneyHouseModel" "grams" "[I") (List.mem_of_getElem? (i := 5) rfl)) (fun _ h9 => h9) rfl dX9_sum_129 ?_
    refine lv_bipush (v := 40) hx hb dX9_sum_132 (by decide) ?_
    refine lv_iload_n hx hb dX9_sum_134 rfl (lv_at hl 4 rfl) ?_
    refine lv_imul hx hb dX9_sum_135 ?_
    refine tp_i (y := nI (40 * u9)) (pk_mul 40 u9) ?_
    refine lv_iload hx hb dX9_sum_136 (lv_at hl 1 rfl) ?_
    refine lv_iadd hx hb dX9_sum_138 ?_
    refine tp_i (y := nI ((40 * u9) + i_2)) (nI_add (40 * u9) i_2) ?_
    refine va_iald (f := fv 9) (n := 2800) hx hb hK hP 7 6 rfl rfl (vp_in_nI (n := (40 * u9) + i_2) (by omega) (by omega)) dX9_sum_139 ?_
    refine lv_topi (fun z_37 hz_38 => ?_)
    rw [nI_clamp (n := (40 * u9) + i_2) (by omega)] at hz_38
    obtain rfl : z_37 = fv 9 ((40 * u9) + i_2) := hz_38
    refine lv_i2l hx hb dX9_sum_140 rfl ?_
    refine lv_iload hx hb dX9_sum_141 (lv_at hl 0 rfl) ?_
    refine lv_i2l hx hb dX9_sum_143 rfl ?_
    refine lv_lmul hx hb dX9_sum_144 ?_
    refine lv_ladd hx hb dX9_sum_145 ?_
    refine lv_lstore_n (lv' := [(3, .long (x_3 + (((fv 9 ((40 * u9) + i_2)).toInt64) * ((fv 4 ((7 * i_2) + 3)).toInt64)))), (6, .int (fv 4 ((7 * i_2) + 3))), (5, .int (nI i_2)), (2, .int (nI q)), (1, .int (nI u9)), (0, .ref h0)]) hx hb dX9_sum_146 rfl hl (by decide) rfl (fun ls hl => ?_)
    refine lv_iinc (v := nI (i_2 + 1)) (lv' := [(5, .int (nI (i_2 + 1))), (3, .long (x_3 + (((fv 9 ((40 * u9) + i_2)).toInt64) * ((fv 4 ((7 * i_2) + 3)).toInt64)))), (6, .int (fv 4 ((7 * i_2) + 3))), (2, .int (nI q)), (1, .int (nI u9)), (0, .ref h0)]) hx hb dX9_sum_147 hl (k := 2) rfl (nI_add i_2 1) (by decide) rfl (fun ls hl => ?_)
    refine lv_goto (tgt := 5) hx hb dX9_sum_150 (by decide) ?_
    exact ih_1 (i_2 + 1, x_3 + (((fv 9 ((40 * u9) + i_2)).toInt64) * ((fv 4 ((7 * i_2) + 3)).toInt64))) ls (by show n3 - (i_2 + 1) < n3 - i_2; omega) ⟨(show (i_2 + 1) ≤ n3 from by omega), (show (x_3 + (((fv 9 ((40 * u9) + i_2)).toInt64) * ((fv 4 ((7 * i_2) + 3)).toInt64))) = wG (fun i9 => fv 9 (40 * u9 + i9)) (pgN fv q) (i_2 + 1) from by rw [hs_5]; exact wG_s (g := (fun i9 => fv 9 (40 * u9 + i9))) (p := pgN fv q) rfl (show fv 4 ((7 * i_2) + 3) = pgN fv q i_2 from by rw [pgN, if_neg (show ¬ q = 0 by omega), if_pos (show q = 1 by omega)]))⟩ (lv_sub hl [0, 1, 3, 4, 5] rfl)
  have d_39 := n_eq (a := q) (b := 0) (by omega) (by omega) c_9
  refine lv_aload_n hx hb dX9_sum_18 rfl (lv_at hl 4 rfl) ?_
  refine va_get (D := D) (ci := 9) (v := .ref (ad 4)) (C := RX9) (T := TX9) (N := 44) hx hb hts hin9 hown hK hP 0 rfl rfl 4 (by decide) (hts (.fieldLink RX9 23 "HoneyHouseModel" "lot" "[I") (List.mem_of_getElem? (i := 2) rfl)) (fun _ h9 => h9) rfl dX9_sum_19 ?_
  refine lv_bipush (v := 7) hx hb dX9_sum_22 (by decide) ?_
  refine lv_iload hx hb dX9_sum_24 (lv_at hl 0 rfl) ?_
  refine lv_imul hx hb dX9_sum_26 ?_
  refine tp_i (y := nI (7 * i_2)) (pk_mul 7 i_2) ?_
  refine lv_iconst (v := 2) hx hb dX9_sum_27 (by decide) ?_
  refine lv_iadd hx hb dX9_sum_28 ?_
  refine tp_i (y := nI ((7 * i_2) + 2)) (nI_add (7 * i_2) 2) ?_
  refine va_iald (f := fv 4) (n := 280) hx hb hK hP 2 1 rfl rfl (vp_in_nI (n := (7 * i_2) + 2) (by omega) (by omega)) dX9_sum_29 ?_
  refine lv_topi (fun z_40 hz_41 => ?_)
  rw [nI_clamp (n := (7 * i_2) + 2) (by omega)] at hz_41
  obtain rfl : z_40 = fv 4 ((7 * i_2) + 2) := hz_41
  refine lv_goto (tgt := 125) hx hb dX9_sum_30 (by decide) ?_
  refine lv_istore (lv' := [(6, .int (fv 4 ((7 * i_2) + 2))), (5, .int (nI i_2)), (3, .long x_3), (2, .int (nI q)), (1, .int (nI u9)), (0, .ref h0)]) hx hb dX9_sum_125 hl (by decide) rfl (fun ls hl => ?_)
  refine lv_lload_n hx hb dX9_sum_127 rfl (lv_at hl 2 rfl) ?_
  refine lv_aload_n hx hb dX9_sum_128 rfl (lv_at hl 5 rfl) ?_
  refine va_get (D := D) (ci := 9) (v := .ref (ad 9)) (C := RX9) (T := TX9) (N := 44) hx hb hts hin9 hown hK hP 0 rfl rfl 9 (by decide) (hts (.fieldLink RX9 38 "HoneyHouseModel" "grams" "[I") (List.mem_of_getElem? (i := 5) rfl)) (fun _ h9 => h9) rfl dX9_sum_129 ?_
  refine lv_bipush (v := 40) hx hb dX9_sum_132 (by decide) ?_
  refine lv_iload_n hx hb dX9_sum_134 rfl (lv_at hl 4 rfl) ?_
  refine lv_imul hx hb dX9_sum_135 ?_
  refine tp_i (y := nI (40 * u9)) (pk_mul 40 u9) ?_
  refine lv_iload hx hb dX9_sum_136 (lv_at hl 1 rfl) ?_
  refine lv_iadd hx hb dX9_sum_138 ?_
  refine tp_i (y := nI ((40 * u9) + i_2)) (nI_add (40 * u9) i_2) ?_
  refine va_iald (f := fv 9) (n := 2800) hx hb hK hP 7 6 rfl rfl (vp_in_nI (n := (40 * u9) + i_2) (by omega) (by omega)) dX9_sum_139 ?_
  refine lv_topi (fun z_42 hz_43 => ?_)
  rw [nI_clamp (n := (40 * u9) + i_2) (by omega)] at hz_43
  obtain rfl : z_42 = fv 9 ((40 * u9) + i_2) := hz_43
  refine lv_i2l hx hb dX9_sum_140 rfl ?_
  refine lv_iload hx hb dX9_sum_141 (lv_at hl 0 rfl) ?_
  refine lv_i2l hx hb dX9_sum_143 rfl ?_
  refine lv_lmul hx hb dX9_sum_144 ?_
  refine lv_ladd hx hb dX9_sum_145 ?_
  refine lv_lstore_n (lv' := [(3, .long (x_3 + (((fv 9 ((40 * u9) + i_2)).toInt64) * ((fv 4 ((7 * i_2) + 2)).toInt64)))), (6, .int (fv 4 ((7 * i_2) + 2))), (5, .int (nI i_2)), (2, .int (nI q)), (1, .int (nI u9)), (0, .ref h0)]) hx hb dX9_sum_146 rfl hl (by decide) rfl (fun ls hl => ?_)
  refine lv_iinc (v := nI (i_2 + 1)) (lv' := [(5, .int (nI (i_2 + 1))), (3, .long (x_3 + (((fv 9 ((40 * u9) + i_2)).toInt64) * ((fv 4 ((7 * i_2) + 2)).toInt64)))), (6, .int (fv 4 ((7 * i_2) + 2))), (2, .int (nI q)), (1, .int (nI u9)), (0, .ref h0)]) hx hb dX9_sum_147 hl (k := 2) rfl (nI_add i_2 1) (by decide) rfl (fun ls hl => ?_)
  refine lv_goto (tgt := 5) hx hb dX9_sum_150 (by decide) ?_
  exact ih_1 (i_2 + 1, x_3 + (((fv 9 ((40 * u9) + i_2)).toInt64) * ((fv 4 ((7 * i_2) + 2)).toInt64))) ls (by show n3 - (i_2 + 1) < n3 - i_2; omega) ⟨(show (i_2 + 1) ≤ n3 from by omega), (show (x_3 + (((fv 9 ((40 * u9) + i_2)).toInt64) * ((fv 4 ((7 * i_2) + 2)).toInt64))) = wG (fun i9 => fv 9 (40 * u9 + i9)) (pgN fv q) (i_2 + 1) from by rw [hs_5]; exact wG_s (g := (fun i9 => fv 9 (40 * u9 + i9))) (p := pgN fv q) rfl (show fv 4 ((7 * i_2) + 2) = pgN fv q i_2 from by rw [pgN, if_pos (show q = 0 by omega)]))⟩ (lv_sub hl [0, 1, 3, 4, 5] rfl)
set_option maxHeartbeats 4000000 in
set_option maxRecDepth 100000 in
theorem s_X9_isMeasure (l : Launch) (n : Int32) : Met l yX9_isMeasure wsX9_isMeasure ({ frames := 1, cells := 0, slots := 0, locals := 22 }) (va_Pc [.int n] (fun _ => True)) (vp_Si (fun r => (r = 0 ∧ ¬ isM n) ∨ (r = 1 ∧ isM n ∧ ∃ q : Nat, (q = 0 ∨ q = 1 ∨ q = 2 ∨ (10 ≤ q ∧ q < 15) ∨ (20 ≤ q ∧ q < 25) ∨ (30 ≤ q ∧ q < 34)) ∧ n = nI q))) 0 0 (fun _ => False) := by
  refine Met.ofW (cc := cX9_isMeasure) (maxL := 1) (ret := (some .boolean)) (by decide) rfl ?_
  intro p e s m args below meth c s₁ B hml hv
  obtain ⟨rfl, -⟩ := hv
  have hx := B.exec
  have hb := B.bytes
  have hr := B.returns
  have hts := atoms_spec (ws := wsX9_isMeasure) B.pre
  have hown : s.vm.findClass RX9 = some m.cls := findClass_of_methodNamed B.named
  have hlocks := B.notSynchronized
  have hl := lv_entry ([.int n]) (n := 1) (Nat.le_of_ble_eq_true rfl)
  rw [lg_entry_eq]
  generalize (lg_sl ([.int n]) ++ List.replicate (1 - (lg_sl ([.int n])).length) Slot.unset).toArray = ls at hl ⊢
  have hl : lv_has ls 1 [(0, .int n)] := hl
  refine lv_iload_n hx hb dX9_isMeasure_0 rfl (lv_at hl 0 rfl) ?_
  refine lv_iconst (v := 0) hx hb dX9_isMeasure_1 (by decide) ?_
  refine lv_iconst (v := 2) hx hb dX9_isMeasure_2 (by decide) ?_
  refine vp_callSi (W.runS (As := [.int n, .int 0, .int 2]) (rest := []) ⟨hx, hb, hml, hown, hts⟩ (s_X9_is l n 0 2) (va_cwS 3 hts gX9_isMeasure_X9_is rfl rfl rfl (by decide +kernel) ⟨Nat.le_of_ble_eq_true rfl, Nat.le_of_ble_eq_true rfl⟩) ⟨fun a U g mk q => q, fun U hU hW => ⟨rfl, trivial⟩⟩ rfl rfl hl.1 rfl (lv_room (Nat.le_of_ble_eq_true rfl)) dX9_isMeasure_3 ⟨Nat.le_of_ble_eq_true rfl, Nat.le_of_ble_eq_true rfl⟩) (fun r_1 k_2 => ?_)
  rcases k_2 with ⟨rfl, a_3o⟩ | ⟨rfl, a_3, b_4⟩
  · refine lv_if_ne (tgt := 42) hx hb dX9_isMeasure_6 (by decide) (fun c_5 => absurd (by decide) c_5) (fun c_5 => ?_)
    refine lv_iload_n hx hb dX9_isMeasure_9 rfl (lv_at hl 0 rfl) ?_
    refine lv_bipush (v := 10) hx hb dX9_isMeasure_10 (by decide) ?_
    refine lv_bipush (v := 14) hx hb dX9_isMeasure_12 (by decide) ?_
    refine vp_callSi (W.runS (As := [.int n, .int 10, .int 14]) (rest := []) ⟨hx, hb, hml, hown, hts⟩ (s_X9_is l n 10 14) (va_cwS 3 hts gX9_isMeasure_X9_is rfl rfl rfl (by decide +kernel) ⟨Nat.le_of_ble_eq_true rfl, Nat.le_of_ble_eq_true rfl⟩) ⟨fun a U g mk q => q, fun U hU hW => ⟨rfl, trivial⟩⟩ rfl rfl hl.1 rfl (lv_room (Nat.le_of_ble_eq_true rfl)) dX9_isMeasure_14 ⟨Nat.le_of_ble_eq_true rfl, Nat.le_of_ble_eq_true rfl⟩) (fun r_6 k_7 => ?_)
    rcases k_7 with ⟨rfl, a_8o⟩ | ⟨rfl, a_8, b_9⟩
    · refine lv_if_ne (tgt := 42) hx hb dX9_isMeasure_17 (by decide) (fun c_10 => absurd (by decide) c_10) (fun c_10 => ?_)
      refine lv_iload_n hx hb dX9_isMeasure_20 rfl (lv_at hl 0 rfl) ?_
      refine lv_bipush (v := 20) hx hb dX9_isMeasure_21 (by decide) ?_
      refine lv_bipush (v := 24) hx hb dX9_isMeasure_23 (by decide) ?_
      refine vp_callSi (W.runS (As := [.int n, .int 20, .int 24]) (rest := []) ⟨hx, hb, hml, hown, hts⟩ (s_X9_is l n 20 24) (va_cwS 3 hts gX9_isMeasure_X9_is rfl rfl rfl (by decide +kernel) ⟨Nat.le_of_ble_eq_true rfl, Nat.le_of_ble_eq_true rfl⟩) ⟨fun a U g mk q => q, fun U hU hW => ⟨rfl, trivial⟩⟩ rfl rfl hl.1 rfl (lv_room (Nat.le_of_ble_eq_true rfl)) dX9_isMeasure_25 ⟨Nat.le_of_ble_eq_true rfl, Nat.le_of_ble_eq_true rfl⟩) (fun r_11 k_12 => ?_)
      rcases k_12 with ⟨rfl, a_13o⟩ | ⟨rfl, a_13, b_14⟩
      · refine lv_if_ne (tgt := 42) hx hb dX9_isMeasure_28 (by decide) (fun c_15 => absurd (by decide) c_15) (fun c_15 => ?_)
        refine lv_iload_n hx hb dX9_isMeasure_31 rfl (lv_at hl 0 rfl) ?_
        refine lv_bipush (v := 30) hx hb dX9_isMeasure_32 (by decide) ?_
        refine lv_bipush (v := 33) hx hb dX9_isMeasure_34 (by decide) ?_
        refine vp_callSi (W.runS (As := [.int n, .int 30, .int 33]) (rest := []) ⟨hx, hb, hml, hown, hts⟩ (s_X9_is l n 30 33) (va_cwS 3 hts gX9_isMeasure_X9_is rfl rfl rfl (by decide +kernel) ⟨Nat.le_of_ble_eq_true rfl, Nat.le_of_ble_eq_true rfl⟩) ⟨fun a U g mk q => q, fun U hU hW => ⟨rfl, trivial⟩⟩ rfl rfl hl.1 rfl (lv_room (Nat.le_of_ble_eq_true rfl)) dX9_isMeasure_36 ⟨Nat.le_of_ble_eq_true rfl, Nat.le_of_ble_eq_true rfl⟩) (fun r_16 k_17 => ?_)
        rcases k_17 with ⟨rfl, a_18o⟩ | ⟨rfl, a_18, b_19⟩
        · refine lv_if_eq (tgt := 46) hx hb dX9_isMeasure_39 (by decide) (fun c_20 => ?_) (fun c_20 => absurd (by decide) c_20)
          refine lv_iconst (v := 0) hx hb dX9_isMeasure_46 (by decide) ?_
          exact W.zret (v := 0) hx hb hr rfl (fun t ht hW => ⟨0, rfl, Or.inl ⟨rfl, fun h => Or.elim h (fun h => h a_3o) (fun h => Or.elim h (fun h => h a_8o) (fun h => Or.elim h (fun h => h a_13o) (fun h => h a_18o)))⟩, ht⟩) (fun _ h9 => by cases h9) dX9_isMeasure_47
        refine lv_if_eq (tgt := 46) hx hb dX9_isMeasure_39 (by decide) (fun c_21 => absurd c_21 (by decide)) (fun c_21 => ?_)
        refine lv_iconst (v := 1) hx hb dX9_isMeasure_42 (by decide) ?_
        refine lv_goto (tgt := 47) hx hb dX9_isMeasure_43 (by decide) ?_
        exact W.zret (v := 1) hx hb hr rfl (fun t ht hW => ⟨1, rfl, Or.inr ⟨rfl, Or.inr (Or.inr (Or.inr ((fun h => Or.elim h a_18 b_19)))), by obtain ⟨j9, h1, h2, e9⟩ := is_nat (a := 30) (b := 33) a_18 b_19 (by omega); exact ⟨j9, by omega, e9⟩⟩, ht⟩) (fun _ h9 => by cases h9) dX9_isMeasure_47
      refine lv_if_ne (tgt := 42) hx hb dX9_isMeasure_28 (by decide) (fun c_22 => ?_) (fun c_22 => absurd c_22 (by decide))
      refine lv_iconst (v := 1) hx hb dX9_isMeasure_42 (by decide) ?_
      refine lv_goto (tgt := 47) hx hb dX9_isMeasure_43 (by decide) ?_
      exact W.zret (v := 1) hx hb hr rfl (fun t ht hW => ⟨1, rfl, Or.inr ⟨rfl, Or.inr (Or.inr (Or.inl (fun h => Or.elim h a_13 b_14))), by obtain ⟨j9, h1, h2, e9⟩ := is_nat (a := 20) (b := 24) a_13 b_14 (by omega); exact ⟨j9, by omega, e9⟩⟩, ht⟩) (fun _ h9 => by cases h9) dX9_isMeasure_47
    refine lv_if_ne (tgt := 42) hx hb dX9_isMeasure_17 (by decide) (fun c_23 => ?_) (fun c_23 => absurd c_23 (by decide))
    refine lv_iconst (v := 1) hx hb dX9_isMeasure_42 (by decide) ?_
    refine lv_goto (tgt := 47) hx hb dX9_isMeasure_43 (by decide) ?_
    exact W.zret (v := 1) hx hb hr rfl (fun t ht hW => ⟨1, rfl, Or.inr ⟨rfl, Or.inr (Or.inl (fun h => Or.elim h a_8 b_9)), by obtain ⟨j9, h1, h2, e9⟩ := is_nat (a := 10) (b := 14) a_8 b_9 (by omega); exact ⟨j9, by omega, e9⟩⟩, ht⟩) (fun _ h9 => by cases h9) dX9_isMeasure_47
  refine lv_if_ne (tgt := 42) hx hb dX9_isMeasure_6 (by decide) (fun c_24 => ?_) (fun c_24 => absurd c_24 (by decide))
  refine lv_iconst (v := 1) hx hb dX9_isMeasure_42 (by decide) ?_
  refine lv_goto (tgt := 47) hx hb dX9_isMeasure_43 (by decide) ?_
  exact W.zret (v := 1) hx hb hr rfl (fun t ht hW => ⟨1, rfl, Or.inr ⟨rfl, Or.inl (fun h => Or.elim h a_3 b_4), by obtain ⟨j9, h1, h2, e9⟩ := is_nat (a := 0) (b := 2) a_3 b_4 (by omega); exact ⟨j9, by omega, e9⟩⟩, ht⟩) (fun _ h9 => by cases h9) dX9_isMeasure_47
theorem i_ne64 {x : Int32} (h : ¬ x = 0) : ¬ x.toInt64 = 0 := by
  intro e
  have e2 := congrArg Int64.toInt e
  rw [Int32.toInt_toInt64] at e2
  exact h (Int32.toInt_inj.mp (e2.trans (by decide)))
set_option maxHeartbeats 4000000 in
set_option maxRecDepth 100000 in
theorem m_measure (l : Launch) (D : va_G) (h0 : Nat) (ad : Nat → Nat) (cs : Nat → ClassId) (iv : Nat → Int32) (fv : Nat → Nat → Int32) (gv : Nat → Int64) (n3 n13 : Nat) (a1 a2 a3 : Int32) (h3 : iv 3 = nI n3) (h13 : iv 13 = nI n13) (b3 : n3 ≤ 40) (b13 : n13 ≤ 60) (hM : ∀ r9 : Nat, r9 < 70 → mall (fv 9) r9 n3 = mall (fv 9) r9 40) : Met l yX9_measure wsX9_measure ({ frames := 2, cells := 0, slots := 0, locals := 42 }) (va_Pc [.ref h0, .int a1, .int a2, .int a3] (fun U => va_P D vwCl (mw h0 ad cs iv fv gv) U.heap ∧ va_K D vwCl (mT cs) U)) (vp_Si (fun r => (meaN fv n13 a1 a2 a3 ∧ r = (-1)) ∨ (¬ meaN fv n13 a1 a2 a3 ∧ r = meaV fv n3 a1 a2 a3))) 0 0 (fun _ => False) := by
  refine Met.ofW (cc := cX9_measure) (maxL := 5) (ret := (some .int)) (by decide) rfl ?_
  intro p e s m args below meth c s₁ B hml hv
  obtain ⟨rfl, hP, hK⟩ := hv
  have hx := B.exec
  have hb := B.bytes
  have hr := B.returns
  have hts := atoms_spec (ws := wsX9_measure) B.pre
  have hown : s.vm.findClass RX9 = some m.cls := findClass_of_methodNamed B.named
  have hlocks := B.notSynchronized
  have hin9 : ∀ w ∈ u_ws RX9 TX9 44, w ∈ wsX9_measure := (fun _ h9 => List.mem_cons_of_mem _ ((List.mem_append_right _ h9)))
  have hl := lv_entry ([.ref h0, .int a1, .int a2, .int a3]) (n := 5) (Nat.le_of_ble_eq_true rfl)
  rw [lg_entry_eq]
  generalize (lg_sl ([.ref h0, .int a1, .int a2, .int a3]) ++ List.replicate (5 - (lg_sl ([.ref h0, .int a1, .int a2, .int a3])).length) Slot.unset).toArray = ls at hl ⊢
  have hl : lv_has ls 5 [(0, .ref h0), (1, .int a1), (2, .int a2), (3, .int a3)] := hl
  refine lv_aload_n hx hb dX9_measure_0 rfl (lv_at hl 0 rfl) ?_
  refine lv_iload_n hx hb dX9_measure_1 rfl (lv_at hl 1 rfl) ?_
  refine lv_iload_n hx hb dX9_measure_2 rfl (lv_at hl 2 rfl) ?_
  refine vp_callSi (W.runV (As := [.int a1, .int a2]) (rest := []) ⟨hx, hb, hml, hown, hts⟩ (m_row l D h0 ad cs iv fv gv n13 a1 a2 h13 (by omega)) (cwV 2 hts gX9_measure_X9_row rfl rfl rfl (by decide +kernel) ⟨Nat.le_of_ble_eq_true rfl, Nat.le_of_ble_eq_true rfl⟩) ⟨fun a U g mk q => ⟨q.1, q.2.1, va_K.moved (u := U) (U := U.calling g mk a) (Vm.Alike.refl U.vm) q.2.2⟩, va_recv hK hP (ci := 9) (q0 := 0) rfl rfl, fun U hU hW => ⟨rfl, by rw [hU]; exact hP, va_K.moved hW.alike hK⟩⟩ rfl rfl hl.1 rfl (lv_room (Nat.le_of_ble_eq_true rfl)) dX9_measure_3 ⟨Nat.le_of_ble_eq_true rfl, Nat.le_of_ble_eq_true rfl⟩) (fun r_1 k_2 => ?_)
  rcases k_2 with ⟨rN_5, rfl⟩ | ⟨rN_5, hr_6, hj_7⟩
  · refine lv_istore (lv' := [(4, .int (-1)), (0, .ref h0), (1, .int a1), (2, .int a2), (3, .int a3)]) hx hb dX9_measure_6 hl (by decide) rfl (fun ls hl => ?_)
    refine lv_iload hx hb dX9_measure_8 (lv_at hl 0 rfl) ?_
    refine lv_if_lt (tgt := 29) hx hb dX9_measure_10 (by decide) (fun c_8 => ?_) (fun c_8 => absurd (by decide) c_8)
    refine lv_iconst (v := (-1)) hx hb dX9_measure_29 (by decide) ?_
    exact W.iret (v := (-1)) hx hb hr (fun t ht hW => ⟨(-1), rfl, Or.inl ⟨Or.inl rN_5, rfl⟩, ht⟩) (fun _ h9 => by cases h9) dX9_measure_30
  obtain ⟨j_3, ej_4⟩ : ∃ j9 : Nat, j9 = rowI a1 a2 := ⟨_, rfl⟩
  rw [← ej_4] at hr_6 hj_7
  subst hr_6
  refine lv_istore (lv' := [(4, .int (nI j_3)), (0, .ref h0), (1, .int a1), (2, .int a2), (3, .int a3)]) hx hb dX9_measure_6 hl (by decide) rfl (fun ls hl => ?_)
  refine lv_iload hx hb dX9_measure_8 (lv_at hl 0 rfl) ?_
  refine lv_if_lt (tgt := 29) hx hb dX9_measure_10 (by decide) (fun c_9 => absurd c_9 (nI_pos (n := j_3) (by omega))) (fun c_9 => ?_)
  refine lv_aload_n hx hb dX9_measure_13 rfl (lv_at hl 1 rfl) ?_
  refine lv_iload hx hb dX9_measure_14 (lv_at hl 0 rfl) ?_
  refine vp_callSi (W.runV (As := [.int (nI j_3)]) (rest := []) ⟨hx, hb, hml, hown, hts⟩ (m_all l D h0 ad cs iv fv gv n3 j_3 h3 (by omega) (by omega)) (cwV 1 hts gX9_measure_X9_all rfl rfl rfl (by decide +kernel) ⟨Nat.le_of_ble_eq_true rfl, Nat.le_of_ble_eq_true rfl⟩) ⟨fun a U g mk q => ⟨q.1, q.2.1, va_K.moved (u := U) (U := U.calling g mk a) (Vm.Alike.refl U.vm) q.2.2⟩, va_recv hK hP (ci := 9) (q0 := 0) rfl rfl, fun U hU hW => ⟨rfl, by rw [hU]; exact hP, va_K.moved hW.alike hK⟩⟩ rfl rfl hl.1 rfl (lv_room (Nat.le_of_ble_eq_true rfl)) dX9_measure_16 ⟨Nat.le_of_ble_eq_true rfl, Nat.le_of_ble_eq_true rfl⟩) (fun r_10 k_11 => ?_)
  refine lv_if_eq (tgt := 29) hx hb dX9_measure_19 (by decide) (fun c_12 => ?_) (fun c_12 => ?_)
  · refine lv_iconst (v := (-1)) hx hb dX9_measure_29 (by decide) ?_
    exact W.iret (v := (-1)) hx hb hr (fun t ht hW => ⟨(-1), rfl, Or.inl ⟨Or.inr (Or.inl (by rw [← ej_4, ← hM j_3 (by omega), ← k_11]; exact c_12)), rfl⟩, ht⟩) (fun _ h9 => by cases h9) dX9_measure_30
  have wz_13 : ¬ mall (fv 9) j_3 n3 = 0 := fun h9 => c_12 (k_11.trans h9)
  refine lv_iload_n hx hb dX9_measure_22 rfl (lv_at hl 4 rfl) ?_
  refine vp_callSi (W.runS (As := [.int a3]) (rest := []) ⟨hx, hb, hml, hown, hts⟩ (s_X9_isMeasure l a3) (va_cwS 1 hts gX9_measure_X9_isMeasure rfl rfl rfl (by decide +kernel) ⟨Nat.le_of_ble_eq_true rfl, Nat.le_of_ble_eq_true rfl⟩) ⟨fun a U g mk q => q, fun U hU hW => ⟨rfl, trivial⟩⟩ rfl rfl hl.1 rfl (lv_room (Nat.le_of_ble_eq_true rfl)) dX9_measure_23 ⟨Nat.le_of_ble_eq_true rfl, Nat.le_of_ble_eq_true rfl⟩) (fun r_14 k_15 => ?_)
  rcases k_15 with ⟨rfl, im_18⟩ | ⟨rfl, im_18, j_16, hj_17, rfl⟩
  · refine lv_if_ne (tgt := 31) hx hb dX9_measure_26 (by decide) (fun c_19 => absurd (by decide) c_19) (fun c_19 => ?_)
    refine lv_iconst (v := (-1)) hx hb dX9_measure_29 (by decide) ?_
    exact W.iret (v := (-1)) hx hb hr (fun t ht hW => ⟨(-1), rfl, Or.inl ⟨Or.inr (Or.inr im_18), rfl⟩, ht⟩) (fun _ h9 => by cases h9) dX9_measure_30
  refine lv_if_ne (tgt := 31) hx hb dX9_measure_26 (by decide) (fun c_20 => ?_) (fun c_20 => absurd c_20 (by decide))
  refine lv_iload_n hx hb dX9_measure_31 rfl (lv_at hl 4 rfl) ?_
  refine lv_iconst (v := 2) hx hb dX9_measure_32 (by decide) ?_
  refine lv_icmp_ne (tgt := 46) hx hb dX9_measure_33 (by decide) (fun c_21 => ?_) (fun c_21 => ?_)
  · have d_22 := n_ne (a := j_16) (b := 2) (by omega) (by omega) c_21
    refine lv_ldc2 hx hb hown (hts (.constantLong RX9 185 (10)) (List.mem_of_getElem? (i := 2) rfl)) dX9_measure_46 ?_
    refine lv_aload_n hx hb dX9_measure_49 rfl (lv_at hl 1 rfl) ?_
    refine lv_iload hx hb dX9_measure_50 (lv_at hl 0 rfl) ?_
    refine lv_iload_n hx hb dX9_measure_52 rfl (lv_at hl 4 rfl) ?_
    refine vp_callSl (W.runV (As := [.int (nI j_3), .int (nI j_16)]) (rest := [.long 10]) ⟨hx, hb, hml, hown, hts⟩ (m_sum l D h0 ad cs iv fv gv n3 j_3 j_16 h3 (by omega) (by omega) (by omega)) (cwV 2 hts gX9_measure_X9_sum rfl rfl rfl (by decide +kernel) ⟨Nat.le_of_ble_eq_true rfl, Nat.le_of_ble_eq_true rfl⟩) ⟨fun a U g mk q => ⟨q.1, q.2.1, va_K.moved (u := U) (U := U.calling g mk a) (Vm.Alike.refl U.vm) q.2.2⟩, va_recv hK hP (ci := 9) (q0 := 0) rfl rfl, fun U hU hW => ⟨rfl, by rw [hU]; exact hP, va_K.moved hW.alike hK⟩⟩ rfl rfl hl.1 rfl (lv_room (Nat.le_of_ble_eq_true rfl)) dX9_measure_53 ⟨Nat.le_of_ble_eq_true rfl, Nat.le_of_ble_eq_true rfl⟩) (fun r_23 k_24 => ?_)
    refine lv_lmul hx hb dX9_measure_56 ?_
    refine lv_aload_n hx hb dX9_measure_57 rfl (lv_at hl 1 rfl) ?_
    refine lv_iload hx hb dX9_measure_58 (lv_at hl 0 rfl) ?_
    refine vp_callSi (W.runV (As := [.int (nI j_3)]) (rest := [.long (10 * r_23)]) ⟨hx, hb, hml, hown, hts⟩ (m_all l D h0 ad cs iv fv gv n3 j_3 h3 (by omega) (by omega)) (cwV 1 hts gX9_measure_X9_all rfl rfl rfl (by decide +kernel) ⟨Nat.le_of_ble_eq_true rfl, Nat.le_of_ble_eq_true rfl⟩) ⟨fun a U g mk q => ⟨q.1, q.2.1, va_K.moved (u := U) (U := U.calling g mk a) (Vm.Alike.refl U.vm) q.2.2⟩, va_recv hK hP (ci := 9) (q0 := 0) rfl rfl, fun U hU hW => ⟨rfl, by rw [hU]; exact hP, va_K.moved hW.alike hK⟩⟩ rfl rfl hl.1 rfl (lv_room (Nat.le_of_ble_eq_true rfl)) dX9_measure_60 ⟨Nat.le_of_ble_eq_true rfl, Nat.le_of_ble_eq_true rfl⟩) (fun r_25 k_26 => ?_)
    refine lv_i2l hx hb dX9_measure_63 rfl ?_
    refine lv_ldiv hx hb dX9_measure_64 (i_ne64 (fun h9 => wz_13 (k_26.symm.trans h9))) ?_
    refine lv_l2i hx hb dX9_measure_65 rfl ?_
    exact W.iret (v := ((10 * r_23) / r_25.toInt64).toInt32) hx hb hr (fun t ht hW => ⟨((10 * r_23) / r_25.toInt64).toInt32, rfl, Or.inr ⟨(fun h9 => Or.elim h9 rN_5 (fun h9 => Or.elim h9 (fun h9 => c_12 (by rw [← ej_4, ← hM j_3 (by omega), ← k_11] at h9; exact h9)) (fun h9 => h9 im_18))), by rw [meaV, tld, if_neg c_21, ← ej_4]; exact dv_cg (k_24.trans (wG_cg n3 (fun _ _ => rfl) (fun i9 _ => (pg_eq (show j_16 = 0 ∨ j_16 = 1 ∨ (10 ≤ j_16 ∧ j_16 < 15) ∨ (20 ≤ j_16 ∧ j_16 < 25) ∨ (30 ≤ j_16 ∧ j_16 < 34) from by omega)).symm))) (k_26.trans (hM j_3 (by omega)))⟩, ht⟩) (fun _ h9 => by cases h9) dX9_measure_66
  have d_27 := n_eq (a := j_16) (b := 2) (by omega) (by omega) c_21
  refine lv_aload_n hx hb dX9_measure_36 rfl (lv_at hl 1 rfl) ?_
  refine va_get (D := D) (ci := 9) (v := .ref (ad 10)) (C := RX9) (T := TX9) (N := 44) hx hb hts hin9 hown hK hP 0 rfl rfl 10 (by decide) (hts (.fieldLink RX9 41 "HoneyHouseModel" "heat" "[I") (List.mem_of_getElem? (i := 1) rfl)) (fun _ h9 => h9) rfl dX9_measure_37 ?_
  refine lv_iload hx hb dX9_measure_40 (lv_at hl 0 rfl) ?_
  refine va_iald (f := fv 10) (n := 70) hx hb hK hP 8 7 rfl rfl (vp_in_nI (n := j_3) (by omega) (by omega)) dX9_measure_42 ?_
  refine lv_topi (fun z_28 hz_29 => ?_)
  rw [nI_clamp (n := j_3) (by omega)] at hz_29
  obtain rfl : z_28 = fv 10 j_3 := hz_29
  refine lv_goto (tgt := 66) hx hb dX9_measure_43 (by decide) ?_
  exact W.iret (v := fv 10 j_3) hx hb hr (fun t ht hW => ⟨fv 10 j_3, rfl, Or.inr ⟨(fun h9 => Or.elim h9 rN_5 (fun h9 => Or.elim h9 (fun h9 => c_12 (by rw [← ej_4, ← hM j_3 (by omega), ← k_11] at h9; exact h9)) (fun h9 => h9 im_18))), by rw [meaV, tld, if_pos c_21, ← ej_4]⟩, ht⟩) (fun _ h9 => by cases h9) dX9_measure_66
set_option maxHeartbeats 4000000 in
set_option maxRecDepth 100000 in
theorem m_isSame (l : Launch) (D : va_G) (h0 : Nat) (ad : Nat → Nat) (cs : Nat → ClassId) (iv : Nat → Int32) (fv : Nat → Nat → Int32) (gv : Nat → Int64) (n14 : Nat) (t q : Nat) (h14 : iv 14 = nI n14) (b14 : n14 ≤ 16) (ht : t < n14) (hq : q < n14) (hN : ∀ i : Nat, i < n14 → ∃ k : Nat, k ≤ 12 ∧ fv 16 i = nI k) : Met l yX9_isSame wsX9_isSame ({ frames := 0, cells := 0, slots := 0, locals := 0 }) (va_Pc [.ref h0, .int (nI t), .int (nI q)] (fun U => va_P D vwCl (mw h0 ad cs iv fv gv) U.heap ∧ va_K D vwCl (mT cs) U)) (vp_Si (fun r => True)) 0 0 (fun _ => False) := by
  refine Met.ofW (cc := cX9_isSame) (maxL := 5) (ret := (some .boolean)) (by decide) rfl ?_
  intro p e s m args below meth c s₁ B hml hv
  obtain ⟨rfl, hP, hK⟩ := hv
  have hx := B.exec
  have hb := B.bytes
  have hr := B.returns
  have hts := atoms_spec (ws := wsX9_isSame) B.pre
  have hown : s.vm.findClass RX9 = some m.cls := findClass_of_methodNamed B.named
  have hlocks := B.notSynchronized
  have hin9 : ∀ w ∈ u_ws RX9 TX9 44, w ∈ wsX9_isSame := (fun _ h9 => List.mem_cons_of_mem _ ((List.mem_append_right _ h9)))
  have hl := lv_entry ([.ref h0, .int (nI t), .int (nI q)]) (n := 5) (Nat.le_of_ble_eq_true rfl)
  rw [lg_entry_eq]
  generalize (lg_sl ([.ref h0, .int (nI t), .int (nI q)]) ++ List.replicate (5 - (lg_sl ([.ref h0, .int (nI t), .int (nI q)])).length) Slot.unset).toArray = ls at hl ⊢
  have hl : lv_has ls 5 [(0, .ref h0), (1, .int (nI t)), (2, .int (nI q))] := hl
  refine lv_aload_n hx hb dX9_isSame_0 rfl (lv_at hl 0 rfl) ?_
  refine va_get (D := D) (ci := 9) (v := .ref (ad 16)) (C := RX9) (T := TX9) (N := 44) hx hb hts hin9 hown hK hP 0 rfl rfl 16 (by decide) (hts (.fieldLink RX9 59 "HoneyHouseModel" "nameSize" "[I") (List.mem_of_getElem? (i := 1) rfl)) (fun _ h9 => h9) rfl dX9_isSame_1 ?_
  refine lv_iload_n hx hb dX9_isSame_4 rfl (lv_at hl 1 rfl) ?_
  refine va_iald (f := fv 16) (n := 16) hx hb hK hP 12 11 rfl rfl (vp_in_nI (n := t) (by omega) (by omega)) dX9_isSame_5 ?_
  refine lv_topi (fun z_1 hz_2 => ?_)
  rw [nI_clamp (n := t) (by omega)] at hz_2
  obtain ⟨k_3, hk_4, e_5⟩ := hN t (by omega)
  rw [e_5] at hz_2
  subst hz_2
  refine lv_aload_n hx hb dX9_isSame_6 rfl (lv_at hl 0 rfl) ?_
  refine va_get (D := D) (ci := 9) (v := .ref (ad 16)) (C := RX9) (T := TX9) (N := 44) hx hb hts hin9 hown hK hP 0 rfl rfl 16 (by decide) (hts (.fieldLink RX9 59 "HoneyHouseModel" "nameSize" "[I") (List.mem_of_getElem? (i := 1) rfl)) (fun _ h9 => h9) rfl dX9_isSame_7 ?_
  refine lv_iload_n hx hb dX9_isSame_10 rfl (lv_at hl 2 rfl) ?_
  refine va_iald (f := fv 16) (n := 16) hx hb hK hP 12 11 rfl rfl (vp_in_nI (n := q) (by omega) (by omega)) dX9_isSame_11 ?_
  refine lv_topi (fun z_6 hz_7 => ?_)
  rw [nI_clamp (n := q) (by omega)] at hz_7
  obtain ⟨k_8, hk_9, e_10⟩ := hN q (by omega)
  rw [e_10] at hz_7
  subst hz_7
  refine lv_icmp_ne (tgt := 19) hx hb dX9_isSame_12 (by decide) (fun c_11 => ?_) (fun c_11 => ?_)
  · have d_12 := n_ne (a := k_3) (b := k_8) (by omega) (by omega) c_11
    refine lv_iconst (v := 0) hx hb dX9_isSame_19 (by decide) ?_
    refine lv_istore_n (lv' := [(3, .int 0), (0, .ref h0), (1, .int (nI t)), (2, .int (nI q))]) hx hb dX9_isSame_20 rfl hl (by decide) rfl (fun ls hl => ?_)
    refine lv_iconst (v := 0) hx hb dX9_isSame_21 (by decide) ?_
    refine lv_istore (lv' := [(4, .int 0), (3, .int 0), (0, .ref h0), (1, .int (nI t)), (2, .int (nI q))]) hx hb dX9_isSame_22 hl (by decide) rfl (fun ls hl => ?_)
    refine lp_R (nL := 5) (σ := Nat × Int32) (lv := fun x9 => [(4, .int (nI x9.1)), (3, .int x9.2), (2, .int (nI q)), (1, .int (nI t)), (0, .ref h0)]) (μ := fun x9 => 12 - x9.1) (J := fun x9 => (x9.1 ≤ 12) ∧ (x9.2 = 0 ∨ x9.2 = 1)) (fun x9 ls hj hl ih_13 => ?_) (0, 0) ls ⟨(show 0 ≤ 12 from by omega), (show 0 = 0 ∨ 0 = 1 from Or.inl rfl)⟩ (lv_sub hl [0, 1, 4, 3, 2] rfl)
    obtain ⟨i_14, x_15⟩ := x9
    replace hj : (i_14 ≤ 12) ∧ (x_15 = 0 ∨ x_15 = 1) := hj
    obtain ⟨hi_16, hb_17⟩ := hj
    have hl : lv_has ls 5 [(4, .int (nI i_14)), (3, .int x_15), (2, .int (nI q)), (1, .int (nI t)), (0, .ref h0)] := hl
    refine lv_iload hx hb dX9_isSame_24 (lv_at hl 0 rfl) ?_
    refine lv_aload_n hx hb dX9_isSame_26 rfl (lv_at hl 4 rfl) ?_
    refine va_get (D := D) (ci := 9) (v := .ref (ad 16)) (C := RX9) (T := TX9) (N := 44) hx hb hts hin9 hown hK hP 0 rfl rfl 16 (by decide) (hts (.fieldLink RX9 59 "HoneyHouseModel" "nameSize" "[I") (List.mem_of_getElem? (i := 1) rfl)) (fun _ h9 => h9) rfl dX9_isSame_27 ?_
    refine lv_iload_n hx hb dX9_isSame_30 rfl (lv_at hl 3 rfl) ?_
    refine va_iald (f := fv 16) (n := 16) hx hb hK hP 12 11 rfl rfl (vp_in_nI (n := t) (by omega) (by omega)) dX9_isSame_31 ?_
    refine lv_topi (fun z_18 hz_19 => ?_)
    rw [nI_clamp (n := t) (by omega)] at hz_19
    obtain ⟨k_20, hk_21, e_22⟩ := hN t (by omega)
    rw [e_22] at hz_19
    subst hz_19
    refine lv_icmp_ge (tgt := 78) hx hb dX9_isSame_32 (by decide) (fun c_23 => ?_) (fun c_23 => ?_)
    · have d_24 := n_le (a := k_20) (b := i_14) (by omega) (by omega) c_23
      refine lv_iload_n hx hb dX9_isSame_78 rfl (lv_at hl 1 rfl) ?_
      exact W.zret (v := x_15) hx hb hr (by rcases hb_17 with h9 | h9 <;> rw [h9] <;> rfl) (fun t ht hW => ⟨x_15, rfl, trivial, ht⟩) (fun _ h9 => by cases h9) dX9_isSame_79
    have d_25 := n_nle (a := k_20) (b := i_14) (by omega) (by omega) c_23
    refine lv_iload_n hx hb dX9_isSame_35 rfl (lv_at hl 1 rfl) ?_
    refine lv_if_eq (tgt := 78) hx hb dX9_isSame_36 (by decide) (fun c_26 => ?_) (fun c_26 => ?_)
    · refine lv_iload_n hx hb dX9_isSame_78 rfl (lv_at hl 1 rfl) ?_
      exact W.zret (v := x_15) hx hb hr (by rcases hb_17 with h9 | h9 <;> rw [h9] <;> rfl) (fun t ht hW => ⟨x_15, rfl, trivial, ht⟩) (fun _ h9 => by cases h9) dX9_isSame_79
    refine lv_aload_n hx hb dX9_isSame_39 rfl (lv_at hl 4 rfl) ?_
    refine va_get (D := D) (ci := 9) (v := .ref (ad 15)) (C := RX9) (T := TX9) (N := 44) hx hb hts hin9 hown hK hP 0 rfl rfl 15 (by decide) (hts (.fieldLink RX9 56 "HoneyHouseModel" "names" "[I") (List.mem_of_getElem? (i := 2) rfl)) (fun _ h9 => h9) rfl dX9_isSame_40 ?_
    refine lv_bipush (v := 12) hx hb dX9_isSame_43 (by decide) ?_
    refine lv_iload_n hx hb dX9_isSame_45 rfl (lv_at hl 3 rfl) ?_
    refine lv_imul hx hb dX9_isSame_46 ?_
    refine tp_i (y := nI (12 * t)) (pk_mul 12 t) ?_
    refine lv_iload hx hb dX9_isSame_47 (lv_at hl 0 rfl) ?_
    refine lv_iadd hx hb dX9_isSame_49 ?_
    refine tp_i (y := nI ((12 * t) + i_14)) (nI_add (12 * t) i_14) ?_
    refine va_iald (f := fv 15) (n := 192) hx hb hK hP 11 10 rfl rfl (vp_in_nI (n := (12 * t) + i_14) (by omega) (by omega)) dX9_isSame_50 ?_
    refine lv_topi (fun z_27 hz_28 => ?_)
    refine lv_aload_n hx hb dX9_isSame_51 rfl (lv_at hl 4 rfl) ?_
    refine va_get (D := D) (ci := 9) (v := .ref (ad 15)) (C := RX9) (T := TX9) (N := 44) hx hb hts hin9 hown hK hP 0 rfl rfl 15 (by decide) (hts (.fieldLink RX9 56 "HoneyHouseModel" "names" "[I") (List.mem_of_getElem? (i := 2) rfl)) (fun _ h9 => h9) rfl dX9_isSame_52 ?_
    refine lv_bipush (v := 12) hx hb dX9_isSame_55 (by decide) ?_
    refine lv_iload_n hx hb dX9_isSame_57 rfl (lv_at hl 2 rfl) ?_
    refine lv_imul hx hb dX9_isSame_58 ?_
    refine tp_i (y := nI (12 * q)) (pk_mul 12 q) ?_
    refine lv_iload hx hb dX9_isSame_59 (lv_at hl 0 rfl) ?_
    refine lv_iadd hx hb dX9_isSame_61 ?_
    refine tp_i (y := nI ((12 * q) + i_14)) (nI_add (12 * q) i_14) ?_
    refine va_iald (f := fv 15) (n := 192) hx hb hK hP 11 10 rfl rfl (vp_in_nI (n := (12 * q) + i_14) (by omega) (by omega)) dX9_isSame_62 ?_
    refine lv_topi (fun z_29 hz_30 => ?_)
    refine lv_icmp_ne (tgt := 70) hx hb dX9_isSame_63 (by decide) (fun c_31 => ?_) (fun c_31 => ?_)
    · refine lv_iconst (v := 0) hx hb dX9_isSame_70 (by decide) ?_
      refine lv_istore_n (lv' := [(3, .int 0), (4, .int (nI i_14)), (2, .int (nI q)), (1, .int (nI t)), (0, .ref h0)]) hx hb dX9_isSame_71 rfl hl (by decide) rfl (fun ls hl => ?_)
      refine lv_iinc (v := nI (i_14 + 1)) (lv' := [(4, .int (nI (i_14 + 1))), (3, .int 0), (2, .int (nI q)), (1, .int (nI t)), (0, .ref h0)]) hx hb dX9_isSame_72 hl (k := 1) rfl (nI_add i_14 1) (by decide) rfl (fun ls hl => ?_)
      refine lv_goto (tgt := 24) hx hb dX9_isSame_75 (by decide) ?_
      exact ih_13 (i_14 + 1, 0) ls (by show 12 - (i_14 + 1) < 12 - i_14; omega) ⟨(show (i_14 + 1) ≤ 12 from by omega), (show 0 = 0 ∨ 0 = 1 from Or.inl rfl)⟩ (lv_sub hl [0, 1, 2, 3, 4] rfl)
    refine lv_iconst (v := 1) hx hb dX9_isSame_66 (by decide) ?_
    refine lv_goto (tgt := 71) hx hb dX9_isSame_67 (by decide) ?_
    refine lv_istore_n (lv' := [(3, .int 1), (4, .int (nI i_14)), (2, .int (nI q)), (1, .int (nI t)), (0, .ref h0)]) hx hb dX9_isSame_71 rfl hl (by decide) rfl (fun ls hl => ?_)
    refine lv_iinc (v := nI (i_14 + 1)) (lv' := [(4, .int (nI (i_14 + 1))), (3, .int 1), (2, .int (nI q)), (1, .int (nI t)), (0, .ref h0)]) hx hb dX9_isSame_72 hl (k := 1) rfl (nI_add i_14 1) (by decide) rfl (fun ls hl => ?_)
    refine lv_goto (tgt := 24) hx hb dX9_isSame_75 (by decide) ?_
    exact ih_13 (i_14 + 1, 1) ls (by show 12 - (i_14 + 1) < 12 - i_14; omega) ⟨(show (i_14 + 1) ≤ 12 from by omega), (show 1 = 0 ∨ 1 = 1 from Or.inr rfl)⟩ (lv_sub hl [0, 1, 2, 3, 4] rfl)
  have d_32 := n_eq (a := k_3) (b := k_8) (by omega) (by omega) c_11
  refine lv_iconst (v := 1) hx hb dX9_isSame_15 (by decide) ?_
  refine lv_goto (tgt := 20) hx hb dX9_isSame_16 (by decide) ?_
  refine lv_istore_n (lv' := [(3, .int 1), (0, .ref h0), (1, .int (nI t)), (2, .int (nI q))]) hx hb dX9_isSame_20 rfl hl (by decide) rfl (fun ls hl => ?_)
  refine lv_iconst (v := 0) hx hb dX9_isSame_21 (by decide) ?_
  refine lv_istore (lv' := [(4, .int 0), (3, .int 1), (0, .ref h0), (1, .int (nI t)), (2, .int (nI q))]) hx hb dX9_isSame_22 hl (by decide) rfl (fun ls hl => ?_)
  refine lp_R (nL := 5) (σ := Nat × Int32) (lv := fun x9 => [(4, .int (nI x9.1)), (3, .int x9.2), (2, .int (nI q)), (1, .int (nI t)), (0, .ref h0)]) (μ := fun x9 => 12 - x9.1) (J := fun x9 => (x9.1 ≤ 12) ∧ (x9.2 = 0 ∨ x9.2 = 1)) (fun x9 ls hj hl ih_33 => ?_) (0, 1) ls ⟨(show 0 ≤ 12 from by omega), (show 1 = 0 ∨ 1 = 1 from Or.inr rfl)⟩ (lv_sub hl [0, 1, 4, 3, 2] rfl)
  obtain ⟨i_34, x_35⟩ := x9
  replace hj : (i_34 ≤ 12) ∧ (x_35 = 0 ∨ x_35 = 1) := hj
  obtain ⟨hi_36, hb_37⟩ := hj
  have hl : lv_has ls 5 [(4, .int (nI i_34)), (3, .int x_35), (2, .int (nI q)), (1, .int (nI t)), (0, .ref h0)] := hl
  refine lv_iload hx hb dX9_isSame_24 (lv_at hl 0 rfl) ?_
  refine lv_aload_n hx hb dX9_isSame_26 rfl (lv_at hl 4 rfl) ?_
  refine va_get (D := D) (ci := 9) (v := .ref (ad 16)) (C := RX9) (T := TX9) (N := 44) hx hb hts hin9 hown hK hP 0 rfl rfl 16 (by decide) (hts (.fieldLink RX9 59 "HoneyHouseModel" "nameSize" "[I") (List.mem_of_getElem? (i := 1) rfl)) (fun _ h9 => h9) rfl dX9_isSame_27 ?_
  refine lv_iload_n hx hb dX9_isSame_30 rfl (lv_at hl 3 rfl) ?_
  refine va_iald (f := fv 16) (n := 16) hx hb hK hP 12 11 rfl rfl (vp_in_nI (n := t) (by omega) (by omega)) dX9_isSame_31 ?_
  refine lv_topi (fun z_38 hz_39 => ?_)
  rw [nI_clamp (n := t) (by omega)] at hz_39
  obtain ⟨k_40, hk_41, e_42⟩ := hN t (by omega)
  rw [e_42] at hz_39
  subst hz_39
  refine lv_icmp_ge (tgt := 78) hx hb dX9_isSame_32 (by decide) (fun c_43 => ?_) (fun c_43 => ?_)
  · have d_44 := n_le (a := k_40) (b := i_34) (by omega) (by omega) c_43
    refine lv_iload_n hx hb dX9_isSame_78 rfl (lv_at hl 1 rfl) ?_
    exact W.zret (v := x_35) hx hb hr (by rcases hb_37 with h9 | h9 <;> rw [h9] <;> rfl) (fun t ht hW => ⟨x_35, rfl, trivial, ht⟩) (fun _ h9 => by cases h9) dX9_isSame_79
  have d_45 := n_nle (a := k_40) (b := i_34) (by omega) (by omega) c_43
  refine lv_iload_n hx hb dX9_isSame_35 rfl (lv_at hl 1 rfl) ?_
  refine lv_if_eq (tgt := 78) hx hb dX9_isSame_36 (by decide) (fun c_46 => ?_) (fun c_46 => ?_)
  · refine lv_iload_n hx hb dX9_isSame_78 rfl (lv_at hl 1 rfl) ?_
    exact W.zret (v := x_35) hx hb hr (by rcases hb_37 with h9 | h9 <;> rw [h9] <;> rfl) (fun t ht hW => ⟨x_35, rfl, trivial, ht⟩) (fun _ h9 => by cases h9) dX9_isSame_79
  refine lv_aload_n hx hb dX9_isSame_39 rfl (lv_at hl 4 rfl) ?_
  refine va_get (D := D) (ci := 9) (v := .ref (ad 15)) (C := RX9) (T := TX9) (N := 44) hx hb hts hin9 hown hK hP 0 rfl rfl 15 (by decide) (hts (.fieldLink RX9 56 "HoneyHouseModel" "names" "[I") (List.mem_of_getElem? (i := 2) rfl)) (fun _ h9 => h9) rfl dX9_isSame_40 ?_
  refine lv_bipush (v := 12) hx hb dX9_isSame_43 (by decide) ?_
  refine lv_iload_n hx hb dX9_isSame_45 rfl (lv_at hl 3 rfl) ?_
  refine lv_imul hx hb dX9_isSame_46 ?_
  refine tp_i (y := nI (12 * t)) (pk_mul 12 t) ?_
  refine lv_iload hx hb dX9_isSame_47 (lv_at hl 0 rfl) ?_
  refine lv_iadd hx hb dX9_isSame_49 ?_
  refine tp_i (y := nI ((12 * t) + i_34)) (nI_add (12 * t) i_34) ?_
  refine va_iald (f := fv 15) (n := 192) hx hb hK hP 11 10 rfl rfl (vp_in_nI (n := (12 * t) + i_34) (by omega) (by omega)) dX9_isSame_50 ?_
  refine lv_topi (fun z_47 hz_48 => ?_)
  refine lv_aload_n hx hb dX9_isSame_51 rfl (lv_at hl 4 rfl) ?_
  refine va_get (D := D) (ci := 9) (v := .ref (ad 15)) (C := RX9) (T := TX9) (N := 44) hx hb hts hin9 hown hK hP 0 rfl rfl 15 (by decide) (hts (.fieldLink RX9 56 "HoneyHouseModel" "names" "[I") (List.mem_of_getElem? (i := 2) rfl)) (fun _ h9 => h9) rfl dX9_isSame_52 ?_
  refine lv_bipush (v := 12) hx hb dX9_isSame_55 (by decide) ?_
  refine lv_iload_n hx hb dX9_isSame_57 rfl (lv_at hl 2 rfl) ?_
  refine lv_imul hx hb dX9_isSame_58 ?_
  refine tp_i (y := nI (12 * q)) (pk_mul 12 q) ?_
  refine lv_iload hx hb dX9_isSame_59 (lv_at hl 0 rfl) ?_
  refine lv_iadd hx hb dX9_isSame_61 ?_
  refine tp_i (y := nI ((12 * q) + i_34)) (nI_add (12 * q) i_34) ?_
  refine va_iald (f := fv 15) (n := 192) hx hb hK hP 11 10 rfl rfl (vp_in_nI (n := (12 * q) + i_34) (by omega) (by omega)) dX9_isSame_62 ?_
  refine lv_topi (fun z_49 hz_50 => ?_)
  refine lv_icmp_ne (tgt := 70) hx hb dX9_isSame_63 (by decide) (fun c_51 => ?_) (fun c_51 => ?_)
  · refine lv_iconst (v := 0) hx hb dX9_isSame_70 (by decide) ?_
    refine lv_istore_n (lv' := [(3, .int 0), (4, .int (nI i_34)), (2, .int (nI q)), (1, .int (nI t)), (0, .ref h0)]) hx hb dX9_isSame_71 rfl hl (by decide) rfl (fun ls hl => ?_)
    refine lv_iinc (v := nI (i_34 + 1)) (lv' := [(4, .int (nI (i_34 + 1))), (3, .int 0), (2, .int (nI q)), (1, .int (nI t)), (0, .ref h0)]) hx hb dX9_isSame_72 hl (k := 1) rfl (nI_add i_34 1) (by decide) rfl (fun ls hl => ?_)
    refine lv_goto (tgt := 24) hx hb dX9_isSame_75 (by decide) ?_
    exact ih_33 (i_34 + 1, 0) ls (by show 12 - (i_34 + 1) < 12 - i_34; omega) ⟨(show (i_34 + 1) ≤ 12 from by omega), (show 0 = 0 ∨ 0 = 1 from Or.inl rfl)⟩ (lv_sub hl [0, 1, 2, 3, 4] rfl)
  refine lv_iconst (v := 1) hx hb dX9_isSame_66 (by decide) ?_
  refine lv_goto (tgt := 71) hx hb dX9_isSame_67 (by decide) ?_
  refine lv_istore_n (lv' := [(3, .int 1), (4, .int (nI i_34)), (2, .int (nI q)), (1, .int (nI t)), (0, .ref h0)]) hx hb dX9_isSame_71 rfl hl (by decide) rfl (fun ls hl => ?_)
  refine lv_iinc (v := nI (i_34 + 1)) (lv' := [(4, .int (nI (i_34 + 1))), (3, .int 1), (2, .int (nI q)), (1, .int (nI t)), (0, .ref h0)]) hx hb dX9_isSame_72 hl (k := 1) rfl (nI_add i_34 1) (by decide) rfl (fun ls hl => ?_)
  refine lv_goto (tgt := 24) hx hb dX9_isSame_75 (by decide) ?_
  exact ih_33 (i_34 + 1, 1) ls (by show 12 - (i_34 + 1) < 12 - i_34; omega) ⟨(show (i_34 + 1) ≤ 12 from by omega), (show 1 = 0 ∨ 1 = 1 from Or.inr rfl)⟩ (lv_sub hl [0, 1, 2, 3, 4] rfl)
set_option maxHeartbeats 4000000 in
set_option maxRecDepth 100000 in
theorem m_isInForce (l : Launch) (D : va_G) (h0 : Nat) (ad : Nat → Nat) (cs : Nat → ClassId) (iv : Nat → Int32) (fv : Nat → Nat → Int32) (gv : Nat → Int64) (n14 : Nat) (t : Nat) (a2 : Int32) (h14 : iv 14 = nI n14) (b14 : n14 ≤ 16) (ht : t < n14) (hN : ∀ i : Nat, i < n14 → ∃ k : Nat, k ≤ 12 ∧ fv 16 i = nI k) : Met l yX9_isInForce wsX9_isInForce ({ frames := 1, cells := 0, slots := 0, locals := 24 }) (va_Pc [.ref h0, .int (nI t), .int a2] (fun U => va_P D vwCl (mw h0 ad cs iv fv gv) U.heap ∧ va_K D vwCl (mT cs) U)) (vp_Si (fun r => True)) 0 0 (fun _ => False) := by
  refine Met.ofW (cc := cX9_isInForce) (maxL := 5) (ret := (some .boolean)) (by decide) rfl ?_
  intro p e s m args below meth c s₁ B hml hv
  obtain ⟨rfl, hP, hK⟩ := hv
  have hx := B.exec
  have hb := B.bytes
  have hr := B.returns
  have hts := atoms_spec (ws := wsX9_isInForce) B.pre
  have hown : s.vm.findClass RX9 = some m.cls := findClass_of_methodNamed B.named
  have hlocks := B.notSynchronized
  have hin9 : ∀ w ∈ u_ws RX9 TX9 44, w ∈ wsX9_isInForce := (fun _ h9 => List.mem_cons_of_mem _ ((List.mem_append_right _ h9)))
  have hl := lv_entry ([.ref h0, .int (nI t), .int a2]) (n := 5) (Nat.le_of_ble_eq_true rfl)
  rw [lg_entry_eq]
  generalize (lg_sl ([.ref h0, .int (nI t), .int a2]) ++ List.replicate (5 - (lg_sl ([.ref h0, .int (nI t), .int a2])).length) Slot.unset).toArray = ls at hl ⊢
  have hl : lv_has ls 5 [(0, .ref h0), (1, .int (nI t)), (2, .int a2)] := hl
  refine lv_aload_n hx hb dX9_isInForce_0 rfl (lv_at hl 0 rfl) ?_
  refine va_get (D := D) (ci := 9) (v := .ref (ad 17)) (C := RX9) (T := TX9) (N := 44) hx hb hts hin9 hown hK hP 0 rfl rfl 17 (by decide) (hts (.fieldLink RX9 62 "HoneyHouseModel" "from" "[I") (List.mem_of_getElem? (i := 1) rfl)) (fun _ h9 => h9) rfl dX9_isInForce_1 ?_
  refine lv_iload_n hx hb dX9_isInForce_4 rfl (lv_at hl 1 rfl) ?_
  refine va_iald (f := fv 17) (n := 16) hx hb hK hP 13 12 rfl rfl (vp_in_nI (n := t) (by omega) (by omega)) dX9_isInForce_5 ?_
  refine lv_topi (fun z_1 hz_2 => ?_)
  refine lv_iload_n hx hb dX9_isInForce_6 rfl (lv_at hl 2 rfl) ?_
  refine lv_icmp_gt (tgt := 30) hx hb dX9_isInForce_7 (by decide) (fun c_3 => ?_) (fun c_3 => ?_)
  · refine lv_iconst (v := 0) hx hb dX9_isInForce_30 (by decide) ?_
    exact W.zret (v := 0) hx hb hr rfl (fun t ht hW => ⟨0, rfl, trivial, ht⟩) (fun _ h9 => by cases h9) dX9_isInForce_31
  refine lv_aload_n hx hb dX9_isInForce_10 rfl (lv_at hl 0 rfl) ?_
  refine va_get (D := D) (ci := 9) (v := .ref (ad 18)) (C := RX9) (T := TX9) (N := 44) hx hb hts hin9 hown hK hP 0 rfl rfl 18 (by decide) (hts (.fieldLink RX9 65 "HoneyHouseModel" "shuts" "[I") (List.mem_of_getElem? (i := 2) rfl)) (fun _ h9 => h9) rfl dX9_isInForce_11 ?_
  refine lv_iload_n hx hb dX9_isInForce_14 rfl (lv_at hl 1 rfl) ?_
  refine va_iald (f := fv 18) (n := 16) hx hb hK hP 14 13 rfl rfl (vp_in_nI (n := t) (by omega) (by omega)) dX9_isInForce_15 ?_
  refine lv_topi (fun z_4 hz_5 => ?_)
  refine lv_iconst (v := (-1)) hx hb dX9_isInForce_16 (by decide) ?_
  refine lv_icmp_eq (tgt := 32) hx hb dX9_isInForce_17 (by decide) (fun c_6 => ?_) (fun c_6 => ?_)
  · refine lv_iconst (v := 1) hx hb dX9_isInForce_32 (by decide) ?_
    refine lv_istore_n (lv' := [(3, .int 1), (0, .ref h0), (1, .int (nI t)), (2, .int a2)]) hx hb dX9_isInForce_33 rfl hl (by decide) rfl (fun ls hl => ?_)
    refine lv_iconst (v := 0) hx hb dX9_isInForce_34 (by decide) ?_
    refine lv_istore (lv' := [(4, .int 0), (3, .int 1), (0, .ref h0), (1, .int (nI t)), (2, .int a2)]) hx hb dX9_isInForce_35 hl (by decide) rfl (fun ls hl => ?_)
    refine lp_R (nL := 5) (σ := Nat × Int32) (lv := fun x9 => [(4, .int (nI x9.1)), (3, .int x9.2), (2, .int a2), (1, .int (nI t)), (0, .ref h0)]) (μ := fun x9 => n14 - x9.1) (J := fun x9 => (x9.1 ≤ n14) ∧ (x9.2 = 0 ∨ x9.2 = 1)) (fun x9 ls hj hl ih_7 => ?_) (0, 1) ls ⟨(show 0 ≤ n14 from by omega), (show 1 = 0 ∨ 1 = 1 from Or.inr rfl)⟩ (lv_sub hl [0, 1, 4, 3, 2] rfl)
    obtain ⟨i_8, x_9⟩ := x9
    replace hj : (i_8 ≤ n14) ∧ (x_9 = 0 ∨ x_9 = 1) := hj
    obtain ⟨hi_10, hb_11⟩ := hj
    have hl : lv_has ls 5 [(4, .int (nI i_8)), (3, .int x_9), (2, .int a2), (1, .int (nI t)), (0, .ref h0)] := hl
    refine lv_iload hx hb dX9_isInForce_37 (lv_at hl 0 rfl) ?_
    refine lv_aload_n hx hb dX9_isInForce_39 rfl (lv_at hl 4 rfl) ?_
    refine va_get (D := D) (ci := 9) (v := .int (iv 14)) (C := RX9) (T := TX9) (N := 44) hx hb hts hin9 hown hK hP 0 rfl rfl 14 (by decide) (hts (.fieldLink RX9 53 "HoneyHouseModel" "rules" "I") (List.mem_of_getElem? (i := 3) rfl)) (fun _ h9 => h9) rfl dX9_isInForce_40 ?_
    refine tp_i (y := nI n14) (h14) ?_
    refine lv_icmp_ge (tgt := 121) hx hb dX9_isInForce_43 (by decide) (fun c_12 => ?_) (fun c_12 => ?_)
    · have d_13 := n_le (a := n14) (b := i_8) (by omega) (by omega) c_12
      refine lv_iload_n hx hb dX9_isInForce_121 rfl (lv_at hl 1 rfl) ?_
      exact W.zret (v := x_9) hx hb hr (by rcases hb_11 with h9 | h9 <;> rw [h9] <;> rfl) (fun t ht hW => ⟨x_9, rfl, trivial, ht⟩) (fun _ h9 => by cases h9) dX9_isInForce_122
    have d_14 := n_nle (a := n14) (b := i_8) (by omega) (by omega) c_12
    refine lv_iload_n hx hb dX9_isInForce_46 rfl (lv_at hl 1 rfl) ?_
    refine lv_if_eq (tgt := 113) hx hb dX9_isInForce_47 (by decide) (fun c_15 => ?_) (fun c_15 => ?_)
    · refine lv_iconst (v := 0) hx hb dX9_isInForce_113 (by decide) ?_
      refine lv_istore_n (lv' := [(3, .int 0), (4, .int (nI i_8)), (2, .int a2), (1, .int (nI t)), (0, .ref h0)]) hx hb dX9_isInForce_114 rfl hl (by decide) rfl (fun ls hl => ?_)
      refine lv_iinc (v := nI (i_8 + 1)) (lv' := [(4, .int (nI (i_8 + 1))), (3, .int 0), (2, .int a2), (1, .int (nI t)), (0, .ref h0)]) hx hb dX9_isInForce_115 hl (k := 1) rfl (nI_add i_8 1) (by decide) rfl (fun ls hl => ?_)
      refine lv_goto (tgt := 37) hx hb dX9_isInForce_118 (by decide) ?_
      exact ih_7 (i_8 + 1, 0) ls (by show n14 - (i_8 + 1) < n14 - i_8; omega) ⟨(show (i_8 + 1) ≤ n14 from by omega), (show 0 = 0 ∨ 0 = 1 from Or.inl rfl)⟩ (lv_sub hl [0, 1, 2, 3, 4] rfl)
    refine lv_aload_n hx hb dX9_isInForce_50 rfl (lv_at hl 4 rfl) ?_
    refine lv_iload hx hb dX9_isInForce_51 (lv_at hl 0 rfl) ?_
    refine lv_iload_n hx hb dX9_isInForce_53 rfl (lv_at hl 3 rfl) ?_
    refine vp_callSi (W.runV (As := [.int (nI i_8), .int (nI t)]) (rest := []) ⟨hx, hb, hml, hown, hts⟩ (m_isSame l D h0 ad cs iv fv gv n14 i_8 t h14 (by omega) (by omega) (by omega) hN) (cwV 2 hts gX9_isInForce_X9_isSame rfl rfl rfl (by decide +kernel) ⟨Nat.le_of_ble_eq_true rfl, Nat.le_of_ble_eq_true rfl⟩) ⟨fun a U g mk q => ⟨q.1, q.2.1, va_K.moved (u := U) (U := U.calling g mk a) (Vm.Alike.refl U.vm) q.2.2⟩, va_recv hK hP (ci := 9) (q0 := 0) rfl rfl, fun U hU hW => ⟨rfl, by rw [hU]; exact hP, va_K.moved hW.alike hK⟩⟩ rfl rfl hl.1 rfl (lv_room (Nat.le_of_ble_eq_true rfl)) dX9_isInForce_54 ⟨Nat.le_of_ble_eq_true rfl, Nat.le_of_ble_eq_true rfl⟩) (fun r_16 k_17 => ?_)
    refine lv_if_eq (tgt := 109) hx hb dX9_isInForce_57 (by decide) (fun c_18 => ?_) (fun c_18 => ?_)
    · refine lv_iconst (v := 1) hx hb dX9_isInForce_109 (by decide) ?_
      refine lv_goto (tgt := 114) hx hb dX9_isInForce_110 (by decide) ?_
      refine lv_istore_n (lv' := [(3, .int 1), (4, .int (nI i_8)), (2, .int a2), (1, .int (nI t)), (0, .ref h0)]) hx hb dX9_isInForce_114 rfl hl (by decide) rfl (fun ls hl => ?_)
      refine lv_iinc (v := nI (i_8 + 1)) (lv' := [(4, .int (nI (i_8 + 1))), (3, .int 1), (2, .int a2), (1, .int (nI t)), (0, .ref h0)]) hx hb dX9_isInForce_115 hl (k := 1) rfl (nI_add i_8 1) (by decide) rfl (fun ls hl => ?_)
      refine lv_goto (tgt := 37) hx hb dX9_isInForce_118 (by decide) ?_
      exact ih_7 (i_8 + 1, 1) ls (by show n14 - (i_8 + 1) < n14 - i_8; omega) ⟨(show (i_8 + 1) ≤ n14 from by omega), (show 1 = 0 ∨ 1 = 1 from Or.inr rfl)⟩ (lv_sub hl [0, 1, 2, 3, 4] rfl)
    refine lv_aload_n hx hb dX9_isInForce_60 rfl (lv_at hl 4 rfl) ?_
    refine va_get (D := D) (ci := 9) (v := .ref (ad 17)) (C := RX9) (T := TX9) (N := 44) hx hb hts hin9 hown hK hP 0 rfl rfl 17 (by decide) (hts (.fieldLink RX9 62 "HoneyHouseModel" "from" "[I") (List.mem_of_getElem? (i := 1) rfl)) (fun _ h9 => h9) rfl dX9_isInForce_61 ?_
    refine lv_iload hx hb dX9_isInForce_64 (lv_at hl 0 rfl) ?_
    refine va_iald (f := fv 17) (n := 16) hx hb hK hP 13 12 rfl rfl (vp_in_nI (n := i_8) (by omega) (by omega)) dX9_isInForce_66 ?_
    refine lv_topi (fun z_19 hz_20 => ?_)
    refine lv_iload_n hx hb dX9_isInForce_67 rfl (lv_at hl 2 rfl) ?_
    refine lv_icmp_gt (tgt := 109) hx hb dX9_isInForce_68 (by decide) (fun c_21 => ?_) (fun c_21 => ?_)
    · refine lv_iconst (v := 1) hx hb dX9_isInForce_109 (by decide) ?_
      refine lv_goto (tgt := 114) hx hb dX9_isInForce_110 (by decide) ?_
      refine lv_istore_n (lv' := [(3, .int 1), (4, .int (nI i_8)), (2, .int a2), (1, .int (nI t)), (0, .ref h0)]) hx hb dX9_isInForce_114 rfl hl (by decide) rfl (fun ls hl => ?_)
      refine lv_iinc (v := nI (i_8 + 1)) (lv' := [(4, .int (nI (i_8 + 1))), (3, .int 1), (2, .int a2), (1, .int (nI t)), (0, .ref h0)]) hx hb dX9_isInForce_115 hl (k := 1) rfl (nI_add i_8 1) (by decide) rfl (fun ls hl => ?_)
      refine lv_goto (tgt := 37) hx hb dX9_isInForce_118 (by decide) ?_
      exact ih_7 (i_8 + 1, 1) ls (by show n14 - (i_8 + 1) < n14 - i_8; omega) ⟨(show (i_8 + 1) ≤ n14 from by omega), (show 1 = 0 ∨ 1 = 1 from Or.inr rfl)⟩ (lv_sub hl [0, 1, 2, 3, 4] rfl)
    refine lv_aload_n hx hb dX9_isInForce_71 rfl (lv_at hl 4 rfl) ?_
    refine va_get (D := D) (ci := 9) (v := .ref (ad 17)) (C := RX9) (T := TX9) (N := 44) hx hb hts hin9 hown hK hP 0 rfl rfl 17 (by decide) (hts (.fieldLink RX9 62 "HoneyHouseModel" "from" "[I") (List.mem_of_getElem? (i := 1) rfl)) (fun _ h9 => h9) rfl dX9_isInForce_72 ?_
    refine lv_iload hx hb dX9_isInForce_75 (lv_at hl 0 rfl) ?_
    refine va_iald (f := fv 17) (n := 16) hx hb hK hP 13 12 rfl rfl (vp_in_nI (n := i_8) (by omega) (by omega)) dX9_isInForce_77 ?_
    refine lv_topi (fun z_22 hz_23 => ?_)
    refine lv_aload_n hx hb dX9_isInForce_78 rfl (lv_at hl 4 rfl) ?_
    refine va_get (D := D) (ci := 9) (v := .ref (ad 17)) (C := RX9) (T := TX9) (N := 44) hx hb hts hin9 hown hK hP 0 rfl rfl 17 (by decide) (hts (.fieldLink RX9 62 "HoneyHouseModel" "from" "[I") (List.mem_of_getElem? (i := 1) rfl)) (fun _ h9 => h9) rfl dX9_isInForce_79 ?_
    refine lv_iload_n hx hb dX9_isInForce_82 rfl (lv_at hl 3 rfl) ?_
    refine va_iald (f := fv 17) (n := 16) hx hb hK hP 13 12 rfl rfl (vp_in_nI (n := t) (by omega) (by omega)) dX9_isInForce_83 ?_
    refine lv_topi (fun z_24 hz_25 => ?_)
    refine lv_icmp_lt (tgt := 109) hx hb dX9_isInForce_84 (by decide) (fun c_26 => ?_) (fun c_26 => ?_)
    · refine lv_iconst (v := 1) hx hb dX9_isInForce_109 (by decide) ?_
      refine lv_goto (tgt := 114) hx hb dX9_isInForce_110 (by decide) ?_
      refine lv_istore_n (lv' := [(3, .int 1), (4, .int (nI i_8)), (2, .int a2), (1, .int (nI t)), (0, .ref h0)]) hx hb dX9_isInForce_114 rfl hl (by decide) rfl (fun ls hl => ?_)
      refine lv_iinc (v := nI (i_8 + 1)) (lv' := [(4, .int (nI (i_8 + 1))), (3, .int 1), (2, .int a2), (1, .int (nI t)), (0, .ref h0)]) hx hb dX9_isInForce_115 hl (k := 1) rfl (nI_add i_8 1) (by decide) rfl (fun ls hl => ?_)
      refine lv_goto (tgt := 37) hx hb dX9_isInForce_118 (by decide) ?_
      exact ih_7 (i_8 + 1, 1) ls (by show n14 - (i_8 + 1) < n14 - i_8; omega) ⟨(show (i_8 + 1) ≤ n14 from by omega), (show 1 = 0 ∨ 1 = 1 from Or.inr rfl)⟩ (lv_sub hl [0, 1, 2, 3, 4] rfl)
    refine lv_aload_n hx hb dX9_isInForce_87 rfl (lv_at hl 4 rfl) ?_
    refine va_get (D := D) (ci := 9) (v := .ref (ad 17)) (C := RX9) (T := TX9) (N := 44) hx hb hts hin9 hown hK hP 0 rfl rfl 17 (by decide) (hts (.fieldLink RX9 62 "HoneyHouseModel" "from" "[I") (List.mem_of_getElem? (i := 1) rfl)) (fun _ h9 => h9) rfl dX9_isInForce_88 ?_
    refine lv_iload hx hb dX9_isInForce_91 (lv_at hl 0 rfl) ?_
    refine va_iald (f := fv 17) (n := 16) hx hb hK hP 13 12 rfl rfl (vp_in_nI (n := i_8) (by omega) (by omega)) dX9_isInForce_93 ?_
    refine lv_topi (fun z_27 hz_28 => ?_)
    refine lv_aload_n hx hb dX9_isInForce_94 rfl (lv_at hl 4 rfl) ?_
    refine va_get (D := D) (ci := 9) (v := .ref (ad 17)) (C := RX9) (T := TX9) (N := 44) hx hb hts hin9 hown hK hP 0 rfl rfl 17 (by decide) (hts (.fieldLink RX9 62 "HoneyHouseModel" "from" "[I") (List.mem_of_getElem? (i := 1) rfl)) (fun _ h9 => h9) rfl dX9_isInForce_95 ?_
    refine lv_iload_n hx hb dX9_isInForce_98 rfl (lv_at hl 3 rfl) ?_
    refine va_iald (f := fv 17) (n := 16) hx hb hK hP 13 12 rfl rfl (vp_in_nI (n := t) (by omega) (by omega)) dX9_isInForce_99 ?_
    refine lv_topi (fun z_29 hz_30 => ?_)
    refine lv_icmp_ne (tgt := 113) hx hb dX9_isInForce_100 (by decide) (fun c_31 => ?_) (fun c_31 => ?_)
    · refine lv_iconst (v := 0) hx hb dX9_isInForce_113 (by decide) ?_
      refine lv_istore_n (lv' := [(3, .int 0), (4, .int (nI i_8)), (2, .int a2), (1, .int (nI t)), (0, .ref h0)]) hx hb dX9_isInForce_114 rfl hl (by decide) rfl (fun ls hl => ?_)
      refine lv_iinc (v := nI (i_8 + 1)) (lv' := [(4, .int (nI (i_8 + 1))), (3, .int 0), (2, .int a2), (1, .int (nI t)), (0, .ref h0)]) hx hb dX9_isInForce_115 hl (k := 1) rfl (nI_add i_8 1) (by decide) rfl (fun ls hl => ?_)
      refine lv_goto (tgt := 37) hx hb dX9_isInForce_118 (by decide) ?_
      exact ih_7 (i_8 + 1, 0) ls (by show n14 - (i_8 + 1) < n14 - i_8; omega) ⟨(show (i_8 + 1) ≤ n14 from by omega), (show 0 = 0 ∨ 0 = 1 from Or.inl rfl)⟩ (lv_sub hl [0, 1, 2, 3, 4] rfl)
    refine lv_iload hx hb dX9_isInForce_103 (lv_at hl 0 rfl) ?_
    refine lv_iload_n hx hb dX9_isInForce_105 rfl (lv_at hl 3 rfl) ?_
    refine lv_icmp_gt (tgt := 113) hx hb dX9_isInForce_106 (by decide) (fun c_32 => ?_) (fun c_32 => ?_)
    · have d_33 := n_lt (a := t) (b := i_8) (by omega) (by omega) c_32
      refine lv_iconst (v := 0) hx hb dX9_isInForce_113 (by decide) ?_
      refine lv_istore_n (lv' := [(3, .int 0), (4, .int (nI i_8)), (2, .int a2), (1, .int (nI t)), (0, .ref h0)]) hx hb dX9_isInForce_114 rfl hl (by decide) rfl (fun ls hl => ?_)
      refine lv_iinc (v := nI (i_8 + 1)) (lv' := [(4, .int (nI (i_8 + 1))), (3, .int 0), (2, .int a2), (1, .int (nI t)), (0, .ref h0)]) hx hb dX9_isInForce_115 hl (k := 1) rfl (nI_add i_8 1) (by decide) rfl (fun ls hl => ?_)
      refine lv_goto (tgt := 37) hx hb dX9_isInForce_118 (by decide) ?_
      exact ih_7 (i_8 + 1, 0) ls (by show n14 - (i_8 + 1) < n14 - i_8; omega) ⟨(show (i_8 + 1) ≤ n14 from by omega), (show 0 = 0 ∨ 0 = 1 from Or.inl rfl)⟩ (lv_sub hl [0, 1, 2, 3, 4] rfl)
    have d_34 := n_nlt (a := t) (b := i_8) (by omega) (by omega) c_32
    refine lv_iconst (v := 1) hx hb dX9_isInForce_109 (by decide) ?_
    refine lv_goto (tgt := 114) hx hb dX9_isInForce_110 (by decide) ?_
    refine lv_istore_n (lv' := [(3, .int 1), (4, .int (nI i_8)), (2, .int a2), (1, .int (nI t)), (0, .ref h0)]) hx hb dX9_isInForce_114 rfl hl (by decide) rfl (fun ls hl => ?_)
    refine lv_iinc (v := nI (i_8 + 1)) (lv' := [(4, .int (nI (i_8 + 1))), (3, .int 1), (2, .int a2), (1, .int (nI t)), (0, .ref h0)]) hx hb dX9_isInForce_115 hl (k := 1) rfl (nI_add i_8 1) (by decide) rfl (fun ls hl => ?_)
    refine lv_goto (tgt := 37) hx hb dX9_isInForce_118 (by decide) ?_
    exact ih_7 (i_8 + 1, 1) ls (by show n14 - (i_8 + 1) < n14 - i_8; omega) ⟨(show (i_8 + 1) ≤ n14 from by omega), (show 1 = 0 ∨ 1 = 1 from Or.inr rfl)⟩ (lv_sub hl [0, 1, 2, 3, 4] rfl)
  refine lv_aload_n hx hb dX9_isInForce_20 rfl (lv_at hl 0 rfl) ?_
  refine va_get (D := D) (ci := 9) (v := .ref (ad 18)) (C := RX9) (T := TX9) (N := 44) hx hb hts hin9 hown hK hP 0 rfl rfl 18 (by decide) (hts (.fieldLink RX9 65 "HoneyHouseModel" "shuts" "[I") (List.mem_of_getElem? (i := 2) rfl)) (fun _ h9 => h9) rfl dX9_isInForce_21 ?_
  refine lv_iload_n hx hb dX9_isInForce_24 rfl (lv_at hl 1 rfl) ?_
  refine va_iald (f := fv 18) (n := 16) hx hb hK hP 14 13 rfl rfl (vp_in_nI (n := t) (by omega) (by omega)) dX9_isInForce_25 ?_
  refine lv_topi (fun z_35 hz_36 => ?_)
  refine lv_iload_n hx hb dX9_isInForce_26 rfl (lv_at hl 2 rfl) ?_
  refine lv_icmp_gt (tgt := 32) hx hb dX9_isInForce_27 (by decide) (fun c_37 => ?_) (fun c_37 => ?_)
  · refine lv_iconst (v := 1) hx hb dX9_isInForce_32 (by decide) ?_
    refine lv_istore_n (lv' := [(3, .int 1), (0, .ref h0), (1, .int (nI t)), (2, .int a2)]) hx hb dX9_isInForce_33 rfl hl (by decide) rfl (fun ls hl => ?_)
    refine lv_iconst (v := 0) hx hb dX9_isInForce_34 (by decide) ?_
    refine lv_istore (lv' := [(4, .int 0), (3, .int 1), (0, .ref h0), (1, .int (nI t)), (2, .int a2)]) hx hb dX9_isInForce_35 hl (by decide) rfl (fun ls hl => ?_)
    refine lp_R (nL := 5) (σ := Nat × Int32) (lv := fun x9 => [(4, .int (nI x9.1)), (3, .int x9.2), (2, .int a2), (1, .int (nI t)), (0, .ref h0)]) (μ := fun x9 => n14 - x9.1) (J := fun x9 => (x9.1 ≤ n14) ∧ (x9.2 = 0 ∨ x9.2 = 1)) (fun x9 ls hj hl ih_38 => ?_) (0, 1) ls ⟨(show 0 ≤ n14 from by omega), (show 1 = 0 ∨ 1 = 1 from Or.inr rfl)⟩ (lv_sub hl [0, 1, 4, 3, 2] rfl)
    obtain ⟨i_39, x_40⟩ := x9
    replace hj : (i_39 ≤ n14) ∧ (x_40 = 0 ∨ x_40 = 1) := hj
    obtain ⟨hi_41, hb_42⟩ := hj
    have hl : lv_has ls 5 [(4, .int (nI i_39)), (3, .int x_40), (2, .int a2), (1, .int (nI t)), (0, .ref h0)] := hl
    refine lv_iload hx hb dX9_isInForce_37 (lv_at hl 0 rfl) ?_
    refine lv_aload_n hx hb dX9_isInForce_39 rfl (lv_at hl 4 rfl) ?_
    refine va_get (D := D) (ci := 9) (v := .int (iv 14)) (C := RX9) (T := TX9) (N := 44) hx hb hts hin9 hown hK hP 0 rfl rfl 14 (by decide) (hts (.fieldLink RX9 53 "HoneyHouseModel" "rules" "I") (List.mem_of_getElem? (i := 3) rfl)) (fun _ h9 => h9) rfl dX9_isInForce_40 ?_
    refine tp_i (y := nI n14) (h14) ?_
    refine lv_icmp_ge (tgt := 121) hx hb dX9_isInForce_43 (by decide) (fun c_43 => ?_) (fun c_43 => ?_)
    · have d_44 := n_le (a := n14) (b := i_39) (by omega) (by omega) c_43
      refine lv_iload_n hx hb dX9_isInForce_121 rfl (lv_at hl 1 rfl) ?_
      exact W.zret (v := x_40) hx hb hr (by rcases hb_42 with h9 | h9 <;> rw [h9] <;> rfl) (fun t ht hW => ⟨x_40, rfl, trivial, ht⟩) (fun _ h9 => by cases h9) dX9_isInForce_122
    have d_45 := n_nle (a := n14) (b := i_39) (by omega) (by omega) c_43
    refine lv_iload_n hx hb dX9_isInForce_46 rfl (lv_at hl 1 rfl) ?_
    refine lv_if_eq (tgt := 113) hx hb dX9_isInForce_47 (by decide) (fun c_46 => ?_) (fun c_46 => ?_)
    · refine lv_iconst (v := 0) hx hb dX9_isInForce_113 (by decide) ?_
      refine lv_istore_n (lv' := [(3, .int 0), (4, .int (nI i_39)), (2, .int a2), (1, .int (nI t)), (0, .ref h0)]) hx hb dX9_isInForce_114 rfl hl (by decide) rfl (fun ls hl => ?_)
      refine lv_iinc (v := nI (i_39 + 1)) (lv' := [(4, .int (nI (i_39 + 1))), (3, .int 0), (2, .int a2), (1, .int (nI t)), (0, .ref h0)]) hx hb dX9_isInForce_115 hl (k := 1) rfl (nI_add i_39 1) (by decide) rfl (fun ls hl => ?_)
      refine lv_goto (tgt := 37) hx hb dX9_isInForce_118 (by decide) ?_
      exact ih_38 (i_39 + 1, 0) ls (by show n14 - (i_39 + 1) < n14 - i_39; omega) ⟨(show (i_39 + 1) ≤ n14 from by omega), (show 0 = 0 ∨ 0 = 1 from Or.inl rfl)⟩ (lv_sub hl [0, 1, 2, 3, 4] rfl)
    refine lv_aload_n hx hb dX9_isInForce_50 rfl (lv_at hl 4 rfl) ?_
    refine lv_iload hx hb dX9_isInForce_51 (lv_at hl 0 rfl) ?_
    refine lv_iload_n hx hb dX9_isInForce_53 rfl (lv_at hl 3 rfl) ?_
    refine vp_callSi (W.runV (As := [.int (nI i_39), .int (nI t)]) (rest := []) ⟨hx, hb, hml, hown, hts⟩ (m_isSame l D h0 ad cs iv fv gv n14 i_39 t h14 (by omega) (by omega) (by omega) hN) (cwV 2 hts gX9_isInForce_X9_isSame rfl rfl rfl (by decide +kernel) ⟨Nat.le_of_ble_eq_true rfl, Nat.le_of_ble_eq_true rfl⟩) ⟨fun a U g mk q => ⟨q.1, q.2.1, va_K.moved (u := U) (U := U.calling g mk a) (Vm.Alike.refl U.vm) q.2.2⟩, va_recv hK hP (ci := 9) (q0 := 0) rfl rfl, fun U hU hW => ⟨rfl, by rw [hU]; exact hP, va_K.moved hW.alike hK⟩⟩ rfl rfl hl.1 rfl (lv_room (Nat.le_of_ble_eq_true rfl)) dX9_isInForce_54 ⟨Nat.le_of_ble_eq_true rfl, Nat.le_of_ble_eq_true rfl⟩) (fun r_47 k_48 => ?_)
    refine lv_if_eq (tgt := 109) hx hb dX9_isInForce_57 (by decide) (fun c_49 => ?_) (fun c_49 => ?_)
    · refine lv_iconst (v := 1) hx hb dX9_isInForce_109 (by decide) ?_
      refine lv_goto (tgt := 114) hx hb dX9_isInForce_110 (by decide) ?_
      refine lv_istore_n (lv' := [(3, .int 1), (4, .int (nI i_39)), (2, .int a2), (1, .int (nI t)), (0, .ref h0)]) hx hb dX9_isInForce_114 rfl hl (by decide) rfl (fun ls hl => ?_)
      refine lv_iinc (v := nI (i_39 + 1)) (lv' := [(4, .int (nI (i_39 + 1))), (3, .int 1), (2, .int a2), (1, .int (nI t)), (0, .ref h0)]) hx hb dX9_isInForce_115 hl (k := 1) rfl (nI_add i_39 1) (by decide) rfl (fun ls hl => ?_)
      refine lv_goto (tgt := 37) hx hb dX9_isInForce_118 (by decide) ?_
      exact ih_38 (i_39 + 1, 1) ls (by show n14 - (i_39 + 1) < n14 - i_39; omega) ⟨(show (i_39 + 1) ≤ n14 from by omega), (show 1 = 0 ∨ 1 = 1 from Or.inr rfl)⟩ (lv_sub hl [0, 1, 2, 3, 4] rfl)
    refine lv_aload_n hx hb dX9_isInForce_60 rfl (lv_at hl 4 rfl) ?_
    refine va_get (D := D) (ci := 9) (v := .ref (ad 17)) (C := RX9) (T := TX9) (N := 44) hx hb hts hin9 hown hK hP 0 rfl rfl 17 (by decide) (hts (.fieldLink RX9 62 "HoneyHouseModel" "from" "[I") (List.mem_of_getElem? (i := 1) rfl)) (fun _ h9 => h9) rfl dX9_isInForce_61 ?_
    refine lv_iload hx hb dX9_isInForce_64 (lv_at hl 0 rfl) ?_
    refine va_iald (f := fv 17) (n := 16) hx hb hK hP 13 12 rfl rfl (vp_in_nI (n := i_39) (by omega) (by omega)) dX9_isInForce_66 ?_
    refine lv_topi (fun z_50 hz_51 => ?_)
    refine lv_iload_n hx hb dX9_isInForce_67 rfl (lv_at hl 2 rfl) ?_
    refine lv_icmp_gt (tgt := 109) hx hb dX9_isInForce_68 (by decide) (fun c_52 => ?_) (fun c_52 => ?_)
    · refine lv_iconst (v := 1) hx hb dX9_isInForce_109 (by decide) ?_
      refine lv_goto (tgt := 114) hx hb dX9_isInForce_110 (by decide) ?_
      refine lv_istore_n (lv' := [(3, .int 1), (4, .int (nI i_39)), (2, .int a2), (1, .int (nI t)), (0, .ref h0)]) hx hb dX9_isInForce_114 rfl hl (by decide) rfl (fun ls hl => ?_)
      refine lv_iinc (v := nI (i_39 + 1)) (lv' := [(4, .int (nI (i_39 + 1))), (3, .int 1), (2, .int a2), (1, .int (nI t)), (0, .ref h0)]) hx hb dX9_isInForce_115 hl (k := 1) rfl (nI_add i_39 1) (by decide) rfl (fun ls hl => ?_)
      refine lv_goto (tgt := 37) hx hb dX9_isInForce_118 (by decide) ?_
      exact ih_38 (i_39 + 1, 1) ls (by show n14 - (i_39 + 1) < n14 - i_39; omega) ⟨(show (i_39 + 1) ≤ n14 from by omega), (show 1 = 0 ∨ 1 = 1 from Or.inr rfl)⟩ (lv_sub hl [0, 1, 2, 3, 4] rfl)
    refine lv_aload_n hx hb dX9_isInForce_71 rfl (lv_at hl 4 rfl) ?_
    refine va_get (D := D) (ci := 9) (v := .ref (ad 17)) (C := RX9) (T := TX9) (N := 44) hx hb hts hin9 hown hK hP 0 rfl rfl 17 (by decide) (hts (.fieldLink RX9 62 "HoneyHouseModel" "from" "[I") (List.mem_of_getElem? (i := 1) rfl)) (fun _ h9 => h9) rfl dX9_isInForce_72 ?_
    refine lv_iload hx hb dX9_isInForce_75 (lv_at hl 0 rfl) ?_
    refine va_iald (f := fv 17) (n := 16) hx hb hK hP 13 12 rfl rfl (vp_in_nI (n := i_39) (by omega) (by omega)) dX9_isInForce_77 ?_
    refine lv_topi (fun z_53 hz_54 => ?_)
    refine lv_aload_n hx hb dX9_isInForce_78 rfl (lv_at hl 4 rfl) ?_
    refine va_get (D := D) (ci := 9) (v := .ref (ad 17)) (C := RX9) (T := TX9) (N := 44) hx hb hts hin9 hown hK hP 0 rfl rfl 17 (by decide) (hts (.fieldLink RX9 62 "HoneyHouseModel" "from" "[I") (List.mem_of_getElem? (i := 1) rfl)) (fun _ h9 => h9) rfl dX9_isInForce_79 ?_
    refine lv_iload_n hx hb dX9_isInForce_82 rfl (lv_at hl 3 rfl) ?_
    refine va_iald (f := fv 17) (n := 16) hx hb hK hP 13 12 rfl rfl (vp_in_nI (n := t) (by omega) (by omega)) dX9_isInForce_83 ?_
    refine lv_topi (fun z_55 hz_56 => ?_)
    refine lv_icmp_lt (tgt := 109) hx hb dX9_isInForce_84 (by decide) (fun c_57 => ?_) (fun c_57 => ?_)
    · refine lv_iconst (v := 1) hx hb dX9_isInForce_109 (by decide) ?_
      refine lv_goto (tgt := 114) hx hb dX9_isInForce_110 (by decide) ?_
      refine lv_istore_n (lv' := [(3, .int 1), (4, .int (nI i_39)), (2, .int a2), (1, .int (nI t)), (0, .ref h0)]) hx hb dX9_isInForce_114 rfl hl (by decide) rfl (fun ls hl => ?_)
      refine lv_iinc (v := nI (i_39 + 1)) (lv' := [(4, .int (nI (i_39 + 1))), (3, .int 1), (2, .int a2), (1, .int (nI t)), (0, .ref h0)]) hx hb dX9_isInForce_115 hl (k := 1) rfl (nI_add i_39 1) (by decide) rfl (fun ls hl => ?_)
      refine lv_goto (tgt := 37) hx hb dX9_isInForce_118 (by decide) ?_
      exact ih_38 (i_39 + 1, 1) ls (by show n14 - (i_39 + 1) < n14 - i_39; omega) ⟨(show (i_39 + 1) ≤ n14 from by omega), (show 1 = 0 ∨ 1 = 1 from Or.inr rfl)⟩ (lv_sub hl [0, 1, 2, 3, 4] rfl)
    refine lv_aload_n hx hb dX9_isInForce_87 rfl (lv_at hl 4 rfl) ?_
    refine va_get (D := D) (ci := 9) (v := .ref (ad 17)) (C := RX9) (T := TX9) (N := 44) hx hb hts hin9 hown hK hP 0 rfl rfl 17 (by decide) (hts (.fieldLink RX9 62 "HoneyHouseModel" "from" "[I") (List.mem_of_getElem? (i := 1) rfl)) (fun _ h9 => h9) rfl dX9_isInForce_88 ?_
    refine lv_iload hx hb dX9_isInForce_91 (lv_at hl 0 rfl) ?_
    refine va_iald (f := fv 17) (n := 16) hx hb hK hP 13 12 rfl rfl (vp_in_nI (n := i_39) (by omega) (by omega)) dX9_isInForce_93 ?_
    refine lv_topi (fun z_58 hz_59 => ?_)
    refine lv_aload_n hx hb dX9_isInForce_94 rfl (lv_at hl 4 rfl) ?_
    refine va_get (D := D) (ci := 9) (v := .ref (ad 17)) (C := RX9) (T := TX9) (N := 44) hx hb hts hin9 hown hK hP 0 rfl rfl 17 (by decide) (hts (.fieldLink RX9 62 "HoneyHouseModel" "from" "[I") (List.mem_of_getElem? (i := 1) rfl)) (fun _ h9 => h9) rfl dX9_isInForce_95 ?_
    refine lv_iload_n hx hb dX9_isInForce_98 rfl (lv_at hl 3 rfl) ?_
    refine va_iald (f := fv 17) (n := 16) hx hb hK hP 13 12 rfl rfl (vp_in_nI (n := t) (by omega) (by omega)) dX9_isInForce_99 ?_
    refine lv_topi (fun z_60 hz_61 => ?_)
    refine lv_icmp_ne (tgt := 113) hx hb dX9_isInForce_100 (by decide) (fun c_62 => ?_) (fun c_62 => ?_)
    · refine lv_iconst (v := 0) hx hb dX9_isInForce_113 (by decide) ?_
      refine lv_istore_n (lv' := [(3, .int 0), (4, .int (nI i_39)), (2, .int a2), (1, .int (nI t)), (0, .ref h0)]) hx hb dX9_isInForce_114 rfl hl (by decide) rfl (fun ls hl => ?_)
      refine lv_iinc (v := nI (i_39 + 1)) (lv' := [(4, .int (nI (i_39 + 1))), (3, .int 0), (2, .int a2), (1, .int (nI t)), (0, .ref h0)]) hx hb dX9_isInForce_115 hl (k := 1) rfl (nI_add i_39 1) (by decide) rfl (fun ls hl => ?_)
      refine lv_goto (tgt := 37) hx hb dX9_isInForce_118 (by decide) ?_
      exact ih_38 (i_39 + 1, 0) ls (by show n14 - (i_39 + 1) < n14 - i_39; omega) ⟨(show (i_39 + 1) ≤ n14 from by omega), (show 0 = 0 ∨ 0 = 1 from Or.inl rfl)⟩ (lv_sub hl [0, 1, 2, 3, 4] rfl)
    refine lv_iload hx hb dX9_isInForce_103 (lv_at hl 0 rfl) ?_
    refine lv_iload_n hx hb dX9_isInForce_105 rfl (lv_at hl 3 rfl) ?_
    refine lv_icmp_gt (tgt := 113) hx hb dX9_isInForce_106 (by decide) (fun c_63 => ?_) (fun c_63 => ?_)
    · have d_64 := n_lt (a := t) (b := i_39) (by omega) (by omega) c_63
      refine lv_iconst (v := 0) hx hb dX9_isInForce_113 (by decide) ?_
      refine lv_istore_n (lv' := [(3, .int 0), (4, .int (nI i_39)), (2, .int a2), (1, .int (nI t)), (0, .ref h0)]) hx hb dX9_isInForce_114 rfl hl (by decide) rfl (fun ls hl => ?_)
      refine lv_iinc (v := nI (i_39 + 1)) (lv' := [(4, .int (nI (i_39 + 1))), (3, .int 0), (2, .int a2), (1, .int (nI t)), (0, .ref h0)]) hx hb dX9_isInForce_115 hl (k := 1) rfl (nI_add i_39 1) (by decide) rfl (fun ls hl => ?_)
      refine lv_goto (tgt := 37) hx hb dX9_isInForce_118 (by decide) ?_
      exact ih_38 (i_39 + 1, 0) ls (by show n14 - (i_39 + 1) < n14 - i_39; omega) ⟨(show (i_39 + 1) ≤ n14 from by omega), (show 0 = 0 ∨ 0 = 1 from Or.inl rfl)⟩ (lv_sub hl [0, 1, 2, 3, 4] rfl)
    have d_65 := n_nlt (a := t) (b := i_39) (by omega) (by omega) c_63
    refine lv_iconst (v := 1) hx hb dX9_isInForce_109 (by decide) ?_
    refine lv_goto (tgt := 114) hx hb dX9_isInForce_110 (by decide) ?_
    refine lv_istore_n (lv' := [(3, .int 1), (4, .int (nI i_39)), (2, .int a2), (1, .int (nI t)), (0, .ref h0)]) hx hb dX9_isInForce_114 rfl hl (by decide) rfl (fun ls hl => ?_)
    refine lv_iinc (v := nI (i_39 + 1)) (lv' := [(4, .int (nI (i_39 + 1))), (3, .int 1), (2, .int a2), (1, .int (nI t)), (0, .ref h0)]) hx hb dX9_isInForce_115 hl (k := 1) rfl (nI_add i_39 1) (by decide) rfl (fun ls hl => ?_)
    refine lv_goto (tgt := 37) hx hb dX9_isInForce_118 (by decide) ?_
    exact ih_38 (i_39 + 1, 1) ls (by show n14 - (i_39 + 1) < n14 - i_39; omega) ⟨(show (i_39 + 1) ≤ n14 from by omega), (show 1 = 0 ∨ 1 = 1 from Or.inr rfl)⟩ (lv_sub hl [0, 1, 2, 3, 4] rfl)
  refine lv_iconst (v := 0) hx hb dX9_isInForce_30 (by decide) ?_
  exact W.zret (v := 0) hx hb hr rfl (fun t ht hW => ⟨0, rfl, trivial, ht⟩) (fun _ h9 => by cases h9) dX9_isInForce_31
set_option maxHeartbeats 4000000 in
set_option maxRecDepth 100000 in
theorem m_whose (l : Launch) (D : va_G) (h0 : Nat) (ad : Nat → Nat) (cs : Nat → ClassId) (iv : Nat → Int32) (fv : Nat → Nat → Int32) (gv : Nat → Int64) (n3 n13 : Nat) (a1 a2 : Int32) (h3 : iv 3 = nI n3) (h13 : iv 13 = nI n13) (b3 : n3 ≤ 40) (b13 : n13 ≤ 60) : Met l yX9_whose wsX9_whose ({ frames := 1, cells := 0, slots := 0, locals := 22 }) (va_Pc [.ref h0, .int a1, .int a2] (fun U => va_P D vwCl (mw h0 ad cs iv fv gv) U.heap ∧ va_K D vwCl (mT cs) U)) (vp_Sl (fun r => (whoN a1 a2 ∧ r = (-1)) ∨ (¬ whoN a1 a2 ∧ r = whoM fv n3 n13 a1 a2))) 0 0 (fun _ => False) := by
  refine Met.ofW (cc := cX9_whose) (maxL := 13) (ret := (some .long)) (by decide) rfl ?_
  intro p e s m args below meth c s₁ B hml hv
  obtain ⟨rfl, hP, hK⟩ := hv
  have hx := B.exec
  have hb := B.bytes
  have hr := B.returns
  have hts := atoms_spec (ws := wsX9_whose) B.pre
  have hown : s.vm.findClass RX9 = some m.cls := findClass_of_methodNamed B.named
  have hlocks := B.notSynchronized
  have hin9 : ∀ w ∈ u_ws RX9 TX9 44, w ∈ wsX9_whose := (fun _ h9 => List.mem_cons_of_mem _ ((List.mem_append_right _ h9)))
  have hl := lv_entry ([.ref h0, .int a1, .int a2]) (n := 13) (Nat.le_of_ble_eq_true rfl)
  rw [lg_entry_eq]
  generalize (lg_sl ([.ref h0, .int a1, .int a2]) ++ List.replicate (13 - (lg_sl ([.ref h0, .int a1, .int a2])).length) Slot.unset).toArray = ls at hl ⊢
  have hl : lv_has ls 13 [(0, .ref h0), (1, .int a1), (2, .int a2)] := hl
  refine lv_iload_n hx hb dX9_whose_0 rfl (lv_at hl 1 rfl) ?_
  refine lv_iconst (v := 0) hx hb dX9_whose_1 (by decide) ?_
  refine lv_bipush (v := 9) hx hb dX9_whose_2 (by decide) ?_
  refine vp_callSi (W.runS (As := [.int a1, .int 0, .int 9]) (rest := []) ⟨hx, hb, hml, hown, hts⟩ (s_X9_is l a1 0 9) (va_cwS 3 hts gX9_whose_X9_is rfl rfl rfl (by decide +kernel) ⟨Nat.le_of_ble_eq_true rfl, Nat.le_of_ble_eq_true rfl⟩) ⟨fun a U g mk q => q, fun U hU hW => ⟨rfl, trivial⟩⟩ rfl rfl hl.1 rfl (lv_room (Nat.le_of_ble_eq_true rfl)) dX9_whose_4 ⟨Nat.le_of_ble_eq_true rfl, Nat.le_of_ble_eq_true rfl⟩) (fun r_1 k_2 => ?_)
  rcases k_2 with ⟨rfl, o_3⟩ | ⟨rfl, a_4, b_5⟩
  · refine lv_if_eq (tgt := 19) hx hb dX9_whose_7 (by decide) (fun c_6 => ?_) (fun c_6 => absurd (by decide) c_6)
    refine lv_ldc2 hx hb hown (hts (.constantLong RX9 173 (-1)) (List.mem_of_getElem? (i := 1) rfl)) dX9_whose_19 ?_
    exact W.lret (v := (-1)) hx hb hr (fun t ht hW => ⟨(-1), rfl, Or.inl ⟨Or.inl o_3, rfl⟩, ht⟩) (fun _ h9 => by cases h9) dX9_whose_22
  refine lv_if_eq (tgt := 19) hx hb dX9_whose_7 (by decide) (fun c_7 => absurd c_7 (by decide)) (fun c_7 => ?_)
  refine lv_iload_n hx hb dX9_whose_10 rfl (lv_at hl 2 rfl) ?_
  refine lv_iconst (v := 0) hx hb dX9_whose_11 (by decide) ?_
  refine lv_iconst (v := 3) hx hb dX9_whose_12 (by decide) ?_
  refine vp_callSi (W.runS (As := [.int a2, .int 0, .int 3]) (rest := []) ⟨hx, hb, hml, hown, hts⟩ (s_X9_is l a2 0 3) (va_cwS 3 hts gX9_whose_X9_is rfl rfl rfl (by decide +kernel) ⟨Nat.le_of_ble_eq_true rfl, Nat.le_of_ble_eq_true rfl⟩) ⟨fun a U g mk q => q, fun U hU hW => ⟨rfl, trivial⟩⟩ rfl rfl hl.1 rfl (lv_room (Nat.le_of_ble_eq_true rfl)) dX9_whose_13 ⟨Nat.le_of_ble_eq_true rfl, Nat.le_of_ble_eq_true rfl⟩) (fun r_8 k_9 => ?_)
  rcases k_9 with ⟨rfl, o_10⟩ | ⟨rfl, a_11, b_12⟩
  · refine lv_if_ne (tgt := 23) hx hb dX9_whose_16 (by decide) (fun c_13 => absurd (by decide) c_13) (fun c_13 => ?_)
    refine lv_ldc2 hx hb hown (hts (.constantLong RX9 173 (-1)) (List.mem_of_getElem? (i := 1) rfl)) dX9_whose_19 ?_
    exact W.lret (v := (-1)) hx hb hr (fun t ht hW => ⟨(-1), rfl, Or.inl ⟨Or.inr (o_10), rfl⟩, ht⟩) (fun _ h9 => by cases h9) dX9_whose_22
  refine lv_if_ne (tgt := 23) hx hb dX9_whose_16 (by decide) (fun c_14 => ?_) (fun c_14 => absurd c_14 (by decide))
  refine lv_lconst (v := 0) hx hb dX9_whose_23 (by decide) ?_
  refine lv_lstore_n (lv' := [(3, .long 0), (0, .ref h0), (1, .int a1), (2, .int a2)]) hx hb dX9_whose_24 rfl hl (by decide) rfl (fun ls hl => ?_)
  refine lv_lconst (v := 0) hx hb dX9_whose_25 (by decide) ?_
  refine lv_lstore (lv' := [(5, .long 0), (3, .long 0), (0, .ref h0), (1, .int a1), (2, .int a2)]) hx hb dX9_whose_26 hl (by decide) rfl (fun ls hl => ?_)
  refine lv_lconst (v := 0) hx hb dX9_whose_28 (by decide) ?_
  refine lv_lstore (lv' := [(7, .long 0), (5, .long 0), (3, .long 0), (0, .ref h0), (1, .int a1), (2, .int a2)]) hx hb dX9_whose_29 hl (by decide) rfl (fun ls hl => ?_)
  refine lv_lconst (v := 0) hx hb dX9_whose_31 (by decide) ?_
  refine lv_lstore (lv' := [(9, .long 0), (7, .long 0), (5, .long 0), (3, .long 0), (0, .ref h0), (1, .int a1), (2, .int a2)]) hx hb dX9_whose_32 hl (by decide) rfl (fun ls hl => ?_)
  refine lv_iconst (v := 0) hx hb dX9_whose_34 (by decide) ?_
  refine lv_istore (lv' := [(11, .int 0), (9, .long 0), (7, .long 0), (5, .long 0), (3, .long 0), (0, .ref h0), (1, .int a1), (2, .int a2)]) hx hb dX9_whose_35 hl (by decide) rfl (fun ls hl => ?_)
  refine lp_R (nL := 13) (σ := Nat × Int64 × Int64 × Int64 × Int64) (lv := fun x9 => [(11, .int (nI x9.1)), (9, .long x9.2.2.2.2), (7, .long x9.2.2.2.1), (5, .long x9.2.2.1), (3, .long x9.2.1), (2, .int a2), (1, .int a1), (0, .ref h0)]) (μ := fun x9 => n3 - x9.1) (J := fun x9 => (x9.1 ≤ n3) ∧ (x9.2.1 = whS fv a1 (fun l9 => (fv 4 (7 * l9 + 1)).toInt64) x9.1) ∧ (x9.2.2.1 = whS fv a1 (fun l9 => (fv 4 (7 * l9 + 5)).toInt64) x9.1) ∧ (x9.2.2.2.1 = whS fv a1 (fun l9 => tkI fv l9 (10 + n13)) x9.1) ∧ (x9.2.2.2.2 = whS fv a1 (fun l9 => btI fv l9 (10 + n13)) x9.1)) (fun x9 ls hj hl ih_15 => ?_) (0, 0, 0, 0, 0) ls ⟨(show 0 ≤ n3 from by omega), (show 0 = whS fv a1 (fun l9 => (fv 4 (7 * l9 + 1)).toInt64) 0 from rfl), (show 0 = whS fv a1 (fun l9 => (fv 4 (7 * l9 + 5)).toInt64) 0 from rfl), (show 0 = whS fv a1 (fun l9 => tkI fv l9 (10 + n13)) 0 from rfl), (show 0 = whS fv a1 (fun l9 => btI fv l9 (10 + n13)) 0 from rfl)⟩ (lv_sub hl [0, 1, 2, 3, 4, 7, 6, 5] rfl)
  obtain ⟨i_16, u_17, v_18, y_19, z_20⟩ := x9
  replace hj : (i_16 ≤ n3) ∧ (u_17 = whS fv a1 (fun l9 => (fv 4 (7 * l9 + 1)).toInt64) i_16) ∧ (v_18 = whS fv a1 (fun l9 => (fv 4 (7 * l9 + 5)).toInt64) i_16) ∧ (y_19 = whS fv a1 (fun l9 => tkI fv l9 (10 + n13)) i_16) ∧ (z_20 = whS fv a1 (fun l9 => btI fv l9 (10 + n13)) i_16) := hj
  obtain ⟨hi_21, hu_22, hv_23, hy_24, hz_25⟩ := hj
  have hl : lv_has ls 13 [(11, .int (nI i_16)), (9, .long z_20), (7, .long y_19), (5, .long v_18), (3, .long u_17), (2, .int a2), (1, .int a1), (0, .ref h0)] := hl
  refine lv_iload hx hb dX9_whose_37 (lv_at hl 0 rfl) ?_
  refine lv_aload_n hx hb dX9_whose_39 rfl (lv_at hl 7 rfl) ?_
  refine va_get (D := D) (ci := 9) (v := .int (iv 3)) (C := RX9) (T := TX9) (N := 44) hx hb hts hin9 hown hK hP 0 rfl rfl 3 (by decide) (hts (.fieldLink RX9 20 "HoneyHouseModel" "lots" "I") (List.mem_of_getElem? (i := 2) rfl)) (fun _ h9 => h9) rfl dX9_whose_40 ?_
  refine tp_i (y := nI n3) (h3) ?_
  refine lv_icmp_ge (tgt := 184) hx hb dX9_whose_43 (by decide) (fun c_26 => ?_) (fun c_26 => ?_)
  · have d_27 := n_le (a := n3) (b := i_16) (by omega) (by omega) c_26
    refine lv_iload_n hx hb dX9_whose_184 rfl (lv_at hl 5 rfl) ?_
    refine lv_if_ne (tgt := 193) hx hb dX9_whose_185 (by decide) (fun c_28 => ?_) (fun c_28 => ?_)
    · refine lv_iload_n hx hb dX9_whose_193 rfl (lv_at hl 5 rfl) ?_
      refine lv_iconst (v := 1) hx hb dX9_whose_194 (by decide) ?_
      refine lv_icmp_ne (tgt := 203) hx hb dX9_whose_195 (by decide) (fun c_29 => ?_) (fun c_29 => ?_)
      · refine lv_iload_n hx hb dX9_whose_203 rfl (lv_at hl 5 rfl) ?_
        refine lv_iconst (v := 2) hx hb dX9_whose_204 (by decide) ?_
        refine lv_icmp_ne (tgt := 213) hx hb dX9_whose_205 (by decide) (fun c_30 => ?_) (fun c_30 => ?_)
        · refine lv_lload_n hx hb dX9_whose_213 rfl (lv_at hl 4 rfl) ?_
          refine lv_lload hx hb dX9_whose_214 (lv_at hl 3 rfl) ?_
          refine lv_lsub hx hb dX9_whose_216 ?_
          refine lv_lload hx hb dX9_whose_217 (lv_at hl 2 rfl) ?_
          refine lv_lsub hx hb dX9_whose_219 ?_
          refine lv_lload hx hb dX9_whose_220 (lv_at hl 1 rfl) ?_
          refine lv_lsub hx hb dX9_whose_222 ?_
          exact W.lret (v := ((u_17 - v_18) - y_19) - z_20) hx hb hr (fun t ht hW => ⟨((u_17 - v_18) - y_19) - z_20, rfl, Or.inr ⟨(fun h => Or.elim h (fun h => Or.elim h a_4 b_5) (fun h => Or.elim h a_11 b_12)), by rw [whoM, if_neg c_28, if_neg c_29, if_neg c_30, hu_22, hv_23, hy_24, hz_25, show i_16 = n3 by omega]⟩, ht⟩) (fun _ h9 => by cases h9) dX9_whose_223
        refine lv_lload hx hb dX9_whose_208 (lv_at hl 1 rfl) ?_
        refine lv_goto (tgt := 223) hx hb dX9_whose_210 (by decide) ?_
        exact W.lret (v := z_20) hx hb hr (fun t ht hW => ⟨z_20, rfl, Or.inr ⟨(fun h => Or.elim h (fun h => Or.elim h a_4 b_5) (fun h => Or.elim h a_11 b_12)), by rw [whoM, if_neg c_28, if_neg c_29, if_pos c_30, hz_25, show i_16 = n3 by omega]⟩, ht⟩) (fun _ h9 => by cases h9) dX9_whose_223
      refine lv_lload hx hb dX9_whose_198 (lv_at hl 2 rfl) ?_
      refine lv_goto (tgt := 223) hx hb dX9_whose_200 (by decide) ?_
      exact W.lret (v := y_19) hx hb hr (fun t ht hW => ⟨y_19, rfl, Or.inr ⟨(fun h => Or.elim h (fun h => Or.elim h a_4 b_5) (fun h => Or.elim h a_11 b_12)), by rw [whoM, if_neg c_28, if_pos c_29, hy_24, show i_16 = n3 by omega]⟩, ht⟩) (fun _ h9 => by cases h9) dX9_whose_223
    refine lv_lload hx hb dX9_whose_188 (lv_at hl 3 rfl) ?_
    refine lv_goto (tgt := 223) hx hb dX9_whose_190 (by decide) ?_
    exact W.lret (v := v_18) hx hb hr (fun t ht hW => ⟨v_18, rfl, Or.inr ⟨(fun h => Or.elim h (fun h => Or.elim h a_4 b_5) (fun h => Or.elim h a_11 b_12)), by rw [whoM, if_pos c_28, hv_23, show i_16 = n3 by omega]⟩, ht⟩) (fun _ h9 => by cases h9) dX9_whose_223
  have d_31 := n_nle (a := n3) (b := i_16) (by omega) (by omega) c_26
  refine lv_aload_n hx hb dX9_whose_46 rfl (lv_at hl 7 rfl) ?_
  refine va_get (D := D) (ci := 9) (v := .ref (ad 4)) (C := RX9) (T := TX9) (N := 44) hx hb hts hin9 hown hK hP 0 rfl rfl 4 (by decide) (hts (.fieldLink RX9 23 "HoneyHouseModel" "lot" "[I") (List.mem_of_getElem? (i := 3) rfl)) (fun _ h9 => h9) rfl dX9_whose_47 ?_
  refine lv_bipush (v := 7) hx hb dX9_whose_50 (by decide) ?_
  refine lv_iload hx hb dX9_whose_52 (lv_at hl 0 rfl) ?_
  refine lv_imul hx hb dX9_whose_54 ?_
  refine tp_i (y := nI (7 * i_16)) (pk_mul 7 i_16) ?_
  refine va_iald (f := fv 4) (n := 280) hx hb hK hP 2 1 rfl rfl (vp_in_nI (n := 7 * i_16) (by omega) (by omega)) dX9_whose_55 ?_
  refine lv_topi (fun z_32 hz_33 => ?_)
  rw [nI_clamp (n := 7 * i_16) (by omega)] at hz_33
  obtain rfl : z_32 = fv 4 (7 * i_16) := hz_33
  refine lv_iload_n hx hb dX9_whose_56 rfl (lv_at hl 6 rfl) ?_
  refine lv_icmp_eq (tgt := 63) hx hb dX9_whose_57 (by decide) (fun c_34 => ?_) (fun c_34 => ?_)
  · refine lv_lload_n hx hb dX9_whose_63 rfl (lv_at hl 4 rfl) ?_
    refine lv_aload_n hx hb dX9_whose_64 rfl (lv_at hl 7 rfl) ?_
    refine va_get (D := D) (ci := 9) (v := .ref (ad 4)) (C := RX9) (T := TX9) (N := 44) hx hb hts hin9 hown hK hP 0 rfl rfl 4 (by decide) (hts (.fieldLink RX9 23 "HoneyHouseModel" "lot" "[I") (List.mem_of_getElem? (i := 3) rfl)) (fun _ h9 => h9) rfl dX9_whose_65 ?_
    refine lv_bipush (v := 7) hx hb dX9_whose_68 (by decide) ?_
    refine lv_iload hx hb dX9_whose_70 (lv_at hl 0 rfl) ?_
    refine lv_imul hx hb dX9_whose_72 ?_
    refine tp_i (y := nI (7 * i_16)) (pk_mul 7 i_16) ?_
    refine lv_iconst (v := 1) hx hb dX9_whose_73 (by decide) ?_
    refine lv_iadd hx hb dX9_whose_74 ?_
    refine tp_i (y := nI ((7 * i_16) + 1)) (nI_add (7 * i_16) 1) ?_
    refine va_iald (f := fv 4) (n := 280) hx hb hK hP 2 1 rfl rfl (vp_in_nI (n := (7 * i_16) + 1) (by omega) (by omega)) dX9_whose_75 ?_
    refine lv_topi (fun z_35 hz_36 => ?_)
    rw [nI_clamp (n := (7 * i_16) + 1) (by omega)] at hz_36
    obtain rfl : z_35 = fv 4 ((7 * i_16) + 1) := hz_36
    refine lv_i2l hx hb dX9_whose_76 rfl ?_
    refine lv_ladd hx hb dX9_whose_77 ?_
    refine lv_lstore_n (lv' := [(3, .long (u_17 + ((fv 4 ((7 * i_16) + 1)).toInt64))), (11, .int (nI i_16)), (9, .long z_20), (7, .long y_19), (5, .long v_18), (2, .int a2), (1, .int a1), (0, .ref h0)]) hx hb dX9_whose_78 rfl hl (by decide) rfl (fun ls hl => ?_)
    refine lv_lload hx hb dX9_whose_79 (lv_at hl 4 rfl) ?_
    refine lv_aload_n hx hb dX9_whose_81 rfl (lv_at hl 7 rfl) ?_
    refine va_get (D := D) (ci := 9) (v := .ref (ad 4)) (C := RX9) (T := TX9) (N := 44) hx hb hts hin9 hown hK hP 0 rfl rfl 4 (by decide) (hts (.fieldLink RX9 23 "HoneyHouseModel" "lot" "[I") (List.mem_of_getElem? (i := 3) rfl)) (fun _ h9 => h9) rfl dX9_whose_82 ?_
    refine lv_bipush (v := 7) hx hb dX9_whose_85 (by decide) ?_
    refine lv_iload hx hb dX9_whose_87 (lv_at hl 1 rfl) ?_
    refine lv_imul hx hb dX9_whose_89 ?_
    refine tp_i (y := nI (7 * i_16)) (pk_mul 7 i_16) ?_
    refine lv_iconst (v := 5) hx hb dX9_whose_90 (by decide) ?_
    refine lv_iadd hx hb dX9_whose_91 ?_
    refine tp_i (y := nI ((7 * i_16) + 5)) (nI_add (7 * i_16) 5) ?_
    refine va_iald (f := fv 4) (n := 280) hx hb hK hP 2 1 rfl rfl (vp_in_nI (n := (7 * i_16) + 5) (by omega) (by omega)) dX9_whose_92 ?_
    refine lv_topi (fun z_37 hz_38 => ?_)
    rw [nI_clamp (n := (7 * i_16) + 5) (by omega)] at hz_38
    obtain rfl : z_37 = fv 4 ((7 * i_16) + 5) := hz_38
    refine lv_i2l hx hb dX9_whose_93 rfl ?_
    refine lv_ladd hx hb dX9_whose_94 ?_
    refine lv_lstore (lv' := [(5, .long (v_18 + ((fv 4 ((7 * i_16) + 5)).toInt64))), (3, .long (u_17 + ((fv 4 ((7 * i_16) + 1)).toInt64))), (11, .int (nI i_16)), (9, .long z_20), (7, .long y_19), (2, .int a2), (1, .int a1), (0, .ref h0)]) hx hb dX9_whose_95 hl (by decide) rfl (fun ls hl => ?_)
    refine lv_iconst (v := 0) hx hb dX9_whose_97 (by decide) ?_
    refine lv_istore (lv' := [(12, .int 0), (5, .long (v_18 + ((fv 4 ((7 * i_16) + 5)).toInt64))), (3, .long (u_17 + ((fv 4 ((7 * i_16) + 1)).toInt64))), (11, .int (nI i_16)), (9, .long z_20), (7, .long y_19), (2, .int a2), (1, .int a1), (0, .ref h0)]) hx hb dX9_whose_98 hl (by decide) rfl (fun ls hl => ?_)
    refine lp_R (nL := 13) (σ := Nat × Int64 × Int64) (lv := fun x9 => [(12, .int (nI x9.1)), (11, .int (nI i_16)), (9, .long x9.2.2), (7, .long x9.2.1), (5, .long (v_18 + ((fv 4 ((7 * i_16) + 5)).toInt64))), (3, .long (u_17 + ((fv 4 ((7 * i_16) + 1)).toInt64))), (2, .int a2), (1, .int a1), (0, .ref h0)]) (μ := fun x9 => 10 + n13 - x9.1) (J := fun x9 => (x9.1 ≤ 10 + n13) ∧ (x9.2.1 = y_19 + tkI fv i_16 x9.1) ∧ (x9.2.2 = z_20 + btI fv i_16 x9.1)) (fun x9 ls hj hl ih_39 => ?_) (0, y_19, z_20) ls ⟨(show 0 ≤ 10 + n13 from by omega), (show y_19 = y_19 + tkI fv i_16 0 from (Int64.add_zero _).symm), (show z_20 = z_20 + btI fv i_16 0 from (Int64.add_zero _).symm)⟩ (lv_sub hl [0, 3, 4, 5, 1, 2, 6, 7, 8] rfl)
    obtain ⟨k_40, y2_41, z2_42⟩ := x9
    replace hj : (k_40 ≤ 10 + n13) ∧ (y2_41 = y_19 + tkI fv i_16 k_40) ∧ (z2_42 = z_20 + btI fv i_16 k_40) := hj
    obtain ⟨hk_43, hy2_44, hz2_45⟩ := hj
    have hl : lv_has ls 13 [(12, .int (nI k_40)), (11, .int (nI i_16)), (9, .long z2_42), (7, .long y2_41), (5, .long (v_18 + ((fv 4 ((7 * i_16) + 5)).toInt64))), (3, .long (u_17 + ((fv 4 ((7 * i_16) + 1)).toInt64))), (2, .int a2), (1, .int a1), (0, .ref h0)] := hl
    refine lv_iload hx hb dX9_whose_100 (lv_at hl 0 rfl) ?_
    refine lv_bipush (v := 10) hx hb dX9_whose_102 (by decide) ?_
    refine lv_aload_n hx hb dX9_whose_104 rfl (lv_at hl 8 rfl) ?_
    refine va_get (D := D) (ci := 9) (v := .int (iv 13)) (C := RX9) (T := TX9) (N := 44) hx hb hts hin9 hown hK hP 0 rfl rfl 13 (by decide) (hts (.fieldLink RX9 50 "HoneyHouseModel" "batches" "I") (List.mem_of_getElem? (i := 4) rfl)) (fun _ h9 => h9) rfl dX9_whose_105 ?_
    refine tp_i (y := nI n13) (h13) ?_
    refine lv_iadd hx hb dX9_whose_108 ?_
    refine tp_i (y := nI (10 + n13)) (nI_add 10 n13) ?_
    refine lv_icmp_ge (tgt := 178) hx hb dX9_whose_109 (by decide) (fun c_46 => ?_) (fun c_46 => ?_)
    · have d_47 := n_le (a := 10 + n13) (b := k_40) (by omega) (by omega) c_46
      refine lv_iinc (v := nI (i_16 + 1)) (lv' := [(11, .int (nI (i_16 + 1))), (12, .int (nI k_40)), (9, .long z2_42), (7, .long y2_41), (5, .long (v_18 + ((fv 4 ((7 * i_16) + 5)).toInt64))), (3, .long (u_17 + ((fv 4 ((7 * i_16) + 1)).toInt64))), (2, .int a2), (1, .int a1), (0, .ref h0)]) hx hb dX9_whose_178 hl (k := 1) rfl (nI_add i_16 1) (by decide) rfl (fun ls hl => ?_)
      refine lv_goto (tgt := 37) hx hb dX9_whose_181 (by decide) ?_
      exact ih_15 (i_16 + 1, u_17 + ((fv 4 ((7 * i_16) + 1)).toInt64), v_18 + ((fv 4 ((7 * i_16) + 5)).toInt64), y2_41, z2_42) ls (by show n3 - (i_16 + 1) < n3 - i_16; omega) ⟨(show (i_16 + 1) ≤ n3 from by omega), (show (u_17 + ((fv 4 ((7 * i_16) + 1)).toInt64)) = whS fv a1 (fun l9 => (fv 4 (7 * l9 + 1)).toInt64) (i_16 + 1) from (by rw [whS, if_pos c_34, hu_22])), (show (v_18 + ((fv 4 ((7 * i_16) + 5)).toInt64)) = whS fv a1 (fun l9 => (fv 4 (7 * l9 + 5)).toInt64) (i_16 + 1) from (by rw [whS, if_pos c_34, hv_23])), (show y2_41 = whS fv a1 (fun l9 => tkI fv l9 (10 + n13)) (i_16 + 1) from (by rw [whS, if_pos c_34, hy2_44, hy_24, show k_40 = 10 + n13 by omega])), (show z2_42 = whS fv a1 (fun l9 => btI fv l9 (10 + n13)) (i_16 + 1) from (by rw [whS, if_pos c_34, hz2_45, hz_25, show k_40 = 10 + n13 by omega]))⟩ (lv_sub hl [0, 2, 3, 4, 5, 6, 7, 8] rfl)
    have d_48 := n_nle (a := 10 + n13) (b := k_40) (by omega) (by omega) c_46
    refine lv_lload hx hb dX9_whose_112 (lv_at hl 3 rfl) ?_
    refine lv_iload hx hb dX9_whose_114 (lv_at hl 0 rfl) ?_
    refine lv_bipush (v := 10) hx hb dX9_whose_116 (by decide) ?_
    refine lv_icmp_ge (tgt := 138) hx hb dX9_whose_118 (by decide) (fun c_49 => ?_) (fun c_49 => ?_)
    · have d_50 := n_le (a := 10) (b := k_40) (by omega) (by omega) c_49
      refine lv_lconst (v := 0) hx hb dX9_whose_138 (by decide) ?_
      refine lv_ladd hx hb dX9_whose_139 ?_
      refine lv_lstore (lv' := [(7, .long (y2_41 + 0)), (12, .int (nI k_40)), (11, .int (nI i_16)), (9, .long z2_42), (5, .long (v_18 + ((fv 4 ((7 * i_16) + 5)).toInt64))), (3, .long (u_17 + ((fv 4 ((7 * i_16) + 1)).toInt64))), (2, .int a2), (1, .int a1), (0, .ref h0)]) hx hb dX9_whose_140 hl (by decide) rfl (fun ls hl => ?_)
      refine lv_lload hx hb dX9_whose_142 (lv_at hl 3 rfl) ?_
      refine lv_iload hx hb dX9_whose_144 (lv_at hl 1 rfl) ?_
      refine lv_bipush (v := 10) hx hb dX9_whose_146 (by decide) ?_
      refine lv_icmp_ge (tgt := 155) hx hb dX9_whose_148 (by decide) (fun c_51 => ?_) (fun c_51 => ?_)
      · have d_52 := n_le (a := 10) (b := k_40) (by omega) (by omega) c_51
        refine lv_aload_n hx hb dX9_whose_155 rfl (lv_at hl 8 rfl) ?_
        refine va_get (D := D) (ci := 9) (v := .ref (ad 9)) (C := RX9) (T := TX9) (N := 44) hx hb hts hin9 hown hK hP 0 rfl rfl 9 (by decide) (hts (.fieldLink RX9 38 "HoneyHouseModel" "grams" "[I") (List.mem_of_getElem? (i := 5) rfl)) (fun _ h9 => h9) rfl dX9_whose_156 ?_
        refine lv_bipush (v := 40) hx hb dX9_whose_159 (by decide) ?_
        refine lv_iload hx hb dX9_whose_161 (lv_at hl 1 rfl) ?_
        refine lv_imul hx hb dX9_whose_163 ?_
        refine tp_i (y := nI (40 * k_40)) (pk_mul 40 k_40) ?_
        refine lv_iload hx hb dX9_whose_164 (lv_at hl 2 rfl) ?_
        refine lv_iadd hx hb dX9_whose_166 ?_
        refine tp_i (y := nI ((40 * k_40) + i_16)) (nI_add (40 * k_40) i_16) ?_
        refine va_iald (f := fv 9) (n := 2800) hx hb hK hP 7 6 rfl rfl (vp_in_nI (n := (40 * k_40) + i_16) (by omega) (by omega)) dX9_whose_167 ?_
        refine lv_topi (fun z_53 hz_54 => ?_)
        rw [nI_clamp (n := (40 * k_40) + i_16) (by omega)] at hz_54
        obtain rfl : z_53 = fv 9 ((40 * k_40) + i_16) := hz_54
        refine lv_i2l hx hb dX9_whose_168 rfl ?_
        refine lv_ladd hx hb dX9_whose_169 ?_
        refine lv_lstore (lv' := [(9, .long (z2_42 + ((fv 9 ((40 * k_40) + i_16)).toInt64))), (7, .long (y2_41 + 0)), (12, .int (nI k_40)), (11, .int (nI i_16)), (5, .long (v_18 + ((fv 4 ((7 * i_16) + 5)).toInt64))), (3, .long (u_17 + ((fv 4 ((7 * i_16) + 1)).toInt64))), (2, .int a2), (1, .int a1), (0, .ref h0)]) hx hb dX9_whose_170 hl (by decide) rfl (fun ls hl => ?_)
        refine lv_iinc (v := nI (k_40 + 1)) (lv' := [(12, .int (nI (k_40 + 1))), (9, .long (z2_42 + ((fv 9 ((40 * k_40) + i_16)).toInt64))), (7, .long (y2_41 + 0)), (11, .int (nI i_16)), (5, .long (v_18 + ((fv 4 ((7 * i_16) + 5)).toInt64))), (3, .long (u_17 + ((fv 4 ((7 * i_16) + 1)).toInt64))), (2, .int a2), (1, .int a1), (0, .ref h0)]) hx hb dX9_whose_172 hl (k := 2) rfl (nI_add k_40 1) (by decide) rfl (fun ls hl => ?_)
        refine lv_goto (tgt := 100) hx hb dX9_whose_175 (by decide) ?_
        exact ih_39 (k_40 + 1, y2_41 + 0, z2_42 + ((fv 9 ((40 * k_40) + i_16)).toInt64)) ls (by show 10 + n13 - (k_40 + 1) < 10 + n13 - k_40; omega) ⟨(show (k_40 + 1) ≤ 10 + n13 from by omega), (show (y2_41 + 0) = y_19 + tkI fv i_16 (k_40 + 1) from (by rw [hy2_44, tkI, if_neg (by omega), ← Int64.add_assoc])), (show (z2_42 + ((fv 9 ((40 * k_40) + i_16)).toInt64)) = z_20 + btI fv i_16 (k_40 + 1) from (by rw [hz2_45, btI, if_neg (by omega), ← Int64.add_assoc]))⟩ (lv_sub hl [0, 3, 1, 2, 4, 5, 6, 7, 8] rfl)
      have d_55 := n_nle (a := 10) (b := k_40) (by omega) (by omega) c_51
      refine lv_lconst (v := 0) hx hb dX9_whose_151 (by decide) ?_
      refine lv_goto (tgt := 169) hx hb dX9_whose_152 (by decide) ?_
      refine lv_ladd hx hb dX9_whose_169 ?_
      refine lv_lstore (lv' := [(9, .long (z2_42 + 0)), (7, .long (y2_41 + 0)), (12, .int (nI k_40)), (11, .int (nI i_16)), (5, .long (v_18 + ((fv 4 ((7 * i_16) + 5)).toInt64))), (3, .long (u_17 + ((fv 4 ((7 * i_16) + 1)).toInt64))), (2, .int a2), (1, .int a1), (0, .ref h0)]) hx hb dX9_whose_170 hl (by decide) rfl (fun ls hl => ?_)
      refine lv_iinc (v := nI (k_40 + 1)) (lv' := [(12, .int (nI (k_40 + 1))), (9, .long (z2_42 + 0)), (7, .long (y2_41 + 0)), (11, .int (nI i_16)), (5, .long (v_18 + ((fv 4 ((7 * i_16) + 5)).toInt64))), (3, .long (u_17 + ((fv 4 ((7 * i_16) + 1)).toInt64))), (2, .int a2), (1, .int a1), (0, .ref h0)]) hx hb dX9_whose_172 hl (k := 2) rfl (nI_add k_40 1) (by decide) rfl (fun ls hl => ?_)
      refine lv_goto (tgt := 100) hx hb dX9_whose_175 (by decide) ?_
      exact ih_39 (k_40 + 1, y2_41 + 0, z2_42 + 0) ls (by show 10 + n13 - (k_40 + 1) < 10 + n13 - k_40; omega) ⟨(show (k_40 + 1) ≤ 10 + n13 from by omega), (show (y2_41 + 0) = y_19 + tkI fv i_16 (k_40 + 1) from (by exfalso; omega)), (show (z2_42 + 0) = z_20 + btI fv i_16 (k_40 + 1) from (by exfalso; omega))⟩ (lv_sub hl [0, 3, 1, 2, 4, 5, 6, 7, 8] rfl)
    have d_56 := n_nle (a := 10) (b := k_40) (by omega) (by omega) c_49
    refine lv_aload_n hx hb dX9_whose_121 rfl (lv_at hl 8 rfl) ?_
    refine va_get (D := D) (ci := 9) (v := .ref (ad 9)) (C := RX9) (T := TX9) (N := 44) hx hb hts hin9 hown hK hP 0 rfl rfl 9 (by decide) (hts (.fieldLink RX9 38 "HoneyHouseModel" "grams" "[I") (List.mem_of_getElem? (i := 5) rfl)) (fun _ h9 => h9) rfl dX9_whose_122 ?_
    refine lv_bipush (v := 40) hx hb dX9_whose_125 (by decide) ?_
    refine lv_iload hx hb dX9_whose_127 (lv_at hl 0 rfl) ?_
    refine lv_imul hx hb dX9_whose_129 ?_
    refine tp_i (y := nI (40 * k_40)) (pk_mul 40 k_40) ?_
    refine lv_iload hx hb dX9_whose_130 (lv_at hl 1 rfl) ?_
    refine lv_iadd hx hb dX9_whose_132 ?_
    refine tp_i (y := nI ((40 * k_40) + i_16)) (nI_add (40 * k_40) i_16) ?_
    refine va_iald (f := fv 9) (n := 2800) hx hb hK hP 7 6 rfl rfl (vp_in_nI (n := (40 * k_40) + i_16) (by omega) (by omega)) dX9_whose_133 ?_
    refine lv_topi (fun z_57 hz_58 => ?_)
    rw [nI_clamp (n := (40 * k_40) + i_16) (by omega)] at hz_58
    obtain rfl : z_57 = fv 9 ((40 * k_40) + i_16) := hz_58
    refine lv_i2l hx hb dX9_whose_134 rfl ?_
    refine lv_goto (tgt := 139) hx hb dX9_whose_135 (by decide) ?_
    refine lv_ladd hx hb dX9_whose_139 ?_
    refine lv_lstore (lv' := [(7, .long (y2_41 + ((fv 9 ((40 * k_40) + i_16)).toInt64))), (12, .int (nI k_40)), (11, .int (nI i_16)), (9, .long z2_42), (5, .long (v_18 + ((fv 4 ((7 * i_16) + 5)).toInt64))), (3, .long (u_17 + ((fv 4 ((7 * i_16) + 1)).toInt64))), (2, .int a2), (1, .int a1), (0, .ref h0)]) hx hb dX9_whose_140 hl (by decide) rfl (fun ls hl => ?_)
    refine lv_lload hx hb dX9_whose_142 (lv_at hl 3 rfl) ?_
    refine lv_iload hx hb dX9_whose_144 (lv_at hl 1 rfl) ?_
    refine lv_bipush (v := 10) hx hb dX9_whose_146 (by decide) ?_
    refine lv_icmp_ge (tgt := 155) hx hb dX9_whose_148 (by decide) (fun c_59 => ?_) (fun c_59 => ?_)
    · have d_60 := n_le (a := 10) (b := k_40) (by omega) (by omega) c_59
      refine lv_aload_n hx hb dX9_whose_155 rfl (lv_at hl 8 rfl) ?_
      refine va_get (D := D) (ci := 9) (v := .ref (ad 9)) (C := RX9) (T := TX9) (N := 44) hx hb hts hin9 hown hK hP 0 rfl rfl 9 (by decide) (hts (.fieldLink RX9 38 "HoneyHouseModel" "grams" "[I") (List.mem_of_getElem? (i := 5) rfl)) (fun _ h9 => h9) rfl dX9_whose_156 ?_
      refine lv_bipush (v := 40) hx hb dX9_whose_159 (by decide) ?_
      refine lv_iload hx hb dX9_whose_161 (lv_at hl 1 rfl) ?_
      refine lv_imul hx hb dX9_whose_163 ?_
      refine tp_i (y := nI (40 * k_40)) (pk_mul 40 k_40) ?_
      refine lv_iload hx hb dX9_whose_164 (lv_at hl 2 rfl) ?_
      refine lv_iadd hx hb dX9_whose_166 ?_
      refine tp_i (y := nI ((40 * k_40) + i_16)) (nI_add (40 * k_40) i_16) ?_
      refine va_iald (f := fv 9) (n := 2800) hx hb hK hP 7 6 rfl rfl (vp_in_nI (n := (40 * k_40) + i_16) (by omega) (by omega)) dX9_whose_167 ?_
      refine lv_topi (fun z_61 hz_62 => ?_)
      rw [nI_clamp (n := (40 * k_40) + i_16) (by omega)] at hz_62
      obtain rfl : z_61 = fv 9 ((40 * k_40) + i_16) := hz_62
      refine lv_i2l hx hb dX9_whose_168 rfl ?_
      refine lv_ladd hx hb dX9_whose_169 ?_
      refine lv_lstore (lv' := [(9, .long (z2_42 + ((fv 9 ((40 * k_40) + i_16)).toInt64))), (7, .long (y2_41 + ((fv 9 ((40 * k_40) + i_16)).toInt64))), (12, .int (nI k_40)), (11, .int (nI i_16)), (5, .long (v_18 + ((fv 4 ((7 * i_16) + 5)).toInt64))), (3, .long (u_17 + ((fv 4 ((7 * i_16) + 1)).toInt64))), (2, .int a2), (1, .int a1), (0, .ref h0)]) hx hb dX9_whose_170 hl (by decide) rfl (fun ls hl => ?_)
      refine lv_iinc (v := nI (k_40 + 1)) (lv' := [(12, .int (nI (k_40 + 1))), (9, .long (z2_42 + ((fv 9 ((40 * k_40) + i_16)).toInt64))), (7, .long (y2_41 + ((fv 9 ((40 * k_40) + i_16)).toInt64))), (11, .int (nI i_16)), (5, .long (v_18 + ((fv 4 ((7 * i_16) + 5)).toInt64))), (3, .long (u_17 + ((fv 4 ((7 * i_16) + 1)).toInt64))), (2, .int a2), (1, .int a1), (0, .ref h0)]) hx hb dX9_whose_172 hl (k := 2) rfl (nI_add k_40 1) (by decide) rfl (fun ls hl => ?_)
      refine lv_goto (tgt := 100) hx hb dX9_whose_175 (by decide) ?_
      exact ih_39 (k_40 + 1, y2_41 + ((fv 9 ((40 * k_40) + i_16)).toInt64), z2_42 + ((fv 9 ((40 * k_40) + i_16)).toInt64)) ls (by show 10 + n13 - (k_40 + 1) < 10 + n13 - k_40; omega) ⟨(show (k_40 + 1) ≤ 10 + n13 from by omega), (show (y2_41 + ((fv 9 ((40 * k_40) + i_16)).toInt64)) = y_19 + tkI fv i_16 (k_40 + 1) from (by exfalso; omega)), (show (z2_42 + ((fv 9 ((40 * k_40) + i_16)).toInt64)) = z_20 + btI fv i_16 (k_40 + 1) from (by exfalso; omega))⟩ (lv_sub hl [0, 3, 1, 2, 4, 5, 6, 7, 8] rfl)
    have d_63 := n_nle (a := 10) (b := k_40) (by omega) (by omega) c_59
    refine lv_lconst (v := 0) hx hb dX9_whose_151 (by decide) ?_
    refine lv_goto (tgt := 169) hx hb dX9_whose_152 (by decide) ?_
    refine lv_ladd hx hb dX9_whose_169 ?_
    refine lv_lstore (lv' := [(9, .long (z2_42 + 0)), (7, .long (y2_41 + ((fv 9 ((40 * k_40) + i_16)).toInt64))), (12, .int (nI k_40)), (11, .int (nI i_16)), (5, .long (v_18 + ((fv 4 ((7 * i_16) + 5)).toInt64))), (3, .long (u_17 + ((fv 4 ((7 * i_16) + 1)).toInt64))), (2, .int a2), (1, .int a1), (0, .ref h0)]) hx hb dX9_whose_170 hl (by decide) rfl (fun ls hl => ?_)
    refine lv_iinc (v := nI (k_40 + 1)) (lv' := [(12, .int (nI (k_40 + 1))), (9, .long (z2_42 + 0)), (7, .long (y2_41 + ((fv 9 ((40 * k_40) + i_16)).toInt64))), (11, .int (nI i_16)), (5, .long (v_18 + ((fv 4 ((7 * i_16) + 5)).toInt64))), (3, .long (u_17 + ((fv 4 ((7 * i_16) + 1)).toInt64))), (2, .int a2), (1, .int a1), (0, .ref h0)]) hx hb dX9_whose_172 hl (k := 2) rfl (nI_add k_40 1) (by decide) rfl (fun ls hl => ?_)
    refine lv_goto (tgt := 100) hx hb dX9_whose_175 (by decide) ?_
    exact ih_39 (k_40 + 1, y2_41 + ((fv 9 ((40 * k_40) + i_16)).toInt64), z2_42 + 0) ls (by show 10 + n13 - (k_40 + 1) < 10 + n13 - k_40; omega) ⟨(show (k_40 + 1) ≤ 10 + n13 from by omega), (show (y2_41 + ((fv 9 ((40 * k_40) + i_16)).toInt64)) = y_19 + tkI fv i_16 (k_40 + 1) from (by rw [hy2_44, tkI, if_pos (by omega), ← Int64.add_assoc])), (show (z2_42 + 0) = z_20 + btI fv i_16 (k_40 + 1) from (by rw [hz2_45, btI, if_pos (by omega), ← Int64.add_assoc]))⟩ (lv_sub hl [0, 3, 1, 2, 4, 5, 6, 7, 8] rfl)
  refine lv_goto (tgt := 178) hx hb dX9_whose_60 (by decide) ?_
  refine lv_iinc (v := nI (i_16 + 1)) (lv' := [(11, .int (nI (i_16 + 1))), (9, .long z_20), (7, .long y_19), (5, .long v_18), (3, .long u_17), (2, .int a2), (1, .int a1), (0, .ref h0)]) hx hb dX9_whose_178 hl (k := 0) rfl (nI_add i_16 1) (by decide) rfl (fun ls hl => ?_)
  refine lv_goto (tgt := 37) hx hb dX9_whose_181 (by decide) ?_
  exact ih_15 (i_16 + 1, u_17, v_18, y_19, z_20) ls (by show n3 - (i_16 + 1) < n3 - i_16; omega) ⟨(show (i_16 + 1) ≤ n3 from by omega), (show u_17 = whS fv a1 (fun l9 => (fv 4 (7 * l9 + 1)).toInt64) (i_16 + 1) from (by rw [whS, if_neg c_34, hu_22])), (show v_18 = whS fv a1 (fun l9 => (fv 4 (7 * l9 + 5)).toInt64) (i_16 + 1) from (by rw [whS, if_neg c_34, hv_23])), (show y_19 = whS fv a1 (fun l9 => tkI fv l9 (10 + n13)) (i_16 + 1) from (by rw [whS, if_neg c_34, hy_24])), (show z_20 = whS fv a1 (fun l9 => btI fv l9 (10 + n13)) (i_16 + 1) from (by rw [whS, if_neg c_34, hz_25]))⟩ (lv_sub hl [0, 1, 2, 3, 4, 5, 6, 7] rfl)
set_option maxHeartbeats 4000000 in
set_option maxRecDepth 100000 in
theorem m_tells (l : Launch) (D : va_G) (h0 : Nat) (ad : Nat → Nat) (cs : Nat → ClassId) (iv : Nat → Int32) (fv : Nat → Nat → Int32) (gv : Nat → Int64) (n3 : Nat) (t q : Nat) (a3 a4 : Int32) (h3 : iv 3 = nI n3) (b3 : n3 ≤ 40) (bt : t < 70) (hq : q = 0 ∨ q = 1 ∨ q = 2 ∨ (10 ≤ q ∧ q < 15) ∨ (30 ≤ q ∧ q < 34)) : Met l yX9_tells wsX9_tells ({ frames := 1, cells := 0, slots := 0, locals := 26 }) (va_Pc [.ref h0, .int (nI t), .int (nI q), .int a3, .int a4] (fun U => va_P D vwCl (mw h0 ad cs iv fv gv) U.heap ∧ va_K D vwCl (mT cs) U)) (vp_Si (fun r => True)) 0 0 (fun _ => False) := by
  refine Met.ofW (cc := cX9_tells) (maxL := 9) (ret := (some .int)) (by decide) rfl ?_
  intro p e s m args below meth c s₁ B hml hv
  obtain ⟨rfl, hP, hK⟩ := hv
  have hx := B.exec
  have hb := B.bytes
  have hr := B.returns
  have hts := atoms_spec (ws := wsX9_tells) B.pre
  have hown : s.vm.findClass RX9 = some m.cls := findClass_of_methodNamed B.named
  have hlocks := B.notSynchronized
  have hin9 : ∀ w ∈ u_ws RX9 TX9 44, w ∈ wsX9_tells := (fun _ h9 => List.mem_cons_of_mem _ ((List.mem_append_right _ h9)))
  have hl := lv_entry ([.ref h0, .int (nI t), .int (nI q), .int a3, .int a4]) (n := 9) (Nat.le_of_ble_eq_true rfl)
  rw [lg_entry_eq]
  generalize (lg_sl ([.ref h0, .int (nI t), .int (nI q), .int a3, .int a4]) ++ List.replicate (9 - (lg_sl ([.ref h0, .int (nI t), .int (nI q), .int a3, .int a4])).length) Slot.unset).toArray = ls at hl ⊢
  have hl : lv_has ls 9 [(0, .ref h0), (1, .int (nI t)), (2, .int (nI q)), (3, .int a3), (4, .int a4)] := hl
  refine lv_iload hx hb dX9_tells_0 (lv_at hl 4 rfl) ?_
  refine lv_i2l hx hb dX9_tells_2 rfl ?_
  refine lv_aload_n hx hb dX9_tells_3 rfl (lv_at hl 0 rfl) ?_
  refine lv_iload_n hx hb dX9_tells_4 rfl (lv_at hl 1 rfl) ?_
  refine vp_callSi (W.runV (As := [.int (nI t)]) (rest := [.long a4.toInt64]) ⟨hx, hb, hml, hown, hts⟩ (m_all l D h0 ad cs iv fv gv n3 t h3 (by omega) (by omega)) (cwV 1 hts gX9_tells_X9_all rfl rfl rfl (by decide +kernel) ⟨Nat.le_of_ble_eq_true rfl, Nat.le_of_ble_eq_true rfl⟩) ⟨fun a U g mk q => ⟨q.1, q.2.1, va_K.moved (u := U) (U := U.calling g mk a) (Vm.Alike.refl U.vm) q.2.2⟩, va_recv hK hP (ci := 9) (q0 := 0) rfl rfl, fun U hU hW => ⟨rfl, by rw [hU]; exact hP, va_K.moved hW.alike hK⟩⟩ rfl rfl hl.1 rfl (lv_room (Nat.le_of_ble_eq_true rfl)) dX9_tells_5 ⟨Nat.le_of_ble_eq_true rfl, Nat.le_of_ble_eq_true rfl⟩) (fun r_1 k_2 => ?_)
  refine lv_i2l hx hb dX9_tells_8 rfl ?_
  refine lv_lmul hx hb dX9_tells_9 ?_
  refine lv_lstore (lv' := [(5, .long (a4.toInt64 * r_1.toInt64)), (0, .ref h0), (1, .int (nI t)), (2, .int (nI q)), (3, .int a3), (4, .int a4)]) hx hb dX9_tells_10 hl (by decide) rfl (fun ls hl => ?_)
  refine lv_iload_n hx hb dX9_tells_12 rfl (lv_at hl 3 rfl) ?_
  refine lv_iconst (v := 2) hx hb dX9_tells_13 (by decide) ?_
  refine lv_icmp_ne (tgt := 54) hx hb dX9_tells_14 (by decide) (fun c_3 => ?_) (fun c_3 => ?_)
  · have d_4 := n_ne (a := q) (b := 2) (by omega) (by omega) c_3
    refine lv_iload_n hx hb dX9_tells_54 rfl (lv_at hl 3 rfl) ?_
    refine lv_bipush (v := 10) hx hb dX9_tells_55 (by decide) ?_
    refine lv_icmp_lt (tgt := 66) hx hb dX9_tells_57 (by decide) (fun c_5 => ?_) (fun c_5 => ?_)
    · have d_6 := n_lt (a := q) (b := 10) (by omega) (by omega) c_5
      refine lv_iload_n hx hb dX9_tells_66 rfl (lv_at hl 4 rfl) ?_
      refine lv_bipush (v := 9) hx hb dX9_tells_67 (by decide) ?_
      refine lv_icmp_ne (tgt := 87) hx hb dX9_tells_69 (by decide) (fun c_7 => ?_) (fun c_7 => ?_)
      · refine lv_aload_n hx hb dX9_tells_87 rfl (lv_at hl 1 rfl) ?_
        refine lv_iload_n hx hb dX9_tells_88 rfl (lv_at hl 2 rfl) ?_
        refine lv_iload_n hx hb dX9_tells_89 rfl (lv_at hl 3 rfl) ?_
        refine vp_callSl (W.runV (As := [.int (nI t), .int (nI q)]) (rest := []) ⟨hx, hb, hml, hown, hts⟩ (m_sum l D h0 ad cs iv fv gv n3 t q h3 (by omega) (by omega) (by omega)) (cwV 2 hts gX9_tells_X9_sum rfl rfl rfl (by decide +kernel) ⟨Nat.le_of_ble_eq_true rfl, Nat.le_of_ble_eq_true rfl⟩) ⟨fun a U g mk q => ⟨q.1, q.2.1, va_K.moved (u := U) (U := U.calling g mk a) (Vm.Alike.refl U.vm) q.2.2⟩, va_recv hK hP (ci := 9) (q0 := 0) rfl rfl, fun U hU hW => ⟨rfl, by rw [hU]; exact hP, va_K.moved hW.alike hK⟩⟩ rfl rfl hl.1 rfl (lv_room (Nat.le_of_ble_eq_true rfl)) dX9_tells_90 ⟨Nat.le_of_ble_eq_true rfl, Nat.le_of_ble_eq_true rfl⟩) (fun r_8 k_9 => ?_)
        refine lv_lload hx hb dX9_tells_93 (lv_at hl 0 rfl) ?_
        refine W.lcmp hx hb dX9_tells_95 ?_
        refine lv_if_gt (tgt := 103) hx hb dX9_tells_96 (by decide) (fun c_10 => ?_) (fun c_10 => ?_)
        · refine lv_iconst (v := 0) hx hb dX9_tells_103 (by decide) ?_
          exact W.iret (v := 0) hx hb hr (fun t ht hW => ⟨0, rfl, trivial, ht⟩) (fun _ h9 => by cases h9) dX9_tells_104
        refine lv_iconst (v := 3) hx hb dX9_tells_99 (by decide) ?_
        refine lv_goto (tgt := 104) hx hb dX9_tells_100 (by decide) ?_
        exact W.iret (v := 3) hx hb hr (fun t ht hW => ⟨3, rfl, trivial, ht⟩) (fun _ h9 => by cases h9) dX9_tells_104
      refine lv_aload_n hx hb dX9_tells_72 rfl (lv_at hl 1 rfl) ?_
      refine lv_iload_n hx hb dX9_tells_73 rfl (lv_at hl 2 rfl) ?_
      refine lv_iload_n hx hb dX9_tells_74 rfl (lv_at hl 3 rfl) ?_
      refine vp_callSl (W.runV (As := [.int (nI t), .int (nI q)]) (rest := []) ⟨hx, hb, hml, hown, hts⟩ (m_sum l D h0 ad cs iv fv gv n3 t q h3 (by omega) (by omega) (by omega)) (cwV 2 hts gX9_tells_X9_sum rfl rfl rfl (by decide +kernel) ⟨Nat.le_of_ble_eq_true rfl, Nat.le_of_ble_eq_true rfl⟩) ⟨fun a U g mk q => ⟨q.1, q.2.1, va_K.moved (u := U) (U := U.calling g mk a) (Vm.Alike.refl U.vm) q.2.2⟩, va_recv hK hP (ci := 9) (q0 := 0) rfl rfl, fun U hU hW => ⟨rfl, by rw [hU]; exact hP, va_K.moved hW.alike hK⟩⟩ rfl rfl hl.1 rfl (lv_room (Nat.le_of_ble_eq_true rfl)) dX9_tells_75 ⟨Nat.le_of_ble_eq_true rfl, Nat.le_of_ble_eq_true rfl⟩) (fun r_11 k_12 => ?_)
      refine lv_lload hx hb dX9_tells_78 (lv_at hl 0 rfl) ?_
      refine W.lcmp hx hb dX9_tells_80 ?_
      refine lv_if_lt (tgt := 103) hx hb dX9_tells_81 (by decide) (fun c_13 => ?_) (fun c_13 => ?_)
      · refine lv_iconst (v := 0) hx hb dX9_tells_103 (by decide) ?_
        exact W.iret (v := 0) hx hb hr (fun t ht hW => ⟨0, rfl, trivial, ht⟩) (fun _ h9 => by cases h9) dX9_tells_104
      refine lv_goto (tgt := 99) hx hb dX9_tells_84 (by decide) ?_
      refine lv_iconst (v := 3) hx hb dX9_tells_99 (by decide) ?_
      refine lv_goto (tgt := 104) hx hb dX9_tells_100 (by decide) ?_
      exact W.iret (v := 3) hx hb hr (fun t ht hW => ⟨3, rfl, trivial, ht⟩) (fun _ h9 => by cases h9) dX9_tells_104
    have d_14 := n_nlt (a := q) (b := 10) (by omega) (by omega) c_5
    refine lv_iload_n hx hb dX9_tells_60 rfl (lv_at hl 3 rfl) ?_
    refine lv_bipush (v := 30) hx hb dX9_tells_61 (by decide) ?_
    refine lv_icmp_lt (tgt := 105) hx hb dX9_tells_63 (by decide) (fun c_15 => ?_) (fun c_15 => ?_)
    · have d_16 := n_lt (a := q) (b := 30) (by omega) (by omega) c_15
      refine lv_iload_n hx hb dX9_tells_105 rfl (lv_at hl 4 rfl) ?_
      refine lv_bipush (v := 9) hx hb dX9_tells_106 (by decide) ?_
      refine lv_icmp_ne (tgt := 131) hx hb dX9_tells_108 (by decide) (fun c_17 => ?_) (fun c_17 => ?_)
      · refine lv_aload_n hx hb dX9_tells_131 rfl (lv_at hl 1 rfl) ?_
        refine lv_iload_n hx hb dX9_tells_132 rfl (lv_at hl 2 rfl) ?_
        refine lv_iload_n hx hb dX9_tells_133 rfl (lv_at hl 3 rfl) ?_
        refine vp_callSl (W.runV (As := [.int (nI t), .int (nI q)]) (rest := []) ⟨hx, hb, hml, hown, hts⟩ (m_sum l D h0 ad cs iv fv gv n3 t q h3 (by omega) (by omega) (by omega)) (cwV 2 hts gX9_tells_X9_sum rfl rfl rfl (by decide +kernel) ⟨Nat.le_of_ble_eq_true rfl, Nat.le_of_ble_eq_true rfl⟩) ⟨fun a U g mk q => ⟨q.1, q.2.1, va_K.moved (u := U) (U := U.calling g mk a) (Vm.Alike.refl U.vm) q.2.2⟩, va_recv hK hP (ci := 9) (q0 := 0) rfl rfl, fun U hU hW => ⟨rfl, by rw [hU]; exact hP, va_K.moved hW.alike hK⟩⟩ rfl rfl hl.1 rfl (lv_room (Nat.le_of_ble_eq_true rfl)) dX9_tells_134 ⟨Nat.le_of_ble_eq_true rfl, Nat.le_of_ble_eq_true rfl⟩) (fun r_18 k_19 => ?_)
        refine lv_lload hx hb dX9_tells_137 (lv_at hl 0 rfl) ?_
        refine W.lcmp hx hb dX9_tells_139 ?_
        refine lv_if_gt (tgt := 147) hx hb dX9_tells_140 (by decide) (fun c_20 => ?_) (fun c_20 => ?_)
        · refine lv_iconst (v := 0) hx hb dX9_tells_147 (by decide) ?_
          refine lv_istore (lv' := [(7, .int 0), (5, .long (a4.toInt64 * r_1.toInt64)), (0, .ref h0), (1, .int (nI t)), (2, .int (nI q)), (3, .int a3), (4, .int a4)]) hx hb dX9_tells_148 hl (by decide) rfl (fun ls hl => ?_)
          refine lv_iload_n hx hb dX9_tells_150 rfl (lv_at hl 5 rfl) ?_
          refine lv_bipush (v := 9) hx hb dX9_tells_151 (by decide) ?_
          refine lv_icmp_ne (tgt := 179) hx hb dX9_tells_153 (by decide) (fun c_21 => ?_) (fun c_21 => ?_)
          · refine lv_aload_n hx hb dX9_tells_179 rfl (lv_at hl 2 rfl) ?_
            refine lv_iload_n hx hb dX9_tells_180 rfl (lv_at hl 3 rfl) ?_
            refine lv_iload_n hx hb dX9_tells_181 rfl (lv_at hl 4 rfl) ?_
            refine lv_bipush (v := 10) hx hb dX9_tells_182 (by decide) ?_
            refine lv_iadd hx hb dX9_tells_184 ?_
            refine tp_i (y := nI (q + 10)) (nI_add q 10) ?_
            refine vp_callSl (W.runV (As := [.int (nI t), .int (nI (q + 10))]) (rest := []) ⟨hx, hb, hml, hown, hts⟩ (m_sum l D h0 ad cs iv fv gv n3 t (q + 10) h3 (by omega) (by omega) (by omega)) (cwV 2 hts gX9_tells_X9_sum rfl rfl rfl (by decide +kernel) ⟨Nat.le_of_ble_eq_true rfl, Nat.le_of_ble_eq_true rfl⟩) ⟨fun a U g mk q => ⟨q.1, q.2.1, va_K.moved (u := U) (U := U.calling g mk a) (Vm.Alike.refl U.vm) q.2.2⟩, va_recv hK hP (ci := 9) (q0 := 0) rfl rfl, fun U hU hW => ⟨rfl, by rw [hU]; exact hP, va_K.moved hW.alike hK⟩⟩ rfl rfl hl.1 rfl (lv_room (Nat.le_of_ble_eq_true rfl)) dX9_tells_185 ⟨Nat.le_of_ble_eq_true rfl, Nat.le_of_ble_eq_true rfl⟩) (fun r_22 k_23 => ?_)
            refine lv_lload hx hb dX9_tells_188 (lv_at hl 1 rfl) ?_
            refine W.lcmp hx hb dX9_tells_190 ?_
            refine lv_if_gt (tgt := 198) hx hb dX9_tells_191 (by decide) (fun c_24 => ?_) (fun c_24 => ?_)
            · refine lv_iconst (v := 0) hx hb dX9_tells_198 (by decide) ?_
              refine lv_istore (lv' := [(8, .int 0), (7, .int 0), (5, .long (a4.toInt64 * r_1.toInt64)), (0, .ref h0), (1, .int (nI t)), (2, .int (nI q)), (3, .int a3), (4, .int a4)]) hx hb dX9_tells_199 hl (by decide) rfl (fun ls hl => ?_)
              refine lv_iload_n hx hb dX9_tells_201 rfl (lv_at hl 6 rfl) ?_
              refine lv_bipush (v := 9) hx hb dX9_tells_202 (by decide) ?_
              refine lv_icmp_ne (tgt := 215) hx hb dX9_tells_204 (by decide) (fun c_25 => ?_) (fun c_25 => ?_)
              · refine lv_iload hx hb dX9_tells_215 (lv_at hl 0 rfl) ?_
                refine lv_if_eq (tgt := 224) hx hb dX9_tells_217 (by decide) (fun c_26 => ?_) (fun c_26 => absurd (by decide) c_26)
                refine lv_iconst (v := 0) hx hb dX9_tells_224 (by decide) ?_
                refine lv_iload_n hx hb dX9_tells_225 rfl (lv_at hl 6 rfl) ?_
                refine lv_bipush (v := 9) hx hb dX9_tells_226 (by decide) ?_
                refine lv_icmp_ne (tgt := 239) hx hb dX9_tells_228 (by decide) (fun c_27 => ?_) (fun c_27 => ?_)
                · refine lv_iload hx hb dX9_tells_239 (lv_at hl 1 rfl) ?_
                  refine lv_if_eq (tgt := 248) hx hb dX9_tells_241 (by decide) (fun c_28 => ?_) (fun c_28 => absurd (by decide) c_28)
                  refine lv_iconst (v := 0) hx hb dX9_tells_248 (by decide) ?_
                  refine lv_iadd hx hb dX9_tells_249 ?_
                  refine tp_i (y := 0) (by decide) ?_
                  exact W.iret (v := 0) hx hb hr (fun t ht hW => ⟨0, rfl, trivial, ht⟩) (fun _ h9 => by cases h9) dX9_tells_250
                refine lv_iload hx hb dX9_tells_231 (lv_at hl 0 rfl) ?_
                refine lv_if_eq (tgt := 248) hx hb dX9_tells_233 (by decide) (fun c_29 => ?_) (fun c_29 => absurd (by decide) c_29)
                refine lv_iconst (v := 0) hx hb dX9_tells_248 (by decide) ?_
                refine lv_iadd hx hb dX9_tells_249 ?_
                refine tp_i (y := 0) (by decide) ?_
                exact W.iret (v := 0) hx hb hr (fun t ht hW => ⟨0, rfl, trivial, ht⟩) (fun _ h9 => by cases h9) dX9_tells_250
              refine lv_iload hx hb dX9_tells_207 (lv_at hl 1 rfl) ?_
              refine lv_if_eq (tgt := 224) hx hb dX9_tells_209 (by decide) (fun c_30 => ?_) (fun c_30 => absurd (by decide) c_30)
              refine lv_iconst (v := 0) hx hb dX9_tells_224 (by decide) ?_
              refine lv_iload_n hx hb dX9_tells_225 rfl (lv_at hl 6 rfl) ?_
              refine lv_bipush (v := 9) hx hb dX9_tells_226 (by decide) ?_
              refine lv_icmp_ne (tgt := 239) hx hb dX9_tells_228 (by decide) (fun c_31 => ?_) (fun c_31 => ?_)
              · refine lv_iload hx hb dX9_tells_239 (lv_at hl 1 rfl) ?_
                refine lv_if_eq (tgt := 248) hx hb dX9_tells_241 (by decide) (fun c_32 => ?_) (fun c_32 => absurd (by decide) c_32)
                refine lv_iconst (v := 0) hx hb dX9_tells_248 (by decide) ?_
                refine lv_iadd hx hb dX9_tells_249 ?_
                refine tp_i (y := 0) (by decide) ?_
                exact W.iret (v := 0) hx hb hr (fun t ht hW => ⟨0, rfl, trivial, ht⟩) (fun _ h9 => by cases h9) dX9_tells_250
              refine lv_iload hx hb dX9_tells_231 (lv_at hl 0 rfl) ?_
              refine lv_if_eq (tgt := 248) hx hb dX9_tells_233 (by decide) (fun c_33 => ?_) (fun c_33 => absurd (by decide) c_33)
              refine lv_iconst (v := 0) hx hb dX9_tells_248 (by decide) ?_
              refine lv_iadd hx hb dX9_tells_249 ?_
              refine tp_i (y := 0) (by decide) ?_
              exact W.iret (v := 0) hx hb hr (fun t ht hW => ⟨0, rfl, trivial, ht⟩) (fun _ h9 => by cases h9) dX9_tells_250
            refine lv_iconst (v := 1) hx hb dX9_tells_194 (by decide) ?_
            refine lv_goto (tgt := 199) hx hb dX9_tells_195 (by decide) ?_
            refine lv_istore (lv' := [(8, .int 1), (7, .int 0), (5, .long (a4.toInt64 * r_1.toInt64)), (0, .ref h0), (1, .int (nI t)), (2, .int (nI q)), (3, .int a3), (4, .int a4)]) hx hb dX9_tells_199 hl (by decide) rfl (fun ls hl => ?_)
            refine lv_iload_n hx hb dX9_tells_201 rfl (lv_at hl 6 rfl) ?_
            refine lv_bipush (v := 9) hx hb dX9_tells_202 (by decide) ?_
            refine lv_icmp_ne (tgt := 215) hx hb dX9_tells_204 (by decide) (fun c_34 => ?_) (fun c_34 => ?_)
            · refine lv_iload hx hb dX9_tells_215 (lv_at hl 0 rfl) ?_
              refine lv_if_eq (tgt := 224) hx hb dX9_tells_217 (by decide) (fun c_35 => absurd c_35 (by decide)) (fun c_35 => ?_)
              refine lv_iconst (v := 2) hx hb dX9_tells_220 (by decide) ?_
              refine lv_goto (tgt := 225) hx hb dX9_tells_221 (by decide) ?_
              refine lv_iload_n hx hb dX9_tells_225 rfl (lv_at hl 6 rfl) ?_
              refine lv_bipush (v := 9) hx hb dX9_tells_226 (by decide) ?_
              refine lv_icmp_ne (tgt := 239) hx hb dX9_tells_228 (by decide) (fun c_36 => ?_) (fun c_36 => ?_)
              · refine lv_iload hx hb dX9_tells_239 (lv_at hl 1 rfl) ?_
                refine lv_if_eq (tgt := 248) hx hb dX9_tells_241 (by decide) (fun c_37 => ?_) (fun c_37 => absurd (by decide) c_37)
                refine lv_iconst (v := 0) hx hb dX9_tells_248 (by decide) ?_
                refine lv_iadd hx hb dX9_tells_249 ?_
                refine tp_i (y := 2) (by decide) ?_
                exact W.iret (v := 2) hx hb hr (fun t ht hW => ⟨2, rfl, trivial, ht⟩) (fun _ h9 => by cases h9) dX9_tells_250
              refine lv_iload hx hb dX9_tells_231 (lv_at hl 0 rfl) ?_
              refine lv_if_eq (tgt := 248) hx hb dX9_tells_233 (by decide) (fun c_38 => absurd c_38 (by decide)) (fun c_38 => ?_)
              refine lv_goto (tgt := 244) hx hb dX9_tells_236 (by decide) ?_
              refine lv_iconst (v := 1) hx hb dX9_tells_244 (by decide) ?_
              refine lv_goto (tgt := 249) hx hb dX9_tells_245 (by decide) ?_
              refine lv_iadd hx hb dX9_tells_249 ?_
              refine tp_i (y := 3) (by decide) ?_
              exact W.iret (v := 3) hx hb hr (fun t ht hW => ⟨3, rfl, trivial, ht⟩) (fun _ h9 => by cases h9) dX9_tells_250
            refine lv_iload hx hb dX9_tells_207 (lv_at hl 1 rfl) ?_
            refine lv_if_eq (tgt := 224) hx hb dX9_tells_209 (by decide) (fun c_39 => ?_) (fun c_39 => absurd (by decide) c_39)
            refine lv_iconst (v := 0) hx hb dX9_tells_224 (by decide) ?_
            refine lv_iload_n hx hb dX9_tells_225 rfl (lv_at hl 6 rfl) ?_
            refine lv_bipush (v := 9) hx hb dX9_tells_226 (by decide) ?_
            refine lv_icmp_ne (tgt := 239) hx hb dX9_tells_228 (by decide) (fun c_40 => ?_) (fun c_40 => ?_)
            · refine lv_iload hx hb dX9_tells_239 (lv_at hl 1 rfl) ?_
              refine lv_if_eq (tgt := 248) hx hb dX9_tells_241 (by decide) (fun c_41 => ?_) (fun c_41 => absurd (by decide) c_41)
              refine lv_iconst (v := 0) hx hb dX9_tells_248 (by decide) ?_
              refine lv_iadd hx hb dX9_tells_249 ?_
              refine tp_i (y := 0) (by decide) ?_
              exact W.iret (v := 0) hx hb hr (fun t ht hW => ⟨0, rfl, trivial, ht⟩) (fun _ h9 => by cases h9) dX9_tells_250
            refine lv_iload hx hb dX9_tells_231 (lv_at hl 0 rfl) ?_
            refine lv_if_eq (tgt := 248) hx hb dX9_tells_233 (by decide) (fun c_42 => absurd c_42 (by decide)) (fun c_42 => ?_)
            refine lv_goto (tgt := 244) hx hb dX9_tells_236 (by decide) ?_
            refine lv_iconst (v := 1) hx hb dX9_tells_244 (by decide) ?_
            refine lv_goto (tgt := 249) hx hb dX9_tells_245 (by decide) ?_
            refine lv_iadd hx hb dX9_tells_249 ?_
            refine tp_i (y := 1) (by decide) ?_
            exact W.iret (v := 1) hx hb hr (fun t ht hW => ⟨1, rfl, trivial, ht⟩) (fun _ h9 => by cases h9) dX9_tells_250
          refine lv_aload_n hx hb dX9_tells_156 rfl (lv_at hl 2 rfl) ?_
          refine lv_iload_n hx hb dX9_tells_157 rfl (lv_at hl 3 rfl) ?_
          refine lv_iload_n hx hb dX9_tells_158 rfl (lv_at hl 4 rfl) ?_
          refine lv_bipush (v := 10) hx hb dX9_tells_159 (by decide) ?_
          refine lv_iadd hx hb dX9_tells_161 ?_
          refine tp_i (y := nI (q + 10)) (nI_add q 10) ?_
          refine vp_callSl (W.runV (As := [.int (nI t), .int (nI (q + 10))]) (rest := []) ⟨hx, hb, hml, hown, hts⟩ (m_sum l D h0 ad cs iv fv gv n3 t (q + 10) h3 (by omega) (by omega) (by omega)) (cwV 2 hts gX9_tells_X9_sum rfl rfl rfl (by decide +kernel) ⟨Nat.le_of_ble_eq_true rfl, Nat.le_of_ble_eq_true rfl⟩) ⟨fun a U g mk q => ⟨q.1, q.2.1, va_K.moved (u := U) (U := U.calling g mk a) (Vm.Alike.refl U.vm) q.2.2⟩, va_recv hK hP (ci := 9) (q0 := 0) rfl rfl, fun U hU hW => ⟨rfl, by rw [hU]; exact hP, va_K.moved hW.alike hK⟩⟩ rfl rfl hl.1 rfl (lv_room (Nat.le_of_ble_eq_true rfl)) dX9_tells_162 ⟨Nat.le_of_ble_eq_true rfl, Nat.le_of_ble_eq_true rfl⟩) (fun r_43 k_44 => ?_)
          refine lv_lload hx hb dX9_tells_165 (lv_at hl 1 rfl) ?_
          refine W.lcmp hx hb dX9_tells_167 ?_
          refine lv_if_lt (tgt := 175) hx hb dX9_tells_168 (by decide) (fun c_45 => ?_) (fun c_45 => ?_)
          · refine lv_iconst (v := 0) hx hb dX9_tells_175 (by decide) ?_
            refine lv_goto (tgt := 199) hx hb dX9_tells_176 (by decide) ?_
            refine lv_istore (lv' := [(8, .int 0), (7, .int 0), (5, .long (a4.toInt64 * r_1.toInt64)), (0, .ref h0), (1, .int (nI t)), (2, .int (nI q)), (3, .int a3), (4, .int a4)]) hx hb dX9_tells_199 hl (by decide) rfl (fun ls hl => ?_)
            refine lv_iload_n hx hb dX9_tells_201 rfl (lv_at hl 6 rfl) ?_
            refine lv_bipush (v := 9) hx hb dX9_tells_202 (by decide) ?_
            refine lv_icmp_ne (tgt := 215) hx hb dX9_tells_204 (by decide) (fun c_46 => ?_) (fun c_46 => ?_)
            · refine lv_iload hx hb dX9_tells_215 (lv_at hl 0 rfl) ?_
              refine lv_if_eq (tgt := 224) hx hb dX9_tells_217 (by decide) (fun c_47 => ?_) (fun c_47 => absurd (by decide) c_47)
              refine lv_iconst (v := 0) hx hb dX9_tells_224 (by decide) ?_
              refine lv_iload_n hx hb dX9_tells_225 rfl (lv_at hl 6 rfl) ?_
              refine lv_bipush (v := 9) hx hb dX9_tells_226 (by decide) ?_
              refine lv_icmp_ne (tgt := 239) hx hb dX9_tells_228 (by decide) (fun c_48 => ?_) (fun c_48 => ?_)
              · refine lv_iload hx hb dX9_tells_239 (lv_at hl 1 rfl) ?_
                refine lv_if_eq (tgt := 248) hx hb dX9_tells_241 (by decide) (fun c_49 => ?_) (fun c_49 => absurd (by decide) c_49)
                refine lv_iconst (v := 0) hx hb dX9_tells_248 (by decide) ?_
                refine lv_iadd hx hb dX9_tells_249 ?_
                refine tp_i (y := 0) (by decide) ?_
                exact W.iret (v := 0) hx hb hr (fun t ht hW => ⟨0, rfl, trivial, ht⟩) (fun _ h9 => by cases h9) dX9_tells_250
              refine lv_iload hx hb dX9_tells_231 (lv_at hl 0 rfl) ?_
              refine lv_if_eq (tgt := 248) hx hb dX9_tells_233 (by decide) (fun c_50 => ?_) (fun c_50 => absurd (by decide) c_50)
              refine lv_iconst (v := 0) hx hb dX9_tells_248 (by decide) ?_
              refine lv_iadd hx hb dX9_tells_249 ?_
              refine tp_i (y := 0) (by decide) ?_
              exact W.iret (v := 0) hx hb hr (fun t ht hW => ⟨0, rfl, trivial, ht⟩) (fun _ h9 => by cases h9) dX9_tells_250
            refine lv_iload hx hb dX9_tells_207 (lv_at hl 1 rfl) ?_
            refine lv_if_eq (tgt := 224) hx hb dX9_tells_209 (by decide) (fun c_51 => ?_) (fun c_51 => absurd (by decide) c_51)
            refine lv_iconst (v := 0) hx hb dX9_tells_224 (by decide) ?_
            refine lv_iload_n hx hb dX9_tells_225 rfl (lv_at hl 6 rfl) ?_
            refine lv_bipush (v := 9) hx hb dX9_tells_226 (by decide) ?_
            refine lv_icmp_ne (tgt := 239) hx hb dX9_tells_228 (by decide) (fun c_52 => ?_) (fun c_52 => ?_)
            · refine lv_iload hx hb dX9_tells_239 (lv_at hl 1 rfl) ?_
              refine lv_if_eq (tgt := 248) hx hb dX9_tells_241 (by decide) (fun c_53 => ?_) (fun c_53 => absurd (by decide) c_53)
              refine lv_iconst (v := 0) hx hb dX9_tells_248 (by decide) ?_
              refine lv_iadd hx hb dX9_tells_249 ?_
              refine tp_i (y := 0) (by decide) ?_
              exact W.iret (v := 0) hx hb hr (fun t ht hW => ⟨0, rfl, trivial, ht⟩) (fun _ h9 => by cases h9) dX9_tells_250
            refine lv_iload hx hb dX9_tells_231 (lv_at hl 0 rfl) ?_
            refine lv_if_eq (tgt := 248) hx hb dX9_tells_233 (by decide) (fun c_54 => ?_) (fun c_54 => absurd (by decide) c_54)
            refine lv_iconst (v := 0) hx hb dX9_tells_248 (by decide) ?_
            refine lv_iadd hx hb dX9_tells_249 ?_
            refine tp_i (y := 0) (by decide) ?_
            exact W.iret (v := 0) hx hb hr (fun t ht hW => ⟨0, rfl, trivial, ht⟩) (fun _ h9 => by cases h9) dX9_tells_250
          refine lv_iconst (v := 1) hx hb dX9_tells_171 (by decide) ?_
          refine lv_goto (tgt := 199) hx hb dX9_tells_172 (by decide) ?_
          refine lv_istore (lv' := [(8, .int 1), (7, .int 0), (5, .long (a4.toInt64 * r_1.toInt64)), (0, .ref h0), (1, .int (nI t)), (2, .int (nI q)), (3, .int a3), (4, .int a4)]) hx hb dX9_tells_199 hl (by decide) rfl (fun ls hl => ?_)
          refine lv_iload_n hx hb dX9_tells_201 rfl (lv_at hl 6 rfl) ?_
          refine lv_bipush (v := 9) hx hb dX9_tells_202 (by decide) ?_
          refine lv_icmp_ne (tgt := 215) hx hb dX9_tells_204 (by decide) (fun c_55 => ?_) (fun c_55 => ?_)
          · refine lv_iload hx hb dX9_tells_215 (lv_at hl 0 rfl) ?_
            refine lv_if_eq (tgt := 224) hx hb dX9_tells_217 (by decide) (fun c_56 => absurd c_56 (by decide)) (fun c_56 => ?_)
            refine lv_iconst (v := 2) hx hb dX9_tells_220 (by decide) ?_
            refine lv_goto (tgt := 225) hx hb dX9_tells_221 (by decide) ?_
            refine lv_iload_n hx hb dX9_tells_225 rfl (lv_at hl 6 rfl) ?_
            refine lv_bipush (v := 9) hx hb dX9_tells_226 (by decide) ?_
            refine lv_icmp_ne (tgt := 239) hx hb dX9_tells_228 (by decide) (fun c_57 => ?_) (fun c_57 => ?_)
            · refine lv_iload hx hb dX9_tells_239 (lv_at hl 1 rfl) ?_
              refine lv_if_eq (tgt := 248) hx hb dX9_tells_241 (by decide) (fun c_58 => ?_) (fun c_58 => absurd (by decide) c_58)
              refine lv_iconst (v := 0) hx hb dX9_tells_248 (by decide) ?_
              refine lv_iadd hx hb dX9_tells_249 ?_
              refine tp_i (y := 2) (by decide) ?_
              exact W.iret (v := 2) hx hb hr (fun t ht hW => ⟨2, rfl, trivial, ht⟩) (fun _ h9 => by cases h9) dX9_tells_250
            refine lv_iload hx hb dX9_tells_231 (lv_at hl 0 rfl) ?_
            refine lv_if_eq (tgt := 248) hx hb dX9_tells_233 (by decide) (fun c_59 => absurd c_59 (by decide)) (fun c_59 => ?_)
            refine lv_goto (tgt := 244) hx hb dX9_tells_236 (by decide) ?_
            refine lv_iconst (v := 1) hx hb dX9_tells_244 (by decide) ?_
            refine lv_goto (tgt := 249) hx hb dX9_tells_245 (by decide) ?_
            refine lv_iadd hx hb dX9_tells_249 ?_
            refine tp_i (y := 3) (by decide) ?_
            exact W.iret (v := 3) hx hb hr (fun t ht hW => ⟨3, rfl, trivial, ht⟩) (fun _ h9 => by cases h9) dX9_tells_250
          refine lv_iload hx hb dX9_tells_207 (lv_at hl 1 rfl) ?_
          refine lv_if_eq (tgt := 224) hx hb dX9_tells_209 (by decide) (fun c_60 => ?_) (fun c_60 => absurd (by decide) c_60)
          refine lv_iconst (v := 0) hx hb dX9_tells_224 (by decide) ?_
          refine lv_iload_n hx hb dX9_tells_225 rfl (lv_at hl 6 rfl) ?_
          refine lv_bipush (v := 9) hx hb dX9_tells_226 (by decide) ?_
          refine lv_icmp_ne (tgt := 239) hx hb dX9_tells_228 (by decide) (fun c_61 => ?_) (fun c_61 => ?_)
          · refine lv_iload hx hb dX9_tells_239 (lv_at hl 1 rfl) ?_
            refine lv_if_eq (tgt := 248) hx hb dX9_tells_241 (by decide) (fun c_62 => ?_) (fun c_62 => absurd (by decide) c_62)
            refine lv_iconst (v := 0) hx hb dX9_tells_248 (by decide) ?_
            refine lv_iadd hx hb dX9_tells_249 ?_
            refine tp_i (y := 0) (by decide) ?_
            exact W.iret (v := 0) hx hb hr (fun t ht hW => ⟨0, rfl, trivial, ht⟩) (fun _ h9 => by cases h9) dX9_tells_250
          refine lv_iload hx hb dX9_tells_231 (lv_at hl 0 rfl) ?_
          refine lv_if_eq (tgt := 248) hx hb dX9_tells_233 (by decide) (fun c_63 => absurd c_63 (by decide)) (fun c_63 => ?_)
          refine lv_goto (tgt := 244) hx hb dX9_tells_236 (by decide) ?_
          refine lv_iconst (v := 1) hx hb dX9_tells_244 (by decide) ?_
          refine lv_goto (tgt := 249) hx hb dX9_tells_245 (by decide) ?_
          refine lv_iadd hx hb dX9_tells_249 ?_
          refine tp_i (y := 1) (by decide) ?_
          exact W.iret (v := 1) hx hb hr (fun t ht hW => ⟨1, rfl, trivial, ht⟩) (fun _ h9 => by cases h9) dX9_tells_250
        refine lv_iconst (v := 1) hx hb dX9_tells_143 (by decide) ?_
        refine lv_goto (tgt := 148) hx hb dX9_tells_144 (by decide) ?_
        refine lv_istore (lv' := [(7, .int 1), (5, .long (a4.toInt64 * r_1.toInt64)), (0, .ref h0), (1, .int (nI t)), (2, .int (nI q)), (3, .int a3), (4, .int a4)]) hx hb dX9_tells_148 hl (by decide) rfl (fun ls hl => ?_)
        refine lv_iload_n hx hb dX9_tells_150 rfl (lv_at hl 5 rfl) ?_
        refine lv_bipush (v := 9) hx hb dX9_tells_151 (by decide) ?_
        refine lv_icmp_ne (tgt := 179) hx hb dX9_tells_153 (by decide) (fun c_64 => ?_) (fun c_64 => ?_)
        · refine lv_aload_n hx hb dX9_tells_179 rfl (lv_at hl 2 rfl) ?_
          refine lv_iload_n hx hb dX9_tells_180 rfl (lv_at hl 3 rfl) ?_
          refine lv_iload_n hx hb dX9_tells_181 rfl (lv_at hl 4 rfl) ?_
          refine lv_bipush (v := 10) hx hb dX9_tells_182 (by decide) ?_
          refine lv_iadd hx hb dX9_tells_184 ?_
          refine tp_i (y := nI (q + 10)) (nI_add q 10) ?_
          refine vp_callSl (W.runV (As := [.int (nI t), .int (nI (q + 10))]) (rest := []) ⟨hx, hb, hml, hown, hts⟩ (m_sum l D h0 ad cs iv fv gv n3 t (q + 10) h3 (by omega) (by omega) (by omega)) (cwV 2 hts gX9_tells_X9_sum rfl rfl rfl (by decide +kernel) ⟨Nat.le_of_ble_eq_true rfl, Nat.le_of_ble_eq_true rfl⟩) ⟨fun a U g mk q => ⟨q.1, q.2.1, va_K.moved (u := U) (U := U.calling g mk a) (Vm.Alike.refl U.vm) q.2.2⟩, va_recv hK hP (ci := 9) (q0 := 0) rfl rfl, fun U hU hW => ⟨rfl, by rw [hU]; exact hP, va_K.moved hW.alike hK⟩⟩ rfl rfl hl.1 rfl (lv_room (Nat.le_of_ble_eq_true rfl)) dX9_tells_185 ⟨Nat.le_of_ble_eq_true rfl, Nat.le_of_ble_eq_true rfl⟩) (fun r_65 k_66 => ?_)
          refine lv_lload hx hb dX9_tells_188 (lv_at hl 1 rfl) ?_
          refine W.lcmp hx hb dX9_tells_190 ?_
          refine lv_if_gt (tgt := 198) hx hb dX9_tells_191 (by decide) (fun c_67 => ?_) (fun c_67 => ?_)
          · refine lv_iconst (v := 0) hx hb dX9_tells_198 (by decide) ?_
            refine lv_istore (lv' := [(8, .int 0), (7, .int 1), (5, .long (a4.toInt64 * r_1.toInt64)), (0, .ref h0), (1, .int (nI t)), (2, .int (nI q)), (3, .int a3), (4, .int a4)]) hx hb dX9_tells_199 hl (by decide) rfl (fun ls hl => ?_)
            refine lv_iload_n hx hb dX9_tells_201 rfl (lv_at hl 6 rfl) ?_
            refine lv_bipush (v := 9) hx hb dX9_tells_202 (by decide) ?_
            refine lv_icmp_ne (tgt := 215) hx hb dX9_tells_204 (by decide) (fun c_68 => ?_) (fun c_68 => ?_)
            · refine lv_iload hx hb dX9_tells_215 (lv_at hl 0 rfl) ?_
              refine lv_if_eq (tgt := 224) hx hb dX9_tells_217 (by decide) (fun c_69 => ?_) (fun c_69 => absurd (by decide) c_69)
              refine lv_iconst (v := 0) hx hb dX9_tells_224 (by decide) ?_
              refine lv_iload_n hx hb dX9_tells_225 rfl (lv_at hl 6 rfl) ?_
              refine lv_bipush (v := 9) hx hb dX9_tells_226 (by decide) ?_
              refine lv_icmp_ne (tgt := 239) hx hb dX9_tells_228 (by decide) (fun c_70 => ?_) (fun c_70 => ?_)
              · refine lv_iload hx hb dX9_tells_239 (lv_at hl 1 rfl) ?_
                refine lv_if_eq (tgt := 248) hx hb dX9_tells_241 (by decide) (fun c_71 => absurd c_71 (by decide)) (fun c_71 => ?_)
                refine lv_iconst (v := 1) hx hb dX9_tells_244 (by decide) ?_
                refine lv_goto (tgt := 249) hx hb dX9_tells_245 (by decide) ?_
                refine lv_iadd hx hb dX9_tells_249 ?_
                refine tp_i (y := 1) (by decide) ?_
                exact W.iret (v := 1) hx hb hr (fun t ht hW => ⟨1, rfl, trivial, ht⟩) (fun _ h9 => by cases h9) dX9_tells_250
              refine lv_iload hx hb dX9_tells_231 (lv_at hl 0 rfl) ?_
              refine lv_if_eq (tgt := 248) hx hb dX9_tells_233 (by decide) (fun c_72 => ?_) (fun c_72 => absurd (by decide) c_72)
              refine lv_iconst (v := 0) hx hb dX9_tells_248 (by decide) ?_
              refine lv_iadd hx hb dX9_tells_249 ?_
              refine tp_i (y := 0) (by decide) ?_
              exact W.iret (v := 0) hx hb hr (fun t ht hW => ⟨0, rfl, trivial, ht⟩) (fun _ h9 => by cases h9) dX9_tells_250
            refine lv_iload hx hb dX9_tells_207 (lv_at hl 1 rfl) ?_
            refine lv_if_eq (tgt := 224) hx hb dX9_tells_209 (by decide) (fun c_73 => absurd c_73 (by decide)) (fun c_73 => ?_)
            refine lv_goto (tgt := 220) hx hb dX9_tells_212 (by decide) ?_
            refine lv_iconst (v := 2) hx hb dX9_tells_220 (by decide) ?_
            refine lv_goto (tgt := 225) hx hb dX9_tells_221 (by decide) ?_
            refine lv_iload_n hx hb dX9_tells_225 rfl (lv_at hl 6 rfl) ?_
            refine lv_bipush (v := 9) hx hb dX9_tells_226 (by decide) ?_
            refine lv_icmp_ne (tgt := 239) hx hb dX9_tells_228 (by decide) (fun c_74 => ?_) (fun c_74 => ?_)
            · refine lv_iload hx hb dX9_tells_239 (lv_at hl 1 rfl) ?_
              refine lv_if_eq (tgt := 248) hx hb dX9_tells_241 (by decide) (fun c_75 => absurd c_75 (by decide)) (fun c_75 => ?_)
              refine lv_iconst (v := 1) hx hb dX9_tells_244 (by decide) ?_
              refine lv_goto (tgt := 249) hx hb dX9_tells_245 (by decide) ?_
              refine lv_iadd hx hb dX9_tells_249 ?_
              refine tp_i (y := 3) (by decide) ?_
              exact W.iret (v := 3) hx hb hr (fun t ht hW => ⟨3, rfl, trivial, ht⟩) (fun _ h9 => by cases h9) dX9_tells_250
            refine lv_iload hx hb dX9_tells_231 (lv_at hl 0 rfl) ?_
            refine lv_if_eq (tgt := 248) hx hb dX9_tells_233 (by decide) (fun c_76 => ?_) (fun c_76 => absurd (by decide) c_76)
            refine lv_iconst (v := 0) hx hb dX9_tells_248 (by decide) ?_
            refine lv_iadd hx hb dX9_tells_249 ?_
            refine tp_i (y := 2) (by decide) ?_
            exact W.iret (v := 2) hx hb hr (fun t ht hW => ⟨2, rfl, trivial, ht⟩) (fun _ h9 => by cases h9) dX9_tells_250
          refine lv_iconst (v := 1) hx hb dX9_tells_194 (by decide) ?_
          refine lv_goto (tgt := 199) hx hb dX9_tells_195 (by decide) ?_
          refine lv_istore (lv' := [(8, .int 1), (7, .int 1), (5, .long (a4.toInt64 * r_1.toInt64)), (0, .ref h0), (1, .int (nI t)), (2, .int (nI q)), (3, .int a3), (4, .int a4)]) hx hb dX9_tells_199 hl (by decide) rfl (fun ls hl => ?_)
          refine lv_iload_n hx hb dX9_tells_201 rfl (lv_at hl 6 rfl) ?_
          refine lv_bipush (v := 9) hx hb dX9_tells_202 (by decide) ?_
          refine lv_icmp_ne (tgt := 215) hx hb dX9_tells_204 (by decide) (fun c_77 => ?_) (fun c_77 => ?_)
          · refine lv_iload hx hb dX9_tells_215 (lv_at hl 0 rfl) ?_
            refine lv_if_eq (tgt := 224) hx hb dX9_tells_217 (by decide) (fun c_78 => absurd c_78 (by decide)) (fun c_78 => ?_)
            refine lv_iconst (v := 2) hx hb dX9_tells_220 (by decide) ?_
            refine lv_goto (tgt := 225) hx hb dX9_tells_221 (by decide) ?_
            refine lv_iload_n hx hb dX9_tells_225 rfl (lv_at hl 6 rfl) ?_
            refine lv_bipush (v := 9) hx hb dX9_tells_226 (by decide) ?_
            refine lv_icmp_ne (tgt := 239) hx hb dX9_tells_228 (by decide) (fun c_79 => ?_) (fun c_79 => ?_)
            · refine lv_iload hx hb dX9_tells_239 (lv_at hl 1 rfl) ?_
              refine lv_if_eq (tgt := 248) hx hb dX9_tells_241 (by decide) (fun c_80 => absurd c_80 (by decide)) (fun c_80 => ?_)
              refine lv_iconst (v := 1) hx hb dX9_tells_244 (by decide) ?_
              refine lv_goto (tgt := 249) hx hb dX9_tells_245 (by decide) ?_
              refine lv_iadd hx hb dX9_tells_249 ?_
              refine tp_i (y := 3) (by decide) ?_
              exact W.iret (v := 3) hx hb hr (fun t ht hW => ⟨3, rfl, trivial, ht⟩) (fun _ h9 => by cases h9) dX9_tells_250
            refine lv_iload hx hb dX9_tells_231 (lv_at hl 0 rfl) ?_
            refine lv_if_eq (tgt := 248) hx hb dX9_tells_233 (by decide) (fun c_81 => absurd c_81 (by decide)) (fun c_81 => ?_)
            refine lv_goto (tgt := 244) hx hb dX9_tells_236 (by decide) ?_
            refine lv_iconst (v := 1) hx hb dX9_tells_244 (by decide) ?_
            refine lv_goto (tgt := 249) hx hb dX9_tells_245 (by decide) ?_
            refine lv_iadd hx hb dX9_tells_249 ?_
            refine tp_i (y := 3) (by decide) ?_
            exact W.iret (v := 3) hx hb hr (fun t ht hW => ⟨3, rfl, trivial, ht⟩) (fun _ h9 => by cases h9) dX9_tells_250
          refine lv_iload hx hb dX9_tells_207 (lv_at hl 1 rfl) ?_
          refine lv_if_eq (tgt := 224) hx hb dX9_tells_209 (by decide) (fun c_82 => absurd c_82 (by decide)) (fun c_82 => ?_)
          refine lv_goto (tgt := 220) hx hb dX9_tells_212 (by decide) ?_
          refine lv_iconst (v := 2) hx hb dX9_tells_220 (by decide) ?_
          refine lv_goto (tgt := 225) hx hb dX9_tells_221 (by decide) ?_
          refine lv_iload_n hx hb dX9_tells_225 rfl (lv_at hl 6 rfl) ?_
          refine lv_bipush (v := 9) hx hb dX9_tells_226 (by decide) ?_
          refine lv_icmp_ne (tgt := 239) hx hb dX9_tells_228 (by decide) (fun c_83 => ?_) (fun c_83 => ?_)
          · refine lv_iload hx hb dX9_tells_239 (lv_at hl 1 rfl) ?_
            refine lv_if_eq (tgt := 248) hx hb dX9_tells_241 (by decide) (fun c_84 => absurd c_84 (by decide)) (fun c_84 => ?_)
            refine lv_iconst (v := 1) hx hb dX9_tells_244 (by decide) ?_
            refine lv_goto (tgt := 249) hx hb dX9_tells_245 (by decide) ?_
            refine lv_iadd hx hb dX9_tells_249 ?_
            refine tp_i (y := 3) (by decide) ?_
            exact W.iret (v := 3) hx hb hr (fun t ht hW => ⟨3, rfl, trivial, ht⟩) (fun _ h9 => by cases h9) dX9_tells_250
          refine lv_iload hx hb dX9_tells_231 (lv_at hl 0 rfl) ?_
          refine lv_if_eq (tgt := 248) hx hb dX9_tells_233 (by decide) (fun c_85 => absurd c_85 (by decide)) (fun c_85 => ?_)
          refine lv_goto (tgt := 244) hx hb dX9_tells_236 (by decide) ?_
          refine lv_iconst (v := 1) hx hb dX9_tells_244 (by decide) ?_
          refine lv_goto (tgt := 249) hx hb dX9_tells_245 (by decide) ?_
          refine lv_iadd hx hb dX9_tells_249 ?_
          refine tp_i (y := 3) (by decide) ?_
          exact W.iret (v := 3) hx hb hr (fun t ht hW => ⟨3, rfl, trivial, ht⟩) (fun _ h9 => by cases h9) dX9_tells_250
        refine lv_aload_n hx hb dX9_tells_156 rfl (lv_at hl 2 rfl) ?_
        refine lv_iload_n hx hb dX9_tells_157 rfl (lv_at hl 3 rfl) ?_
        refine lv_iload_n hx hb dX9_tells_158 rfl (lv_at hl 4 rfl) ?_
        refine lv_bipush (v := 10) hx hb dX9_tells_159 (by decide) ?_
        refine lv_iadd hx hb dX9_tells_161 ?_
        refine tp_i (y := nI (q + 10)) (nI_add q 10) ?_
        refine vp_callSl (W.runV (As := [.int (nI t), .int (nI (q + 10))]) (rest := []) ⟨hx, hb, hml, hown, hts⟩ (m_sum l D h0 ad cs iv fv gv n3 t (q + 10) h3 (by omega) (by omega) (by omega)) (cwV 2 hts gX9_tells_X9_sum rfl rfl rfl (by decide +kernel) ⟨Nat.le_of_ble_eq_true rfl, Nat.le_of_ble_eq_true rfl⟩) ⟨fun a U g mk q => ⟨q.1, q.2.1, va_K.moved (u := U) (U := U.calling g mk a) (Vm.Alike.refl U.vm) q.2.2⟩, va_recv hK hP (ci := 9) (q0 := 0) rfl rfl, fun U hU hW => ⟨rfl, by rw [hU]; exact hP, va_K.moved hW.alike hK⟩⟩ rfl rfl hl.1 rfl (lv_room (Nat.le_of_ble_eq_true rfl)) dX9_tells_162 ⟨Nat.le_of_ble_eq_true rfl, Nat.le_of_ble_eq_true rfl⟩) (fun r_86 k_87 => ?_)
        refine lv_lload hx hb dX9_tells_165 (lv_at hl 1 rfl) ?_
        refine W.lcmp hx hb dX9_tells_167 ?_
        refine lv_if_lt (tgt := 175) hx hb dX9_tells_168 (by decide) (fun c_88 => ?_) (fun c_88 => ?_)
        · refine lv_iconst (v := 0) hx hb dX9_tells_175 (by decide) ?_
          refine lv_goto (tgt := 199) hx hb dX9_tells_176 (by decide) ?_
          refine lv_istore (lv' := [(8, .int 0), (7, .int 1), (5, .long (a4.toInt64 * r_1.toInt64)), (0, .ref h0), (1, .int (nI t)), (2, .int (nI q)), (3, .int a3), (4, .int a4)]) hx hb dX9_tells_199 hl (by decide) rfl (fun ls hl => ?_)
          refine lv_iload_n hx hb dX9_tells_201 rfl (lv_at hl 6 rfl) ?_
          refine lv_bipush (v := 9) hx hb dX9_tells_202 (by decide) ?_
          refine lv_icmp_ne (tgt := 215) hx hb dX9_tells_204 (by decide) (fun c_89 => ?_) (fun c_89 => ?_)
          · refine lv_iload hx hb dX9_tells_215 (lv_at hl 0 rfl) ?_
            refine lv_if_eq (tgt := 224) hx hb dX9_tells_217 (by decide) (fun c_90 => ?_) (fun c_90 => absurd (by decide) c_90)
            refine lv_iconst (v := 0) hx hb dX9_tells_224 (by decide) ?_
            refine lv_iload_n hx hb dX9_tells_225 rfl (lv_at hl 6 rfl) ?_
            refine lv_bipush (v := 9) hx hb dX9_tells_226 (by decide) ?_
            refine lv_icmp_ne (tgt := 239) hx hb dX9_tells_228 (by decide) (fun c_91 => ?_) (fun c_91 => ?_)
            · refine lv_iload hx hb dX9_tells_239 (lv_at hl 1 rfl) ?_
              refine lv_if_eq (tgt := 248) hx hb dX9_tells_241 (by decide) (fun c_92 => absurd c_92 (by decide)) (fun c_92 => ?_)
              refine lv_iconst (v := 1) hx hb dX9_tells_244 (by decide) ?_
              refine lv_goto (tgt := 249) hx hb dX9_tells_245 (by decide) ?_
              refine lv_iadd hx hb dX9_tells_249 ?_
              refine tp_i (y := 1) (by decide) ?_
              exact W.iret (v := 1) hx hb hr (fun t ht hW => ⟨1, rfl, trivial, ht⟩) (fun _ h9 => by cases h9) dX9_tells_250
            refine lv_iload hx hb dX9_tells_231 (lv_at hl 0 rfl) ?_
            refine lv_if_eq (tgt := 248) hx hb dX9_tells_233 (by decide) (fun c_93 => ?_) (fun c_93 => absurd (by decide) c_93)
            refine lv_iconst (v := 0) hx hb dX9_tells_248 (by decide) ?_
            refine lv_iadd hx hb dX9_tells_249 ?_
            refine tp_i (y := 0) (by decide) ?_
            exact W.iret (v := 0) hx hb hr (fun t ht hW => ⟨0, rfl, trivial, ht⟩) (fun _ h9 => by cases h9) dX9_tells_250
          refine lv_iload hx hb dX9_tells_207 (lv_at hl 1 rfl) ?_
          refine lv_if_eq (tgt := 224) hx hb dX9_tells_209 (by decide) (fun c_94 => absurd c_94 (by decide)) (fun c_94 => ?_)
          refine lv_goto (tgt := 220) hx hb dX9_tells_212 (by decide) ?_
          refine lv_iconst (v := 2) hx hb dX9_tells_220 (by decide) ?_
          refine lv_goto (tgt := 225) hx hb dX9_tells_221 (by decide) ?_
          refine lv_iload_n hx hb dX9_tells_225 rfl (lv_at hl 6 rfl) ?_
          refine lv_bipush (v := 9) hx hb dX9_tells_226 (by decide) ?_
          refine lv_icmp_ne (tgt := 239) hx hb dX9_tells_228 (by decide) (fun c_95 => ?_) (fun c_95 => ?_)
          · refine lv_iload hx hb dX9_tells_239 (lv_at hl 1 rfl) ?_
            refine lv_if_eq (tgt := 248) hx hb dX9_tells_241 (by decide) (fun c_96 => absurd c_96 (by decide)) (fun c_96 => ?_)
            refine lv_iconst (v := 1) hx hb dX9_tells_244 (by decide) ?_
            refine lv_goto (tgt := 249) hx hb dX9_tells_245 (by decide) ?_
            refine lv_iadd hx hb dX9_tells_249 ?_
            refine tp_i (y := 3) (by decide) ?_
            exact W.iret (v := 3) hx hb hr (fun t ht hW => ⟨3, rfl, trivial, ht⟩) (fun _ h9 => by cases h9) dX9_tells_250
          refine lv_iload hx hb dX9_tells_231 (lv_at hl 0 rfl) ?_
          refine lv_if_eq (tgt := 248) hx hb dX9_tells_233 (by decide) (fun c_97 => ?_) (fun c_97 => absurd (by decide) c_97)
          refine lv_iconst (v := 0) hx hb dX9_tells_248 (by decide) ?_
          refine lv_iadd hx hb dX9_tells_249 ?_
          refine tp_i (y := 2) (by decide) ?_
          exact W.iret (v := 2) hx hb hr (fun t ht hW => ⟨2, rfl, trivial, ht⟩) (fun _ h9 => by cases h9) dX9_tells_250
        refine lv_iconst (v := 1) hx hb dX9_tells_171 (by decide) ?_
        refine lv_goto (tgt := 199) hx hb dX9_tells_172 (by decide) ?_
        refine lv_istore (lv' := [(8, .int 1), (7, .int 1), (5, .long (a4.toInt64 * r_1.toInt64)), (0, .ref h0), (1, .int (nI t)), (2, .int (nI q)), (3, .int a3), (4, .int a4)]) hx hb dX9_tells_199 hl (by decide) rfl (fun ls hl => ?_)
        refine lv_iload_n hx hb dX9_tells_201 rfl (lv_at hl 6 rfl) ?_
        refine lv_bipush (v := 9) hx hb dX9_tells_202 (by decide) ?_
        refine lv_icmp_ne (tgt := 215) hx hb dX9_tells_204 (by decide) (fun c_98 => ?_) (fun c_98 => ?_)
        · refine lv_iload hx hb dX9_tells_215 (lv_at hl 0 rfl) ?_
          refine lv_if_eq (tgt := 224) hx hb dX9_tells_217 (by decide) (fun c_99 => absurd c_99 (by decide)) (fun c_99 => ?_)
          refine lv_iconst (v := 2) hx hb dX9_tells_220 (by decide) ?_
          refine lv_goto (tgt := 225) hx hb dX9_tells_221 (by decide) ?_
          refine lv_iload_n hx hb dX9_tells_225 rfl (lv_at hl 6 rfl) ?_
          refine lv_bipush (v := 9) hx hb dX9_tells_226 (by decide) ?_
          refine lv_icmp_ne (tgt := 239) hx hb dX9_tells_228 (by decide) (fun c_100 => ?_) (fun c_100 => ?_)
          · refine lv_iload hx hb dX9_tells_239 (lv_at hl 1 rfl) ?_
            refine lv_if_eq (tgt := 248) hx hb dX9_tells_241 (by decide) (fun c_101 => absurd c_101 (by decide)) (fun c_101 => ?_)
            refine lv_iconst (v := 1) hx hb dX9_tells_244 (by decide) ?_
            refine lv_goto (tgt := 249) hx hb dX9_tells_245 (by decide) ?_
            refine lv_iadd hx hb dX9_tells_249 ?_
            refine tp_i (y := 3) (by decide) ?_
            exact W.iret (v := 3) hx hb hr (fun t ht hW => ⟨3, rfl, trivial, ht⟩) (fun _ h9 => by cases h9) dX9_tells_250
          refine lv_iload hx hb dX9_tells_231 (lv_at hl 0 rfl) ?_
          refine lv_if_eq (tgt := 248) hx hb dX9_tells_233 (by decide) (fun c_102 => absurd c_102 (by decide)) (fun c_102 => ?_)
          refine lv_goto (tgt := 244) hx hb dX9_tells_236 (by decide) ?_
          refine lv_iconst (v := 1) hx hb dX9_tells_244 (by decide) ?_
          refine lv_goto (tgt := 249) hx hb dX9_tells_245 (by decide) ?_
          refine lv_iadd hx hb dX9_tells_249 ?_
          refine tp_i (y := 3) (by decide) ?_
          exact W.iret (v := 3) hx hb hr (fun t ht hW => ⟨3, rfl, trivial, ht⟩) (fun _ h9 => by cases h9) dX9_tells_250
        refine lv_iload hx hb dX9_tells_207 (lv_at hl 1 rfl) ?_
        refine lv_if_eq (tgt := 224) hx hb dX9_tells_209 (by decide) (fun c_103 => absurd c_103 (by decide)) (fun c_103 => ?_)
        refine lv_goto (tgt := 220) hx hb dX9_tells_212 (by decide) ?_
        refine lv_iconst (v := 2) hx hb dX9_tells_220 (by decide) ?_
        refine lv_goto (tgt := 225) hx hb dX9_tells_221 (by decide) ?_
        refine lv_iload_n hx hb dX9_tells_225 rfl (lv_at hl 6 rfl) ?_
        refine lv_bipush (v := 9) hx hb dX9_tells_226 (by decide) ?_
        refine lv_icmp_ne (tgt := 239) hx hb dX9_tells_228 (by decide) (fun c_104 => ?_) (fun c_104 => ?_)
        · refine lv_iload hx hb dX9_tells_239 (lv_at hl 1 rfl) ?_
          refine lv_if_eq (tgt := 248) hx hb dX9_tells_241 (by decide) (fun c_105 => absurd c_105 (by decide)) (fun c_105 => ?_)
          refine lv_iconst (v := 1) hx hb dX9_tells_244 (by decide) ?_
          refine lv_goto (tgt := 249) hx hb dX9_tells_245 (by decide) ?_
          refine lv_iadd hx hb dX9_tells_249 ?_
          refine tp_i (y := 3) (by decide) ?_
          exact W.iret (v := 3) hx hb hr (fun t ht hW => ⟨3, rfl, trivial, ht⟩) (fun _ h9 => by cases h9) dX9_tells_250
        refine lv_iload hx hb dX9_tells_231 (lv_at hl 0 rfl) ?_
        refine lv_if_eq (tgt := 248) hx hb dX9_tells_233 (by decide) (fun c_106 => absurd c_106 (by decide)) (fun c_106 => ?_)
        refine lv_goto (tgt := 244) hx hb dX9_tells_236 (by decide) ?_
        refine lv_iconst (v := 1) hx hb dX9_tells_244 (by decide) ?_
        refine lv_goto (tgt := 249) hx hb dX9_tells_245 (by decide) ?_
        refine lv_iadd hx hb dX9_tells_249 ?_
        refine tp_i (y := 3) (by decide) ?_
        exact W.iret (v := 3) hx hb hr (fun t ht hW => ⟨3, rfl, trivial, ht⟩) (fun _ h9 => by cases h9) dX9_tells_250
      refine lv_aload_n hx hb dX9_tells_111 rfl (lv_at hl 1 rfl) ?_
      refine lv_iload_n hx hb dX9_tells_112 rfl (lv_at hl 2 rfl) ?_
      refine lv_iload_n hx hb dX9_tells_113 rfl (lv_at hl 3 rfl) ?_
      refine vp_callSl (W.runV (As := [.int (nI t), .int (nI q)]) (rest := []) ⟨hx, hb, hml, hown, hts⟩ (m_sum l D h0 ad cs iv fv gv n3 t q h3 (by omega) (by omega) (by omega)) (cwV 2 hts gX9_tells_X9_sum rfl rfl rfl (by decide +kernel) ⟨Nat.le_of_ble_eq_true rfl, Nat.le_of_ble_eq_true rfl⟩) ⟨fun a U g mk q => ⟨q.1, q.2.1, va_K.moved (u := U) (U := U.calling g mk a) (Vm.Alike.refl U.vm) q.2.2⟩, va_recv hK hP (ci := 9) (q0 := 0) rfl rfl, fun U hU hW => ⟨rfl, by rw [hU]; exact hP, va_K.moved hW.alike hK⟩⟩ rfl rfl hl.1 rfl (lv_room (Nat.le_of_ble_eq_true rfl)) dX9_tells_114 ⟨Nat.le_of_ble_eq_true rfl, Nat.le_of_ble_eq_true rfl⟩) (fun r_107 k_108 => ?_)
      refine lv_lload hx hb dX9_tells_117 (lv_at hl 0 rfl) ?_
      refine W.lcmp hx hb dX9_tells_119 ?_
      refine lv_if_lt (tgt := 127) hx hb dX9_tells_120 (by decide) (fun c_109 => ?_) (fun c_109 => ?_)
      · refine lv_iconst (v := 0) hx hb dX9_tells_127 (by decide) ?_
        refine lv_goto (tgt := 148) hx hb dX9_tells_128 (by decide) ?_
        refine lv_istore (lv' := [(7, .int 0), (5, .long (a4.toInt64 * r_1.toInt64)), (0, .ref h0), (1, .int (nI t)), (2, .int (nI q)), (3, .int a3), (4, .int a4)]) hx hb dX9_tells_148 hl (by decide) rfl (fun ls hl => ?_)
        refine lv_iload_n hx hb dX9_tells_150 rfl (lv_at hl 5 rfl) ?_
        refine lv_bipush (v := 9) hx hb dX9_tells_151 (by decide) ?_
        refine lv_icmp_ne (tgt := 179) hx hb dX9_tells_153 (by decide) (fun c_110 => ?_) (fun c_110 => ?_)
        · refine lv_aload_n hx hb dX9_tells_179 rfl (lv_at hl 2 rfl) ?_
          refine lv_iload_n hx hb dX9_tells_180 rfl (lv_at hl 3 rfl) ?_
          refine lv_iload_n hx hb dX9_tells_181 rfl (lv_at hl 4 rfl) ?_
          refine lv_bipush (v := 10) hx hb dX9_tells_182 (by decide) ?_
          refine lv_iadd hx hb dX9_tells_184 ?_
          refine tp_i (y := nI (q + 10)) (nI_add q 10) ?_
          refine vp_callSl (W.runV (As := [.int (nI t), .int (nI (q + 10))]) (rest := []) ⟨hx, hb, hml, hown, hts⟩ (m_sum l D h0 ad cs iv fv gv n3 t (q + 10) h3 (by omega) (by omega) (by omega)) (cwV 2 hts gX9_tells_X9_sum rfl rfl rfl (by decide +kernel) ⟨Nat.le_of_ble_eq_true rfl, Nat.le_of_ble_eq_true rfl⟩) ⟨fun a U g mk q => ⟨q.1, q.2.1, va_K.moved (u := U) (U := U.calling g mk a) (Vm.Alike.refl U.vm) q.2.2⟩, va_recv hK hP (ci := 9) (q0 := 0) rfl rfl, fun U hU hW => ⟨rfl, by rw [hU]; exact hP, va_K.moved hW.alike hK⟩⟩ rfl rfl hl.1 rfl (lv_room (Nat.le_of_ble_eq_true rfl)) dX9_tells_185 ⟨Nat.le_of_ble_eq_true rfl, Nat.le_of_ble_eq_true rfl⟩) (fun r_111 k_112 => ?_)
          refine lv_lload hx hb dX9_tells_188 (lv_at hl 1 rfl) ?_
          refine W.lcmp hx hb dX9_tells_190 ?_
          refine lv_if_gt (tgt := 198) hx hb dX9_tells_191 (by decide) (fun c_113 => ?_) (fun c_113 => ?_)
          · refine lv_iconst (v := 0) hx hb dX9_tells_198 (by decide) ?_
            refine lv_istore (lv' := [(8, .int 0), (7, .int 0), (5, .long (a4.toInt64 * r_1.toInt64)), (0, .ref h0), (1, .int (nI t)), (2, .int (nI q)), (3, .int a3), (4, .int a4)]) hx hb dX9_tells_199 hl (by decide) rfl (fun ls hl => ?_)
            refine lv_iload_n hx hb dX9_tells_201 rfl (lv_at hl 6 rfl) ?_
            refine lv_bipush (v := 9) hx hb dX9_tells_202 (by decide) ?_
            refine lv_icmp_ne (tgt := 215) hx hb dX9_tells_204 (by decide) (fun c_114 => ?_) (fun c_114 => ?_)
            · refine lv_iload hx hb dX9_tells_215 (lv_at hl 0 rfl) ?_
              refine lv_if_eq (tgt := 224) hx hb dX9_tells_217 (by decide) (fun c_115 => ?_) (fun c_115 => absurd (by decide) c_115)
              refine lv_iconst (v := 0) hx hb dX9_tells_224 (by decide) ?_
              refine lv_iload_n hx hb dX9_tells_225 rfl (lv_at hl 6 rfl) ?_
              refine lv_bipush (v := 9) hx hb dX9_tells_226 (by decide) ?_
              refine lv_icmp_ne (tgt := 239) hx hb dX9_tells_228 (by decide) (fun c_116 => ?_) (fun c_116 => ?_)
              · refine lv_iload hx hb dX9_tells_239 (lv_at hl 1 rfl) ?_
                refine lv_if_eq (tgt := 248) hx hb dX9_tells_241 (by decide) (fun c_117 => ?_) (fun c_117 => absurd (by decide) c_117)
                refine lv_iconst (v := 0) hx hb dX9_tells_248 (by decide) ?_
                refine lv_iadd hx hb dX9_tells_249 ?_
                refine tp_i (y := 0) (by decide) ?_
                exact W.iret (v := 0) hx hb hr (fun t ht hW => ⟨0, rfl, trivial, ht⟩) (fun _ h9 => by cases h9) dX9_tells_250
              refine lv_iload hx hb dX9_tells_231 (lv_at hl 0 rfl) ?_
              refine lv_if_eq (tgt := 248) hx hb dX9_tells_233 (by decide) (fun c_118 => ?_) (fun c_118 => absurd (by decide) c_118)
              refine lv_iconst (v := 0) hx hb dX9_tells_248 (by decide) ?_
              refine lv_iadd hx hb dX9_tells_249 ?_
              refine tp_i (y := 0) (by decide) ?_
              exact W.iret (v := 0) hx hb hr (fun t ht hW => ⟨0, rfl, trivial, ht⟩) (fun _ h9 => by cases h9) dX9_tells_250
            refine lv_iload hx hb dX9_tells_207 (lv_at hl 1 rfl) ?_
            refine lv_if_eq (tgt := 224) hx hb dX9_tells_209 (by decide) (fun c_119 => ?_) (fun c_119 => absurd (by decide) c_119)
            refine lv_iconst (v := 0) hx hb dX9_tells_224 (by decide) ?_
            refine lv_iload_n hx hb dX9_tells_225 rfl (lv_at hl 6 rfl) ?_
            refine lv_bipush (v := 9) hx hb dX9_tells_226 (by decide) ?_
            refine lv_icmp_ne (tgt := 239) hx hb dX9_tells_228 (by decide) (fun c_120 => ?_) (fun c_120 => ?_)
            · refine lv_iload hx hb dX9_tells_239 (lv_at hl 1 rfl) ?_
              refine lv_if_eq (tgt := 248) hx hb dX9_tells_241 (by decide) (fun c_121 => ?_) (fun c_121 => absurd (by decide) c_121)
              refine lv_iconst (v := 0) hx hb dX9_tells_248 (by decide) ?_
              refine lv_iadd hx hb dX9_tells_249 ?_
              refine tp_i (y := 0) (by decide) ?_
              exact W.iret (v := 0) hx hb hr (fun t ht hW => ⟨0, rfl, trivial, ht⟩) (fun _ h9 => by cases h9) dX9_tells_250
            refine lv_iload hx hb dX9_tells_231 (lv_at hl 0 rfl) ?_
            refine lv_if_eq (tgt := 248) hx hb dX9_tells_233 (by decide) (fun c_122 => ?_) (fun c_122 => absurd (by decide) c_122)
            refine lv_iconst (v := 0) hx hb dX9_tells_248 (by decide) ?_
            refine lv_iadd hx hb dX9_tells_249 ?_
            refine tp_i (y := 0) (by decide) ?_
            exact W.iret (v := 0) hx hb hr (fun t ht hW => ⟨0, rfl, trivial, ht⟩) (fun _ h9 => by cases h9) dX9_tells_250
          refine lv_iconst (v := 1) hx hb dX9_tells_194 (by decide) ?_
          refine lv_goto (tgt := 199) hx hb dX9_tells_195 (by decide) ?_
          refine lv_istore (lv' := [(8, .int 1), (7, .int 0), (5, .long (a4.toInt64 * r_1.toInt64)), (0, .ref h0), (1, .int (nI t)), (2, .int (nI q)), (3, .int a3), (4, .int a4)]) hx hb dX9_tells_199 hl (by decide) rfl (fun ls hl => ?_)
          refine lv_iload_n hx hb dX9_tells_201 rfl (lv_at hl 6 rfl) ?_
          refine lv_bipush (v := 9) hx hb dX9_tells_202 (by decide) ?_
          refine lv_icmp_ne (tgt := 215) hx hb dX9_tells_204 (by decide) (fun c_123 => ?_) (fun c_123 => ?_)
          · refine lv_iload hx hb dX9_tells_215 (lv_at hl 0 rfl) ?_
            refine lv_if_eq (tgt := 224) hx hb dX9_tells_217 (by decide) (fun c_124 => absurd c_124 (by decide)) (fun c_124 => ?_)
            refine lv_iconst (v := 2) hx hb dX9_tells_220 (by decide) ?_
            refine lv_goto (tgt := 225) hx hb dX9_tells_221 (by decide) ?_
            refine lv_iload_n hx hb dX9_tells_225 rfl (lv_at hl 6 rfl) ?_
            refine lv_bipush (v := 9) hx hb dX9_tells_226 (by decide) ?_
            refine lv_icmp_ne (tgt := 239) hx hb dX9_tells_228 (by decide) (fun c_125 => ?_) (fun c_125 => ?_)
            · refine lv_iload hx hb dX9_tells_239 (lv_at hl 1 rfl) ?_
              refine lv_if_eq (tgt := 248) hx hb dX9_tells_241 (by decide) (fun c_126 => ?_) (fun c_126 => absurd (by decide) c_126)
              refine lv_iconst (v := 0) hx hb dX9_tells_248 (by decide) ?_
              refine lv_iadd hx hb dX9_tells_249 ?_
              refine tp_i (y := 2) (by decide) ?_
              exact W.iret (v := 2) hx hb hr (fun t ht hW => ⟨2, rfl, trivial, ht⟩) (fun _ h9 => by cases h9) dX9_tells_250
            refine lv_iload hx hb dX9_tells_231 (lv_at hl 0 rfl) ?_
            refine lv_if_eq (tgt := 248) hx hb dX9_tells_233 (by decide) (fun c_127 => absurd c_127 (by decide)) (fun c_127 => ?_)
            refine lv_goto (tgt := 244) hx hb dX9_tells_236 (by decide) ?_
            refine lv_iconst (v := 1) hx hb dX9_tells_244 (by decide) ?_
            refine lv_goto (tgt := 249) hx hb dX9_tells_245 (by decide) ?_
            refine lv_iadd hx hb dX9_tells_249 ?_
            refine tp_i (y := 3) (by decide) ?_
            exact W.iret (v := 3) hx hb hr (fun t ht hW => ⟨3, rfl, trivial, ht⟩) (fun _ h9 => by cases h9) dX9_tells_250
          refine lv_iload hx hb dX9_tells_207 (lv_at hl 1 rfl) ?_
          refine lv_if_eq (tgt := 224) hx hb dX9_tells_209 (by decide) (fun c_128 => ?_) (fun c_128 => absurd (by decide) c_128)
          refine lv_iconst (v := 0) hx hb dX9_tells_224 (by decide) ?_
          refine lv_iload_n hx hb dX9_tells_225 rfl (lv_at hl 6 rfl) ?_
          refine lv_bipush (v := 9) hx hb dX9_tells_226 (by decide) ?_
          refine lv_icmp_ne (tgt := 239) hx hb dX9_tells_228 (by decide) (fun c_129 => ?_) (fun c_129 => ?_)
          · refine lv_iload hx hb dX9_tells_239 (lv_at hl 1 rfl) ?_
            refine lv_if_eq (tgt := 248) hx hb dX9_tells_241 (by decide) (fun c_130 => ?_) (fun c_130 => absurd (by decide) c_130)
            refine lv_iconst (v := 0) hx hb dX9_tells_248 (by decide) ?_
            refine lv_iadd hx hb dX9_tells_249 ?_
            refine tp_i (y := 0) (by decide) ?_
            exact W.iret (v := 0) hx hb hr (fun t ht hW => ⟨0, rfl, trivial, ht⟩) (fun _ h9 => by cases h9) dX9_tells_250
          refine lv_iload hx hb dX9_tells_231 (lv_at hl 0 rfl) ?_
          refine lv_if_eq (tgt := 248) hx hb dX9_tells_233 (by decide) (fun c_131 => absurd c_131 (by decide)) (fun c_131 => ?_)
          refine lv_goto (tgt := 244) hx hb dX9_tells_236 (by decide) ?_
          refine lv_iconst (v := 1) hx hb dX9_tells_244 (by decide) ?_
          refine lv_goto (tgt := 249) hx hb dX9_tells_245 (by decide) ?_
          refine lv_iadd hx hb dX9_tells_249 ?_
          refine tp_i (y := 1) (by decide) ?_
          exact W.iret (v := 1) hx hb hr (fun t ht hW => ⟨1, rfl, trivial, ht⟩) (fun _ h9 => by cases h9) dX9_tells_250
        refine lv_aload_n hx hb dX9_tells_156 rfl (lv_at hl 2 rfl) ?_
        refine lv_iload_n hx hb dX9_tells_157 rfl (lv_at hl 3 rfl) ?_
        refine lv_iload_n hx hb dX9_tells_158 rfl (lv_at hl 4 rfl) ?_
        refine lv_bipush (v := 10) hx hb dX9_tells_159 (by decide) ?_
        refine lv_iadd hx hb dX9_tells_161 ?_
        refine tp_i (y := nI (q + 10)) (nI_add q 10) ?_
        refine vp_callSl (W.runV (As := [.int (nI t), .int (nI (q + 10))]) (rest := []) ⟨hx, hb, hml, hown, hts⟩ (m_sum l D h0 ad cs iv fv gv n3 t (q + 10) h3 (by omega) (by omega) (by omega)) (cwV 2 hts gX9_tells_X9_sum rfl rfl rfl (by decide +kernel) ⟨Nat.le_of_ble_eq_true rfl, Nat.le_of_ble_eq_true rfl⟩) ⟨fun a U g mk q => ⟨q.1, q.2.1, va_K.moved (u := U) (U := U.calling g mk a) (Vm.Alike.refl U.vm) q.2.2⟩, va_recv hK hP (ci := 9) (q0 := 0) rfl rfl, fun U hU hW => ⟨rfl, by rw [hU]; exact hP, va_K.moved hW.alike hK⟩⟩ rfl rfl hl.1 rfl (lv_room (Nat.le_of_ble_eq_true rfl)) dX9_tells_162 ⟨Nat.le_of_ble_eq_true rfl, Nat.le_of_ble_eq_true rfl⟩) (fun r_132 k_133 => ?_)
        refine lv_lload hx hb dX9_tells_165 (lv_at hl 1 rfl) ?_
        refine W.lcmp hx hb dX9_tells_167 ?_
        refine lv_if_lt (tgt := 175) hx hb dX9_tells_168 (by decide) (fun c_134 => ?_) (fun c_134 => ?_)
        · refine lv_iconst (v := 0) hx hb dX9_tells_175 (by decide) ?_
          refine lv_goto (tgt := 199) hx hb dX9_tells_176 (by decide) ?_
          refine lv_istore (lv' := [(8, .int 0), (7, .int 0), (5, .long (a4.toInt64 * r_1.toInt64)), (0, .ref h0), (1, .int (nI t)), (2, .int (nI q)), (3, .int a3), (4, .int a4)]) hx hb dX9_tells_199 hl (by decide) rfl (fun ls hl => ?_)
          refine lv_iload_n hx hb dX9_tells_201 rfl (lv_at hl 6 rfl) ?_
          refine lv_bipush (v := 9) hx hb dX9_tells_202 (by decide) ?_
          refine lv_icmp_ne (tgt := 215) hx hb dX9_tells_204 (by decide) (fun c_135 => ?_) (fun c_135 => ?_)
          · refine lv_iload hx hb dX9_tells_215 (lv_at hl 0 rfl) ?_
            refine lv_if_eq (tgt := 224) hx hb dX9_tells_217 (by decide) (fun c_136 => ?_) (fun c_136 => absurd (by decide) c_136)
            refine lv_iconst (v := 0) hx hb dX9_tells_224 (by decide) ?_
            refine lv_iload_n hx hb dX9_tells_225 rfl (lv_at hl 6 rfl) ?_
            refine lv_bipush (v := 9) hx hb dX9_tells_226 (by decide) ?_
            refine lv_icmp_ne (tgt := 239) hx hb dX9_tells_228 (by decide) (fun c_137 => ?_) (fun c_137 => ?_)
            · refine lv_iload hx hb dX9_tells_239 (lv_at hl 1 rfl) ?_
              refine lv_if_eq (tgt := 248) hx hb dX9_tells_241 (by decide) (fun c_138 => ?_) (fun c_138 => absurd (by decide) c_138)
              refine lv_iconst (v := 0) hx hb dX9_tells_248 (by decide) ?_
              refine lv_iadd hx hb dX9_tells_249 ?_
              refine tp_i (y := 0) (by decide) ?_
              exact W.iret (v := 0) hx hb hr (fun t ht hW => ⟨0, rfl, trivial, ht⟩) (fun _ h9 => by cases h9) dX9_tells_250
            refine lv_iload hx hb dX9_tells_231 (lv_at hl 0 rfl) ?_
            refine lv_if_eq (tgt := 248) hx hb dX9_tells_233 (by decide) (fun c_139 => ?_) (fun c_139 => absurd (by decide) c_139)
            refine lv_iconst (v := 0) hx hb dX9_tells_248 (by decide) ?_
            refine lv_iadd hx hb dX9_tells_249 ?_
            refine tp_i (y := 0) (by decide) ?_
            exact W.iret (v := 0) hx hb hr (fun t ht hW => ⟨0, rfl, trivial, ht⟩) (fun _ h9 => by cases h9) dX9_tells_250
          refine lv_iload hx hb dX9_tells_207 (lv_at hl 1 rfl) ?_
          refine lv_if_eq (tgt := 224) hx hb dX9_tells_209 (by decide) (fun c_140 => ?_) (fun c_140 => absurd (by decide) c_140)
          refine lv_iconst (v := 0) hx hb dX9_tells_224 (by decide) ?_
          refine lv_iload_n hx hb dX9_tells_225 rfl (lv_at hl 6 rfl) ?_
          refine lv_bipush (v := 9) hx hb dX9_tells_226 (by decide) ?_
          refine lv_icmp_ne (tgt := 239) hx hb dX9_tells_228 (by decide) (fun c_141 => ?_) (fun c_141 => ?_)
          · refine lv_iload hx hb dX9_tells_239 (lv_at hl 1 rfl) ?_
            refine lv_if_eq (tgt := 248) hx hb dX9_tells_241 (by decide) (fun c_142 => ?_) (fun c_142 => absurd (by decide) c_142)
            refine lv_iconst (v := 0) hx hb dX9_tells_248 (by decide) ?_
            refine lv_iadd hx hb dX9_tells_249 ?_
            refine tp_i (y := 0) (by decide) ?_
            exact W.iret (v := 0) hx hb hr (fun t ht hW => ⟨0, rfl, trivial, ht⟩) (fun _ h9 => by cases h9) dX9_tells_250
          refine lv_iload hx hb dX9_tells_231 (lv_at hl 0 rfl) ?_
          refine lv_if_eq (tgt := 248) hx hb dX9_tells_233 (by decide) (fun c_143 => ?_) (fun c_143 => absurd (by decide) c_143)
          refine lv_iconst (v := 0) hx hb dX9_tells_248 (by decide) ?_
          refine lv_iadd hx hb dX9_tells_249 ?_
          refine tp_i (y := 0) (by decide) ?_
          exact W.iret (v := 0) hx hb hr (fun t ht hW => ⟨0, rfl, trivial, ht⟩) (fun _ h9 => by cases h9) dX9_tells_250
        refine lv_iconst (v := 1) hx hb dX9_tells_171 (by decide) ?_
        refine lv_goto (tgt := 199) hx hb dX9_tells_172 (by decide) ?_
        refine lv_istore (lv' := [(8, .int 1), (7, .int 0), (5, .long (a4.toInt64 * r_1.toInt64)), (0, .ref h0), (1, .int (nI t)), (2, .int (nI q)), (3, .int a3), (4, .int a4)]) hx hb dX9_tells_199 hl (by decide) rfl (fun ls hl => ?_)
        refine lv_iload_n hx hb dX9_tells_201 rfl (lv_at hl 6 rfl) ?_
        refine lv_bipush (v := 9) hx hb dX9_tells_202 (by decide) ?_
        refine lv_icmp_ne (tgt := 215) hx hb dX9_tells_204 (by decide) (fun c_144 => ?_) (fun c_144 => ?_)
        · refine lv_iload hx hb dX9_tells_215 (lv_at hl 0 rfl) ?_
          refine lv_if_eq (tgt := 224) hx hb dX9_tells_217 (by decide) (fun c_145 => absurd c_145 (by decide)) (fun c_145 => ?_)
          refine lv_iconst (v := 2) hx hb dX9_tells_220 (by decide) ?_
          refine lv_goto (tgt := 225) hx hb dX9_tells_221 (by decide) ?_
          refine lv_iload_n hx hb dX9_tells_225 rfl (lv_at hl 6 rfl) ?_
          refine lv_bipush (v := 9) hx hb dX9_tells_226 (by decide) ?_
          refine lv_icmp_ne (tgt := 239) hx hb dX9_tells_228 (by decide) (fun c_146 => ?_) (fun c_146 => ?_)
          · refine lv_iload hx hb dX9_tells_239 (lv_at hl 1 rfl) ?_
            refine lv_if_eq (tgt := 248) hx hb dX9_tells_241 (by decide) (fun c_147 => ?_) (fun c_147 => absurd (by decide) c_147)
            refine lv_iconst (v := 0) hx hb dX9_tells_248 (by decide) ?_
            refine lv_iadd hx hb dX9_tells_249 ?_
            refine tp_i (y := 2) (by decide) ?_
            exact W.iret (v := 2) hx hb hr (fun t ht hW => ⟨2, rfl, trivial, ht⟩) (fun _ h9 => by cases h9) dX9_tells_250
          refine lv_iload hx hb dX9_tells_231 (lv_at hl 0 rfl) ?_
          refine lv_if_eq (tgt := 248) hx hb dX9_tells_233 (by decide) (fun c_148 => absurd c_148 (by decide)) (fun c_148 => ?_)
          refine lv_goto (tgt := 244) hx hb dX9_tells_236 (by decide) ?_
          refine lv_iconst (v := 1) hx hb dX9_tells_244 (by decide) ?_
          refine lv_goto (tgt := 249) hx hb dX9_tells_245 (by decide) ?_
          refine lv_iadd hx hb dX9_tells_249 ?_
          refine tp_i (y := 3) (by decide) ?_
          exact W.iret (v := 3) hx hb hr (fun t ht hW => ⟨3, rfl, trivial, ht⟩) (fun _ h9 => by cases h9) dX9_tells_250
        refine lv_iload hx hb dX9_tells_207 (lv_at hl 1 rfl) ?_
        refine lv_if_eq (tgt := 224) hx hb dX9_tells_209 (by decide) (fun c_149 => ?_) (fun c_149 => absurd (by decide) c_149)
        refine lv_iconst (v := 0) hx hb dX9_tells_224 (by decide) ?_
        refine lv_iload_n hx hb dX9_tells_225 rfl (lv_at hl 6 rfl) ?_
        refine lv_bipush (v := 9) hx hb dX9_tells_226 (by decide) ?_
        refine lv_icmp_ne (tgt := 239) hx hb dX9_tells_228 (by decide) (fun c_150 => ?_) (fun c_150 => ?_)
        · refine lv_iload hx hb dX9_tells_239 (lv_at hl 1 rfl) ?_
          refine lv_if_eq (tgt := 248) hx hb dX9_tells_241 (by decide) (fun c_151 => ?_) (fun c_151 => absurd (by decide) c_151)
          refine lv_iconst (v := 0) hx hb dX9_tells_248 (by decide) ?_
          refine lv_iadd hx hb dX9_tells_249 ?_
          refine tp_i (y := 0) (by decide) ?_
          exact W.iret (v := 0) hx hb hr (fun t ht hW => ⟨0, rfl, trivial, ht⟩) (fun _ h9 => by cases h9) dX9_tells_250
        refine lv_iload hx hb dX9_tells_231 (lv_at hl 0 rfl) ?_
        refine lv_if_eq (tgt := 248) hx hb dX9_tells_233 (by decide) (fun c_152 => absurd c_152 (by decide)) (fun c_152 => ?_)
        refine lv_goto (tgt := 244) hx hb dX9_tells_236 (by decide) ?_
        refine lv_iconst (v := 1) hx hb dX9_tells_244 (by decide) ?_
        refine lv_goto (tgt := 249) hx hb dX9_tells_245 (by decide) ?_
        refine lv_iadd hx hb dX9_tells_249 ?_
        refine tp_i (y := 1) (by decide) ?_
        exact W.iret (v := 1) hx hb hr (fun t ht hW => ⟨1, rfl, trivial, ht⟩) (fun _ h9 => by cases h9) dX9_tells_250
      refine lv_iconst (v := 1) hx hb dX9_tells_123 (by decide) ?_
      refine lv_goto (tgt := 148) hx hb dX9_tells_124 (by decide) ?_
      refine lv_istore (lv' := [(7, .int 1), (5, .long (a4.toInt64 * r_1.toInt64)), (0, .ref h0), (1, .int (nI t)), (2, .int (nI q)), (3, .int a3), (4, .int a4)]) hx hb dX9_tells_148 hl (by decide) rfl (fun ls hl => ?_)
      refine lv_iload_n hx hb dX9_tells_150 rfl (lv_at hl 5 rfl) ?_
      refine lv_bipush (v := 9) hx hb dX9_tells_151 (by decide) ?_
      refine lv_icmp_ne (tgt := 179) hx hb dX9_tells_153 (by decide) (fun c_153 => ?_) (fun c_153 => ?_)
      · refine lv_aload_n hx hb dX9_tells_179 rfl (lv_at hl 2 rfl) ?_
        refine lv_iload_n hx hb dX9_tells_180 rfl (lv_at hl 3 rfl) ?_
        refine lv_iload_n hx hb dX9_tells_181 rfl (lv_at hl 4 rfl) ?_
        refine lv_bipush (v := 10) hx hb dX9_tells_182 (by decide) ?_
        refine lv_iadd hx hb dX9_tells_184 ?_
        refine tp_i (y := nI (q + 10)) (nI_add q 10) ?_
        refine vp_callSl (W.runV (As := [.int (nI t), .int (nI (q + 10))]) (rest := []) ⟨hx, hb, hml, hown, hts⟩ (m_sum l D h0 ad cs iv fv gv n3 t (q + 10) h3 (by omega) (by omega) (by omega)) (cwV 2 hts gX9_tells_X9_sum rfl rfl rfl (by decide +kernel) ⟨Nat.le_of_ble_eq_true rfl, Nat.le_of_ble_eq_true rfl⟩) ⟨fun a U g mk q => ⟨q.1, q.2.1, va_K.moved (u := U) (U := U.calling g mk a) (Vm.Alike.refl U.vm) q.2.2⟩, va_recv hK hP (ci := 9) (q0 := 0) rfl rfl, fun U hU hW => ⟨rfl, by rw [hU]; exact hP, va_K.moved hW.alike hK⟩⟩ rfl rfl hl.1 rfl (lv_room (Nat.le_of_ble_eq_true rfl)) dX9_tells_185 ⟨Nat.le_of_ble_eq_true rfl, Nat.le_of_ble_eq_true rfl⟩) (fun r_154 k_155 => ?_)
        refine lv_lload hx hb dX9_tells_188 (lv_at hl 1 rfl) ?_
        refine W.lcmp hx hb dX9_tells_190 ?_
        refine lv_if_gt (tgt := 198) hx hb dX9_tells_191 (by decide) (fun c_156 => ?_) (fun c_156 => ?_)
        · refine lv_iconst (v := 0) hx hb dX9_tells_198 (by decide) ?_
          refine lv_istore (lv' := [(8, .int 0), (7, .int 1), (5, .long (a4.toInt64 * r_1.toInt64)), (0, .ref h0), (1, .int (nI t)), (2, .int (nI q)), (3, .int a3), (4, .int a4)]) hx hb dX9_tells_199 hl (by decide) rfl (fun ls hl => ?_)
          refine lv_iload_n hx hb dX9_tells_201 rfl (lv_at hl 6 rfl) ?_
          refine lv_bipush (v := 9) hx hb dX9_tells_202 (by decide) ?_
          refine lv_icmp_ne (tgt := 215) hx hb dX9_tells_204 (by decide) (fun c_157 => ?_) (fun c_157 => ?_)
          · refine lv_iload hx hb dX9_tells_215 (lv_at hl 0 rfl) ?_
            refine lv_if_eq (tgt := 224) hx hb dX9_tells_217 (by decide) (fun c_158 => ?_) (fun c_158 => absurd (by decide) c_158)
            refine lv_iconst (v := 0) hx hb dX9_tells_224 (by decide) ?_
            refine lv_iload_n hx hb dX9_tells_225 rfl (lv_at hl 6 rfl) ?_
            refine lv_bipush (v := 9) hx hb dX9_tells_226 (by decide) ?_
            refine lv_icmp_ne (tgt := 239) hx hb dX9_tells_228 (by decide) (fun c_159 => ?_) (fun c_159 => ?_)
            · refine lv_iload hx hb dX9_tells_239 (lv_at hl 1 rfl) ?_
              refine lv_if_eq (tgt := 248) hx hb dX9_tells_241 (by decide) (fun c_160 => absurd c_160 (by decide)) (fun c_160 => ?_)
              refine lv_iconst (v := 1) hx hb dX9_tells_244 (by decide) ?_
              refine lv_goto (tgt := 249) hx hb dX9_tells_245 (by decide) ?_
              refine lv_iadd hx hb dX9_tells_249 ?_
              refine tp_i (y := 1) (by decide) ?_
              exact W.iret (v := 1) hx hb hr (fun t ht hW => ⟨1, rfl, trivial, ht⟩) (fun _ h9 => by cases h9) dX9_tells_250
            refine lv_iload hx hb dX9_tells_231 (lv_at hl 0 rfl) ?_
            refine lv_if_eq (tgt := 248) hx hb dX9_tells_233 (by decide) (fun c_161 => ?_) (fun c_161 => absurd (by decide) c_161)
            refine lv_iconst (v := 0) hx hb dX9_tells_248 (by decide) ?_
            refine lv_iadd hx hb dX9_tells_249 ?_
            refine tp_i (y := 0) (by decide) ?_
            exact W.iret (v := 0) hx hb hr (fun t ht hW => ⟨0, rfl, trivial, ht⟩) (fun _ h9 => by cases h9) dX9_tells_250
          refine lv_iload hx hb dX9_tells_207 (lv_at hl 1 rfl) ?_
          refine lv_if_eq (tgt := 224) hx hb dX9_tells_209 (by decide) (fun c_162 => absurd c_162 (by decide)) (fun c_162 => ?_)
          refine lv_goto (tgt := 220) hx hb dX9_tells_212 (by decide) ?_
          refine lv_iconst (v := 2) hx hb dX9_tells_220 (by decide) ?_
          refine lv_goto (tgt := 225) hx hb dX9_tells_221 (by decide) ?_
          refine lv_iload_n hx hb dX9_tells_225 rfl (lv_at hl 6 rfl) ?_
          refine lv_bipush (v := 9) hx hb dX9_tells_226 (by decide) ?_
          refine lv_icmp_ne (tgt := 239) hx hb dX9_tells_228 (by decide) (fun c_163 => ?_) (fun c_163 => ?_)
          · refine lv_iload hx hb dX9_tells_239 (lv_at hl 1 rfl) ?_
            refine lv_if_eq (tgt := 248) hx hb dX9_tells_241 (by decide) (fun c_164 => absurd c_164 (by decide)) (fun c_164 => ?_)
            refine lv_iconst (v := 1) hx hb dX9_tells_244 (by decide) ?_
            refine lv_goto (tgt := 249) hx hb dX9_tells_245 (by decide) ?_
            refine lv_iadd hx hb dX9_tells_249 ?_
            refine tp_i (y := 3) (by decide) ?_
            exact W.iret (v := 3) hx hb hr (fun t ht hW => ⟨3, rfl, trivial, ht⟩) (fun _ h9 => by cases h9) dX9_tells_250
          refine lv_iload hx hb dX9_tells_231 (lv_at hl 0 rfl) ?_
          refine lv_if_eq (tgt := 248) hx hb dX9_tells_233 (by decide) (fun c_165 => ?_) (fun c_165 => absurd (by decide) c_165)
          refine lv_iconst (v := 0) hx hb dX9_tells_248 (by decide) ?_
          refine lv_iadd hx hb dX9_tells_249 ?_
          refine tp_i (y := 2) (by decide) ?_
          exact W.iret (v := 2) hx hb hr (fun t ht hW => ⟨2, rfl, trivial, ht⟩) (fun _ h9 => by cases h9) dX9_tells_250
        refine lv_iconst (v := 1) hx hb dX9_tells_194 (by decide) ?_
        refine lv_goto (tgt := 199) hx hb dX9_tells_195 (by decide) ?_
        refine lv_istore (lv' := [(8, .int 1), (7, .int 1), (5, .long (a4.toInt64 * r_1.toInt64)), (0, .ref h0), (1, .int (nI t)), (2, .int (nI q)), (3, .int a3), (4, .int a4)]) hx hb dX9_tells_199 hl (by decide) rfl (fun ls hl => ?_)
        refine lv_iload_n hx hb dX9_tells_201 rfl (lv_at hl 6 rfl) ?_
        refine lv_bipush (v := 9) hx hb dX9_tells_202 (by decide) ?_
        refine lv_icmp_ne (tgt := 215) hx hb dX9_tells_204 (by decide) (fun c_166 => ?_) (fun c_166 => ?_)
        · refine lv_iload hx hb dX9_tells_215 (lv_at hl 0 rfl) ?_
          refine lv_if_eq (tgt := 224) hx hb dX9_tells_217 (by decide) (fun c_167 => absurd c_167 (by decide)) (fun c_167 => ?_)
          refine lv_iconst (v := 2) hx hb dX9_tells_220 (by decide) ?_
          refine lv_goto (tgt := 225) hx hb dX9_tells_221 (by decide) ?_
          refine lv_iload_n hx hb dX9_tells_225 rfl (lv_at hl 6 rfl) ?_
          refine lv_bipush (v := 9) hx hb dX9_tells_226 (by decide) ?_
          refine lv_icmp_ne (tgt := 239) hx hb dX9_tells_228 (by decide) (fun c_168 => ?_) (fun c_168 => ?_)
          · refine lv_iload hx hb dX9_tells_239 (lv_at hl 1 rfl) ?_
            refine lv_if_eq (tgt := 248) hx hb dX9_tells_241 (by decide) (fun c_169 => absurd c_169 (by decide)) (fun c_169 => ?_)
            refine lv_iconst (v := 1) hx hb dX9_tells_244 (by decide) ?_
            refine lv_goto (tgt := 249) hx hb dX9_tells_245 (by decide) ?_
            refine lv_iadd hx hb dX9_tells_249 ?_
            refine tp_i (y := 3) (by decide) ?_
            exact W.iret (v := 3) hx hb hr (fun t ht hW => ⟨3, rfl, trivial, ht⟩) (fun _ h9 => by cases h9) dX9_tells_250
          refine lv_iload hx hb dX9_tells_231 (lv_at hl 0 rfl) ?_
          refine lv_if_eq (tgt := 248) hx hb dX9_tells_233 (by decide) (fun c_170 => absurd c_170 (by decide)) (fun c_170 => ?_)
          refine lv_goto (tgt := 244) hx hb dX9_tells_236 (by decide) ?_
          refine lv_iconst (v := 1) hx hb dX9_tells_244 (by decide) ?_
          refine lv_goto (tgt := 249) hx hb dX9_tells_245 (by decide) ?_
          refine lv_iadd hx hb dX9_tells_249 ?_
          refine tp_i (y := 3) (by decide) ?_
          exact W.iret (v := 3) hx hb hr (fun t ht hW => ⟨3, rfl, trivial, ht⟩) (fun _ h9 => by cases h9) dX9_tells_250
        refine lv_iload hx hb dX9_tells_207 (lv_at hl 1 rfl) ?_
        refine lv_if_eq (tgt := 224) hx hb dX9_tells_209 (by decide) (fun c_171 => absurd c_171 (by decide)) (fun c_171 => ?_)
        refine lv_goto (tgt := 220) hx hb dX9_tells_212 (by decide) ?_
        refine lv_iconst (v := 2) hx hb dX9_tells_220 (by decide) ?_
        refine lv_goto (tgt := 225) hx hb dX9_tells_221 (by decide) ?_
        refine lv_iload_n hx hb dX9_tells_225 rfl (lv_at hl 6 rfl) ?_
        refine lv_bipush (v := 9) hx hb dX9_tells_226 (by decide) ?_
        refine lv_icmp_ne (tgt := 239) hx hb dX9_tells_228 (by decide) (fun c_172 => ?_) (fun c_172 => ?_)
        · refine lv_iload hx hb dX9_tells_239 (lv_at hl 1 rfl) ?_
          refine lv_if_eq (tgt := 248) hx hb dX9_tells_241 (by decide) (fun c_173 => absurd c_173 (by decide)) (fun c_173 => ?_)
          refine lv_iconst (v := 1) hx hb dX9_tells_244 (by decide) ?_
          refine lv_goto (tgt := 249) hx hb dX9_tells_245 (by decide) ?_
          refine lv_iadd hx hb dX9_tells_249 ?_
          refine tp_i (y := 3) (by decide) ?_
          exact W.iret (v := 3) hx hb hr (fun t ht hW => ⟨3, rfl, trivial, ht⟩) (fun _ h9 => by cases h9) dX9_tells_250
        refine lv_iload hx hb dX9_tells_231 (lv_at hl 0 rfl) ?_
        refine lv_if_eq (tgt := 248) hx hb dX9_tells_233 (by decide) (fun c_174 => absurd c_174 (by decide)) (fun c_174 => ?_)
        refine lv_goto (tgt := 244) hx hb dX9_tells_236 (by decide) ?_
        refine lv_iconst (v := 1) hx hb dX9_tells_244 (by decide) ?_
        refine lv_goto (tgt := 249) hx hb dX9_tells_245 (by decide) ?_
        refine lv_iadd hx hb dX9_tells_249 ?_
        refine tp_i (y := 3) (by decide) ?_
        exact W.iret (v := 3) hx hb hr (fun t ht hW => ⟨3, rfl, trivial, ht⟩) (fun _ h9 => by cases h9) dX9_tells_250
      refine lv_aload_n hx hb dX9_tells_156 rfl (lv_at hl 2 rfl) ?_
      refine lv_iload_n hx hb dX9_tells_157 rfl (lv_at hl 3 rfl) ?_
      refine lv_iload_n hx hb dX9_tells_158 rfl (lv_at hl 4 rfl) ?_
      refine lv_bipush (v := 10) hx hb dX9_tells_159 (by decide) ?_
      refine lv_iadd hx hb dX9_tells_161 ?_
      refine tp_i (y := nI (q + 10)) (nI_add q 10) ?_
      refine vp_callSl (W.runV (As := [.int (nI t), .int (nI (q + 10))]) (rest := []) ⟨hx, hb, hml, hown, hts⟩ (m_sum l D h0 ad cs iv fv gv n3 t (q + 10) h3 (by omega) (by omega) (by omega)) (cwV 2 hts gX9_tells_X9_sum rfl rfl rfl (by decide +kernel) ⟨Nat.le_of_ble_eq_true rfl, Nat.le_of_ble_eq_true rfl⟩) ⟨fun a U g mk q => ⟨q.1, q.2.1, va_K.moved (u := U) (U := U.calling g mk a) (Vm.Alike.refl U.vm) q.2.2⟩, va_recv hK hP (ci := 9) (q0 := 0) rfl rfl, fun U hU hW => ⟨rfl, by rw [hU]; exact hP, va_K.moved hW.alike hK⟩⟩ rfl rfl hl.1 rfl (lv_room (Nat.le_of_ble_eq_true rfl)) dX9_tells_162 ⟨Nat.le_of_ble_eq_true rfl, Nat.le_of_ble_eq_true rfl⟩) (fun r_175 k_176 => ?_)
      refine lv_lload hx hb dX9_tells_165 (lv_at hl 1 rfl) ?_
      refine W.lcmp hx hb dX9_tells_167 ?_
      refine lv_if_lt (tgt := 175) hx hb dX9_tells_168 (by decide) (fun c_177 => ?_) (fun c_177 => ?_)
      · refine lv_iconst (v := 0) hx hb dX9_tells_175 (by decide) ?_
        refine lv_goto (tgt := 199) hx hb dX9_tells_176 (by decide) ?_
        refine lv_istore (lv' := [(8, .int 0), (7, .int 1), (5, .long (a4.toInt64 * r_1.toInt64)), (0, .ref h0), (1, .int (nI t)), (2, .int (nI q)), (3, .int a3), (4, .int a4)]) hx hb dX9_tells_199 hl (by decide) rfl (fun ls hl => ?_)
        refine lv_iload_n hx hb dX9_tells_201 rfl (lv_at hl 6 rfl) ?_
        refine lv_bipush (v := 9) hx hb dX9_tells_202 (by decide) ?_
        refine lv_icmp_ne (tgt := 215) hx hb dX9_tells_204 (by decide) (fun c_178 => ?_) (fun c_178 => ?_)
        · refine lv_iload hx hb dX9_tells_215 (lv_at hl 0 rfl) ?_
          refine lv_if_eq (tgt := 224) hx hb dX9_tells_217 (by decide) (fun c_179 => ?_) (fun c_179 => absurd (by decide) c_179)
          refine lv_iconst (v := 0) hx hb dX9_tells_224 (by decide) ?_
          refine lv_iload_n hx hb dX9_tells_225 rfl (lv_at hl 6 rfl) ?_
          refine lv_bipush (v := 9) hx hb dX9_tells_226 (by decide) ?_
          refine lv_icmp_ne (tgt := 239) hx hb dX9_tells_228 (by decide) (fun c_180 => ?_) (fun c_180 => ?_)
          · refine lv_iload hx hb dX9_tells_239 (lv_at hl 1 rfl) ?_
            refine lv_if_eq (tgt := 248) hx hb dX9_tells_241 (by decide) (fun c_181 => absurd c_181 (by decide)) (fun c_181 => ?_)
            refine lv_iconst (v := 1) hx hb dX9_tells_244 (by decide) ?_
            refine lv_goto (tgt := 249) hx hb dX9_tells_245 (by decide) ?_
            refine lv_iadd hx hb dX9_tells_249 ?_
            refine tp_i (y := 1) (by decide) ?_
            exact W.iret (v := 1) hx hb hr (fun t ht hW => ⟨1, rfl, trivial, ht⟩) (fun _ h9 => by cases h9) dX9_tells_250
          refine lv_iload hx hb dX9_tells_231 (lv_at hl 0 rfl) ?_
          refine lv_if_eq (tgt := 248) hx hb dX9_tells_233 (by decide) (fun c_182 => ?_) (fun c_182 => absurd (by decide) c_182)
          refine lv_iconst (v := 0) hx hb dX9_tells_248 (by decide) ?_
          refine lv_iadd hx hb dX9_tells_249 ?_
          refine tp_i (y := 0) (by decide) ?_
          exact W.iret (v := 0) hx hb hr (fun t ht hW => ⟨0, rfl, trivial, ht⟩) (fun _ h9 => by cases h9) dX9_tells_250
        refine lv_iload hx hb dX9_tells_207 (lv_at hl 1 rfl) ?_
        refine lv_if_eq (tgt := 224) hx hb dX9_tells_209 (by decide) (fun c_183 => absurd c_183 (by decide)) (fun c_183 => ?_)
        refine lv_goto (tgt := 220) hx hb dX9_tells_212 (by decide) ?_
        refine lv_iconst (v := 2) hx hb dX9_tells_220 (by decide) ?_
        refine lv_goto (tgt := 225) hx hb dX9_tells_221 (by decide) ?_
        refine lv_iload_n hx hb dX9_tells_225 rfl (lv_at hl 6 rfl) ?_
        refine lv_bipush (v := 9) hx hb dX9_tells_226 (by decide) ?_
        refine lv_icmp_ne (tgt := 239) hx hb dX9_tells_228 (by decide) (fun c_184 => ?_) (fun c_184 => ?_)
        · refine lv_iload hx hb dX9_tells_239 (lv_at hl 1 rfl) ?_
          refine lv_if_eq (tgt := 248) hx hb dX9_tells_241 (by decide) (fun c_185 => absurd c_185 (by decide)) (fun c_185 => ?_)
          refine lv_iconst (v := 1) hx hb dX9_tells_244 (by decide) ?_
          refine lv_goto (tgt := 249) hx hb dX9_tells_245 (by decide) ?_
          refine lv_iadd hx hb dX9_tells_249 ?_
          refine tp_i (y := 3) (by decide) ?_
          exact W.iret (v := 3) hx hb hr (fun t ht hW => ⟨3, rfl, trivial, ht⟩) (fun _ h9 => by cases h9) dX9_tells_250
        refine lv_iload hx hb dX9_tells_231 (lv_at hl 0 rfl) ?_
        refine lv_if_eq (tgt := 248) hx hb dX9_tells_233 (by decide) (fun c_186 => ?_) (fun c_186 => absurd (by decide) c_186)
        refine lv_iconst (v := 0) hx hb dX9_tells_248 (by decide) ?_
        refine lv_iadd hx hb dX9_tells_249 ?_
        refine tp_i (y := 2) (by decide) ?_
        exact W.iret (v := 2) hx hb hr (fun t ht hW => ⟨2, rfl, trivial, ht⟩) (fun _ h9 => by cases h9) dX9_tells_250
      refine lv_iconst (v := 1) hx hb dX9_tells_171 (by decide) ?_
      refine lv_goto (tgt := 199) hx hb dX9_tells_172 (by decide) ?_
      refine lv_istore (lv' := [(8, .int 1), (7, .int 1), (5, .long (a4.toInt64 * r_1.toInt64)), (0, .ref h0), (1, .int (nI t)), (2, .int (nI q)), (3, .int a3), (4, .int a4)]) hx hb dX9_tells_199 hl (by decide) rfl (fun ls hl => ?_)
      refine lv_iload_n hx hb dX9_tells_201 rfl (lv_at hl 6 rfl) ?_
      refine lv_bipush (v := 9) hx hb dX9_tells_202 (by decide) ?_
      refine lv_icmp_ne (tgt := 215) hx hb dX9_tells_204 (by decide) (fun c_187 => ?_) (fun c_187 => ?_)
      · refine lv_iload hx hb dX9_tells_215 (lv_at hl 0 rfl) ?_
        refine lv_if_eq (tgt := 224) hx hb dX9_tells_217 (by decide) (fun c_188 => absurd c_188 (by decide)) (fun c_188 => ?_)
        refine lv_iconst (v := 2) hx hb dX9_tells_220 (by decide) ?_
        refine lv_goto (tgt := 225) hx hb dX9_tells_221 (by decide) ?_
        refine lv_iload_n hx hb dX9_tells_225 rfl (lv_at hl 6 rfl) ?_
        refine lv_bipush (v := 9) hx hb dX9_tells_226 (by decide) ?_
        refine lv_icmp_ne (tgt := 239) hx hb dX9_tells_228 (by decide) (fun c_189 => ?_) (fun c_189 => ?_)
        · refine lv_iload hx hb dX9_tells_239 (lv_at hl 1 rfl) ?_
          refine lv_if_eq (tgt := 248) hx hb dX9_tells_241 (by decide) (fun c_190 => absurd c_190 (by decide)) (fun c_190 => ?_)
          refine lv_iconst (v := 1) hx hb dX9_tells_244 (by decide) ?_
          refine lv_goto (tgt := 249) hx hb dX9_tells_245 (by decide) ?_
          refine lv_iadd hx hb dX9_tells_249 ?_
          refine tp_i (y := 3) (by decide) ?_
          exact W.iret (v := 3) hx hb hr (fun t ht hW => ⟨3, rfl, trivial, ht⟩) (fun _ h9 => by cases h9) dX9_tells_250
        refine lv_iload hx hb dX9_tells_231 (lv_at hl 0 rfl) ?_
        refine lv_if_eq (tgt := 248) hx hb dX9_tells_233 (by decide) (fun c_191 => absurd c_191 (by decide)) (fun c_191 => ?_)
        refine lv_goto (tgt := 244) hx hb dX9_tells_236 (by decide) ?_
        refine lv_iconst (v := 1) hx hb dX9_tells_244 (by decide) ?_
        refine lv_goto (tgt := 249) hx hb dX9_tells_245 (by decide) ?_
        refine lv_iadd hx hb dX9_tells_249 ?_
        refine tp_i (y := 3) (by decide) ?_
        exact W.iret (v := 3) hx hb hr (fun t ht hW => ⟨3, rfl, trivial, ht⟩) (fun _ h9 => by cases h9) dX9_tells_250
      refine lv_iload hx hb dX9_tells_207 (lv_at hl 1 rfl) ?_
      refine lv_if_eq (tgt := 224) hx hb dX9_tells_209 (by decide) (fun c_192 => absurd c_192 (by decide)) (fun c_192 => ?_)
      refine lv_goto (tgt := 220) hx hb dX9_tells_212 (by decide) ?_
      refine lv_iconst (v := 2) hx hb dX9_tells_220 (by decide) ?_
      refine lv_goto (tgt := 225) hx hb dX9_tells_221 (by decide) ?_
      refine lv_iload_n hx hb dX9_tells_225 rfl (lv_at hl 6 rfl) ?_
      refine lv_bipush (v := 9) hx hb dX9_tells_226 (by decide) ?_
      refine lv_icmp_ne (tgt := 239) hx hb dX9_tells_228 (by decide) (fun c_193 => ?_) (fun c_193 => ?_)
      · refine lv_iload hx hb dX9_tells_239 (lv_at hl 1 rfl) ?_
        refine lv_if_eq (tgt := 248) hx hb dX9_tells_241 (by decide) (fun c_194 => absurd c_194 (by decide)) (fun c_194 => ?_)
        refine lv_iconst (v := 1) hx hb dX9_tells_244 (by decide) ?_
        refine lv_goto (tgt := 249) hx hb dX9_tells_245 (by decide) ?_
        refine lv_iadd hx hb dX9_tells_249 ?_
        refine tp_i (y := 3) (by decide) ?_
        exact W.iret (v := 3) hx hb hr (fun t ht hW => ⟨3, rfl, trivial, ht⟩) (fun _ h9 => by cases h9) dX9_tells_250
      refine lv_iload hx hb dX9_tells_231 (lv_at hl 0 rfl) ?_
      refine lv_if_eq (tgt := 248) hx hb dX9_tells_233 (by decide) (fun c_195 => absurd c_195 (by decide)) (fun c_195 => ?_)
      refine lv_goto (tgt := 244) hx hb dX9_tells_236 (by decide) ?_
      refine lv_iconst (v := 1) hx hb dX9_tells_244 (by decide) ?_
      refine lv_goto (tgt := 249) hx hb dX9_tells_245 (by decide) ?_
      refine lv_iadd hx hb dX9_tells_249 ?_
      refine tp_i (y := 3) (by decide) ?_
      exact W.iret (v := 3) hx hb hr (fun t ht hW => ⟨3, rfl, trivial, ht⟩) (fun _ h9 => by cases h9) dX9_tells_250
    have d_196 := n_nlt (a := q) (b := 30) (by omega) (by omega) c_15
    refine lv_iload_n hx hb dX9_tells_66 rfl (lv_at hl 4 rfl) ?_
    refine lv_bipush (v := 9) hx hb dX9_tells_67 (by decide) ?_
    refine lv_icmp_ne (tgt := 87) hx hb dX9_tells_69 (by decide) (fun c_197 => ?_) (fun c_197 => ?_)
    · refine lv_aload_n hx hb dX9_tells_87 rfl (lv_at hl 1 rfl) ?_
      refine lv_iload_n hx hb dX9_tells_88 rfl (lv_at hl 2 rfl) ?_
      refine lv_iload_n hx hb dX9_tells_89 rfl (lv_at hl 3 rfl) ?_
      refine vp_callSl (W.runV (As := [.int (nI t), .int (nI q)]) (rest := []) ⟨hx, hb, hml, hown, hts⟩ (m_sum l D h0 ad cs iv fv gv n3 t q h3 (by omega) (by omega) (by omega)) (cwV 2 hts gX9_tells_X9_sum rfl rfl rfl (by decide +kernel) ⟨Nat.le_of_ble_eq_true rfl, Nat.le_of_ble_eq_true rfl⟩) ⟨fun a U g mk q => ⟨q.1, q.2.1, va_K.moved (u := U) (U := U.calling g mk a) (Vm.Alike.refl U.vm) q.2.2⟩, va_recv hK hP (ci := 9) (q0 := 0) rfl rfl, fun U hU hW => ⟨rfl, by rw [hU]; exact hP, va_K.moved hW.alike hK⟩⟩ rfl rfl hl.1 rfl (lv_room (Nat.le_of_ble_eq_true rfl)) dX9_tells_90 ⟨Nat.le_of_ble_eq_true rfl, Nat.le_of_ble_eq_true rfl⟩) (fun r_198 k_199 => ?_)
      refine lv_lload hx hb dX9_tells_93 (lv_at hl 0 rfl) ?_
      refine W.lcmp hx hb dX9_tells_95 ?_
      refine lv_if_gt (tgt := 103) hx hb dX9_tells_96 (by decide) (fun c_200 => ?_) (fun c_200 => ?_)
      · refine lv_iconst (v := 0) hx hb dX9_tells_103 (by decide) ?_
        exact W.iret (v := 0) hx hb hr (fun t ht hW => ⟨0, rfl, trivial, ht⟩) (fun _ h9 => by cases h9) dX9_tells_104
      refine lv_iconst (v := 3) hx hb dX9_tells_99 (by decide) ?_
      refine lv_goto (tgt := 104) hx hb dX9_tells_100 (by decide) ?_
      exact W.iret (v := 3) hx hb hr (fun t ht hW => ⟨3, rfl, trivial, ht⟩) (fun _ h9 => by cases h9) dX9_tells_104
    refine lv_aload_n hx hb dX9_tells_72 rfl (lv_at hl 1 rfl) ?_
    refine lv_iload_n hx hb dX9_tells_73 rfl (lv_at hl 2 rfl) ?_
    refine lv_iload_n hx hb dX9_tells_74 rfl (lv_at hl 3 rfl) ?_
    refine vp_callSl (W.runV (As := [.int (nI t), .int (nI q)]) (rest := []) ⟨hx, hb, hml, hown, hts⟩ (m_sum l D h0 ad cs iv fv gv n3 t q h3 (by omega) (by omega) (by omega)) (cwV 2 hts gX9_tells_X9_sum rfl rfl rfl (by decide +kernel) ⟨Nat.le_of_ble_eq_true rfl, Nat.le_of_ble_eq_true rfl⟩) ⟨fun a U g mk q => ⟨q.1, q.2.1, va_K.moved (u := U) (U := U.calling g mk a) (Vm.Alike.refl U.vm) q.2.2⟩, va_recv hK hP (ci := 9) (q0 := 0) rfl rfl, fun U hU hW => ⟨rfl, by rw [hU]; exact hP, va_K.moved hW.alike hK⟩⟩ rfl rfl hl.1 rfl (lv_room (Nat.le_of_ble_eq_true rfl)) dX9_tells_75 ⟨Nat.le_of_ble_eq_true rfl, Nat.le_of_ble_eq_true rfl⟩) (fun r_201 k_202 => ?_)
    refine lv_lload hx hb dX9_tells_78 (lv_at hl 0 rfl) ?_
    refine W.lcmp hx hb dX9_tells_80 ?_
    refine lv_if_lt (tgt := 103) hx hb dX9_tells_81 (by decide) (fun c_203 => ?_) (fun c_203 => ?_)
    · refine lv_iconst (v := 0) hx hb dX9_tells_103 (by decide) ?_
      exact W.iret (v := 0) hx hb hr (fun t ht hW => ⟨0, rfl, trivial, ht⟩) (fun _ h9 => by cases h9) dX9_tells_104
    refine lv_goto (tgt := 99) hx hb dX9_tells_84 (by decide) ?_
    refine lv_iconst (v := 3) hx hb dX9_tells_99 (by decide) ?_
    refine lv_goto (tgt := 104) hx hb dX9_tells_100 (by decide) ?_
    exact W.iret (v := 3) hx hb hr (fun t ht hW => ⟨3, rfl, trivial, ht⟩) (fun _ h9 => by cases h9) dX9_tells_104
  have d_204 := n_eq (a := q) (b := 2) (by omega) (by omega) c_3
  refine lv_iload_n hx hb dX9_tells_17 rfl (lv_at hl 4 rfl) ?_
  refine lv_bipush (v := 9) hx hb dX9_tells_18 (by decide) ?_
  refine lv_icmp_ne (tgt := 37) hx hb dX9_tells_20 (by decide) (fun c_205 => ?_) (fun c_205 => ?_)
  · refine lv_aload_n hx hb dX9_tells_37 rfl (lv_at hl 1 rfl) ?_
    refine va_get (D := D) (ci := 9) (v := .ref (ad 10)) (C := RX9) (T := TX9) (N := 44) hx hb hts hin9 hown hK hP 0 rfl rfl 10 (by decide) (hts (.fieldLink RX9 41 "HoneyHouseModel" "heat" "[I") (List.mem_of_getElem? (i := 1) rfl)) (fun _ h9 => h9) rfl dX9_tells_38 ?_
    refine lv_iload_n hx hb dX9_tells_41 rfl (lv_at hl 2 rfl) ?_
    refine va_iald (f := fv 10) (n := 70) hx hb hK hP 8 7 rfl rfl (vp_in_nI (n := t) (by omega) (by omega)) dX9_tells_42 ?_
    refine lv_topi (fun z_206 hz_207 => ?_)
    refine lv_iload hx hb dX9_tells_43 (lv_at hl 5 rfl) ?_
    refine lv_icmp_gt (tgt := 52) hx hb dX9_tells_45 (by decide) (fun c_208 => ?_) (fun c_208 => ?_)
    · refine lv_iconst (v := 0) hx hb dX9_tells_52 (by decide) ?_
      exact W.iret (v := 0) hx hb hr (fun t ht hW => ⟨0, rfl, trivial, ht⟩) (fun _ h9 => by cases h9) dX9_tells_53
    refine lv_iconst (v := 3) hx hb dX9_tells_48 (by decide) ?_
    refine lv_goto (tgt := 53) hx hb dX9_tells_49 (by decide) ?_
    exact W.iret (v := 3) hx hb hr (fun t ht hW => ⟨3, rfl, trivial, ht⟩) (fun _ h9 => by cases h9) dX9_tells_53
  refine lv_aload_n hx hb dX9_tells_23 rfl (lv_at hl 1 rfl) ?_
  refine va_get (D := D) (ci := 9) (v := .ref (ad 10)) (C := RX9) (T := TX9) (N := 44) hx hb hts hin9 hown hK hP 0 rfl rfl 10 (by decide) (hts (.fieldLink RX9 41 "HoneyHouseModel" "heat" "[I") (List.mem_of_getElem? (i := 1) rfl)) (fun _ h9 => h9) rfl dX9_tells_24 ?_
  refine lv_iload_n hx hb dX9_tells_27 rfl (lv_at hl 2 rfl) ?_
  refine va_iald (f := fv 10) (n := 70) hx hb hK hP 8 7 rfl rfl (vp_in_nI (n := t) (by omega) (by omega)) dX9_tells_28 ?_
  refine lv_topi (fun z_209 hz_210 => ?_)
  refine lv_iload hx hb dX9_tells_29 (lv_at hl 5 rfl) ?_
  refine lv_icmp_lt (tgt := 52) hx hb dX9_tells_31 (by decide) (fun c_211 => ?_) (fun c_211 => ?_)
  · refine lv_iconst (v := 0) hx hb dX9_tells_52 (by decide) ?_
    exact W.iret (v := 0) hx hb hr (fun t ht hW => ⟨0, rfl, trivial, ht⟩) (fun _ h9 => by cases h9) dX9_tells_53
  refine lv_goto (tgt := 48) hx hb dX9_tells_34 (by decide) ?_
  refine lv_iconst (v := 3) hx hb dX9_tells_48 (by decide) ?_
  refine lv_goto (tgt := 53) hx hb dX9_tells_49 (by decide) ?_
  exact W.iret (v := 3) hx hb hr (fun t ht hW => ⟨3, rfl, trivial, ht⟩) (fun _ h9 => by cases h9) dX9_tells_53
