theorem dX8_paid_0 : decode cX8_paid 0 = .ok (.iload_n 1, 1) := by decide +kernel
theorem dX8_paid_1 : decode cX8_paid 1 = .ok (.iconst 0, 1) := by decide +kernel
theorem dX8_paid_2 : decode cX8_paid 2 = .ok (.bipush 9, 2) := by decide +kernel
theorem dX8_paid_4 : decode cX8_paid 4 = .ok (.invokestatic 85, 3) := by decide +kernel
theorem dX8_paid_7 : decode cX8_paid 7 = .ok (.ifCond .ne 7, 3) := by decide +kernel
theorem dX8_paid_10 : decode cX8_paid 10 = .ok (.ldc2_w 246, 3) := by decide +kernel
theorem dX8_paid_13 : decode cX8_paid 13 = .ok (.lreturn, 1) := by decide +kernel
theorem dX8_paid_14 : decode cX8_paid 14 = .ok (.lconst 0, 1) := by decide +kernel
theorem dX8_paid_15 : decode cX8_paid 15 = .ok (.lstore_n 2, 1) := by decide +kernel
theorem dX8_paid_16 : decode cX8_paid 16 = .ok (.iconst 0, 1) := by decide +kernel
theorem dX8_paid_17 : decode cX8_paid 17 = .ok (.istore 4, 2) := by decide +kernel
theorem dX8_paid_19 : decode cX8_paid 19 = .ok (.iload 4, 2) := by decide +kernel
theorem dX8_paid_21 : decode cX8_paid 21 = .ok (.aload_n 0, 1) := by decide +kernel
theorem dX8_paid_22 : decode cX8_paid 22 = .ok (.getfield 11, 3) := by decide +kernel
theorem dX8_paid_25 : decode cX8_paid 25 = .ok (.arraylength, 1) := by decide +kernel
theorem dX8_paid_26 : decode cX8_paid 26 = .ok (.if_icmp .ge 41, 3) := by decide +kernel
theorem dX8_paid_29 : decode cX8_paid 29 = .ok (.aload_n 0, 1) := by decide +kernel
theorem dX8_paid_30 : decode cX8_paid 30 = .ok (.getfield 11, 3) := by decide +kernel
theorem dX8_paid_33 : decode cX8_paid 33 = .ok (.iload 4, 2) := by decide +kernel
theorem dX8_paid_35 : decode cX8_paid 35 = .ok (.aaload, 1) := by decide +kernel
theorem dX8_paid_36 : decode cX8_paid 36 = .ok (.astore 5, 2) := by decide +kernel
theorem dX8_paid_38 : decode cX8_paid 38 = .ok (.aload 5, 2) := by decide +kernel
theorem dX8_paid_40 : decode cX8_paid 40 = .ok (.ifnull 21, 3) := by decide +kernel
theorem dX8_paid_61 : decode cX8_paid 61 = .ok (.iinc 4 1, 3) := by decide +kernel
theorem dX8_paid_64 : decode cX8_paid 64 = .ok (.goto (-45), 3) := by decide +kernel
theorem dX8_paid_67 : decode cX8_paid 67 = .ok (.lload_n 2, 1) := by decide +kernel
theorem dX8_paid_68 : decode cX8_paid 68 = .ok (.lreturn, 1) := by decide +kernel
theorem dX8_whose_0 : decode cX8_whose 0 = .ok (.iload_n 1, 1) := by decide +kernel
theorem dX8_whose_1 : decode cX8_whose 1 = .ok (.iconst 0, 1) := by decide +kernel
theorem dX8_whose_2 : decode cX8_whose 2 = .ok (.bipush 9, 2) := by decide +kernel
theorem dX8_whose_4 : decode cX8_whose 4 = .ok (.invokestatic 85, 3) := by decide +kernel
theorem dX8_whose_7 : decode cX8_whose 7 = .ok (.ifCond .eq 12, 3) := by decide +kernel
theorem dX8_whose_10 : decode cX8_whose 10 = .ok (.iload_n 2, 1) := by decide +kernel
theorem dX8_whose_11 : decode cX8_whose 11 = .ok (.iconst 0, 1) := by decide +kernel
theorem dX8_whose_12 : decode cX8_whose 12 = .ok (.iconst 3, 1) := by decide +kernel
theorem dX8_whose_13 : decode cX8_whose 13 = .ok (.invokestatic 85, 3) := by decide +kernel
theorem dX8_whose_16 : decode cX8_whose 16 = .ok (.ifCond .ne 7, 3) := by decide +kernel
theorem dX8_whose_19 : decode cX8_whose 19 = .ok (.ldc2_w 246, 3) := by decide +kernel
theorem dX8_whose_22 : decode cX8_whose 22 = .ok (.lreturn, 1) := by decide +kernel
theorem dX8_whose_23 : decode cX8_whose 23 = .ok (.lconst 0, 1) := by decide +kernel
theorem dX8_whose_24 : decode cX8_whose 24 = .ok (.lstore_n 3, 1) := by decide +kernel
theorem dX8_whose_25 : decode cX8_whose 25 = .ok (.iconst 0, 1) := by decide +kernel
theorem dX8_whose_26 : decode cX8_whose 26 = .ok (.istore 5, 2) := by decide +kernel
theorem dX8_whose_28 : decode cX8_whose 28 = .ok (.iload 5, 2) := by decide +kernel
theorem dX8_whose_30 : decode cX8_whose 30 = .ok (.aload_n 0, 1) := by decide +kernel
theorem dX8_whose_31 : decode cX8_whose 31 = .ok (.getfield 11, 3) := by decide +kernel
theorem dX8_whose_34 : decode cX8_whose 34 = .ok (.arraylength, 1) := by decide +kernel
theorem dX8_whose_35 : decode cX8_whose 35 = .ok (.if_icmp .ge 45, 3) := by decide +kernel
theorem dX8_whose_38 : decode cX8_whose 38 = .ok (.aload_n 0, 1) := by decide +kernel
theorem dX8_whose_39 : decode cX8_whose 39 = .ok (.getfield 11, 3) := by decide +kernel
theorem dX8_whose_42 : decode cX8_whose 42 = .ok (.iload 5, 2) := by decide +kernel
theorem dX8_whose_44 : decode cX8_whose 44 = .ok (.aaload, 1) := by decide +kernel
theorem dX8_whose_45 : decode cX8_whose 45 = .ok (.astore 6, 2) := by decide +kernel
theorem dX8_whose_47 : decode cX8_whose 47 = .ok (.aload 6, 2) := by decide +kernel
theorem dX8_whose_49 : decode cX8_whose 49 = .ok (.ifnull 25, 3) := by decide +kernel
theorem dX8_whose_74 : decode cX8_whose 74 = .ok (.iinc 5 1, 3) := by decide +kernel
theorem dX8_whose_77 : decode cX8_whose 77 = .ok (.goto (-49), 3) := by decide +kernel
theorem dX8_whose_80 : decode cX8_whose 80 = .ok (.lload_n 3, 1) := by decide +kernel
theorem dX8_whose_81 : decode cX8_whose 81 = .ok (.lreturn, 1) := by decide +kernel
theorem dJ6_bitCount_0f7a4_0 : decode cJ6_bitCount_0f7a4 0 = .ok (.iload_n 0, 1) := by decide +kernel
theorem dJ6_bitCount_0f7a4_1 : decode cJ6_bitCount_0f7a4 1 = .ok (.iload_n 0, 1) := by decide +kernel
theorem dJ6_bitCount_0f7a4_2 : decode cJ6_bitCount_0f7a4 2 = .ok (.iconst 1, 1) := by decide +kernel
theorem dJ6_bitCount_0f7a4_3 : decode cJ6_bitCount_0f7a4 3 = .ok (.iushr, 1) := by decide +kernel
theorem dJ6_bitCount_0f7a4_4 : decode cJ6_bitCount_0f7a4 4 = .ok (.ldc_w 265, 3) := by decide +kernel
theorem dJ6_bitCount_0f7a4_7 : decode cJ6_bitCount_0f7a4 7 = .ok (.iand, 1) := by decide +kernel
theorem dJ6_bitCount_0f7a4_8 : decode cJ6_bitCount_0f7a4 8 = .ok (.isub, 1) := by decide +kernel
theorem dJ6_bitCount_0f7a4_9 : decode cJ6_bitCount_0f7a4 9 = .ok (.istore_n 0, 1) := by decide +kernel
theorem dJ6_bitCount_0f7a4_10 : decode cJ6_bitCount_0f7a4 10 = .ok (.iload_n 0, 1) := by decide +kernel
theorem dJ6_bitCount_0f7a4_11 : decode cJ6_bitCount_0f7a4 11 = .ok (.ldc_w 266, 3) := by decide +kernel
theorem dJ6_bitCount_0f7a4_14 : decode cJ6_bitCount_0f7a4 14 = .ok (.iand, 1) := by decide +kernel
theorem dJ6_bitCount_0f7a4_15 : decode cJ6_bitCount_0f7a4 15 = .ok (.iload_n 0, 1) := by decide +kernel
theorem dJ6_bitCount_0f7a4_16 : decode cJ6_bitCount_0f7a4 16 = .ok (.iconst 2, 1) := by decide +kernel
theorem dJ6_bitCount_0f7a4_17 : decode cJ6_bitCount_0f7a4 17 = .ok (.iushr, 1) := by decide +kernel
theorem dJ6_bitCount_0f7a4_18 : decode cJ6_bitCount_0f7a4 18 = .ok (.ldc_w 266, 3) := by decide +kernel
theorem dJ6_bitCount_0f7a4_21 : decode cJ6_bitCount_0f7a4 21 = .ok (.iand, 1) := by decide +kernel
theorem dJ6_bitCount_0f7a4_22 : decode cJ6_bitCount_0f7a4 22 = .ok (.iadd, 1) := by decide +kernel
theorem dJ6_bitCount_0f7a4_23 : decode cJ6_bitCount_0f7a4 23 = .ok (.istore_n 0, 1) := by decide +kernel
theorem dJ6_bitCount_0f7a4_24 : decode cJ6_bitCount_0f7a4 24 = .ok (.iload_n 0, 1) := by decide +kernel
theorem dJ6_bitCount_0f7a4_25 : decode cJ6_bitCount_0f7a4 25 = .ok (.iload_n 0, 1) := by decide +kernel
theorem dJ6_bitCount_0f7a4_26 : decode cJ6_bitCount_0f7a4 26 = .ok (.iconst 4, 1) := by decide +kernel
theorem dJ6_bitCount_0f7a4_27 : decode cJ6_bitCount_0f7a4 27 = .ok (.iushr, 1) := by decide +kernel
theorem dJ6_bitCount_0f7a4_28 : decode cJ6_bitCount_0f7a4 28 = .ok (.iadd, 1) := by decide +kernel
theorem dJ6_bitCount_0f7a4_29 : decode cJ6_bitCount_0f7a4 29 = .ok (.ldc_w 267, 3) := by decide +kernel
theorem dJ6_bitCount_0f7a4_32 : decode cJ6_bitCount_0f7a4 32 = .ok (.iand, 1) := by decide +kernel
theorem dJ6_bitCount_0f7a4_33 : decode cJ6_bitCount_0f7a4 33 = .ok (.istore_n 0, 1) := by decide +kernel
theorem dJ6_bitCount_0f7a4_34 : decode cJ6_bitCount_0f7a4 34 = .ok (.iload_n 0, 1) := by decide +kernel
theorem dJ6_bitCount_0f7a4_35 : decode cJ6_bitCount_0f7a4 35 = .ok (.iload_n 0, 1) := by decide +kernel
theorem dJ6_bitCount_0f7a4_36 : decode cJ6_bitCount_0f7a4 36 = .ok (.bipush 8, 2) := by decide +kernel
theorem dJ6_bitCount_0f7a4_38 : decode cJ6_bitCount_0f7a4 38 = .ok (.iushr, 1) := by decide +kernel
theorem dJ6_bitCount_0f7a4_39 : decode cJ6_bitCount_0f7a4 39 = .ok (.iadd, 1) := by decide +kernel
theorem dJ6_bitCount_0f7a4_40 : decode cJ6_bitCount_0f7a4 40 = .ok (.istore_n 0, 1) := by decide +kernel
theorem dJ6_bitCount_0f7a4_41 : decode cJ6_bitCount_0f7a4 41 = .ok (.iload_n 0, 1) := by decide +kernel
theorem dJ6_bitCount_0f7a4_42 : decode cJ6_bitCount_0f7a4 42 = .ok (.iload_n 0, 1) := by decide +kernel
theorem dJ6_bitCount_0f7a4_43 : decode cJ6_bitCount_0f7a4 43 = .ok (.bipush 16, 2) := by decide +kernel
theorem dJ6_bitCount_0f7a4_45 : decode cJ6_bitCount_0f7a4 45 = .ok (.iushr, 1) := by decide +kernel
theorem dJ6_bitCount_0f7a4_46 : decode cJ6_bitCount_0f7a4 46 = .ok (.iadd, 1) := by decide +kernel
theorem dJ6_bitCount_0f7a4_47 : decode cJ6_bitCount_0f7a4 47 = .ok (.istore_n 0, 1) := by decide +kernel
theorem dJ6_bitCount_0f7a4_48 : decode cJ6_bitCount_0f7a4 48 = .ok (.iload_n 0, 1) := by decide +kernel
theorem dJ6_bitCount_0f7a4_49 : decode cJ6_bitCount_0f7a4 49 = .ok (.bipush 63, 2) := by decide +kernel
theorem dJ6_bitCount_0f7a4_51 : decode cJ6_bitCount_0f7a4 51 = .ok (.iand, 1) := by decide +kernel
theorem dJ6_bitCount_0f7a4_52 : decode cJ6_bitCount_0f7a4 52 = .ok (.ireturn, 1) := by decide +kernel
theorem dX8_hasBit_0 : decode cX8_hasBit 0 = .ok (.iload_n 0, 1) := by decide +kernel
theorem dX8_hasBit_1 : decode cX8_hasBit 1 = .ok (.iload_n 1, 1) := by decide +kernel
theorem dX8_hasBit_2 : decode cX8_hasBit 2 = .ok (.ishr, 1) := by decide +kernel
theorem dX8_hasBit_3 : decode cX8_hasBit 3 = .ok (.iconst 1, 1) := by decide +kernel
theorem dX8_hasBit_4 : decode cX8_hasBit 4 = .ok (.iand, 1) := by decide +kernel
theorem dX8_hasBit_5 : decode cX8_hasBit 5 = .ok (.iconst 1, 1) := by decide +kernel
theorem dX8_hasBit_6 : decode cX8_hasBit 6 = .ok (.if_icmp .ne 7, 3) := by decide +kernel
theorem dX8_hasBit_9 : decode cX8_hasBit 9 = .ok (.iconst 1, 1) := by decide +kernel
theorem dX8_hasBit_10 : decode cX8_hasBit 10 = .ok (.goto 4, 3) := by decide +kernel
theorem dX8_hasBit_13 : decode cX8_hasBit 13 = .ok (.iconst 0, 1) := by decide +kernel
theorem dX8_hasBit_14 : decode cX8_hasBit 14 = .ok (.ireturn, 1) := by decide +kernel
theorem dX8_areTanksToBlend_0 : decode cX8_areTanksToBlend 0 = .ok (.iload_n 1, 1) := by decide +kernel
theorem dX8_areTanksToBlend_1 : decode cX8_areTanksToBlend 1 = .ok (.bipush 10, 2) := by decide +kernel
theorem dX8_areTanksToBlend_3 : decode cX8_areTanksToBlend 3 = .ok (.ishr, 1) := by decide +kernel
theorem dX8_areTanksToBlend_4 : decode cX8_areTanksToBlend 4 = .ok (.ifCond .ne 15, 3) := by decide +kernel
theorem dX8_areTanksToBlend_7 : decode cX8_areTanksToBlend 7 = .ok (.iload_n 1, 1) := by decide +kernel
theorem dX8_areTanksToBlend_8 : decode cX8_areTanksToBlend 8 = .ok (.invokestatic 310, 3) := by decide +kernel
theorem dX8_areTanksToBlend_11 : decode cX8_areTanksToBlend 11 = .ok (.iconst 1, 1) := by decide +kernel
theorem dX8_areTanksToBlend_12 : decode cX8_areTanksToBlend 12 = .ok (.iconst 4, 1) := by decide +kernel
theorem dX8_areTanksToBlend_13 : decode cX8_areTanksToBlend 13 = .ok (.invokestatic 85, 3) := by decide +kernel
theorem dX8_areTanksToBlend_16 : decode cX8_areTanksToBlend 16 = .ok (.ifCond .ne 5, 3) := by decide +kernel
theorem dX8_areTanksToBlend_19 : decode cX8_areTanksToBlend 19 = .ok (.iconst 0, 1) := by decide +kernel
theorem dX8_areTanksToBlend_20 : decode cX8_areTanksToBlend 20 = .ok (.ireturn, 1) := by decide +kernel
theorem dX8_areTanksToBlend_21 : decode cX8_areTanksToBlend 21 = .ok (.iconst 0, 1) := by decide +kernel
theorem dX8_areTanksToBlend_22 : decode cX8_areTanksToBlend 22 = .ok (.istore_n 2, 1) := by decide +kernel
theorem dX8_areTanksToBlend_23 : decode cX8_areTanksToBlend 23 = .ok (.iload_n 2, 1) := by decide +kernel
theorem dX8_areTanksToBlend_24 : decode cX8_areTanksToBlend 24 = .ok (.aload_n 0, 1) := by decide +kernel
theorem dX8_areTanksToBlend_25 : decode cX8_areTanksToBlend 25 = .ok (.getfield 17, 3) := by decide +kernel
theorem dX8_areTanksToBlend_28 : decode cX8_areTanksToBlend 28 = .ok (.arraylength, 1) := by decide +kernel
theorem dX8_areTanksToBlend_29 : decode cX8_areTanksToBlend 29 = .ok (.if_icmp .ge 40, 3) := by decide +kernel
theorem dX8_areTanksToBlend_32 : decode cX8_areTanksToBlend 32 = .ok (.iload_n 1, 1) := by decide +kernel
theorem dX8_areTanksToBlend_33 : decode cX8_areTanksToBlend 33 = .ok (.iload_n 2, 1) := by decide +kernel
theorem dX8_areTanksToBlend_34 : decode cX8_areTanksToBlend 34 = .ok (.invokestatic 255, 3) := by decide +kernel
theorem dX8_areTanksToBlend_37 : decode cX8_areTanksToBlend 37 = .ok (.ifCond .eq 26, 3) := by decide +kernel
theorem dX8_areTanksToBlend_40 : decode cX8_areTanksToBlend 40 = .ok (.aload_n 0, 1) := by decide +kernel
theorem dX8_areTanksToBlend_41 : decode cX8_areTanksToBlend 41 = .ok (.getfield 17, 3) := by decide +kernel
theorem dX8_areTanksToBlend_44 : decode cX8_areTanksToBlend 44 = .ok (.iload_n 2, 1) := by decide +kernel
theorem dX8_areTanksToBlend_45 : decode cX8_areTanksToBlend 45 = .ok (.aaload, 1) := by decide +kernel
theorem dX8_areTanksToBlend_46 : decode cX8_areTanksToBlend 46 = .ok (.ifnull 15, 3) := by decide +kernel
theorem dX8_areTanksToBlend_49 : decode cX8_areTanksToBlend 49 = .ok (.aload_n 0, 1) := by decide +kernel
theorem dX8_areTanksToBlend_50 : decode cX8_areTanksToBlend 50 = .ok (.getfield 17, 3) := by decide +kernel
theorem dX8_areTanksToBlend_53 : decode cX8_areTanksToBlend 53 = .ok (.iload_n 2, 1) := by decide +kernel
theorem dX8_areTanksToBlend_54 : decode cX8_areTanksToBlend 54 = .ok (.aaload, 1) := by decide +kernel
theorem dX8_areTanksToBlend_55 : decode cX8_areTanksToBlend 55 = .ok (.getfield 144, 3) := by decide +kernel
theorem dX8_areTanksToBlend_58 : decode cX8_areTanksToBlend 58 = .ok (.ifCond .ne 5, 3) := by decide +kernel
theorem dX8_areTanksToBlend_61 : decode cX8_areTanksToBlend 61 = .ok (.iconst 0, 1) := by decide +kernel
theorem dX8_areTanksToBlend_62 : decode cX8_areTanksToBlend 62 = .ok (.ireturn, 1) := by decide +kernel
theorem dX8_areTanksToBlend_63 : decode cX8_areTanksToBlend 63 = .ok (.iinc 2 1, 3) := by decide +kernel
theorem dX8_areTanksToBlend_66 : decode cX8_areTanksToBlend 66 = .ok (.goto (-43), 3) := by decide +kernel
theorem dX8_blend_0 : decode cX8_blend 0 = .ok (.iload_n 2, 1) := by decide +kernel
theorem dX8_blend_1 : decode cX8_blend 1 = .ok (.iconst 1, 1) := by decide +kernel
theorem dX8_blend_2 : decode cX8_blend 2 = .ok (.bipush 40, 2) := by decide +kernel
theorem dX8_blend_4 : decode cX8_blend 4 = .ok (.invokestatic 85, 3) := by decide +kernel
theorem dX8_blend_7 : decode cX8_blend 7 = .ok (.ifCond .eq 42, 3) := by decide +kernel
theorem dX8_blend_10 : decode cX8_blend 10 = .ok (.iload_n 3, 1) := by decide +kernel
theorem dX8_blend_11 : decode cX8_blend 11 = .ok (.iconst 0, 1) := by decide +kernel
theorem dX8_blend_12 : decode cX8_blend 12 = .ok (.sipush 300, 3) := by decide +kernel
theorem dX8_blend_15 : decode cX8_blend 15 = .ok (.invokestatic 85, 3) := by decide +kernel
theorem dX8_blend_18 : decode cX8_blend 18 = .ok (.ifCond .eq 31, 3) := by decide +kernel
theorem dX8_blend_21 : decode cX8_blend 21 = .ok (.iload 4, 2) := by decide +kernel
theorem dX8_blend_23 : decode cX8_blend 23 = .ok (.iconst 0, 1) := by decide +kernel
theorem dX8_blend_24 : decode cX8_blend 24 = .ok (.sipush 140, 3) := by decide +kernel
theorem dX8_blend_27 : decode cX8_blend 27 = .ok (.invokestatic 85, 3) := by decide +kernel
theorem dX8_blend_30 : decode cX8_blend 30 = .ok (.ifCond .eq 19, 3) := by decide +kernel
theorem dX8_blend_33 : decode cX8_blend 33 = .ok (.iload 5, 2) := by decide +kernel
theorem dX8_blend_35 : decode cX8_blend 35 = .ok (.iconst 0, 1) := by decide +kernel
theorem dX8_blend_36 : decode cX8_blend 36 = .ok (.sipush 140, 3) := by decide +kernel
theorem dX8_blend_39 : decode cX8_blend 39 = .ok (.invokestatic 85, 3) := by decide +kernel
theorem dX8_blend_42 : decode cX8_blend 42 = .ok (.ifCond .eq 7, 3) := by decide +kernel
theorem dX8_blend_45 : decode cX8_blend 45 = .ok (.iconst 1, 1) := by decide +kernel
theorem dX8_blend_46 : decode cX8_blend 46 = .ok (.goto 4, 3) := by decide +kernel
theorem dX8_blend_49 : decode cX8_blend 49 = .ok (.iconst 0, 1) := by decide +kernel
theorem dX8_blend_50 : decode cX8_blend 50 = .ok (.istore 6, 2) := by decide +kernel
theorem dX8_blend_52 : decode cX8_blend 52 = .ok (.iload 6, 2) := by decide +kernel
theorem dX8_blend_54 : decode cX8_blend 54 = .ok (.ifCond .eq 11, 3) := by decide +kernel
theorem dX8_blend_57 : decode cX8_blend 57 = .ok (.aload_n 0, 1) := by decide +kernel
theorem dX8_blend_58 : decode cX8_blend 58 = .ok (.iload_n 1, 1) := by decide +kernel
theorem dX8_blend_59 : decode cX8_blend 59 = .ok (.invokevirtual 248, 3) := by decide +kernel
theorem dX8_blend_62 : decode cX8_blend 62 = .ok (.ifCond .ne 5, 3) := by decide +kernel
theorem dX8_blend_65 : decode cX8_blend 65 = .ok (.iconst (-1), 1) := by decide +kernel
theorem dX8_blend_66 : decode cX8_blend 66 = .ok (.ireturn, 1) := by decide +kernel
set_option maxRecDepth 20000 in
theorem ggX8_paid_X8_isIn : GoodIn wsX8_paid wsX8_isIn := goodIn_r _ [8] (by decide +kernel) (by decide +kernel)
set_option maxRecDepth 20000 in
theorem gX8_paid_X8_isIn : GoodIn wsX8_paid (va_wsS RX8 85 yX8_isIn wsX8_isIn) := goodIn_app (goodIn_of _ (by decide +kernel)) ggX8_paid_X8_isIn
set_option maxRecDepth 20000 in
theorem ggX8_whose_X8_isIn : GoodIn wsX8_whose wsX8_isIn := goodIn_r _ [7] (by decide +kernel) (by decide +kernel)
set_option maxRecDepth 20000 in
theorem gX8_whose_X8_isIn : GoodIn wsX8_whose (va_wsS RX8 85 yX8_isIn wsX8_isIn) := goodIn_app (goodIn_of _ (by decide +kernel)) ggX8_whose_X8_isIn
set_option maxRecDepth 20000 in
theorem ggX8_areTanksToBlend_J6_bitCount_0f7a4 : GoodIn wsX8_areTanksToBlend wsJ6_bitCount_0f7a4 := goodIn_r _ [6, 7, 8, 9] (by decide +kernel) (by decide +kernel)
set_option maxRecDepth 20000 in
theorem gX8_areTanksToBlend_J6_bitCount_0f7a4 : GoodIn wsX8_areTanksToBlend (va_wsS RX8 310 yJ6_bitCount_0f7a4 wsJ6_bitCount_0f7a4) := goodIn_app (goodIn_of _ (by decide +kernel)) ggX8_areTanksToBlend_J6_bitCount_0f7a4
set_option maxRecDepth 20000 in
theorem ggX8_areTanksToBlend_X8_isIn : GoodIn wsX8_areTanksToBlend wsX8_isIn := goodIn_r _ [13] (by decide +kernel) (by decide +kernel)
set_option maxRecDepth 20000 in
theorem gX8_areTanksToBlend_X8_isIn : GoodIn wsX8_areTanksToBlend (va_wsS RX8 85 yX8_isIn wsX8_isIn) := goodIn_app (goodIn_of _ (by decide +kernel)) ggX8_areTanksToBlend_X8_isIn
set_option maxRecDepth 20000 in
theorem ggX8_areTanksToBlend_X8_hasBit : GoodIn wsX8_areTanksToBlend wsX8_hasBit := goodIn_r _ [16] (by decide +kernel) (by decide +kernel)
set_option maxRecDepth 20000 in
theorem gX8_areTanksToBlend_X8_hasBit : GoodIn wsX8_areTanksToBlend (va_wsS RX8 255 yX8_hasBit wsX8_hasBit) := goodIn_app (goodIn_of _ (by decide +kernel)) ggX8_areTanksToBlend_X8_hasBit
set_option maxRecDepth 20000 in
theorem ggX8_blend_X8_isIn : GoodIn wsX8_blend wsX8_isIn := goodIn_r _ [8] (by decide +kernel) (by decide +kernel)
set_option maxRecDepth 20000 in
theorem gX8_blend_X8_isIn : GoodIn wsX8_blend (va_wsS RX8 85 yX8_isIn wsX8_isIn) := goodIn_app (goodIn_of _ (by decide +kernel)) ggX8_blend_X8_isIn
set_option maxRecDepth 20000 in
theorem ggX8_blend_X8_areTanksToBlend : GoodIn wsX8_blend wsX8_areTanksToBlend := goodIn_r _ [12, 2, 3, 13, 14, 15, 16, 17, 18, 19, 5, 6, 7, 8, 20, 21, 22, 105, 106, 107, 108, 109, 110, 111, 112, 113, 114, 115, 116, 117, 118, 119, 120, 121, 122, 123, 124] (by decide +kernel) (by decide +kernel)
set_option maxRecDepth 20000 in
theorem gX8_blend_X8_areTanksToBlend : GoodIn wsX8_blend (wsV RX8 248 RX8 yX8_areTanksToBlend wsX8_areTanksToBlend) := goodIn_app (goodIn_of _ (by decide +kernel)) ggX8_blend_X8_areTanksToBlend
set_option maxHeartbeats 4000000 in
set_option maxRecDepth 100000 in
theorem s_X8_paid (l : Launch) (D : va_G) (ws : va_W) (tys : List (ClassId × FieldType)) (h0 : Nat) (X : XF ws tys h0) (a1 : Int32) : Met l yX8_paid wsX8_paid ({ frames := 1, cells := 0, slots := 0, locals := 22 }) (va_Pc [.ref h0, .int a1] (fun U => va_P D vwCl ws U.heap ∧ va_K D vwCl tys U)) (vp_Sl (fun r => r = if a1 < 0 ∨ 9 < a1 then (-1) else 0)) 0 0 (fun _ => False) := by
  refine Met.ofW (cc := cX8_paid) (maxL := 6) (ret := (some .long)) (by decide) rfl ?_
  intro p e s m args below meth c s₁ B hml hv
  obtain ⟨rfl, hP, hK⟩ := hv
  have hx := B.exec
  have hb := B.bytes
  have hr := B.returns
  have hts := atoms_spec (ws := wsX8_paid) B.pre
  have hown : s.vm.findClass RX8 = some m.cls := findClass_of_methodNamed B.named
  have hlocks := B.notSynchronized
  have hin8 : ∀ w ∈ u_ws RX8 TX8 15, w ∈ wsX8_paid := (fun _ h9 => List.mem_cons_of_mem _ (List.mem_append_left _ ((List.mem_append_right _ h9))))
  have hl := lv_entry ([.ref h0, .int a1]) (n := 6) (Nat.le_of_ble_eq_true rfl)
  rw [lg_entry_eq]
  generalize (lg_sl ([.ref h0, .int a1]) ++ List.replicate (6 - (lg_sl ([.ref h0, .int a1])).length) Slot.unset).toArray = ls at hl ⊢
  have hl : lv_has ls 6 [(0, .ref h0), (1, .int a1)] := hl
  have X0 := X
  obtain ⟨k0, la, ta, ba, ra, sn, rd, dr, bl, vd, fb, k1, k2, k3, k4, k5, k6, c1, c2, c3, c4, t1, t2, t3, t4, g, bs, rs, e0, e1, u1, e2, u2, e3, u3, e4, u4, e5, fb1, e6, fr3, fr4, hT⟩ := X
  refine lv_iload_n hx hb dX8_paid_0 rfl (lv_at hl 1 rfl) ?_
  refine lv_iconst (v := 0) hx hb dX8_paid_1 (by decide) ?_
  refine lv_bipush (v := 9) hx hb dX8_paid_2 (by decide) ?_
  refine vp_callSi (W.runS (As := [.int a1, .int 0, .int 9]) (rest := []) ⟨hx, hb, hml, hown, hts⟩ (s_X8_isIn l a1 0 9) (va_cwS 3 hts gX8_paid_X8_isIn rfl rfl rfl (by decide +kernel) ⟨Nat.le_of_ble_eq_true rfl, Nat.le_of_ble_eq_true rfl⟩) ⟨fun a U g mk q => q, fun U hU hW => ⟨rfl, trivial⟩⟩ rfl rfl hl.1 rfl (lv_room (Nat.le_of_ble_eq_true rfl)) dX8_paid_4 ⟨Nat.le_of_ble_eq_true rfl, Nat.le_of_ble_eq_true rfl⟩) (fun r_1 k_2 => ?_)
  rcases k_2 with ⟨rfl, a_3o⟩ | ⟨rfl, a_3, b_4⟩
  · refine lv_if_ne (tgt := 14) hx hb dX8_paid_7 (by decide) (fun c_5 => absurd (by decide) c_5) (fun c_5 => ?_)
    refine lv_ldc2 hx hb hown (hts (.constantLong RX8 246 (-1)) (List.mem_of_getElem? (i := 1) rfl)) dX8_paid_10 ?_
    exact W.lret (v := (-1)) hx hb hr (fun t ht hW => ⟨(-1), rfl, (by rcases a_3o with a_3o | a_3o <;> simp_all), ht⟩) (fun _ h9 => by cases h9) dX8_paid_13
  refine lv_if_ne (tgt := 14) hx hb dX8_paid_7 (by decide) (fun c_6 => ?_) (fun c_6 => absurd c_6 (by decide))
  refine lv_lconst (v := 0) hx hb dX8_paid_14 (by decide) ?_
  refine lv_lstore_n (lv' := [(2, .long 0), (0, .ref h0), (1, .int a1)]) hx hb dX8_paid_15 rfl hl (by decide) rfl (fun ls hl => ?_)
  refine lv_iconst (v := 0) hx hb dX8_paid_16 (by decide) ?_
  refine lv_istore (lv' := [(4, .int 0), (2, .long 0), (0, .ref h0), (1, .int a1)]) hx hb dX8_paid_17 hl (by decide) rfl (fun ls hl => ?_)
  refine lp_W (nL := 6) (N := 40) (lv := fun i => [(4, .int (nI i)), (2, .long 0), (0, .ref h0), (1, .int a1)]) (fun i hi ih ls hl => ?_) 0 (by omega) ls (lv_sub hl [0, 1, 2, 3] rfl)
  have hl : lv_has ls 6 [(4, .int (nI i)), (2, .long 0), (0, .ref h0), (1, .int a1)] := hl
  refine lv_iload hx hb dX8_paid_19 (lv_at hl 0 rfl) ?_
  refine lv_aload_n hx hb dX8_paid_21 rfl (lv_at hl 2 rfl) ?_
  refine va_get (D := D) (ci := 8) (v := .ref la) (C := RX8) (T := TX8) (N := 15) hx hb hts hin8 hown hK hP k0 e0 rfl 0 (by decide) (hts (.fieldLink RX8 11 "HoneyHouse" "lots" "[LHoneyHouse$Lot;") (List.mem_of_getElem? (i := 2) rfl)) (fun _ h9 => h9) rfl dX8_paid_22 ?_
  refine va_alen (v := 40) hx hb hK hP k1 t1 e1 u1 rfl dX8_paid_25 ?_
  refine lv_icmp_ge (tgt := 67) hx hb dX8_paid_26 (by decide) (fun c_7 => ?_) (fun c_7 => ?_)
  · refine lv_lload_n hx hb dX8_paid_67 rfl (lv_at hl 1 rfl) ?_
    exact W.lret (v := 0) hx hb hr (fun t ht hW => ⟨0, rfl, (by first | rfl | (simp_all; done) | simp [a_3, b_4, c_6, c_7]), ht⟩) (fun _ h9 => by cases h9) dX8_paid_68
  have hlt : i < 40 := i_lt_of hi (by omega) rfl c_7
  refine lv_aload_n hx hb dX8_paid_29 rfl (lv_at hl 2 rfl) ?_
  refine va_get (D := D) (ci := 8) (v := .ref la) (C := RX8) (T := TX8) (N := 15) hx hb hts hin8 hown hK hP k0 e0 rfl 0 (by decide) (hts (.fieldLink RX8 11 "HoneyHouse" "lots" "[LHoneyHouse$Lot;") (List.mem_of_getElem? (i := 2) rfl)) (fun _ h9 => h9) rfl dX8_paid_30 ?_
  refine lv_iload hx hb dX8_paid_33 (lv_at hl 0 rfl) ?_
  refine va_aldq (f := fun _ => none) (n := 40) hx hb hK hP k1 t1 e1 u1 (vp_in_nI hlt (by omega)) dX8_paid_35 ?_
  refine tp_v (y := .null) rfl ?_
  refine lv_astoreN (lv' := [(5, .null), (4, .int (nI i)), (2, .long 0), (0, .ref h0), (1, .int a1)]) hx hb dX8_paid_36 hl (by decide) rfl (fun ls hl => ?_)
  refine lv_aloadN hx hb dX8_paid_38 (lv_at hl 0 rfl) ?_
  refine lv_ifnullN (tgt := 61) hx hb dX8_paid_40 (by decide) ?_
  refine lv_iinc (v := nI (i + 1)) (lv' := [(4, .int (nI (i + 1))), (5, .null), (2, .long 0), (0, .ref h0), (1, .int a1)]) hx hb dX8_paid_61 hl (k := 1) rfl (nI_1 i) (by decide) rfl (fun ls hl => ?_)
  refine lv_goto (tgt := 19) hx hb dX8_paid_64 (by decide) ?_
  exact ih hlt ls (lv_sub hl [0, 2, 3, 4] rfl)
set_option maxHeartbeats 4000000 in
set_option maxRecDepth 100000 in
theorem s_X8_whose (l : Launch) (D : va_G) (ws : va_W) (tys : List (ClassId × FieldType)) (h0 : Nat) (X : XF ws tys h0) (a1 a2 : Int32) : Met l yX8_whose wsX8_whose ({ frames := 1, cells := 0, slots := 0, locals := 22 }) (va_Pc [.ref h0, .int a1, .int a2] (fun U => va_P D vwCl ws U.heap ∧ va_K D vwCl tys U)) (vp_Sl (fun r => r = if (a1 < 0 ∨ 9 < a1) ∨ (a2 < 0 ∨ 3 < a2) then (-1) else 0)) 0 0 (fun _ => False) := by
  refine Met.ofW (cc := cX8_whose) (maxL := 7) (ret := (some .long)) (by decide) rfl ?_
  intro p e s m args below meth c s₁ B hml hv
  obtain ⟨rfl, hP, hK⟩ := hv
  have hx := B.exec
  have hb := B.bytes
  have hr := B.returns
  have hts := atoms_spec (ws := wsX8_whose) B.pre
  have hown : s.vm.findClass RX8 = some m.cls := findClass_of_methodNamed B.named
  have hlocks := B.notSynchronized
  have hin8 : ∀ w ∈ u_ws RX8 TX8 15, w ∈ wsX8_whose := (fun _ h9 => List.mem_cons_of_mem _ (List.mem_append_left _ (List.mem_append_left _ ((List.mem_append_right _ h9)))))
  have hl := lv_entry ([.ref h0, .int a1, .int a2]) (n := 7) (Nat.le_of_ble_eq_true rfl)
  rw [lg_entry_eq]
  generalize (lg_sl ([.ref h0, .int a1, .int a2]) ++ List.replicate (7 - (lg_sl ([.ref h0, .int a1, .int a2])).length) Slot.unset).toArray = ls at hl ⊢
  have hl : lv_has ls 7 [(0, .ref h0), (1, .int a1), (2, .int a2)] := hl
  have X0 := X
  obtain ⟨k0, la, ta, ba, ra, sn, rd, dr, bl, vd, fb, k1, k2, k3, k4, k5, k6, c1, c2, c3, c4, t1, t2, t3, t4, g, bs, rs, e0, e1, u1, e2, u2, e3, u3, e4, u4, e5, fb1, e6, fr3, fr4, hT⟩ := X
  refine lv_iload_n hx hb dX8_whose_0 rfl (lv_at hl 1 rfl) ?_
  refine lv_iconst (v := 0) hx hb dX8_whose_1 (by decide) ?_
  refine lv_bipush (v := 9) hx hb dX8_whose_2 (by decide) ?_
  refine vp_callSi (W.runS (As := [.int a1, .int 0, .int 9]) (rest := []) ⟨hx, hb, hml, hown, hts⟩ (s_X8_isIn l a1 0 9) (va_cwS 3 hts gX8_whose_X8_isIn rfl rfl rfl (by decide +kernel) ⟨Nat.le_of_ble_eq_true rfl, Nat.le_of_ble_eq_true rfl⟩) ⟨fun a U g mk q => q, fun U hU hW => ⟨rfl, trivial⟩⟩ rfl rfl hl.1 rfl (lv_room (Nat.le_of_ble_eq_true rfl)) dX8_whose_4 ⟨Nat.le_of_ble_eq_true rfl, Nat.le_of_ble_eq_true rfl⟩) (fun r_1 k_2 => ?_)
  rcases k_2 with ⟨rfl, a_3o⟩ | ⟨rfl, a_3, b_4⟩
  · refine lv_if_eq (tgt := 19) hx hb dX8_whose_7 (by decide) (fun c_5 => ?_) (fun c_5 => absurd (by decide) c_5)
    refine lv_ldc2 hx hb hown (hts (.constantLong RX8 246 (-1)) (List.mem_of_getElem? (i := 1) rfl)) dX8_whose_19 ?_
    exact W.lret (v := (-1)) hx hb hr (fun t ht hW => ⟨(-1), rfl, (by rcases a_3o with a_3o | a_3o <;> simp_all), ht⟩) (fun _ h9 => by cases h9) dX8_whose_22
  refine lv_if_eq (tgt := 19) hx hb dX8_whose_7 (by decide) (fun c_6 => absurd c_6 (by decide)) (fun c_6 => ?_)
  refine lv_iload_n hx hb dX8_whose_10 rfl (lv_at hl 2 rfl) ?_
  refine lv_iconst (v := 0) hx hb dX8_whose_11 (by decide) ?_
  refine lv_iconst (v := 3) hx hb dX8_whose_12 (by decide) ?_
  refine vp_callSi (W.runS (As := [.int a2, .int 0, .int 3]) (rest := []) ⟨hx, hb, hml, hown, hts⟩ (s_X8_isIn l a2 0 3) (va_cwS 3 hts gX8_whose_X8_isIn rfl rfl rfl (by decide +kernel) ⟨Nat.le_of_ble_eq_true rfl, Nat.le_of_ble_eq_true rfl⟩) ⟨fun a U g mk q => q, fun U hU hW => ⟨rfl, trivial⟩⟩ rfl rfl hl.1 rfl (lv_room (Nat.le_of_ble_eq_true rfl)) dX8_whose_13 ⟨Nat.le_of_ble_eq_true rfl, Nat.le_of_ble_eq_true rfl⟩) (fun r_7 k_8 => ?_)
  rcases k_8 with ⟨rfl, a_9o⟩ | ⟨rfl, a_9, b_10⟩
  · refine lv_if_ne (tgt := 23) hx hb dX8_whose_16 (by decide) (fun c_11 => absurd (by decide) c_11) (fun c_11 => ?_)
    refine lv_ldc2 hx hb hown (hts (.constantLong RX8 246 (-1)) (List.mem_of_getElem? (i := 1) rfl)) dX8_whose_19 ?_
    exact W.lret (v := (-1)) hx hb hr (fun t ht hW => ⟨(-1), rfl, (by rcases a_9o with a_9o | a_9o <;> simp_all), ht⟩) (fun _ h9 => by cases h9) dX8_whose_22
  refine lv_if_ne (tgt := 23) hx hb dX8_whose_16 (by decide) (fun c_12 => ?_) (fun c_12 => absurd c_12 (by decide))
  refine lv_lconst (v := 0) hx hb dX8_whose_23 (by decide) ?_
  refine lv_lstore_n (lv' := [(3, .long 0), (0, .ref h0), (1, .int a1), (2, .int a2)]) hx hb dX8_whose_24 rfl hl (by decide) rfl (fun ls hl => ?_)
  refine lv_iconst (v := 0) hx hb dX8_whose_25 (by decide) ?_
  refine lv_istore (lv' := [(5, .int 0), (3, .long 0), (0, .ref h0), (1, .int a1), (2, .int a2)]) hx hb dX8_whose_26 hl (by decide) rfl (fun ls hl => ?_)
  refine lp_W (nL := 7) (N := 40) (lv := fun i => [(5, .int (nI i)), (3, .long 0), (0, .ref h0), (1, .int a1), (2, .int a2)]) (fun i hi ih ls hl => ?_) 0 (by omega) ls (lv_sub hl [0, 1, 2, 3, 4] rfl)
  have hl : lv_has ls 7 [(5, .int (nI i)), (3, .long 0), (0, .ref h0), (1, .int a1), (2, .int a2)] := hl
  refine lv_iload hx hb dX8_whose_28 (lv_at hl 0 rfl) ?_
  refine lv_aload_n hx hb dX8_whose_30 rfl (lv_at hl 2 rfl) ?_
  refine va_get (D := D) (ci := 8) (v := .ref la) (C := RX8) (T := TX8) (N := 15) hx hb hts hin8 hown hK hP k0 e0 rfl 0 (by decide) (hts (.fieldLink RX8 11 "HoneyHouse" "lots" "[LHoneyHouse$Lot;") (List.mem_of_getElem? (i := 2) rfl)) (fun _ h9 => h9) rfl dX8_whose_31 ?_
  refine va_alen (v := 40) hx hb hK hP k1 t1 e1 u1 rfl dX8_whose_34 ?_
  refine lv_icmp_ge (tgt := 80) hx hb dX8_whose_35 (by decide) (fun c_13 => ?_) (fun c_13 => ?_)
  · refine lv_lload_n hx hb dX8_whose_80 rfl (lv_at hl 1 rfl) ?_
    exact W.lret (v := 0) hx hb hr (fun t ht hW => ⟨0, rfl, (by first | rfl | (simp_all; done) | simp [a_3, b_4, c_6, a_9, b_10, c_12, c_13]), ht⟩) (fun _ h9 => by cases h9) dX8_whose_81
  have hlt : i < 40 := i_lt_of hi (by omega) rfl c_13
  refine lv_aload_n hx hb dX8_whose_38 rfl (lv_at hl 2 rfl) ?_
  refine va_get (D := D) (ci := 8) (v := .ref la) (C := RX8) (T := TX8) (N := 15) hx hb hts hin8 hown hK hP k0 e0 rfl 0 (by decide) (hts (.fieldLink RX8 11 "HoneyHouse" "lots" "[LHoneyHouse$Lot;") (List.mem_of_getElem? (i := 2) rfl)) (fun _ h9 => h9) rfl dX8_whose_39 ?_
  refine lv_iload hx hb dX8_whose_42 (lv_at hl 0 rfl) ?_
  refine va_aldq (f := fun _ => none) (n := 40) hx hb hK hP k1 t1 e1 u1 (vp_in_nI hlt (by omega)) dX8_whose_44 ?_
  refine tp_v (y := .null) rfl ?_
  refine lv_astoreN (lv' := [(6, .null), (5, .int (nI i)), (3, .long 0), (0, .ref h0), (1, .int a1), (2, .int a2)]) hx hb dX8_whose_45 hl (by decide) rfl (fun ls hl => ?_)
  refine lv_aloadN hx hb dX8_whose_47 (lv_at hl 0 rfl) ?_
  refine lv_ifnullN (tgt := 74) hx hb dX8_whose_49 (by decide) ?_
  refine lv_iinc (v := nI (i + 1)) (lv' := [(5, .int (nI (i + 1))), (6, .null), (3, .long 0), (0, .ref h0), (1, .int a1), (2, .int a2)]) hx hb dX8_whose_74 hl (k := 1) rfl (nI_1 i) (by decide) rfl (fun ls hl => ?_)
  refine lv_goto (tgt := 28) hx hb dX8_whose_77 (by decide) ?_
  exact ih hlt ls (lv_sub hl [0, 2, 3, 4, 5] rfl)
theorem and1 (x : Int32) : (x &&& 1) = 0 ∨ (x &&& 1) = 1 := by
  have h := pk_and x (m := 1) 1 (by decide)
  rcases Nat.mod_two_eq_zero_or_one x.toBitVec.toNat with q | q
  · left; rw [h]; show nI (x.toBitVec.toNat % 2) = 0; rw [q]; rfl
  · right; rw [h]; show nI (x.toBitVec.toNat % 2) = 1; rw [q]; rfl
theorem and1n {x : Int32} (h : ¬ (x &&& 1) = 1) : (x &&& 1) = 0 := (and1 x).elim id (fun q => absurd q h)
theorem shr10 {b : Int32} (h : b >>> ((10 : Int32) &&& 31) = 0) : ∃ n : Nat, n < 1024 ∧ b = nI n := by
  have e := pk_shr b ((10 : Int32) &&& 31) 10 (by decide)
  rw [h] at e
  have e0 : (0 : Int32).toInt = 0 := by decide
  rw [e0, Int.shiftRight_eq_div_pow] at e
  refine ⟨b.toInt.toNat, by omega, ?_⟩
  apply Int32.toInt_inj.mp
  rw [nI_toInt (by omega)]
  omega
set_option maxHeartbeats 4000000 in
set_option maxRecDepth 100000 in
theorem s_J6_bitCount (l : Launch) (a1 : Int32) : Met l yJ6_bitCount_0f7a4 wsJ6_bitCount_0f7a4 ({ frames := 0, cells := 0, slots := 0, locals := 0 }) (va_Pc [.int a1] (fun _ => True)) (vp_Si (fun r => a1 = 0 → r = 0)) 0 0 (fun _ => False) := by
  refine Met.ofW (cc := cJ6_bitCount_0f7a4) (maxL := 1) (ret := (some .int)) (by decide) rfl ?_
  intro p e s m args below meth c s₁ B hml hv
  obtain ⟨rfl, -⟩ := hv
  have hx := B.exec
  have hb := B.bytes
  have hr := B.returns
  have hts := atoms_spec (ws := wsJ6_bitCount_0f7a4) B.pre
  have hown : s.vm.findClass RJ6 = some m.cls := findClass_of_methodNamed B.named
  have hlocks := B.notSynchronized
  have hl := lv_entry ([.int a1]) (n := 1) (Nat.le_of_ble_eq_true rfl)
  rw [lg_entry_eq]
  generalize (lg_sl ([.int a1]) ++ List.replicate (1 - (lg_sl ([.int a1])).length) Slot.unset).toArray = ls at hl ⊢
  have hl : lv_has ls 1 [(0, .int a1)] := hl
  refine lv_iload_n hx hb dJ6_bitCount_0f7a4_0 rfl (lv_at hl 0 rfl) ?_
  refine lv_iload_n hx hb dJ6_bitCount_0f7a4_1 rfl (lv_at hl 0 rfl) ?_
  refine lv_iconst (v := 1) hx hb dJ6_bitCount_0f7a4_2 (by decide) ?_
  refine lv_iushr hx hb dJ6_bitCount_0f7a4_3 rfl ?_
  refine lv_ldcw hx hb hown (hts (.constant RJ6 265 (1431655765)) (List.mem_of_getElem? (i := 1) rfl)) dJ6_bitCount_0f7a4_4 ?_
  refine lv_iand hx hb dJ6_bitCount_0f7a4_7 ?_
  refine lv_isub hx hb dJ6_bitCount_0f7a4_8 ?_
  refine lv_istore_n (lv' := [(0, .int (a1 - (((a1.toUInt32 >>> ((1 : Int32).toUInt32 &&& Int32.toUInt32 31)).toInt32) &&& 1431655765)))]) hx hb dJ6_bitCount_0f7a4_9 rfl hl (by decide) rfl (fun ls hl => ?_)
  refine lv_iload_n hx hb dJ6_bitCount_0f7a4_10 rfl (lv_at hl 0 rfl) ?_
  refine lv_ldcw hx hb hown (hts (.constant RJ6 266 (858993459)) (List.mem_of_getElem? (i := 2) rfl)) dJ6_bitCount_0f7a4_11 ?_
  refine lv_iand hx hb dJ6_bitCount_0f7a4_14 ?_
  refine lv_iload_n hx hb dJ6_bitCount_0f7a4_15 rfl (lv_at hl 0 rfl) ?_
  refine lv_iconst (v := 2) hx hb dJ6_bitCount_0f7a4_16 (by decide) ?_
  refine lv_iushr hx hb dJ6_bitCount_0f7a4_17 rfl ?_
  refine lv_ldcw hx hb hown (hts (.constant RJ6 266 (858993459)) (List.mem_of_getElem? (i := 2) rfl)) dJ6_bitCount_0f7a4_18 ?_
  refine lv_iand hx hb dJ6_bitCount_0f7a4_21 ?_
  refine lv_iadd hx hb dJ6_bitCount_0f7a4_22 ?_
  refine lv_istore_n (lv' := [(0, .int (((a1 - (((a1.toUInt32 >>> ((1 : Int32).toUInt32 &&& Int32.toUInt32 31)).toInt32) &&& 1431655765)) &&& 858993459) + ((((a1 - (((a1.toUInt32 >>> ((1 : Int32).toUInt32 &&& Int32.toUInt32 31)).toInt32) &&& 1431655765)).toUInt32 >>> ((2 : Int32).toUInt32 &&& Int32.toUInt32 31)).toInt32) &&& 858993459)))]) hx hb dJ6_bitCount_0f7a4_23 rfl hl (by decide) rfl (fun ls hl => ?_)
  refine lv_iload_n hx hb dJ6_bitCount_0f7a4_24 rfl (lv_at hl 0 rfl) ?_
  refine lv_iload_n hx hb dJ6_bitCount_0f7a4_25 rfl (lv_at hl 0 rfl) ?_
  refine lv_iconst (v := 4) hx hb dJ6_bitCount_0f7a4_26 (by decide) ?_
  refine lv_iushr hx hb dJ6_bitCount_0f7a4_27 rfl ?_
  refine lv_iadd hx hb dJ6_bitCount_0f7a4_28 ?_
  refine lv_ldcw hx hb hown (hts (.constant RJ6 267 (252645135)) (List.mem_of_getElem? (i := 3) rfl)) dJ6_bitCount_0f7a4_29 ?_
  refine lv_iand hx hb dJ6_bitCount_0f7a4_32 ?_
  refine lv_istore_n (lv' := [(0, .int (((((a1 - (((a1.toUInt32 >>> ((1 : Int32).toUInt32 &&& Int32.toUInt32 31)).toInt32) &&& 1431655765)) &&& 858993459) + ((((a1 - (((a1.toUInt32 >>> ((1 : Int32).toUInt32 &&& Int32.toUInt32 31)).toInt32) &&& 1431655765)).toUInt32 >>> ((2 : Int32).toUInt32 &&& Int32.toUInt32 31)).toInt32) &&& 858993459)) + (((((a1 - (((a1.toUInt32 >>> ((1 : Int32).toUInt32 &&& Int32.toUInt32 31)).toInt32) &&& 1431655765)) &&& 858993459) + ((((a1 - (((a1.toUInt32 >>> ((1 : Int32).toUInt32 &&& Int32.toUInt32 31)).toInt32) &&& 1431655765)).toUInt32 >>> ((2 : Int32).toUInt32 &&& Int32.toUInt32 31)).toInt32) &&& 858993459)).toUInt32 >>> ((4 : Int32).toUInt32 &&& Int32.toUInt32 31)).toInt32)) &&& 252645135))]) hx hb dJ6_bitCount_0f7a4_33 rfl hl (by decide) rfl (fun ls hl => ?_)
  refine lv_iload_n hx hb dJ6_bitCount_0f7a4_34 rfl (lv_at hl 0 rfl) ?_
  refine lv_iload_n hx hb dJ6_bitCount_0f7a4_35 rfl (lv_at hl 0 rfl) ?_
  refine lv_bipush (v := 8) hx hb dJ6_bitCount_0f7a4_36 (by decide) ?_
  refine lv_iushr hx hb dJ6_bitCount_0f7a4_38 rfl ?_
  refine lv_iadd hx hb dJ6_bitCount_0f7a4_39 ?_
  refine lv_istore_n (lv' := [(0, .int ((((((a1 - (((a1.toUInt32 >>> ((1 : Int32).toUInt32 &&& Int32.toUInt32 31)).toInt32) &&& 1431655765)) &&& 858993459) + ((((a1 - (((a1.toUInt32 >>> ((1 : Int32).toUInt32 &&& Int32.toUInt32 31)).toInt32) &&& 1431655765)).toUInt32 >>> ((2 : Int32).toUInt32 &&& Int32.toUInt32 31)).toInt32) &&& 858993459)) + (((((a1 - (((a1.toUInt32 >>> ((1 : Int32).toUInt32 &&& Int32.toUInt32 31)).toInt32) &&& 1431655765)) &&& 858993459) + ((((a1 - (((a1.toUInt32 >>> ((1 : Int32).toUInt32 &&& Int32.toUInt32 31)).toInt32) &&& 1431655765)).toUInt32 >>> ((2 : Int32).toUInt32 &&& Int32.toUInt32 31)).toInt32) &&& 858993459)).toUInt32 >>> ((4 : Int32).toUInt32 &&& Int32.toUInt32 31)).toInt32)) &&& 252645135) + (((((((a1 - (((a1.toUInt32 >>> ((1 : Int32).toUInt32 &&& Int32.toUInt32 31)).toInt32) &&& 1431655765)) &&& 858993459) + ((((a1 - (((a1.toUInt32 >>> ((1 : Int32).toUInt32 &&& Int32.toUInt32 31)).toInt32) &&& 1431655765)).toUInt32 >>> ((2 : Int32).toUInt32 &&& Int32.toUInt32 31)).toInt32) &&& 858993459)) + (((((a1 - (((a1.toUInt32 >>> ((1 : Int32).toUInt32 &&& Int32.toUInt32 31)).toInt32) &&& 1431655765)) &&& 858993459) + ((((a1 - (((a1.toUInt32 >>> ((1 : Int32).toUInt32 &&& Int32.toUInt32 31)).toInt32) &&& 1431655765)).toUInt32 >>> ((2 : Int32).toUInt32 &&& Int32.toUInt32 31)).toInt32) &&& 858993459)).toUInt32 >>> ((4 : Int32).toUInt32 &&& Int32.toUInt32 31)).toInt32)) &&& 252645135).toUInt32 >>> ((8 : Int32).toUInt32 &&& Int32.toUInt32 31)).toInt32)))]) hx hb dJ6_bitCount_0f7a4_40 rfl hl (by decide) rfl (fun ls hl => ?_)
  refine lv_iload_n hx hb dJ6_bitCount_0f7a4_41 rfl (lv_at hl 0 rfl) ?_
  refine lv_iload_n hx hb dJ6_bitCount_0f7a4_42 rfl (lv_at hl 0 rfl) ?_
  refine lv_bipush (v := 16) hx hb dJ6_bitCount_0f7a4_43 (by decide) ?_
  refine lv_iushr hx hb dJ6_bitCount_0f7a4_45 rfl ?_
  refine lv_iadd hx hb dJ6_bitCount_0f7a4_46 ?_
  refine lv_istore_n (lv' := [(0, .int (((((((a1 - (((a1.toUInt32 >>> ((1 : Int32).toUInt32 &&& Int32.toUInt32 31)).toInt32) &&& 1431655765)) &&& 858993459) + ((((a1 - (((a1.toUInt32 >>> ((1 : Int32).toUInt32 &&& Int32.toUInt32 31)).toInt32) &&& 1431655765)).toUInt32 >>> ((2 : Int32).toUInt32 &&& Int32.toUInt32 31)).toInt32) &&& 858993459)) + (((((a1 - (((a1.toUInt32 >>> ((1 : Int32).toUInt32 &&& Int32.toUInt32 31)).toInt32) &&& 1431655765)) &&& 858993459) + ((((a1 - (((a1.toUInt32 >>> ((1 : Int32).toUInt32 &&& Int32.toUInt32 31)).toInt32) &&& 1431655765)).toUInt32 >>> ((2 : Int32).toUInt32 &&& Int32.toUInt32 31)).toInt32) &&& 858993459)).toUInt32 >>> ((4 : Int32).toUInt32 &&& Int32.toUInt32 31)).toInt32)) &&& 252645135) + (((((((a1 - (((a1.toUInt32 >>> ((1 : Int32).toUInt32 &&& Int32.toUInt32 31)).toInt32) &&& 1431655765)) &&& 858993459) + ((((a1 - (((a1.toUInt32 >>> ((1 : Int32).toUInt32 &&& Int32.toUInt32 31)).toInt32) &&& 1431655765)).toUInt32 >>> ((2 : Int32).toUInt32 &&& Int32.toUInt32 31)).toInt32) &&& 858993459)) + (((((a1 - (((a1.toUInt32 >>> ((1 : Int32).toUInt32 &&& Int32.toUInt32 31)).toInt32) &&& 1431655765)) &&& 858993459) + ((((a1 - (((a1.toUInt32 >>> ((1 : Int32).toUInt32 &&& Int32.toUInt32 31)).toInt32) &&& 1431655765)).toUInt32 >>> ((2 : Int32).toUInt32 &&& Int32.toUInt32 31)).toInt32) &&& 858993459)).toUInt32 >>> ((4 : Int32).toUInt32 &&& Int32.toUInt32 31)).toInt32)) &&& 252645135).toUInt32 >>> ((8 : Int32).toUInt32 &&& Int32.toUInt32 31)).toInt32)) + ((((((((a1 - (((a1.toUInt32 >>> ((1 : Int32).toUInt32 &&& Int32.toUInt32 31)).toInt32) &&& 1431655765)) &&& 858993459) + ((((a1 - (((a1.toUInt32 >>> ((1 : Int32).toUInt32 &&& Int32.toUInt32 31)).toInt32) &&& 1431655765)).toUInt32 >>> ((2 : Int32).toUInt32 &&& Int32.toUInt32 31)).toInt32) &&& 858993459)) + (((((a1 - (((a1.toUInt32 >>> ((1 : Int32).toUInt32 &&& Int32.toUInt32 31)).toInt32) &&& 1431655765)) &&& 858993459) + ((((a1 - (((a1.toUInt32 >>> ((1 : Int32).toUInt32 &&& Int32.toUInt32 31)).toInt32) &&& 1431655765)).toUInt32 >>> ((2 : Int32).toUInt32 &&& Int32.toUInt32 31)).toInt32) &&& 858993459)).toUInt32 >>> ((4 : Int32).toUInt32 &&& Int32.toUInt32 31)).toInt32)) &&& 252645135) + (((((((a1 - (((a1.toUInt32 >>> ((1 : Int32).toUInt32 &&& Int32.toUInt32 31)).toInt32) &&& 1431655765)) &&& 858993459) + ((((a1 - (((a1.toUInt32 >>> ((1 : Int32).toUInt32 &&& Int32.toUInt32 31)).toInt32) &&& 1431655765)).toUInt32 >>> ((2 : Int32).toUInt32 &&& Int32.toUInt32 31)).toInt32) &&& 858993459)) + (((((a1 - (((a1.toUInt32 >>> ((1 : Int32).toUInt32 &&& Int32.toUInt32 31)).toInt32) &&& 1431655765)) &&& 858993459) + ((((a1 - (((a1.toUInt32 >>> ((1 : Int32).toUInt32 &&& Int32.toUInt32 31)).toInt32) &&& 1431655765)).toUInt32 >>> ((2 : Int32).toUInt32 &&& Int32.toUInt32 31)).toInt32) &&& 858993459)).toUInt32 >>> ((4 : Int32).toUInt32 &&& Int32.toUInt32 31)).toInt32)) &&& 252645135).toUInt32 >>> ((8 : Int32).toUInt32 &&& Int32.toUInt32 31)).toInt32)).toUInt32 >>> ((16 : Int32).toUInt32 &&& Int32.toUInt32 31)).toInt32)))]) hx hb dJ6_bitCount_0f7a4_47 rfl hl (by decide) rfl (fun ls hl => ?_)
  refine lv_iload_n hx hb dJ6_bitCount_0f7a4_48 rfl (lv_at hl 0 rfl) ?_
  refine lv_bipush (v := 63) hx hb dJ6_bitCount_0f7a4_49 (by decide) ?_
  refine lv_iand hx hb dJ6_bitCount_0f7a4_51 ?_
  exact W.iret (v := (((((((a1 - (((a1.toUInt32 >>> ((1 : Int32).toUInt32 &&& Int32.toUInt32 31)).toInt32) &&& 1431655765)) &&& 858993459) + ((((a1 - (((a1.toUInt32 >>> ((1 : Int32).toUInt32 &&& Int32.toUInt32 31)).toInt32) &&& 1431655765)).toUInt32 >>> ((2 : Int32).toUInt32 &&& Int32.toUInt32 31)).toInt32) &&& 858993459)) + (((((a1 - (((a1.toUInt32 >>> ((1 : Int32).toUInt32 &&& Int32.toUInt32 31)).toInt32) &&& 1431655765)) &&& 858993459) + ((((a1 - (((a1.toUInt32 >>> ((1 : Int32).toUInt32 &&& Int32.toUInt32 31)).toInt32) &&& 1431655765)).toUInt32 >>> ((2 : Int32).toUInt32 &&& Int32.toUInt32 31)).toInt32) &&& 858993459)).toUInt32 >>> ((4 : Int32).toUInt32 &&& Int32.toUInt32 31)).toInt32)) &&& 252645135) + (((((((a1 - (((a1.toUInt32 >>> ((1 : Int32).toUInt32 &&& Int32.toUInt32 31)).toInt32) &&& 1431655765)) &&& 858993459) + ((((a1 - (((a1.toUInt32 >>> ((1 : Int32).toUInt32 &&& Int32.toUInt32 31)).toInt32) &&& 1431655765)).toUInt32 >>> ((2 : Int32).toUInt32 &&& Int32.toUInt32 31)).toInt32) &&& 858993459)) + (((((a1 - (((a1.toUInt32 >>> ((1 : Int32).toUInt32 &&& Int32.toUInt32 31)).toInt32) &&& 1431655765)) &&& 858993459) + ((((a1 - (((a1.toUInt32 >>> ((1 : Int32).toUInt32 &&& Int32.toUInt32 31)).toInt32) &&& 1431655765)).toUInt32 >>> ((2 : Int32).toUInt32 &&& Int32.toUInt32 31)).toInt32) &&& 858993459)).toUInt32 >>> ((4 : Int32).toUInt32 &&& Int32.toUInt32 31)).toInt32)) &&& 252645135).toUInt32 >>> ((8 : Int32).toUInt32 &&& Int32.toUInt32 31)).toInt32)) + ((((((((a1 - (((a1.toUInt32 >>> ((1 : Int32).toUInt32 &&& Int32.toUInt32 31)).toInt32) &&& 1431655765)) &&& 858993459) + ((((a1 - (((a1.toUInt32 >>> ((1 : Int32).toUInt32 &&& Int32.toUInt32 31)).toInt32) &&& 1431655765)).toUInt32 >>> ((2 : Int32).toUInt32 &&& Int32.toUInt32 31)).toInt32) &&& 858993459)) + (((((a1 - (((a1.toUInt32 >>> ((1 : Int32).toUInt32 &&& Int32.toUInt32 31)).toInt32) &&& 1431655765)) &&& 858993459) + ((((a1 - (((a1.toUInt32 >>> ((1 : Int32).toUInt32 &&& Int32.toUInt32 31)).toInt32) &&& 1431655765)).toUInt32 >>> ((2 : Int32).toUInt32 &&& Int32.toUInt32 31)).toInt32) &&& 858993459)).toUInt32 >>> ((4 : Int32).toUInt32 &&& Int32.toUInt32 31)).toInt32)) &&& 252645135) + (((((((a1 - (((a1.toUInt32 >>> ((1 : Int32).toUInt32 &&& Int32.toUInt32 31)).toInt32) &&& 1431655765)) &&& 858993459) + ((((a1 - (((a1.toUInt32 >>> ((1 : Int32).toUInt32 &&& Int32.toUInt32 31)).toInt32) &&& 1431655765)).toUInt32 >>> ((2 : Int32).toUInt32 &&& Int32.toUInt32 31)).toInt32) &&& 858993459)) + (((((a1 - (((a1.toUInt32 >>> ((1 : Int32).toUInt32 &&& Int32.toUInt32 31)).toInt32) &&& 1431655765)) &&& 858993459) + ((((a1 - (((a1.toUInt32 >>> ((1 : Int32).toUInt32 &&& Int32.toUInt32 31)).toInt32) &&& 1431655765)).toUInt32 >>> ((2 : Int32).toUInt32 &&& Int32.toUInt32 31)).toInt32) &&& 858993459)).toUInt32 >>> ((4 : Int32).toUInt32 &&& Int32.toUInt32 31)).toInt32)) &&& 252645135).toUInt32 >>> ((8 : Int32).toUInt32 &&& Int32.toUInt32 31)).toInt32)).toUInt32 >>> ((16 : Int32).toUInt32 &&& Int32.toUInt32 31)).toInt32)) &&& 63) hx hb hr (fun t ht hW => ⟨(((((((a1 - (((a1.toUInt32 >>> ((1 : Int32).toUInt32 &&& Int32.toUInt32 31)).toInt32) &&& 1431655765)) &&& 858993459) + ((((a1 - (((a1.toUInt32 >>> ((1 : Int32).toUInt32 &&& Int32.toUInt32 31)).toInt32) &&& 1431655765)).toUInt32 >>> ((2 : Int32).toUInt32 &&& Int32.toUInt32 31)).toInt32) &&& 858993459)) + (((((a1 - (((a1.toUInt32 >>> ((1 : Int32).toUInt32 &&& Int32.toUInt32 31)).toInt32) &&& 1431655765)) &&& 858993459) + ((((a1 - (((a1.toUInt32 >>> ((1 : Int32).toUInt32 &&& Int32.toUInt32 31)).toInt32) &&& 1431655765)).toUInt32 >>> ((2 : Int32).toUInt32 &&& Int32.toUInt32 31)).toInt32) &&& 858993459)).toUInt32 >>> ((4 : Int32).toUInt32 &&& Int32.toUInt32 31)).toInt32)) &&& 252645135) + (((((((a1 - (((a1.toUInt32 >>> ((1 : Int32).toUInt32 &&& Int32.toUInt32 31)).toInt32) &&& 1431655765)) &&& 858993459) + ((((a1 - (((a1.toUInt32 >>> ((1 : Int32).toUInt32 &&& Int32.toUInt32 31)).toInt32) &&& 1431655765)).toUInt32 >>> ((2 : Int32).toUInt32 &&& Int32.toUInt32 31)).toInt32) &&& 858993459)) + (((((a1 - (((a1.toUInt32 >>> ((1 : Int32).toUInt32 &&& Int32.toUInt32 31)).toInt32) &&& 1431655765)) &&& 858993459) + ((((a1 - (((a1.toUInt32 >>> ((1 : Int32).toUInt32 &&& Int32.toUInt32 31)).toInt32) &&& 1431655765)).toUInt32 >>> ((2 : Int32).toUInt32 &&& Int32.toUInt32 31)).toInt32) &&& 858993459)).toUInt32 >>> ((4 : Int32).toUInt32 &&& Int32.toUInt32 31)).toInt32)) &&& 252645135).toUInt32 >>> ((8 : Int32).toUInt32 &&& Int32.toUInt32 31)).toInt32)) + ((((((((a1 - (((a1.toUInt32 >>> ((1 : Int32).toUInt32 &&& Int32.toUInt32 31)).toInt32) &&& 1431655765)) &&& 858993459) + ((((a1 - (((a1.toUInt32 >>> ((1 : Int32).toUInt32 &&& Int32.toUInt32 31)).toInt32) &&& 1431655765)).toUInt32 >>> ((2 : Int32).toUInt32 &&& Int32.toUInt32 31)).toInt32) &&& 858993459)) + (((((a1 - (((a1.toUInt32 >>> ((1 : Int32).toUInt32 &&& Int32.toUInt32 31)).toInt32) &&& 1431655765)) &&& 858993459) + ((((a1 - (((a1.toUInt32 >>> ((1 : Int32).toUInt32 &&& Int32.toUInt32 31)).toInt32) &&& 1431655765)).toUInt32 >>> ((2 : Int32).toUInt32 &&& Int32.toUInt32 31)).toInt32) &&& 858993459)).toUInt32 >>> ((4 : Int32).toUInt32 &&& Int32.toUInt32 31)).toInt32)) &&& 252645135) + (((((((a1 - (((a1.toUInt32 >>> ((1 : Int32).toUInt32 &&& Int32.toUInt32 31)).toInt32) &&& 1431655765)) &&& 858993459) + ((((a1 - (((a1.toUInt32 >>> ((1 : Int32).toUInt32 &&& Int32.toUInt32 31)).toInt32) &&& 1431655765)).toUInt32 >>> ((2 : Int32).toUInt32 &&& Int32.toUInt32 31)).toInt32) &&& 858993459)) + (((((a1 - (((a1.toUInt32 >>> ((1 : Int32).toUInt32 &&& Int32.toUInt32 31)).toInt32) &&& 1431655765)) &&& 858993459) + ((((a1 - (((a1.toUInt32 >>> ((1 : Int32).toUInt32 &&& Int32.toUInt32 31)).toInt32) &&& 1431655765)).toUInt32 >>> ((2 : Int32).toUInt32 &&& Int32.toUInt32 31)).toInt32) &&& 858993459)).toUInt32 >>> ((4 : Int32).toUInt32 &&& Int32.toUInt32 31)).toInt32)) &&& 252645135).toUInt32 >>> ((8 : Int32).toUInt32 &&& Int32.toUInt32 31)).toInt32)).toUInt32 >>> ((16 : Int32).toUInt32 &&& Int32.toUInt32 31)).toInt32)) &&& 63, rfl, (fun h9 => by subst h9; decide), ht⟩) (fun _ h9 => by cases h9) dJ6_bitCount_0f7a4_52
set_option maxHeartbeats 4000000 in
set_option maxRecDepth 100000 in
theorem s_X8_hasBit (l : Launch) (b k : Int32) : Met l yX8_hasBit wsX8_hasBit ({ frames := 0, cells := 0, slots := 0, locals := 0 }) (va_Pc [.int b, .int k] (fun _ => True)) (vp_Si (fun r => (r = 0 ∧ (b >>> (k &&& 31) &&& 1) = 0) ∨ r = 1)) 0 0 (fun _ => False) := by
  refine Met.ofW (cc := cX8_hasBit) (maxL := 2) (ret := (some .boolean)) (by decide) rfl ?_
  intro p e s m args below meth c s₁ B hml hv
  obtain ⟨rfl, -⟩ := hv
  have hx := B.exec
  have hb := B.bytes
  have hr := B.returns
  have hts := atoms_spec (ws := wsX8_hasBit) B.pre
  have hown : s.vm.findClass RX8 = some m.cls := findClass_of_methodNamed B.named
  have hlocks := B.notSynchronized
  have hl := lv_entry ([.int b, .int k]) (n := 2) (Nat.le_of_ble_eq_true rfl)
  rw [lg_entry_eq]
  generalize (lg_sl ([.int b, .int k]) ++ List.replicate (2 - (lg_sl ([.int b, .int k])).length) Slot.unset).toArray = ls at hl ⊢
  have hl : lv_has ls 2 [(0, .int b), (1, .int k)] := hl
  refine lv_iload_n hx hb dX8_hasBit_0 rfl (lv_at hl 0 rfl) ?_
  refine lv_iload_n hx hb dX8_hasBit_1 rfl (lv_at hl 1 rfl) ?_
  refine lv_ishr hx hb dX8_hasBit_2 ?_
  refine lv_iconst (v := 1) hx hb dX8_hasBit_3 (by decide) ?_
  refine lv_iand hx hb dX8_hasBit_4 ?_
  refine lv_iconst (v := 1) hx hb dX8_hasBit_5 (by decide) ?_
  refine lv_icmp_ne (tgt := 13) hx hb dX8_hasBit_6 (by decide) (fun c_1 => ?_) (fun c_1 => ?_)
  · refine lv_iconst (v := 0) hx hb dX8_hasBit_13 (by decide) ?_
    exact W.zret (v := 0) hx hb hr rfl (fun t ht hW => ⟨0, rfl, Or.inl ⟨rfl, and1n c_1⟩, ht⟩) (fun _ h9 => by cases h9) dX8_hasBit_14
  refine lv_iconst (v := 1) hx hb dX8_hasBit_9 (by decide) ?_
  refine lv_goto (tgt := 14) hx hb dX8_hasBit_10 (by decide) ?_
  exact W.zret (v := 1) hx hb hr rfl (fun t ht hW => ⟨1, rfl, Or.inr rfl, ht⟩) (fun _ h9 => by cases h9) dX8_hasBit_14
set_option maxHeartbeats 4000000 in
set_option maxRecDepth 100000 in
theorem s_X8_areTanksToBlend (l : Launch) (D : va_G) (ws : va_W) (tys : List (ClassId × FieldType)) (h0 : Nat) (X : XF ws tys h0) (a1 : Int32) : Met l yX8_areTanksToBlend wsX8_areTanksToBlend ({ frames := 1, cells := 0, slots := 0, locals := 22 }) (va_Pc [.ref h0, .int a1] (fun U => va_P D vwCl ws U.heap ∧ va_K D vwCl tys U)) (vp_Si (fun r => r = 0)) 0 0 (fun _ => False) := by
  refine Met.ofW (cc := cX8_areTanksToBlend) (maxL := 3) (ret := (some .boolean)) (by decide) rfl ?_
  intro p e s m args below meth c s₁ B hml hv
  obtain ⟨rfl, hP, hK⟩ := hv
  have hx := B.exec
  have hb := B.bytes
  have hr := B.returns
  have hts := atoms_spec (ws := wsX8_areTanksToBlend) B.pre
  have hown : s.vm.findClass RX8 = some m.cls := findClass_of_methodNamed B.named
  have hlocks := B.notSynchronized
  have hin7 : ∀ w ∈ u_ws RX7 TX7 5, w ∈ wsX8_areTanksToBlend := (fun _ h9 => List.mem_cons_of_mem _ ((List.mem_append_right _ h9)))
  have hin8 : ∀ w ∈ u_ws RX8 TX8 15, w ∈ wsX8_areTanksToBlend := (fun _ h9 => List.mem_cons_of_mem _ (List.mem_append_left _ ((List.mem_append_right _ h9))))
  have hl := lv_entry ([.ref h0, .int a1]) (n := 3) (Nat.le_of_ble_eq_true rfl)
  rw [lg_entry_eq]
  generalize (lg_sl ([.ref h0, .int a1]) ++ List.replicate (3 - (lg_sl ([.ref h0, .int a1])).length) Slot.unset).toArray = ls at hl ⊢
  have hl : lv_has ls 3 [(0, .ref h0), (1, .int a1)] := hl
  have X0 := X
  obtain ⟨k0, la, ta, ba, ra, sn, rd, dr, bl, vd, fb, k1, k2, k3, k4, k5, k6, c1, c2, c3, c4, t1, t2, t3, t4, g, bs, rs, e0, e1, u1, e2, u2, e3, u3, e4, u4, e5, fb1, e6, fr3, fr4, hT⟩ := X
  refine lv_iload_n hx hb dX8_areTanksToBlend_0 rfl (lv_at hl 1 rfl) ?_
  refine lv_bipush (v := 10) hx hb dX8_areTanksToBlend_1 (by decide) ?_
  refine lv_ishr hx hb dX8_areTanksToBlend_3 ?_
  refine lv_if_ne (tgt := 19) hx hb dX8_areTanksToBlend_4 (by decide) (fun c_1 => ?_) (fun c_1 => ?_)
  · refine lv_iconst (v := 0) hx hb dX8_areTanksToBlend_19 (by decide) ?_
    exact W.zret (v := 0) hx hb hr rfl (fun t ht hW => ⟨0, rfl, (by first | rfl | (simp_all; done) | simp [c_1]), ht⟩) (fun _ h9 => by cases h9) dX8_areTanksToBlend_20
  refine lv_iload_n hx hb dX8_areTanksToBlend_7 rfl (lv_at hl 1 rfl) ?_
  refine vp_callSi (W.runS (As := [.int a1]) (rest := []) ⟨hx, hb, hml, hown, hts⟩ (s_J6_bitCount l a1) (va_cwS 1 hts gX8_areTanksToBlend_J6_bitCount_0f7a4 rfl rfl rfl (by decide +kernel) ⟨Nat.le_of_ble_eq_true rfl, Nat.le_of_ble_eq_true rfl⟩) ⟨fun a U g mk q => q, fun U hU hW => ⟨rfl, trivial⟩⟩ rfl rfl hl.1 rfl (lv_room (Nat.le_of_ble_eq_true rfl)) dX8_areTanksToBlend_8 ⟨Nat.le_of_ble_eq_true rfl, Nat.le_of_ble_eq_true rfl⟩) (fun r_2 k_3 => ?_)
  refine lv_iconst (v := 1) hx hb dX8_areTanksToBlend_11 (by decide) ?_
  refine lv_iconst (v := 4) hx hb dX8_areTanksToBlend_12 (by decide) ?_
  refine vp_callSi (W.runS (As := [.int r_2, .int 1, .int 4]) (rest := []) ⟨hx, hb, hml, hown, hts⟩ (s_X8_isIn l r_2 1 4) (va_cwS 3 hts gX8_areTanksToBlend_X8_isIn rfl rfl rfl (by decide +kernel) ⟨Nat.le_of_ble_eq_true rfl, Nat.le_of_ble_eq_true rfl⟩) ⟨fun a U g mk q => q, fun U hU hW => ⟨rfl, trivial⟩⟩ rfl rfl hl.1 rfl (lv_room (Nat.le_of_ble_eq_true rfl)) dX8_areTanksToBlend_13 ⟨Nat.le_of_ble_eq_true rfl, Nat.le_of_ble_eq_true rfl⟩) (fun r_4 k_5 => ?_)
  rcases k_5 with ⟨rfl, a_6o⟩ | ⟨rfl, a_6, b_7⟩
  · refine lv_if_ne (tgt := 21) hx hb dX8_areTanksToBlend_16 (by decide) (fun c_8 => absurd (by decide) c_8) (fun c_8 => ?_)
    refine lv_iconst (v := 0) hx hb dX8_areTanksToBlend_19 (by decide) ?_
    exact W.zret (v := 0) hx hb hr rfl (fun t ht hW => ⟨0, rfl, (by rcases a_6o with a_6o | a_6o <;> simp_all), ht⟩) (fun _ h9 => by cases h9) dX8_areTanksToBlend_20
  refine lv_if_ne (tgt := 21) hx hb dX8_areTanksToBlend_16 (by decide) (fun c_9 => ?_) (fun c_9 => absurd c_9 (by decide))
  refine lv_iconst (v := 0) hx hb dX8_areTanksToBlend_21 (by decide) ?_
  refine lv_istore_n (lv' := [(2, .int 0), (0, .ref h0), (1, .int a1)]) hx hb dX8_areTanksToBlend_22 rfl hl (by decide) rfl (fun ls hl => ?_)
  refine lv_iload_n hx hb dX8_areTanksToBlend_23 rfl (lv_at hl 0 rfl) ?_
  refine lv_aload_n hx hb dX8_areTanksToBlend_24 rfl (lv_at hl 1 rfl) ?_
  refine va_get (D := D) (ci := 8) (v := .ref ta) (C := RX8) (T := TX8) (N := 15) hx hb hts hin8 hown hK hP k0 e0 rfl 1 (by decide) (hts (.fieldLink RX8 17 "HoneyHouse" "tanks" "[LHoneyHouse$Vessel;") (List.mem_of_getElem? (i := 1) rfl)) (fun _ h9 => h9) rfl dX8_areTanksToBlend_25 ?_
  refine va_alen (v := 10) hx hb hK hP k2 t2 e2 u2 rfl dX8_areTanksToBlend_28 ?_
  refine lv_icmp_ge (tgt := 69) hx hb dX8_areTanksToBlend_29 (by decide) (fun c_10 => absurd c_10 (by decide)) (fun c_10 => ?_)
  refine lv_iload_n hx hb dX8_areTanksToBlend_32 rfl (lv_at hl 2 rfl) ?_
  refine lv_iload_n hx hb dX8_areTanksToBlend_33 rfl (lv_at hl 0 rfl) ?_
  refine vp_callSi (W.runS (As := [.int a1, .int 0]) (rest := []) ⟨hx, hb, hml, hown, hts⟩ (s_X8_hasBit l a1 0) (va_cwS 2 hts gX8_areTanksToBlend_X8_hasBit rfl rfl rfl (by decide +kernel) ⟨Nat.le_of_ble_eq_true rfl, Nat.le_of_ble_eq_true rfl⟩) ⟨fun a U g mk q => q, fun U hU hW => ⟨rfl, trivial⟩⟩ rfl rfl hl.1 rfl (lv_room (Nat.le_of_ble_eq_true rfl)) dX8_areTanksToBlend_34 ⟨Nat.le_of_ble_eq_true rfl, Nat.le_of_ble_eq_true rfl⟩) (fun r_11 k_12 => ?_)
  rcases (or_comm.mp k_12) with rfl | ⟨rfl, a_13⟩
  · refine lv_if_eq (tgt := 63) hx hb dX8_areTanksToBlend_37 (by decide) (fun c_14 => absurd c_14 (by decide)) (fun c_14 => ?_)
    refine lv_aload_n hx hb dX8_areTanksToBlend_40 rfl (lv_at hl 1 rfl) ?_
    refine va_get (D := D) (ci := 8) (v := .ref ta) (C := RX8) (T := TX8) (N := 15) hx hb hts hin8 hown hK hP k0 e0 rfl 1 (by decide) (hts (.fieldLink RX8 17 "HoneyHouse" "tanks" "[LHoneyHouse$Vessel;") (List.mem_of_getElem? (i := 1) rfl)) (fun _ h9 => h9) rfl dX8_areTanksToBlend_41 ?_
    refine lv_iload_n hx hb dX8_areTanksToBlend_44 rfl (lv_at hl 0 rfl) ?_
    refine va_aldq (f := g) (n := 10) hx hb hK hP k2 t2 e2 u2 (vp_in_iff.mpr (by decide)) dX8_areTanksToBlend_45 ?_
    obtain ⟨v_15, kv_16, gr_17, kg_18, ci_19, ti_20, gv_21, ev_22, eg_23, ut_24⟩ := hT 0 (by omega)
    refine tp_v (y := .ref v_15) (by rw [show (0 : Int32).toNatClampNeg = 0 from by decide, gv_21]; rfl) ?_
    refine lv_ifnull hx hb dX8_areTanksToBlend_46 ?_
    refine lv_aload_n hx hb dX8_areTanksToBlend_49 rfl (lv_at hl 1 rfl) ?_
    refine va_get (D := D) (ci := 8) (v := .ref ta) (C := RX8) (T := TX8) (N := 15) hx hb hts hin8 hown hK hP k0 e0 rfl 1 (by decide) (hts (.fieldLink RX8 17 "HoneyHouse" "tanks" "[LHoneyHouse$Vessel;") (List.mem_of_getElem? (i := 1) rfl)) (fun _ h9 => h9) rfl dX8_areTanksToBlend_50 ?_
    refine lv_iload_n hx hb dX8_areTanksToBlend_53 rfl (lv_at hl 0 rfl) ?_
    refine va_aldq (f := g) (n := 10) hx hb hK hP k2 t2 e2 u2 (vp_in_iff.mpr (by decide)) dX8_areTanksToBlend_54 ?_
    obtain ⟨v_25, kv_26, gr_27, kg_28, ci_29, ti_30, gv_31, ev_32, eg_33, ut_34⟩ := hT 0 (by omega)
    refine tp_v (y := .ref v_25) (by rw [show (0 : Int32).toNatClampNeg = 0 from by decide, gv_31]; rfl) ?_
    refine va_get (D := D) (ci := 7) (v := .int 0) (C := RX7) (T := TX7) (N := 5) hx hb hts hin7 hown hK hP kv_26 ev_32 rfl 1 (by decide) (hts (.fieldLink RX8 144 "HoneyHouse$Vessel" "total" "I") (List.mem_of_getElem? (i := 2) rfl)) (fun _ h9 => h9) rfl dX8_areTanksToBlend_55 ?_
    refine lv_if_ne (tgt := 63) hx hb dX8_areTanksToBlend_58 (by decide) (fun c_35 => absurd (by decide) c_35) (fun c_35 => ?_)
    refine lv_iconst (v := 0) hx hb dX8_areTanksToBlend_61 (by decide) ?_
    exact W.zret (v := 0) hx hb hr rfl (fun t ht hW => ⟨0, rfl, (by first | rfl | (simp_all; done) | simp [c_1, k_3, a_6, b_7, c_9, c_10, c_14, c_35]), ht⟩) (fun _ h9 => by cases h9) dX8_areTanksToBlend_62
  refine lv_if_eq (tgt := 63) hx hb dX8_areTanksToBlend_37 (by decide) (fun c_36 => ?_) (fun c_36 => absurd (by decide) c_36)
  refine lv_iinc (v := 1) (lv' := [(2, .int 1), (0, .ref h0), (1, .int a1)]) hx hb dX8_areTanksToBlend_63 hl (k := 0) rfl (by decide) (by decide) rfl (fun ls hl => ?_)
  refine lv_goto (tgt := 23) hx hb dX8_areTanksToBlend_66 (by decide) ?_
  refine lv_iload_n hx hb dX8_areTanksToBlend_23 rfl (lv_at hl 0 rfl) ?_
  refine lv_aload_n hx hb dX8_areTanksToBlend_24 rfl (lv_at hl 1 rfl) ?_
  refine va_get (D := D) (ci := 8) (v := .ref ta) (C := RX8) (T := TX8) (N := 15) hx hb hts hin8 hown hK hP k0 e0 rfl 1 (by decide) (hts (.fieldLink RX8 17 "HoneyHouse" "tanks" "[LHoneyHouse$Vessel;") (List.mem_of_getElem? (i := 1) rfl)) (fun _ h9 => h9) rfl dX8_areTanksToBlend_25 ?_
  refine va_alen (v := 10) hx hb hK hP k2 t2 e2 u2 rfl dX8_areTanksToBlend_28 ?_
  refine lv_icmp_ge (tgt := 69) hx hb dX8_areTanksToBlend_29 (by decide) (fun c_37 => absurd c_37 (by decide)) (fun c_37 => ?_)
  refine lv_iload_n hx hb dX8_areTanksToBlend_32 rfl (lv_at hl 2 rfl) ?_
  refine lv_iload_n hx hb dX8_areTanksToBlend_33 rfl (lv_at hl 0 rfl) ?_
  refine vp_callSi (W.runS (As := [.int a1, .int 1]) (rest := []) ⟨hx, hb, hml, hown, hts⟩ (s_X8_hasBit l a1 1) (va_cwS 2 hts gX8_areTanksToBlend_X8_hasBit rfl rfl rfl (by decide +kernel) ⟨Nat.le_of_ble_eq_true rfl, Nat.le_of_ble_eq_true rfl⟩) ⟨fun a U g mk q => q, fun U hU hW => ⟨rfl, trivial⟩⟩ rfl rfl hl.1 rfl (lv_room (Nat.le_of_ble_eq_true rfl)) dX8_areTanksToBlend_34 ⟨Nat.le_of_ble_eq_true rfl, Nat.le_of_ble_eq_true rfl⟩) (fun r_38 k_39 => ?_)
  rcases (or_comm.mp k_39) with rfl | ⟨rfl, a_40⟩
  · refine lv_if_eq (tgt := 63) hx hb dX8_areTanksToBlend_37 (by decide) (fun c_41 => absurd c_41 (by decide)) (fun c_41 => ?_)
    refine lv_aload_n hx hb dX8_areTanksToBlend_40 rfl (lv_at hl 1 rfl) ?_
    refine va_get (D := D) (ci := 8) (v := .ref ta) (C := RX8) (T := TX8) (N := 15) hx hb hts hin8 hown hK hP k0 e0 rfl 1 (by decide) (hts (.fieldLink RX8 17 "HoneyHouse" "tanks" "[LHoneyHouse$Vessel;") (List.mem_of_getElem? (i := 1) rfl)) (fun _ h9 => h9) rfl dX8_areTanksToBlend_41 ?_
    refine lv_iload_n hx hb dX8_areTanksToBlend_44 rfl (lv_at hl 0 rfl) ?_
    refine va_aldq (f := g) (n := 10) hx hb hK hP k2 t2 e2 u2 (vp_in_iff.mpr (by decide)) dX8_areTanksToBlend_45 ?_
    obtain ⟨v_42, kv_43, gr_44, kg_45, ci_46, ti_47, gv_48, ev_49, eg_50, ut_51⟩ := hT 1 (by omega)
    refine tp_v (y := .ref v_42) (by rw [show (1 : Int32).toNatClampNeg = 1 from by decide, gv_48]; rfl) ?_
    refine lv_ifnull hx hb dX8_areTanksToBlend_46 ?_
    refine lv_aload_n hx hb dX8_areTanksToBlend_49 rfl (lv_at hl 1 rfl) ?_
    refine va_get (D := D) (ci := 8) (v := .ref ta) (C := RX8) (T := TX8) (N := 15) hx hb hts hin8 hown hK hP k0 e0 rfl 1 (by decide) (hts (.fieldLink RX8 17 "HoneyHouse" "tanks" "[LHoneyHouse$Vessel;") (List.mem_of_getElem? (i := 1) rfl)) (fun _ h9 => h9) rfl dX8_areTanksToBlend_50 ?_
    refine lv_iload_n hx hb dX8_areTanksToBlend_53 rfl (lv_at hl 0 rfl) ?_
    refine va_aldq (f := g) (n := 10) hx hb hK hP k2 t2 e2 u2 (vp_in_iff.mpr (by decide)) dX8_areTanksToBlend_54 ?_
    obtain ⟨v_52, kv_53, gr_54, kg_55, ci_56, ti_57, gv_58, ev_59, eg_60, ut_61⟩ := hT 1 (by omega)
    refine tp_v (y := .ref v_52) (by rw [show (1 : Int32).toNatClampNeg = 1 from by decide, gv_58]; rfl) ?_
    refine va_get (D := D) (ci := 7) (v := .int 0) (C := RX7) (T := TX7) (N := 5) hx hb hts hin7 hown hK hP kv_53 ev_59 rfl 1 (by decide) (hts (.fieldLink RX8 144 "HoneyHouse$Vessel" "total" "I") (List.mem_of_getElem? (i := 2) rfl)) (fun _ h9 => h9) rfl dX8_areTanksToBlend_55 ?_
    refine lv_if_ne (tgt := 63) hx hb dX8_areTanksToBlend_58 (by decide) (fun c_62 => absurd (by decide) c_62) (fun c_62 => ?_)
    refine lv_iconst (v := 0) hx hb dX8_areTanksToBlend_61 (by decide) ?_
    exact W.zret (v := 0) hx hb hr rfl (fun t ht hW => ⟨0, rfl, (by first | rfl | (simp_all; done) | simp [c_1, k_3, a_6, b_7, c_9, c_10, a_13, c_36, c_37, c_41, c_62]), ht⟩) (fun _ h9 => by cases h9) dX8_areTanksToBlend_62
  refine lv_if_eq (tgt := 63) hx hb dX8_areTanksToBlend_37 (by decide) (fun c_63 => ?_) (fun c_63 => absurd (by decide) c_63)
  refine lv_iinc (v := 2) (lv' := [(2, .int 2), (0, .ref h0), (1, .int a1)]) hx hb dX8_areTanksToBlend_63 hl (k := 0) rfl (by decide) (by decide) rfl (fun ls hl => ?_)
  refine lv_goto (tgt := 23) hx hb dX8_areTanksToBlend_66 (by decide) ?_
  refine lv_iload_n hx hb dX8_areTanksToBlend_23 rfl (lv_at hl 0 rfl) ?_
  refine lv_aload_n hx hb dX8_areTanksToBlend_24 rfl (lv_at hl 1 rfl) ?_
  refine va_get (D := D) (ci := 8) (v := .ref ta) (C := RX8) (T := TX8) (N := 15) hx hb hts hin8 hown hK hP k0 e0 rfl 1 (by decide) (hts (.fieldLink RX8 17 "HoneyHouse" "tanks" "[LHoneyHouse$Vessel;") (List.mem_of_getElem? (i := 1) rfl)) (fun _ h9 => h9) rfl dX8_areTanksToBlend_25 ?_
  refine va_alen (v := 10) hx hb hK hP k2 t2 e2 u2 rfl dX8_areTanksToBlend_28 ?_
  refine lv_icmp_ge (tgt := 69) hx hb dX8_areTanksToBlend_29 (by decide) (fun c_64 => absurd c_64 (by decide)) (fun c_64 => ?_)
  refine lv_iload_n hx hb dX8_areTanksToBlend_32 rfl (lv_at hl 2 rfl) ?_
  refine lv_iload_n hx hb dX8_areTanksToBlend_33 rfl (lv_at hl 0 rfl) ?_
  refine vp_callSi (W.runS (As := [.int a1, .int 2]) (rest := []) ⟨hx, hb, hml, hown, hts⟩ (s_X8_hasBit l a1 2) (va_cwS 2 hts gX8_areTanksToBlend_X8_hasBit rfl rfl rfl (by decide +kernel) ⟨Nat.le_of_ble_eq_true rfl, Nat.le_of_ble_eq_true rfl⟩) ⟨fun a U g mk q => q, fun U hU hW => ⟨rfl, trivial⟩⟩ rfl rfl hl.1 rfl (lv_room (Nat.le_of_ble_eq_true rfl)) dX8_areTanksToBlend_34 ⟨Nat.le_of_ble_eq_true rfl, Nat.le_of_ble_eq_true rfl⟩) (fun r_65 k_66 => ?_)
  rcases (or_comm.mp k_66) with rfl | ⟨rfl, a_67⟩
  · refine lv_if_eq (tgt := 63) hx hb dX8_areTanksToBlend_37 (by decide) (fun c_68 => absurd c_68 (by decide)) (fun c_68 => ?_)
    refine lv_aload_n hx hb dX8_areTanksToBlend_40 rfl (lv_at hl 1 rfl) ?_
    refine va_get (D := D) (ci := 8) (v := .ref ta) (C := RX8) (T := TX8) (N := 15) hx hb hts hin8 hown hK hP k0 e0 rfl 1 (by decide) (hts (.fieldLink RX8 17 "HoneyHouse" "tanks" "[LHoneyHouse$Vessel;") (List.mem_of_getElem? (i := 1) rfl)) (fun _ h9 => h9) rfl dX8_areTanksToBlend_41 ?_
    refine lv_iload_n hx hb dX8_areTanksToBlend_44 rfl (lv_at hl 0 rfl) ?_
    refine va_aldq (f := g) (n := 10) hx hb hK hP k2 t2 e2 u2 (vp_in_iff.mpr (by decide)) dX8_areTanksToBlend_45 ?_
    obtain ⟨v_69, kv_70, gr_71, kg_72, ci_73, ti_74, gv_75, ev_76, eg_77, ut_78⟩ := hT 2 (by omega)
    refine tp_v (y := .ref v_69) (by rw [show (2 : Int32).toNatClampNeg = 2 from by decide, gv_75]; rfl) ?_
    refine lv_ifnull hx hb dX8_areTanksToBlend_46 ?_
    refine lv_aload_n hx hb dX8_areTanksToBlend_49 rfl (lv_at hl 1 rfl) ?_
    refine va_get (D := D) (ci := 8) (v := .ref ta) (C := RX8) (T := TX8) (N := 15) hx hb hts hin8 hown hK hP k0 e0 rfl 1 (by decide) (hts (.fieldLink RX8 17 "HoneyHouse" "tanks" "[LHoneyHouse$Vessel;") (List.mem_of_getElem? (i := 1) rfl)) (fun _ h9 => h9) rfl dX8_areTanksToBlend_50 ?_
    refine lv_iload_n hx hb dX8_areTanksToBlend_53 rfl (lv_at hl 0 rfl) ?_
    refine va_aldq (f := g) (n := 10) hx hb hK hP k2 t2 e2 u2 (vp_in_iff.mpr (by decide)) dX8_areTanksToBlend_54 ?_
    obtain ⟨v_79, kv_80, gr_81, kg_82, ci_83, ti_84, gv_85, ev_86, eg_87, ut_88⟩ := hT 2 (by omega)
    refine tp_v (y := .ref v_79) (by rw [show (2 : Int32).toNatClampNeg = 2 from by decide, gv_85]; rfl) ?_
    refine va_get (D := D) (ci := 7) (v := .int 0) (C := RX7) (T := TX7) (N := 5) hx hb hts hin7 hown hK hP kv_80 ev_86 rfl 1 (by decide) (hts (.fieldLink RX8 144 "HoneyHouse$Vessel" "total" "I") (List.mem_of_getElem? (i := 2) rfl)) (fun _ h9 => h9) rfl dX8_areTanksToBlend_55 ?_
    refine lv_if_ne (tgt := 63) hx hb dX8_areTanksToBlend_58 (by decide) (fun c_89 => absurd (by decide) c_89) (fun c_89 => ?_)
    refine lv_iconst (v := 0) hx hb dX8_areTanksToBlend_61 (by decide) ?_
    exact W.zret (v := 0) hx hb hr rfl (fun t ht hW => ⟨0, rfl, (by first | rfl | (simp_all; done) | simp [c_1, k_3, a_6, b_7, c_9, c_10, a_13, c_36, c_37, a_40, c_63, c_64, c_68, c_89]), ht⟩) (fun _ h9 => by cases h9) dX8_areTanksToBlend_62
  refine lv_if_eq (tgt := 63) hx hb dX8_areTanksToBlend_37 (by decide) (fun c_90 => ?_) (fun c_90 => absurd (by decide) c_90)
  refine lv_iinc (v := 3) (lv' := [(2, .int 3), (0, .ref h0), (1, .int a1)]) hx hb dX8_areTanksToBlend_63 hl (k := 0) rfl (by decide) (by decide) rfl (fun ls hl => ?_)
  refine lv_goto (tgt := 23) hx hb dX8_areTanksToBlend_66 (by decide) ?_
  refine lv_iload_n hx hb dX8_areTanksToBlend_23 rfl (lv_at hl 0 rfl) ?_
  refine lv_aload_n hx hb dX8_areTanksToBlend_24 rfl (lv_at hl 1 rfl) ?_
  refine va_get (D := D) (ci := 8) (v := .ref ta) (C := RX8) (T := TX8) (N := 15) hx hb hts hin8 hown hK hP k0 e0 rfl 1 (by decide) (hts (.fieldLink RX8 17 "HoneyHouse" "tanks" "[LHoneyHouse$Vessel;") (List.mem_of_getElem? (i := 1) rfl)) (fun _ h9 => h9) rfl dX8_areTanksToBlend_25 ?_
  refine va_alen (v := 10) hx hb hK hP k2 t2 e2 u2 rfl dX8_areTanksToBlend_28 ?_
  refine lv_icmp_ge (tgt := 69) hx hb dX8_areTanksToBlend_29 (by decide) (fun c_91 => absurd c_91 (by decide)) (fun c_91 => ?_)
  refine lv_iload_n hx hb dX8_areTanksToBlend_32 rfl (lv_at hl 2 rfl) ?_
  refine lv_iload_n hx hb dX8_areTanksToBlend_33 rfl (lv_at hl 0 rfl) ?_
  refine vp_callSi (W.runS (As := [.int a1, .int 3]) (rest := []) ⟨hx, hb, hml, hown, hts⟩ (s_X8_hasBit l a1 3) (va_cwS 2 hts gX8_areTanksToBlend_X8_hasBit rfl rfl rfl (by decide +kernel) ⟨Nat.le_of_ble_eq_true rfl, Nat.le_of_ble_eq_true rfl⟩) ⟨fun a U g mk q => q, fun U hU hW => ⟨rfl, trivial⟩⟩ rfl rfl hl.1 rfl (lv_room (Nat.le_of_ble_eq_true rfl)) dX8_areTanksToBlend_34 ⟨Nat.le_of_ble_eq_true rfl, Nat.le_of_ble_eq_true rfl⟩) (fun r_92 k_93 => ?_)
  rcases (or_comm.mp k_93) with rfl | ⟨rfl, a_94⟩
  · refine lv_if_eq (tgt := 63) hx hb dX8_areTanksToBlend_37 (by decide) (fun c_95 => absurd c_95 (by decide)) (fun c_95 => ?_)
    refine lv_aload_n hx hb dX8_areTanksToBlend_40 rfl (lv_at hl 1 rfl) ?_
    refine va_get (D := D) (ci := 8) (v := .ref ta) (C := RX8) (T := TX8) (N := 15) hx hb hts hin8 hown hK hP k0 e0 rfl 1 (by decide) (hts (.fieldLink RX8 17 "HoneyHouse" "tanks" "[LHoneyHouse$Vessel;") (List.mem_of_getElem? (i := 1) rfl)) (fun _ h9 => h9) rfl dX8_areTanksToBlend_41 ?_
    refine lv_iload_n hx hb dX8_areTanksToBlend_44 rfl (lv_at hl 0 rfl) ?_
    refine va_aldq (f := g) (n := 10) hx hb hK hP k2 t2 e2 u2 (vp_in_iff.mpr (by decide)) dX8_areTanksToBlend_45 ?_
    obtain ⟨v_96, kv_97, gr_98, kg_99, ci_100, ti_101, gv_102, ev_103, eg_104, ut_105⟩ := hT 3 (by omega)
    refine tp_v (y := .ref v_96) (by rw [show (3 : Int32).toNatClampNeg = 3 from by decide, gv_102]; rfl) ?_
    refine lv_ifnull hx hb dX8_areTanksToBlend_46 ?_
    refine lv_aload_n hx hb dX8_areTanksToBlend_49 rfl (lv_at hl 1 rfl) ?_
    refine va_get (D := D) (ci := 8) (v := .ref ta) (C := RX8) (T := TX8) (N := 15) hx hb hts hin8 hown hK hP k0 e0 rfl 1 (by decide) (hts (.fieldLink RX8 17 "HoneyHouse" "tanks" "[LHoneyHouse$Vessel;") (List.mem_of_getElem? (i := 1) rfl)) (fun _ h9 => h9) rfl dX8_areTanksToBlend_50 ?_
    refine lv_iload_n hx hb dX8_areTanksToBlend_53 rfl (lv_at hl 0 rfl) ?_
    refine va_aldq (f := g) (n := 10) hx hb hK hP k2 t2 e2 u2 (vp_in_iff.mpr (by decide)) dX8_areTanksToBlend_54 ?_
    obtain ⟨v_106, kv_107, gr_108, kg_109, ci_110, ti_111, gv_112, ev_113, eg_114, ut_115⟩ := hT 3 (by omega)
    refine tp_v (y := .ref v_106) (by rw [show (3 : Int32).toNatClampNeg = 3 from by decide, gv_112]; rfl) ?_
    refine va_get (D := D) (ci := 7) (v := .int 0) (C := RX7) (T := TX7) (N := 5) hx hb hts hin7 hown hK hP kv_107 ev_113 rfl 1 (by decide) (hts (.fieldLink RX8 144 "HoneyHouse$Vessel" "total" "I") (List.mem_of_getElem? (i := 2) rfl)) (fun _ h9 => h9) rfl dX8_areTanksToBlend_55 ?_
    refine lv_if_ne (tgt := 63) hx hb dX8_areTanksToBlend_58 (by decide) (fun c_116 => absurd (by decide) c_116) (fun c_116 => ?_)
    refine lv_iconst (v := 0) hx hb dX8_areTanksToBlend_61 (by decide) ?_
    exact W.zret (v := 0) hx hb hr rfl (fun t ht hW => ⟨0, rfl, (by first | rfl | (simp_all; done) | simp [c_1, k_3, a_6, b_7, c_9, c_10, a_13, c_36, c_37, a_40, c_63, c_64, a_67, c_90, c_91, c_95, c_116]), ht⟩) (fun _ h9 => by cases h9) dX8_areTanksToBlend_62
  refine lv_if_eq (tgt := 63) hx hb dX8_areTanksToBlend_37 (by decide) (fun c_117 => ?_) (fun c_117 => absurd (by decide) c_117)
  refine lv_iinc (v := 4) (lv' := [(2, .int 4), (0, .ref h0), (1, .int a1)]) hx hb dX8_areTanksToBlend_63 hl (k := 0) rfl (by decide) (by decide) rfl (fun ls hl => ?_)
  refine lv_goto (tgt := 23) hx hb dX8_areTanksToBlend_66 (by decide) ?_
  refine lv_iload_n hx hb dX8_areTanksToBlend_23 rfl (lv_at hl 0 rfl) ?_
  refine lv_aload_n hx hb dX8_areTanksToBlend_24 rfl (lv_at hl 1 rfl) ?_
  refine va_get (D := D) (ci := 8) (v := .ref ta) (C := RX8) (T := TX8) (N := 15) hx hb hts hin8 hown hK hP k0 e0 rfl 1 (by decide) (hts (.fieldLink RX8 17 "HoneyHouse" "tanks" "[LHoneyHouse$Vessel;") (List.mem_of_getElem? (i := 1) rfl)) (fun _ h9 => h9) rfl dX8_areTanksToBlend_25 ?_
  refine va_alen (v := 10) hx hb hK hP k2 t2 e2 u2 rfl dX8_areTanksToBlend_28 ?_
  refine lv_icmp_ge (tgt := 69) hx hb dX8_areTanksToBlend_29 (by decide) (fun c_118 => absurd c_118 (by decide)) (fun c_118 => ?_)
  refine lv_iload_n hx hb dX8_areTanksToBlend_32 rfl (lv_at hl 2 rfl) ?_
  refine lv_iload_n hx hb dX8_areTanksToBlend_33 rfl (lv_at hl 0 rfl) ?_
  refine vp_callSi (W.runS (As := [.int a1, .int 4]) (rest := []) ⟨hx, hb, hml, hown, hts⟩ (s_X8_hasBit l a1 4) (va_cwS 2 hts gX8_areTanksToBlend_X8_hasBit rfl rfl rfl (by decide +kernel) ⟨Nat.le_of_ble_eq_true rfl, Nat.le_of_ble_eq_true rfl⟩) ⟨fun a U g mk q => q, fun U hU hW => ⟨rfl, trivial⟩⟩ rfl rfl hl.1 rfl (lv_room (Nat.le_of_ble_eq_true rfl)) dX8_areTanksToBlend_34 ⟨Nat.le_of_ble_eq_true rfl, Nat.le_of_ble_eq_true rfl⟩) (fun r_119 k_120 => ?_)
  rcases (or_comm.mp k_120) with rfl | ⟨rfl, a_121⟩
  · refine lv_if_eq (tgt := 63) hx hb dX8_areTanksToBlend_37 (by decide) (fun c_122 => absurd c_122 (by decide)) (fun c_122 => ?_)
    refine lv_aload_n hx hb dX8_areTanksToBlend_40 rfl (lv_at hl 1 rfl) ?_
    refine va_get (D := D) (ci := 8) (v := .ref ta) (C := RX8) (T := TX8) (N := 15) hx hb hts hin8 hown hK hP k0 e0 rfl 1 (by decide) (hts (.fieldLink RX8 17 "HoneyHouse" "tanks" "[LHoneyHouse$Vessel;") (List.mem_of_getElem? (i := 1) rfl)) (fun _ h9 => h9) rfl dX8_areTanksToBlend_41 ?_
    refine lv_iload_n hx hb dX8_areTanksToBlend_44 rfl (lv_at hl 0 rfl) ?_
    refine va_aldq (f := g) (n := 10) hx hb hK hP k2 t2 e2 u2 (vp_in_iff.mpr (by decide)) dX8_areTanksToBlend_45 ?_
    obtain ⟨v_123, kv_124, gr_125, kg_126, ci_127, ti_128, gv_129, ev_130, eg_131, ut_132⟩ := hT 4 (by omega)
    refine tp_v (y := .ref v_123) (by rw [show (4 : Int32).toNatClampNeg = 4 from by decide, gv_129]; rfl) ?_
    refine lv_ifnull hx hb dX8_areTanksToBlend_46 ?_
    refine lv_aload_n hx hb dX8_areTanksToBlend_49 rfl (lv_at hl 1 rfl) ?_
    refine va_get (D := D) (ci := 8) (v := .ref ta) (C := RX8) (T := TX8) (N := 15) hx hb hts hin8 hown hK hP k0 e0 rfl 1 (by decide) (hts (.fieldLink RX8 17 "HoneyHouse" "tanks" "[LHoneyHouse$Vessel;") (List.mem_of_getElem? (i := 1) rfl)) (fun _ h9 => h9) rfl dX8_areTanksToBlend_50 ?_
    refine lv_iload_n hx hb dX8_areTanksToBlend_53 rfl (lv_at hl 0 rfl) ?_
    refine va_aldq (f := g) (n := 10) hx hb hK hP k2 t2 e2 u2 (vp_in_iff.mpr (by decide)) dX8_areTanksToBlend_54 ?_
    obtain ⟨v_133, kv_134, gr_135, kg_136, ci_137, ti_138, gv_139, ev_140, eg_141, ut_142⟩ := hT 4 (by omega)
    refine tp_v (y := .ref v_133) (by rw [show (4 : Int32).toNatClampNeg = 4 from by decide, gv_139]; rfl) ?_
    refine va_get (D := D) (ci := 7) (v := .int 0) (C := RX7) (T := TX7) (N := 5) hx hb hts hin7 hown hK hP kv_134 ev_140 rfl 1 (by decide) (hts (.fieldLink RX8 144 "HoneyHouse$Vessel" "total" "I") (List.mem_of_getElem? (i := 2) rfl)) (fun _ h9 => h9) rfl dX8_areTanksToBlend_55 ?_
    refine lv_if_ne (tgt := 63) hx hb dX8_areTanksToBlend_58 (by decide) (fun c_143 => absurd (by decide) c_143) (fun c_143 => ?_)
    refine lv_iconst (v := 0) hx hb dX8_areTanksToBlend_61 (by decide) ?_
    exact W.zret (v := 0) hx hb hr rfl (fun t ht hW => ⟨0, rfl, (by first | rfl | (simp_all; done) | simp [c_1, k_3, a_6, b_7, c_9, c_10, a_13, c_36, c_37, a_40, c_63, c_64, a_67, c_90, c_91, a_94, c_117, c_118, c_122, c_143]), ht⟩) (fun _ h9 => by cases h9) dX8_areTanksToBlend_62
  refine lv_if_eq (tgt := 63) hx hb dX8_areTanksToBlend_37 (by decide) (fun c_144 => ?_) (fun c_144 => absurd (by decide) c_144)
  refine lv_iinc (v := 5) (lv' := [(2, .int 5), (0, .ref h0), (1, .int a1)]) hx hb dX8_areTanksToBlend_63 hl (k := 0) rfl (by decide) (by decide) rfl (fun ls hl => ?_)
  refine lv_goto (tgt := 23) hx hb dX8_areTanksToBlend_66 (by decide) ?_
  refine lv_iload_n hx hb dX8_areTanksToBlend_23 rfl (lv_at hl 0 rfl) ?_
  refine lv_aload_n hx hb dX8_areTanksToBlend_24 rfl (lv_at hl 1 rfl) ?_
  refine va_get (D := D) (ci := 8) (v := .ref ta) (C := RX8) (T := TX8) (N := 15) hx hb hts hin8 hown hK hP k0 e0 rfl 1 (by decide) (hts (.fieldLink RX8 17 "HoneyHouse" "tanks" "[LHoneyHouse$Vessel;") (List.mem_of_getElem? (i := 1) rfl)) (fun _ h9 => h9) rfl dX8_areTanksToBlend_25 ?_
  refine va_alen (v := 10) hx hb hK hP k2 t2 e2 u2 rfl dX8_areTanksToBlend_28 ?_
  refine lv_icmp_ge (tgt := 69) hx hb dX8_areTanksToBlend_29 (by decide) (fun c_145 => absurd c_145 (by decide)) (fun c_145 => ?_)
  refine lv_iload_n hx hb dX8_areTanksToBlend_32 rfl (lv_at hl 2 rfl) ?_
  refine lv_iload_n hx hb dX8_areTanksToBlend_33 rfl (lv_at hl 0 rfl) ?_
  refine vp_callSi (W.runS (As := [.int a1, .int 5]) (rest := []) ⟨hx, hb, hml, hown, hts⟩ (s_X8_hasBit l a1 5) (va_cwS 2 hts gX8_areTanksToBlend_X8_hasBit rfl rfl rfl (by decide +kernel) ⟨Nat.le_of_ble_eq_true rfl, Nat.le_of_ble_eq_true rfl⟩) ⟨fun a U g mk q => q, fun U hU hW => ⟨rfl, trivial⟩⟩ rfl rfl hl.1 rfl (lv_room (Nat.le_of_ble_eq_true rfl)) dX8_areTanksToBlend_34 ⟨Nat.le_of_ble_eq_true rfl, Nat.le_of_ble_eq_true rfl⟩) (fun r_146 k_147 => ?_)
  rcases (or_comm.mp k_147) with rfl | ⟨rfl, a_148⟩
  · refine lv_if_eq (tgt := 63) hx hb dX8_areTanksToBlend_37 (by decide) (fun c_149 => absurd c_149 (by decide)) (fun c_149 => ?_)
    refine lv_aload_n hx hb dX8_areTanksToBlend_40 rfl (lv_at hl 1 rfl) ?_
    refine va_get (D := D) (ci := 8) (v := .ref ta) (C := RX8) (T := TX8) (N := 15) hx hb hts hin8 hown hK hP k0 e0 rfl 1 (by decide) (hts (.fieldLink RX8 17 "HoneyHouse" "tanks" "[LHoneyHouse$Vessel;") (List.mem_of_getElem? (i := 1) rfl)) (fun _ h9 => h9) rfl dX8_areTanksToBlend_41 ?_
    refine lv_iload_n hx hb dX8_areTanksToBlend_44 rfl (lv_at hl 0 rfl) ?_
    refine va_aldq (f := g) (n := 10) hx hb hK hP k2 t2 e2 u2 (vp_in_iff.mpr (by decide)) dX8_areTanksToBlend_45 ?_
    obtain ⟨v_150, kv_151, gr_152, kg_153, ci_154, ti_155, gv_156, ev_157, eg_158, ut_159⟩ := hT 5 (by omega)
    refine tp_v (y := .ref v_150) (by rw [show (5 : Int32).toNatClampNeg = 5 from by decide, gv_156]; rfl) ?_
    refine lv_ifnull hx hb dX8_areTanksToBlend_46 ?_
    refine lv_aload_n hx hb dX8_areTanksToBlend_49 rfl (lv_at hl 1 rfl) ?_
    refine va_get (D := D) (ci := 8) (v := .ref ta) (C := RX8) (T := TX8) (N := 15) hx hb hts hin8 hown hK hP k0 e0 rfl 1 (by decide) (hts (.fieldLink RX8 17 "HoneyHouse" "tanks" "[LHoneyHouse$Vessel;") (List.mem_of_getElem? (i := 1) rfl)) (fun _ h9 => h9) rfl dX8_areTanksToBlend_50 ?_
    refine lv_iload_n hx hb dX8_areTanksToBlend_53 rfl (lv_at hl 0 rfl) ?_
    refine va_aldq (f := g) (n := 10) hx hb hK hP k2 t2 e2 u2 (vp_in_iff.mpr (by decide)) dX8_areTanksToBlend_54 ?_
    obtain ⟨v_160, kv_161, gr_162, kg_163, ci_164, ti_165, gv_166, ev_167, eg_168, ut_169⟩ := hT 5 (by omega)
    refine tp_v (y := .ref v_160) (by rw [show (5 : Int32).toNatClampNeg = 5 from by decide, gv_166]; rfl) ?_
    refine va_get (D := D) (ci := 7) (v := .int 0) (C := RX7) (T := TX7) (N := 5) hx hb hts hin7 hown hK hP kv_161 ev_167 rfl 1 (by decide) (hts (.fieldLink RX8 144 "HoneyHouse$Vessel" "total" "I") (List.mem_of_getElem? (i := 2) rfl)) (fun _ h9 => h9) rfl dX8_areTanksToBlend_55 ?_
    refine lv_if_ne (tgt := 63) hx hb dX8_areTanksToBlend_58 (by decide) (fun c_170 => absurd (by decide) c_170) (fun c_170 => ?_)
    refine lv_iconst (v := 0) hx hb dX8_areTanksToBlend_61 (by decide) ?_
    exact W.zret (v := 0) hx hb hr rfl (fun t ht hW => ⟨0, rfl, (by first | rfl | (simp_all; done) | simp [c_1, k_3, a_6, b_7, c_9, c_10, a_13, c_36, c_37, a_40, c_63, c_64, a_67, c_90, c_91, a_94, c_117, c_118, a_121, c_144, c_145, c_149, c_170]), ht⟩) (fun _ h9 => by cases h9) dX8_areTanksToBlend_62
  refine lv_if_eq (tgt := 63) hx hb dX8_areTanksToBlend_37 (by decide) (fun c_171 => ?_) (fun c_171 => absurd (by decide) c_171)
  refine lv_iinc (v := 6) (lv' := [(2, .int 6), (0, .ref h0), (1, .int a1)]) hx hb dX8_areTanksToBlend_63 hl (k := 0) rfl (by decide) (by decide) rfl (fun ls hl => ?_)
  refine lv_goto (tgt := 23) hx hb dX8_areTanksToBlend_66 (by decide) ?_
  refine lv_iload_n hx hb dX8_areTanksToBlend_23 rfl (lv_at hl 0 rfl) ?_
  refine lv_aload_n hx hb dX8_areTanksToBlend_24 rfl (lv_at hl 1 rfl) ?_
  refine va_get (D := D) (ci := 8) (v := .ref ta) (C := RX8) (T := TX8) (N := 15) hx hb hts hin8 hown hK hP k0 e0 rfl 1 (by decide) (hts (.fieldLink RX8 17 "HoneyHouse" "tanks" "[LHoneyHouse$Vessel;") (List.mem_of_getElem? (i := 1) rfl)) (fun _ h9 => h9) rfl dX8_areTanksToBlend_25 ?_
  refine va_alen (v := 10) hx hb hK hP k2 t2 e2 u2 rfl dX8_areTanksToBlend_28 ?_
  refine lv_icmp_ge (tgt := 69) hx hb dX8_areTanksToBlend_29 (by decide) (fun c_172 => absurd c_172 (by decide)) (fun c_172 => ?_)
  refine lv_iload_n hx hb dX8_areTanksToBlend_32 rfl (lv_at hl 2 rfl) ?_
  refine lv_iload_n hx hb dX8_areTanksToBlend_33 rfl (lv_at hl 0 rfl) ?_
  refine vp_callSi (W.runS (As := [.int a1, .int 6]) (rest := []) ⟨hx, hb, hml, hown, hts⟩ (s_X8_hasBit l a1 6) (va_cwS 2 hts gX8_areTanksToBlend_X8_hasBit rfl rfl rfl (by decide +kernel) ⟨Nat.le_of_ble_eq_true rfl, Nat.le_of_ble_eq_true rfl⟩) ⟨fun a U g mk q => q, fun U hU hW => ⟨rfl, trivial⟩⟩ rfl rfl hl.1 rfl (lv_room (Nat.le_of_ble_eq_true rfl)) dX8_areTanksToBlend_34 ⟨Nat.le_of_ble_eq_true rfl, Nat.le_of_ble_eq_true rfl⟩) (fun r_173 k_174 => ?_)
  rcases (or_comm.mp k_174) with rfl | ⟨rfl, a_175⟩
  · refine lv_if_eq (tgt := 63) hx hb dX8_areTanksToBlend_37 (by decide) (fun c_176 => absurd c_176 (by decide)) (fun c_176 => ?_)
    refine lv_aload_n hx hb dX8_areTanksToBlend_40 rfl (lv_at hl 1 rfl) ?_
    refine va_get (D := D) (ci := 8) (v := .ref ta) (C := RX8) (T := TX8) (N := 15) hx hb hts hin8 hown hK hP k0 e0 rfl 1 (by decide) (hts (.fieldLink RX8 17 "HoneyHouse" "tanks" "[LHoneyHouse$Vessel;") (List.mem_of_getElem? (i := 1) rfl)) (fun _ h9 => h9) rfl dX8_areTanksToBlend_41 ?_
    refine lv_iload_n hx hb dX8_areTanksToBlend_44 rfl (lv_at hl 0 rfl) ?_
    refine va_aldq (f := g) (n := 10) hx hb hK hP k2 t2 e2 u2 (vp_in_iff.mpr (by decide)) dX8_areTanksToBlend_45 ?_
    obtain ⟨v_177, kv_178, gr_179, kg_180, ci_181, ti_182, gv_183, ev_184, eg_185, ut_186⟩ := hT 6 (by omega)
    refine tp_v (y := .ref v_177) (by rw [show (6 : Int32).toNatClampNeg = 6 from by decide, gv_183]; rfl) ?_
    refine lv_ifnull hx hb dX8_areTanksToBlend_46 ?_
    refine lv_aload_n hx hb dX8_areTanksToBlend_49 rfl (lv_at hl 1 rfl) ?_
    refine va_get (D := D) (ci := 8) (v := .ref ta) (C := RX8) (T := TX8) (N := 15) hx hb hts hin8 hown hK hP k0 e0 rfl 1 (by decide) (hts (.fieldLink RX8 17 "HoneyHouse" "tanks" "[LHoneyHouse$Vessel;") (List.mem_of_getElem? (i := 1) rfl)) (fun _ h9 => h9) rfl dX8_areTanksToBlend_50 ?_
    refine lv_iload_n hx hb dX8_areTanksToBlend_53 rfl (lv_at hl 0 rfl) ?_
    refine va_aldq (f := g) (n := 10) hx hb hK hP k2 t2 e2 u2 (vp_in_iff.mpr (by decide)) dX8_areTanksToBlend_54 ?_
    obtain ⟨v_187, kv_188, gr_189, kg_190, ci_191, ti_192, gv_193, ev_194, eg_195, ut_196⟩ := hT 6 (by omega)
    refine tp_v (y := .ref v_187) (by rw [show (6 : Int32).toNatClampNeg = 6 from by decide, gv_193]; rfl) ?_
    refine va_get (D := D) (ci := 7) (v := .int 0) (C := RX7) (T := TX7) (N := 5) hx hb hts hin7 hown hK hP kv_188 ev_194 rfl 1 (by decide) (hts (.fieldLink RX8 144 "HoneyHouse$Vessel" "total" "I") (List.mem_of_getElem? (i := 2) rfl)) (fun _ h9 => h9) rfl dX8_areTanksToBlend_55 ?_
    refine lv_if_ne (tgt := 63) hx hb dX8_areTanksToBlend_58 (by decide) (fun c_197 => absurd (by decide) c_197) (fun c_197 => ?_)
    refine lv_iconst (v := 0) hx hb dX8_areTanksToBlend_61 (by decide) ?_
    exact W.zret (v := 0) hx hb hr rfl (fun t ht hW => ⟨0, rfl, (by first | rfl | (simp_all; done) | simp [c_1, k_3, a_6, b_7, c_9, c_10, a_13, c_36, c_37, a_40, c_63, c_64, a_67, c_90, c_91, a_94, c_117, c_118, a_121, c_144, c_145, a_148, c_171, c_172, c_176, c_197]), ht⟩) (fun _ h9 => by cases h9) dX8_areTanksToBlend_62
  refine lv_if_eq (tgt := 63) hx hb dX8_areTanksToBlend_37 (by decide) (fun c_198 => ?_) (fun c_198 => absurd (by decide) c_198)
  refine lv_iinc (v := 7) (lv' := [(2, .int 7), (0, .ref h0), (1, .int a1)]) hx hb dX8_areTanksToBlend_63 hl (k := 0) rfl (by decide) (by decide) rfl (fun ls hl => ?_)
  refine lv_goto (tgt := 23) hx hb dX8_areTanksToBlend_66 (by decide) ?_
  refine lv_iload_n hx hb dX8_areTanksToBlend_23 rfl (lv_at hl 0 rfl) ?_
  refine lv_aload_n hx hb dX8_areTanksToBlend_24 rfl (lv_at hl 1 rfl) ?_
  refine va_get (D := D) (ci := 8) (v := .ref ta) (C := RX8) (T := TX8) (N := 15) hx hb hts hin8 hown hK hP k0 e0 rfl 1 (by decide) (hts (.fieldLink RX8 17 "HoneyHouse" "tanks" "[LHoneyHouse$Vessel;") (List.mem_of_getElem? (i := 1) rfl)) (fun _ h9 => h9) rfl dX8_areTanksToBlend_25 ?_
  refine va_alen (v := 10) hx hb hK hP k2 t2 e2 u2 rfl dX8_areTanksToBlend_28 ?_
  refine lv_icmp_ge (tgt := 69) hx hb dX8_areTanksToBlend_29 (by decide) (fun c_199 => absurd c_199 (by decide)) (fun c_199 => ?_)
  refine lv_iload_n hx hb dX8_areTanksToBlend_32 rfl (lv_at hl 2 rfl) ?_
  refine lv_iload_n hx hb dX8_areTanksToBlend_33 rfl (lv_at hl 0 rfl) ?_
  refine vp_callSi (W.runS (As := [.int a1, .int 7]) (rest := []) ⟨hx, hb, hml, hown, hts⟩ (s_X8_hasBit l a1 7) (va_cwS 2 hts gX8_areTanksToBlend_X8_hasBit rfl rfl rfl (by decide +kernel) ⟨Nat.le_of_ble_eq_true rfl, Nat.le_of_ble_eq_true rfl⟩) ⟨fun a U g mk q => q, fun U hU hW => ⟨rfl, trivial⟩⟩ rfl rfl hl.1 rfl (lv_room (Nat.le_of_ble_eq_true rfl)) dX8_areTanksToBlend_34 ⟨Nat.le_of_ble_eq_true rfl, Nat.le_of_ble_eq_true rfl⟩) (fun r_200 k_201 => ?_)
  rcases (or_comm.mp k_201) with rfl | ⟨rfl, a_202⟩
  · refine lv_if_eq (tgt := 63) hx hb dX8_areTanksToBlend_37 (by decide) (fun c_203 => absurd c_203 (by decide)) (fun c_203 => ?_)
    refine lv_aload_n hx hb dX8_areTanksToBlend_40 rfl (lv_at hl 1 rfl) ?_
    refine va_get (D := D) (ci := 8) (v := .ref ta) (C := RX8) (T := TX8) (N := 15) hx hb hts hin8 hown hK hP k0 e0 rfl 1 (by decide) (hts (.fieldLink RX8 17 "HoneyHouse" "tanks" "[LHoneyHouse$Vessel;") (List.mem_of_getElem? (i := 1) rfl)) (fun _ h9 => h9) rfl dX8_areTanksToBlend_41 ?_
    refine lv_iload_n hx hb dX8_areTanksToBlend_44 rfl (lv_at hl 0 rfl) ?_
    refine va_aldq (f := g) (n := 10) hx hb hK hP k2 t2 e2 u2 (vp_in_iff.mpr (by decide)) dX8_areTanksToBlend_45 ?_
    obtain ⟨v_204, kv_205, gr_206, kg_207, ci_208, ti_209, gv_210, ev_211, eg_212, ut_213⟩ := hT 7 (by omega)
    refine tp_v (y := .ref v_204) (by rw [show (7 : Int32).toNatClampNeg = 7 from by decide, gv_210]; rfl) ?_
    refine lv_ifnull hx hb dX8_areTanksToBlend_46 ?_
    refine lv_aload_n hx hb dX8_areTanksToBlend_49 rfl (lv_at hl 1 rfl) ?_
    refine va_get (D := D) (ci := 8) (v := .ref ta) (C := RX8) (T := TX8) (N := 15) hx hb hts hin8 hown hK hP k0 e0 rfl 1 (by decide) (hts (.fieldLink RX8 17 "HoneyHouse" "tanks" "[LHoneyHouse$Vessel;") (List.mem_of_getElem? (i := 1) rfl)) (fun _ h9 => h9) rfl dX8_areTanksToBlend_50 ?_
    refine lv_iload_n hx hb dX8_areTanksToBlend_53 rfl (lv_at hl 0 rfl) ?_
    refine va_aldq (f := g) (n := 10) hx hb hK hP k2 t2 e2 u2 (vp_in_iff.mpr (by decide)) dX8_areTanksToBlend_54 ?_
    obtain ⟨v_214, kv_215, gr_216, kg_217, ci_218, ti_219, gv_220, ev_221, eg_222, ut_223⟩ := hT 7 (by omega)
    refine tp_v (y := .ref v_214) (by rw [show (7 : Int32).toNatClampNeg = 7 from by decide, gv_220]; rfl) ?_
    refine va_get (D := D) (ci := 7) (v := .int 0) (C := RX7) (T := TX7) (N := 5) hx hb hts hin7 hown hK hP kv_215 ev_221 rfl 1 (by decide) (hts (.fieldLink RX8 144 "HoneyHouse$Vessel" "total" "I") (List.mem_of_getElem? (i := 2) rfl)) (fun _ h9 => h9) rfl dX8_areTanksToBlend_55 ?_
    refine lv_if_ne (tgt := 63) hx hb dX8_areTanksToBlend_58 (by decide) (fun c_224 => absurd (by decide) c_224) (fun c_224 => ?_)
    refine lv_iconst (v := 0) hx hb dX8_areTanksToBlend_61 (by decide) ?_
    exact W.zret (v := 0) hx hb hr rfl (fun t ht hW => ⟨0, rfl, (by first | rfl | (simp_all; done) | simp [c_1, k_3, a_6, b_7, c_9, c_10, a_13, c_36, c_37, a_40, c_63, c_64, a_67, c_90, c_91, a_94, c_117, c_118, a_121, c_144, c_145, a_148, c_171, c_172, a_175, c_198, c_199, c_203, c_224]), ht⟩) (fun _ h9 => by cases h9) dX8_areTanksToBlend_62
  refine lv_if_eq (tgt := 63) hx hb dX8_areTanksToBlend_37 (by decide) (fun c_225 => ?_) (fun c_225 => absurd (by decide) c_225)
  refine lv_iinc (v := 8) (lv' := [(2, .int 8), (0, .ref h0), (1, .int a1)]) hx hb dX8_areTanksToBlend_63 hl (k := 0) rfl (by decide) (by decide) rfl (fun ls hl => ?_)
  refine lv_goto (tgt := 23) hx hb dX8_areTanksToBlend_66 (by decide) ?_
  refine lv_iload_n hx hb dX8_areTanksToBlend_23 rfl (lv_at hl 0 rfl) ?_
  refine lv_aload_n hx hb dX8_areTanksToBlend_24 rfl (lv_at hl 1 rfl) ?_
  refine va_get (D := D) (ci := 8) (v := .ref ta) (C := RX8) (T := TX8) (N := 15) hx hb hts hin8 hown hK hP k0 e0 rfl 1 (by decide) (hts (.fieldLink RX8 17 "HoneyHouse" "tanks" "[LHoneyHouse$Vessel;") (List.mem_of_getElem? (i := 1) rfl)) (fun _ h9 => h9) rfl dX8_areTanksToBlend_25 ?_
  refine va_alen (v := 10) hx hb hK hP k2 t2 e2 u2 rfl dX8_areTanksToBlend_28 ?_
  refine lv_icmp_ge (tgt := 69) hx hb dX8_areTanksToBlend_29 (by decide) (fun c_226 => absurd c_226 (by decide)) (fun c_226 => ?_)
  refine lv_iload_n hx hb dX8_areTanksToBlend_32 rfl (lv_at hl 2 rfl) ?_
  refine lv_iload_n hx hb dX8_areTanksToBlend_33 rfl (lv_at hl 0 rfl) ?_
  refine vp_callSi (W.runS (As := [.int a1, .int 8]) (rest := []) ⟨hx, hb, hml, hown, hts⟩ (s_X8_hasBit l a1 8) (va_cwS 2 hts gX8_areTanksToBlend_X8_hasBit rfl rfl rfl (by decide +kernel) ⟨Nat.le_of_ble_eq_true rfl, Nat.le_of_ble_eq_true rfl⟩) ⟨fun a U g mk q => q, fun U hU hW => ⟨rfl, trivial⟩⟩ rfl rfl hl.1 rfl (lv_room (Nat.le_of_ble_eq_true rfl)) dX8_areTanksToBlend_34 ⟨Nat.le_of_ble_eq_true rfl, Nat.le_of_ble_eq_true rfl⟩) (fun r_227 k_228 => ?_)
  rcases (or_comm.mp k_228) with rfl | ⟨rfl, a_229⟩
  · refine lv_if_eq (tgt := 63) hx hb dX8_areTanksToBlend_37 (by decide) (fun c_230 => absurd c_230 (by decide)) (fun c_230 => ?_)
    refine lv_aload_n hx hb dX8_areTanksToBlend_40 rfl (lv_at hl 1 rfl) ?_
    refine va_get (D := D) (ci := 8) (v := .ref ta) (C := RX8) (T := TX8) (N := 15) hx hb hts hin8 hown hK hP k0 e0 rfl 1 (by decide) (hts (.fieldLink RX8 17 "HoneyHouse" "tanks" "[LHoneyHouse$Vessel;") (List.mem_of_getElem? (i := 1) rfl)) (fun _ h9 => h9) rfl dX8_areTanksToBlend_41 ?_
    refine lv_iload_n hx hb dX8_areTanksToBlend_44 rfl (lv_at hl 0 rfl) ?_
    refine va_aldq (f := g) (n := 10) hx hb hK hP k2 t2 e2 u2 (vp_in_iff.mpr (by decide)) dX8_areTanksToBlend_45 ?_
    obtain ⟨v_231, kv_232, gr_233, kg_234, ci_235, ti_236, gv_237, ev_238, eg_239, ut_240⟩ := hT 8 (by omega)
    refine tp_v (y := .ref v_231) (by rw [show (8 : Int32).toNatClampNeg = 8 from by decide, gv_237]; rfl) ?_
    refine lv_ifnull hx hb dX8_areTanksToBlend_46 ?_
    refine lv_aload_n hx hb dX8_areTanksToBlend_49 rfl (lv_at hl 1 rfl) ?_
    refine va_get (D := D) (ci := 8) (v := .ref ta) (C := RX8) (T := TX8) (N := 15) hx hb hts hin8 hown hK hP k0 e0 rfl 1 (by decide) (hts (.fieldLink RX8 17 "HoneyHouse" "tanks" "[LHoneyHouse$Vessel;") (List.mem_of_getElem? (i := 1) rfl)) (fun _ h9 => h9) rfl dX8_areTanksToBlend_50 ?_
    refine lv_iload_n hx hb dX8_areTanksToBlend_53 rfl (lv_at hl 0 rfl) ?_
    refine va_aldq (f := g) (n := 10) hx hb hK hP k2 t2 e2 u2 (vp_in_iff.mpr (by decide)) dX8_areTanksToBlend_54 ?_
    obtain ⟨v_241, kv_242, gr_243, kg_244, ci_245, ti_246, gv_247, ev_248, eg_249, ut_250⟩ := hT 8 (by omega)
    refine tp_v (y := .ref v_241) (by rw [show (8 : Int32).toNatClampNeg = 8 from by decide, gv_247]; rfl) ?_
    refine va_get (D := D) (ci := 7) (v := .int 0) (C := RX7) (T := TX7) (N := 5) hx hb hts hin7 hown hK hP kv_242 ev_248 rfl 1 (by decide) (hts (.fieldLink RX8 144 "HoneyHouse$Vessel" "total" "I") (List.mem_of_getElem? (i := 2) rfl)) (fun _ h9 => h9) rfl dX8_areTanksToBlend_55 ?_
    refine lv_if_ne (tgt := 63) hx hb dX8_areTanksToBlend_58 (by decide) (fun c_251 => absurd (by decide) c_251) (fun c_251 => ?_)
    refine lv_iconst (v := 0) hx hb dX8_areTanksToBlend_61 (by decide) ?_
    exact W.zret (v := 0) hx hb hr rfl (fun t ht hW => ⟨0, rfl, (by first | rfl | (simp_all; done) | simp [c_1, k_3, a_6, b_7, c_9, c_10, a_13, c_36, c_37, a_40, c_63, c_64, a_67, c_90, c_91, a_94, c_117, c_118, a_121, c_144, c_145, a_148, c_171, c_172, a_175, c_198, c_199, a_202, c_225, c_226, c_230, c_251]), ht⟩) (fun _ h9 => by cases h9) dX8_areTanksToBlend_62
  refine lv_if_eq (tgt := 63) hx hb dX8_areTanksToBlend_37 (by decide) (fun c_252 => ?_) (fun c_252 => absurd (by decide) c_252)
  refine lv_iinc (v := 9) (lv' := [(2, .int 9), (0, .ref h0), (1, .int a1)]) hx hb dX8_areTanksToBlend_63 hl (k := 0) rfl (by decide) (by decide) rfl (fun ls hl => ?_)
  refine lv_goto (tgt := 23) hx hb dX8_areTanksToBlend_66 (by decide) ?_
  refine lv_iload_n hx hb dX8_areTanksToBlend_23 rfl (lv_at hl 0 rfl) ?_
  refine lv_aload_n hx hb dX8_areTanksToBlend_24 rfl (lv_at hl 1 rfl) ?_
  refine va_get (D := D) (ci := 8) (v := .ref ta) (C := RX8) (T := TX8) (N := 15) hx hb hts hin8 hown hK hP k0 e0 rfl 1 (by decide) (hts (.fieldLink RX8 17 "HoneyHouse" "tanks" "[LHoneyHouse$Vessel;") (List.mem_of_getElem? (i := 1) rfl)) (fun _ h9 => h9) rfl dX8_areTanksToBlend_25 ?_
  refine va_alen (v := 10) hx hb hK hP k2 t2 e2 u2 rfl dX8_areTanksToBlend_28 ?_
  refine lv_icmp_ge (tgt := 69) hx hb dX8_areTanksToBlend_29 (by decide) (fun c_253 => absurd c_253 (by decide)) (fun c_253 => ?_)
  refine lv_iload_n hx hb dX8_areTanksToBlend_32 rfl (lv_at hl 2 rfl) ?_
  refine lv_iload_n hx hb dX8_areTanksToBlend_33 rfl (lv_at hl 0 rfl) ?_
  refine vp_callSi (W.runS (As := [.int a1, .int 9]) (rest := []) ⟨hx, hb, hml, hown, hts⟩ (s_X8_hasBit l a1 9) (va_cwS 2 hts gX8_areTanksToBlend_X8_hasBit rfl rfl rfl (by decide +kernel) ⟨Nat.le_of_ble_eq_true rfl, Nat.le_of_ble_eq_true rfl⟩) ⟨fun a U g mk q => q, fun U hU hW => ⟨rfl, trivial⟩⟩ rfl rfl hl.1 rfl (lv_room (Nat.le_of_ble_eq_true rfl)) dX8_areTanksToBlend_34 ⟨Nat.le_of_ble_eq_true rfl, Nat.le_of_ble_eq_true rfl⟩) (fun r_254 k_255 => ?_)
  rcases (or_comm.mp k_255) with rfl | ⟨rfl, a_256⟩
  · refine lv_if_eq (tgt := 63) hx hb dX8_areTanksToBlend_37 (by decide) (fun c_257 => absurd c_257 (by decide)) (fun c_257 => ?_)
    refine lv_aload_n hx hb dX8_areTanksToBlend_40 rfl (lv_at hl 1 rfl) ?_
    refine va_get (D := D) (ci := 8) (v := .ref ta) (C := RX8) (T := TX8) (N := 15) hx hb hts hin8 hown hK hP k0 e0 rfl 1 (by decide) (hts (.fieldLink RX8 17 "HoneyHouse" "tanks" "[LHoneyHouse$Vessel;") (List.mem_of_getElem? (i := 1) rfl)) (fun _ h9 => h9) rfl dX8_areTanksToBlend_41 ?_
    refine lv_iload_n hx hb dX8_areTanksToBlend_44 rfl (lv_at hl 0 rfl) ?_
    refine va_aldq (f := g) (n := 10) hx hb hK hP k2 t2 e2 u2 (vp_in_iff.mpr (by decide)) dX8_areTanksToBlend_45 ?_
    obtain ⟨v_258, kv_259, gr_260, kg_261, ci_262, ti_263, gv_264, ev_265, eg_266, ut_267⟩ := hT 9 (by omega)
    refine tp_v (y := .ref v_258) (by rw [show (9 : Int32).toNatClampNeg = 9 from by decide, gv_264]; rfl) ?_
    refine lv_ifnull hx hb dX8_areTanksToBlend_46 ?_
    refine lv_aload_n hx hb dX8_areTanksToBlend_49 rfl (lv_at hl 1 rfl) ?_
    refine va_get (D := D) (ci := 8) (v := .ref ta) (C := RX8) (T := TX8) (N := 15) hx hb hts hin8 hown hK hP k0 e0 rfl 1 (by decide) (hts (.fieldLink RX8 17 "HoneyHouse" "tanks" "[LHoneyHouse$Vessel;") (List.mem_of_getElem? (i := 1) rfl)) (fun _ h9 => h9) rfl dX8_areTanksToBlend_50 ?_
    refine lv_iload_n hx hb dX8_areTanksToBlend_53 rfl (lv_at hl 0 rfl) ?_
    refine va_aldq (f := g) (n := 10) hx hb hK hP k2 t2 e2 u2 (vp_in_iff.mpr (by decide)) dX8_areTanksToBlend_54 ?_
    obtain ⟨v_268, kv_269, gr_270, kg_271, ci_272, ti_273, gv_274, ev_275, eg_276, ut_277⟩ := hT 9 (by omega)
    refine tp_v (y := .ref v_268) (by rw [show (9 : Int32).toNatClampNeg = 9 from by decide, gv_274]; rfl) ?_
    refine va_get (D := D) (ci := 7) (v := .int 0) (C := RX7) (T := TX7) (N := 5) hx hb hts hin7 hown hK hP kv_269 ev_275 rfl 1 (by decide) (hts (.fieldLink RX8 144 "HoneyHouse$Vessel" "total" "I") (List.mem_of_getElem? (i := 2) rfl)) (fun _ h9 => h9) rfl dX8_areTanksToBlend_55 ?_
    refine lv_if_ne (tgt := 63) hx hb dX8_areTanksToBlend_58 (by decide) (fun c_278 => absurd (by decide) c_278) (fun c_278 => ?_)
    refine lv_iconst (v := 0) hx hb dX8_areTanksToBlend_61 (by decide) ?_
    exact W.zret (v := 0) hx hb hr rfl (fun t ht hW => ⟨0, rfl, (by first | rfl | (simp_all; done) | simp [c_1, k_3, a_6, b_7, c_9, c_10, a_13, c_36, c_37, a_40, c_63, c_64, a_67, c_90, c_91, a_94, c_117, c_118, a_121, c_144, c_145, a_148, c_171, c_172, a_175, c_198, c_199, a_202, c_225, c_226, a_229, c_252, c_253, c_257, c_278]), ht⟩) (fun _ h9 => by cases h9) dX8_areTanksToBlend_62
  refine lv_if_eq (tgt := 63) hx hb dX8_areTanksToBlend_37 (by decide) (fun c_279 => ?_) (fun c_279 => absurd (by decide) c_279)
  refine lv_iinc (v := 10) (lv' := [(2, .int 10), (0, .ref h0), (1, .int a1)]) hx hb dX8_areTanksToBlend_63 hl (k := 0) rfl (by decide) (by decide) rfl (fun ls hl => ?_)
  refine lv_goto (tgt := 23) hx hb dX8_areTanksToBlend_66 (by decide) ?_
  refine lv_iload_n hx hb dX8_areTanksToBlend_23 rfl (lv_at hl 0 rfl) ?_
  refine lv_aload_n hx hb dX8_areTanksToBlend_24 rfl (lv_at hl 1 rfl) ?_
  refine va_get (D := D) (ci := 8) (v := .ref ta) (C := RX8) (T := TX8) (N := 15) hx hb hts hin8 hown hK hP k0 e0 rfl 1 (by decide) (hts (.fieldLink RX8 17 "HoneyHouse" "tanks" "[LHoneyHouse$Vessel;") (List.mem_of_getElem? (i := 1) rfl)) (fun _ h9 => h9) rfl dX8_areTanksToBlend_25 ?_
  refine va_alen (v := 10) hx hb hK hP k2 t2 e2 u2 rfl dX8_areTanksToBlend_28 ?_
  refine lv_icmp_ge (tgt := 69) hx hb dX8_areTanksToBlend_29 (by decide) (fun c_280 => ?_) (fun c_280 => absurd (by decide) c_280)
  obtain ⟨n9, hn9, rfl⟩ := shr10 c_1
  rcases Nat.eq_zero_or_pos n9 with z9 | z9
  · subst z9; rw [k_3 rfl] at a_6; exact absurd (by decide) a_6
  · exact absurd ⟨a_13, a_40, a_67, a_94, a_121, a_148, a_175, a_202, a_229, a_256⟩ (bits_n n9 hn9 z9)
set_option maxHeartbeats 4000000 in
set_option maxRecDepth 100000 in
theorem s_X8_blend (l : Launch) (D : va_G) (ws : va_W) (tys : List (ClassId × FieldType)) (h0 : Nat) (X : XF ws tys h0) (a1 a2 a3 a4 a5 : Int32) : Met l yX8_blend wsX8_blend ({ frames := 2, cells := 0, slots := 0, locals := 44 }) (va_Pc [.ref h0, .int a1, .int a2, .int a3, .int a4, .int a5] (fun U => va_P D vwCl ws U.heap ∧ va_K D vwCl tys U)) (vp_Si (fun r => r = (-1))) 0 0 (fun _ => False) := by
  refine Met.ofW (cc := cX8_blend) (maxL := 9) (ret := (some .int)) (by decide) rfl ?_
  intro p e s m args below meth c s₁ B hml hv
  obtain ⟨rfl, hP, hK⟩ := hv
  have hx := B.exec
  have hb := B.bytes
  have hr := B.returns
  have hts := atoms_spec (ws := wsX8_blend) B.pre
  have hown : s.vm.findClass RX8 = some m.cls := findClass_of_methodNamed B.named
  have hlocks := B.notSynchronized
  have hl := lv_entry ([.ref h0, .int a1, .int a2, .int a3, .int a4, .int a5]) (n := 9) (Nat.le_of_ble_eq_true rfl)
  rw [lg_entry_eq]
  generalize (lg_sl ([.ref h0, .int a1, .int a2, .int a3, .int a4, .int a5]) ++ List.replicate (9 - (lg_sl ([.ref h0, .int a1, .int a2, .int a3, .int a4, .int a5])).length) Slot.unset).toArray = ls at hl ⊢
  have hl : lv_has ls 9 [(0, .ref h0), (1, .int a1), (2, .int a2), (3, .int a3), (4, .int a4), (5, .int a5)] := hl
  have X0 := X
  obtain ⟨k0, la, ta, ba, ra, sn, rd, dr, bl, vd, fb, k1, k2, k3, k4, k5, k6, c1, c2, c3, c4, t1, t2, t3, t4, g, bs, rs, e0, e1, u1, e2, u2, e3, u3, e4, u4, e5, fb1, e6, fr3, fr4, hT⟩ := X
  refine lv_iload_n hx hb dX8_blend_0 rfl (lv_at hl 2 rfl) ?_
  refine lv_iconst (v := 1) hx hb dX8_blend_1 (by decide) ?_
  refine lv_bipush (v := 40) hx hb dX8_blend_2 (by decide) ?_
  refine vp_callSi (W.runS (As := [.int a2, .int 1, .int 40]) (rest := []) ⟨hx, hb, hml, hown, hts⟩ (s_X8_isIn l a2 1 40) (va_cwS 3 hts gX8_blend_X8_isIn rfl rfl rfl (by decide +kernel) ⟨Nat.le_of_ble_eq_true rfl, Nat.le_of_ble_eq_true rfl⟩) ⟨fun a U g mk q => q, fun U hU hW => ⟨rfl, trivial⟩⟩ rfl rfl hl.1 rfl (lv_room (Nat.le_of_ble_eq_true rfl)) dX8_blend_4 ⟨Nat.le_of_ble_eq_true rfl, Nat.le_of_ble_eq_true rfl⟩) (fun r_1 k_2 => ?_)
  rcases k_2 with ⟨rfl, -⟩ | ⟨rfl, -, -⟩
  · refine lv_if_eq (tgt := 49) hx hb dX8_blend_7 (by decide) (fun c_3 => ?_) (fun c_3 => absurd (by decide) c_3)
    refine lv_iconst (v := 0) hx hb dX8_blend_49 (by decide) ?_
    refine lv_istore (lv' := [(6, .int 0), (0, .ref h0), (1, .int a1), (2, .int a2), (3, .int a3), (4, .int a4), (5, .int a5)]) hx hb dX8_blend_50 hl (by decide) rfl (fun ls hl => ?_)
    refine lv_iload hx hb dX8_blend_52 (lv_at hl 0 rfl) ?_
    refine lv_if_eq (tgt := 65) hx hb dX8_blend_54 (by decide) (fun c_4 => ?_) (fun c_4 => absurd (by decide) c_4)
    refine lv_iconst (v := (-1)) hx hb dX8_blend_65 (by decide) ?_
    exact W.iret (v := (-1)) hx hb hr (fun t ht hW => ⟨(-1), rfl, (by first | rfl | (simp_all; done) | simp [c_3, c_4]), ht⟩) (fun _ h9 => by cases h9) dX8_blend_66
  refine lv_if_eq (tgt := 49) hx hb dX8_blend_7 (by decide) (fun c_5 => absurd c_5 (by decide)) (fun c_5 => ?_)
  refine lv_iload_n hx hb dX8_blend_10 rfl (lv_at hl 3 rfl) ?_
  refine lv_iconst (v := 0) hx hb dX8_blend_11 (by decide) ?_
  refine lv_sipush (v := 300) hx hb dX8_blend_12 (by decide) ?_
  refine vp_callSi (W.runS (As := [.int a3, .int 0, .int 300]) (rest := []) ⟨hx, hb, hml, hown, hts⟩ (s_X8_isIn l a3 0 300) (va_cwS 3 hts gX8_blend_X8_isIn rfl rfl rfl (by decide +kernel) ⟨Nat.le_of_ble_eq_true rfl, Nat.le_of_ble_eq_true rfl⟩) ⟨fun a U g mk q => q, fun U hU hW => ⟨rfl, trivial⟩⟩ rfl rfl hl.1 rfl (lv_room (Nat.le_of_ble_eq_true rfl)) dX8_blend_15 ⟨Nat.le_of_ble_eq_true rfl, Nat.le_of_ble_eq_true rfl⟩) (fun r_6 k_7 => ?_)
  rcases k_7 with ⟨rfl, -⟩ | ⟨rfl, -, -⟩
  · refine lv_if_eq (tgt := 49) hx hb dX8_blend_18 (by decide) (fun c_8 => ?_) (fun c_8 => absurd (by decide) c_8)
    refine lv_iconst (v := 0) hx hb dX8_blend_49 (by decide) ?_
    refine lv_istore (lv' := [(6, .int 0), (0, .ref h0), (1, .int a1), (2, .int a2), (3, .int a3), (4, .int a4), (5, .int a5)]) hx hb dX8_blend_50 hl (by decide) rfl (fun ls hl => ?_)
    refine lv_iload hx hb dX8_blend_52 (lv_at hl 0 rfl) ?_
    refine lv_if_eq (tgt := 65) hx hb dX8_blend_54 (by decide) (fun c_9 => ?_) (fun c_9 => absurd (by decide) c_9)
    refine lv_iconst (v := (-1)) hx hb dX8_blend_65 (by decide) ?_
    exact W.iret (v := (-1)) hx hb hr (fun t ht hW => ⟨(-1), rfl, (by first | rfl | (simp_all; done) | simp [c_5, c_8, c_9]), ht⟩) (fun _ h9 => by cases h9) dX8_blend_66
  refine lv_if_eq (tgt := 49) hx hb dX8_blend_18 (by decide) (fun c_10 => absurd c_10 (by decide)) (fun c_10 => ?_)
  refine lv_iload hx hb dX8_blend_21 (lv_at hl 4 rfl) ?_
  refine lv_iconst (v := 0) hx hb dX8_blend_23 (by decide) ?_
  refine lv_sipush (v := 140) hx hb dX8_blend_24 (by decide) ?_
  refine vp_callSi (W.runS (As := [.int a4, .int 0, .int 140]) (rest := []) ⟨hx, hb, hml, hown, hts⟩ (s_X8_isIn l a4 0 140) (va_cwS 3 hts gX8_blend_X8_isIn rfl rfl rfl (by decide +kernel) ⟨Nat.le_of_ble_eq_true rfl, Nat.le_of_ble_eq_true rfl⟩) ⟨fun a U g mk q => q, fun U hU hW => ⟨rfl, trivial⟩⟩ rfl rfl hl.1 rfl (lv_room (Nat.le_of_ble_eq_true rfl)) dX8_blend_27 ⟨Nat.le_of_ble_eq_true rfl, Nat.le_of_ble_eq_true rfl⟩) (fun r_11 k_12 => ?_)
  rcases k_12 with ⟨rfl, -⟩ | ⟨rfl, -, -⟩
  · refine lv_if_eq (tgt := 49) hx hb dX8_blend_30 (by decide) (fun c_13 => ?_) (fun c_13 => absurd (by decide) c_13)
    refine lv_iconst (v := 0) hx hb dX8_blend_49 (by decide) ?_
    refine lv_istore (lv' := [(6, .int 0), (0, .ref h0), (1, .int a1), (2, .int a2), (3, .int a3), (4, .int a4), (5, .int a5)]) hx hb dX8_blend_50 hl (by decide) rfl (fun ls hl => ?_)
    refine lv_iload hx hb dX8_blend_52 (lv_at hl 0 rfl) ?_
    refine lv_if_eq (tgt := 65) hx hb dX8_blend_54 (by decide) (fun c_14 => ?_) (fun c_14 => absurd (by decide) c_14)
    refine lv_iconst (v := (-1)) hx hb dX8_blend_65 (by decide) ?_
    exact W.iret (v := (-1)) hx hb hr (fun t ht hW => ⟨(-1), rfl, (by first | rfl | (simp_all; done) | simp [c_5, c_10, c_13, c_14]), ht⟩) (fun _ h9 => by cases h9) dX8_blend_66
  refine lv_if_eq (tgt := 49) hx hb dX8_blend_30 (by decide) (fun c_15 => absurd c_15 (by decide)) (fun c_15 => ?_)
  refine lv_iload hx hb dX8_blend_33 (lv_at hl 5 rfl) ?_
  refine lv_iconst (v := 0) hx hb dX8_blend_35 (by decide) ?_
  refine lv_sipush (v := 140) hx hb dX8_blend_36 (by decide) ?_
  refine vp_callSi (W.runS (As := [.int a5, .int 0, .int 140]) (rest := []) ⟨hx, hb, hml, hown, hts⟩ (s_X8_isIn l a5 0 140) (va_cwS 3 hts gX8_blend_X8_isIn rfl rfl rfl (by decide +kernel) ⟨Nat.le_of_ble_eq_true rfl, Nat.le_of_ble_eq_true rfl⟩) ⟨fun a U g mk q => q, fun U hU hW => ⟨rfl, trivial⟩⟩ rfl rfl hl.1 rfl (lv_room (Nat.le_of_ble_eq_true rfl)) dX8_blend_39 ⟨Nat.le_of_ble_eq_true rfl, Nat.le_of_ble_eq_true rfl⟩) (fun r_16 k_17 => ?_)
  rcases k_17 with ⟨rfl, -⟩ | ⟨rfl, -, -⟩
  · refine lv_if_eq (tgt := 49) hx hb dX8_blend_42 (by decide) (fun c_18 => ?_) (fun c_18 => absurd (by decide) c_18)
    refine lv_iconst (v := 0) hx hb dX8_blend_49 (by decide) ?_
    refine lv_istore (lv' := [(6, .int 0), (0, .ref h0), (1, .int a1), (2, .int a2), (3, .int a3), (4, .int a4), (5, .int a5)]) hx hb dX8_blend_50 hl (by decide) rfl (fun ls hl => ?_)
    refine lv_iload hx hb dX8_blend_52 (lv_at hl 0 rfl) ?_
    refine lv_if_eq (tgt := 65) hx hb dX8_blend_54 (by decide) (fun c_19 => ?_) (fun c_19 => absurd (by decide) c_19)
    refine lv_iconst (v := (-1)) hx hb dX8_blend_65 (by decide) ?_
    exact W.iret (v := (-1)) hx hb hr (fun t ht hW => ⟨(-1), rfl, (by first | rfl | (simp_all; done) | simp [c_5, c_10, c_15, c_18, c_19]), ht⟩) (fun _ h9 => by cases h9) dX8_blend_66
  refine lv_if_eq (tgt := 49) hx hb dX8_blend_42 (by decide) (fun c_20 => absurd c_20 (by decide)) (fun c_20 => ?_)
  refine lv_iconst (v := 1) hx hb dX8_blend_45 (by decide) ?_
  refine lv_goto (tgt := 50) hx hb dX8_blend_46 (by decide) ?_
  refine lv_istore (lv' := [(6, .int 1), (0, .ref h0), (1, .int a1), (2, .int a2), (3, .int a3), (4, .int a4), (5, .int a5)]) hx hb dX8_blend_50 hl (by decide) rfl (fun ls hl => ?_)
  refine lv_iload hx hb dX8_blend_52 (lv_at hl 0 rfl) ?_
  refine lv_if_eq (tgt := 65) hx hb dX8_blend_54 (by decide) (fun c_21 => absurd c_21 (by decide)) (fun c_21 => ?_)
  refine lv_aload_n hx hb dX8_blend_57 rfl (lv_at hl 1 rfl) ?_
  refine lv_iload_n hx hb dX8_blend_58 rfl (lv_at hl 2 rfl) ?_
  refine vp_callSi (W.runV (As := [.int a1]) (rest := []) ⟨hx, hb, hml, hown, hts⟩ (s_X8_areTanksToBlend l D ws tys h0 X0 a1) (cwV 1 hts gX8_blend_X8_areTanksToBlend rfl rfl rfl (by decide +kernel) ⟨Nat.le_of_ble_eq_true rfl, Nat.le_of_ble_eq_true rfl⟩) ⟨fun a U g mk q => ⟨q.1, q.2.1, va_K.moved (u := U) (U := U.calling g mk a) (Vm.Alike.refl U.vm) q.2.2⟩, va_recv hK hP (ci := 8) (q0 := k0) rfl e0, fun U hU hW => ⟨rfl, by rw [hU]; exact hP, va_K.moved hW.alike hK⟩⟩ rfl rfl hl.1 rfl (lv_room (Nat.le_of_ble_eq_true rfl)) dX8_blend_59 ⟨Nat.le_of_ble_eq_true rfl, Nat.le_of_ble_eq_true rfl⟩) (fun r_22 k_23 => ?_)
  subst k_23
  refine lv_if_ne (tgt := 67) hx hb dX8_blend_62 (by decide) (fun c_24 => absurd (by decide) c_24) (fun c_24 => ?_)
  refine lv_iconst (v := (-1)) hx hb dX8_blend_65 (by decide) ?_
  exact W.iret (v := (-1)) hx hb hr (fun t ht hW => ⟨(-1), rfl, (by first | rfl | (simp_all; done) | simp [c_5, c_10, c_15, c_20, c_21, c_24]), ht⟩) (fun _ h9 => by cases h9) dX8_blend_66
