theorem dX8_span_0 : decode cX8_span 0 = .ok (.aload_n 0, 1) := by decide +kernel
theorem dX8_span_1 : decode cX8_span 1 = .ok (.iload_n 1, 1) := by decide +kernel
theorem dX8_span_2 : decode cX8_span 2 = .ok (.invokevirtual 96, 3) := by decide +kernel
theorem dX8_span_5 : decode cX8_span 5 = .ok (.astore 4, 2) := by decide +kernel
theorem dX8_span_7 : decode cX8_span 7 = .ok (.aload 4, 2) := by decide +kernel
theorem dX8_span_9 : decode cX8_span 9 = .ok (.ifnull 21, 3) := by decide +kernel
theorem dX8_span_12 : decode cX8_span 12 = .ok (.iload_n 2, 1) := by decide +kernel
theorem dX8_span_13 : decode cX8_span 13 = .ok (.iconst 0, 1) := by decide +kernel
theorem dX8_span_14 : decode cX8_span 14 = .ok (.iconst 4, 1) := by decide +kernel
theorem dX8_span_15 : decode cX8_span 15 = .ok (.invokestatic 85, 3) := by decide +kernel
theorem dX8_span_18 : decode cX8_span 18 = .ok (.ifCond .eq 12, 3) := by decide +kernel
theorem dX8_span_21 : decode cX8_span 21 = .ok (.iload_n 3, 1) := by decide +kernel
theorem dX8_span_22 : decode cX8_span 22 = .ok (.iconst 0, 1) := by decide +kernel
theorem dX8_span_23 : decode cX8_span 23 = .ok (.iconst 1, 1) := by decide +kernel
theorem dX8_span_24 : decode cX8_span 24 = .ok (.invokestatic 85, 3) := by decide +kernel
theorem dX8_span_27 : decode cX8_span 27 = .ok (.ifCond .ne 5, 3) := by decide +kernel
theorem dX8_span_30 : decode cX8_span 30 = .ok (.iconst (-1), 1) := by decide +kernel
theorem dX8_span_31 : decode cX8_span 31 = .ok (.ireturn, 1) := by decide +kernel
theorem dX8_span_32 : decode cX8_span 32 = .ok (.iload_n 3, 1) := by decide +kernel
theorem dX8_span_33 : decode cX8_span 33 = .ok (.ifCond .ne 13, 3) := by decide +kernel
theorem dX8_span_36 : decode cX8_span 36 = .ok (.aload 4, 2) := by decide +kernel
theorem dX8_span_38 : decode cX8_span 38 = .ok (.getfield 100, 3) := by decide +kernel
theorem dX8_span_41 : decode cX8_span 41 = .ok (.iload_n 2, 1) := by decide +kernel
theorem dX8_span_42 : decode cX8_span 42 = .ok (.iaload, 1) := by decide +kernel
theorem dX8_span_43 : decode cX8_span 43 = .ok (.goto 10, 3) := by decide +kernel
theorem dX8_span_46 : decode cX8_span 46 = .ok (.aload 4, 2) := by decide +kernel
theorem dX8_span_48 : decode cX8_span 48 = .ok (.getfield 107, 3) := by decide +kernel
theorem dX8_span_51 : decode cX8_span 51 = .ok (.iload_n 2, 1) := by decide +kernel
theorem dX8_span_52 : decode cX8_span 52 = .ok (.iaload, 1) := by decide +kernel
theorem dX8_span_53 : decode cX8_span 53 = .ok (.ireturn, 1) := by decide +kernel
theorem dX8_test_0 : decode cX8_test 0 = .ok (.aload_n 0, 1) := by decide +kernel
theorem dX8_test_1 : decode cX8_test 1 = .ok (.iload_n 1, 1) := by decide +kernel
theorem dX8_test_2 : decode cX8_test 2 = .ok (.invokevirtual 96, 3) := by decide +kernel
theorem dX8_test_5 : decode cX8_test 5 = .ok (.astore_n 3, 1) := by decide +kernel
theorem dX8_test_6 : decode cX8_test 6 = .ok (.aload_n 3, 1) := by decide +kernel
theorem dX8_test_7 : decode cX8_test 7 = .ok (.ifnull 15, 3) := by decide +kernel
theorem dX8_test_10 : decode cX8_test 10 = .ok (.iload_n 2, 1) := by decide +kernel
theorem dX8_test_11 : decode cX8_test 11 = .ok (.bipush 100, 2) := by decide +kernel
theorem dX8_test_13 : decode cX8_test 13 = .ok (.sipush 300, 3) := by decide +kernel
theorem dX8_test_16 : decode cX8_test 16 = .ok (.invokestatic 85, 3) := by decide +kernel
theorem dX8_test_19 : decode cX8_test 19 = .ok (.ifCond .ne 6, 3) := by decide +kernel
theorem dX8_test_22 : decode cX8_test 22 = .ok (.ldc 110, 2) := by decide +kernel
theorem dX8_test_24 : decode cX8_test 24 = .ok (.ireturn, 1) := by decide +kernel
theorem dX8_test_25 : decode cX8_test 25 = .ok (.aload_n 3, 1) := by decide +kernel
theorem dX8_test_26 : decode cX8_test 26 = .ok (.getfield 111, 3) := by decide +kernel
theorem dX8_test_29 : decode cX8_test 29 = .ok (.istore 4, 2) := by decide +kernel
theorem dX8_test_31 : decode cX8_test 31 = .ok (.aload_n 3, 1) := by decide +kernel
theorem dX8_test_32 : decode cX8_test 32 = .ok (.iload_n 2, 1) := by decide +kernel
theorem dX8_test_33 : decode cX8_test 33 = .ok (.putfield 114, 3) := by decide +kernel
theorem dX8_test_36 : decode cX8_test 36 = .ok (.aload_n 3, 1) := by decide +kernel
theorem dX8_test_37 : decode cX8_test 37 = .ok (.aload_n 3, 1) := by decide +kernel
theorem dX8_test_38 : decode cX8_test 38 = .ok (.getfield 117, 3) := by decide +kernel
theorem dX8_test_41 : decode cX8_test 41 = .ok (.aload_n 3, 1) := by decide +kernel
theorem dX8_test_42 : decode cX8_test 42 = .ok (.getfield 120, 3) := by decide +kernel
theorem dX8_test_45 : decode cX8_test 45 = .ok (.iload_n 2, 1) := by decide +kernel
theorem dX8_test_46 : decode cX8_test 46 = .ok (.invokevirtual 123, 3) := by decide +kernel
theorem dX8_test_49 : decode cX8_test 49 = .ok (.putfield 111, 3) := by decide +kernel
theorem dX8_test_52 : decode cX8_test 52 = .ok (.aload_n 3, 1) := by decide +kernel
theorem dX8_test_53 : decode cX8_test 53 = .ok (.getfield 111, 3) := by decide +kernel
theorem dX8_test_56 : decode cX8_test 56 = .ok (.iload 4, 2) := by decide +kernel
theorem dX8_test_58 : decode cX8_test 58 = .ok (.isub, 1) := by decide +kernel
theorem dX8_test_59 : decode cX8_test 59 = .ok (.ireturn, 1) := by decide +kernel
theorem dX8_pollen_0 : decode cX8_pollen 0 = .ok (.aload_n 0, 1) := by decide +kernel
theorem dX8_pollen_1 : decode cX8_pollen 1 = .ok (.iload_n 1, 1) := by decide +kernel
theorem dX8_pollen_2 : decode cX8_pollen 2 = .ok (.invokevirtual 96, 3) := by decide +kernel
theorem dX8_pollen_5 : decode cX8_pollen 5 = .ok (.astore 5, 2) := by decide +kernel
theorem dX8_pollen_7 : decode cX8_pollen 7 = .ok (.aload 5, 2) := by decide +kernel
theorem dX8_pollen_9 : decode cX8_pollen 9 = .ok (.ifnull 12, 3) := by decide +kernel
theorem dX8_pollen_12 : decode cX8_pollen 12 = .ok (.iload_n 2, 1) := by decide +kernel
theorem dX8_pollen_13 : decode cX8_pollen 13 = .ok (.iconst 0, 1) := by decide +kernel
theorem dX8_pollen_14 : decode cX8_pollen 14 = .ok (.iconst 4, 1) := by decide +kernel
theorem dX8_pollen_15 : decode cX8_pollen 15 = .ok (.invokestatic 85, 3) := by decide +kernel
theorem dX8_pollen_18 : decode cX8_pollen 18 = .ok (.ifCond .ne 5, 3) := by decide +kernel
theorem dX8_pollen_21 : decode cX8_pollen 21 = .ok (.iconst 0, 1) := by decide +kernel
theorem dX8_pollen_22 : decode cX8_pollen 22 = .ok (.ireturn, 1) := by decide +kernel
theorem dX8_pollen_23 : decode cX8_pollen 23 = .ok (.iload_n 3, 1) := by decide +kernel
theorem dX8_pollen_24 : decode cX8_pollen 24 = .ok (.ifCond .lt 17, 3) := by decide +kernel
theorem dX8_pollen_27 : decode cX8_pollen 27 = .ok (.iload 4, 2) := by decide +kernel
theorem dX8_pollen_29 : decode cX8_pollen 29 = .ok (.sipush 1000, 3) := by decide +kernel
theorem dX8_pollen_32 : decode cX8_pollen 32 = .ok (.if_icmp .gt 9, 3) := by decide +kernel
theorem dX8_pollen_35 : decode cX8_pollen 35 = .ok (.iload_n 3, 1) := by decide +kernel
theorem dX8_pollen_36 : decode cX8_pollen 36 = .ok (.iload 4, 2) := by decide +kernel
theorem dX8_pollen_38 : decode cX8_pollen 38 = .ok (.if_icmp .le 5, 3) := by decide +kernel
theorem dX8_pollen_41 : decode cX8_pollen 41 = .ok (.iconst 0, 1) := by decide +kernel
theorem dX8_pollen_42 : decode cX8_pollen 42 = .ok (.ireturn, 1) := by decide +kernel
theorem dX8_pollen_43 : decode cX8_pollen 43 = .ok (.aload 5, 2) := by decide +kernel
theorem dX8_pollen_45 : decode cX8_pollen 45 = .ok (.getfield 100, 3) := by decide +kernel
theorem dX8_pollen_48 : decode cX8_pollen 48 = .ok (.iload_n 2, 1) := by decide +kernel
theorem dX8_pollen_49 : decode cX8_pollen 49 = .ok (.iload_n 3, 1) := by decide +kernel
theorem dX8_pollen_50 : decode cX8_pollen 50 = .ok (.invokestatic 103, 3) := by decide +kernel
theorem dX8_pollen_53 : decode cX8_pollen 53 = .ok (.sipush 1000, 3) := by decide +kernel
theorem dX8_pollen_56 : decode cX8_pollen 56 = .ok (.if_icmp .gt 20, 3) := by decide +kernel
theorem dX8_pollen_59 : decode cX8_pollen 59 = .ok (.aload 5, 2) := by decide +kernel
theorem dX8_pollen_61 : decode cX8_pollen 61 = .ok (.getfield 107, 3) := by decide +kernel
theorem dX8_pollen_64 : decode cX8_pollen 64 = .ok (.iload_n 2, 1) := by decide +kernel
theorem dX8_pollen_65 : decode cX8_pollen 65 = .ok (.iload 4, 2) := by decide +kernel
theorem dX8_pollen_67 : decode cX8_pollen 67 = .ok (.invokestatic 103, 3) := by decide +kernel
theorem dX8_pollen_70 : decode cX8_pollen 70 = .ok (.sipush 1000, 3) := by decide +kernel
theorem dX8_pollen_73 : decode cX8_pollen 73 = .ok (.if_icmp .ge 5, 3) := by decide +kernel
theorem dX8_pollen_76 : decode cX8_pollen 76 = .ok (.iconst 0, 1) := by decide +kernel
theorem dX8_pollen_77 : decode cX8_pollen 77 = .ok (.ireturn, 1) := by decide +kernel
theorem dX8_pollen_78 : decode cX8_pollen 78 = .ok (.aload 5, 2) := by decide +kernel
theorem dX8_pollen_80 : decode cX8_pollen 80 = .ok (.getfield 100, 3) := by decide +kernel
theorem dX8_pollen_83 : decode cX8_pollen 83 = .ok (.iload_n 2, 1) := by decide +kernel
theorem dX8_pollen_84 : decode cX8_pollen 84 = .ok (.iload_n 3, 1) := by decide +kernel
theorem dX8_pollen_85 : decode cX8_pollen 85 = .ok (.iastore, 1) := by decide +kernel
theorem dX8_pollen_86 : decode cX8_pollen 86 = .ok (.aload 5, 2) := by decide +kernel
theorem dX8_pollen_88 : decode cX8_pollen 88 = .ok (.getfield 107, 3) := by decide +kernel
theorem dX8_pollen_91 : decode cX8_pollen 91 = .ok (.iload_n 2, 1) := by decide +kernel
theorem dX8_pollen_92 : decode cX8_pollen 92 = .ok (.iload 4, 2) := by decide +kernel
theorem dX8_pollen_94 : decode cX8_pollen 94 = .ok (.iastore, 1) := by decide +kernel
theorem dX8_pollen_95 : decode cX8_pollen 95 = .ok (.iconst 1, 1) := by decide +kernel
theorem dX8_pollen_96 : decode cX8_pollen 96 = .ok (.ireturn, 1) := by decide +kernel
theorem dX8_step_0 : decode cX8_step 0 = .ok (.iload_n 1, 1) := by decide +kernel
theorem dX8_step_1 : decode cX8_step 1 = .ok (.iconst 0, 1) := by decide +kernel
theorem dX8_step_2 : decode cX8_step 2 = .ok (.iconst 3, 1) := by decide +kernel
theorem dX8_step_3 : decode cX8_step 3 = .ok (.invokestatic 85, 3) := by decide +kernel
theorem dX8_step_6 : decode cX8_step 6 = .ok (.ifCond .eq 24, 3) := by decide +kernel
theorem dX8_step_9 : decode cX8_step 9 = .ok (.iload_n 2, 1) := by decide +kernel
theorem dX8_step_10 : decode cX8_step 10 = .ok (.iconst 0, 1) := by decide +kernel
theorem dX8_step_11 : decode cX8_step 11 = .ok (.sipush 300, 3) := by decide +kernel
theorem dX8_step_14 : decode cX8_step 14 = .ok (.invokestatic 85, 3) := by decide +kernel
theorem dX8_step_17 : decode cX8_step 17 = .ok (.ifCond .eq 13, 3) := by decide +kernel
theorem dX8_step_20 : decode cX8_step 20 = .ok (.iload_n 3, 1) := by decide +kernel
theorem dX8_step_21 : decode cX8_step 21 = .ok (.iconst 0, 1) := by decide +kernel
theorem dX8_step_22 : decode cX8_step 22 = .ok (.ldc 239, 2) := by decide +kernel
theorem dX8_step_24 : decode cX8_step 24 = .ok (.invokestatic 85, 3) := by decide +kernel
theorem dX8_step_27 : decode cX8_step 27 = .ok (.ifCond .ne 5, 3) := by decide +kernel
theorem dX8_step_30 : decode cX8_step 30 = .ok (.iconst 0, 1) := by decide +kernel
theorem dX8_step_31 : decode cX8_step 31 = .ok (.ireturn, 1) := by decide +kernel
theorem dX8_step_32 : decode cX8_step 32 = .ok (.aload_n 0, 1) := by decide +kernel
theorem dX8_step_33 : decode cX8_step 33 = .ok (.getfield 33, 3) := by decide +kernel
theorem dX8_step_36 : decode cX8_step 36 = .ok (.getfield 240, 3) := by decide +kernel
theorem dX8_step_39 : decode cX8_step 39 = .ok (.iload_n 1, 1) := by decide +kernel
theorem dX8_step_40 : decode cX8_step 40 = .ok (.iload_n 2, 1) := by decide +kernel
theorem dX8_step_41 : decode cX8_step 41 = .ok (.iastore, 1) := by decide +kernel
theorem dX8_step_42 : decode cX8_step 42 = .ok (.aload_n 0, 1) := by decide +kernel
theorem dX8_step_43 : decode cX8_step 43 = .ok (.getfield 33, 3) := by decide +kernel
theorem dX8_step_46 : decode cX8_step 46 = .ok (.getfield 243, 3) := by decide +kernel
theorem dX8_step_49 : decode cX8_step 49 = .ok (.iload_n 1, 1) := by decide +kernel
theorem dX8_step_50 : decode cX8_step 50 = .ok (.iload_n 3, 1) := by decide +kernel
theorem dX8_step_51 : decode cX8_step 51 = .ok (.iastore, 1) := by decide +kernel
theorem dX8_step_52 : decode cX8_step 52 = .ok (.iconst 1, 1) := by decide +kernel
theorem dX8_step_53 : decode cX8_step 53 = .ok (.ireturn, 1) := by decide +kernel
theorem dX8_paid_0 : decode cX8_paid 0 = .ok (.iload_n 1, 1) := by decide +kernel
theorem dX8_paid_1 : decode cX8_paid 1 = .ok (.iconst 0, 1) := by decide +kernel
theorem dX8_paid_2 : decode cX8_paid 2 = .ok (.bipush 9, 2) := by decide +kernel
theorem dX8_paid_4 : decode cX8_paid 4 = .ok (.invokestatic 85, 3) := by decide +kernel
theorem dX8_paid_7 : decode cX8_paid 7 = .ok (.ifCond .ne 7, 3) := by decide +kernel
theorem dX8_paid_10 : decode cX8_paid 10 = .ok (.ldc2_w 246, 3) := by decide +kernel
theorem dX8_paid_13 : decode cX8_paid 13 = .ok (.lreturn, 1) := by decide +kernel
theorem dX8_paid_14 : decode cX8_paid 14 = .ok (.lconst 0, 1) := by decide +kernel
theorem dX8_paid_15 : decode cX8_paid 15 = .ok (.lstore_n 2, 1) := by decide +kernel
theorem dX8_paid_16 : decode cX8_paid 16 = .ok (.iconst 0, 1) := by decide +kernel
theorem dX8_paid_17 : decode cX8_paid 17 = .ok (.istore 4, 2) := by decide +kernel
theorem dX8_paid_19 : decode cX8_paid 19 = .ok (.iload 4, 2) := by decide +kernel
theorem dX8_paid_21 : decode cX8_paid 21 = .ok (.aload_n 0, 1) := by decide +kernel
theorem dX8_paid_22 : decode cX8_paid 22 = .ok (.getfield 11, 3) := by decide +kernel
theorem dX8_paid_25 : decode cX8_paid 25 = .ok (.arraylength, 1) := by decide +kernel
theorem dX8_paid_26 : decode cX8_paid 26 = .ok (.if_icmp .ge 41, 3) := by decide +kernel
theorem dX8_paid_29 : decode cX8_paid 29 = .ok (.aload_n 0, 1) := by decide +kernel
theorem dX8_paid_30 : decode cX8_paid 30 = .ok (.getfield 11, 3) := by decide +kernel
theorem dX8_paid_33 : decode cX8_paid 33 = .ok (.iload 4, 2) := by decide +kernel
theorem dX8_paid_35 : decode cX8_paid 35 = .ok (.aaload, 1) := by decide +kernel
theorem dX8_paid_36 : decode cX8_paid 36 = .ok (.astore 5, 2) := by decide +kernel
theorem dX8_paid_38 : decode cX8_paid 38 = .ok (.aload 5, 2) := by decide +kernel
theorem dX8_paid_40 : decode cX8_paid 40 = .ok (.ifnull 21, 3) := by decide +kernel
theorem dX8_paid_43 : decode cX8_paid 43 = .ok (.aload 5, 2) := by decide +kernel
theorem dX8_paid_45 : decode cX8_paid 45 = .ok (.getfield 127, 3) := by decide +kernel
theorem dX8_paid_48 : decode cX8_paid 48 = .ok (.iload_n 1, 1) := by decide +kernel
theorem dX8_paid_49 : decode cX8_paid 49 = .ok (.if_icmp .ne 12, 3) := by decide +kernel
theorem dX8_paid_52 : decode cX8_paid 52 = .ok (.lload_n 2, 1) := by decide +kernel
theorem dX8_paid_53 : decode cX8_paid 53 = .ok (.aload 5, 2) := by decide +kernel
theorem dX8_paid_55 : decode cX8_paid 55 = .ok (.getfield 111, 3) := by decide +kernel
theorem dX8_paid_58 : decode cX8_paid 58 = .ok (.i2l, 1) := by decide +kernel
theorem dX8_paid_59 : decode cX8_paid 59 = .ok (.ladd, 1) := by decide +kernel
theorem dX8_paid_60 : decode cX8_paid 60 = .ok (.lstore_n 2, 1) := by decide +kernel
theorem dX8_paid_61 : decode cX8_paid 61 = .ok (.iinc 4 1, 3) := by decide +kernel
theorem dX8_paid_64 : decode cX8_paid 64 = .ok (.goto (-45), 3) := by decide +kernel
theorem dX8_paid_67 : decode cX8_paid 67 = .ok (.lload_n 2, 1) := by decide +kernel
theorem dX8_paid_68 : decode cX8_paid 68 = .ok (.lreturn, 1) := by decide +kernel
set_option maxRecDepth 20000 in
theorem ggX8_span_X8_lotAt : GoodIn wsX8_span wsX8_lotAt := goodIn_r _ [7, 8, 9, 10, 6, 11, 22, 23, 24, 25, 26, 27, 28, 29, 30, 31, 32, 33, 34, 35, 36] rfl (by decide +kernel)
set_option maxRecDepth 20000 in
theorem gX8_span_X8_lotAt : GoodIn wsX8_span (wsV RX8 96 RX8 yX8_lotAt wsX8_lotAt) := goodIn_app (goodIn_of _ (by decide +kernel)) ggX8_span_X8_lotAt
set_option maxRecDepth 20000 in
theorem ggX8_span_X8_isIn : GoodIn wsX8_span wsX8_isIn := goodIn_r _ [11] rfl (by decide +kernel)
set_option maxRecDepth 20000 in
theorem gX8_span_X8_isIn : GoodIn wsX8_span (va_wsS RX8 85 yX8_isIn wsX8_isIn) := goodIn_app (goodIn_of _ (by decide +kernel)) ggX8_span_X8_isIn
set_option maxRecDepth 20000 in
theorem ggX8_test_X8_lotAt : GoodIn wsX8_test wsX8_lotAt := goodIn_r _ [10, 11, 12, 13, 9, 14, 33, 34, 35, 36, 37, 38, 39, 40, 41, 42, 43, 44, 45, 46, 47] rfl (by decide +kernel)
set_option maxRecDepth 20000 in
theorem gX8_test_X8_lotAt : GoodIn wsX8_test (wsV RX8 96 RX8 yX8_lotAt wsX8_lotAt) := goodIn_app (goodIn_of _ (by decide +kernel)) ggX8_test_X8_lotAt
set_option maxRecDepth 20000 in
theorem ggX8_test_X8_isIn : GoodIn wsX8_test wsX8_isIn := goodIn_r _ [14] rfl (by decide +kernel)
set_option maxRecDepth 20000 in
theorem gX8_test_X8_isIn : GoodIn wsX8_test (va_wsS RX8 85 yX8_isIn wsX8_isIn) := goodIn_app (goodIn_of _ (by decide +kernel)) ggX8_test_X8_isIn
set_option maxRecDepth 20000 in
theorem ggX8_test_X5_payFor : GoodIn wsX8_test wsX5_payFor := goodIn_r _ [19, 20, 21, 22, 48, 49] rfl (by decide +kernel)
set_option maxRecDepth 20000 in
theorem gX8_test_X5_payFor : GoodIn wsX8_test (wsV RX8 123 RX5 yX5_payFor wsX5_payFor) := goodIn_app (goodIn_of _ (by decide +kernel)) ggX8_test_X5_payFor
set_option maxRecDepth 20000 in
theorem ggX8_pollen_X8_lotAt : GoodIn wsX8_pollen wsX8_lotAt := goodIn_r _ [7, 8, 9, 10, 6, 11, 25, 26, 27, 28, 29, 30, 31, 32, 33, 34, 35, 36, 37, 38, 39] rfl (by decide +kernel)
set_option maxRecDepth 20000 in
theorem gX8_pollen_X8_lotAt : GoodIn wsX8_pollen (wsV RX8 96 RX8 yX8_lotAt wsX8_lotAt) := goodIn_app (goodIn_of _ (by decide +kernel)) ggX8_pollen_X8_lotAt
set_option maxRecDepth 20000 in
theorem ggX8_pollen_X8_isIn : GoodIn wsX8_pollen wsX8_isIn := goodIn_r _ [11] rfl (by decide +kernel)
set_option maxRecDepth 20000 in
theorem gX8_pollen_X8_isIn : GoodIn wsX8_pollen (va_wsS RX8 85 yX8_isIn wsX8_isIn) := goodIn_app (goodIn_of _ (by decide +kernel)) ggX8_pollen_X8_isIn
set_option maxRecDepth 20000 in
theorem ggX8_pollen_X8_sumWith : GoodIn wsX8_pollen wsX8_sumWith := goodIn_r _ [14] rfl (by decide +kernel)
set_option maxRecDepth 20000 in
theorem gX8_pollen_X8_sumWith : GoodIn wsX8_pollen (va_wsS RX8 103 yX8_sumWith wsX8_sumWith) := goodIn_app (goodIn_of _ (by decide +kernel)) ggX8_pollen_X8_sumWith
set_option maxRecDepth 20000 in
theorem ggX8_step_X8_isIn : GoodIn wsX8_step wsX8_isIn := goodIn_r _ [8] rfl (by decide +kernel)
set_option maxRecDepth 20000 in
theorem gX8_step_X8_isIn : GoodIn wsX8_step (va_wsS RX8 85 yX8_isIn wsX8_isIn) := goodIn_app (goodIn_of _ (by decide +kernel)) ggX8_step_X8_isIn
set_option maxRecDepth 20000 in
theorem ggX8_paid_X8_isIn : GoodIn wsX8_paid wsX8_isIn := goodIn_r _ [8] rfl (by decide +kernel)
set_option maxRecDepth 20000 in
theorem gX8_paid_X8_isIn : GoodIn wsX8_paid (va_wsS RX8 85 yX8_isIn wsX8_isIn) := goodIn_app (goodIn_of _ (by decide +kernel)) ggX8_paid_X8_isIn
set_option maxHeartbeats 4000000 in
set_option maxRecDepth 100000 in
theorem h_span (l : Launch) (D : va_G) (ρ : Nat → Nat) (ws : va_W) (tys : List (ClassId × FieldType)) (fv : Nat → Nat → Int32) (h0 lc bc rc fc : Nat) (dn : Int32) (tl : Nat) (a1 a2 a3 : Int32) (sz : Nat) (X : XI ρ fv ws tys h0 lc bc rc fc dn tl) : Met l yX8_span wsX8_span ({ frames := 2, cells := 0, slots := 0, locals := 43 }) (va_Pc [.ref h0, .int a1, .int a2, .int a3] (fun U => U.heap.size = sz ∧ va_P D vwCl ws U.heap ∧ va_K D vwCl tys U ∧ va_D (fun _ => True) ws)) (va_Qi (fun (r : Int32) (_ : Unit) => (spnN lc a1 a2 a3 ∧ r = (-1)) ∨ (¬ spnN lc a1 a2 a3 ∧ r = if a3 = 0 then fv 5 (5 * a1.toNatClampNeg + a2.toNatClampNeg) else fv 6 (5 * a1.toNatClampNeg + a2.toNatClampNeg))) (fun (_ : Unit) (t : State) => ∃ (ws' : va_W) (tys' : List (ClassId × FieldType)), tyx tys tys' ∧ va_P D vwCl ws' t.heap ∧ va_K D vwCl tys' t ∧ va_D (va_A ws sz) ws' ∧ (XI ρ fv ws' tys' h0 lc bc rc fc dn tl)) (va_A ws sz)) 0 0 (va_A ws sz) := by
  refine Met.ofW (cc := cX8_span) (maxL := 5) (ret := (some .int)) (by decide) rfl ?_
  intro p e s m args below meth c s₁ B hml hv
  obtain ⟨rfl, hsz, hP, hK, hD0⟩ := hv
  have hx := B.exec
  have hb := B.bytes
  have hr := B.returns
  have hts := atoms_spec (ws := wsX8_span) B.pre
  have hown : s.vm.findClass RX8 = some m.cls := findClass_of_methodNamed B.named
  have hlocks := B.notSynchronized
  subst hsz
  have hD := hD0.self (sz := s.heap.size)
  generalize hAe : va_A ws s.heap.size = A at hD ⊢
  have hA : ∀ q : Nat, s.heap.size ≤ q → A q := fun q h => by rw [← hAe]; exact Or.inr h
  have hS : va_S A s.heap s.heap [] := va_S.rf
  have hsm : sm ρ [] ws ws := sm.rf ws
  have htx : tyx tys tys := tyx.rf tys
  have hin2 : ∀ w ∈ u_ws RX2 TX2 10, w ∈ wsX8_span := (fun _ h9 => List.mem_cons_of_mem _ (List.mem_append_left _ ((List.mem_append_right _ h9))))
  have hl := lv_entry ([.ref h0, .int a1, .int a2, .int a3]) (n := 5) (Nat.le_of_ble_eq_true rfl)
  rw [lg_entry_eq]
  generalize (lg_sl ([.ref h0, .int a1, .int a2, .int a3]) ++ List.replicate (5 - (lg_sl ([.ref h0, .int a1, .int a2, .int a3])).length) Slot.unset).toArray = ls at hl ⊢
  have hl : lv_has ls 5 [(0, .ref h0), (1, .int a1), (2, .int a2), (3, .int a3)] := hl
  obtain ⟨k0, la, ta, ba, ra, sn, rd, dr, bl, vd, fb, e0, w0, hle0, hnum, qla, qta, qba, qra, qsn, qrd, qdr, qbl, qvd, qfb⟩ := id X
  obtain ⟨kla, cla, tla, fla, ela, ula, hla0, hla1⟩ := id qla
  have hlc := hnum.1
  refine lv_aload_n hx hb dX8_span_0 rfl (lv_at hl 0 rfl) ?_
  refine lv_iload_n hx hb dX8_span_1 rfl (lv_at hl 1 rfl) ?_
  refine va_csq (W.runV (As := [.int a1]) (rest := []) ⟨hx, hb, hml, hown, hts⟩ (s_X8_lotAt l D ws tys h0 k0 _ la kla cla fla tla a1 e0 rfl ela ula) (cwV 1 hts gX8_span_X8_lotAt rfl rfl rfl (by decide +kernel) ⟨Nat.le_of_ble_eq_true rfl, Nat.le_of_ble_eq_true rfl⟩) ⟨fun a U g mk q => ⟨q.1, q.2.1, va_K.moved (u := U) (U := U.calling g mk a) (Vm.Alike.refl U.vm) q.2.2⟩, va_recv hK hP (ci := 8) (q0 := k0) rfl e0, fun U hU hW => ⟨rfl, by rw [hU]; exact hP, va_K.moved hW.alike hK⟩⟩ rfl rfl hl.1 rfl (lv_room (Nat.le_of_ble_eq_true rfl)) dX8_span_2 ⟨Nat.le_of_ble_eq_true rfl, Nat.le_of_ble_eq_true rfl⟩) (fun r_1 k_2 => ?_)
  have hz_3 := lotx hlc hla0 hla1 k_2
  rcases hz_3 with ⟨rfl, o_4⟩ | ⟨a_5, b_6, hj_7, v_8, rfl, hg_9, hL_10⟩
  · refine tp_v (y := .null) rfl ?_
    refine lv_astoreN (lv' := [(4, .null), (0, .ref h0), (1, .int a1), (2, .int a2), (3, .int a3)]) hx hb dX8_span_5 hl (by decide) rfl (fun ls hl => ?_)
    refine lv_aloadN hx hb dX8_span_7 (lv_at hl 0 rfl) ?_
    refine lv_ifnullN (tgt := 30) hx hb dX8_span_9 (by decide) ?_
    refine lv_iconst (v := (-1)) hx hb dX8_span_30 (by decide) ?_
    exact W.iret (v := (-1)) hx hb hr (fun t ht hW => ⟨⟨(-1), (), rfl, Or.inl ⟨Or.inl o_4, rfl⟩, ws, tys, htx, by rw [ht]; exact hP, va_K.moved hW.alike hK, hD, X⟩, hS.F ht⟩) hS.2.2 dX8_span_31
  obtain ⟨k_11, lo_12, hi_13, st_14, e_15, wk_16, ⟨k_22, c9_23, t_24, f_25, e_26, u_27, wr_28, g_29⟩, ⟨k_30, c9_31, t_32, f_33, e_34, u_35, wr_36, g_37⟩, ks_17, ga_18, gb_19, es_20, wks_21, ⟨k_38, c9_39, t_40, f_41, e_42, u_43, wr_44, g_45⟩, ⟨k_46, c9_47, t_48, f_49, e_50, u_51, wr_52, g_53⟩⟩ := hL_10
  refine tp_v (y := .ref v_8) rfl ?_
  refine lv_astore (lv' := [(4, .ref v_8), (0, .ref h0), (1, .int a1), (2, .int a2), (3, .int a3)]) hx hb dX8_span_5 hl (by decide) rfl (fun ls hl => ?_)
  refine lv_aload hx hb dX8_span_7 (lv_at hl 0 rfl) ?_
  refine lv_ifnull hx hb dX8_span_9 ?_
  refine lv_iload_n hx hb dX8_span_12 rfl (lv_at hl 3 rfl) ?_
  refine lv_iconst (v := 0) hx hb dX8_span_13 (by decide) ?_
  refine lv_iconst (v := 4) hx hb dX8_span_14 (by decide) ?_
  refine vp_callSi (W.runS (As := [.int a2, .int 0, .int 4]) (rest := []) ⟨hx, hb, hml, hown, hts⟩ (s_X8_isIn l a2 0 4) (va_cwS 3 hts gX8_span_X8_isIn rfl rfl rfl (by decide +kernel) ⟨Nat.le_of_ble_eq_true rfl, Nat.le_of_ble_eq_true rfl⟩) ⟨fun a U g mk q => q, fun U hU hW => ⟨rfl, trivial⟩⟩ rfl rfl hl.1 rfl (lv_room (Nat.le_of_ble_eq_true rfl)) dX8_span_15 ⟨Nat.le_of_ble_eq_true rfl, Nat.le_of_ble_eq_true rfl⟩) (fun r_54 k_55 => ?_)
  rcases k_55 with ⟨rfl, a_56o⟩ | ⟨rfl, a_56, b_57⟩
  · refine lv_if_eq (tgt := 30) hx hb dX8_span_18 (by decide) (fun c_58 => ?_) (fun c_58 => absurd (by decide) c_58)
    refine lv_iconst (v := (-1)) hx hb dX8_span_30 (by decide) ?_
    exact W.iret (v := (-1)) hx hb hr (fun t ht hW => ⟨⟨(-1), (), rfl, Or.inl ⟨Or.inr (Or.inl a_56o), rfl⟩, ws, tys, htx, by rw [ht]; exact hP, va_K.moved hW.alike hK, hD, X⟩, hS.F ht⟩) hS.2.2 dX8_span_31
  refine lv_if_eq (tgt := 30) hx hb dX8_span_18 (by decide) (fun c_59 => absurd c_59 (by decide)) (fun c_59 => ?_)
  refine lv_iload_n hx hb dX8_span_21 rfl (lv_at hl 4 rfl) ?_
  refine lv_iconst (v := 0) hx hb dX8_span_22 (by decide) ?_
  refine lv_iconst (v := 1) hx hb dX8_span_23 (by decide) ?_
  refine vp_callSi (W.runS (As := [.int a3, .int 0, .int 1]) (rest := []) ⟨hx, hb, hml, hown, hts⟩ (s_X8_isIn l a3 0 1) (va_cwS 3 hts gX8_span_X8_isIn rfl rfl rfl (by decide +kernel) ⟨Nat.le_of_ble_eq_true rfl, Nat.le_of_ble_eq_true rfl⟩) ⟨fun a U g mk q => q, fun U hU hW => ⟨rfl, trivial⟩⟩ rfl rfl hl.1 rfl (lv_room (Nat.le_of_ble_eq_true rfl)) dX8_span_24 ⟨Nat.le_of_ble_eq_true rfl, Nat.le_of_ble_eq_true rfl⟩) (fun r_60 k_61 => ?_)
  rcases k_61 with ⟨rfl, a_62o⟩ | ⟨rfl, a_62, b_63⟩
  · refine lv_if_ne (tgt := 32) hx hb dX8_span_27 (by decide) (fun c_64 => absurd (by decide) c_64) (fun c_64 => ?_)
    refine lv_iconst (v := (-1)) hx hb dX8_span_30 (by decide) ?_
    exact W.iret (v := (-1)) hx hb hr (fun t ht hW => ⟨⟨(-1), (), rfl, Or.inl ⟨Or.inr (Or.inr (a_62o)), rfl⟩, ws, tys, htx, by rw [ht]; exact hP, va_K.moved hW.alike hK, hD, X⟩, hS.F ht⟩) hS.2.2 dX8_span_31
  refine lv_if_ne (tgt := 32) hx hb dX8_span_27 (by decide) (fun c_65 => ?_) (fun c_65 => absurd c_65 (by decide))
  refine lv_iload_n hx hb dX8_span_32 rfl (lv_at hl 4 rfl) ?_
  refine lv_if_ne (tgt := 46) hx hb dX8_span_33 (by decide) (fun c_66 => ?_) (fun c_66 => ?_)
  · refine lv_aload hx hb dX8_span_46 (lv_at hl 0 rfl) ?_
    refine va_get (D := D) (ci := 2) (v := .ref hi_13) (C := RX2) (T := TX2) (N := 10) hx hb hts hin2 hown hK hP k_11 e_15 rfl 5 (by decide) (hts (.fieldLink RX8 107 "HoneyHouse$Lot" "high" "[I") (List.mem_of_getElem? (i := 2) rfl)) (fun _ h9 => h9) rfl dX8_span_48 ?_
    refine lv_iload_n hx hb dX8_span_51 rfl (lv_at hl 3 rfl) ?_
    refine va_iald (f := f_33) (n := 5) hx hb hK hP k_30 t_32 e_34 u_35 (i_in a_56 b_57 (by decide)) dX8_span_52 ?_
    exact W.iret (v := f_33 a2.toNatClampNeg) hx hb hr (fun t ht hW => ⟨⟨f_33 a2.toNatClampNeg, (), rfl, Or.inr ⟨(fun h => Or.elim h (fun h => Or.elim h a_5 b_6) (fun h => Or.elim h (fun h => Or.elim h a_56 b_57) (fun h => Or.elim h a_62 b_63))), by rw [if_neg c_66]; exact g_37 _ (cl_lt a_56 b_57 (by decide))⟩, ws, tys, htx, by rw [ht]; exact hP, va_K.moved hW.alike hK, hD, X⟩, hS.F ht⟩) hS.2.2 dX8_span_53
  refine lv_aload hx hb dX8_span_36 (lv_at hl 0 rfl) ?_
  refine va_get (D := D) (ci := 2) (v := .ref lo_12) (C := RX2) (T := TX2) (N := 10) hx hb hts hin2 hown hK hP k_11 e_15 rfl 4 (by decide) (hts (.fieldLink RX8 100 "HoneyHouse$Lot" "low" "[I") (List.mem_of_getElem? (i := 1) rfl)) (fun _ h9 => h9) rfl dX8_span_38 ?_
  refine lv_iload_n hx hb dX8_span_41 rfl (lv_at hl 3 rfl) ?_
  refine va_iald (f := f_25) (n := 5) hx hb hK hP k_22 t_24 e_26 u_27 (i_in a_56 b_57 (by decide)) dX8_span_42 ?_
  refine lv_goto (tgt := 53) hx hb dX8_span_43 (by decide) ?_
  exact W.iret (v := f_25 a2.toNatClampNeg) hx hb hr (fun t ht hW => ⟨⟨f_25 a2.toNatClampNeg, (), rfl, Or.inr ⟨(fun h => Or.elim h (fun h => Or.elim h a_5 b_6) (fun h => Or.elim h (fun h => Or.elim h a_56 b_57) (fun h => Or.elim h a_62 b_63))), by rw [if_pos c_66]; exact g_29 _ (cl_lt a_56 b_57 (by decide))⟩, ws, tys, htx, by rw [ht]; exact hP, va_K.moved hW.alike hK, hD, X⟩, hS.F ht⟩) hS.2.2 dX8_span_53
set_option maxHeartbeats 4000000 in
set_option maxRecDepth 100000 in
theorem h_test (l : Launch) (D : va_G) (ρ : Nat → Nat) (ws : va_W) (tys : List (ClassId × FieldType)) (fv : Nat → Nat → Int32) (h0 lc bc rc fc : Nat) (dn : Int32) (tl : Nat) (a1 a2 : Int32) (sz : Nat) (X : XI ρ fv ws tys h0 lc bc rc fc dn tl) : Met l yX8_test wsX8_test ({ frames := 2, cells := 0, slots := 0, locals := 43 }) (va_Pc [.ref h0, .int a1, .int a2] (fun U => U.heap.size = sz ∧ va_P D vwCl ws U.heap ∧ va_K D vwCl tys U ∧ va_D (fun _ => True) ws)) (va_Qi (fun (r : Int32) (_ : Unit) => (tesN lc a1 a2 ∧ r = (-1000000000)) ∨ (¬ tesN lc a1 a2 ∧ r = payL (fv 4) (fv 7) a1.toNatClampNeg a2 - fv 4 (7 * a1.toNatClampNeg + 6))) (fun (_ : Unit) (t : State) => ∃ (ws' : va_W) (tys' : List (ClassId × FieldType)), tyx tys tys' ∧ va_P D vwCl ws' t.heap ∧ va_K D vwCl tys' t ∧ va_D (va_A ws sz) ws' ∧ ((tesN lc a1 a2 ∧ XI ρ fv ws' tys' h0 lc bc rc fc dn tl) ∨ (¬ tesN lc a1 a2 ∧ XI ρ (uF fv 4 (tesF (fv 4) (fv 7) a1.toNatClampNeg a2)) ws' tys' h0 lc bc rc fc dn tl))) (va_A ws sz)) 0 0 (va_A ws sz) := by
  refine Met.ofW (cc := cX8_test) (maxL := 5) (ret := (some .int)) (by decide) rfl ?_
  intro p e s m args below meth c s₁ B hml hv
  obtain ⟨rfl, hsz, hP, hK, hD0⟩ := hv
  have hx := B.exec
  have hb := B.bytes
  have hr := B.returns
  have hts := atoms_spec (ws := wsX8_test) B.pre
  have hown : s.vm.findClass RX8 = some m.cls := findClass_of_methodNamed B.named
  have hlocks := B.notSynchronized
  subst hsz
  have hD := hD0.self (sz := s.heap.size)
  generalize hAe : va_A ws s.heap.size = A at hD ⊢
  have hA : ∀ q : Nat, s.heap.size ≤ q → A q := fun q h => by rw [← hAe]; exact Or.inr h
  have hS : va_S A s.heap s.heap [] := va_S.rf
  have hsm : sm (ux ρ (8 * a1.toNatClampNeg + 1) (8 * a1.toNatClampNeg + 1)) [2] ws ws := sm.rf ws
  have htx : tyx tys tys := tyx.rf tys
  have hin2 : ∀ w ∈ u_ws RX2 TX2 10, w ∈ wsX8_test := (fun _ h9 => List.mem_cons_of_mem _ (List.mem_append_left _ (List.mem_append_left _ ((List.mem_append_right _ h9)))))
  have hl := lv_entry ([.ref h0, .int a1, .int a2]) (n := 5) (Nat.le_of_ble_eq_true rfl)
  rw [lg_entry_eq]
  generalize (lg_sl ([.ref h0, .int a1, .int a2]) ++ List.replicate (5 - (lg_sl ([.ref h0, .int a1, .int a2])).length) Slot.unset).toArray = ls at hl ⊢
  have hl : lv_has ls 5 [(0, .ref h0), (1, .int a1), (2, .int a2)] := hl
  obtain ⟨k0, la, ta, ba, ra, sn, rd, dr, bl, vd, fb, e0, w0, hle0, hnum, qla, qta, qba, qra, qsn, qrd, qdr, qbl, qvd, qfb⟩ := id X
  obtain ⟨kla, cla, tla, fla, ela, ula, hla0, hla1⟩ := id qla
  have hlc := hnum.1
  refine lv_aload_n hx hb dX8_test_0 rfl (lv_at hl 0 rfl) ?_
  refine lv_iload_n hx hb dX8_test_1 rfl (lv_at hl 1 rfl) ?_
  refine va_csq (W.runV (As := [.int a1]) (rest := []) ⟨hx, hb, hml, hown, hts⟩ (s_X8_lotAt l D ws tys h0 k0 _ la kla cla fla tla a1 e0 rfl ela ula) (cwV 1 hts gX8_test_X8_lotAt rfl rfl rfl (by decide +kernel) ⟨Nat.le_of_ble_eq_true rfl, Nat.le_of_ble_eq_true rfl⟩) ⟨fun a U g mk q => ⟨q.1, q.2.1, va_K.moved (u := U) (U := U.calling g mk a) (Vm.Alike.refl U.vm) q.2.2⟩, va_recv hK hP (ci := 8) (q0 := k0) rfl e0, fun U hU hW => ⟨rfl, by rw [hU]; exact hP, va_K.moved hW.alike hK⟩⟩ rfl rfl hl.1 rfl (lv_room (Nat.le_of_ble_eq_true rfl)) dX8_test_2 ⟨Nat.le_of_ble_eq_true rfl, Nat.le_of_ble_eq_true rfl⟩) (fun r_1 k_2 => ?_)
  have hz_3 := lotx hlc hla0 hla1 k_2
  rcases hz_3 with ⟨rfl, o_4⟩ | ⟨a_5, b_6, hj_7, v_8, rfl, hg_9, hL_10⟩
  · refine tp_v (y := .null) rfl ?_
    refine lv_astore_nN (lv' := [(3, .null), (0, .ref h0), (1, .int a1), (2, .int a2)]) hx hb dX8_test_5 rfl hl (by decide) rfl (fun ls hl => ?_)
    refine lv_aload_nN hx hb dX8_test_6 rfl (lv_at hl 0 rfl) ?_
    refine lv_ifnullN (tgt := 22) hx hb dX8_test_7 (by decide) ?_
    refine lv_ldc hx hb hown (hts (.constant RX8 110 (-1000000000)) (List.mem_of_getElem? (i := 1) rfl)) dX8_test_22 ?_
    exact W.iret (v := (-1000000000)) hx hb hr (fun t ht hW => ⟨⟨(-1000000000), (), rfl, Or.inl ⟨Or.inl o_4, rfl⟩, ws, tys, htx, by rw [ht]; exact hP, va_K.moved hW.alike hK, hD, Or.inl ⟨Or.inl o_4, X⟩⟩, hS.F ht⟩) hS.2.2 dX8_test_24
  obtain ⟨k_11, lo_12, hi_13, st_14, e_15, wk_16, ⟨k_22, c9_23, t_24, f_25, e_26, u_27, wr_28, g_29⟩, ⟨k_30, c9_31, t_32, f_33, e_34, u_35, wr_36, g_37⟩, ks_17, ga_18, gb_19, es_20, wks_21, ⟨k_38, c9_39, t_40, f_41, e_42, u_43, wr_44, g_45⟩, ⟨k_46, c9_47, t_48, f_49, e_50, u_51, wr_52, g_53⟩⟩ := hL_10
  refine tp_v (y := .ref v_8) rfl ?_
  refine lv_astore_n (lv' := [(3, .ref v_8), (0, .ref h0), (1, .int a1), (2, .int a2)]) hx hb dX8_test_5 rfl hl (by decide) rfl (fun ls hl => ?_)
  refine lv_aload_n hx hb dX8_test_6 rfl (lv_at hl 0 rfl) ?_
  refine lv_ifnull hx hb dX8_test_7 ?_
  refine lv_iload_n hx hb dX8_test_10 rfl (lv_at hl 3 rfl) ?_
  refine lv_bipush (v := 100) hx hb dX8_test_11 (by decide) ?_
  refine lv_sipush (v := 300) hx hb dX8_test_13 (by decide) ?_
  refine vp_callSi (W.runS (As := [.int a2, .int 100, .int 300]) (rest := []) ⟨hx, hb, hml, hown, hts⟩ (s_X8_isIn l a2 100 300) (va_cwS 3 hts gX8_test_X8_isIn rfl rfl rfl (by decide +kernel) ⟨Nat.le_of_ble_eq_true rfl, Nat.le_of_ble_eq_true rfl⟩) ⟨fun a U g mk q => q, fun U hU hW => ⟨rfl, trivial⟩⟩ rfl rfl hl.1 rfl (lv_room (Nat.le_of_ble_eq_true rfl)) dX8_test_16 ⟨Nat.le_of_ble_eq_true rfl, Nat.le_of_ble_eq_true rfl⟩) (fun r_54 k_55 => ?_)
  rcases k_55 with ⟨rfl, a_56o⟩ | ⟨rfl, a_56, b_57⟩
  · refine lv_if_ne (tgt := 25) hx hb dX8_test_19 (by decide) (fun c_58 => absurd (by decide) c_58) (fun c_58 => ?_)
    refine lv_ldc hx hb hown (hts (.constant RX8 110 (-1000000000)) (List.mem_of_getElem? (i := 1) rfl)) dX8_test_22 ?_
    exact W.iret (v := (-1000000000)) hx hb hr (fun t ht hW => ⟨⟨(-1000000000), (), rfl, Or.inl ⟨Or.inr (a_56o), rfl⟩, ws, tys, htx, by rw [ht]; exact hP, va_K.moved hW.alike hK, hD, Or.inl ⟨Or.inr (a_56o), X⟩⟩, hS.F ht⟩) hS.2.2 dX8_test_24
  refine lv_if_ne (tgt := 25) hx hb dX8_test_19 (by decide) (fun c_59 => ?_) (fun c_59 => absurd c_59 (by decide))
  refine lv_aload_n hx hb dX8_test_25 rfl (lv_at hl 0 rfl) ?_
  refine va_get (D := D) (ci := 2) (v := .int (fv 4 (7 * a1.toNatClampNeg + 6))) (C := RX2) (T := TX2) (N := 10) hx hb hts hin2 hown hK hP k_11 e_15 rfl 9 (by decide) (hts (.fieldLink RX8 111 "HoneyHouse$Lot" "pay" "I") (List.mem_of_getElem? (i := 2) rfl)) (fun _ h9 => h9) rfl dX8_test_26 ?_
  refine lv_istore (lv' := [(4, .int (fv 4 (7 * a1.toNatClampNeg + 6))), (3, .ref v_8), (0, .ref h0), (1, .int a1), (2, .int a2)]) hx hb dX8_test_29 hl (by decide) rfl (fun ls hl => ?_)
  refine lv_aload_n hx hb dX8_test_31 rfl (lv_at hl 1 rfl) ?_
  refine lv_iload_n hx hb dX8_test_32 rfl (lv_at hl 4 rfl) ?_
  refine va_put (D := D) (ci := 2) (v := .int a2) (ty := .int) (C := RX2) (T := TX2) (N := 10) hx hb hts hin2 tyX2 tyX2_ok nmX2 hown hK hP hD hS k_11 e_15 rfl 7 (by decide) (hts (.fieldLink RX8 114 "HoneyHouse$Lot" "water" "I") (List.mem_of_getElem? (i := 3) rfl)) (fun _ h9 => h9) rfl (tyX2_ok 7 (by decide)) rfl rfl (Nat.le_of_ble_eq_true rfl) dX8_test_33 (fun H locs hP hD hS => ?_)
  have hP : va_P D vwCl (ws.set k_11 (v_8, .inr (2, [.int (fv 4 (7 * a1.toNatClampNeg)), .int (fv 4 (7 * a1.toNatClampNeg + 1)), .int (fv 4 (7 * a1.toNatClampNeg + 3)), .int (fv 4 (7 * a1.toNatClampNeg + 4)), .ref lo_12, .ref hi_13, .ref st_14, .int a2, .int (fv 4 (7 * a1.toNatClampNeg + 5)), .int (fv 4 (7 * a1.toNatClampNeg + 6))]))) H := hP
  have hD : va_D A (ws.set k_11 (v_8, .inr (2, [.int (fv 4 (7 * a1.toNatClampNeg)), .int (fv 4 (7 * a1.toNatClampNeg + 1)), .int (fv 4 (7 * a1.toNatClampNeg + 3)), .int (fv 4 (7 * a1.toNatClampNeg + 4)), .ref lo_12, .ref hi_13, .ref st_14, .int a2, .int (fv 4 (7 * a1.toNatClampNeg + 5)), .int (fv 4 (7 * a1.toNatClampNeg + 6))]))) := hD
  have hm_61 : sm (ux ρ (8 * a1.toNatClampNeg + 1) (8 * a1.toNatClampNeg + 1)) [2] ws (ws.set k_11 (v_8, .inr (2, [.int (fv 4 (7 * a1.toNatClampNeg)), .int (fv 4 (7 * a1.toNatClampNeg + 1)), .int (fv 4 (7 * a1.toNatClampNeg + 3)), .int (fv 4 (7 * a1.toNatClampNeg + 4)), .ref lo_12, .ref hi_13, .ref st_14, .int a2, .int (fv 4 (7 * a1.toNatClampNeg + 5)), .int (fv 4 (7 * a1.toNatClampNeg + 6))]))) := sm.flds e_15 (smF.c (smV.rf _) (smF.c (smV.rf _) (smF.c (smV.rf _) (smF.c (smV.rf _) (smF.c (smV.rf _) (smF.c (smV.rf _) (smF.c (smV.rf _) (smF.c (smV.i _ _) (smF.c (smV.rf _) (smF.c (smV.rf _) (rfl))))))))))) (List.mem_singleton.mpr rfl) (ux_in wk_16 (by omega) (by omega))
  have e_62 : (ws.set k_11 (v_8, .inr (2, [.int (fv 4 (7 * a1.toNatClampNeg)), .int (fv 4 (7 * a1.toNatClampNeg + 1)), .int (fv 4 (7 * a1.toNatClampNeg + 3)), .int (fv 4 (7 * a1.toNatClampNeg + 4)), .ref lo_12, .ref hi_13, .ref st_14, .int a2, .int (fv 4 (7 * a1.toNatClampNeg + 5)), .int (fv 4 (7 * a1.toNatClampNeg + 6))])))[k_11]? = some (v_8, .inr (2, [.int (fv 4 (7 * a1.toNatClampNeg)), .int (fv 4 (7 * a1.toNatClampNeg + 1)), .int (fv 4 (7 * a1.toNatClampNeg + 3)), .int (fv 4 (7 * a1.toNatClampNeg + 4)), .ref lo_12, .ref hi_13, .ref st_14, .int a2, .int (fv 4 (7 * a1.toNatClampNeg + 5)), .int (fv 4 (7 * a1.toNatClampNeg + 6))])) := wset_self e_15
  generalize ws.set k_11 (v_8, .inr (2, [.int (fv 4 (7 * a1.toNatClampNeg)), .int (fv 4 (7 * a1.toNatClampNeg + 1)), .int (fv 4 (7 * a1.toNatClampNeg + 3)), .int (fv 4 (7 * a1.toNatClampNeg + 4)), .ref lo_12, .ref hi_13, .ref st_14, .int a2, .int (fv 4 (7 * a1.toNatClampNeg + 5)), .int (fv 4 (7 * a1.toNatClampNeg + 6))])) = ws_60 at hP hD hm_61 e_62
  have e_63 := hm_61.objK e0 (by decide)
  have e_64 := hm_61.arrQ ela
  have e_65 := hm_61.keep (ux_out wr_28 (by omega) (by omega)) e_26
  have e_66 := hm_61.keep (ux_out wr_36 (by omega) (by omega)) e_34
  have e_67 := hm_61.keep (ux_out wks_21 (by omega) (by omega)) es_20
  have e_68 := hm_61.keep (ux_out wr_44 (by omega) (by omega)) e_42
  have e_69 := hm_61.keep (ux_out wr_52 (by omega) (by omega)) e_50
  have hsm := hsm.tr (hm_61.mono (by decide))
  refine lv_aload_n hx hb dX8_test_36 rfl (lv_at hl 1 rfl) ?_
  refine lv_aload_n hx hb dX8_test_37 rfl (lv_at hl 1 rfl) ?_
  refine va_get (D := D) (ci := 2) (v := .ref st_14) (C := RX2) (T := TX2) (N := 10) hx hb hts hin2 hown hK hP k_11 e_62 rfl 6 (by decide) (hts (.fieldLink RX8 117 "HoneyHouse$Lot" "steps" "LHoneyHouse$Steps;") (List.mem_of_getElem? (i := 4) rfl)) (fun _ h9 => h9) rfl dX8_test_38 ?_
  refine lv_aload_n hx hb dX8_test_41 rfl (lv_at hl 1 rfl) ?_
  refine va_get (D := D) (ci := 2) (v := .int (fv 4 (7 * a1.toNatClampNeg + 1))) (C := RX2) (T := TX2) (N := 10) hx hb hts hin2 hown hK hP k_11 e_62 rfl 1 (by decide) (hts (.fieldLink RX8 120 "HoneyHouse$Lot" "grams" "I") (List.mem_of_getElem? (i := 5) rfl)) (fun _ h9 => h9) rfl dX8_test_42 ?_
  refine lv_iload_n hx hb dX8_test_45 rfl (lv_at hl 4 rfl) ?_
  refine vp_callSi (W.runV (As := [.int (fv 4 (7 * a1.toNatClampNeg + 1)), .int a2]) (rest := [.ref v_8]) ⟨hx, hb, hml, hown, hts⟩ (s_X5_payFor l D ws_60 tys st_14 ks_17 ga_18 k_38 gb_19 k_46 c9_39 c9_47 t_40 t_48 f_41 f_49 _ (fv 4 (7 * a1.toNatClampNeg + 1)) a2 e_67 rfl rfl e_68 u_43 e_69 u_51) (cwV 2 hts gX8_test_X5_payFor rfl rfl rfl (by decide +kernel) ⟨Nat.le_of_ble_eq_true rfl, Nat.le_of_ble_eq_true rfl⟩) ⟨fun a U g mk q => ⟨q.1, q.2.1, va_K.moved (u := U) (U := U.calling g mk a) (Vm.Alike.refl U.vm) q.2.2⟩, va_recv hK hP (ci := 5) (q0 := ks_17) rfl e_67, fun U hU hW => ⟨rfl, by rw [hU]; exact hP, va_K.moved hW.alike hK⟩⟩ rfl rfl hl.1 rfl (lv_room (Nat.le_of_ble_eq_true rfl)) dX8_test_46 ⟨Nat.le_of_ble_eq_true rfl, Nat.le_of_ble_eq_true rfl⟩) (fun r_70 k_71 => ?_)
  obtain rfl : r_70 = payL (fv 4) (fv 7) a1.toNatClampNeg a2 := k_71.trans (payF_congr g_45 g_53)
  refine va_put (D := D) (ci := 2) (v := .int (payL (fv 4) (fv 7) a1.toNatClampNeg a2)) (ty := .int) (C := RX2) (T := TX2) (N := 10) hx hb hts hin2 tyX2 tyX2_ok nmX2 hown hK hP hD hS k_11 e_62 rfl 9 (by decide) (hts (.fieldLink RX8 111 "HoneyHouse$Lot" "pay" "I") (List.mem_of_getElem? (i := 2) rfl)) (fun _ h9 => h9) rfl (tyX2_ok 9 (by decide)) rfl rfl (Nat.le_of_ble_eq_true rfl) dX8_test_49 (fun H locs hP hD hS => ?_)
  have hP : va_P D vwCl (ws_60.set k_11 (v_8, .inr (2, [.int (fv 4 (7 * a1.toNatClampNeg)), .int (fv 4 (7 * a1.toNatClampNeg + 1)), .int (fv 4 (7 * a1.toNatClampNeg + 3)), .int (fv 4 (7 * a1.toNatClampNeg + 4)), .ref lo_12, .ref hi_13, .ref st_14, .int a2, .int (fv 4 (7 * a1.toNatClampNeg + 5)), .int (payL (fv 4) (fv 7) a1.toNatClampNeg a2)]))) H := hP
  have hD : va_D A (ws_60.set k_11 (v_8, .inr (2, [.int (fv 4 (7 * a1.toNatClampNeg)), .int (fv 4 (7 * a1.toNatClampNeg + 1)), .int (fv 4 (7 * a1.toNatClampNeg + 3)), .int (fv 4 (7 * a1.toNatClampNeg + 4)), .ref lo_12, .ref hi_13, .ref st_14, .int a2, .int (fv 4 (7 * a1.toNatClampNeg + 5)), .int (payL (fv 4) (fv 7) a1.toNatClampNeg a2)]))) := hD
  have hm_73 : sm (ux ρ (8 * a1.toNatClampNeg + 1) (8 * a1.toNatClampNeg + 1)) [2] ws_60 (ws_60.set k_11 (v_8, .inr (2, [.int (fv 4 (7 * a1.toNatClampNeg)), .int (fv 4 (7 * a1.toNatClampNeg + 1)), .int (fv 4 (7 * a1.toNatClampNeg + 3)), .int (fv 4 (7 * a1.toNatClampNeg + 4)), .ref lo_12, .ref hi_13, .ref st_14, .int a2, .int (fv 4 (7 * a1.toNatClampNeg + 5)), .int (payL (fv 4) (fv 7) a1.toNatClampNeg a2)]))) := sm.flds e_62 (smF.c (smV.rf _) (smF.c (smV.rf _) (smF.c (smV.rf _) (smF.c (smV.rf _) (smF.c (smV.rf _) (smF.c (smV.rf _) (smF.c (smV.rf _) (smF.c (smV.rf _) (smF.c (smV.rf _) (smF.c (smV.i _ _) (rfl))))))))))) (List.mem_singleton.mpr rfl) (ux_in wk_16 (by omega) (by omega))
  have e_74 : (ws_60.set k_11 (v_8, .inr (2, [.int (fv 4 (7 * a1.toNatClampNeg)), .int (fv 4 (7 * a1.toNatClampNeg + 1)), .int (fv 4 (7 * a1.toNatClampNeg + 3)), .int (fv 4 (7 * a1.toNatClampNeg + 4)), .ref lo_12, .ref hi_13, .ref st_14, .int a2, .int (fv 4 (7 * a1.toNatClampNeg + 5)), .int (payL (fv 4) (fv 7) a1.toNatClampNeg a2)])))[k_11]? = some (v_8, .inr (2, [.int (fv 4 (7 * a1.toNatClampNeg)), .int (fv 4 (7 * a1.toNatClampNeg + 1)), .int (fv 4 (7 * a1.toNatClampNeg + 3)), .int (fv 4 (7 * a1.toNatClampNeg + 4)), .ref lo_12, .ref hi_13, .ref st_14, .int a2, .int (fv 4 (7 * a1.toNatClampNeg + 5)), .int (payL (fv 4) (fv 7) a1.toNatClampNeg a2)])) := wset_self e_62
  generalize ws_60.set k_11 (v_8, .inr (2, [.int (fv 4 (7 * a1.toNatClampNeg)), .int (fv 4 (7 * a1.toNatClampNeg + 1)), .int (fv 4 (7 * a1.toNatClampNeg + 3)), .int (fv 4 (7 * a1.toNatClampNeg + 4)), .ref lo_12, .ref hi_13, .ref st_14, .int a2, .int (fv 4 (7 * a1.toNatClampNeg + 5)), .int (payL (fv 4) (fv 7) a1.toNatClampNeg a2)])) = ws_72 at hP hD hm_73 e_74
  have e_75 := hm_73.objK e_63 (by decide)
  have e_76 := hm_73.arrQ e_64
  have e_77 := hm_73.keep (ux_out wr_28 (by omega) (by omega)) e_65
  have e_78 := hm_73.keep (ux_out wr_36 (by omega) (by omega)) e_66
  have e_79 := hm_73.keep (ux_out wks_21 (by omega) (by omega)) e_67
  have e_80 := hm_73.keep (ux_out wr_44 (by omega) (by omega)) e_68
  have e_81 := hm_73.keep (ux_out wr_52 (by omega) (by omega)) e_69
  have hsm := hsm.tr (hm_73.mono (by decide))
  refine lv_aload_n hx hb dX8_test_52 rfl (lv_at hl 1 rfl) ?_
  refine va_get (D := D) (ci := 2) (v := .int (payL (fv 4) (fv 7) a1.toNatClampNeg a2)) (C := RX2) (T := TX2) (N := 10) hx hb hts hin2 hown hK hP k_11 e_74 rfl 9 (by decide) (hts (.fieldLink RX8 111 "HoneyHouse$Lot" "pay" "I") (List.mem_of_getElem? (i := 2) rfl)) (fun _ h9 => h9) rfl dX8_test_53 ?_
  refine lv_iload hx hb dX8_test_56 (lv_at hl 0 rfl) ?_
  refine lv_isub hx hb dX8_test_58 ?_
  exact W.iret (v := (payL (fv 4) (fv 7) a1.toNatClampNeg a2) - (fv 4 (7 * a1.toNatClampNeg + 6))) hx hb hr (fun t ht hW => ⟨⟨(payL (fv 4) (fv 7) a1.toNatClampNeg a2) - (fv 4 (7 * a1.toNatClampNeg + 6)), (), rfl, Or.inr ⟨(fun h => Or.elim h (fun h => Or.elim h a_5 b_6) (fun h => Or.elim h a_56 b_57)), rfl⟩, ws_72, tys, htx, by rw [ht]; exact hP, va_K.moved hW.alike hK, hD, Or.inr ⟨(fun h => Or.elim h (fun h => Or.elim h a_5 b_6) (fun h => Or.elim h a_56 b_57)), (xi_mk2 (fv := (uF fv 4 (tesF (fv 4) (fv 7) a1.toNatClampNeg a2))) e_75 w0 hle0 hnum ⟨kla, cla, tla, fla, e_76, ula, hla0, lots_one (J := a1.toNatClampNeg) hla1 hsm htx (fun k h1 _ h2 => ux_keep h1 (by omega)) hg_9 (show LOT ρ (uF fv 4 (tesF (fv 4) (fv 7) a1.toNatClampNeg a2)) ws_72 tys v_8 a1.toNatClampNeg from ⟨k_11, lo_12, hi_13, st_14, (lot_tes e_74), wk_16, ⟨k_22, c9_23, t_24, f_25, e_77, u_27, wr_28, g_29⟩, ⟨k_30, c9_31, t_32, f_33, e_78, u_35, wr_36, g_37⟩, ks_17, ga_18, gb_19, e_79, wks_21, ⟨k_38, c9_39, t_40, f_41, e_80, u_43, wr_44, g_45⟩, ⟨k_46, c9_47, t_48, f_49, e_81, u_51, wr_52, g_53⟩⟩) (fun j hj => ⟨fun i hi => tes_n hj hi, fun _ _ => rfl, fun _ _ => rfl, fun _ _ => rfl⟩)⟩ ((CW.sm qta hsm htx (fun k _ h1 h2 => ux_keep (by omega) (by omega))).fvx (fun _ _ _ _ => rfl) (fun _ _ => rfl) (fun _ _ => rfl) (fun _ _ => rfl)) ((CW.sm qba hsm htx (fun k _ h1 h2 => ux_keep (by omega) (by omega))).fvx (fun _ _ _ _ => rfl) (fun _ _ => rfl) (fun _ _ => rfl) (fun _ _ => rfl)) qra (oST.sm qsn hsm htx (fun k _ h1 h2 => ux_keep (by omega) (by omega))) qrd qdr qbl qvd ((oF.sm qfb hsm htx (fun k _ h => ux_keep (by omega) (by omega))).fvx rfl) hsm htx (by decide))⟩⟩, hS.F ht⟩) hS.2.2 dX8_test_59
set_option maxHeartbeats 4000000 in
set_option maxRecDepth 100000 in
theorem h_pollen (l : Launch) (D : va_G) (ρ : Nat → Nat) (ws : va_W) (tys : List (ClassId × FieldType)) (fv : Nat → Nat → Int32) (h0 lc bc rc fc : Nat) (dn : Int32) (tl : Nat) (a1 a2 a3 a4 : Int32) (sz : Nat) (X : XI ρ fv ws tys h0 lc bc rc fc dn tl) : Met l yX8_pollen wsX8_pollen ({ frames := 2, cells := 0, slots := 0, locals := 43 }) (va_Pc [.ref h0, .int a1, .int a2, .int a3, .int a4] (fun U => U.heap.size = sz ∧ va_P D vwCl ws U.heap ∧ va_K D vwCl tys U ∧ va_D (fun _ => True) ws)) (va_Qi (fun (r : Int32) (_ : Unit) => (polN (fv 5) (fv 6) lc a1 a2 a3 a4 ∧ r = 0) ∨ (¬ polN (fv 5) (fv 6) lc a1 a2 a3 a4 ∧ r = 1)) (fun (_ : Unit) (t : State) => ∃ (ws' : va_W) (tys' : List (ClassId × FieldType)), tyx tys tys' ∧ va_P D vwCl ws' t.heap ∧ va_K D vwCl tys' t ∧ va_D (va_A ws sz) ws' ∧ ((polN (fv 5) (fv 6) lc a1 a2 a3 a4 ∧ XI ρ fv ws' tys' h0 lc bc rc fc dn tl) ∨ (¬ polN (fv 5) (fv 6) lc a1 a2 a3 a4 ∧ XI ρ (uF (uF fv 5 (upd (fv 5) (5 * a1.toNatClampNeg + a2.toNatClampNeg) a3)) 6 (upd (fv 6) (5 * a1.toNatClampNeg + a2.toNatClampNeg) a4)) ws' tys' h0 lc bc rc fc dn tl))) (va_A ws sz)) 0 0 (va_A ws sz) := by
  refine Met.ofW (cc := cX8_pollen) (maxL := 6) (ret := (some .boolean)) (by decide) rfl ?_
  intro p e s m args below meth c s₁ B hml hv
  obtain ⟨rfl, hsz, hP, hK, hD0⟩ := hv
  have hx := B.exec
  have hb := B.bytes
  have hr := B.returns
  have hts := atoms_spec (ws := wsX8_pollen) B.pre
  have hown : s.vm.findClass RX8 = some m.cls := findClass_of_methodNamed B.named
  have hlocks := B.notSynchronized
  subst hsz
  have hD := hD0.self (sz := s.heap.size)
  generalize hAe : va_A ws s.heap.size = A at hD ⊢
  have hA : ∀ q : Nat, s.heap.size ≤ q → A q := fun q h => by rw [← hAe]; exact Or.inr h
  have hS : va_S A s.heap s.heap [] := va_S.rf
  have hsm : sm (ux ρ (8 * a1.toNatClampNeg + 2) (8 * a1.toNatClampNeg + 3)) [] ws ws := sm.rf ws
  have htx : tyx tys tys := tyx.rf tys
  have hin2 : ∀ w ∈ u_ws RX2 TX2 10, w ∈ wsX8_pollen := (fun _ h9 => List.mem_cons_of_mem _ (List.mem_append_left _ ((List.mem_append_right _ h9))))
  have hl := lv_entry ([.ref h0, .int a1, .int a2, .int a3, .int a4]) (n := 6) (Nat.le_of_ble_eq_true rfl)
  rw [lg_entry_eq]
  generalize (lg_sl ([.ref h0, .int a1, .int a2, .int a3, .int a4]) ++ List.replicate (6 - (lg_sl ([.ref h0, .int a1, .int a2, .int a3, .int a4])).length) Slot.unset).toArray = ls at hl ⊢
  have hl : lv_has ls 6 [(0, .ref h0), (1, .int a1), (2, .int a2), (3, .int a3), (4, .int a4)] := hl
  obtain ⟨k0, la, ta, ba, ra, sn, rd, dr, bl, vd, fb, e0, w0, hle0, hnum, qla, qta, qba, qra, qsn, qrd, qdr, qbl, qvd, qfb⟩ := id X
  obtain ⟨kla, cla, tla, fla, ela, ula, hla0, hla1⟩ := id qla
  have hlc := hnum.1
  refine lv_aload_n hx hb dX8_pollen_0 rfl (lv_at hl 0 rfl) ?_
  refine lv_iload_n hx hb dX8_pollen_1 rfl (lv_at hl 1 rfl) ?_
  refine va_csq (W.runV (As := [.int a1]) (rest := []) ⟨hx, hb, hml, hown, hts⟩ (s_X8_lotAt l D ws tys h0 k0 _ la kla cla fla tla a1 e0 rfl ela ula) (cwV 1 hts gX8_pollen_X8_lotAt rfl rfl rfl (by decide +kernel) ⟨Nat.le_of_ble_eq_true rfl, Nat.le_of_ble_eq_true rfl⟩) ⟨fun a U g mk q => ⟨q.1, q.2.1, va_K.moved (u := U) (U := U.calling g mk a) (Vm.Alike.refl U.vm) q.2.2⟩, va_recv hK hP (ci := 8) (q0 := k0) rfl e0, fun U hU hW => ⟨rfl, by rw [hU]; exact hP, va_K.moved hW.alike hK⟩⟩ rfl rfl hl.1 rfl (lv_room (Nat.le_of_ble_eq_true rfl)) dX8_pollen_2 ⟨Nat.le_of_ble_eq_true rfl, Nat.le_of_ble_eq_true rfl⟩) (fun r_1 k_2 => ?_)
  have hz_3 := lotx hlc hla0 hla1 k_2
  rcases hz_3 with ⟨rfl, o_4⟩ | ⟨a_5, b_6, hj_7, v_8, rfl, hg_9, hL_10⟩
  · refine tp_v (y := .null) rfl ?_
    refine lv_astoreN (lv' := [(5, .null), (0, .ref h0), (1, .int a1), (2, .int a2), (3, .int a3), (4, .int a4)]) hx hb dX8_pollen_5 hl (by decide) rfl (fun ls hl => ?_)
    refine lv_aloadN hx hb dX8_pollen_7 (lv_at hl 0 rfl) ?_
    refine lv_ifnullN (tgt := 21) hx hb dX8_pollen_9 (by decide) ?_
    refine lv_iconst (v := 0) hx hb dX8_pollen_21 (by decide) ?_
    exact W.zret (v := 0) hx hb hr rfl (fun t ht hW => ⟨⟨0, (), rfl, Or.inl ⟨Or.inl o_4, rfl⟩, ws, tys, htx, by rw [ht]; exact hP, va_K.moved hW.alike hK, hD, Or.inl ⟨Or.inl o_4, X⟩⟩, hS.F ht⟩) hS.2.2 dX8_pollen_22
  obtain ⟨k_11, lo_12, hi_13, st_14, e_15, wk_16, ⟨k_22, c9_23, t_24, f_25, e_26, u_27, wr_28, g_29⟩, ⟨k_30, c9_31, t_32, f_33, e_34, u_35, wr_36, g_37⟩, ks_17, ga_18, gb_19, es_20, wks_21, ⟨k_38, c9_39, t_40, f_41, e_42, u_43, wr_44, g_45⟩, ⟨k_46, c9_47, t_48, f_49, e_50, u_51, wr_52, g_53⟩⟩ := hL_10
  refine tp_v (y := .ref v_8) rfl ?_
  refine lv_astore (lv' := [(5, .ref v_8), (0, .ref h0), (1, .int a1), (2, .int a2), (3, .int a3), (4, .int a4)]) hx hb dX8_pollen_5 hl (by decide) rfl (fun ls hl => ?_)
  refine lv_aload hx hb dX8_pollen_7 (lv_at hl 0 rfl) ?_
  refine lv_ifnull hx hb dX8_pollen_9 ?_
  refine lv_iload_n hx hb dX8_pollen_12 rfl (lv_at hl 3 rfl) ?_
  refine lv_iconst (v := 0) hx hb dX8_pollen_13 (by decide) ?_
  refine lv_iconst (v := 4) hx hb dX8_pollen_14 (by decide) ?_
  refine vp_callSi (W.runS (As := [.int a2, .int 0, .int 4]) (rest := []) ⟨hx, hb, hml, hown, hts⟩ (s_X8_isIn l a2 0 4) (va_cwS 3 hts gX8_pollen_X8_isIn rfl rfl rfl (by decide +kernel) ⟨Nat.le_of_ble_eq_true rfl, Nat.le_of_ble_eq_true rfl⟩) ⟨fun a U g mk q => q, fun U hU hW => ⟨rfl, trivial⟩⟩ rfl rfl hl.1 rfl (lv_room (Nat.le_of_ble_eq_true rfl)) dX8_pollen_15 ⟨Nat.le_of_ble_eq_true rfl, Nat.le_of_ble_eq_true rfl⟩) (fun r_54 k_55 => ?_)
  rcases k_55 with ⟨rfl, a_56o⟩ | ⟨rfl, a_56, b_57⟩
  · refine lv_if_ne (tgt := 23) hx hb dX8_pollen_18 (by decide) (fun c_58 => absurd (by decide) c_58) (fun c_58 => ?_)
    refine lv_iconst (v := 0) hx hb dX8_pollen_21 (by decide) ?_
    exact W.zret (v := 0) hx hb hr rfl (fun t ht hW => ⟨⟨0, (), rfl, Or.inl ⟨Or.inr (Or.inl a_56o), rfl⟩, ws, tys, htx, by rw [ht]; exact hP, va_K.moved hW.alike hK, hD, Or.inl ⟨Or.inr (Or.inl a_56o), X⟩⟩, hS.F ht⟩) hS.2.2 dX8_pollen_22
  refine lv_if_ne (tgt := 23) hx hb dX8_pollen_18 (by decide) (fun c_59 => ?_) (fun c_59 => absurd c_59 (by decide))
  refine lv_iload_n hx hb dX8_pollen_23 rfl (lv_at hl 4 rfl) ?_
  refine lv_if_lt (tgt := 41) hx hb dX8_pollen_24 (by decide) (fun c_60 => ?_) (fun c_60 => ?_)
  · refine lv_iconst (v := 0) hx hb dX8_pollen_41 (by decide) ?_
    exact W.zret (v := 0) hx hb hr rfl (fun t ht hW => ⟨⟨0, (), rfl, Or.inl ⟨Or.inr (Or.inr (Or.inl c_60)), rfl⟩, ws, tys, htx, by rw [ht]; exact hP, va_K.moved hW.alike hK, hD, Or.inl ⟨Or.inr (Or.inr (Or.inl c_60)), X⟩⟩, hS.F ht⟩) hS.2.2 dX8_pollen_42
  refine lv_iload hx hb dX8_pollen_27 (lv_at hl 5 rfl) ?_
  refine lv_sipush (v := 1000) hx hb dX8_pollen_29 (by decide) ?_
  refine lv_icmp_gt (tgt := 41) hx hb dX8_pollen_32 (by decide) (fun c_61 => ?_) (fun c_61 => ?_)
  · refine lv_iconst (v := 0) hx hb dX8_pollen_41 (by decide) ?_
    exact W.zret (v := 0) hx hb hr rfl (fun t ht hW => ⟨⟨0, (), rfl, Or.inl ⟨Or.inr (Or.inr (Or.inr (Or.inl c_61))), rfl⟩, ws, tys, htx, by rw [ht]; exact hP, va_K.moved hW.alike hK, hD, Or.inl ⟨Or.inr (Or.inr (Or.inr (Or.inl c_61))), X⟩⟩, hS.F ht⟩) hS.2.2 dX8_pollen_42
  refine lv_iload_n hx hb dX8_pollen_35 rfl (lv_at hl 4 rfl) ?_
  refine lv_iload hx hb dX8_pollen_36 (lv_at hl 5 rfl) ?_
  refine lv_icmp_le (tgt := 43) hx hb dX8_pollen_38 (by decide) (fun c_62 => ?_) (fun c_62 => ?_)
  · refine lv_aload hx hb dX8_pollen_43 (lv_at hl 0 rfl) ?_
    refine va_get (D := D) (ci := 2) (v := .ref lo_12) (C := RX2) (T := TX2) (N := 10) hx hb hts hin2 hown hK hP k_11 e_15 rfl 4 (by decide) (hts (.fieldLink RX8 100 "HoneyHouse$Lot" "low" "[I") (List.mem_of_getElem? (i := 1) rfl)) (fun _ h9 => h9) rfl dX8_pollen_45 ?_
    refine lv_iload_n hx hb dX8_pollen_48 rfl (lv_at hl 3 rfl) ?_
    refine lv_iload_n hx hb dX8_pollen_49 rfl (lv_at hl 4 rfl) ?_
    refine vp_callSi (W.runS (As := [.ref lo_12, .int a2, .int a3]) (rest := []) ⟨hx, hb, hml, hown, hts⟩ (s_sumWith l D ws tys lo_12 k_22 c9_23 t_24 f_25 a2 a3 e_26 u_27) (va_cwS 3 hts gX8_pollen_X8_sumWith rfl rfl rfl (by decide +kernel) ⟨Nat.le_of_ble_eq_true rfl, Nat.le_of_ble_eq_true rfl⟩) ⟨fun a U g mk q => ⟨q.1, q.2.1, va_K.moved (u := U) (U := U.calling g mk a) (Vm.Alike.refl U.vm) q.2.2⟩, fun U hU hW => ⟨rfl, by rw [hU]; exact hP, va_K.moved hW.alike hK⟩⟩ rfl rfl hl.1 rfl (lv_room (Nat.le_of_ble_eq_true rfl)) dX8_pollen_50 ⟨Nat.le_of_ble_eq_true rfl, Nat.le_of_ble_eq_true rfl⟩) (fun r_63 k_64 => ?_)
    obtain rfl : r_63 = sU (fun i => fv 5 (5 * a1.toNatClampNeg + i)) a2 a3 5 := k_64.trans (sU_congr 5 g_29)
    refine lv_sipush (v := 1000) hx hb dX8_pollen_53 (by decide) ?_
    refine lv_icmp_gt (tgt := 76) hx hb dX8_pollen_56 (by decide) (fun c_65 => ?_) (fun c_65 => ?_)
    · refine lv_iconst (v := 0) hx hb dX8_pollen_76 (by decide) ?_
      exact W.zret (v := 0) hx hb hr rfl (fun t ht hW => ⟨⟨0, (), rfl, Or.inl ⟨Or.inr (Or.inr (Or.inr (Or.inr (Or.inr (Or.inl c_65))))), rfl⟩, ws, tys, htx, by rw [ht]; exact hP, va_K.moved hW.alike hK, hD, Or.inl ⟨Or.inr (Or.inr (Or.inr (Or.inr (Or.inr (Or.inl c_65))))), X⟩⟩, hS.F ht⟩) hS.2.2 dX8_pollen_77
    refine lv_aload hx hb dX8_pollen_59 (lv_at hl 0 rfl) ?_
    refine va_get (D := D) (ci := 2) (v := .ref hi_13) (C := RX2) (T := TX2) (N := 10) hx hb hts hin2 hown hK hP k_11 e_15 rfl 5 (by decide) (hts (.fieldLink RX8 107 "HoneyHouse$Lot" "high" "[I") (List.mem_of_getElem? (i := 2) rfl)) (fun _ h9 => h9) rfl dX8_pollen_61 ?_
    refine lv_iload_n hx hb dX8_pollen_64 rfl (lv_at hl 3 rfl) ?_
    refine lv_iload hx hb dX8_pollen_65 (lv_at hl 5 rfl) ?_
    refine vp_callSi (W.runS (As := [.ref hi_13, .int a2, .int a4]) (rest := []) ⟨hx, hb, hml, hown, hts⟩ (s_sumWith l D ws tys hi_13 k_30 c9_31 t_32 f_33 a2 a4 e_34 u_35) (va_cwS 3 hts gX8_pollen_X8_sumWith rfl rfl rfl (by decide +kernel) ⟨Nat.le_of_ble_eq_true rfl, Nat.le_of_ble_eq_true rfl⟩) ⟨fun a U g mk q => ⟨q.1, q.2.1, va_K.moved (u := U) (U := U.calling g mk a) (Vm.Alike.refl U.vm) q.2.2⟩, fun U hU hW => ⟨rfl, by rw [hU]; exact hP, va_K.moved hW.alike hK⟩⟩ rfl rfl hl.1 rfl (lv_room (Nat.le_of_ble_eq_true rfl)) dX8_pollen_67 ⟨Nat.le_of_ble_eq_true rfl, Nat.le_of_ble_eq_true rfl⟩) (fun r_66 k_67 => ?_)
    obtain rfl : r_66 = sU (fun i => fv 6 (5 * a1.toNatClampNeg + i)) a2 a4 5 := k_67.trans (sU_congr 5 g_37)
    refine lv_sipush (v := 1000) hx hb dX8_pollen_70 (by decide) ?_
    refine lv_icmp_ge (tgt := 78) hx hb dX8_pollen_73 (by decide) (fun c_68 => ?_) (fun c_68 => ?_)
    · refine lv_aload hx hb dX8_pollen_78 (lv_at hl 0 rfl) ?_
      refine va_get (D := D) (ci := 2) (v := .ref lo_12) (C := RX2) (T := TX2) (N := 10) hx hb hts hin2 hown hK hP k_11 e_15 rfl 4 (by decide) (hts (.fieldLink RX8 100 "HoneyHouse$Lot" "low" "[I") (List.mem_of_getElem? (i := 1) rfl)) (fun _ h9 => h9) rfl dX8_pollen_80 ?_
      refine lv_iload_n hx hb dX8_pollen_83 rfl (lv_at hl 3 rfl) ?_
      refine lv_iload_n hx hb dX8_pollen_84 rfl (lv_at hl 4 rfl) ?_
      refine va_iast (f := f_25) (n := 5) hx hb hK hP hD hS k_22 t_24 e_26 u_27 (i_in a_56 b_57 (by decide)) dX8_pollen_85 (fun H locs hP hD hS => ?_)
      have hm_70 : sm (ux ρ (8 * a1.toNatClampNeg + 2) (8 * a1.toNatClampNeg + 3)) [] ws (ws.set k_22 (lo_12, .inl (c9_23, 5, .inl (upd f_25 a2.toNatClampNeg a3)))) := sm.ints e_26 (ux_in wr_28 (by omega) (by omega))
      have e_71 : (ws.set k_22 (lo_12, .inl (c9_23, 5, .inl (upd f_25 a2.toNatClampNeg a3))))[k_22]? = some (lo_12, .inl (c9_23, 5, .inl (upd f_25 a2.toNatClampNeg a3))) := wset_self e_26
      have e_72 := set_n (z := (lo_12, .inl (c9_23, 5, .inl (upd f_25 a2.toNatClampNeg a3)))) e_34 (tag_ne wr_36 wr_28 (by omega))
      generalize ws.set k_22 (lo_12, .inl (c9_23, 5, .inl (upd f_25 a2.toNatClampNeg a3))) = ws_69 at hP hD hm_70 e_71 e_72
      have e_73 := hm_70.objK e0 (by decide)
      have e_74 := hm_70.arrQ ela
      have e_75 := hm_70.keep (ux_out wk_16 (by omega) (by omega)) e_15
      have e_76 := hm_70.keep (ux_out wks_21 (by omega) (by omega)) es_20
      have e_77 := hm_70.keep (ux_out wr_44 (by omega) (by omega)) e_42
      have e_78 := hm_70.keep (ux_out wr_52 (by omega) (by omega)) e_50
      have hsm := hsm.tr (hm_70.mono (fun _ h9 => absurd h9 List.not_mem_nil))
      obtain ⟨f_79, hf_80⟩ : ∃ g9, g9 = upd f_25 a2.toNatClampNeg a3 := ⟨_, rfl⟩
      rw [← hf_80] at e_71
      refine lv_aload hx hb dX8_pollen_86 (lv_at hl 0 rfl) ?_
      refine va_get (D := D) (ci := 2) (v := .ref hi_13) (C := RX2) (T := TX2) (N := 10) hx hb hts hin2 hown hK hP k_11 e_75 rfl 5 (by decide) (hts (.fieldLink RX8 107 "HoneyHouse$Lot" "high" "[I") (List.mem_of_getElem? (i := 2) rfl)) (fun _ h9 => h9) rfl dX8_pollen_88 ?_
      refine lv_iload_n hx hb dX8_pollen_91 rfl (lv_at hl 3 rfl) ?_
      refine lv_iload hx hb dX8_pollen_92 (lv_at hl 5 rfl) ?_
      refine va_iast (f := f_33) (n := 5) hx hb hK hP hD hS k_30 t_32 e_72 u_35 (i_in a_56 b_57 (by decide)) dX8_pollen_94 (fun H locs hP hD hS => ?_)
      have hm_82 : sm (ux ρ (8 * a1.toNatClampNeg + 2) (8 * a1.toNatClampNeg + 3)) [] ws_69 (ws_69.set k_30 (hi_13, .inl (c9_31, 5, .inl (upd f_33 a2.toNatClampNeg a4)))) := sm.ints e_72 (ux_in wr_36 (by omega) (by omega))
      have e_83 : (ws_69.set k_30 (hi_13, .inl (c9_31, 5, .inl (upd f_33 a2.toNatClampNeg a4))))[k_30]? = some (hi_13, .inl (c9_31, 5, .inl (upd f_33 a2.toNatClampNeg a4))) := wset_self e_72
      have e_84 := set_n (z := (hi_13, .inl (c9_31, 5, .inl (upd f_33 a2.toNatClampNeg a4)))) e_71 (tag_ne wr_28 wr_36 (by omega))
      generalize ws_69.set k_30 (hi_13, .inl (c9_31, 5, .inl (upd f_33 a2.toNatClampNeg a4))) = ws_81 at hP hD hm_82 e_83 e_84
      have e_85 := hm_82.objK e_73 (by decide)
      have e_86 := hm_82.arrQ e_74
      have e_87 := hm_82.keep (ux_out wk_16 (by omega) (by omega)) e_75
      have e_88 := hm_82.keep (ux_out wks_21 (by omega) (by omega)) e_76
      have e_89 := hm_82.keep (ux_out wr_44 (by omega) (by omega)) e_77
      have e_90 := hm_82.keep (ux_out wr_52 (by omega) (by omega)) e_78
      have hsm := hsm.tr (hm_82.mono (fun _ h9 => absurd h9 List.not_mem_nil))
      obtain ⟨f_91, hf_92⟩ : ∃ g9, g9 = upd f_33 a2.toNatClampNeg a4 := ⟨_, rfl⟩
      rw [← hf_92] at e_83
      refine lv_iconst (v := 1) hx hb dX8_pollen_95 (by decide) ?_
      have hk5 := cl_lt (N := 5) a_56 b_57 (by decide)
      exact W.zret (v := 1) hx hb hr rfl (fun t ht hW => ⟨⟨1, (), rfl, Or.inr ⟨(fun h => Or.elim h (fun h => Or.elim h a_5 b_6) (fun h => Or.elim h (fun h => Or.elim h a_56 b_57) (fun h => Or.elim h c_60 (fun h => Or.elim h c_61 (fun h => Or.elim h (i_le_n c_62) (fun h => Or.elim h c_65 (i_le_n c_68))))))), rfl⟩, ws_81, tys, htx, by rw [ht]; exact hP, va_K.moved hW.alike hK, hD, Or.inr ⟨(fun h => Or.elim h (fun h => Or.elim h a_5 b_6) (fun h => Or.elim h (fun h => Or.elim h a_56 b_57) (fun h => Or.elim h c_60 (fun h => Or.elim h c_61 (fun h => Or.elim h (i_le_n c_62) (fun h => Or.elim h c_65 (i_le_n c_68))))))), (xi_mk2 (fv := (uF (uF fv 5 (upd (fv 5) (5 * a1.toNatClampNeg + a2.toNatClampNeg) a3)) 6 (upd (fv 6) (5 * a1.toNatClampNeg + a2.toNatClampNeg) a4))) e_85 w0 hle0 hnum ⟨kla, cla, tla, fla, e_86, ula, hla0, lots_one (J := a1.toNatClampNeg) hla1 hsm htx (fun k h1 _ h2 => ux_keep h1 (by omega)) hg_9 (show LOT ρ (uF (uF fv 5 (upd (fv 5) (5 * a1.toNatClampNeg + a2.toNatClampNeg) a3)) 6 (upd (fv 6) (5 * a1.toNatClampNeg + a2.toNatClampNeg) a4)) ws_81 tys v_8 a1.toNatClampNeg from ⟨k_11, lo_12, hi_13, st_14, e_87, wk_16, ⟨k_22, c9_23, t_24, f_79, e_84, u_27, wr_28, (by rw [hf_80]; exact upd5_r g_29)⟩, ⟨k_30, c9_31, t_32, f_91, e_83, u_35, wr_36, (by rw [hf_92]; exact upd5_r g_37)⟩, ks_17, ga_18, gb_19, e_88, wks_21, ⟨k_38, c9_39, t_40, f_41, e_89, u_43, wr_44, g_45⟩, ⟨k_46, c9_47, t_48, f_49, e_90, u_51, wr_52, g_53⟩⟩) (fun j hj => ⟨fun _ _ => rfl, fun i hi => upd5_n hj hi hk5, fun i hi => upd5_n hj hi hk5, fun _ _ => rfl⟩)⟩ ((CW.sm qta hsm htx (fun k _ h1 h2 => ux_keep (by omega) (by omega))).fvx (fun _ _ _ _ => rfl) (fun _ _ => rfl) (fun _ _ => rfl) (fun _ _ => rfl)) ((CW.sm qba hsm htx (fun k _ h1 h2 => ux_keep (by omega) (by omega))).fvx (fun _ _ _ _ => rfl) (fun _ _ => rfl) (fun _ _ => rfl) (fun _ _ => rfl)) qra (oST.sm qsn hsm htx (fun k _ h1 h2 => ux_keep (by omega) (by omega))) qrd qdr qbl qvd ((oF.sm qfb hsm htx (fun k _ h => ux_keep (by omega) (by omega))).fvx rfl) hsm htx (by decide))⟩⟩, hS.F ht⟩) hS.2.2 dX8_pollen_96
    refine lv_iconst (v := 0) hx hb dX8_pollen_76 (by decide) ?_
    exact W.zret (v := 0) hx hb hr rfl (fun t ht hW => ⟨⟨0, (), rfl, Or.inl ⟨Or.inr (Or.inr (Or.inr (Or.inr (Or.inr (Or.inr ((i_nle c_68))))))), rfl⟩, ws, tys, htx, by rw [ht]; exact hP, va_K.moved hW.alike hK, hD, Or.inl ⟨Or.inr (Or.inr (Or.inr (Or.inr (Or.inr (Or.inr ((i_nle c_68))))))), X⟩⟩, hS.F ht⟩) hS.2.2 dX8_pollen_77
  refine lv_iconst (v := 0) hx hb dX8_pollen_41 (by decide) ?_
  exact W.zret (v := 0) hx hb hr rfl (fun t ht hW => ⟨⟨0, (), rfl, Or.inl ⟨Or.inr (Or.inr (Or.inr (Or.inr (Or.inl (i_nle c_62))))), rfl⟩, ws, tys, htx, by rw [ht]; exact hP, va_K.moved hW.alike hK, hD, Or.inl ⟨Or.inr (Or.inr (Or.inr (Or.inr (Or.inl (i_nle c_62))))), X⟩⟩, hS.F ht⟩) hS.2.2 dX8_pollen_42
set_option maxHeartbeats 4000000 in
set_option maxRecDepth 100000 in
theorem h_step (l : Launch) (D : va_G) (ρ : Nat → Nat) (ws : va_W) (tys : List (ClassId × FieldType)) (fv : Nat → Nat → Int32) (h0 lc bc rc fc : Nat) (dn : Int32) (tl : Nat) (a1 a2 a3 : Int32) (sz : Nat) (X : XI ρ fv ws tys h0 lc bc rc fc dn tl) : Met l yX8_step wsX8_step ({ frames := 1, cells := 0, slots := 0, locals := 22 }) (va_Pc [.ref h0, .int a1, .int a2, .int a3] (fun U => U.heap.size = sz ∧ va_P D vwCl ws U.heap ∧ va_K D vwCl tys U ∧ va_D (fun _ => True) ws)) (va_Qi (fun (r : Int32) (_ : Unit) => (stpN a1 a2 a3 ∧ r = 0) ∨ (¬ stpN a1 a2 a3 ∧ r = 1)) (fun (_ : Unit) (t : State) => ∃ (ws' : va_W) (tys' : List (ClassId × FieldType)), tyx tys tys' ∧ va_P D vwCl ws' t.heap ∧ va_K D vwCl tys' t ∧ va_D (va_A ws sz) ws' ∧ ((stpN a1 a2 a3 ∧ XI ρ fv ws' tys' h0 lc bc rc fc dn tl) ∨ (¬ stpN a1 a2 a3 ∧ XI ρ (uF fv 8 (stpF (fv 8) a1.toNatClampNeg a2 a3)) ws' tys' h0 lc bc rc fc dn tl))) (va_A ws sz)) 0 0 (va_A ws sz) := by
  refine Met.ofW (cc := cX8_step) (maxL := 4) (ret := (some .boolean)) (by decide) rfl ?_
  intro p e s m args below meth c s₁ B hml hv
  obtain ⟨rfl, hsz, hP, hK, hD0⟩ := hv
  have hx := B.exec
  have hb := B.bytes
  have hr := B.returns
  have hts := atoms_spec (ws := wsX8_step) B.pre
  have hown : s.vm.findClass RX8 = some m.cls := findClass_of_methodNamed B.named
  have hlocks := B.notSynchronized
  subst hsz
  have hD := hD0.self (sz := s.heap.size)
  generalize hAe : va_A ws s.heap.size = A at hD ⊢
  have hA : ∀ q : Nat, s.heap.size ≤ q → A q := fun q h => by rw [← hAe]; exact Or.inr h
  have hS : va_S A s.heap s.heap [] := va_S.rf
  have hsm : sm (ux ρ 8005 8006) [] ws ws := sm.rf ws
  have htx : tyx tys tys := tyx.rf tys
  have hin5 : ∀ w ∈ u_ws RX5 TX5 2, w ∈ wsX8_step := (fun _ h9 => List.mem_cons_of_mem _ ((List.mem_append_right _ h9)))
  have hin8 : ∀ w ∈ u_ws RX8 TX8 15, w ∈ wsX8_step := (fun _ h9 => List.mem_cons_of_mem _ (List.mem_append_left _ ((List.mem_append_right _ h9))))
  have hl := lv_entry ([.ref h0, .int a1, .int a2, .int a3]) (n := 4) (Nat.le_of_ble_eq_true rfl)
  rw [lg_entry_eq]
  generalize (lg_sl ([.ref h0, .int a1, .int a2, .int a3]) ++ List.replicate (4 - (lg_sl ([.ref h0, .int a1, .int a2, .int a3])).length) Slot.unset).toArray = ls at hl ⊢
  have hl : lv_has ls 4 [(0, .ref h0), (1, .int a1), (2, .int a2), (3, .int a3)] := hl
  obtain ⟨k0, la, ta, ba, ra, sn, rd, dr, bl, vd, fb, e0, w0, hle0, hnum, qla, qta, qba, qra, qsn, qrd, qdr, qbl, qvd, qfb⟩ := id X
  obtain ⟨kla, cla, tla, fla, ela, ula, hla0, hla1⟩ := id qla
  have hlc := hnum.1
  obtain ⟨ksn, s1, s2, esn, xsn, ⟨ks1, cs1, ts1, fs1, es1, us1, xs1, gs1⟩, ⟨ks2, cs2, ts2, fs2, es2, us2, xs2, gs2⟩⟩ := id qsn
  refine lv_iload_n hx hb dX8_step_0 rfl (lv_at hl 1 rfl) ?_
  refine lv_iconst (v := 0) hx hb dX8_step_1 (by decide) ?_
  refine lv_iconst (v := 3) hx hb dX8_step_2 (by decide) ?_
  refine vp_callSi (W.runS (As := [.int a1, .int 0, .int 3]) (rest := []) ⟨hx, hb, hml, hown, hts⟩ (s_X8_isIn l a1 0 3) (va_cwS 3 hts gX8_step_X8_isIn rfl rfl rfl (by decide +kernel) ⟨Nat.le_of_ble_eq_true rfl, Nat.le_of_ble_eq_true rfl⟩) ⟨fun a U g mk q => q, fun U hU hW => ⟨rfl, trivial⟩⟩ rfl rfl hl.1 rfl (lv_room (Nat.le_of_ble_eq_true rfl)) dX8_step_3 ⟨Nat.le_of_ble_eq_true rfl, Nat.le_of_ble_eq_true rfl⟩) (fun r_1 k_2 => ?_)
  rcases k_2 with ⟨rfl, a_3o⟩ | ⟨rfl, a_3, b_4⟩
  · refine lv_if_eq (tgt := 30) hx hb dX8_step_6 (by decide) (fun c_5 => ?_) (fun c_5 => absurd (by decide) c_5)
    refine lv_iconst (v := 0) hx hb dX8_step_30 (by decide) ?_
    exact W.zret (v := 0) hx hb hr rfl (fun t ht hW => ⟨⟨0, (), rfl, Or.inl ⟨Or.inl a_3o, rfl⟩, ws, tys, htx, by rw [ht]; exact hP, va_K.moved hW.alike hK, hD, Or.inl ⟨Or.inl a_3o, X⟩⟩, hS.F ht⟩) hS.2.2 dX8_step_31
  refine lv_if_eq (tgt := 30) hx hb dX8_step_6 (by decide) (fun c_6 => absurd c_6 (by decide)) (fun c_6 => ?_)
  refine lv_iload_n hx hb dX8_step_9 rfl (lv_at hl 2 rfl) ?_
  refine lv_iconst (v := 0) hx hb dX8_step_10 (by decide) ?_
  refine lv_sipush (v := 300) hx hb dX8_step_11 (by decide) ?_
  refine vp_callSi (W.runS (As := [.int a2, .int 0, .int 300]) (rest := []) ⟨hx, hb, hml, hown, hts⟩ (s_X8_isIn l a2 0 300) (va_cwS 3 hts gX8_step_X8_isIn rfl rfl rfl (by decide +kernel) ⟨Nat.le_of_ble_eq_true rfl, Nat.le_of_ble_eq_true rfl⟩) ⟨fun a U g mk q => q, fun U hU hW => ⟨rfl, trivial⟩⟩ rfl rfl hl.1 rfl (lv_room (Nat.le_of_ble_eq_true rfl)) dX8_step_14 ⟨Nat.le_of_ble_eq_true rfl, Nat.le_of_ble_eq_true rfl⟩) (fun r_7 k_8 => ?_)
  rcases k_8 with ⟨rfl, a_9o⟩ | ⟨rfl, a_9, b_10⟩
  · refine lv_if_eq (tgt := 30) hx hb dX8_step_17 (by decide) (fun c_11 => ?_) (fun c_11 => absurd (by decide) c_11)
    refine lv_iconst (v := 0) hx hb dX8_step_30 (by decide) ?_
    exact W.zret (v := 0) hx hb hr rfl (fun t ht hW => ⟨⟨0, (), rfl, Or.inl ⟨Or.inr (Or.inl a_9o), rfl⟩, ws, tys, htx, by rw [ht]; exact hP, va_K.moved hW.alike hK, hD, Or.inl ⟨Or.inr (Or.inl a_9o), X⟩⟩, hS.F ht⟩) hS.2.2 dX8_step_31
  refine lv_if_eq (tgt := 30) hx hb dX8_step_17 (by decide) (fun c_12 => absurd c_12 (by decide)) (fun c_12 => ?_)
  refine lv_iload_n hx hb dX8_step_20 rfl (lv_at hl 3 rfl) ?_
  refine lv_iconst (v := 0) hx hb dX8_step_21 (by decide) ?_
  refine lv_ldc hx hb hown (hts (.constant RX8 239 (100000)) (List.mem_of_getElem? (i := 1) rfl)) dX8_step_22 ?_
  refine vp_callSi (W.runS (As := [.int a3, .int 0, .int 100000]) (rest := []) ⟨hx, hb, hml, hown, hts⟩ (s_X8_isIn l a3 0 100000) (va_cwS 3 hts gX8_step_X8_isIn rfl rfl rfl (by decide +kernel) ⟨Nat.le_of_ble_eq_true rfl, Nat.le_of_ble_eq_true rfl⟩) ⟨fun a U g mk q => q, fun U hU hW => ⟨rfl, trivial⟩⟩ rfl rfl hl.1 rfl (lv_room (Nat.le_of_ble_eq_true rfl)) dX8_step_24 ⟨Nat.le_of_ble_eq_true rfl, Nat.le_of_ble_eq_true rfl⟩) (fun r_13 k_14 => ?_)
  rcases k_14 with ⟨rfl, a_15o⟩ | ⟨rfl, a_15, b_16⟩
  · refine lv_if_ne (tgt := 32) hx hb dX8_step_27 (by decide) (fun c_17 => absurd (by decide) c_17) (fun c_17 => ?_)
    refine lv_iconst (v := 0) hx hb dX8_step_30 (by decide) ?_
    exact W.zret (v := 0) hx hb hr rfl (fun t ht hW => ⟨⟨0, (), rfl, Or.inl ⟨Or.inr (Or.inr (a_15o)), rfl⟩, ws, tys, htx, by rw [ht]; exact hP, va_K.moved hW.alike hK, hD, Or.inl ⟨Or.inr (Or.inr (a_15o)), X⟩⟩, hS.F ht⟩) hS.2.2 dX8_step_31
  refine lv_if_ne (tgt := 32) hx hb dX8_step_27 (by decide) (fun c_18 => ?_) (fun c_18 => absurd c_18 (by decide))
  refine lv_aload_n hx hb dX8_step_32 rfl (lv_at hl 0 rfl) ?_
  refine va_get (D := D) (ci := 8) (v := .ref sn) (C := RX8) (T := TX8) (N := 15) hx hb hts hin8 hown hK hP k0 e0 rfl 4 (by decide) (hts (.fieldLink RX8 33 "HoneyHouse" "stepsNow" "LHoneyHouse$Steps;") (List.mem_of_getElem? (i := 2) rfl)) (fun _ h9 => h9) rfl dX8_step_33 ?_
  refine va_get (D := D) (ci := 5) (v := .ref s1) (C := RX5) (T := TX5) (N := 2) hx hb hts hin5 hown hK hP ksn esn rfl 0 (by decide) (hts (.fieldLink RX8 240 "HoneyHouse$Steps" "waters" "[I") (List.mem_of_getElem? (i := 3) rfl)) (fun _ h9 => h9) rfl dX8_step_36 ?_
  refine lv_iload_n hx hb dX8_step_39 rfl (lv_at hl 1 rfl) ?_
  refine lv_iload_n hx hb dX8_step_40 rfl (lv_at hl 2 rfl) ?_
  refine va_iast (f := fs1) (n := 4) hx hb hK hP hD hS ks1 ts1 es1 us1 (i_in a_3 b_4 (by decide)) dX8_step_41 (fun H locs hP hD hS => ?_)
  have hm_20 : sm (ux ρ 8005 8006) [] ws (ws.set ks1 (s1, .inl (cs1, 4, .inl (upd fs1 a1.toNatClampNeg a2)))) := sm.ints es1 (ux_in xs1 (by omega) (by omega))
  have e_21 : (ws.set ks1 (s1, .inl (cs1, 4, .inl (upd fs1 a1.toNatClampNeg a2))))[ks1]? = some (s1, .inl (cs1, 4, .inl (upd fs1 a1.toNatClampNeg a2))) := wset_self es1
  have e_22 := set_n (z := (s1, .inl (cs1, 4, .inl (upd fs1 a1.toNatClampNeg a2)))) es2 (tag_ne xs2 xs1 (by omega))
  generalize ws.set ks1 (s1, .inl (cs1, 4, .inl (upd fs1 a1.toNatClampNeg a2))) = ws_19 at hP hD hm_20 e_21 e_22
  have e_23 := hm_20.objK e0 (by decide)
  have e_24 := hm_20.arrQ ela
  have e_25 := hm_20.keep (ux_out xsn (by omega) (by omega)) esn
  have hsm := hsm.tr (hm_20.mono (fun _ h9 => absurd h9 List.not_mem_nil))
  obtain ⟨f_26, hf_27⟩ : ∃ g9, g9 = upd fs1 a1.toNatClampNeg a2 := ⟨_, rfl⟩
  rw [← hf_27] at e_21
  refine lv_aload_n hx hb dX8_step_42 rfl (lv_at hl 0 rfl) ?_
  refine va_get (D := D) (ci := 8) (v := .ref sn) (C := RX8) (T := TX8) (N := 15) hx hb hts hin8 hown hK hP k0 e_23 rfl 4 (by decide) (hts (.fieldLink RX8 33 "HoneyHouse" "stepsNow" "LHoneyHouse$Steps;") (List.mem_of_getElem? (i := 2) rfl)) (fun _ h9 => h9) rfl dX8_step_43 ?_
  refine va_get (D := D) (ci := 5) (v := .ref s2) (C := RX5) (T := TX5) (N := 2) hx hb hts hin5 hown hK hP ksn e_25 rfl 1 (by decide) (hts (.fieldLink RX8 243 "HoneyHouse$Steps" "prices" "[I") (List.mem_of_getElem? (i := 4) rfl)) (fun _ h9 => h9) rfl dX8_step_46 ?_
  refine lv_iload_n hx hb dX8_step_49 rfl (lv_at hl 1 rfl) ?_
  refine lv_iload_n hx hb dX8_step_50 rfl (lv_at hl 3 rfl) ?_
  refine va_iast (f := fs2) (n := 4) hx hb hK hP hD hS ks2 ts2 e_22 us2 (i_in a_3 b_4 (by decide)) dX8_step_51 (fun H locs hP hD hS => ?_)
  have hm_29 : sm (ux ρ 8005 8006) [] ws_19 (ws_19.set ks2 (s2, .inl (cs2, 4, .inl (upd fs2 a1.toNatClampNeg a3)))) := sm.ints e_22 (ux_in xs2 (by omega) (by omega))
  have e_30 : (ws_19.set ks2 (s2, .inl (cs2, 4, .inl (upd fs2 a1.toNatClampNeg a3))))[ks2]? = some (s2, .inl (cs2, 4, .inl (upd fs2 a1.toNatClampNeg a3))) := wset_self e_22
  have e_31 := set_n (z := (s2, .inl (cs2, 4, .inl (upd fs2 a1.toNatClampNeg a3)))) e_21 (tag_ne xs1 xs2 (by omega))
  generalize ws_19.set ks2 (s2, .inl (cs2, 4, .inl (upd fs2 a1.toNatClampNeg a3))) = ws_28 at hP hD hm_29 e_30 e_31
  have e_32 := hm_29.objK e_23 (by decide)
  have e_33 := hm_29.arrQ e_24
  have e_34 := hm_29.keep (ux_out xsn (by omega) (by omega)) e_25
  have hsm := hsm.tr (hm_29.mono (fun _ h9 => absurd h9 List.not_mem_nil))
  obtain ⟨f_35, hf_36⟩ : ∃ g9, g9 = upd fs2 a1.toNatClampNeg a3 := ⟨_, rfl⟩
  rw [← hf_36] at e_30
  refine lv_iconst (v := 1) hx hb dX8_step_52 (by decide) ?_
  exact W.zret (v := 1) hx hb hr rfl (fun t ht hW => ⟨⟨1, (), rfl, Or.inr ⟨(fun h => Or.elim h (fun h => Or.elim h a_3 b_4) (fun h => Or.elim h (fun h => Or.elim h a_9 b_10) (fun h => Or.elim h a_15 b_16))), rfl⟩, ws_28, tys, htx, by rw [ht]; exact hP, va_K.moved hW.alike hK, hD, Or.inr ⟨(fun h => Or.elim h (fun h => Or.elim h a_3 b_4) (fun h => Or.elim h (fun h => Or.elim h a_9 b_10) (fun h => Or.elim h a_15 b_16))), (xi_mk2 (fv := (uF fv 8 (stpF (fv 8) a1.toNatClampNeg a2 a3))) e_32 w0 hle0 hnum ((CL.sm qla hsm htx (fun k _ h1 h2 => ux_keep (by omega) (by omega))).fvx (fun _ _ _ _ => rfl) rfl rfl rfl) ((CW.sm qta hsm htx (fun k _ h1 h2 => ux_keep (by omega) (by omega))).fvx (fun _ _ _ _ => rfl) (fun _ _ => rfl) (fun _ _ => rfl) (fun _ _ => rfl)) ((CW.sm qba hsm htx (fun k _ h1 h2 => ux_keep (by omega) (by omega))).fvx (fun _ _ _ _ => rfl) (fun _ _ => rfl) (fun _ _ => rfl) (fun _ _ => rfl)) qra (show oN ρ (uF fv 8 (stpF (fv 8) a1.toNatClampNeg a2 a3)) ws_28 tys sn from ⟨ksn, s1, s2, e_34, xsn, ⟨ks1, cs1, ts1, f_26, e_31, us1, xs1, (by rw [hf_27]; exact stp_w gs1)⟩, ⟨ks2, cs2, ts2, f_35, e_30, us2, xs2, (by rw [hf_36]; exact stp_p gs2)⟩⟩) qrd qdr qbl qvd ((oF.sm qfb hsm htx (fun k _ h => ux_keep (by omega) (by omega))).fvx rfl) hsm htx (by decide))⟩⟩, hS.F ht⟩) hS.2.2 dX8_step_53
set_option maxHeartbeats 4000000 in
set_option maxRecDepth 100000 in
theorem h_paid (l : Launch) (D : va_G) (ρ : Nat → Nat) (ws : va_W) (tys : List (ClassId × FieldType)) (fv : Nat → Nat → Int32) (h0 lc bc rc fc : Nat) (dn : Int32) (tl : Nat) (a1 : Int32) (sz : Nat) (X : XI ρ fv ws tys h0 lc bc rc fc dn tl) : Met l yX8_paid wsX8_paid ({ frames := 1, cells := 0, slots := 0, locals := 22 }) (va_Pc [.ref h0, .int a1] (fun U => U.heap.size = sz ∧ va_P D vwCl ws U.heap ∧ va_K D vwCl tys U ∧ va_D (fun _ => True) ws)) (va_Ql (fun (r : Int64) (_ : Unit) => ((a1 < 0 ∨ 9 < a1) ∧ r = (-1)) ∨ (¬ (a1 < 0 ∨ 9 < a1) ∧ r = pdS (fv 4) a1 lc)) (fun (_ : Unit) (t : State) => ∃ (ws' : va_W) (tys' : List (ClassId × FieldType)), tyx tys tys' ∧ va_P D vwCl ws' t.heap ∧ va_K D vwCl tys' t ∧ va_D (va_A ws sz) ws' ∧ (XI ρ fv ws' tys' h0 lc bc rc fc dn tl)) (va_A ws sz)) 0 0 (va_A ws sz) := by
  refine Met.ofW (cc := cX8_paid) (maxL := 6) (ret := (some .long)) (by decide) rfl ?_
  intro p e s m args below meth c s₁ B hml hv
  obtain ⟨rfl, hsz, hP, hK, hD0⟩ := hv
  have hx := B.exec
  have hb := B.bytes
  have hr := B.returns
  have hts := atoms_spec (ws := wsX8_paid) B.pre
  have hown : s.vm.findClass RX8 = some m.cls := findClass_of_methodNamed B.named
  have hlocks := B.notSynchronized
  subst hsz
  have hD := hD0.self (sz := s.heap.size)
  generalize hAe : va_A ws s.heap.size = A at hD ⊢
  have hA : ∀ q : Nat, s.heap.size ≤ q → A q := fun q h => by rw [← hAe]; exact Or.inr h
  have hS : va_S A s.heap s.heap [] := va_S.rf
  have hsm : sm ρ [] ws ws := sm.rf ws
  have htx : tyx tys tys := tyx.rf tys
  have hin2 : ∀ w ∈ u_ws RX2 TX2 10, w ∈ wsX8_paid := (fun _ h9 => List.mem_cons_of_mem _ ((List.mem_append_right _ h9)))
  have hin8 : ∀ w ∈ u_ws RX8 TX8 15, w ∈ wsX8_paid := (fun _ h9 => List.mem_cons_of_mem _ (List.mem_append_left _ ((List.mem_append_right _ h9))))
  have hl := lv_entry ([.ref h0, .int a1]) (n := 6) (Nat.le_of_ble_eq_true rfl)
  rw [lg_entry_eq]
  generalize (lg_sl ([.ref h0, .int a1]) ++ List.replicate (6 - (lg_sl ([.ref h0, .int a1])).length) Slot.unset).toArray = ls at hl ⊢
  have hl : lv_has ls 6 [(0, .ref h0), (1, .int a1)] := hl
  obtain ⟨k0, la, ta, ba, ra, sn, rd, dr, bl, vd, fb, e0, w0, hle0, hnum, qla, qta, qba, qra, qsn, qrd, qdr, qbl, qvd, qfb⟩ := id X
  obtain ⟨kla, cla, tla, fla, ela, ula, hla0, hla1⟩ := id qla
  have hlc := hnum.1
  refine lv_iload_n hx hb dX8_paid_0 rfl (lv_at hl 1 rfl) ?_
  refine lv_iconst (v := 0) hx hb dX8_paid_1 (by decide) ?_
  refine lv_bipush (v := 9) hx hb dX8_paid_2 (by decide) ?_
  refine vp_callSi (W.runS (As := [.int a1, .int 0, .int 9]) (rest := []) ⟨hx, hb, hml, hown, hts⟩ (s_X8_isIn l a1 0 9) (va_cwS 3 hts gX8_paid_X8_isIn rfl rfl rfl (by decide +kernel) ⟨Nat.le_of_ble_eq_true rfl, Nat.le_of_ble_eq_true rfl⟩) ⟨fun a U g mk q => q, fun U hU hW => ⟨rfl, trivial⟩⟩ rfl rfl hl.1 rfl (lv_room (Nat.le_of_ble_eq_true rfl)) dX8_paid_4 ⟨Nat.le_of_ble_eq_true rfl, Nat.le_of_ble_eq_true rfl⟩) (fun r_1 k_2 => ?_)
  rcases k_2 with ⟨rfl, a_3o⟩ | ⟨rfl, a_3, b_4⟩
  · refine lv_if_ne (tgt := 14) hx hb dX8_paid_7 (by decide) (fun c_5 => absurd (by decide) c_5) (fun c_5 => ?_)
    refine lv_ldc2 hx hb hown (hts (.constantLong RX8 246 (-1)) (List.mem_of_getElem? (i := 1) rfl)) dX8_paid_10 ?_
    exact W.lret (v := (-1)) hx hb hr (fun t ht hW => ⟨⟨(-1), (), rfl, Or.inl ⟨a_3o, rfl⟩, ws, tys, htx, by rw [ht]; exact hP, va_K.moved hW.alike hK, hD, X⟩, hS.F ht⟩) hS.2.2 dX8_paid_13
  refine lv_if_ne (tgt := 14) hx hb dX8_paid_7 (by decide) (fun c_6 => ?_) (fun c_6 => absurd c_6 (by decide))
  refine lv_lconst (v := 0) hx hb dX8_paid_14 (by decide) ?_
  refine lv_lstore_n (lv' := [(2, .long 0), (0, .ref h0), (1, .int a1)]) hx hb dX8_paid_15 rfl hl (by decide) rfl (fun ls hl => ?_)
  refine lv_iconst (v := 0) hx hb dX8_paid_16 (by decide) ?_
  refine lv_istore (lv' := [(4, .int 0), (2, .long 0), (0, .ref h0), (1, .int a1)]) hx hb dX8_paid_17 hl (by decide) rfl (fun ls hl => ?_)
  refine lp_S (nL := 6) (N := 40) (σ := Int64) (lv := fun i x_7 => [(4, .int (nI i)), (2, .long x_7), (0, .ref h0), (1, .int a1)]) (J := fun i9 x_7 => x_7 = pdS (fv 4) a1 (min i9 lc)) (fun i hi ih x_7 ls hj hl => ?_) 0 (by omega) 0 ls ((by rw [Nat.zero_min]; rfl)) (lv_sub hl [0, 1, 2, 3] rfl)
  have hl : lv_has ls 6 [(4, .int (nI i)), (2, .long x_7), (0, .ref h0), (1, .int a1)] := hl
  replace hj : x_7 = pdS (fv 4) a1 (min i lc) := hj
  refine lv_iload hx hb dX8_paid_19 (lv_at hl 0 rfl) ?_
  refine lv_aload_n hx hb dX8_paid_21 rfl (lv_at hl 2 rfl) ?_
  refine va_get (D := D) (ci := 8) (v := .ref la) (C := RX8) (T := TX8) (N := 15) hx hb hts hin8 hown hK hP k0 e0 rfl 0 (by decide) (hts (.fieldLink RX8 11 "HoneyHouse" "lots" "[LHoneyHouse$Lot;") (List.mem_of_getElem? (i := 2) rfl)) (fun _ h9 => h9) rfl dX8_paid_22 ?_
  refine va_alen (v := 40) hx hb hK hP kla tla ela ula rfl dX8_paid_25 ?_
  refine lv_icmp_ge (tgt := 67) hx hb dX8_paid_26 (by decide) (fun c_8 => ?_) (fun c_8 => ?_)
  · refine lv_lload_n hx hb dX8_paid_67 rfl (lv_at hl 1 rfl) ?_
    exact W.lret (v := x_7) hx hb hr (fun t ht hW => ⟨⟨x_7, (), rfl, Or.inr ⟨(fun h => Or.elim h a_3 b_4), by rw [hj, show min i lc = lc from by have := (nI_leI (a := 40) (b := i) (by omega) (by omega)).mp (show nI 40 ≤ nI i from c_8); omega]⟩, ws, tys, htx, by rw [ht]; exact hP, va_K.moved hW.alike hK, hD, X⟩, hS.F ht⟩) hS.2.2 dX8_paid_68
  have hlt : i < 40 := i_lt_of hi (by omega) rfl c_8
  refine lv_aload_n hx hb dX8_paid_29 rfl (lv_at hl 2 rfl) ?_
  refine va_get (D := D) (ci := 8) (v := .ref la) (C := RX8) (T := TX8) (N := 15) hx hb hts hin8 hown hK hP k0 e0 rfl 0 (by decide) (hts (.fieldLink RX8 11 "HoneyHouse" "lots" "[LHoneyHouse$Lot;") (List.mem_of_getElem? (i := 2) rfl)) (fun _ h9 => h9) rfl dX8_paid_30 ?_
  refine lv_iload hx hb dX8_paid_33 (lv_at hl 0 rfl) ?_
  refine va_aldq (f := fla) (n := 40) hx hb hK hP kla tla ela ula (vp_in_nI hlt (by omega)) dX8_paid_35 ?_
  obtain ⟨r_9, er_10⟩ : ∃ r, r = fla (nI i).toNatClampNeg := ⟨_, rfl⟩
  refine tp_v (y := va_rf r_9) (by rw [er_10]) ?_
  rw [nI_clamp (n := i) (by omega)] at er_10
  rcases Nat.lt_or_ge i lc with hl_14 | hn_15
  · obtain ⟨v_11, ev_12, hL_13⟩ := hla1 i hl_14
    rw [ev_12] at er_10
    subst er_10
    obtain ⟨k_16, lo_17, hi_18, st_19, e_20, wk_21, ⟨k_27, c9_28, t_29, f_30, e_31, u_32, wr_33, g_34⟩, ⟨k_35, c9_36, t_37, f_38, e_39, u_40, wr_41, g_42⟩, ks_22, ga_23, gb_24, es_25, wks_26, ⟨k_43, c9_44, t_45, f_46, e_47, u_48, wr_49, g_50⟩, ⟨k_51, c9_52, t_53, f_54, e_55, u_56, wr_57, g_58⟩⟩ := hL_13
    refine tp_v (y := .ref v_11) rfl ?_
    refine lv_astore (lv' := [(5, .ref v_11), (4, .int (nI i)), (2, .long x_7), (0, .ref h0), (1, .int a1)]) hx hb dX8_paid_36 hl (by decide) rfl (fun ls hl => ?_)
    refine lv_aload hx hb dX8_paid_38 (lv_at hl 0 rfl) ?_
    refine lv_ifnull hx hb dX8_paid_40 ?_
    refine lv_aload hx hb dX8_paid_43 (lv_at hl 0 rfl) ?_
    refine va_get (D := D) (ci := 2) (v := .int (fv 4 (7 * i))) (C := RX2) (T := TX2) (N := 10) hx hb hts hin2 hown hK hP k_16 e_20 rfl 0 (by decide) (hts (.fieldLink RX8 127 "HoneyHouse$Lot" "keeper" "I") (List.mem_of_getElem? (i := 3) rfl)) (fun _ h9 => h9) rfl dX8_paid_45 ?_
    refine lv_iload_n hx hb dX8_paid_48 rfl (lv_at hl 4 rfl) ?_
    refine lv_icmp_ne (tgt := 61) hx hb dX8_paid_49 (by decide) (fun c_59 => ?_) (fun c_59 => ?_)
    · refine lv_iinc (v := nI (i + 1)) (lv' := [(4, .int (nI (i + 1))), (5, .ref v_11), (2, .long x_7), (0, .ref h0), (1, .int a1)]) hx hb dX8_paid_61 hl (k := 1) rfl (nI_1 i) (by decide) rfl (fun ls hl => ?_)
      refine lv_goto (tgt := 19) hx hb dX8_paid_64 (by decide) ?_
      exact ih hlt x_7 ls (by rw [show min (i + 1) lc = i + 1 by omega, pd_no c_59, hj, show min i lc = i by omega]) (lv_sub hl [0, 2, 3, 4] rfl)
    refine lv_lload_n hx hb dX8_paid_52 rfl (lv_at hl 2 rfl) ?_
    refine lv_aload hx hb dX8_paid_53 (lv_at hl 0 rfl) ?_
    refine va_get (D := D) (ci := 2) (v := .int (fv 4 (7 * i + 6))) (C := RX2) (T := TX2) (N := 10) hx hb hts hin2 hown hK hP k_16 e_20 rfl 9 (by decide) (hts (.fieldLink RX8 111 "HoneyHouse$Lot" "pay" "I") (List.mem_of_getElem? (i := 4) rfl)) (fun _ h9 => h9) rfl dX8_paid_55 ?_
    refine lv_i2l hx hb dX8_paid_58 rfl ?_
    refine lv_ladd hx hb dX8_paid_59 ?_
    refine lv_lstore_n (lv' := [(2, .long (x_7 + ((fv 4 (7 * i + 6)).toInt64))), (5, .ref v_11), (4, .int (nI i)), (0, .ref h0), (1, .int a1)]) hx hb dX8_paid_60 rfl hl (by decide) rfl (fun ls hl => ?_)
    refine lv_iinc (v := nI (i + 1)) (lv' := [(4, .int (nI (i + 1))), (2, .long (x_7 + ((fv 4 (7 * i + 6)).toInt64))), (5, .ref v_11), (0, .ref h0), (1, .int a1)]) hx hb dX8_paid_61 hl (k := 2) rfl (nI_1 i) (by decide) rfl (fun ls hl => ?_)
    refine lv_goto (tgt := 19) hx hb dX8_paid_64 (by decide) ?_
    exact ih hlt (x_7 + ((fv 4 (7 * i + 6)).toInt64)) ls (by rw [show min (i + 1) lc = i + 1 by omega, pd_yes c_59, hj, show min i lc = i by omega]) (lv_sub hl [0, 1, 3, 4] rfl)
  rw [hla0 i hn_15] at er_10
  subst er_10
  refine tp_v (y := .null) rfl ?_
  refine lv_astoreN (lv' := [(5, .null), (4, .int (nI i)), (2, .long x_7), (0, .ref h0), (1, .int a1)]) hx hb dX8_paid_36 hl (by decide) rfl (fun ls hl => ?_)
  refine lv_aloadN hx hb dX8_paid_38 (lv_at hl 0 rfl) ?_
  refine lv_ifnullN (tgt := 61) hx hb dX8_paid_40 (by decide) ?_
  refine lv_iinc (v := nI (i + 1)) (lv' := [(4, .int (nI (i + 1))), (5, .null), (2, .long x_7), (0, .ref h0), (1, .int a1)]) hx hb dX8_paid_61 hl (k := 1) rfl (nI_1 i) (by decide) rfl (fun ls hl => ?_)
  refine lv_goto (tgt := 19) hx hb dX8_paid_64 (by decide) ?_
  exact ih hlt x_7 ls (by rw [hj, show min (i + 1) lc = min i lc by omega]) (lv_sub hl [0, 2, 3, 4] rfl)
