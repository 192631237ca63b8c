theorem dX4_readOne_0 : decode cX4_readOne 0 = .ok (.aload_n 0, 1) := by decide +kernel
theorem dX4_readOne_1 : decode cX4_readOne 1 = .ok (.getfield 12, 3) := by decide +kernel
theorem dX4_readOne_4 : decode cX4_readOne 4 = .ok (.ldc 104, 2) := by decide +kernel
theorem dX4_readOne_6 : decode cX4_readOne 6 = .ok (.invokevirtual 99, 3) := by decide +kernel
theorem dX4_readOne_9 : decode cX4_readOne 9 = .ok (.istore_n 2, 1) := by decide +kernel
theorem dX4_readOne_10 : decode cX4_readOne 10 = .ok (.iload_n 2, 1) := by decide +kernel
theorem dX4_readOne_11 : decode cX4_readOne 11 = .ok (.ifCond .ne 20, 3) := by decide +kernel
theorem dX4_readOne_14 : decode cX4_readOne 14 = .ok (.aload_n 0, 1) := by decide +kernel
theorem dX4_readOne_15 : decode cX4_readOne 15 = .ok (.getfield 12, 3) := by decide +kernel
theorem dX4_readOne_18 : decode cX4_readOne 18 = .ok (.bipush 40, 2) := by decide +kernel
theorem dX4_readOne_20 : decode cX4_readOne 20 = .ok (.invokevirtual 114, 3) := by decide +kernel
theorem dX4_readOne_23 : decode cX4_readOne 23 = .ok (.ifCond .ne 8, 3) := by decide +kernel
theorem dX4_readOne_26 : decode cX4_readOne 26 = .ok (.aload_n 0, 1) := by decide +kernel
theorem dX4_readOne_27 : decode cX4_readOne 27 = .ok (.invokevirtual 130, 3) := by decide +kernel
theorem dX4_readOne_30 : decode cX4_readOne 30 = .ok (.ireturn, 1) := by decide +kernel
theorem dX4_readOne_31 : decode cX4_readOne 31 = .ok (.iload_n 1, 1) := by decide +kernel
theorem dX4_readOne_32 : decode cX4_readOne 32 = .ok (.bipush 6, 2) := by decide +kernel
theorem dX4_readOne_34 : decode cX4_readOne 34 = .ok (.if_icmp .lt 16, 3) := by decide +kernel
theorem dX4_readOne_37 : decode cX4_readOne 37 = .ok (.aload_n 0, 1) := by decide +kernel
theorem dX4_readOne_38 : decode cX4_readOne 38 = .ok (.iconst 3, 1) := by decide +kernel
theorem dX4_readOne_39 : decode cX4_readOne 39 = .ok (.aload_n 0, 1) := by decide +kernel
theorem dX4_readOne_40 : decode cX4_readOne 40 = .ok (.getfield 12, 3) := by decide +kernel
theorem dX4_readOne_43 : decode cX4_readOne 43 = .ok (.getfield 73, 3) := by decide +kernel
theorem dX4_readOne_46 : decode cX4_readOne 46 = .ok (.invokevirtual 76, 3) := by decide +kernel
theorem dX4_readOne_49 : decode cX4_readOne 49 = .ok (.ireturn, 1) := by decide +kernel
theorem dX4_readOne_50 : decode cX4_readOne 50 = .ok (.aload_n 0, 1) := by decide +kernel
theorem dX4_readOne_51 : decode cX4_readOne 51 = .ok (.getfield 12, 3) := by decide +kernel
theorem dX4_readOne_54 : decode cX4_readOne 54 = .ok (.invokevirtual 94, 3) := by decide +kernel
theorem dX4_readOne_57 : decode cX4_readOne 57 = .ok (.iload_n 2, 1) := by decide +kernel
theorem dX4_readOne_58 : decode cX4_readOne 58 = .ok (.ifCond .ne 28, 3) := by decide +kernel
theorem dX4_readOne_61 : decode cX4_readOne 61 = .ok (.aload_n 0, 1) := by decide +kernel
theorem dX4_readOne_62 : decode cX4_readOne 62 = .ok (.iload_n 1, 1) := by decide +kernel
theorem dX4_readOne_63 : decode cX4_readOne 63 = .ok (.iconst 1, 1) := by decide +kernel
theorem dX4_readOne_64 : decode cX4_readOne 64 = .ok (.iadd, 1) := by decide +kernel
theorem dX4_readOne_65 : decode cX4_readOne 65 = .ok (.invokevirtual 43, 3) := by decide +kernel
theorem dX4_readOne_68 : decode cX4_readOne 68 = .ok (.ifCond .eq 16, 3) := by decide +kernel
theorem dX4_readOne_71 : decode cX4_readOne 71 = .ok (.aload_n 0, 1) := by decide +kernel
theorem dX4_readOne_72 : decode cX4_readOne 72 = .ok (.bipush 41, 2) := by decide +kernel
theorem dX4_readOne_74 : decode cX4_readOne 74 = .ok (.invokevirtual 39, 3) := by decide +kernel
theorem dX4_readOne_77 : decode cX4_readOne 77 = .ok (.ifCond .eq 7, 3) := by decide +kernel
theorem dX4_readOne_80 : decode cX4_readOne 80 = .ok (.iconst 1, 1) := by decide +kernel
theorem dX4_readOne_81 : decode cX4_readOne 81 = .ok (.goto 4, 3) := by decide +kernel
theorem dX4_readOne_84 : decode cX4_readOne 84 = .ok (.iconst 0, 1) := by decide +kernel
theorem dX4_readOne_85 : decode cX4_readOne 85 = .ok (.ireturn, 1) := by decide +kernel
theorem dX4_readOne_86 : decode cX4_readOne 86 = .ok (.aload_n 0, 1) := by decide +kernel
theorem dX4_readOne_87 : decode cX4_readOne 87 = .ok (.iload_n 1, 1) := by decide +kernel
theorem dX4_readOne_88 : decode cX4_readOne 88 = .ok (.iconst 1, 1) := by decide +kernel
theorem dX4_readOne_89 : decode cX4_readOne 89 = .ok (.iadd, 1) := by decide +kernel
theorem dX4_readOne_90 : decode cX4_readOne 90 = .ok (.invokevirtual 120, 3) := by decide +kernel
theorem dX4_readOne_93 : decode cX4_readOne 93 = .ok (.istore_n 3, 1) := by decide +kernel
theorem dX4_readOne_94 : decode cX4_readOne 94 = .ok (.aload_n 0, 1) := by decide +kernel
theorem dX4_readOne_95 : decode cX4_readOne 95 = .ok (.iconst (-1), 1) := by decide +kernel
theorem dX4_readOne_96 : decode cX4_readOne 96 = .ok (.invokevirtual 126, 3) := by decide +kernel
theorem dX4_readOne_99 : decode cX4_readOne 99 = .ok (.iload_n 3, 1) := by decide +kernel
theorem dX4_readOne_100 : decode cX4_readOne 100 = .ok (.ireturn, 1) := by decide +kernel
theorem dX4_readEither_0 : decode cX4_readEither 0 = .ok (.aload_n 0, 1) := by decide +kernel
theorem dX4_readEither_1 : decode cX4_readEither 1 = .ok (.iload_n 1, 1) := by decide +kernel
theorem dX4_readEither_2 : decode cX4_readEither 2 = .ok (.invokevirtual 120, 3) := by decide +kernel
theorem dX4_readEither_5 : decode cX4_readEither 5 = .ok (.istore_n 2, 1) := by decide +kernel
theorem dX4_readEither_6 : decode cX4_readEither 6 = .ok (.iconst 0, 1) := by decide +kernel
theorem dX4_readEither_7 : decode cX4_readEither 7 = .ok (.istore_n 3, 1) := by decide +kernel
theorem dX4_readEither_8 : decode cX4_readEither 8 = .ok (.iconst 0, 1) := by decide +kernel
theorem dX4_readEither_9 : decode cX4_readEither 9 = .ok (.istore 4, 2) := by decide +kernel
theorem dX4_readEither_11 : decode cX4_readEither 11 = .ok (.iload 4, 2) := by decide +kernel
theorem dX4_readEither_13 : decode cX4_readEither 13 = .ok (.sipush 400, 3) := by decide +kernel
theorem dX4_readEither_16 : decode cX4_readEither 16 = .ok (.if_icmp .ge 85, 3) := by decide +kernel
theorem dX4_readEither_19 : decode cX4_readEither 19 = .ok (.iload_n 2, 1) := by decide +kernel
theorem dX4_readEither_20 : decode cX4_readEither 20 = .ok (.ifCond .eq 81, 3) := by decide +kernel
theorem dX4_readEither_23 : decode cX4_readEither 23 = .ok (.aload_n 0, 1) := by decide +kernel
theorem dX4_readEither_24 : decode cX4_readEither 24 = .ok (.invokevirtual 123, 3) := by decide +kernel
theorem dX4_readEither_27 : decode cX4_readEither 27 = .ok (.ifCond .eq 74, 3) := by decide +kernel
theorem dX4_readEither_30 : decode cX4_readEither 30 = .ok (.aload_n 0, 1) := by decide +kernel
theorem dX4_readEither_31 : decode cX4_readEither 31 = .ok (.getfield 12, 3) := by decide +kernel
theorem dX4_readEither_34 : decode cX4_readEither 34 = .ok (.ldc 102, 2) := by decide +kernel
theorem dX4_readEither_36 : decode cX4_readEither 36 = .ok (.invokevirtual 99, 3) := by decide +kernel
theorem dX4_readEither_39 : decode cX4_readEither 39 = .ok (.istore 5, 2) := by decide +kernel
theorem dX4_readEither_41 : decode cX4_readEither 41 = .ok (.iload 5, 2) := by decide +kernel
theorem dX4_readEither_43 : decode cX4_readEither 43 = .ok (.ifCond .ne 13, 3) := by decide +kernel
theorem dX4_readEither_46 : decode cX4_readEither 46 = .ok (.iload_n 3, 1) := by decide +kernel
theorem dX4_readEither_47 : decode cX4_readEither 47 = .ok (.ifCond .eq 9, 3) := by decide +kernel
theorem dX4_readEither_50 : decode cX4_readEither 50 = .ok (.aload_n 0, 1) := by decide +kernel
theorem dX4_readEither_51 : decode cX4_readEither 51 = .ok (.bipush (-3), 2) := by decide +kernel
theorem dX4_readEither_53 : decode cX4_readEither 53 = .ok (.invokevirtual 126, 3) := by decide +kernel
theorem dX4_readEither_56 : decode cX4_readEither 56 = .ok (.iload_n 3, 1) := by decide +kernel
theorem dX4_readEither_57 : decode cX4_readEither 57 = .ok (.ifCond .ne 8, 3) := by decide +kernel
theorem dX4_readEither_60 : decode cX4_readEither 60 = .ok (.iload 5, 2) := by decide +kernel
theorem dX4_readEither_62 : decode cX4_readEither 62 = .ok (.ifCond .ne 7, 3) := by decide +kernel
theorem dX4_readEither_65 : decode cX4_readEither 65 = .ok (.iconst 1, 1) := by decide +kernel
theorem dX4_readEither_66 : decode cX4_readEither 66 = .ok (.goto 4, 3) := by decide +kernel
theorem dX4_readEither_69 : decode cX4_readEither 69 = .ok (.iconst 0, 1) := by decide +kernel
theorem dX4_readEither_70 : decode cX4_readEither 70 = .ok (.istore_n 3, 1) := by decide +kernel
theorem dX4_readEither_71 : decode cX4_readEither 71 = .ok (.aload_n 0, 1) := by decide +kernel
theorem dX4_readEither_72 : decode cX4_readEither 72 = .ok (.getfield 12, 3) := by decide +kernel
theorem dX4_readEither_75 : decode cX4_readEither 75 = .ok (.invokevirtual 94, 3) := by decide +kernel
theorem dX4_readEither_78 : decode cX4_readEither 78 = .ok (.aload_n 0, 1) := by decide +kernel
theorem dX4_readEither_79 : decode cX4_readEither 79 = .ok (.iload_n 1, 1) := by decide +kernel
theorem dX4_readEither_80 : decode cX4_readEither 80 = .ok (.invokevirtual 120, 3) := by decide +kernel
theorem dX4_readEither_83 : decode cX4_readEither 83 = .ok (.istore_n 2, 1) := by decide +kernel
theorem dX4_readEither_84 : decode cX4_readEither 84 = .ok (.iload 5, 2) := by decide +kernel
theorem dX4_readEither_86 : decode cX4_readEither 86 = .ok (.ifCond .eq 9, 3) := by decide +kernel
theorem dX4_readEither_89 : decode cX4_readEither 89 = .ok (.aload_n 0, 1) := by decide +kernel
theorem dX4_readEither_90 : decode cX4_readEither 90 = .ok (.bipush (-2), 2) := by decide +kernel
theorem dX4_readEither_92 : decode cX4_readEither 92 = .ok (.invokevirtual 126, 3) := by decide +kernel
theorem dX4_readEither_95 : decode cX4_readEither 95 = .ok (.iinc 4 1, 3) := by decide +kernel
theorem dX4_readEither_98 : decode cX4_readEither 98 = .ok (.goto (-87), 3) := by decide +kernel
theorem dX4_readEither_101 : decode cX4_readEither 101 = .ok (.iload_n 3, 1) := by decide +kernel
theorem dX4_readEither_102 : decode cX4_readEither 102 = .ok (.ifCond .eq 9, 3) := by decide +kernel
theorem dX4_readEither_105 : decode cX4_readEither 105 = .ok (.aload_n 0, 1) := by decide +kernel
theorem dX4_readEither_106 : decode cX4_readEither 106 = .ok (.bipush (-3), 2) := by decide +kernel
theorem dX4_readEither_108 : decode cX4_readEither 108 = .ok (.invokevirtual 126, 3) := by decide +kernel
theorem dX4_readEither_111 : decode cX4_readEither 111 = .ok (.iload_n 2, 1) := by decide +kernel
theorem dX4_readEither_112 : decode cX4_readEither 112 = .ok (.ireturn, 1) := by decide +kernel
set_option maxRecDepth 20000 in
theorem ggX4_readOne_X6_isWord : GoodIn wsX4_readOne wsX6_isWord := goodIn_r _ [7, 8, 9, 10, 11, 12, 13, 14, 15, 16, 17, 18, 19, 20, 21, 22, 23, 24, 25, 6, 26, 27, 28, 29, 30, 31, 32, 33, 34, 35, 36, 37, 38, 39, 40, 41, 42, 43, 44, 45, 46, 47, 48, 49, 50, 51, 52, 53, 54, 55, 56, 57, 58, 59, 60, 61, 62, 63, 64, 65, 139, 140, 141, 142, 143] rfl (by decide +kernel)
set_option maxRecDepth 20000 in
theorem gX4_readOne_X6_isWord : GoodIn wsX4_readOne (wsV RX4 99 RX6 yX6_isWord wsX6_isWord) := goodIn_app (goodIn_of _ (by decide +kernel)) ggX4_readOne_X6_isWord
set_option maxRecDepth 20000 in
theorem ggX4_readOne_X6_isByte : GoodIn wsX4_readOne wsX6_isByte := goodIn_r _ [69, 8, 10, 23, 24, 25, 6, 26, 27, 28, 139, 140, 141, 142, 143] rfl (by decide +kernel)
set_option maxRecDepth 20000 in
theorem gX4_readOne_X6_isByte : GoodIn wsX4_readOne (wsV RX4 114 RX6 yX6_isByte wsX6_isByte) := goodIn_app (goodIn_of _ (by decide +kernel)) ggX4_readOne_X6_isByte
set_option maxRecDepth 20000 in
theorem ggX4_readOne_X4_readTest : GoodIn wsX4_readOne wsX4_readTest := goodIn_r _ [74, 1, 75, 76, 77, 78, 73, 79, 3, 4, 5, 6, 7, 8, 9, 10, 11, 12, 13, 14, 15, 16, 17, 18, 19, 20, 21, 22, 23, 24, 25, 26, 27, 28, 29, 30, 31, 32, 33, 34, 35, 36, 37, 38, 39, 40, 41, 42, 43, 44, 45, 46, 47, 48, 49, 50, 51, 52, 53, 54, 55, 56, 57, 58, 59, 60, 61, 62, 63, 64, 65, 80, 81, 82, 83, 2, 84, 85, 86, 87, 88, 89, 90, 91, 92, 93, 94, 95, 96, 97, 98, 99, 100, 101, 102, 103, 104, 105, 106, 107, 108, 109, 110, 111, 112, 113, 114, 115, 131, 132, 133, 134, 135, 136, 137, 138, 139, 140, 141, 142, 143] rfl (by decide +kernel)
set_option maxRecDepth 20000 in
theorem gX4_readOne_X4_readTest : GoodIn wsX4_readOne (wsV RX4 130 RX4 yX4_readTest wsX4_readTest) := goodIn_app (goodIn_of _ (by decide +kernel)) ggX4_readOne_X4_readTest
set_option maxRecDepth 20000 in
theorem ggX4_readOne_X4_failAt : GoodIn wsX4_readOne wsX4_failAt := goodIn_r _ [87, 88, 89, 131, 132, 133, 134, 135, 136, 137, 138] rfl (by decide +kernel)
set_option maxRecDepth 20000 in
theorem gX4_readOne_X4_failAt : GoodIn wsX4_readOne (wsV RX4 76 RX4 yX4_failAt wsX4_failAt) := goodIn_app (goodIn_of _ (by decide +kernel)) ggX4_readOne_X4_failAt
set_option maxRecDepth 20000 in
theorem ggX4_readEither_X4_readOne : GoodIn wsX4_readEither wsX4_readOne := goodIn_r _ [86, 1, 87, 10, 11, 12, 13, 14, 15, 16, 17, 18, 19, 20, 21, 22, 23, 24, 25, 26, 27, 28, 29, 30, 31, 32, 33, 34, 35, 36, 37, 38, 39, 40, 41, 42, 43, 44, 45, 46, 47, 48, 49, 50, 51, 52, 53, 54, 55, 56, 57, 58, 59, 60, 61, 62, 63, 64, 65, 66, 67, 68, 69, 70, 71, 72, 88, 89, 90, 91, 92, 93, 94, 5, 95, 96, 97, 98, 99, 100, 101, 102, 103, 104, 105, 106, 107, 108, 109, 110, 79, 80, 81, 82, 83, 84, 85, 111, 112, 113, 114, 115, 116, 117, 118, 119, 120, 121, 122, 123, 73, 74, 75, 76, 77, 78, 124, 125, 126, 127, 128, 129, 130, 2, 3, 4, 0, 6, 7, 8, 9, 131, 132, 133, 134, 135, 136, 137, 138, 139, 140, 141, 142, 143] rfl (by decide +kernel)
set_option maxRecDepth 20000 in
theorem gX4_readEither_X4_readOne : GoodIn wsX4_readEither (wsV RX4 120 RX4 yX4_readOne wsX4_readOne) := goodIn_app (goodIn_of _ (by decide +kernel)) ggX4_readEither_X4_readOne
set_option maxRecDepth 20000 in
theorem ggX4_readEither_X4_addCode : GoodIn wsX4_readEither wsX4_addCode := goodIn_r _ [76, 77, 78, 131, 132, 133, 134, 135, 136, 137, 138] rfl (by decide +kernel)
set_option maxRecDepth 20000 in
theorem gX4_readEither_X4_addCode : GoodIn wsX4_readEither (wsV RX4 126 RX4 yX4_addCode wsX4_addCode) := goodIn_app (goodIn_of _ (by decide +kernel)) ggX4_readEither_X4_addCode
set_option maxRecDepth 20000 in
theorem ggX4_readEither_X4_isAndOr : GoodIn wsX4_readEither wsX4_isAndOr := goodIn_r _ [9, 1, 10, 11, 12, 13, 14, 15, 16, 17, 18, 19, 20, 21, 22, 23, 24, 25, 26, 27, 28, 29, 30, 31, 32, 33, 34, 35, 36, 37, 38, 39, 40, 41, 42, 43, 44, 45, 46, 47, 48, 49, 50, 51, 52, 53, 54, 55, 56, 57, 58, 59, 60, 61, 62, 63, 64, 65, 66, 67, 68, 69, 70, 71, 72, 131, 132, 133, 134, 135, 136, 137, 138, 139, 140, 141, 142, 143] rfl (by decide +kernel)
set_option maxRecDepth 20000 in
theorem gX4_readEither_X4_isAndOr : GoodIn wsX4_readEither (wsV RX4 123 RX4 yX4_isAndOr wsX4_isAndOr) := goodIn_app (goodIn_of _ (by decide +kernel)) ggX4_readEither_X4_isAndOr
set_option maxRecDepth 20000 in
theorem ggX4_readEither_X6_isWord : GoodIn wsX4_readEither wsX6_isWord := goodIn_r _ [14, 15, 16, 17, 18, 19, 20, 21, 22, 23, 24, 25, 26, 27, 28, 29, 30, 31, 32, 13, 33, 34, 35, 36, 37, 38, 39, 40, 41, 42, 43, 44, 45, 46, 47, 48, 49, 50, 51, 52, 53, 54, 55, 56, 57, 58, 59, 60, 61, 62, 63, 64, 65, 66, 67, 68, 69, 70, 71, 72, 139, 140, 141, 142, 143] rfl (by decide +kernel)
set_option maxRecDepth 20000 in
theorem gX4_readEither_X6_isWord : GoodIn wsX4_readEither (wsV RX4 99 RX6 yX6_isWord wsX6_isWord) := goodIn_app (goodIn_of _ (by decide +kernel)) ggX4_readEither_X6_isWord
set_option maxRecDepth 20000 in
theorem ggX4_readEither_X6_advance : GoodIn wsX4_readEither wsX6_advance := goodIn_r _ [82, 16, 34, 17, 15, 30, 31, 32, 13, 33, 35, 83, 84, 85, 139, 140, 141, 142, 143] rfl (by decide +kernel)
set_option maxRecDepth 20000 in
theorem gX4_readEither_X6_advance : GoodIn wsX4_readEither (wsV RX4 94 RX6 yX6_advance wsX6_advance) := goodIn_app (goodIn_of _ (by decide +kernel)) ggX4_readEither_X6_advance
set_option maxRecDepth 20000 in
theorem ggX4_readOne_X6_advance : GoodIn wsX4_readOne wsX6_advance := goodIn_r _ [93, 9, 27, 10, 8, 23, 24, 25, 6, 26, 28, 94, 95, 96, 139, 140, 141, 142, 143] rfl (by decide +kernel)
set_option maxRecDepth 20000 in
theorem gX4_readOne_X6_advance : GoodIn wsX4_readOne (wsV RX4 94 RX6 yX6_advance wsX6_advance) := goodIn_app (goodIn_of _ (by decide +kernel)) ggX4_readOne_X6_advance
set_option maxRecDepth 20000 in
theorem ggX4_readOne_X4_readEither : GoodIn wsX4_readOne wsX4_readEither := goodIn_r _ [126, 1, 123, 124, 125, 73, 127, 128, 129, 130, 3, 4, 5, 6, 7, 8, 9, 10, 11, 12, 13, 14, 15, 16, 17, 18, 19, 20, 21, 22, 23, 24, 25, 26, 27, 28, 29, 30, 31, 32, 33, 34, 35, 36, 37, 38, 39, 40, 41, 42, 43, 44, 45, 46, 47, 48, 49, 50, 51, 52, 53, 54, 55, 56, 57, 58, 59, 60, 61, 62, 63, 64, 65, 110, 111, 112, 113, 114, 115, 90, 91, 92, 93, 94, 95, 96, 0, 2, 66, 67, 68, 69, 70, 71, 72, 74, 75, 76, 77, 78, 79, 80, 81, 82, 83, 84, 85, 86, 87, 88, 89, 97, 98, 99, 100, 101, 102, 103, 104, 105, 106, 107, 108, 109, 116, 117, 118, 119, 120, 121, 122, 131, 132, 133, 134, 135, 136, 137, 138, 139, 140, 141, 142, 143] rfl (by decide +kernel)
set_option maxRecDepth 20000 in
theorem gX4_readOne_X4_readEither : GoodIn wsX4_readOne (wsV RX4 43 RX4 yX4_readEither wsX4_readEither) := goodIn_app (goodIn_of _ (by decide +kernel)) ggX4_readOne_X4_readEither
set_option maxRecDepth 20000 in
theorem ggX4_readOne_X4_readByte : GoodIn wsX4_readOne wsX4_readByte := goodIn_r _ [122, 1, 66, 67, 68, 6, 69, 8, 10, 23, 24, 25, 26, 27, 28, 80, 81, 82, 73, 83, 2, 84, 85, 86, 87, 88, 89, 90, 91, 92, 93, 9, 94, 95, 96, 131, 132, 133, 134, 135, 136, 137, 138, 139, 140, 141, 142, 143] rfl (by decide +kernel)
set_option maxRecDepth 20000 in
theorem gX4_readOne_X4_readByte : GoodIn wsX4_readOne (wsV RX4 39 RX4 yX4_readByte wsX4_readByte) := goodIn_app (goodIn_of _ (by decide +kernel)) ggX4_readOne_X4_readByte
set_option maxRecDepth 20000 in
theorem ggX4_readOne_X4_readOne : GoodIn wsX4_readOne wsX4_readOne := goodIn_r _ [0, 1, 2, 3, 4, 5, 6, 7, 8, 9, 10, 11, 12, 13, 14, 15, 16, 17, 18, 19, 20, 21, 22, 23, 24, 25, 26, 27, 28, 29, 30, 31, 32, 33, 34, 35, 36, 37, 38, 39, 40, 41, 42, 43, 44, 45, 46, 47, 48, 49, 50, 51, 52, 53, 54, 55, 56, 57, 58, 59, 60, 61, 62, 63, 64, 65, 66, 67, 68, 69, 70, 71, 72, 73, 74, 75, 76, 77, 78, 79, 80, 81, 82, 83, 84, 85, 86, 87, 88, 89, 90, 91, 92, 93, 94, 95, 96, 97, 98, 99, 100, 101, 102, 103, 104, 105, 106, 107, 108, 109, 110, 111, 112, 113, 114, 115, 116, 117, 118, 119, 120, 121, 122, 123, 124, 125, 126, 127, 128, 129, 130, 131, 132, 133, 134, 135, 136, 137, 138, 139, 140, 141, 142, 143] rfl (by decide +kernel)
set_option maxRecDepth 20000 in
theorem gX4_readOne_X4_readOne : GoodIn wsX4_readOne (wsV RX4 120 RX4 yX4_readOne wsX4_readOne) := goodIn_app (goodIn_of _ (by decide +kernel)) ggX4_readOne_X4_readOne
set_option maxRecDepth 20000 in
theorem ggX4_readOne_X4_addCode : GoodIn wsX4_readOne wsX4_addCode := goodIn_r _ [113, 114, 115, 131, 132, 133, 134, 135, 136, 137, 138] rfl (by decide +kernel)
set_option maxRecDepth 20000 in
theorem gX4_readOne_X4_addCode : GoodIn wsX4_readOne (wsV RX4 126 RX4 yX4_addCode wsX4_addCode) := goodIn_app (goodIn_of _ (by decide +kernel)) ggX4_readOne_X4_addCode
set_option maxHeartbeats 4000000 in
set_option maxRecDepth 100000 in
theorem r_readOne6 (l : Launch) (D : va_G) (ρ : Nat → Nat) (ws : va_W) (tys : List (ClassId × FieldType)) (adK adV : Nat → Nat) (fo : Option Nat) (rd krd tp ktp cd bb tl : Nat)  (sz : Nat) (R0 : RS ρ ws tys rd krd tp ktp cd bb tl)  : Met l yX4_readOne wsX4_readOne ({ frames := 7, cells := 0, slots := 0, locals := 149 }) (va_Pc [.ref rd, .int 6] (fun U => U.heap.size = sz ∧ va_P D vwCl ws U.heap ∧ va_K D vwCl tys U ∧ va_D (fun _ => True) ws ∧ SZ adK adV fo (va_A ws sz) U U.heap)) (va_Qi (fun (r : Int32) (_ : Unit) => r = 0 ∨ r = 1) (fun (_ : Unit) (t : State) => ∃ (ws' : va_W) (tys' : List (ClassId × FieldType)), sm ρ [4, 6] ws ws' ∧ tyx tys tys' ∧ va_P D vwCl ws' t.heap ∧ va_K D vwCl tys' t ∧ va_D (va_A ws sz) ws' ∧ (RS ρ ws' tys' rd krd tp ktp cd bb tl)) (va_A ws sz)) 0 0 (va_A ws sz) := by
  refine Met.ofW (cc := cX4_readOne) (maxL := 4) (ret := (some .boolean)) (by decide) rfl ?_
  intro p e s m args below meth c s₁ B hml hv
  obtain ⟨rfl, hsz, hP, hK, hD0, hsz9⟩ := hv
  have hx := B.exec
  have hb := B.bytes
  have hr := B.returns
  have hts := atoms_spec (ws := wsX4_readOne) B.pre
  have hown : s.vm.findClass RX4 = some m.cls := findClass_of_methodNamed B.named
  have hlocks := B.notSynchronized
  subst hsz
  have hD := hD0.self (sz := s.heap.size)
  generalize hAe : va_A ws s.heap.size = A at hD hsz9 ⊢
  have hA : ∀ q : Nat, s.heap.size ≤ q → A q := fun q h => by rw [← hAe]; exact Or.inr h
  have hS : va_S A s.heap s.heap [] := va_S.rf
  have hsm : sm ρ [4, 6] ws ws := sm.rf ws
  have htx : tyx tys tys := tyx.rf tys
  have hin4 : ∀ w ∈ u_ws RX4 TX4 8, w ∈ wsX4_readOne := (fun _ h9 => List.mem_cons_of_mem _ (List.mem_append_left _ ((List.mem_append_right _ h9))))
  have hin6 : ∀ w ∈ u_ws RX6 TX6 5, w ∈ wsX4_readOne := (fun _ h9 => List.mem_cons_of_mem _ ((List.mem_append_right _ h9)))
  have hl := lv_entry ([.ref rd, .int 6]) (n := 4) (Nat.le_of_ble_eq_true rfl)
  rw [lg_entry_eq]
  generalize (lg_sl ([.ref rd, .int 6]) ++ List.replicate (4 - (lg_sl ([.ref rd, .int 6])).length) Slot.unset).toArray = ls at hl ⊢
  have hl : lv_has ls 4 [(0, .ref rd), (1, .int 6)] := hl
  obtain ⟨ts_1, te_2, cc_3, ra_4, rb_5, rc_6, rv_7, re_8, ya_9, h1_10, h2_11, h3_12, h4_13, er_14, et_15, wr_16, wt_17, ⟨k_18, c9_19, t_20, f_21, e_22, u_23, w_24⟩, ⟨k_25, c9_26, t_27, f_28, e_29, u_30, w_31⟩⟩ := id R0
  refine lv_aload_n hx hb dX4_readOne_0 rfl (lv_at hl 0 rfl) ?_
  refine va_get (D := D) (ci := 4) (v := .ref tp) (C := RX4) (T := TX4) (N := 8) hx hb hts hin4 hown hK hP krd er_14 rfl 0 (by decide) (hts (.fieldLink RX4 12 "HoneyHouse$RuleReader" "tape" "LHoneyHouse$Tape;") (List.mem_of_getElem? (i := 1) rfl)) (fun _ h9 => h9) rfl dX4_readOne_1 ?_
  refine va_ldcS hx hb hown hsz9.2.2.2.2.2.2.1 dX4_readOne_4 ?_
  have hFc := free_all hD hS hA
  refine va_calli (va_runV (As := [.ref (adK 3)]) (rest := []) ⟨hx, hb, hml, hown, hts⟩ (a_isWord l D ρ ws tys adK adV fo 3 tp ktp tl ya_9 (nI ts_1) (nI te_2) bb k_25 c9_26 t_27 f_28 s.heap.size (by decide) et_15 e_29 u_30) (cwV 1 hts gX4_readOne_X6_isWord rfl rfl rfl (by decide +kernel) ⟨Nat.le_of_ble_eq_true rfl, Nat.le_of_ble_eq_true rfl⟩) ⟨fun a U g mk q => by obtain ⟨q0, q1, qP, qK, qD, qS⟩ := q; exact ⟨q0, q1, qP, va_K.moved (u := U) (U := U.calling g mk a) (Vm.Alike.refl U.vm) qK, qD, SZ.same rfl rfl qS⟩, va_recv hK hP (ci := 6) (q0 := ktp) rfl et_15, fun U hU hW => ⟨rfl, by rw [hU], by rw [hU]; exact hP, va_K.moved hW.alike hK, hD.weaken (fun _ _ _ _ => trivial), hsz9.go hS hW hU hFc⟩⟩ rfl rfl hl.1 rfl (lv_room (Nat.le_of_ble_eq_true rfl)) dX4_readOne_6 ⟨Nat.le_of_ble_eq_true rfl, Nat.le_of_ble_eq_true rfl⟩) hS (fun q _ h => hFc q h) hFc (fun r_32 u t H1 locs ht hvm w_33 hB hz1 hk1 hS => ?_)
  obtain ⟨ws_34, ty_35, hm_36, ht_38, hP1, hK1, hD1, hx_37⟩ := hB
  rw [ht] at hP1
  have hK := va_K.moved hvm.symm hK1
  have hD := hD1.weaken (fun _ _ _ h => hFc _ h)
  generalize H1 = H at hP1 hS ⊢
  have hP := hP1
  have e_39 := hm_36.objK er_14 (by decide)
  have e_40 := hm_36.objK et_15 (by decide)
  obtain ⟨f_42, e_41⟩ := hm_36.arrI e_22
  have u_43 := ht_38 _ _ u_23
  obtain ⟨f_45, e_44⟩ := hm_36.arrI e_29
  have u_46 := ht_38 _ _ u_30
  have hsm := hsm.tr (hm_36.mono (by decide))
  have htx := htx.tr ht_38
  rcases w_33 with rfl | rfl
  · refine lv_istore_n (lv' := [(2, .int 0), (0, .ref rd), (1, .int 6)]) hx hb dX4_readOne_9 rfl hl (by decide) rfl (fun ls hl => ?_)
    refine lv_iload_n hx hb dX4_readOne_10 rfl (lv_at hl 0 rfl) ?_
    refine lv_if_ne (tgt := 31) hx hb dX4_readOne_11 (by decide) (fun c_47 => absurd (by decide) c_47) (fun c_47 => ?_)
    refine lv_aload_n hx hb dX4_readOne_14 rfl (lv_at hl 1 rfl) ?_
    refine va_get (D := D) (ci := 4) (v := .ref tp) (C := RX4) (T := TX4) (N := 8) hx hb hts hin4 hown hK hP krd e_39 rfl 0 (by decide) (hts (.fieldLink RX4 12 "HoneyHouse$RuleReader" "tape" "LHoneyHouse$Tape;") (List.mem_of_getElem? (i := 1) rfl)) (fun _ h9 => h9) rfl dX4_readOne_15 ?_
    refine lv_bipush (v := 40) hx hb dX4_readOne_18 (by decide) ?_
    refine vp_callSi (W.runV (As := [.int 40]) (rest := []) ⟨hx, hb, hml, hown, hts⟩ (s_isByte l D ws_34 ty_35 tp ktp tl ya_9 (nI ts_1) (nI te_2) bb k_25 c9_26 t_27 f_45 40 e_40 e_44 u_46) (cwV 1 hts gX4_readOne_X6_isByte rfl rfl rfl (by decide +kernel) ⟨Nat.le_of_ble_eq_true rfl, Nat.le_of_ble_eq_true rfl⟩) ⟨fun a U g mk q => ⟨q.1, q.2.1, va_K.moved (u := U) (U := U.calling g mk a) (Vm.Alike.refl U.vm) q.2.2⟩, va_recv hK hP (ci := 6) (q0 := ktp) rfl e_40, fun U hU hW => ⟨rfl, by rw [hU]; exact hP, va_K.moved hW.alike hK⟩⟩ rfl rfl hl.1 rfl (lv_room (Nat.le_of_ble_eq_true rfl)) dX4_readOne_20 ⟨Nat.le_of_ble_eq_true rfl, Nat.le_of_ble_eq_true rfl⟩) (fun r_48 k_49 => ?_)
    rcases k_49 with rfl | rfl
    · refine lv_if_ne (tgt := 31) hx hb dX4_readOne_23 (by decide) (fun c_50 => absurd (by decide) c_50) (fun c_50 => ?_)
      refine lv_aload_n hx hb dX4_readOne_26 rfl (lv_at hl 1 rfl) ?_
      have hFc := free_all hD hS hA
      refine va_calli (va_runV (As := []) (rest := []) ⟨hx, hb, hml, hown, hts⟩ (r_readTest l D ρ ws_34 ty_35 adK adV fo rd krd tp ktp cd bb tl  H.size (⟨ts_1, te_2, cc_3, ra_4, rb_5, rc_6, rv_7, re_8, ya_9, by omega, by omega, by omega, by omega, e_39, e_40, wr_16, wt_17, ⟨k_18, c9_19, t_20, f_42, e_41, u_43, w_24⟩, ⟨k_25, c9_26, t_27, f_45, e_44, u_46, w_31⟩⟩ : RS ρ ws_34 ty_35 rd krd tp ktp cd bb tl)) (cwV 0 hts gX4_readOne_X4_readTest rfl rfl rfl (by decide +kernel) ⟨Nat.le_of_ble_eq_true rfl, Nat.le_of_ble_eq_true rfl⟩) ⟨fun a U g mk q => by obtain ⟨q0, q1, qP, qK, qD, qS⟩ := q; exact ⟨q0, q1, qP, va_K.moved (u := U) (U := U.calling g mk a) (Vm.Alike.refl U.vm) qK, qD, SZ.same rfl rfl qS⟩, va_recv hK hP (ci := 4) (q0 := krd) rfl e_39, fun U hU hW => ⟨rfl, by rw [hU], by rw [hU]; exact hP, va_K.moved hW.alike hK, hD.weaken (fun _ _ _ _ => trivial), hsz9.go hS hW hU hFc⟩⟩ rfl rfl hl.1 rfl (lv_room (Nat.le_of_ble_eq_true rfl)) dX4_readOne_27 ⟨Nat.le_of_ble_eq_true rfl, Nat.le_of_ble_eq_true rfl⟩) hS (fun q _ h => hFc q h) hFc (fun r_51 u t H1 locs ht hvm w_52 hB hz1 hk1 hS => ?_)
      obtain ⟨ws_53, ty_54, hm_55, ht_57, hP1, hK1, hD1, hx_56⟩ := hB
      rw [ht] at hP1
      have hK := va_K.moved hvm.symm hK1
      have hD := hD1.weaken (fun _ _ _ h => hFc _ h)
      generalize H1 = H at hP1 hS ⊢
      have hP := hP1
      obtain ⟨g_59, e_58, h_60⟩ := hm_55.obj e_39
      obtain ⟨z_61, z_62, z_63, z_64, z_65, z_66, rfl⟩ := smX4 h_60
      obtain ⟨g_68, e_67, h_69⟩ := hm_55.obj e_40
      obtain ⟨z_70, z_71, z_72, z_73, rfl⟩ := smX6 h_69
      obtain ⟨f_75, e_74⟩ := hm_55.arrI e_41
      have u_76 := ht_57 _ _ u_43
      obtain ⟨f_78, e_77⟩ := hm_55.arrI e_44
      have u_79 := ht_57 _ _ u_46
      have hsm := hsm.tr (hm_55.mono (by decide))
      have htx := htx.tr ht_57
      obtain ⟨ts_80, te_81, cc_82, ra_83, rb_84, rc_85, rv_86, re_87, ya_88, h1_89, h2_90, h3_91, h4_92, er_93, et_94, wr_95, wt_96, ⟨k_97, c9_98, t_99, f_100, e_101, u_102, w_103⟩, ⟨k_104, c9_105, t_106, f_107, e_108, u_109, w_110⟩⟩ := id hx_56
      exact W.zret (v := r_51) hx hb hr (by rcases w_52 with h9 | h9 <;> rw [h9] <;> rfl) (fun t ht hW => ⟨⟨r_51, (), rfl, w_52, ws_53, ty_54, hsm, htx, by rw [ht]; exact hP, va_K.moved hW.alike hK, hD, (⟨ts_80, te_81, cc_82, ra_83, rb_84, rc_85, rv_86, re_87, ya_88, by omega, by omega, by omega, by omega, er_93, et_94, wr_95, wt_96, ⟨k_97, c9_98, t_99, f_100, e_101, u_102, w_103⟩, ⟨k_104, c9_105, t_106, f_107, e_108, u_109, w_110⟩⟩ : RS ρ ws_53 ty_54 rd krd tp ktp cd bb tl)⟩, hS.F ht⟩) hS.2.2 dX4_readOne_30
    refine lv_if_ne (tgt := 31) hx hb dX4_readOne_23 (by decide) (fun c_111 => ?_) (fun c_111 => absurd c_111 (by decide))
    refine lv_iload_n hx hb dX4_readOne_31 rfl (lv_at hl 2 rfl) ?_
    refine lv_bipush (v := 6) hx hb dX4_readOne_32 (by decide) ?_
    refine lv_icmp_lt (tgt := 50) hx hb dX4_readOne_34 (by decide) (fun c_112 => absurd c_112 (by decide)) (fun c_112 => ?_)
    refine lv_aload_n hx hb dX4_readOne_37 rfl (lv_at hl 1 rfl) ?_
    refine lv_iconst (v := 3) hx hb dX4_readOne_38 (by decide) ?_
    refine lv_aload_n hx hb dX4_readOne_39 rfl (lv_at hl 1 rfl) ?_
    refine va_get (D := D) (ci := 4) (v := .ref tp) (C := RX4) (T := TX4) (N := 8) hx hb hts hin4 hown hK hP krd e_39 rfl 0 (by decide) (hts (.fieldLink RX4 12 "HoneyHouse$RuleReader" "tape" "LHoneyHouse$Tape;") (List.mem_of_getElem? (i := 1) rfl)) (fun _ h9 => h9) rfl dX4_readOne_40 ?_
    refine va_get (D := D) (ci := 6) (v := .int (nI ts_1)) (C := RX6) (T := TX6) (N := 5) hx hb hts hin6 hown hK hP ktp e_40 rfl 2 (by decide) (hts (.fieldLink RX4 73 "HoneyHouse$Tape" "start" "I") (List.mem_of_getElem? (i := 2) rfl)) (fun _ h9 => h9) rfl dX4_readOne_43 ?_
    have hFc := free_all hD hS hA
    refine va_calli (va_runV (As := [.int 3, .int (nI ts_1)]) (rest := []) ⟨hx, hb, hml, hown, hts⟩ (r_failAt l D ρ ws_34 ty_35 adK adV fo rd krd tp ktp cd bb tl 3 (nI ts_1) H.size (⟨ts_1, te_2, cc_3, ra_4, rb_5, rc_6, rv_7, re_8, ya_9, by omega, by omega, by omega, by omega, e_39, e_40, wr_16, wt_17, ⟨k_18, c9_19, t_20, f_42, e_41, u_43, w_24⟩, ⟨k_25, c9_26, t_27, f_45, e_44, u_46, w_31⟩⟩ : RS ρ ws_34 ty_35 rd krd tp ktp cd bb tl)) (cwV 2 hts gX4_readOne_X4_failAt rfl rfl rfl (by decide +kernel) ⟨Nat.le_of_ble_eq_true rfl, Nat.le_of_ble_eq_true rfl⟩) ⟨fun a U g mk q => by obtain ⟨q0, q1, qP, qK, qD, qS⟩ := q; exact ⟨q0, q1, qP, va_K.moved (u := U) (U := U.calling g mk a) (Vm.Alike.refl U.vm) qK, qD, SZ.same rfl rfl qS⟩, va_recv hK hP (ci := 4) (q0 := krd) rfl e_39, fun U hU hW => ⟨rfl, by rw [hU], by rw [hU]; exact hP, va_K.moved hW.alike hK, hD.weaken (fun _ _ _ _ => trivial), hsz9.go hS hW hU hFc⟩⟩ rfl rfl hl.1 rfl (lv_room (Nat.le_of_ble_eq_true rfl)) dX4_readOne_46 ⟨Nat.le_of_ble_eq_true rfl, Nat.le_of_ble_eq_true rfl⟩) hS (fun q _ h => hFc q h) hFc (fun r_113 u t H1 locs ht hvm w_114 hB hz1 hk1 hS => ?_)
    obtain ⟨ws_115, ty_116, hm_117, ht_119, hP1, hK1, hD1, hx_118⟩ := hB
    rw [ht] at hP1
    have hK := va_K.moved hvm.symm hK1
    have hD := hD1.weaken (fun _ _ _ h => hFc _ h)
    generalize H1 = H at hP1 hS ⊢
    have hP := hP1
    obtain ⟨g_121, e_120, h_122⟩ := hm_117.obj e_39
    obtain ⟨z_123, z_124, z_125, z_126, z_127, z_128, rfl⟩ := smX4 h_122
    obtain ⟨g_130, e_129, h_131⟩ := hm_117.obj e_40
    obtain ⟨z_132, z_133, z_134, z_135, rfl⟩ := smX6 h_131
    obtain ⟨f_137, e_136⟩ := hm_117.arrI e_41
    have u_138 := ht_119 _ _ u_43
    obtain ⟨f_140, e_139⟩ := hm_117.arrI e_44
    have u_141 := ht_119 _ _ u_46
    have hsm := hsm.tr (hm_117.mono (by decide))
    have htx := htx.tr ht_119
    obtain ⟨ts_142, te_143, cc_144, ra_145, rb_146, rc_147, rv_148, re_149, ya_150, h1_151, h2_152, h3_153, h4_154, er_155, et_156, wr_157, wt_158, ⟨k_159, c9_160, t_161, f_162, e_163, u_164, w_165⟩, ⟨k_166, c9_167, t_168, f_169, e_170, u_171, w_172⟩⟩ := id hx_118
    subst w_114
    exact W.zret (v := 0) hx hb hr rfl (fun t ht hW => ⟨⟨0, (), rfl, Or.inl rfl, ws_115, ty_116, hsm, htx, by rw [ht]; exact hP, va_K.moved hW.alike hK, hD, (⟨ts_142, te_143, cc_144, ra_145, rb_146, rc_147, rv_148, re_149, ya_150, by omega, by omega, by omega, by omega, er_155, et_156, wr_157, wt_158, ⟨k_159, c9_160, t_161, f_162, e_163, u_164, w_165⟩, ⟨k_166, c9_167, t_168, f_169, e_170, u_171, w_172⟩⟩ : RS ρ ws_115 ty_116 rd krd tp ktp cd bb tl)⟩, hS.F ht⟩) hS.2.2 dX4_readOne_49
  refine lv_istore_n (lv' := [(2, .int 1), (0, .ref rd), (1, .int 6)]) hx hb dX4_readOne_9 rfl hl (by decide) rfl (fun ls hl => ?_)
  refine lv_iload_n hx hb dX4_readOne_10 rfl (lv_at hl 0 rfl) ?_
  refine lv_if_ne (tgt := 31) hx hb dX4_readOne_11 (by decide) (fun c_173 => ?_) (fun c_173 => absurd c_173 (by decide))
  refine lv_iload_n hx hb dX4_readOne_31 rfl (lv_at hl 2 rfl) ?_
  refine lv_bipush (v := 6) hx hb dX4_readOne_32 (by decide) ?_
  refine lv_icmp_lt (tgt := 50) hx hb dX4_readOne_34 (by decide) (fun c_174 => absurd c_174 (by decide)) (fun c_174 => ?_)
  refine lv_aload_n hx hb dX4_readOne_37 rfl (lv_at hl 1 rfl) ?_
  refine lv_iconst (v := 3) hx hb dX4_readOne_38 (by decide) ?_
  refine lv_aload_n hx hb dX4_readOne_39 rfl (lv_at hl 1 rfl) ?_
  refine va_get (D := D) (ci := 4) (v := .ref tp) (C := RX4) (T := TX4) (N := 8) hx hb hts hin4 hown hK hP krd e_39 rfl 0 (by decide) (hts (.fieldLink RX4 12 "HoneyHouse$RuleReader" "tape" "LHoneyHouse$Tape;") (List.mem_of_getElem? (i := 1) rfl)) (fun _ h9 => h9) rfl dX4_readOne_40 ?_
  refine va_get (D := D) (ci := 6) (v := .int (nI ts_1)) (C := RX6) (T := TX6) (N := 5) hx hb hts hin6 hown hK hP ktp e_40 rfl 2 (by decide) (hts (.fieldLink RX4 73 "HoneyHouse$Tape" "start" "I") (List.mem_of_getElem? (i := 2) rfl)) (fun _ h9 => h9) rfl dX4_readOne_43 ?_
  have hFc := free_all hD hS hA
  refine va_calli (va_runV (As := [.int 3, .int (nI ts_1)]) (rest := []) ⟨hx, hb, hml, hown, hts⟩ (r_failAt l D ρ ws_34 ty_35 adK adV fo rd krd tp ktp cd bb tl 3 (nI ts_1) H.size (⟨ts_1, te_2, cc_3, ra_4, rb_5, rc_6, rv_7, re_8, ya_9, by omega, by omega, by omega, by omega, e_39, e_40, wr_16, wt_17, ⟨k_18, c9_19, t_20, f_42, e_41, u_43, w_24⟩, ⟨k_25, c9_26, t_27, f_45, e_44, u_46, w_31⟩⟩ : RS ρ ws_34 ty_35 rd krd tp ktp cd bb tl)) (cwV 2 hts gX4_readOne_X4_failAt rfl rfl rfl (by decide +kernel) ⟨Nat.le_of_ble_eq_true rfl, Nat.le_of_ble_eq_true rfl⟩) ⟨fun a U g mk q => by obtain ⟨q0, q1, qP, qK, qD, qS⟩ := q; exact ⟨q0, q1, qP, va_K.moved (u := U) (U := U.calling g mk a) (Vm.Alike.refl U.vm) qK, qD, SZ.same rfl rfl qS⟩, va_recv hK hP (ci := 4) (q0 := krd) rfl e_39, fun U hU hW => ⟨rfl, by rw [hU], by rw [hU]; exact hP, va_K.moved hW.alike hK, hD.weaken (fun _ _ _ _ => trivial), hsz9.go hS hW hU hFc⟩⟩ rfl rfl hl.1 rfl (lv_room (Nat.le_of_ble_eq_true rfl)) dX4_readOne_46 ⟨Nat.le_of_ble_eq_true rfl, Nat.le_of_ble_eq_true rfl⟩) hS (fun q _ h => hFc q h) hFc (fun r_175 u t H1 locs ht hvm w_176 hB hz1 hk1 hS => ?_)
  obtain ⟨ws_177, ty_178, hm_179, ht_181, hP1, hK1, hD1, hx_180⟩ := hB
  rw [ht] at hP1
  have hK := va_K.moved hvm.symm hK1
  have hD := hD1.weaken (fun _ _ _ h => hFc _ h)
  generalize H1 = H at hP1 hS ⊢
  have hP := hP1
  obtain ⟨g_183, e_182, h_184⟩ := hm_179.obj e_39
  obtain ⟨z_185, z_186, z_187, z_188, z_189, z_190, rfl⟩ := smX4 h_184
  obtain ⟨g_192, e_191, h_193⟩ := hm_179.obj e_40
  obtain ⟨z_194, z_195, z_196, z_197, rfl⟩ := smX6 h_193
  obtain ⟨f_199, e_198⟩ := hm_179.arrI e_41
  have u_200 := ht_181 _ _ u_43
  obtain ⟨f_202, e_201⟩ := hm_179.arrI e_44
  have u_203 := ht_181 _ _ u_46
  have hsm := hsm.tr (hm_179.mono (by decide))
  have htx := htx.tr ht_181
  obtain ⟨ts_204, te_205, cc_206, ra_207, rb_208, rc_209, rv_210, re_211, ya_212, h1_213, h2_214, h3_215, h4_216, er_217, et_218, wr_219, wt_220, ⟨k_221, c9_222, t_223, f_224, e_225, u_226, w_227⟩, ⟨k_228, c9_229, t_230, f_231, e_232, u_233, w_234⟩⟩ := id hx_180
  subst w_176
  exact W.zret (v := 0) hx hb hr rfl (fun t ht hW => ⟨⟨0, (), rfl, Or.inl rfl, ws_177, ty_178, hsm, htx, by rw [ht]; exact hP, va_K.moved hW.alike hK, hD, (⟨ts_204, te_205, cc_206, ra_207, rb_208, rc_209, rv_210, re_211, ya_212, by omega, by omega, by omega, by omega, er_217, et_218, wr_219, wt_220, ⟨k_221, c9_222, t_223, f_224, e_225, u_226, w_227⟩, ⟨k_228, c9_229, t_230, f_231, e_232, u_233, w_234⟩⟩ : RS ρ ws_177 ty_178 rd krd tp ktp cd bb tl)⟩, hS.F ht⟩) hS.2.2 dX4_readOne_49
set_option maxHeartbeats 4000000 in
set_option maxRecDepth 100000 in
theorem r_readEither6 (l : Launch) (D : va_G) (ρ : Nat → Nat) (ws : va_W) (tys : List (ClassId × FieldType)) (adK adV : Nat → Nat) (fo : Option Nat) (rd krd tp ktp cd bb tl : Nat)  (sz : Nat) (R0 : RS ρ ws tys rd krd tp ktp cd bb tl)  : Met l yX4_readEither wsX4_readEither ({ frames := 8, cells := 0, slots := 0, locals := 172 }) (va_Pc [.ref rd, .int 6] (fun U => U.heap.size = sz ∧ va_P D vwCl ws U.heap ∧ va_K D vwCl tys U ∧ va_D (fun _ => True) ws ∧ SZ adK adV fo (va_A ws sz) U U.heap)) (va_Qi (fun (r : Int32) (_ : Unit) => r = 0 ∨ r = 1) (fun (_ : Unit) (t : State) => ∃ (ws' : va_W) (tys' : List (ClassId × FieldType)), sm ρ [4, 6] ws ws' ∧ tyx tys tys' ∧ va_P D vwCl ws' t.heap ∧ va_K D vwCl tys' t ∧ va_D (va_A ws sz) ws' ∧ (RS ρ ws' tys' rd krd tp ktp cd bb tl)) (va_A ws sz)) 0 0 (va_A ws sz) := by
  refine Met.ofW (cc := cX4_readEither) (maxL := 6) (ret := (some .boolean)) (by decide) rfl ?_
  intro p e s m args below meth c s₁ B hml hv
  obtain ⟨rfl, hsz, hP, hK, hD0, hsz9⟩ := hv
  have hx := B.exec
  have hb := B.bytes
  have hr := B.returns
  have hts := atoms_spec (ws := wsX4_readEither) B.pre
  have hown : s.vm.findClass RX4 = some m.cls := findClass_of_methodNamed B.named
  have hlocks := B.notSynchronized
  subst hsz
  have hD := hD0.self (sz := s.heap.size)
  generalize hAe : va_A ws s.heap.size = A at hD hsz9 ⊢
  have hA : ∀ q : Nat, s.heap.size ≤ q → A q := fun q h => by rw [← hAe]; exact Or.inr h
  have hS : va_S A s.heap s.heap [] := va_S.rf
  have hsm : sm ρ [4, 6] ws ws := sm.rf ws
  have htx : tyx tys tys := tyx.rf tys
  have hin4 : ∀ w ∈ u_ws RX4 TX4 8, w ∈ wsX4_readEither := (fun _ h9 => List.mem_cons_of_mem _ (List.mem_append_left _ ((List.mem_append_right _ h9))))
  have hl := lv_entry ([.ref rd, .int 6]) (n := 6) (Nat.le_of_ble_eq_true rfl)
  rw [lg_entry_eq]
  generalize (lg_sl ([.ref rd, .int 6]) ++ List.replicate (6 - (lg_sl ([.ref rd, .int 6])).length) Slot.unset).toArray = ls at hl ⊢
  have hl : lv_has ls 6 [(0, .ref rd), (1, .int 6)] := hl
  obtain ⟨ts_1, te_2, cc_3, ra_4, rb_5, rc_6, rv_7, re_8, ya_9, h1_10, h2_11, h3_12, h4_13, er_14, et_15, wr_16, wt_17, ⟨k_18, c9_19, t_20, f_21, e_22, u_23, w_24⟩, ⟨k_25, c9_26, t_27, f_28, e_29, u_30, w_31⟩⟩ := id R0
  refine lv_aload_n hx hb dX4_readEither_0 rfl (lv_at hl 0 rfl) ?_
  refine lv_iload_n hx hb dX4_readEither_1 rfl (lv_at hl 1 rfl) ?_
  have hFc := free_all hD hS hA
  refine va_calli (va_runV (As := [.int 6]) (rest := []) ⟨hx, hb, hml, hown, hts⟩ (r_readOne6 l D ρ ws tys adK adV fo rd krd tp ktp cd bb tl  s.heap.size (⟨ts_1, te_2, cc_3, ra_4, rb_5, rc_6, rv_7, re_8, ya_9, by omega, by omega, by omega, by omega, er_14, et_15, wr_16, wt_17, ⟨k_18, c9_19, t_20, f_21, e_22, u_23, w_24⟩, ⟨k_25, c9_26, t_27, f_28, e_29, u_30, w_31⟩⟩ : RS ρ ws tys rd krd tp ktp cd bb tl)) (cwV 1 hts gX4_readEither_X4_readOne rfl rfl rfl (by decide +kernel) ⟨Nat.le_of_ble_eq_true rfl, Nat.le_of_ble_eq_true rfl⟩) ⟨fun a U g mk q => by obtain ⟨q0, q1, qP, qK, qD, qS⟩ := q; exact ⟨q0, q1, qP, va_K.moved (u := U) (U := U.calling g mk a) (Vm.Alike.refl U.vm) qK, qD, SZ.same rfl rfl qS⟩, va_recv hK hP (ci := 4) (q0 := krd) rfl er_14, fun U hU hW => ⟨rfl, by rw [hU], by rw [hU]; exact hP, va_K.moved hW.alike hK, hD.weaken (fun _ _ _ _ => trivial), hsz9.go hS hW hU hFc⟩⟩ rfl rfl hl.1 rfl (lv_room (Nat.le_of_ble_eq_true rfl)) dX4_readEither_2 ⟨Nat.le_of_ble_eq_true rfl, Nat.le_of_ble_eq_true rfl⟩) hS (fun q _ h => hFc q h) hFc (fun r_32 u t H1 locs ht hvm w_33 hB hz1 hk1 hS => ?_)
  obtain ⟨ws_34, ty_35, hm_36, ht_38, hP1, hK1, hD1, hx_37⟩ := hB
  rw [ht] at hP1
  have hK := va_K.moved hvm.symm hK1
  have hD := hD1.weaken (fun _ _ _ h => hFc _ h)
  generalize H1 = H at hP1 hS ⊢
  have hP := hP1
  obtain ⟨g_40, e_39, h_41⟩ := hm_36.obj er_14
  obtain ⟨z_42, z_43, z_44, z_45, z_46, z_47, rfl⟩ := smX4 h_41
  obtain ⟨g_49, e_48, h_50⟩ := hm_36.obj et_15
  obtain ⟨z_51, z_52, z_53, z_54, rfl⟩ := smX6 h_50
  obtain ⟨f_56, e_55⟩ := hm_36.arrI e_22
  have u_57 := ht_38 _ _ u_23
  obtain ⟨f_59, e_58⟩ := hm_36.arrI e_29
  have u_60 := ht_38 _ _ u_30
  have hsm := hsm.tr (hm_36.mono (by decide))
  have htx := htx.tr ht_38
  obtain ⟨ts_61, te_62, cc_63, ra_64, rb_65, rc_66, rv_67, re_68, ya_69, h1_70, h2_71, h3_72, h4_73, er_74, et_75, wr_76, wt_77, ⟨k_78, c9_79, t_80, f_81, e_82, u_83, w_84⟩, ⟨k_85, c9_86, t_87, f_88, e_89, u_90, w_91⟩⟩ := id hx_37
  refine lv_istore_n (lv' := [(2, .int r_32), (0, .ref rd), (1, .int 6)]) hx hb dX4_readEither_5 rfl hl (by decide) rfl (fun ls hl => ?_)
  refine lv_iconst (v := 0) hx hb dX4_readEither_6 (by decide) ?_
  refine lv_istore_n (lv' := [(3, .int 0), (2, .int r_32), (0, .ref rd), (1, .int 6)]) hx hb dX4_readEither_7 rfl hl (by decide) rfl (fun ls hl => ?_)
  refine lv_iconst (v := 0) hx hb dX4_readEither_8 (by decide) ?_
  refine lv_istore (lv' := [(4, .int 0), (3, .int 0), (2, .int r_32), (0, .ref rd), (1, .int 6)]) hx hb dX4_readEither_9 hl (by decide) rfl (fun ls hl => ?_)
  refine lp_V (nL := 6) (σ := Nat × Int32 × Int32) (lv := fun x9 => [(4, .int (nI x9.1)), (2, .int x9.2.1), (3, .int x9.2.2), (1, .int 6), (0, .ref rd)]) (μ := fun x9 => 400 - x9.1) (J := fun x9 ws9 => sm ρ [4, 6] ws_34 ws9 ∧ (∃ ty9 : List (ClassId × FieldType), va_K D vwCl ty9 s ∧ tyx tys ty9 ∧ RS ρ ws9 ty9 rd krd tp ktp cd bb tl) ∧ (x9.1 ≤ 400) ∧ (x9.2.1 = 0 ∨ x9.2.1 = 1) ∧ (x9.2.2 = 0 ∨ x9.2.2 = 1)) (fun x9 ws_99 H locs ls hj hP hD hS hl ih_92 => ?_) (0, r_32, 0) ws_34 _ _ ls ⟨sm.rf _, ⟨ty_35, hK, htx, (⟨ts_61, te_62, cc_63, ra_64, rb_65, rc_66, rv_67, re_68, ya_69, by omega, by omega, by omega, by omega, er_74, et_75, wr_76, wt_77, ⟨k_78, c9_79, t_80, f_81, e_82, u_83, w_84⟩, ⟨k_85, c9_86, t_87, f_88, e_89, u_90, w_91⟩⟩ : RS ρ ws_34 ty_35 rd krd tp ktp cd bb tl)⟩, (show 0 ≤ 400 from by omega), (show r_32 = 0 ∨ r_32 = 1 from w_33), (show 0 = 0 ∨ 0 = 1 from Or.inl rfl)⟩ hP hD hS (lv_sub hl [0, 2, 1, 4, 3] rfl)
  obtain ⟨i_93, x_94, y_95⟩ := x9
  replace hj : sm ρ [4, 6] ws_34 ws_99 ∧ (∃ ty9 : List (ClassId × FieldType), va_K D vwCl ty9 s ∧ tyx tys ty9 ∧ RS ρ ws_99 ty9 rd krd tp ktp cd bb tl) ∧ (i_93 ≤ 400) ∧ (x_94 = 0 ∨ x_94 = 1) ∧ (y_95 = 0 ∨ y_95 = 1) := hj
  obtain ⟨hm_100, hR_102, hi_96, hbx_97, hby_98⟩ := hj
  obtain ⟨g_104, e_103, h_105⟩ := hm_100.obj er_74
  obtain ⟨z_106, z_107, z_108, z_109, z_110, z_111, rfl⟩ := smX4 h_105
  obtain ⟨g_113, e_112, h_114⟩ := hm_100.obj et_75
  obtain ⟨z_115, z_116, z_117, z_118, rfl⟩ := smX6 h_114
  obtain ⟨f_120, e_119⟩ := hm_100.arrI e_82
  obtain ⟨f_122, e_121⟩ := hm_100.arrI e_89
  have hsm := hsm.tr (hm_100.mono (by decide))
  obtain ⟨ty_123, hK, htx, hR_124⟩ := hR_102
  obtain ⟨ts_125, te_126, cc_127, ra_128, rb_129, rc_130, rv_131, re_132, ya_133, h1_134, h2_135, h3_136, h4_137, er_138, et_139, wr_140, wt_141, ⟨k_142, c9_143, t_144, f_145, e_146, u_147, w_148⟩, ⟨k_149, c9_150, t_151, f_152, e_153, u_154, w_155⟩⟩ := id hR_124
  have hlp_101 := hm_100
  have hl : lv_has ls 6 [(4, .int (nI i_93)), (2, .int x_94), (3, .int y_95), (1, .int 6), (0, .ref rd)] := hl
  refine lv_iload hx hb dX4_readEither_11 (lv_at hl 0 rfl) ?_
  refine lv_sipush (v := 400) hx hb dX4_readEither_13 (by decide) ?_
  refine lv_icmp_ge (tgt := 101) hx hb dX4_readEither_16 (by decide) (fun c_156 => ?_) (fun c_156 => ?_)
  · have d_157 := n_le (a := 400) (b := i_93) (by omega) (by omega) c_156
    refine lv_iload_n hx hb dX4_readEither_101 rfl (lv_at hl 2 rfl) ?_
    refine lv_if_eq (tgt := 111) hx hb dX4_readEither_102 (by decide) (fun c_158 => ?_) (fun c_158 => ?_)
    · refine lv_iload_n hx hb dX4_readEither_111 rfl (lv_at hl 1 rfl) ?_
      exact W.zret (v := x_94) hx hb hr (by rcases hbx_97 with h9 | h9 <;> rw [h9] <;> rfl) (fun t ht hW => ⟨⟨x_94, (), rfl, hbx_97, ws_99, ty_123, hsm, htx, by rw [ht]; exact hP, va_K.moved hW.alike hK, hD, (⟨ts_125, te_126, cc_127, ra_128, rb_129, rc_130, rv_131, re_132, ya_133, by omega, by omega, by omega, by omega, er_138, et_139, wr_140, wt_141, ⟨k_142, c9_143, t_144, f_145, e_146, u_147, w_148⟩, ⟨k_149, c9_150, t_151, f_152, e_153, u_154, w_155⟩⟩ : RS ρ ws_99 ty_123 rd krd tp ktp cd bb tl)⟩, hS.F ht⟩) hS.2.2 dX4_readEither_112
    refine lv_aload_n hx hb dX4_readEither_105 rfl (lv_at hl 4 rfl) ?_
    refine lv_bipush (v := (-3)) hx hb dX4_readEither_106 (by decide) ?_
    have hFc := free_all hD hS hA
    refine va_callv (va_runV (As := [.int (-3)]) (rest := []) ⟨hx, hb, hml, hown, hts⟩ (r_addCode l D ρ ws_99 ty_123 adK adV fo rd krd tp ktp cd bb tl (-3) H.size (⟨ts_125, te_126, cc_127, ra_128, rb_129, rc_130, rv_131, re_132, ya_133, by omega, by omega, by omega, by omega, er_138, et_139, wr_140, wt_141, ⟨k_142, c9_143, t_144, f_145, e_146, u_147, w_148⟩, ⟨k_149, c9_150, t_151, f_152, e_153, u_154, w_155⟩⟩ : RS ρ ws_99 ty_123 rd krd tp ktp cd bb tl)) (cwV 1 hts gX4_readEither_X4_addCode rfl rfl rfl (by decide +kernel) ⟨Nat.le_of_ble_eq_true rfl, Nat.le_of_ble_eq_true rfl⟩) ⟨fun a U g mk q => by obtain ⟨q0, q1, qP, qK, qD, qS⟩ := q; exact ⟨q0, q1, qP, va_K.moved (u := U) (U := U.calling g mk a) (Vm.Alike.refl U.vm) qK, qD, SZ.same rfl rfl qS⟩, va_recv hK hP (ci := 4) (q0 := krd) rfl er_138, fun U hU hW => ⟨rfl, by rw [hU], by rw [hU]; exact hP, va_K.moved hW.alike hK, hD.weaken (fun _ _ _ _ => trivial), hsz9.go hS hW hU hFc⟩⟩ rfl rfl hl.1 rfl (lv_room (Nat.le_of_ble_eq_true rfl)) dX4_readEither_108 ⟨Nat.le_of_ble_eq_true rfl, Nat.le_of_ble_eq_true rfl⟩) hS (fun q _ h => hFc q h) hFc (fun u t H1 locs ht hvm w_160 hB hz1 hk1 hS => ?_)
    obtain ⟨ws_161, ty_162, hm_163, ht_165, hP1, hK1, hD1, hx_164⟩ := hB
    rw [ht] at hP1
    have hK := va_K.moved hvm.symm hK1
    have hD := hD1.weaken (fun _ _ _ h => hFc _ h)
    generalize H1 = H at hP1 hS ⊢
    have hP := hP1
    obtain ⟨g_167, e_166, h_168⟩ := hm_163.obj er_138
    obtain ⟨z_169, z_170, z_171, z_172, z_173, z_174, rfl⟩ := smX4 h_168
    obtain ⟨g_176, e_175, h_177⟩ := hm_163.obj et_139
    obtain ⟨z_178, z_179, z_180, z_181, rfl⟩ := smX6 h_177
    obtain ⟨f_183, e_182⟩ := hm_163.arrI e_146
    have u_184 := ht_165 _ _ u_147
    obtain ⟨f_186, e_185⟩ := hm_163.arrI e_153
    have u_187 := ht_165 _ _ u_154
    have hsm := hsm.tr (hm_163.mono (by decide))
    have hlp_101 := hlp_101.tr (hm_163.mono (by decide))
    have htx := htx.tr ht_165
    obtain ⟨ts_188, te_189, cc_190, ra_191, rb_192, rc_193, rv_194, re_195, ya_196, h1_197, h2_198, h3_199, h4_200, er_201, et_202, wr_203, wt_204, ⟨k_205, c9_206, t_207, f_208, e_209, u_210, w_211⟩, ⟨k_212, c9_213, t_214, f_215, e_216, u_217, w_218⟩⟩ := id hx_164
    refine lv_iload_n hx hb dX4_readEither_111 rfl (lv_at hl 1 rfl) ?_
    exact W.zret (v := x_94) hx hb hr (by rcases hbx_97 with h9 | h9 <;> rw [h9] <;> rfl) (fun t ht hW => ⟨⟨x_94, (), rfl, hbx_97, ws_161, ty_162, hsm, htx, by rw [ht]; exact hP, va_K.moved hW.alike hK, hD, (⟨ts_188, te_189, cc_190, ra_191, rb_192, rc_193, rv_194, re_195, ya_196, by omega, by omega, by omega, by omega, er_201, et_202, wr_203, wt_204, ⟨k_205, c9_206, t_207, f_208, e_209, u_210, w_211⟩, ⟨k_212, c9_213, t_214, f_215, e_216, u_217, w_218⟩⟩ : RS ρ ws_161 ty_162 rd krd tp ktp cd bb tl)⟩, hS.F ht⟩) hS.2.2 dX4_readEither_112
  have d_219 := n_nle (a := 400) (b := i_93) (by omega) (by omega) c_156
  refine lv_iload_n hx hb dX4_readEither_19 rfl (lv_at hl 1 rfl) ?_
  refine lv_if_eq (tgt := 101) hx hb dX4_readEither_20 (by decide) (fun c_220 => ?_) (fun c_220 => ?_)
  · refine lv_iload_n hx hb dX4_readEither_101 rfl (lv_at hl 2 rfl) ?_
    refine lv_if_eq (tgt := 111) hx hb dX4_readEither_102 (by decide) (fun c_221 => ?_) (fun c_221 => ?_)
    · refine lv_iload_n hx hb dX4_readEither_111 rfl (lv_at hl 1 rfl) ?_
      exact W.zret (v := x_94) hx hb hr (by rcases hbx_97 with h9 | h9 <;> rw [h9] <;> rfl) (fun t ht hW => ⟨⟨x_94, (), rfl, hbx_97, ws_99, ty_123, hsm, htx, by rw [ht]; exact hP, va_K.moved hW.alike hK, hD, (⟨ts_125, te_126, cc_127, ra_128, rb_129, rc_130, rv_131, re_132, ya_133, by omega, by omega, by omega, by omega, er_138, et_139, wr_140, wt_141, ⟨k_142, c9_143, t_144, f_145, e_146, u_147, w_148⟩, ⟨k_149, c9_150, t_151, f_152, e_153, u_154, w_155⟩⟩ : RS ρ ws_99 ty_123 rd krd tp ktp cd bb tl)⟩, hS.F ht⟩) hS.2.2 dX4_readEither_112
    refine lv_aload_n hx hb dX4_readEither_105 rfl (lv_at hl 4 rfl) ?_
    refine lv_bipush (v := (-3)) hx hb dX4_readEither_106 (by decide) ?_
    have hFc := free_all hD hS hA
    refine va_callv (va_runV (As := [.int (-3)]) (rest := []) ⟨hx, hb, hml, hown, hts⟩ (r_addCode l D ρ ws_99 ty_123 adK adV fo rd krd tp ktp cd bb tl (-3) H.size (⟨ts_125, te_126, cc_127, ra_128, rb_129, rc_130, rv_131, re_132, ya_133, by omega, by omega, by omega, by omega, er_138, et_139, wr_140, wt_141, ⟨k_142, c9_143, t_144, f_145, e_146, u_147, w_148⟩, ⟨k_149, c9_150, t_151, f_152, e_153, u_154, w_155⟩⟩ : RS ρ ws_99 ty_123 rd krd tp ktp cd bb tl)) (cwV 1 hts gX4_readEither_X4_addCode rfl rfl rfl (by decide +kernel) ⟨Nat.le_of_ble_eq_true rfl, Nat.le_of_ble_eq_true rfl⟩) ⟨fun a U g mk q => by obtain ⟨q0, q1, qP, qK, qD, qS⟩ := q; exact ⟨q0, q1, qP, va_K.moved (u := U) (U := U.calling g mk a) (Vm.Alike.refl U.vm) qK, qD, SZ.same rfl rfl qS⟩, va_recv hK hP (ci := 4) (q0 := krd) rfl er_138, fun U hU hW => ⟨rfl, by rw [hU], by rw [hU]; exact hP, va_K.moved hW.alike hK, hD.weaken (fun _ _ _ _ => trivial), hsz9.go hS hW hU hFc⟩⟩ rfl rfl hl.1 rfl (lv_room (Nat.le_of_ble_eq_true rfl)) dX4_readEither_108 ⟨Nat.le_of_ble_eq_true rfl, Nat.le_of_ble_eq_true rfl⟩) hS (fun q _ h => hFc q h) hFc (fun u t H1 locs ht hvm w_223 hB hz1 hk1 hS => ?_)
    obtain ⟨ws_224, ty_225, hm_226, ht_228, hP1, hK1, hD1, hx_227⟩ := hB
    rw [ht] at hP1
    have hK := va_K.moved hvm.symm hK1
    have hD := hD1.weaken (fun _ _ _ h => hFc _ h)
    generalize H1 = H at hP1 hS ⊢
    have hP := hP1
    obtain ⟨g_230, e_229, h_231⟩ := hm_226.obj er_138
    obtain ⟨z_232, z_233, z_234, z_235, z_236, z_237, rfl⟩ := smX4 h_231
    obtain ⟨g_239, e_238, h_240⟩ := hm_226.obj et_139
    obtain ⟨z_241, z_242, z_243, z_244, rfl⟩ := smX6 h_240
    obtain ⟨f_246, e_245⟩ := hm_226.arrI e_146
    have u_247 := ht_228 _ _ u_147
    obtain ⟨f_249, e_248⟩ := hm_226.arrI e_153
    have u_250 := ht_228 _ _ u_154
    have hsm := hsm.tr (hm_226.mono (by decide))
    have hlp_101 := hlp_101.tr (hm_226.mono (by decide))
    have htx := htx.tr ht_228
    obtain ⟨ts_251, te_252, cc_253, ra_254, rb_255, rc_256, rv_257, re_258, ya_259, h1_260, h2_261, h3_262, h4_263, er_264, et_265, wr_266, wt_267, ⟨k_268, c9_269, t_270, f_271, e_272, u_273, w_274⟩, ⟨k_275, c9_276, t_277, f_278, e_279, u_280, w_281⟩⟩ := id hx_227
    refine lv_iload_n hx hb dX4_readEither_111 rfl (lv_at hl 1 rfl) ?_
    exact W.zret (v := x_94) hx hb hr (by rcases hbx_97 with h9 | h9 <;> rw [h9] <;> rfl) (fun t ht hW => ⟨⟨x_94, (), rfl, hbx_97, ws_224, ty_225, hsm, htx, by rw [ht]; exact hP, va_K.moved hW.alike hK, hD, (⟨ts_251, te_252, cc_253, ra_254, rb_255, rc_256, rv_257, re_258, ya_259, by omega, by omega, by omega, by omega, er_264, et_265, wr_266, wt_267, ⟨k_268, c9_269, t_270, f_271, e_272, u_273, w_274⟩, ⟨k_275, c9_276, t_277, f_278, e_279, u_280, w_281⟩⟩ : RS ρ ws_224 ty_225 rd krd tp ktp cd bb tl)⟩, hS.F ht⟩) hS.2.2 dX4_readEither_112
  refine lv_aload_n hx hb dX4_readEither_23 rfl (lv_at hl 4 rfl) ?_
  have hFc := free_all hD hS hA
  refine va_calli (va_runV (As := []) (rest := []) ⟨hx, hb, hml, hown, hts⟩ (r_isAndOr l D ρ ws_99 ty_123 adK adV fo rd krd tp ktp cd bb tl  H.size (⟨ts_125, te_126, cc_127, ra_128, rb_129, rc_130, rv_131, re_132, ya_133, by omega, by omega, by omega, by omega, er_138, et_139, wr_140, wt_141, ⟨k_142, c9_143, t_144, f_145, e_146, u_147, w_148⟩, ⟨k_149, c9_150, t_151, f_152, e_153, u_154, w_155⟩⟩ : RS ρ ws_99 ty_123 rd krd tp ktp cd bb tl)) (cwV 0 hts gX4_readEither_X4_isAndOr rfl rfl rfl (by decide +kernel) ⟨Nat.le_of_ble_eq_true rfl, Nat.le_of_ble_eq_true rfl⟩) ⟨fun a U g mk q => by obtain ⟨q0, q1, qP, qK, qD, qS⟩ := q; exact ⟨q0, q1, qP, va_K.moved (u := U) (U := U.calling g mk a) (Vm.Alike.refl U.vm) qK, qD, SZ.same rfl rfl qS⟩, va_recv hK hP (ci := 4) (q0 := krd) rfl er_138, fun U hU hW => ⟨rfl, by rw [hU], by rw [hU]; exact hP, va_K.moved hW.alike hK, hD.weaken (fun _ _ _ _ => trivial), hsz9.go hS hW hU hFc⟩⟩ rfl rfl hl.1 rfl (lv_room (Nat.le_of_ble_eq_true rfl)) dX4_readEither_24 ⟨Nat.le_of_ble_eq_true rfl, Nat.le_of_ble_eq_true rfl⟩) hS (fun q _ h => hFc q h) hFc (fun r_282 u t H1 locs ht hvm w_283 hB hz1 hk1 hS => ?_)
  obtain ⟨ws_284, ty_285, hm_286, ht_288, hP1, hK1, hD1, hx_287⟩ := hB
  rw [ht] at hP1
  have hK := va_K.moved hvm.symm hK1
  have hD := hD1.weaken (fun _ _ _ h => hFc _ h)
  generalize H1 = H at hP1 hS ⊢
  have hP := hP1
  have e_289 := hm_286.objK er_138 (by decide)
  have e_290 := hm_286.objK et_139 (by decide)
  obtain ⟨f_292, e_291⟩ := hm_286.arrI e_146
  have u_293 := ht_288 _ _ u_147
  obtain ⟨f_295, e_294⟩ := hm_286.arrI e_153
  have u_296 := ht_288 _ _ u_154
  have hsm := hsm.tr (hm_286.mono (by decide))
  have hlp_101 := hlp_101.tr (hm_286.mono (by decide))
  have htx := htx.tr ht_288
  rcases w_283 with rfl | rfl
  · refine lv_if_eq (tgt := 101) hx hb dX4_readEither_27 (by decide) (fun c_297 => ?_) (fun c_297 => absurd (by decide) c_297)
    refine lv_iload_n hx hb dX4_readEither_101 rfl (lv_at hl 2 rfl) ?_
    refine lv_if_eq (tgt := 111) hx hb dX4_readEither_102 (by decide) (fun c_298 => ?_) (fun c_298 => ?_)
    · refine lv_iload_n hx hb dX4_readEither_111 rfl (lv_at hl 1 rfl) ?_
      exact W.zret (v := x_94) hx hb hr (by rcases hbx_97 with h9 | h9 <;> rw [h9] <;> rfl) (fun t ht hW => ⟨⟨x_94, (), rfl, hbx_97, ws_284, ty_285, hsm, htx, by rw [ht]; exact hP, va_K.moved hW.alike hK, hD, (⟨ts_125, te_126, cc_127, ra_128, rb_129, rc_130, rv_131, re_132, ya_133, by omega, by omega, by omega, by omega, e_289, e_290, wr_140, wt_141, ⟨k_142, c9_143, t_144, f_292, e_291, u_293, w_148⟩, ⟨k_149, c9_150, t_151, f_295, e_294, u_296, w_155⟩⟩ : RS ρ ws_284 ty_285 rd krd tp ktp cd bb tl)⟩, hS.F ht⟩) hS.2.2 dX4_readEither_112
    refine lv_aload_n hx hb dX4_readEither_105 rfl (lv_at hl 4 rfl) ?_
    refine lv_bipush (v := (-3)) hx hb dX4_readEither_106 (by decide) ?_
    have hFc := free_all hD hS hA
    refine va_callv (va_runV (As := [.int (-3)]) (rest := []) ⟨hx, hb, hml, hown, hts⟩ (r_addCode l D ρ ws_284 ty_285 adK adV fo rd krd tp ktp cd bb tl (-3) H.size (⟨ts_125, te_126, cc_127, ra_128, rb_129, rc_130, rv_131, re_132, ya_133, by omega, by omega, by omega, by omega, e_289, e_290, wr_140, wt_141, ⟨k_142, c9_143, t_144, f_292, e_291, u_293, w_148⟩, ⟨k_149, c9_150, t_151, f_295, e_294, u_296, w_155⟩⟩ : RS ρ ws_284 ty_285 rd krd tp ktp cd bb tl)) (cwV 1 hts gX4_readEither_X4_addCode rfl rfl rfl (by decide +kernel) ⟨Nat.le_of_ble_eq_true rfl, Nat.le_of_ble_eq_true rfl⟩) ⟨fun a U g mk q => by obtain ⟨q0, q1, qP, qK, qD, qS⟩ := q; exact ⟨q0, q1, qP, va_K.moved (u := U) (U := U.calling g mk a) (Vm.Alike.refl U.vm) qK, qD, SZ.same rfl rfl qS⟩, va_recv hK hP (ci := 4) (q0 := krd) rfl e_289, fun U hU hW => ⟨rfl, by rw [hU], by rw [hU]; exact hP, va_K.moved hW.alike hK, hD.weaken (fun _ _ _ _ => trivial), hsz9.go hS hW hU hFc⟩⟩ rfl rfl hl.1 rfl (lv_room (Nat.le_of_ble_eq_true rfl)) dX4_readEither_108 ⟨Nat.le_of_ble_eq_true rfl, Nat.le_of_ble_eq_true rfl⟩) hS (fun q _ h => hFc q h) hFc (fun u t H1 locs ht hvm w_300 hB hz1 hk1 hS => ?_)
    obtain ⟨ws_301, ty_302, hm_303, ht_305, hP1, hK1, hD1, hx_304⟩ := hB
    rw [ht] at hP1
    have hK := va_K.moved hvm.symm hK1
    have hD := hD1.weaken (fun _ _ _ h => hFc _ h)
    generalize H1 = H at hP1 hS ⊢
    have hP := hP1
    obtain ⟨g_307, e_306, h_308⟩ := hm_303.obj e_289
    obtain ⟨z_309, z_310, z_311, z_312, z_313, z_314, rfl⟩ := smX4 h_308
    obtain ⟨g_316, e_315, h_317⟩ := hm_303.obj e_290
    obtain ⟨z_318, z_319, z_320, z_321, rfl⟩ := smX6 h_317
    obtain ⟨f_323, e_322⟩ := hm_303.arrI e_291
    have u_324 := ht_305 _ _ u_293
    obtain ⟨f_326, e_325⟩ := hm_303.arrI e_294
    have u_327 := ht_305 _ _ u_296
    have hsm := hsm.tr (hm_303.mono (by decide))
    have hlp_101 := hlp_101.tr (hm_303.mono (by decide))
    have htx := htx.tr ht_305
    obtain ⟨ts_328, te_329, cc_330, ra_331, rb_332, rc_333, rv_334, re_335, ya_336, h1_337, h2_338, h3_339, h4_340, er_341, et_342, wr_343, wt_344, ⟨k_345, c9_346, t_347, f_348, e_349, u_350, w_351⟩, ⟨k_352, c9_353, t_354, f_355, e_356, u_357, w_358⟩⟩ := id hx_304
    refine lv_iload_n hx hb dX4_readEither_111 rfl (lv_at hl 1 rfl) ?_
    exact W.zret (v := x_94) hx hb hr (by rcases hbx_97 with h9 | h9 <;> rw [h9] <;> rfl) (fun t ht hW => ⟨⟨x_94, (), rfl, hbx_97, ws_301, ty_302, hsm, htx, by rw [ht]; exact hP, va_K.moved hW.alike hK, hD, (⟨ts_328, te_329, cc_330, ra_331, rb_332, rc_333, rv_334, re_335, ya_336, by omega, by omega, by omega, by omega, er_341, et_342, wr_343, wt_344, ⟨k_345, c9_346, t_347, f_348, e_349, u_350, w_351⟩, ⟨k_352, c9_353, t_354, f_355, e_356, u_357, w_358⟩⟩ : RS ρ ws_301 ty_302 rd krd tp ktp cd bb tl)⟩, hS.F ht⟩) hS.2.2 dX4_readEither_112
  refine lv_if_eq (tgt := 101) hx hb dX4_readEither_27 (by decide) (fun c_359 => absurd c_359 (by decide)) (fun c_359 => ?_)
  refine lv_aload_n hx hb dX4_readEither_30 rfl (lv_at hl 4 rfl) ?_
  refine va_get (D := D) (ci := 4) (v := .ref tp) (C := RX4) (T := TX4) (N := 8) hx hb hts hin4 hown hK hP krd e_289 rfl 0 (by decide) (hts (.fieldLink RX4 12 "HoneyHouse$RuleReader" "tape" "LHoneyHouse$Tape;") (List.mem_of_getElem? (i := 1) rfl)) (fun _ h9 => h9) rfl dX4_readEither_31 ?_
  refine va_ldcS hx hb hown hsz9.2.2.2.2.2.1 dX4_readEither_34 ?_
  have hFc := free_all hD hS hA
  refine va_calli (va_runV (As := [.ref (adK 2)]) (rest := []) ⟨hx, hb, hml, hown, hts⟩ (a_isWord l D ρ ws_284 ty_285 adK adV fo 2 tp ktp tl ya_133 (nI ts_125) (nI te_126) bb k_149 c9_150 t_151 f_295 H.size (by decide) e_290 e_294 u_296) (cwV 1 hts gX4_readEither_X6_isWord rfl rfl rfl (by decide +kernel) ⟨Nat.le_of_ble_eq_true rfl, Nat.le_of_ble_eq_true rfl⟩) ⟨fun a U g mk q => by obtain ⟨q0, q1, qP, qK, qD, qS⟩ := q; exact ⟨q0, q1, qP, va_K.moved (u := U) (U := U.calling g mk a) (Vm.Alike.refl U.vm) qK, qD, SZ.same rfl rfl qS⟩, va_recv hK hP (ci := 6) (q0 := ktp) rfl e_290, fun U hU hW => ⟨rfl, by rw [hU], by rw [hU]; exact hP, va_K.moved hW.alike hK, hD.weaken (fun _ _ _ _ => trivial), hsz9.go hS hW hU hFc⟩⟩ rfl rfl hl.1 rfl (lv_room (Nat.le_of_ble_eq_true rfl)) dX4_readEither_36 ⟨Nat.le_of_ble_eq_true rfl, Nat.le_of_ble_eq_true rfl⟩) hS (fun q _ h => hFc q h) hFc (fun r_360 u t H1 locs ht hvm w_361 hB hz1 hk1 hS => ?_)
  obtain ⟨ws_362, ty_363, hm_364, ht_366, hP1, hK1, hD1, hx_365⟩ := hB
  rw [ht] at hP1
  have hK := va_K.moved hvm.symm hK1
  have hD := hD1.weaken (fun _ _ _ h => hFc _ h)
  generalize H1 = H at hP1 hS ⊢
  have hP := hP1
  have e_367 := hm_364.objK e_289 (by decide)
  have e_368 := hm_364.objK e_290 (by decide)
  obtain ⟨f_370, e_369⟩ := hm_364.arrI e_291
  have u_371 := ht_366 _ _ u_293
  obtain ⟨f_373, e_372⟩ := hm_364.arrI e_294
  have u_374 := ht_366 _ _ u_296
  have hsm := hsm.tr (hm_364.mono (by decide))
  have hlp_101 := hlp_101.tr (hm_364.mono (by decide))
  have htx := htx.tr ht_366
  rcases w_361 with rfl | rfl
  · refine lv_istore (lv' := [(5, .int 0), (4, .int (nI i_93)), (2, .int x_94), (3, .int y_95), (1, .int 6), (0, .ref rd)]) hx hb dX4_readEither_39 hl (by decide) rfl (fun ls hl => ?_)
    refine lv_iload hx hb dX4_readEither_41 (lv_at hl 0 rfl) ?_
    refine lv_if_ne (tgt := 56) hx hb dX4_readEither_43 (by decide) (fun c_375 => absurd (by decide) c_375) (fun c_375 => ?_)
    refine lv_iload_n hx hb dX4_readEither_46 rfl (lv_at hl 3 rfl) ?_
    refine lv_if_eq (tgt := 56) hx hb dX4_readEither_47 (by decide) (fun c_376 => ?_) (fun c_376 => ?_)
    · refine lv_iload_n hx hb dX4_readEither_56 rfl (lv_at hl 3 rfl) ?_
      refine lv_if_ne (tgt := 65) hx hb dX4_readEither_57 (by decide) (fun c_377 => ?_) (fun c_377 => ?_)
      · refine lv_iconst (v := 1) hx hb dX4_readEither_65 (by decide) ?_
        refine lv_goto (tgt := 70) hx hb dX4_readEither_66 (by decide) ?_
        refine lv_istore_n (lv' := [(3, .int 1), (5, .int 0), (4, .int (nI i_93)), (2, .int x_94), (1, .int 6), (0, .ref rd)]) hx hb dX4_readEither_70 rfl hl (by decide) rfl (fun ls hl => ?_)
        refine lv_aload_n hx hb dX4_readEither_71 rfl (lv_at hl 5 rfl) ?_
        refine va_get (D := D) (ci := 4) (v := .ref tp) (C := RX4) (T := TX4) (N := 8) hx hb hts hin4 hown hK hP krd e_367 rfl 0 (by decide) (hts (.fieldLink RX4 12 "HoneyHouse$RuleReader" "tape" "LHoneyHouse$Tape;") (List.mem_of_getElem? (i := 1) rfl)) (fun _ h9 => h9) rfl dX4_readEither_72 ?_
        have hFc := free_all hD hS hA
        refine va_callv (va_runV (As := []) (rest := []) ⟨hx, hb, hml, hown, hts⟩ (a_advance l D ρ ws_362 ty_363 tp ktp tl te_126 ya_133 (nI ts_125) bb k_149 c9_150 t_151 f_373 H.size (by omega) (by omega) e_368 e_372 u_374 wt_141) (cwV 0 hts gX4_readEither_X6_advance rfl rfl rfl (by decide +kernel) ⟨Nat.le_of_ble_eq_true rfl, Nat.le_of_ble_eq_true rfl⟩) ⟨fun a U g mk q => by obtain ⟨q0, q1, qP, qK, qD⟩ := q; exact ⟨q0, q1, qP, va_K.moved (u := U) (U := U.calling g mk a) (Vm.Alike.refl U.vm) qK, qD⟩, va_recv hK hP (ci := 6) (q0 := ktp) rfl e_368, fun U hU hW => ⟨rfl, by rw [hU], by rw [hU]; exact hP, va_K.moved hW.alike hK, hD.weaken (fun _ _ _ _ => trivial)⟩⟩ rfl rfl hl.1 rfl (lv_room (Nat.le_of_ble_eq_true rfl)) dX4_readEither_75 ⟨Nat.le_of_ble_eq_true rfl, Nat.le_of_ble_eq_true rfl⟩) hS (fun q _ h => hFc q h) hFc (fun u t H1 locs ht hvm w_379 hB hz1 hk1 hS => ?_)
        obtain ⟨ws_380, ty_381, hm_382, ht_384, hP1, hK1, hD1, hx_383⟩ := hB
        rw [ht] at hP1
        have hK := va_K.moved hvm.symm hK1
        have hD := hD1.weaken (fun _ _ _ h => hFc _ h)
        generalize H1 = H at hP1 hS ⊢
        have hP := hP1
        have e_385 := hm_382.objK e_367 (by decide)
        obtain ⟨g_387, e_386, h_388⟩ := hm_382.obj e_368
        obtain ⟨z_389, z_390, z_391, z_392, rfl⟩ := smX6 h_388
        obtain ⟨f_394, e_393⟩ := hm_382.arrI e_369
        have u_395 := ht_384 _ _ u_371
        obtain ⟨f_397, e_396⟩ := hm_382.arrI e_372
        have u_398 := ht_384 _ _ u_374
        have hsm := hsm.tr (hm_382.mono (by decide))
        have hlp_101 := hlp_101.tr (hm_382.mono (by decide))
        have htx := htx.tr ht_384
        obtain ⟨k_399, s_400, e_401, h_402, h_403, h_404, e_405⟩ := hx_383
        refine lv_aload_n hx hb dX4_readEither_78 rfl (lv_at hl 5 rfl) ?_
        refine lv_iload_n hx hb dX4_readEither_79 rfl (lv_at hl 4 rfl) ?_
        have hFc := free_all hD hS hA
        refine va_calli (va_runV (As := [.int 6]) (rest := []) ⟨hx, hb, hml, hown, hts⟩ (r_readOne6 l D ρ ws_380 ty_381 adK adV fo rd krd tp ktp cd bb tl  H.size (⟨s_400, e_401, cc_127, ra_128, rb_129, rc_130, rv_131, re_132, nI k_399, by omega, by omega, by omega, by omega, e_385, e_405, wr_140, wt_141, ⟨k_142, c9_143, t_144, f_394, e_393, u_395, w_148⟩, ⟨k_149, c9_150, t_151, f_397, e_396, u_398, w_155⟩⟩ : RS ρ ws_380 ty_381 rd krd tp ktp cd bb tl)) (cwV 1 hts gX4_readEither_X4_readOne rfl rfl rfl (by decide +kernel) ⟨Nat.le_of_ble_eq_true rfl, Nat.le_of_ble_eq_true rfl⟩) ⟨fun a U g mk q => by obtain ⟨q0, q1, qP, qK, qD, qS⟩ := q; exact ⟨q0, q1, qP, va_K.moved (u := U) (U := U.calling g mk a) (Vm.Alike.refl U.vm) qK, qD, SZ.same rfl rfl qS⟩, va_recv hK hP (ci := 4) (q0 := krd) rfl e_385, fun U hU hW => ⟨rfl, by rw [hU], by rw [hU]; exact hP, va_K.moved hW.alike hK, hD.weaken (fun _ _ _ _ => trivial), hsz9.go hS hW hU hFc⟩⟩ rfl rfl hl.1 rfl (lv_room (Nat.le_of_ble_eq_true rfl)) dX4_readEither_80 ⟨Nat.le_of_ble_eq_true rfl, Nat.le_of_ble_eq_true rfl⟩) hS (fun q _ h => hFc q h) hFc (fun r_406 u t H1 locs ht hvm w_407 hB hz1 hk1 hS => ?_)
        obtain ⟨ws_408, ty_409, hm_410, ht_412, hP1, hK1, hD1, hx_411⟩ := hB
        rw [ht] at hP1
        have hK := va_K.moved hvm.symm hK1
        have hD := hD1.weaken (fun _ _ _ h => hFc _ h)
        generalize H1 = H at hP1 hS ⊢
        have hP := hP1
        obtain ⟨g_414, e_413, h_415⟩ := hm_410.obj e_385
        obtain ⟨z_416, z_417, z_418, z_419, z_420, z_421, rfl⟩ := smX4 h_415
        obtain ⟨g_423, e_422, h_424⟩ := hm_410.obj e_405
        obtain ⟨z_425, z_426, z_427, z_428, rfl⟩ := smX6 h_424
        obtain ⟨f_430, e_429⟩ := hm_410.arrI e_393
        have u_431 := ht_412 _ _ u_395
        obtain ⟨f_433, e_432⟩ := hm_410.arrI e_396
        have u_434 := ht_412 _ _ u_398
        have hsm := hsm.tr (hm_410.mono (by decide))
        have hlp_101 := hlp_101.tr (hm_410.mono (by decide))
        have htx := htx.tr ht_412
        obtain ⟨ts_435, te_436, cc_437, ra_438, rb_439, rc_440, rv_441, re_442, ya_443, h1_444, h2_445, h3_446, h4_447, er_448, et_449, wr_450, wt_451, ⟨k_452, c9_453, t_454, f_455, e_456, u_457, w_458⟩, ⟨k_459, c9_460, t_461, f_462, e_463, u_464, w_465⟩⟩ := id hx_411
        refine lv_istore_n (lv' := [(2, .int r_406), (3, .int 1), (5, .int 0), (4, .int (nI i_93)), (1, .int 6), (0, .ref rd)]) hx hb dX4_readEither_83 rfl hl (by decide) rfl (fun ls hl => ?_)
        refine lv_iload hx hb dX4_readEither_84 (lv_at hl 2 rfl) ?_
        refine lv_if_eq (tgt := 95) hx hb dX4_readEither_86 (by decide) (fun c_466 => ?_) (fun c_466 => absurd (by decide) c_466)
        refine lv_iinc (v := nI (i_93 + 1)) (lv' := [(4, .int (nI (i_93 + 1))), (2, .int r_406), (3, .int 1), (5, .int 0), (1, .int 6), (0, .ref rd)]) hx hb dX4_readEither_95 hl (k := 3) rfl (nI_add i_93 1) (by decide) rfl (fun ls hl => ?_)
        refine lv_goto (tgt := 11) hx hb dX4_readEither_98 (by decide) ?_
        exact ih_92 (i_93 + 1, r_406, 1) ws_408 _ _ ls (by show 400 - (i_93 + 1) < 400 - i_93; omega) ⟨hlp_101, ⟨ty_409, hK, htx, (⟨ts_435, te_436, cc_437, ra_438, rb_439, rc_440, rv_441, re_442, ya_443, by omega, by omega, by omega, by omega, er_448, et_449, wr_450, wt_451, ⟨k_452, c9_453, t_454, f_455, e_456, u_457, w_458⟩, ⟨k_459, c9_460, t_461, f_462, e_463, u_464, w_465⟩⟩ : RS ρ ws_408 ty_409 rd krd tp ktp cd bb tl)⟩, (show (i_93 + 1) ≤ 400 from by omega), (show r_406 = 0 ∨ r_406 = 1 from w_407), (show 1 = 0 ∨ 1 = 1 from Or.inr rfl)⟩ hP hD hS (lv_sub hl [0, 1, 2, 4, 5] rfl)
      refine lv_iload hx hb dX4_readEither_60 (lv_at hl 0 rfl) ?_
      refine lv_if_ne (tgt := 69) hx hb dX4_readEither_62 (by decide) (fun c_467 => absurd (by decide) c_467) (fun c_467 => ?_)
      refine lv_iconst (v := 1) hx hb dX4_readEither_65 (by decide) ?_
      refine lv_goto (tgt := 70) hx hb dX4_readEither_66 (by decide) ?_
      refine lv_istore_n (lv' := [(3, .int 1), (5, .int 0), (4, .int (nI i_93)), (2, .int x_94), (1, .int 6), (0, .ref rd)]) hx hb dX4_readEither_70 rfl hl (by decide) rfl (fun ls hl => ?_)
      refine lv_aload_n hx hb dX4_readEither_71 rfl (lv_at hl 5 rfl) ?_
      refine va_get (D := D) (ci := 4) (v := .ref tp) (C := RX4) (T := TX4) (N := 8) hx hb hts hin4 hown hK hP krd e_367 rfl 0 (by decide) (hts (.fieldLink RX4 12 "HoneyHouse$RuleReader" "tape" "LHoneyHouse$Tape;") (List.mem_of_getElem? (i := 1) rfl)) (fun _ h9 => h9) rfl dX4_readEither_72 ?_
      have hFc := free_all hD hS hA
      refine va_callv (va_runV (As := []) (rest := []) ⟨hx, hb, hml, hown, hts⟩ (a_advance l D ρ ws_362 ty_363 tp ktp tl te_126 ya_133 (nI ts_125) bb k_149 c9_150 t_151 f_373 H.size (by omega) (by omega) e_368 e_372 u_374 wt_141) (cwV 0 hts gX4_readEither_X6_advance rfl rfl rfl (by decide +kernel) ⟨Nat.le_of_ble_eq_true rfl, Nat.le_of_ble_eq_true rfl⟩) ⟨fun a U g mk q => by obtain ⟨q0, q1, qP, qK, qD⟩ := q; exact ⟨q0, q1, qP, va_K.moved (u := U) (U := U.calling g mk a) (Vm.Alike.refl U.vm) qK, qD⟩, va_recv hK hP (ci := 6) (q0 := ktp) rfl e_368, fun U hU hW => ⟨rfl, by rw [hU], by rw [hU]; exact hP, va_K.moved hW.alike hK, hD.weaken (fun _ _ _ _ => trivial)⟩⟩ rfl rfl hl.1 rfl (lv_room (Nat.le_of_ble_eq_true rfl)) dX4_readEither_75 ⟨Nat.le_of_ble_eq_true rfl, Nat.le_of_ble_eq_true rfl⟩) hS (fun q _ h => hFc q h) hFc (fun u t H1 locs ht hvm w_469 hB hz1 hk1 hS => ?_)
      obtain ⟨ws_470, ty_471, hm_472, ht_474, hP1, hK1, hD1, hx_473⟩ := hB
      rw [ht] at hP1
      have hK := va_K.moved hvm.symm hK1
      have hD := hD1.weaken (fun _ _ _ h => hFc _ h)
      generalize H1 = H at hP1 hS ⊢
      have hP := hP1
      have e_475 := hm_472.objK e_367 (by decide)
      obtain ⟨g_477, e_476, h_478⟩ := hm_472.obj e_368
      obtain ⟨z_479, z_480, z_481, z_482, rfl⟩ := smX6 h_478
      obtain ⟨f_484, e_483⟩ := hm_472.arrI e_369
      have u_485 := ht_474 _ _ u_371
      obtain ⟨f_487, e_486⟩ := hm_472.arrI e_372
      have u_488 := ht_474 _ _ u_374
      have hsm := hsm.tr (hm_472.mono (by decide))
      have hlp_101 := hlp_101.tr (hm_472.mono (by decide))
      have htx := htx.tr ht_474
      obtain ⟨k_489, s_490, e_491, h_492, h_493, h_494, e_495⟩ := hx_473
      refine lv_aload_n hx hb dX4_readEither_78 rfl (lv_at hl 5 rfl) ?_
      refine lv_iload_n hx hb dX4_readEither_79 rfl (lv_at hl 4 rfl) ?_
      have hFc := free_all hD hS hA
      refine va_calli (va_runV (As := [.int 6]) (rest := []) ⟨hx, hb, hml, hown, hts⟩ (r_readOne6 l D ρ ws_470 ty_471 adK adV fo rd krd tp ktp cd bb tl  H.size (⟨s_490, e_491, cc_127, ra_128, rb_129, rc_130, rv_131, re_132, nI k_489, by omega, by omega, by omega, by omega, e_475, e_495, wr_140, wt_141, ⟨k_142, c9_143, t_144, f_484, e_483, u_485, w_148⟩, ⟨k_149, c9_150, t_151, f_487, e_486, u_488, w_155⟩⟩ : RS ρ ws_470 ty_471 rd krd tp ktp cd bb tl)) (cwV 1 hts gX4_readEither_X4_readOne rfl rfl rfl (by decide +kernel) ⟨Nat.le_of_ble_eq_true rfl, Nat.le_of_ble_eq_true rfl⟩) ⟨fun a U g mk q => by obtain ⟨q0, q1, qP, qK, qD, qS⟩ := q; exact ⟨q0, q1, qP, va_K.moved (u := U) (U := U.calling g mk a) (Vm.Alike.refl U.vm) qK, qD, SZ.same rfl rfl qS⟩, va_recv hK hP (ci := 4) (q0 := krd) rfl e_475, fun U hU hW => ⟨rfl, by rw [hU], by rw [hU]; exact hP, va_K.moved hW.alike hK, hD.weaken (fun _ _ _ _ => trivial), hsz9.go hS hW hU hFc⟩⟩ rfl rfl hl.1 rfl (lv_room (Nat.le_of_ble_eq_true rfl)) dX4_readEither_80 ⟨Nat.le_of_ble_eq_true rfl, Nat.le_of_ble_eq_true rfl⟩) hS (fun q _ h => hFc q h) hFc (fun r_496 u t H1 locs ht hvm w_497 hB hz1 hk1 hS => ?_)
      obtain ⟨ws_498, ty_499, hm_500, ht_502, hP1, hK1, hD1, hx_501⟩ := hB
      rw [ht] at hP1
      have hK := va_K.moved hvm.symm hK1
      have hD := hD1.weaken (fun _ _ _ h => hFc _ h)
      generalize H1 = H at hP1 hS ⊢
      have hP := hP1
      obtain ⟨g_504, e_503, h_505⟩ := hm_500.obj e_475
      obtain ⟨z_506, z_507, z_508, z_509, z_510, z_511, rfl⟩ := smX4 h_505
      obtain ⟨g_513, e_512, h_514⟩ := hm_500.obj e_495
      obtain ⟨z_515, z_516, z_517, z_518, rfl⟩ := smX6 h_514
      obtain ⟨f_520, e_519⟩ := hm_500.arrI e_483
      have u_521 := ht_502 _ _ u_485
      obtain ⟨f_523, e_522⟩ := hm_500.arrI e_486
      have u_524 := ht_502 _ _ u_488
      have hsm := hsm.tr (hm_500.mono (by decide))
      have hlp_101 := hlp_101.tr (hm_500.mono (by decide))
      have htx := htx.tr ht_502
      obtain ⟨ts_525, te_526, cc_527, ra_528, rb_529, rc_530, rv_531, re_532, ya_533, h1_534, h2_535, h3_536, h4_537, er_538, et_539, wr_540, wt_541, ⟨k_542, c9_543, t_544, f_545, e_546, u_547, w_548⟩, ⟨k_549, c9_550, t_551, f_552, e_553, u_554, w_555⟩⟩ := id hx_501
      refine lv_istore_n (lv' := [(2, .int r_496), (3, .int 1), (5, .int 0), (4, .int (nI i_93)), (1, .int 6), (0, .ref rd)]) hx hb dX4_readEither_83 rfl hl (by decide) rfl (fun ls hl => ?_)
      refine lv_iload hx hb dX4_readEither_84 (lv_at hl 2 rfl) ?_
      refine lv_if_eq (tgt := 95) hx hb dX4_readEither_86 (by decide) (fun c_556 => ?_) (fun c_556 => absurd (by decide) c_556)
      refine lv_iinc (v := nI (i_93 + 1)) (lv' := [(4, .int (nI (i_93 + 1))), (2, .int r_496), (3, .int 1), (5, .int 0), (1, .int 6), (0, .ref rd)]) hx hb dX4_readEither_95 hl (k := 3) rfl (nI_add i_93 1) (by decide) rfl (fun ls hl => ?_)
      refine lv_goto (tgt := 11) hx hb dX4_readEither_98 (by decide) ?_
      exact ih_92 (i_93 + 1, r_496, 1) ws_498 _ _ ls (by show 400 - (i_93 + 1) < 400 - i_93; omega) ⟨hlp_101, ⟨ty_499, hK, htx, (⟨ts_525, te_526, cc_527, ra_528, rb_529, rc_530, rv_531, re_532, ya_533, by omega, by omega, by omega, by omega, er_538, et_539, wr_540, wt_541, ⟨k_542, c9_543, t_544, f_545, e_546, u_547, w_548⟩, ⟨k_549, c9_550, t_551, f_552, e_553, u_554, w_555⟩⟩ : RS ρ ws_498 ty_499 rd krd tp ktp cd bb tl)⟩, (show (i_93 + 1) ≤ 400 from by omega), (show r_496 = 0 ∨ r_496 = 1 from w_497), (show 1 = 0 ∨ 1 = 1 from Or.inr rfl)⟩ hP hD hS (lv_sub hl [0, 1, 2, 4, 5] rfl)
    refine lv_aload_n hx hb dX4_readEither_50 rfl (lv_at hl 5 rfl) ?_
    refine lv_bipush (v := (-3)) hx hb dX4_readEither_51 (by decide) ?_
    have hFc := free_all hD hS hA
    refine va_callv (va_runV (As := [.int (-3)]) (rest := []) ⟨hx, hb, hml, hown, hts⟩ (r_addCode l D ρ ws_362 ty_363 adK adV fo rd krd tp ktp cd bb tl (-3) H.size (⟨ts_125, te_126, cc_127, ra_128, rb_129, rc_130, rv_131, re_132, ya_133, by omega, by omega, by omega, by omega, e_367, e_368, wr_140, wt_141, ⟨k_142, c9_143, t_144, f_370, e_369, u_371, w_148⟩, ⟨k_149, c9_150, t_151, f_373, e_372, u_374, w_155⟩⟩ : RS ρ ws_362 ty_363 rd krd tp ktp cd bb tl)) (cwV 1 hts gX4_readEither_X4_addCode rfl rfl rfl (by decide +kernel) ⟨Nat.le_of_ble_eq_true rfl, Nat.le_of_ble_eq_true rfl⟩) ⟨fun a U g mk q => by obtain ⟨q0, q1, qP, qK, qD, qS⟩ := q; exact ⟨q0, q1, qP, va_K.moved (u := U) (U := U.calling g mk a) (Vm.Alike.refl U.vm) qK, qD, SZ.same rfl rfl qS⟩, va_recv hK hP (ci := 4) (q0 := krd) rfl e_367, fun U hU hW => ⟨rfl, by rw [hU], by rw [hU]; exact hP, va_K.moved hW.alike hK, hD.weaken (fun _ _ _ _ => trivial), hsz9.go hS hW hU hFc⟩⟩ rfl rfl hl.1 rfl (lv_room (Nat.le_of_ble_eq_true rfl)) dX4_readEither_53 ⟨Nat.le_of_ble_eq_true rfl, Nat.le_of_ble_eq_true rfl⟩) hS (fun q _ h => hFc q h) hFc (fun u t H1 locs ht hvm w_558 hB hz1 hk1 hS => ?_)
    obtain ⟨ws_559, ty_560, hm_561, ht_563, hP1, hK1, hD1, hx_562⟩ := hB
    rw [ht] at hP1
    have hK := va_K.moved hvm.symm hK1
    have hD := hD1.weaken (fun _ _ _ h => hFc _ h)
    generalize H1 = H at hP1 hS ⊢
    have hP := hP1
    obtain ⟨g_565, e_564, h_566⟩ := hm_561.obj e_367
    obtain ⟨z_567, z_568, z_569, z_570, z_571, z_572, rfl⟩ := smX4 h_566
    obtain ⟨g_574, e_573, h_575⟩ := hm_561.obj e_368
    obtain ⟨z_576, z_577, z_578, z_579, rfl⟩ := smX6 h_575
    obtain ⟨f_581, e_580⟩ := hm_561.arrI e_369
    have u_582 := ht_563 _ _ u_371
    obtain ⟨f_584, e_583⟩ := hm_561.arrI e_372
    have u_585 := ht_563 _ _ u_374
    have hsm := hsm.tr (hm_561.mono (by decide))
    have hlp_101 := hlp_101.tr (hm_561.mono (by decide))
    have htx := htx.tr ht_563
    obtain ⟨ts_586, te_587, cc_588, ra_589, rb_590, rc_591, rv_592, re_593, ya_594, h1_595, h2_596, h3_597, h4_598, er_599, et_600, wr_601, wt_602, ⟨k_603, c9_604, t_605, f_606, e_607, u_608, w_609⟩, ⟨k_610, c9_611, t_612, f_613, e_614, u_615, w_616⟩⟩ := id hx_562
    refine lv_iload_n hx hb dX4_readEither_56 rfl (lv_at hl 3 rfl) ?_
    refine lv_if_ne (tgt := 65) hx hb dX4_readEither_57 (by decide) (fun c_617 => ?_) (fun c_617 => ?_)
    · refine lv_iconst (v := 1) hx hb dX4_readEither_65 (by decide) ?_
      refine lv_goto (tgt := 70) hx hb dX4_readEither_66 (by decide) ?_
      refine lv_istore_n (lv' := [(3, .int 1), (5, .int 0), (4, .int (nI i_93)), (2, .int x_94), (1, .int 6), (0, .ref rd)]) hx hb dX4_readEither_70 rfl hl (by decide) rfl (fun ls hl => ?_)
      refine lv_aload_n hx hb dX4_readEither_71 rfl (lv_at hl 5 rfl) ?_
      refine va_get (D := D) (ci := 4) (v := .ref tp) (C := RX4) (T := TX4) (N := 8) hx hb hts hin4 hown hK hP krd er_599 rfl 0 (by decide) (hts (.fieldLink RX4 12 "HoneyHouse$RuleReader" "tape" "LHoneyHouse$Tape;") (List.mem_of_getElem? (i := 1) rfl)) (fun _ h9 => h9) rfl dX4_readEither_72 ?_
      have hFc := free_all hD hS hA
      refine va_callv (va_runV (As := []) (rest := []) ⟨hx, hb, hml, hown, hts⟩ (a_advance l D ρ ws_559 ty_560 tp ktp tl te_587 ya_594 (nI ts_586) bb k_610 c9_611 t_612 f_613 H.size (by omega) (by omega) et_600 e_614 u_615 wt_602) (cwV 0 hts gX4_readEither_X6_advance rfl rfl rfl (by decide +kernel) ⟨Nat.le_of_ble_eq_true rfl, Nat.le_of_ble_eq_true rfl⟩) ⟨fun a U g mk q => by obtain ⟨q0, q1, qP, qK, qD⟩ := q; exact ⟨q0, q1, qP, va_K.moved (u := U) (U := U.calling g mk a) (Vm.Alike.refl U.vm) qK, qD⟩, va_recv hK hP (ci := 6) (q0 := ktp) rfl et_600, fun U hU hW => ⟨rfl, by rw [hU], by rw [hU]; exact hP, va_K.moved hW.alike hK, hD.weaken (fun _ _ _ _ => trivial)⟩⟩ rfl rfl hl.1 rfl (lv_room (Nat.le_of_ble_eq_true rfl)) dX4_readEither_75 ⟨Nat.le_of_ble_eq_true rfl, Nat.le_of_ble_eq_true rfl⟩) hS (fun q _ h => hFc q h) hFc (fun u t H1 locs ht hvm w_619 hB hz1 hk1 hS => ?_)
      obtain ⟨ws_620, ty_621, hm_622, ht_624, hP1, hK1, hD1, hx_623⟩ := hB
      rw [ht] at hP1
      have hK := va_K.moved hvm.symm hK1
      have hD := hD1.weaken (fun _ _ _ h => hFc _ h)
      generalize H1 = H at hP1 hS ⊢
      have hP := hP1
      have e_625 := hm_622.objK er_599 (by decide)
      obtain ⟨g_627, e_626, h_628⟩ := hm_622.obj et_600
      obtain ⟨z_629, z_630, z_631, z_632, rfl⟩ := smX6 h_628
      obtain ⟨f_634, e_633⟩ := hm_622.arrI e_607
      have u_635 := ht_624 _ _ u_608
      obtain ⟨f_637, e_636⟩ := hm_622.arrI e_614
      have u_638 := ht_624 _ _ u_615
      have hsm := hsm.tr (hm_622.mono (by decide))
      have hlp_101 := hlp_101.tr (hm_622.mono (by decide))
      have htx := htx.tr ht_624
      obtain ⟨k_639, s_640, e_641, h_642, h_643, h_644, e_645⟩ := hx_623
      refine lv_aload_n hx hb dX4_readEither_78 rfl (lv_at hl 5 rfl) ?_
      refine lv_iload_n hx hb dX4_readEither_79 rfl (lv_at hl 4 rfl) ?_
      have hFc := free_all hD hS hA
      refine va_calli (va_runV (As := [.int 6]) (rest := []) ⟨hx, hb, hml, hown, hts⟩ (r_readOne6 l D ρ ws_620 ty_621 adK adV fo rd krd tp ktp cd bb tl  H.size (⟨s_640, e_641, cc_588, ra_589, rb_590, rc_591, rv_592, re_593, nI k_639, by omega, by omega, by omega, by omega, e_625, e_645, wr_601, wt_602, ⟨k_603, c9_604, t_605, f_634, e_633, u_635, w_609⟩, ⟨k_610, c9_611, t_612, f_637, e_636, u_638, w_616⟩⟩ : RS ρ ws_620 ty_621 rd krd tp ktp cd bb tl)) (cwV 1 hts gX4_readEither_X4_readOne rfl rfl rfl (by decide +kernel) ⟨Nat.le_of_ble_eq_true rfl, Nat.le_of_ble_eq_true rfl⟩) ⟨fun a U g mk q => by obtain ⟨q0, q1, qP, qK, qD, qS⟩ := q; exact ⟨q0, q1, qP, va_K.moved (u := U) (U := U.calling g mk a) (Vm.Alike.refl U.vm) qK, qD, SZ.same rfl rfl qS⟩, va_recv hK hP (ci := 4) (q0 := krd) rfl e_625, fun U hU hW => ⟨rfl, by rw [hU], by rw [hU]; exact hP, va_K.moved hW.alike hK, hD.weaken (fun _ _ _ _ => trivial), hsz9.go hS hW hU hFc⟩⟩ rfl rfl hl.1 rfl (lv_room (Nat.le_of_ble_eq_true rfl)) dX4_readEither_80 ⟨Nat.le_of_ble_eq_true rfl, Nat.le_of_ble_eq_true rfl⟩) hS (fun q _ h => hFc q h) hFc (fun r_646 u t H1 locs ht hvm w_647 hB hz1 hk1 hS => ?_)
      obtain ⟨ws_648, ty_649, hm_650, ht_652, hP1, hK1, hD1, hx_651⟩ := hB
      rw [ht] at hP1
      have hK := va_K.moved hvm.symm hK1
      have hD := hD1.weaken (fun _ _ _ h => hFc _ h)
      generalize H1 = H at hP1 hS ⊢
      have hP := hP1
      obtain ⟨g_654, e_653, h_655⟩ := hm_650.obj e_625
      obtain ⟨z_656, z_657, z_658, z_659, z_660, z_661, rfl⟩ := smX4 h_655
      obtain ⟨g_663, e_662, h_664⟩ := hm_650.obj e_645
      obtain ⟨z_665, z_666, z_667, z_668, rfl⟩ := smX6 h_664
      obtain ⟨f_670, e_669⟩ := hm_650.arrI e_633
      have u_671 := ht_652 _ _ u_635
      obtain ⟨f_673, e_672⟩ := hm_650.arrI e_636
      have u_674 := ht_652 _ _ u_638
      have hsm := hsm.tr (hm_650.mono (by decide))
      have hlp_101 := hlp_101.tr (hm_650.mono (by decide))
      have htx := htx.tr ht_652
      obtain ⟨ts_675, te_676, cc_677, ra_678, rb_679, rc_680, rv_681, re_682, ya_683, h1_684, h2_685, h3_686, h4_687, er_688, et_689, wr_690, wt_691, ⟨k_692, c9_693, t_694, f_695, e_696, u_697, w_698⟩, ⟨k_699, c9_700, t_701, f_702, e_703, u_704, w_705⟩⟩ := id hx_651
      refine lv_istore_n (lv' := [(2, .int r_646), (3, .int 1), (5, .int 0), (4, .int (nI i_93)), (1, .int 6), (0, .ref rd)]) hx hb dX4_readEither_83 rfl hl (by decide) rfl (fun ls hl => ?_)
      refine lv_iload hx hb dX4_readEither_84 (lv_at hl 2 rfl) ?_
      refine lv_if_eq (tgt := 95) hx hb dX4_readEither_86 (by decide) (fun c_706 => ?_) (fun c_706 => absurd (by decide) c_706)
      refine lv_iinc (v := nI (i_93 + 1)) (lv' := [(4, .int (nI (i_93 + 1))), (2, .int r_646), (3, .int 1), (5, .int 0), (1, .int 6), (0, .ref rd)]) hx hb dX4_readEither_95 hl (k := 3) rfl (nI_add i_93 1) (by decide) rfl (fun ls hl => ?_)
      refine lv_goto (tgt := 11) hx hb dX4_readEither_98 (by decide) ?_
      exact ih_92 (i_93 + 1, r_646, 1) ws_648 _ _ ls (by show 400 - (i_93 + 1) < 400 - i_93; omega) ⟨hlp_101, ⟨ty_649, hK, htx, (⟨ts_675, te_676, cc_677, ra_678, rb_679, rc_680, rv_681, re_682, ya_683, by omega, by omega, by omega, by omega, er_688, et_689, wr_690, wt_691, ⟨k_692, c9_693, t_694, f_695, e_696, u_697, w_698⟩, ⟨k_699, c9_700, t_701, f_702, e_703, u_704, w_705⟩⟩ : RS ρ ws_648 ty_649 rd krd tp ktp cd bb tl)⟩, (show (i_93 + 1) ≤ 400 from by omega), (show r_646 = 0 ∨ r_646 = 1 from w_647), (show 1 = 0 ∨ 1 = 1 from Or.inr rfl)⟩ hP hD hS (lv_sub hl [0, 1, 2, 4, 5] rfl)
    refine lv_iload hx hb dX4_readEither_60 (lv_at hl 0 rfl) ?_
    refine lv_if_ne (tgt := 69) hx hb dX4_readEither_62 (by decide) (fun c_707 => absurd (by decide) c_707) (fun c_707 => ?_)
    refine lv_iconst (v := 1) hx hb dX4_readEither_65 (by decide) ?_
    refine lv_goto (tgt := 70) hx hb dX4_readEither_66 (by decide) ?_
    refine lv_istore_n (lv' := [(3, .int 1), (5, .int 0), (4, .int (nI i_93)), (2, .int x_94), (1, .int 6), (0, .ref rd)]) hx hb dX4_readEither_70 rfl hl (by decide) rfl (fun ls hl => ?_)
    refine lv_aload_n hx hb dX4_readEither_71 rfl (lv_at hl 5 rfl) ?_
    refine va_get (D := D) (ci := 4) (v := .ref tp) (C := RX4) (T := TX4) (N := 8) hx hb hts hin4 hown hK hP krd er_599 rfl 0 (by decide) (hts (.fieldLink RX4 12 "HoneyHouse$RuleReader" "tape" "LHoneyHouse$Tape;") (List.mem_of_getElem? (i := 1) rfl)) (fun _ h9 => h9) rfl dX4_readEither_72 ?_
    have hFc := free_all hD hS hA
    refine va_callv (va_runV (As := []) (rest := []) ⟨hx, hb, hml, hown, hts⟩ (a_advance l D ρ ws_559 ty_560 tp ktp tl te_587 ya_594 (nI ts_586) bb k_610 c9_611 t_612 f_613 H.size (by omega) (by omega) et_600 e_614 u_615 wt_602) (cwV 0 hts gX4_readEither_X6_advance rfl rfl rfl (by decide +kernel) ⟨Nat.le_of_ble_eq_true rfl, Nat.le_of_ble_eq_true rfl⟩) ⟨fun a U g mk q => by obtain ⟨q0, q1, qP, qK, qD⟩ := q; exact ⟨q0, q1, qP, va_K.moved (u := U) (U := U.calling g mk a) (Vm.Alike.refl U.vm) qK, qD⟩, va_recv hK hP (ci := 6) (q0 := ktp) rfl et_600, fun U hU hW => ⟨rfl, by rw [hU], by rw [hU]; exact hP, va_K.moved hW.alike hK, hD.weaken (fun _ _ _ _ => trivial)⟩⟩ rfl rfl hl.1 rfl (lv_room (Nat.le_of_ble_eq_true rfl)) dX4_readEither_75 ⟨Nat.le_of_ble_eq_true rfl, Nat.le_of_ble_eq_true rfl⟩) hS (fun q _ h => hFc q h) hFc (fun u t H1 locs ht hvm w_709 hB hz1 hk1 hS => ?_)
    obtain ⟨ws_710, ty_711, hm_712, ht_714, hP1, hK1, hD1, hx_713⟩ := hB
    rw [ht] at hP1
    have hK := va_K.moved hvm.symm hK1
    have hD := hD1.weaken (fun _ _ _ h => hFc _ h)
    generalize H1 = H at hP1 hS ⊢
    have hP := hP1
    have e_715 := hm_712.objK er_599 (by decide)
    obtain ⟨g_717, e_716, h_718⟩ := hm_712.obj et_600
    obtain ⟨z_719, z_720, z_721, z_722, rfl⟩ := smX6 h_718
    obtain ⟨f_724, e_723⟩ := hm_712.arrI e_607
    have u_725 := ht_714 _ _ u_608
    obtain ⟨f_727, e_726⟩ := hm_712.arrI e_614
    have u_728 := ht_714 _ _ u_615
    have hsm := hsm.tr (hm_712.mono (by decide))
    have hlp_101 := hlp_101.tr (hm_712.mono (by decide))
    have htx := htx.tr ht_714
    obtain ⟨k_729, s_730, e_731, h_732, h_733, h_734, e_735⟩ := hx_713
    refine lv_aload_n hx hb dX4_readEither_78 rfl (lv_at hl 5 rfl) ?_
    refine lv_iload_n hx hb dX4_readEither_79 rfl (lv_at hl 4 rfl) ?_
    have hFc := free_all hD hS hA
    refine va_calli (va_runV (As := [.int 6]) (rest := []) ⟨hx, hb, hml, hown, hts⟩ (r_readOne6 l D ρ ws_710 ty_711 adK adV fo rd krd tp ktp cd bb tl  H.size (⟨s_730, e_731, cc_588, ra_589, rb_590, rc_591, rv_592, re_593, nI k_729, by omega, by omega, by omega, by omega, e_715, e_735, wr_601, wt_602, ⟨k_603, c9_604, t_605, f_724, e_723, u_725, w_609⟩, ⟨k_610, c9_611, t_612, f_727, e_726, u_728, w_616⟩⟩ : RS ρ ws_710 ty_711 rd krd tp ktp cd bb tl)) (cwV 1 hts gX4_readEither_X4_readOne rfl rfl rfl (by decide +kernel) ⟨Nat.le_of_ble_eq_true rfl, Nat.le_of_ble_eq_true rfl⟩) ⟨fun a U g mk q => by obtain ⟨q0, q1, qP, qK, qD, qS⟩ := q; exact ⟨q0, q1, qP, va_K.moved (u := U) (U := U.calling g mk a) (Vm.Alike.refl U.vm) qK, qD, SZ.same rfl rfl qS⟩, va_recv hK hP (ci := 4) (q0 := krd) rfl e_715, fun U hU hW => ⟨rfl, by rw [hU], by rw [hU]; exact hP, va_K.moved hW.alike hK, hD.weaken (fun _ _ _ _ => trivial), hsz9.go hS hW hU hFc⟩⟩ rfl rfl hl.1 rfl (lv_room (Nat.le_of_ble_eq_true rfl)) dX4_readEither_80 ⟨Nat.le_of_ble_eq_true rfl, Nat.le_of_ble_eq_true rfl⟩) hS (fun q _ h => hFc q h) hFc (fun r_736 u t H1 locs ht hvm w_737 hB hz1 hk1 hS => ?_)
    obtain ⟨ws_738, ty_739, hm_740, ht_742, hP1, hK1, hD1, hx_741⟩ := hB
    rw [ht] at hP1
    have hK := va_K.moved hvm.symm hK1
    have hD := hD1.weaken (fun _ _ _ h => hFc _ h)
    generalize H1 = H at hP1 hS ⊢
    have hP := hP1
    obtain ⟨g_744, e_743, h_745⟩ := hm_740.obj e_715
    obtain ⟨z_746, z_747, z_748, z_749, z_750, z_751, rfl⟩ := smX4 h_745
    obtain ⟨g_753, e_752, h_754⟩ := hm_740.obj e_735
    obtain ⟨z_755, z_756, z_757, z_758, rfl⟩ := smX6 h_754
    obtain ⟨f_760, e_759⟩ := hm_740.arrI e_723
    have u_761 := ht_742 _ _ u_725
    obtain ⟨f_763, e_762⟩ := hm_740.arrI e_726
    have u_764 := ht_742 _ _ u_728
    have hsm := hsm.tr (hm_740.mono (by decide))
    have hlp_101 := hlp_101.tr (hm_740.mono (by decide))
    have htx := htx.tr ht_742
    obtain ⟨ts_765, te_766, cc_767, ra_768, rb_769, rc_770, rv_771, re_772, ya_773, h1_774, h2_775, h3_776, h4_777, er_778, et_779, wr_780, wt_781, ⟨k_782, c9_783, t_784, f_785, e_786, u_787, w_788⟩, ⟨k_789, c9_790, t_791, f_792, e_793, u_794, w_795⟩⟩ := id hx_741
    refine lv_istore_n (lv' := [(2, .int r_736), (3, .int 1), (5, .int 0), (4, .int (nI i_93)), (1, .int 6), (0, .ref rd)]) hx hb dX4_readEither_83 rfl hl (by decide) rfl (fun ls hl => ?_)
    refine lv_iload hx hb dX4_readEither_84 (lv_at hl 2 rfl) ?_
    refine lv_if_eq (tgt := 95) hx hb dX4_readEither_86 (by decide) (fun c_796 => ?_) (fun c_796 => absurd (by decide) c_796)
    refine lv_iinc (v := nI (i_93 + 1)) (lv' := [(4, .int (nI (i_93 + 1))), (2, .int r_736), (3, .int 1), (5, .int 0), (1, .int 6), (0, .ref rd)]) hx hb dX4_readEither_95 hl (k := 3) rfl (nI_add i_93 1) (by decide) rfl (fun ls hl => ?_)
    refine lv_goto (tgt := 11) hx hb dX4_readEither_98 (by decide) ?_
    exact ih_92 (i_93 + 1, r_736, 1) ws_738 _ _ ls (by show 400 - (i_93 + 1) < 400 - i_93; omega) ⟨hlp_101, ⟨ty_739, hK, htx, (⟨ts_765, te_766, cc_767, ra_768, rb_769, rc_770, rv_771, re_772, ya_773, by omega, by omega, by omega, by omega, er_778, et_779, wr_780, wt_781, ⟨k_782, c9_783, t_784, f_785, e_786, u_787, w_788⟩, ⟨k_789, c9_790, t_791, f_792, e_793, u_794, w_795⟩⟩ : RS ρ ws_738 ty_739 rd krd tp ktp cd bb tl)⟩, (show (i_93 + 1) ≤ 400 from by omega), (show r_736 = 0 ∨ r_736 = 1 from w_737), (show 1 = 0 ∨ 1 = 1 from Or.inr rfl)⟩ hP hD hS (lv_sub hl [0, 1, 2, 4, 5] rfl)
  refine lv_istore (lv' := [(5, .int 1), (4, .int (nI i_93)), (2, .int x_94), (3, .int y_95), (1, .int 6), (0, .ref rd)]) hx hb dX4_readEither_39 hl (by decide) rfl (fun ls hl => ?_)
  refine lv_iload hx hb dX4_readEither_41 (lv_at hl 0 rfl) ?_
  refine lv_if_ne (tgt := 56) hx hb dX4_readEither_43 (by decide) (fun c_797 => ?_) (fun c_797 => absurd c_797 (by decide))
  refine lv_iload_n hx hb dX4_readEither_56 rfl (lv_at hl 3 rfl) ?_
  refine lv_if_ne (tgt := 65) hx hb dX4_readEither_57 (by decide) (fun c_798 => ?_) (fun c_798 => ?_)
  · refine lv_iconst (v := 1) hx hb dX4_readEither_65 (by decide) ?_
    refine lv_goto (tgt := 70) hx hb dX4_readEither_66 (by decide) ?_
    refine lv_istore_n (lv' := [(3, .int 1), (5, .int 1), (4, .int (nI i_93)), (2, .int x_94), (1, .int 6), (0, .ref rd)]) hx hb dX4_readEither_70 rfl hl (by decide) rfl (fun ls hl => ?_)
    refine lv_aload_n hx hb dX4_readEither_71 rfl (lv_at hl 5 rfl) ?_
    refine va_get (D := D) (ci := 4) (v := .ref tp) (C := RX4) (T := TX4) (N := 8) hx hb hts hin4 hown hK hP krd e_367 rfl 0 (by decide) (hts (.fieldLink RX4 12 "HoneyHouse$RuleReader" "tape" "LHoneyHouse$Tape;") (List.mem_of_getElem? (i := 1) rfl)) (fun _ h9 => h9) rfl dX4_readEither_72 ?_
    have hFc := free_all hD hS hA
    refine va_callv (va_runV (As := []) (rest := []) ⟨hx, hb, hml, hown, hts⟩ (a_advance l D ρ ws_362 ty_363 tp ktp tl te_126 ya_133 (nI ts_125) bb k_149 c9_150 t_151 f_373 H.size (by omega) (by omega) e_368 e_372 u_374 wt_141) (cwV 0 hts gX4_readEither_X6_advance rfl rfl rfl (by decide +kernel) ⟨Nat.le_of_ble_eq_true rfl, Nat.le_of_ble_eq_true rfl⟩) ⟨fun a U g mk q => by obtain ⟨q0, q1, qP, qK, qD⟩ := q; exact ⟨q0, q1, qP, va_K.moved (u := U) (U := U.calling g mk a) (Vm.Alike.refl U.vm) qK, qD⟩, va_recv hK hP (ci := 6) (q0 := ktp) rfl e_368, fun U hU hW => ⟨rfl, by rw [hU], by rw [hU]; exact hP, va_K.moved hW.alike hK, hD.weaken (fun _ _ _ _ => trivial)⟩⟩ rfl rfl hl.1 rfl (lv_room (Nat.le_of_ble_eq_true rfl)) dX4_readEither_75 ⟨Nat.le_of_ble_eq_true rfl, Nat.le_of_ble_eq_true rfl⟩) hS (fun q _ h => hFc q h) hFc (fun u t H1 locs ht hvm w_800 hB hz1 hk1 hS => ?_)
    obtain ⟨ws_801, ty_802, hm_803, ht_805, hP1, hK1, hD1, hx_804⟩ := hB
    rw [ht] at hP1
    have hK := va_K.moved hvm.symm hK1
    have hD := hD1.weaken (fun _ _ _ h => hFc _ h)
    generalize H1 = H at hP1 hS ⊢
    have hP := hP1
    have e_806 := hm_803.objK e_367 (by decide)
    obtain ⟨g_808, e_807, h_809⟩ := hm_803.obj e_368
    obtain ⟨z_810, z_811, z_812, z_813, rfl⟩ := smX6 h_809
    obtain ⟨f_815, e_814⟩ := hm_803.arrI e_369
    have u_816 := ht_805 _ _ u_371
    obtain ⟨f_818, e_817⟩ := hm_803.arrI e_372
    have u_819 := ht_805 _ _ u_374
    have hsm := hsm.tr (hm_803.mono (by decide))
    have hlp_101 := hlp_101.tr (hm_803.mono (by decide))
    have htx := htx.tr ht_805
    obtain ⟨k_820, s_821, e_822, h_823, h_824, h_825, e_826⟩ := hx_804
    refine lv_aload_n hx hb dX4_readEither_78 rfl (lv_at hl 5 rfl) ?_
    refine lv_iload_n hx hb dX4_readEither_79 rfl (lv_at hl 4 rfl) ?_
    have hFc := free_all hD hS hA
    refine va_calli (va_runV (As := [.int 6]) (rest := []) ⟨hx, hb, hml, hown, hts⟩ (r_readOne6 l D ρ ws_801 ty_802 adK adV fo rd krd tp ktp cd bb tl  H.size (⟨s_821, e_822, cc_127, ra_128, rb_129, rc_130, rv_131, re_132, nI k_820, by omega, by omega, by omega, by omega, e_806, e_826, wr_140, wt_141, ⟨k_142, c9_143, t_144, f_815, e_814, u_816, w_148⟩, ⟨k_149, c9_150, t_151, f_818, e_817, u_819, w_155⟩⟩ : RS ρ ws_801 ty_802 rd krd tp ktp cd bb tl)) (cwV 1 hts gX4_readEither_X4_readOne rfl rfl rfl (by decide +kernel) ⟨Nat.le_of_ble_eq_true rfl, Nat.le_of_ble_eq_true rfl⟩) ⟨fun a U g mk q => by obtain ⟨q0, q1, qP, qK, qD, qS⟩ := q; exact ⟨q0, q1, qP, va_K.moved (u := U) (U := U.calling g mk a) (Vm.Alike.refl U.vm) qK, qD, SZ.same rfl rfl qS⟩, va_recv hK hP (ci := 4) (q0 := krd) rfl e_806, fun U hU hW => ⟨rfl, by rw [hU], by rw [hU]; exact hP, va_K.moved hW.alike hK, hD.weaken (fun _ _ _ _ => trivial), hsz9.go hS hW hU hFc⟩⟩ rfl rfl hl.1 rfl (lv_room (Nat.le_of_ble_eq_true rfl)) dX4_readEither_80 ⟨Nat.le_of_ble_eq_true rfl, Nat.le_of_ble_eq_true rfl⟩) hS (fun q _ h => hFc q h) hFc (fun r_827 u t H1 locs ht hvm w_828 hB hz1 hk1 hS => ?_)
    obtain ⟨ws_829, ty_830, hm_831, ht_833, hP1, hK1, hD1, hx_832⟩ := hB
    rw [ht] at hP1
    have hK := va_K.moved hvm.symm hK1
    have hD := hD1.weaken (fun _ _ _ h => hFc _ h)
    generalize H1 = H at hP1 hS ⊢
    have hP := hP1
    obtain ⟨g_835, e_834, h_836⟩ := hm_831.obj e_806
    obtain ⟨z_837, z_838, z_839, z_840, z_841, z_842, rfl⟩ := smX4 h_836
    obtain ⟨g_844, e_843, h_845⟩ := hm_831.obj e_826
    obtain ⟨z_846, z_847, z_848, z_849, rfl⟩ := smX6 h_845
    obtain ⟨f_851, e_850⟩ := hm_831.arrI e_814
    have u_852 := ht_833 _ _ u_816
    obtain ⟨f_854, e_853⟩ := hm_831.arrI e_817
    have u_855 := ht_833 _ _ u_819
    have hsm := hsm.tr (hm_831.mono (by decide))
    have hlp_101 := hlp_101.tr (hm_831.mono (by decide))
    have htx := htx.tr ht_833
    obtain ⟨ts_856, te_857, cc_858, ra_859, rb_860, rc_861, rv_862, re_863, ya_864, h1_865, h2_866, h3_867, h4_868, er_869, et_870, wr_871, wt_872, ⟨k_873, c9_874, t_875, f_876, e_877, u_878, w_879⟩, ⟨k_880, c9_881, t_882, f_883, e_884, u_885, w_886⟩⟩ := id hx_832
    refine lv_istore_n (lv' := [(2, .int r_827), (3, .int 1), (5, .int 1), (4, .int (nI i_93)), (1, .int 6), (0, .ref rd)]) hx hb dX4_readEither_83 rfl hl (by decide) rfl (fun ls hl => ?_)
    refine lv_iload hx hb dX4_readEither_84 (lv_at hl 2 rfl) ?_
    refine lv_if_eq (tgt := 95) hx hb dX4_readEither_86 (by decide) (fun c_887 => absurd c_887 (by decide)) (fun c_887 => ?_)
    refine lv_aload_n hx hb dX4_readEither_89 rfl (lv_at hl 5 rfl) ?_
    refine lv_bipush (v := (-2)) hx hb dX4_readEither_90 (by decide) ?_
    have hFc := free_all hD hS hA
    refine va_callv (va_runV (As := [.int (-2)]) (rest := []) ⟨hx, hb, hml, hown, hts⟩ (r_addCode l D ρ ws_829 ty_830 adK adV fo rd krd tp ktp cd bb tl (-2) H.size (⟨ts_856, te_857, cc_858, ra_859, rb_860, rc_861, rv_862, re_863, ya_864, by omega, by omega, by omega, by omega, er_869, et_870, wr_871, wt_872, ⟨k_873, c9_874, t_875, f_876, e_877, u_878, w_879⟩, ⟨k_880, c9_881, t_882, f_883, e_884, u_885, w_886⟩⟩ : RS ρ ws_829 ty_830 rd krd tp ktp cd bb tl)) (cwV 1 hts gX4_readEither_X4_addCode rfl rfl rfl (by decide +kernel) ⟨Nat.le_of_ble_eq_true rfl, Nat.le_of_ble_eq_true rfl⟩) ⟨fun a U g mk q => by obtain ⟨q0, q1, qP, qK, qD, qS⟩ := q; exact ⟨q0, q1, qP, va_K.moved (u := U) (U := U.calling g mk a) (Vm.Alike.refl U.vm) qK, qD, SZ.same rfl rfl qS⟩, va_recv hK hP (ci := 4) (q0 := krd) rfl er_869, fun U hU hW => ⟨rfl, by rw [hU], by rw [hU]; exact hP, va_K.moved hW.alike hK, hD.weaken (fun _ _ _ _ => trivial), hsz9.go hS hW hU hFc⟩⟩ rfl rfl hl.1 rfl (lv_room (Nat.le_of_ble_eq_true rfl)) dX4_readEither_92 ⟨Nat.le_of_ble_eq_true rfl, Nat.le_of_ble_eq_true rfl⟩) hS (fun q _ h => hFc q h) hFc (fun u t H1 locs ht hvm w_889 hB hz1 hk1 hS => ?_)
    obtain ⟨ws_890, ty_891, hm_892, ht_894, hP1, hK1, hD1, hx_893⟩ := hB
    rw [ht] at hP1
    have hK := va_K.moved hvm.symm hK1
    have hD := hD1.weaken (fun _ _ _ h => hFc _ h)
    generalize H1 = H at hP1 hS ⊢
    have hP := hP1
    obtain ⟨g_896, e_895, h_897⟩ := hm_892.obj er_869
    obtain ⟨z_898, z_899, z_900, z_901, z_902, z_903, rfl⟩ := smX4 h_897
    obtain ⟨g_905, e_904, h_906⟩ := hm_892.obj et_870
    obtain ⟨z_907, z_908, z_909, z_910, rfl⟩ := smX6 h_906
    obtain ⟨f_912, e_911⟩ := hm_892.arrI e_877
    have u_913 := ht_894 _ _ u_878
    obtain ⟨f_915, e_914⟩ := hm_892.arrI e_884
    have u_916 := ht_894 _ _ u_885
    have hsm := hsm.tr (hm_892.mono (by decide))
    have hlp_101 := hlp_101.tr (hm_892.mono (by decide))
    have htx := htx.tr ht_894
    obtain ⟨ts_917, te_918, cc_919, ra_920, rb_921, rc_922, rv_923, re_924, ya_925, h1_926, h2_927, h3_928, h4_929, er_930, et_931, wr_932, wt_933, ⟨k_934, c9_935, t_936, f_937, e_938, u_939, w_940⟩, ⟨k_941, c9_942, t_943, f_944, e_945, u_946, w_947⟩⟩ := id hx_893
    refine lv_iinc (v := nI (i_93 + 1)) (lv' := [(4, .int (nI (i_93 + 1))), (2, .int r_827), (3, .int 1), (5, .int 1), (1, .int 6), (0, .ref rd)]) hx hb dX4_readEither_95 hl (k := 3) rfl (nI_add i_93 1) (by decide) rfl (fun ls hl => ?_)
    refine lv_goto (tgt := 11) hx hb dX4_readEither_98 (by decide) ?_
    exact ih_92 (i_93 + 1, r_827, 1) ws_890 _ _ ls (by show 400 - (i_93 + 1) < 400 - i_93; omega) ⟨hlp_101, ⟨ty_891, hK, htx, (⟨ts_917, te_918, cc_919, ra_920, rb_921, rc_922, rv_923, re_924, ya_925, by omega, by omega, by omega, by omega, er_930, et_931, wr_932, wt_933, ⟨k_934, c9_935, t_936, f_937, e_938, u_939, w_940⟩, ⟨k_941, c9_942, t_943, f_944, e_945, u_946, w_947⟩⟩ : RS ρ ws_890 ty_891 rd krd tp ktp cd bb tl)⟩, (show (i_93 + 1) ≤ 400 from by omega), (show r_827 = 0 ∨ r_827 = 1 from w_828), (show 1 = 0 ∨ 1 = 1 from Or.inr rfl)⟩ hP hD hS (lv_sub hl [0, 1, 2, 4, 5] rfl)
  refine lv_iload hx hb dX4_readEither_60 (lv_at hl 0 rfl) ?_
  refine lv_if_ne (tgt := 69) hx hb dX4_readEither_62 (by decide) (fun c_948 => ?_) (fun c_948 => absurd c_948 (by decide))
  refine lv_iconst (v := 0) hx hb dX4_readEither_69 (by decide) ?_
  refine lv_istore_n (lv' := [(3, .int 0), (5, .int 1), (4, .int (nI i_93)), (2, .int x_94), (1, .int 6), (0, .ref rd)]) hx hb dX4_readEither_70 rfl hl (by decide) rfl (fun ls hl => ?_)
  refine lv_aload_n hx hb dX4_readEither_71 rfl (lv_at hl 5 rfl) ?_
  refine va_get (D := D) (ci := 4) (v := .ref tp) (C := RX4) (T := TX4) (N := 8) hx hb hts hin4 hown hK hP krd e_367 rfl 0 (by decide) (hts (.fieldLink RX4 12 "HoneyHouse$RuleReader" "tape" "LHoneyHouse$Tape;") (List.mem_of_getElem? (i := 1) rfl)) (fun _ h9 => h9) rfl dX4_readEither_72 ?_
  have hFc := free_all hD hS hA
  refine va_callv (va_runV (As := []) (rest := []) ⟨hx, hb, hml, hown, hts⟩ (a_advance l D ρ ws_362 ty_363 tp ktp tl te_126 ya_133 (nI ts_125) bb k_149 c9_150 t_151 f_373 H.size (by omega) (by omega) e_368 e_372 u_374 wt_141) (cwV 0 hts gX4_readEither_X6_advance rfl rfl rfl (by decide +kernel) ⟨Nat.le_of_ble_eq_true rfl, Nat.le_of_ble_eq_true rfl⟩) ⟨fun a U g mk q => by obtain ⟨q0, q1, qP, qK, qD⟩ := q; exact ⟨q0, q1, qP, va_K.moved (u := U) (U := U.calling g mk a) (Vm.Alike.refl U.vm) qK, qD⟩, va_recv hK hP (ci := 6) (q0 := ktp) rfl e_368, fun U hU hW => ⟨rfl, by rw [hU], by rw [hU]; exact hP, va_K.moved hW.alike hK, hD.weaken (fun _ _ _ _ => trivial)⟩⟩ rfl rfl hl.1 rfl (lv_room (Nat.le_of_ble_eq_true rfl)) dX4_readEither_75 ⟨Nat.le_of_ble_eq_true rfl, Nat.le_of_ble_eq_true rfl⟩) hS (fun q _ h => hFc q h) hFc (fun u t H1 locs ht hvm w_950 hB hz1 hk1 hS => ?_)
  obtain ⟨ws_951, ty_952, hm_953, ht_955, hP1, hK1, hD1, hx_954⟩ := hB
  rw [ht] at hP1
  have hK := va_K.moved hvm.symm hK1
  have hD := hD1.weaken (fun _ _ _ h => hFc _ h)
  generalize H1 = H at hP1 hS ⊢
  have hP := hP1
  have e_956 := hm_953.objK e_367 (by decide)
  obtain ⟨g_958, e_957, h_959⟩ := hm_953.obj e_368
  obtain ⟨z_960, z_961, z_962, z_963, rfl⟩ := smX6 h_959
  obtain ⟨f_965, e_964⟩ := hm_953.arrI e_369
  have u_966 := ht_955 _ _ u_371
  obtain ⟨f_968, e_967⟩ := hm_953.arrI e_372
  have u_969 := ht_955 _ _ u_374
  have hsm := hsm.tr (hm_953.mono (by decide))
  have hlp_101 := hlp_101.tr (hm_953.mono (by decide))
  have htx := htx.tr ht_955
  obtain ⟨k_970, s_971, e_972, h_973, h_974, h_975, e_976⟩ := hx_954
  refine lv_aload_n hx hb dX4_readEither_78 rfl (lv_at hl 5 rfl) ?_
  refine lv_iload_n hx hb dX4_readEither_79 rfl (lv_at hl 4 rfl) ?_
  have hFc := free_all hD hS hA
  refine va_calli (va_runV (As := [.int 6]) (rest := []) ⟨hx, hb, hml, hown, hts⟩ (r_readOne6 l D ρ ws_951 ty_952 adK adV fo rd krd tp ktp cd bb tl  H.size (⟨s_971, e_972, cc_127, ra_128, rb_129, rc_130, rv_131, re_132, nI k_970, by omega, by omega, by omega, by omega, e_956, e_976, wr_140, wt_141, ⟨k_142, c9_143, t_144, f_965, e_964, u_966, w_148⟩, ⟨k_149, c9_150, t_151, f_968, e_967, u_969, w_155⟩⟩ : RS ρ ws_951 ty_952 rd krd tp ktp cd bb tl)) (cwV 1 hts gX4_readEither_X4_readOne rfl rfl rfl (by decide +kernel) ⟨Nat.le_of_ble_eq_true rfl, Nat.le_of_ble_eq_true rfl⟩) ⟨fun a U g mk q => by obtain ⟨q0, q1, qP, qK, qD, qS⟩ := q; exact ⟨q0, q1, qP, va_K.moved (u := U) (U := U.calling g mk a) (Vm.Alike.refl U.vm) qK, qD, SZ.same rfl rfl qS⟩, va_recv hK hP (ci := 4) (q0 := krd) rfl e_956, fun U hU hW => ⟨rfl, by rw [hU], by rw [hU]; exact hP, va_K.moved hW.alike hK, hD.weaken (fun _ _ _ _ => trivial), hsz9.go hS hW hU hFc⟩⟩ rfl rfl hl.1 rfl (lv_room (Nat.le_of_ble_eq_true rfl)) dX4_readEither_80 ⟨Nat.le_of_ble_eq_true rfl, Nat.le_of_ble_eq_true rfl⟩) hS (fun q _ h => hFc q h) hFc (fun r_977 u t H1 locs ht hvm w_978 hB hz1 hk1 hS => ?_)
  obtain ⟨ws_979, ty_980, hm_981, ht_983, hP1, hK1, hD1, hx_982⟩ := hB
  rw [ht] at hP1
  have hK := va_K.moved hvm.symm hK1
  have hD := hD1.weaken (fun _ _ _ h => hFc _ h)
  generalize H1 = H at hP1 hS ⊢
  have hP := hP1
  obtain ⟨g_985, e_984, h_986⟩ := hm_981.obj e_956
  obtain ⟨z_987, z_988, z_989, z_990, z_991, z_992, rfl⟩ := smX4 h_986
  obtain ⟨g_994, e_993, h_995⟩ := hm_981.obj e_976
  obtain ⟨z_996, z_997, z_998, z_999, rfl⟩ := smX6 h_995
  obtain ⟨f_1001, e_1000⟩ := hm_981.arrI e_964
  have u_1002 := ht_983 _ _ u_966
  obtain ⟨f_1004, e_1003⟩ := hm_981.arrI e_967
  have u_1005 := ht_983 _ _ u_969
  have hsm := hsm.tr (hm_981.mono (by decide))
  have hlp_101 := hlp_101.tr (hm_981.mono (by decide))
  have htx := htx.tr ht_983
  obtain ⟨ts_1006, te_1007, cc_1008, ra_1009, rb_1010, rc_1011, rv_1012, re_1013, ya_1014, h1_1015, h2_1016, h3_1017, h4_1018, er_1019, et_1020, wr_1021, wt_1022, ⟨k_1023, c9_1024, t_1025, f_1026, e_1027, u_1028, w_1029⟩, ⟨k_1030, c9_1031, t_1032, f_1033, e_1034, u_1035, w_1036⟩⟩ := id hx_982
  refine lv_istore_n (lv' := [(2, .int r_977), (3, .int 0), (5, .int 1), (4, .int (nI i_93)), (1, .int 6), (0, .ref rd)]) hx hb dX4_readEither_83 rfl hl (by decide) rfl (fun ls hl => ?_)
  refine lv_iload hx hb dX4_readEither_84 (lv_at hl 2 rfl) ?_
  refine lv_if_eq (tgt := 95) hx hb dX4_readEither_86 (by decide) (fun c_1037 => absurd c_1037 (by decide)) (fun c_1037 => ?_)
  refine lv_aload_n hx hb dX4_readEither_89 rfl (lv_at hl 5 rfl) ?_
  refine lv_bipush (v := (-2)) hx hb dX4_readEither_90 (by decide) ?_
  have hFc := free_all hD hS hA
  refine va_callv (va_runV (As := [.int (-2)]) (rest := []) ⟨hx, hb, hml, hown, hts⟩ (r_addCode l D ρ ws_979 ty_980 adK adV fo rd krd tp ktp cd bb tl (-2) H.size (⟨ts_1006, te_1007, cc_1008, ra_1009, rb_1010, rc_1011, rv_1012, re_1013, ya_1014, by omega, by omega, by omega, by omega, er_1019, et_1020, wr_1021, wt_1022, ⟨k_1023, c9_1024, t_1025, f_1026, e_1027, u_1028, w_1029⟩, ⟨k_1030, c9_1031, t_1032, f_1033, e_1034, u_1035, w_1036⟩⟩ : RS ρ ws_979 ty_980 rd krd tp ktp cd bb tl)) (cwV 1 hts gX4_readEither_X4_addCode rfl rfl rfl (by decide +kernel) ⟨Nat.le_of_ble_eq_true rfl, Nat.le_of_ble_eq_true rfl⟩) ⟨fun a U g mk q => by obtain ⟨q0, q1, qP, qK, qD, qS⟩ := q; exact ⟨q0, q1, qP, va_K.moved (u := U) (U := U.calling g mk a) (Vm.Alike.refl U.vm) qK, qD, SZ.same rfl rfl qS⟩, va_recv hK hP (ci := 4) (q0 := krd) rfl er_1019, fun U hU hW => ⟨rfl, by rw [hU], by rw [hU]; exact hP, va_K.moved hW.alike hK, hD.weaken (fun _ _ _ _ => trivial), hsz9.go hS hW hU hFc⟩⟩ rfl rfl hl.1 rfl (lv_room (Nat.le_of_ble_eq_true rfl)) dX4_readEither_92 ⟨Nat.le_of_ble_eq_true rfl, Nat.le_of_ble_eq_true rfl⟩) hS (fun q _ h => hFc q h) hFc (fun u t H1 locs ht hvm w_1039 hB hz1 hk1 hS => ?_)
  obtain ⟨ws_1040, ty_1041, hm_1042, ht_1044, hP1, hK1, hD1, hx_1043⟩ := hB
  rw [ht] at hP1
  have hK := va_K.moved hvm.symm hK1
  have hD := hD1.weaken (fun _ _ _ h => hFc _ h)
  generalize H1 = H at hP1 hS ⊢
  have hP := hP1
  obtain ⟨g_1046, e_1045, h_1047⟩ := hm_1042.obj er_1019
  obtain ⟨z_1048, z_1049, z_1050, z_1051, z_1052, z_1053, rfl⟩ := smX4 h_1047
  obtain ⟨g_1055, e_1054, h_1056⟩ := hm_1042.obj et_1020
  obtain ⟨z_1057, z_1058, z_1059, z_1060, rfl⟩ := smX6 h_1056
  obtain ⟨f_1062, e_1061⟩ := hm_1042.arrI e_1027
  have u_1063 := ht_1044 _ _ u_1028
  obtain ⟨f_1065, e_1064⟩ := hm_1042.arrI e_1034
  have u_1066 := ht_1044 _ _ u_1035
  have hsm := hsm.tr (hm_1042.mono (by decide))
  have hlp_101 := hlp_101.tr (hm_1042.mono (by decide))
  have htx := htx.tr ht_1044
  obtain ⟨ts_1067, te_1068, cc_1069, ra_1070, rb_1071, rc_1072, rv_1073, re_1074, ya_1075, h1_1076, h2_1077, h3_1078, h4_1079, er_1080, et_1081, wr_1082, wt_1083, ⟨k_1084, c9_1085, t_1086, f_1087, e_1088, u_1089, w_1090⟩, ⟨k_1091, c9_1092, t_1093, f_1094, e_1095, u_1096, w_1097⟩⟩ := id hx_1043
  refine lv_iinc (v := nI (i_93 + 1)) (lv' := [(4, .int (nI (i_93 + 1))), (2, .int r_977), (3, .int 0), (5, .int 1), (1, .int 6), (0, .ref rd)]) hx hb dX4_readEither_95 hl (k := 3) rfl (nI_add i_93 1) (by decide) rfl (fun ls hl => ?_)
  refine lv_goto (tgt := 11) hx hb dX4_readEither_98 (by decide) ?_
  exact ih_92 (i_93 + 1, r_977, 0) ws_1040 _ _ ls (by show 400 - (i_93 + 1) < 400 - i_93; omega) ⟨hlp_101, ⟨ty_1041, hK, htx, (⟨ts_1067, te_1068, cc_1069, ra_1070, rb_1071, rc_1072, rv_1073, re_1074, ya_1075, by omega, by omega, by omega, by omega, er_1080, et_1081, wr_1082, wt_1083, ⟨k_1084, c9_1085, t_1086, f_1087, e_1088, u_1089, w_1090⟩, ⟨k_1091, c9_1092, t_1093, f_1094, e_1095, u_1096, w_1097⟩⟩ : RS ρ ws_1040 ty_1041 rd krd tp ktp cd bb tl)⟩, (show (i_93 + 1) ≤ 400 from by omega), (show r_977 = 0 ∨ r_977 = 1 from w_978), (show 0 = 0 ∨ 0 = 1 from Or.inl rfl)⟩ hP hD hS (lv_sub hl [0, 1, 2, 4, 5] rfl)
set_option maxHeartbeats 4000000 in
set_option maxRecDepth 100000 in
theorem r_readOne5 (l : Launch) (D : va_G) (ρ : Nat → Nat) (ws : va_W) (tys : List (ClassId × FieldType)) (adK adV : Nat → Nat) (fo : Option Nat) (rd krd tp ktp cd bb tl : Nat)  (sz : Nat) (R0 : RS ρ ws tys rd krd tp ktp cd bb tl)  : Met l yX4_readOne wsX4_readOne ({ frames := 9, cells := 0, slots := 0, locals := 197 }) (va_Pc [.ref rd, .int 5] (fun U => U.heap.size = sz ∧ va_P D vwCl ws U.heap ∧ va_K D vwCl tys U ∧ va_D (fun _ => True) ws ∧ SZ adK adV fo (va_A ws sz) U U.heap)) (va_Qi (fun (r : Int32) (_ : Unit) => r = 0 ∨ r = 1) (fun (_ : Unit) (t : State) => ∃ (ws' : va_W) (tys' : List (ClassId × FieldType)), sm ρ [4, 6] ws ws' ∧ tyx tys tys' ∧ va_P D vwCl ws' t.heap ∧ va_K D vwCl tys' t ∧ va_D (va_A ws sz) ws' ∧ (RS ρ ws' tys' rd krd tp ktp cd bb tl)) (va_A ws sz)) 0 0 (va_A ws sz) := by
  refine Met.ofW (cc := cX4_readOne) (maxL := 4) (ret := (some .boolean)) (by decide) rfl ?_
  intro p e s m args below meth c s₁ B hml hv
  obtain ⟨rfl, hsz, hP, hK, hD0, hsz9⟩ := hv
  have hx := B.exec
  have hb := B.bytes
  have hr := B.returns
  have hts := atoms_spec (ws := wsX4_readOne) B.pre
  have hown : s.vm.findClass RX4 = some m.cls := findClass_of_methodNamed B.named
  have hlocks := B.notSynchronized
  subst hsz
  have hD := hD0.self (sz := s.heap.size)
  generalize hAe : va_A ws s.heap.size = A at hD hsz9 ⊢
  have hA : ∀ q : Nat, s.heap.size ≤ q → A q := fun q h => by rw [← hAe]; exact Or.inr h
  have hS : va_S A s.heap s.heap [] := va_S.rf
  have hsm : sm ρ [4, 6] ws ws := sm.rf ws
  have htx : tyx tys tys := tyx.rf tys
  have hin4 : ∀ w ∈ u_ws RX4 TX4 8, w ∈ wsX4_readOne := (fun _ h9 => List.mem_cons_of_mem _ (List.mem_append_left _ ((List.mem_append_right _ h9))))
  have hl := lv_entry ([.ref rd, .int 5]) (n := 4) (Nat.le_of_ble_eq_true rfl)
  rw [lg_entry_eq]
  generalize (lg_sl ([.ref rd, .int 5]) ++ List.replicate (4 - (lg_sl ([.ref rd, .int 5])).length) Slot.unset).toArray = ls at hl ⊢
  have hl : lv_has ls 4 [(0, .ref rd), (1, .int 5)] := hl
  obtain ⟨ts_1, te_2, cc_3, ra_4, rb_5, rc_6, rv_7, re_8, ya_9, h1_10, h2_11, h3_12, h4_13, er_14, et_15, wr_16, wt_17, ⟨k_18, c9_19, t_20, f_21, e_22, u_23, w_24⟩, ⟨k_25, c9_26, t_27, f_28, e_29, u_30, w_31⟩⟩ := id R0
  refine lv_aload_n hx hb dX4_readOne_0 rfl (lv_at hl 0 rfl) ?_
  refine va_get (D := D) (ci := 4) (v := .ref tp) (C := RX4) (T := TX4) (N := 8) hx hb hts hin4 hown hK hP krd er_14 rfl 0 (by decide) (hts (.fieldLink RX4 12 "HoneyHouse$RuleReader" "tape" "LHoneyHouse$Tape;") (List.mem_of_getElem? (i := 1) rfl)) (fun _ h9 => h9) rfl dX4_readOne_1 ?_
  refine va_ldcS hx hb hown hsz9.2.2.2.2.2.2.1 dX4_readOne_4 ?_
  have hFc := free_all hD hS hA
  refine va_calli (va_runV (As := [.ref (adK 3)]) (rest := []) ⟨hx, hb, hml, hown, hts⟩ (a_isWord l D ρ ws tys adK adV fo 3 tp ktp tl ya_9 (nI ts_1) (nI te_2) bb k_25 c9_26 t_27 f_28 s.heap.size (by decide) et_15 e_29 u_30) (cwV 1 hts gX4_readOne_X6_isWord rfl rfl rfl (by decide +kernel) ⟨Nat.le_of_ble_eq_true rfl, Nat.le_of_ble_eq_true rfl⟩) ⟨fun a U g mk q => by obtain ⟨q0, q1, qP, qK, qD, qS⟩ := q; exact ⟨q0, q1, qP, va_K.moved (u := U) (U := U.calling g mk a) (Vm.Alike.refl U.vm) qK, qD, SZ.same rfl rfl qS⟩, va_recv hK hP (ci := 6) (q0 := ktp) rfl et_15, fun U hU hW => ⟨rfl, by rw [hU], by rw [hU]; exact hP, va_K.moved hW.alike hK, hD.weaken (fun _ _ _ _ => trivial), hsz9.go hS hW hU hFc⟩⟩ rfl rfl hl.1 rfl (lv_room (Nat.le_of_ble_eq_true rfl)) dX4_readOne_6 ⟨Nat.le_of_ble_eq_true rfl, Nat.le_of_ble_eq_true rfl⟩) hS (fun q _ h => hFc q h) hFc (fun r_32 u t H1 locs ht hvm w_33 hB hz1 hk1 hS => ?_)
  obtain ⟨ws_34, ty_35, hm_36, ht_38, hP1, hK1, hD1, hx_37⟩ := hB
  rw [ht] at hP1
  have hK := va_K.moved hvm.symm hK1
  have hD := hD1.weaken (fun _ _ _ h => hFc _ h)
  generalize H1 = H at hP1 hS ⊢
  have hP := hP1
  have e_39 := hm_36.objK er_14 (by decide)
  have e_40 := hm_36.objK et_15 (by decide)
  obtain ⟨f_42, e_41⟩ := hm_36.arrI e_22
  have u_43 := ht_38 _ _ u_23
  obtain ⟨f_45, e_44⟩ := hm_36.arrI e_29
  have u_46 := ht_38 _ _ u_30
  have hsm := hsm.tr (hm_36.mono (by decide))
  have htx := htx.tr ht_38
  rcases w_33 with rfl | rfl
  · refine lv_istore_n (lv' := [(2, .int 0), (0, .ref rd), (1, .int 5)]) hx hb dX4_readOne_9 rfl hl (by decide) rfl (fun ls hl => ?_)
    refine lv_iload_n hx hb dX4_readOne_10 rfl (lv_at hl 0 rfl) ?_
    refine lv_if_ne (tgt := 31) hx hb dX4_readOne_11 (by decide) (fun c_47 => absurd (by decide) c_47) (fun c_47 => ?_)
    refine lv_aload_n hx hb dX4_readOne_14 rfl (lv_at hl 1 rfl) ?_
    refine va_get (D := D) (ci := 4) (v := .ref tp) (C := RX4) (T := TX4) (N := 8) hx hb hts hin4 hown hK hP krd e_39 rfl 0 (by decide) (hts (.fieldLink RX4 12 "HoneyHouse$RuleReader" "tape" "LHoneyHouse$Tape;") (List.mem_of_getElem? (i := 1) rfl)) (fun _ h9 => h9) rfl dX4_readOne_15 ?_
    refine lv_bipush (v := 40) hx hb dX4_readOne_18 (by decide) ?_
    refine vp_callSi (W.runV (As := [.int 40]) (rest := []) ⟨hx, hb, hml, hown, hts⟩ (s_isByte l D ws_34 ty_35 tp ktp tl ya_9 (nI ts_1) (nI te_2) bb k_25 c9_26 t_27 f_45 40 e_40 e_44 u_46) (cwV 1 hts gX4_readOne_X6_isByte rfl rfl rfl (by decide +kernel) ⟨Nat.le_of_ble_eq_true rfl, Nat.le_of_ble_eq_true rfl⟩) ⟨fun a U g mk q => ⟨q.1, q.2.1, va_K.moved (u := U) (U := U.calling g mk a) (Vm.Alike.refl U.vm) q.2.2⟩, va_recv hK hP (ci := 6) (q0 := ktp) rfl e_40, fun U hU hW => ⟨rfl, by rw [hU]; exact hP, va_K.moved hW.alike hK⟩⟩ rfl rfl hl.1 rfl (lv_room (Nat.le_of_ble_eq_true rfl)) dX4_readOne_20 ⟨Nat.le_of_ble_eq_true rfl, Nat.le_of_ble_eq_true rfl⟩) (fun r_48 k_49 => ?_)
    rcases k_49 with rfl | rfl
    · refine lv_if_ne (tgt := 31) hx hb dX4_readOne_23 (by decide) (fun c_50 => absurd (by decide) c_50) (fun c_50 => ?_)
      refine lv_aload_n hx hb dX4_readOne_26 rfl (lv_at hl 1 rfl) ?_
      have hFc := free_all hD hS hA
      refine va_calli (va_runV (As := []) (rest := []) ⟨hx, hb, hml, hown, hts⟩ (r_readTest l D ρ ws_34 ty_35 adK adV fo rd krd tp ktp cd bb tl  H.size (⟨ts_1, te_2, cc_3, ra_4, rb_5, rc_6, rv_7, re_8, ya_9, by omega, by omega, by omega, by omega, e_39, e_40, wr_16, wt_17, ⟨k_18, c9_19, t_20, f_42, e_41, u_43, w_24⟩, ⟨k_25, c9_26, t_27, f_45, e_44, u_46, w_31⟩⟩ : RS ρ ws_34 ty_35 rd krd tp ktp cd bb tl)) (cwV 0 hts gX4_readOne_X4_readTest rfl rfl rfl (by decide +kernel) ⟨Nat.le_of_ble_eq_true rfl, Nat.le_of_ble_eq_true rfl⟩) ⟨fun a U g mk q => by obtain ⟨q0, q1, qP, qK, qD, qS⟩ := q; exact ⟨q0, q1, qP, va_K.moved (u := U) (U := U.calling g mk a) (Vm.Alike.refl U.vm) qK, qD, SZ.same rfl rfl qS⟩, va_recv hK hP (ci := 4) (q0 := krd) rfl e_39, fun U hU hW => ⟨rfl, by rw [hU], by rw [hU]; exact hP, va_K.moved hW.alike hK, hD.weaken (fun _ _ _ _ => trivial), hsz9.go hS hW hU hFc⟩⟩ rfl rfl hl.1 rfl (lv_room (Nat.le_of_ble_eq_true rfl)) dX4_readOne_27 ⟨Nat.le_of_ble_eq_true rfl, Nat.le_of_ble_eq_true rfl⟩) hS (fun q _ h => hFc q h) hFc (fun r_51 u t H1 locs ht hvm w_52 hB hz1 hk1 hS => ?_)
      obtain ⟨ws_53, ty_54, hm_55, ht_57, hP1, hK1, hD1, hx_56⟩ := hB
      rw [ht] at hP1
      have hK := va_K.moved hvm.symm hK1
      have hD := hD1.weaken (fun _ _ _ h => hFc _ h)
      generalize H1 = H at hP1 hS ⊢
      have hP := hP1
      obtain ⟨g_59, e_58, h_60⟩ := hm_55.obj e_39
      obtain ⟨z_61, z_62, z_63, z_64, z_65, z_66, rfl⟩ := smX4 h_60
      obtain ⟨g_68, e_67, h_69⟩ := hm_55.obj e_40
      obtain ⟨z_70, z_71, z_72, z_73, rfl⟩ := smX6 h_69
      obtain ⟨f_75, e_74⟩ := hm_55.arrI e_41
      have u_76 := ht_57 _ _ u_43
      obtain ⟨f_78, e_77⟩ := hm_55.arrI e_44
      have u_79 := ht_57 _ _ u_46
      have hsm := hsm.tr (hm_55.mono (by decide))
      have htx := htx.tr ht_57
      obtain ⟨ts_80, te_81, cc_82, ra_83, rb_84, rc_85, rv_86, re_87, ya_88, h1_89, h2_90, h3_91, h4_92, er_93, et_94, wr_95, wt_96, ⟨k_97, c9_98, t_99, f_100, e_101, u_102, w_103⟩, ⟨k_104, c9_105, t_106, f_107, e_108, u_109, w_110⟩⟩ := id hx_56
      exact W.zret (v := r_51) hx hb hr (by rcases w_52 with h9 | h9 <;> rw [h9] <;> rfl) (fun t ht hW => ⟨⟨r_51, (), rfl, w_52, ws_53, ty_54, hsm, htx, by rw [ht]; exact hP, va_K.moved hW.alike hK, hD, (⟨ts_80, te_81, cc_82, ra_83, rb_84, rc_85, rv_86, re_87, ya_88, by omega, by omega, by omega, by omega, er_93, et_94, wr_95, wt_96, ⟨k_97, c9_98, t_99, f_100, e_101, u_102, w_103⟩, ⟨k_104, c9_105, t_106, f_107, e_108, u_109, w_110⟩⟩ : RS ρ ws_53 ty_54 rd krd tp ktp cd bb tl)⟩, hS.F ht⟩) hS.2.2 dX4_readOne_30
    refine lv_if_ne (tgt := 31) hx hb dX4_readOne_23 (by decide) (fun c_111 => ?_) (fun c_111 => absurd c_111 (by decide))
    refine lv_iload_n hx hb dX4_readOne_31 rfl (lv_at hl 2 rfl) ?_
    refine lv_bipush (v := 6) hx hb dX4_readOne_32 (by decide) ?_
    refine lv_icmp_lt (tgt := 50) hx hb dX4_readOne_34 (by decide) (fun c_112 => ?_) (fun c_112 => absurd (by decide) c_112)
    refine lv_aload_n hx hb dX4_readOne_50 rfl (lv_at hl 1 rfl) ?_
    refine va_get (D := D) (ci := 4) (v := .ref tp) (C := RX4) (T := TX4) (N := 8) hx hb hts hin4 hown hK hP krd e_39 rfl 0 (by decide) (hts (.fieldLink RX4 12 "HoneyHouse$RuleReader" "tape" "LHoneyHouse$Tape;") (List.mem_of_getElem? (i := 1) rfl)) (fun _ h9 => h9) rfl dX4_readOne_51 ?_
    have hFc := free_all hD hS hA
    refine va_callv (va_runV (As := []) (rest := []) ⟨hx, hb, hml, hown, hts⟩ (a_advance l D ρ ws_34 ty_35 tp ktp tl te_2 ya_9 (nI ts_1) bb k_25 c9_26 t_27 f_45 H.size (by omega) (by omega) e_40 e_44 u_46 wt_17) (cwV 0 hts gX4_readOne_X6_advance rfl rfl rfl (by decide +kernel) ⟨Nat.le_of_ble_eq_true rfl, Nat.le_of_ble_eq_true rfl⟩) ⟨fun a U g mk q => by obtain ⟨q0, q1, qP, qK, qD⟩ := q; exact ⟨q0, q1, qP, va_K.moved (u := U) (U := U.calling g mk a) (Vm.Alike.refl U.vm) qK, qD⟩, va_recv hK hP (ci := 6) (q0 := ktp) rfl e_40, fun U hU hW => ⟨rfl, by rw [hU], by rw [hU]; exact hP, va_K.moved hW.alike hK, hD.weaken (fun _ _ _ _ => trivial)⟩⟩ rfl rfl hl.1 rfl (lv_room (Nat.le_of_ble_eq_true rfl)) dX4_readOne_54 ⟨Nat.le_of_ble_eq_true rfl, Nat.le_of_ble_eq_true rfl⟩) hS (fun q _ h => hFc q h) hFc (fun u t H1 locs ht hvm w_114 hB hz1 hk1 hS => ?_)
    obtain ⟨ws_115, ty_116, hm_117, ht_119, hP1, hK1, hD1, hx_118⟩ := hB
    rw [ht] at hP1
    have hK := va_K.moved hvm.symm hK1
    have hD := hD1.weaken (fun _ _ _ h => hFc _ h)
    generalize H1 = H at hP1 hS ⊢
    have hP := hP1
    have e_120 := hm_117.objK e_39 (by decide)
    obtain ⟨g_122, e_121, h_123⟩ := hm_117.obj e_40
    obtain ⟨z_124, z_125, z_126, z_127, rfl⟩ := smX6 h_123
    obtain ⟨f_129, e_128⟩ := hm_117.arrI e_41
    have u_130 := ht_119 _ _ u_43
    obtain ⟨f_132, e_131⟩ := hm_117.arrI e_44
    have u_133 := ht_119 _ _ u_46
    have hsm := hsm.tr (hm_117.mono (by decide))
    have htx := htx.tr ht_119
    obtain ⟨k_134, s_135, e_136, h_137, h_138, h_139, e_140⟩ := hx_118
    refine lv_iload_n hx hb dX4_readOne_57 rfl (lv_at hl 0 rfl) ?_
    refine lv_if_ne (tgt := 86) hx hb dX4_readOne_58 (by decide) (fun c_141 => absurd (by decide) c_141) (fun c_141 => ?_)
    refine lv_aload_n hx hb dX4_readOne_61 rfl (lv_at hl 1 rfl) ?_
    refine lv_iload_n hx hb dX4_readOne_62 rfl (lv_at hl 2 rfl) ?_
    refine lv_iconst (v := 1) hx hb dX4_readOne_63 (by decide) ?_
    refine lv_iadd hx hb dX4_readOne_64 ?_
    refine tp_i (y := 6) (by decide) ?_
    have hFc := free_all hD hS hA
    refine va_calli (va_runV (As := [.int 6]) (rest := []) ⟨hx, hb, hml, hown, hts⟩ (r_readEither6 l D ρ ws_115 ty_116 adK adV fo rd krd tp ktp cd bb tl  H.size (⟨s_135, e_136, cc_3, ra_4, rb_5, rc_6, rv_7, re_8, nI k_134, by omega, by omega, by omega, by omega, e_120, e_140, wr_16, wt_17, ⟨k_18, c9_19, t_20, f_129, e_128, u_130, w_24⟩, ⟨k_25, c9_26, t_27, f_132, e_131, u_133, w_31⟩⟩ : RS ρ ws_115 ty_116 rd krd tp ktp cd bb tl)) (cwV 1 hts gX4_readOne_X4_readEither rfl rfl rfl (by decide +kernel) ⟨Nat.le_of_ble_eq_true rfl, Nat.le_of_ble_eq_true rfl⟩) ⟨fun a U g mk q => by obtain ⟨q0, q1, qP, qK, qD, qS⟩ := q; exact ⟨q0, q1, qP, va_K.moved (u := U) (U := U.calling g mk a) (Vm.Alike.refl U.vm) qK, qD, SZ.same rfl rfl qS⟩, va_recv hK hP (ci := 4) (q0 := krd) rfl e_120, fun U hU hW => ⟨rfl, by rw [hU], by rw [hU]; exact hP, va_K.moved hW.alike hK, hD.weaken (fun _ _ _ _ => trivial), hsz9.go hS hW hU hFc⟩⟩ rfl rfl hl.1 rfl (lv_room (Nat.le_of_ble_eq_true rfl)) dX4_readOne_65 ⟨Nat.le_of_ble_eq_true rfl, Nat.le_of_ble_eq_true rfl⟩) hS (fun q _ h => hFc q h) hFc (fun r_142 u t H1 locs ht hvm w_143 hB hz1 hk1 hS => ?_)
    obtain ⟨ws_144, ty_145, hm_146, ht_148, hP1, hK1, hD1, hx_147⟩ := hB
    rw [ht] at hP1
    have hK := va_K.moved hvm.symm hK1
    have hD := hD1.weaken (fun _ _ _ h => hFc _ h)
    generalize H1 = H at hP1 hS ⊢
    have hP := hP1
    obtain ⟨g_150, e_149, h_151⟩ := hm_146.obj e_120
    obtain ⟨z_152, z_153, z_154, z_155, z_156, z_157, rfl⟩ := smX4 h_151
    obtain ⟨g_159, e_158, h_160⟩ := hm_146.obj e_140
    obtain ⟨z_161, z_162, z_163, z_164, rfl⟩ := smX6 h_160
    obtain ⟨f_166, e_165⟩ := hm_146.arrI e_128
    have u_167 := ht_148 _ _ u_130
    obtain ⟨f_169, e_168⟩ := hm_146.arrI e_131
    have u_170 := ht_148 _ _ u_133
    have hsm := hsm.tr (hm_146.mono (by decide))
    have htx := htx.tr ht_148
    obtain ⟨ts_171, te_172, cc_173, ra_174, rb_175, rc_176, rv_177, re_178, ya_179, h1_180, h2_181, h3_182, h4_183, er_184, et_185, wr_186, wt_187, ⟨k_188, c9_189, t_190, f_191, e_192, u_193, w_194⟩, ⟨k_195, c9_196, t_197, f_198, e_199, u_200, w_201⟩⟩ := id hx_147
    refine lv_if_eq (tgt := 84) hx hb dX4_readOne_68 (by decide) (fun c_202 => ?_) (fun c_202 => ?_)
    · refine lv_iconst (v := 0) hx hb dX4_readOne_84 (by decide) ?_
      exact W.zret (v := 0) hx hb hr rfl (fun t ht hW => ⟨⟨0, (), rfl, Or.inl rfl, ws_144, ty_145, hsm, htx, by rw [ht]; exact hP, va_K.moved hW.alike hK, hD, (⟨ts_171, te_172, cc_173, ra_174, rb_175, rc_176, rv_177, re_178, ya_179, by omega, by omega, by omega, by omega, er_184, et_185, wr_186, wt_187, ⟨k_188, c9_189, t_190, f_191, e_192, u_193, w_194⟩, ⟨k_195, c9_196, t_197, f_198, e_199, u_200, w_201⟩⟩ : RS ρ ws_144 ty_145 rd krd tp ktp cd bb tl)⟩, hS.F ht⟩) hS.2.2 dX4_readOne_85
    refine lv_aload_n hx hb dX4_readOne_71 rfl (lv_at hl 1 rfl) ?_
    refine lv_bipush (v := 41) hx hb dX4_readOne_72 (by decide) ?_
    have hFc := free_all hD hS hA
    refine va_calli (va_runV (As := [.int 41]) (rest := []) ⟨hx, hb, hml, hown, hts⟩ (r_readByte l D ρ ws_144 ty_145 adK adV fo rd krd tp ktp cd bb tl 41 H.size (⟨ts_171, te_172, cc_173, ra_174, rb_175, rc_176, rv_177, re_178, ya_179, by omega, by omega, by omega, by omega, er_184, et_185, wr_186, wt_187, ⟨k_188, c9_189, t_190, f_191, e_192, u_193, w_194⟩, ⟨k_195, c9_196, t_197, f_198, e_199, u_200, w_201⟩⟩ : RS ρ ws_144 ty_145 rd krd tp ktp cd bb tl)) (cwV 1 hts gX4_readOne_X4_readByte rfl rfl rfl (by decide +kernel) ⟨Nat.le_of_ble_eq_true rfl, Nat.le_of_ble_eq_true rfl⟩) ⟨fun a U g mk q => by obtain ⟨q0, q1, qP, qK, qD, qS⟩ := q; exact ⟨q0, q1, qP, va_K.moved (u := U) (U := U.calling g mk a) (Vm.Alike.refl U.vm) qK, qD, SZ.same rfl rfl qS⟩, va_recv hK hP (ci := 4) (q0 := krd) rfl er_184, fun U hU hW => ⟨rfl, by rw [hU], by rw [hU]; exact hP, va_K.moved hW.alike hK, hD.weaken (fun _ _ _ _ => trivial), hsz9.go hS hW hU hFc⟩⟩ rfl rfl hl.1 rfl (lv_room (Nat.le_of_ble_eq_true rfl)) dX4_readOne_74 ⟨Nat.le_of_ble_eq_true rfl, Nat.le_of_ble_eq_true rfl⟩) hS (fun q _ h => hFc q h) hFc (fun r_203 u t H1 locs ht hvm w_204 hB hz1 hk1 hS => ?_)
    obtain ⟨ws_205, ty_206, hm_207, ht_209, hP1, hK1, hD1, hx_208⟩ := hB
    rw [ht] at hP1
    have hK := va_K.moved hvm.symm hK1
    have hD := hD1.weaken (fun _ _ _ h => hFc _ h)
    generalize H1 = H at hP1 hS ⊢
    have hP := hP1
    obtain ⟨g_211, e_210, h_212⟩ := hm_207.obj er_184
    obtain ⟨z_213, z_214, z_215, z_216, z_217, z_218, rfl⟩ := smX4 h_212
    obtain ⟨g_220, e_219, h_221⟩ := hm_207.obj et_185
    obtain ⟨z_222, z_223, z_224, z_225, rfl⟩ := smX6 h_221
    obtain ⟨f_227, e_226⟩ := hm_207.arrI e_192
    have u_228 := ht_209 _ _ u_193
    obtain ⟨f_230, e_229⟩ := hm_207.arrI e_199
    have u_231 := ht_209 _ _ u_200
    have hsm := hsm.tr (hm_207.mono (by decide))
    have htx := htx.tr ht_209
    obtain ⟨ts_232, te_233, cc_234, ra_235, rb_236, rc_237, rv_238, re_239, ya_240, h1_241, h2_242, h3_243, h4_244, er_245, et_246, wr_247, wt_248, ⟨k_249, c9_250, t_251, f_252, e_253, u_254, w_255⟩, ⟨k_256, c9_257, t_258, f_259, e_260, u_261, w_262⟩⟩ := id hx_208
    rcases w_204 with rfl | rfl
    · refine lv_if_eq (tgt := 84) hx hb dX4_readOne_77 (by decide) (fun c_263 => ?_) (fun c_263 => absurd (by decide) c_263)
      refine lv_iconst (v := 0) hx hb dX4_readOne_84 (by decide) ?_
      exact W.zret (v := 0) hx hb hr rfl (fun t ht hW => ⟨⟨0, (), rfl, Or.inl rfl, ws_205, ty_206, hsm, htx, by rw [ht]; exact hP, va_K.moved hW.alike hK, hD, (⟨ts_232, te_233, cc_234, ra_235, rb_236, rc_237, rv_238, re_239, ya_240, by omega, by omega, by omega, by omega, er_245, et_246, wr_247, wt_248, ⟨k_249, c9_250, t_251, f_252, e_253, u_254, w_255⟩, ⟨k_256, c9_257, t_258, f_259, e_260, u_261, w_262⟩⟩ : RS ρ ws_205 ty_206 rd krd tp ktp cd bb tl)⟩, hS.F ht⟩) hS.2.2 dX4_readOne_85
    refine lv_if_eq (tgt := 84) hx hb dX4_readOne_77 (by decide) (fun c_264 => absurd c_264 (by decide)) (fun c_264 => ?_)
    refine lv_iconst (v := 1) hx hb dX4_readOne_80 (by decide) ?_
    refine lv_goto (tgt := 85) hx hb dX4_readOne_81 (by decide) ?_
    exact W.zret (v := 1) hx hb hr rfl (fun t ht hW => ⟨⟨1, (), rfl, Or.inr rfl, ws_205, ty_206, hsm, htx, by rw [ht]; exact hP, va_K.moved hW.alike hK, hD, (⟨ts_232, te_233, cc_234, ra_235, rb_236, rc_237, rv_238, re_239, ya_240, by omega, by omega, by omega, by omega, er_245, et_246, wr_247, wt_248, ⟨k_249, c9_250, t_251, f_252, e_253, u_254, w_255⟩, ⟨k_256, c9_257, t_258, f_259, e_260, u_261, w_262⟩⟩ : RS ρ ws_205 ty_206 rd krd tp ktp cd bb tl)⟩, hS.F ht⟩) hS.2.2 dX4_readOne_85
  refine lv_istore_n (lv' := [(2, .int 1), (0, .ref rd), (1, .int 5)]) hx hb dX4_readOne_9 rfl hl (by decide) rfl (fun ls hl => ?_)
  refine lv_iload_n hx hb dX4_readOne_10 rfl (lv_at hl 0 rfl) ?_
  refine lv_if_ne (tgt := 31) hx hb dX4_readOne_11 (by decide) (fun c_265 => ?_) (fun c_265 => absurd c_265 (by decide))
  refine lv_iload_n hx hb dX4_readOne_31 rfl (lv_at hl 2 rfl) ?_
  refine lv_bipush (v := 6) hx hb dX4_readOne_32 (by decide) ?_
  refine lv_icmp_lt (tgt := 50) hx hb dX4_readOne_34 (by decide) (fun c_266 => ?_) (fun c_266 => absurd (by decide) c_266)
  refine lv_aload_n hx hb dX4_readOne_50 rfl (lv_at hl 1 rfl) ?_
  refine va_get (D := D) (ci := 4) (v := .ref tp) (C := RX4) (T := TX4) (N := 8) hx hb hts hin4 hown hK hP krd e_39 rfl 0 (by decide) (hts (.fieldLink RX4 12 "HoneyHouse$RuleReader" "tape" "LHoneyHouse$Tape;") (List.mem_of_getElem? (i := 1) rfl)) (fun _ h9 => h9) rfl dX4_readOne_51 ?_
  have hFc := free_all hD hS hA
  refine va_callv (va_runV (As := []) (rest := []) ⟨hx, hb, hml, hown, hts⟩ (a_advance l D ρ ws_34 ty_35 tp ktp tl te_2 ya_9 (nI ts_1) bb k_25 c9_26 t_27 f_45 H.size (by omega) (by omega) e_40 e_44 u_46 wt_17) (cwV 0 hts gX4_readOne_X6_advance rfl rfl rfl (by decide +kernel) ⟨Nat.le_of_ble_eq_true rfl, Nat.le_of_ble_eq_true rfl⟩) ⟨fun a U g mk q => by obtain ⟨q0, q1, qP, qK, qD⟩ := q; exact ⟨q0, q1, qP, va_K.moved (u := U) (U := U.calling g mk a) (Vm.Alike.refl U.vm) qK, qD⟩, va_recv hK hP (ci := 6) (q0 := ktp) rfl e_40, fun U hU hW => ⟨rfl, by rw [hU], by rw [hU]; exact hP, va_K.moved hW.alike hK, hD.weaken (fun _ _ _ _ => trivial)⟩⟩ rfl rfl hl.1 rfl (lv_room (Nat.le_of_ble_eq_true rfl)) dX4_readOne_54 ⟨Nat.le_of_ble_eq_true rfl, Nat.le_of_ble_eq_true rfl⟩) hS (fun q _ h => hFc q h) hFc (fun u t H1 locs ht hvm w_268 hB hz1 hk1 hS => ?_)
  obtain ⟨ws_269, ty_270, hm_271, ht_273, hP1, hK1, hD1, hx_272⟩ := hB
  rw [ht] at hP1
  have hK := va_K.moved hvm.symm hK1
  have hD := hD1.weaken (fun _ _ _ h => hFc _ h)
  generalize H1 = H at hP1 hS ⊢
  have hP := hP1
  have e_274 := hm_271.objK e_39 (by decide)
  obtain ⟨g_276, e_275, h_277⟩ := hm_271.obj e_40
  obtain ⟨z_278, z_279, z_280, z_281, rfl⟩ := smX6 h_277
  obtain ⟨f_283, e_282⟩ := hm_271.arrI e_41
  have u_284 := ht_273 _ _ u_43
  obtain ⟨f_286, e_285⟩ := hm_271.arrI e_44
  have u_287 := ht_273 _ _ u_46
  have hsm := hsm.tr (hm_271.mono (by decide))
  have htx := htx.tr ht_273
  obtain ⟨k_288, s_289, e_290, h_291, h_292, h_293, e_294⟩ := hx_272
  refine lv_iload_n hx hb dX4_readOne_57 rfl (lv_at hl 0 rfl) ?_
  refine lv_if_ne (tgt := 86) hx hb dX4_readOne_58 (by decide) (fun c_295 => ?_) (fun c_295 => absurd c_295 (by decide))
  refine lv_aload_n hx hb dX4_readOne_86 rfl (lv_at hl 1 rfl) ?_
  refine lv_iload_n hx hb dX4_readOne_87 rfl (lv_at hl 2 rfl) ?_
  refine lv_iconst (v := 1) hx hb dX4_readOne_88 (by decide) ?_
  refine lv_iadd hx hb dX4_readOne_89 ?_
  refine tp_i (y := 6) (by decide) ?_
  have hFc := free_all hD hS hA
  refine va_calli (va_runV (As := [.int 6]) (rest := []) ⟨hx, hb, hml, hown, hts⟩ (r_readOne6 l D ρ ws_269 ty_270 adK adV fo rd krd tp ktp cd bb tl  H.size (⟨s_289, e_290, cc_3, ra_4, rb_5, rc_6, rv_7, re_8, nI k_288, by omega, by omega, by omega, by omega, e_274, e_294, wr_16, wt_17, ⟨k_18, c9_19, t_20, f_283, e_282, u_284, w_24⟩, ⟨k_25, c9_26, t_27, f_286, e_285, u_287, w_31⟩⟩ : RS ρ ws_269 ty_270 rd krd tp ktp cd bb tl)) (cwV 1 hts gX4_readOne_X4_readOne rfl rfl rfl (by decide +kernel) ⟨Nat.le_of_ble_eq_true rfl, Nat.le_of_ble_eq_true rfl⟩) ⟨fun a U g mk q => by obtain ⟨q0, q1, qP, qK, qD, qS⟩ := q; exact ⟨q0, q1, qP, va_K.moved (u := U) (U := U.calling g mk a) (Vm.Alike.refl U.vm) qK, qD, SZ.same rfl rfl qS⟩, va_recv hK hP (ci := 4) (q0 := krd) rfl e_274, fun U hU hW => ⟨rfl, by rw [hU], by rw [hU]; exact hP, va_K.moved hW.alike hK, hD.weaken (fun _ _ _ _ => trivial), hsz9.go hS hW hU hFc⟩⟩ rfl rfl hl.1 rfl (lv_room (Nat.le_of_ble_eq_true rfl)) dX4_readOne_90 ⟨Nat.le_of_ble_eq_true rfl, Nat.le_of_ble_eq_true rfl⟩) hS (fun q _ h => hFc q h) hFc (fun r_296 u t H1 locs ht hvm w_297 hB hz1 hk1 hS => ?_)
  obtain ⟨ws_298, ty_299, hm_300, ht_302, hP1, hK1, hD1, hx_301⟩ := hB
  rw [ht] at hP1
  have hK := va_K.moved hvm.symm hK1
  have hD := hD1.weaken (fun _ _ _ h => hFc _ h)
  generalize H1 = H at hP1 hS ⊢
  have hP := hP1
  obtain ⟨g_304, e_303, h_305⟩ := hm_300.obj e_274
  obtain ⟨z_306, z_307, z_308, z_309, z_310, z_311, rfl⟩ := smX4 h_305
  obtain ⟨g_313, e_312, h_314⟩ := hm_300.obj e_294
  obtain ⟨z_315, z_316, z_317, z_318, rfl⟩ := smX6 h_314
  obtain ⟨f_320, e_319⟩ := hm_300.arrI e_282
  have u_321 := ht_302 _ _ u_284
  obtain ⟨f_323, e_322⟩ := hm_300.arrI e_285
  have u_324 := ht_302 _ _ u_287
  have hsm := hsm.tr (hm_300.mono (by decide))
  have htx := htx.tr ht_302
  obtain ⟨ts_325, te_326, cc_327, ra_328, rb_329, rc_330, rv_331, re_332, ya_333, h1_334, h2_335, h3_336, h4_337, er_338, et_339, wr_340, wt_341, ⟨k_342, c9_343, t_344, f_345, e_346, u_347, w_348⟩, ⟨k_349, c9_350, t_351, f_352, e_353, u_354, w_355⟩⟩ := id hx_301
  refine lv_istore_n (lv' := [(3, .int r_296), (2, .int 1), (0, .ref rd), (1, .int 5)]) hx hb dX4_readOne_93 rfl hl (by decide) rfl (fun ls hl => ?_)
  refine lv_aload_n hx hb dX4_readOne_94 rfl (lv_at hl 2 rfl) ?_
  refine lv_iconst (v := (-1)) hx hb dX4_readOne_95 (by decide) ?_
  have hFc := free_all hD hS hA
  refine va_callv (va_runV (As := [.int (-1)]) (rest := []) ⟨hx, hb, hml, hown, hts⟩ (r_addCode l D ρ ws_298 ty_299 adK adV fo rd krd tp ktp cd bb tl (-1) H.size (⟨ts_325, te_326, cc_327, ra_328, rb_329, rc_330, rv_331, re_332, ya_333, by omega, by omega, by omega, by omega, er_338, et_339, wr_340, wt_341, ⟨k_342, c9_343, t_344, f_345, e_346, u_347, w_348⟩, ⟨k_349, c9_350, t_351, f_352, e_353, u_354, w_355⟩⟩ : RS ρ ws_298 ty_299 rd krd tp ktp cd bb tl)) (cwV 1 hts gX4_readOne_X4_addCode rfl rfl rfl (by decide +kernel) ⟨Nat.le_of_ble_eq_true rfl, Nat.le_of_ble_eq_true rfl⟩) ⟨fun a U g mk q => by obtain ⟨q0, q1, qP, qK, qD, qS⟩ := q; exact ⟨q0, q1, qP, va_K.moved (u := U) (U := U.calling g mk a) (Vm.Alike.refl U.vm) qK, qD, SZ.same rfl rfl qS⟩, va_recv hK hP (ci := 4) (q0 := krd) rfl er_338, fun U hU hW => ⟨rfl, by rw [hU], by rw [hU]; exact hP, va_K.moved hW.alike hK, hD.weaken (fun _ _ _ _ => trivial), hsz9.go hS hW hU hFc⟩⟩ rfl rfl hl.1 rfl (lv_room (Nat.le_of_ble_eq_true rfl)) dX4_readOne_96 ⟨Nat.le_of_ble_eq_true rfl, Nat.le_of_ble_eq_true rfl⟩) hS (fun q _ h => hFc q h) hFc (fun u t H1 locs ht hvm w_357 hB hz1 hk1 hS => ?_)
  obtain ⟨ws_358, ty_359, hm_360, ht_362, hP1, hK1, hD1, hx_361⟩ := hB
  rw [ht] at hP1
  have hK := va_K.moved hvm.symm hK1
  have hD := hD1.weaken (fun _ _ _ h => hFc _ h)
  generalize H1 = H at hP1 hS ⊢
  have hP := hP1
  obtain ⟨g_364, e_363, h_365⟩ := hm_360.obj er_338
  obtain ⟨z_366, z_367, z_368, z_369, z_370, z_371, rfl⟩ := smX4 h_365
  obtain ⟨g_373, e_372, h_374⟩ := hm_360.obj et_339
  obtain ⟨z_375, z_376, z_377, z_378, rfl⟩ := smX6 h_374
  obtain ⟨f_380, e_379⟩ := hm_360.arrI e_346
  have u_381 := ht_362 _ _ u_347
  obtain ⟨f_383, e_382⟩ := hm_360.arrI e_353
  have u_384 := ht_362 _ _ u_354
  have hsm := hsm.tr (hm_360.mono (by decide))
  have htx := htx.tr ht_362
  obtain ⟨ts_385, te_386, cc_387, ra_388, rb_389, rc_390, rv_391, re_392, ya_393, h1_394, h2_395, h3_396, h4_397, er_398, et_399, wr_400, wt_401, ⟨k_402, c9_403, t_404, f_405, e_406, u_407, w_408⟩, ⟨k_409, c9_410, t_411, f_412, e_413, u_414, w_415⟩⟩ := id hx_361
  refine lv_iload_n hx hb dX4_readOne_99 rfl (lv_at hl 0 rfl) ?_
  exact W.zret (v := r_296) hx hb hr (by rcases w_297 with h9 | h9 <;> rw [h9] <;> rfl) (fun t ht hW => ⟨⟨r_296, (), rfl, w_297, ws_358, ty_359, hsm, htx, by rw [ht]; exact hP, va_K.moved hW.alike hK, hD, (⟨ts_385, te_386, cc_387, ra_388, rb_389, rc_390, rv_391, re_392, ya_393, by omega, by omega, by omega, by omega, er_398, et_399, wr_400, wt_401, ⟨k_402, c9_403, t_404, f_405, e_406, u_407, w_408⟩, ⟨k_409, c9_410, t_411, f_412, e_413, u_414, w_415⟩⟩ : RS ρ ws_358 ty_359 rd krd tp ktp cd bb tl)⟩, hS.F ht⟩) hS.2.2 dX4_readOne_100
set_option maxHeartbeats 4000000 in
set_option maxRecDepth 100000 in
theorem r_readEither5 (l : Launch) (D : va_G) (ρ : Nat → Nat) (ws : va_W) (tys : List (ClassId × FieldType)) (adK adV : Nat → Nat) (fo : Option Nat) (rd krd tp ktp cd bb tl : Nat)  (sz : Nat) (R0 : RS ρ ws tys rd krd tp ktp cd bb tl)  : Met l yX4_readEither wsX4_readEither ({ frames := 10, cells := 0, slots := 0, locals := 220 }) (va_Pc [.ref rd, .int 5] (fun U => U.heap.size = sz ∧ va_P D vwCl ws U.heap ∧ va_K D vwCl tys U ∧ va_D (fun _ => True) ws ∧ SZ adK adV fo (va_A ws sz) U U.heap)) (va_Qi (fun (r : Int32) (_ : Unit) => r = 0 ∨ r = 1) (fun (_ : Unit) (t : State) => ∃ (ws' : va_W) (tys' : List (ClassId × FieldType)), sm ρ [4, 6] ws ws' ∧ tyx tys tys' ∧ va_P D vwCl ws' t.heap ∧ va_K D vwCl tys' t ∧ va_D (va_A ws sz) ws' ∧ (RS ρ ws' tys' rd krd tp ktp cd bb tl)) (va_A ws sz)) 0 0 (va_A ws sz) := by
  refine Met.ofW (cc := cX4_readEither) (maxL := 6) (ret := (some .boolean)) (by decide) rfl ?_
  intro p e s m args below meth c s₁ B hml hv
  obtain ⟨rfl, hsz, hP, hK, hD0, hsz9⟩ := hv
  have hx := B.exec
  have hb := B.bytes
  have hr := B.returns
  have hts := atoms_spec (ws := wsX4_readEither) B.pre
  have hown : s.vm.findClass RX4 = some m.cls := findClass_of_methodNamed B.named
  have hlocks := B.notSynchronized
  subst hsz
  have hD := hD0.self (sz := s.heap.size)
  generalize hAe : va_A ws s.heap.size = A at hD hsz9 ⊢
  have hA : ∀ q : Nat, s.heap.size ≤ q → A q := fun q h => by rw [← hAe]; exact Or.inr h
  have hS : va_S A s.heap s.heap [] := va_S.rf
  have hsm : sm ρ [4, 6] ws ws := sm.rf ws
  have htx : tyx tys tys := tyx.rf tys
  have hin4 : ∀ w ∈ u_ws RX4 TX4 8, w ∈ wsX4_readEither := (fun _ h9 => List.mem_cons_of_mem _ (List.mem_append_left _ ((List.mem_append_right _ h9))))
  have hl := lv_entry ([.ref rd, .int 5]) (n := 6) (Nat.le_of_ble_eq_true rfl)
  rw [lg_entry_eq]
  generalize (lg_sl ([.ref rd, .int 5]) ++ List.replicate (6 - (lg_sl ([.ref rd, .int 5])).length) Slot.unset).toArray = ls at hl ⊢
  have hl : lv_has ls 6 [(0, .ref rd), (1, .int 5)] := hl
  obtain ⟨ts_1, te_2, cc_3, ra_4, rb_5, rc_6, rv_7, re_8, ya_9, h1_10, h2_11, h3_12, h4_13, er_14, et_15, wr_16, wt_17, ⟨k_18, c9_19, t_20, f_21, e_22, u_23, w_24⟩, ⟨k_25, c9_26, t_27, f_28, e_29, u_30, w_31⟩⟩ := id R0
  refine lv_aload_n hx hb dX4_readEither_0 rfl (lv_at hl 0 rfl) ?_
  refine lv_iload_n hx hb dX4_readEither_1 rfl (lv_at hl 1 rfl) ?_
  have hFc := free_all hD hS hA
  refine va_calli (va_runV (As := [.int 5]) (rest := []) ⟨hx, hb, hml, hown, hts⟩ (r_readOne5 l D ρ ws tys adK adV fo rd krd tp ktp cd bb tl  s.heap.size (⟨ts_1, te_2, cc_3, ra_4, rb_5, rc_6, rv_7, re_8, ya_9, by omega, by omega, by omega, by omega, er_14, et_15, wr_16, wt_17, ⟨k_18, c9_19, t_20, f_21, e_22, u_23, w_24⟩, ⟨k_25, c9_26, t_27, f_28, e_29, u_30, w_31⟩⟩ : RS ρ ws tys rd krd tp ktp cd bb tl)) (cwV 1 hts gX4_readEither_X4_readOne rfl rfl rfl (by decide +kernel) ⟨Nat.le_of_ble_eq_true rfl, Nat.le_of_ble_eq_true rfl⟩) ⟨fun a U g mk q => by obtain ⟨q0, q1, qP, qK, qD, qS⟩ := q; exact ⟨q0, q1, qP, va_K.moved (u := U) (U := U.calling g mk a) (Vm.Alike.refl U.vm) qK, qD, SZ.same rfl rfl qS⟩, va_recv hK hP (ci := 4) (q0 := krd) rfl er_14, fun U hU hW => ⟨rfl, by rw [hU], by rw [hU]; exact hP, va_K.moved hW.alike hK, hD.weaken (fun _ _ _ _ => trivial), hsz9.go hS hW hU hFc⟩⟩ rfl rfl hl.1 rfl (lv_room (Nat.le_of_ble_eq_true rfl)) dX4_readEither_2 ⟨Nat.le_of_ble_eq_true rfl, Nat.le_of_ble_eq_true rfl⟩) hS (fun q _ h => hFc q h) hFc (fun r_32 u t H1 locs ht hvm w_33 hB hz1 hk1 hS => ?_)
  obtain ⟨ws_34, ty_35, hm_36, ht_38, hP1, hK1, hD1, hx_37⟩ := hB
  rw [ht] at hP1
  have hK := va_K.moved hvm.symm hK1
  have hD := hD1.weaken (fun _ _ _ h => hFc _ h)
  generalize H1 = H at hP1 hS ⊢
  have hP := hP1
  obtain ⟨g_40, e_39, h_41⟩ := hm_36.obj er_14
  obtain ⟨z_42, z_43, z_44, z_45, z_46, z_47, rfl⟩ := smX4 h_41
  obtain ⟨g_49, e_48, h_50⟩ := hm_36.obj et_15
  obtain ⟨z_51, z_52, z_53, z_54, rfl⟩ := smX6 h_50
  obtain ⟨f_56, e_55⟩ := hm_36.arrI e_22
  have u_57 := ht_38 _ _ u_23
  obtain ⟨f_59, e_58⟩ := hm_36.arrI e_29
  have u_60 := ht_38 _ _ u_30
  have hsm := hsm.tr (hm_36.mono (by decide))
  have htx := htx.tr ht_38
  obtain ⟨ts_61, te_62, cc_63, ra_64, rb_65, rc_66, rv_67, re_68, ya_69, h1_70, h2_71, h3_72, h4_73, er_74, et_75, wr_76, wt_77, ⟨k_78, c9_79, t_80, f_81, e_82, u_83, w_84⟩, ⟨k_85, c9_86, t_87, f_88, e_89, u_90, w_91⟩⟩ := id hx_37
  refine lv_istore_n (lv' := [(2, .int r_32), (0, .ref rd), (1, .int 5)]) hx hb dX4_readEither_5 rfl hl (by decide) rfl (fun ls hl => ?_)
  refine lv_iconst (v := 0) hx hb dX4_readEither_6 (by decide) ?_
  refine lv_istore_n (lv' := [(3, .int 0), (2, .int r_32), (0, .ref rd), (1, .int 5)]) hx hb dX4_readEither_7 rfl hl (by decide) rfl (fun ls hl => ?_)
  refine lv_iconst (v := 0) hx hb dX4_readEither_8 (by decide) ?_
  refine lv_istore (lv' := [(4, .int 0), (3, .int 0), (2, .int r_32), (0, .ref rd), (1, .int 5)]) hx hb dX4_readEither_9 hl (by decide) rfl (fun ls hl => ?_)
  refine lp_V (nL := 6) (σ := Nat × Int32 × Int32) (lv := fun x9 => [(4, .int (nI x9.1)), (2, .int x9.2.1), (3, .int x9.2.2), (1, .int 5), (0, .ref rd)]) (μ := fun x9 => 400 - x9.1) (J := fun x9 ws9 => sm ρ [4, 6] ws_34 ws9 ∧ (∃ ty9 : List (ClassId × FieldType), va_K D vwCl ty9 s ∧ tyx tys ty9 ∧ RS ρ ws9 ty9 rd krd tp ktp cd bb tl) ∧ (x9.1 ≤ 400) ∧ (x9.2.1 = 0 ∨ x9.2.1 = 1) ∧ (x9.2.2 = 0 ∨ x9.2.2 = 1)) (fun x9 ws_99 H locs ls hj hP hD hS hl ih_92 => ?_) (0, r_32, 0) ws_34 _ _ ls ⟨sm.rf _, ⟨ty_35, hK, htx, (⟨ts_61, te_62, cc_63, ra_64, rb_65, rc_66, rv_67, re_68, ya_69, by omega, by omega, by omega, by omega, er_74, et_75, wr_76, wt_77, ⟨k_78, c9_79, t_80, f_81, e_82, u_83, w_84⟩, ⟨k_85, c9_86, t_87, f_88, e_89, u_90, w_91⟩⟩ : RS ρ ws_34 ty_35 rd krd tp ktp cd bb tl)⟩, (show 0 ≤ 400 from by omega), (show r_32 = 0 ∨ r_32 = 1 from w_33), (show 0 = 0 ∨ 0 = 1 from Or.inl rfl)⟩ hP hD hS (lv_sub hl [0, 2, 1, 4, 3] rfl)
  obtain ⟨i_93, x_94, y_95⟩ := x9
  replace hj : sm ρ [4, 6] ws_34 ws_99 ∧ (∃ ty9 : List (ClassId × FieldType), va_K D vwCl ty9 s ∧ tyx tys ty9 ∧ RS ρ ws_99 ty9 rd krd tp ktp cd bb tl) ∧ (i_93 ≤ 400) ∧ (x_94 = 0 ∨ x_94 = 1) ∧ (y_95 = 0 ∨ y_95 = 1) := hj
  obtain ⟨hm_100, hR_102, hi_96, hbx_97, hby_98⟩ := hj
  obtain ⟨g_104, e_103, h_105⟩ := hm_100.obj er_74
  obtain ⟨z_106, z_107, z_108, z_109, z_110, z_111, rfl⟩ := smX4 h_105
  obtain ⟨g_113, e_112, h_114⟩ := hm_100.obj et_75
  obtain ⟨z_115, z_116, z_117, z_118, rfl⟩ := smX6 h_114
  obtain ⟨f_120, e_119⟩ := hm_100.arrI e_82
  obtain ⟨f_122, e_121⟩ := hm_100.arrI e_89
  have hsm := hsm.tr (hm_100.mono (by decide))
  obtain ⟨ty_123, hK, htx, hR_124⟩ := hR_102
  obtain ⟨ts_125, te_126, cc_127, ra_128, rb_129, rc_130, rv_131, re_132, ya_133, h1_134, h2_135, h3_136, h4_137, er_138, et_139, wr_140, wt_141, ⟨k_142, c9_143, t_144, f_145, e_146, u_147, w_148⟩, ⟨k_149, c9_150, t_151, f_152, e_153, u_154, w_155⟩⟩ := id hR_124
  have hlp_101 := hm_100
  have hl : lv_has ls 6 [(4, .int (nI i_93)), (2, .int x_94), (3, .int y_95), (1, .int 5), (0, .ref rd)] := hl
  refine lv_iload hx hb dX4_readEither_11 (lv_at hl 0 rfl) ?_
  refine lv_sipush (v := 400) hx hb dX4_readEither_13 (by decide) ?_
  refine lv_icmp_ge (tgt := 101) hx hb dX4_readEither_16 (by decide) (fun c_156 => ?_) (fun c_156 => ?_)
  · have d_157 := n_le (a := 400) (b := i_93) (by omega) (by omega) c_156
    refine lv_iload_n hx hb dX4_readEither_101 rfl (lv_at hl 2 rfl) ?_
    refine lv_if_eq (tgt := 111) hx hb dX4_readEither_102 (by decide) (fun c_158 => ?_) (fun c_158 => ?_)
    · refine lv_iload_n hx hb dX4_readEither_111 rfl (lv_at hl 1 rfl) ?_
      exact W.zret (v := x_94) hx hb hr (by rcases hbx_97 with h9 | h9 <;> rw [h9] <;> rfl) (fun t ht hW => ⟨⟨x_94, (), rfl, hbx_97, ws_99, ty_123, hsm, htx, by rw [ht]; exact hP, va_K.moved hW.alike hK, hD, (⟨ts_125, te_126, cc_127, ra_128, rb_129, rc_130, rv_131, re_132, ya_133, by omega, by omega, by omega, by omega, er_138, et_139, wr_140, wt_141, ⟨k_142, c9_143, t_144, f_145, e_146, u_147, w_148⟩, ⟨k_149, c9_150, t_151, f_152, e_153, u_154, w_155⟩⟩ : RS ρ ws_99 ty_123 rd krd tp ktp cd bb tl)⟩, hS.F ht⟩) hS.2.2 dX4_readEither_112
    refine lv_aload_n hx hb dX4_readEither_105 rfl (lv_at hl 4 rfl) ?_
    refine lv_bipush (v := (-3)) hx hb dX4_readEither_106 (by decide) ?_
    have hFc := free_all hD hS hA
    refine va_callv (va_runV (As := [.int (-3)]) (rest := []) ⟨hx, hb, hml, hown, hts⟩ (r_addCode l D ρ ws_99 ty_123 adK adV fo rd krd tp ktp cd bb tl (-3) H.size (⟨ts_125, te_126, cc_127, ra_128, rb_129, rc_130, rv_131, re_132, ya_133, by omega, by omega, by omega, by omega, er_138, et_139, wr_140, wt_141, ⟨k_142, c9_143, t_144, f_145, e_146, u_147, w_148⟩, ⟨k_149, c9_150, t_151, f_152, e_153, u_154, w_155⟩⟩ : RS ρ ws_99 ty_123 rd krd tp ktp cd bb tl)) (cwV 1 hts gX4_readEither_X4_addCode rfl rfl rfl (by decide +kernel) ⟨Nat.le_of_ble_eq_true rfl, Nat.le_of_ble_eq_true rfl⟩) ⟨fun a U g mk q => by obtain ⟨q0, q1, qP, qK, qD, qS⟩ := q; exact ⟨q0, q1, qP, va_K.moved (u := U) (U := U.calling g mk a) (Vm.Alike.refl U.vm) qK, qD, SZ.same rfl rfl qS⟩, va_recv hK hP (ci := 4) (q0 := krd) rfl er_138, fun U hU hW => ⟨rfl, by rw [hU], by rw [hU]; exact hP, va_K.moved hW.alike hK, hD.weaken (fun _ _ _ _ => trivial), hsz9.go hS hW hU hFc⟩⟩ rfl rfl hl.1 rfl (lv_room (Nat.le_of_ble_eq_true rfl)) dX4_readEither_108 ⟨Nat.le_of_ble_eq_true rfl, Nat.le_of_ble_eq_true rfl⟩) hS (fun q _ h => hFc q h) hFc (fun u t H1 locs ht hvm w_160 hB hz1 hk1 hS => ?_)
    obtain ⟨ws_161, ty_162, hm_163, ht_165, hP1, hK1, hD1, hx_164⟩ := hB
    rw [ht] at hP1
    have hK := va_K.moved hvm.symm hK1
    have hD := hD1.weaken (fun _ _ _ h => hFc _ h)
    generalize H1 = H at hP1 hS ⊢
    have hP := hP1
    obtain ⟨g_167, e_166, h_168⟩ := hm_163.obj er_138
    obtain ⟨z_169, z_170, z_171, z_172, z_173, z_174, rfl⟩ := smX4 h_168
    obtain ⟨g_176, e_175, h_177⟩ := hm_163.obj et_139
    obtain ⟨z_178, z_179, z_180, z_181, rfl⟩ := smX6 h_177
    obtain ⟨f_183, e_182⟩ := hm_163.arrI e_146
    have u_184 := ht_165 _ _ u_147
    obtain ⟨f_186, e_185⟩ := hm_163.arrI e_153
    have u_187 := ht_165 _ _ u_154
    have hsm := hsm.tr (hm_163.mono (by decide))
    have hlp_101 := hlp_101.tr (hm_163.mono (by decide))
    have htx := htx.tr ht_165
    obtain ⟨ts_188, te_189, cc_190, ra_191, rb_192, rc_193, rv_194, re_195, ya_196, h1_197, h2_198, h3_199, h4_200, er_201, et_202, wr_203, wt_204, ⟨k_205, c9_206, t_207, f_208, e_209, u_210, w_211⟩, ⟨k_212, c9_213, t_214, f_215, e_216, u_217, w_218⟩⟩ := id hx_164
    refine lv_iload_n hx hb dX4_readEither_111 rfl (lv_at hl 1 rfl) ?_
    exact W.zret (v := x_94) hx hb hr (by rcases hbx_97 with h9 | h9 <;> rw [h9] <;> rfl) (fun t ht hW => ⟨⟨x_94, (), rfl, hbx_97, ws_161, ty_162, hsm, htx, by rw [ht]; exact hP, va_K.moved hW.alike hK, hD, (⟨ts_188, te_189, cc_190, ra_191, rb_192, rc_193, rv_194, re_195, ya_196, by omega, by omega, by omega, by omega, er_201, et_202, wr_203, wt_204, ⟨k_205, c9_206, t_207, f_208, e_209, u_210, w_211⟩, ⟨k_212, c9_213, t_214, f_215, e_216, u_217, w_218⟩⟩ : RS ρ ws_161 ty_162 rd krd tp ktp cd bb tl)⟩, hS.F ht⟩) hS.2.2 dX4_readEither_112
  have d_219 := n_nle (a := 400) (b := i_93) (by omega) (by omega) c_156
  refine lv_iload_n hx hb dX4_readEither_19 rfl (lv_at hl 1 rfl) ?_
  refine lv_if_eq (tgt := 101) hx hb dX4_readEither_20 (by decide) (fun c_220 => ?_) (fun c_220 => ?_)
  · refine lv_iload_n hx hb dX4_readEither_101 rfl (lv_at hl 2 rfl) ?_
    refine lv_if_eq (tgt := 111) hx hb dX4_readEither_102 (by decide) (fun c_221 => ?_) (fun c_221 => ?_)
    · refine lv_iload_n hx hb dX4_readEither_111 rfl (lv_at hl 1 rfl) ?_
      exact W.zret (v := x_94) hx hb hr (by rcases hbx_97 with h9 | h9 <;> rw [h9] <;> rfl) (fun t ht hW => ⟨⟨x_94, (), rfl, hbx_97, ws_99, ty_123, hsm, htx, by rw [ht]; exact hP, va_K.moved hW.alike hK, hD, (⟨ts_125, te_126, cc_127, ra_128, rb_129, rc_130, rv_131, re_132, ya_133, by omega, by omega, by omega, by omega, er_138, et_139, wr_140, wt_141, ⟨k_142, c9_143, t_144, f_145, e_146, u_147, w_148⟩, ⟨k_149, c9_150, t_151, f_152, e_153, u_154, w_155⟩⟩ : RS ρ ws_99 ty_123 rd krd tp ktp cd bb tl)⟩, hS.F ht⟩) hS.2.2 dX4_readEither_112
    refine lv_aload_n hx hb dX4_readEither_105 rfl (lv_at hl 4 rfl) ?_
    refine lv_bipush (v := (-3)) hx hb dX4_readEither_106 (by decide) ?_
    have hFc := free_all hD hS hA
    refine va_callv (va_runV (As := [.int (-3)]) (rest := []) ⟨hx, hb, hml, hown, hts⟩ (r_addCode l D ρ ws_99 ty_123 adK adV fo rd krd tp ktp cd bb tl (-3) H.size (⟨ts_125, te_126, cc_127, ra_128, rb_129, rc_130, rv_131, re_132, ya_133, by omega, by omega, by omega, by omega, er_138, et_139, wr_140, wt_141, ⟨k_142, c9_143, t_144, f_145, e_146, u_147, w_148⟩, ⟨k_149, c9_150, t_151, f_152, e_153, u_154, w_155⟩⟩ : RS ρ ws_99 ty_123 rd krd tp ktp cd bb tl)) (cwV 1 hts gX4_readEither_X4_addCode rfl rfl rfl (by decide +kernel) ⟨Nat.le_of_ble_eq_true rfl, Nat.le_of_ble_eq_true rfl⟩) ⟨fun a U g mk q => by obtain ⟨q0, q1, qP, qK, qD, qS⟩ := q; exact ⟨q0, q1, qP, va_K.moved (u := U) (U := U.calling g mk a) (Vm.Alike.refl U.vm) qK, qD, SZ.same rfl rfl qS⟩, va_recv hK hP (ci := 4) (q0 := krd) rfl er_138, fun U hU hW => ⟨rfl, by rw [hU], by rw [hU]; exact hP, va_K.moved hW.alike hK, hD.weaken (fun _ _ _ _ => trivial), hsz9.go hS hW hU hFc⟩⟩ rfl rfl hl.1 rfl (lv_room (Nat.le_of_ble_eq_true rfl)) dX4_readEither_108 ⟨Nat.le_of_ble_eq_true rfl, Nat.le_of_ble_eq_true rfl⟩) hS (fun q _ h => hFc q h) hFc (fun u t H1 locs ht hvm w_223 hB hz1 hk1 hS => ?_)
    obtain ⟨ws_224, ty_225, hm_226, ht_228, hP1, hK1, hD1, hx_227⟩ := hB
    rw [ht] at hP1
    have hK := va_K.moved hvm.symm hK1
    have hD := hD1.weaken (fun _ _ _ h => hFc _ h)
    generalize H1 = H at hP1 hS ⊢
    have hP := hP1
    obtain ⟨g_230, e_229, h_231⟩ := hm_226.obj er_138
    obtain ⟨z_232, z_233, z_234, z_235, z_236, z_237, rfl⟩ := smX4 h_231
    obtain ⟨g_239, e_238, h_240⟩ := hm_226.obj et_139
    obtain ⟨z_241, z_242, z_243, z_244, rfl⟩ := smX6 h_240
    obtain ⟨f_246, e_245⟩ := hm_226.arrI e_146
    have u_247 := ht_228 _ _ u_147
    obtain ⟨f_249, e_248⟩ := hm_226.arrI e_153
    have u_250 := ht_228 _ _ u_154
    have hsm := hsm.tr (hm_226.mono (by decide))
    have hlp_101 := hlp_101.tr (hm_226.mono (by decide))
    have htx := htx.tr ht_228
    obtain ⟨ts_251, te_252, cc_253, ra_254, rb_255, rc_256, rv_257, re_258, ya_259, h1_260, h2_261, h3_262, h4_263, er_264, et_265, wr_266, wt_267, ⟨k_268, c9_269, t_270, f_271, e_272, u_273, w_274⟩, ⟨k_275, c9_276, t_277, f_278, e_279, u_280, w_281⟩⟩ := id hx_227
    refine lv_iload_n hx hb dX4_readEither_111 rfl (lv_at hl 1 rfl) ?_
    exact W.zret (v := x_94) hx hb hr (by rcases hbx_97 with h9 | h9 <;> rw [h9] <;> rfl) (fun t ht hW => ⟨⟨x_94, (), rfl, hbx_97, ws_224, ty_225, hsm, htx, by rw [ht]; exact hP, va_K.moved hW.alike hK, hD, (⟨ts_251, te_252, cc_253, ra_254, rb_255, rc_256, rv_257, re_258, ya_259, by omega, by omega, by omega, by omega, er_264, et_265, wr_266, wt_267, ⟨k_268, c9_269, t_270, f_271, e_272, u_273, w_274⟩, ⟨k_275, c9_276, t_277, f_278, e_279, u_280, w_281⟩⟩ : RS ρ ws_224 ty_225 rd krd tp ktp cd bb tl)⟩, hS.F ht⟩) hS.2.2 dX4_readEither_112
  refine lv_aload_n hx hb dX4_readEither_23 rfl (lv_at hl 4 rfl) ?_
  have hFc := free_all hD hS hA
  refine va_calli (va_runV (As := []) (rest := []) ⟨hx, hb, hml, hown, hts⟩ (r_isAndOr l D ρ ws_99 ty_123 adK adV fo rd krd tp ktp cd bb tl  H.size (⟨ts_125, te_126, cc_127, ra_128, rb_129, rc_130, rv_131, re_132, ya_133, by omega, by omega, by omega, by omega, er_138, et_139, wr_140, wt_141, ⟨k_142, c9_143, t_144, f_145, e_146, u_147, w_148⟩, ⟨k_149, c9_150, t_151, f_152, e_153, u_154, w_155⟩⟩ : RS ρ ws_99 ty_123 rd krd tp ktp cd bb tl)) (cwV 0 hts gX4_readEither_X4_isAndOr rfl rfl rfl (by decide +kernel) ⟨Nat.le_of_ble_eq_true rfl, Nat.le_of_ble_eq_true rfl⟩) ⟨fun a U g mk q => by obtain ⟨q0, q1, qP, qK, qD, qS⟩ := q; exact ⟨q0, q1, qP, va_K.moved (u := U) (U := U.calling g mk a) (Vm.Alike.refl U.vm) qK, qD, SZ.same rfl rfl qS⟩, va_recv hK hP (ci := 4) (q0 := krd) rfl er_138, fun U hU hW => ⟨rfl, by rw [hU], by rw [hU]; exact hP, va_K.moved hW.alike hK, hD.weaken (fun _ _ _ _ => trivial), hsz9.go hS hW hU hFc⟩⟩ rfl rfl hl.1 rfl (lv_room (Nat.le_of_ble_eq_true rfl)) dX4_readEither_24 ⟨Nat.le_of_ble_eq_true rfl, Nat.le_of_ble_eq_true rfl⟩) hS (fun q _ h => hFc q h) hFc (fun r_282 u t H1 locs ht hvm w_283 hB hz1 hk1 hS => ?_)
  obtain ⟨ws_284, ty_285, hm_286, ht_288, hP1, hK1, hD1, hx_287⟩ := hB
  rw [ht] at hP1
  have hK := va_K.moved hvm.symm hK1
  have hD := hD1.weaken (fun _ _ _ h => hFc _ h)
  generalize H1 = H at hP1 hS ⊢
  have hP := hP1
  have e_289 := hm_286.objK er_138 (by decide)
  have e_290 := hm_286.objK et_139 (by decide)
  obtain ⟨f_292, e_291⟩ := hm_286.arrI e_146
  have u_293 := ht_288 _ _ u_147
  obtain ⟨f_295, e_294⟩ := hm_286.arrI e_153
  have u_296 := ht_288 _ _ u_154
  have hsm := hsm.tr (hm_286.mono (by decide))
  have hlp_101 := hlp_101.tr (hm_286.mono (by decide))
  have htx := htx.tr ht_288
  rcases w_283 with rfl | rfl
  · refine lv_if_eq (tgt := 101) hx hb dX4_readEither_27 (by decide) (fun c_297 => ?_) (fun c_297 => absurd (by decide) c_297)
    refine lv_iload_n hx hb dX4_readEither_101 rfl (lv_at hl 2 rfl) ?_
    refine lv_if_eq (tgt := 111) hx hb dX4_readEither_102 (by decide) (fun c_298 => ?_) (fun c_298 => ?_)
    · refine lv_iload_n hx hb dX4_readEither_111 rfl (lv_at hl 1 rfl) ?_
      exact W.zret (v := x_94) hx hb hr (by rcases hbx_97 with h9 | h9 <;> rw [h9] <;> rfl) (fun t ht hW => ⟨⟨x_94, (), rfl, hbx_97, ws_284, ty_285, hsm, htx, by rw [ht]; exact hP, va_K.moved hW.alike hK, hD, (⟨ts_125, te_126, cc_127, ra_128, rb_129, rc_130, rv_131, re_132, ya_133, by omega, by omega, by omega, by omega, e_289, e_290, wr_140, wt_141, ⟨k_142, c9_143, t_144, f_292, e_291, u_293, w_148⟩, ⟨k_149, c9_150, t_151, f_295, e_294, u_296, w_155⟩⟩ : RS ρ ws_284 ty_285 rd krd tp ktp cd bb tl)⟩, hS.F ht⟩) hS.2.2 dX4_readEither_112
    refine lv_aload_n hx hb dX4_readEither_105 rfl (lv_at hl 4 rfl) ?_
    refine lv_bipush (v := (-3)) hx hb dX4_readEither_106 (by decide) ?_
    have hFc := free_all hD hS hA
    refine va_callv (va_runV (As := [.int (-3)]) (rest := []) ⟨hx, hb, hml, hown, hts⟩ (r_addCode l D ρ ws_284 ty_285 adK adV fo rd krd tp ktp cd bb tl (-3) H.size (⟨ts_125, te_126, cc_127, ra_128, rb_129, rc_130, rv_131, re_132, ya_133, by omega, by omega, by omega, by omega, e_289, e_290, wr_140, wt_141, ⟨k_142, c9_143, t_144, f_292, e_291, u_293, w_148⟩, ⟨k_149, c9_150, t_151, f_295, e_294, u_296, w_155⟩⟩ : RS ρ ws_284 ty_285 rd krd tp ktp cd bb tl)) (cwV 1 hts gX4_readEither_X4_addCode rfl rfl rfl (by decide +kernel) ⟨Nat.le_of_ble_eq_true rfl, Nat.le_of_ble_eq_true rfl⟩) ⟨fun a U g mk q => by obtain ⟨q0, q1, qP, qK, qD, qS⟩ := q; exact ⟨q0, q1, qP, va_K.moved (u := U) (U := U.calling g mk a) (Vm.Alike.refl U.vm) qK, qD, SZ.same rfl rfl qS⟩, va_recv hK hP (ci := 4) (q0 := krd) rfl e_289, fun U hU hW => ⟨rfl, by rw [hU], by rw [hU]; exact hP, va_K.moved hW.alike hK, hD.weaken (fun _ _ _ _ => trivial), hsz9.go hS hW hU hFc⟩⟩ rfl rfl hl.1 rfl (lv_room (Nat.le_of_ble_eq_true rfl)) dX4_readEither_108 ⟨Nat.le_of_ble_eq_true rfl, Nat.le_of_ble_eq_true rfl⟩) hS (fun q _ h => hFc q h) hFc (fun u t H1 locs ht hvm w_300 hB hz1 hk1 hS => ?_)
    obtain ⟨ws_301, ty_302, hm_303, ht_305, hP1, hK1, hD1, hx_304⟩ := hB
    rw [ht] at hP1
    have hK := va_K.moved hvm.symm hK1
    have hD := hD1.weaken (fun _ _ _ h => hFc _ h)
    generalize H1 = H at hP1 hS ⊢
    have hP := hP1
    obtain ⟨g_307, e_306, h_308⟩ := hm_303.obj e_289
    obtain ⟨z_309, z_310, z_311, z_312, z_313, z_314, rfl⟩ := smX4 h_308
    obtain ⟨g_316, e_315, h_317⟩ := hm_303.obj e_290
    obtain ⟨z_318, z_319, z_320, z_321, rfl⟩ := smX6 h_317
    obtain ⟨f_323, e_322⟩ := hm_303.arrI e_291
    have u_324 := ht_305 _ _ u_293
    obtain ⟨f_326, e_325⟩ := hm_303.arrI e_294
    have u_327 := ht_305 _ _ u_296
    have hsm := hsm.tr (hm_303.mono (by decide))
    have hlp_101 := hlp_101.tr (hm_303.mono (by decide))
    have htx := htx.tr ht_305
    obtain ⟨ts_328, te_329, cc_330, ra_331, rb_332, rc_333, rv_334, re_335, ya_336, h1_337, h2_338, h3_339, h4_340, er_341, et_342, wr_343, wt_344, ⟨k_345, c9_346, t_347, f_348, e_349, u_350, w_351⟩, ⟨k_352, c9_353, t_354, f_355, e_356, u_357, w_358⟩⟩ := id hx_304
    refine lv_iload_n hx hb dX4_readEither_111 rfl (lv_at hl 1 rfl) ?_
    exact W.zret (v := x_94) hx hb hr (by rcases hbx_97 with h9 | h9 <;> rw [h9] <;> rfl) (fun t ht hW => ⟨⟨x_94, (), rfl, hbx_97, ws_301, ty_302, hsm, htx, by rw [ht]; exact hP, va_K.moved hW.alike hK, hD, (⟨ts_328, te_329, cc_330, ra_331, rb_332, rc_333, rv_334, re_335, ya_336, by omega, by omega, by omega, by omega, er_341, et_342, wr_343, wt_344, ⟨k_345, c9_346, t_347, f_348, e_349, u_350, w_351⟩, ⟨k_352, c9_353, t_354, f_355, e_356, u_357, w_358⟩⟩ : RS ρ ws_301 ty_302 rd krd tp ktp cd bb tl)⟩, hS.F ht⟩) hS.2.2 dX4_readEither_112
  refine lv_if_eq (tgt := 101) hx hb dX4_readEither_27 (by decide) (fun c_359 => absurd c_359 (by decide)) (fun c_359 => ?_)
  refine lv_aload_n hx hb dX4_readEither_30 rfl (lv_at hl 4 rfl) ?_
  refine va_get (D := D) (ci := 4) (v := .ref tp) (C := RX4) (T := TX4) (N := 8) hx hb hts hin4 hown hK hP krd e_289 rfl 0 (by decide) (hts (.fieldLink RX4 12 "HoneyHouse$RuleReader" "tape" "LHoneyHouse$Tape;") (List.mem_of_getElem? (i := 1) rfl)) (fun _ h9 => h9) rfl dX4_readEither_31 ?_
  refine va_ldcS hx hb hown hsz9.2.2.2.2.2.1 dX4_readEither_34 ?_
  have hFc := free_all hD hS hA
  refine va_calli (va_runV (As := [.ref (adK 2)]) (rest := []) ⟨hx, hb, hml, hown, hts⟩ (a_isWord l D ρ ws_284 ty_285 adK adV fo 2 tp ktp tl ya_133 (nI ts_125) (nI te_126) bb k_149 c9_150 t_151 f_295 H.size (by decide) e_290 e_294 u_296) (cwV 1 hts gX4_readEither_X6_isWord rfl rfl rfl (by decide +kernel) ⟨Nat.le_of_ble_eq_true rfl, Nat.le_of_ble_eq_true rfl⟩) ⟨fun a U g mk q => by obtain ⟨q0, q1, qP, qK, qD, qS⟩ := q; exact ⟨q0, q1, qP, va_K.moved (u := U) (U := U.calling g mk a) (Vm.Alike.refl U.vm) qK, qD, SZ.same rfl rfl qS⟩, va_recv hK hP (ci := 6) (q0 := ktp) rfl e_290, fun U hU hW => ⟨rfl, by rw [hU], by rw [hU]; exact hP, va_K.moved hW.alike hK, hD.weaken (fun _ _ _ _ => trivial), hsz9.go hS hW hU hFc⟩⟩ rfl rfl hl.1 rfl (lv_room (Nat.le_of_ble_eq_true rfl)) dX4_readEither_36 ⟨Nat.le_of_ble_eq_true rfl, Nat.le_of_ble_eq_true rfl⟩) hS (fun q _ h => hFc q h) hFc (fun r_360 u t H1 locs ht hvm w_361 hB hz1 hk1 hS => ?_)
  obtain ⟨ws_362, ty_363, hm_364, ht_366, hP1, hK1, hD1, hx_365⟩ := hB
  rw [ht] at hP1
  have hK := va_K.moved hvm.symm hK1
  have hD := hD1.weaken (fun _ _ _ h => hFc _ h)
  generalize H1 = H at hP1 hS ⊢
  have hP := hP1
  have e_367 := hm_364.objK e_289 (by decide)
  have e_368 := hm_364.objK e_290 (by decide)
  obtain ⟨f_370, e_369⟩ := hm_364.arrI e_291
  have u_371 := ht_366 _ _ u_293
  obtain ⟨f_373, e_372⟩ := hm_364.arrI e_294
  have u_374 := ht_366 _ _ u_296
  have hsm := hsm.tr (hm_364.mono (by decide))
  have hlp_101 := hlp_101.tr (hm_364.mono (by decide))
  have htx := htx.tr ht_366
  rcases w_361 with rfl | rfl
  · refine lv_istore (lv' := [(5, .int 0), (4, .int (nI i_93)), (2, .int x_94), (3, .int y_95), (1, .int 5), (0, .ref rd)]) hx hb dX4_readEither_39 hl (by decide) rfl (fun ls hl => ?_)
    refine lv_iload hx hb dX4_readEither_41 (lv_at hl 0 rfl) ?_
    refine lv_if_ne (tgt := 56) hx hb dX4_readEither_43 (by decide) (fun c_375 => absurd (by decide) c_375) (fun c_375 => ?_)
    refine lv_iload_n hx hb dX4_readEither_46 rfl (lv_at hl 3 rfl) ?_
    refine lv_if_eq (tgt := 56) hx hb dX4_readEither_47 (by decide) (fun c_376 => ?_) (fun c_376 => ?_)
    · refine lv_iload_n hx hb dX4_readEither_56 rfl (lv_at hl 3 rfl) ?_
      refine lv_if_ne (tgt := 65) hx hb dX4_readEither_57 (by decide) (fun c_377 => ?_) (fun c_377 => ?_)
      · refine lv_iconst (v := 1) hx hb dX4_readEither_65 (by decide) ?_
        refine lv_goto (tgt := 70) hx hb dX4_readEither_66 (by decide) ?_
        refine lv_istore_n (lv' := [(3, .int 1), (5, .int 0), (4, .int (nI i_93)), (2, .int x_94), (1, .int 5), (0, .ref rd)]) hx hb dX4_readEither_70 rfl hl (by decide) rfl (fun ls hl => ?_)
        refine lv_aload_n hx hb dX4_readEither_71 rfl (lv_at hl 5 rfl) ?_
        refine va_get (D := D) (ci := 4) (v := .ref tp) (C := RX4) (T := TX4) (N := 8) hx hb hts hin4 hown hK hP krd e_367 rfl 0 (by decide) (hts (.fieldLink RX4 12 "HoneyHouse$RuleReader" "tape" "LHoneyHouse$Tape;") (List.mem_of_getElem? (i := 1) rfl)) (fun _ h9 => h9) rfl dX4_readEither_72 ?_
        have hFc := free_all hD hS hA
        refine va_callv (va_runV (As := []) (rest := []) ⟨hx, hb, hml, hown, hts⟩ (a_advance l D ρ ws_362 ty_363 tp ktp tl te_126 ya_133 (nI ts_125) bb k_149 c9_150 t_151 f_373 H.size (by omega) (by omega) e_368 e_372 u_374 wt_141) (cwV 0 hts gX4_readEither_X6_advance rfl rfl rfl (by decide +kernel) ⟨Nat.le_of_ble_eq_true rfl, Nat.le_of_ble_eq_true rfl⟩) ⟨fun a U g mk q => by obtain ⟨q0, q1, qP, qK, qD⟩ := q; exact ⟨q0, q1, qP, va_K.moved (u := U) (U := U.calling g mk a) (Vm.Alike.refl U.vm) qK, qD⟩, va_recv hK hP (ci := 6) (q0 := ktp) rfl e_368, fun U hU hW => ⟨rfl, by rw [hU], by rw [hU]; exact hP, va_K.moved hW.alike hK, hD.weaken (fun _ _ _ _ => trivial)⟩⟩ rfl rfl hl.1 rfl (lv_room (Nat.le_of_ble_eq_true rfl)) dX4_readEither_75 ⟨Nat.le_of_ble_eq_true rfl, Nat.le_of_ble_eq_true rfl⟩) hS (fun q _ h => hFc q h) hFc (fun u t H1 locs ht hvm w_379 hB hz1 hk1 hS => ?_)
        obtain ⟨ws_380, ty_381, hm_382, ht_384, hP1, hK1, hD1, hx_383⟩ := hB
        rw [ht] at hP1
        have hK := va_K.moved hvm.symm hK1
        have hD := hD1.weaken (fun _ _ _ h => hFc _ h)
        generalize H1 = H at hP1 hS ⊢
        have hP := hP1
        have e_385 := hm_382.objK e_367 (by decide)
        obtain ⟨g_387, e_386, h_388⟩ := hm_382.obj e_368
        obtain ⟨z_389, z_390, z_391, z_392, rfl⟩ := smX6 h_388
        obtain ⟨f_394, e_393⟩ := hm_382.arrI e_369
        have u_395 := ht_384 _ _ u_371
        obtain ⟨f_397, e_396⟩ := hm_382.arrI e_372
        have u_398 := ht_384 _ _ u_374
        have hsm := hsm.tr (hm_382.mono (by decide))
        have hlp_101 := hlp_101.tr (hm_382.mono (by decide))
        have htx := htx.tr ht_384
        obtain ⟨k_399, s_400, e_401, h_402, h_403, h_404, e_405⟩ := hx_383
        refine lv_aload_n hx hb dX4_readEither_78 rfl (lv_at hl 5 rfl) ?_
        refine lv_iload_n hx hb dX4_readEither_79 rfl (lv_at hl 4 rfl) ?_
        have hFc := free_all hD hS hA
        refine va_calli (va_runV (As := [.int 5]) (rest := []) ⟨hx, hb, hml, hown, hts⟩ (r_readOne5 l D ρ ws_380 ty_381 adK adV fo rd krd tp ktp cd bb tl  H.size (⟨s_400, e_401, cc_127, ra_128, rb_129, rc_130, rv_131, re_132, nI k_399, by omega, by omega, by omega, by omega, e_385, e_405, wr_140, wt_141, ⟨k_142, c9_143, t_144, f_394, e_393, u_395, w_148⟩, ⟨k_149, c9_150, t_151, f_397, e_396, u_398, w_155⟩⟩ : RS ρ ws_380 ty_381 rd krd tp ktp cd bb tl)) (cwV 1 hts gX4_readEither_X4_readOne rfl rfl rfl (by decide +kernel) ⟨Nat.le_of_ble_eq_true rfl, Nat.le_of_ble_eq_true rfl⟩) ⟨fun a U g mk q => by obtain ⟨q0, q1, qP, qK, qD, qS⟩ := q; exact ⟨q0, q1, qP, va_K.moved (u := U) (U := U.calling g mk a) (Vm.Alike.refl U.vm) qK, qD, SZ.same rfl rfl qS⟩, va_recv hK hP (ci := 4) (q0 := krd) rfl e_385, fun U hU hW => ⟨rfl, by rw [hU], by rw [hU]; exact hP, va_K.moved hW.alike hK, hD.weaken (fun _ _ _ _ => trivial), hsz9.go hS hW hU hFc⟩⟩ rfl rfl hl.1 rfl (lv_room (Nat.le_of_ble_eq_true rfl)) dX4_readEither_80 ⟨Nat.le_of_ble_eq_true rfl, Nat.le_of_ble_eq_true rfl⟩) hS (fun q _ h => hFc q h) hFc (fun r_406 u t H1 locs ht hvm w_407 hB hz1 hk1 hS => ?_)
        obtain ⟨ws_408, ty_409, hm_410, ht_412, hP1, hK1, hD1, hx_411⟩ := hB
        rw [ht] at hP1
        have hK := va_K.moved hvm.symm hK1
        have hD := hD1.weaken (fun _ _ _ h => hFc _ h)
        generalize H1 = H at hP1 hS ⊢
        have hP := hP1
        obtain ⟨g_414, e_413, h_415⟩ := hm_410.obj e_385
        obtain ⟨z_416, z_417, z_418, z_419, z_420, z_421, rfl⟩ := smX4 h_415
        obtain ⟨g_423, e_422, h_424⟩ := hm_410.obj e_405
        obtain ⟨z_425, z_426, z_427, z_428, rfl⟩ := smX6 h_424
        obtain ⟨f_430, e_429⟩ := hm_410.arrI e_393
        have u_431 := ht_412 _ _ u_395
        obtain ⟨f_433, e_432⟩ := hm_410.arrI e_396
        have u_434 := ht_412 _ _ u_398
        have hsm := hsm.tr (hm_410.mono (by decide))
        have hlp_101 := hlp_101.tr (hm_410.mono (by decide))
        have htx := htx.tr ht_412
        obtain ⟨ts_435, te_436, cc_437, ra_438, rb_439, rc_440, rv_441, re_442, ya_443, h1_444, h2_445, h3_446, h4_447, er_448, et_449, wr_450, wt_451, ⟨k_452, c9_453, t_454, f_455, e_456, u_457, w_458⟩, ⟨k_459, c9_460, t_461, f_462, e_463, u_464, w_465⟩⟩ := id hx_411
        refine lv_istore_n (lv' := [(2, .int r_406), (3, .int 1), (5, .int 0), (4, .int (nI i_93)), (1, .int 5), (0, .ref rd)]) hx hb dX4_readEither_83 rfl hl (by decide) rfl (fun ls hl => ?_)
        refine lv_iload hx hb dX4_readEither_84 (lv_at hl 2 rfl) ?_
        refine lv_if_eq (tgt := 95) hx hb dX4_readEither_86 (by decide) (fun c_466 => ?_) (fun c_466 => absurd (by decide) c_466)
        refine lv_iinc (v := nI (i_93 + 1)) (lv' := [(4, .int (nI (i_93 + 1))), (2, .int r_406), (3, .int 1), (5, .int 0), (1, .int 5), (0, .ref rd)]) hx hb dX4_readEither_95 hl (k := 3) rfl (nI_add i_93 1) (by decide) rfl (fun ls hl => ?_)
        refine lv_goto (tgt := 11) hx hb dX4_readEither_98 (by decide) ?_
        exact ih_92 (i_93 + 1, r_406, 1) ws_408 _ _ ls (by show 400 - (i_93 + 1) < 400 - i_93; omega) ⟨hlp_101, ⟨ty_409, hK, htx, (⟨ts_435, te_436, cc_437, ra_438, rb_439, rc_440, rv_441, re_442, ya_443, by omega, by omega, by omega, by omega, er_448, et_449, wr_450, wt_451, ⟨k_452, c9_453, t_454, f_455, e_456, u_457, w_458⟩, ⟨k_459, c9_460, t_461, f_462, e_463, u_464, w_465⟩⟩ : RS ρ ws_408 ty_409 rd krd tp ktp cd bb tl)⟩, (show (i_93 + 1) ≤ 400 from by omega), (show r_406 = 0 ∨ r_406 = 1 from w_407), (show 1 = 0 ∨ 1 = 1 from Or.inr rfl)⟩ hP hD hS (lv_sub hl [0, 1, 2, 4, 5] rfl)
      refine lv_iload hx hb dX4_readEither_60 (lv_at hl 0 rfl) ?_
      refine lv_if_ne (tgt := 69) hx hb dX4_readEither_62 (by decide) (fun c_467 => absurd (by decide) c_467) (fun c_467 => ?_)
      refine lv_iconst (v := 1) hx hb dX4_readEither_65 (by decide) ?_
      refine lv_goto (tgt := 70) hx hb dX4_readEither_66 (by decide) ?_
      refine lv_istore_n (lv' := [(3, .int 1), (5, .int 0), (4, .int (nI i_93)), (2, .int x_94), (1, .int 5), (0, .ref rd)]) hx hb dX4_readEither_70 rfl hl (by decide) rfl (fun ls hl => ?_)
      refine lv_aload_n hx hb dX4_readEither_71 rfl (lv_at hl 5 rfl) ?_
      refine va_get (D := D) (ci := 4) (v := .ref tp) (C := RX4) (T := TX4) (N := 8) hx hb hts hin4 hown hK hP krd e_367 rfl 0 (by decide) (hts (.fieldLink RX4 12 "HoneyHouse$RuleReader" "tape" "LHoneyHouse$Tape;") (List.mem_of_getElem? (i := 1) rfl)) (fun _ h9 => h9) rfl dX4_readEither_72 ?_
      have hFc := free_all hD hS hA
      refine va_callv (va_runV (As := []) (rest := []) ⟨hx, hb, hml, hown, hts⟩ (a_advance l D ρ ws_362 ty_363 tp ktp tl te_126 ya_133 (nI ts_125) bb k_149 c9_150 t_151 f_373 H.size (by omega) (by omega) e_368 e_372 u_374 wt_141) (cwV 0 hts gX4_readEither_X6_advance rfl rfl rfl (by decide +kernel) ⟨Nat.le_of_ble_eq_true rfl, Nat.le_of_ble_eq_true rfl⟩) ⟨fun a U g mk q => by obtain ⟨q0, q1, qP, qK, qD⟩ := q; exact ⟨q0, q1, qP, va_K.moved (u := U) (U := U.calling g mk a) (Vm.Alike.refl U.vm) qK, qD⟩, va_recv hK hP (ci := 6) (q0 := ktp) rfl e_368, fun U hU hW => ⟨rfl, by rw [hU], by rw [hU]; exact hP, va_K.moved hW.alike hK, hD.weaken (fun _ _ _ _ => trivial)⟩⟩ rfl rfl hl.1 rfl (lv_room (Nat.le_of_ble_eq_true rfl)) dX4_readEither_75 ⟨Nat.le_of_ble_eq_true rfl, Nat.le_of_ble_eq_true rfl⟩) hS (fun q _ h => hFc q h) hFc (fun u t H1 locs ht hvm w_469 hB hz1 hk1 hS => ?_)
      obtain ⟨ws_470, ty_471, hm_472, ht_474, hP1, hK1, hD1, hx_473⟩ := hB
      rw [ht] at hP1
      have hK := va_K.moved hvm.symm hK1
      have hD := hD1.weaken (fun _ _ _ h => hFc _ h)
      generalize H1 = H at hP1 hS ⊢
      have hP := hP1
      have e_475 := hm_472.objK e_367 (by decide)
      obtain ⟨g_477, e_476, h_478⟩ := hm_472.obj e_368
      obtain ⟨z_479, z_480, z_481, z_482, rfl⟩ := smX6 h_478
      obtain ⟨f_484, e_483⟩ := hm_472.arrI e_369
      have u_485 := ht_474 _ _ u_371
      obtain ⟨f_487, e_486⟩ := hm_472.arrI e_372
      have u_488 := ht_474 _ _ u_374
      have hsm := hsm.tr (hm_472.mono (by decide))
      have hlp_101 := hlp_101.tr (hm_472.mono (by decide))
      have htx := htx.tr ht_474
      obtain ⟨k_489, s_490, e_491, h_492, h_493, h_494, e_495⟩ := hx_473
      refine lv_aload_n hx hb dX4_readEither_78 rfl (lv_at hl 5 rfl) ?_
      refine lv_iload_n hx hb dX4_readEither_79 rfl (lv_at hl 4 rfl) ?_
      have hFc := free_all hD hS hA
      refine va_calli (va_runV (As := [.int 5]) (rest := []) ⟨hx, hb, hml, hown, hts⟩ (r_readOne5 l D ρ ws_470 ty_471 adK adV fo rd krd tp ktp cd bb tl  H.size (⟨s_490, e_491, cc_127, ra_128, rb_129, rc_130, rv_131, re_132, nI k_489, by omega, by omega, by omega, by omega, e_475, e_495, wr_140, wt_141, ⟨k_142, c9_143, t_144, f_484, e_483, u_485, w_148⟩, ⟨k_149, c9_150, t_151, f_487, e_486, u_488, w_155⟩⟩ : RS ρ ws_470 ty_471 rd krd tp ktp cd bb tl)) (cwV 1 hts gX4_readEither_X4_readOne rfl rfl rfl (by decide +kernel) ⟨Nat.le_of_ble_eq_true rfl, Nat.le_of_ble_eq_true rfl⟩) ⟨fun a U g mk q => by obtain ⟨q0, q1, qP, qK, qD, qS⟩ := q; exact ⟨q0, q1, qP, va_K.moved (u := U) (U := U.calling g mk a) (Vm.Alike.refl U.vm) qK, qD, SZ.same rfl rfl qS⟩, va_recv hK hP (ci := 4) (q0 := krd) rfl e_475, fun U hU hW => ⟨rfl, by rw [hU], by rw [hU]; exact hP, va_K.moved hW.alike hK, hD.weaken (fun _ _ _ _ => trivial), hsz9.go hS hW hU hFc⟩⟩ rfl rfl hl.1 rfl (lv_room (Nat.le_of_ble_eq_true rfl)) dX4_readEither_80 ⟨Nat.le_of_ble_eq_true rfl, Nat.le_of_ble_eq_true rfl⟩) hS (fun q _ h => hFc q h) hFc (fun r_496 u t H1 locs ht hvm w_497 hB hz1 hk1 hS => ?_)
      obtain ⟨ws_498, ty_499, hm_500, ht_502, hP1, hK1, hD1, hx_501⟩ := hB
      rw [ht] at hP1
      have hK := va_K.moved hvm.symm hK1
      have hD := hD1.weaken (fun _ _ _ h => hFc _ h)
      generalize H1 = H at hP1 hS ⊢
      have hP := hP1
      obtain ⟨g_504, e_503, h_505⟩ := hm_500.obj e_475
      obtain ⟨z_506, z_507, z_508, z_509, z_510, z_511, rfl⟩ := smX4 h_505
      obtain ⟨g_513, e_512, h_514⟩ := hm_500.obj e_495
      obtain ⟨z_515, z_516, z_517, z_518, rfl⟩ := smX6 h_514
      obtain ⟨f_520, e_519⟩ := hm_500.arrI e_483
      have u_521 := ht_502 _ _ u_485
      obtain ⟨f_523, e_522⟩ := hm_500.arrI e_486
      have u_524 := ht_502 _ _ u_488
      have hsm := hsm.tr (hm_500.mono (by decide))
      have hlp_101 := hlp_101.tr (hm_500.mono (by decide))
      have htx := htx.tr ht_502
      obtain ⟨ts_525, te_526, cc_527, ra_528, rb_529, rc_530, rv_531, re_532, ya_533, h1_534, h2_535, h3_536, h4_537, er_538, et_539, wr_540, wt_541, ⟨k_542, c9_543, t_544, f_545, e_546, u_547, w_548⟩, ⟨k_549, c9_550, t_551, f_552, e_553, u_554, w_555⟩⟩ := id hx_501
      refine lv_istore_n (lv' := [(2, .int r_496), (3, .int 1), (5, .int 0), (4, .int (nI i_93)), (1, .int 5), (0, .ref rd)]) hx hb dX4_readEither_83 rfl hl (by decide) rfl (fun ls hl => ?_)
      refine lv_iload hx hb dX4_readEither_84 (lv_at hl 2 rfl) ?_
      refine lv_if_eq (tgt := 95) hx hb dX4_readEither_86 (by decide) (fun c_556 => ?_) (fun c_556 => absurd (by decide) c_556)
      refine lv_iinc (v := nI (i_93 + 1)) (lv' := [(4, .int (nI (i_93 + 1))), (2, .int r_496), (3, .int 1), (5, .int 0), (1, .int 5), (0, .ref rd)]) hx hb dX4_readEither_95 hl (k := 3) rfl (nI_add i_93 1) (by decide) rfl (fun ls hl => ?_)
      refine lv_goto (tgt := 11) hx hb dX4_readEither_98 (by decide) ?_
      exact ih_92 (i_93 + 1, r_496, 1) ws_498 _ _ ls (by show 400 - (i_93 + 1) < 400 - i_93; omega) ⟨hlp_101, ⟨ty_499, hK, htx, (⟨ts_525, te_526, cc_527, ra_528, rb_529, rc_530, rv_531, re_532, ya_533, by omega, by omega, by omega, by omega, er_538, et_539, wr_540, wt_541, ⟨k_542, c9_543, t_544, f_545, e_546, u_547, w_548⟩, ⟨k_549, c9_550, t_551, f_552, e_553, u_554, w_555⟩⟩ : RS ρ ws_498 ty_499 rd krd tp ktp cd bb tl)⟩, (show (i_93 + 1) ≤ 400 from by omega), (show r_496 = 0 ∨ r_496 = 1 from w_497), (show 1 = 0 ∨ 1 = 1 from Or.inr rfl)⟩ hP hD hS (lv_sub hl [0, 1, 2, 4, 5] rfl)
    refine lv_aload_n hx hb dX4_readEither_50 rfl (lv_at hl 5 rfl) ?_
    refine lv_bipush (v := (-3)) hx hb dX4_readEither_51 (by decide) ?_
    have hFc := free_all hD hS hA
    refine va_callv (va_runV (As := [.int (-3)]) (rest := []) ⟨hx, hb, hml, hown, hts⟩ (r_addCode l D ρ ws_362 ty_363 adK adV fo rd krd tp ktp cd bb tl (-3) H.size (⟨ts_125, te_126, cc_127, ra_128, rb_129, rc_130, rv_131, re_132, ya_133, by omega, by omega, by omega, by omega, e_367, e_368, wr_140, wt_141, ⟨k_142, c9_143, t_144, f_370, e_369, u_371, w_148⟩, ⟨k_149, c9_150, t_151, f_373, e_372, u_374, w_155⟩⟩ : RS ρ ws_362 ty_363 rd krd tp ktp cd bb tl)) (cwV 1 hts gX4_readEither_X4_addCode rfl rfl rfl (by decide +kernel) ⟨Nat.le_of_ble_eq_true rfl, Nat.le_of_ble_eq_true rfl⟩) ⟨fun a U g mk q => by obtain ⟨q0, q1, qP, qK, qD, qS⟩ := q; exact ⟨q0, q1, qP, va_K.moved (u := U) (U := U.calling g mk a) (Vm.Alike.refl U.vm) qK, qD, SZ.same rfl rfl qS⟩, va_recv hK hP (ci := 4) (q0 := krd) rfl e_367, fun U hU hW => ⟨rfl, by rw [hU], by rw [hU]; exact hP, va_K.moved hW.alike hK, hD.weaken (fun _ _ _ _ => trivial), hsz9.go hS hW hU hFc⟩⟩ rfl rfl hl.1 rfl (lv_room (Nat.le_of_ble_eq_true rfl)) dX4_readEither_53 ⟨Nat.le_of_ble_eq_true rfl, Nat.le_of_ble_eq_true rfl⟩) hS (fun q _ h => hFc q h) hFc (fun u t H1 locs ht hvm w_558 hB hz1 hk1 hS => ?_)
    obtain ⟨ws_559, ty_560, hm_561, ht_563, hP1, hK1, hD1, hx_562⟩ := hB
    rw [ht] at hP1
    have hK := va_K.moved hvm.symm hK1
    have hD := hD1.weaken (fun _ _ _ h => hFc _ h)
    generalize H1 = H at hP1 hS ⊢
    have hP := hP1
    obtain ⟨g_565, e_564, h_566⟩ := hm_561.obj e_367
    obtain ⟨z_567, z_568, z_569, z_570, z_571, z_572, rfl⟩ := smX4 h_566
    obtain ⟨g_574, e_573, h_575⟩ := hm_561.obj e_368
    obtain ⟨z_576, z_577, z_578, z_579, rfl⟩ := smX6 h_575
    obtain ⟨f_581, e_580⟩ := hm_561.arrI e_369
    have u_582 := ht_563 _ _ u_371
    obtain ⟨f_584, e_583⟩ := hm_561.arrI e_372
    have u_585 := ht_563 _ _ u_374
    have hsm := hsm.tr (hm_561.mono (by decide))
    have hlp_101 := hlp_101.tr (hm_561.mono (by decide))
    have htx := htx.tr ht_563
    obtain ⟨ts_586, te_587, cc_588, ra_589, rb_590, rc_591, rv_592, re_593, ya_594, h1_595, h2_596, h3_597, h4_598, er_599, et_600, wr_601, wt_602, ⟨k_603, c9_604, t_605, f_606, e_607, u_608, w_609⟩, ⟨k_610, c9_611, t_612, f_613, e_614, u_615, w_616⟩⟩ := id hx_562
    refine lv_iload_n hx hb dX4_readEither_56 rfl (lv_at hl 3 rfl) ?_
    refine lv_if_ne (tgt := 65) hx hb dX4_readEither_57 (by decide) (fun c_617 => ?_) (fun c_617 => ?_)
    · refine lv_iconst (v := 1) hx hb dX4_readEither_65 (by decide) ?_
      refine lv_goto (tgt := 70) hx hb dX4_readEither_66 (by decide) ?_
      refine lv_istore_n (lv' := [(3, .int 1), (5, .int 0), (4, .int (nI i_93)), (2, .int x_94), (1, .int 5), (0, .ref rd)]) hx hb dX4_readEither_70 rfl hl (by decide) rfl (fun ls hl => ?_)
      refine lv_aload_n hx hb dX4_readEither_71 rfl (lv_at hl 5 rfl) ?_
      refine va_get (D := D) (ci := 4) (v := .ref tp) (C := RX4) (T := TX4) (N := 8) hx hb hts hin4 hown hK hP krd er_599 rfl 0 (by decide) (hts (.fieldLink RX4 12 "HoneyHouse$RuleReader" "tape" "LHoneyHouse$Tape;") (List.mem_of_getElem? (i := 1) rfl)) (fun _ h9 => h9) rfl dX4_readEither_72 ?_
      have hFc := free_all hD hS hA
      refine va_callv (va_runV (As := []) (rest := []) ⟨hx, hb, hml, hown, hts⟩ (a_advance l D ρ ws_559 ty_560 tp ktp tl te_587 ya_594 (nI ts_586) bb k_610 c9_611 t_612 f_613 H.size (by omega) (by omega) et_600 e_614 u_615 wt_602) (cwV 0 hts gX4_readEither_X6_advance rfl rfl rfl (by decide +kernel) ⟨Nat.le_of_ble_eq_true rfl, Nat.le_of_ble_eq_true rfl⟩) ⟨fun a U g mk q => by obtain ⟨q0, q1, qP, qK, qD⟩ := q; exact ⟨q0, q1, qP, va_K.moved (u := U) (U := U.calling g mk a) (Vm.Alike.refl U.vm) qK, qD⟩, va_recv hK hP (ci := 6) (q0 := ktp) rfl et_600, fun U hU hW => ⟨rfl, by rw [hU], by rw [hU]; exact hP, va_K.moved hW.alike hK, hD.weaken (fun _ _ _ _ => trivial)⟩⟩ rfl rfl hl.1 rfl (lv_room (Nat.le_of_ble_eq_true rfl)) dX4_readEither_75 ⟨Nat.le_of_ble_eq_true rfl, Nat.le_of_ble_eq_true rfl⟩) hS (fun q _ h => hFc q h) hFc (fun u t H1 locs ht hvm w_619 hB hz1 hk1 hS => ?_)
      obtain ⟨ws_620, ty_621, hm_622, ht_624, hP1, hK1, hD1, hx_623⟩ := hB
      rw [ht] at hP1
      have hK := va_K.moved hvm.symm hK1
      have hD := hD1.weaken (fun _ _ _ h => hFc _ h)
      generalize H1 = H at hP1 hS ⊢
      have hP := hP1
      have e_625 := hm_622.objK er_599 (by decide)
      obtain ⟨g_627, e_626, h_628⟩ := hm_622.obj et_600
      obtain ⟨z_629, z_630, z_631, z_632, rfl⟩ := smX6 h_628
      obtain ⟨f_634, e_633⟩ := hm_622.arrI e_607
      have u_635 := ht_624 _ _ u_608
      obtain ⟨f_637, e_636⟩ := hm_622.arrI e_614
      have u_638 := ht_624 _ _ u_615
      have hsm := hsm.tr (hm_622.mono (by decide))
      have hlp_101 := hlp_101.tr (hm_622.mono (by decide))
      have htx := htx.tr ht_624
      obtain ⟨k_639, s_640, e_641, h_642, h_643, h_644, e_645⟩ := hx_623
      refine lv_aload_n hx hb dX4_readEither_78 rfl (lv_at hl 5 rfl) ?_
      refine lv_iload_n hx hb dX4_readEither_79 rfl (lv_at hl 4 rfl) ?_
      have hFc := free_all hD hS hA
      refine va_calli (va_runV (As := [.int 5]) (rest := []) ⟨hx, hb, hml, hown, hts⟩ (r_readOne5 l D ρ ws_620 ty_621 adK adV fo rd krd tp ktp cd bb tl  H.size (⟨s_640, e_641, cc_588, ra_589, rb_590, rc_591, rv_592, re_593, nI k_639, by omega, by omega, by omega, by omega, e_625, e_645, wr_601, wt_602, ⟨k_603, c9_604, t_605, f_634, e_633, u_635, w_609⟩, ⟨k_610, c9_611, t_612, f_637, e_636, u_638, w_616⟩⟩ : RS ρ ws_620 ty_621 rd krd tp ktp cd bb tl)) (cwV 1 hts gX4_readEither_X4_readOne rfl rfl rfl (by decide +kernel) ⟨Nat.le_of_ble_eq_true rfl, Nat.le_of_ble_eq_true rfl⟩) ⟨fun a U g mk q => by obtain ⟨q0, q1, qP, qK, qD, qS⟩ := q; exact ⟨q0, q1, qP, va_K.moved (u := U) (U := U.calling g mk a) (Vm.Alike.refl U.vm) qK, qD, SZ.same rfl rfl qS⟩, va_recv hK hP (ci := 4) (q0 := krd) rfl e_625, fun U hU hW => ⟨rfl, by rw [hU], by rw [hU]; exact hP, va_K.moved hW.alike hK, hD.weaken (fun _ _ _ _ => trivial), hsz9.go hS hW hU hFc⟩⟩ rfl rfl hl.1 rfl (lv_room (Nat.le_of_ble_eq_true rfl)) dX4_readEither_80 ⟨Nat.le_of_ble_eq_true rfl, Nat.le_of_ble_eq_true rfl⟩) hS (fun q _ h => hFc q h) hFc (fun r_646 u t H1 locs ht hvm w_647 hB hz1 hk1 hS => ?_)
      obtain ⟨ws_648, ty_649, hm_650, ht_652, hP1, hK1, hD1, hx_651⟩ := hB
      rw [ht] at hP1
      have hK := va_K.moved hvm.symm hK1
      have hD := hD1.weaken (fun _ _ _ h => hFc _ h)
      generalize H1 = H at hP1 hS ⊢
      have hP := hP1
      obtain ⟨g_654, e_653, h_655⟩ := hm_650.obj e_625
      obtain ⟨z_656, z_657, z_658, z_659, z_660, z_661, rfl⟩ := smX4 h_655
      obtain ⟨g_663, e_662, h_664⟩ := hm_650.obj e_645
      obtain ⟨z_665, z_666, z_667, z_668, rfl⟩ := smX6 h_664
      obtain ⟨f_670, e_669⟩ := hm_650.arrI e_633
      have u_671 := ht_652 _ _ u_635
      obtain ⟨f_673, e_672⟩ := hm_650.arrI e_636
      have u_674 := ht_652 _ _ u_638
      have hsm := hsm.tr (hm_650.mono (by decide))
      have hlp_101 := hlp_101.tr (hm_650.mono (by decide))
      have htx := htx.tr ht_652
      obtain ⟨ts_675, te_676, cc_677, ra_678, rb_679, rc_680, rv_681, re_682, ya_683, h1_684, h2_685, h3_686, h4_687, er_688, et_689, wr_690, wt_691, ⟨k_692, c9_693, t_694, f_695, e_696, u_697, w_698⟩, ⟨k_699, c9_700, t_701, f_702, e_703, u_704, w_705⟩⟩ := id hx_651
      refine lv_istore_n (lv' := [(2, .int r_646), (3, .int 1), (5, .int 0), (4, .int (nI i_93)), (1, .int 5), (0, .ref rd)]) hx hb dX4_readEither_83 rfl hl (by decide) rfl (fun ls hl => ?_)
      refine lv_iload hx hb dX4_readEither_84 (lv_at hl 2 rfl) ?_
      refine lv_if_eq (tgt := 95) hx hb dX4_readEither_86 (by decide) (fun c_706 => ?_) (fun c_706 => absurd (by decide) c_706)
      refine lv_iinc (v := nI (i_93 + 1)) (lv' := [(4, .int (nI (i_93 + 1))), (2, .int r_646), (3, .int 1), (5, .int 0), (1, .int 5), (0, .ref rd)]) hx hb dX4_readEither_95 hl (k := 3) rfl (nI_add i_93 1) (by decide) rfl (fun ls hl => ?_)
      refine lv_goto (tgt := 11) hx hb dX4_readEither_98 (by decide) ?_
      exact ih_92 (i_93 + 1, r_646, 1) ws_648 _ _ ls (by show 400 - (i_93 + 1) < 400 - i_93; omega) ⟨hlp_101, ⟨ty_649, hK, htx, (⟨ts_675, te_676, cc_677, ra_678, rb_679, rc_680, rv_681, re_682, ya_683, by omega, by omega, by omega, by omega, er_688, et_689, wr_690, wt_691, ⟨k_692, c9_693, t_694, f_695, e_696, u_697, w_698⟩, ⟨k_699, c9_700, t_701, f_702, e_703, u_704, w_705⟩⟩ : RS ρ ws_648 ty_649 rd krd tp ktp cd bb tl)⟩, (show (i_93 + 1) ≤ 400 from by omega), (show r_646 = 0 ∨ r_646 = 1 from w_647), (show 1 = 0 ∨ 1 = 1 from Or.inr rfl)⟩ hP hD hS (lv_sub hl [0, 1, 2, 4, 5] rfl)
    refine lv_iload hx hb dX4_readEither_60 (lv_at hl 0 rfl) ?_
    refine lv_if_ne (tgt := 69) hx hb dX4_readEither_62 (by decide) (fun c_707 => absurd (by decide) c_707) (fun c_707 => ?_)
    refine lv_iconst (v := 1) hx hb dX4_readEither_65 (by decide) ?_
    refine lv_goto (tgt := 70) hx hb dX4_readEither_66 (by decide) ?_
    refine lv_istore_n (lv' := [(3, .int 1), (5, .int 0), (4, .int (nI i_93)), (2, .int x_94), (1, .int 5), (0, .ref rd)]) hx hb dX4_readEither_70 rfl hl (by decide) rfl (fun ls hl => ?_)
    refine lv_aload_n hx hb dX4_readEither_71 rfl (lv_at hl 5 rfl) ?_
    refine va_get (D := D) (ci := 4) (v := .ref tp) (C := RX4) (T := TX4) (N := 8) hx hb hts hin4 hown hK hP krd er_599 rfl 0 (by decide) (hts (.fieldLink RX4 12 "HoneyHouse$RuleReader" "tape" "LHoneyHouse$Tape;") (List.mem_of_getElem? (i := 1) rfl)) (fun _ h9 => h9) rfl dX4_readEither_72 ?_
    have hFc := free_all hD hS hA
    refine va_callv (va_runV (As := []) (rest := []) ⟨hx, hb, hml, hown, hts⟩ (a_advance l D ρ ws_559 ty_560 tp ktp tl te_587 ya_594 (nI ts_586) bb k_610 c9_611 t_612 f_613 H.size (by omega) (by omega) et_600 e_614 u_615 wt_602) (cwV 0 hts gX4_readEither_X6_advance rfl rfl rfl (by decide +kernel) ⟨Nat.le_of_ble_eq_true rfl, Nat.le_of_ble_eq_true rfl⟩) ⟨fun a U g mk q => by obtain ⟨q0, q1, qP, qK, qD⟩ := q; exact ⟨q0, q1, qP, va_K.moved (u := U) (U := U.calling g mk a) (Vm.Alike.refl U.vm) qK, qD⟩, va_recv hK hP (ci := 6) (q0 := ktp) rfl et_600, fun U hU hW => ⟨rfl, by rw [hU], by rw [hU]; exact hP, va_K.moved hW.alike hK, hD.weaken (fun _ _ _ _ => trivial)⟩⟩ rfl rfl hl.1 rfl (lv_room (Nat.le_of_ble_eq_true rfl)) dX4_readEither_75 ⟨Nat.le_of_ble_eq_true rfl, Nat.le_of_ble_eq_true rfl⟩) hS (fun q _ h => hFc q h) hFc (fun u t H1 locs ht hvm w_709 hB hz1 hk1 hS => ?_)
    obtain ⟨ws_710, ty_711, hm_712, ht_714, hP1, hK1, hD1, hx_713⟩ := hB
    rw [ht] at hP1
    have hK := va_K.moved hvm.symm hK1
    have hD := hD1.weaken (fun _ _ _ h => hFc _ h)
    generalize H1 = H at hP1 hS ⊢
    have hP := hP1
    have e_715 := hm_712.objK er_599 (by decide)
    obtain ⟨g_717, e_716, h_718⟩ := hm_712.obj et_600
    obtain ⟨z_719, z_720, z_721, z_722, rfl⟩ := smX6 h_718
    obtain ⟨f_724, e_723⟩ := hm_712.arrI e_607
    have u_725 := ht_714 _ _ u_608
    obtain ⟨f_727, e_726⟩ := hm_712.arrI e_614
    have u_728 := ht_714 _ _ u_615
    have hsm := hsm.tr (hm_712.mono (by decide))
    have hlp_101 := hlp_101.tr (hm_712.mono (by decide))
    have htx := htx.tr ht_714
    obtain ⟨k_729, s_730, e_731, h_732, h_733, h_734, e_735⟩ := hx_713
    refine lv_aload_n hx hb dX4_readEither_78 rfl (lv_at hl 5 rfl) ?_
    refine lv_iload_n hx hb dX4_readEither_79 rfl (lv_at hl 4 rfl) ?_
    have hFc := free_all hD hS hA
    refine va_calli (va_runV (As := [.int 5]) (rest := []) ⟨hx, hb, hml, hown, hts⟩ (r_readOne5 l D ρ ws_710 ty_711 adK adV fo rd krd tp ktp cd bb tl  H.size (⟨s_730, e_731, cc_588, ra_589, rb_590, rc_591, rv_592, re_593, nI k_729, by omega, by omega, by omega, by omega, e_715, e_735, wr_601, wt_602, ⟨k_603, c9_604, t_605, f_724, e_723, u_725, w_609⟩, ⟨k_610, c9_611, t_612, f_727, e_726, u_728, w_616⟩⟩ : RS ρ ws_710 ty_711 rd krd tp ktp cd bb tl)) (cwV 1 hts gX4_readEither_X4_readOne rfl rfl rfl (by decide +kernel) ⟨Nat.le_of_ble_eq_true rfl, Nat.le_of_ble_eq_true rfl⟩) ⟨fun a U g mk q => by obtain ⟨q0, q1, qP, qK, qD, qS⟩ := q; exact ⟨q0, q1, qP, va_K.moved (u := U) (U := U.calling g mk a) (Vm.Alike.refl U.vm) qK, qD, SZ.same rfl rfl qS⟩, va_recv hK hP (ci := 4) (q0 := krd) rfl e_715, fun U hU hW => ⟨rfl, by rw [hU], by rw [hU]; exact hP, va_K.moved hW.alike hK, hD.weaken (fun _ _ _ _ => trivial), hsz9.go hS hW hU hFc⟩⟩ rfl rfl hl.1 rfl (lv_room (Nat.le_of_ble_eq_true rfl)) dX4_readEither_80 ⟨Nat.le_of_ble_eq_true rfl, Nat.le_of_ble_eq_true rfl⟩) hS (fun q _ h => hFc q h) hFc (fun r_736 u t H1 locs ht hvm w_737 hB hz1 hk1 hS => ?_)
    obtain ⟨ws_738, ty_739, hm_740, ht_742, hP1, hK1, hD1, hx_741⟩ := hB
    rw [ht] at hP1
    have hK := va_K.moved hvm.symm hK1
    have hD := hD1.weaken (fun _ _ _ h => hFc _ h)
    generalize H1 = H at hP1 hS ⊢
    have hP := hP1
    obtain ⟨g_744, e_743, h_745⟩ := hm_740.obj e_715
    obtain ⟨z_746, z_747, z_748, z_749, z_750, z_751, rfl⟩ := smX4 h_745
    obtain ⟨g_753, e_752, h_754⟩ := hm_740.obj e_735
    obtain ⟨z_755, z_756, z_757, z_758, rfl⟩ := smX6 h_754
    obtain ⟨f_760, e_759⟩ := hm_740.arrI e_723
    have u_761 := ht_742 _ _ u_725
    obtain ⟨f_763, e_762⟩ := hm_740.arrI e_726
    have u_764 := ht_742 _ _ u_728
    have hsm := hsm.tr (hm_740.mono (by decide))
    have hlp_101 := hlp_101.tr (hm_740.mono (by decide))
    have htx := htx.tr ht_742
    obtain ⟨ts_765, te_766, cc_767, ra_768, rb_769, rc_770, rv_771, re_772, ya_773, h1_774, h2_775, h3_776, h4_777, er_778, et_779, wr_780, wt_781, ⟨k_782, c9_783, t_784, f_785, e_786, u_787, w_788⟩, ⟨k_789, c9_790, t_791, f_792, e_793, u_794, w_795⟩⟩ := id hx_741
    refine lv_istore_n (lv' := [(2, .int r_736), (3, .int 1), (5, .int 0), (4, .int (nI i_93)), (1, .int 5), (0, .ref rd)]) hx hb dX4_readEither_83 rfl hl (by decide) rfl (fun ls hl => ?_)
    refine lv_iload hx hb dX4_readEither_84 (lv_at hl 2 rfl) ?_
    refine lv_if_eq (tgt := 95) hx hb dX4_readEither_86 (by decide) (fun c_796 => ?_) (fun c_796 => absurd (by decide) c_796)
    refine lv_iinc (v := nI (i_93 + 1)) (lv' := [(4, .int (nI (i_93 + 1))), (2, .int r_736), (3, .int 1), (5, .int 0), (1, .int 5), (0, .ref rd)]) hx hb dX4_readEither_95 hl (k := 3) rfl (nI_add i_93 1) (by decide) rfl (fun ls hl => ?_)
    refine lv_goto (tgt := 11) hx hb dX4_readEither_98 (by decide) ?_
    exact ih_92 (i_93 + 1, r_736, 1) ws_738 _ _ ls (by show 400 - (i_93 + 1) < 400 - i_93; omega) ⟨hlp_101, ⟨ty_739, hK, htx, (⟨ts_765, te_766, cc_767, ra_768, rb_769, rc_770, rv_771, re_772, ya_773, by omega, by omega, by omega, by omega, er_778, et_779, wr_780, wt_781, ⟨k_782, c9_783, t_784, f_785, e_786, u_787, w_788⟩, ⟨k_789, c9_790, t_791, f_792, e_793, u_794, w_795⟩⟩ : RS ρ ws_738 ty_739 rd krd tp ktp cd bb tl)⟩, (show (i_93 + 1) ≤ 400 from by omega), (show r_736 = 0 ∨ r_736 = 1 from w_737), (show 1 = 0 ∨ 1 = 1 from Or.inr rfl)⟩ hP hD hS (lv_sub hl [0, 1, 2, 4, 5] rfl)
  refine lv_istore (lv' := [(5, .int 1), (4, .int (nI i_93)), (2, .int x_94), (3, .int y_95), (1, .int 5), (0, .ref rd)]) hx hb dX4_readEither_39 hl (by decide) rfl (fun ls hl => ?_)
  refine lv_iload hx hb dX4_readEither_41 (lv_at hl 0 rfl) ?_
  refine lv_if_ne (tgt := 56) hx hb dX4_readEither_43 (by decide) (fun c_797 => ?_) (fun c_797 => absurd c_797 (by decide))
  refine lv_iload_n hx hb dX4_readEither_56 rfl (lv_at hl 3 rfl) ?_
  refine lv_if_ne (tgt := 65) hx hb dX4_readEither_57 (by decide) (fun c_798 => ?_) (fun c_798 => ?_)
  · refine lv_iconst (v := 1) hx hb dX4_readEither_65 (by decide) ?_
    refine lv_goto (tgt := 70) hx hb dX4_readEither_66 (by decide) ?_
    refine lv_istore_n (lv' := [(3, .int 1), (5, .int 1), (4, .int (nI i_93)), (2, .int x_94), (1, .int 5), (0, .ref rd)]) hx hb dX4_readEither_70 rfl hl (by decide) rfl (fun ls hl => ?_)
    refine lv_aload_n hx hb dX4_readEither_71 rfl (lv_at hl 5 rfl) ?_
    refine va_get (D := D) (ci := 4) (v := .ref tp) (C := RX4) (T := TX4) (N := 8) hx hb hts hin4 hown hK hP krd e_367 rfl 0 (by decide) (hts (.fieldLink RX4 12 "HoneyHouse$RuleReader" "tape" "LHoneyHouse$Tape;") (List.mem_of_getElem? (i := 1) rfl)) (fun _ h9 => h9) rfl dX4_readEither_72 ?_
    have hFc := free_all hD hS hA
    refine va_callv (va_runV (As := []) (rest := []) ⟨hx, hb, hml, hown, hts⟩ (a_advance l D ρ ws_362 ty_363 tp ktp tl te_126 ya_133 (nI ts_125) bb k_149 c9_150 t_151 f_373 H.size (by omega) (by omega) e_368 e_372 u_374 wt_141) (cwV 0 hts gX4_readEither_X6_advance rfl rfl rfl (by decide +kernel) ⟨Nat.le_of_ble_eq_true rfl, Nat.le_of_ble_eq_true rfl⟩) ⟨fun a U g mk q => by obtain ⟨q0, q1, qP, qK, qD⟩ := q; exact ⟨q0, q1, qP, va_K.moved (u := U) (U := U.calling g mk a) (Vm.Alike.refl U.vm) qK, qD⟩, va_recv hK hP (ci := 6) (q0 := ktp) rfl e_368, fun U hU hW => ⟨rfl, by rw [hU], by rw [hU]; exact hP, va_K.moved hW.alike hK, hD.weaken (fun _ _ _ _ => trivial)⟩⟩ rfl rfl hl.1 rfl (lv_room (Nat.le_of_ble_eq_true rfl)) dX4_readEither_75 ⟨Nat.le_of_ble_eq_true rfl, Nat.le_of_ble_eq_true rfl⟩) hS (fun q _ h => hFc q h) hFc (fun u t H1 locs ht hvm w_800 hB hz1 hk1 hS => ?_)
    obtain ⟨ws_801, ty_802, hm_803, ht_805, hP1, hK1, hD1, hx_804⟩ := hB
    rw [ht] at hP1
    have hK := va_K.moved hvm.symm hK1
    have hD := hD1.weaken (fun _ _ _ h => hFc _ h)
    generalize H1 = H at hP1 hS ⊢
    have hP := hP1
    have e_806 := hm_803.objK e_367 (by decide)
    obtain ⟨g_808, e_807, h_809⟩ := hm_803.obj e_368
    obtain ⟨z_810, z_811, z_812, z_813, rfl⟩ := smX6 h_809
    obtain ⟨f_815, e_814⟩ := hm_803.arrI e_369
    have u_816 := ht_805 _ _ u_371
    obtain ⟨f_818, e_817⟩ := hm_803.arrI e_372
    have u_819 := ht_805 _ _ u_374
    have hsm := hsm.tr (hm_803.mono (by decide))
    have hlp_101 := hlp_101.tr (hm_803.mono (by decide))
    have htx := htx.tr ht_805
    obtain ⟨k_820, s_821, e_822, h_823, h_824, h_825, e_826⟩ := hx_804
    refine lv_aload_n hx hb dX4_readEither_78 rfl (lv_at hl 5 rfl) ?_
    refine lv_iload_n hx hb dX4_readEither_79 rfl (lv_at hl 4 rfl) ?_
    have hFc := free_all hD hS hA
    refine va_calli (va_runV (As := [.int 5]) (rest := []) ⟨hx, hb, hml, hown, hts⟩ (r_readOne5 l D ρ ws_801 ty_802 adK adV fo rd krd tp ktp cd bb tl  H.size (⟨s_821, e_822, cc_127, ra_128, rb_129, rc_130, rv_131, re_132, nI k_820, by omega, by omega, by omega, by omega, e_806, e_826, wr_140, wt_141, ⟨k_142, c9_143, t_144, f_815, e_814, u_816, w_148⟩, ⟨k_149, c9_150, t_151, f_818, e_817, u_819, w_155⟩⟩ : RS ρ ws_801 ty_802 rd krd tp ktp cd bb tl)) (cwV 1 hts gX4_readEither_X4_readOne rfl rfl rfl (by decide +kernel) ⟨Nat.le_of_ble_eq_true rfl, Nat.le_of_ble_eq_true rfl⟩) ⟨fun a U g mk q => by obtain ⟨q0, q1, qP, qK, qD, qS⟩ := q; exact ⟨q0, q1, qP, va_K.moved (u := U) (U := U.calling g mk a) (Vm.Alike.refl U.vm) qK, qD, SZ.same rfl rfl qS⟩, va_recv hK hP (ci := 4) (q0 := krd) rfl e_806, fun U hU hW => ⟨rfl, by rw [hU], by rw [hU]; exact hP, va_K.moved hW.alike hK, hD.weaken (fun _ _ _ _ => trivial), hsz9.go hS hW hU hFc⟩⟩ rfl rfl hl.1 rfl (lv_room (Nat.le_of_ble_eq_true rfl)) dX4_readEither_80 ⟨Nat.le_of_ble_eq_true rfl, Nat.le_of_ble_eq_true rfl⟩) hS (fun q _ h => hFc q h) hFc (fun r_827 u t H1 locs ht hvm w_828 hB hz1 hk1 hS => ?_)
    obtain ⟨ws_829, ty_830, hm_831, ht_833, hP1, hK1, hD1, hx_832⟩ := hB
    rw [ht] at hP1
    have hK := va_K.moved hvm.symm hK1
    have hD := hD1.weaken (fun _ _ _ h => hFc _ h)
    generalize H1 = H at hP1 hS ⊢
    have hP := hP1
    obtain ⟨g_835, e_834, h_836⟩ := hm_831.obj e_806
    obtain ⟨z_837, z_838, z_839, z_840, z_841, z_842, rfl⟩ := smX4 h_836
    obtain ⟨g_844, e_843, h_845⟩ := hm_831.obj e_826
    obtain ⟨z_846, z_847, z_848, z_849, rfl⟩ := smX6 h_845
    obtain ⟨f_851, e_850⟩ := hm_831.arrI e_814
    have u_852 := ht_833 _ _ u_816
    obtain ⟨f_854, e_853⟩ := hm_831.arrI e_817
    have u_855 := ht_833 _ _ u_819
    have hsm := hsm.tr (hm_831.mono (by decide))
    have hlp_101 := hlp_101.tr (hm_831.mono (by decide))
    have htx := htx.tr ht_833
    obtain ⟨ts_856, te_857, cc_858, ra_859, rb_860, rc_861, rv_862, re_863, ya_864, h1_865, h2_866, h3_867, h4_868, er_869, et_870, wr_871, wt_872, ⟨k_873, c9_874, t_875, f_876, e_877, u_878, w_879⟩, ⟨k_880, c9_881, t_882, f_883, e_884, u_885, w_886⟩⟩ := id hx_832
    refine lv_istore_n (lv' := [(2, .int r_827), (3, .int 1), (5, .int 1), (4, .int (nI i_93)), (1, .int 5), (0, .ref rd)]) hx hb dX4_readEither_83 rfl hl (by decide) rfl (fun ls hl => ?_)
    refine lv_iload hx hb dX4_readEither_84 (lv_at hl 2 rfl) ?_
    refine lv_if_eq (tgt := 95) hx hb dX4_readEither_86 (by decide) (fun c_887 => absurd c_887 (by decide)) (fun c_887 => ?_)
    refine lv_aload_n hx hb dX4_readEither_89 rfl (lv_at hl 5 rfl) ?_
    refine lv_bipush (v := (-2)) hx hb dX4_readEither_90 (by decide) ?_
    have hFc := free_all hD hS hA
    refine va_callv (va_runV (As := [.int (-2)]) (rest := []) ⟨hx, hb, hml, hown, hts⟩ (r_addCode l D ρ ws_829 ty_830 adK adV fo rd krd tp ktp cd bb tl (-2) H.size (⟨ts_856, te_857, cc_858, ra_859, rb_860, rc_861, rv_862, re_863, ya_864, by omega, by omega, by omega, by omega, er_869, et_870, wr_871, wt_872, ⟨k_873, c9_874, t_875, f_876, e_877, u_878, w_879⟩, ⟨k_880, c9_881, t_882, f_883, e_884, u_885, w_886⟩⟩ : RS ρ ws_829 ty_830 rd krd tp ktp cd bb tl)) (cwV 1 hts gX4_readEither_X4_addCode rfl rfl rfl (by decide +kernel) ⟨Nat.le_of_ble_eq_true rfl, Nat.le_of_ble_eq_true rfl⟩) ⟨fun a U g mk q => by obtain ⟨q0, q1, qP, qK, qD, qS⟩ := q; exact ⟨q0, q1, qP, va_K.moved (u := U) (U := U.calling g mk a) (Vm.Alike.refl U.vm) qK, qD, SZ.same rfl rfl qS⟩, va_recv hK hP (ci := 4) (q0 := krd) rfl er_869, fun U hU hW => ⟨rfl, by rw [hU], by rw [hU]; exact hP, va_K.moved hW.alike hK, hD.weaken (fun _ _ _ _ => trivial), hsz9.go hS hW hU hFc⟩⟩ rfl rfl hl.1 rfl (lv_room (Nat.le_of_ble_eq_true rfl)) dX4_readEither_92 ⟨Nat.le_of_ble_eq_true rfl, Nat.le_of_ble_eq_true rfl⟩) hS (fun q _ h => hFc q h) hFc (fun u t H1 locs ht hvm w_889 hB hz1 hk1 hS => ?_)
    obtain ⟨ws_890, ty_891, hm_892, ht_894, hP1, hK1, hD1, hx_893⟩ := hB
    rw [ht] at hP1
    have hK := va_K.moved hvm.symm hK1
    have hD := hD1.weaken (fun _ _ _ h => hFc _ h)
    generalize H1 = H at hP1 hS ⊢
    have hP := hP1
    obtain ⟨g_896, e_895, h_897⟩ := hm_892.obj er_869
    obtain ⟨z_898, z_899, z_900, z_901, z_902, z_903, rfl⟩ := smX4 h_897
    obtain ⟨g_905, e_904, h_906⟩ := hm_892.obj et_870
    obtain ⟨z_907, z_908, z_909, z_910, rfl⟩ := smX6 h_906
    obtain ⟨f_912, e_911⟩ := hm_892.arrI e_877
    have u_913 := ht_894 _ _ u_878
    obtain ⟨f_915, e_914⟩ := hm_892.arrI e_884
    have u_916 := ht_894 _ _ u_885
    have hsm := hsm.tr (hm_892.mono (by decide))
    have hlp_101 := hlp_101.tr (hm_892.mono (by decide))
    have htx := htx.tr ht_894
    obtain ⟨ts_917, te_918, cc_919, ra_920, rb_921, rc_922, rv_923, re_924, ya_925, h1_926, h2_927, h3_928, h4_929, er_930, et_931, wr_932, wt_933, ⟨k_934, c9_935, t_936, f_937, e_938, u_939, w_940⟩, ⟨k_941, c9_942, t_943, f_944, e_945, u_946, w_947⟩⟩ := id hx_893
    refine lv_iinc (v := nI (i_93 + 1)) (lv' := [(4, .int (nI (i_93 + 1))), (2, .int r_827), (3, .int 1), (5, .int 1), (1, .int 5), (0, .ref rd)]) hx hb dX4_readEither_95 hl (k := 3) rfl (nI_add i_93 1) (by decide) rfl (fun ls hl => ?_)
    refine lv_goto (tgt := 11) hx hb dX4_readEither_98 (by decide) ?_
    exact ih_92 (i_93 + 1, r_827, 1) ws_890 _ _ ls (by show 400 - (i_93 + 1) < 400 - i_93; omega) ⟨hlp_101, ⟨ty_891, hK, htx, (⟨ts_917, te_918, cc_919, ra_920, rb_921, rc_922, rv_923, re_924, ya_925, by omega, by omega, by omega, by omega, er_930, et_931, wr_932, wt_933, ⟨k_934, c9_935, t_936, f_937, e_938, u_939, w_940⟩, ⟨k_941, c9_942, t_943, f_944, e_945, u_946, w_947⟩⟩ : RS ρ ws_890 ty_891 rd krd tp ktp cd bb tl)⟩, (show (i_93 + 1) ≤ 400 from by omega), (show r_827 = 0 ∨ r_827 = 1 from w_828), (show 1 = 0 ∨ 1 = 1 from Or.inr rfl)⟩ hP hD hS (lv_sub hl [0, 1, 2, 4, 5] rfl)
  refine lv_iload hx hb dX4_readEither_60 (lv_at hl 0 rfl) ?_
  refine lv_if_ne (tgt := 69) hx hb dX4_readEither_62 (by decide) (fun c_948 => ?_) (fun c_948 => absurd c_948 (by decide))
  refine lv_iconst (v := 0) hx hb dX4_readEither_69 (by decide) ?_
  refine lv_istore_n (lv' := [(3, .int 0), (5, .int 1), (4, .int (nI i_93)), (2, .int x_94), (1, .int 5), (0, .ref rd)]) hx hb dX4_readEither_70 rfl hl (by decide) rfl (fun ls hl => ?_)
  refine lv_aload_n hx hb dX4_readEither_71 rfl (lv_at hl 5 rfl) ?_
  refine va_get (D := D) (ci := 4) (v := .ref tp) (C := RX4) (T := TX4) (N := 8) hx hb hts hin4 hown hK hP krd e_367 rfl 0 (by decide) (hts (.fieldLink RX4 12 "HoneyHouse$RuleReader" "tape" "LHoneyHouse$Tape;") (List.mem_of_getElem? (i := 1) rfl)) (fun _ h9 => h9) rfl dX4_readEither_72 ?_
  have hFc := free_all hD hS hA
  refine va_callv (va_runV (As := []) (rest := []) ⟨hx, hb, hml, hown, hts⟩ (a_advance l D ρ ws_362 ty_363 tp ktp tl te_126 ya_133 (nI ts_125) bb k_149 c9_150 t_151 f_373 H.size (by omega) (by omega) e_368 e_372 u_374 wt_141) (cwV 0 hts gX4_readEither_X6_advance rfl rfl rfl (by decide +kernel) ⟨Nat.le_of_ble_eq_true rfl, Nat.le_of_ble_eq_true rfl⟩) ⟨fun a U g mk q => by obtain ⟨q0, q1, qP, qK, qD⟩ := q; exact ⟨q0, q1, qP, va_K.moved (u := U) (U := U.calling g mk a) (Vm.Alike.refl U.vm) qK, qD⟩, va_recv hK hP (ci := 6) (q0 := ktp) rfl e_368, fun U hU hW => ⟨rfl, by rw [hU], by rw [hU]; exact hP, va_K.moved hW.alike hK, hD.weaken (fun _ _ _ _ => trivial)⟩⟩ rfl rfl hl.1 rfl (lv_room (Nat.le_of_ble_eq_true rfl)) dX4_readEither_75 ⟨Nat.le_of_ble_eq_true rfl, Nat.le_of_ble_eq_true rfl⟩) hS (fun q _ h => hFc q h) hFc (fun u t H1 locs ht hvm w_950 hB hz1 hk1 hS => ?_)
  obtain ⟨ws_951, ty_952, hm_953, ht_955, hP1, hK1, hD1, hx_954⟩ := hB
  rw [ht] at hP1
  have hK := va_K.moved hvm.symm hK1
  have hD := hD1.weaken (fun _ _ _ h => hFc _ h)
  generalize H1 = H at hP1 hS ⊢
  have hP := hP1
  have e_956 := hm_953.objK e_367 (by decide)
  obtain ⟨g_958, e_957, h_959⟩ := hm_953.obj e_368
  obtain ⟨z_960, z_961, z_962, z_963, rfl⟩ := smX6 h_959
  obtain ⟨f_965, e_964⟩ := hm_953.arrI e_369
  have u_966 := ht_955 _ _ u_371
  obtain ⟨f_968, e_967⟩ := hm_953.arrI e_372
  have u_969 := ht_955 _ _ u_374
  have hsm := hsm.tr (hm_953.mono (by decide))
  have hlp_101 := hlp_101.tr (hm_953.mono (by decide))
  have htx := htx.tr ht_955
  obtain ⟨k_970, s_971, e_972, h_973, h_974, h_975, e_976⟩ := hx_954
  refine lv_aload_n hx hb dX4_readEither_78 rfl (lv_at hl 5 rfl) ?_
  refine lv_iload_n hx hb dX4_readEither_79 rfl (lv_at hl 4 rfl) ?_
  have hFc := free_all hD hS hA
  refine va_calli (va_runV (As := [.int 5]) (rest := []) ⟨hx, hb, hml, hown, hts⟩ (r_readOne5 l D ρ ws_951 ty_952 adK adV fo rd krd tp ktp cd bb tl  H.size (⟨s_971, e_972, cc_127, ra_128, rb_129, rc_130, rv_131, re_132, nI k_970, by omega, by omega, by omega, by omega, e_956, e_976, wr_140, wt_141, ⟨k_142, c9_143, t_144, f_965, e_964, u_966, w_148⟩, ⟨k_149, c9_150, t_151, f_968, e_967, u_969, w_155⟩⟩ : RS ρ ws_951 ty_952 rd krd tp ktp cd bb tl)) (cwV 1 hts gX4_readEither_X4_readOne rfl rfl rfl (by decide +kernel) ⟨Nat.le_of_ble_eq_true rfl, Nat.le_of_ble_eq_true rfl⟩) ⟨fun a U g mk q => by obtain ⟨q0, q1, qP, qK, qD, qS⟩ := q; exact ⟨q0, q1, qP, va_K.moved (u := U) (U := U.calling g mk a) (Vm.Alike.refl U.vm) qK, qD, SZ.same rfl rfl qS⟩, va_recv hK hP (ci := 4) (q0 := krd) rfl e_956, fun U hU hW => ⟨rfl, by rw [hU], by rw [hU]; exact hP, va_K.moved hW.alike hK, hD.weaken (fun _ _ _ _ => trivial), hsz9.go hS hW hU hFc⟩⟩ rfl rfl hl.1 rfl (lv_room (Nat.le_of_ble_eq_true rfl)) dX4_readEither_80 ⟨Nat.le_of_ble_eq_true rfl, Nat.le_of_ble_eq_true rfl⟩) hS (fun q _ h => hFc q h) hFc (fun r_977 u t H1 locs ht hvm w_978 hB hz1 hk1 hS => ?_)
  obtain ⟨ws_979, ty_980, hm_981, ht_983, hP1, hK1, hD1, hx_982⟩ := hB
  rw [ht] at hP1
  have hK := va_K.moved hvm.symm hK1
  have hD := hD1.weaken (fun _ _ _ h => hFc _ h)
  generalize H1 = H at hP1 hS ⊢
  have hP := hP1
  obtain ⟨g_985, e_984, h_986⟩ := hm_981.obj e_956
  obtain ⟨z_987, z_988, z_989, z_990, z_991, z_992, rfl⟩ := smX4 h_986
  obtain ⟨g_994, e_993, h_995⟩ := hm_981.obj e_976
  obtain ⟨z_996, z_997, z_998, z_999, rfl⟩ := smX6 h_995
  obtain ⟨f_1001, e_1000⟩ := hm_981.arrI e_964
  have u_1002 := ht_983 _ _ u_966
  obtain ⟨f_1004, e_1003⟩ := hm_981.arrI e_967
  have u_1005 := ht_983 _ _ u_969
  have hsm := hsm.tr (hm_981.mono (by decide))
  have hlp_101 := hlp_101.tr (hm_981.mono (by decide))
  have htx := htx.tr ht_983
  obtain ⟨ts_1006, te_1007, cc_1008, ra_1009, rb_1010, rc_1011, rv_1012, re_1013, ya_1014, h1_1015, h2_1016, h3_1017, h4_1018, er_1019, et_1020, wr_1021, wt_1022, ⟨k_1023, c9_1024, t_1025, f_1026, e_1027, u_1028, w_1029⟩, ⟨k_1030, c9_1031, t_1032, f_1033, e_1034, u_1035, w_1036⟩⟩ := id hx_982
  refine lv_istore_n (lv' := [(2, .int r_977), (3, .int 0), (5, .int 1), (4, .int (nI i_93)), (1, .int 5), (0, .ref rd)]) hx hb dX4_readEither_83 rfl hl (by decide) rfl (fun ls hl => ?_)
  refine lv_iload hx hb dX4_readEither_84 (lv_at hl 2 rfl) ?_
  refine lv_if_eq (tgt := 95) hx hb dX4_readEither_86 (by decide) (fun c_1037 => absurd c_1037 (by decide)) (fun c_1037 => ?_)
  refine lv_aload_n hx hb dX4_readEither_89 rfl (lv_at hl 5 rfl) ?_
  refine lv_bipush (v := (-2)) hx hb dX4_readEither_90 (by decide) ?_
  have hFc := free_all hD hS hA
  refine va_callv (va_runV (As := [.int (-2)]) (rest := []) ⟨hx, hb, hml, hown, hts⟩ (r_addCode l D ρ ws_979 ty_980 adK adV fo rd krd tp ktp cd bb tl (-2) H.size (⟨ts_1006, te_1007, cc_1008, ra_1009, rb_1010, rc_1011, rv_1012, re_1013, ya_1014, by omega, by omega, by omega, by omega, er_1019, et_1020, wr_1021, wt_1022, ⟨k_1023, c9_1024, t_1025, f_1026, e_1027, u_1028, w_1029⟩, ⟨k_1030, c9_1031, t_1032, f_1033, e_1034, u_1035, w_1036⟩⟩ : RS ρ ws_979 ty_980 rd krd tp ktp cd bb tl)) (cwV 1 hts gX4_readEither_X4_addCode rfl rfl rfl (by decide +kernel) ⟨Nat.le_of_ble_eq_true rfl, Nat.le_of_ble_eq_true rfl⟩) ⟨fun a U g mk q => by obtain ⟨q0, q1, qP, qK, qD, qS⟩ := q; exact ⟨q0, q1, qP, va_K.moved (u := U) (U := U.calling g mk a) (Vm.Alike.refl U.vm) qK, qD, SZ.same rfl rfl qS⟩, va_recv hK hP (ci := 4) (q0 := krd) rfl er_1019, fun U hU hW => ⟨rfl, by rw [hU], by rw [hU]; exact hP, va_K.moved hW.alike hK, hD.weaken (fun _ _ _ _ => trivial), hsz9.go hS hW hU hFc⟩⟩ rfl rfl hl.1 rfl (lv_room (Nat.le_of_ble_eq_true rfl)) dX4_readEither_92 ⟨Nat.le_of_ble_eq_true rfl, Nat.le_of_ble_eq_true rfl⟩) hS (fun q _ h => hFc q h) hFc (fun u t H1 locs ht hvm w_1039 hB hz1 hk1 hS => ?_)
  obtain ⟨ws_1040, ty_1041, hm_1042, ht_1044, hP1, hK1, hD1, hx_1043⟩ := hB
  rw [ht] at hP1
  have hK := va_K.moved hvm.symm hK1
  have hD := hD1.weaken (fun _ _ _ h => hFc _ h)
  generalize H1 = H at hP1 hS ⊢
  have hP := hP1
  obtain ⟨g_1046, e_1045, h_1047⟩ := hm_1042.obj er_1019
  obtain ⟨z_1048, z_1049, z_1050, z_1051, z_1052, z_1053, rfl⟩ := smX4 h_1047
  obtain ⟨g_1055, e_1054, h_1056⟩ := hm_1042.obj et_1020
  obtain ⟨z_1057, z_1058, z_1059, z_1060, rfl⟩ := smX6 h_1056
  obtain ⟨f_1062, e_1061⟩ := hm_1042.arrI e_1027
  have u_1063 := ht_1044 _ _ u_1028
  obtain ⟨f_1065, e_1064⟩ := hm_1042.arrI e_1034
  have u_1066 := ht_1044 _ _ u_1035
  have hsm := hsm.tr (hm_1042.mono (by decide))
  have hlp_101 := hlp_101.tr (hm_1042.mono (by decide))
  have htx := htx.tr ht_1044
  obtain ⟨ts_1067, te_1068, cc_1069, ra_1070, rb_1071, rc_1072, rv_1073, re_1074, ya_1075, h1_1076, h2_1077, h3_1078, h4_1079, er_1080, et_1081, wr_1082, wt_1083, ⟨k_1084, c9_1085, t_1086, f_1087, e_1088, u_1089, w_1090⟩, ⟨k_1091, c9_1092, t_1093, f_1094, e_1095, u_1096, w_1097⟩⟩ := id hx_1043
  refine lv_iinc (v := nI (i_93 + 1)) (lv' := [(4, .int (nI (i_93 + 1))), (2, .int r_977), (3, .int 0), (5, .int 1), (1, .int 5), (0, .ref rd)]) hx hb dX4_readEither_95 hl (k := 3) rfl (nI_add i_93 1) (by decide) rfl (fun ls hl => ?_)
  refine lv_goto (tgt := 11) hx hb dX4_readEither_98 (by decide) ?_
  exact ih_92 (i_93 + 1, r_977, 0) ws_1040 _ _ ls (by show 400 - (i_93 + 1) < 400 - i_93; omega) ⟨hlp_101, ⟨ty_1041, hK, htx, (⟨ts_1067, te_1068, cc_1069, ra_1070, rb_1071, rc_1072, rv_1073, re_1074, ya_1075, by omega, by omega, by omega, by omega, er_1080, et_1081, wr_1082, wt_1083, ⟨k_1084, c9_1085, t_1086, f_1087, e_1088, u_1089, w_1090⟩, ⟨k_1091, c9_1092, t_1093, f_1094, e_1095, u_1096, w_1097⟩⟩ : RS ρ ws_1040 ty_1041 rd krd tp ktp cd bb tl)⟩, (show (i_93 + 1) ≤ 400 from by omega), (show r_977 = 0 ∨ r_977 = 1 from w_978), (show 0 = 0 ∨ 0 = 1 from Or.inl rfl)⟩ hP hD hS (lv_sub hl [0, 1, 2, 4, 5] rfl)
set_option maxHeartbeats 4000000 in
set_option maxRecDepth 100000 in
theorem r_readOne4 (l : Launch) (D : va_G) (ρ : Nat → Nat) (ws : va_W) (tys : List (ClassId × FieldType)) (adK adV : Nat → Nat) (fo : Option Nat) (rd krd tp ktp cd bb tl : Nat)  (sz : Nat) (R0 : RS ρ ws tys rd krd tp ktp cd bb tl)  : Met l yX4_readOne wsX4_readOne ({ frames := 11, cells := 0, slots := 0, locals := 245 }) (va_Pc [.ref rd, .int 4] (fun U => U.heap.size = sz ∧ va_P D vwCl ws U.heap ∧ va_K D vwCl tys U ∧ va_D (fun _ => True) ws ∧ SZ adK adV fo (va_A ws sz) U U.heap)) (va_Qi (fun (r : Int32) (_ : Unit) => r = 0 ∨ r = 1) (fun (_ : Unit) (t : State) => ∃ (ws' : va_W) (tys' : List (ClassId × FieldType)), sm ρ [4, 6] ws ws' ∧ tyx tys tys' ∧ va_P D vwCl ws' t.heap ∧ va_K D vwCl tys' t ∧ va_D (va_A ws sz) ws' ∧ (RS ρ ws' tys' rd krd tp ktp cd bb tl)) (va_A ws sz)) 0 0 (va_A ws sz) := by
  refine Met.ofW (cc := cX4_readOne) (maxL := 4) (ret := (some .boolean)) (by decide) rfl ?_
  intro p e s m args below meth c s₁ B hml hv
  obtain ⟨rfl, hsz, hP, hK, hD0, hsz9⟩ := hv
  have hx := B.exec
  have hb := B.bytes
  have hr := B.returns
  have hts := atoms_spec (ws := wsX4_readOne) B.pre
  have hown : s.vm.findClass RX4 = some m.cls := findClass_of_methodNamed B.named
  have hlocks := B.notSynchronized
  subst hsz
  have hD := hD0.self (sz := s.heap.size)
  generalize hAe : va_A ws s.heap.size = A at hD hsz9 ⊢
  have hA : ∀ q : Nat, s.heap.size ≤ q → A q := fun q h => by rw [← hAe]; exact Or.inr h
  have hS : va_S A s.heap s.heap [] := va_S.rf
  have hsm : sm ρ [4, 6] ws ws := sm.rf ws
  have htx : tyx tys tys := tyx.rf tys
  have hin4 : ∀ w ∈ u_ws RX4 TX4 8, w ∈ wsX4_readOne := (fun _ h9 => List.mem_cons_of_mem _ (List.mem_append_left _ ((List.mem_append_right _ h9))))
  have hl := lv_entry ([.ref rd, .int 4]) (n := 4) (Nat.le_of_ble_eq_true rfl)
  rw [lg_entry_eq]
  generalize (lg_sl ([.ref rd, .int 4]) ++ List.replicate (4 - (lg_sl ([.ref rd, .int 4])).length) Slot.unset).toArray = ls at hl ⊢
  have hl : lv_has ls 4 [(0, .ref rd), (1, .int 4)] := hl
  obtain ⟨ts_1, te_2, cc_3, ra_4, rb_5, rc_6, rv_7, re_8, ya_9, h1_10, h2_11, h3_12, h4_13, er_14, et_15, wr_16, wt_17, ⟨k_18, c9_19, t_20, f_21, e_22, u_23, w_24⟩, ⟨k_25, c9_26, t_27, f_28, e_29, u_30, w_31⟩⟩ := id R0
  refine lv_aload_n hx hb dX4_readOne_0 rfl (lv_at hl 0 rfl) ?_
  refine va_get (D := D) (ci := 4) (v := .ref tp) (C := RX4) (T := TX4) (N := 8) hx hb hts hin4 hown hK hP krd er_14 rfl 0 (by decide) (hts (.fieldLink RX4 12 "HoneyHouse$RuleReader" "tape" "LHoneyHouse$Tape;") (List.mem_of_getElem? (i := 1) rfl)) (fun _ h9 => h9) rfl dX4_readOne_1 ?_
  refine va_ldcS hx hb hown hsz9.2.2.2.2.2.2.1 dX4_readOne_4 ?_
  have hFc := free_all hD hS hA
  refine va_calli (va_runV (As := [.ref (adK 3)]) (rest := []) ⟨hx, hb, hml, hown, hts⟩ (a_isWord l D ρ ws tys adK adV fo 3 tp ktp tl ya_9 (nI ts_1) (nI te_2) bb k_25 c9_26 t_27 f_28 s.heap.size (by decide) et_15 e_29 u_30) (cwV 1 hts gX4_readOne_X6_isWord rfl rfl rfl (by decide +kernel) ⟨Nat.le_of_ble_eq_true rfl, Nat.le_of_ble_eq_true rfl⟩) ⟨fun a U g mk q => by obtain ⟨q0, q1, qP, qK, qD, qS⟩ := q; exact ⟨q0, q1, qP, va_K.moved (u := U) (U := U.calling g mk a) (Vm.Alike.refl U.vm) qK, qD, SZ.same rfl rfl qS⟩, va_recv hK hP (ci := 6) (q0 := ktp) rfl et_15, fun U hU hW => ⟨rfl, by rw [hU], by rw [hU]; exact hP, va_K.moved hW.alike hK, hD.weaken (fun _ _ _ _ => trivial), hsz9.go hS hW hU hFc⟩⟩ rfl rfl hl.1 rfl (lv_room (Nat.le_of_ble_eq_true rfl)) dX4_readOne_6 ⟨Nat.le_of_ble_eq_true rfl, Nat.le_of_ble_eq_true rfl⟩) hS (fun q _ h => hFc q h) hFc (fun r_32 u t H1 locs ht hvm w_33 hB hz1 hk1 hS => ?_)
  obtain ⟨ws_34, ty_35, hm_36, ht_38, hP1, hK1, hD1, hx_37⟩ := hB
  rw [ht] at hP1
  have hK := va_K.moved hvm.symm hK1
  have hD := hD1.weaken (fun _ _ _ h => hFc _ h)
  generalize H1 = H at hP1 hS ⊢
  have hP := hP1
  have e_39 := hm_36.objK er_14 (by decide)
  have e_40 := hm_36.objK et_15 (by decide)
  obtain ⟨f_42, e_41⟩ := hm_36.arrI e_22
  have u_43 := ht_38 _ _ u_23
  obtain ⟨f_45, e_44⟩ := hm_36.arrI e_29
  have u_46 := ht_38 _ _ u_30
  have hsm := hsm.tr (hm_36.mono (by decide))
  have htx := htx.tr ht_38
  rcases w_33 with rfl | rfl
  · refine lv_istore_n (lv' := [(2, .int 0), (0, .ref rd), (1, .int 4)]) hx hb dX4_readOne_9 rfl hl (by decide) rfl (fun ls hl => ?_)
    refine lv_iload_n hx hb dX4_readOne_10 rfl (lv_at hl 0 rfl) ?_
    refine lv_if_ne (tgt := 31) hx hb dX4_readOne_11 (by decide) (fun c_47 => absurd (by decide) c_47) (fun c_47 => ?_)
    refine lv_aload_n hx hb dX4_readOne_14 rfl (lv_at hl 1 rfl) ?_
    refine va_get (D := D) (ci := 4) (v := .ref tp) (C := RX4) (T := TX4) (N := 8) hx hb hts hin4 hown hK hP krd e_39 rfl 0 (by decide) (hts (.fieldLink RX4 12 "HoneyHouse$RuleReader" "tape" "LHoneyHouse$Tape;") (List.mem_of_getElem? (i := 1) rfl)) (fun _ h9 => h9) rfl dX4_readOne_15 ?_
    refine lv_bipush (v := 40) hx hb dX4_readOne_18 (by decide) ?_
    refine vp_callSi (W.runV (As := [.int 40]) (rest := []) ⟨hx, hb, hml, hown, hts⟩ (s_isByte l D ws_34 ty_35 tp ktp tl ya_9 (nI ts_1) (nI te_2) bb k_25 c9_26 t_27 f_45 40 e_40 e_44 u_46) (cwV 1 hts gX4_readOne_X6_isByte rfl rfl rfl (by decide +kernel) ⟨Nat.le_of_ble_eq_true rfl, Nat.le_of_ble_eq_true rfl⟩) ⟨fun a U g mk q => ⟨q.1, q.2.1, va_K.moved (u := U) (U := U.calling g mk a) (Vm.Alike.refl U.vm) q.2.2⟩, va_recv hK hP (ci := 6) (q0 := ktp) rfl e_40, fun U hU hW => ⟨rfl, by rw [hU]; exact hP, va_K.moved hW.alike hK⟩⟩ rfl rfl hl.1 rfl (lv_room (Nat.le_of_ble_eq_true rfl)) dX4_readOne_20 ⟨Nat.le_of_ble_eq_true rfl, Nat.le_of_ble_eq_true rfl⟩) (fun r_48 k_49 => ?_)
    rcases k_49 with rfl | rfl
    · refine lv_if_ne (tgt := 31) hx hb dX4_readOne_23 (by decide) (fun c_50 => absurd (by decide) c_50) (fun c_50 => ?_)
      refine lv_aload_n hx hb dX4_readOne_26 rfl (lv_at hl 1 rfl) ?_
      have hFc := free_all hD hS hA
      refine va_calli (va_runV (As := []) (rest := []) ⟨hx, hb, hml, hown, hts⟩ (r_readTest l D ρ ws_34 ty_35 adK adV fo rd krd tp ktp cd bb tl  H.size (⟨ts_1, te_2, cc_3, ra_4, rb_5, rc_6, rv_7, re_8, ya_9, by omega, by omega, by omega, by omega, e_39, e_40, wr_16, wt_17, ⟨k_18, c9_19, t_20, f_42, e_41, u_43, w_24⟩, ⟨k_25, c9_26, t_27, f_45, e_44, u_46, w_31⟩⟩ : RS ρ ws_34 ty_35 rd krd tp ktp cd bb tl)) (cwV 0 hts gX4_readOne_X4_readTest rfl rfl rfl (by decide +kernel) ⟨Nat.le_of_ble_eq_true rfl, Nat.le_of_ble_eq_true rfl⟩) ⟨fun a U g mk q => by obtain ⟨q0, q1, qP, qK, qD, qS⟩ := q; exact ⟨q0, q1, qP, va_K.moved (u := U) (U := U.calling g mk a) (Vm.Alike.refl U.vm) qK, qD, SZ.same rfl rfl qS⟩, va_recv hK hP (ci := 4) (q0 := krd) rfl e_39, fun U hU hW => ⟨rfl, by rw [hU], by rw [hU]; exact hP, va_K.moved hW.alike hK, hD.weaken (fun _ _ _ _ => trivial), hsz9.go hS hW hU hFc⟩⟩ rfl rfl hl.1 rfl (lv_room (Nat.le_of_ble_eq_true rfl)) dX4_readOne_27 ⟨Nat.le_of_ble_eq_true rfl, Nat.le_of_ble_eq_true rfl⟩) hS (fun q _ h => hFc q h) hFc (fun r_51 u t H1 locs ht hvm w_52 hB hz1 hk1 hS => ?_)
      obtain ⟨ws_53, ty_54, hm_55, ht_57, hP1, hK1, hD1, hx_56⟩ := hB
      rw [ht] at hP1
      have hK := va_K.moved hvm.symm hK1
      have hD := hD1.weaken (fun _ _ _ h => hFc _ h)
      generalize H1 = H at hP1 hS ⊢
      have hP := hP1
      obtain ⟨g_59, e_58, h_60⟩ := hm_55.obj e_39
      obtain ⟨z_61, z_62, z_63, z_64, z_65, z_66, rfl⟩ := smX4 h_60
      obtain ⟨g_68, e_67, h_69⟩ := hm_55.obj e_40
      obtain ⟨z_70, z_71, z_72, z_73, rfl⟩ := smX6 h_69
      obtain ⟨f_75, e_74⟩ := hm_55.arrI e_41
      have u_76 := ht_57 _ _ u_43
      obtain ⟨f_78, e_77⟩ := hm_55.arrI e_44
      have u_79 := ht_57 _ _ u_46
      have hsm := hsm.tr (hm_55.mono (by decide))
      have htx := htx.tr ht_57
      obtain ⟨ts_80, te_81, cc_82, ra_83, rb_84, rc_85, rv_86, re_87, ya_88, h1_89, h2_90, h3_91, h4_92, er_93, et_94, wr_95, wt_96, ⟨k_97, c9_98, t_99, f_100, e_101, u_102, w_103⟩, ⟨k_104, c9_105, t_106, f_107, e_108, u_109, w_110⟩⟩ := id hx_56
      exact W.zret (v := r_51) hx hb hr (by rcases w_52 with h9 | h9 <;> rw [h9] <;> rfl) (fun t ht hW => ⟨⟨r_51, (), rfl, w_52, ws_53, ty_54, hsm, htx, by rw [ht]; exact hP, va_K.moved hW.alike hK, hD, (⟨ts_80, te_81, cc_82, ra_83, rb_84, rc_85, rv_86, re_87, ya_88, by omega, by omega, by omega, by omega, er_93, et_94, wr_95, wt_96, ⟨k_97, c9_98, t_99, f_100, e_101, u_102, w_103⟩, ⟨k_104, c9_105, t_106, f_107, e_108, u_109, w_110⟩⟩ : RS ρ ws_53 ty_54 rd krd tp ktp cd bb tl)⟩, hS.F ht⟩) hS.2.2 dX4_readOne_30
    refine lv_if_ne (tgt := 31) hx hb dX4_readOne_23 (by decide) (fun c_111 => ?_) (fun c_111 => absurd c_111 (by decide))
    refine lv_iload_n hx hb dX4_readOne_31 rfl (lv_at hl 2 rfl) ?_
    refine lv_bipush (v := 6) hx hb dX4_readOne_32 (by decide) ?_
    refine lv_icmp_lt (tgt := 50) hx hb dX4_readOne_34 (by decide) (fun c_112 => ?_) (fun c_112 => absurd (by decide) c_112)
    refine lv_aload_n hx hb dX4_readOne_50 rfl (lv_at hl 1 rfl) ?_
    refine va_get (D := D) (ci := 4) (v := .ref tp) (C := RX4) (T := TX4) (N := 8) hx hb hts hin4 hown hK hP krd e_39 rfl 0 (by decide) (hts (.fieldLink RX4 12 "HoneyHouse$RuleReader" "tape" "LHoneyHouse$Tape;") (List.mem_of_getElem? (i := 1) rfl)) (fun _ h9 => h9) rfl dX4_readOne_51 ?_
    have hFc := free_all hD hS hA
    refine va_callv (va_runV (As := []) (rest := []) ⟨hx, hb, hml, hown, hts⟩ (a_advance l D ρ ws_34 ty_35 tp ktp tl te_2 ya_9 (nI ts_1) bb k_25 c9_26 t_27 f_45 H.size (by omega) (by omega) e_40 e_44 u_46 wt_17) (cwV 0 hts gX4_readOne_X6_advance rfl rfl rfl (by decide +kernel) ⟨Nat.le_of_ble_eq_true rfl, Nat.le_of_ble_eq_true rfl⟩) ⟨fun a U g mk q => by obtain ⟨q0, q1, qP, qK, qD⟩ := q; exact ⟨q0, q1, qP, va_K.moved (u := U) (U := U.calling g mk a) (Vm.Alike.refl U.vm) qK, qD⟩, va_recv hK hP (ci := 6) (q0 := ktp) rfl e_40, fun U hU hW => ⟨rfl, by rw [hU], by rw [hU]; exact hP, va_K.moved hW.alike hK, hD.weaken (fun _ _ _ _ => trivial)⟩⟩ rfl rfl hl.1 rfl (lv_room (Nat.le_of_ble_eq_true rfl)) dX4_readOne_54 ⟨Nat.le_of_ble_eq_true rfl, Nat.le_of_ble_eq_true rfl⟩) hS (fun q _ h => hFc q h) hFc (fun u t H1 locs ht hvm w_114 hB hz1 hk1 hS => ?_)
    obtain ⟨ws_115, ty_116, hm_117, ht_119, hP1, hK1, hD1, hx_118⟩ := hB
    rw [ht] at hP1
    have hK := va_K.moved hvm.symm hK1
    have hD := hD1.weaken (fun _ _ _ h => hFc _ h)
    generalize H1 = H at hP1 hS ⊢
    have hP := hP1
    have e_120 := hm_117.objK e_39 (by decide)
    obtain ⟨g_122, e_121, h_123⟩ := hm_117.obj e_40
    obtain ⟨z_124, z_125, z_126, z_127, rfl⟩ := smX6 h_123
    obtain ⟨f_129, e_128⟩ := hm_117.arrI e_41
    have u_130 := ht_119 _ _ u_43
    obtain ⟨f_132, e_131⟩ := hm_117.arrI e_44
    have u_133 := ht_119 _ _ u_46
    have hsm := hsm.tr (hm_117.mono (by decide))
    have htx := htx.tr ht_119
    obtain ⟨k_134, s_135, e_136, h_137, h_138, h_139, e_140⟩ := hx_118
    refine lv_iload_n hx hb dX4_readOne_57 rfl (lv_at hl 0 rfl) ?_
    refine lv_if_ne (tgt := 86) hx hb dX4_readOne_58 (by decide) (fun c_141 => absurd (by decide) c_141) (fun c_141 => ?_)
    refine lv_aload_n hx hb dX4_readOne_61 rfl (lv_at hl 1 rfl) ?_
    refine lv_iload_n hx hb dX4_readOne_62 rfl (lv_at hl 2 rfl) ?_
    refine lv_iconst (v := 1) hx hb dX4_readOne_63 (by decide) ?_
    refine lv_iadd hx hb dX4_readOne_64 ?_
    refine tp_i (y := 5) (by decide) ?_
    have hFc := free_all hD hS hA
    refine va_calli (va_runV (As := [.int 5]) (rest := []) ⟨hx, hb, hml, hown, hts⟩ (r_readEither5 l D ρ ws_115 ty_116 adK adV fo rd krd tp ktp cd bb tl  H.size (⟨s_135, e_136, cc_3, ra_4, rb_5, rc_6, rv_7, re_8, nI k_134, by omega, by omega, by omega, by omega, e_120, e_140, wr_16, wt_17, ⟨k_18, c9_19, t_20, f_129, e_128, u_130, w_24⟩, ⟨k_25, c9_26, t_27, f_132, e_131, u_133, w_31⟩⟩ : RS ρ ws_115 ty_116 rd krd tp ktp cd bb tl)) (cwV 1 hts gX4_readOne_X4_readEither rfl rfl rfl (by decide +kernel) ⟨Nat.le_of_ble_eq_true rfl, Nat.le_of_ble_eq_true rfl⟩) ⟨fun a U g mk q => by obtain ⟨q0, q1, qP, qK, qD, qS⟩ := q; exact ⟨q0, q1, qP, va_K.moved (u := U) (U := U.calling g mk a) (Vm.Alike.refl U.vm) qK, qD, SZ.same rfl rfl qS⟩, va_recv hK hP (ci := 4) (q0 := krd) rfl e_120, fun U hU hW => ⟨rfl, by rw [hU], by rw [hU]; exact hP, va_K.moved hW.alike hK, hD.weaken (fun _ _ _ _ => trivial), hsz9.go hS hW hU hFc⟩⟩ rfl rfl hl.1 rfl (lv_room (Nat.le_of_ble_eq_true rfl)) dX4_readOne_65 ⟨Nat.le_of_ble_eq_true rfl, Nat.le_of_ble_eq_true rfl⟩) hS (fun q _ h => hFc q h) hFc (fun r_142 u t H1 locs ht hvm w_143 hB hz1 hk1 hS => ?_)
    obtain ⟨ws_144, ty_145, hm_146, ht_148, hP1, hK1, hD1, hx_147⟩ := hB
    rw [ht] at hP1
    have hK := va_K.moved hvm.symm hK1
    have hD := hD1.weaken (fun _ _ _ h => hFc _ h)
    generalize H1 = H at hP1 hS ⊢
    have hP := hP1
    obtain ⟨g_150, e_149, h_151⟩ := hm_146.obj e_120
    obtain ⟨z_152, z_153, z_154, z_155, z_156, z_157, rfl⟩ := smX4 h_151
    obtain ⟨g_159, e_158, h_160⟩ := hm_146.obj e_140
    obtain ⟨z_161, z_162, z_163, z_164, rfl⟩ := smX6 h_160
    obtain ⟨f_166, e_165⟩ := hm_146.arrI e_128
    have u_167 := ht_148 _ _ u_130
    obtain ⟨f_169, e_168⟩ := hm_146.arrI e_131
    have u_170 := ht_148 _ _ u_133
    have hsm := hsm.tr (hm_146.mono (by decide))
    have htx := htx.tr ht_148
    obtain ⟨ts_171, te_172, cc_173, ra_174, rb_175, rc_176, rv_177, re_178, ya_179, h1_180, h2_181, h3_182, h4_183, er_184, et_185, wr_186, wt_187, ⟨k_188, c9_189, t_190, f_191, e_192, u_193, w_194⟩, ⟨k_195, c9_196, t_197, f_198, e_199, u_200, w_201⟩⟩ := id hx_147
    refine lv_if_eq (tgt := 84) hx hb dX4_readOne_68 (by decide) (fun c_202 => ?_) (fun c_202 => ?_)
    · refine lv_iconst (v := 0) hx hb dX4_readOne_84 (by decide) ?_
      exact W.zret (v := 0) hx hb hr rfl (fun t ht hW => ⟨⟨0, (), rfl, Or.inl rfl, ws_144, ty_145, hsm, htx, by rw [ht]; exact hP, va_K.moved hW.alike hK, hD, (⟨ts_171, te_172, cc_173, ra_174, rb_175, rc_176, rv_177, re_178, ya_179, by omega, by omega, by omega, by omega, er_184, et_185, wr_186, wt_187, ⟨k_188, c9_189, t_190, f_191, e_192, u_193, w_194⟩, ⟨k_195, c9_196, t_197, f_198, e_199, u_200, w_201⟩⟩ : RS ρ ws_144 ty_145 rd krd tp ktp cd bb tl)⟩, hS.F ht⟩) hS.2.2 dX4_readOne_85
    refine lv_aload_n hx hb dX4_readOne_71 rfl (lv_at hl 1 rfl) ?_
    refine lv_bipush (v := 41) hx hb dX4_readOne_72 (by decide) ?_
    have hFc := free_all hD hS hA
    refine va_calli (va_runV (As := [.int 41]) (rest := []) ⟨hx, hb, hml, hown, hts⟩ (r_readByte l D ρ ws_144 ty_145 adK adV fo rd krd tp ktp cd bb tl 41 H.size (⟨ts_171, te_172, cc_173, ra_174, rb_175, rc_176, rv_177, re_178, ya_179, by omega, by omega, by omega, by omega, er_184, et_185, wr_186, wt_187, ⟨k_188, c9_189, t_190, f_191, e_192, u_193, w_194⟩, ⟨k_195, c9_196, t_197, f_198, e_199, u_200, w_201⟩⟩ : RS ρ ws_144 ty_145 rd krd tp ktp cd bb tl)) (cwV 1 hts gX4_readOne_X4_readByte rfl rfl rfl (by decide +kernel) ⟨Nat.le_of_ble_eq_true rfl, Nat.le_of_ble_eq_true rfl⟩) ⟨fun a U g mk q => by obtain ⟨q0, q1, qP, qK, qD, qS⟩ := q; exact ⟨q0, q1, qP, va_K.moved (u := U) (U := U.calling g mk a) (Vm.Alike.refl U.vm) qK, qD, SZ.same rfl rfl qS⟩, va_recv hK hP (ci := 4) (q0 := krd) rfl er_184, fun U hU hW => ⟨rfl, by rw [hU], by rw [hU]; exact hP, va_K.moved hW.alike hK, hD.weaken (fun _ _ _ _ => trivial), hsz9.go hS hW hU hFc⟩⟩ rfl rfl hl.1 rfl (lv_room (Nat.le_of_ble_eq_true rfl)) dX4_readOne_74 ⟨Nat.le_of_ble_eq_true rfl, Nat.le_of_ble_eq_true rfl⟩) hS (fun q _ h => hFc q h) hFc (fun r_203 u t H1 locs ht hvm w_204 hB hz1 hk1 hS => ?_)
    obtain ⟨ws_205, ty_206, hm_207, ht_209, hP1, hK1, hD1, hx_208⟩ := hB
    rw [ht] at hP1
    have hK := va_K.moved hvm.symm hK1
    have hD := hD1.weaken (fun _ _ _ h => hFc _ h)
    generalize H1 = H at hP1 hS ⊢
    have hP := hP1
    obtain ⟨g_211, e_210, h_212⟩ := hm_207.obj er_184
    obtain ⟨z_213, z_214, z_215, z_216, z_217, z_218, rfl⟩ := smX4 h_212
    obtain ⟨g_220, e_219, h_221⟩ := hm_207.obj et_185
    obtain ⟨z_222, z_223, z_224, z_225, rfl⟩ := smX6 h_221
    obtain ⟨f_227, e_226⟩ := hm_207.arrI e_192
    have u_228 := ht_209 _ _ u_193
    obtain ⟨f_230, e_229⟩ := hm_207.arrI e_199
    have u_231 := ht_209 _ _ u_200
    have hsm := hsm.tr (hm_207.mono (by decide))
    have htx := htx.tr ht_209
    obtain ⟨ts_232, te_233, cc_234, ra_235, rb_236, rc_237, rv_238, re_239, ya_240, h1_241, h2_242, h3_243, h4_244, er_245, et_246, wr_247, wt_248, ⟨k_249, c9_250, t_251, f_252, e_253, u_254, w_255⟩, ⟨k_256, c9_257, t_258, f_259, e_260, u_261, w_262⟩⟩ := id hx_208
    rcases w_204 with rfl | rfl
    · refine lv_if_eq (tgt := 84) hx hb dX4_readOne_77 (by decide) (fun c_263 => ?_) (fun c_263 => absurd (by decide) c_263)
      refine lv_iconst (v := 0) hx hb dX4_readOne_84 (by decide) ?_
      exact W.zret (v := 0) hx hb hr rfl (fun t ht hW => ⟨⟨0, (), rfl, Or.inl rfl, ws_205, ty_206, hsm, htx, by rw [ht]; exact hP, va_K.moved hW.alike hK, hD, (⟨ts_232, te_233, cc_234, ra_235, rb_236, rc_237, rv_238, re_239, ya_240, by omega, by omega, by omega, by omega, er_245, et_246, wr_247, wt_248, ⟨k_249, c9_250, t_251, f_252, e_253, u_254, w_255⟩, ⟨k_256, c9_257, t_258, f_259, e_260, u_261, w_262⟩⟩ : RS ρ ws_205 ty_206 rd krd tp ktp cd bb tl)⟩, hS.F ht⟩) hS.2.2 dX4_readOne_85
    refine lv_if_eq (tgt := 84) hx hb dX4_readOne_77 (by decide) (fun c_264 => absurd c_264 (by decide)) (fun c_264 => ?_)
    refine lv_iconst (v := 1) hx hb dX4_readOne_80 (by decide) ?_
    refine lv_goto (tgt := 85) hx hb dX4_readOne_81 (by decide) ?_
    exact W.zret (v := 1) hx hb hr rfl (fun t ht hW => ⟨⟨1, (), rfl, Or.inr rfl, ws_205, ty_206, hsm, htx, by rw [ht]; exact hP, va_K.moved hW.alike hK, hD, (⟨ts_232, te_233, cc_234, ra_235, rb_236, rc_237, rv_238, re_239, ya_240, by omega, by omega, by omega, by omega, er_245, et_246, wr_247, wt_248, ⟨k_249, c9_250, t_251, f_252, e_253, u_254, w_255⟩, ⟨k_256, c9_257, t_258, f_259, e_260, u_261, w_262⟩⟩ : RS ρ ws_205 ty_206 rd krd tp ktp cd bb tl)⟩, hS.F ht⟩) hS.2.2 dX4_readOne_85
  refine lv_istore_n (lv' := [(2, .int 1), (0, .ref rd), (1, .int 4)]) hx hb dX4_readOne_9 rfl hl (by decide) rfl (fun ls hl => ?_)
  refine lv_iload_n hx hb dX4_readOne_10 rfl (lv_at hl 0 rfl) ?_
  refine lv_if_ne (tgt := 31) hx hb dX4_readOne_11 (by decide) (fun c_265 => ?_) (fun c_265 => absurd c_265 (by decide))
  refine lv_iload_n hx hb dX4_readOne_31 rfl (lv_at hl 2 rfl) ?_
  refine lv_bipush (v := 6) hx hb dX4_readOne_32 (by decide) ?_
  refine lv_icmp_lt (tgt := 50) hx hb dX4_readOne_34 (by decide) (fun c_266 => ?_) (fun c_266 => absurd (by decide) c_266)
  refine lv_aload_n hx hb dX4_readOne_50 rfl (lv_at hl 1 rfl) ?_
  refine va_get (D := D) (ci := 4) (v := .ref tp) (C := RX4) (T := TX4) (N := 8) hx hb hts hin4 hown hK hP krd e_39 rfl 0 (by decide) (hts (.fieldLink RX4 12 "HoneyHouse$RuleReader" "tape" "LHoneyHouse$Tape;") (List.mem_of_getElem? (i := 1) rfl)) (fun _ h9 => h9) rfl dX4_readOne_51 ?_
  have hFc := free_all hD hS hA
  refine va_callv (va_runV (As := []) (rest := []) ⟨hx, hb, hml, hown, hts⟩ (a_advance l D ρ ws_34 ty_35 tp ktp tl te_2 ya_9 (nI ts_1) bb k_25 c9_26 t_27 f_45 H.size (by omega) (by omega) e_40 e_44 u_46 wt_17) (cwV 0 hts gX4_readOne_X6_advance rfl rfl rfl (by decide +kernel) ⟨Nat.le_of_ble_eq_true rfl, Nat.le_of_ble_eq_true rfl⟩) ⟨fun a U g mk q => by obtain ⟨q0, q1, qP, qK, qD⟩ := q; exact ⟨q0, q1, qP, va_K.moved (u := U) (U := U.calling g mk a) (Vm.Alike.refl U.vm) qK, qD⟩, va_recv hK hP (ci := 6) (q0 := ktp) rfl e_40, fun U hU hW => ⟨rfl, by rw [hU], by rw [hU]; exact hP, va_K.moved hW.alike hK, hD.weaken (fun _ _ _ _ => trivial)⟩⟩ rfl rfl hl.1 rfl (lv_room (Nat.le_of_ble_eq_true rfl)) dX4_readOne_54 ⟨Nat.le_of_ble_eq_true rfl, Nat.le_of_ble_eq_true rfl⟩) hS (fun q _ h => hFc q h) hFc (fun u t H1 locs ht hvm w_268 hB hz1 hk1 hS => ?_)
  obtain ⟨ws_269, ty_270, hm_271, ht_273, hP1, hK1, hD1, hx_272⟩ := hB
  rw [ht] at hP1
  have hK := va_K.moved hvm.symm hK1
  have hD := hD1.weaken (fun _ _ _ h => hFc _ h)
  generalize H1 = H at hP1 hS ⊢
  have hP := hP1
  have e_274 := hm_271.objK e_39 (by decide)
  obtain ⟨g_276, e_275, h_277⟩ := hm_271.obj e_40
  obtain ⟨z_278, z_279, z_280, z_281, rfl⟩ := smX6 h_277
  obtain ⟨f_283, e_282⟩ := hm_271.arrI e_41
  have u_284 := ht_273 _ _ u_43
  obtain ⟨f_286, e_285⟩ := hm_271.arrI e_44
  have u_287 := ht_273 _ _ u_46
  have hsm := hsm.tr (hm_271.mono (by decide))
  have htx := htx.tr ht_273
  obtain ⟨k_288, s_289, e_290, h_291, h_292, h_293, e_294⟩ := hx_272
  refine lv_iload_n hx hb dX4_readOne_57 rfl (lv_at hl 0 rfl) ?_
  refine lv_if_ne (tgt := 86) hx hb dX4_readOne_58 (by decide) (fun c_295 => ?_) (fun c_295 => absurd c_295 (by decide))
  refine lv_aload_n hx hb dX4_readOne_86 rfl (lv_at hl 1 rfl) ?_
  refine lv_iload_n hx hb dX4_readOne_87 rfl (lv_at hl 2 rfl) ?_
  refine lv_iconst (v := 1) hx hb dX4_readOne_88 (by decide) ?_
  refine lv_iadd hx hb dX4_readOne_89 ?_
  refine tp_i (y := 5) (by decide) ?_
  have hFc := free_all hD hS hA
  refine va_calli (va_runV (As := [.int 5]) (rest := []) ⟨hx, hb, hml, hown, hts⟩ (r_readOne5 l D ρ ws_269 ty_270 adK adV fo rd krd tp ktp cd bb tl  H.size (⟨s_289, e_290, cc_3, ra_4, rb_5, rc_6, rv_7, re_8, nI k_288, by omega, by omega, by omega, by omega, e_274, e_294, wr_16, wt_17, ⟨k_18, c9_19, t_20, f_283, e_282, u_284, w_24⟩, ⟨k_25, c9_26, t_27, f_286, e_285, u_287, w_31⟩⟩ : RS ρ ws_269 ty_270 rd krd tp ktp cd bb tl)) (cwV 1 hts gX4_readOne_X4_readOne rfl rfl rfl (by decide +kernel) ⟨Nat.le_of_ble_eq_true rfl, Nat.le_of_ble_eq_true rfl⟩) ⟨fun a U g mk q => by obtain ⟨q0, q1, qP, qK, qD, qS⟩ := q; exact ⟨q0, q1, qP, va_K.moved (u := U) (U := U.calling g mk a) (Vm.Alike.refl U.vm) qK, qD, SZ.same rfl rfl qS⟩, va_recv hK hP (ci := 4) (q0 := krd) rfl e_274, fun U hU hW => ⟨rfl, by rw [hU], by rw [hU]; exact hP, va_K.moved hW.alike hK, hD.weaken (fun _ _ _ _ => trivial), hsz9.go hS hW hU hFc⟩⟩ rfl rfl hl.1 rfl (lv_room (Nat.le_of_ble_eq_true rfl)) dX4_readOne_90 ⟨Nat.le_of_ble_eq_true rfl, Nat.le_of_ble_eq_true rfl⟩) hS (fun q _ h => hFc q h) hFc (fun r_296 u t H1 locs ht hvm w_297 hB hz1 hk1 hS => ?_)
  obtain ⟨ws_298, ty_299, hm_300, ht_302, hP1, hK1, hD1, hx_301⟩ := hB
  rw [ht] at hP1
  have hK := va_K.moved hvm.symm hK1
  have hD := hD1.weaken (fun _ _ _ h => hFc _ h)
  generalize H1 = H at hP1 hS ⊢
  have hP := hP1
  obtain ⟨g_304, e_303, h_305⟩ := hm_300.obj e_274
  obtain ⟨z_306, z_307, z_308, z_309, z_310, z_311, rfl⟩ := smX4 h_305
  obtain ⟨g_313, e_312, h_314⟩ := hm_300.obj e_294
  obtain ⟨z_315, z_316, z_317, z_318, rfl⟩ := smX6 h_314
  obtain ⟨f_320, e_319⟩ := hm_300.arrI e_282
  have u_321 := ht_302 _ _ u_284
  obtain ⟨f_323, e_322⟩ := hm_300.arrI e_285
  have u_324 := ht_302 _ _ u_287
  have hsm := hsm.tr (hm_300.mono (by decide))
  have htx := htx.tr ht_302
  obtain ⟨ts_325, te_326, cc_327, ra_328, rb_329, rc_330, rv_331, re_332, ya_333, h1_334, h2_335, h3_336, h4_337, er_338, et_339, wr_340, wt_341, ⟨k_342, c9_343, t_344, f_345, e_346, u_347, w_348⟩, ⟨k_349, c9_350, t_351, f_352, e_353, u_354, w_355⟩⟩ := id hx_301
  refine lv_istore_n (lv' := [(3, .int r_296), (2, .int 1), (0, .ref rd), (1, .int 4)]) hx hb dX4_readOne_93 rfl hl (by decide) rfl (fun ls hl => ?_)
  refine lv_aload_n hx hb dX4_readOne_94 rfl (lv_at hl 2 rfl) ?_
  refine lv_iconst (v := (-1)) hx hb dX4_readOne_95 (by decide) ?_
  have hFc := free_all hD hS hA
  refine va_callv (va_runV (As := [.int (-1)]) (rest := []) ⟨hx, hb, hml, hown, hts⟩ (r_addCode l D ρ ws_298 ty_299 adK adV fo rd krd tp ktp cd bb tl (-1) H.size (⟨ts_325, te_326, cc_327, ra_328, rb_329, rc_330, rv_331, re_332, ya_333, by omega, by omega, by omega, by omega, er_338, et_339, wr_340, wt_341, ⟨k_342, c9_343, t_344, f_345, e_346, u_347, w_348⟩, ⟨k_349, c9_350, t_351, f_352, e_353, u_354, w_355⟩⟩ : RS ρ ws_298 ty_299 rd krd tp ktp cd bb tl)) (cwV 1 hts gX4_readOne_X4_addCode rfl rfl rfl (by decide +kernel) ⟨Nat.le_of_ble_eq_true rfl, Nat.le_of_ble_eq_true rfl⟩) ⟨fun a U g mk q => by obtain ⟨q0, q1, qP, qK, qD, qS⟩ := q; exact ⟨q0, q1, qP, va_K.moved (u := U) (U := U.calling g mk a) (Vm.Alike.refl U.vm) qK, qD, SZ.same rfl rfl qS⟩, va_recv hK hP (ci := 4) (q0 := krd) rfl er_338, fun U hU hW => ⟨rfl, by rw [hU], by rw [hU]; exact hP, va_K.moved hW.alike hK, hD.weaken (fun _ _ _ _ => trivial), hsz9.go hS hW hU hFc⟩⟩ rfl rfl hl.1 rfl (lv_room (Nat.le_of_ble_eq_true rfl)) dX4_readOne_96 ⟨Nat.le_of_ble_eq_true rfl, Nat.le_of_ble_eq_true rfl⟩) hS (fun q _ h => hFc q h) hFc (fun u t H1 locs ht hvm w_357 hB hz1 hk1 hS => ?_)
  obtain ⟨ws_358, ty_359, hm_360, ht_362, hP1, hK1, hD1, hx_361⟩ := hB
  rw [ht] at hP1
  have hK := va_K.moved hvm.symm hK1
  have hD := hD1.weaken (fun _ _ _ h => hFc _ h)
  generalize H1 = H at hP1 hS ⊢
  have hP := hP1
  obtain ⟨g_364, e_363, h_365⟩ := hm_360.obj er_338
  obtain ⟨z_366, z_367, z_368, z_369, z_370, z_371, rfl⟩ := smX4 h_365
  obtain ⟨g_373, e_372, h_374⟩ := hm_360.obj et_339
  obtain ⟨z_375, z_376, z_377, z_378, rfl⟩ := smX6 h_374
  obtain ⟨f_380, e_379⟩ := hm_360.arrI e_346
  have u_381 := ht_362 _ _ u_347
  obtain ⟨f_383, e_382⟩ := hm_360.arrI e_353
  have u_384 := ht_362 _ _ u_354
  have hsm := hsm.tr (hm_360.mono (by decide))
  have htx := htx.tr ht_362
  obtain ⟨ts_385, te_386, cc_387, ra_388, rb_389, rc_390, rv_391, re_392, ya_393, h1_394, h2_395, h3_396, h4_397, er_398, et_399, wr_400, wt_401, ⟨k_402, c9_403, t_404, f_405, e_406, u_407, w_408⟩, ⟨k_409, c9_410, t_411, f_412, e_413, u_414, w_415⟩⟩ := id hx_361
  refine lv_iload_n hx hb dX4_readOne_99 rfl (lv_at hl 0 rfl) ?_
  exact W.zret (v := r_296) hx hb hr (by rcases w_297 with h9 | h9 <;> rw [h9] <;> rfl) (fun t ht hW => ⟨⟨r_296, (), rfl, w_297, ws_358, ty_359, hsm, htx, by rw [ht]; exact hP, va_K.moved hW.alike hK, hD, (⟨ts_385, te_386, cc_387, ra_388, rb_389, rc_390, rv_391, re_392, ya_393, by omega, by omega, by omega, by omega, er_398, et_399, wr_400, wt_401, ⟨k_402, c9_403, t_404, f_405, e_406, u_407, w_408⟩, ⟨k_409, c9_410, t_411, f_412, e_413, u_414, w_415⟩⟩ : RS ρ ws_358 ty_359 rd krd tp ktp cd bb tl)⟩, hS.F ht⟩) hS.2.2 dX4_readOne_100
set_option maxHeartbeats 4000000 in
set_option maxRecDepth 100000 in
theorem r_readEither4 (l : Launch) (D : va_G) (ρ : Nat → Nat) (ws : va_W) (tys : List (ClassId × FieldType)) (adK adV : Nat → Nat) (fo : Option Nat) (rd krd tp ktp cd bb tl : Nat)  (sz : Nat) (R0 : RS ρ ws tys rd krd tp ktp cd bb tl)  : Met l yX4_readEither wsX4_readEither ({ frames := 12, cells := 0, slots := 0, locals := 268 }) (va_Pc [.ref rd, .int 4] (fun U => U.heap.size = sz ∧ va_P D vwCl ws U.heap ∧ va_K D vwCl tys U ∧ va_D (fun _ => True) ws ∧ SZ adK adV fo (va_A ws sz) U U.heap)) (va_Qi (fun (r : Int32) (_ : Unit) => r = 0 ∨ r = 1) (fun (_ : Unit) (t : State) => ∃ (ws' : va_W) (tys' : List (ClassId × FieldType)), sm ρ [4, 6] ws ws' ∧ tyx tys tys' ∧ va_P D vwCl ws' t.heap ∧ va_K D vwCl tys' t ∧ va_D (va_A ws sz) ws' ∧ (RS ρ ws' tys' rd krd tp ktp cd bb tl)) (va_A ws sz)) 0 0 (va_A ws sz) := by
  refine Met.ofW (cc := cX4_readEither) (maxL := 6) (ret := (some .boolean)) (by decide) rfl ?_
  intro p e s m args below meth c s₁ B hml hv
  obtain ⟨rfl, hsz, hP, hK, hD0, hsz9⟩ := hv
  have hx := B.exec
  have hb := B.bytes
  have hr := B.returns
  have hts := atoms_spec (ws := wsX4_readEither) B.pre
  have hown : s.vm.findClass RX4 = some m.cls := findClass_of_methodNamed B.named
  have hlocks := B.notSynchronized
  subst hsz
  have hD := hD0.self (sz := s.heap.size)
  generalize hAe : va_A ws s.heap.size = A at hD hsz9 ⊢
  have hA : ∀ q : Nat, s.heap.size ≤ q → A q := fun q h => by rw [← hAe]; exact Or.inr h
  have hS : va_S A s.heap s.heap [] := va_S.rf
  have hsm : sm ρ [4, 6] ws ws := sm.rf ws
  have htx : tyx tys tys := tyx.rf tys
  have hin4 : ∀ w ∈ u_ws RX4 TX4 8, w ∈ wsX4_readEither := (fun _ h9 => List.mem_cons_of_mem _ (List.mem_append_left _ ((List.mem_append_right _ h9))))
  have hl := lv_entry ([.ref rd, .int 4]) (n := 6) (Nat.le_of_ble_eq_true rfl)
  rw [lg_entry_eq]
  generalize (lg_sl ([.ref rd, .int 4]) ++ List.replicate (6 - (lg_sl ([.ref rd, .int 4])).length) Slot.unset).toArray = ls at hl ⊢
  have hl : lv_has ls 6 [(0, .ref rd), (1, .int 4)] := hl
  obtain ⟨ts_1, te_2, cc_3, ra_4, rb_5, rc_6, rv_7, re_8, ya_9, h1_10, h2_11, h3_12, h4_13, er_14, et_15, wr_16, wt_17, ⟨k_18, c9_19, t_20, f_21, e_22, u_23, w_24⟩, ⟨k_25, c9_26, t_27, f_28, e_29, u_30, w_31⟩⟩ := id R0
  refine lv_aload_n hx hb dX4_readEither_0 rfl (lv_at hl 0 rfl) ?_
  refine lv_iload_n hx hb dX4_readEither_1 rfl (lv_at hl 1 rfl) ?_
  have hFc := free_all hD hS hA
  refine va_calli (va_runV (As := [.int 4]) (rest := []) ⟨hx, hb, hml, hown, hts⟩ (r_readOne4 l D ρ ws tys adK adV fo rd krd tp ktp cd bb tl  s.heap.size (⟨ts_1, te_2, cc_3, ra_4, rb_5, rc_6, rv_7, re_8, ya_9, by omega, by omega, by omega, by omega, er_14, et_15, wr_16, wt_17, ⟨k_18, c9_19, t_20, f_21, e_22, u_23, w_24⟩, ⟨k_25, c9_26, t_27, f_28, e_29, u_30, w_31⟩⟩ : RS ρ ws tys rd krd tp ktp cd bb tl)) (cwV 1 hts gX4_readEither_X4_readOne rfl rfl rfl (by decide +kernel) ⟨Nat.le_of_ble_eq_true rfl, Nat.le_of_ble_eq_true rfl⟩) ⟨fun a U g mk q => by obtain ⟨q0, q1, qP, qK, qD, qS⟩ := q; exact ⟨q0, q1, qP, va_K.moved (u := U) (U := U.calling g mk a) (Vm.Alike.refl U.vm) qK, qD, SZ.same rfl rfl qS⟩, va_recv hK hP (ci := 4) (q0 := krd) rfl er_14, fun U hU hW => ⟨rfl, by rw [hU], by rw [hU]; exact hP, va_K.moved hW.alike hK, hD.weaken (fun _ _ _ _ => trivial), hsz9.go hS hW hU hFc⟩⟩ rfl rfl hl.1 rfl (lv_room (Nat.le_of_ble_eq_true rfl)) dX4_readEither_2 ⟨Nat.le_of_ble_eq_true rfl, Nat.le_of_ble_eq_true rfl⟩) hS (fun q _ h => hFc q h) hFc (fun r_32 u t H1 locs ht hvm w_33 hB hz1 hk1 hS => ?_)
  obtain ⟨ws_34, ty_35, hm_36, ht_38, hP1, hK1, hD1, hx_37⟩ := hB
  rw [ht] at hP1
  have hK := va_K.moved hvm.symm hK1
  have hD := hD1.weaken (fun _ _ _ h => hFc _ h)
  generalize H1 = H at hP1 hS ⊢
  have hP := hP1
  obtain ⟨g_40, e_39, h_41⟩ := hm_36.obj er_14
  obtain ⟨z_42, z_43, z_44, z_45, z_46, z_47, rfl⟩ := smX4 h_41
  obtain ⟨g_49, e_48, h_50⟩ := hm_36.obj et_15
  obtain ⟨z_51, z_52, z_53, z_54, rfl⟩ := smX6 h_50
  obtain ⟨f_56, e_55⟩ := hm_36.arrI e_22
  have u_57 := ht_38 _ _ u_23
  obtain ⟨f_59, e_58⟩ := hm_36.arrI e_29
  have u_60 := ht_38 _ _ u_30
  have hsm := hsm.tr (hm_36.mono (by decide))
  have htx := htx.tr ht_38
  obtain ⟨ts_61, te_62, cc_63, ra_64, rb_65, rc_66, rv_67, re_68, ya_69, h1_70, h2_71, h3_72, h4_73, er_74, et_75, wr_76, wt_77, ⟨k_78, c9_79, t_80, f_81, e_82, u_83, w_84⟩, ⟨k_85, c9_86, t_87, f_88, e_89, u_90, w_91⟩⟩ := id hx_37
  refine lv_istore_n (lv' := [(2, .int r_32), (0, .ref rd), (1, .int 4)]) hx hb dX4_readEither_5 rfl hl (by decide) rfl (fun ls hl => ?_)
  refine lv_iconst (v := 0) hx hb dX4_readEither_6 (by decide) ?_
  refine lv_istore_n (lv' := [(3, .int 0), (2, .int r_32), (0, .ref rd), (1, .int 4)]) hx hb dX4_readEither_7 rfl hl (by decide) rfl (fun ls hl => ?_)
  refine lv_iconst (v := 0) hx hb dX4_readEither_8 (by decide) ?_
  refine lv_istore (lv' := [(4, .int 0), (3, .int 0), (2, .int r_32), (0, .ref rd), (1, .int 4)]) hx hb dX4_readEither_9 hl (by decide) rfl (fun ls hl => ?_)
  refine lp_V (nL := 6) (σ := Nat × Int32 × Int32) (lv := fun x9 => [(4, .int (nI x9.1)), (2, .int x9.2.1), (3, .int x9.2.2), (1, .int 4), (0, .ref rd)]) (μ := fun x9 => 400 - x9.1) (J := fun x9 ws9 => sm ρ [4, 6] ws_34 ws9 ∧ (∃ ty9 : List (ClassId × FieldType), va_K D vwCl ty9 s ∧ tyx tys ty9 ∧ RS ρ ws9 ty9 rd krd tp ktp cd bb tl) ∧ (x9.1 ≤ 400) ∧ (x9.2.1 = 0 ∨ x9.2.1 = 1) ∧ (x9.2.2 = 0 ∨ x9.2.2 = 1)) (fun x9 ws_99 H locs ls hj hP hD hS hl ih_92 => ?_) (0, r_32, 0) ws_34 _ _ ls ⟨sm.rf _, ⟨ty_35, hK, htx, (⟨ts_61, te_62, cc_63, ra_64, rb_65, rc_66, rv_67, re_68, ya_69, by omega, by omega, by omega, by omega, er_74, et_75, wr_76, wt_77, ⟨k_78, c9_79, t_80, f_81, e_82, u_83, w_84⟩, ⟨k_85, c9_86, t_87, f_88, e_89, u_90, w_91⟩⟩ : RS ρ ws_34 ty_35 rd krd tp ktp cd bb tl)⟩, (show 0 ≤ 400 from by omega), (show r_32 = 0 ∨ r_32 = 1 from w_33), (show 0 = 0 ∨ 0 = 1 from Or.inl rfl)⟩ hP hD hS (lv_sub hl [0, 2, 1, 4, 3] rfl)
  obtain ⟨i_93, x_94, y_95⟩ := x9
  replace hj : sm ρ [4, 6] ws_34 ws_99 ∧ (∃ ty9 : List (ClassId × FieldType), va_K D vwCl ty9 s ∧ tyx tys ty9 ∧ RS ρ ws_99 ty9 rd krd tp ktp cd bb tl) ∧ (i_93 ≤ 400) ∧ (x_94 = 0 ∨ x_94 = 1) ∧ (y_95 = 0 ∨ y_95 = 1) := hj
  obtain ⟨hm_100, hR_102, hi_96, hbx_97, hby_98⟩ := hj
  obtain ⟨g_104, e_103, h_105⟩ := hm_100.obj er_74
  obtain ⟨z_106, z_107, z_108, z_109, z_110, z_111, rfl⟩ := smX4 h_105
  obtain ⟨g_113, e_112, h_114⟩ := hm_100.obj et_75
  obtain ⟨z_115, z_116, z_117, z_118, rfl⟩ := smX6 h_114
  obtain ⟨f_120, e_119⟩ := hm_100.arrI e_82
  obtain ⟨f_122, e_121⟩ := hm_100.arrI e_89
  have hsm := hsm.tr (hm_100.mono (by decide))
  obtain ⟨ty_123, hK, htx, hR_124⟩ := hR_102
  obtain ⟨ts_125, te_126, cc_127, ra_128, rb_129, rc_130, rv_131, re_132, ya_133, h1_134, h2_135, h3_136, h4_137, er_138, et_139, wr_140, wt_141, ⟨k_142, c9_143, t_144, f_145, e_146, u_147, w_148⟩, ⟨k_149, c9_150, t_151, f_152, e_153, u_154, w_155⟩⟩ := id hR_124
  have hlp_101 := hm_100
  have hl : lv_has ls 6 [(4, .int (nI i_93)), (2, .int x_94), (3, .int y_95), (1, .int 4), (0, .ref rd)] := hl
  refine lv_iload hx hb dX4_readEither_11 (lv_at hl 0 rfl) ?_
  refine lv_sipush (v := 400) hx hb dX4_readEither_13 (by decide) ?_
  refine lv_icmp_ge (tgt := 101) hx hb dX4_readEither_16 (by decide) (fun c_156 => ?_) (fun c_156 => ?_)
  · have d_157 := n_le (a := 400) (b := i_93) (by omega) (by omega) c_156
    refine lv_iload_n hx hb dX4_readEither_101 rfl (lv_at hl 2 rfl) ?_
    refine lv_if_eq (tgt := 111) hx hb dX4_readEither_102 (by decide) (fun c_158 => ?_) (fun c_158 => ?_)
    · refine lv_iload_n hx hb dX4_readEither_111 rfl (lv_at hl 1 rfl) ?_
      exact W.zret (v := x_94) hx hb hr (by rcases hbx_97 with h9 | h9 <;> rw [h9] <;> rfl) (fun t ht hW => ⟨⟨x_94, (), rfl, hbx_97, ws_99, ty_123, hsm, htx, by rw [ht]; exact hP, va_K.moved hW.alike hK, hD, (⟨ts_125, te_126, cc_127, ra_128, rb_129, rc_130, rv_131, re_132, ya_133, by omega, by omega, by omega, by omega, er_138, et_139, wr_140, wt_141, ⟨k_142, c9_143, t_144, f_145, e_146, u_147, w_148⟩, ⟨k_149, c9_150, t_151, f_152, e_153, u_154, w_155⟩⟩ : RS ρ ws_99 ty_123 rd krd tp ktp cd bb tl)⟩, hS.F ht⟩) hS.2.2 dX4_readEither_112
    refine lv_aload_n hx hb dX4_readEither_105 rfl (lv_at hl 4 rfl) ?_
    refine lv_bipush (v := (-3)) hx hb dX4_readEither_106 (by decide) ?_
    have hFc := free_all hD hS hA
    refine va_callv (va_runV (As := [.int (-3)]) (rest := []) ⟨hx, hb, hml, hown, hts⟩ (r_addCode l D ρ ws_99 ty_123 adK adV fo rd krd tp ktp cd bb tl (-3) H.size (⟨ts_125, te_126, cc_127, ra_128, rb_129, rc_130, rv_131, re_132, ya_133, by omega, by omega, by omega, by omega, er_138, et_139, wr_140, wt_141, ⟨k_142, c9_143, t_144, f_145, e_146, u_147, w_148⟩, ⟨k_149, c9_150, t_151, f_152, e_153, u_154, w_155⟩⟩ : RS ρ ws_99 ty_123 rd krd tp ktp cd bb tl)) (cwV 1 hts gX4_readEither_X4_addCode rfl rfl rfl (by decide +kernel) ⟨Nat.le_of_ble_eq_true rfl, Nat.le_of_ble_eq_true rfl⟩) ⟨fun a U g mk q => by obtain ⟨q0, q1, qP, qK, qD, qS⟩ := q; exact ⟨q0, q1, qP, va_K.moved (u := U) (U := U.calling g mk a) (Vm.Alike.refl U.vm) qK, qD, SZ.same rfl rfl qS⟩, va_recv hK hP (ci := 4) (q0 := krd) rfl er_138, fun U hU hW => ⟨rfl, by rw [hU], by rw [hU]; exact hP, va_K.moved hW.alike hK, hD.weaken (fun _ _ _ _ => trivial), hsz9.go hS hW hU hFc⟩⟩ rfl rfl hl.1 rfl (lv_room (Nat.le_of_ble_eq_true rfl)) dX4_readEither_108 ⟨Nat.le_of_ble_eq_true rfl, Nat.le_of_ble_eq_true rfl⟩) hS (fun q _ h => hFc q h) hFc (fun u t H1 locs ht hvm w_160 hB hz1 hk1 hS => ?_)
    obtain ⟨ws_161, ty_162, hm_163, ht_165, hP1, hK1, hD1, hx_164⟩ := hB
    rw [ht] at hP1
    have hK := va_K.moved hvm.symm hK1
    have hD := hD1.weaken (fun _ _ _ h => hFc _ h)
    generalize H1 = H at hP1 hS ⊢
    have hP := hP1
    obtain ⟨g_167, e_166, h_168⟩ := hm_163.obj er_138
    obtain ⟨z_169, z_170, z_171, z_172, z_173, z_174, rfl⟩ := smX4 h_168
    obtain ⟨g_176, e_175, h_177⟩ := hm_163.obj et_139
    obtain ⟨z_178, z_179, z_180, z_181, rfl⟩ := smX6 h_177
    obtain ⟨f_183, e_182⟩ := hm_163.arrI e_146
    have u_184 := ht_165 _ _ u_147
    obtain ⟨f_186, e_185⟩ := hm_163.arrI e_153
    have u_187 := ht_165 _ _ u_154
    have hsm := hsm.tr (hm_163.mono (by decide))
    have hlp_101 := hlp_101.tr (hm_163.mono (by decide))
    have htx := htx.tr ht_165
    obtain ⟨ts_188, te_189, cc_190, ra_191, rb_192, rc_193, rv_194, re_195, ya_196, h1_197, h2_198, h3_199, h4_200, er_201, et_202, wr_203, wt_204, ⟨k_205, c9_206, t_207, f_208, e_209, u_210, w_211⟩, ⟨k_212, c9_213, t_214, f_215, e_216, u_217, w_218⟩⟩ := id hx_164
    refine lv_iload_n hx hb dX4_readEither_111 rfl (lv_at hl 1 rfl) ?_
    exact W.zret (v := x_94) hx hb hr (by rcases hbx_97 with h9 | h9 <;> rw [h9] <;> rfl) (fun t ht hW => ⟨⟨x_94, (), rfl, hbx_97, ws_161, ty_162, hsm, htx, by rw [ht]; exact hP, va_K.moved hW.alike hK, hD, (⟨ts_188, te_189, cc_190, ra_191, rb_192, rc_193, rv_194, re_195, ya_196, by omega, by omega, by omega, by omega, er_201, et_202, wr_203, wt_204, ⟨k_205, c9_206, t_207, f_208, e_209, u_210, w_211⟩, ⟨k_212, c9_213, t_214, f_215, e_216, u_217, w_218⟩⟩ : RS ρ ws_161 ty_162 rd krd tp ktp cd bb tl)⟩, hS.F ht⟩) hS.2.2 dX4_readEither_112
  have d_219 := n_nle (a := 400) (b := i_93) (by omega) (by omega) c_156
  refine lv_iload_n hx hb dX4_readEither_19 rfl (lv_at hl 1 rfl) ?_
  refine lv_if_eq (tgt := 101) hx hb dX4_readEither_20 (by decide) (fun c_220 => ?_) (fun c_220 => ?_)
  · refine lv_iload_n hx hb dX4_readEither_101 rfl (lv_at hl 2 rfl) ?_
    refine lv_if_eq (tgt := 111) hx hb dX4_readEither_102 (by decide) (fun c_221 => ?_) (fun c_221 => ?_)
    · refine lv_iload_n hx hb dX4_readEither_111 rfl (lv_at hl 1 rfl) ?_
      exact W.zret (v := x_94) hx hb hr (by rcases hbx_97 with h9 | h9 <;> rw [h9] <;> rfl) (fun t ht hW => ⟨⟨x_94, (), rfl, hbx_97, ws_99, ty_123, hsm, htx, by rw [ht]; exact hP, va_K.moved hW.alike hK, hD, (⟨ts_125, te_126, cc_127, ra_128, rb_129, rc_130, rv_131, re_132, ya_133, by omega, by omega, by omega, by omega, er_138, et_139, wr_140, wt_141, ⟨k_142, c9_143, t_144, f_145, e_146, u_147, w_148⟩, ⟨k_149, c9_150, t_151, f_152, e_153, u_154, w_155⟩⟩ : RS ρ ws_99 ty_123 rd krd tp ktp cd bb tl)⟩, hS.F ht⟩) hS.2.2 dX4_readEither_112
    refine lv_aload_n hx hb dX4_readEither_105 rfl (lv_at hl 4 rfl) ?_
    refine lv_bipush (v := (-3)) hx hb dX4_readEither_106 (by decide) ?_
    have hFc := free_all hD hS hA
    refine va_callv (va_runV (As := [.int (-3)]) (rest := []) ⟨hx, hb, hml, hown, hts⟩ (r_addCode l D ρ ws_99 ty_123 adK adV fo rd krd tp ktp cd bb tl (-3) H.size (⟨ts_125, te_126, cc_127, ra_128, rb_129, rc_130, rv_131, re_132, ya_133, by omega, by omega, by omega, by omega, er_138, et_139, wr_140, wt_141, ⟨k_142, c9_143, t_144, f_145, e_146, u_147, w_148⟩, ⟨k_149, c9_150, t_151, f_152, e_153, u_154, w_155⟩⟩ : RS ρ ws_99 ty_123 rd krd tp ktp cd bb tl)) (cwV 1 hts gX4_readEither_X4_addCode rfl rfl rfl (by decide +kernel) ⟨Nat.le_of_ble_eq_true rfl, Nat.le_of_ble_eq_true rfl⟩) ⟨fun a U g mk q => by obtain ⟨q0, q1, qP, qK, qD, qS⟩ := q; exact ⟨q0, q1, qP, va_K.moved (u := U) (U := U.calling g mk a) (Vm.Alike.refl U.vm) qK, qD, SZ.same rfl rfl qS⟩, va_recv hK hP (ci := 4) (q0 := krd) rfl er_138, fun U hU hW => ⟨rfl, by rw [hU], by rw [hU]; exact hP, va_K.moved hW.alike hK, hD.weaken (fun _ _ _ _ => trivial), hsz9.go hS hW hU hFc⟩⟩ rfl rfl hl.1 rfl (lv_room (Nat.le_of_ble_eq_true rfl)) dX4_readEither_108 ⟨Nat.le_of_ble_eq_true rfl, Nat.le_of_ble_eq_true rfl⟩) hS (fun q _ h => hFc q h) hFc (fun u t H1 locs ht hvm w_223 hB hz1 hk1 hS => ?_)
    obtain ⟨ws_224, ty_225, hm_226, ht_228, hP1, hK1, hD1, hx_227⟩ := hB
    rw [ht] at hP1
    have hK := va_K.moved hvm.symm hK1
    have hD := hD1.weaken (fun _ _ _ h => hFc _ h)
    generalize H1 = H at hP1 hS ⊢
    have hP := hP1
    obtain ⟨g_230, e_229, h_231⟩ := hm_226.obj er_138
    obtain ⟨z_232, z_233, z_234, z_235, z_236, z_237, rfl⟩ := smX4 h_231
    obtain ⟨g_239, e_238, h_240⟩ := hm_226.obj et_139
    obtain ⟨z_241, z_242, z_243, z_244, rfl⟩ := smX6 h_240
    obtain ⟨f_246, e_245⟩ := hm_226.arrI e_146
    have u_247 := ht_228 _ _ u_147
    obtain ⟨f_249, e_248⟩ := hm_226.arrI e_153
    have u_250 := ht_228 _ _ u_154
    have hsm := hsm.tr (hm_226.mono (by decide))
    have hlp_101 := hlp_101.tr (hm_226.mono (by decide))
    have htx := htx.tr ht_228
    obtain ⟨ts_251, te_252, cc_253, ra_254, rb_255, rc_256, rv_257, re_258, ya_259, h1_260, h2_261, h3_262, h4_263, er_264, et_265, wr_266, wt_267, ⟨k_268, c9_269, t_270, f_271, e_272, u_273, w_274⟩, ⟨k_275, c9_276, t_277, f_278, e_279, u_280, w_281⟩⟩ := id hx_227
    refine lv_iload_n hx hb dX4_readEither_111 rfl (lv_at hl 1 rfl) ?_
    exact W.zret (v := x_94) hx hb hr (by rcases hbx_97 with h9 | h9 <;> rw [h9] <;> rfl) (fun t ht hW => ⟨⟨x_94, (), rfl, hbx_97, ws_224, ty_225, hsm, htx, by rw [ht]; exact hP, va_K.moved hW.alike hK, hD, (⟨ts_251, te_252, cc_253, ra_254, rb_255, rc_256, rv_257, re_258, ya_259, by omega, by omega, by omega, by omega, er_264, et_265, wr_266, wt_267, ⟨k_268, c9_269, t_270, f_271, e_272, u_273, w_274⟩, ⟨k_275, c9_276, t_277, f_278, e_279, u_280, w_281⟩⟩ : RS ρ ws_224 ty_225 rd krd tp ktp cd bb tl)⟩, hS.F ht⟩) hS.2.2 dX4_readEither_112
  refine lv_aload_n hx hb dX4_readEither_23 rfl (lv_at hl 4 rfl) ?_
  have hFc := free_all hD hS hA
  refine va_calli (va_runV (As := []) (rest := []) ⟨hx, hb, hml, hown, hts⟩ (r_isAndOr l D ρ ws_99 ty_123 adK adV fo rd krd tp ktp cd bb tl  H.size (⟨ts_125, te_126, cc_127, ra_128, rb_129, rc_130, rv_131, re_132, ya_133, by omega, by omega, by omega, by omega, er_138, et_139, wr_140, wt_141, ⟨k_142, c9_143, t_144, f_145, e_146, u_147, w_148⟩, ⟨k_149, c9_150, t_151, f_152, e_153, u_154, w_155⟩⟩ : RS ρ ws_99 ty_123 rd krd tp ktp cd bb tl)) (cwV 0 hts gX4_readEither_X4_isAndOr rfl rfl rfl (by decide +kernel) ⟨Nat.le_of_ble_eq_true rfl, Nat.le_of_ble_eq_true rfl⟩) ⟨fun a U g mk q => by obtain ⟨q0, q1, qP, qK, qD, qS⟩ := q; exact ⟨q0, q1, qP, va_K.moved (u := U) (U := U.calling g mk a) (Vm.Alike.refl U.vm) qK, qD, SZ.same rfl rfl qS⟩, va_recv hK hP (ci := 4) (q0 := krd) rfl er_138, fun U hU hW => ⟨rfl, by rw [hU], by rw [hU]; exact hP, va_K.moved hW.alike hK, hD.weaken (fun _ _ _ _ => trivial), hsz9.go hS hW hU hFc⟩⟩ rfl rfl hl.1 rfl (lv_room (Nat.le_of_ble_eq_true rfl)) dX4_readEither_24 ⟨Nat.le_of_ble_eq_true rfl, Nat.le_of_ble_eq_true rfl⟩) hS (fun q _ h => hFc q h) hFc (fun r_282 u t H1 locs ht hvm w_283 hB hz1 hk1 hS => ?_)
  obtain ⟨ws_284, ty_285, hm_286, ht_288, hP1, hK1, hD1, hx_287⟩ := hB
  rw [ht] at hP1
  have hK := va_K.moved hvm.symm hK1
  have hD := hD1.weaken (fun _ _ _ h => hFc _ h)
  generalize H1 = H at hP1 hS ⊢
  have hP := hP1
  have e_289 := hm_286.objK er_138 (by decide)
  have e_290 := hm_286.objK et_139 (by decide)
  obtain ⟨f_292, e_291⟩ := hm_286.arrI e_146
  have u_293 := ht_288 _ _ u_147
  obtain ⟨f_295, e_294⟩ := hm_286.arrI e_153
  have u_296 := ht_288 _ _ u_154
  have hsm := hsm.tr (hm_286.mono (by decide))
  have hlp_101 := hlp_101.tr (hm_286.mono (by decide))
  have htx := htx.tr ht_288
  rcases w_283 with rfl | rfl
  · refine lv_if_eq (tgt := 101) hx hb dX4_readEither_27 (by decide) (fun c_297 => ?_) (fun c_297 => absurd (by decide) c_297)
    refine lv_iload_n hx hb dX4_readEither_101 rfl (lv_at hl 2 rfl) ?_
    refine lv_if_eq (tgt := 111) hx hb dX4_readEither_102 (by decide) (fun c_298 => ?_) (fun c_298 => ?_)
    · refine lv_iload_n hx hb dX4_readEither_111 rfl (lv_at hl 1 rfl) ?_
      exact W.zret (v := x_94) hx hb hr (by rcases hbx_97 with h9 | h9 <;> rw [h9] <;> rfl) (fun t ht hW => ⟨⟨x_94, (), rfl, hbx_97, ws_284, ty_285, hsm, htx, by rw [ht]; exact hP, va_K.moved hW.alike hK, hD, (⟨ts_125, te_126, cc_127, ra_128, rb_129, rc_130, rv_131, re_132, ya_133, by omega, by omega, by omega, by omega, e_289, e_290, wr_140, wt_141, ⟨k_142, c9_143, t_144, f_292, e_291, u_293, w_148⟩, ⟨k_149, c9_150, t_151, f_295, e_294, u_296, w_155⟩⟩ : RS ρ ws_284 ty_285 rd krd tp ktp cd bb tl)⟩, hS.F ht⟩) hS.2.2 dX4_readEither_112
    refine lv_aload_n hx hb dX4_readEither_105 rfl (lv_at hl 4 rfl) ?_
    refine lv_bipush (v := (-3)) hx hb dX4_readEither_106 (by decide) ?_
    have hFc := free_all hD hS hA
    refine va_callv (va_runV (As := [.int (-3)]) (rest := []) ⟨hx, hb, hml, hown, hts⟩ (r_addCode l D ρ ws_284 ty_285 adK adV fo rd krd tp ktp cd bb tl (-3) H.size (⟨ts_125, te_126, cc_127, ra_128, rb_129, rc_130, rv_131, re_132, ya_133, by omega, by omega, by omega, by omega, e_289, e_290, wr_140, wt_141, ⟨k_142, c9_143, t_144, f_292, e_291, u_293, w_148⟩, ⟨k_149, c9_150, t_151, f_295, e_294, u_296, w_155⟩⟩ : RS ρ ws_284 ty_285 rd krd tp ktp cd bb tl)) (cwV 1 hts gX4_readEither_X4_addCode rfl rfl rfl (by decide +kernel) ⟨Nat.le_of_ble_eq_true rfl, Nat.le_of_ble_eq_true rfl⟩) ⟨fun a U g mk q => by obtain ⟨q0, q1, qP, qK, qD, qS⟩ := q; exact ⟨q0, q1, qP, va_K.moved (u := U) (U := U.calling g mk a) (Vm.Alike.refl U.vm) qK, qD, SZ.same rfl rfl qS⟩, va_recv hK hP (ci := 4) (q0 := krd) rfl e_289, fun U hU hW => ⟨rfl, by rw [hU], by rw [hU]; exact hP, va_K.moved hW.alike hK, hD.weaken (fun _ _ _ _ => trivial), hsz9.go hS hW hU hFc⟩⟩ rfl rfl hl.1 rfl (lv_room (Nat.le_of_ble_eq_true rfl)) dX4_readEither_108 ⟨Nat.le_of_ble_eq_true rfl, Nat.le_of_ble_eq_true rfl⟩) hS (fun q _ h => hFc q h) hFc (fun u t H1 locs ht hvm w_300 hB hz1 hk1 hS => ?_)
    obtain ⟨ws_301, ty_302, hm_303, ht_305, hP1, hK1, hD1, hx_304⟩ := hB
    rw [ht] at hP1
    have hK := va_K.moved hvm.symm hK1
    have hD := hD1.weaken (fun _ _ _ h => hFc _ h)
    generalize H1 = H at hP1 hS ⊢
    have hP := hP1
    obtain ⟨g_307, e_306, h_308⟩ := hm_303.obj e_289
    obtain ⟨z_309, z_310, z_311, z_312, z_313, z_314, rfl⟩ := smX4 h_308
    obtain ⟨g_316, e_315, h_317⟩ := hm_303.obj e_290
    obtain ⟨z_318, z_319, z_320, z_321, rfl⟩ := smX6 h_317
    obtain ⟨f_323, e_322⟩ := hm_303.arrI e_291
    have u_324 := ht_305 _ _ u_293
    obtain ⟨f_326, e_325⟩ := hm_303.arrI e_294
    have u_327 := ht_305 _ _ u_296
    have hsm := hsm.tr (hm_303.mono (by decide))
    have hlp_101 := hlp_101.tr (hm_303.mono (by decide))
    have htx := htx.tr ht_305
    obtain ⟨ts_328, te_329, cc_330, ra_331, rb_332, rc_333, rv_334, re_335, ya_336, h1_337, h2_338, h3_339, h4_340, er_341, et_342, wr_343, wt_344, ⟨k_345, c9_346, t_347, f_348, e_349, u_350, w_351⟩, ⟨k_352, c9_353, t_354, f_355, e_356, u_357, w_358⟩⟩ := id hx_304
    refine lv_iload_n hx hb dX4_readEither_111 rfl (lv_at hl 1 rfl) ?_
    exact W.zret (v := x_94) hx hb hr (by rcases hbx_97 with h9 | h9 <;> rw [h9] <;> rfl) (fun t ht hW => ⟨⟨x_94, (), rfl, hbx_97, ws_301, ty_302, hsm, htx, by rw [ht]; exact hP, va_K.moved hW.alike hK, hD, (⟨ts_328, te_329, cc_330, ra_331, rb_332, rc_333, rv_334, re_335, ya_336, by omega, by omega, by omega, by omega, er_341, et_342, wr_343, wt_344, ⟨k_345, c9_346, t_347, f_348, e_349, u_350, w_351⟩, ⟨k_352, c9_353, t_354, f_355, e_356, u_357, w_358⟩⟩ : RS ρ ws_301 ty_302 rd krd tp ktp cd bb tl)⟩, hS.F ht⟩) hS.2.2 dX4_readEither_112
  refine lv_if_eq (tgt := 101) hx hb dX4_readEither_27 (by decide) (fun c_359 => absurd c_359 (by decide)) (fun c_359 => ?_)
  refine lv_aload_n hx hb dX4_readEither_30 rfl (lv_at hl 4 rfl) ?_
  refine va_get (D := D) (ci := 4) (v := .ref tp) (C := RX4) (T := TX4) (N := 8) hx hb hts hin4 hown hK hP krd e_289 rfl 0 (by decide) (hts (.fieldLink RX4 12 "HoneyHouse$RuleReader" "tape" "LHoneyHouse$Tape;") (List.mem_of_getElem? (i := 1) rfl)) (fun _ h9 => h9) rfl dX4_readEither_31 ?_
  refine va_ldcS hx hb hown hsz9.2.2.2.2.2.1 dX4_readEither_34 ?_
  have hFc := free_all hD hS hA
  refine va_calli (va_runV (As := [.ref (adK 2)]) (rest := []) ⟨hx, hb, hml, hown, hts⟩ (a_isWord l D ρ ws_284 ty_285 adK adV fo 2 tp ktp tl ya_133 (nI ts_125) (nI te_126) bb k_149 c9_150 t_151 f_295 H.size (by decide) e_290 e_294 u_296) (cwV 1 hts gX4_readEither_X6_isWord rfl rfl rfl (by decide +kernel) ⟨Nat.le_of_ble_eq_true rfl, Nat.le_of_ble_eq_true rfl⟩) ⟨fun a U g mk q => by obtain ⟨q0, q1, qP, qK, qD, qS⟩ := q; exact ⟨q0, q1, qP, va_K.moved (u := U) (U := U.calling g mk a) (Vm.Alike.refl U.vm) qK, qD, SZ.same rfl rfl qS⟩, va_recv hK hP (ci := 6) (q0 := ktp) rfl e_290, fun U hU hW => ⟨rfl, by rw [hU], by rw [hU]; exact hP, va_K.moved hW.alike hK, hD.weaken (fun _ _ _ _ => trivial), hsz9.go hS hW hU hFc⟩⟩ rfl rfl hl.1 rfl (lv_room (Nat.le_of_ble_eq_true rfl)) dX4_readEither_36 ⟨Nat.le_of_ble_eq_true rfl, Nat.le_of_ble_eq_true rfl⟩) hS (fun q _ h => hFc q h) hFc (fun r_360 u t H1 locs ht hvm w_361 hB hz1 hk1 hS => ?_)
  obtain ⟨ws_362, ty_363, hm_364, ht_366, hP1, hK1, hD1, hx_365⟩ := hB
  rw [ht] at hP1
  have hK := va_K.moved hvm.symm hK1
  have hD := hD1.weaken (fun _ _ _ h => hFc _ h)
  generalize H1 = H at hP1 hS ⊢
  have hP := hP1
  have e_367 := hm_364.objK e_289 (by decide)
  have e_368 := hm_364.objK e_290 (by decide)
  obtain ⟨f_370, e_369⟩ := hm_364.arrI e_291
  have u_371 := ht_366 _ _ u_293
  obtain ⟨f_373, e_372⟩ := hm_364.arrI e_294
  have u_374 := ht_366 _ _ u_296
  have hsm := hsm.tr (hm_364.mono (by decide))
  have hlp_101 := hlp_101.tr (hm_364.mono (by decide))
  have htx := htx.tr ht_366
  rcases w_361 with rfl | rfl
  · refine lv_istore (lv' := [(5, .int 0), (4, .int (nI i_93)), (2, .int x_94), (3, .int y_95), (1, .int 4), (0, .ref rd)]) hx hb dX4_readEither_39 hl (by decide) rfl (fun ls hl => ?_)
    refine lv_iload hx hb dX4_readEither_41 (lv_at hl 0 rfl) ?_
    refine lv_if_ne (tgt := 56) hx hb dX4_readEither_43 (by decide) (fun c_375 => absurd (by decide) c_375) (fun c_375 => ?_)
    refine lv_iload_n hx hb dX4_readEither_46 rfl (lv_at hl 3 rfl) ?_
    refine lv_if_eq (tgt := 56) hx hb dX4_readEither_47 (by decide) (fun c_376 => ?_) (fun c_376 => ?_)
    · refine lv_iload_n hx hb dX4_readEither_56 rfl (lv_at hl 3 rfl) ?_
      refine lv_if_ne (tgt := 65) hx hb dX4_readEither_57 (by decide) (fun c_377 => ?_) (fun c_377 => ?_)
      · refine lv_iconst (v := 1) hx hb dX4_readEither_65 (by decide) ?_
        refine lv_goto (tgt := 70) hx hb dX4_readEither_66 (by decide) ?_
        refine lv_istore_n (lv' := [(3, .int 1), (5, .int 0), (4, .int (nI i_93)), (2, .int x_94), (1, .int 4), (0, .ref rd)]) hx hb dX4_readEither_70 rfl hl (by decide) rfl (fun ls hl => ?_)
        refine lv_aload_n hx hb dX4_readEither_71 rfl (lv_at hl 5 rfl) ?_
        refine va_get (D := D) (ci := 4) (v := .ref tp) (C := RX4) (T := TX4) (N := 8) hx hb hts hin4 hown hK hP krd e_367 rfl 0 (by decide) (hts (.fieldLink RX4 12 "HoneyHouse$RuleReader" "tape" "LHoneyHouse$Tape;") (List.mem_of_getElem? (i := 1) rfl)) (fun _ h9 => h9) rfl dX4_readEither_72 ?_
        have hFc := free_all hD hS hA
        refine va_callv (va_runV (As := []) (rest := []) ⟨hx, hb, hml, hown, hts⟩ (a_advance l D ρ ws_362 ty_363 tp ktp tl te_126 ya_133 (nI ts_125) bb k_149 c9_150 t_151 f_373 H.size (by omega) (by omega) e_368 e_372 u_374 wt_141) (cwV 0 hts gX4_readEither_X6_advance rfl rfl rfl (by decide +kernel) ⟨Nat.le_of_ble_eq_true rfl, Nat.le_of_ble_eq_true rfl⟩) ⟨fun a U g mk q => by obtain ⟨q0, q1, qP, qK, qD⟩ := q; exact ⟨q0, q1, qP, va_K.moved (u := U) (U := U.calling g mk a) (Vm.Alike.refl U.vm) qK, qD⟩, va_recv hK hP (ci := 6) (q0 := ktp) rfl e_368, fun U hU hW => ⟨rfl, by rw [hU], by rw [hU]; exact hP, va_K.moved hW.alike hK, hD.weaken (fun _ _ _ _ => trivial)⟩⟩ rfl rfl hl.1 rfl (lv_room (Nat.le_of_ble_eq_true rfl)) dX4_readEither_75 ⟨Nat.le_of_ble_eq_true rfl, Nat.le_of_ble_eq_true rfl⟩) hS (fun q _ h => hFc q h) hFc (fun u t H1 locs ht hvm w_379 hB hz1 hk1 hS => ?_)
        obtain ⟨ws_380, ty_381, hm_382, ht_384, hP1, hK1, hD1, hx_383⟩ := hB
        rw [ht] at hP1
        have hK := va_K.moved hvm.symm hK1
        have hD := hD1.weaken (fun _ _ _ h => hFc _ h)
        generalize H1 = H at hP1 hS ⊢
        have hP := hP1
        have e_385 := hm_382.objK e_367 (by decide)
        obtain ⟨g_387, e_386, h_388⟩ := hm_382.obj e_368
        obtain ⟨z_389, z_390, z_391, z_392, rfl⟩ := smX6 h_388
        obtain ⟨f_394, e_393⟩ := hm_382.arrI e_369
        have u_395 := ht_384 _ _ u_371
        obtain ⟨f_397, e_396⟩ := hm_382.arrI e_372
        have u_398 := ht_384 _ _ u_374
        have hsm := hsm.tr (hm_382.mono (by decide))
        have hlp_101 := hlp_101.tr (hm_382.mono (by decide))
        have htx := htx.tr ht_384
        obtain ⟨k_399, s_400, e_401, h_402, h_403, h_404, e_405⟩ := hx_383
        refine lv_aload_n hx hb dX4_readEither_78 rfl (lv_at hl 5 rfl) ?_
        refine lv_iload_n hx hb dX4_readEither_79 rfl (lv_at hl 4 rfl) ?_
        have hFc := free_all hD hS hA
        refine va_calli (va_runV (As := [.int 4]) (rest := []) ⟨hx, hb, hml, hown, hts⟩ (r_readOne4 l D ρ ws_380 ty_381 adK adV fo rd krd tp ktp cd bb tl  H.size (⟨s_400, e_401, cc_127, ra_128, rb_129, rc_130, rv_131, re_132, nI k_399, by omega, by omega, by omega, by omega, e_385, e_405, wr_140, wt_141, ⟨k_142, c9_143, t_144, f_394, e_393, u_395, w_148⟩, ⟨k_149, c9_150, t_151, f_397, e_396, u_398, w_155⟩⟩ : RS ρ ws_380 ty_381 rd krd tp ktp cd bb tl)) (cwV 1 hts gX4_readEither_X4_readOne rfl rfl rfl (by decide +kernel) ⟨Nat.le_of_ble_eq_true rfl, Nat.le_of_ble_eq_true rfl⟩) ⟨fun a U g mk q => by obtain ⟨q0, q1, qP, qK, qD, qS⟩ := q; exact ⟨q0, q1, qP, va_K.moved (u := U) (U := U.calling g mk a) (Vm.Alike.refl U.vm) qK, qD, SZ.same rfl rfl qS⟩, va_recv hK hP (ci := 4) (q0 := krd) rfl e_385, fun U hU hW => ⟨rfl, by rw [hU], by rw [hU]; exact hP, va_K.moved hW.alike hK, hD.weaken (fun _ _ _ _ => trivial), hsz9.go hS hW hU hFc⟩⟩ rfl rfl hl.1 rfl (lv_room (Nat.le_of_ble_eq_true rfl)) dX4_readEither_80 ⟨Nat.le_of_ble_eq_true rfl, Nat.le_of_ble_eq_true rfl⟩) hS (fun q _ h => hFc q h) hFc (fun r_406 u t H1 locs ht hvm w_407 hB hz1 hk1 hS => ?_)
        obtain ⟨ws_408, ty_409, hm_410, ht_412, hP1, hK1, hD1, hx_411⟩ := hB
        rw [ht] at hP1
        have hK := va_K.moved hvm.symm hK1
        have hD := hD1.weaken (fun _ _ _ h => hFc _ h)
        generalize H1 = H at hP1 hS ⊢
        have hP := hP1
        obtain ⟨g_414, e_413, h_415⟩ := hm_410.obj e_385
        obtain ⟨z_416, z_417, z_418, z_419, z_420, z_421, rfl⟩ := smX4 h_415
        obtain ⟨g_423, e_422, h_424⟩ := hm_410.obj e_405
        obtain ⟨z_425, z_426, z_427, z_428, rfl⟩ := smX6 h_424
        obtain ⟨f_430, e_429⟩ := hm_410.arrI e_393
        have u_431 := ht_412 _ _ u_395
        obtain ⟨f_433, e_432⟩ := hm_410.arrI e_396
        have u_434 := ht_412 _ _ u_398
        have hsm := hsm.tr (hm_410.mono (by decide))
        have hlp_101 := hlp_101.tr (hm_410.mono (by decide))
        have htx := htx.tr ht_412
        obtain ⟨ts_435, te_436, cc_437, ra_438, rb_439, rc_440, rv_441, re_442, ya_443, h1_444, h2_445, h3_446, h4_447, er_448, et_449, wr_450, wt_451, ⟨k_452, c9_453, t_454, f_455, e_456, u_457, w_458⟩, ⟨k_459, c9_460, t_461, f_462, e_463, u_464, w_465⟩⟩ := id hx_411
        refine lv_istore_n (lv' := [(2, .int r_406), (3, .int 1), (5, .int 0), (4, .int (nI i_93)), (1, .int 4), (0, .ref rd)]) hx hb dX4_readEither_83 rfl hl (by decide) rfl (fun ls hl => ?_)
        refine lv_iload hx hb dX4_readEither_84 (lv_at hl 2 rfl) ?_
        refine lv_if_eq (tgt := 95) hx hb dX4_readEither_86 (by decide) (fun c_466 => ?_) (fun c_466 => absurd (by decide) c_466)
        refine lv_iinc (v := nI (i_93 + 1)) (lv' := [(4, .int (nI (i_93 + 1))), (2, .int r_406), (3, .int 1), (5, .int 0), (1, .int 4), (0, .ref rd)]) hx hb dX4_readEither_95 hl (k := 3) rfl (nI_add i_93 1) (by decide) rfl (fun ls hl => ?_)
        refine lv_goto (tgt := 11) hx hb dX4_readEither_98 (by decide) ?_
        exact ih_92 (i_93 + 1, r_406, 1) ws_408 _ _ ls (by show 400 - (i_93 + 1) < 400 - i_93; omega) ⟨hlp_101, ⟨ty_409, hK, htx, (⟨ts_435, te_436, cc_437, ra_438, rb_439, rc_440, rv_441, re_442, ya_443, by omega, by omega, by omega, by omega, er_448, et_449, wr_450, wt_451, ⟨k_452, c9_453, t_454, f_455, e_456, u_457, w_458⟩, ⟨k_459, c9_460, t_461, f_462, e_463, u_464, w_465⟩⟩ : RS ρ ws_408 ty_409 rd krd tp ktp cd bb tl)⟩, (show (i_93 + 1) ≤ 400 from by omega), (show r_406 = 0 ∨ r_406 = 1 from w_407), (show 1 = 0 ∨ 1 = 1 from Or.inr rfl)⟩ hP hD hS (lv_sub hl [0, 1, 2, 4, 5] rfl)
      refine lv_iload hx hb dX4_readEither_60 (lv_at hl 0 rfl) ?_
      refine lv_if_ne (tgt := 69) hx hb dX4_readEither_62 (by decide) (fun c_467 => absurd (by decide) c_467) (fun c_467 => ?_)
      refine lv_iconst (v := 1) hx hb dX4_readEither_65 (by decide) ?_
      refine lv_goto (tgt := 70) hx hb dX4_readEither_66 (by decide) ?_
      refine lv_istore_n (lv' := [(3, .int 1), (5, .int 0), (4, .int (nI i_93)), (2, .int x_94), (1, .int 4), (0, .ref rd)]) hx hb dX4_readEither_70 rfl hl (by decide) rfl (fun ls hl => ?_)
      refine lv_aload_n hx hb dX4_readEither_71 rfl (lv_at hl 5 rfl) ?_
      refine va_get (D := D) (ci := 4) (v := .ref tp) (C := RX4) (T := TX4) (N := 8) hx hb hts hin4 hown hK hP krd e_367 rfl 0 (by decide) (hts (.fieldLink RX4 12 "HoneyHouse$RuleReader" "tape" "LHoneyHouse$Tape;") (List.mem_of_getElem? (i := 1) rfl)) (fun _ h9 => h9) rfl dX4_readEither_72 ?_
      have hFc := free_all hD hS hA
      refine va_callv (va_runV (As := []) (rest := []) ⟨hx, hb, hml, hown, hts⟩ (a_advance l D ρ ws_362 ty_363 tp ktp tl te_126 ya_133 (nI ts_125) bb k_149 c9_150 t_151 f_373 H.size (by omega) (by omega) e_368 e_372 u_374 wt_141) (cwV 0 hts gX4_readEither_X6_advance rfl rfl rfl (by decide +kernel) ⟨Nat.le_of_ble_eq_true rfl, Nat.le_of_ble_eq_true rfl⟩) ⟨fun a U g mk q => by obtain ⟨q0, q1, qP, qK, qD⟩ := q; exact ⟨q0, q1, qP, va_K.moved (u := U) (U := U.calling g mk a) (Vm.Alike.refl U.vm) qK, qD⟩, va_recv hK hP (ci := 6) (q0 := ktp) rfl e_368, fun U hU hW => ⟨rfl, by rw [hU], by rw [hU]; exact hP, va_K.moved hW.alike hK, hD.weaken (fun _ _ _ _ => trivial)⟩⟩ rfl rfl hl.1 rfl (lv_room (Nat.le_of_ble_eq_true rfl)) dX4_readEither_75 ⟨Nat.le_of_ble_eq_true rfl, Nat.le_of_ble_eq_true rfl⟩) hS (fun q _ h => hFc q h) hFc (fun u t H1 locs ht hvm w_469 hB hz1 hk1 hS => ?_)
      obtain ⟨ws_470, ty_471, hm_472, ht_474, hP1, hK1, hD1, hx_473⟩ := hB
      rw [ht] at hP1
      have hK := va_K.moved hvm.symm hK1
      have hD := hD1.weaken (fun _ _ _ h => hFc _ h)
      generalize H1 = H at hP1 hS ⊢
      have hP := hP1
      have e_475 := hm_472.objK e_367 (by decide)
      obtain ⟨g_477, e_476, h_478⟩ := hm_472.obj e_368
      obtain ⟨z_479, z_480, z_481, z_482, rfl⟩ := smX6 h_478
      obtain ⟨f_484, e_483⟩ := hm_472.arrI e_369
      have u_485 := ht_474 _ _ u_371
      obtain ⟨f_487, e_486⟩ := hm_472.arrI e_372
      have u_488 := ht_474 _ _ u_374
      have hsm := hsm.tr (hm_472.mono (by decide))
      have hlp_101 := hlp_101.tr (hm_472.mono (by decide))
      have htx := htx.tr ht_474
      obtain ⟨k_489, s_490, e_491, h_492, h_493, h_494, e_495⟩ := hx_473
      refine lv_aload_n hx hb dX4_readEither_78 rfl (lv_at hl 5 rfl) ?_
      refine lv_iload_n hx hb dX4_readEither_79 rfl (lv_at hl 4 rfl) ?_
      have hFc := free_all hD hS hA
      refine va_calli (va_runV (As := [.int 4]) (rest := []) ⟨hx, hb, hml, hown, hts⟩ (r_readOne4 l D ρ ws_470 ty_471 adK adV fo rd krd tp ktp cd bb tl  H.size (⟨s_490, e_491, cc_127, ra_128, rb_129, rc_130, rv_131, re_132, nI k_489, by omega, by omega, by omega, by omega, e_475, e_495, wr_140, wt_141, ⟨k_142, c9_143, t_144, f_484, e_483, u_485, w_148⟩, ⟨k_149, c9_150, t_151, f_487, e_486, u_488, w_155⟩⟩ : RS ρ ws_470 ty_471 rd krd tp ktp cd bb tl)) (cwV 1 hts gX4_readEither_X4_readOne rfl rfl rfl (by decide +kernel) ⟨Nat.le_of_ble_eq_true rfl, Nat.le_of_ble_eq_true rfl⟩) ⟨fun a U g mk q => by obtain ⟨q0, q1, qP, qK, qD, qS⟩ := q; exact ⟨q0, q1, qP, va_K.moved (u := U) (U := U.calling g mk a) (Vm.Alike.refl U.vm) qK, qD, SZ.same rfl rfl qS⟩, va_recv hK hP (ci := 4) (q0 := krd) rfl e_475, fun U hU hW => ⟨rfl, by rw [hU], by rw [hU]; exact hP, va_K.moved hW.alike hK, hD.weaken (fun _ _ _ _ => trivial), hsz9.go hS hW hU hFc⟩⟩ rfl rfl hl.1 rfl (lv_room (Nat.le_of_ble_eq_true rfl)) dX4_readEither_80 ⟨Nat.le_of_ble_eq_true rfl, Nat.le_of_ble_eq_true rfl⟩) hS (fun q _ h => hFc q h) hFc (fun r_496 u t H1 locs ht hvm w_497 hB hz1 hk1 hS => ?_)
      obtain ⟨ws_498, ty_499, hm_500, ht_502, hP1, hK1, hD1, hx_501⟩ := hB
      rw [ht] at hP1
      have hK := va_K.moved hvm.symm hK1
      have hD := hD1.weaken (fun _ _ _ h => hFc _ h)
      generalize H1 = H at hP1 hS ⊢
      have hP := hP1
      obtain ⟨g_504, e_503, h_505⟩ := hm_500.obj e_475
      obtain ⟨z_506, z_507, z_508, z_509, z_510, z_511, rfl⟩ := smX4 h_505
      obtain ⟨g_513, e_512, h_514⟩ := hm_500.obj e_495
      obtain ⟨z_515, z_516, z_517, z_518, rfl⟩ := smX6 h_514
      obtain ⟨f_520, e_519⟩ := hm_500.arrI e_483
      have u_521 := ht_502 _ _ u_485
      obtain ⟨f_523, e_522⟩ := hm_500.arrI e_486
      have u_524 := ht_502 _ _ u_488
      have hsm := hsm.tr (hm_500.mono (by decide))
      have hlp_101 := hlp_101.tr (hm_500.mono (by decide))
      have htx := htx.tr ht_502
      obtain ⟨ts_525, te_526, cc_527, ra_528, rb_529, rc_530, rv_531, re_532, ya_533, h1_534, h2_535, h3_536, h4_537, er_538, et_539, wr_540, wt_541, ⟨k_542, c9_543, t_544, f_545, e_546, u_547, w_548⟩, ⟨k_549, c9_550, t_551, f_552, e_553, u_554, w_555⟩⟩ := id hx_501
      refine lv_istore_n (lv' := [(2, .int r_496), (3, .int 1), (5, .int 0), (4, .int (nI i_93)), (1, .int 4), (0, .ref rd)]) hx hb dX4_readEither_83 rfl hl (by decide) rfl (fun ls hl => ?_)
      refine lv_iload hx hb dX4_readEither_84 (lv_at hl 2 rfl) ?_
      refine lv_if_eq (tgt := 95) hx hb dX4_readEither_86 (by decide) (fun c_556 => ?_) (fun c_556 => absurd (by decide) c_556)
      refine lv_iinc (v := nI (i_93 + 1)) (lv' := [(4, .int (nI (i_93 + 1))), (2, .int r_496), (3, .int 1), (5, .int 0), (1, .int 4), (0, .ref rd)]) hx hb dX4_readEither_95 hl (k := 3) rfl (nI_add i_93 1) (by decide) rfl (fun ls hl => ?_)
      refine lv_goto (tgt := 11) hx hb dX4_readEither_98 (by decide) ?_
      exact ih_92 (i_93 + 1, r_496, 1) ws_498 _ _ ls (by show 400 - (i_93 + 1) < 400 - i_93; omega) ⟨hlp_101, ⟨ty_499, hK, htx, (⟨ts_525, te_526, cc_527, ra_528, rb_529, rc_530, rv_531, re_532, ya_533, by omega, by omega, by omega, by omega, er_538, et_539, wr_540, wt_541, ⟨k_542, c9_543, t_544, f_545, e_546, u_547, w_548⟩, ⟨k_549, c9_550, t_551, f_552, e_553, u_554, w_555⟩⟩ : RS ρ ws_498 ty_499 rd krd tp ktp cd bb tl)⟩, (show (i_93 + 1) ≤ 400 from by omega), (show r_496 = 0 ∨ r_496 = 1 from w_497), (show 1 = 0 ∨ 1 = 1 from Or.inr rfl)⟩ hP hD hS (lv_sub hl [0, 1, 2, 4, 5] rfl)
    refine lv_aload_n hx hb dX4_readEither_50 rfl (lv_at hl 5 rfl) ?_
    refine lv_bipush (v := (-3)) hx hb dX4_readEither_51 (by decide) ?_
    have hFc := free_all hD hS hA
    refine va_callv (va_runV (As := [.int (-3)]) (rest := []) ⟨hx, hb, hml, hown, hts⟩ (r_addCode l D ρ ws_362 ty_363 adK adV fo rd krd tp ktp cd bb tl (-3) H.size (⟨ts_125, te_126, cc_127, ra_128, rb_129, rc_130, rv_131, re_132, ya_133, by omega, by omega, by omega, by omega, e_367, e_368, wr_140, wt_141, ⟨k_142, c9_143, t_144, f_370, e_369, u_371, w_148⟩, ⟨k_149, c9_150, t_151, f_373, e_372, u_374, w_155⟩⟩ : RS ρ ws_362 ty_363 rd krd tp ktp cd bb tl)) (cwV 1 hts gX4_readEither_X4_addCode rfl rfl rfl (by decide +kernel) ⟨Nat.le_of_ble_eq_true rfl, Nat.le_of_ble_eq_true rfl⟩) ⟨fun a U g mk q => by obtain ⟨q0, q1, qP, qK, qD, qS⟩ := q; exact ⟨q0, q1, qP, va_K.moved (u := U) (U := U.calling g mk a) (Vm.Alike.refl U.vm) qK, qD, SZ.same rfl rfl qS⟩, va_recv hK hP (ci := 4) (q0 := krd) rfl e_367, fun U hU hW => ⟨rfl, by rw [hU], by rw [hU]; exact hP, va_K.moved hW.alike hK, hD.weaken (fun _ _ _ _ => trivial), hsz9.go hS hW hU hFc⟩⟩ rfl rfl hl.1 rfl (lv_room (Nat.le_of_ble_eq_true rfl)) dX4_readEither_53 ⟨Nat.le_of_ble_eq_true rfl, Nat.le_of_ble_eq_true rfl⟩) hS (fun q _ h => hFc q h) hFc (fun u t H1 locs ht hvm w_558 hB hz1 hk1 hS => ?_)
    obtain ⟨ws_559, ty_560, hm_561, ht_563, hP1, hK1, hD1, hx_562⟩ := hB
    rw [ht] at hP1
    have hK := va_K.moved hvm.symm hK1
    have hD := hD1.weaken (fun _ _ _ h => hFc _ h)
    generalize H1 = H at hP1 hS ⊢
    have hP := hP1
    obtain ⟨g_565, e_564, h_566⟩ := hm_561.obj e_367
    obtain ⟨z_567, z_568, z_569, z_570, z_571, z_572, rfl⟩ := smX4 h_566
    obtain ⟨g_574, e_573, h_575⟩ := hm_561.obj e_368
    obtain ⟨z_576, z_577, z_578, z_579, rfl⟩ := smX6 h_575
    obtain ⟨f_581, e_580⟩ := hm_561.arrI e_369
    have u_582 := ht_563 _ _ u_371
    obtain ⟨f_584, e_583⟩ := hm_561.arrI e_372
    have u_585 := ht_563 _ _ u_374
    have hsm := hsm.tr (hm_561.mono (by decide))
    have hlp_101 := hlp_101.tr (hm_561.mono (by decide))
    have htx := htx.tr ht_563
    obtain ⟨ts_586, te_587, cc_588, ra_589, rb_590, rc_591, rv_592, re_593, ya_594, h1_595, h2_596, h3_597, h4_598, er_599, et_600, wr_601, wt_602, ⟨k_603, c9_604, t_605, f_606, e_607, u_608, w_609⟩, ⟨k_610, c9_611, t_612, f_613, e_614, u_615, w_616⟩⟩ := id hx_562
    refine lv_iload_n hx hb dX4_readEither_56 rfl (lv_at hl 3 rfl) ?_
    refine lv_if_ne (tgt := 65) hx hb dX4_readEither_57 (by decide) (fun c_617 => ?_) (fun c_617 => ?_)
    · refine lv_iconst (v := 1) hx hb dX4_readEither_65 (by decide) ?_
      refine lv_goto (tgt := 70) hx hb dX4_readEither_66 (by decide) ?_
      refine lv_istore_n (lv' := [(3, .int 1), (5, .int 0), (4, .int (nI i_93)), (2, .int x_94), (1, .int 4), (0, .ref rd)]) hx hb dX4_readEither_70 rfl hl (by decide) rfl (fun ls hl => ?_)
      refine lv_aload_n hx hb dX4_readEither_71 rfl (lv_at hl 5 rfl) ?_
      refine va_get (D := D) (ci := 4) (v := .ref tp) (C := RX4) (T := TX4) (N := 8) hx hb hts hin4 hown hK hP krd er_599 rfl 0 (by decide) (hts (.fieldLink RX4 12 "HoneyHouse$RuleReader" "tape" "LHoneyHouse$Tape;") (List.mem_of_getElem? (i := 1) rfl)) (fun _ h9 => h9) rfl dX4_readEither_72 ?_
      have hFc := free_all hD hS hA
      refine va_callv (va_runV (As := []) (rest := []) ⟨hx, hb, hml, hown, hts⟩ (a_advance l D ρ ws_559 ty_560 tp ktp tl te_587 ya_594 (nI ts_586) bb k_610 c9_611 t_612 f_613 H.size (by omega) (by omega) et_600 e_614 u_615 wt_602) (cwV 0 hts gX4_readEither_X6_advance rfl rfl rfl (by decide +kernel) ⟨Nat.le_of_ble_eq_true rfl, Nat.le_of_ble_eq_true rfl⟩) ⟨fun a U g mk q => by obtain ⟨q0, q1, qP, qK, qD⟩ := q; exact ⟨q0, q1, qP, va_K.moved (u := U) (U := U.calling g mk a) (Vm.Alike.refl U.vm) qK, qD⟩, va_recv hK hP (ci := 6) (q0 := ktp) rfl et_600, fun U hU hW => ⟨rfl, by rw [hU], by rw [hU]; exact hP, va_K.moved hW.alike hK, hD.weaken (fun _ _ _ _ => trivial)⟩⟩ rfl rfl hl.1 rfl (lv_room (Nat.le_of_ble_eq_true rfl)) dX4_readEither_75 ⟨Nat.le_of_ble_eq_true rfl, Nat.le_of_ble_eq_true rfl⟩) hS (fun q _ h => hFc q h) hFc (fun u t H1 locs ht hvm w_619 hB hz1 hk1 hS => ?_)
      obtain ⟨ws_620, ty_621, hm_622, ht_624, hP1, hK1, hD1, hx_623⟩ := hB
      rw [ht] at hP1
      have hK := va_K.moved hvm.symm hK1
      have hD := hD1.weaken (fun _ _ _ h => hFc _ h)
      generalize H1 = H at hP1 hS ⊢
      have hP := hP1
      have e_625 := hm_622.objK er_599 (by decide)
      obtain ⟨g_627, e_626, h_628⟩ := hm_622.obj et_600
      obtain ⟨z_629, z_630, z_631, z_632, rfl⟩ := smX6 h_628
      obtain ⟨f_634, e_633⟩ := hm_622.arrI e_607
      have u_635 := ht_624 _ _ u_608
      obtain ⟨f_637, e_636⟩ := hm_622.arrI e_614
      have u_638 := ht_624 _ _ u_615
      have hsm := hsm.tr (hm_622.mono (by decide))
      have hlp_101 := hlp_101.tr (hm_622.mono (by decide))
      have htx := htx.tr ht_624
      obtain ⟨k_639, s_640, e_641, h_642, h_643, h_644, e_645⟩ := hx_623
      refine lv_aload_n hx hb dX4_readEither_78 rfl (lv_at hl 5 rfl) ?_
      refine lv_iload_n hx hb dX4_readEither_79 rfl (lv_at hl 4 rfl) ?_
      have hFc := free_all hD hS hA
      refine va_calli (va_runV (As := [.int 4]) (rest := []) ⟨hx, hb, hml, hown, hts⟩ (r_readOne4 l D ρ ws_620 ty_621 adK adV fo rd krd tp ktp cd bb tl  H.size (⟨s_640, e_641, cc_588, ra_589, rb_590, rc_591, rv_592, re_593, nI k_639, by omega, by omega, by omega, by omega, e_625, e_645, wr_601, wt_602, ⟨k_603, c9_604, t_605, f_634, e_633, u_635, w_609⟩, ⟨k_610, c9_611, t_612, f_637, e_636, u_638, w_616⟩⟩ : RS ρ ws_620 ty_621 rd krd tp ktp cd bb tl)) (cwV 1 hts gX4_readEither_X4_readOne rfl rfl rfl (by decide +kernel) ⟨Nat.le_of_ble_eq_true rfl, Nat.le_of_ble_eq_true rfl⟩) ⟨fun a U g mk q => by obtain ⟨q0, q1, qP, qK, qD, qS⟩ := q; exact ⟨q0, q1, qP, va_K.moved (u := U) (U := U.calling g mk a) (Vm.Alike.refl U.vm) qK, qD, SZ.same rfl rfl qS⟩, va_recv hK hP (ci := 4) (q0 := krd) rfl e_625, fun U hU hW => ⟨rfl, by rw [hU], by rw [hU]; exact hP, va_K.moved hW.alike hK, hD.weaken (fun _ _ _ _ => trivial), hsz9.go hS hW hU hFc⟩⟩ rfl rfl hl.1 rfl (lv_room (Nat.le_of_ble_eq_true rfl)) dX4_readEither_80 ⟨Nat.le_of_ble_eq_true rfl, Nat.le_of_ble_eq_true rfl⟩) hS (fun q _ h => hFc q h) hFc (fun r_646 u t H1 locs ht hvm w_647 hB hz1 hk1 hS => ?_)
      obtain ⟨ws_648, ty_649, hm_650, ht_652, hP1, hK1, hD1, hx_651⟩ := hB
      rw [ht] at hP1
      have hK := va_K.moved hvm.symm hK1
      have hD := hD1.weaken (fun _ _ _ h => hFc _ h)
      generalize H1 = H at hP1 hS ⊢
      have hP := hP1
      obtain ⟨g_654, e_653, h_655⟩ := hm_650.obj e_625
      obtain ⟨z_656, z_657, z_658, z_659, z_660, z_661, rfl⟩ := smX4 h_655
      obtain ⟨g_663, e_662, h_664⟩ := hm_650.obj e_645
      obtain ⟨z_665, z_666, z_667, z_668, rfl⟩ := smX6 h_664
      obtain ⟨f_670, e_669⟩ := hm_650.arrI e_633
      have u_671 := ht_652 _ _ u_635
      obtain ⟨f_673, e_672⟩ := hm_650.arrI e_636
      have u_674 := ht_652 _ _ u_638
      have hsm := hsm.tr (hm_650.mono (by decide))
      have hlp_101 := hlp_101.tr (hm_650.mono (by decide))
      have htx := htx.tr ht_652
      obtain ⟨ts_675, te_676, cc_677, ra_678, rb_679, rc_680, rv_681, re_682, ya_683, h1_684, h2_685, h3_686, h4_687, er_688, et_689, wr_690, wt_691, ⟨k_692, c9_693, t_694, f_695, e_696, u_697, w_698⟩, ⟨k_699, c9_700, t_701, f_702, e_703, u_704, w_705⟩⟩ := id hx_651
      refine lv_istore_n (lv' := [(2, .int r_646), (3, .int 1), (5, .int 0), (4, .int (nI i_93)), (1, .int 4), (0, .ref rd)]) hx hb dX4_readEither_83 rfl hl (by decide) rfl (fun ls hl => ?_)
      refine lv_iload hx hb dX4_readEither_84 (lv_at hl 2 rfl) ?_
      refine lv_if_eq (tgt := 95) hx hb dX4_readEither_86 (by decide) (fun c_706 => ?_) (fun c_706 => absurd (by decide) c_706)
      refine lv_iinc (v := nI (i_93 + 1)) (lv' := [(4, .int (nI (i_93 + 1))), (2, .int r_646), (3, .int 1), (5, .int 0), (1, .int 4), (0, .ref rd)]) hx hb dX4_readEither_95 hl (k := 3) rfl (nI_add i_93 1) (by decide) rfl (fun ls hl => ?_)
      refine lv_goto (tgt := 11) hx hb dX4_readEither_98 (by decide) ?_
      exact ih_92 (i_93 + 1, r_646, 1) ws_648 _ _ ls (by show 400 - (i_93 + 1) < 400 - i_93; omega) ⟨hlp_101, ⟨ty_649, hK, htx, (⟨ts_675, te_676, cc_677, ra_678, rb_679, rc_680, rv_681, re_682, ya_683, by omega, by omega, by omega, by omega, er_688, et_689, wr_690, wt_691, ⟨k_692, c9_693, t_694, f_695, e_696, u_697, w_698⟩, ⟨k_699, c9_700, t_701, f_702, e_703, u_704, w_705⟩⟩ : RS ρ ws_648 ty_649 rd krd tp ktp cd bb tl)⟩, (show (i_93 + 1) ≤ 400 from by omega), (show r_646 = 0 ∨ r_646 = 1 from w_647), (show 1 = 0 ∨ 1 = 1 from Or.inr rfl)⟩ hP hD hS (lv_sub hl [0, 1, 2, 4, 5] rfl)
    refine lv_iload hx hb dX4_readEither_60 (lv_at hl 0 rfl) ?_
    refine lv_if_ne (tgt := 69) hx hb dX4_readEither_62 (by decide) (fun c_707 => absurd (by decide) c_707) (fun c_707 => ?_)
    refine lv_iconst (v := 1) hx hb dX4_readEither_65 (by decide) ?_
    refine lv_goto (tgt := 70) hx hb dX4_readEither_66 (by decide) ?_
    refine lv_istore_n (lv' := [(3, .int 1), (5, .int 0), (4, .int (nI i_93)), (2, .int x_94), (1, .int 4), (0, .ref rd)]) hx hb dX4_readEither_70 rfl hl (by decide) rfl (fun ls hl => ?_)
    refine lv_aload_n hx hb dX4_readEither_71 rfl (lv_at hl 5 rfl) ?_
    refine va_get (D := D) (ci := 4) (v := .ref tp) (C := RX4) (T := TX4) (N := 8) hx hb hts hin4 hown hK hP krd er_599 rfl 0 (by decide) (hts (.fieldLink RX4 12 "HoneyHouse$RuleReader" "tape" "LHoneyHouse$Tape;") (List.mem_of_getElem? (i := 1) rfl)) (fun _ h9 => h9) rfl dX4_readEither_72 ?_
    have hFc := free_all hD hS hA
    refine va_callv (va_runV (As := []) (rest := []) ⟨hx, hb, hml, hown, hts⟩ (a_advance l D ρ ws_559 ty_560 tp ktp tl te_587 ya_594 (nI ts_586) bb k_610 c9_611 t_612 f_613 H.size (by omega) (by omega) et_600 e_614 u_615 wt_602) (cwV 0 hts gX4_readEither_X6_advance rfl rfl rfl (by decide +kernel) ⟨Nat.le_of_ble_eq_true rfl, Nat.le_of_ble_eq_true rfl⟩) ⟨fun a U g mk q => by obtain ⟨q0, q1, qP, qK, qD⟩ := q; exact ⟨q0, q1, qP, va_K.moved (u := U) (U := U.calling g mk a) (Vm.Alike.refl U.vm) qK, qD⟩, va_recv hK hP (ci := 6) (q0 := ktp) rfl et_600, fun U hU hW => ⟨rfl, by rw [hU], by rw [hU]; exact hP, va_K.moved hW.alike hK, hD.weaken (fun _ _ _ _ => trivial)⟩⟩ rfl rfl hl.1 rfl (lv_room (Nat.le_of_ble_eq_true rfl)) dX4_readEither_75 ⟨Nat.le_of_ble_eq_true rfl, Nat.le_of_ble_eq_true rfl⟩) hS (fun q _ h => hFc q h) hFc (fun u t H1 locs ht hvm w_709 hB hz1 hk1 hS => ?_)
    obtain ⟨ws_710, ty_711, hm_712, ht_714, hP1, hK1, hD1, hx_713⟩ := hB
    rw [ht] at hP1
    have hK := va_K.moved hvm.symm hK1
    have hD := hD1.weaken (fun _ _ _ h => hFc _ h)
    generalize H1 = H at hP1 hS ⊢
    have hP := hP1
    have e_715 := hm_712.objK er_599 (by decide)
    obtain ⟨g_717, e_716, h_718⟩ := hm_712.obj et_600
    obtain ⟨z_719, z_720, z_721, z_722, rfl⟩ := smX6 h_718
    obtain ⟨f_724, e_723⟩ := hm_712.arrI e_607
    have u_725 := ht_714 _ _ u_608
    obtain ⟨f_727, e_726⟩ := hm_712.arrI e_614
    have u_728 := ht_714 _ _ u_615
    have hsm := hsm.tr (hm_712.mono (by decide))
    have hlp_101 := hlp_101.tr (hm_712.mono (by decide))
    have htx := htx.tr ht_714
    obtain ⟨k_729, s_730, e_731, h_732, h_733, h_734, e_735⟩ := hx_713
    refine lv_aload_n hx hb dX4_readEither_78 rfl (lv_at hl 5 rfl) ?_
    refine lv_iload_n hx hb dX4_readEither_79 rfl (lv_at hl 4 rfl) ?_
    have hFc := free_all hD hS hA
    refine va_calli (va_runV (As := [.int 4]) (rest := []) ⟨hx, hb, hml, hown, hts⟩ (r_readOne4 l D ρ ws_710 ty_711 adK adV fo rd krd tp ktp cd bb tl  H.size (⟨s_730, e_731, cc_588, ra_589, rb_590, rc_591, rv_592, re_593, nI k_729, by omega, by omega, by omega, by omega, e_715, e_735, wr_601, wt_602, ⟨k_603, c9_604, t_605, f_724, e_723, u_725, w_609⟩, ⟨k_610, c9_611, t_612, f_727, e_726, u_728, w_616⟩⟩ : RS ρ ws_710 ty_711 rd krd tp ktp cd bb tl)) (cwV 1 hts gX4_readEither_X4_readOne rfl rfl rfl (by decide +kernel) ⟨Nat.le_of_ble_eq_true rfl, Nat.le_of_ble_eq_true rfl⟩) ⟨fun a U g mk q => by obtain ⟨q0, q1, qP, qK, qD, qS⟩ := q; exact ⟨q0, q1, qP, va_K.moved (u := U) (U := U.calling g mk a) (Vm.Alike.refl U.vm) qK, qD, SZ.same rfl rfl qS⟩, va_recv hK hP (ci := 4) (q0 := krd) rfl e_715, fun U hU hW => ⟨rfl, by rw [hU], by rw [hU]; exact hP, va_K.moved hW.alike hK, hD.weaken (fun _ _ _ _ => trivial), hsz9.go hS hW hU hFc⟩⟩ rfl rfl hl.1 rfl (lv_room (Nat.le_of_ble_eq_true rfl)) dX4_readEither_80 ⟨Nat.le_of_ble_eq_true rfl, Nat.le_of_ble_eq_true rfl⟩) hS (fun q _ h => hFc q h) hFc (fun r_736 u t H1 locs ht hvm w_737 hB hz1 hk1 hS => ?_)
    obtain ⟨ws_738, ty_739, hm_740, ht_742, hP1, hK1, hD1, hx_741⟩ := hB
    rw [ht] at hP1
    have hK := va_K.moved hvm.symm hK1
    have hD := hD1.weaken (fun _ _ _ h => hFc _ h)
    generalize H1 = H at hP1 hS ⊢
    have hP := hP1
    obtain ⟨g_744, e_743, h_745⟩ := hm_740.obj e_715
    obtain ⟨z_746, z_747, z_748, z_749, z_750, z_751, rfl⟩ := smX4 h_745
    obtain ⟨g_753, e_752, h_754⟩ := hm_740.obj e_735
    obtain ⟨z_755, z_756, z_757, z_758, rfl⟩ := smX6 h_754
    obtain ⟨f_760, e_759⟩ := hm_740.arrI e_723
    have u_761 := ht_742 _ _ u_725
    obtain ⟨f_763, e_762⟩ := hm_740.arrI e_726
    have u_764 := ht_742 _ _ u_728
    have hsm := hsm.tr (hm_740.mono (by decide))
    have hlp_101 := hlp_101.tr (hm_740.mono (by decide))
    have htx := htx.tr ht_742
    obtain ⟨ts_765, te_766, cc_767, ra_768, rb_769, rc_770, rv_771, re_772, ya_773, h1_774, h2_775, h3_776, h4_777, er_778, et_779, wr_780, wt_781, ⟨k_782, c9_783, t_784, f_785, e_786, u_787, w_788⟩, ⟨k_789, c9_790, t_791, f_792, e_793, u_794, w_795⟩⟩ := id hx_741
    refine lv_istore_n (lv' := [(2, .int r_736), (3, .int 1), (5, .int 0), (4, .int (nI i_93)), (1, .int 4), (0, .ref rd)]) hx hb dX4_readEither_83 rfl hl (by decide) rfl (fun ls hl => ?_)
    refine lv_iload hx hb dX4_readEither_84 (lv_at hl 2 rfl) ?_
    refine lv_if_eq (tgt := 95) hx hb dX4_readEither_86 (by decide) (fun c_796 => ?_) (fun c_796 => absurd (by decide) c_796)
    refine lv_iinc (v := nI (i_93 + 1)) (lv' := [(4, .int (nI (i_93 + 1))), (2, .int r_736), (3, .int 1), (5, .int 0), (1, .int 4), (0, .ref rd)]) hx hb dX4_readEither_95 hl (k := 3) rfl (nI_add i_93 1) (by decide) rfl (fun ls hl => ?_)
    refine lv_goto (tgt := 11) hx hb dX4_readEither_98 (by decide) ?_
    exact ih_92 (i_93 + 1, r_736, 1) ws_738 _ _ ls (by show 400 - (i_93 + 1) < 400 - i_93; omega) ⟨hlp_101, ⟨ty_739, hK, htx, (⟨ts_765, te_766, cc_767, ra_768, rb_769, rc_770, rv_771, re_772, ya_773, by omega, by omega, by omega, by omega, er_778, et_779, wr_780, wt_781, ⟨k_782, c9_783, t_784, f_785, e_786, u_787, w_788⟩, ⟨k_789, c9_790, t_791, f_792, e_793, u_794, w_795⟩⟩ : RS ρ ws_738 ty_739 rd krd tp ktp cd bb tl)⟩, (show (i_93 + 1) ≤ 400 from by omega), (show r_736 = 0 ∨ r_736 = 1 from w_737), (show 1 = 0 ∨ 1 = 1 from Or.inr rfl)⟩ hP hD hS (lv_sub hl [0, 1, 2, 4, 5] rfl)
  refine lv_istore (lv' := [(5, .int 1), (4, .int (nI i_93)), (2, .int x_94), (3, .int y_95), (1, .int 4), (0, .ref rd)]) hx hb dX4_readEither_39 hl (by decide) rfl (fun ls hl => ?_)
  refine lv_iload hx hb dX4_readEither_41 (lv_at hl 0 rfl) ?_
  refine lv_if_ne (tgt := 56) hx hb dX4_readEither_43 (by decide) (fun c_797 => ?_) (fun c_797 => absurd c_797 (by decide))
  refine lv_iload_n hx hb dX4_readEither_56 rfl (lv_at hl 3 rfl) ?_
  refine lv_if_ne (tgt := 65) hx hb dX4_readEither_57 (by decide) (fun c_798 => ?_) (fun c_798 => ?_)
  · refine lv_iconst (v := 1) hx hb dX4_readEither_65 (by decide) ?_
    refine lv_goto (tgt := 70) hx hb dX4_readEither_66 (by decide) ?_
    refine lv_istore_n (lv' := [(3, .int 1), (5, .int 1), (4, .int (nI i_93)), (2, .int x_94), (1, .int 4), (0, .ref rd)]) hx hb dX4_readEither_70 rfl hl (by decide) rfl (fun ls hl => ?_)
    refine lv_aload_n hx hb dX4_readEither_71 rfl (lv_at hl 5 rfl) ?_
    refine va_get (D := D) (ci := 4) (v := .ref tp) (C := RX4) (T := TX4) (N := 8) hx hb hts hin4 hown hK hP krd e_367 rfl 0 (by decide) (hts (.fieldLink RX4 12 "HoneyHouse$RuleReader" "tape" "LHoneyHouse$Tape;") (List.mem_of_getElem? (i := 1) rfl)) (fun _ h9 => h9) rfl dX4_readEither_72 ?_
    have hFc := free_all hD hS hA
    refine va_callv (va_runV (As := []) (rest := []) ⟨hx, hb, hml, hown, hts⟩ (a_advance l D ρ ws_362 ty_363 tp ktp tl te_126 ya_133 (nI ts_125) bb k_149 c9_150 t_151 f_373 H.size (by omega) (by omega) e_368 e_372 u_374 wt_141) (cwV 0 hts gX4_readEither_X6_advance rfl rfl rfl (by decide +kernel) ⟨Nat.le_of_ble_eq_true rfl, Nat.le_of_ble_eq_true rfl⟩) ⟨fun a U g mk q => by obtain ⟨q0, q1, qP, qK, qD⟩ := q; exact ⟨q0, q1, qP, va_K.moved (u := U) (U := U.calling g mk a) (Vm.Alike.refl U.vm) qK, qD⟩, va_recv hK hP (ci := 6) (q0 := ktp) rfl e_368, fun U hU hW => ⟨rfl, by rw [hU], by rw [hU]; exact hP, va_K.moved hW.alike hK, hD.weaken (fun _ _ _ _ => trivial)⟩⟩ rfl rfl hl.1 rfl (lv_room (Nat.le_of_ble_eq_true rfl)) dX4_readEither_75 ⟨Nat.le_of_ble_eq_true rfl, Nat.le_of_ble_eq_true rfl⟩) hS (fun q _ h => hFc q h) hFc (fun u t H1 locs ht hvm w_800 hB hz1 hk1 hS => ?_)
    obtain ⟨ws_801, ty_802, hm_803, ht_805, hP1, hK1, hD1, hx_804⟩ := hB
    rw [ht] at hP1
    have hK := va_K.moved hvm.symm hK1
    have hD := hD1.weaken (fun _ _ _ h => hFc _ h)
    generalize H1 = H at hP1 hS ⊢
    have hP := hP1
    have e_806 := hm_803.objK e_367 (by decide)
    obtain ⟨g_808, e_807, h_809⟩ := hm_803.obj e_368
    obtain ⟨z_810, z_811, z_812, z_813, rfl⟩ := smX6 h_809
    obtain ⟨f_815, e_814⟩ := hm_803.arrI e_369
    have u_816 := ht_805 _ _ u_371
    obtain ⟨f_818, e_817⟩ := hm_803.arrI e_372
    have u_819 := ht_805 _ _ u_374
    have hsm := hsm.tr (hm_803.mono (by decide))
    have hlp_101 := hlp_101.tr (hm_803.mono (by decide))
    have htx := htx.tr ht_805
    obtain ⟨k_820, s_821, e_822, h_823, h_824, h_825, e_826⟩ := hx_804
    refine lv_aload_n hx hb dX4_readEither_78 rfl (lv_at hl 5 rfl) ?_
    refine lv_iload_n hx hb dX4_readEither_79 rfl (lv_at hl 4 rfl) ?_
    have hFc := free_all hD hS hA
    refine va_calli (va_runV (As := [.int 4]) (rest := []) ⟨hx, hb, hml, hown, hts⟩ (r_readOne4 l D ρ ws_801 ty_802 adK adV fo rd krd tp ktp cd bb tl  H.size (⟨s_821, e_822, cc_127, ra_128, rb_129, rc_130, rv_131, re_132, nI k_820, by omega, by omega, by omega, by omega, e_806, e_826, wr_140, wt_141, ⟨k_142, c9_143, t_144, f_815, e_814, u_816, w_148⟩, ⟨k_149, c9_150, t_151, f_818, e_817, u_819, w_155⟩⟩ : RS ρ ws_801 ty_802 rd krd tp ktp cd bb tl)) (cwV 1 hts gX4_readEither_X4_readOne rfl rfl rfl (by decide +kernel) ⟨Nat.le_of_ble_eq_true rfl, Nat.le_of_ble_eq_true rfl⟩) ⟨fun a U g mk q => by obtain ⟨q0, q1, qP, qK, qD, qS⟩ := q; exact ⟨q0, q1, qP, va_K.moved (u := U) (U := U.calling g mk a) (Vm.Alike.refl U.vm) qK, qD, SZ.same rfl rfl qS⟩, va_recv hK hP (ci := 4) (q0 := krd) rfl e_806, fun U hU hW => ⟨rfl, by rw [hU], by rw [hU]; exact hP, va_K.moved hW.alike hK, hD.weaken (fun _ _ _ _ => trivial), hsz9.go hS hW hU hFc⟩⟩ rfl rfl hl.1 rfl (lv_room (Nat.le_of_ble_eq_true rfl)) dX4_readEither_80 ⟨Nat.le_of_ble_eq_true rfl, Nat.le_of_ble_eq_true rfl⟩) hS (fun q _ h => hFc q h) hFc (fun r_827 u t H1 locs ht hvm w_828 hB hz1 hk1 hS => ?_)
    obtain ⟨ws_829, ty_830, hm_831, ht_833, hP1, hK1, hD1, hx_832⟩ := hB
    rw [ht] at hP1
    have hK := va_K.moved hvm.symm hK1
    have hD := hD1.weaken (fun _ _ _ h => hFc _ h)
    generalize H1 = H at hP1 hS ⊢
    have hP := hP1
    obtain ⟨g_835, e_834, h_836⟩ := hm_831.obj e_806
    obtain ⟨z_837, z_838, z_839, z_840, z_841, z_842, rfl⟩ := smX4 h_836
    obtain ⟨g_844, e_843, h_845⟩ := hm_831.obj e_826
    obtain ⟨z_846, z_847, z_848, z_849, rfl⟩ := smX6 h_845
    obtain ⟨f_851, e_850⟩ := hm_831.arrI e_814
    have u_852 := ht_833 _ _ u_816
    obtain ⟨f_854, e_853⟩ := hm_831.arrI e_817
    have u_855 := ht_833 _ _ u_819
    have hsm := hsm.tr (hm_831.mono (by decide))
    have hlp_101 := hlp_101.tr (hm_831.mono (by decide))
    have htx := htx.tr ht_833
    obtain ⟨ts_856, te_857, cc_858, ra_859, rb_860, rc_861, rv_862, re_863, ya_864, h1_865, h2_866, h3_867, h4_868, er_869, et_870, wr_871, wt_872, ⟨k_873, c9_874, t_875, f_876, e_877, u_878, w_879⟩, ⟨k_880, c9_881, t_882, f_883, e_884, u_885, w_886⟩⟩ := id hx_832
    refine lv_istore_n (lv' := [(2, .int r_827), (3, .int 1), (5, .int 1), (4, .int (nI i_93)), (1, .int 4), (0, .ref rd)]) hx hb dX4_readEither_83 rfl hl (by decide) rfl (fun ls hl => ?_)
    refine lv_iload hx hb dX4_readEither_84 (lv_at hl 2 rfl) ?_
    refine lv_if_eq (tgt := 95) hx hb dX4_readEither_86 (by decide) (fun c_887 => absurd c_887 (by decide)) (fun c_887 => ?_)
    refine lv_aload_n hx hb dX4_readEither_89 rfl (lv_at hl 5 rfl) ?_
    refine lv_bipush (v := (-2)) hx hb dX4_readEither_90 (by decide) ?_
    have hFc := free_all hD hS hA
    refine va_callv (va_runV (As := [.int (-2)]) (rest := []) ⟨hx, hb, hml, hown, hts⟩ (r_addCode l D ρ ws_829 ty_830 adK adV fo rd krd tp ktp cd bb tl (-2) H.size (⟨ts_856, te_857, cc_858, ra_859, rb_860, rc_861, rv_862, re_863, ya_864, by omega, by omega, by omega, by omega, er_869, et_870, wr_871, wt_872, ⟨k_873, c9_874, t_875, f_876, e_877, u_878, w_879⟩, ⟨k_880, c9_881, t_882, f_883, e_884, u_885, w_886⟩⟩ : RS ρ ws_829 ty_830 rd krd tp ktp cd bb tl)) (cwV 1 hts gX4_readEither_X4_addCode rfl rfl rfl (by decide +kernel) ⟨Nat.le_of_ble_eq_true rfl, Nat.le_of_ble_eq_true rfl⟩) ⟨fun a U g mk q => by obtain ⟨q0, q1, qP, qK, qD, qS⟩ := q; exact ⟨q0, q1, qP, va_K.moved (u := U) (U := U.calling g mk a) (Vm.Alike.refl U.vm) qK, qD, SZ.same rfl rfl qS⟩, va_recv hK hP (ci := 4) (q0 := krd) rfl er_869, fun U hU hW => ⟨rfl, by rw [hU], by rw [hU]; exact hP, va_K.moved hW.alike hK, hD.weaken (fun _ _ _ _ => trivial), hsz9.go hS hW hU hFc⟩⟩ rfl rfl hl.1 rfl (lv_room (Nat.le_of_ble_eq_true rfl)) dX4_readEither_92 ⟨Nat.le_of_ble_eq_true rfl, Nat.le_of_ble_eq_true rfl⟩) hS (fun q _ h => hFc q h) hFc (fun u t H1 locs ht hvm w_889 hB hz1 hk1 hS => ?_)
    obtain ⟨ws_890, ty_891, hm_892, ht_894, hP1, hK1, hD1, hx_893⟩ := hB
    rw [ht] at hP1
    have hK := va_K.moved hvm.symm hK1
    have hD := hD1.weaken (fun _ _ _ h => hFc _ h)
    generalize H1 = H at hP1 hS ⊢
    have hP := hP1
    obtain ⟨g_896, e_895, h_897⟩ := hm_892.obj er_869
    obtain ⟨z_898, z_899, z_900, z_901, z_902, z_903, rfl⟩ := smX4 h_897
    obtain ⟨g_905, e_904, h_906⟩ := hm_892.obj et_870
    obtain ⟨z_907, z_908, z_909, z_910, rfl⟩ := smX6 h_906
    obtain ⟨f_912, e_911⟩ := hm_892.arrI e_877
    have u_913 := ht_894 _ _ u_878
    obtain ⟨f_915, e_914⟩ := hm_892.arrI e_884
    have u_916 := ht_894 _ _ u_885
    have hsm := hsm.tr (hm_892.mono (by decide))
    have hlp_101 := hlp_101.tr (hm_892.mono (by decide))
    have htx := htx.tr ht_894
    obtain ⟨ts_917, te_918, cc_919, ra_920, rb_921, rc_922, rv_923, re_924, ya_925, h1_926, h2_927, h3_928, h4_929, er_930, et_931, wr_932, wt_933, ⟨k_934, c9_935, t_936, f_937, e_938, u_939, w_940⟩, ⟨k_941, c9_942, t_943, f_944, e_945, u_946, w_947⟩⟩ := id hx_893
    refine lv_iinc (v := nI (i_93 + 1)) (lv' := [(4, .int (nI (i_93 + 1))), (2, .int r_827), (3, .int 1), (5, .int 1), (1, .int 4), (0, .ref rd)]) hx hb dX4_readEither_95 hl (k := 3) rfl (nI_add i_93 1) (by decide) rfl (fun ls hl => ?_)
    refine lv_goto (tgt := 11) hx hb dX4_readEither_98 (by decide) ?_
    exact ih_92 (i_93 + 1, r_827, 1) ws_890 _ _ ls (by show 400 - (i_93 + 1) < 400 - i_93; omega) ⟨hlp_101, ⟨ty_891, hK, htx, (⟨ts_917, te_918, cc_919, ra_920, rb_921, rc_922, rv_923, re_924, ya_925, by omega, by omega, by omega, by omega, er_930, et_931, wr_932, wt_933, ⟨k_934, c9_935, t_936, f_937, e_938, u_939, w_940⟩, ⟨k_941, c9_942, t_943, f_944, e_945, u_946, w_947⟩⟩ : RS ρ ws_890 ty_891 rd krd tp ktp cd bb tl)⟩, (show (i_93 + 1) ≤ 400 from by omega), (show r_827 = 0 ∨ r_827 = 1 from w_828), (show 1 = 0 ∨ 1 = 1 from Or.inr rfl)⟩ hP hD hS (lv_sub hl [0, 1, 2, 4, 5] rfl)
  refine lv_iload hx hb dX4_readEither_60 (lv_at hl 0 rfl) ?_
  refine lv_if_ne (tgt := 69) hx hb dX4_readEither_62 (by decide) (fun c_948 => ?_) (fun c_948 => absurd c_948 (by decide))
  refine lv_iconst (v := 0) hx hb dX4_readEither_69 (by decide) ?_
  refine lv_istore_n (lv' := [(3, .int 0), (5, .int 1), (4, .int (nI i_93)), (2, .int x_94), (1, .int 4), (0, .ref rd)]) hx hb dX4_readEither_70 rfl hl (by decide) rfl (fun ls hl => ?_)
  refine lv_aload_n hx hb dX4_readEither_71 rfl (lv_at hl 5 rfl) ?_
  refine va_get (D := D) (ci := 4) (v := .ref tp) (C := RX4) (T := TX4) (N := 8) hx hb hts hin4 hown hK hP krd e_367 rfl 0 (by decide) (hts (.fieldLink RX4 12 "HoneyHouse$RuleReader" "tape" "LHoneyHouse$Tape;") (List.mem_of_getElem? (i := 1) rfl)) (fun _ h9 => h9) rfl dX4_readEither_72 ?_
  have hFc := free_all hD hS hA
  refine va_callv (va_runV (As := []) (rest := []) ⟨hx, hb, hml, hown, hts⟩ (a_advance l D ρ ws_362 ty_363 tp ktp tl te_126 ya_133 (nI ts_125) bb k_149 c9_150 t_151 f_373 H.size (by omega) (by omega) e_368 e_372 u_374 wt_141) (cwV 0 hts gX4_readEither_X6_advance rfl rfl rfl (by decide +kernel) ⟨Nat.le_of_ble_eq_true rfl, Nat.le_of_ble_eq_true rfl⟩) ⟨fun a U g mk q => by obtain ⟨q0, q1, qP, qK, qD⟩ := q; exact ⟨q0, q1, qP, va_K.moved (u := U) (U := U.calling g mk a) (Vm.Alike.refl U.vm) qK, qD⟩, va_recv hK hP (ci := 6) (q0 := ktp) rfl e_368, fun U hU hW => ⟨rfl, by rw [hU], by rw [hU]; exact hP, va_K.moved hW.alike hK, hD.weaken (fun _ _ _ _ => trivial)⟩⟩ rfl rfl hl.1 rfl (lv_room (Nat.le_of_ble_eq_true rfl)) dX4_readEither_75 ⟨Nat.le_of_ble_eq_true rfl, Nat.le_of_ble_eq_true rfl⟩) hS (fun q _ h => hFc q h) hFc (fun u t H1 locs ht hvm w_950 hB hz1 hk1 hS => ?_)
  obtain ⟨ws_951, ty_952, hm_953, ht_955, hP1, hK1, hD1, hx_954⟩ := hB
  rw [ht] at hP1
  have hK := va_K.moved hvm.symm hK1
  have hD := hD1.weaken (fun _ _ _ h => hFc _ h)
  generalize H1 = H at hP1 hS ⊢
  have hP := hP1
  have e_956 := hm_953.objK e_367 (by decide)
  obtain ⟨g_958, e_957, h_959⟩ := hm_953.obj e_368
  obtain ⟨z_960, z_961, z_962, z_963, rfl⟩ := smX6 h_959
  obtain ⟨f_965, e_964⟩ := hm_953.arrI e_369
  have u_966 := ht_955 _ _ u_371
  obtain ⟨f_968, e_967⟩ := hm_953.arrI e_372
  have u_969 := ht_955 _ _ u_374
  have hsm := hsm.tr (hm_953.mono (by decide))
  have hlp_101 := hlp_101.tr (hm_953.mono (by decide))
  have htx := htx.tr ht_955
  obtain ⟨k_970, s_971, e_972, h_973, h_974, h_975, e_976⟩ := hx_954
  refine lv_aload_n hx hb dX4_readEither_78 rfl (lv_at hl 5 rfl) ?_
  refine lv_iload_n hx hb dX4_readEither_79 rfl (lv_at hl 4 rfl) ?_
  have hFc := free_all hD hS hA
  refine va_calli (va_runV (As := [.int 4]) (rest := []) ⟨hx, hb, hml, hown, hts⟩ (r_readOne4 l D ρ ws_951 ty_952 adK adV fo rd krd tp ktp cd bb tl  H.size (⟨s_971, e_972, cc_127, ra_128, rb_129, rc_130, rv_131, re_132, nI k_970, by omega, by omega, by omega, by omega, e_956, e_976, wr_140, wt_141, ⟨k_142, c9_143, t_144, f_965, e_964, u_966, w_148⟩, ⟨k_149, c9_150, t_151, f_968, e_967, u_969, w_155⟩⟩ : RS ρ ws_951 ty_952 rd krd tp ktp cd bb tl)) (cwV 1 hts gX4_readEither_X4_readOne rfl rfl rfl (by decide +kernel) ⟨Nat.le_of_ble_eq_true rfl, Nat.le_of_ble_eq_true rfl⟩) ⟨fun a U g mk q => by obtain ⟨q0, q1, qP, qK, qD, qS⟩ := q; exact ⟨q0, q1, qP, va_K.moved (u := U) (U := U.calling g mk a) (Vm.Alike.refl U.vm) qK, qD, SZ.same rfl rfl qS⟩, va_recv hK hP (ci := 4) (q0 := krd) rfl e_956, fun U hU hW => ⟨rfl, by rw [hU], by rw [hU]; exact hP, va_K.moved hW.alike hK, hD.weaken (fun _ _ _ _ => trivial), hsz9.go hS hW hU hFc⟩⟩ rfl rfl hl.1 rfl (lv_room (Nat.le_of_ble_eq_true rfl)) dX4_readEither_80 ⟨Nat.le_of_ble_eq_true rfl, Nat.le_of_ble_eq_true rfl⟩) hS (fun q _ h => hFc q h) hFc (fun r_977 u t H1 locs ht hvm w_978 hB hz1 hk1 hS => ?_)
  obtain ⟨ws_979, ty_980, hm_981, ht_983, hP1, hK1, hD1, hx_982⟩ := hB
  rw [ht] at hP1
  have hK := va_K.moved hvm.symm hK1
  have hD := hD1.weaken (fun _ _ _ h => hFc _ h)
  generalize H1 = H at hP1 hS ⊢
  have hP := hP1
  obtain ⟨g_985, e_984, h_986⟩ := hm_981.obj e_956
  obtain ⟨z_987, z_988, z_989, z_990, z_991, z_992, rfl⟩ := smX4 h_986
  obtain ⟨g_994, e_993, h_995⟩ := hm_981.obj e_976
  obtain ⟨z_996, z_997, z_998, z_999, rfl⟩ := smX6 h_995
  obtain ⟨f_1001, e_1000⟩ := hm_981.arrI e_964
  have u_1002 := ht_983 _ _ u_966
  obtain ⟨f_1004, e_1003⟩ := hm_981.arrI e_967
  have u_1005 := ht_983 _ _ u_969
  have hsm := hsm.tr (hm_981.mono (by decide))
  have hlp_101 := hlp_101.tr (hm_981.mono (by decide))
  have htx := htx.tr ht_983
  obtain ⟨ts_1006, te_1007, cc_1008, ra_1009, rb_1010, rc_1011, rv_1012, re_1013, ya_1014, h1_1015, h2_1016, h3_1017, h4_1018, er_1019, et_1020, wr_1021, wt_1022, ⟨k_1023, c9_1024, t_1025, f_1026, e_1027, u_1028, w_1029⟩, ⟨k_1030, c9_1031, t_1032, f_1033, e_1034, u_1035, w_1036⟩⟩ := id hx_982
  refine lv_istore_n (lv' := [(2, .int r_977), (3, .int 0), (5, .int 1), (4, .int (nI i_93)), (1, .int 4), (0, .ref rd)]) hx hb dX4_readEither_83 rfl hl (by decide) rfl (fun ls hl => ?_)
  refine lv_iload hx hb dX4_readEither_84 (lv_at hl 2 rfl) ?_
  refine lv_if_eq (tgt := 95) hx hb dX4_readEither_86 (by decide) (fun c_1037 => absurd c_1037 (by decide)) (fun c_1037 => ?_)
  refine lv_aload_n hx hb dX4_readEither_89 rfl (lv_at hl 5 rfl) ?_
  refine lv_bipush (v := (-2)) hx hb dX4_readEither_90 (by decide) ?_
  have hFc := free_all hD hS hA
  refine va_callv (va_runV (As := [.int (-2)]) (rest := []) ⟨hx, hb, hml, hown, hts⟩ (r_addCode l D ρ ws_979 ty_980 adK adV fo rd krd tp ktp cd bb tl (-2) H.size (⟨ts_1006, te_1007, cc_1008, ra_1009, rb_1010, rc_1011, rv_1012, re_1013, ya_1014, by omega, by omega, by omega, by omega, er_1019, et_1020, wr_1021, wt_1022, ⟨k_1023, c9_1024, t_1025, f_1026, e_1027, u_1028, w_1029⟩, ⟨k_1030, c9_1031, t_1032, f_1033, e_1034, u_1035, w_1036⟩⟩ : RS ρ ws_979 ty_980 rd krd tp ktp cd bb tl)) (cwV 1 hts gX4_readEither_X4_addCode rfl rfl rfl (by decide +kernel) ⟨Nat.le_of_ble_eq_true rfl, Nat.le_of_ble_eq_true rfl⟩) ⟨fun a U g mk q => by obtain ⟨q0, q1, qP, qK, qD, qS⟩ := q; exact ⟨q0, q1, qP, va_K.moved (u := U) (U := U.calling g mk a) (Vm.Alike.refl U.vm) qK, qD, SZ.same rfl rfl qS⟩, va_recv hK hP (ci := 4) (q0 := krd) rfl er_1019, fun U hU hW => ⟨rfl, by rw [hU], by rw [hU]; exact hP, va_K.moved hW.alike hK, hD.weaken (fun _ _ _ _ => trivial), hsz9.go hS hW hU hFc⟩⟩ rfl rfl hl.1 rfl (lv_room (Nat.le_of_ble_eq_true rfl)) dX4_readEither_92 ⟨Nat.le_of_ble_eq_true rfl, Nat.le_of_ble_eq_true rfl⟩) hS (fun q _ h => hFc q h) hFc (fun u t H1 locs ht hvm w_1039 hB hz1 hk1 hS => ?_)
  obtain ⟨ws_1040, ty_1041, hm_1042, ht_1044, hP1, hK1, hD1, hx_1043⟩ := hB
  rw [ht] at hP1
  have hK := va_K.moved hvm.symm hK1
  have hD := hD1.weaken (fun _ _ _ h => hFc _ h)
  generalize H1 = H at hP1 hS ⊢
  have hP := hP1
  obtain ⟨g_1046, e_1045, h_1047⟩ := hm_1042.obj er_1019
  obtain ⟨z_1048, z_1049, z_1050, z_1051, z_1052, z_1053, rfl⟩ := smX4 h_1047
  obtain ⟨g_1055, e_1054, h_1056⟩ := hm_1042.obj et_1020
  obtain ⟨z_1057, z_1058, z_1059, z_1060, rfl⟩ := smX6 h_1056
  obtain ⟨f_1062, e_1061⟩ := hm_1042.arrI e_1027
  have u_1063 := ht_1044 _ _ u_1028
  obtain ⟨f_1065, e_1064⟩ := hm_1042.arrI e_1034
  have u_1066 := ht_1044 _ _ u_1035
  have hsm := hsm.tr (hm_1042.mono (by decide))
  have hlp_101 := hlp_101.tr (hm_1042.mono (by decide))
  have htx := htx.tr ht_1044
  obtain ⟨ts_1067, te_1068, cc_1069, ra_1070, rb_1071, rc_1072, rv_1073, re_1074, ya_1075, h1_1076, h2_1077, h3_1078, h4_1079, er_1080, et_1081, wr_1082, wt_1083, ⟨k_1084, c9_1085, t_1086, f_1087, e_1088, u_1089, w_1090⟩, ⟨k_1091, c9_1092, t_1093, f_1094, e_1095, u_1096, w_1097⟩⟩ := id hx_1043
  refine lv_iinc (v := nI (i_93 + 1)) (lv' := [(4, .int (nI (i_93 + 1))), (2, .int r_977), (3, .int 0), (5, .int 1), (1, .int 4), (0, .ref rd)]) hx hb dX4_readEither_95 hl (k := 3) rfl (nI_add i_93 1) (by decide) rfl (fun ls hl => ?_)
  refine lv_goto (tgt := 11) hx hb dX4_readEither_98 (by decide) ?_
  exact ih_92 (i_93 + 1, r_977, 0) ws_1040 _ _ ls (by show 400 - (i_93 + 1) < 400 - i_93; omega) ⟨hlp_101, ⟨ty_1041, hK, htx, (⟨ts_1067, te_1068, cc_1069, ra_1070, rb_1071, rc_1072, rv_1073, re_1074, ya_1075, by omega, by omega, by omega, by omega, er_1080, et_1081, wr_1082, wt_1083, ⟨k_1084, c9_1085, t_1086, f_1087, e_1088, u_1089, w_1090⟩, ⟨k_1091, c9_1092, t_1093, f_1094, e_1095, u_1096, w_1097⟩⟩ : RS ρ ws_1040 ty_1041 rd krd tp ktp cd bb tl)⟩, (show (i_93 + 1) ≤ 400 from by omega), (show r_977 = 0 ∨ r_977 = 1 from w_978), (show 0 = 0 ∨ 0 = 1 from Or.inl rfl)⟩ hP hD hS (lv_sub hl [0, 1, 2, 4, 5] rfl)
set_option maxHeartbeats 4000000 in
set_option maxRecDepth 100000 in
theorem r_readOne3 (l : Launch) (D : va_G) (ρ : Nat → Nat) (ws : va_W) (tys : List (ClassId × FieldType)) (adK adV : Nat → Nat) (fo : Option Nat) (rd krd tp ktp cd bb tl : Nat)  (sz : Nat) (R0 : RS ρ ws tys rd krd tp ktp cd bb tl)  : Met l yX4_readOne wsX4_readOne ({ frames := 13, cells := 0, slots := 0, locals := 293 }) (va_Pc [.ref rd, .int 3] (fun U => U.heap.size = sz ∧ va_P D vwCl ws U.heap ∧ va_K D vwCl tys U ∧ va_D (fun _ => True) ws ∧ SZ adK adV fo (va_A ws sz) U U.heap)) (va_Qi (fun (r : Int32) (_ : Unit) => r = 0 ∨ r = 1) (fun (_ : Unit) (t : State) => ∃ (ws' : va_W) (tys' : List (ClassId × FieldType)), sm ρ [4, 6] ws ws' ∧ tyx tys tys' ∧ va_P D vwCl ws' t.heap ∧ va_K D vwCl tys' t ∧ va_D (va_A ws sz) ws' ∧ (RS ρ ws' tys' rd krd tp ktp cd bb tl)) (va_A ws sz)) 0 0 (va_A ws sz) := by
  refine Met.ofW (cc := cX4_readOne) (maxL := 4) (ret := (some .boolean)) (by decide) rfl ?_
  intro p e s m args below meth c s₁ B hml hv
  obtain ⟨rfl, hsz, hP, hK, hD0, hsz9⟩ := hv
  have hx := B.exec
  have hb := B.bytes
  have hr := B.returns
  have hts := atoms_spec (ws := wsX4_readOne) B.pre
  have hown : s.vm.findClass RX4 = some m.cls := findClass_of_methodNamed B.named
  have hlocks := B.notSynchronized
  subst hsz
  have hD := hD0.self (sz := s.heap.size)
  generalize hAe : va_A ws s.heap.size = A at hD hsz9 ⊢
  have hA : ∀ q : Nat, s.heap.size ≤ q → A q := fun q h => by rw [← hAe]; exact Or.inr h
  have hS : va_S A s.heap s.heap [] := va_S.rf
  have hsm : sm ρ [4, 6] ws ws := sm.rf ws
  have htx : tyx tys tys := tyx.rf tys
  have hin4 : ∀ w ∈ u_ws RX4 TX4 8, w ∈ wsX4_readOne := (fun _ h9 => List.mem_cons_of_mem _ (List.mem_append_left _ ((List.mem_append_right _ h9))))
  have hl := lv_entry ([.ref rd, .int 3]) (n := 4) (Nat.le_of_ble_eq_true rfl)
  rw [lg_entry_eq]
  generalize (lg_sl ([.ref rd, .int 3]) ++ List.replicate (4 - (lg_sl ([.ref rd, .int 3])).length) Slot.unset).toArray = ls at hl ⊢
  have hl : lv_has ls 4 [(0, .ref rd), (1, .int 3)] := hl
  obtain ⟨ts_1, te_2, cc_3, ra_4, rb_5, rc_6, rv_7, re_8, ya_9, h1_10, h2_11, h3_12, h4_13, er_14, et_15, wr_16, wt_17, ⟨k_18, c9_19, t_20, f_21, e_22, u_23, w_24⟩, ⟨k_25, c9_26, t_27, f_28, e_29, u_30, w_31⟩⟩ := id R0
  refine lv_aload_n hx hb dX4_readOne_0 rfl (lv_at hl 0 rfl) ?_
  refine va_get (D := D) (ci := 4) (v := .ref tp) (C := RX4) (T := TX4) (N := 8) hx hb hts hin4 hown hK hP krd er_14 rfl 0 (by decide) (hts (.fieldLink RX4 12 "HoneyHouse$RuleReader" "tape" "LHoneyHouse$Tape;") (List.mem_of_getElem? (i := 1) rfl)) (fun _ h9 => h9) rfl dX4_readOne_1 ?_
  refine va_ldcS hx hb hown hsz9.2.2.2.2.2.2.1 dX4_readOne_4 ?_
  have hFc := free_all hD hS hA
  refine va_calli (va_runV (As := [.ref (adK 3)]) (rest := []) ⟨hx, hb, hml, hown, hts⟩ (a_isWord l D ρ ws tys adK adV fo 3 tp ktp tl ya_9 (nI ts_1) (nI te_2) bb k_25 c9_26 t_27 f_28 s.heap.size (by decide) et_15 e_29 u_30) (cwV 1 hts gX4_readOne_X6_isWord rfl rfl rfl (by decide +kernel) ⟨Nat.le_of_ble_eq_true rfl, Nat.le_of_ble_eq_true rfl⟩) ⟨fun a U g mk q => by obtain ⟨q0, q1, qP, qK, qD, qS⟩ := q; exact ⟨q0, q1, qP, va_K.moved (u := U) (U := U.calling g mk a) (Vm.Alike.refl U.vm) qK, qD, SZ.same rfl rfl qS⟩, va_recv hK hP (ci := 6) (q0 := ktp) rfl et_15, fun U hU hW => ⟨rfl, by rw [hU], by rw [hU]; exact hP, va_K.moved hW.alike hK, hD.weaken (fun _ _ _ _ => trivial), hsz9.go hS hW hU hFc⟩⟩ rfl rfl hl.1 rfl (lv_room (Nat.le_of_ble_eq_true rfl)) dX4_readOne_6 ⟨Nat.le_of_ble_eq_true rfl, Nat.le_of_ble_eq_true rfl⟩) hS (fun q _ h => hFc q h) hFc (fun r_32 u t H1 locs ht hvm w_33 hB hz1 hk1 hS => ?_)
  obtain ⟨ws_34, ty_35, hm_36, ht_38, hP1, hK1, hD1, hx_37⟩ := hB
  rw [ht] at hP1
  have hK := va_K.moved hvm.symm hK1
  have hD := hD1.weaken (fun _ _ _ h => hFc _ h)
  generalize H1 = H at hP1 hS ⊢
  have hP := hP1
  have e_39 := hm_36.objK er_14 (by decide)
  have e_40 := hm_36.objK et_15 (by decide)
  obtain ⟨f_42, e_41⟩ := hm_36.arrI e_22
  have u_43 := ht_38 _ _ u_23
  obtain ⟨f_45, e_44⟩ := hm_36.arrI e_29
  have u_46 := ht_38 _ _ u_30
  have hsm := hsm.tr (hm_36.mono (by decide))
  have htx := htx.tr ht_38
  rcases w_33 with rfl | rfl
  · refine lv_istore_n (lv' := [(2, .int 0), (0, .ref rd), (1, .int 3)]) hx hb dX4_readOne_9 rfl hl (by decide) rfl (fun ls hl => ?_)
    refine lv_iload_n hx hb dX4_readOne_10 rfl (lv_at hl 0 rfl) ?_
    refine lv_if_ne (tgt := 31) hx hb dX4_readOne_11 (by decide) (fun c_47 => absurd (by decide) c_47) (fun c_47 => ?_)
    refine lv_aload_n hx hb dX4_readOne_14 rfl (lv_at hl 1 rfl) ?_
    refine va_get (D := D) (ci := 4) (v := .ref tp) (C := RX4) (T := TX4) (N := 8) hx hb hts hin4 hown hK hP krd e_39 rfl 0 (by decide) (hts (.fieldLink RX4 12 "HoneyHouse$RuleReader" "tape" "LHoneyHouse$Tape;") (List.mem_of_getElem? (i := 1) rfl)) (fun _ h9 => h9) rfl dX4_readOne_15 ?_
    refine lv_bipush (v := 40) hx hb dX4_readOne_18 (by decide) ?_
    refine vp_callSi (W.runV (As := [.int 40]) (rest := []) ⟨hx, hb, hml, hown, hts⟩ (s_isByte l D ws_34 ty_35 tp ktp tl ya_9 (nI ts_1) (nI te_2) bb k_25 c9_26 t_27 f_45 40 e_40 e_44 u_46) (cwV 1 hts gX4_readOne_X6_isByte rfl rfl rfl (by decide +kernel) ⟨Nat.le_of_ble_eq_true rfl, Nat.le_of_ble_eq_true rfl⟩) ⟨fun a U g mk q => ⟨q.1, q.2.1, va_K.moved (u := U) (U := U.calling g mk a) (Vm.Alike.refl U.vm) q.2.2⟩, va_recv hK hP (ci := 6) (q0 := ktp) rfl e_40, fun U hU hW => ⟨rfl, by rw [hU]; exact hP, va_K.moved hW.alike hK⟩⟩ rfl rfl hl.1 rfl (lv_room (Nat.le_of_ble_eq_true rfl)) dX4_readOne_20 ⟨Nat.le_of_ble_eq_true rfl, Nat.le_of_ble_eq_true rfl⟩) (fun r_48 k_49 => ?_)
    rcases k_49 with rfl | rfl
    · refine lv_if_ne (tgt := 31) hx hb dX4_readOne_23 (by decide) (fun c_50 => absurd (by decide) c_50) (fun c_50 => ?_)
      refine lv_aload_n hx hb dX4_readOne_26 rfl (lv_at hl 1 rfl) ?_
      have hFc := free_all hD hS hA
      refine va_calli (va_runV (As := []) (rest := []) ⟨hx, hb, hml, hown, hts⟩ (r_readTest l D ρ ws_34 ty_35 adK adV fo rd krd tp ktp cd bb tl  H.size (⟨ts_1, te_2, cc_3, ra_4, rb_5, rc_6, rv_7, re_8, ya_9, by omega, by omega, by omega, by omega, e_39, e_40, wr_16, wt_17, ⟨k_18, c9_19, t_20, f_42, e_41, u_43, w_24⟩, ⟨k_25, c9_26, t_27, f_45, e_44, u_46, w_31⟩⟩ : RS ρ ws_34 ty_35 rd krd tp ktp cd bb tl)) (cwV 0 hts gX4_readOne_X4_readTest rfl rfl rfl (by decide +kernel) ⟨Nat.le_of_ble_eq_true rfl, Nat.le_of_ble_eq_true rfl⟩) ⟨fun a U g mk q => by obtain ⟨q0, q1, qP, qK, qD, qS⟩ := q; exact ⟨q0, q1, qP, va_K.moved (u := U) (U := U.calling g mk a) (Vm.Alike.refl U.vm) qK, qD, SZ.same rfl rfl qS⟩, va_recv hK hP (ci := 4) (q0 := krd) rfl e_39, fun U hU hW => ⟨rfl, by rw [hU], by rw [hU]; exact hP, va_K.moved hW.alike hK, hD.weaken (fun _ _ _ _ => trivial), hsz9.go hS hW hU hFc⟩⟩ rfl rfl hl.1 rfl (lv_room (Nat.le_of_ble_eq_true rfl)) dX4_readOne_27 ⟨Nat.le_of_ble_eq_true rfl, Nat.le_of_ble_eq_true rfl⟩) hS (fun q _ h => hFc q h) hFc (fun r_51 u t H1 locs ht hvm w_52 hB hz1 hk1 hS => ?_)
      obtain ⟨ws_53, ty_54, hm_55, ht_57, hP1, hK1, hD1, hx_56⟩ := hB
      rw [ht] at hP1
      have hK := va_K.moved hvm.symm hK1
      have hD := hD1.weaken (fun _ _ _ h => hFc _ h)
      generalize H1 = H at hP1 hS ⊢
      have hP := hP1
      obtain ⟨g_59, e_58, h_60⟩ := hm_55.obj e_39
      obtain ⟨z_61, z_62, z_63, z_64, z_65, z_66, rfl⟩ := smX4 h_60
      obtain ⟨g_68, e_67, h_69⟩ := hm_55.obj e_40
      obtain ⟨z_70, z_71, z_72, z_73, rfl⟩ := smX6 h_69
      obtain ⟨f_75, e_74⟩ := hm_55.arrI e_41
      have u_76 := ht_57 _ _ u_43
      obtain ⟨f_78, e_77⟩ := hm_55.arrI e_44
      have u_79 := ht_57 _ _ u_46
      have hsm := hsm.tr (hm_55.mono (by decide))
      have htx := htx.tr ht_57
      obtain ⟨ts_80, te_81, cc_82, ra_83, rb_84, rc_85, rv_86, re_87, ya_88, h1_89, h2_90, h3_91, h4_92, er_93, et_94, wr_95, wt_96, ⟨k_97, c9_98, t_99, f_100, e_101, u_102, w_103⟩, ⟨k_104, c9_105, t_106, f_107, e_108, u_109, w_110⟩⟩ := id hx_56
      exact W.zret (v := r_51) hx hb hr (by rcases w_52 with h9 | h9 <;> rw [h9] <;> rfl) (fun t ht hW => ⟨⟨r_51, (), rfl, w_52, ws_53, ty_54, hsm, htx, by rw [ht]; exact hP, va_K.moved hW.alike hK, hD, (⟨ts_80, te_81, cc_82, ra_83, rb_84, rc_85, rv_86, re_87, ya_88, by omega, by omega, by omega, by omega, er_93, et_94, wr_95, wt_96, ⟨k_97, c9_98, t_99, f_100, e_101, u_102, w_103⟩, ⟨k_104, c9_105, t_106, f_107, e_108, u_109, w_110⟩⟩ : RS ρ ws_53 ty_54 rd krd tp ktp cd bb tl)⟩, hS.F ht⟩) hS.2.2 dX4_readOne_30
    refine lv_if_ne (tgt := 31) hx hb dX4_readOne_23 (by decide) (fun c_111 => ?_) (fun c_111 => absurd c_111 (by decide))
    refine lv_iload_n hx hb dX4_readOne_31 rfl (lv_at hl 2 rfl) ?_
    refine lv_bipush (v := 6) hx hb dX4_readOne_32 (by decide) ?_
    refine lv_icmp_lt (tgt := 50) hx hb dX4_readOne_34 (by decide) (fun c_112 => ?_) (fun c_112 => absurd (by decide) c_112)
    refine lv_aload_n hx hb dX4_readOne_50 rfl (lv_at hl 1 rfl) ?_
    refine va_get (D := D) (ci := 4) (v := .ref tp) (C := RX4) (T := TX4) (N := 8) hx hb hts hin4 hown hK hP krd e_39 rfl 0 (by decide) (hts (.fieldLink RX4 12 "HoneyHouse$RuleReader" "tape" "LHoneyHouse$Tape;") (List.mem_of_getElem? (i := 1) rfl)) (fun _ h9 => h9) rfl dX4_readOne_51 ?_
    have hFc := free_all hD hS hA
    refine va_callv (va_runV (As := []) (rest := []) ⟨hx, hb, hml, hown, hts⟩ (a_advance l D ρ ws_34 ty_35 tp ktp tl te_2 ya_9 (nI ts_1) bb k_25 c9_26 t_27 f_45 H.size (by omega) (by omega) e_40 e_44 u_46 wt_17) (cwV 0 hts gX4_readOne_X6_advance rfl rfl rfl (by decide +kernel) ⟨Nat.le_of_ble_eq_true rfl, Nat.le_of_ble_eq_true rfl⟩) ⟨fun a U g mk q => by obtain ⟨q0, q1, qP, qK, qD⟩ := q; exact ⟨q0, q1, qP, va_K.moved (u := U) (U := U.calling g mk a) (Vm.Alike.refl U.vm) qK, qD⟩, va_recv hK hP (ci := 6) (q0 := ktp) rfl e_40, fun U hU hW => ⟨rfl, by rw [hU], by rw [hU]; exact hP, va_K.moved hW.alike hK, hD.weaken (fun _ _ _ _ => trivial)⟩⟩ rfl rfl hl.1 rfl (lv_room (Nat.le_of_ble_eq_true rfl)) dX4_readOne_54 ⟨Nat.le_of_ble_eq_true rfl, Nat.le_of_ble_eq_true rfl⟩) hS (fun q _ h => hFc q h) hFc (fun u t H1 locs ht hvm w_114 hB hz1 hk1 hS => ?_)
    obtain ⟨ws_115, ty_116, hm_117, ht_119, hP1, hK1, hD1, hx_118⟩ := hB
    rw [ht] at hP1
    have hK := va_K.moved hvm.symm hK1
    have hD := hD1.weaken (fun _ _ _ h => hFc _ h)
    generalize H1 = H at hP1 hS ⊢
    have hP := hP1
    have e_120 := hm_117.objK e_39 (by decide)
    obtain ⟨g_122, e_121, h_123⟩ := hm_117.obj e_40
    obtain ⟨z_124, z_125, z_126, z_127, rfl⟩ := smX6 h_123
    obtain ⟨f_129, e_128⟩ := hm_117.arrI e_41
    have u_130 := ht_119 _ _ u_43
    obtain ⟨f_132, e_131⟩ := hm_117.arrI e_44
    have u_133 := ht_119 _ _ u_46
    have hsm := hsm.tr (hm_117.mono (by decide))
    have htx := htx.tr ht_119
    obtain ⟨k_134, s_135, e_136, h_137, h_138, h_139, e_140⟩ := hx_118
    refine lv_iload_n hx hb dX4_readOne_57 rfl (lv_at hl 0 rfl) ?_
    refine lv_if_ne (tgt := 86) hx hb dX4_readOne_58 (by decide) (fun c_141 => absurd (by decide) c_141) (fun c_141 => ?_)
    refine lv_aload_n hx hb dX4_readOne_61 rfl (lv_at hl 1 rfl) ?_
    refine lv_iload_n hx hb dX4_readOne_62 rfl (lv_at hl 2 rfl) ?_
    refine lv_iconst (v := 1) hx hb dX4_readOne_63 (by decide) ?_
    refine lv_iadd hx hb dX4_readOne_64 ?_
    refine tp_i (y := 4) (by decide) ?_
    have hFc := free_all hD hS hA
    refine va_calli (va_runV (As := [.int 4]) (rest := []) ⟨hx, hb, hml, hown, hts⟩ (r_readEither4 l D ρ ws_115 ty_116 adK adV fo rd krd tp ktp cd bb tl  H.size (⟨s_135, e_136, cc_3, ra_4, rb_5, rc_6, rv_7, re_8, nI k_134, by omega, by omega, by omega, by omega, e_120, e_140, wr_16, wt_17, ⟨k_18, c9_19, t_20, f_129, e_128, u_130, w_24⟩, ⟨k_25, c9_26, t_27, f_132, e_131, u_133, w_31⟩⟩ : RS ρ ws_115 ty_116 rd krd tp ktp cd bb tl)) (cwV 1 hts gX4_readOne_X4_readEither rfl rfl rfl (by decide +kernel) ⟨Nat.le_of_ble_eq_true rfl, Nat.le_of_ble_eq_true rfl⟩) ⟨fun a U g mk q => by obtain ⟨q0, q1, qP, qK, qD, qS⟩ := q; exact ⟨q0, q1, qP, va_K.moved (u := U) (U := U.calling g mk a) (Vm.Alike.refl U.vm) qK, qD, SZ.same rfl rfl qS⟩, va_recv hK hP (ci := 4) (q0 := krd) rfl e_120, fun U hU hW => ⟨rfl, by rw [hU], by rw [hU]; exact hP, va_K.moved hW.alike hK, hD.weaken (fun _ _ _ _ => trivial), hsz9.go hS hW hU hFc⟩⟩ rfl rfl hl.1 rfl (lv_room (Nat.le_of_ble_eq_true rfl)) dX4_readOne_65 ⟨Nat.le_of_ble_eq_true rfl, Nat.le_of_ble_eq_true rfl⟩) hS (fun q _ h => hFc q h) hFc (fun r_142 u t H1 locs ht hvm w_143 hB hz1 hk1 hS => ?_)
    obtain ⟨ws_144, ty_145, hm_146, ht_148, hP1, hK1, hD1, hx_147⟩ := hB
    rw [ht] at hP1
    have hK := va_K.moved hvm.symm hK1
    have hD := hD1.weaken (fun _ _ _ h => hFc _ h)
    generalize H1 = H at hP1 hS ⊢
    have hP := hP1
    obtain ⟨g_150, e_149, h_151⟩ := hm_146.obj e_120
    obtain ⟨z_152, z_153, z_154, z_155, z_156, z_157, rfl⟩ := smX4 h_151
    obtain ⟨g_159, e_158, h_160⟩ := hm_146.obj e_140
    obtain ⟨z_161, z_162, z_163, z_164, rfl⟩ := smX6 h_160
    obtain ⟨f_166, e_165⟩ := hm_146.arrI e_128
    have u_167 := ht_148 _ _ u_130
    obtain ⟨f_169, e_168⟩ := hm_146.arrI e_131
    have u_170 := ht_148 _ _ u_133
    have hsm := hsm.tr (hm_146.mono (by decide))
    have htx := htx.tr ht_148
    obtain ⟨ts_171, te_172, cc_173, ra_174, rb_175, rc_176, rv_177, re_178, ya_179, h1_180, h2_181, h3_182, h4_183, er_184, et_185, wr_186, wt_187, ⟨k_188, c9_189, t_190, f_191, e_192, u_193, w_194⟩, ⟨k_195, c9_196, t_197, f_198, e_199, u_200, w_201⟩⟩ := id hx_147
    refine lv_if_eq (tgt := 84) hx hb dX4_readOne_68 (by decide) (fun c_202 => ?_) (fun c_202 => ?_)
    · refine lv_iconst (v := 0) hx hb dX4_readOne_84 (by decide) ?_
      exact W.zret (v := 0) hx hb hr rfl (fun t ht hW => ⟨⟨0, (), rfl, Or.inl rfl, ws_144, ty_145, hsm, htx, by rw [ht]; exact hP, va_K.moved hW.alike hK, hD, (⟨ts_171, te_172, cc_173, ra_174, rb_175, rc_176, rv_177, re_178, ya_179, by omega, by omega, by omega, by omega, er_184, et_185, wr_186, wt_187, ⟨k_188, c9_189, t_190, f_191, e_192, u_193, w_194⟩, ⟨k_195, c9_196, t_197, f_198, e_199, u_200, w_201⟩⟩ : RS ρ ws_144 ty_145 rd krd tp ktp cd bb tl)⟩, hS.F ht⟩) hS.2.2 dX4_readOne_85
    refine lv_aload_n hx hb dX4_readOne_71 rfl (lv_at hl 1 rfl) ?_
    refine lv_bipush (v := 41) hx hb dX4_readOne_72 (by decide) ?_
    have hFc := free_all hD hS hA
    refine va_calli (va_runV (As := [.int 41]) (rest := []) ⟨hx, hb, hml, hown, hts⟩ (r_readByte l D ρ ws_144 ty_145 adK adV fo rd krd tp ktp cd bb tl 41 H.size (⟨ts_171, te_172, cc_173, ra_174, rb_175, rc_176, rv_177, re_178, ya_179, by omega, by omega, by omega, by omega, er_184, et_185, wr_186, wt_187, ⟨k_188, c9_189, t_190, f_191, e_192, u_193, w_194⟩, ⟨k_195, c9_196, t_197, f_198, e_199, u_200, w_201⟩⟩ : RS ρ ws_144 ty_145 rd krd tp ktp cd bb tl)) (cwV 1 hts gX4_readOne_X4_readByte rfl rfl rfl (by decide +kernel) ⟨Nat.le_of_ble_eq_true rfl, Nat.le_of_ble_eq_true rfl⟩) ⟨fun a U g mk q => by obtain ⟨q0, q1, qP, qK, qD, qS⟩ := q; exact ⟨q0, q1, qP, va_K.moved (u := U) (U := U.calling g mk a) (Vm.Alike.refl U.vm) qK, qD, SZ.same rfl rfl qS⟩, va_recv hK hP (ci := 4) (q0 := krd) rfl er_184, fun U hU hW => ⟨rfl, by rw [hU], by rw [hU]; exact hP, va_K.moved hW.alike hK, hD.weaken (fun _ _ _ _ => trivial), hsz9.go hS hW hU hFc⟩⟩ rfl rfl hl.1 rfl (lv_room (Nat.le_of_ble_eq_true rfl)) dX4_readOne_74 ⟨Nat.le_of_ble_eq_true rfl, Nat.le_of_ble_eq_true rfl⟩) hS (fun q _ h => hFc q h) hFc (fun r_203 u t H1 locs ht hvm w_204 hB hz1 hk1 hS => ?_)
    obtain ⟨ws_205, ty_206, hm_207, ht_209, hP1, hK1, hD1, hx_208⟩ := hB
    rw [ht] at hP1
    have hK := va_K.moved hvm.symm hK1
    have hD := hD1.weaken (fun _ _ _ h => hFc _ h)
    generalize H1 = H at hP1 hS ⊢
    have hP := hP1
    obtain ⟨g_211, e_210, h_212⟩ := hm_207.obj er_184
    obtain ⟨z_213, z_214, z_215, z_216, z_217, z_218, rfl⟩ := smX4 h_212
    obtain ⟨g_220, e_219, h_221⟩ := hm_207.obj et_185
    obtain ⟨z_222, z_223, z_224, z_225, rfl⟩ := smX6 h_221
    obtain ⟨f_227, e_226⟩ := hm_207.arrI e_192
    have u_228 := ht_209 _ _ u_193
    obtain ⟨f_230, e_229⟩ := hm_207.arrI e_199
    have u_231 := ht_209 _ _ u_200
    have hsm := hsm.tr (hm_207.mono (by decide))
    have htx := htx.tr ht_209
    obtain ⟨ts_232, te_233, cc_234, ra_235, rb_236, rc_237, rv_238, re_239, ya_240, h1_241, h2_242, h3_243, h4_244, er_245, et_246, wr_247, wt_248, ⟨k_249, c9_250, t_251, f_252, e_253, u_254, w_255⟩, ⟨k_256, c9_257, t_258, f_259, e_260, u_261, w_262⟩⟩ := id hx_208
    rcases w_204 with rfl | rfl
    · refine lv_if_eq (tgt := 84) hx hb dX4_readOne_77 (by decide) (fun c_263 => ?_) (fun c_263 => absurd (by decide) c_263)
      refine lv_iconst (v := 0) hx hb dX4_readOne_84 (by decide) ?_
      exact W.zret (v := 0) hx hb hr rfl (fun t ht hW => ⟨⟨0, (), rfl, Or.inl rfl, ws_205, ty_206, hsm, htx, by rw [ht]; exact hP, va_K.moved hW.alike hK, hD, (⟨ts_232, te_233, cc_234, ra_235, rb_236, rc_237, rv_238, re_239, ya_240, by omega, by omega, by omega, by omega, er_245, et_246, wr_247, wt_248, ⟨k_249, c9_250, t_251, f_252, e_253, u_254, w_255⟩, ⟨k_256, c9_257, t_258, f_259, e_260, u_261, w_262⟩⟩ : RS ρ ws_205 ty_206 rd krd tp ktp cd bb tl)⟩, hS.F ht⟩) hS.2.2 dX4_readOne_85
    refine lv_if_eq (tgt := 84) hx hb dX4_readOne_77 (by decide) (fun c_264 => absurd c_264 (by decide)) (fun c_264 => ?_)
    refine lv_iconst (v := 1) hx hb dX4_readOne_80 (by decide) ?_
    refine lv_goto (tgt := 85) hx hb dX4_readOne_81 (by decide) ?_
    exact W.zret (v := 1) hx hb hr rfl (fun t ht hW => ⟨⟨1, (), rfl, Or.inr rfl, ws_205, ty_206, hsm, htx, by rw [ht]; exact hP, va_K.moved hW.alike hK, hD, (⟨ts_232, te_233, cc_234, ra_235, rb_236, rc_237, rv_238, re_239, ya_240, by omega, by omega, by omega, by omega, er_245, et_246, wr_247, wt_248, ⟨k_249, c9_250, t_251, f_252, e_253, u_254, w_255⟩, ⟨k_256, c9_257, t_258, f_259, e_260, u_261, w_262⟩⟩ : RS ρ ws_205 ty_206 rd krd tp ktp cd bb tl)⟩, hS.F ht⟩) hS.2.2 dX4_readOne_85
  refine lv_istore_n (lv' := [(2, .int 1), (0, .ref rd), (1, .int 3)]) hx hb dX4_readOne_9 rfl hl (by decide) rfl (fun ls hl => ?_)
  refine lv_iload_n hx hb dX4_readOne_10 rfl (lv_at hl 0 rfl) ?_
  refine lv_if_ne (tgt := 31) hx hb dX4_readOne_11 (by decide) (fun c_265 => ?_) (fun c_265 => absurd c_265 (by decide))
  refine lv_iload_n hx hb dX4_readOne_31 rfl (lv_at hl 2 rfl) ?_
  refine lv_bipush (v := 6) hx hb dX4_readOne_32 (by decide) ?_
  refine lv_icmp_lt (tgt := 50) hx hb dX4_readOne_34 (by decide) (fun c_266 => ?_) (fun c_266 => absurd (by decide) c_266)
  refine lv_aload_n hx hb dX4_readOne_50 rfl (lv_at hl 1 rfl) ?_
  refine va_get (D := D) (ci := 4) (v := .ref tp) (C := RX4) (T := TX4) (N := 8) hx hb hts hin4 hown hK hP krd e_39 rfl 0 (by decide) (hts (.fieldLink RX4 12 "HoneyHouse$RuleReader" "tape" "LHoneyHouse$Tape;") (List.mem_of_getElem? (i := 1) rfl)) (fun _ h9 => h9) rfl dX4_readOne_51 ?_
  have hFc := free_all hD hS hA
  refine va_callv (va_runV (As := []) (rest := []) ⟨hx, hb, hml, hown, hts⟩ (a_advance l D ρ ws_34 ty_35 tp ktp tl te_2 ya_9 (nI ts_1) bb k_25 c9_26 t_27 f_45 H.size (by omega) (by omega) e_40 e_44 u_46 wt_17) (cwV 0 hts gX4_readOne_X6_advance rfl rfl rfl (by decide +kernel) ⟨Nat.le_of_ble_eq_true rfl, Nat.le_of_ble_eq_true rfl⟩) ⟨fun a U g mk q => by obtain ⟨q0, q1, qP, qK, qD⟩ := q; exact ⟨q0, q1, qP, va_K.moved (u := U) (U := U.calling g mk a) (Vm.Alike.refl U.vm) qK, qD⟩, va_recv hK hP (ci := 6) (q0 := ktp) rfl e_40, fun U hU hW => ⟨rfl, by rw [hU], by rw [hU]; exact hP, va_K.moved hW.alike hK, hD.weaken (fun _ _ _ _ => trivial)⟩⟩ rfl rfl hl.1 rfl (lv_room (Nat.le_of_ble_eq_true rfl)) dX4_readOne_54 ⟨Nat.le_of_ble_eq_true rfl, Nat.le_of_ble_eq_true rfl⟩) hS (fun q _ h => hFc q h) hFc (fun u t H1 locs ht hvm w_268 hB hz1 hk1 hS => ?_)
  obtain ⟨ws_269, ty_270, hm_271, ht_273, hP1, hK1, hD1, hx_272⟩ := hB
  rw [ht] at hP1
  have hK := va_K.moved hvm.symm hK1
  have hD := hD1.weaken (fun _ _ _ h => hFc _ h)
  generalize H1 = H at hP1 hS ⊢
  have hP := hP1
  have e_274 := hm_271.objK e_39 (by decide)
  obtain ⟨g_276, e_275, h_277⟩ := hm_271.obj e_40
  obtain ⟨z_278, z_279, z_280, z_281, rfl⟩ := smX6 h_277
  obtain ⟨f_283, e_282⟩ := hm_271.arrI e_41
  have u_284 := ht_273 _ _ u_43
  obtain ⟨f_286, e_285⟩ := hm_271.arrI e_44
  have u_287 := ht_273 _ _ u_46
  have hsm := hsm.tr (hm_271.mono (by decide))
  have htx := htx.tr ht_273
  obtain ⟨k_288, s_289, e_290, h_291, h_292, h_293, e_294⟩ := hx_272
  refine lv_iload_n hx hb dX4_readOne_57 rfl (lv_at hl 0 rfl) ?_
  refine lv_if_ne (tgt := 86) hx hb dX4_readOne_58 (by decide) (fun c_295 => ?_) (fun c_295 => absurd c_295 (by decide))
  refine lv_aload_n hx hb dX4_readOne_86 rfl (lv_at hl 1 rfl) ?_
  refine lv_iload_n hx hb dX4_readOne_87 rfl (lv_at hl 2 rfl) ?_
  refine lv_iconst (v := 1) hx hb dX4_readOne_88 (by decide) ?_
  refine lv_iadd hx hb dX4_readOne_89 ?_
  refine tp_i (y := 4) (by decide) ?_
  have hFc := free_all hD hS hA
  refine va_calli (va_runV (As := [.int 4]) (rest := []) ⟨hx, hb, hml, hown, hts⟩ (r_readOne4 l D ρ ws_269 ty_270 adK adV fo rd krd tp ktp cd bb tl  H.size (⟨s_289, e_290, cc_3, ra_4, rb_5, rc_6, rv_7, re_8, nI k_288, by omega, by omega, by omega, by omega, e_274, e_294, wr_16, wt_17, ⟨k_18, c9_19, t_20, f_283, e_282, u_284, w_24⟩, ⟨k_25, c9_26, t_27, f_286, e_285, u_287, w_31⟩⟩ : RS ρ ws_269 ty_270 rd krd tp ktp cd bb tl)) (cwV 1 hts gX4_readOne_X4_readOne rfl rfl rfl (by decide +kernel) ⟨Nat.le_of_ble_eq_true rfl, Nat.le_of_ble_eq_true rfl⟩) ⟨fun a U g mk q => by obtain ⟨q0, q1, qP, qK, qD, qS⟩ := q; exact ⟨q0, q1, qP, va_K.moved (u := U) (U := U.calling g mk a) (Vm.Alike.refl U.vm) qK, qD, SZ.same rfl rfl qS⟩, va_recv hK hP (ci := 4) (q0 := krd) rfl e_274, fun U hU hW => ⟨rfl, by rw [hU], by rw [hU]; exact hP, va_K.moved hW.alike hK, hD.weaken (fun _ _ _ _ => trivial), hsz9.go hS hW hU hFc⟩⟩ rfl rfl hl.1 rfl (lv_room (Nat.le_of_ble_eq_true rfl)) dX4_readOne_90 ⟨Nat.le_of_ble_eq_true rfl, Nat.le_of_ble_eq_true rfl⟩) hS (fun q _ h => hFc q h) hFc (fun r_296 u t H1 locs ht hvm w_297 hB hz1 hk1 hS => ?_)
  obtain ⟨ws_298, ty_299, hm_300, ht_302, hP1, hK1, hD1, hx_301⟩ := hB
  rw [ht] at hP1
  have hK := va_K.moved hvm.symm hK1
  have hD := hD1.weaken (fun _ _ _ h => hFc _ h)
  generalize H1 = H at hP1 hS ⊢
  have hP := hP1
  obtain ⟨g_304, e_303, h_305⟩ := hm_300.obj e_274
  obtain ⟨z_306, z_307, z_308, z_309, z_310, z_311, rfl⟩ := smX4 h_305
  obtain ⟨g_313, e_312, h_314⟩ := hm_300.obj e_294
  obtain ⟨z_315, z_316, z_317, z_318, rfl⟩ := smX6 h_314
  obtain ⟨f_320, e_319⟩ := hm_300.arrI e_282
  have u_321 := ht_302 _ _ u_284
  obtain ⟨f_323, e_322⟩ := hm_300.arrI e_285
  have u_324 := ht_302 _ _ u_287
  have hsm := hsm.tr (hm_300.mono (by decide))
  have htx := htx.tr ht_302
  obtain ⟨ts_325, te_326, cc_327, ra_328, rb_329, rc_330, rv_331, re_332, ya_333, h1_334, h2_335, h3_336, h4_337, er_338, et_339, wr_340, wt_341, ⟨k_342, c9_343, t_344, f_345, e_346, u_347, w_348⟩, ⟨k_349, c9_350, t_351, f_352, e_353, u_354, w_355⟩⟩ := id hx_301
  refine lv_istore_n (lv' := [(3, .int r_296), (2, .int 1), (0, .ref rd), (1, .int 3)]) hx hb dX4_readOne_93 rfl hl (by decide) rfl (fun ls hl => ?_)
  refine lv_aload_n hx hb dX4_readOne_94 rfl (lv_at hl 2 rfl) ?_
  refine lv_iconst (v := (-1)) hx hb dX4_readOne_95 (by decide) ?_
  have hFc := free_all hD hS hA
  refine va_callv (va_runV (As := [.int (-1)]) (rest := []) ⟨hx, hb, hml, hown, hts⟩ (r_addCode l D ρ ws_298 ty_299 adK adV fo rd krd tp ktp cd bb tl (-1) H.size (⟨ts_325, te_326, cc_327, ra_328, rb_329, rc_330, rv_331, re_332, ya_333, by omega, by omega, by omega, by omega, er_338, et_339, wr_340, wt_341, ⟨k_342, c9_343, t_344, f_345, e_346, u_347, w_348⟩, ⟨k_349, c9_350, t_351, f_352, e_353, u_354, w_355⟩⟩ : RS ρ ws_298 ty_299 rd krd tp ktp cd bb tl)) (cwV 1 hts gX4_readOne_X4_addCode rfl rfl rfl (by decide +kernel) ⟨Nat.le_of_ble_eq_true rfl, Nat.le_of_ble_eq_true rfl⟩) ⟨fun a U g mk q => by obtain ⟨q0, q1, qP, qK, qD, qS⟩ := q; exact ⟨q0, q1, qP, va_K.moved (u := U) (U := U.calling g mk a) (Vm.Alike.refl U.vm) qK, qD, SZ.same rfl rfl qS⟩, va_recv hK hP (ci := 4) (q0 := krd) rfl er_338, fun U hU hW => ⟨rfl, by rw [hU], by rw [hU]; exact hP, va_K.moved hW.alike hK, hD.weaken (fun _ _ _ _ => trivial), hsz9.go hS hW hU hFc⟩⟩ rfl rfl hl.1 rfl (lv_room (Nat.le_of_ble_eq_true rfl)) dX4_readOne_96 ⟨Nat.le_of_ble_eq_true rfl, Nat.le_of_ble_eq_true rfl⟩) hS (fun q _ h => hFc q h) hFc (fun u t H1 locs ht hvm w_357 hB hz1 hk1 hS => ?_)
  obtain ⟨ws_358, ty_359, hm_360, ht_362, hP1, hK1, hD1, hx_361⟩ := hB
  rw [ht] at hP1
  have hK := va_K.moved hvm.symm hK1
  have hD := hD1.weaken (fun _ _ _ h => hFc _ h)
  generalize H1 = H at hP1 hS ⊢
  have hP := hP1
  obtain ⟨g_364, e_363, h_365⟩ := hm_360.obj er_338
  obtain ⟨z_366, z_367, z_368, z_369, z_370, z_371, rfl⟩ := smX4 h_365
  obtain ⟨g_373, e_372, h_374⟩ := hm_360.obj et_339
  obtain ⟨z_375, z_376, z_377, z_378, rfl⟩ := smX6 h_374
  obtain ⟨f_380, e_379⟩ := hm_360.arrI e_346
  have u_381 := ht_362 _ _ u_347
  obtain ⟨f_383, e_382⟩ := hm_360.arrI e_353
  have u_384 := ht_362 _ _ u_354
  have hsm := hsm.tr (hm_360.mono (by decide))
  have htx := htx.tr ht_362
  obtain ⟨ts_385, te_386, cc_387, ra_388, rb_389, rc_390, rv_391, re_392, ya_393, h1_394, h2_395, h3_396, h4_397, er_398, et_399, wr_400, wt_401, ⟨k_402, c9_403, t_404, f_405, e_406, u_407, w_408⟩, ⟨k_409, c9_410, t_411, f_412, e_413, u_414, w_415⟩⟩ := id hx_361
  refine lv_iload_n hx hb dX4_readOne_99 rfl (lv_at hl 0 rfl) ?_
  exact W.zret (v := r_296) hx hb hr (by rcases w_297 with h9 | h9 <;> rw [h9] <;> rfl) (fun t ht hW => ⟨⟨r_296, (), rfl, w_297, ws_358, ty_359, hsm, htx, by rw [ht]; exact hP, va_K.moved hW.alike hK, hD, (⟨ts_385, te_386, cc_387, ra_388, rb_389, rc_390, rv_391, re_392, ya_393, by omega, by omega, by omega, by omega, er_398, et_399, wr_400, wt_401, ⟨k_402, c9_403, t_404, f_405, e_406, u_407, w_408⟩, ⟨k_409, c9_410, t_411, f_412, e_413, u_414, w_415⟩⟩ : RS ρ ws_358 ty_359 rd krd tp ktp cd bb tl)⟩, hS.F ht⟩) hS.2.2 dX4_readOne_100
set_option maxHeartbeats 4000000 in
set_option maxRecDepth 100000 in
theorem r_readEither3 (l : Launch) (D : va_G) (ρ : Nat → Nat) (ws : va_W) (tys : List (ClassId × FieldType)) (adK adV : Nat → Nat) (fo : Option Nat) (rd krd tp ktp cd bb tl : Nat)  (sz : Nat) (R0 : RS ρ ws tys rd krd tp ktp cd bb tl)  : Met l yX4_readEither wsX4_readEither ({ frames := 14, cells := 0, slots := 0, locals := 316 }) (va_Pc [.ref rd, .int 3] (fun U => U.heap.size = sz ∧ va_P D vwCl ws U.heap ∧ va_K D vwCl tys U ∧ va_D (fun _ => True) ws ∧ SZ adK adV fo (va_A ws sz) U U.heap)) (va_Qi (fun (r : Int32) (_ : Unit) => r = 0 ∨ r = 1) (fun (_ : Unit) (t : State) => ∃ (ws' : va_W) (tys' : List (ClassId × FieldType)), sm ρ [4, 6] ws ws' ∧ tyx tys tys' ∧ va_P D vwCl ws' t.heap ∧ va_K D vwCl tys' t ∧ va_D (va_A ws sz) ws' ∧ (RS ρ ws' tys' rd krd tp ktp cd bb tl)) (va_A ws sz)) 0 0 (va_A ws sz) := by
  refine Met.ofW (cc := cX4_readEither) (maxL := 6) (ret := (some .boolean)) (by decide) rfl ?_
  intro p e s m args below meth c s₁ B hml hv
  obtain ⟨rfl, hsz, hP, hK, hD0, hsz9⟩ := hv
  have hx := B.exec
  have hb := B.bytes
  have hr := B.returns
  have hts := atoms_spec (ws := wsX4_readEither) B.pre
  have hown : s.vm.findClass RX4 = some m.cls := findClass_of_methodNamed B.named
  have hlocks := B.notSynchronized
  subst hsz
  have hD := hD0.self (sz := s.heap.size)
  generalize hAe : va_A ws s.heap.size = A at hD hsz9 ⊢
  have hA : ∀ q : Nat, s.heap.size ≤ q → A q := fun q h => by rw [← hAe]; exact Or.inr h
  have hS : va_S A s.heap s.heap [] := va_S.rf
  have hsm : sm ρ [4, 6] ws ws := sm.rf ws
  have htx : tyx tys tys := tyx.rf tys
  have hin4 : ∀ w ∈ u_ws RX4 TX4 8, w ∈ wsX4_readEither := (fun _ h9 => List.mem_cons_of_mem _ (List.mem_append_left _ ((List.mem_append_right _ h9))))
  have hl := lv_entry ([.ref rd, .int 3]) (n := 6) (Nat.le_of_ble_eq_true rfl)
  rw [lg_entry_eq]
  generalize (lg_sl ([.ref rd, .int 3]) ++ List.replicate (6 - (lg_sl ([.ref rd, .int 3])).length) Slot.unset).toArray = ls at hl ⊢
  have hl : lv_has ls 6 [(0, .ref rd), (1, .int 3)] := hl
  obtain ⟨ts_1, te_2, cc_3, ra_4, rb_5, rc_6, rv_7, re_8, ya_9, h1_10, h2_11, h3_12, h4_13, er_14, et_15, wr_16, wt_17, ⟨k_18, c9_19, t_20, f_21, e_22, u_23, w_24⟩, ⟨k_25, c9_26, t_27, f_28, e_29, u_30, w_31⟩⟩ := id R0
  refine lv_aload_n hx hb dX4_readEither_0 rfl (lv_at hl 0 rfl) ?_
  refine lv_iload_n hx hb dX4_readEither_1 rfl (lv_at hl 1 rfl) ?_
  have hFc := free_all hD hS hA
  refine va_calli (va_runV (As := [.int 3]) (rest := []) ⟨hx, hb, hml, hown, hts⟩ (r_readOne3 l D ρ ws tys adK adV fo rd krd tp ktp cd bb tl  s.heap.size (⟨ts_1, te_2, cc_3, ra_4, rb_5, rc_6, rv_7, re_8, ya_9, by omega, by omega, by omega, by omega, er_14, et_15, wr_16, wt_17, ⟨k_18, c9_19, t_20, f_21, e_22, u_23, w_24⟩, ⟨k_25, c9_26, t_27, f_28, e_29, u_30, w_31⟩⟩ : RS ρ ws tys rd krd tp ktp cd bb tl)) (cwV 1 hts gX4_readEither_X4_readOne rfl rfl rfl (by decide +kernel) ⟨Nat.le_of_ble_eq_true rfl, Nat.le_of_ble_eq_true rfl⟩) ⟨fun a U g mk q => by obtain ⟨q0, q1, qP, qK, qD, qS⟩ := q; exact ⟨q0, q1, qP, va_K.moved (u := U) (U := U.calling g mk a) (Vm.Alike.refl U.vm) qK, qD, SZ.same rfl rfl qS⟩, va_recv hK hP (ci := 4) (q0 := krd) rfl er_14, fun U hU hW => ⟨rfl, by rw [hU], by rw [hU]; exact hP, va_K.moved hW.alike hK, hD.weaken (fun _ _ _ _ => trivial), hsz9.go hS hW hU hFc⟩⟩ rfl rfl hl.1 rfl (lv_room (Nat.le_of_ble_eq_true rfl)) dX4_readEither_2 ⟨Nat.le_of_ble_eq_true rfl, Nat.le_of_ble_eq_true rfl⟩) hS (fun q _ h => hFc q h) hFc (fun r_32 u t H1 locs ht hvm w_33 hB hz1 hk1 hS => ?_)
  obtain ⟨ws_34, ty_35, hm_36, ht_38, hP1, hK1, hD1, hx_37⟩ := hB
  rw [ht] at hP1
  have hK := va_K.moved hvm.symm hK1
  have hD := hD1.weaken (fun _ _ _ h => hFc _ h)
  generalize H1 = H at hP1 hS ⊢
  have hP := hP1
  obtain ⟨g_40, e_39, h_41⟩ := hm_36.obj er_14
  obtain ⟨z_42, z_43, z_44, z_45, z_46, z_47, rfl⟩ := smX4 h_41
  obtain ⟨g_49, e_48, h_50⟩ := hm_36.obj et_15
  obtain ⟨z_51, z_52, z_53, z_54, rfl⟩ := smX6 h_50
  obtain ⟨f_56, e_55⟩ := hm_36.arrI e_22
  have u_57 := ht_38 _ _ u_23
  obtain ⟨f_59, e_58⟩ := hm_36.arrI e_29
  have u_60 := ht_38 _ _ u_30
  have hsm := hsm.tr (hm_36.mono (by decide))
  have htx := htx.tr ht_38
  obtain ⟨ts_61, te_62, cc_63, ra_64, rb_65, rc_66, rv_67, re_68, ya_69, h1_70, h2_71, h3_72, h4_73, er_74, et_75, wr_76, wt_77, ⟨k_78, c9_79, t_80, f_81, e_82, u_83, w_84⟩, ⟨k_85, c9_86, t_87, f_88, e_89, u_90, w_91⟩⟩ := id hx_37
  refine lv_istore_n (lv' := [(2, .int r_32), (0, .ref rd), (1, .int 3)]) hx hb dX4_readEither_5 rfl hl (by decide) rfl (fun ls hl => ?_)
  refine lv_iconst (v := 0) hx hb dX4_readEither_6 (by decide) ?_
  refine lv_istore_n (lv' := [(3, .int 0), (2, .int r_32), (0, .ref rd), (1, .int 3)]) hx hb dX4_readEither_7 rfl hl (by decide) rfl (fun ls hl => ?_)
  refine lv_iconst (v := 0) hx hb dX4_readEither_8 (by decide) ?_
  refine lv_istore (lv' := [(4, .int 0), (3, .int 0), (2, .int r_32), (0, .ref rd), (1, .int 3)]) hx hb dX4_readEither_9 hl (by decide) rfl (fun ls hl => ?_)
  refine lp_V (nL := 6) (σ := Nat × Int32 × Int32) (lv := fun x9 => [(4, .int (nI x9.1)), (2, .int x9.2.1), (3, .int x9.2.2), (1, .int 3), (0, .ref rd)]) (μ := fun x9 => 400 - x9.1) (J := fun x9 ws9 => sm ρ [4, 6] ws_34 ws9 ∧ (∃ ty9 : List (ClassId × FieldType), va_K D vwCl ty9 s ∧ tyx tys ty9 ∧ RS ρ ws9 ty9 rd krd tp ktp cd bb tl) ∧ (x9.1 ≤ 400) ∧ (x9.2.1 = 0 ∨ x9.2.1 = 1) ∧ (x9.2.2 = 0 ∨ x9.2.2 = 1)) (fun x9 ws_99 H locs ls hj hP hD hS hl ih_92 => ?_) (0, r_32, 0) ws_34 _ _ ls ⟨sm.rf _, ⟨ty_35, hK, htx, (⟨ts_61, te_62, cc_63, ra_64, rb_65, rc_66, rv_67, re_68, ya_69, by omega, by omega, by omega, by omega, er_74, et_75, wr_76, wt_77, ⟨k_78, c9_79, t_80, f_81, e_82, u_83, w_84⟩, ⟨k_85, c9_86, t_87, f_88, e_89, u_90, w_91⟩⟩ : RS ρ ws_34 ty_35 rd krd tp ktp cd bb tl)⟩, (show 0 ≤ 400 from by omega), (show r_32 = 0 ∨ r_32 = 1 from w_33), (show 0 = 0 ∨ 0 = 1 from Or.inl rfl)⟩ hP hD hS (lv_sub hl [0, 2, 1, 4, 3] rfl)
  obtain ⟨i_93, x_94, y_95⟩ := x9
  replace hj : sm ρ [4, 6] ws_34 ws_99 ∧ (∃ ty9 : List (ClassId × FieldType), va_K D vwCl ty9 s ∧ tyx tys ty9 ∧ RS ρ ws_99 ty9 rd krd tp ktp cd bb tl) ∧ (i_93 ≤ 400) ∧ (x_94 = 0 ∨ x_94 = 1) ∧ (y_95 = 0 ∨ y_95 = 1) := hj
  obtain ⟨hm_100, hR_102, hi_96, hbx_97, hby_98⟩ := hj
  obtain ⟨g_104, e_103, h_105⟩ := hm_100.obj er_74
  obtain ⟨z_106, z_107, z_108, z_109, z_110, z_111, rfl⟩ := smX4 h_105
  obtain ⟨g_113, e_112, h_114⟩ := hm_100.obj et_75
  obtain ⟨z_115, z_116, z_117, z_118, rfl⟩ := smX6 h_114
  obtain ⟨f_120, e_119⟩ := hm_100.arrI e_82
  obtain ⟨f_122, e_121⟩ := hm_100.arrI e_89
  have hsm := hsm.tr (hm_100.mono (by decide))
  obtain ⟨ty_123, hK, htx, hR_124⟩ := hR_102
  obtain ⟨ts_125, te_126, cc_127, ra_128, rb_129, rc_130, rv_131, re_132, ya_133, h1_134, h2_135, h3_136, h4_137, er_138, et_139, wr_140, wt_141, ⟨k_142, c9_143, t_144, f_145, e_146, u_147, w_148⟩, ⟨k_149, c9_150, t_151, f_152, e_153, u_154, w_155⟩⟩ := id hR_124
  have hlp_101 := hm_100
  have hl : lv_has ls 6 [(4, .int (nI i_93)), (2, .int x_94), (3, .int y_95), (1, .int 3), (0, .ref rd)] := hl
  refine lv_iload hx hb dX4_readEither_11 (lv_at hl 0 rfl) ?_
  refine lv_sipush (v := 400) hx hb dX4_readEither_13 (by decide) ?_
  refine lv_icmp_ge (tgt := 101) hx hb dX4_readEither_16 (by decide) (fun c_156 => ?_) (fun c_156 => ?_)
  · have d_157 := n_le (a := 400) (b := i_93) (by omega) (by omega) c_156
    refine lv_iload_n hx hb dX4_readEither_101 rfl (lv_at hl 2 rfl) ?_
    refine lv_if_eq (tgt := 111) hx hb dX4_readEither_102 (by decide) (fun c_158 => ?_) (fun c_158 => ?_)
    · refine lv_iload_n hx hb dX4_readEither_111 rfl (lv_at hl 1 rfl) ?_
      exact W.zret (v := x_94) hx hb hr (by rcases hbx_97 with h9 | h9 <;> rw [h9] <;> rfl) (fun t ht hW => ⟨⟨x_94, (), rfl, hbx_97, ws_99, ty_123, hsm, htx, by rw [ht]; exact hP, va_K.moved hW.alike hK, hD, (⟨ts_125, te_126, cc_127, ra_128, rb_129, rc_130, rv_131, re_132, ya_133, by omega, by omega, by omega, by omega, er_138, et_139, wr_140, wt_141, ⟨k_142, c9_143, t_144, f_145, e_146, u_147, w_148⟩, ⟨k_149, c9_150, t_151, f_152, e_153, u_154, w_155⟩⟩ : RS ρ ws_99 ty_123 rd krd tp ktp cd bb tl)⟩, hS.F ht⟩) hS.2.2 dX4_readEither_112
    refine lv_aload_n hx hb dX4_readEither_105 rfl (lv_at hl 4 rfl) ?_
    refine lv_bipush (v := (-3)) hx hb dX4_readEither_106 (by decide) ?_
    have hFc := free_all hD hS hA
    refine va_callv (va_runV (As := [.int (-3)]) (rest := []) ⟨hx, hb, hml, hown, hts⟩ (r_addCode l D ρ ws_99 ty_123 adK adV fo rd krd tp ktp cd bb tl (-3) H.size (⟨ts_125, te_126, cc_127, ra_128, rb_129, rc_130, rv_131, re_132, ya_133, by omega, by omega, by omega, by omega, er_138, et_139, wr_140, wt_141, ⟨k_142, c9_143, t_144, f_145, e_146, u_147, w_148⟩, ⟨k_149, c9_150, t_151, f_152, e_153, u_154, w_155⟩⟩ : RS ρ ws_99 ty_123 rd krd tp ktp cd bb tl)) (cwV 1 hts gX4_readEither_X4_addCode rfl rfl rfl (by decide +kernel) ⟨Nat.le_of_ble_eq_true rfl, Nat.le_of_ble_eq_true rfl⟩) ⟨fun a U g mk q => by obtain ⟨q0, q1, qP, qK, qD, qS⟩ := q; exact ⟨q0, q1, qP, va_K.moved (u := U) (U := U.calling g mk a) (Vm.Alike.refl U.vm) qK, qD, SZ.same rfl rfl qS⟩, va_recv hK hP (ci := 4) (q0 := krd) rfl er_138, fun U hU hW => ⟨rfl, by rw [hU], by rw [hU]; exact hP, va_K.moved hW.alike hK, hD.weaken (fun _ _ _ _ => trivial), hsz9.go hS hW hU hFc⟩⟩ rfl rfl hl.1 rfl (lv_room (Nat.le_of_ble_eq_true rfl)) dX4_readEither_108 ⟨Nat.le_of_ble_eq_true rfl, Nat.le_of_ble_eq_true rfl⟩) hS (fun q _ h => hFc q h) hFc (fun u t H1 locs ht hvm w_160 hB hz1 hk1 hS => ?_)
    obtain ⟨ws_161, ty_162, hm_163, ht_165, hP1, hK1, hD1, hx_164⟩ := hB
    rw [ht] at hP1
    have hK := va_K.moved hvm.symm hK1
    have hD := hD1.weaken (fun _ _ _ h => hFc _ h)
    generalize H1 = H at hP1 hS ⊢
    have hP := hP1
    obtain ⟨g_167, e_166, h_168⟩ := hm_163.obj er_138
    obtain ⟨z_169, z_170, z_171, z_172, z_173, z_174, rfl⟩ := smX4 h_168
    obtain ⟨g_176, e_175, h_177⟩ := hm_163.obj et_139
    obtain ⟨z_178, z_179, z_180, z_181, rfl⟩ := smX6 h_177
    obtain ⟨f_183, e_182⟩ := hm_163.arrI e_146
    have u_184 := ht_165 _ _ u_147
    obtain ⟨f_186, e_185⟩ := hm_163.arrI e_153
    have u_187 := ht_165 _ _ u_154
    have hsm := hsm.tr (hm_163.mono (by decide))
    have hlp_101 := hlp_101.tr (hm_163.mono (by decide))
    have htx := htx.tr ht_165
    obtain ⟨ts_188, te_189, cc_190, ra_191, rb_192, rc_193, rv_194, re_195, ya_196, h1_197, h2_198, h3_199, h4_200, er_201, et_202, wr_203, wt_204, ⟨k_205, c9_206, t_207, f_208, e_209, u_210, w_211⟩, ⟨k_212, c9_213, t_214, f_215, e_216, u_217, w_218⟩⟩ := id hx_164
    refine lv_iload_n hx hb dX4_readEither_111 rfl (lv_at hl 1 rfl) ?_
    exact W.zret (v := x_94) hx hb hr (by rcases hbx_97 with h9 | h9 <;> rw [h9] <;> rfl) (fun t ht hW => ⟨⟨x_94, (), rfl, hbx_97, ws_161, ty_162, hsm, htx, by rw [ht]; exact hP, va_K.moved hW.alike hK, hD, (⟨ts_188, te_189, cc_190, ra_191, rb_192, rc_193, rv_194, re_195, ya_196, by omega, by omega, by omega, by omega, er_201, et_202, wr_203, wt_204, ⟨k_205, c9_206, t_207, f_208, e_209, u_210, w_211⟩, ⟨k_212, c9_213, t_214, f_215, e_216, u_217, w_218⟩⟩ : RS ρ ws_161 ty_162 rd krd tp ktp cd bb tl)⟩, hS.F ht⟩) hS.2.2 dX4_readEither_112
  have d_219 := n_nle (a := 400) (b := i_93) (by omega) (by omega) c_156
  refine lv_iload_n hx hb dX4_readEither_19 rfl (lv_at hl 1 rfl) ?_
  refine lv_if_eq (tgt := 101) hx hb dX4_readEither_20 (by decide) (fun c_220 => ?_) (fun c_220 => ?_)
  · refine lv_iload_n hx hb dX4_readEither_101 rfl (lv_at hl 2 rfl) ?_
    refine lv_if_eq (tgt := 111) hx hb dX4_readEither_102 (by decide) (fun c_221 => ?_) (fun c_221 => ?_)
    · refine lv_iload_n hx hb dX4_readEither_111 rfl (lv_at hl 1 rfl) ?_
      exact W.zret (v := x_94) hx hb hr (by rcases hbx_97 with h9 | h9 <;> rw [h9] <;> rfl) (fun t ht hW => ⟨⟨x_94, (), rfl, hbx_97, ws_99, ty_123, hsm, htx, by rw [ht]; exact hP, va_K.moved hW.alike hK, hD, (⟨ts_125, te_126, cc_127, ra_128, rb_129, rc_130, rv_131, re_132, ya_133, by omega, by omega, by omega, by omega, er_138, et_139, wr_140, wt_141, ⟨k_142, c9_143, t_144, f_145, e_146, u_147, w_148⟩, ⟨k_149, c9_150, t_151, f_152, e_153, u_154, w_155⟩⟩ : RS ρ ws_99 ty_123 rd krd tp ktp cd bb tl)⟩, hS.F ht⟩) hS.2.2 dX4_readEither_112
    refine lv_aload_n hx hb dX4_readEither_105 rfl (lv_at hl 4 rfl) ?_
    refine lv_bipush (v := (-3)) hx hb dX4_readEither_106 (by decide) ?_
    have hFc := free_all hD hS hA
    refine va_callv (va_runV (As := [.int (-3)]) (rest := []) ⟨hx, hb, hml, hown, hts⟩ (r_addCode l D ρ ws_99 ty_123 adK adV fo rd krd tp ktp cd bb tl (-3) H.size (⟨ts_125, te_126, cc_127, ra_128, rb_129, rc_130, rv_131, re_132, ya_133, by omega, by omega, by omega, by omega, er_138, et_139, wr_140, wt_141, ⟨k_142, c9_143, t_144, f_145, e_146, u_147, w_148⟩, ⟨k_149, c9_150, t_151, f_152, e_153, u_154, w_155⟩⟩ : RS ρ ws_99 ty_123 rd krd tp ktp cd bb tl)) (cwV 1 hts gX4_readEither_X4_addCode rfl rfl rfl (by decide +kernel) ⟨Nat.le_of_ble_eq_true rfl, Nat.le_of_ble_eq_true rfl⟩) ⟨fun a U g mk q => by obtain ⟨q0, q1, qP, qK, qD, qS⟩ := q; exact ⟨q0, q1, qP, va_K.moved (u := U) (U := U.calling g mk a) (Vm.Alike.refl U.vm) qK, qD, SZ.same rfl rfl qS⟩, va_recv hK hP (ci := 4) (q0 := krd) rfl er_138, fun U hU hW => ⟨rfl, by rw [hU], by rw [hU]; exact hP, va_K.moved hW.alike hK, hD.weaken (fun _ _ _ _ => trivial), hsz9.go hS hW hU hFc⟩⟩ rfl rfl hl.1 rfl (lv_room (Nat.le_of_ble_eq_true rfl)) dX4_readEither_108 ⟨Nat.le_of_ble_eq_true rfl, Nat.le_of_ble_eq_true rfl⟩) hS (fun q _ h => hFc q h) hFc (fun u t H1 locs ht hvm w_223 hB hz1 hk1 hS => ?_)
    obtain ⟨ws_224, ty_225, hm_226, ht_228, hP1, hK1, hD1, hx_227⟩ := hB
    rw [ht] at hP1
    have hK := va_K.moved hvm.symm hK1
    have hD := hD1.weaken (fun _ _ _ h => hFc _ h)
    generalize H1 = H at hP1 hS ⊢
    have hP := hP1
    obtain ⟨g_230, e_229, h_231⟩ := hm_226.obj er_138
    obtain ⟨z_232, z_233, z_234, z_235, z_236, z_237, rfl⟩ := smX4 h_231
    obtain ⟨g_239, e_238, h_240⟩ := hm_226.obj et_139
    obtain ⟨z_241, z_242, z_243, z_244, rfl⟩ := smX6 h_240
    obtain ⟨f_246, e_245⟩ := hm_226.arrI e_146
    have u_247 := ht_228 _ _ u_147
    obtain ⟨f_249, e_248⟩ := hm_226.arrI e_153
    have u_250 := ht_228 _ _ u_154
    have hsm := hsm.tr (hm_226.mono (by decide))
    have hlp_101 := hlp_101.tr (hm_226.mono (by decide))
    have htx := htx.tr ht_228
    obtain ⟨ts_251, te_252, cc_253, ra_254, rb_255, rc_256, rv_257, re_258, ya_259, h1_260, h2_261, h3_262, h4_263, er_264, et_265, wr_266, wt_267, ⟨k_268, c9_269, t_270, f_271, e_272, u_273, w_274⟩, ⟨k_275, c9_276, t_277, f_278, e_279, u_280, w_281⟩⟩ := id hx_227
    refine lv_iload_n hx hb dX4_readEither_111 rfl (lv_at hl 1 rfl) ?_
    exact W.zret (v := x_94) hx hb hr (by rcases hbx_97 with h9 | h9 <;> rw [h9] <;> rfl) (fun t ht hW => ⟨⟨x_94, (), rfl, hbx_97, ws_224, ty_225, hsm, htx, by rw [ht]; exact hP, va_K.moved hW.alike hK, hD, (⟨ts_251, te_252, cc_253, ra_254, rb_255, rc_256, rv_257, re_258, ya_259, by omega, by omega, by omega, by omega, er_264, et_265, wr_266, wt_267, ⟨k_268, c9_269, t_270, f_271, e_272, u_273, w_274⟩, ⟨k_275, c9_276, t_277, f_278, e_279, u_280, w_281⟩⟩ : RS ρ ws_224 ty_225 rd krd tp ktp cd bb tl)⟩, hS.F ht⟩) hS.2.2 dX4_readEither_112
  refine lv_aload_n hx hb dX4_readEither_23 rfl (lv_at hl 4 rfl) ?_
  have hFc := free_all hD hS hA
  refine va_calli (va_runV (As := []) (rest := []) ⟨hx, hb, hml, hown, hts⟩ (r_isAndOr l D ρ ws_99 ty_123 adK adV fo rd krd tp ktp cd bb tl  H.size (⟨ts_125, te_126, cc_127, ra_128, rb_129, rc_130, rv_131, re_132, ya_133, by omega, by omega, by omega, by omega, er_138, et_139, wr_140, wt_141, ⟨k_142, c9_143, t_144, f_145, e_146, u_147, w_148⟩, ⟨k_149, c9_150, t_151, f_152, e_153, u_154, w_155⟩⟩ : RS ρ ws_99 ty_123 rd krd tp ktp cd bb tl)) (cwV 0 hts gX4_readEither_X4_isAndOr rfl rfl rfl (by decide +kernel) ⟨Nat.le_of_ble_eq_true rfl, Nat.le_of_ble_eq_true rfl⟩) ⟨fun a U g mk q => by obtain ⟨q0, q1, qP, qK, qD, qS⟩ := q; exact ⟨q0, q1, qP, va_K.moved (u := U) (U := U.calling g mk a) (Vm.Alike.refl U.vm) qK, qD, SZ.same rfl rfl qS⟩, va_recv hK hP (ci := 4) (q0 := krd) rfl er_138, fun U hU hW => ⟨rfl, by rw [hU], by rw [hU]; exact hP, va_K.moved hW.alike hK, hD.weaken (fun _ _ _ _ => trivial), hsz9.go hS hW hU hFc⟩⟩ rfl rfl hl.1 rfl (lv_room (Nat.le_of_ble_eq_true rfl)) dX4_readEither_24 ⟨Nat.le_of_ble_eq_true rfl, Nat.le_of_ble_eq_true rfl⟩) hS (fun q _ h => hFc q h) hFc (fun r_282 u t H1 locs ht hvm w_283 hB hz1 hk1 hS => ?_)
  obtain ⟨ws_284, ty_285, hm_286, ht_288, hP1, hK1, hD1, hx_287⟩ := hB
  rw [ht] at hP1
  have hK := va_K.moved hvm.symm hK1
  have hD := hD1.weaken (fun _ _ _ h => hFc _ h)
  generalize H1 = H at hP1 hS ⊢
  have hP := hP1
  have e_289 := hm_286.objK er_138 (by decide)
  have e_290 := hm_286.objK et_139 (by decide)
  obtain ⟨f_292, e_291⟩ := hm_286.arrI e_146
  have u_293 := ht_288 _ _ u_147
  obtain ⟨f_295, e_294⟩ := hm_286.arrI e_153
  have u_296 := ht_288 _ _ u_154
  have hsm := hsm.tr (hm_286.mono (by decide))
  have hlp_101 := hlp_101.tr (hm_286.mono (by decide))
  have htx := htx.tr ht_288
  rcases w_283 with rfl | rfl
  · refine lv_if_eq (tgt := 101) hx hb dX4_readEither_27 (by decide) (fun c_297 => ?_) (fun c_297 => absurd (by decide) c_297)
    refine lv_iload_n hx hb dX4_readEither_101 rfl (lv_at hl 2 rfl) ?_
    refine lv_if_eq (tgt := 111) hx hb dX4_readEither_102 (by decide) (fun c_298 => ?_) (fun c_298 => ?_)
    · refine lv_iload_n hx hb dX4_readEither_111 rfl (lv_at hl 1 rfl) ?_
      exact W.zret (v := x_94) hx hb hr (by rcases hbx_97 with h9 | h9 <;> rw [h9] <;> rfl) (fun t ht hW => ⟨⟨x_94, (), rfl, hbx_97, ws_284, ty_285, hsm, htx, by rw [ht]; exact hP, va_K.moved hW.alike hK, hD, (⟨ts_125, te_126, cc_127, ra_128, rb_129, rc_130, rv_131, re_132, ya_133, by omega, by omega, by omega, by omega, e_289, e_290, wr_140, wt_141, ⟨k_142, c9_143, t_144, f_292, e_291, u_293, w_148⟩, ⟨k_149, c9_150, t_151, f_295, e_294, u_296, w_155⟩⟩ : RS ρ ws_284 ty_285 rd krd tp ktp cd bb tl)⟩, hS.F ht⟩) hS.2.2 dX4_readEither_112
    refine lv_aload_n hx hb dX4_readEither_105 rfl (lv_at hl 4 rfl) ?_
    refine lv_bipush (v := (-3)) hx hb dX4_readEither_106 (by decide) ?_
    have hFc := free_all hD hS hA
    refine va_callv (va_runV (As := [.int (-3)]) (rest := []) ⟨hx, hb, hml, hown, hts⟩ (r_addCode l D ρ ws_284 ty_285 adK adV fo rd krd tp ktp cd bb tl (-3) H.size (⟨ts_125, te_126, cc_127, ra_128, rb_129, rc_130, rv_131, re_132, ya_133, by omega, by omega, by omega, by omega, e_289, e_290, wr_140, wt_141, ⟨k_142, c9_143, t_144, f_292, e_291, u_293, w_148⟩, ⟨k_149, c9_150, t_151, f_295, e_294, u_296, w_155⟩⟩ : RS ρ ws_284 ty_285 rd krd tp ktp cd bb tl)) (cwV 1 hts gX4_readEither_X4_addCode rfl rfl rfl (by decide +kernel) ⟨Nat.le_of_ble_eq_true rfl, Nat.le_of_ble_eq_true rfl⟩) ⟨fun a U g mk q => by obtain ⟨q0, q1, qP, qK, qD, qS⟩ := q; exact ⟨q0, q1, qP, va_K.moved (u := U) (U := U.calling g mk a) (Vm.Alike.refl U.vm) qK, qD, SZ.same rfl rfl qS⟩, va_recv hK hP (ci := 4) (q0 := krd) rfl e_289, fun U hU hW => ⟨rfl, by rw [hU], by rw [hU]; exact hP, va_K.moved hW.alike hK, hD.weaken (fun _ _ _ _ => trivial), hsz9.go hS hW hU hFc⟩⟩ rfl rfl hl.1 rfl (lv_room (Nat.le_of_ble_eq_true rfl)) dX4_readEither_108 ⟨Nat.le_of_ble_eq_true rfl, Nat.le_of_ble_eq_true rfl⟩) hS (fun q _ h => hFc q h) hFc (fun u t H1 locs ht hvm w_300 hB hz1 hk1 hS => ?_)
    obtain ⟨ws_301, ty_302, hm_303, ht_305, hP1, hK1, hD1, hx_304⟩ := hB
    rw [ht] at hP1
    have hK := va_K.moved hvm.symm hK1
    have hD := hD1.weaken (fun _ _ _ h => hFc _ h)
    generalize H1 = H at hP1 hS ⊢
    have hP := hP1
    obtain ⟨g_307, e_306, h_308⟩ := hm_303.obj e_289
    obtain ⟨z_309, z_310, z_311, z_312, z_313, z_314, rfl⟩ := smX4 h_308
    obtain ⟨g_316, e_315, h_317⟩ := hm_303.obj e_290
    obtain ⟨z_318, z_319, z_320, z_321, rfl⟩ := smX6 h_317
    obtain ⟨f_323, e_322⟩ := hm_303.arrI e_291
    have u_324 := ht_305 _ _ u_293
    obtain ⟨f_326, e_325⟩ := hm_303.arrI e_294
    have u_327 := ht_305 _ _ u_296
    have hsm := hsm.tr (hm_303.mono (by decide))
    have hlp_101 := hlp_101.tr (hm_303.mono (by decide))
    have htx := htx.tr ht_305
    obtain ⟨ts_328, te_329, cc_330, ra_331, rb_332, rc_333, rv_334, re_335, ya_336, h1_337, h2_338, h3_339, h4_340, er_341, et_342, wr_343, wt_344, ⟨k_345, c9_346, t_347, f_348, e_349, u_350, w_351⟩, ⟨k_352, c9_353, t_354, f_355, e_356, u_357, w_358⟩⟩ := id hx_304
    refine lv_iload_n hx hb dX4_readEither_111 rfl (lv_at hl 1 rfl) ?_
    exact W.zret (v := x_94) hx hb hr (by rcases hbx_97 with h9 | h9 <;> rw [h9] <;> rfl) (fun t ht hW => ⟨⟨x_94, (), rfl, hbx_97, ws_301, ty_302, hsm, htx, by rw [ht]; exact hP, va_K.moved hW.alike hK, hD, (⟨ts_328, te_329, cc_330, ra_331, rb_332, rc_333, rv_334, re_335, ya_336, by omega, by omega, by omega, by omega, er_341, et_342, wr_343, wt_344, ⟨k_345, c9_346, t_347, f_348, e_349, u_350, w_351⟩, ⟨k_352, c9_353, t_354, f_355, e_356, u_357, w_358⟩⟩ : RS ρ ws_301 ty_302 rd krd tp ktp cd bb tl)⟩, hS.F ht⟩) hS.2.2 dX4_readEither_112
  refine lv_if_eq (tgt := 101) hx hb dX4_readEither_27 (by decide) (fun c_359 => absurd c_359 (by decide)) (fun c_359 => ?_)
  refine lv_aload_n hx hb dX4_readEither_30 rfl (lv_at hl 4 rfl) ?_
  refine va_get (D := D) (ci := 4) (v := .ref tp) (C := RX4) (T := TX4) (N := 8) hx hb hts hin4 hown hK hP krd e_289 rfl 0 (by decide) (hts (.fieldLink RX4 12 "HoneyHouse$RuleReader" "tape" "LHoneyHouse$Tape;") (List.mem_of_getElem? (i := 1) rfl)) (fun _ h9 => h9) rfl dX4_readEither_31 ?_
  refine va_ldcS hx hb hown hsz9.2.2.2.2.2.1 dX4_readEither_34 ?_
  have hFc := free_all hD hS hA
  refine va_calli (va_runV (As := [.ref (adK 2)]) (rest := []) ⟨hx, hb, hml, hown, hts⟩ (a_isWord l D ρ ws_284 ty_285 adK adV fo 2 tp ktp tl ya_133 (nI ts_125) (nI te_126) bb k_149 c9_150 t_151 f_295 H.size (by decide) e_290 e_294 u_296) (cwV 1 hts gX4_readEither_X6_isWord rfl rfl rfl (by decide +kernel) ⟨Nat.le_of_ble_eq_true rfl, Nat.le_of_ble_eq_true rfl⟩) ⟨fun a U g mk q => by obtain ⟨q0, q1, qP, qK, qD, qS⟩ := q; exact ⟨q0, q1, qP, va_K.moved (u := U) (U := U.calling g mk a) (Vm.Alike.refl U.vm) qK, qD, SZ.same rfl rfl qS⟩, va_recv hK hP (ci := 6) (q0 := ktp) rfl e_290, fun U hU hW => ⟨rfl, by rw [hU], by rw [hU]; exact hP, va_K.moved hW.alike hK, hD.weaken (fun _ _ _ _ => trivial), hsz9.go hS hW hU hFc⟩⟩ rfl rfl hl.1 rfl (lv_room (Nat.le_of_ble_eq_true rfl)) dX4_readEither_36 ⟨Nat.le_of_ble_eq_true rfl, Nat.le_of_ble_eq_true rfl⟩) hS (fun q _ h => hFc q h) hFc (fun r_360 u t H1 locs ht hvm w_361 hB hz1 hk1 hS => ?_)
  obtain ⟨ws_362, ty_363, hm_364, ht_366, hP1, hK1, hD1, hx_365⟩ := hB
  rw [ht] at hP1
  have hK := va_K.moved hvm.symm hK1
  have hD := hD1.weaken (fun _ _ _ h => hFc _ h)
  generalize H1 = H at hP1 hS ⊢
  have hP := hP1
  have e_367 := hm_364.objK e_289 (by decide)
  have e_368 := hm_364.objK e_290 (by decide)
  obtain ⟨f_370, e_369⟩ := hm_364.arrI e_291
  have u_371 := ht_366 _ _ u_293
  obtain ⟨f_373, e_372⟩ := hm_364.arrI e_294
  have u_374 := ht_366 _ _ u_296
  have hsm := hsm.tr (hm_364.mono (by decide))
  have hlp_101 := hlp_101.tr (hm_364.mono (by decide))
  have htx := htx.tr ht_366
  rcases w_361 with rfl | rfl
  · refine lv_istore (lv' := [(5, .int 0), (4, .int (nI i_93)), (2, .int x_94), (3, .int y_95), (1, .int 3), (0, .ref rd)]) hx hb dX4_readEither_39 hl (by decide) rfl (fun ls hl => ?_)
    refine lv_iload hx hb dX4_readEither_41 (lv_at hl 0 rfl) ?_
    refine lv_if_ne (tgt := 56) hx hb dX4_readEither_43 (by decide) (fun c_375 => absurd (by decide) c_375) (fun c_375 => ?_)
    refine lv_iload_n hx hb dX4_readEither_46 rfl (lv_at hl 3 rfl) ?_
    refine lv_if_eq (tgt := 56) hx hb dX4_readEither_47 (by decide) (fun c_376 => ?_) (fun c_376 => ?_)
    · refine lv_iload_n hx hb dX4_readEither_56 rfl (lv_at hl 3 rfl) ?_
      refine lv_if_ne (tgt := 65) hx hb dX4_readEither_57 (by decide) (fun c_377 => ?_) (fun c_377 => ?_)
      · refine lv_iconst (v := 1) hx hb dX4_readEither_65 (by decide) ?_
        refine lv_goto (tgt := 70) hx hb dX4_readEither_66 (by decide) ?_
        refine lv_istore_n (lv' := [(3, .int 1), (5, .int 0), (4, .int (nI i_93)), (2, .int x_94), (1, .int 3), (0, .ref rd)]) hx hb dX4_readEither_70 rfl hl (by decide) rfl (fun ls hl => ?_)
        refine lv_aload_n hx hb dX4_readEither_71 rfl (lv_at hl 5 rfl) ?_
        refine va_get (D := D) (ci := 4) (v := .ref tp) (C := RX4) (T := TX4) (N := 8) hx hb hts hin4 hown hK hP krd e_367 rfl 0 (by decide) (hts (.fieldLink RX4 12 "HoneyHouse$RuleReader" "tape" "LHoneyHouse$Tape;") (List.mem_of_getElem? (i := 1) rfl)) (fun _ h9 => h9) rfl dX4_readEither_72 ?_
        have hFc := free_all hD hS hA
        refine va_callv (va_runV (As := []) (rest := []) ⟨hx, hb, hml, hown, hts⟩ (a_advance l D ρ ws_362 ty_363 tp ktp tl te_126 ya_133 (nI ts_125) bb k_149 c9_150 t_151 f_373 H.size (by omega) (by omega) e_368 e_372 u_374 wt_141) (cwV 0 hts gX4_readEither_X6_advance rfl rfl rfl (by decide +kernel) ⟨Nat.le_of_ble_eq_true rfl, Nat.le_of_ble_eq_true rfl⟩) ⟨fun a U g mk q => by obtain ⟨q0, q1, qP, qK, qD⟩ := q; exact ⟨q0, q1, qP, va_K.moved (u := U) (U := U.calling g mk a) (Vm.Alike.refl U.vm) qK, qD⟩, va_recv hK hP (ci := 6) (q0 := ktp) rfl e_368, fun U hU hW => ⟨rfl, by rw [hU], by rw [hU]; exact hP, va_K.moved hW.alike hK, hD.weaken (fun _ _ _ _ => trivial)⟩⟩ rfl rfl hl.1 rfl (lv_room (Nat.le_of_ble_eq_true rfl)) dX4_readEither_75 ⟨Nat.le_of_ble_eq_true rfl, Nat.le_of_ble_eq_true rfl⟩) hS (fun q _ h => hFc q h) hFc (fun u t H1 locs ht hvm w_379 hB hz1 hk1 hS => ?_)
        obtain ⟨ws_380, ty_381, hm_382, ht_384, hP1, hK1, hD1, hx_383⟩ := hB
        rw [ht] at hP1
        have hK := va_K.moved hvm.symm hK1
        have hD := hD1.weaken (fun _ _ _ h => hFc _ h)
        generalize H1 = H at hP1 hS ⊢
        have hP := hP1
        have e_385 := hm_382.objK e_367 (by decide)
        obtain ⟨g_387, e_386, h_388⟩ := hm_382.obj e_368
        obtain ⟨z_389, z_390, z_391, z_392, rfl⟩ := smX6 h_388
        obtain ⟨f_394, e_393⟩ := hm_382.arrI e_369
        have u_395 := ht_384 _ _ u_371
        obtain ⟨f_397, e_396⟩ := hm_382.arrI e_372
        have u_398 := ht_384 _ _ u_374
        have hsm := hsm.tr (hm_382.mono (by decide))
        have hlp_101 := hlp_101.tr (hm_382.mono (by decide))
        have htx := htx.tr ht_384
        obtain ⟨k_399, s_400, e_401, h_402, h_403, h_404, e_405⟩ := hx_383
        refine lv_aload_n hx hb dX4_readEither_78 rfl (lv_at hl 5 rfl) ?_
        refine lv_iload_n hx hb dX4_readEither_79 rfl (lv_at hl 4 rfl) ?_
        have hFc := free_all hD hS hA
        refine va_calli (va_runV (As := [.int 3]) (rest := []) ⟨hx, hb, hml, hown, hts⟩ (r_readOne3 l D ρ ws_380 ty_381 adK adV fo rd krd tp ktp cd bb tl  H.size (⟨s_400, e_401, cc_127, ra_128, rb_129, rc_130, rv_131, re_132, nI k_399, by omega, by omega, by omega, by omega, e_385, e_405, wr_140, wt_141, ⟨k_142, c9_143, t_144, f_394, e_393, u_395, w_148⟩, ⟨k_149, c9_150, t_151, f_397, e_396, u_398, w_155⟩⟩ : RS ρ ws_380 ty_381 rd krd tp ktp cd bb tl)) (cwV 1 hts gX4_readEither_X4_readOne rfl rfl rfl (by decide +kernel) ⟨Nat.le_of_ble_eq_true rfl, Nat.le_of_ble_eq_true rfl⟩) ⟨fun a U g mk q => by obtain ⟨q0, q1, qP, qK, qD, qS⟩ := q; exact ⟨q0, q1, qP, va_K.moved (u := U) (U := U.calling g mk a) (Vm.Alike.refl U.vm) qK, qD, SZ.same rfl rfl qS⟩, va_recv hK hP (ci := 4) (q0 := krd) rfl e_385, fun U hU hW => ⟨rfl, by rw [hU], by rw [hU]; exact hP, va_K.moved hW.alike hK, hD.weaken (fun _ _ _ _ => trivial), hsz9.go hS hW hU hFc⟩⟩ rfl rfl hl.1 rfl (lv_room (Nat.le_of_ble_eq_true rfl)) dX4_readEither_80 ⟨Nat.le_of_ble_eq_true rfl, Nat.le_of_ble_eq_true rfl⟩) hS (fun q _ h => hFc q h) hFc (fun r_406 u t H1 locs ht hvm w_407 hB hz1 hk1 hS => ?_)
        obtain ⟨ws_408, ty_409, hm_410, ht_412, hP1, hK1, hD1, hx_411⟩ := hB
        rw [ht] at hP1
        have hK := va_K.moved hvm.symm hK1
        have hD := hD1.weaken (fun _ _ _ h => hFc _ h)
        generalize H1 = H at hP1 hS ⊢
        have hP := hP1
        obtain ⟨g_414, e_413, h_415⟩ := hm_410.obj e_385
        obtain ⟨z_416, z_417, z_418, z_419, z_420, z_421, rfl⟩ := smX4 h_415
        obtain ⟨g_423, e_422, h_424⟩ := hm_410.obj e_405
        obtain ⟨z_425, z_426, z_427, z_428, rfl⟩ := smX6 h_424
        obtain ⟨f_430, e_429⟩ := hm_410.arrI e_393
        have u_431 := ht_412 _ _ u_395
        obtain ⟨f_433, e_432⟩ := hm_410.arrI e_396
        have u_434 := ht_412 _ _ u_398
        have hsm := hsm.tr (hm_410.mono (by decide))
        have hlp_101 := hlp_101.tr (hm_410.mono (by decide))
        have htx := htx.tr ht_412
        obtain ⟨ts_435, te_436, cc_437, ra_438, rb_439, rc_440, rv_441, re_442, ya_443, h1_444, h2_445, h3_446, h4_447, er_448, et_449, wr_450, wt_451, ⟨k_452, c9_453, t_454, f_455, e_456, u_457, w_458⟩, ⟨k_459, c9_460, t_461, f_462, e_463, u_464, w_465⟩⟩ := id hx_411
        refine lv_istore_n (lv' := [(2, .int r_406), (3, .int 1), (5, .int 0), (4, .int (nI i_93)), (1, .int 3), (0, .ref rd)]) hx hb dX4_readEither_83 rfl hl (by decide) rfl (fun ls hl => ?_)
        refine lv_iload hx hb dX4_readEither_84 (lv_at hl 2 rfl) ?_
        refine lv_if_eq (tgt := 95) hx hb dX4_readEither_86 (by decide) (fun c_466 => ?_) (fun c_466 => absurd (by decide) c_466)
        refine lv_iinc (v := nI (i_93 + 1)) (lv' := [(4, .int (nI (i_93 + 1))), (2, .int r_406), (3, .int 1), (5, .int 0), (1, .int 3), (0, .ref rd)]) hx hb dX4_readEither_95 hl (k := 3) rfl (nI_add i_93 1) (by decide) rfl (fun ls hl => ?_)
        refine lv_goto (tgt := 11) hx hb dX4_readEither_98 (by decide) ?_
        exact ih_92 (i_93 + 1, r_406, 1) ws_408 _ _ ls (by show 400 - (i_93 + 1) < 400 - i_93; omega) ⟨hlp_101, ⟨ty_409, hK, htx, (⟨ts_435, te_436, cc_437, ra_438, rb_439, rc_440, rv_441, re_442, ya_443, by omega, by omega, by omega, by omega, er_448, et_449, wr_450, wt_451, ⟨k_452, c9_453, t_454, f_455, e_456, u_457, w_458⟩, ⟨k_459, c9_460, t_461, f_462, e_463, u_464, w_465⟩⟩ : RS ρ ws_408 ty_409 rd krd tp ktp cd bb tl)⟩, (show (i_93 + 1) ≤ 400 from by omega), (show r_406 = 0 ∨ r_406 = 1 from w_407), (show 1 = 0 ∨ 1 = 1 from Or.inr rfl)⟩ hP hD hS (lv_sub hl [0, 1, 2, 4, 5] rfl)
      refine lv_iload hx hb dX4_readEither_60 (lv_at hl 0 rfl) ?_
      refine lv_if_ne (tgt := 69) hx hb dX4_readEither_62 (by decide) (fun c_467 => absurd (by decide) c_467) (fun c_467 => ?_)
      refine lv_iconst (v := 1) hx hb dX4_readEither_65 (by decide) ?_
      refine lv_goto (tgt := 70) hx hb dX4_readEither_66 (by decide) ?_
      refine lv_istore_n (lv' := [(3, .int 1), (5, .int 0), (4, .int (nI i_93)), (2, .int x_94), (1, .int 3), (0, .ref rd)]) hx hb dX4_readEither_70 rfl hl (by decide) rfl (fun ls hl => ?_)
      refine lv_aload_n hx hb dX4_readEither_71 rfl (lv_at hl 5 rfl) ?_
      refine va_get (D := D) (ci := 4) (v := .ref tp) (C := RX4) (T := TX4) (N := 8) hx hb hts hin4 hown hK hP krd e_367 rfl 0 (by decide) (hts (.fieldLink RX4 12 "HoneyHouse$RuleReader" "tape" "LHoneyHouse$Tape;") (List.mem_of_getElem? (i := 1) rfl)) (fun _ h9 => h9) rfl dX4_readEither_72 ?_
      have hFc := free_all hD hS hA
      refine va_callv (va_runV (As := []) (rest := []) ⟨hx, hb, hml, hown, hts⟩ (a_advance l D ρ ws_362 ty_363 tp ktp tl te_126 ya_133 (nI ts_125) bb k_149 c9_150 t_151 f_373 H.size (by omega) (by omega) e_368 e_372 u_374 wt_141) (cwV 0 hts gX4_readEither_X6_advance rfl rfl rfl (by decide +kernel) ⟨Nat.le_of_ble_eq_true rfl, Nat.le_of_ble_eq_true rfl⟩) ⟨fun a U g mk q => by obtain ⟨q0, q1, qP, qK, qD⟩ := q; exact ⟨q0, q1, qP, va_K.moved (u := U) (U := U.calling g mk a) (Vm.Alike.refl U.vm) qK, qD⟩, va_recv hK hP (ci := 6) (q0 := ktp) rfl e_368, fun U hU hW => ⟨rfl, by rw [hU], by rw [hU]; exact hP, va_K.moved hW.alike hK, hD.weaken (fun _ _ _ _ => trivial)⟩⟩ rfl rfl hl.1 rfl (lv_room (Nat.le_of_ble_eq_true rfl)) dX4_readEither_75 ⟨Nat.le_of_ble_eq_true rfl, Nat.le_of_ble_eq_true rfl⟩) hS (fun q _ h => hFc q h) hFc (fun u t H1 locs ht hvm w_469 hB hz1 hk1 hS => ?_)
      obtain ⟨ws_470, ty_471, hm_472, ht_474, hP1, hK1, hD1, hx_473⟩ := hB
      rw [ht] at hP1
      have hK := va_K.moved hvm.symm hK1
      have hD := hD1.weaken (fun _ _ _ h => hFc _ h)
      generalize H1 = H at hP1 hS ⊢
      have hP := hP1
      have e_475 := hm_472.objK e_367 (by decide)
      obtain ⟨g_477, e_476, h_478⟩ := hm_472.obj e_368
      obtain ⟨z_479, z_480, z_481, z_482, rfl⟩ := smX6 h_478
      obtain ⟨f_484, e_483⟩ := hm_472.arrI e_369
      have u_485 := ht_474 _ _ u_371
      obtain ⟨f_487, e_486⟩ := hm_472.arrI e_372
      have u_488 := ht_474 _ _ u_374
      have hsm := hsm.tr (hm_472.mono (by decide))
      have hlp_101 := hlp_101.tr (hm_472.mono (by decide))
      have htx := htx.tr ht_474
      obtain ⟨k_489, s_490, e_491, h_492, h_493, h_494, e_495⟩ := hx_473
      refine lv_aload_n hx hb dX4_readEither_78 rfl (lv_at hl 5 rfl) ?_
      refine lv_iload_n hx hb dX4_readEither_79 rfl (lv_at hl 4 rfl) ?_
      have hFc := free_all hD hS hA
      refine va_calli (va_runV (As := [.int 3]) (rest := []) ⟨hx, hb, hml, hown, hts⟩ (r_readOne3 l D ρ ws_470 ty_471 adK adV fo rd krd tp ktp cd bb tl  H.size (⟨s_490, e_491, cc_127, ra_128, rb_129, rc_130, rv_131, re_132, nI k_489, by omega, by omega, by omega, by omega, e_475, e_495, wr_140, wt_141, ⟨k_142, c9_143, t_144, f_484, e_483, u_485, w_148⟩, ⟨k_149, c9_150, t_151, f_487, e_486, u_488, w_155⟩⟩ : RS ρ ws_470 ty_471 rd krd tp ktp cd bb tl)) (cwV 1 hts gX4_readEither_X4_readOne rfl rfl rfl (by decide +kernel) ⟨Nat.le_of_ble_eq_true rfl, Nat.le_of_ble_eq_true rfl⟩) ⟨fun a U g mk q => by obtain ⟨q0, q1, qP, qK, qD, qS⟩ := q; exact ⟨q0, q1, qP, va_K.moved (u := U) (U := U.calling g mk a) (Vm.Alike.refl U.vm) qK, qD, SZ.same rfl rfl qS⟩, va_recv hK hP (ci := 4) (q0 := krd) rfl e_475, fun U hU hW => ⟨rfl, by rw [hU], by rw [hU]; exact hP, va_K.moved hW.alike hK, hD.weaken (fun _ _ _ _ => trivial), hsz9.go hS hW hU hFc⟩⟩ rfl rfl hl.1 rfl (lv_room (Nat.le_of_ble_eq_true rfl)) dX4_readEither_80 ⟨Nat.le_of_ble_eq_true rfl, Nat.le_of_ble_eq_true rfl⟩) hS (fun q _ h => hFc q h) hFc (fun r_496 u t H1 locs ht hvm w_497 hB hz1 hk1 hS => ?_)
      obtain ⟨ws_498, ty_499, hm_500, ht_502, hP1, hK1, hD1, hx_501⟩ := hB
      rw [ht] at hP1
      have hK := va_K.moved hvm.symm hK1
      have hD := hD1.weaken (fun _ _ _ h => hFc _ h)
      generalize H1 = H at hP1 hS ⊢
      have hP := hP1
      obtain ⟨g_504, e_503, h_505⟩ := hm_500.obj e_475
      obtain ⟨z_506, z_507, z_508, z_509, z_510, z_511, rfl⟩ := smX4 h_505
      obtain ⟨g_513, e_512, h_514⟩ := hm_500.obj e_495
      obtain ⟨z_515, z_516, z_517, z_518, rfl⟩ := smX6 h_514
      obtain ⟨f_520, e_519⟩ := hm_500.arrI e_483
      have u_521 := ht_502 _ _ u_485
      obtain ⟨f_523, e_522⟩ := hm_500.arrI e_486
      have u_524 := ht_502 _ _ u_488
      have hsm := hsm.tr (hm_500.mono (by decide))
      have hlp_101 := hlp_101.tr (hm_500.mono (by decide))
      have htx := htx.tr ht_502
      obtain ⟨ts_525, te_526, cc_527, ra_528, rb_529, rc_530, rv_531, re_532, ya_533, h1_534, h2_535, h3_536, h4_537, er_538, et_539, wr_540, wt_541, ⟨k_542, c9_543, t_544, f_545, e_546, u_547, w_548⟩, ⟨k_549, c9_550, t_551, f_552, e_553, u_554, w_555⟩⟩ := id hx_501
      refine lv_istore_n (lv' := [(2, .int r_496), (3, .int 1), (5, .int 0), (4, .int (nI i_93)), (1, .int 3), (0, .ref rd)]) hx hb dX4_readEither_83 rfl hl (by decide) rfl (fun ls hl => ?_)
      refine lv_iload hx hb dX4_readEither_84 (lv_at hl 2 rfl) ?_
      refine lv_if_eq (tgt := 95) hx hb dX4_readEither_86 (by decide) (fun c_556 => ?_) (fun c_556 => absurd (by decide) c_556)
      refine lv_iinc (v := nI (i_93 + 1)) (lv' := [(4, .int (nI (i_93 + 1))), (2, .int r_496), (3, .int 1), (5, .int 0), (1, .int 3), (0, .ref rd)]) hx hb dX4_readEither_95 hl (k := 3) rfl (nI_add i_93 1) (by decide) rfl (fun ls hl => ?_)
      refine lv_goto (tgt := 11) hx hb dX4_readEither_98 (by decide) ?_
      exact ih_92 (i_93 + 1, r_496, 1) ws_498 _ _ ls (by show 400 - (i_93 + 1) < 400 - i_93; omega) ⟨hlp_101, ⟨ty_499, hK, htx, (⟨ts_525, te_526, cc_527, ra_528, rb_529, rc_530, rv_531, re_532, ya_533, by omega, by omega, by omega, by omega, er_538, et_539, wr_540, wt_541, ⟨k_542, c9_543, t_544, f_545, e_546, u_547, w_548⟩, ⟨k_549, c9_550, t_551, f_552, e_553, u_554, w_555⟩⟩ : RS ρ ws_498 ty_499 rd krd tp ktp cd bb tl)⟩, (show (i_93 + 1) ≤ 400 from by omega), (show r_496 = 0 ∨ r_496 = 1 from w_497), (show 1 = 0 ∨ 1 = 1 from Or.inr rfl)⟩ hP hD hS (lv_sub hl [0, 1, 2, 4, 5] rfl)
    refine lv_aload_n hx hb dX4_readEither_50 rfl (lv_at hl 5 rfl) ?_
    refine lv_bipush (v := (-3)) hx hb dX4_readEither_51 (by decide) ?_
    have hFc := free_all hD hS hA
    refine va_callv (va_runV (As := [.int (-3)]) (rest := []) ⟨hx, hb, hml, hown, hts⟩ (r_addCode l D ρ ws_362 ty_363 adK adV fo rd krd tp ktp cd bb tl (-3) H.size (⟨ts_125, te_126, cc_127, ra_128, rb_129, rc_130, rv_131, re_132, ya_133, by omega, by omega, by omega, by omega, e_367, e_368, wr_140, wt_141, ⟨k_142, c9_143, t_144, f_370, e_369, u_371, w_148⟩, ⟨k_149, c9_150, t_151, f_373, e_372, u_374, w_155⟩⟩ : RS ρ ws_362 ty_363 rd krd tp ktp cd bb tl)) (cwV 1 hts gX4_readEither_X4_addCode rfl rfl rfl (by decide +kernel) ⟨Nat.le_of_ble_eq_true rfl, Nat.le_of_ble_eq_true rfl⟩) ⟨fun a U g mk q => by obtain ⟨q0, q1, qP, qK, qD, qS⟩ := q; exact ⟨q0, q1, qP, va_K.moved (u := U) (U := U.calling g mk a) (Vm.Alike.refl U.vm) qK, qD, SZ.same rfl rfl qS⟩, va_recv hK hP (ci := 4) (q0 := krd) rfl e_367, fun U hU hW => ⟨rfl, by rw [hU], by rw [hU]; exact hP, va_K.moved hW.alike hK, hD.weaken (fun _ _ _ _ => trivial), hsz9.go hS hW hU hFc⟩⟩ rfl rfl hl.1 rfl (lv_room (Nat.le_of_ble_eq_true rfl)) dX4_readEither_53 ⟨Nat.le_of_ble_eq_true rfl, Nat.le_of_ble_eq_true rfl⟩) hS (fun q _ h => hFc q h) hFc (fun u t H1 locs ht hvm w_558 hB hz1 hk1 hS => ?_)
    obtain ⟨ws_559, ty_560, hm_561, ht_563, hP1, hK1, hD1, hx_562⟩ := hB
    rw [ht] at hP1
    have hK := va_K.moved hvm.symm hK1
    have hD := hD1.weaken (fun _ _ _ h => hFc _ h)
    generalize H1 = H at hP1 hS ⊢
    have hP := hP1
    obtain ⟨g_565, e_564, h_566⟩ := hm_561.obj e_367
    obtain ⟨z_567, z_568, z_569, z_570, z_571, z_572, rfl⟩ := smX4 h_566
    obtain ⟨g_574, e_573, h_575⟩ := hm_561.obj e_368
    obtain ⟨z_576, z_577, z_578, z_579, rfl⟩ := smX6 h_575
    obtain ⟨f_581, e_580⟩ := hm_561.arrI e_369
    have u_582 := ht_563 _ _ u_371
    obtain ⟨f_584, e_583⟩ := hm_561.arrI e_372
    have u_585 := ht_563 _ _ u_374
    have hsm := hsm.tr (hm_561.mono (by decide))
    have hlp_101 := hlp_101.tr (hm_561.mono (by decide))
    have htx := htx.tr ht_563
    obtain ⟨ts_586, te_587, cc_588, ra_589, rb_590, rc_591, rv_592, re_593, ya_594, h1_595, h2_596, h3_597, h4_598, er_599, et_600, wr_601, wt_602, ⟨k_603, c9_604, t_605, f_606, e_607, u_608, w_609⟩, ⟨k_610, c9_611, t_612, f_613, e_614, u_615, w_616⟩⟩ := id hx_562
    refine lv_iload_n hx hb dX4_readEither_56 rfl (lv_at hl 3 rfl) ?_
    refine lv_if_ne (tgt := 65) hx hb dX4_readEither_57 (by decide) (fun c_617 => ?_) (fun c_617 => ?_)
    · refine lv_iconst (v := 1) hx hb dX4_readEither_65 (by decide) ?_
      refine lv_goto (tgt := 70) hx hb dX4_readEither_66 (by decide) ?_
      refine lv_istore_n (lv' := [(3, .int 1), (5, .int 0), (4, .int (nI i_93)), (2, .int x_94), (1, .int 3), (0, .ref rd)]) hx hb dX4_readEither_70 rfl hl (by decide) rfl (fun ls hl => ?_)
      refine lv_aload_n hx hb dX4_readEither_71 rfl (lv_at hl 5 rfl) ?_
      refine va_get (D := D) (ci := 4) (v := .ref tp) (C := RX4) (T := TX4) (N := 8) hx hb hts hin4 hown hK hP krd er_599 rfl 0 (by decide) (hts (.fieldLink RX4 12 "HoneyHouse$RuleReader" "tape" "LHoneyHouse$Tape;") (List.mem_of_getElem? (i := 1) rfl)) (fun _ h9 => h9) rfl dX4_readEither_72 ?_
      have hFc := free_all hD hS hA
      refine va_callv (va_runV (As := []) (rest := []) ⟨hx, hb, hml, hown, hts⟩ (a_advance l D ρ ws_559 ty_560 tp ktp tl te_587 ya_594 (nI ts_586) bb k_610 c9_611 t_612 f_613 H.size (by omega) (by omega) et_600 e_614 u_615 wt_602) (cwV 0 hts gX4_readEither_X6_advance rfl rfl rfl (by decide +kernel) ⟨Nat.le_of_ble_eq_true rfl, Nat.le_of_ble_eq_true rfl⟩) ⟨fun a U g mk q => by obtain ⟨q0, q1, qP, qK, qD⟩ := q; exact ⟨q0, q1, qP, va_K.moved (u := U) (U := U.calling g mk a) (Vm.Alike.refl U.vm) qK, qD⟩, va_recv hK hP (ci := 6) (q0 := ktp) rfl et_600, fun U hU hW => ⟨rfl, by rw [hU], by rw [hU]; exact hP, va_K.moved hW.alike hK, hD.weaken (fun _ _ _ _ => trivial)⟩⟩ rfl rfl hl.1 rfl (lv_room (Nat.le_of_ble_eq_true rfl)) dX4_readEither_75 ⟨Nat.le_of_ble_eq_true rfl, Nat.le_of_ble_eq_true rfl⟩) hS (fun q _ h => hFc q h) hFc (fun u t H1 locs ht hvm w_619 hB hz1 hk1 hS => ?_)
      obtain ⟨ws_620, ty_621, hm_622, ht_624, hP1, hK1, hD1, hx_623⟩ := hB
      rw [ht] at hP1
      have hK := va_K.moved hvm.symm hK1
      have hD := hD1.weaken (fun _ _ _ h => hFc _ h)
      generalize H1 = H at hP1 hS ⊢
      have hP := hP1
      have e_625 := hm_622.objK er_599 (by decide)
      obtain ⟨g_627, e_626, h_628⟩ := hm_622.obj et_600
      obtain ⟨z_629, z_630, z_631, z_632, rfl⟩ := smX6 h_628
      obtain ⟨f_634, e_633⟩ := hm_622.arrI e_607
      have u_635 := ht_624 _ _ u_608
      obtain ⟨f_637, e_636⟩ := hm_622.arrI e_614
      have u_638 := ht_624 _ _ u_615
      have hsm := hsm.tr (hm_622.mono (by decide))
      have hlp_101 := hlp_101.tr (hm_622.mono (by decide))
      have htx := htx.tr ht_624
      obtain ⟨k_639, s_640, e_641, h_642, h_643, h_644, e_645⟩ := hx_623
      refine lv_aload_n hx hb dX4_readEither_78 rfl (lv_at hl 5 rfl) ?_
      refine lv_iload_n hx hb dX4_readEither_79 rfl (lv_at hl 4 rfl) ?_
      have hFc := free_all hD hS hA
      refine va_calli (va_runV (As := [.int 3]) (rest := []) ⟨hx, hb, hml, hown, hts⟩ (r_readOne3 l D ρ ws_620 ty_621 adK adV fo rd krd tp ktp cd bb tl  H.size (⟨s_640, e_641, cc_588, ra_589, rb_590, rc_591, rv_592, re_593, nI k_639, by omega, by omega, by omega, by omega, e_625, e_645, wr_601, wt_602, ⟨k_603, c9_604, t_605, f_634, e_633, u_635, w_609⟩, ⟨k_610, c9_611, t_612, f_637, e_636, u_638, w_616⟩⟩ : RS ρ ws_620 ty_621 rd krd tp ktp cd bb tl)) (cwV 1 hts gX4_readEither_X4_readOne rfl rfl rfl (by decide +kernel) ⟨Nat.le_of_ble_eq_true rfl, Nat.le_of_ble_eq_true rfl⟩) ⟨fun a U g mk q => by obtain ⟨q0, q1, qP, qK, qD, qS⟩ := q; exact ⟨q0, q1, qP, va_K.moved (u := U) (U := U.calling g mk a) (Vm.Alike.refl U.vm) qK, qD, SZ.same rfl rfl qS⟩, va_recv hK hP (ci := 4) (q0 := krd) rfl e_625, fun U hU hW => ⟨rfl, by rw [hU], by rw [hU]; exact hP, va_K.moved hW.alike hK, hD.weaken (fun _ _ _ _ => trivial), hsz9.go hS hW hU hFc⟩⟩ rfl rfl hl.1 rfl (lv_room (Nat.le_of_ble_eq_true rfl)) dX4_readEither_80 ⟨Nat.le_of_ble_eq_true rfl, Nat.le_of_ble_eq_true rfl⟩) hS (fun q _ h => hFc q h) hFc (fun r_646 u t H1 locs ht hvm w_647 hB hz1 hk1 hS => ?_)
      obtain ⟨ws_648, ty_649, hm_650, ht_652, hP1, hK1, hD1, hx_651⟩ := hB
      rw [ht] at hP1
      have hK := va_K.moved hvm.symm hK1
      have hD := hD1.weaken (fun _ _ _ h => hFc _ h)
      generalize H1 = H at hP1 hS ⊢
      have hP := hP1
      obtain ⟨g_654, e_653, h_655⟩ := hm_650.obj e_625
      obtain ⟨z_656, z_657, z_658, z_659, z_660, z_661, rfl⟩ := smX4 h_655
      obtain ⟨g_663, e_662, h_664⟩ := hm_650.obj e_645
      obtain ⟨z_665, z_666, z_667, z_668, rfl⟩ := smX6 h_664
      obtain ⟨f_670, e_669⟩ := hm_650.arrI e_633
      have u_671 := ht_652 _ _ u_635
      obtain ⟨f_673, e_672⟩ := hm_650.arrI e_636
      have u_674 := ht_652 _ _ u_638
      have hsm := hsm.tr (hm_650.mono (by decide))
      have hlp_101 := hlp_101.tr (hm_650.mono (by decide))
      have htx := htx.tr ht_652
      obtain ⟨ts_675, te_676, cc_677, ra_678, rb_679, rc_680, rv_681, re_682, ya_683, h1_684, h2_685, h3_686, h4_687, er_688, et_689, wr_690, wt_691, ⟨k_692, c9_693, t_694, f_695, e_696, u_697, w_698⟩, ⟨k_699, c9_700, t_701, f_702, e_703, u_704, w_705⟩⟩ := id hx_651
      refine lv_istore_n (lv' := [(2, .int r_646), (3, .int 1), (5, .int 0), (4, .int (nI i_93)), (1, .int 3), (0, .ref rd)]) hx hb dX4_readEither_83 rfl hl (by decide) rfl (fun ls hl => ?_)
      refine lv_iload hx hb dX4_readEither_84 (lv_at hl 2 rfl) ?_
      refine lv_if_eq (tgt := 95) hx hb dX4_readEither_86 (by decide) (fun c_706 => ?_) (fun c_706 => absurd (by decide) c_706)
      refine lv_iinc (v := nI (i_93 + 1)) (lv' := [(4, .int (nI (i_93 + 1))), (2, .int r_646), (3, .int 1), (5, .int 0), (1, .int 3), (0, .ref rd)]) hx hb dX4_readEither_95 hl (k := 3) rfl (nI_add i_93 1) (by decide) rfl (fun ls hl => ?_)
      refine lv_goto (tgt := 11) hx hb dX4_readEither_98 (by decide) ?_
      exact ih_92 (i_93 + 1, r_646, 1) ws_648 _ _ ls (by show 400 - (i_93 + 1) < 400 - i_93; omega) ⟨hlp_101, ⟨ty_649, hK, htx, (⟨ts_675, te_676, cc_677, ra_678, rb_679, rc_680, rv_681, re_682, ya_683, by omega, by omega, by omega, by omega, er_688, et_689, wr_690, wt_691, ⟨k_692, c9_693, t_694, f_695, e_696, u_697, w_698⟩, ⟨k_699, c9_700, t_701, f_702, e_703, u_704, w_705⟩⟩ : RS ρ ws_648 ty_649 rd krd tp ktp cd bb tl)⟩, (show (i_93 + 1) ≤ 400 from by omega), (show r_646 = 0 ∨ r_646 = 1 from w_647), (show 1 = 0 ∨ 1 = 1 from Or.inr rfl)⟩ hP hD hS (lv_sub hl [0, 1, 2, 4, 5] rfl)
    refine lv_iload hx hb dX4_readEither_60 (lv_at hl 0 rfl) ?_
    refine lv_if_ne (tgt := 69) hx hb dX4_readEither_62 (by decide) (fun c_707 => absurd (by decide) c_707) (fun c_707 => ?_)
    refine lv_iconst (v := 1) hx hb dX4_readEither_65 (by decide) ?_
    refine lv_goto (tgt := 70) hx hb dX4_readEither_66 (by decide) ?_
    refine lv_istore_n (lv' := [(3, .int 1), (5, .int 0), (4, .int (nI i_93)), (2, .int x_94), (1, .int 3), (0, .ref rd)]) hx hb dX4_readEither_70 rfl hl (by decide) rfl (fun ls hl => ?_)
    refine lv_aload_n hx hb dX4_readEither_71 rfl (lv_at hl 5 rfl) ?_
    refine va_get (D := D) (ci := 4) (v := .ref tp) (C := RX4) (T := TX4) (N := 8) hx hb hts hin4 hown hK hP krd er_599 rfl 0 (by decide) (hts (.fieldLink RX4 12 "HoneyHouse$RuleReader" "tape" "LHoneyHouse$Tape;") (List.mem_of_getElem? (i := 1) rfl)) (fun _ h9 => h9) rfl dX4_readEither_72 ?_
    have hFc := free_all hD hS hA
    refine va_callv (va_runV (As := []) (rest := []) ⟨hx, hb, hml, hown, hts⟩ (a_advance l D ρ ws_559 ty_560 tp ktp tl te_587 ya_594 (nI ts_586) bb k_610 c9_611 t_612 f_613 H.size (by omega) (by omega) et_600 e_614 u_615 wt_602) (cwV 0 hts gX4_readEither_X6_advance rfl rfl rfl (by decide +kernel) ⟨Nat.le_of_ble_eq_true rfl, Nat.le_of_ble_eq_true rfl⟩) ⟨fun a U g mk q => by obtain ⟨q0, q1, qP, qK, qD⟩ := q; exact ⟨q0, q1, qP, va_K.moved (u := U) (U := U.calling g mk a) (Vm.Alike.refl U.vm) qK, qD⟩, va_recv hK hP (ci := 6) (q0 := ktp) rfl et_600, fun U hU hW => ⟨rfl, by rw [hU], by rw [hU]; exact hP, va_K.moved hW.alike hK, hD.weaken (fun _ _ _ _ => trivial)⟩⟩ rfl rfl hl.1 rfl (lv_room (Nat.le_of_ble_eq_true rfl)) dX4_readEither_75 ⟨Nat.le_of_ble_eq_true rfl, Nat.le_of_ble_eq_true rfl⟩) hS (fun q _ h => hFc q h) hFc (fun u t H1 locs ht hvm w_709 hB hz1 hk1 hS => ?_)
    obtain ⟨ws_710, ty_711, hm_712, ht_714, hP1, hK1, hD1, hx_713⟩ := hB
    rw [ht] at hP1
    have hK := va_K.moved hvm.symm hK1
    have hD := hD1.weaken (fun _ _ _ h => hFc _ h)
    generalize H1 = H at hP1 hS ⊢
    have hP := hP1
    have e_715 := hm_712.objK er_599 (by decide)
    obtain ⟨g_717, e_716, h_718⟩ := hm_712.obj et_600
    obtain ⟨z_719, z_720, z_721, z_722, rfl⟩ := smX6 h_718
    obtain ⟨f_724, e_723⟩ := hm_712.arrI e_607
    have u_725 := ht_714 _ _ u_608
    obtain ⟨f_727, e_726⟩ := hm_712.arrI e_614
    have u_728 := ht_714 _ _ u_615
    have hsm := hsm.tr (hm_712.mono (by decide))
    have hlp_101 := hlp_101.tr (hm_712.mono (by decide))
    have htx := htx.tr ht_714
    obtain ⟨k_729, s_730, e_731, h_732, h_733, h_734, e_735⟩ := hx_713
    refine lv_aload_n hx hb dX4_readEither_78 rfl (lv_at hl 5 rfl) ?_
    refine lv_iload_n hx hb dX4_readEither_79 rfl (lv_at hl 4 rfl) ?_
    have hFc := free_all hD hS hA
    refine va_calli (va_runV (As := [.int 3]) (rest := []) ⟨hx, hb, hml, hown, hts⟩ (r_readOne3 l D ρ ws_710 ty_711 adK adV fo rd krd tp ktp cd bb tl  H.size (⟨s_730, e_731, cc_588, ra_589, rb_590, rc_591, rv_592, re_593, nI k_729, by omega, by omega, by omega, by omega, e_715, e_735, wr_601, wt_602, ⟨k_603, c9_604, t_605, f_724, e_723, u_725, w_609⟩, ⟨k_610, c9_611, t_612, f_727, e_726, u_728, w_616⟩⟩ : RS ρ ws_710 ty_711 rd krd tp ktp cd bb tl)) (cwV 1 hts gX4_readEither_X4_readOne rfl rfl rfl (by decide +kernel) ⟨Nat.le_of_ble_eq_true rfl, Nat.le_of_ble_eq_true rfl⟩) ⟨fun a U g mk q => by obtain ⟨q0, q1, qP, qK, qD, qS⟩ := q; exact ⟨q0, q1, qP, va_K.moved (u := U) (U := U.calling g mk a) (Vm.Alike.refl U.vm) qK, qD, SZ.same rfl rfl qS⟩, va_recv hK hP (ci := 4) (q0 := krd) rfl e_715, fun U hU hW => ⟨rfl, by rw [hU], by rw [hU]; exact hP, va_K.moved hW.alike hK, hD.weaken (fun _ _ _ _ => trivial), hsz9.go hS hW hU hFc⟩⟩ rfl rfl hl.1 rfl (lv_room (Nat.le_of_ble_eq_true rfl)) dX4_readEither_80 ⟨Nat.le_of_ble_eq_true rfl, Nat.le_of_ble_eq_true rfl⟩) hS (fun q _ h => hFc q h) hFc (fun r_736 u t H1 locs ht hvm w_737 hB hz1 hk1 hS => ?_)
    obtain ⟨ws_738, ty_739, hm_740, ht_742, hP1, hK1, hD1, hx_741⟩ := hB
    rw [ht] at hP1
    have hK := va_K.moved hvm.symm hK1
    have hD := hD1.weaken (fun _ _ _ h => hFc _ h)
    generalize H1 = H at hP1 hS ⊢
    have hP := hP1
    obtain ⟨g_744, e_743, h_745⟩ := hm_740.obj e_715
    obtain ⟨z_746, z_747, z_748, z_749, z_750, z_751, rfl⟩ := smX4 h_745
    obtain ⟨g_753, e_752, h_754⟩ := hm_740.obj e_735
    obtain ⟨z_755, z_756, z_757, z_758, rfl⟩ := smX6 h_754
    obtain ⟨f_760, e_759⟩ := hm_740.arrI e_723
    have u_761 := ht_742 _ _ u_725
    obtain ⟨f_763, e_762⟩ := hm_740.arrI e_726
    have u_764 := ht_742 _ _ u_728
    have hsm := hsm.tr (hm_740.mono (by decide))
    have hlp_101 := hlp_101.tr (hm_740.mono (by decide))
    have htx := htx.tr ht_742
    obtain ⟨ts_765, te_766, cc_767, ra_768, rb_769, rc_770, rv_771, re_772, ya_773, h1_774, h2_775, h3_776, h4_777, er_778, et_779, wr_780, wt_781, ⟨k_782, c9_783, t_784, f_785, e_786, u_787, w_788⟩, ⟨k_789, c9_790, t_791, f_792, e_793, u_794, w_795⟩⟩ := id hx_741
    refine lv_istore_n (lv' := [(2, .int r_736), (3, .int 1), (5, .int 0), (4, .int (nI i_93)), (1, .int 3), (0, .ref rd)]) hx hb dX4_readEither_83 rfl hl (by decide) rfl (fun ls hl => ?_)
    refine lv_iload hx hb dX4_readEither_84 (lv_at hl 2 rfl) ?_
    refine lv_if_eq (tgt := 95) hx hb dX4_readEither_86 (by decide) (fun c_796 => ?_) (fun c_796 => absurd (by decide) c_796)
    refine lv_iinc (v := nI (i_93 + 1)) (lv' := [(4, .int (nI (i_93 + 1))), (2, .int r_736), (3, .int 1), (5, .int 0), (1, .int 3), (0, .ref rd)]) hx hb dX4_readEither_95 hl (k := 3) rfl (nI_add i_93 1) (by decide) rfl (fun ls hl => ?_)
    refine lv_goto (tgt := 11) hx hb dX4_readEither_98 (by decide) ?_
    exact ih_92 (i_93 + 1, r_736, 1) ws_738 _ _ ls (by show 400 - (i_93 + 1) < 400 - i_93; omega) ⟨hlp_101, ⟨ty_739, hK, htx, (⟨ts_765, te_766, cc_767, ra_768, rb_769, rc_770, rv_771, re_772, ya_773, by omega, by omega, by omega, by omega, er_778, et_779, wr_780, wt_781, ⟨k_782, c9_783, t_784, f_785, e_786, u_787, w_788⟩, ⟨k_789, c9_790, t_791, f_792, e_793, u_794, w_795⟩⟩ : RS ρ ws_738 ty_739 rd krd tp ktp cd bb tl)⟩, (show (i_93 + 1) ≤ 400 from by omega), (show r_736 = 0 ∨ r_736 = 1 from w_737), (show 1 = 0 ∨ 1 = 1 from Or.inr rfl)⟩ hP hD hS (lv_sub hl [0, 1, 2, 4, 5] rfl)
  refine lv_istore (lv' := [(5, .int 1), (4, .int (nI i_93)), (2, .int x_94), (3, .int y_95), (1, .int 3), (0, .ref rd)]) hx hb dX4_readEither_39 hl (by decide) rfl (fun ls hl => ?_)
  refine lv_iload hx hb dX4_readEither_41 (lv_at hl 0 rfl) ?_
  refine lv_if_ne (tgt := 56) hx hb dX4_readEither_43 (by decide) (fun c_797 => ?_) (fun c_797 => absurd c_797 (by decide))
  refine lv_iload_n hx hb dX4_readEither_56 rfl (lv_at hl 3 rfl) ?_
  refine lv_if_ne (tgt := 65) hx hb dX4_readEither_57 (by decide) (fun c_798 => ?_) (fun c_798 => ?_)
  · refine lv_iconst (v := 1) hx hb dX4_readEither_65 (by decide) ?_
    refine lv_goto (tgt := 70) hx hb dX4_readEither_66 (by decide) ?_
    refine lv_istore_n (lv' := [(3, .int 1), (5, .int 1), (4, .int (nI i_93)), (2, .int x_94), (1, .int 3), (0, .ref rd)]) hx hb dX4_readEither_70 rfl hl (by decide) rfl (fun ls hl => ?_)
    refine lv_aload_n hx hb dX4_readEither_71 rfl (lv_at hl 5 rfl) ?_
    refine va_get (D := D) (ci := 4) (v := .ref tp) (C := RX4) (T := TX4) (N := 8) hx hb hts hin4 hown hK hP krd e_367 rfl 0 (by decide) (hts (.fieldLink RX4 12 "HoneyHouse$RuleReader" "tape" "LHoneyHouse$Tape;") (List.mem_of_getElem? (i := 1) rfl)) (fun _ h9 => h9) rfl dX4_readEither_72 ?_
    have hFc := free_all hD hS hA
    refine va_callv (va_runV (As := []) (rest := []) ⟨hx, hb, hml, hown, hts⟩ (a_advance l D ρ ws_362 ty_363 tp ktp tl te_126 ya_133 (nI ts_125) bb k_149 c9_150 t_151 f_373 H.size (by omega) (by omega) e_368 e_372 u_374 wt_141) (cwV 0 hts gX4_readEither_X6_advance rfl rfl rfl (by decide +kernel) ⟨Nat.le_of_ble_eq_true rfl, Nat.le_of_ble_eq_true rfl⟩) ⟨fun a U g mk q => by obtain ⟨q0, q1, qP, qK, qD⟩ := q; exact ⟨q0, q1, qP, va_K.moved (u := U) (U := U.calling g mk a) (Vm.Alike.refl U.vm) qK, qD⟩, va_recv hK hP (ci := 6) (q0 := ktp) rfl e_368, fun U hU hW => ⟨rfl, by rw [hU], by rw [hU]; exact hP, va_K.moved hW.alike hK, hD.weaken (fun _ _ _ _ => trivial)⟩⟩ rfl rfl hl.1 rfl (lv_room (Nat.le_of_ble_eq_true rfl)) dX4_readEither_75 ⟨Nat.le_of_ble_eq_true rfl, Nat.le_of_ble_eq_true rfl⟩) hS (fun q _ h => hFc q h) hFc (fun u t H1 locs ht hvm w_800 hB hz1 hk1 hS => ?_)
    obtain ⟨ws_801, ty_802, hm_803, ht_805, hP1, hK1, hD1, hx_804⟩ := hB
    rw [ht] at hP1
    have hK := va_K.moved hvm.symm hK1
    have hD := hD1.weaken (fun _ _ _ h => hFc _ h)
    generalize H1 = H at hP1 hS ⊢
    have hP := hP1
    have e_806 := hm_803.objK e_367 (by decide)
    obtain ⟨g_808, e_807, h_809⟩ := hm_803.obj e_368
    obtain ⟨z_810, z_811, z_812, z_813, rfl⟩ := smX6 h_809
    obtain ⟨f_815, e_814⟩ := hm_803.arrI e_369
    have u_816 := ht_805 _ _ u_371
    obtain ⟨f_818, e_817⟩ := hm_803.arrI e_372
    have u_819 := ht_805 _ _ u_374
    have hsm := hsm.tr (hm_803.mono (by decide))
    have hlp_101 := hlp_101.tr (hm_803.mono (by decide))
    have htx := htx.tr ht_805
    obtain ⟨k_820, s_821, e_822, h_823, h_824, h_825, e_826⟩ := hx_804
    refine lv_aload_n hx hb dX4_readEither_78 rfl (lv_at hl 5 rfl) ?_
    refine lv_iload_n hx hb dX4_readEither_79 rfl (lv_at hl 4 rfl) ?_
    have hFc := free_all hD hS hA
    refine va_calli (va_runV (As := [.int 3]) (rest := []) ⟨hx, hb, hml, hown, hts⟩ (r_readOne3 l D ρ ws_801 ty_802 adK adV fo rd krd tp ktp cd bb tl  H.size (⟨s_821, e_822, cc_127, ra_128, rb_129, rc_130, rv_131, re_132, nI k_820, by omega, by omega, by omega, by omega, e_806, e_826, wr_140, wt_141, ⟨k_142, c9_143, t_144, f_815, e_814, u_816, w_148⟩, ⟨k_149, c9_150, t_151, f_818, e_817, u_819, w_155⟩⟩ : RS ρ ws_801 ty_802 rd krd tp ktp cd bb tl)) (cwV 1 hts gX4_readEither_X4_readOne rfl rfl rfl (by decide +kernel) ⟨Nat.le_of_ble_eq_true rfl, Nat.le_of_ble_eq_true rfl⟩) ⟨fun a U g mk q => by obtain ⟨q0, q1, qP, qK, qD, qS⟩ := q; exact ⟨q0, q1, qP, va_K.moved (u := U) (U := U.calling g mk a) (Vm.Alike.refl U.vm) qK, qD, SZ.same rfl rfl qS⟩, va_recv hK hP (ci := 4) (q0 := krd) rfl e_806, fun U hU hW => ⟨rfl, by rw [hU], by rw [hU]; exact hP, va_K.moved hW.alike hK, hD.weaken (fun _ _ _ _ => trivial), hsz9.go hS hW hU hFc⟩⟩ rfl rfl hl.1 rfl (lv_room (Nat.le_of_ble_eq_true rfl)) dX4_readEither_80 ⟨Nat.le_of_ble_eq_true rfl, Nat.le_of_ble_eq_true rfl⟩) hS (fun q _ h => hFc q h) hFc (fun r_827 u t H1 locs ht hvm w_828 hB hz1 hk1 hS => ?_)
    obtain ⟨ws_829, ty_830, hm_831, ht_833, hP1, hK1, hD1, hx_832⟩ := hB
    rw [ht] at hP1
    have hK := va_K.moved hvm.symm hK1
    have hD := hD1.weaken (fun _ _ _ h => hFc _ h)
    generalize H1 = H at hP1 hS ⊢
    have hP := hP1
    obtain ⟨g_835, e_834, h_836⟩ := hm_831.obj e_806
    obtain ⟨z_837, z_838, z_839, z_840, z_841, z_842, rfl⟩ := smX4 h_836
    obtain ⟨g_844, e_843, h_845⟩ := hm_831.obj e_826
    obtain ⟨z_846, z_847, z_848, z_849, rfl⟩ := smX6 h_845
    obtain ⟨f_851, e_850⟩ := hm_831.arrI e_814
    have u_852 := ht_833 _ _ u_816
    obtain ⟨f_854, e_853⟩ := hm_831.arrI e_817
    have u_855 := ht_833 _ _ u_819
    have hsm := hsm.tr (hm_831.mono (by decide))
    have hlp_101 := hlp_101.tr (hm_831.mono (by decide))
    have htx := htx.tr ht_833
    obtain ⟨ts_856, te_857, cc_858, ra_859, rb_860, rc_861, rv_862, re_863, ya_864, h1_865, h2_866, h3_867, h4_868, er_869, et_870, wr_871, wt_872, ⟨k_873, c9_874, t_875, f_876, e_877, u_878, w_879⟩, ⟨k_880, c9_881, t_882, f_883, e_884, u_885, w_886⟩⟩ := id hx_832
    refine lv_istore_n (lv' := [(2, .int r_827), (3, .int 1), (5, .int 1), (4, .int (nI i_93)), (1, .int 3), (0, .ref rd)]) hx hb dX4_readEither_83 rfl hl (by decide) rfl (fun ls hl => ?_)
    refine lv_iload hx hb dX4_readEither_84 (lv_at hl 2 rfl) ?_
    refine lv_if_eq (tgt := 95) hx hb dX4_readEither_86 (by decide) (fun c_887 => absurd c_887 (by decide)) (fun c_887 => ?_)
    refine lv_aload_n hx hb dX4_readEither_89 rfl (lv_at hl 5 rfl) ?_
    refine lv_bipush (v := (-2)) hx hb dX4_readEither_90 (by decide) ?_
    have hFc := free_all hD hS hA
    refine va_callv (va_runV (As := [.int (-2)]) (rest := []) ⟨hx, hb, hml, hown, hts⟩ (r_addCode l D ρ ws_829 ty_830 adK adV fo rd krd tp ktp cd bb tl (-2) H.size (⟨ts_856, te_857, cc_858, ra_859, rb_860, rc_861, rv_862, re_863, ya_864, by omega, by omega, by omega, by omega, er_869, et_870, wr_871, wt_872, ⟨k_873, c9_874, t_875, f_876, e_877, u_878, w_879⟩, ⟨k_880, c9_881, t_882, f_883, e_884, u_885, w_886⟩⟩ : RS ρ ws_829 ty_830 rd krd tp ktp cd bb tl)) (cwV 1 hts gX4_readEither_X4_addCode rfl rfl rfl (by decide +kernel) ⟨Nat.le_of_ble_eq_true rfl, Nat.le_of_ble_eq_true rfl⟩) ⟨fun a U g mk q => by obtain ⟨q0, q1, qP, qK, qD, qS⟩ := q; exact ⟨q0, q1, qP, va_K.moved (u := U) (U := U.calling g mk a) (Vm.Alike.refl U.vm) qK, qD, SZ.same rfl rfl qS⟩, va_recv hK hP (ci := 4) (q0 := krd) rfl er_869, fun U hU hW => ⟨rfl, by rw [hU], by rw [hU]; exact hP, va_K.moved hW.alike hK, hD.weaken (fun _ _ _ _ => trivial), hsz9.go hS hW hU hFc⟩⟩ rfl rfl hl.1 rfl (lv_room (Nat.le_of_ble_eq_true rfl)) dX4_readEither_92 ⟨Nat.le_of_ble_eq_true rfl, Nat.le_of_ble_eq_true rfl⟩) hS (fun q _ h => hFc q h) hFc (fun u t H1 locs ht hvm w_889 hB hz1 hk1 hS => ?_)
    obtain ⟨ws_890, ty_891, hm_892, ht_894, hP1, hK1, hD1, hx_893⟩ := hB
    rw [ht] at hP1
    have hK := va_K.moved hvm.symm hK1
    have hD := hD1.weaken (fun _ _ _ h => hFc _ h)
    generalize H1 = H at hP1 hS ⊢
    have hP := hP1
    obtain ⟨g_896, e_895, h_897⟩ := hm_892.obj er_869
    obtain ⟨z_898, z_899, z_900, z_901, z_902, z_903, rfl⟩ := smX4 h_897
    obtain ⟨g_905, e_904, h_906⟩ := hm_892.obj et_870
    obtain ⟨z_907, z_908, z_909, z_910, rfl⟩ := smX6 h_906
    obtain ⟨f_912, e_911⟩ := hm_892.arrI e_877
    have u_913 := ht_894 _ _ u_878
    obtain ⟨f_915, e_914⟩ := hm_892.arrI e_884
    have u_916 := ht_894 _ _ u_885
    have hsm := hsm.tr (hm_892.mono (by decide))
    have hlp_101 := hlp_101.tr (hm_892.mono (by decide))
    have htx := htx.tr ht_894
    obtain ⟨ts_917, te_918, cc_919, ra_920, rb_921, rc_922, rv_923, re_924, ya_925, h1_926, h2_927, h3_928, h4_929, er_930, et_931, wr_932, wt_933, ⟨k_934, c9_935, t_936, f_937, e_938, u_939, w_940⟩, ⟨k_941, c9_942, t_943, f_944, e_945, u_946, w_947⟩⟩ := id hx_893
    refine lv_iinc (v := nI (i_93 + 1)) (lv' := [(4, .int (nI (i_93 + 1))), (2, .int r_827), (3, .int 1), (5, .int 1), (1, .int 3), (0, .ref rd)]) hx hb dX4_readEither_95 hl (k := 3) rfl (nI_add i_93 1) (by decide) rfl (fun ls hl => ?_)
    refine lv_goto (tgt := 11) hx hb dX4_readEither_98 (by decide) ?_
    exact ih_92 (i_93 + 1, r_827, 1) ws_890 _ _ ls (by show 400 - (i_93 + 1) < 400 - i_93; omega) ⟨hlp_101, ⟨ty_891, hK, htx, (⟨ts_917, te_918, cc_919, ra_920, rb_921, rc_922, rv_923, re_924, ya_925, by omega, by omega, by omega, by omega, er_930, et_931, wr_932, wt_933, ⟨k_934, c9_935, t_936, f_937, e_938, u_939, w_940⟩, ⟨k_941, c9_942, t_943, f_944, e_945, u_946, w_947⟩⟩ : RS ρ ws_890 ty_891 rd krd tp ktp cd bb tl)⟩, (show (i_93 + 1) ≤ 400 from by omega), (show r_827 = 0 ∨ r_827 = 1 from w_828), (show 1 = 0 ∨ 1 = 1 from Or.inr rfl)⟩ hP hD hS (lv_sub hl [0, 1, 2, 4, 5] rfl)
  refine lv_iload hx hb dX4_readEither_60 (lv_at hl 0 rfl) ?_
  refine lv_if_ne (tgt := 69) hx hb dX4_readEither_62 (by decide) (fun c_948 => ?_) (fun c_948 => absurd c_948 (by decide))
  refine lv_iconst (v := 0) hx hb dX4_readEither_69 (by decide) ?_
  refine lv_istore_n (lv' := [(3, .int 0), (5, .int 1), (4, .int (nI i_93)), (2, .int x_94), (1, .int 3), (0, .ref rd)]) hx hb dX4_readEither_70 rfl hl (by decide) rfl (fun ls hl => ?_)
  refine lv_aload_n hx hb dX4_readEither_71 rfl (lv_at hl 5 rfl) ?_
  refine va_get (D := D) (ci := 4) (v := .ref tp) (C := RX4) (T := TX4) (N := 8) hx hb hts hin4 hown hK hP krd e_367 rfl 0 (by decide) (hts (.fieldLink RX4 12 "HoneyHouse$RuleReader" "tape" "LHoneyHouse$Tape;") (List.mem_of_getElem? (i := 1) rfl)) (fun _ h9 => h9) rfl dX4_readEither_72 ?_
  have hFc := free_all hD hS hA
  refine va_callv (va_runV (As := []) (rest := []) ⟨hx, hb, hml, hown, hts⟩ (a_advance l D ρ ws_362 ty_363 tp ktp tl te_126 ya_133 (nI ts_125) bb k_149 c9_150 t_151 f_373 H.size (by omega) (by omega) e_368 e_372 u_374 wt_141) (cwV 0 hts gX4_readEither_X6_advance rfl rfl rfl (by decide +kernel) ⟨Nat.le_of_ble_eq_true rfl, Nat.le_of_ble_eq_true rfl⟩) ⟨fun a U g mk q => by obtain ⟨q0, q1, qP, qK, qD⟩ := q; exact ⟨q0, q1, qP, va_K.moved (u := U) (U := U.calling g mk a) (Vm.Alike.refl U.vm) qK, qD⟩, va_recv hK hP (ci := 6) (q0 := ktp) rfl e_368, fun U hU hW => ⟨rfl, by rw [hU], by rw [hU]; exact hP, va_K.moved hW.alike hK, hD.weaken (fun _ _ _ _ => trivial)⟩⟩ rfl rfl hl.1 rfl (lv_room (Nat.le_of_ble_eq_true rfl)) dX4_readEither_75 ⟨Nat.le_of_ble_eq_true rfl, Nat.le_of_ble_eq_true rfl⟩) hS (fun q _ h => hFc q h) hFc (fun u t H1 locs ht hvm w_950 hB hz1 hk1 hS => ?_)
  obtain ⟨ws_951, ty_952, hm_953, ht_955, hP1, hK1, hD1, hx_954⟩ := hB
  rw [ht] at hP1
  have hK := va_K.moved hvm.symm hK1
  have hD := hD1.weaken (fun _ _ _ h => hFc _ h)
  generalize H1 = H at hP1 hS ⊢
  have hP := hP1
  have e_956 := hm_953.objK e_367 (by decide)
  obtain ⟨g_958, e_957, h_959⟩ := hm_953.obj e_368
  obtain ⟨z_960, z_961, z_962, z_963, rfl⟩ := smX6 h_959
  obtain ⟨f_965, e_964⟩ := hm_953.arrI e_369
  have u_966 := ht_955 _ _ u_371
  obtain ⟨f_968, e_967⟩ := hm_953.arrI e_372
  have u_969 := ht_955 _ _ u_374
  have hsm := hsm.tr (hm_953.mono (by decide))
  have hlp_101 := hlp_101.tr (hm_953.mono (by decide))
  have htx := htx.tr ht_955
  obtain ⟨k_970, s_971, e_972, h_973, h_974, h_975, e_976⟩ := hx_954
  refine lv_aload_n hx hb dX4_readEither_78 rfl (lv_at hl 5 rfl) ?_
  refine lv_iload_n hx hb dX4_readEither_79 rfl (lv_at hl 4 rfl) ?_
  have hFc := free_all hD hS hA
  refine va_calli (va_runV (As := [.int 3]) (rest := []) ⟨hx, hb, hml, hown, hts⟩ (r_readOne3 l D ρ ws_951 ty_952 adK adV fo rd krd tp ktp cd bb tl  H.size (⟨s_971, e_972, cc_127, ra_128, rb_129, rc_130, rv_131, re_132, nI k_970, by omega, by omega, by omega, by omega, e_956, e_976, wr_140, wt_141, ⟨k_142, c9_143, t_144, f_965, e_964, u_966, w_148⟩, ⟨k_149, c9_150, t_151, f_968, e_967, u_969, w_155⟩⟩ : RS ρ ws_951 ty_952 rd krd tp ktp cd bb tl)) (cwV 1 hts gX4_readEither_X4_readOne rfl rfl rfl (by decide +kernel) ⟨Nat.le_of_ble_eq_true rfl, Nat.le_of_ble_eq_true rfl⟩) ⟨fun a U g mk q => by obtain ⟨q0, q1, qP, qK, qD, qS⟩ := q; exact ⟨q0, q1, qP, va_K.moved (u := U) (U := U.calling g mk a) (Vm.Alike.refl U.vm) qK, qD, SZ.same rfl rfl qS⟩, va_recv hK hP (ci := 4) (q0 := krd) rfl e_956, fun U hU hW => ⟨rfl, by rw [hU], by rw [hU]; exact hP, va_K.moved hW.alike hK, hD.weaken (fun _ _ _ _ => trivial), hsz9.go hS hW hU hFc⟩⟩ rfl rfl hl.1 rfl (lv_room (Nat.le_of_ble_eq_true rfl)) dX4_readEither_80 ⟨Nat.le_of_ble_eq_true rfl, Nat.le_of_ble_eq_true rfl⟩) hS (fun q _ h => hFc q h) hFc (fun r_977 u t H1 locs ht hvm w_978 hB hz1 hk1 hS => ?_)
  obtain ⟨ws_979, ty_980, hm_981, ht_983, hP1, hK1, hD1, hx_982⟩ := hB
  rw [ht] at hP1
  have hK := va_K.moved hvm.symm hK1
  have hD := hD1.weaken (fun _ _ _ h => hFc _ h)
  generalize H1 = H at hP1 hS ⊢
  have hP := hP1
  obtain ⟨g_985, e_984, h_986⟩ := hm_981.obj e_956
  obtain ⟨z_987, z_988, z_989, z_990, z_991, z_992, rfl⟩ := smX4 h_986
  obtain ⟨g_994, e_993, h_995⟩ := hm_981.obj e_976
  obtain ⟨z_996, z_997, z_998, z_999, rfl⟩ := smX6 h_995
  obtain ⟨f_1001, e_1000⟩ := hm_981.arrI e_964
  have u_1002 := ht_983 _ _ u_966
  obtain ⟨f_1004, e_1003⟩ := hm_981.arrI e_967
  have u_1005 := ht_983 _ _ u_969
  have hsm := hsm.tr (hm_981.mono (by decide))
  have hlp_101 := hlp_101.tr (hm_981.mono (by decide))
  have htx := htx.tr ht_983
  obtain ⟨ts_1006, te_1007, cc_1008, ra_1009, rb_1010, rc_1011, rv_1012, re_1013, ya_1014, h1_1015, h2_1016, h3_1017, h4_1018, er_1019, et_1020, wr_1021, wt_1022, ⟨k_1023, c9_1024, t_1025, f_1026, e_1027, u_1028, w_1029⟩, ⟨k_1030, c9_1031, t_1032, f_1033, e_1034, u_1035, w_1036⟩⟩ := id hx_982
  refine lv_istore_n (lv' := [(2, .int r_977), (3, .int 0), (5, .int 1), (4, .int (nI i_93)), (1, .int 3), (0, .ref rd)]) hx hb dX4_readEither_83 rfl hl (by decide) rfl (fun ls hl => ?_)
  refine lv_iload hx hb dX4_readEither_84 (lv_at hl 2 rfl) ?_
  refine lv_if_eq (tgt := 95) hx hb dX4_readEither_86 (by decide) (fun c_1037 => absurd c_1037 (by decide)) (fun c_1037 => ?_)
  refine lv_aload_n hx hb dX4_readEither_89 rfl (lv_at hl 5 rfl) ?_
  refine lv_bipush (v := (-2)) hx hb dX4_readEither_90 (by decide) ?_
  have hFc := free_all hD hS hA
  refine va_callv (va_runV (As := [.int (-2)]) (rest := []) ⟨hx, hb, hml, hown, hts⟩ (r_addCode l D ρ ws_979 ty_980 adK adV fo rd krd tp ktp cd bb tl (-2) H.size (⟨ts_1006, te_1007, cc_1008, ra_1009, rb_1010, rc_1011, rv_1012, re_1013, ya_1014, by omega, by omega, by omega, by omega, er_1019, et_1020, wr_1021, wt_1022, ⟨k_1023, c9_1024, t_1025, f_1026, e_1027, u_1028, w_1029⟩, ⟨k_1030, c9_1031, t_1032, f_1033, e_1034, u_1035, w_1036⟩⟩ : RS ρ ws_979 ty_980 rd krd tp ktp cd bb tl)) (cwV 1 hts gX4_readEither_X4_addCode rfl rfl rfl (by decide +kernel) ⟨Nat.le_of_ble_eq_true rfl, Nat.le_of_ble_eq_true rfl⟩) ⟨fun a U g mk q => by obtain ⟨q0, q1, qP, qK, qD, qS⟩ := q; exact ⟨q0, q1, qP, va_K.moved (u := U) (U := U.calling g mk a) (Vm.Alike.refl U.vm) qK, qD, SZ.same rfl rfl qS⟩, va_recv hK hP (ci := 4) (q0 := krd) rfl er_1019, fun U hU hW => ⟨rfl, by rw [hU], by rw [hU]; exact hP, va_K.moved hW.alike hK, hD.weaken (fun _ _ _ _ => trivial), hsz9.go hS hW hU hFc⟩⟩ rfl rfl hl.1 rfl (lv_room (Nat.le_of_ble_eq_true rfl)) dX4_readEither_92 ⟨Nat.le_of_ble_eq_true rfl, Nat.le_of_ble_eq_true rfl⟩) hS (fun q _ h => hFc q h) hFc (fun u t H1 locs ht hvm w_1039 hB hz1 hk1 hS => ?_)
  obtain ⟨ws_1040, ty_1041, hm_1042, ht_1044, hP1, hK1, hD1, hx_1043⟩ := hB
  rw [ht] at hP1
  have hK := va_K.moved hvm.symm hK1
  have hD := hD1.weaken (fun _ _ _ h => hFc _ h)
  generalize H1 = H at hP1 hS ⊢
  have hP := hP1
  obtain ⟨g_1046, e_1045, h_1047⟩ := hm_1042.obj er_1019
  obtain ⟨z_1048, z_1049, z_1050, z_1051, z_1052, z_1053, rfl⟩ := smX4 h_1047
  obtain ⟨g_1055, e_1054, h_1056⟩ := hm_1042.obj et_1020
  obtain ⟨z_1057, z_1058, z_1059, z_1060, rfl⟩ := smX6 h_1056
  obtain ⟨f_1062, e_1061⟩ := hm_1042.arrI e_1027
  have u_1063 := ht_1044 _ _ u_1028
  obtain ⟨f_1065, e_1064⟩ := hm_1042.arrI e_1034
  have u_1066 := ht_1044 _ _ u_1035
  have hsm := hsm.tr (hm_1042.mono (by decide))
  have hlp_101 := hlp_101.tr (hm_1042.mono (by decide))
  have htx := htx.tr ht_1044
  obtain ⟨ts_1067, te_1068, cc_1069, ra_1070, rb_1071, rc_1072, rv_1073, re_1074, ya_1075, h1_1076, h2_1077, h3_1078, h4_1079, er_1080, et_1081, wr_1082, wt_1083, ⟨k_1084, c9_1085, t_1086, f_1087, e_1088, u_1089, w_1090⟩, ⟨k_1091, c9_1092, t_1093, f_1094, e_1095, u_1096, w_1097⟩⟩ := id hx_1043
  refine lv_iinc (v := nI (i_93 + 1)) (lv' := [(4, .int (nI (i_93 + 1))), (2, .int r_977), (3, .int 0), (5, .int 1), (1, .int 3), (0, .ref rd)]) hx hb dX4_readEither_95 hl (k := 3) rfl (nI_add i_93 1) (by decide) rfl (fun ls hl => ?_)
  refine lv_goto (tgt := 11) hx hb dX4_readEither_98 (by decide) ?_
  exact ih_92 (i_93 + 1, r_977, 0) ws_1040 _ _ ls (by show 400 - (i_93 + 1) < 400 - i_93; omega) ⟨hlp_101, ⟨ty_1041, hK, htx, (⟨ts_1067, te_1068, cc_1069, ra_1070, rb_1071, rc_1072, rv_1073, re_1074, ya_1075, by omega, by omega, by omega, by omega, er_1080, et_1081, wr_1082, wt_1083, ⟨k_1084, c9_1085, t_1086, f_1087, e_1088, u_1089, w_1090⟩, ⟨k_1091, c9_1092, t_1093, f_1094, e_1095, u_1096, w_1097⟩⟩ : RS ρ ws_1040 ty_1041 rd krd tp ktp cd bb tl)⟩, (show (i_93 + 1) ≤ 400 from by omega), (show r_977 = 0 ∨ r_977 = 1 from w_978), (show 0 = 0 ∨ 0 = 1 from Or.inl rfl)⟩ hP hD hS (lv_sub hl [0, 1, 2, 4, 5] rfl)
set_option maxHeartbeats 4000000 in
set_option maxRecDepth 100000 in
theorem r_readOne2 (l : Launch) (D : va_G) (ρ : Nat → Nat) (ws : va_W) (tys : List (ClassId × FieldType)) (adK adV : Nat → Nat) (fo : Option Nat) (rd krd tp ktp cd bb tl : Nat)  (sz : Nat) (R0 : RS ρ ws tys rd krd tp ktp cd bb tl)  : Met l yX4_readOne wsX4_readOne ({ frames := 15, cells := 0, slots := 0, locals := 341 }) (va_Pc [.ref rd, .int 2] (fun U => U.heap.size = sz ∧ va_P D vwCl ws U.heap ∧ va_K D vwCl tys U ∧ va_D (fun _ => True) ws ∧ SZ adK adV fo (va_A ws sz) U U.heap)) (va_Qi (fun (r : Int32) (_ : Unit) => r = 0 ∨ r = 1) (fun (_ : Unit) (t : State) => ∃ (ws' : va_W) (tys' : List (ClassId × FieldType)), sm ρ [4, 6] ws ws' ∧ tyx tys tys' ∧ va_P D vwCl ws' t.heap ∧ va_K D vwCl tys' t ∧ va_D (va_A ws sz) ws' ∧ (RS ρ ws' tys' rd krd tp ktp cd bb tl)) (va_A ws sz)) 0 0 (va_A ws sz) := by
  refine Met.ofW (cc := cX4_readOne) (maxL := 4) (ret := (some .boolean)) (by decide) rfl ?_
  intro p e s m args below meth c s₁ B hml hv
  obtain ⟨rfl, hsz, hP, hK, hD0, hsz9⟩ := hv
  have hx := B.exec
  have hb := B.bytes
  have hr := B.returns
  have hts := atoms_spec (ws := wsX4_readOne) B.pre
  have hown : s.vm.findClass RX4 = some m.cls := findClass_of_methodNamed B.named
  have hlocks := B.notSynchronized
  subst hsz
  have hD := hD0.self (sz := s.heap.size)
  generalize hAe : va_A ws s.heap.size = A at hD hsz9 ⊢
  have hA : ∀ q : Nat, s.heap.size ≤ q → A q := fun q h => by rw [← hAe]; exact Or.inr h
  have hS : va_S A s.heap s.heap [] := va_S.rf
  have hsm : sm ρ [4, 6] ws ws := sm.rf ws
  have htx : tyx tys tys := tyx.rf tys
  have hin4 : ∀ w ∈ u_ws RX4 TX4 8, w ∈ wsX4_readOne := (fun _ h9 => List.mem_cons_of_mem _ (List.mem_append_left _ ((List.mem_append_right _ h9))))
  have hl := lv_entry ([.ref rd, .int 2]) (n := 4) (Nat.le_of_ble_eq_true rfl)
  rw [lg_entry_eq]
  generalize (lg_sl ([.ref rd, .int 2]) ++ List.replicate (4 - (lg_sl ([.ref rd, .int 2])).length) Slot.unset).toArray = ls at hl ⊢
  have hl : lv_has ls 4 [(0, .ref rd), (1, .int 2)] := hl
  obtain ⟨ts_1, te_2, cc_3, ra_4, rb_5, rc_6, rv_7, re_8, ya_9, h1_10, h2_11, h3_12, h4_13, er_14, et_15, wr_16, wt_17, ⟨k_18, c9_19, t_20, f_21, e_22, u_23, w_24⟩, ⟨k_25, c9_26, t_27, f_28, e_29, u_30, w_31⟩⟩ := id R0
  refine lv_aload_n hx hb dX4_readOne_0 rfl (lv_at hl 0 rfl) ?_
  refine va_get (D := D) (ci := 4) (v := .ref tp) (C := RX4) (T := TX4) (N := 8) hx hb hts hin4 hown hK hP krd er_14 rfl 0 (by decide) (hts (.fieldLink RX4 12 "HoneyHouse$RuleReader" "tape" "LHoneyHouse$Tape;") (List.mem_of_getElem? (i := 1) rfl)) (fun _ h9 => h9) rfl dX4_readOne_1 ?_
  refine va_ldcS hx hb hown hsz9.2.2.2.2.2.2.1 dX4_readOne_4 ?_
  have hFc := free_all hD hS hA
  refine va_calli (va_runV (As := [.ref (adK 3)]) (rest := []) ⟨hx, hb, hml, hown, hts⟩ (a_isWord l D ρ ws tys adK adV fo 3 tp ktp tl ya_9 (nI ts_1) (nI te_2) bb k_25 c9_26 t_27 f_28 s.heap.size (by decide) et_15 e_29 u_30) (cwV 1 hts gX4_readOne_X6_isWord rfl rfl rfl (by decide +kernel) ⟨Nat.le_of_ble_eq_true rfl, Nat.le_of_ble_eq_true rfl⟩) ⟨fun a U g mk q => by obtain ⟨q0, q1, qP, qK, qD, qS⟩ := q; exact ⟨q0, q1, qP, va_K.moved (u := U) (U := U.calling g mk a) (Vm.Alike.refl U.vm) qK, qD, SZ.same rfl rfl qS⟩, va_recv hK hP (ci := 6) (q0 := ktp) rfl et_15, fun U hU hW => ⟨rfl, by rw [hU], by rw [hU]; exact hP, va_K.moved hW.alike hK, hD.weaken (fun _ _ _ _ => trivial), hsz9.go hS hW hU hFc⟩⟩ rfl rfl hl.1 rfl (lv_room (Nat.le_of_ble_eq_true rfl)) dX4_readOne_6 ⟨Nat.le_of_ble_eq_true rfl, Nat.le_of_ble_eq_true rfl⟩) hS (fun q _ h => hFc q h) hFc (fun r_32 u t H1 locs ht hvm w_33 hB hz1 hk1 hS => ?_)
  obtain ⟨ws_34, ty_35, hm_36, ht_38, hP1, hK1, hD1, hx_37⟩ := hB
  rw [ht] at hP1
  have hK := va_K.moved hvm.symm hK1
  have hD := hD1.weaken (fun _ _ _ h => hFc _ h)
  generalize H1 = H at hP1 hS ⊢
  have hP := hP1
  have e_39 := hm_36.objK er_14 (by decide)
  have e_40 := hm_36.objK et_15 (by decide)
  obtain ⟨f_42, e_41⟩ := hm_36.arrI e_22
  have u_43 := ht_38 _ _ u_23
  obtain ⟨f_45, e_44⟩ := hm_36.arrI e_29
  have u_46 := ht_38 _ _ u_30
  have hsm := hsm.tr (hm_36.mono (by decide))
  have htx := htx.tr ht_38
  rcases w_33 with rfl | rfl
  · refine lv_istore_n (lv' := [(2, .int 0), (0, .ref rd), (1, .int 2)]) hx hb dX4_readOne_9 rfl hl (by decide) rfl (fun ls hl => ?_)
    refine lv_iload_n hx hb dX4_readOne_10 rfl (lv_at hl 0 rfl) ?_
    refine lv_if_ne (tgt := 31) hx hb dX4_readOne_11 (by decide) (fun c_47 => absurd (by decide) c_47) (fun c_47 => ?_)
    refine lv_aload_n hx hb dX4_readOne_14 rfl (lv_at hl 1 rfl) ?_
    refine va_get (D := D) (ci := 4) (v := .ref tp) (C := RX4) (T := TX4) (N := 8) hx hb hts hin4 hown hK hP krd e_39 rfl 0 (by decide) (hts (.fieldLink RX4 12 "HoneyHouse$RuleReader" "tape" "LHoneyHouse$Tape;") (List.mem_of_getElem? (i := 1) rfl)) (fun _ h9 => h9) rfl dX4_readOne_15 ?_
    refine lv_bipush (v := 40) hx hb dX4_readOne_18 (by decide) ?_
    refine vp_callSi (W.runV (As := [.int 40]) (rest := []) ⟨hx, hb, hml, hown, hts⟩ (s_isByte l D ws_34 ty_35 tp ktp tl ya_9 (nI ts_1) (nI te_2) bb k_25 c9_26 t_27 f_45 40 e_40 e_44 u_46) (cwV 1 hts gX4_readOne_X6_isByte rfl rfl rfl (by decide +kernel) ⟨Nat.le_of_ble_eq_true rfl, Nat.le_of_ble_eq_true rfl⟩) ⟨fun a U g mk q => ⟨q.1, q.2.1, va_K.moved (u := U) (U := U.calling g mk a) (Vm.Alike.refl U.vm) q.2.2⟩, va_recv hK hP (ci := 6) (q0 := ktp) rfl e_40, fun U hU hW => ⟨rfl, by rw [hU]; exact hP, va_K.moved hW.alike hK⟩⟩ rfl rfl hl.1 rfl (lv_room (Nat.le_of_ble_eq_true rfl)) dX4_readOne_20 ⟨Nat.le_of_ble_eq_true rfl, Nat.le_of_ble_eq_true rfl⟩) (fun r_48 k_49 => ?_)
    rcases k_49 with rfl | rfl
    · refine lv_if_ne (tgt := 31) hx hb dX4_readOne_23 (by decide) (fun c_50 => absurd (by decide) c_50) (fun c_50 => ?_)
      refine lv_aload_n hx hb dX4_readOne_26 rfl (lv_at hl 1 rfl) ?_
      have hFc := free_all hD hS hA
      refine va_calli (va_runV (As := []) (rest := []) ⟨hx, hb, hml, hown, hts⟩ (r_readTest l D ρ ws_34 ty_35 adK adV fo rd krd tp ktp cd bb tl  H.size (⟨ts_1, te_2, cc_3, ra_4, rb_5, rc_6, rv_7, re_8, ya_9, by omega, by omega, by omega, by omega, e_39, e_40, wr_16, wt_17, ⟨k_18, c9_19, t_20, f_42, e_41, u_43, w_24⟩, ⟨k_25, c9_26, t_27, f_45, e_44, u_46, w_31⟩⟩ : RS ρ ws_34 ty_35 rd krd tp ktp cd bb tl)) (cwV 0 hts gX4_readOne_X4_readTest rfl rfl rfl (by decide +kernel) ⟨Nat.le_of_ble_eq_true rfl, Nat.le_of_ble_eq_true rfl⟩) ⟨fun a U g mk q => by obtain ⟨q0, q1, qP, qK, qD, qS⟩ := q; exact ⟨q0, q1, qP, va_K.moved (u := U) (U := U.calling g mk a) (Vm.Alike.refl U.vm) qK, qD, SZ.same rfl rfl qS⟩, va_recv hK hP (ci := 4) (q0 := krd) rfl e_39, fun U hU hW => ⟨rfl, by rw [hU], by rw [hU]; exact hP, va_K.moved hW.alike hK, hD.weaken (fun _ _ _ _ => trivial), hsz9.go hS hW hU hFc⟩⟩ rfl rfl hl.1 rfl (lv_room (Nat.le_of_ble_eq_true rfl)) dX4_readOne_27 ⟨Nat.le_of_ble_eq_true rfl, Nat.le_of_ble_eq_true rfl⟩) hS (fun q _ h => hFc q h) hFc (fun r_51 u t H1 locs ht hvm w_52 hB hz1 hk1 hS => ?_)
      obtain ⟨ws_53, ty_54, hm_55, ht_57, hP1, hK1, hD1, hx_56⟩ := hB
      rw [ht] at hP1
      have hK := va_K.moved hvm.symm hK1
      have hD := hD1.weaken (fun _ _ _ h => hFc _ h)
      generalize H1 = H at hP1 hS ⊢
      have hP := hP1
      obtain ⟨g_59, e_58, h_60⟩ := hm_55.obj e_39
      obtain ⟨z_61, z_62, z_63, z_64, z_65, z_66, rfl⟩ := smX4 h_60
      obtain ⟨g_68, e_67, h_69⟩ := hm_55.obj e_40
      obtain ⟨z_70, z_71, z_72, z_73, rfl⟩ := smX6 h_69
      obtain ⟨f_75, e_74⟩ := hm_55.arrI e_41
      have u_76 := ht_57 _ _ u_43
      obtain ⟨f_78, e_77⟩ := hm_55.arrI e_44
      have u_79 := ht_57 _ _ u_46
      have hsm := hsm.tr (hm_55.mono (by decide))
      have htx := htx.tr ht_57
      obtain ⟨ts_80, te_81, cc_82, ra_83, rb_84, rc_85, rv_86, re_87, ya_88, h1_89, h2_90, h3_91, h4_92, er_93, et_94, wr_95, wt_96, ⟨k_97, c9_98, t_99, f_100, e_101, u_102, w_103⟩, ⟨k_104, c9_105, t_106, f_107, e_108, u_109, w_110⟩⟩ := id hx_56
      exact W.zret (v := r_51) hx hb hr (by rcases w_52 with h9 | h9 <;> rw [h9] <;> rfl) (fun t ht hW => ⟨⟨r_51, (), rfl, w_52, ws_53, ty_54, hsm, htx, by rw [ht]; exact hP, va_K.moved hW.alike hK, hD, (⟨ts_80, te_81, cc_82, ra_83, rb_84, rc_85, rv_86, re_87, ya_88, by omega, by omega, by omega, by omega, er_93, et_94, wr_95, wt_96, ⟨k_97, c9_98, t_99, f_100, e_101, u_102, w_103⟩, ⟨k_104, c9_105, t_106, f_107, e_108, u_109, w_110⟩⟩ : RS ρ ws_53 ty_54 rd krd tp ktp cd bb tl)⟩, hS.F ht⟩) hS.2.2 dX4_readOne_30
    refine lv_if_ne (tgt := 31) hx hb dX4_readOne_23 (by decide) (fun c_111 => ?_) (fun c_111 => absurd c_111 (by decide))
    refine lv_iload_n hx hb dX4_readOne_31 rfl (lv_at hl 2 rfl) ?_
    refine lv_bipush (v := 6) hx hb dX4_readOne_32 (by decide) ?_
    refine lv_icmp_lt (tgt := 50) hx hb dX4_readOne_34 (by decide) (fun c_112 => ?_) (fun c_112 => absurd (by decide) c_112)
    refine lv_aload_n hx hb dX4_readOne_50 rfl (lv_at hl 1 rfl) ?_
    refine va_get (D := D) (ci := 4) (v := .ref tp) (C := RX4) (T := TX4) (N := 8) hx hb hts hin4 hown hK hP krd e_39 rfl 0 (by decide) (hts (.fieldLink RX4 12 "HoneyHouse$RuleReader" "tape" "LHoneyHouse$Tape;") (List.mem_of_getElem? (i := 1) rfl)) (fun _ h9 => h9) rfl dX4_readOne_51 ?_
    have hFc := free_all hD hS hA
    refine va_callv (va_runV (As := []) (rest := []) ⟨hx, hb, hml, hown, hts⟩ (a_advance l D ρ ws_34 ty_35 tp ktp tl te_2 ya_9 (nI ts_1) bb k_25 c9_26 t_27 f_45 H.size (by omega) (by omega) e_40 e_44 u_46 wt_17) (cwV 0 hts gX4_readOne_X6_advance rfl rfl rfl (by decide +kernel) ⟨Nat.le_of_ble_eq_true rfl, Nat.le_of_ble_eq_true rfl⟩) ⟨fun a U g mk q => by obtain ⟨q0, q1, qP, qK, qD⟩ := q; exact ⟨q0, q1, qP, va_K.moved (u := U) (U := U.calling g mk a) (Vm.Alike.refl U.vm) qK, qD⟩, va_recv hK hP (ci := 6) (q0 := ktp) rfl e_40, fun U hU hW => ⟨rfl, by rw [hU], by rw [hU]; exact hP, va_K.moved hW.alike hK, hD.weaken (fun _ _ _ _ => trivial)⟩⟩ rfl rfl hl.1 rfl (lv_room (Nat.le_of_ble_eq_true rfl)) dX4_readOne_54 ⟨Nat.le_of_ble_eq_true rfl, Nat.le_of_ble_eq_true rfl⟩) hS (fun q _ h => hFc q h) hFc (fun u t H1 locs ht hvm w_114 hB hz1 hk1 hS => ?_)
    obtain ⟨ws_115, ty_116, hm_117, ht_119, hP1, hK1, hD1, hx_118⟩ := hB
    rw [ht] at hP1
    have hK := va_K.moved hvm.symm hK1
    have hD := hD1.weaken (fun _ _ _ h => hFc _ h)
    generalize H1 = H at hP1 hS ⊢
    have hP := hP1
    have e_120 := hm_117.objK e_39 (by decide)
    obtain ⟨g_122, e_121, h_123⟩ := hm_117.obj e_40
    obtain ⟨z_124, z_125, z_126, z_127, rfl⟩ := smX6 h_123
    obtain ⟨f_129, e_128⟩ := hm_117.arrI e_41
    have u_130 := ht_119 _ _ u_43
    obtain ⟨f_132, e_131⟩ := hm_117.arrI e_44
    have u_133 := ht_119 _ _ u_46
    have hsm := hsm.tr (hm_117.mono (by decide))
    have htx := htx.tr ht_119
    obtain ⟨k_134, s_135, e_136, h_137, h_138, h_139, e_140⟩ := hx_118
    refine lv_iload_n hx hb dX4_readOne_57 rfl (lv_at hl 0 rfl) ?_
    refine lv_if_ne (tgt := 86) hx hb dX4_readOne_58 (by decide) (fun c_141 => absurd (by decide) c_141) (fun c_141 => ?_)
    refine lv_aload_n hx hb dX4_readOne_61 rfl (lv_at hl 1 rfl) ?_
    refine lv_iload_n hx hb dX4_readOne_62 rfl (lv_at hl 2 rfl) ?_
    refine lv_iconst (v := 1) hx hb dX4_readOne_63 (by decide) ?_
    refine lv_iadd hx hb dX4_readOne_64 ?_
    refine tp_i (y := 3) (by decide) ?_
    have hFc := free_all hD hS hA
    refine va_calli (va_runV (As := [.int 3]) (rest := []) ⟨hx, hb, hml, hown, hts⟩ (r_readEither3 l D ρ ws_115 ty_116 adK adV fo rd krd tp ktp cd bb tl  H.size (⟨s_135, e_136, cc_3, ra_4, rb_5, rc_6, rv_7, re_8, nI k_134, by omega, by omega, by omega, by omega, e_120, e_140, wr_16, wt_17, ⟨k_18, c9_19, t_20, f_129, e_128, u_130, w_24⟩, ⟨k_25, c9_26, t_27, f_132, e_131, u_133, w_31⟩⟩ : RS ρ ws_115 ty_116 rd krd tp ktp cd bb tl)) (cwV 1 hts gX4_readOne_X4_readEither rfl rfl rfl (by decide +kernel) ⟨Nat.le_of_ble_eq_true rfl, Nat.le_of_ble_eq_true rfl⟩) ⟨fun a U g mk q => by obtain ⟨q0, q1, qP, qK, qD, qS⟩ := q; exact ⟨q0, q1, qP, va_K.moved (u := U) (U := U.calling g mk a) (Vm.Alike.refl U.vm) qK, qD, SZ.same rfl rfl qS⟩, va_recv hK hP (ci := 4) (q0 := krd) rfl e_120, fun U hU hW => ⟨rfl, by rw [hU], by rw [hU]; exact hP, va_K.moved hW.alike hK, hD.weaken (fun _ _ _ _ => trivial), hsz9.go hS hW hU hFc⟩⟩ rfl rfl hl.1 rfl (lv_room (Nat.le_of_ble_eq_true rfl)) dX4_readOne_65 ⟨Nat.le_of_ble_eq_true rfl, Nat.le_of_ble_eq_true rfl⟩) hS (fun q _ h => hFc q h) hFc (fun r_142 u t H1 locs ht hvm w_143 hB hz1 hk1 hS => ?_)
    obtain ⟨ws_144, ty_145, hm_146, ht_148, hP1, hK1, hD1, hx_147⟩ := hB
    rw [ht] at hP1
    have hK := va_K.moved hvm.symm hK1
    have hD := hD1.weaken (fun _ _ _ h => hFc _ h)
    generalize H1 = H at hP1 hS ⊢
    have hP := hP1
    obtain ⟨g_150, e_149, h_151⟩ := hm_146.obj e_120
    obtain ⟨z_152, z_153, z_154, z_155, z_156, z_157, rfl⟩ := smX4 h_151
    obtain ⟨g_159, e_158, h_160⟩ := hm_146.obj e_140
    obtain ⟨z_161, z_162, z_163, z_164, rfl⟩ := smX6 h_160
    obtain ⟨f_166, e_165⟩ := hm_146.arrI e_128
    have u_167 := ht_148 _ _ u_130
    obtain ⟨f_169, e_168⟩ := hm_146.arrI e_131
    have u_170 := ht_148 _ _ u_133
    have hsm := hsm.tr (hm_146.mono (by decide))
    have htx := htx.tr ht_148
    obtain ⟨ts_171, te_172, cc_173, ra_174, rb_175, rc_176, rv_177, re_178, ya_179, h1_180, h2_181, h3_182, h4_183, er_184, et_185, wr_186, wt_187, ⟨k_188, c9_189, t_190, f_191, e_192, u_193, w_194⟩, ⟨k_195, c9_196, t_197, f_198, e_199, u_200, w_201⟩⟩ := id hx_147
    refine lv_if_eq (tgt := 84) hx hb dX4_readOne_68 (by decide) (fun c_202 => ?_) (fun c_202 => ?_)
    · refine lv_iconst (v := 0) hx hb dX4_readOne_84 (by decide) ?_
      exact W.zret (v := 0) hx hb hr rfl (fun t ht hW => ⟨⟨0, (), rfl, Or.inl rfl, ws_144, ty_145, hsm, htx, by rw [ht]; exact hP, va_K.moved hW.alike hK, hD, (⟨ts_171, te_172, cc_173, ra_174, rb_175, rc_176, rv_177, re_178, ya_179, by omega, by omega, by omega, by omega, er_184, et_185, wr_186, wt_187, ⟨k_188, c9_189, t_190, f_191, e_192, u_193, w_194⟩, ⟨k_195, c9_196, t_197, f_198, e_199, u_200, w_201⟩⟩ : RS ρ ws_144 ty_145 rd krd tp ktp cd bb tl)⟩, hS.F ht⟩) hS.2.2 dX4_readOne_85
    refine lv_aload_n hx hb dX4_readOne_71 rfl (lv_at hl 1 rfl) ?_
    refine lv_bipush (v := 41) hx hb dX4_readOne_72 (by decide) ?_
    have hFc := free_all hD hS hA
    refine va_calli (va_runV (As := [.int 41]) (rest := []) ⟨hx, hb, hml, hown, hts⟩ (r_readByte l D ρ ws_144 ty_145 adK adV fo rd krd tp ktp cd bb tl 41 H.size (⟨ts_171, te_172, cc_173, ra_174, rb_175, rc_176, rv_177, re_178, ya_179, by omega, by omega, by omega, by omega, er_184, et_185, wr_186, wt_187, ⟨k_188, c9_189, t_190, f_191, e_192, u_193, w_194⟩, ⟨k_195, c9_196, t_197, f_198, e_199, u_200, w_201⟩⟩ : RS ρ ws_144 ty_145 rd krd tp ktp cd bb tl)) (cwV 1 hts gX4_readOne_X4_readByte rfl rfl rfl (by decide +kernel) ⟨Nat.le_of_ble_eq_true rfl, Nat.le_of_ble_eq_true rfl⟩) ⟨fun a U g mk q => by obtain ⟨q0, q1, qP, qK, qD, qS⟩ := q; exact ⟨q0, q1, qP, va_K.moved (u := U) (U := U.calling g mk a) (Vm.Alike.refl U.vm) qK, qD, SZ.same rfl rfl qS⟩, va_recv hK hP (ci := 4) (q0 := krd) rfl er_184, fun U hU hW => ⟨rfl, by rw [hU], by rw [hU]; exact hP, va_K.moved hW.alike hK, hD.weaken (fun _ _ _ _ => trivial), hsz9.go hS hW hU hFc⟩⟩ rfl rfl hl.1 rfl (lv_room (Nat.le_of_ble_eq_true rfl)) dX4_readOne_74 ⟨Nat.le_of_ble_eq_true rfl, Nat.le_of_ble_eq_true rfl⟩) hS (fun q _ h => hFc q h) hFc (fun r_203 u t H1 locs ht hvm w_204 hB hz1 hk1 hS => ?_)
    obtain ⟨ws_205, ty_206, hm_207, ht_209, hP1, hK1, hD1, hx_208⟩ := hB
    rw [ht] at hP1
    have hK := va_K.moved hvm.symm hK1
    have hD := hD1.weaken (fun _ _ _ h => hFc _ h)
    generalize H1 = H at hP1 hS ⊢
    have hP := hP1
    obtain ⟨g_211, e_210, h_212⟩ := hm_207.obj er_184
    obtain ⟨z_213, z_214, z_215, z_216, z_217, z_218, rfl⟩ := smX4 h_212
    obtain ⟨g_220, e_219, h_221⟩ := hm_207.obj et_185
    obtain ⟨z_222, z_223, z_224, z_225, rfl⟩ := smX6 h_221
    obtain ⟨f_227, e_226⟩ := hm_207.arrI e_192
    have u_228 := ht_209 _ _ u_193
    obtain ⟨f_230, e_229⟩ := hm_207.arrI e_199
    have u_231 := ht_209 _ _ u_200
    have hsm := hsm.tr (hm_207.mono (by decide))
    have htx := htx.tr ht_209
    obtain ⟨ts_232, te_233, cc_234, ra_235, rb_236, rc_237, rv_238, re_239, ya_240, h1_241, h2_242, h3_243, h4_244, er_245, et_246, wr_247, wt_248, ⟨k_249, c9_250, t_251, f_252, e_253, u_254, w_255⟩, ⟨k_256, c9_257, t_258, f_259, e_260, u_261, w_262⟩⟩ := id hx_208
    rcases w_204 with rfl | rfl
    · refine lv_if_eq (tgt := 84) hx hb dX4_readOne_77 (by decide) (fun c_263 => ?_) (fun c_263 => absurd (by decide) c_263)
      refine lv_iconst (v := 0) hx hb dX4_readOne_84 (by decide) ?_
      exact W.zret (v := 0) hx hb hr rfl (fun t ht hW => ⟨⟨0, (), rfl, Or.inl rfl, ws_205, ty_206, hsm, htx, by rw [ht]; exact hP, va_K.moved hW.alike hK, hD, (⟨ts_232, te_233, cc_234, ra_235, rb_236, rc_237, rv_238, re_239, ya_240, by omega, by omega, by omega, by omega, er_245, et_246, wr_247, wt_248, ⟨k_249, c9_250, t_251, f_252, e_253, u_254, w_255⟩, ⟨k_256, c9_257, t_258, f_259, e_260, u_261, w_262⟩⟩ : RS ρ ws_205 ty_206 rd krd tp ktp cd bb tl)⟩, hS.F ht⟩) hS.2.2 dX4_readOne_85
    refine lv_if_eq (tgt := 84) hx hb dX4_readOne_77 (by decide) (fun c_264 => absurd c_264 (by decide)) (fun c_264 => ?_)
    refine lv_iconst (v := 1) hx hb dX4_readOne_80 (by decide) ?_
    refine lv_goto (tgt := 85) hx hb dX4_readOne_81 (by decide) ?_
    exact W.zret (v := 1) hx hb hr rfl (fun t ht hW => ⟨⟨1, (), rfl, Or.inr rfl, ws_205, ty_206, hsm, htx, by rw [ht]; exact hP, va_K.moved hW.alike hK, hD, (⟨ts_232, te_233, cc_234, ra_235, rb_236, rc_237, rv_238, re_239, ya_240, by omega, by omega, by omega, by omega, er_245, et_246, wr_247, wt_248, ⟨k_249, c9_250, t_251, f_252, e_253, u_254, w_255⟩, ⟨k_256, c9_257, t_258, f_259, e_260, u_261, w_262⟩⟩ : RS ρ ws_205 ty_206 rd krd tp ktp cd bb tl)⟩, hS.F ht⟩) hS.2.2 dX4_readOne_85
  refine lv_istore_n (lv' := [(2, .int 1), (0, .ref rd), (1, .int 2)]) hx hb dX4_readOne_9 rfl hl (by decide) rfl (fun ls hl => ?_)
  refine lv_iload_n hx hb dX4_readOne_10 rfl (lv_at hl 0 rfl) ?_
  refine lv_if_ne (tgt := 31) hx hb dX4_readOne_11 (by decide) (fun c_265 => ?_) (fun c_265 => absurd c_265 (by decide))
  refine lv_iload_n hx hb dX4_readOne_31 rfl (lv_at hl 2 rfl) ?_
  refine lv_bipush (v := 6) hx hb dX4_readOne_32 (by decide) ?_
  refine lv_icmp_lt (tgt := 50) hx hb dX4_readOne_34 (by decide) (fun c_266 => ?_) (fun c_266 => absurd (by decide) c_266)
  refine lv_aload_n hx hb dX4_readOne_50 rfl (lv_at hl 1 rfl) ?_
  refine va_get (D := D) (ci := 4) (v := .ref tp) (C := RX4) (T := TX4) (N := 8) hx hb hts hin4 hown hK hP krd e_39 rfl 0 (by decide) (hts (.fieldLink RX4 12 "HoneyHouse$RuleReader" "tape" "LHoneyHouse$Tape;") (List.mem_of_getElem? (i := 1) rfl)) (fun _ h9 => h9) rfl dX4_readOne_51 ?_
  have hFc := free_all hD hS hA
  refine va_callv (va_runV (As := []) (rest := []) ⟨hx, hb, hml, hown, hts⟩ (a_advance l D ρ ws_34 ty_35 tp ktp tl te_2 ya_9 (nI ts_1) bb k_25 c9_26 t_27 f_45 H.size (by omega) (by omega) e_40 e_44 u_46 wt_17) (cwV 0 hts gX4_readOne_X6_advance rfl rfl rfl (by decide +kernel) ⟨Nat.le_of_ble_eq_true rfl, Nat.le_of_ble_eq_true rfl⟩) ⟨fun a U g mk q => by obtain ⟨q0, q1, qP, qK, qD⟩ := q; exact ⟨q0, q1, qP, va_K.moved (u := U) (U := U.calling g mk a) (Vm.Alike.refl U.vm) qK, qD⟩, va_recv hK hP (ci := 6) (q0 := ktp) rfl e_40, fun U hU hW => ⟨rfl, by rw [hU], by rw [hU]; exact hP, va_K.moved hW.alike hK, hD.weaken (fun _ _ _ _ => trivial)⟩⟩ rfl rfl hl.1 rfl (lv_room (Nat.le_of_ble_eq_true rfl)) dX4_readOne_54 ⟨Nat.le_of_ble_eq_true rfl, Nat.le_of_ble_eq_true rfl⟩) hS (fun q _ h => hFc q h) hFc (fun u t H1 locs ht hvm w_268 hB hz1 hk1 hS => ?_)
  obtain ⟨ws_269, ty_270, hm_271, ht_273, hP1, hK1, hD1, hx_272⟩ := hB
  rw [ht] at hP1
  have hK := va_K.moved hvm.symm hK1
  have hD := hD1.weaken (fun _ _ _ h => hFc _ h)
  generalize H1 = H at hP1 hS ⊢
  have hP := hP1
  have e_274 := hm_271.objK e_39 (by decide)
  obtain ⟨g_276, e_275, h_277⟩ := hm_271.obj e_40
  obtain ⟨z_278, z_279, z_280, z_281, rfl⟩ := smX6 h_277
  obtain ⟨f_283, e_282⟩ := hm_271.arrI e_41
  have u_284 := ht_273 _ _ u_43
  obtain ⟨f_286, e_285⟩ := hm_271.arrI e_44
  have u_287 := ht_273 _ _ u_46
  have hsm := hsm.tr (hm_271.mono (by decide))
  have htx := htx.tr ht_273
  obtain ⟨k_288, s_289, e_290, h_291, h_292, h_293, e_294⟩ := hx_272
  refine lv_iload_n hx hb dX4_readOne_57 rfl (lv_at hl 0 rfl) ?_
  refine lv_if_ne (tgt := 86) hx hb dX4_readOne_58 (by decide) (fun c_295 => ?_) (fun c_295 => absurd c_295 (by decide))
  refine lv_aload_n hx hb dX4_readOne_86 rfl (lv_at hl 1 rfl) ?_
  refine lv_iload_n hx hb dX4_readOne_87 rfl (lv_at hl 2 rfl) ?_
  refine lv_iconst (v := 1) hx hb dX4_readOne_88 (by decide) ?_
  refine lv_iadd hx hb dX4_readOne_89 ?_
  refine tp_i (y := 3) (by decide) ?_
  have hFc := free_all hD hS hA
  refine va_calli (va_runV (As := [.int 3]) (rest := []) ⟨hx, hb, hml, hown, hts⟩ (r_readOne3 l D ρ ws_269 ty_270 adK adV fo rd krd tp ktp cd bb tl  H.size (⟨s_289, e_290, cc_3, ra_4, rb_5, rc_6, rv_7, re_8, nI k_288, by omega, by omega, by omega, by omega, e_274, e_294, wr_16, wt_17, ⟨k_18, c9_19, t_20, f_283, e_282, u_284, w_24⟩, ⟨k_25, c9_26, t_27, f_286, e_285, u_287, w_31⟩⟩ : RS ρ ws_269 ty_270 rd krd tp ktp cd bb tl)) (cwV 1 hts gX4_readOne_X4_readOne rfl rfl rfl (by decide +kernel) ⟨Nat.le_of_ble_eq_true rfl, Nat.le_of_ble_eq_true rfl⟩) ⟨fun a U g mk q => by obtain ⟨q0, q1, qP, qK, qD, qS⟩ := q; exact ⟨q0, q1, qP, va_K.moved (u := U) (U := U.calling g mk a) (Vm.Alike.refl U.vm) qK, qD, SZ.same rfl rfl qS⟩, va_recv hK hP (ci := 4) (q0 := krd) rfl e_274, fun U hU hW => ⟨rfl, by rw [hU], by rw [hU]; exact hP, va_K.moved hW.alike hK, hD.weaken (fun _ _ _ _ => trivial), hsz9.go hS hW hU hFc⟩⟩ rfl rfl hl.1 rfl (lv_room (Nat.le_of_ble_eq_true rfl)) dX4_readOne_90 ⟨Nat.le_of_ble_eq_true rfl, Nat.le_of_ble_eq_true rfl⟩) hS (fun q _ h => hFc q h) hFc (fun r_296 u t H1 locs ht hvm w_297 hB hz1 hk1 hS => ?_)
  obtain ⟨ws_298, ty_299, hm_300, ht_302, hP1, hK1, hD1, hx_301⟩ := hB
  rw [ht] at hP1
  have hK := va_K.moved hvm.symm hK1
  have hD := hD1.weaken (fun _ _ _ h => hFc _ h)
  generalize H1 = H at hP1 hS ⊢
  have hP := hP1
  obtain ⟨g_304, e_303, h_305⟩ := hm_300.obj e_274
  obtain ⟨z_306, z_307, z_308, z_309, z_310, z_311, rfl⟩ := smX4 h_305
  obtain ⟨g_313, e_312, h_314⟩ := hm_300.obj e_294
  obtain ⟨z_315, z_316, z_317, z_318, rfl⟩ := smX6 h_314
  obtain ⟨f_320, e_319⟩ := hm_300.arrI e_282
  have u_321 := ht_302 _ _ u_284
  obtain ⟨f_323, e_322⟩ := hm_300.arrI e_285
  have u_324 := ht_302 _ _ u_287
  have hsm := hsm.tr (hm_300.mono (by decide))
  have htx := htx.tr ht_302
  obtain ⟨ts_325, te_326, cc_327, ra_328, rb_329, rc_330, rv_331, re_332, ya_333, h1_334, h2_335, h3_336, h4_337, er_338, et_339, wr_340, wt_341, ⟨k_342, c9_343, t_344, f_345, e_346, u_347, w_348⟩, ⟨k_349, c9_350, t_351, f_352, e_353, u_354, w_355⟩⟩ := id hx_301
  refine lv_istore_n (lv' := [(3, .int r_296), (2, .int 1), (0, .ref rd), (1, .int 2)]) hx hb dX4_readOne_93 rfl hl (by decide) rfl (fun ls hl => ?_)
  refine lv_aload_n hx hb dX4_readOne_94 rfl (lv_at hl 2 rfl) ?_
  refine lv_iconst (v := (-1)) hx hb dX4_readOne_95 (by decide) ?_
  have hFc := free_all hD hS hA
  refine va_callv (va_runV (As := [.int (-1)]) (rest := []) ⟨hx, hb, hml, hown, hts⟩ (r_addCode l D ρ ws_298 ty_299 adK adV fo rd krd tp ktp cd bb tl (-1) H.size (⟨ts_325, te_326, cc_327, ra_328, rb_329, rc_330, rv_331, re_332, ya_333, by omega, by omega, by omega, by omega, er_338, et_339, wr_340, wt_341, ⟨k_342, c9_343, t_344, f_345, e_346, u_347, w_348⟩, ⟨k_349, c9_350, t_351, f_352, e_353, u_354, w_355⟩⟩ : RS ρ ws_298 ty_299 rd krd tp ktp cd bb tl)) (cwV 1 hts gX4_readOne_X4_addCode rfl rfl rfl (by decide +kernel) ⟨Nat.le_of_ble_eq_true rfl, Nat.le_of_ble_eq_true rfl⟩) ⟨fun a U g mk q => by obtain ⟨q0, q1, qP, qK, qD, qS⟩ := q; exact ⟨q0, q1, qP, va_K.moved (u := U) (U := U.calling g mk a) (Vm.Alike.refl U.vm) qK, qD, SZ.same rfl rfl qS⟩, va_recv hK hP (ci := 4) (q0 := krd) rfl er_338, fun U hU hW => ⟨rfl, by rw [hU], by rw [hU]; exact hP, va_K.moved hW.alike hK, hD.weaken (fun _ _ _ _ => trivial), hsz9.go hS hW hU hFc⟩⟩ rfl rfl hl.1 rfl (lv_room (Nat.le_of_ble_eq_true rfl)) dX4_readOne_96 ⟨Nat.le_of_ble_eq_true rfl, Nat.le_of_ble_eq_true rfl⟩) hS (fun q _ h => hFc q h) hFc (fun u t H1 locs ht hvm w_357 hB hz1 hk1 hS => ?_)
  obtain ⟨ws_358, ty_359, hm_360, ht_362, hP1, hK1, hD1, hx_361⟩ := hB
  rw [ht] at hP1
  have hK := va_K.moved hvm.symm hK1
  have hD := hD1.weaken (fun _ _ _ h => hFc _ h)
  generalize H1 = H at hP1 hS ⊢
  have hP := hP1
  obtain ⟨g_364, e_363, h_365⟩ := hm_360.obj er_338
  obtain ⟨z_366, z_367, z_368, z_369, z_370, z_371, rfl⟩ := smX4 h_365
  obtain ⟨g_373, e_372, h_374⟩ := hm_360.obj et_339
  obtain ⟨z_375, z_376, z_377, z_378, rfl⟩ := smX6 h_374
  obtain ⟨f_380, e_379⟩ := hm_360.arrI e_346
  have u_381 := ht_362 _ _ u_347
  obtain ⟨f_383, e_382⟩ := hm_360.arrI e_353
  have u_384 := ht_362 _ _ u_354
  have hsm := hsm.tr (hm_360.mono (by decide))
  have htx := htx.tr ht_362
  obtain ⟨ts_385, te_386, cc_387, ra_388, rb_389, rc_390, rv_391, re_392, ya_393, h1_394, h2_395, h3_396, h4_397, er_398, et_399, wr_400, wt_401, ⟨k_402, c9_403, t_404, f_405, e_406, u_407, w_408⟩, ⟨k_409, c9_410, t_411, f_412, e_413, u_414, w_415⟩⟩ := id hx_361
  refine lv_iload_n hx hb dX4_readOne_99 rfl (lv_at hl 0 rfl) ?_
  exact W.zret (v := r_296) hx hb hr (by rcases w_297 with h9 | h9 <;> rw [h9] <;> rfl) (fun t ht hW => ⟨⟨r_296, (), rfl, w_297, ws_358, ty_359, hsm, htx, by rw [ht]; exact hP, va_K.moved hW.alike hK, hD, (⟨ts_385, te_386, cc_387, ra_388, rb_389, rc_390, rv_391, re_392, ya_393, by omega, by omega, by omega, by omega, er_398, et_399, wr_400, wt_401, ⟨k_402, c9_403, t_404, f_405, e_406, u_407, w_408⟩, ⟨k_409, c9_410, t_411, f_412, e_413, u_414, w_415⟩⟩ : RS ρ ws_358 ty_359 rd krd tp ktp cd bb tl)⟩, hS.F ht⟩) hS.2.2 dX4_readOne_100
set_option maxHeartbeats 4000000 in
set_option maxRecDepth 100000 in
theorem r_readEither2 (l : Launch) (D : va_G) (ρ : Nat → Nat) (ws : va_W) (tys : List (ClassId × FieldType)) (adK adV : Nat → Nat) (fo : Option Nat) (rd krd tp ktp cd bb tl : Nat)  (sz : Nat) (R0 : RS ρ ws tys rd krd tp ktp cd bb tl)  : Met l yX4_readEither wsX4_readEither ({ frames := 16, cells := 0, slots := 0, locals := 364 }) (va_Pc [.ref rd, .int 2] (fun U => U.heap.size = sz ∧ va_P D vwCl ws U.heap ∧ va_K D vwCl tys U ∧ va_D (fun _ => True) ws ∧ SZ adK adV fo (va_A ws sz) U U.heap)) (va_Qi (fun (r : Int32) (_ : Unit) => r = 0 ∨ r = 1) (fun (_ : Unit) (t : State) => ∃ (ws' : va_W) (tys' : List (ClassId × FieldType)), sm ρ [4, 6] ws ws' ∧ tyx tys tys' ∧ va_P D vwCl ws' t.heap ∧ va_K D vwCl tys' t ∧ va_D (va_A ws sz) ws' ∧ (RS ρ ws' tys' rd krd tp ktp cd bb tl)) (va_A ws sz)) 0 0 (va_A ws sz) := by
  refine Met.ofW (cc := cX4_readEither) (maxL := 6) (ret := (some .boolean)) (by decide) rfl ?_
  intro p e s m args below meth c s₁ B hml hv
  obtain ⟨rfl, hsz, hP, hK, hD0, hsz9⟩ := hv
  have hx := B.exec
  have hb := B.bytes
  have hr := B.returns
  have hts := atoms_spec (ws := wsX4_readEither) B.pre
  have hown : s.vm.findClass RX4 = some m.cls := findClass_of_methodNamed B.named
  have hlocks := B.notSynchronized
  subst hsz
  have hD := hD0.self (sz := s.heap.size)
  generalize hAe : va_A ws s.heap.size = A at hD hsz9 ⊢
  have hA : ∀ q : Nat, s.heap.size ≤ q → A q := fun q h => by rw [← hAe]; exact Or.inr h
  have hS : va_S A s.heap s.heap [] := va_S.rf
  have hsm : sm ρ [4, 6] ws ws := sm.rf ws
  have htx : tyx tys tys := tyx.rf tys
  have hin4 : ∀ w ∈ u_ws RX4 TX4 8, w ∈ wsX4_readEither := (fun _ h9 => List.mem_cons_of_mem _ (List.mem_append_left _ ((List.mem_append_right _ h9))))
  have hl := lv_entry ([.ref rd, .int 2]) (n := 6) (Nat.le_of_ble_eq_true rfl)
  rw [lg_entry_eq]
  generalize (lg_sl ([.ref rd, .int 2]) ++ List.replicate (6 - (lg_sl ([.ref rd, .int 2])).length) Slot.unset).toArray = ls at hl ⊢
  have hl : lv_has ls 6 [(0, .ref rd), (1, .int 2)] := hl
  obtain ⟨ts_1, te_2, cc_3, ra_4, rb_5, rc_6, rv_7, re_8, ya_9, h1_10, h2_11, h3_12, h4_13, er_14, et_15, wr_16, wt_17, ⟨k_18, c9_19, t_20, f_21, e_22, u_23, w_24⟩, ⟨k_25, c9_26, t_27, f_28, e_29, u_30, w_31⟩⟩ := id R0
  refine lv_aload_n hx hb dX4_readEither_0 rfl (lv_at hl 0 rfl) ?_
  refine lv_iload_n hx hb dX4_readEither_1 rfl (lv_at hl 1 rfl) ?_
  have hFc := free_all hD hS hA
  refine va_calli (va_runV (As := [.int 2]) (rest := []) ⟨hx, hb, hml, hown, hts⟩ (r_readOne2 l D ρ ws tys adK adV fo rd krd tp ktp cd bb tl  s.heap.size (⟨ts_1, te_2, cc_3, ra_4, rb_5, rc_6, rv_7, re_8, ya_9, by omega, by omega, by omega, by omega, er_14, et_15, wr_16, wt_17, ⟨k_18, c9_19, t_20, f_21, e_22, u_23, w_24⟩, ⟨k_25, c9_26, t_27, f_28, e_29, u_30, w_31⟩⟩ : RS ρ ws tys rd krd tp ktp cd bb tl)) (cwV 1 hts gX4_readEither_X4_readOne rfl rfl rfl (by decide +kernel) ⟨Nat.le_of_ble_eq_true rfl, Nat.le_of_ble_eq_true rfl⟩) ⟨fun a U g mk q => by obtain ⟨q0, q1, qP, qK, qD, qS⟩ := q; exact ⟨q0, q1, qP, va_K.moved (u := U) (U := U.calling g mk a) (Vm.Alike.refl U.vm) qK, qD, SZ.same rfl rfl qS⟩, va_recv hK hP (ci := 4) (q0 := krd) rfl er_14, fun U hU hW => ⟨rfl, by rw [hU], by rw [hU]; exact hP, va_K.moved hW.alike hK, hD.weaken (fun _ _ _ _ => trivial), hsz9.go hS hW hU hFc⟩⟩ rfl rfl hl.1 rfl (lv_room (Nat.le_of_ble_eq_true rfl)) dX4_readEither_2 ⟨Nat.le_of_ble_eq_true rfl, Nat.le_of_ble_eq_true rfl⟩) hS (fun q _ h => hFc q h) hFc (fun r_32 u t H1 locs ht hvm w_33 hB hz1 hk1 hS => ?_)
  obtain ⟨ws_34, ty_35, hm_36, ht_38, hP1, hK1, hD1, hx_37⟩ := hB
  rw [ht] at hP1
  have hK := va_K.moved hvm.symm hK1
  have hD := hD1.weaken (fun _ _ _ h => hFc _ h)
  generalize H1 = H at hP1 hS ⊢
  have hP := hP1
  obtain ⟨g_40, e_39, h_41⟩ := hm_36.obj er_14
  obtain ⟨z_42, z_43, z_44, z_45, z_46, z_47, rfl⟩ := smX4 h_41
  obtain ⟨g_49, e_48, h_50⟩ := hm_36.obj et_15
  obtain ⟨z_51, z_52, z_53, z_54, rfl⟩ := smX6 h_50
  obtain ⟨f_56, e_55⟩ := hm_36.arrI e_22
  have u_57 := ht_38 _ _ u_23
  obtain ⟨f_59, e_58⟩ := hm_36.arrI e_29
  have u_60 := ht_38 _ _ u_30
  have hsm := hsm.tr (hm_36.mono (by decide))
  have htx := htx.tr ht_38
  obtain ⟨ts_61, te_62, cc_63, ra_64, rb_65, rc_66, rv_67, re_68, ya_69, h1_70, h2_71, h3_72, h4_73, er_74, et_75, wr_76, wt_77, ⟨k_78, c9_79, t_80, f_81, e_82, u_83, w_84⟩, ⟨k_85, c9_86, t_87, f_88, e_89, u_90, w_91⟩⟩ := id hx_37
  refine lv_istore_n (lv' := [(2, .int r_32), (0, .ref rd), (1, .int 2)]) hx hb dX4_readEither_5 rfl hl (by decide) rfl (fun ls hl => ?_)
  refine lv_iconst (v := 0) hx hb dX4_readEither_6 (by decide) ?_
  refine lv_istore_n (lv' := [(3, .int 0), (2, .int r_32), (0, .ref rd), (1, .int 2)]) hx hb dX4_readEither_7 rfl hl (by decide) rfl (fun ls hl => ?_)
  refine lv_iconst (v := 0) hx hb dX4_readEither_8 (by decide) ?_
  refine lv_istore (lv' := [(4, .int 0), (3, .int 0), (2, .int r_32), (0, .ref rd), (1, .int 2)]) hx hb dX4_readEither_9 hl (by decide) rfl (fun ls hl => ?_)
  refine lp_V (nL := 6) (σ := Nat × Int32 × Int32) (lv := fun x9 => [(4, .int (nI x9.1)), (2, .int x9.2.1), (3, .int x9.2.2), (1, .int 2), (0, .ref rd)]) (μ := fun x9 => 400 - x9.1) (J := fun x9 ws9 => sm ρ [4, 6] ws_34 ws9 ∧ (∃ ty9 : List (ClassId × FieldType), va_K D vwCl ty9 s ∧ tyx tys ty9 ∧ RS ρ ws9 ty9 rd krd tp ktp cd bb tl) ∧ (x9.1 ≤ 400) ∧ (x9.2.1 = 0 ∨ x9.2.1 = 1) ∧ (x9.2.2 = 0 ∨ x9.2.2 = 1)) (fun x9 ws_99 H locs ls hj hP hD hS hl ih_92 => ?_) (0, r_32, 0) ws_34 _ _ ls ⟨sm.rf _, ⟨ty_35, hK, htx, (⟨ts_61, te_62, cc_63, ra_64, rb_65, rc_66, rv_67, re_68, ya_69, by omega, by omega, by omega, by omega, er_74, et_75, wr_76, wt_77, ⟨k_78, c9_79, t_80, f_81, e_82, u_83, w_84⟩, ⟨k_85, c9_86, t_87, f_88, e_89, u_90, w_91⟩⟩ : RS ρ ws_34 ty_35 rd krd tp ktp cd bb tl)⟩, (show 0 ≤ 400 from by omega), (show r_32 = 0 ∨ r_32 = 1 from w_33), (show 0 = 0 ∨ 0 = 1 from Or.inl rfl)⟩ hP hD hS (lv_sub hl [0, 2, 1, 4, 3] rfl)
  obtain ⟨i_93, x_94, y_95⟩ := x9
  replace hj : sm ρ [4, 6] ws_34 ws_99 ∧ (∃ ty9 : List (ClassId × FieldType), va_K D vwCl ty9 s ∧ tyx tys ty9 ∧ RS ρ ws_99 ty9 rd krd tp ktp cd bb tl) ∧ (i_93 ≤ 400) ∧ (x_94 = 0 ∨ x_94 = 1) ∧ (y_95 = 0 ∨ y_95 = 1) := hj
  obtain ⟨hm_100, hR_102, hi_96, hbx_97, hby_98⟩ := hj
  obtain ⟨g_104, e_103, h_105⟩ := hm_100.obj er_74
  obtain ⟨z_106, z_107, z_108, z_109, z_110, z_111, rfl⟩ := smX4 h_105
  obtain ⟨g_113, e_112, h_114⟩ := hm_100.obj et_75
  obtain ⟨z_115, z_116, z_117, z_118, rfl⟩ := smX6 h_114
  obtain ⟨f_120, e_119⟩ := hm_100.arrI e_82
  obtain ⟨f_122, e_121⟩ := hm_100.arrI e_89
  have hsm := hsm.tr (hm_100.mono (by decide))
  obtain ⟨ty_123, hK, htx, hR_124⟩ := hR_102
  obtain ⟨ts_125, te_126, cc_127, ra_128, rb_129, rc_130, rv_131, re_132, ya_133, h1_134, h2_135, h3_136, h4_137, er_138, et_139, wr_140, wt_141, ⟨k_142, c9_143, t_144, f_145, e_146, u_147, w_148⟩, ⟨k_149, c9_150, t_151, f_152, e_153, u_154, w_155⟩⟩ := id hR_124
  have hlp_101 := hm_100
  have hl : lv_has ls 6 [(4, .int (nI i_93)), (2, .int x_94), (3, .int y_95), (1, .int 2), (0, .ref rd)] := hl
  refine lv_iload hx hb dX4_readEither_11 (lv_at hl 0 rfl) ?_
  refine lv_sipush (v := 400) hx hb dX4_readEither_13 (by decide) ?_
  refine lv_icmp_ge (tgt := 101) hx hb dX4_readEither_16 (by decide) (fun c_156 => ?_) (fun c_156 => ?_)
  · have d_157 := n_le (a := 400) (b := i_93) (by omega) (by omega) c_156
    refine lv_iload_n hx hb dX4_readEither_101 rfl (lv_at hl 2 rfl) ?_
    refine lv_if_eq (tgt := 111) hx hb dX4_readEither_102 (by decide) (fun c_158 => ?_) (fun c_158 => ?_)
    · refine lv_iload_n hx hb dX4_readEither_111 rfl (lv_at hl 1 rfl) ?_
      exact W.zret (v := x_94) hx hb hr (by rcases hbx_97 with h9 | h9 <;> rw [h9] <;> rfl) (fun t ht hW => ⟨⟨x_94, (), rfl, hbx_97, ws_99, ty_123, hsm, htx, by rw [ht]; exact hP, va_K.moved hW.alike hK, hD, (⟨ts_125, te_126, cc_127, ra_128, rb_129, rc_130, rv_131, re_132, ya_133, by omega, by omega, by omega, by omega, er_138, et_139, wr_140, wt_141, ⟨k_142, c9_143, t_144, f_145, e_146, u_147, w_148⟩, ⟨k_149, c9_150, t_151, f_152, e_153, u_154, w_155⟩⟩ : RS ρ ws_99 ty_123 rd krd tp ktp cd bb tl)⟩, hS.F ht⟩) hS.2.2 dX4_readEither_112
    refine lv_aload_n hx hb dX4_readEither_105 rfl (lv_at hl 4 rfl) ?_
    refine lv_bipush (v := (-3)) hx hb dX4_readEither_106 (by decide) ?_
    have hFc := free_all hD hS hA
    refine va_callv (va_runV (As := [.int (-3)]) (rest := []) ⟨hx, hb, hml, hown, hts⟩ (r_addCode l D ρ ws_99 ty_123 adK adV fo rd krd tp ktp cd bb tl (-3) H.size (⟨ts_125, te_126, cc_127, ra_128, rb_129, rc_130, rv_131, re_132, ya_133, by omega, by omega, by omega, by omega, er_138, et_139, wr_140, wt_141, ⟨k_142, c9_143, t_144, f_145, e_146, u_147, w_148⟩, ⟨k_149, c9_150, t_151, f_152, e_153, u_154, w_155⟩⟩ : RS ρ ws_99 ty_123 rd krd tp ktp cd bb tl)) (cwV 1 hts gX4_readEither_X4_addCode rfl rfl rfl (by decide +kernel) ⟨Nat.le_of_ble_eq_true rfl, Nat.le_of_ble_eq_true rfl⟩) ⟨fun a U g mk q => by obtain ⟨q0, q1, qP, qK, qD, qS⟩ := q; exact ⟨q0, q1, qP, va_K.moved (u := U) (U := U.calling g mk a) (Vm.Alike.refl U.vm) qK, qD, SZ.same rfl rfl qS⟩, va_recv hK hP (ci := 4) (q0 := krd) rfl er_138, fun U hU hW => ⟨rfl, by rw [hU], by rw [hU]; exact hP, va_K.moved hW.alike hK, hD.weaken (fun _ _ _ _ => trivial), hsz9.go hS hW hU hFc⟩⟩ rfl rfl hl.1 rfl (lv_room (Nat.le_of_ble_eq_true rfl)) dX4_readEither_108 ⟨Nat.le_of_ble_eq_true rfl, Nat.le_of_ble_eq_true rfl⟩) hS (fun q _ h => hFc q h) hFc (fun u t H1 locs ht hvm w_160 hB hz1 hk1 hS => ?_)
    obtain ⟨ws_161, ty_162, hm_163, ht_165, hP1, hK1, hD1, hx_164⟩ := hB
    rw [ht] at hP1
    have hK := va_K.moved hvm.symm hK1
    have hD := hD1.weaken (fun _ _ _ h => hFc _ h)
    generalize H1 = H at hP1 hS ⊢
    have hP := hP1
    obtain ⟨g_167, e_166, h_168⟩ := hm_163.obj er_138
    obtain ⟨z_169, z_170, z_171, z_172, z_173, z_174, rfl⟩ := smX4 h_168
    obtain ⟨g_176, e_175, h_177⟩ := hm_163.obj et_139
    obtain ⟨z_178, z_179, z_180, z_181, rfl⟩ := smX6 h_177
    obtain ⟨f_183, e_182⟩ := hm_163.arrI e_146
    have u_184 := ht_165 _ _ u_147
    obtain ⟨f_186, e_185⟩ := hm_163.arrI e_153
    have u_187 := ht_165 _ _ u_154
    have hsm := hsm.tr (hm_163.mono (by decide))
    have hlp_101 := hlp_101.tr (hm_163.mono (by decide))
    have htx := htx.tr ht_165
    obtain ⟨ts_188, te_189, cc_190, ra_191, rb_192, rc_193, rv_194, re_195, ya_196, h1_197, h2_198, h3_199, h4_200, er_201, et_202, wr_203, wt_204, ⟨k_205, c9_206, t_207, f_208, e_209, u_210, w_211⟩, ⟨k_212, c9_213, t_214, f_215, e_216, u_217, w_218⟩⟩ := id hx_164
    refine lv_iload_n hx hb dX4_readEither_111 rfl (lv_at hl 1 rfl) ?_
    exact W.zret (v := x_94) hx hb hr (by rcases hbx_97 with h9 | h9 <;> rw [h9] <;> rfl) (fun t ht hW => ⟨⟨x_94, (), rfl, hbx_97, ws_161, ty_162, hsm, htx, by rw [ht]; exact hP, va_K.moved hW.alike hK, hD, (⟨ts_188, te_189, cc_190, ra_191, rb_192, rc_193, rv_194, re_195, ya_196, by omega, by omega, by omega, by omega, er_201, et_202, wr_203, wt_204, ⟨k_205, c9_206, t_207, f_208, e_209, u_210, w_211⟩, ⟨k_212, c9_213, t_214, f_215, e_216, u_217, w_218⟩⟩ : RS ρ ws_161 ty_162 rd krd tp ktp cd bb tl)⟩, hS.F ht⟩) hS.2.2 dX4_readEither_112
  have d_219 := n_nle (a := 400) (b := i_93) (by omega) (by omega) c_156
  refine lv_iload_n hx hb dX4_readEither_19 rfl (lv_at hl 1 rfl) ?_
  refine lv_if_eq (tgt := 101) hx hb dX4_readEither_20 (by decide) (fun c_220 => ?_) (fun c_220 => ?_)
  · refine lv_iload_n hx hb dX4_readEither_101 rfl (lv_at hl 2 rfl) ?_
    refine lv_if_eq (tgt := 111) hx hb dX4_readEither_102 (by decide) (fun c_221 => ?_) (fun c_221 => ?_)
    · refine lv_iload_n hx hb dX4_readEither_111 rfl (lv_at hl 1 rfl) ?_
      exact W.zret (v := x_94) hx hb hr (by rcases hbx_97 with h9 | h9 <;> rw [h9] <;> rfl) (fun t ht hW => ⟨⟨x_94, (), rfl, hbx_97, ws_99, ty_123, hsm, htx, by rw [ht]; exact hP, va_K.moved hW.alike hK, hD, (⟨ts_125, te_126, cc_127, ra_128, rb_129, rc_130, rv_131, re_132, ya_133, by omega, by omega, by omega, by omega, er_138, et_139, wr_140, wt_141, ⟨k_142, c9_143, t_144, f_145, e_146, u_147, w_148⟩, ⟨k_149, c9_150, t_151, f_152, e_153, u_154, w_155⟩⟩ : RS ρ ws_99 ty_123 rd krd tp ktp cd bb tl)⟩, hS.F ht⟩) hS.2.2 dX4_readEither_112
    refine lv_aload_n hx hb dX4_readEither_105 rfl (lv_at hl 4 rfl) ?_
    refine lv_bipush (v := (-3)) hx hb dX4_readEither_106 (by decide) ?_
    have hFc := free_all hD hS hA
    refine va_callv (va_runV (As := [.int (-3)]) (rest := []) ⟨hx, hb, hml, hown, hts⟩ (r_addCode l D ρ ws_99 ty_123 adK adV fo rd krd tp ktp cd bb tl (-3) H.size (⟨ts_125, te_126, cc_127, ra_128, rb_129, rc_130, rv_131, re_132, ya_133, by omega, by omega, by omega, by omega, er_138, et_139, wr_140, wt_141, ⟨k_142, c9_143, t_144, f_145, e_146, u_147, w_148⟩, ⟨k_149, c9_150, t_151, f_152, e_153, u_154, w_155⟩⟩ : RS ρ ws_99 ty_123 rd krd tp ktp cd bb tl)) (cwV 1 hts gX4_readEither_X4_addCode rfl rfl rfl (by decide +kernel) ⟨Nat.le_of_ble_eq_true rfl, Nat.le_of_ble_eq_true rfl⟩) ⟨fun a U g mk q => by obtain ⟨q0, q1, qP, qK, qD, qS⟩ := q; exact ⟨q0, q1, qP, va_K.moved (u := U) (U := U.calling g mk a) (Vm.Alike.refl U.vm) qK, qD, SZ.same rfl rfl qS⟩, va_recv hK hP (ci := 4) (q0 := krd) rfl er_138, fun U hU hW => ⟨rfl, by rw [hU], by rw [hU]; exact hP, va_K.moved hW.alike hK, hD.weaken (fun _ _ _ _ => trivial), hsz9.go hS hW hU hFc⟩⟩ rfl rfl hl.1 rfl (lv_room (Nat.le_of_ble_eq_true rfl)) dX4_readEither_108 ⟨Nat.le_of_ble_eq_true rfl, Nat.le_of_ble_eq_true rfl⟩) hS (fun q _ h => hFc q h) hFc (fun u t H1 locs ht hvm w_223 hB hz1 hk1 hS => ?_)
    obtain ⟨ws_224, ty_225, hm_226, ht_228, hP1, hK1, hD1, hx_227⟩ := hB
    rw [ht] at hP1
    have hK := va_K.moved hvm.symm hK1
    have hD := hD1.weaken (fun _ _ _ h => hFc _ h)
    generalize H1 = H at hP1 hS ⊢
    have hP := hP1
    obtain ⟨g_230, e_229, h_231⟩ := hm_226.obj er_138
    obtain ⟨z_232, z_233, z_234, z_235, z_236, z_237, rfl⟩ := smX4 h_231
    obtain ⟨g_239, e_238, h_240⟩ := hm_226.obj et_139
    obtain ⟨z_241, z_242, z_243, z_244, rfl⟩ := smX6 h_240
    obtain ⟨f_246, e_245⟩ := hm_226.arrI e_146
    have u_247 := ht_228 _ _ u_147
    obtain ⟨f_249, e_248⟩ := hm_226.arrI e_153
    have u_250 := ht_228 _ _ u_154
    have hsm := hsm.tr (hm_226.mono (by decide))
    have hlp_101 := hlp_101.tr (hm_226.mono (by decide))
    have htx := htx.tr ht_228
    obtain ⟨ts_251, te_252, cc_253, ra_254, rb_255, rc_256, rv_257, re_258, ya_259, h1_260, h2_261, h3_262, h4_263, er_264, et_265, wr_266, wt_267, ⟨k_268, c9_269, t_270, f_271, e_272, u_273, w_274⟩, ⟨k_275, c9_276, t_277, f_278, e_279, u_280, w_281⟩⟩ := id hx_227
    refine lv_iload_n hx hb dX4_readEither_111 rfl (lv_at hl 1 rfl) ?_
    exact W.zret (v := x_94) hx hb hr (by rcases hbx_97 with h9 | h9 <;> rw [h9] <;> rfl) (fun t ht hW => ⟨⟨x_94, (), rfl, hbx_97, ws_224, ty_225, hsm, htx, by rw [ht]; exact hP, va_K.moved hW.alike hK, hD, (⟨ts_251, te_252, cc_253, ra_254, rb_255, rc_256, rv_257, re_258, ya_259, by omega, by omega, by omega, by omega, er_264, et_265, wr_266, wt_267, ⟨k_268, c9_269, t_270, f_271, e_272, u_273, w_274⟩, ⟨k_275, c9_276, t_277, f_278, e_279, u_280, w_281⟩⟩ : RS ρ ws_224 ty_225 rd krd tp ktp cd bb tl)⟩, hS.F ht⟩) hS.2.2 dX4_readEither_112
  refine lv_aload_n hx hb dX4_readEither_23 rfl (lv_at hl 4 rfl) ?_
  have hFc := free_all hD hS hA
  refine va_calli (va_runV (As := []) (rest := []) ⟨hx, hb, hml, hown, hts⟩ (r_isAndOr l D ρ ws_99 ty_123 adK adV fo rd krd tp ktp cd bb tl  H.size (⟨ts_125, te_126, cc_127, ra_128, rb_129, rc_130, rv_131, re_132, ya_133, by omega, by omega, by omega, by omega, er_138, et_139, wr_140, wt_141, ⟨k_142, c9_143, t_144, f_145, e_146, u_147, w_148⟩, ⟨k_149, c9_150, t_151, f_152, e_153, u_154, w_155⟩⟩ : RS ρ ws_99 ty_123 rd krd tp ktp cd bb tl)) (cwV 0 hts gX4_readEither_X4_isAndOr rfl rfl rfl (by decide +kernel) ⟨Nat.le_of_ble_eq_true rfl, Nat.le_of_ble_eq_true rfl⟩) ⟨fun a U g mk q => by obtain ⟨q0, q1, qP, qK, qD, qS⟩ := q; exact ⟨q0, q1, qP, va_K.moved (u := U) (U := U.calling g mk a) (Vm.Alike.refl U.vm) qK, qD, SZ.same rfl rfl qS⟩, va_recv hK hP (ci := 4) (q0 := krd) rfl er_138, fun U hU hW => ⟨rfl, by rw [hU], by rw [hU]; exact hP, va_K.moved hW.alike hK, hD.weaken (fun _ _ _ _ => trivial), hsz9.go hS hW hU hFc⟩⟩ rfl rfl hl.1 rfl (lv_room (Nat.le_of_ble_eq_true rfl)) dX4_readEither_24 ⟨Nat.le_of_ble_eq_true rfl, Nat.le_of_ble_eq_true rfl⟩) hS (fun q _ h => hFc q h) hFc (fun r_282 u t H1 locs ht hvm w_283 hB hz1 hk1 hS => ?_)
  obtain ⟨ws_284, ty_285, hm_286, ht_288, hP1, hK1, hD1, hx_287⟩ := hB
  rw [ht] at hP1
  have hK := va_K.moved hvm.symm hK1
  have hD := hD1.weaken (fun _ _ _ h => hFc _ h)
  generalize H1 = H at hP1 hS ⊢
  have hP := hP1
  have e_289 := hm_286.objK er_138 (by decide)
  have e_290 := hm_286.objK et_139 (by decide)
  obtain ⟨f_292, e_291⟩ := hm_286.arrI e_146
  have u_293 := ht_288 _ _ u_147
  obtain ⟨f_295, e_294⟩ := hm_286.arrI e_153
  have u_296 := ht_288 _ _ u_154
  have hsm := hsm.tr (hm_286.mono (by decide))
  have hlp_101 := hlp_101.tr (hm_286.mono (by decide))
  have htx := htx.tr ht_288
  rcases w_283 with rfl | rfl
  · refine lv_if_eq (tgt := 101) hx hb dX4_readEither_27 (by decide) (fun c_297 => ?_) (fun c_297 => absurd (by decide) c_297)
    refine lv_iload_n hx hb dX4_readEither_101 rfl (lv_at hl 2 rfl) ?_
    refine lv_if_eq (tgt := 111) hx hb dX4_readEither_102 (by decide) (fun c_298 => ?_) (fun c_298 => ?_)
    · refine lv_iload_n hx hb dX4_readEither_111 rfl (lv_at hl 1 rfl) ?_
      exact W.zret (v := x_94) hx hb hr (by rcases hbx_97 with h9 | h9 <;> rw [h9] <;> rfl) (fun t ht hW => ⟨⟨x_94, (), rfl, hbx_97, ws_284, ty_285, hsm, htx, by rw [ht]; exact hP, va_K.moved hW.alike hK, hD, (⟨ts_125, te_126, cc_127, ra_128, rb_129, rc_130, rv_131, re_132, ya_133, by omega, by omega, by omega, by omega, e_289, e_290, wr_140, wt_141, ⟨k_142, c9_143, t_144, f_292, e_291, u_293, w_148⟩, ⟨k_149, c9_150, t_151, f_295, e_294, u_296, w_155⟩⟩ : RS ρ ws_284 ty_285 rd krd tp ktp cd bb tl)⟩, hS.F ht⟩) hS.2.2 dX4_readEither_112
    refine lv_aload_n hx hb dX4_readEither_105 rfl (lv_at hl 4 rfl) ?_
    refine lv_bipush (v := (-3)) hx hb dX4_readEither_106 (by decide) ?_
    have hFc := free_all hD hS hA
    refine va_callv (va_runV (As := [.int (-3)]) (rest := []) ⟨hx, hb, hml, hown, hts⟩ (r_addCode l D ρ ws_284 ty_285 adK adV fo rd krd tp ktp cd bb tl (-3) H.size (⟨ts_125, te_126, cc_127, ra_128, rb_129, rc_130, rv_131, re_132, ya_133, by omega, by omega, by omega, by omega, e_289, e_290, wr_140, wt_141, ⟨k_142, c9_143, t_144, f_292, e_291, u_293, w_148⟩, ⟨k_149, c9_150, t_151, f_295, e_294, u_296, w_155⟩⟩ : RS ρ ws_284 ty_285 rd krd tp ktp cd bb tl)) (cwV 1 hts gX4_readEither_X4_addCode rfl rfl rfl (by decide +kernel) ⟨Nat.le_of_ble_eq_true rfl, Nat.le_of_ble_eq_true rfl⟩) ⟨fun a U g mk q => by obtain ⟨q0, q1, qP, qK, qD, qS⟩ := q; exact ⟨q0, q1, qP, va_K.moved (u := U) (U := U.calling g mk a) (Vm.Alike.refl U.vm) qK, qD, SZ.same rfl rfl qS⟩, va_recv hK hP (ci := 4) (q0 := krd) rfl e_289, fun U hU hW => ⟨rfl, by rw [hU], by rw [hU]; exact hP, va_K.moved hW.alike hK, hD.weaken (fun _ _ _ _ => trivial), hsz9.go hS hW hU hFc⟩⟩ rfl rfl hl.1 rfl (lv_room (Nat.le_of_ble_eq_true rfl)) dX4_readEither_108 ⟨Nat.le_of_ble_eq_true rfl, Nat.le_of_ble_eq_true rfl⟩) hS (fun q _ h => hFc q h) hFc (fun u t H1 locs ht hvm w_300 hB hz1 hk1 hS => ?_)
    obtain ⟨ws_301, ty_302, hm_303, ht_305, hP1, hK1, hD1, hx_304⟩ := hB
    rw [ht] at hP1
    have hK := va_K.moved hvm.symm hK1
    have hD := hD1.weaken (fun _ _ _ h => hFc _ h)
    generalize H1 = H at hP1 hS ⊢
    have hP := hP1
    obtain ⟨g_307, e_306, h_308⟩ := hm_303.obj e_289
    obtain ⟨z_309, z_310, z_311, z_312, z_313, z_314, rfl⟩ := smX4 h_308
    obtain ⟨g_316, e_315, h_317⟩ := hm_303.obj e_290
    obtain ⟨z_318, z_319, z_320, z_321, rfl⟩ := smX6 h_317
    obtain ⟨f_323, e_322⟩ := hm_303.arrI e_291
    have u_324 := ht_305 _ _ u_293
    obtain ⟨f_326, e_325⟩ := hm_303.arrI e_294
    have u_327 := ht_305 _ _ u_296
    have hsm := hsm.tr (hm_303.mono (by decide))
    have hlp_101 := hlp_101.tr (hm_303.mono (by decide))
    have htx := htx.tr ht_305
    obtain ⟨ts_328, te_329, cc_330, ra_331, rb_332, rc_333, rv_334, re_335, ya_336, h1_337, h2_338, h3_339, h4_340, er_341, et_342, wr_343, wt_344, ⟨k_345, c9_346, t_347, f_348, e_349, u_350, w_351⟩, ⟨k_352, c9_353, t_354, f_355, e_356, u_357, w_358⟩⟩ := id hx_304
    refine lv_iload_n hx hb dX4_readEither_111 rfl (lv_at hl 1 rfl) ?_
    exact W.zret (v := x_94) hx hb hr (by rcases hbx_97 with h9 | h9 <;> rw [h9] <;> rfl) (fun t ht hW => ⟨⟨x_94, (), rfl, hbx_97, ws_301, ty_302, hsm, htx, by rw [ht]; exact hP, va_K.moved hW.alike hK, hD, (⟨ts_328, te_329, cc_330, ra_331, rb_332, rc_333, rv_334, re_335, ya_336, by omega, by omega, by omega, by omega, er_341, et_342, wr_343, wt_344, ⟨k_345, c9_346, t_347, f_348, e_349, u_350, w_351⟩, ⟨k_352, c9_353, t_354, f_355, e_356, u_357, w_358⟩⟩ : RS ρ ws_301 ty_302 rd krd tp ktp cd bb tl)⟩, hS.F ht⟩) hS.2.2 dX4_readEither_112
  refine lv_if_eq (tgt := 101) hx hb dX4_readEither_27 (by decide) (fun c_359 => absurd c_359 (by decide)) (fun c_359 => ?_)
  refine lv_aload_n hx hb dX4_readEither_30 rfl (lv_at hl 4 rfl) ?_
  refine va_get (D := D) (ci := 4) (v := .ref tp) (C := RX4) (T := TX4) (N := 8) hx hb hts hin4 hown hK hP krd e_289 rfl 0 (by decide) (hts (.fieldLink RX4 12 "HoneyHouse$RuleReader" "tape" "LHoneyHouse$Tape;") (List.mem_of_getElem? (i := 1) rfl)) (fun _ h9 => h9) rfl dX4_readEither_31 ?_
  refine va_ldcS hx hb hown hsz9.2.2.2.2.2.1 dX4_readEither_34 ?_
  have hFc := free_all hD hS hA
  refine va_calli (va_runV (As := [.ref (adK 2)]) (rest := []) ⟨hx, hb, hml, hown, hts⟩ (a_isWord l D ρ ws_284 ty_285 adK adV fo 2 tp ktp tl ya_133 (nI ts_125) (nI te_126) bb k_149 c9_150 t_151 f_295 H.size (by decide) e_290 e_294 u_296) (cwV 1 hts gX4_readEither_X6_isWord rfl rfl rfl (by decide +kernel) ⟨Nat.le_of_ble_eq_true rfl, Nat.le_of_ble_eq_true rfl⟩) ⟨fun a U g mk q => by obtain ⟨q0, q1, qP, qK, qD, qS⟩ := q; exact ⟨q0, q1, qP, va_K.moved (u := U) (U := U.calling g mk a) (Vm.Alike.refl U.vm) qK, qD, SZ.same rfl rfl qS⟩, va_recv hK hP (ci := 6) (q0 := ktp) rfl e_290, fun U hU hW => ⟨rfl, by rw [hU], by rw [hU]; exact hP, va_K.moved hW.alike hK, hD.weaken (fun _ _ _ _ => trivial), hsz9.go hS hW hU hFc⟩⟩ rfl rfl hl.1 rfl (lv_room (Nat.le_of_ble_eq_true rfl)) dX4_readEither_36 ⟨Nat.le_of_ble_eq_true rfl, Nat.le_of_ble_eq_true rfl⟩) hS (fun q _ h => hFc q h) hFc (fun r_360 u t H1 locs ht hvm w_361 hB hz1 hk1 hS => ?_)
  obtain ⟨ws_362, ty_363, hm_364, ht_366, hP1, hK1, hD1, hx_365⟩ := hB
  rw [ht] at hP1
  have hK := va_K.moved hvm.symm hK1
  have hD := hD1.weaken (fun _ _ _ h => hFc _ h)
  generalize H1 = H at hP1 hS ⊢
  have hP := hP1
  have e_367 := hm_364.objK e_289 (by decide)
  have e_368 := hm_364.objK e_290 (by decide)
  obtain ⟨f_370, e_369⟩ := hm_364.arrI e_291
  have u_371 := ht_366 _ _ u_293
  obtain ⟨f_373, e_372⟩ := hm_364.arrI e_294
  have u_374 := ht_366 _ _ u_296
  have hsm := hsm.tr (hm_364.mono (by decide))
  have hlp_101 := hlp_101.tr (hm_364.mono (by decide))
  have htx := htx.tr ht_366
  rcases w_361 with rfl | rfl
  · refine lv_istore (lv' := [(5, .int 0), (4, .int (nI i_93)), (2, .int x_94), (3, .int y_95), (1, .int 2), (0, .ref rd)]) hx hb dX4_readEither_39 hl (by decide) rfl (fun ls hl => ?_)
    refine lv_iload hx hb dX4_readEither_41 (lv_at hl 0 rfl) ?_
    refine lv_if_ne (tgt := 56) hx hb dX4_readEither_43 (by decide) (fun c_375 => absurd (by decide) c_375) (fun c_375 => ?_)
    refine lv_iload_n hx hb dX4_readEither_46 rfl (lv_at hl 3 rfl) ?_
    refine lv_if_eq (tgt := 56) hx hb dX4_readEither_47 (by decide) (fun c_376 => ?_) (fun c_376 => ?_)
    · refine lv_iload_n hx hb dX4_readEither_56 rfl (lv_at hl 3 rfl) ?_
      refine lv_if_ne (tgt := 65) hx hb dX4_readEither_57 (by decide) (fun c_377 => ?_) (fun c_377 => ?_)
      · refine lv_iconst (v := 1) hx hb dX4_readEither_65 (by decide) ?_
        refine lv_goto (tgt := 70) hx hb dX4_readEither_66 (by decide) ?_
        refine lv_istore_n (lv' := [(3, .int 1), (5, .int 0), (4, .int (nI i_93)), (2, .int x_94), (1, .int 2), (0, .ref rd)]) hx hb dX4_readEither_70 rfl hl (by decide) rfl (fun ls hl => ?_)
        refine lv_aload_n hx hb dX4_readEither_71 rfl (lv_at hl 5 rfl) ?_
        refine va_get (D := D) (ci := 4) (v := .ref tp) (C := RX4) (T := TX4) (N := 8) hx hb hts hin4 hown hK hP krd e_367 rfl 0 (by decide) (hts (.fieldLink RX4 12 "HoneyHouse$RuleReader" "tape" "LHoneyHouse$Tape;") (List.mem_of_getElem? (i := 1) rfl)) (fun _ h9 => h9) rfl dX4_readEither_72 ?_
        have hFc := free_all hD hS hA
        refine va_callv (va_runV (As := []) (rest := []) ⟨hx, hb, hml, hown, hts⟩ (a_advance l D ρ ws_362 ty_363 tp ktp tl te_126 ya_133 (nI ts_125) bb k_149 c9_150 t_151 f_373 H.size (by omega) (by omega) e_368 e_372 u_374 wt_141) (cwV 0 hts gX4_readEither_X6_advance rfl rfl rfl (by decide +kernel) ⟨Nat.le_of_ble_eq_true rfl, Nat.le_of_ble_eq_true rfl⟩) ⟨fun a U g mk q => by obtain ⟨q0, q1, qP, qK, qD⟩ := q; exact ⟨q0, q1, qP, va_K.moved (u := U) (U := U.calling g mk a) (Vm.Alike.refl U.vm) qK, qD⟩, va_recv hK hP (ci := 6) (q0 := ktp) rfl e_368, fun U hU hW => ⟨rfl, by rw [hU], by rw [hU]; exact hP, va_K.moved hW.alike hK, hD.weaken (fun _ _ _ _ => trivial)⟩⟩ rfl rfl hl.1 rfl (lv_room (Nat.le_of_ble_eq_true rfl)) dX4_readEither_75 ⟨Nat.le_of_ble_eq_true rfl, Nat.le_of_ble_eq_true rfl⟩) hS (fun q _ h => hFc q h) hFc (fun u t H1 locs ht hvm w_379 hB hz1 hk1 hS => ?_)
        obtain ⟨ws_380, ty_381, hm_382, ht_384, hP1, hK1, hD1, hx_383⟩ := hB
        rw [ht] at hP1
        have hK := va_K.moved hvm.symm hK1
        have hD := hD1.weaken (fun _ _ _ h => hFc _ h)
        generalize H1 = H at hP1 hS ⊢
        have hP := hP1
        have e_385 := hm_382.objK e_367 (by decide)
        obtain ⟨g_387, e_386, h_388⟩ := hm_382.obj e_368
        obtain ⟨z_389, z_390, z_391, z_392, rfl⟩ := smX6 h_388
        obtain ⟨f_394, e_393⟩ := hm_382.arrI e_369
        have u_395 := ht_384 _ _ u_371
        obtain ⟨f_397, e_396⟩ := hm_382.arrI e_372
        have u_398 := ht_384 _ _ u_374
        have hsm := hsm.tr (hm_382.mono (by decide))
        have hlp_101 := hlp_101.tr (hm_382.mono (by decide))
        have htx := htx.tr ht_384
        obtain ⟨k_399, s_400, e_401, h_402, h_403, h_404, e_405⟩ := hx_383
        refine lv_aload_n hx hb dX4_readEither_78 rfl (lv_at hl 5 rfl) ?_
        refine lv_iload_n hx hb dX4_readEither_79 rfl (lv_at hl 4 rfl) ?_
        have hFc := free_all hD hS hA
        refine va_calli (va_runV (As := [.int 2]) (rest := []) ⟨hx, hb, hml, hown, hts⟩ (r_readOne2 l D ρ ws_380 ty_381 adK adV fo rd krd tp ktp cd bb tl  H.size (⟨s_400, e_401, cc_127, ra_128, rb_129, rc_130, rv_131, re_132, nI k_399, by omega, by omega, by omega, by omega, e_385, e_405, wr_140, wt_141, ⟨k_142, c9_143, t_144, f_394, e_393, u_395, w_148⟩, ⟨k_149, c9_150, t_151, f_397, e_396, u_398, w_155⟩⟩ : RS ρ ws_380 ty_381 rd krd tp ktp cd bb tl)) (cwV 1 hts gX4_readEither_X4_readOne rfl rfl rfl (by decide +kernel) ⟨Nat.le_of_ble_eq_true rfl, Nat.le_of_ble_eq_true rfl⟩) ⟨fun a U g mk q => by obtain ⟨q0, q1, qP, qK, qD, qS⟩ := q; exact ⟨q0, q1, qP, va_K.moved (u := U) (U := U.calling g mk a) (Vm.Alike.refl U.vm) qK, qD, SZ.same rfl rfl qS⟩, va_recv hK hP (ci := 4) (q0 := krd) rfl e_385, fun U hU hW => ⟨rfl, by rw [hU], by rw [hU]; exact hP, va_K.moved hW.alike hK, hD.weaken (fun _ _ _ _ => trivial), hsz9.go hS hW hU hFc⟩⟩ rfl rfl hl.1 rfl (lv_room (Nat.le_of_ble_eq_true rfl)) dX4_readEither_80 ⟨Nat.le_of_ble_eq_true rfl, Nat.le_of_ble_eq_true rfl⟩) hS (fun q _ h => hFc q h) hFc (fun r_406 u t H1 locs ht hvm w_407 hB hz1 hk1 hS => ?_)
        obtain ⟨ws_408, ty_409, hm_410, ht_412, hP1, hK1, hD1, hx_411⟩ := hB
        rw [ht] at hP1
        have hK := va_K.moved hvm.symm hK1
        have hD := hD1.weaken (fun _ _ _ h => hFc _ h)
        generalize H1 = H at hP1 hS ⊢
        have hP := hP1
        obtain ⟨g_414, e_413, h_415⟩ := hm_410.obj e_385
        obtain ⟨z_416, z_417, z_418, z_419, z_420, z_421, rfl⟩ := smX4 h_415
        obtain ⟨g_423, e_422, h_424⟩ := hm_410.obj e_405
        obtain ⟨z_425, z_426, z_427, z_428, rfl⟩ := smX6 h_424
        obtain ⟨f_430, e_429⟩ := hm_410.arrI e_393
        have u_431 := ht_412 _ _ u_395
        obtain ⟨f_433, e_432⟩ := hm_410.arrI e_396
        have u_434 := ht_412 _ _ u_398
        have hsm := hsm.tr (hm_410.mono (by decide))
        have hlp_101 := hlp_101.tr (hm_410.mono (by decide))
        have htx := htx.tr ht_412
        obtain ⟨ts_435, te_436, cc_437, ra_438, rb_439, rc_440, rv_441, re_442, ya_443, h1_444, h2_445, h3_446, h4_447, er_448, et_449, wr_450, wt_451, ⟨k_452, c9_453, t_454, f_455, e_456, u_457, w_458⟩, ⟨k_459, c9_460, t_461, f_462, e_463, u_464, w_465⟩⟩ := id hx_411
        refine lv_istore_n (lv' := [(2, .int r_406), (3, .int 1), (5, .int 0), (4, .int (nI i_93)), (1, .int 2), (0, .ref rd)]) hx hb dX4_readEither_83 rfl hl (by decide) rfl (fun ls hl => ?_)
        refine lv_iload hx hb dX4_readEither_84 (lv_at hl 2 rfl) ?_
        refine lv_if_eq (tgt := 95) hx hb dX4_readEither_86 (by decide) (fun c_466 => ?_) (fun c_466 => absurd (by decide) c_466)
        refine lv_iinc (v := nI (i_93 + 1)) (lv' := [(4, .int (nI (i_93 + 1))), (2, .int r_406), (3, .int 1), (5, .int 0), (1, .int 2), (0, .ref rd)]) hx hb dX4_readEither_95 hl (k := 3) rfl (nI_add i_93 1) (by decide) rfl (fun ls hl => ?_)
        refine lv_goto (tgt := 11) hx hb dX4_readEither_98 (by decide) ?_
        exact ih_92 (i_93 + 1, r_406, 1) ws_408 _ _ ls (by show 400 - (i_93 + 1) < 400 - i_93; omega) ⟨hlp_101, ⟨ty_409, hK, htx, (⟨ts_435, te_436, cc_437, ra_438, rb_439, rc_440, rv_441, re_442, ya_443, by omega, by omega, by omega, by omega, er_448, et_449, wr_450, wt_451, ⟨k_452, c9_453, t_454, f_455, e_456, u_457, w_458⟩, ⟨k_459, c9_460, t_461, f_462, e_463, u_464, w_465⟩⟩ : RS ρ ws_408 ty_409 rd krd tp ktp cd bb tl)⟩, (show (i_93 + 1) ≤ 400 from by omega), (show r_406 = 0 ∨ r_406 = 1 from w_407), (show 1 = 0 ∨ 1 = 1 from Or.inr rfl)⟩ hP hD hS (lv_sub hl [0, 1, 2, 4, 5] rfl)
      refine lv_iload hx hb dX4_readEither_60 (lv_at hl 0 rfl) ?_
      refine lv_if_ne (tgt := 69) hx hb dX4_readEither_62 (by decide) (fun c_467 => absurd (by decide) c_467) (fun c_467 => ?_)
      refine lv_iconst (v := 1) hx hb dX4_readEither_65 (by decide) ?_
      refine lv_goto (tgt := 70) hx hb dX4_readEither_66 (by decide) ?_
      refine lv_istore_n (lv' := [(3, .int 1), (5, .int 0), (4, .int (nI i_93)), (2, .int x_94), (1, .int 2), (0, .ref rd)]) hx hb dX4_readEither_70 rfl hl (by decide) rfl (fun ls hl => ?_)
      refine lv_aload_n hx hb dX4_readEither_71 rfl (lv_at hl 5 rfl) ?_
      refine va_get (D := D) (ci := 4) (v := .ref tp) (C := RX4) (T := TX4) (N := 8) hx hb hts hin4 hown hK hP krd e_367 rfl 0 (by decide) (hts (.fieldLink RX4 12 "HoneyHouse$RuleReader" "tape" "LHoneyHouse$Tape;") (List.mem_of_getElem? (i := 1) rfl)) (fun _ h9 => h9) rfl dX4_readEither_72 ?_
      have hFc := free_all hD hS hA
      refine va_callv (va_runV (As := []) (rest := []) ⟨hx, hb, hml, hown, hts⟩ (a_advance l D ρ ws_362 ty_363 tp ktp tl te_126 ya_133 (nI ts_125) bb k_149 c9_150 t_151 f_373 H.size (by omega) (by omega) e_368 e_372 u_374 wt_141) (cwV 0 hts gX4_readEither_X6_advance rfl rfl rfl (by decide +kernel) ⟨Nat.le_of_ble_eq_true rfl, Nat.le_of_ble_eq_true rfl⟩) ⟨fun a U g mk q => by obtain ⟨q0, q1, qP, qK, qD⟩ := q; exact ⟨q0, q1, qP, va_K.moved (u := U) (U := U.calling g mk a) (Vm.Alike.refl U.vm) qK, qD⟩, va_recv hK hP (ci := 6) (q0 := ktp) rfl e_368, fun U hU hW => ⟨rfl, by rw [hU], by rw [hU]; exact hP, va_K.moved hW.alike hK, hD.weaken (fun _ _ _ _ => trivial)⟩⟩ rfl rfl hl.1 rfl (lv_room (Nat.le_of_ble_eq_true rfl)) dX4_readEither_75 ⟨Nat.le_of_ble_eq_true rfl, Nat.le_of_ble_eq_true rfl⟩) hS (fun q _ h => hFc q h) hFc (fun u t H1 locs ht hvm w_469 hB hz1 hk1 hS => ?_)
      obtain ⟨ws_470, ty_471, hm_472, ht_474, hP1, hK1, hD1, hx_473⟩ := hB
      rw [ht] at hP1
      have hK := va_K.moved hvm.symm hK1
      have hD := hD1.weaken (fun _ _ _ h => hFc _ h)
      generalize H1 = H at hP1 hS ⊢
      have hP := hP1
      have e_475 := hm_472.objK e_367 (by decide)
      obtain ⟨g_477, e_476, h_478⟩ := hm_472.obj e_368
      obtain ⟨z_479, z_480, z_481, z_482, rfl⟩ := smX6 h_478
      obtain ⟨f_484, e_483⟩ := hm_472.arrI e_369
      have u_485 := ht_474 _ _ u_371
      obtain ⟨f_487, e_486⟩ := hm_472.arrI e_372
      have u_488 := ht_474 _ _ u_374
      have hsm := hsm.tr (hm_472.mono (by decide))
      have hlp_101 := hlp_101.tr (hm_472.mono (by decide))
      have htx := htx.tr ht_474
      obtain ⟨k_489, s_490, e_491, h_492, h_493, h_494, e_495⟩ := hx_473
      refine lv_aload_n hx hb dX4_readEither_78 rfl (lv_at hl 5 rfl) ?_
      refine lv_iload_n hx hb dX4_readEither_79 rfl (lv_at hl 4 rfl) ?_
      have hFc := free_all hD hS hA
      refine va_calli (va_runV (As := [.int 2]) (rest := []) ⟨hx, hb, hml, hown, hts⟩ (r_readOne2 l D ρ ws_470 ty_471 adK adV fo rd krd tp ktp cd bb tl  H.size (⟨s_490, e_491, cc_127, ra_128, rb_129, rc_130, rv_131, re_132, nI k_489, by omega, by omega, by omega, by omega, e_475, e_495, wr_140, wt_141, ⟨k_142, c9_143, t_144, f_484, e_483, u_485, w_148⟩, ⟨k_149, c9_150, t_151, f_487, e_486, u_488, w_155⟩⟩ : RS ρ ws_470 ty_471 rd krd tp ktp cd bb tl)) (cwV 1 hts gX4_readEither_X4_readOne rfl rfl rfl (by decide +kernel) ⟨Nat.le_of_ble_eq_true rfl, Nat.le_of_ble_eq_true rfl⟩) ⟨fun a U g mk q => by obtain ⟨q0, q1, qP, qK, qD, qS⟩ := q; exact ⟨q0, q1, qP, va_K.moved (u := U) (U := U.calling g mk a) (Vm.Alike.refl U.vm) qK, qD, SZ.same rfl rfl qS⟩, va_recv hK hP (ci := 4) (q0 := krd) rfl e_475, fun U hU hW => ⟨rfl, by rw [hU], by rw [hU]; exact hP, va_K.moved hW.alike hK, hD.weaken (fun _ _ _ _ => trivial), hsz9.go hS hW hU hFc⟩⟩ rfl rfl hl.1 rfl (lv_room (Nat.le_of_ble_eq_true rfl)) dX4_readEither_80 ⟨Nat.le_of_ble_eq_true rfl, Nat.le_of_ble_eq_true rfl⟩) hS (fun q _ h => hFc q h) hFc (fun r_496 u t H1 locs ht hvm w_497 hB hz1 hk1 hS => ?_)
      obtain ⟨ws_498, ty_499, hm_500, ht_502, hP1, hK1, hD1, hx_501⟩ := hB
      rw [ht] at hP1
      have hK := va_K.moved hvm.symm hK1
      have hD := hD1.weaken (fun _ _ _ h => hFc _ h)
      generalize H1 = H at hP1 hS ⊢
      have hP := hP1
      obtain ⟨g_504, e_503, h_505⟩ := hm_500.obj e_475
      obtain ⟨z_506, z_507, z_508, z_509, z_510, z_511, rfl⟩ := smX4 h_505
      obtain ⟨g_513, e_512, h_514⟩ := hm_500.obj e_495
      obtain ⟨z_515, z_516, z_517, z_518, rfl⟩ := smX6 h_514
      obtain ⟨f_520, e_519⟩ := hm_500.arrI e_483
      have u_521 := ht_502 _ _ u_485
      obtain ⟨f_523, e_522⟩ := hm_500.arrI e_486
      have u_524 := ht_502 _ _ u_488
      have hsm := hsm.tr (hm_500.mono (by decide))
      have hlp_101 := hlp_101.tr (hm_500.mono (by decide))
      have htx := htx.tr ht_502
      obtain ⟨ts_525, te_526, cc_527, ra_528, rb_529, rc_530, rv_531, re_532, ya_533, h1_534, h2_535, h3_536, h4_537, er_538, et_539, wr_540, wt_541, ⟨k_542, c9_543, t_544, f_545, e_546, u_547, w_548⟩, ⟨k_549, c9_550, t_551, f_552, e_553, u_554, w_555⟩⟩ := id hx_501
      refine lv_istore_n (lv' := [(2, .int r_496), (3, .int 1), (5, .int 0), (4, .int (nI i_93)), (1, .int 2), (0, .ref rd)]) hx hb dX4_readEither_83 rfl hl (by decide) rfl (fun ls hl => ?_)
      refine lv_iload hx hb dX4_readEither_84 (lv_at hl 2 rfl) ?_
      refine lv_if_eq (tgt := 95) hx hb dX4_readEither_86 (by decide) (fun c_556 => ?_) (fun c_556 => absurd (by decide) c_556)
      refine lv_iinc (v := nI (i_93 + 1)) (lv' := [(4, .int (nI (i_93 + 1))), (2, .int r_496), (3, .int 1), (5, .int 0), (1, .int 2), (0, .ref rd)]) hx hb dX4_readEither_95 hl (k := 3) rfl (nI_add i_93 1) (by decide) rfl (fun ls hl => ?_)
      refine lv_goto (tgt := 11) hx hb dX4_readEither_98 (by decide) ?_
      exact ih_92 (i_93 + 1, r_496, 1) ws_498 _ _ ls (by show 400 - (i_93 + 1) < 400 - i_93; omega) ⟨hlp_101, ⟨ty_499, hK, htx, (⟨ts_525, te_526, cc_527, ra_528, rb_529, rc_530, rv_531, re_532, ya_533, by omega, by omega, by omega, by omega, er_538, et_539, wr_540, wt_541, ⟨k_542, c9_543, t_544, f_545, e_546, u_547, w_548⟩, ⟨k_549, c9_550, t_551, f_552, e_553, u_554, w_555⟩⟩ : RS ρ ws_498 ty_499 rd krd tp ktp cd bb tl)⟩, (show (i_93 + 1) ≤ 400 from by omega), (show r_496 = 0 ∨ r_496 = 1 from w_497), (show 1 = 0 ∨ 1 = 1 from Or.inr rfl)⟩ hP hD hS (lv_sub hl [0, 1, 2, 4, 5] rfl)
    refine lv_aload_n hx hb dX4_readEither_50 rfl (lv_at hl 5 rfl) ?_
    refine lv_bipush (v := (-3)) hx hb dX4_readEither_51 (by decide) ?_
    have hFc := free_all hD hS hA
    refine va_callv (va_runV (As := [.int (-3)]) (rest := []) ⟨hx, hb, hml, hown, hts⟩ (r_addCode l D ρ ws_362 ty_363 adK adV fo rd krd tp ktp cd bb tl (-3) H.size (⟨ts_125, te_126, cc_127, ra_128, rb_129, rc_130, rv_131, re_132, ya_133, by omega, by omega, by omega, by omega, e_367, e_368, wr_140, wt_141, ⟨k_142, c9_143, t_144, f_370, e_369, u_371, w_148⟩, ⟨k_149, c9_150, t_151, f_373, e_372, u_374, w_155⟩⟩ : RS ρ ws_362 ty_363 rd krd tp ktp cd bb tl)) (cwV 1 hts gX4_readEither_X4_addCode rfl rfl rfl (by decide +kernel) ⟨Nat.le_of_ble_eq_true rfl, Nat.le_of_ble_eq_true rfl⟩) ⟨fun a U g mk q => by obtain ⟨q0, q1, qP, qK, qD, qS⟩ := q; exact ⟨q0, q1, qP, va_K.moved (u := U) (U := U.calling g mk a) (Vm.Alike.refl U.vm) qK, qD, SZ.same rfl rfl qS⟩, va_recv hK hP (ci := 4) (q0 := krd) rfl e_367, fun U hU hW => ⟨rfl, by rw [hU], by rw [hU]; exact hP, va_K.moved hW.alike hK, hD.weaken (fun _ _ _ _ => trivial), hsz9.go hS hW hU hFc⟩⟩ rfl rfl hl.1 rfl (lv_room (Nat.le_of_ble_eq_true rfl)) dX4_readEither_53 ⟨Nat.le_of_ble_eq_true rfl, Nat.le_of_ble_eq_true rfl⟩) hS (fun q _ h => hFc q h) hFc (fun u t H1 locs ht hvm w_558 hB hz1 hk1 hS => ?_)
    obtain ⟨ws_559, ty_560, hm_561, ht_563, hP1, hK1, hD1, hx_562⟩ := hB
    rw [ht] at hP1
    have hK := va_K.moved hvm.symm hK1
    have hD := hD1.weaken (fun _ _ _ h => hFc _ h)
    generalize H1 = H at hP1 hS ⊢
    have hP := hP1
    obtain ⟨g_565, e_564, h_566⟩ := hm_561.obj e_367
    obtain ⟨z_567, z_568, z_569, z_570, z_571, z_572, rfl⟩ := smX4 h_566
    obtain ⟨g_574, e_573, h_575⟩ := hm_561.obj e_368
    obtain ⟨z_576, z_577, z_578, z_579, rfl⟩ := smX6 h_575
    obtain ⟨f_581, e_580⟩ := hm_561.arrI e_369
    have u_582 := ht_563 _ _ u_371
    obtain ⟨f_584, e_583⟩ := hm_561.arrI e_372
    have u_585 := ht_563 _ _ u_374
    have hsm := hsm.tr (hm_561.mono (by decide))
    have hlp_101 := hlp_101.tr (hm_561.mono (by decide))
    have htx := htx.tr ht_563
    obtain ⟨ts_586, te_587, cc_588, ra_589, rb_590, rc_591, rv_592, re_593, ya_594, h1_595, h2_596, h3_597, h4_598, er_599, et_600, wr_601, wt_602, ⟨k_603, c9_604, t_605, f_606, e_607, u_608, w_609⟩, ⟨k_610, c9_611, t_612, f_613, e_614, u_615, w_616⟩⟩ := id hx_562
    refine lv_iload_n hx hb dX4_readEither_56 rfl (lv_at hl 3 rfl) ?_
    refine lv_if_ne (tgt := 65) hx hb dX4_readEither_57 (by decide) (fun c_617 => ?_) (fun c_617 => ?_)
    · refine lv_iconst (v := 1) hx hb dX4_readEither_65 (by decide) ?_
      refine lv_goto (tgt := 70) hx hb dX4_readEither_66 (by decide) ?_
      refine lv_istore_n (lv' := [(3, .int 1), (5, .int 0), (4, .int (nI i_93)), (2, .int x_94), (1, .int 2), (0, .ref rd)]) hx hb dX4_readEither_70 rfl hl (by decide) rfl (fun ls hl => ?_)
      refine lv_aload_n hx hb dX4_readEither_71 rfl (lv_at hl 5 rfl) ?_
      refine va_get (D := D) (ci := 4) (v := .ref tp) (C := RX4) (T := TX4) (N := 8) hx hb hts hin4 hown hK hP krd er_599 rfl 0 (by decide) (hts (.fieldLink RX4 12 "HoneyHouse$RuleReader" "tape" "LHoneyHouse$Tape;") (List.mem_of_getElem? (i := 1) rfl)) (fun _ h9 => h9) rfl dX4_readEither_72 ?_
      have hFc := free_all hD hS hA
      refine va_callv (va_runV (As := []) (rest := []) ⟨hx, hb, hml, hown, hts⟩ (a_advance l D ρ ws_559 ty_560 tp ktp tl te_587 ya_594 (nI ts_586) bb k_610 c9_611 t_612 f_613 H.size (by omega) (by omega) et_600 e_614 u_615 wt_602) (cwV 0 hts gX4_readEither_X6_advance rfl rfl rfl (by decide +kernel) ⟨Nat.le_of_ble_eq_true rfl, Nat.le_of_ble_eq_true rfl⟩) ⟨fun a U g mk q => by obtain ⟨q0, q1, qP, qK, qD⟩ := q; exact ⟨q0, q1, qP, va_K.moved (u := U) (U := U.calling g mk a) (Vm.Alike.refl U.vm) qK, qD⟩, va_recv hK hP (ci := 6) (q0 := ktp) rfl et_600, fun U hU hW => ⟨rfl, by rw [hU], by rw [hU]; exact hP, va_K.moved hW.alike hK, hD.weaken (fun _ _ _ _ => trivial)⟩⟩ rfl rfl hl.1 rfl (lv_room (Nat.le_of_ble_eq_true rfl)) dX4_readEither_75 ⟨Nat.le_of_ble_eq_true rfl, Nat.le_of_ble_eq_true rfl⟩) hS (fun q _ h => hFc q h) hFc (fun u t H1 locs ht hvm w_619 hB hz1 hk1 hS => ?_)
      obtain ⟨ws_620, ty_621, hm_622, ht_624, hP1, hK1, hD1, hx_623⟩ := hB
      rw [ht] at hP1
      have hK := va_K.moved hvm.symm hK1
      have hD := hD1.weaken (fun _ _ _ h => hFc _ h)
      generalize H1 = H at hP1 hS ⊢
      have hP := hP1
      have e_625 := hm_622.objK er_599 (by decide)
      obtain ⟨g_627, e_626, h_628⟩ := hm_622.obj et_600
      obtain ⟨z_629, z_630, z_631, z_632, rfl⟩ := smX6 h_628
      obtain ⟨f_634, e_633⟩ := hm_622.arrI e_607
      have u_635 := ht_624 _ _ u_608
      obtain ⟨f_637, e_636⟩ := hm_622.arrI e_614
      have u_638 := ht_624 _ _ u_615
      have hsm := hsm.tr (hm_622.mono (by decide))
      have hlp_101 := hlp_101.tr (hm_622.mono (by decide))
      have htx := htx.tr ht_624
      obtain ⟨k_639, s_640, e_641, h_642, h_643, h_644, e_645⟩ := hx_623
      refine lv_aload_n hx hb dX4_readEither_78 rfl (lv_at hl 5 rfl) ?_
      refine lv_iload_n hx hb dX4_readEither_79 rfl (lv_at hl 4 rfl) ?_
      have hFc := free_all hD hS hA
      refine va_calli (va_runV (As := [.int 2]) (rest := []) ⟨hx, hb, hml, hown, hts⟩ (r_readOne2 l D ρ ws_620 ty_621 adK adV fo rd krd tp ktp cd bb tl  H.size (⟨s_640, e_641, cc_588, ra_589, rb_590, rc_591, rv_592, re_593, nI k_639, by omega, by omega, by omega, by omega, e_625, e_645, wr_601, wt_602, ⟨k_603, c9_604, t_605, f_634, e_633, u_635, w_609⟩, ⟨k_610, c9_611, t_612, f_637, e_636, u_638, w_616⟩⟩ : RS ρ ws_620 ty_621 rd krd tp ktp cd bb tl)) (cwV 1 hts gX4_readEither_X4_readOne rfl rfl rfl (by decide +kernel) ⟨Nat.le_of_ble_eq_true rfl, Nat.le_of_ble_eq_true rfl⟩) ⟨fun a U g mk q => by obtain ⟨q0, q1, qP, qK, qD, qS⟩ := q; exact ⟨q0, q1, qP, va_K.moved (u := U) (U := U.calling g mk a) (Vm.Alike.refl U.vm) qK, qD, SZ.same rfl rfl qS⟩, va_recv hK hP (ci := 4) (q0 := krd) rfl e_625, fun U hU hW => ⟨rfl, by rw [hU], by rw [hU]; exact hP, va_K.moved hW.alike hK, hD.weaken (fun _ _ _ _ => trivial), hsz9.go hS hW hU hFc⟩⟩ rfl rfl hl.1 rfl (lv_room (Nat.le_of_ble_eq_true rfl)) dX4_readEither_80 ⟨Nat.le_of_ble_eq_true rfl, Nat.le_of_ble_eq_true rfl⟩) hS (fun q _ h => hFc q h) hFc (fun r_646 u t H1 locs ht hvm w_647 hB hz1 hk1 hS => ?_)
      obtain ⟨ws_648, ty_649, hm_650, ht_652, hP1, hK1, hD1, hx_651⟩ := hB
      rw [ht] at hP1
      have hK := va_K.moved hvm.symm hK1
      have hD := hD1.weaken (fun _ _ _ h => hFc _ h)
      generalize H1 = H at hP1 hS ⊢
      have hP := hP1
      obtain ⟨g_654, e_653, h_655⟩ := hm_650.obj e_625
      obtain ⟨z_656, z_657, z_658, z_659, z_660, z_661, rfl⟩ := smX4 h_655
      obtain ⟨g_663, e_662, h_664⟩ := hm_650.obj e_645
      obtain ⟨z_665, z_666, z_667, z_668, rfl⟩ := smX6 h_664
      obtain ⟨f_670, e_669⟩ := hm_650.arrI e_633
      have u_671 := ht_652 _ _ u_635
      obtain ⟨f_673, e_672⟩ := hm_650.arrI e_636
      have u_674 := ht_652 _ _ u_638
      have hsm := hsm.tr (hm_650.mono (by decide))
      have hlp_101 := hlp_101.tr (hm_650.mono (by decide))
      have htx := htx.tr ht_652
      obtain ⟨ts_675, te_676, cc_677, ra_678, rb_679, rc_680, rv_681, re_682, ya_683, h1_684, h2_685, h3_686, h4_687, er_688, et_689, wr_690, wt_691, ⟨k_692, c9_693, t_694, f_695, e_696, u_697, w_698⟩, ⟨k_699, c9_700, t_701, f_702, e_703, u_704, w_705⟩⟩ := id hx_651
      refine lv_istore_n (lv' := [(2, .int r_646), (3, .int 1), (5, .int 0), (4, .int (nI i_93)), (1, .int 2), (0, .ref rd)]) hx hb dX4_readEither_83 rfl hl (by decide) rfl (fun ls hl => ?_)
      refine lv_iload hx hb dX4_readEither_84 (lv_at hl 2 rfl) ?_
      refine lv_if_eq (tgt := 95) hx hb dX4_readEither_86 (by decide) (fun c_706 => ?_) (fun c_706 => absurd (by decide) c_706)
      refine lv_iinc (v := nI (i_93 + 1)) (lv' := [(4, .int (nI (i_93 + 1))), (2, .int r_646), (3, .int 1), (5, .int 0), (1, .int 2), (0, .ref rd)]) hx hb dX4_readEither_95 hl (k := 3) rfl (nI_add i_93 1) (by decide) rfl (fun ls hl => ?_)
      refine lv_goto (tgt := 11) hx hb dX4_readEither_98 (by decide) ?_
      exact ih_92 (i_93 + 1, r_646, 1) ws_648 _ _ ls (by show 400 - (i_93 + 1) < 400 - i_93; omega) ⟨hlp_101, ⟨ty_649, hK, htx, (⟨ts_675, te_676, cc_677, ra_678, rb_679, rc_680, rv_681, re_682, ya_683, by omega, by omega, by omega, by omega, er_688, et_689, wr_690, wt_691, ⟨k_692, c9_693, t_694, f_695, e_696, u_697, w_698⟩, ⟨k_699, c9_700, t_701, f_702, e_703, u_704, w_705⟩⟩ : RS ρ ws_648 ty_649 rd krd tp ktp cd bb tl)⟩, (show (i_93 + 1) ≤ 400 from by omega), (show r_646 = 0 ∨ r_646 = 1 from w_647), (show 1 = 0 ∨ 1 = 1 from Or.inr rfl)⟩ hP hD hS (lv_sub hl [0, 1, 2, 4, 5] rfl)
    refine lv_iload hx hb dX4_readEither_60 (lv_at hl 0 rfl) ?_
    refine lv_if_ne (tgt := 69) hx hb dX4_readEither_62 (by decide) (fun c_707 => absurd (by decide) c_707) (fun c_707 => ?_)
    refine lv_iconst (v := 1) hx hb dX4_readEither_65 (by decide) ?_
    refine lv_goto (tgt := 70) hx hb dX4_readEither_66 (by decide) ?_
    refine lv_istore_n (lv' := [(3, .int 1), (5, .int 0), (4, .int (nI i_93)), (2, .int x_94), (1, .int 2), (0, .ref rd)]) hx hb dX4_readEither_70 rfl hl (by decide) rfl (fun ls hl => ?_)
    refine lv_aload_n hx hb dX4_readEither_71 rfl (lv_at hl 5 rfl) ?_
    refine va_get (D := D) (ci := 4) (v := .ref tp) (C := RX4) (T := TX4) (N := 8) hx hb hts hin4 hown hK hP krd er_599 rfl 0 (by decide) (hts (.fieldLink RX4 12 "HoneyHouse$RuleReader" "tape" "LHoneyHouse$Tape;") (List.mem_of_getElem? (i := 1) rfl)) (fun _ h9 => h9) rfl dX4_readEither_72 ?_
    have hFc := free_all hD hS hA
    refine va_callv (va_runV (As := []) (rest := []) ⟨hx, hb, hml, hown, hts⟩ (a_advance l D ρ ws_559 ty_560 tp ktp tl te_587 ya_594 (nI ts_586) bb k_610 c9_611 t_612 f_613 H.size (by omega) (by omega) et_600 e_614 u_615 wt_602) (cwV 0 hts gX4_readEither_X6_advance rfl rfl rfl (by decide +kernel) ⟨Nat.le_of_ble_eq_true rfl, Nat.le_of_ble_eq_true rfl⟩) ⟨fun a U g mk q => by obtain ⟨q0, q1, qP, qK, qD⟩ := q; exact ⟨q0, q1, qP, va_K.moved (u := U) (U := U.calling g mk a) (Vm.Alike.refl U.vm) qK, qD⟩, va_recv hK hP (ci := 6) (q0 := ktp) rfl et_600, fun U hU hW => ⟨rfl, by rw [hU], by rw [hU]; exact hP, va_K.moved hW.alike hK, hD.weaken (fun _ _ _ _ => trivial)⟩⟩ rfl rfl hl.1 rfl (lv_room (Nat.le_of_ble_eq_true rfl)) dX4_readEither_75 ⟨Nat.le_of_ble_eq_true rfl, Nat.le_of_ble_eq_true rfl⟩) hS (fun q _ h => hFc q h) hFc (fun u t H1 locs ht hvm w_709 hB hz1 hk1 hS => ?_)
    obtain ⟨ws_710, ty_711, hm_712, ht_714, hP1, hK1, hD1, hx_713⟩ := hB
    rw [ht] at hP1
    have hK := va_K.moved hvm.symm hK1
    have hD := hD1.weaken (fun _ _ _ h => hFc _ h)
    generalize H1 = H at hP1 hS ⊢
    have hP := hP1
    have e_715 := hm_712.objK er_599 (by decide)
    obtain ⟨g_717, e_716, h_718⟩ := hm_712.obj et_600
    obtain ⟨z_719, z_720, z_721, z_722, rfl⟩ := smX6 h_718
    obtain ⟨f_724, e_723⟩ := hm_712.arrI e_607
    have u_725 := ht_714 _ _ u_608
    obtain ⟨f_727, e_726⟩ := hm_712.arrI e_614
    have u_728 := ht_714 _ _ u_615
    have hsm := hsm.tr (hm_712.mono (by decide))
    have hlp_101 := hlp_101.tr (hm_712.mono (by decide))
    have htx := htx.tr ht_714
    obtain ⟨k_729, s_730, e_731, h_732, h_733, h_734, e_735⟩ := hx_713
    refine lv_aload_n hx hb dX4_readEither_78 rfl (lv_at hl 5 rfl) ?_
    refine lv_iload_n hx hb dX4_readEither_79 rfl (lv_at hl 4 rfl) ?_
    have hFc := free_all hD hS hA
    refine va_calli (va_runV (As := [.int 2]) (rest := []) ⟨hx, hb, hml, hown, hts⟩ (r_readOne2 l D ρ ws_710 ty_711 adK adV fo rd krd tp ktp cd bb tl  H.size (⟨s_730, e_731, cc_588, ra_589, rb_590, rc_591, rv_592, re_593, nI k_729, by omega, by omega, by omega, by omega, e_715, e_735, wr_601, wt_602, ⟨k_603, c9_604, t_605, f_724, e_723, u_725, w_609⟩, ⟨k_610, c9_611, t_612, f_727, e_726, u_728, w_616⟩⟩ : RS ρ ws_710 ty_711 rd krd tp ktp cd bb tl)) (cwV 1 hts gX4_readEither_X4_readOne rfl rfl rfl (by decide +kernel) ⟨Nat.le_of_ble_eq_true rfl, Nat.le_of_ble_eq_true rfl⟩) ⟨fun a U g mk q => by obtain ⟨q0, q1, qP, qK, qD, qS⟩ := q; exact ⟨q0, q1, qP, va_K.moved (u := U) (U := U.calling g mk a) (Vm.Alike.refl U.vm) qK, qD, SZ.same rfl rfl qS⟩, va_recv hK hP (ci := 4) (q0 := krd) rfl e_715, fun U hU hW => ⟨rfl, by rw [hU], by rw [hU]; exact hP, va_K.moved hW.alike hK, hD.weaken (fun _ _ _ _ => trivial), hsz9.go hS hW hU hFc⟩⟩ rfl rfl hl.1 rfl (lv_room (Nat.le_of_ble_eq_true rfl)) dX4_readEither_80 ⟨Nat.le_of_ble_eq_true rfl, Nat.le_of_ble_eq_true rfl⟩) hS (fun q _ h => hFc q h) hFc (fun r_736 u t H1 locs ht hvm w_737 hB hz1 hk1 hS => ?_)
    obtain ⟨ws_738, ty_739, hm_740, ht_742, hP1, hK1, hD1, hx_741⟩ := hB
    rw [ht] at hP1
    have hK := va_K.moved hvm.symm hK1
    have hD := hD1.weaken (fun _ _ _ h => hFc _ h)
    generalize H1 = H at hP1 hS ⊢
    have hP := hP1
    obtain ⟨g_744, e_743, h_745⟩ := hm_740.obj e_715
    obtain ⟨z_746, z_747, z_748, z_749, z_750, z_751, rfl⟩ := smX4 h_745
    obtain ⟨g_753, e_752, h_754⟩ := hm_740.obj e_735
    obtain ⟨z_755, z_756, z_757, z_758, rfl⟩ := smX6 h_754
    obtain ⟨f_760, e_759⟩ := hm_740.arrI e_723
    have u_761 := ht_742 _ _ u_725
    obtain ⟨f_763, e_762⟩ := hm_740.arrI e_726
    have u_764 := ht_742 _ _ u_728
    have hsm := hsm.tr (hm_740.mono (by decide))
    have hlp_101 := hlp_101.tr (hm_740.mono (by decide))
    have htx := htx.tr ht_742
    obtain ⟨ts_765, te_766, cc_767, ra_768, rb_769, rc_770, rv_771, re_772, ya_773, h1_774, h2_775, h3_776, h4_777, er_778, et_779, wr_780, wt_781, ⟨k_782, c9_783, t_784, f_785, e_786, u_787, w_788⟩, ⟨k_789, c9_790, t_791, f_792, e_793, u_794, w_795⟩⟩ := id hx_741
    refine lv_istore_n (lv' := [(2, .int r_736), (3, .int 1), (5, .int 0), (4, .int (nI i_93)), (1, .int 2), (0, .ref rd)]) hx hb dX4_readEither_83 rfl hl (by decide) rfl (fun ls hl => ?_)
    refine lv_iload hx hb dX4_readEither_84 (lv_at hl 2 rfl) ?_
    refine lv_if_eq (tgt := 95) hx hb dX4_readEither_86 (by decide) (fun c_796 => ?_) (fun c_796 => absurd (by decide) c_796)
    refine lv_iinc (v := nI (i_93 + 1)) (lv' := [(4, .int (nI (i_93 + 1))), (2, .int r_736), (3, .int 1), (5, .int 0), (1, .int 2), (0, .ref rd)]) hx hb dX4_readEither_95 hl (k := 3) rfl (nI_add i_93 1) (by decide) rfl (fun ls hl => ?_)
    refine lv_goto (tgt := 11) hx hb dX4_readEither_98 (by decide) ?_
    exact ih_92 (i_93 + 1, r_736, 1) ws_738 _ _ ls (by show 400 - (i_93 + 1) < 400 - i_93; omega) ⟨hlp_101, ⟨ty_739, hK, htx, (⟨ts_765, te_766, cc_767, ra_768, rb_769, rc_770, rv_771, re_772, ya_773, by omega, by omega, by omega, by omega, er_778, et_779, wr_780, wt_781, ⟨k_782, c9_783, t_784, f_785, e_786, u_787, w_788⟩, ⟨k_789, c9_790, t_791, f_792, e_793, u_794, w_795⟩⟩ : RS ρ ws_738 ty_739 rd krd tp ktp cd bb tl)⟩, (show (i_93 + 1) ≤ 400 from by omega), (show r_736 = 0 ∨ r_736 = 1 from w_737), (show 1 = 0 ∨ 1 = 1 from Or.inr rfl)⟩ hP hD hS (lv_sub hl [0, 1, 2, 4, 5] rfl)
  refine lv_istore (lv' := [(5, .int 1), (4, .int (nI i_93)), (2, .int x_94), (3, .int y_95), (1, .int 2), (0, .ref rd)]) hx hb dX4_readEither_39 hl (by decide) rfl (fun ls hl => ?_)
  refine lv_iload hx hb dX4_readEither_41 (lv_at hl 0 rfl) ?_
  refine lv_if_ne (tgt := 56) hx hb dX4_readEither_43 (by decide) (fun c_797 => ?_) (fun c_797 => absurd c_797 (by decide))
  refine lv_iload_n hx hb dX4_readEither_56 rfl (lv_at hl 3 rfl) ?_
  refine lv_if_ne (tgt := 65) hx hb dX4_readEither_57 (by decide) (fun c_798 => ?_) (fun c_798 => ?_)
  · refine lv_iconst (v := 1) hx hb dX4_readEither_65 (by decide) ?_
    refine lv_goto (tgt := 70) hx hb dX4_readEither_66 (by decide) ?_
    refine lv_istore_n (lv' := [(3, .int 1), (5, .int 1), (4, .int (nI i_93)), (2, .int x_94), (1, .int 2), (0, .ref rd)]) hx hb dX4_readEither_70 rfl hl (by decide) rfl (fun ls hl => ?_)
    refine lv_aload_n hx hb dX4_readEither_71 rfl (lv_at hl 5 rfl) ?_
    refine va_get (D := D) (ci := 4) (v := .ref tp) (C := RX4) (T := TX4) (N := 8) hx hb hts hin4 hown hK hP krd e_367 rfl 0 (by decide) (hts (.fieldLink RX4 12 "HoneyHouse$RuleReader" "tape" "LHoneyHouse$Tape;") (List.mem_of_getElem? (i := 1) rfl)) (fun _ h9 => h9) rfl dX4_readEither_72 ?_
    have hFc := free_all hD hS hA
    refine va_callv (va_runV (As := []) (rest := []) ⟨hx, hb, hml, hown, hts⟩ (a_advance l D ρ ws_362 ty_363 tp ktp tl te_126 ya_133 (nI ts_125) bb k_149 c9_150 t_151 f_373 H.size (by omega) (by omega) e_368 e_372 u_374 wt_141) (cwV 0 hts gX4_readEither_X6_advance rfl rfl rfl (by decide +kernel) ⟨Nat.le_of_ble_eq_true rfl, Nat.le_of_ble_eq_true rfl⟩) ⟨fun a U g mk q => by obtain ⟨q0, q1, qP, qK, qD⟩ := q; exact ⟨q0, q1, qP, va_K.moved (u := U) (U := U.calling g mk a) (Vm.Alike.refl U.vm) qK, qD⟩, va_recv hK hP (ci := 6) (q0 := ktp) rfl e_368, fun U hU hW => ⟨rfl, by rw [hU], by rw [hU]; exact hP, va_K.moved hW.alike hK, hD.weaken (fun _ _ _ _ => trivial)⟩⟩ rfl rfl hl.1 rfl (lv_room (Nat.le_of_ble_eq_true rfl)) dX4_readEither_75 ⟨Nat.le_of_ble_eq_true rfl, Nat.le_of_ble_eq_true rfl⟩) hS (fun q _ h => hFc q h) hFc (fun u t H1 locs ht hvm w_800 hB hz1 hk1 hS => ?_)
    obtain ⟨ws_801, ty_802, hm_803, ht_805, hP1, hK1, hD1, hx_804⟩ := hB
    rw [ht] at hP1
    have hK := va_K.moved hvm.symm hK1
    have hD := hD1.weaken (fun _ _ _ h => hFc _ h)
    generalize H1 = H at hP1 hS ⊢
    have hP := hP1
    have e_806 := hm_803.objK e_367 (by decide)
    obtain ⟨g_808, e_807, h_809⟩ := hm_803.obj e_368
    obtain ⟨z_810, z_811, z_812, z_813, rfl⟩ := smX6 h_809
    obtain ⟨f_815, e_814⟩ := hm_803.arrI e_369
    have u_816 := ht_805 _ _ u_371
    obtain ⟨f_818, e_817⟩ := hm_803.arrI e_372
    have u_819 := ht_805 _ _ u_374
    have hsm := hsm.tr (hm_803.mono (by decide))
    have hlp_101 := hlp_101.tr (hm_803.mono (by decide))
    have htx := htx.tr ht_805
    obtain ⟨k_820, s_821, e_822, h_823, h_824, h_825, e_826⟩ := hx_804
    refine lv_aload_n hx hb dX4_readEither_78 rfl (lv_at hl 5 rfl) ?_
    refine lv_iload_n hx hb dX4_readEither_79 rfl (lv_at hl 4 rfl) ?_
    have hFc := free_all hD hS hA
    refine va_calli (va_runV (As := [.int 2]) (rest := []) ⟨hx, hb, hml, hown, hts⟩ (r_readOne2 l D ρ ws_801 ty_802 adK adV fo rd krd tp ktp cd bb tl  H.size (⟨s_821, e_822, cc_127, ra_128, rb_129, rc_130, rv_131, re_132, nI k_820, by omega, by omega, by omega, by omega, e_806, e_826, wr_140, wt_141, ⟨k_142, c9_143, t_144, f_815, e_814, u_816, w_148⟩, ⟨k_149, c9_150, t_151, f_818, e_817, u_819, w_155⟩⟩ : RS ρ ws_801 ty_802 rd krd tp ktp cd bb tl)) (cwV 1 hts gX4_readEither_X4_readOne rfl rfl rfl (by decide +kernel) ⟨Nat.le_of_ble_eq_true rfl, Nat.le_of_ble_eq_true rfl⟩) ⟨fun a U g mk q => by obtain ⟨q0, q1, qP, qK, qD, qS⟩ := q; exact ⟨q0, q1, qP, va_K.moved (u := U) (U := U.calling g mk a) (Vm.Alike.refl U.vm) qK, qD, SZ.same rfl rfl qS⟩, va_recv hK hP (ci := 4) (q0 := krd) rfl e_806, fun U hU hW => ⟨rfl, by rw [hU], by rw [hU]; exact hP, va_K.moved hW.alike hK, hD.weaken (fun _ _ _ _ => trivial), hsz9.go hS hW hU hFc⟩⟩ rfl rfl hl.1 rfl (lv_room (Nat.le_of_ble_eq_true rfl)) dX4_readEither_80 ⟨Nat.le_of_ble_eq_true rfl, Nat.le_of_ble_eq_true rfl⟩) hS (fun q _ h => hFc q h) hFc (fun r_827 u t H1 locs ht hvm w_828 hB hz1 hk1 hS => ?_)
    obtain ⟨ws_829, ty_830, hm_831, ht_833, hP1, hK1, hD1, hx_832⟩ := hB
    rw [ht] at hP1
    have hK := va_K.moved hvm.symm hK1
    have hD := hD1.weaken (fun _ _ _ h => hFc _ h)
    generalize H1 = H at hP1 hS ⊢
    have hP := hP1
    obtain ⟨g_835, e_834, h_836⟩ := hm_831.obj e_806
    obtain ⟨z_837, z_838, z_839, z_840, z_841, z_842, rfl⟩ := smX4 h_836
    obtain ⟨g_844, e_843, h_845⟩ := hm_831.obj e_826
    obtain ⟨z_846, z_847, z_848, z_849, rfl⟩ := smX6 h_845
    obtain ⟨f_851, e_850⟩ := hm_831.arrI e_814
    have u_852 := ht_833 _ _ u_816
    obtain ⟨f_854, e_853⟩ := hm_831.arrI e_817
    have u_855 := ht_833 _ _ u_819
    have hsm := hsm.tr (hm_831.mono (by decide))
    have hlp_101 := hlp_101.tr (hm_831.mono (by decide))
    have htx := htx.tr ht_833
    obtain ⟨ts_856, te_857, cc_858, ra_859, rb_860, rc_861, rv_862, re_863, ya_864, h1_865, h2_866, h3_867, h4_868, er_869, et_870, wr_871, wt_872, ⟨k_873, c9_874, t_875, f_876, e_877, u_878, w_879⟩, ⟨k_880, c9_881, t_882, f_883, e_884, u_885, w_886⟩⟩ := id hx_832
    refine lv_istore_n (lv' := [(2, .int r_827), (3, .int 1), (5, .int 1), (4, .int (nI i_93)), (1, .int 2), (0, .ref rd)]) hx hb dX4_readEither_83 rfl hl (by decide) rfl (fun ls hl => ?_)
    refine lv_iload hx hb dX4_readEither_84 (lv_at hl 2 rfl) ?_
    refine lv_if_eq (tgt := 95) hx hb dX4_readEither_86 (by decide) (fun c_887 => absurd c_887 (by decide)) (fun c_887 => ?_)
    refine lv_aload_n hx hb dX4_readEither_89 rfl (lv_at hl 5 rfl) ?_
    refine lv_bipush (v := (-2)) hx hb dX4_readEither_90 (by decide) ?_
    have hFc := free_all hD hS hA
    refine va_callv (va_runV (As := [.int (-2)]) (rest := []) ⟨hx, hb, hml, hown, hts⟩ (r_addCode l D ρ ws_829 ty_830 adK adV fo rd krd tp ktp cd bb tl (-2) H.size (⟨ts_856, te_857, cc_858, ra_859, rb_860, rc_861, rv_862, re_863, ya_864, by omega, by omega, by omega, by omega, er_869, et_870, wr_871, wt_872, ⟨k_873, c9_874, t_875, f_876, e_877, u_878, w_879⟩, ⟨k_880, c9_881, t_882, f_883, e_884, u_885, w_886⟩⟩ : RS ρ ws_829 ty_830 rd krd tp ktp cd bb tl)) (cwV 1 hts gX4_readEither_X4_addCode rfl rfl rfl (by decide +kernel) ⟨Nat.le_of_ble_eq_true rfl, Nat.le_of_ble_eq_true rfl⟩) ⟨fun a U g mk q => by obtain ⟨q0, q1, qP, qK, qD, qS⟩ := q; exact ⟨q0, q1, qP, va_K.moved (u := U) (U := U.calling g mk a) (Vm.Alike.refl U.vm) qK, qD, SZ.same rfl rfl qS⟩, va_recv hK hP (ci := 4) (q0 := krd) rfl er_869, fun U hU hW => ⟨rfl, by rw [hU], by rw [hU]; exact hP, va_K.moved hW.alike hK, hD.weaken (fun _ _ _ _ => trivial), hsz9.go hS hW hU hFc⟩⟩ rfl rfl hl.1 rfl (lv_room (Nat.le_of_ble_eq_true rfl)) dX4_readEither_92 ⟨Nat.le_of_ble_eq_true rfl, Nat.le_of_ble_eq_true rfl⟩) hS (fun q _ h => hFc q h) hFc (fun u t H1 locs ht hvm w_889 hB hz1 hk1 hS => ?_)
    obtain ⟨ws_890, ty_891, hm_892, ht_894, hP1, hK1, hD1, hx_893⟩ := hB
    rw [ht] at hP1
    have hK := va_K.moved hvm.symm hK1
    have hD := hD1.weaken (fun _ _ _ h => hFc _ h)
    generalize H1 = H at hP1 hS ⊢
    have hP := hP1
    obtain ⟨g_896, e_895, h_897⟩ := hm_892.obj er_869
    obtain ⟨z_898, z_899, z_900, z_901, z_902, z_903, rfl⟩ := smX4 h_897
    obtain ⟨g_905, e_904, h_906⟩ := hm_892.obj et_870
    obtain ⟨z_907, z_908, z_909, z_910, rfl⟩ := smX6 h_906
    obtain ⟨f_912, e_911⟩ := hm_892.arrI e_877
    have u_913 := ht_894 _ _ u_878
    obtain ⟨f_915, e_914⟩ := hm_892.arrI e_884
    have u_916 := ht_894 _ _ u_885
    have hsm := hsm.tr (hm_892.mono (by decide))
    have hlp_101 := hlp_101.tr (hm_892.mono (by decide))
    have htx := htx.tr ht_894
    obtain ⟨ts_917, te_918, cc_919, ra_920, rb_921, rc_922, rv_923, re_924, ya_925, h1_926, h2_927, h3_928, h4_929, er_930, et_931, wr_932, wt_933, ⟨k_934, c9_935, t_936, f_937, e_938, u_939, w_940⟩, ⟨k_941, c9_942, t_943, f_944, e_945, u_946, w_947⟩⟩ := id hx_893
    refine lv_iinc (v := nI (i_93 + 1)) (lv' := [(4, .int (nI (i_93 + 1))), (2, .int r_827), (3, .int 1), (5, .int 1), (1, .int 2), (0, .ref rd)]) hx hb dX4_readEither_95 hl (k := 3) rfl (nI_add i_93 1) (by decide) rfl (fun ls hl => ?_)
    refine lv_goto (tgt := 11) hx hb dX4_readEither_98 (by decide) ?_
    exact ih_92 (i_93 + 1, r_827, 1) ws_890 _ _ ls (by show 400 - (i_93 + 1) < 400 - i_93; omega) ⟨hlp_101, ⟨ty_891, hK, htx, (⟨ts_917, te_918, cc_919, ra_920, rb_921, rc_922, rv_923, re_924, ya_925, by omega, by omega, by omega, by omega, er_930, et_931, wr_932, wt_933, ⟨k_934, c9_935, t_936, f_937, e_938, u_939, w_940⟩, ⟨k_941, c9_942, t_943, f_944, e_945, u_946, w_947⟩⟩ : RS ρ ws_890 ty_891 rd krd tp ktp cd bb tl)⟩, (show (i_93 + 1) ≤ 400 from by omega), (show r_827 = 0 ∨ r_827 = 1 from w_828), (show 1 = 0 ∨ 1 = 1 from Or.inr rfl)⟩ hP hD hS (lv_sub hl [0, 1, 2, 4, 5] rfl)
  refine lv_iload hx hb dX4_readEither_60 (lv_at hl 0 rfl) ?_
  refine lv_if_ne (tgt := 69) hx hb dX4_readEither_62 (by decide) (fun c_948 => ?_) (fun c_948 => absurd c_948 (by decide))
  refine lv_iconst (v := 0) hx hb dX4_readEither_69 (by decide) ?_
  refine lv_istore_n (lv' := [(3, .int 0), (5, .int 1), (4, .int (nI i_93)), (2, .int x_94), (1, .int 2), (0, .ref rd)]) hx hb dX4_readEither_70 rfl hl (by decide) rfl (fun ls hl => ?_)
  refine lv_aload_n hx hb dX4_readEither_71 rfl (lv_at hl 5 rfl) ?_
  refine va_get (D := D) (ci := 4) (v := .ref tp) (C := RX4) (T := TX4) (N := 8) hx hb hts hin4 hown hK hP krd e_367 rfl 0 (by decide) (hts (.fieldLink RX4 12 "HoneyHouse$RuleReader" "tape" "LHoneyHouse$Tape;") (List.mem_of_getElem? (i := 1) rfl)) (fun _ h9 => h9) rfl dX4_readEither_72 ?_
  have hFc := free_all hD hS hA
  refine va_callv (va_runV (As := []) (rest := []) ⟨hx, hb, hml, hown, hts⟩ (a_advance l D ρ ws_362 ty_363 tp ktp tl te_126 ya_133 (nI ts_125) bb k_149 c9_150 t_151 f_373 H.size (by omega) (by omega) e_368 e_372 u_374 wt_141) (cwV 0 hts gX4_readEither_X6_advance rfl rfl rfl (by decide +kernel) ⟨Nat.le_of_ble_eq_true rfl, Nat.le_of_ble_eq_true rfl⟩) ⟨fun a U g mk q => by obtain ⟨q0, q1, qP, qK, qD⟩ := q; exact ⟨q0, q1, qP, va_K.moved (u := U) (U := U.calling g mk a) (Vm.Alike.refl U.vm) qK, qD⟩, va_recv hK hP (ci := 6) (q0 := ktp) rfl e_368, fun U hU hW => ⟨rfl, by rw [hU], by rw [hU]; exact hP, va_K.moved hW.alike hK, hD.weaken (fun _ _ _ _ => trivial)⟩⟩ rfl rfl hl.1 rfl (lv_room (Nat.le_of_ble_eq_true rfl)) dX4_readEither_75 ⟨Nat.le_of_ble_eq_true rfl, Nat.le_of_ble_eq_true rfl⟩) hS (fun q _ h => hFc q h) hFc (fun u t H1 locs ht hvm w_950 hB hz1 hk1 hS => ?_)
  obtain ⟨ws_951, ty_952, hm_953, ht_955, hP1, hK1, hD1, hx_954⟩ := hB
  rw [ht] at hP1
  have hK := va_K.moved hvm.symm hK1
  have hD := hD1.weaken (fun _ _ _ h => hFc _ h)
  generalize H1 = H at hP1 hS ⊢
  have hP := hP1
  have e_956 := hm_953.objK e_367 (by decide)
  obtain ⟨g_958, e_957, h_959⟩ := hm_953.obj e_368
  obtain ⟨z_960, z_961, z_962, z_963, rfl⟩ := smX6 h_959
  obtain ⟨f_965, e_964⟩ := hm_953.arrI e_369
  have u_966 := ht_955 _ _ u_371
  obtain ⟨f_968, e_967⟩ := hm_953.arrI e_372
  have u_969 := ht_955 _ _ u_374
  have hsm := hsm.tr (hm_953.mono (by decide))
  have hlp_101 := hlp_101.tr (hm_953.mono (by decide))
  have htx := htx.tr ht_955
  obtain ⟨k_970, s_971, e_972, h_973, h_974, h_975, e_976⟩ := hx_954
  refine lv_aload_n hx hb dX4_readEither_78 rfl (lv_at hl 5 rfl) ?_
  refine lv_iload_n hx hb dX4_readEither_79 rfl (lv_at hl 4 rfl) ?_
  have hFc := free_all hD hS hA
  refine va_calli (va_runV (As := [.int 2]) (rest := []) ⟨hx, hb, hml, hown, hts⟩ (r_readOne2 l D ρ ws_951 ty_952 adK adV fo rd krd tp ktp cd bb tl  H.size (⟨s_971, e_972, cc_127, ra_128, rb_129, rc_130, rv_131, re_132, nI k_970, by omega, by omega, by omega, by omega, e_956, e_976, wr_140, wt_141, ⟨k_142, c9_143, t_144, f_965, e_964, u_966, w_148⟩, ⟨k_149, c9_150, t_151, f_968, e_967, u_969, w_155⟩⟩ : RS ρ ws_951 ty_952 rd krd tp ktp cd bb tl)) (cwV 1 hts gX4_readEither_X4_readOne rfl rfl rfl (by decide +kernel) ⟨Nat.le_of_ble_eq_true rfl, Nat.le_of_ble_eq_true rfl⟩) ⟨fun a U g mk q => by obtain ⟨q0, q1, qP, qK, qD, qS⟩ := q; exact ⟨q0, q1, qP, va_K.moved (u := U) (U := U.calling g mk a) (Vm.Alike.refl U.vm) qK, qD, SZ.same rfl rfl qS⟩, va_recv hK hP (ci := 4) (q0 := krd) rfl e_956, fun U hU hW => ⟨rfl, by rw [hU], by rw [hU]; exact hP, va_K.moved hW.alike hK, hD.weaken (fun _ _ _ _ => trivial), hsz9.go hS hW hU hFc⟩⟩ rfl rfl hl.1 rfl (lv_room (Nat.le_of_ble_eq_true rfl)) dX4_readEither_80 ⟨Nat.le_of_ble_eq_true rfl, Nat.le_of_ble_eq_true rfl⟩) hS (fun q _ h => hFc q h) hFc (fun r_977 u t H1 locs ht hvm w_978 hB hz1 hk1 hS => ?_)
  obtain ⟨ws_979, ty_980, hm_981, ht_983, hP1, hK1, hD1, hx_982⟩ := hB
  rw [ht] at hP1
  have hK := va_K.moved hvm.symm hK1
  have hD := hD1.weaken (fun _ _ _ h => hFc _ h)
  generalize H1 = H at hP1 hS ⊢
  have hP := hP1
  obtain ⟨g_985, e_984, h_986⟩ := hm_981.obj e_956
  obtain ⟨z_987, z_988, z_989, z_990, z_991, z_992, rfl⟩ := smX4 h_986
  obtain ⟨g_994, e_993, h_995⟩ := hm_981.obj e_976
  obtain ⟨z_996, z_997, z_998, z_999, rfl⟩ := smX6 h_995
  obtain ⟨f_1001, e_1000⟩ := hm_981.arrI e_964
  have u_1002 := ht_983 _ _ u_966
  obtain ⟨f_1004, e_1003⟩ := hm_981.arrI e_967
  have u_1005 := ht_983 _ _ u_969
  have hsm := hsm.tr (hm_981.mono (by decide))
  have hlp_101 := hlp_101.tr (hm_981.mono (by decide))
  have htx := htx.tr ht_983
  obtain ⟨ts_1006, te_1007, cc_1008, ra_1009, rb_1010, rc_1011, rv_1012, re_1013, ya_1014, h1_1015, h2_1016, h3_1017, h4_1018, er_1019, et_1020, wr_1021, wt_1022, ⟨k_1023, c9_1024, t_1025, f_1026, e_1027, u_1028, w_1029⟩, ⟨k_1030, c9_1031, t_1032, f_1033, e_1034, u_1035, w_1036⟩⟩ := id hx_982
  refine lv_istore_n (lv' := [(2, .int r_977), (3, .int 0), (5, .int 1), (4, .int (nI i_93)), (1, .int 2), (0, .ref rd)]) hx hb dX4_readEither_83 rfl hl (by decide) rfl (fun ls hl => ?_)
  refine lv_iload hx hb dX4_readEither_84 (lv_at hl 2 rfl) ?_
  refine lv_if_eq (tgt := 95) hx hb dX4_readEither_86 (by decide) (fun c_1037 => absurd c_1037 (by decide)) (fun c_1037 => ?_)
  refine lv_aload_n hx hb dX4_readEither_89 rfl (lv_at hl 5 rfl) ?_
  refine lv_bipush (v := (-2)) hx hb dX4_readEither_90 (by decide) ?_
  have hFc := free_all hD hS hA
  refine va_callv (va_runV (As := [.int (-2)]) (rest := []) ⟨hx, hb, hml, hown, hts⟩ (r_addCode l D ρ ws_979 ty_980 adK adV fo rd krd tp ktp cd bb tl (-2) H.size (⟨ts_1006, te_1007, cc_1008, ra_1009, rb_1010, rc_1011, rv_1012, re_1013, ya_1014, by omega, by omega, by omega, by omega, er_1019, et_1020, wr_1021, wt_1022, ⟨k_1023, c9_1024, t_1025, f_1026, e_1027, u_1028, w_1029⟩, ⟨k_1030, c9_1031, t_1032, f_1033, e_1034, u_1035, w_1036⟩⟩ : RS ρ ws_979 ty_980 rd krd tp ktp cd bb tl)) (cwV 1 hts gX4_readEither_X4_addCode rfl rfl rfl (by decide +kernel) ⟨Nat.le_of_ble_eq_true rfl, Nat.le_of_ble_eq_true rfl⟩) ⟨fun a U g mk q => by obtain ⟨q0, q1, qP, qK, qD, qS⟩ := q; exact ⟨q0, q1, qP, va_K.moved (u := U) (U := U.calling g mk a) (Vm.Alike.refl U.vm) qK, qD, SZ.same rfl rfl qS⟩, va_recv hK hP (ci := 4) (q0 := krd) rfl er_1019, fun U hU hW => ⟨rfl, by rw [hU], by rw [hU]; exact hP, va_K.moved hW.alike hK, hD.weaken (fun _ _ _ _ => trivial), hsz9.go hS hW hU hFc⟩⟩ rfl rfl hl.1 rfl (lv_room (Nat.le_of_ble_eq_true rfl)) dX4_readEither_92 ⟨Nat.le_of_ble_eq_true rfl, Nat.le_of_ble_eq_true rfl⟩) hS (fun q _ h => hFc q h) hFc (fun u t H1 locs ht hvm w_1039 hB hz1 hk1 hS => ?_)
  obtain ⟨ws_1040, ty_1041, hm_1042, ht_1044, hP1, hK1, hD1, hx_1043⟩ := hB
  rw [ht] at hP1
  have hK := va_K.moved hvm.symm hK1
  have hD := hD1.weaken (fun _ _ _ h => hFc _ h)
  generalize H1 = H at hP1 hS ⊢
  have hP := hP1
  obtain ⟨g_1046, e_1045, h_1047⟩ := hm_1042.obj er_1019
  obtain ⟨z_1048, z_1049, z_1050, z_1051, z_1052, z_1053, rfl⟩ := smX4 h_1047
  obtain ⟨g_1055, e_1054, h_1056⟩ := hm_1042.obj et_1020
  obtain ⟨z_1057, z_1058, z_1059, z_1060, rfl⟩ := smX6 h_1056
  obtain ⟨f_1062, e_1061⟩ := hm_1042.arrI e_1027
  have u_1063 := ht_1044 _ _ u_1028
  obtain ⟨f_1065, e_1064⟩ := hm_1042.arrI e_1034
  have u_1066 := ht_1044 _ _ u_1035
  have hsm := hsm.tr (hm_1042.mono (by decide))
  have hlp_101 := hlp_101.tr (hm_1042.mono (by decide))
  have htx := htx.tr ht_1044
  obtain ⟨ts_1067, te_1068, cc_1069, ra_1070, rb_1071, rc_1072, rv_1073, re_1074, ya_1075, h1_1076, h2_1077, h3_1078, h4_1079, er_1080, et_1081, wr_1082, wt_1083, ⟨k_1084, c9_1085, t_1086, f_1087, e_1088, u_1089, w_1090⟩, ⟨k_1091, c9_1092, t_1093, f_1094, e_1095, u_1096, w_1097⟩⟩ := id hx_1043
  refine lv_iinc (v := nI (i_93 + 1)) (lv' := [(4, .int (nI (i_93 + 1))), (2, .int r_977), (3, .int 0), (5, .int 1), (1, .int 2), (0, .ref rd)]) hx hb dX4_readEither_95 hl (k := 3) rfl (nI_add i_93 1) (by decide) rfl (fun ls hl => ?_)
  refine lv_goto (tgt := 11) hx hb dX4_readEither_98 (by decide) ?_
  exact ih_92 (i_93 + 1, r_977, 0) ws_1040 _ _ ls (by show 400 - (i_93 + 1) < 400 - i_93; omega) ⟨hlp_101, ⟨ty_1041, hK, htx, (⟨ts_1067, te_1068, cc_1069, ra_1070, rb_1071, rc_1072, rv_1073, re_1074, ya_1075, by omega, by omega, by omega, by omega, er_1080, et_1081, wr_1082, wt_1083, ⟨k_1084, c9_1085, t_1086, f_1087, e_1088, u_1089, w_1090⟩, ⟨k_1091, c9_1092, t_1093, f_1094, e_1095, u_1096, w_1097⟩⟩ : RS ρ ws_1040 ty_1041 rd krd tp ktp cd bb tl)⟩, (show (i_93 + 1) ≤ 400 from by omega), (show r_977 = 0 ∨ r_977 = 1 from w_978), (show 0 = 0 ∨ 0 = 1 from Or.inl rfl)⟩ hP hD hS (lv_sub hl [0, 1, 2, 4, 5] rfl)
set_option maxHeartbeats 4000000 in
set_option maxRecDepth 100000 in
theorem r_readOne1 (l : Launch) (D : va_G) (ρ : Nat → Nat) (ws : va_W) (tys : List (ClassId × FieldType)) (adK adV : Nat → Nat) (fo : Option Nat) (rd krd tp ktp cd bb tl : Nat)  (sz : Nat) (R0 : RS ρ ws tys rd krd tp ktp cd bb tl)  : Met l yX4_readOne wsX4_readOne ({ frames := 17, cells := 0, slots := 0, locals := 389 }) (va_Pc [.ref rd, .int 1] (fun U => U.heap.size = sz ∧ va_P D vwCl ws U.heap ∧ va_K D vwCl tys U ∧ va_D (fun _ => True) ws ∧ SZ adK adV fo (va_A ws sz) U U.heap)) (va_Qi (fun (r : Int32) (_ : Unit) => r = 0 ∨ r = 1) (fun (_ : Unit) (t : State) => ∃ (ws' : va_W) (tys' : List (ClassId × FieldType)), sm ρ [4, 6] ws ws' ∧ tyx tys tys' ∧ va_P D vwCl ws' t.heap ∧ va_K D vwCl tys' t ∧ va_D (va_A ws sz) ws' ∧ (RS ρ ws' tys' rd krd tp ktp cd bb tl)) (va_A ws sz)) 0 0 (va_A ws sz) := by
  refine Met.ofW (cc := cX4_readOne) (maxL := 4) (ret := (some .boolean)) (by decide) rfl ?_
  intro p e s m args below meth c s₁ B hml hv
  obtain ⟨rfl, hsz, hP, hK, hD0, hsz9⟩ := hv
  have hx := B.exec
  have hb := B.bytes
  have hr := B.returns
  have hts := atoms_spec (ws := wsX4_readOne) B.pre
  have hown : s.vm.findClass RX4 = some m.cls := findClass_of_methodNamed B.named
  have hlocks := B.notSynchronized
  subst hsz
  have hD := hD0.self (sz := s.heap.size)
  generalize hAe : va_A ws s.heap.size = A at hD hsz9 ⊢
  have hA : ∀ q : Nat, s.heap.size ≤ q → A q := fun q h => by rw [← hAe]; exact Or.inr h
  have hS : va_S A s.heap s.heap [] := va_S.rf
  have hsm : sm ρ [4, 6] ws ws := sm.rf ws
  have htx : tyx tys tys := tyx.rf tys
  have hin4 : ∀ w ∈ u_ws RX4 TX4 8, w ∈ wsX4_readOne := (fun _ h9 => List.mem_cons_of_mem _ (List.mem_append_left _ ((List.mem_append_right _ h9))))
  have hl := lv_entry ([.ref rd, .int 1]) (n := 4) (Nat.le_of_ble_eq_true rfl)
  rw [lg_entry_eq]
  generalize (lg_sl ([.ref rd, .int 1]) ++ List.replicate (4 - (lg_sl ([.ref rd, .int 1])).length) Slot.unset).toArray = ls at hl ⊢
  have hl : lv_has ls 4 [(0, .ref rd), (1, .int 1)] := hl
  obtain ⟨ts_1, te_2, cc_3, ra_4, rb_5, rc_6, rv_7, re_8, ya_9, h1_10, h2_11, h3_12, h4_13, er_14, et_15, wr_16, wt_17, ⟨k_18, c9_19, t_20, f_21, e_22, u_23, w_24⟩, ⟨k_25, c9_26, t_27, f_28, e_29, u_30, w_31⟩⟩ := id R0
  refine lv_aload_n hx hb dX4_readOne_0 rfl (lv_at hl 0 rfl) ?_
  refine va_get (D := D) (ci := 4) (v := .ref tp) (C := RX4) (T := TX4) (N := 8) hx hb hts hin4 hown hK hP krd er_14 rfl 0 (by decide) (hts (.fieldLink RX4 12 "HoneyHouse$RuleReader" "tape" "LHoneyHouse$Tape;") (List.mem_of_getElem? (i := 1) rfl)) (fun _ h9 => h9) rfl dX4_readOne_1 ?_
  refine va_ldcS hx hb hown hsz9.2.2.2.2.2.2.1 dX4_readOne_4 ?_
  have hFc := free_all hD hS hA
  refine va_calli (va_runV (As := [.ref (adK 3)]) (rest := []) ⟨hx, hb, hml, hown, hts⟩ (a_isWord l D ρ ws tys adK adV fo 3 tp ktp tl ya_9 (nI ts_1) (nI te_2) bb k_25 c9_26 t_27 f_28 s.heap.size (by decide) et_15 e_29 u_30) (cwV 1 hts gX4_readOne_X6_isWord rfl rfl rfl (by decide +kernel) ⟨Nat.le_of_ble_eq_true rfl, Nat.le_of_ble_eq_true rfl⟩) ⟨fun a U g mk q => by obtain ⟨q0, q1, qP, qK, qD, qS⟩ := q; exact ⟨q0, q1, qP, va_K.moved (u := U) (U := U.calling g mk a) (Vm.Alike.refl U.vm) qK, qD, SZ.same rfl rfl qS⟩, va_recv hK hP (ci := 6) (q0 := ktp) rfl et_15, fun U hU hW => ⟨rfl, by rw [hU], by rw [hU]; exact hP, va_K.moved hW.alike hK, hD.weaken (fun _ _ _ _ => trivial), hsz9.go hS hW hU hFc⟩⟩ rfl rfl hl.1 rfl (lv_room (Nat.le_of_ble_eq_true rfl)) dX4_readOne_6 ⟨Nat.le_of_ble_eq_true rfl, Nat.le_of_ble_eq_true rfl⟩) hS (fun q _ h => hFc q h) hFc (fun r_32 u t H1 locs ht hvm w_33 hB hz1 hk1 hS => ?_)
  obtain ⟨ws_34, ty_35, hm_36, ht_38, hP1, hK1, hD1, hx_37⟩ := hB
  rw [ht] at hP1
  have hK := va_K.moved hvm.symm hK1
  have hD := hD1.weaken (fun _ _ _ h => hFc _ h)
  generalize H1 = H at hP1 hS ⊢
  have hP := hP1
  have e_39 := hm_36.objK er_14 (by decide)
  have e_40 := hm_36.objK et_15 (by decide)
  obtain ⟨f_42, e_41⟩ := hm_36.arrI e_22
  have u_43 := ht_38 _ _ u_23
  obtain ⟨f_45, e_44⟩ := hm_36.arrI e_29
  have u_46 := ht_38 _ _ u_30
  have hsm := hsm.tr (hm_36.mono (by decide))
  have htx := htx.tr ht_38
  rcases w_33 with rfl | rfl
  · refine lv_istore_n (lv' := [(2, .int 0), (0, .ref rd), (1, .int 1)]) hx hb dX4_readOne_9 rfl hl (by decide) rfl (fun ls hl => ?_)
    refine lv_iload_n hx hb dX4_readOne_10 rfl (lv_at hl 0 rfl) ?_
    refine lv_if_ne (tgt := 31) hx hb dX4_readOne_11 (by decide) (fun c_47 => absurd (by decide) c_47) (fun c_47 => ?_)
    refine lv_aload_n hx hb dX4_readOne_14 rfl (lv_at hl 1 rfl) ?_
    refine va_get (D := D) (ci := 4) (v := .ref tp) (C := RX4) (T := TX4) (N := 8) hx hb hts hin4 hown hK hP krd e_39 rfl 0 (by decide) (hts (.fieldLink RX4 12 "HoneyHouse$RuleReader" "tape" "LHoneyHouse$Tape;") (List.mem_of_getElem? (i := 1) rfl)) (fun _ h9 => h9) rfl dX4_readOne_15 ?_
    refine lv_bipush (v := 40) hx hb dX4_readOne_18 (by decide) ?_
    refine vp_callSi (W.runV (As := [.int 40]) (rest := []) ⟨hx, hb, hml, hown, hts⟩ (s_isByte l D ws_34 ty_35 tp ktp tl ya_9 (nI ts_1) (nI te_2) bb k_25 c9_26 t_27 f_45 40 e_40 e_44 u_46) (cwV 1 hts gX4_readOne_X6_isByte rfl rfl rfl (by decide +kernel) ⟨Nat.le_of_ble_eq_true rfl, Nat.le_of_ble_eq_true rfl⟩) ⟨fun a U g mk q => ⟨q.1, q.2.1, va_K.moved (u := U) (U := U.calling g mk a) (Vm.Alike.refl U.vm) q.2.2⟩, va_recv hK hP (ci := 6) (q0 := ktp) rfl e_40, fun U hU hW => ⟨rfl, by rw [hU]; exact hP, va_K.moved hW.alike hK⟩⟩ rfl rfl hl.1 rfl (lv_room (Nat.le_of_ble_eq_true rfl)) dX4_readOne_20 ⟨Nat.le_of_ble_eq_true rfl, Nat.le_of_ble_eq_true rfl⟩) (fun r_48 k_49 => ?_)
    rcases k_49 with rfl | rfl
    · refine lv_if_ne (tgt := 31) hx hb dX4_readOne_23 (by decide) (fun c_50 => absurd (by decide) c_50) (fun c_50 => ?_)
      refine lv_aload_n hx hb dX4_readOne_26 rfl (lv_at hl 1 rfl) ?_
      have hFc := free_all hD hS hA
      refine va_calli (va_runV (As := []) (rest := []) ⟨hx, hb, hml, hown, hts⟩ (r_readTest l D ρ ws_34 ty_35 adK adV fo rd krd tp ktp cd bb tl  H.size (⟨ts_1, te_2, cc_3, ra_4, rb_5, rc_6, rv_7, re_8, ya_9, by omega, by omega, by omega, by omega, e_39, e_40, wr_16, wt_17, ⟨k_18, c9_19, t_20, f_42, e_41, u_43, w_24⟩, ⟨k_25, c9_26, t_27, f_45, e_44, u_46, w_31⟩⟩ : RS ρ ws_34 ty_35 rd krd tp ktp cd bb tl)) (cwV 0 hts gX4_readOne_X4_readTest rfl rfl rfl (by decide +kernel) ⟨Nat.le_of_ble_eq_true rfl, Nat.le_of_ble_eq_true rfl⟩) ⟨fun a U g mk q => by obtain ⟨q0, q1, qP, qK, qD, qS⟩ := q; exact ⟨q0, q1, qP, va_K.moved (u := U) (U := U.calling g mk a) (Vm.Alike.refl U.vm) qK, qD, SZ.same rfl rfl qS⟩, va_recv hK hP (ci := 4) (q0 := krd) rfl e_39, fun U hU hW => ⟨rfl, by rw [hU], by rw [hU]; exact hP, va_K.moved hW.alike hK, hD.weaken (fun _ _ _ _ => trivial), hsz9.go hS hW hU hFc⟩⟩ rfl rfl hl.1 rfl (lv_room (Nat.le_of_ble_eq_true rfl)) dX4_readOne_27 ⟨Nat.le_of_ble_eq_true rfl, Nat.le_of_ble_eq_true rfl⟩) hS (fun q _ h => hFc q h) hFc (fun r_51 u t H1 locs ht hvm w_52 hB hz1 hk1 hS => ?_)
      obtain ⟨ws_53, ty_54, hm_55, ht_57, hP1, hK1, hD1, hx_56⟩ := hB
      rw [ht] at hP1
      have hK := va_K.moved hvm.symm hK1
      have hD := hD1.weaken (fun _ _ _ h => hFc _ h)
      generalize H1 = H at hP1 hS ⊢
      have hP := hP1
      obtain ⟨g_59, e_58, h_60⟩ := hm_55.obj e_39
      obtain ⟨z_61, z_62, z_63, z_64, z_65, z_66, rfl⟩ := smX4 h_60
      obtain ⟨g_68, e_67, h_69⟩ := hm_55.obj e_40
      obtain ⟨z_70, z_71, z_72, z_73, rfl⟩ := smX6 h_69
      obtain ⟨f_75, e_74⟩ := hm_55.arrI e_41
      have u_76 := ht_57 _ _ u_43
      obtain ⟨f_78, e_77⟩ := hm_55.arrI e_44
      have u_79 := ht_57 _ _ u_46
      have hsm := hsm.tr (hm_55.mono (by decide))
      have htx := htx.tr ht_57
      obtain ⟨ts_80, te_81, cc_82, ra_83, rb_84, rc_85, rv_86, re_87, ya_88, h1_89, h2_90, h3_91, h4_92, er_93, et_94, wr_95, wt_96, ⟨k_97, c9_98, t_99, f_100, e_101, u_102, w_103⟩, ⟨k_104, c9_105, t_106, f_107, e_108, u_109, w_110⟩⟩ := id hx_56
      exact W.zret (v := r_51) hx hb hr (by rcases w_52 with h9 | h9 <;> rw [h9] <;> rfl) (fun t ht hW => ⟨⟨r_51, (), rfl, w_52, ws_53, ty_54, hsm, htx, by rw [ht]; exact hP, va_K.moved hW.alike hK, hD, (⟨ts_80, te_81, cc_82, ra_83, rb_84, rc_85, rv_86, re_87, ya_88, by omega, by omega, by omega, by omega, er_93, et_94, wr_95, wt_96, ⟨k_97, c9_98, t_99, f_100, e_101, u_102, w_103⟩, ⟨k_104, c9_105, t_106, f_107, e_108, u_109, w_110⟩⟩ : RS ρ ws_53 ty_54 rd krd tp ktp cd bb tl)⟩, hS.F ht⟩) hS.2.2 dX4_readOne_30
    refine lv_if_ne (tgt := 31) hx hb dX4_readOne_23 (by decide) (fun c_111 => ?_) (fun c_111 => absurd c_111 (by decide))
    refine lv_iload_n hx hb dX4_readOne_31 rfl (lv_at hl 2 rfl) ?_
    refine lv_bipush (v := 6) hx hb dX4_readOne_32 (by decide) ?_
    refine lv_icmp_lt (tgt := 50) hx hb dX4_readOne_34 (by decide) (fun c_112 => ?_) (fun c_112 => absurd (by decide) c_112)
    refine lv_aload_n hx hb dX4_readOne_50 rfl (lv_at hl 1 rfl) ?_
    refine va_get (D := D) (ci := 4) (v := .ref tp) (C := RX4) (T := TX4) (N := 8) hx hb hts hin4 hown hK hP krd e_39 rfl 0 (by decide) (hts (.fieldLink RX4 12 "HoneyHouse$RuleReader" "tape" "LHoneyHouse$Tape;") (List.mem_of_getElem? (i := 1) rfl)) (fun _ h9 => h9) rfl dX4_readOne_51 ?_
    have hFc := free_all hD hS hA
    refine va_callv (va_runV (As := []) (rest := []) ⟨hx, hb, hml, hown, hts⟩ (a_advance l D ρ ws_34 ty_35 tp ktp tl te_2 ya_9 (nI ts_1) bb k_25 c9_26 t_27 f_45 H.size (by omega) (by omega) e_40 e_44 u_46 wt_17) (cwV 0 hts gX4_readOne_X6_advance rfl rfl rfl (by decide +kernel) ⟨Nat.le_of_ble_eq_true rfl, Nat.le_of_ble_eq_true rfl⟩) ⟨fun a U g mk q => by obtain ⟨q0, q1, qP, qK, qD⟩ := q; exact ⟨q0, q1, qP, va_K.moved (u := U) (U := U.calling g mk a) (Vm.Alike.refl U.vm) qK, qD⟩, va_recv hK hP (ci := 6) (q0 := ktp) rfl e_40, fun U hU hW => ⟨rfl, by rw [hU], by rw [hU]; exact hP, va_K.moved hW.alike hK, hD.weaken (fun _ _ _ _ => trivial)⟩⟩ rfl rfl hl.1 rfl (lv_room (Nat.le_of_ble_eq_true rfl)) dX4_readOne_54 ⟨Nat.le_of_ble_eq_true rfl, Nat.le_of_ble_eq_true rfl⟩) hS (fun q _ h => hFc q h) hFc (fun u t H1 locs ht hvm w_114 hB hz1 hk1 hS => ?_)
    obtain ⟨ws_115, ty_116, hm_117, ht_119, hP1, hK1, hD1, hx_118⟩ := hB
    rw [ht] at hP1
    have hK := va_K.moved hvm.symm hK1
    have hD := hD1.weaken (fun _ _ _ h => hFc _ h)
    generalize H1 = H at hP1 hS ⊢
    have hP := hP1
    have e_120 := hm_117.objK e_39 (by decide)
    obtain ⟨g_122, e_121, h_123⟩ := hm_117.obj e_40
    obtain ⟨z_124, z_125, z_126, z_127, rfl⟩ := smX6 h_123
    obtain ⟨f_129, e_128⟩ := hm_117.arrI e_41
    have u_130 := ht_119 _ _ u_43
    obtain ⟨f_132, e_131⟩ := hm_117.arrI e_44
    have u_133 := ht_119 _ _ u_46
    have hsm := hsm.tr (hm_117.mono (by decide))
    have htx := htx.tr ht_119
    obtain ⟨k_134, s_135, e_136, h_137, h_138, h_139, e_140⟩ := hx_118
    refine lv_iload_n hx hb dX4_readOne_57 rfl (lv_at hl 0 rfl) ?_
    refine lv_if_ne (tgt := 86) hx hb dX4_readOne_58 (by decide) (fun c_141 => absurd (by decide) c_141) (fun c_141 => ?_)
    refine lv_aload_n hx hb dX4_readOne_61 rfl (lv_at hl 1 rfl) ?_
    refine lv_iload_n hx hb dX4_readOne_62 rfl (lv_at hl 2 rfl) ?_
    refine lv_iconst (v := 1) hx hb dX4_readOne_63 (by decide) ?_
    refine lv_iadd hx hb dX4_readOne_64 ?_
    refine tp_i (y := 2) (by decide) ?_
    have hFc := free_all hD hS hA
    refine va_calli (va_runV (As := [.int 2]) (rest := []) ⟨hx, hb, hml, hown, hts⟩ (r_readEither2 l D ρ ws_115 ty_116 adK adV fo rd krd tp ktp cd bb tl  H.size (⟨s_135, e_136, cc_3, ra_4, rb_5, rc_6, rv_7, re_8, nI k_134, by omega, by omega, by omega, by omega, e_120, e_140, wr_16, wt_17, ⟨k_18, c9_19, t_20, f_129, e_128, u_130, w_24⟩, ⟨k_25, c9_26, t_27, f_132, e_131, u_133, w_31⟩⟩ : RS ρ ws_115 ty_116 rd krd tp ktp cd bb tl)) (cwV 1 hts gX4_readOne_X4_readEither rfl rfl rfl (by decide +kernel) ⟨Nat.le_of_ble_eq_true rfl, Nat.le_of_ble_eq_true rfl⟩) ⟨fun a U g mk q => by obtain ⟨q0, q1, qP, qK, qD, qS⟩ := q; exact ⟨q0, q1, qP, va_K.moved (u := U) (U := U.calling g mk a) (Vm.Alike.refl U.vm) qK, qD, SZ.same rfl rfl qS⟩, va_recv hK hP (ci := 4) (q0 := krd) rfl e_120, fun U hU hW => ⟨rfl, by rw [hU], by rw [hU]; exact hP, va_K.moved hW.alike hK, hD.weaken (fun _ _ _ _ => trivial), hsz9.go hS hW hU hFc⟩⟩ rfl rfl hl.1 rfl (lv_room (Nat.le_of_ble_eq_true rfl)) dX4_readOne_65 ⟨Nat.le_of_ble_eq_true rfl, Nat.le_of_ble_eq_true rfl⟩) hS (fun q _ h => hFc q h) hFc (fun r_142 u t H1 locs ht hvm w_143 hB hz1 hk1 hS => ?_)
    obtain ⟨ws_144, ty_145, hm_146, ht_148, hP1, hK1, hD1, hx_147⟩ := hB
    rw [ht] at hP1
    have hK := va_K.moved hvm.symm hK1
    have hD := hD1.weaken (fun _ _ _ h => hFc _ h)
    generalize H1 = H at hP1 hS ⊢
    have hP := hP1
    obtain ⟨g_150, e_149, h_151⟩ := hm_146.obj e_120
    obtain ⟨z_152, z_153, z_154, z_155, z_156, z_157, rfl⟩ := smX4 h_151
    obtain ⟨g_159, e_158, h_160⟩ := hm_146.obj e_140
    obtain ⟨z_161, z_162, z_163, z_164, rfl⟩ := smX6 h_160
    obtain ⟨f_166, e_165⟩ := hm_146.arrI e_128
    have u_167 := ht_148 _ _ u_130
    obtain ⟨f_169, e_168⟩ := hm_146.arrI e_131
    have u_170 := ht_148 _ _ u_133
    have hsm := hsm.tr (hm_146.mono (by decide))
    have htx := htx.tr ht_148
    obtain ⟨ts_171, te_172, cc_173, ra_174, rb_175, rc_176, rv_177, re_178, ya_179, h1_180, h2_181, h3_182, h4_183, er_184, et_185, wr_186, wt_187, ⟨k_188, c9_189, t_190, f_191, e_192, u_193, w_194⟩, ⟨k_195, c9_196, t_197, f_198, e_199, u_200, w_201⟩⟩ := id hx_147
    refine lv_if_eq (tgt := 84) hx hb dX4_readOne_68 (by decide) (fun c_202 => ?_) (fun c_202 => ?_)
    · refine lv_iconst (v := 0) hx hb dX4_readOne_84 (by decide) ?_
      exact W.zret (v := 0) hx hb hr rfl (fun t ht hW => ⟨⟨0, (), rfl, Or.inl rfl, ws_144, ty_145, hsm, htx, by rw [ht]; exact hP, va_K.moved hW.alike hK, hD, (⟨ts_171, te_172, cc_173, ra_174, rb_175, rc_176, rv_177, re_178, ya_179, by omega, by omega, by omega, by omega, er_184, et_185, wr_186, wt_187, ⟨k_188, c9_189, t_190, f_191, e_192, u_193, w_194⟩, ⟨k_195, c9_196, t_197, f_198, e_199, u_200, w_201⟩⟩ : RS ρ ws_144 ty_145 rd krd tp ktp cd bb tl)⟩, hS.F ht⟩) hS.2.2 dX4_readOne_85
    refine lv_aload_n hx hb dX4_readOne_71 rfl (lv_at hl 1 rfl) ?_
    refine lv_bipush (v := 41) hx hb dX4_readOne_72 (by decide) ?_
    have hFc := free_all hD hS hA
    refine va_calli (va_runV (As := [.int 41]) (rest := []) ⟨hx, hb, hml, hown, hts⟩ (r_readByte l D ρ ws_144 ty_145 adK adV fo rd krd tp ktp cd bb tl 41 H.size (⟨ts_171, te_172, cc_173, ra_174, rb_175, rc_176, rv_177, re_178, ya_179, by omega, by omega, by omega, by omega, er_184, et_185, wr_186, wt_187, ⟨k_188, c9_189, t_190, f_191, e_192, u_193, w_194⟩, ⟨k_195, c9_196, t_197, f_198, e_199, u_200, w_201⟩⟩ : RS ρ ws_144 ty_145 rd krd tp ktp cd bb tl)) (cwV 1 hts gX4_readOne_X4_readByte rfl rfl rfl (by decide +kernel) ⟨Nat.le_of_ble_eq_true rfl, Nat.le_of_ble_eq_true rfl⟩) ⟨fun a U g mk q => by obtain ⟨q0, q1, qP, qK, qD, qS⟩ := q; exact ⟨q0, q1, qP, va_K.moved (u := U) (U := U.calling g mk a) (Vm.Alike.refl U.vm) qK, qD, SZ.same rfl rfl qS⟩, va_recv hK hP (ci := 4) (q0 := krd) rfl er_184, fun U hU hW => ⟨rfl, by rw [hU], by rw [hU]; exact hP, va_K.moved hW.alike hK, hD.weaken (fun _ _ _ _ => trivial), hsz9.go hS hW hU hFc⟩⟩ rfl rfl hl.1 rfl (lv_room (Nat.le_of_ble_eq_true rfl)) dX4_readOne_74 ⟨Nat.le_of_ble_eq_true rfl, Nat.le_of_ble_eq_true rfl⟩) hS (fun q _ h => hFc q h) hFc (fun r_203 u t H1 locs ht hvm w_204 hB hz1 hk1 hS => ?_)
    obtain ⟨ws_205, ty_206, hm_207, ht_209, hP1, hK1, hD1, hx_208⟩ := hB
    rw [ht] at hP1
    have hK := va_K.moved hvm.symm hK1
    have hD := hD1.weaken (fun _ _ _ h => hFc _ h)
    generalize H1 = H at hP1 hS ⊢
    have hP := hP1
    obtain ⟨g_211, e_210, h_212⟩ := hm_207.obj er_184
    obtain ⟨z_213, z_214, z_215, z_216, z_217, z_218, rfl⟩ := smX4 h_212
    obtain ⟨g_220, e_219, h_221⟩ := hm_207.obj et_185
    obtain ⟨z_222, z_223, z_224, z_225, rfl⟩ := smX6 h_221
    obtain ⟨f_227, e_226⟩ := hm_207.arrI e_192
    have u_228 := ht_209 _ _ u_193
    obtain ⟨f_230, e_229⟩ := hm_207.arrI e_199
    have u_231 := ht_209 _ _ u_200
    have hsm := hsm.tr (hm_207.mono (by decide))
    have htx := htx.tr ht_209
    obtain ⟨ts_232, te_233, cc_234, ra_235, rb_236, rc_237, rv_238, re_239, ya_240, h1_241, h2_242, h3_243, h4_244, er_245, et_246, wr_247, wt_248, ⟨k_249, c9_250, t_251, f_252, e_253, u_254, w_255⟩, ⟨k_256, c9_257, t_258, f_259, e_260, u_261, w_262⟩⟩ := id hx_208
    rcases w_204 with rfl | rfl
    · refine lv_if_eq (tgt := 84) hx hb dX4_readOne_77 (by decide) (fun c_263 => ?_) (fun c_263 => absurd (by decide) c_263)
      refine lv_iconst (v := 0) hx hb dX4_readOne_84 (by decide) ?_
      exact W.zret (v := 0) hx hb hr rfl (fun t ht hW => ⟨⟨0, (), rfl, Or.inl rfl, ws_205, ty_206, hsm, htx, by rw [ht]; exact hP, va_K.moved hW.alike hK, hD, (⟨ts_232, te_233, cc_234, ra_235, rb_236, rc_237, rv_238, re_239, ya_240, by omega, by omega, by omega, by omega, er_245, et_246, wr_247, wt_248, ⟨k_249, c9_250, t_251, f_252, e_253, u_254, w_255⟩, ⟨k_256, c9_257, t_258, f_259, e_260, u_261, w_262⟩⟩ : RS ρ ws_205 ty_206 rd krd tp ktp cd bb tl)⟩, hS.F ht⟩) hS.2.2 dX4_readOne_85
    refine lv_if_eq (tgt := 84) hx hb dX4_readOne_77 (by decide) (fun c_264 => absurd c_264 (by decide)) (fun c_264 => ?_)
    refine lv_iconst (v := 1) hx hb dX4_readOne_80 (by decide) ?_
    refine lv_goto (tgt := 85) hx hb dX4_readOne_81 (by decide) ?_
    exact W.zret (v := 1) hx hb hr rfl (fun t ht hW => ⟨⟨1, (), rfl, Or.inr rfl, ws_205, ty_206, hsm, htx, by rw [ht]; exact hP, va_K.moved hW.alike hK, hD, (⟨ts_232, te_233, cc_234, ra_235, rb_236, rc_237, rv_238, re_239, ya_240, by omega, by omega, by omega, by omega, er_245, et_246, wr_247, wt_248, ⟨k_249, c9_250, t_251, f_252, e_253, u_254, w_255⟩, ⟨k_256, c9_257, t_258, f_259, e_260, u_261, w_262⟩⟩ : RS ρ ws_205 ty_206 rd krd tp ktp cd bb tl)⟩, hS.F ht⟩) hS.2.2 dX4_readOne_85
  refine lv_istore_n (lv' := [(2, .int 1), (0, .ref rd), (1, .int 1)]) hx hb dX4_readOne_9 rfl hl (by decide) rfl (fun ls hl => ?_)
  refine lv_iload_n hx hb dX4_readOne_10 rfl (lv_at hl 0 rfl) ?_
  refine lv_if_ne (tgt := 31) hx hb dX4_readOne_11 (by decide) (fun c_265 => ?_) (fun c_265 => absurd c_265 (by decide))
  refine lv_iload_n hx hb dX4_readOne_31 rfl (lv_at hl 2 rfl) ?_
  refine lv_bipush (v := 6) hx hb dX4_readOne_32 (by decide) ?_
  refine lv_icmp_lt (tgt := 50) hx hb dX4_readOne_34 (by decide) (fun c_266 => ?_) (fun c_266 => absurd (by decide) c_266)
  refine lv_aload_n hx hb dX4_readOne_50 rfl (lv_at hl 1 rfl) ?_
  refine va_get (D := D) (ci := 4) (v := .ref tp) (C := RX4) (T := TX4) (N := 8) hx hb hts hin4 hown hK hP krd e_39 rfl 0 (by decide) (hts (.fieldLink RX4 12 "HoneyHouse$RuleReader" "tape" "LHoneyHouse$Tape;") (List.mem_of_getElem? (i := 1) rfl)) (fun _ h9 => h9) rfl dX4_readOne_51 ?_
  have hFc := free_all hD hS hA
  refine va_callv (va_runV (As := []) (rest := []) ⟨hx, hb, hml, hown, hts⟩ (a_advance l D ρ ws_34 ty_35 tp ktp tl te_2 ya_9 (nI ts_1) bb k_25 c9_26 t_27 f_45 H.size (by omega) (by omega) e_40 e_44 u_46 wt_17) (cwV 0 hts gX4_readOne_X6_advance rfl rfl rfl (by decide +kernel) ⟨Nat.le_of_ble_eq_true rfl, Nat.le_of_ble_eq_true rfl⟩) ⟨fun a U g mk q => by obtain ⟨q0, q1, qP, qK, qD⟩ := q; exact ⟨q0, q1, qP, va_K.moved (u := U) (U := U.calling g mk a) (Vm.Alike.refl U.vm) qK, qD⟩, va_recv hK hP (ci := 6) (q0 := ktp) rfl e_40, fun U hU hW => ⟨rfl, by rw [hU], by rw [hU]; exact hP, va_K.moved hW.alike hK, hD.weaken (fun _ _ _ _ => trivial)⟩⟩ rfl rfl hl.1 rfl (lv_room (Nat.le_of_ble_eq_true rfl)) dX4_readOne_54 ⟨Nat.le_of_ble_eq_true rfl, Nat.le_of_ble_eq_true rfl⟩) hS (fun q _ h => hFc q h) hFc (fun u t H1 locs ht hvm w_268 hB hz1 hk1 hS => ?_)
  obtain ⟨ws_269, ty_270, hm_271, ht_273, hP1, hK1, hD1, hx_272⟩ := hB
  rw [ht] at hP1
  have hK := va_K.moved hvm.symm hK1
  have hD := hD1.weaken (fun _ _ _ h => hFc _ h)
  generalize H1 = H at hP1 hS ⊢
  have hP := hP1
  have e_274 := hm_271.objK e_39 (by decide)
  obtain ⟨g_276, e_275, h_277⟩ := hm_271.obj e_40
  obtain ⟨z_278, z_279, z_280, z_281, rfl⟩ := smX6 h_277
  obtain ⟨f_283, e_282⟩ := hm_271.arrI e_41
  have u_284 := ht_273 _ _ u_43
  obtain ⟨f_286, e_285⟩ := hm_271.arrI e_44
  have u_287 := ht_273 _ _ u_46
  have hsm := hsm.tr (hm_271.mono (by decide))
  have htx := htx.tr ht_273
  obtain ⟨k_288, s_289, e_290, h_291, h_292, h_293, e_294⟩ := hx_272
  refine lv_iload_n hx hb dX4_readOne_57 rfl (lv_at hl 0 rfl) ?_
  refine lv_if_ne (tgt := 86) hx hb dX4_readOne_58 (by decide) (fun c_295 => ?_) (fun c_295 => absurd c_295 (by decide))
  refine lv_aload_n hx hb dX4_readOne_86 rfl (lv_at hl 1 rfl) ?_
  refine lv_iload_n hx hb dX4_readOne_87 rfl (lv_at hl 2 rfl) ?_
  refine lv_iconst (v := 1) hx hb dX4_readOne_88 (by decide) ?_
  refine lv_iadd hx hb dX4_readOne_89 ?_
  refine tp_i (y := 2) (by decide) ?_
  have hFc := free_all hD hS hA
  refine va_calli (va_runV (As := [.int 2]) (rest := []) ⟨hx, hb, hml, hown, hts⟩ (r_readOne2 l D ρ ws_269 ty_270 adK adV fo rd krd tp ktp cd bb tl  H.size (⟨s_289, e_290, cc_3, ra_4, rb_5, rc_6, rv_7, re_8, nI k_288, by omega, by omega, by omega, by omega, e_274, e_294, wr_16, wt_17, ⟨k_18, c9_19, t_20, f_283, e_282, u_284, w_24⟩, ⟨k_25, c9_26, t_27, f_286, e_285, u_287, w_31⟩⟩ : RS ρ ws_269 ty_270 rd krd tp ktp cd bb tl)) (cwV 1 hts gX4_readOne_X4_readOne rfl rfl rfl (by decide +kernel) ⟨Nat.le_of_ble_eq_true rfl, Nat.le_of_ble_eq_true rfl⟩) ⟨fun a U g mk q => by obtain ⟨q0, q1, qP, qK, qD, qS⟩ := q; exact ⟨q0, q1, qP, va_K.moved (u := U) (U := U.calling g mk a) (Vm.Alike.refl U.vm) qK, qD, SZ.same rfl rfl qS⟩, va_recv hK hP (ci := 4) (q0 := krd) rfl e_274, fun U hU hW => ⟨rfl, by rw [hU], by rw [hU]; exact hP, va_K.moved hW.alike hK, hD.weaken (fun _ _ _ _ => trivial), hsz9.go hS hW hU hFc⟩⟩ rfl rfl hl.1 rfl (lv_room (Nat.le_of_ble_eq_true rfl)) dX4_readOne_90 ⟨Nat.le_of_ble_eq_true rfl, Nat.le_of_ble_eq_true rfl⟩) hS (fun q _ h => hFc q h) hFc (fun r_296 u t H1 locs ht hvm w_297 hB hz1 hk1 hS => ?_)
  obtain ⟨ws_298, ty_299, hm_300, ht_302, hP1, hK1, hD1, hx_301⟩ := hB
  rw [ht] at hP1
  have hK := va_K.moved hvm.symm hK1
  have hD := hD1.weaken (fun _ _ _ h => hFc _ h)
  generalize H1 = H at hP1 hS ⊢
  have hP := hP1
  obtain ⟨g_304, e_303, h_305⟩ := hm_300.obj e_274
  obtain ⟨z_306, z_307, z_308, z_309, z_310, z_311, rfl⟩ := smX4 h_305
  obtain ⟨g_313, e_312, h_314⟩ := hm_300.obj e_294
  obtain ⟨z_315, z_316, z_317, z_318, rfl⟩ := smX6 h_314
  obtain ⟨f_320, e_319⟩ := hm_300.arrI e_282
  have u_321 := ht_302 _ _ u_284
  obtain ⟨f_323, e_322⟩ := hm_300.arrI e_285
  have u_324 := ht_302 _ _ u_287
  have hsm := hsm.tr (hm_300.mono (by decide))
  have htx := htx.tr ht_302
  obtain ⟨ts_325, te_326, cc_327, ra_328, rb_329, rc_330, rv_331, re_332, ya_333, h1_334, h2_335, h3_336, h4_337, er_338, et_339, wr_340, wt_341, ⟨k_342, c9_343, t_344, f_345, e_346, u_347, w_348⟩, ⟨k_349, c9_350, t_351, f_352, e_353, u_354, w_355⟩⟩ := id hx_301
  refine lv_istore_n (lv' := [(3, .int r_296), (2, .int 1), (0, .ref rd), (1, .int 1)]) hx hb dX4_readOne_93 rfl hl (by decide) rfl (fun ls hl => ?_)
  refine lv_aload_n hx hb dX4_readOne_94 rfl (lv_at hl 2 rfl) ?_
  refine lv_iconst (v := (-1)) hx hb dX4_readOne_95 (by decide) ?_
  have hFc := free_all hD hS hA
  refine va_callv (va_runV (As := [.int (-1)]) (rest := []) ⟨hx, hb, hml, hown, hts⟩ (r_addCode l D ρ ws_298 ty_299 adK adV fo rd krd tp ktp cd bb tl (-1) H.size (⟨ts_325, te_326, cc_327, ra_328, rb_329, rc_330, rv_331, re_332, ya_333, by omega, by omega, by omega, by omega, er_338, et_339, wr_340, wt_341, ⟨k_342, c9_343, t_344, f_345, e_346, u_347, w_348⟩, ⟨k_349, c9_350, t_351, f_352, e_353, u_354, w_355⟩⟩ : RS ρ ws_298 ty_299 rd krd tp ktp cd bb tl)) (cwV 1 hts gX4_readOne_X4_addCode rfl rfl rfl (by decide +kernel) ⟨Nat.le_of_ble_eq_true rfl, Nat.le_of_ble_eq_true rfl⟩) ⟨fun a U g mk q => by obtain ⟨q0, q1, qP, qK, qD, qS⟩ := q; exact ⟨q0, q1, qP, va_K.moved (u := U) (U := U.calling g mk a) (Vm.Alike.refl U.vm) qK, qD, SZ.same rfl rfl qS⟩, va_recv hK hP (ci := 4) (q0 := krd) rfl er_338, fun U hU hW => ⟨rfl, by rw [hU], by rw [hU]; exact hP, va_K.moved hW.alike hK, hD.weaken (fun _ _ _ _ => trivial), hsz9.go hS hW hU hFc⟩⟩ rfl rfl hl.1 rfl (lv_room (Nat.le_of_ble_eq_true rfl)) dX4_readOne_96 ⟨Nat.le_of_ble_eq_true rfl, Nat.le_of_ble_eq_true rfl⟩) hS (fun q _ h => hFc q h) hFc (fun u t H1 locs ht hvm w_357 hB hz1 hk1 hS => ?_)
  obtain ⟨ws_358, ty_359, hm_360, ht_362, hP1, hK1, hD1, hx_361⟩ := hB
  rw [ht] at hP1
  have hK := va_K.moved hvm.symm hK1
  have hD := hD1.weaken (fun _ _ _ h => hFc _ h)
  generalize H1 = H at hP1 hS ⊢
  have hP := hP1
  obtain ⟨g_364, e_363, h_365⟩ := hm_360.obj er_338
  obtain ⟨z_366, z_367, z_368, z_369, z_370, z_371, rfl⟩ := smX4 h_365
  obtain ⟨g_373, e_372, h_374⟩ := hm_360.obj et_339
  obtain ⟨z_375, z_376, z_377, z_378, rfl⟩ := smX6 h_374
  obtain ⟨f_380, e_379⟩ := hm_360.arrI e_346
  have u_381 := ht_362 _ _ u_347
  obtain ⟨f_383, e_382⟩ := hm_360.arrI e_353
  have u_384 := ht_362 _ _ u_354
  have hsm := hsm.tr (hm_360.mono (by decide))
  have htx := htx.tr ht_362
  obtain ⟨ts_385, te_386, cc_387, ra_388, rb_389, rc_390, rv_391, re_392, ya_393, h1_394, h2_395, h3_396, h4_397, er_398, et_399, wr_400, wt_401, ⟨k_402, c9_403, t_404, f_405, e_406, u_407, w_408⟩, ⟨k_409, c9_410, t_411, f_412, e_413, u_414, w_415⟩⟩ := id hx_361
  refine lv_iload_n hx hb dX4_readOne_99 rfl (lv_at hl 0 rfl) ?_
  exact W.zret (v := r_296) hx hb hr (by rcases w_297 with h9 | h9 <;> rw [h9] <;> rfl) (fun t ht hW => ⟨⟨r_296, (), rfl, w_297, ws_358, ty_359, hsm, htx, by rw [ht]; exact hP, va_K.moved hW.alike hK, hD, (⟨ts_385, te_386, cc_387, ra_388, rb_389, rc_390, rv_391, re_392, ya_393, by omega, by omega, by omega, by omega, er_398, et_399, wr_400, wt_401, ⟨k_402, c9_403, t_404, f_405, e_406, u_407, w_408⟩, ⟨k_409, c9_410, t_411, f_412, e_413, u_414, w_415⟩⟩ : RS ρ ws_358 ty_359 rd krd tp ktp cd bb tl)⟩, hS.F ht⟩) hS.2.2 dX4_readOne_100
set_option maxHeartbeats 4000000 in
set_option maxRecDepth 100000 in
theorem r_readEither1 (l : Launch) (D : va_G) (ρ : Nat → Nat) (ws : va_W) (tys : List (ClassId × FieldType)) (adK adV : Nat → Nat) (fo : Option Nat) (rd krd tp ktp cd bb tl : Nat)  (sz : Nat) (R0 : RS ρ ws tys rd krd tp ktp cd bb tl)  : Met l yX4_readEither wsX4_readEither ({ frames := 18, cells := 0, slots := 0, locals := 412 }) (va_Pc [.ref rd, .int 1] (fun U => U.heap.size = sz ∧ va_P D vwCl ws U.heap ∧ va_K D vwCl tys U ∧ va_D (fun _ => True) ws ∧ SZ adK adV fo (va_A ws sz) U U.heap)) (va_Qi (fun (r : Int32) (_ : Unit) => r = 0 ∨ r = 1) (fun (_ : Unit) (t : State) => ∃ (ws' : va_W) (tys' : List (ClassId × FieldType)), sm ρ [4, 6] ws ws' ∧ tyx tys tys' ∧ va_P D vwCl ws' t.heap ∧ va_K D vwCl tys' t ∧ va_D (va_A ws sz) ws' ∧ (RS ρ ws' tys' rd krd tp ktp cd bb tl)) (va_A ws sz)) 0 0 (va_A ws sz) := by
  refine Met.ofW (cc := cX4_readEither) (maxL := 6) (ret := (some .boolean)) (by decide) rfl ?_
  intro p e s m args below meth c s₁ B hml hv
  obtain ⟨rfl, hsz, hP, hK, hD0, hsz9⟩ := hv
  have hx := B.exec
  have hb := B.bytes
  have hr := B.returns
  have hts := atoms_spec (ws := wsX4_readEither) B.pre
  have hown : s.vm.findClass RX4 = some m.cls := findClass_of_methodNamed B.named
  have hlocks := B.notSynchronized
  subst hsz
  have hD := hD0.self (sz := s.heap.size)
  generalize hAe : va_A ws s.heap.size = A at hD hsz9 ⊢
  have hA : ∀ q : Nat, s.heap.size ≤ q → A q := fun q h => by rw [← hAe]; exact Or.inr h
  have hS : va_S A s.heap s.heap [] := va_S.rf
  have hsm : sm ρ [4, 6] ws ws := sm.rf ws
  have htx : tyx tys tys := tyx.rf tys
  have hin4 : ∀ w ∈ u_ws RX4 TX4 8, w ∈ wsX4_readEither := (fun _ h9 => List.mem_cons_of_mem _ (List.mem_append_left _ ((List.mem_append_right _ h9))))
  have hl := lv_entry ([.ref rd, .int 1]) (n := 6) (Nat.le_of_ble_eq_true rfl)
  rw [lg_entry_eq]
  generalize (lg_sl ([.ref rd, .int 1]) ++ List.replicate (6 - (lg_sl ([.ref rd, .int 1])).length) Slot.unset).toArray = ls at hl ⊢
  have hl : lv_has ls 6 [(0, .ref rd), (1, .int 1)] := hl
  obtain ⟨ts_1, te_2, cc_3, ra_4, rb_5, rc_6, rv_7, re_8, ya_9, h1_10, h2_11, h3_12, h4_13, er_14, et_15, wr_16, wt_17, ⟨k_18, c9_19, t_20, f_21, e_22, u_23, w_24⟩, ⟨k_25, c9_26, t_27, f_28, e_29, u_30, w_31⟩⟩ := id R0
  refine lv_aload_n hx hb dX4_readEither_0 rfl (lv_at hl 0 rfl) ?_
  refine lv_iload_n hx hb dX4_readEither_1 rfl (lv_at hl 1 rfl) ?_
  have hFc := free_all hD hS hA
  refine va_calli (va_runV (As := [.int 1]) (rest := []) ⟨hx, hb, hml, hown, hts⟩ (r_readOne1 l D ρ ws tys adK adV fo rd krd tp ktp cd bb tl  s.heap.size (⟨ts_1, te_2, cc_3, ra_4, rb_5, rc_6, rv_7, re_8, ya_9, by omega, by omega, by omega, by omega, er_14, et_15, wr_16, wt_17, ⟨k_18, c9_19, t_20, f_21, e_22, u_23, w_24⟩, ⟨k_25, c9_26, t_27, f_28, e_29, u_30, w_31⟩⟩ : RS ρ ws tys rd krd tp ktp cd bb tl)) (cwV 1 hts gX4_readEither_X4_readOne rfl rfl rfl (by decide +kernel) ⟨Nat.le_of_ble_eq_true rfl, Nat.le_of_ble_eq_true rfl⟩) ⟨fun a U g mk q => by obtain ⟨q0, q1, qP, qK, qD, qS⟩ := q; exact ⟨q0, q1, qP, va_K.moved (u := U) (U := U.calling g mk a) (Vm.Alike.refl U.vm) qK, qD, SZ.same rfl rfl qS⟩, va_recv hK hP (ci := 4) (q0 := krd) rfl er_14, fun U hU hW => ⟨rfl, by rw [hU], by rw [hU]; exact hP, va_K.moved hW.alike hK, hD.weaken (fun _ _ _ _ => trivial), hsz9.go hS hW hU hFc⟩⟩ rfl rfl hl.1 rfl (lv_room (Nat.le_of_ble_eq_true rfl)) dX4_readEither_2 ⟨Nat.le_of_ble_eq_true rfl, Nat.le_of_ble_eq_true rfl⟩) hS (fun q _ h => hFc q h) hFc (fun r_32 u t H1 locs ht hvm w_33 hB hz1 hk1 hS => ?_)
  obtain ⟨ws_34, ty_35, hm_36, ht_38, hP1, hK1, hD1, hx_37⟩ := hB
  rw [ht] at hP1
  have hK := va_K.moved hvm.symm hK1
  have hD := hD1.weaken (fun _ _ _ h => hFc _ h)
  generalize H1 = H at hP1 hS ⊢
  have hP := hP1
  obtain ⟨g_40, e_39, h_41⟩ := hm_36.obj er_14
  obtain ⟨z_42, z_43, z_44, z_45, z_46, z_47, rfl⟩ := smX4 h_41
  obtain ⟨g_49, e_48, h_50⟩ := hm_36.obj et_15
  obtain ⟨z_51, z_52, z_53, z_54, rfl⟩ := smX6 h_50
  obtain ⟨f_56, e_55⟩ := hm_36.arrI e_22
  have u_57 := ht_38 _ _ u_23
  obtain ⟨f_59, e_58⟩ := hm_36.arrI e_29
  have u_60 := ht_38 _ _ u_30
  have hsm := hsm.tr (hm_36.mono (by decide))
  have htx := htx.tr ht_38
  obtain ⟨ts_61, te_62, cc_63, ra_64, rb_65, rc_66, rv_67, re_68, ya_69, h1_70, h2_71, h3_72, h4_73, er_74, et_75, wr_76, wt_77, ⟨k_78, c9_79, t_80, f_81, e_82, u_83, w_84⟩, ⟨k_85, c9_86, t_87, f_88, e_89, u_90, w_91⟩⟩ := id hx_37
  refine lv_istore_n (lv' := [(2, .int r_32), (0, .ref rd), (1, .int 1)]) hx hb dX4_readEither_5 rfl hl (by decide) rfl (fun ls hl => ?_)
  refine lv_iconst (v := 0) hx hb dX4_readEither_6 (by decide) ?_
  refine lv_istore_n (lv' := [(3, .int 0), (2, .int r_32), (0, .ref rd), (1, .int 1)]) hx hb dX4_readEither_7 rfl hl (by decide) rfl (fun ls hl => ?_)
  refine lv_iconst (v := 0) hx hb dX4_readEither_8 (by decide) ?_
  refine lv_istore (lv' := [(4, .int 0), (3, .int 0), (2, .int r_32), (0, .ref rd), (1, .int 1)]) hx hb dX4_readEither_9 hl (by decide) rfl (fun ls hl => ?_)
  refine lp_V (nL := 6) (σ := Nat × Int32 × Int32) (lv := fun x9 => [(4, .int (nI x9.1)), (2, .int x9.2.1), (3, .int x9.2.2), (1, .int 1), (0, .ref rd)]) (μ := fun x9 => 400 - x9.1) (J := fun x9 ws9 => sm ρ [4, 6] ws_34 ws9 ∧ (∃ ty9 : List (ClassId × FieldType), va_K D vwCl ty9 s ∧ tyx tys ty9 ∧ RS ρ ws9 ty9 rd krd tp ktp cd bb tl) ∧ (x9.1 ≤ 400) ∧ (x9.2.1 = 0 ∨ x9.2.1 = 1) ∧ (x9.2.2 = 0 ∨ x9.2.2 = 1)) (fun x9 ws_99 H locs ls hj hP hD hS hl ih_92 => ?_) (0, r_32, 0) ws_34 _ _ ls ⟨sm.rf _, ⟨ty_35, hK, htx, (⟨ts_61, te_62, cc_63, ra_64, rb_65, rc_66, rv_67, re_68, ya_69, by omega, by omega, by omega, by omega, er_74, et_75, wr_76, wt_77, ⟨k_78, c9_79, t_80, f_81, e_82, u_83, w_84⟩, ⟨k_85, c9_86, t_87, f_88, e_89, u_90, w_91⟩⟩ : RS ρ ws_34 ty_35 rd krd tp ktp cd bb tl)⟩, (show 0 ≤ 400 from by omega), (show r_32 = 0 ∨ r_32 = 1 from w_33), (show 0 = 0 ∨ 0 = 1 from Or.inl rfl)⟩ hP hD hS (lv_sub hl [0, 2, 1, 4, 3] rfl)
  obtain ⟨i_93, x_94, y_95⟩ := x9
  replace hj : sm ρ [4, 6] ws_34 ws_99 ∧ (∃ ty9 : List (ClassId × FieldType), va_K D vwCl ty9 s ∧ tyx tys ty9 ∧ RS ρ ws_99 ty9 rd krd tp ktp cd bb tl) ∧ (i_93 ≤ 400) ∧ (x_94 = 0 ∨ x_94 = 1) ∧ (y_95 = 0 ∨ y_95 = 1) := hj
  obtain ⟨hm_100, hR_102, hi_96, hbx_97, hby_98⟩ := hj
  obtain ⟨g_104, e_103, h_105⟩ := hm_100.obj er_74
  obtain ⟨z_106, z_107, z_108, z_109, z_110, z_111, rfl⟩ := smX4 h_105
  obtain ⟨g_113, e_112, h_114⟩ := hm_100.obj et_75
  obtain ⟨z_115, z_116, z_117, z_118, rfl⟩ := smX6 h_114
  obtain ⟨f_120, e_119⟩ := hm_100.arrI e_82
  obtain ⟨f_122, e_121⟩ := hm_100.arrI e_89
  have hsm := hsm.tr (hm_100.mono (by decide))
  obtain ⟨ty_123, hK, htx, hR_124⟩ := hR_102
  obtain ⟨ts_125, te_126, cc_127, ra_128, rb_129, rc_130, rv_131, re_132, ya_133, h1_134, h2_135, h3_136, h4_137, er_138, et_139, wr_140, wt_141, ⟨k_142, c9_143, t_144, f_145, e_146, u_147, w_148⟩, ⟨k_149, c9_150, t_151, f_152, e_153, u_154, w_155⟩⟩ := id hR_124
  have hlp_101 := hm_100
  have hl : lv_has ls 6 [(4, .int (nI i_93)), (2, .int x_94), (3, .int y_95), (1, .int 1), (0, .ref rd)] := hl
  refine lv_iload hx hb dX4_readEither_11 (lv_at hl 0 rfl) ?_
  refine lv_sipush (v := 400) hx hb dX4_readEither_13 (by decide) ?_
  refine lv_icmp_ge (tgt := 101) hx hb dX4_readEither_16 (by decide) (fun c_156 => ?_) (fun c_156 => ?_)
  · have d_157 := n_le (a := 400) (b := i_93) (by omega) (by omega) c_156
    refine lv_iload_n hx hb dX4_readEither_101 rfl (lv_at hl 2 rfl) ?_
    refine lv_if_eq (tgt := 111) hx hb dX4_readEither_102 (by decide) (fun c_158 => ?_) (fun c_158 => ?_)
    · refine lv_iload_n hx hb dX4_readEither_111 rfl (lv_at hl 1 rfl) ?_
      exact W.zret (v := x_94) hx hb hr (by rcases hbx_97 with h9 | h9 <;> rw [h9] <;> rfl) (fun t ht hW => ⟨⟨x_94, (), rfl, hbx_97, ws_99, ty_123, hsm, htx, by rw [ht]; exact hP, va_K.moved hW.alike hK, hD, (⟨ts_125, te_126, cc_127, ra_128, rb_129, rc_130, rv_131, re_132, ya_133, by omega, by omega, by omega, by omega, er_138, et_139, wr_140, wt_141, ⟨k_142, c9_143, t_144, f_145, e_146, u_147, w_148⟩, ⟨k_149, c9_150, t_151, f_152, e_153, u_154, w_155⟩⟩ : RS ρ ws_99 ty_123 rd krd tp ktp cd bb tl)⟩, hS.F ht⟩) hS.2.2 dX4_readEither_112
    refine lv_aload_n hx hb dX4_readEither_105 rfl (lv_at hl 4 rfl) ?_
    refine lv_bipush (v := (-3)) hx hb dX4_readEither_106 (by decide) ?_
    have hFc := free_all hD hS hA
    refine va_callv (va_runV (As := [.int (-3)]) (rest := []) ⟨hx, hb, hml, hown, hts⟩ (r_addCode l D ρ ws_99 ty_123 adK adV fo rd krd tp ktp cd bb tl (-3) H.size (⟨ts_125, te_126, cc_127, ra_128, rb_129, rc_130, rv_131, re_132, ya_133, by omega, by omega, by omega, by omega, er_138, et_139, wr_140, wt_141, ⟨k_142, c9_143, t_144, f_145, e_146, u_147, w_148⟩, ⟨k_149, c9_150, t_151, f_152, e_153, u_154, w_155⟩⟩ : RS ρ ws_99 ty_123 rd krd tp ktp cd bb tl)) (cwV 1 hts gX4_readEither_X4_addCode rfl rfl rfl (by decide +kernel) ⟨Nat.le_of_ble_eq_true rfl, Nat.le_of_ble_eq_true rfl⟩) ⟨fun a U g mk q => by obtain ⟨q0, q1, qP, qK, qD, qS⟩ := q; exact ⟨q0, q1, qP, va_K.moved (u := U) (U := U.calling g mk a) (Vm.Alike.refl U.vm) qK, qD, SZ.same rfl rfl qS⟩, va_recv hK hP (ci := 4) (q0 := krd) rfl er_138, fun U hU hW => ⟨rfl, by rw [hU], by rw [hU]; exact hP, va_K.moved hW.alike hK, hD.weaken (fun _ _ _ _ => trivial), hsz9.go hS hW hU hFc⟩⟩ rfl rfl hl.1 rfl (lv_room (Nat.le_of_ble_eq_true rfl)) dX4_readEither_108 ⟨Nat.le_of_ble_eq_true rfl, Nat.le_of_ble_eq_true rfl⟩) hS (fun q _ h => hFc q h) hFc (fun u t H1 locs ht hvm w_160 hB hz1 hk1 hS => ?_)
    obtain ⟨ws_161, ty_162, hm_163, ht_165, hP1, hK1, hD1, hx_164⟩ := hB
    rw [ht] at hP1
    have hK := va_K.moved hvm.symm hK1
    have hD := hD1.weaken (fun _ _ _ h => hFc _ h)
    generalize H1 = H at hP1 hS ⊢
    have hP := hP1
    obtain ⟨g_167, e_166, h_168⟩ := hm_163.obj er_138
    obtain ⟨z_169, z_170, z_171, z_172, z_173, z_174, rfl⟩ := smX4 h_168
    obtain ⟨g_176, e_175, h_177⟩ := hm_163.obj et_139
    obtain ⟨z_178, z_179, z_180, z_181, rfl⟩ := smX6 h_177
    obtain ⟨f_183, e_182⟩ := hm_163.arrI e_146
    have u_184 := ht_165 _ _ u_147
    obtain ⟨f_186, e_185⟩ := hm_163.arrI e_153
    have u_187 := ht_165 _ _ u_154
    have hsm := hsm.tr (hm_163.mono (by decide))
    have hlp_101 := hlp_101.tr (hm_163.mono (by decide))
    have htx := htx.tr ht_165
    obtain ⟨ts_188, te_189, cc_190, ra_191, rb_192, rc_193, rv_194, re_195, ya_196, h1_197, h2_198, h3_199, h4_200, er_201, et_202, wr_203, wt_204, ⟨k_205, c9_206, t_207, f_208, e_209, u_210, w_211⟩, ⟨k_212, c9_213, t_214, f_215, e_216, u_217, w_218⟩⟩ := id hx_164
    refine lv_iload_n hx hb dX4_readEither_111 rfl (lv_at hl 1 rfl) ?_
    exact W.zret (v := x_94) hx hb hr (by rcases hbx_97 with h9 | h9 <;> rw [h9] <;> rfl) (fun t ht hW => ⟨⟨x_94, (), rfl, hbx_97, ws_161, ty_162, hsm, htx, by rw [ht]; exact hP, va_K.moved hW.alike hK, hD, (⟨ts_188, te_189, cc_190, ra_191, rb_192, rc_193, rv_194, re_195, ya_196, by omega, by omega, by omega, by omega, er_201, et_202, wr_203, wt_204, ⟨k_205, c9_206, t_207, f_208, e_209, u_210, w_211⟩, ⟨k_212, c9_213, t_214, f_215, e_216, u_217, w_218⟩⟩ : RS ρ ws_161 ty_162 rd krd tp ktp cd bb tl)⟩, hS.F ht⟩) hS.2.2 dX4_readEither_112
  have d_219 := n_nle (a := 400) (b := i_93) (by omega) (by omega) c_156
  refine lv_iload_n hx hb dX4_readEither_19 rfl (lv_at hl 1 rfl) ?_
  refine lv_if_eq (tgt := 101) hx hb dX4_readEither_20 (by decide) (fun c_220 => ?_) (fun c_220 => ?_)
  · refine lv_iload_n hx hb dX4_readEither_101 rfl (lv_at hl 2 rfl) ?_
    refine lv_if_eq (tgt := 111) hx hb dX4_readEither_102 (by decide) (fun c_221 => ?_) (fun c_221 => ?_)
    · refine lv_iload_n hx hb dX4_readEither_111 rfl (lv_at hl 1 rfl) ?_
      exact W.zret (v := x_94) hx hb hr (by rcases hbx_97 with h9 | h9 <;> rw [h9] <;> rfl) (fun t ht hW => ⟨⟨x_94, (), rfl, hbx_97, ws_99, ty_123, hsm, htx, by rw [ht]; exact hP, va_K.moved hW.alike hK, hD, (⟨ts_125, te_126, cc_127, ra_128, rb_129, rc_130, rv_131, re_132, ya_133, by omega, by omega, by omega, by omega, er_138, et_139, wr_140, wt_141, ⟨k_142, c9_143, t_144, f_145, e_146, u_147, w_148⟩, ⟨k_149, c9_150, t_151, f_152, e_153, u_154, w_155⟩⟩ : RS ρ ws_99 ty_123 rd krd tp ktp cd bb tl)⟩, hS.F ht⟩) hS.2.2 dX4_readEither_112
    refine lv_aload_n hx hb dX4_readEither_105 rfl (lv_at hl 4 rfl) ?_
    refine lv_bipush (v := (-3)) hx hb dX4_readEither_106 (by decide) ?_
    have hFc := free_all hD hS hA
    refine va_callv (va_runV (As := [.int (-3)]) (rest := []) ⟨hx, hb, hml, hown, hts⟩ (r_addCode l D ρ ws_99 ty_123 adK adV fo rd krd tp ktp cd bb tl (-3) H.size (⟨ts_125, te_126, cc_127, ra_128, rb_129, rc_130, rv_131, re_132, ya_133, by omega, by omega, by omega, by omega, er_138, et_139, wr_140, wt_141, ⟨k_142, c9_143, t_144, f_145, e_146, u_147, w_148⟩, ⟨k_149, c9_150, t_151, f_152, e_153, u_154, w_155⟩⟩ : RS ρ ws_99 ty_123 rd krd tp ktp cd bb tl)) (cwV 1 hts gX4_readEither_X4_addCode rfl rfl rfl (by decide +kernel) ⟨Nat.le_of_ble_eq_true rfl, Nat.le_of_ble_eq_true rfl⟩) ⟨fun a U g mk q => by obtain ⟨q0, q1, qP, qK, qD, qS⟩ := q; exact ⟨q0, q1, qP, va_K.moved (u := U) (U := U.calling g mk a) (Vm.Alike.refl U.vm) qK, qD, SZ.same rfl rfl qS⟩, va_recv hK hP (ci := 4) (q0 := krd) rfl er_138, fun U hU hW => ⟨rfl, by rw [hU], by rw [hU]; exact hP, va_K.moved hW.alike hK, hD.weaken (fun _ _ _ _ => trivial), hsz9.go hS hW hU hFc⟩⟩ rfl rfl hl.1 rfl (lv_room (Nat.le_of_ble_eq_true rfl)) dX4_readEither_108 ⟨Nat.le_of_ble_eq_true rfl, Nat.le_of_ble_eq_true rfl⟩) hS (fun q _ h => hFc q h) hFc (fun u t H1 locs ht hvm w_223 hB hz1 hk1 hS => ?_)
    obtain ⟨ws_224, ty_225, hm_226, ht_228, hP1, hK1, hD1, hx_227⟩ := hB
    rw [ht] at hP1
    have hK := va_K.moved hvm.symm hK1
    have hD := hD1.weaken (fun _ _ _ h => hFc _ h)
    generalize H1 = H at hP1 hS ⊢
    have hP := hP1
    obtain ⟨g_230, e_229, h_231⟩ := hm_226.obj er_138
    obtain ⟨z_232, z_233, z_234, z_235, z_236, z_237, rfl⟩ := smX4 h_231
    obtain ⟨g_239, e_238, h_240⟩ := hm_226.obj et_139
    obtain ⟨z_241, z_242, z_243, z_244, rfl⟩ := smX6 h_240
    obtain ⟨f_246, e_245⟩ := hm_226.arrI e_146
    have u_247 := ht_228 _ _ u_147
    obtain ⟨f_249, e_248⟩ := hm_226.arrI e_153
    have u_250 := ht_228 _ _ u_154
    have hsm := hsm.tr (hm_226.mono (by decide))
    have hlp_101 := hlp_101.tr (hm_226.mono (by decide))
    have htx := htx.tr ht_228
    obtain ⟨ts_251, te_252, cc_253, ra_254, rb_255, rc_256, rv_257, re_258, ya_259, h1_260, h2_261, h3_262, h4_263, er_264, et_265, wr_266, wt_267, ⟨k_268, c9_269, t_270, f_271, e_272, u_273, w_274⟩, ⟨k_275, c9_276, t_277, f_278, e_279, u_280, w_281⟩⟩ := id hx_227
    refine lv_iload_n hx hb dX4_readEither_111 rfl (lv_at hl 1 rfl) ?_
    exact W.zret (v := x_94) hx hb hr (by rcases hbx_97 with h9 | h9 <;> rw [h9] <;> rfl) (fun t ht hW => ⟨⟨x_94, (), rfl, hbx_97, ws_224, ty_225, hsm, htx, by rw [ht]; exact hP, va_K.moved hW.alike hK, hD, (⟨ts_251, te_252, cc_253, ra_254, rb_255, rc_256, rv_257, re_258, ya_259, by omega, by omega, by omega, by omega, er_264, et_265, wr_266, wt_267, ⟨k_268, c9_269, t_270, f_271, e_272, u_273, w_274⟩, ⟨k_275, c9_276, t_277, f_278, e_279, u_280, w_281⟩⟩ : RS ρ ws_224 ty_225 rd krd tp ktp cd bb tl)⟩, hS.F ht⟩) hS.2.2 dX4_readEither_112
  refine lv_aload_n hx hb dX4_readEither_23 rfl (lv_at hl 4 rfl) ?_
  have hFc := free_all hD hS hA
  refine va_calli (va_runV (As := []) (rest := []) ⟨hx, hb, hml, hown, hts⟩ (r_isAndOr l D ρ ws_99 ty_123 adK adV fo rd krd tp ktp cd bb tl  H.size (⟨ts_125, te_126, cc_127, ra_128, rb_129, rc_130, rv_131, re_132, ya_133, by omega, by omega, by omega, by omega, er_138, et_139, wr_140, wt_141, ⟨k_142, c9_143, t_144, f_145, e_146, u_147, w_148⟩, ⟨k_149, c9_150, t_151, f_152, e_153, u_154, w_155⟩⟩ : RS ρ ws_99 ty_123 rd krd tp ktp cd bb tl)) (cwV 0 hts gX4_readEither_X4_isAndOr rfl rfl rfl (by decide +kernel) ⟨Nat.le_of_ble_eq_true rfl, Nat.le_of_ble_eq_true rfl⟩) ⟨fun a U g mk q => by obtain ⟨q0, q1, qP, qK, qD, qS⟩ := q; exact ⟨q0, q1, qP, va_K.moved (u := U) (U := U.calling g mk a) (Vm.Alike.refl U.vm) qK, qD, SZ.same rfl rfl qS⟩, va_recv hK hP (ci := 4) (q0 := krd) rfl er_138, fun U hU hW => ⟨rfl, by rw [hU], by rw [hU]; exact hP, va_K.moved hW.alike hK, hD.weaken (fun _ _ _ _ => trivial), hsz9.go hS hW hU hFc⟩⟩ rfl rfl hl.1 rfl (lv_room (Nat.le_of_ble_eq_true rfl)) dX4_readEither_24 ⟨Nat.le_of_ble_eq_true rfl, Nat.le_of_ble_eq_true rfl⟩) hS (fun q _ h => hFc q h) hFc (fun r_282 u t H1 locs ht hvm w_283 hB hz1 hk1 hS => ?_)
  obtain ⟨ws_284, ty_285, hm_286, ht_288, hP1, hK1, hD1, hx_287⟩ := hB
  rw [ht] at hP1
  have hK := va_K.moved hvm.symm hK1
  have hD := hD1.weaken (fun _ _ _ h => hFc _ h)
  generalize H1 = H at hP1 hS ⊢
  have hP := hP1
  have e_289 := hm_286.objK er_138 (by decide)
  have e_290 := hm_286.objK et_139 (by decide)
  obtain ⟨f_292, e_291⟩ := hm_286.arrI e_146
  have u_293 := ht_288 _ _ u_147
  obtain ⟨f_295, e_294⟩ := hm_286.arrI e_153
  have u_296 := ht_288 _ _ u_154
  have hsm := hsm.tr (hm_286.mono (by decide))
  have hlp_101 := hlp_101.tr (hm_286.mono (by decide))
  have htx := htx.tr ht_288
  rcases w_283 with rfl | rfl
  · refine lv_if_eq (tgt := 101) hx hb dX4_readEither_27 (by decide) (fun c_297 => ?_) (fun c_297 => absurd (by decide) c_297)
    refine lv_iload_n hx hb dX4_readEither_101 rfl (lv_at hl 2 rfl) ?_
    refine lv_if_eq (tgt := 111) hx hb dX4_readEither_102 (by decide) (fun c_298 => ?_) (fun c_298 => ?_)
    · refine lv_iload_n hx hb dX4_readEither_111 rfl (lv_at hl 1 rfl) ?_
      exact W.zret (v := x_94) hx hb hr (by rcases hbx_97 with h9 | h9 <;> rw [h9] <;> rfl) (fun t ht hW => ⟨⟨x_94, (), rfl, hbx_97, ws_284, ty_285, hsm, htx, by rw [ht]; exact hP, va_K.moved hW.alike hK, hD, (⟨ts_125, te_126, cc_127, ra_128, rb_129, rc_130, rv_131, re_132, ya_133, by omega, by omega, by omega, by omega, e_289, e_290, wr_140, wt_141, ⟨k_142, c9_143, t_144, f_292, e_291, u_293, w_148⟩, ⟨k_149, c9_150, t_151, f_295, e_294, u_296, w_155⟩⟩ : RS ρ ws_284 ty_285 rd krd tp ktp cd bb tl)⟩, hS.F ht⟩) hS.2.2 dX4_readEither_112
    refine lv_aload_n hx hb dX4_readEither_105 rfl (lv_at hl 4 rfl) ?_
    refine lv_bipush (v := (-3)) hx hb dX4_readEither_106 (by decide) ?_
    have hFc := free_all hD hS hA
    refine va_callv (va_runV (As := [.int (-3)]) (rest := []) ⟨hx, hb, hml, hown, hts⟩ (r_addCode l D ρ ws_284 ty_285 adK adV fo rd krd tp ktp cd bb tl (-3) H.size (⟨ts_125, te_126, cc_127, ra_128, rb_129, rc_130, rv_131, re_132, ya_133, by omega, by omega, by omega, by omega, e_289, e_290, wr_140, wt_141, ⟨k_142, c9_143, t_144, f_292, e_291, u_293, w_148⟩, ⟨k_149, c9_150, t_151, f_295, e_294, u_296, w_155⟩⟩ : RS ρ ws_284 ty_285 rd krd tp ktp cd bb tl)) (cwV 1 hts gX4_readEither_X4_addCode rfl rfl rfl (by decide +kernel) ⟨Nat.le_of_ble_eq_true rfl, Nat.le_of_ble_eq_true rfl⟩) ⟨fun a U g mk q => by obtain ⟨q0, q1, qP, qK, qD, qS⟩ := q; exact ⟨q0, q1, qP, va_K.moved (u := U) (U := U.calling g mk a) (Vm.Alike.refl U.vm) qK, qD, SZ.same rfl rfl qS⟩, va_recv hK hP (ci := 4) (q0 := krd) rfl e_289, fun U hU hW => ⟨rfl, by rw [hU], by rw [hU]; exact hP, va_K.moved hW.alike hK, hD.weaken (fun _ _ _ _ => trivial), hsz9.go hS hW hU hFc⟩⟩ rfl rfl hl.1 rfl (lv_room (Nat.le_of_ble_eq_true rfl)) dX4_readEither_108 ⟨Nat.le_of_ble_eq_true rfl, Nat.le_of_ble_eq_true rfl⟩) hS (fun q _ h => hFc q h) hFc (fun u t H1 locs ht hvm w_300 hB hz1 hk1 hS => ?_)
    obtain ⟨ws_301, ty_302, hm_303, ht_305, hP1, hK1, hD1, hx_304⟩ := hB
    rw [ht] at hP1
    have hK := va_K.moved hvm.symm hK1
    have hD := hD1.weaken (fun _ _ _ h => hFc _ h)
    generalize H1 = H at hP1 hS ⊢
    have hP := hP1
    obtain ⟨g_307, e_306, h_308⟩ := hm_303.obj e_289
    obtain ⟨z_309, z_310, z_311, z_312, z_313, z_314, rfl⟩ := smX4 h_308
    obtain ⟨g_316, e_315, h_317⟩ := hm_303.obj e_290
    obtain ⟨z_318, z_319, z_320, z_321, rfl⟩ := smX6 h_317
    obtain ⟨f_323, e_322⟩ := hm_303.arrI e_291
    have u_324 := ht_305 _ _ u_293
    obtain ⟨f_326, e_325⟩ := hm_303.arrI e_294
    have u_327 := ht_305 _ _ u_296
    have hsm := hsm.tr (hm_303.mono (by decide))
    have hlp_101 := hlp_101.tr (hm_303.mono (by decide))
    have htx := htx.tr ht_305
    obtain ⟨ts_328, te_329, cc_330, ra_331, rb_332, rc_333, rv_334, re_335, ya_336, h1_337, h2_338, h3_339, h4_340, er_341, et_342, wr_343, wt_344, ⟨k_345, c9_346, t_347, f_348, e_349, u_350, w_351⟩, ⟨k_352, c9_353, t_354, f_355, e_356, u_357, w_358⟩⟩ := id hx_304
    refine lv_iload_n hx hb dX4_readEither_111 rfl (lv_at hl 1 rfl) ?_
    exact W.zret (v := x_94) hx hb hr (by rcases hbx_97 with h9 | h9 <;> rw [h9] <;> rfl) (fun t ht hW => ⟨⟨x_94, (), rfl, hbx_97, ws_301, ty_302, hsm, htx, by rw [ht]; exact hP, va_K.moved hW.alike hK, hD, (⟨ts_328, te_329, cc_330, ra_331, rb_332, rc_333, rv_334, re_335, ya_336, by omega, by omega, by omega, by omega, er_341, et_342, wr_343, wt_344, ⟨k_345, c9_346, t_347, f_348, e_349, u_350, w_351⟩, ⟨k_352, c9_353, t_354, f_355, e_356, u_357, w_358⟩⟩ : RS ρ ws_301 ty_302 rd krd tp ktp cd bb tl)⟩, hS.F ht⟩) hS.2.2 dX4_readEither_112
  refine lv_if_eq (tgt := 101) hx hb dX4_readEither_27 (by decide) (fun c_359 => absurd c_359 (by decide)) (fun c_359 => ?_)
  refine lv_aload_n hx hb dX4_readEither_30 rfl (lv_at hl 4 rfl) ?_
  refine va_get (D := D) (ci := 4) (v := .ref tp) (C := RX4) (T := TX4) (N := 8) hx hb hts hin4 hown hK hP krd e_289 rfl 0 (by decide) (hts (.fieldLink RX4 12 "HoneyHouse$RuleReader" "tape" "LHoneyHouse$Tape;") (List.mem_of_getElem? (i := 1) rfl)) (fun _ h9 => h9) rfl dX4_readEither_31 ?_
  refine va_ldcS hx hb hown hsz9.2.2.2.2.2.1 dX4_readEither_34 ?_
  have hFc := free_all hD hS hA
  refine va_calli (va_runV (As := [.ref (adK 2)]) (rest := []) ⟨hx, hb, hml, hown, hts⟩ (a_isWord l D ρ ws_284 ty_285 adK adV fo 2 tp ktp tl ya_133 (nI ts_125) (nI te_126) bb k_149 c9_150 t_151 f_295 H.size (by decide) e_290 e_294 u_296) (cwV 1 hts gX4_readEither_X6_isWord rfl rfl rfl (by decide +kernel) ⟨Nat.le_of_ble_eq_true rfl, Nat.le_of_ble_eq_true rfl⟩) ⟨fun a U g mk q => by obtain ⟨q0, q1, qP, qK, qD, qS⟩ := q; exact ⟨q0, q1, qP, va_K.moved (u := U) (U := U.calling g mk a) (Vm.Alike.refl U.vm) qK, qD, SZ.same rfl rfl qS⟩, va_recv hK hP (ci := 6) (q0 := ktp) rfl e_290, fun U hU hW => ⟨rfl, by rw [hU], by rw [hU]; exact hP, va_K.moved hW.alike hK, hD.weaken (fun _ _ _ _ => trivial), hsz9.go hS hW hU hFc⟩⟩ rfl rfl hl.1 rfl (lv_room (Nat.le_of_ble_eq_true rfl)) dX4_readEither_36 ⟨Nat.le_of_ble_eq_true rfl, Nat.le_of_ble_eq_true rfl⟩) hS (fun q _ h => hFc q h) hFc (fun r_360 u t H1 locs ht hvm w_361 hB hz1 hk1 hS => ?_)
  obtain ⟨ws_362, ty_363, hm_364, ht_366, hP1, hK1, hD1, hx_365⟩ := hB
  rw [ht] at hP1
  have hK := va_K.moved hvm.symm hK1
  have hD := hD1.weaken (fun _ _ _ h => hFc _ h)
  generalize H1 = H at hP1 hS ⊢
  have hP := hP1
  have e_367 := hm_364.objK e_289 (by decide)
  have e_368 := hm_364.objK e_290 (by decide)
  obtain ⟨f_370, e_369⟩ := hm_364.arrI e_291
  have u_371 := ht_366 _ _ u_293
  obtain ⟨f_373, e_372⟩ := hm_364.arrI e_294
  have u_374 := ht_366 _ _ u_296
  have hsm := hsm.tr (hm_364.mono (by decide))
  have hlp_101 := hlp_101.tr (hm_364.mono (by decide))
  have htx := htx.tr ht_366
  rcases w_361 with rfl | rfl
  · refine lv_istore (lv' := [(5, .int 0), (4, .int (nI i_93)), (2, .int x_94), (3, .int y_95), (1, .int 1), (0, .ref rd)]) hx hb dX4_readEither_39 hl (by decide) rfl (fun ls hl => ?_)
    refine lv_iload hx hb dX4_readEither_41 (lv_at hl 0 rfl) ?_
    refine lv_if_ne (tgt := 56) hx hb dX4_readEither_43 (by decide) (fun c_375 => absurd (by decide) c_375) (fun c_375 => ?_)
    refine lv_iload_n hx hb dX4_readEither_46 rfl (lv_at hl 3 rfl) ?_
    refine lv_if_eq (tgt := 56) hx hb dX4_readEither_47 (by decide) (fun c_376 => ?_) (fun c_376 => ?_)
    · refine lv_iload_n hx hb dX4_readEither_56 rfl (lv_at hl 3 rfl) ?_
      refine lv_if_ne (tgt := 65) hx hb dX4_readEither_57 (by decide) (fun c_377 => ?_) (fun c_377 => ?_)
      · refine lv_iconst (v := 1) hx hb dX4_readEither_65 (by decide) ?_
        refine lv_goto (tgt := 70) hx hb dX4_readEither_66 (by decide) ?_
        refine lv_istore_n (lv' := [(3, .int 1), (5, .int 0), (4, .int (nI i_93)), (2, .int x_94), (1, .int 1), (0, .ref rd)]) hx hb dX4_readEither_70 rfl hl (by decide) rfl (fun ls hl => ?_)
        refine lv_aload_n hx hb dX4_readEither_71 rfl (lv_at hl 5 rfl) ?_
        refine va_get (D := D) (ci := 4) (v := .ref tp) (C := RX4) (T := TX4) (N := 8) hx hb hts hin4 hown hK hP krd e_367 rfl 0 (by decide) (hts (.fieldLink RX4 12 "HoneyHouse$RuleReader" "tape" "LHoneyHouse$Tape;") (List.mem_of_getElem? (i := 1) rfl)) (fun _ h9 => h9) rfl dX4_readEither_72 ?_
        have hFc := free_all hD hS hA
        refine va_callv (va_runV (As := []) (rest := []) ⟨hx, hb, hml, hown, hts⟩ (a_advance l D ρ ws_362 ty_363 tp ktp tl te_126 ya_133 (nI ts_125) bb k_149 c9_150 t_151 f_373 H.size (by omega) (by omega) e_368 e_372 u_374 wt_141) (cwV 0 hts gX4_readEither_X6_advance rfl rfl rfl (by decide +kernel) ⟨Nat.le_of_ble_eq_true rfl, Nat.le_of_ble_eq_true rfl⟩) ⟨fun a U g mk q => by obtain ⟨q0, q1, qP, qK, qD⟩ := q; exact ⟨q0, q1, qP, va_K.moved (u := U) (U := U.calling g mk a) (Vm.Alike.refl U.vm) qK, qD⟩, va_recv hK hP (ci := 6) (q0 := ktp) rfl e_368, fun U hU hW => ⟨rfl, by rw [hU], by rw [hU]; exact hP, va_K.moved hW.alike hK, hD.weaken (fun _ _ _ _ => trivial)⟩⟩ rfl rfl hl.1 rfl (lv_room (Nat.le_of_ble_eq_true rfl)) dX4_readEither_75 ⟨Nat.le_of_ble_eq_true rfl, Nat.le_of_ble_eq_true rfl⟩) hS (fun q _ h => hFc q h) hFc (fun u t H1 locs ht hvm w_379 hB hz1 hk1 hS => ?_)
        obtain ⟨ws_380, ty_381, hm_382, ht_384, hP1, hK1, hD1, hx_383⟩ := hB
        rw [ht] at hP1
        have hK := va_K.moved hvm.symm hK1
        have hD := hD1.weaken (fun _ _ _ h => hFc _ h)
        generalize H1 = H at hP1 hS ⊢
        have hP := hP1
        have e_385 := hm_382.objK e_367 (by decide)
        obtain ⟨g_387, e_386, h_388⟩ := hm_382.obj e_368
        obtain ⟨z_389, z_390, z_391, z_392, rfl⟩ := smX6 h_388
        obtain ⟨f_394, e_393⟩ := hm_382.arrI e_369
        have u_395 := ht_384 _ _ u_371
        obtain ⟨f_397, e_396⟩ := hm_382.arrI e_372
        have u_398 := ht_384 _ _ u_374
        have hsm := hsm.tr (hm_382.mono (by decide))
        have hlp_101 := hlp_101.tr (hm_382.mono (by decide))
        have htx := htx.tr ht_384
        obtain ⟨k_399, s_400, e_401, h_402, h_403, h_404, e_405⟩ := hx_383
        refine lv_aload_n hx hb dX4_readEither_78 rfl (lv_at hl 5 rfl) ?_
        refine lv_iload_n hx hb dX4_readEither_79 rfl (lv_at hl 4 rfl) ?_
        have hFc := free_all hD hS hA
        refine va_calli (va_runV (As := [.int 1]) (rest := []) ⟨hx, hb, hml, hown, hts⟩ (r_readOne1 l D ρ ws_380 ty_381 adK adV fo rd krd tp ktp cd bb tl  H.size (⟨s_400, e_401, cc_127, ra_128, rb_129, rc_130, rv_131, re_132, nI k_399, by omega, by omega, by omega, by omega, e_385, e_405, wr_140, wt_141, ⟨k_142, c9_143, t_144, f_394, e_393, u_395, w_148⟩, ⟨k_149, c9_150, t_151, f_397, e_396, u_398, w_155⟩⟩ : RS ρ ws_380 ty_381 rd krd tp ktp cd bb tl)) (cwV 1 hts gX4_readEither_X4_readOne rfl rfl rfl (by decide +kernel) ⟨Nat.le_of_ble_eq_true rfl, Nat.le_of_ble_eq_true rfl⟩) ⟨fun a U g mk q => by obtain ⟨q0, q1, qP, qK, qD, qS⟩ := q; exact ⟨q0, q1, qP, va_K.moved (u := U) (U := U.calling g mk a) (Vm.Alike.refl U.vm) qK, qD, SZ.same rfl rfl qS⟩, va_recv hK hP (ci := 4) (q0 := krd) rfl e_385, fun U hU hW => ⟨rfl, by rw [hU], by rw [hU]; exact hP, va_K.moved hW.alike hK, hD.weaken (fun _ _ _ _ => trivial), hsz9.go hS hW hU hFc⟩⟩ rfl rfl hl.1 rfl (lv_room (Nat.le_of_ble_eq_true rfl)) dX4_readEither_80 ⟨Nat.le_of_ble_eq_true rfl, Nat.le_of_ble_eq_true rfl⟩) hS (fun q _ h => hFc q h) hFc (fun r_406 u t H1 locs ht hvm w_407 hB hz1 hk1 hS => ?_)
        obtain ⟨ws_408, ty_409, hm_410, ht_412, hP1, hK1, hD1, hx_411⟩ := hB
        rw [ht] at hP1
        have hK := va_K.moved hvm.symm hK1
        have hD := hD1.weaken (fun _ _ _ h => hFc _ h)
        generalize H1 = H at hP1 hS ⊢
        have hP := hP1
        obtain ⟨g_414, e_413, h_415⟩ := hm_410.obj e_385
        obtain ⟨z_416, z_417, z_418, z_419, z_420, z_421, rfl⟩ := smX4 h_415
        obtain ⟨g_423, e_422, h_424⟩ := hm_410.obj e_405
        obtain ⟨z_425, z_426, z_427, z_428, rfl⟩ := smX6 h_424
        obtain ⟨f_430, e_429⟩ := hm_410.arrI e_393
        have u_431 := ht_412 _ _ u_395
        obtain ⟨f_433, e_432⟩ := hm_410.arrI e_396
        have u_434 := ht_412 _ _ u_398
        have hsm := hsm.tr (hm_410.mono (by decide))
        have hlp_101 := hlp_101.tr (hm_410.mono (by decide))
        have htx := htx.tr ht_412
        obtain ⟨ts_435, te_436, cc_437, ra_438, rb_439, rc_440, rv_441, re_442, ya_443, h1_444, h2_445, h3_446, h4_447, er_448, et_449, wr_450, wt_451, ⟨k_452, c9_453, t_454, f_455, e_456, u_457, w_458⟩, ⟨k_459, c9_460, t_461, f_462, e_463, u_464, w_465⟩⟩ := id hx_411
        refine lv_istore_n (lv' := [(2, .int r_406), (3, .int 1), (5, .int 0), (4, .int (nI i_93)), (1, .int 1), (0, .ref rd)]) hx hb dX4_readEither_83 rfl hl (by decide) rfl (fun ls hl => ?_)
        refine lv_iload hx hb dX4_readEither_84 (lv_at hl 2 rfl) ?_
        refine lv_if_eq (tgt := 95) hx hb dX4_readEither_86 (by decide) (fun c_466 => ?_) (fun c_466 => absurd (by decide) c_466)
        refine lv_iinc (v := nI (i_93 + 1)) (lv' := [(4, .int (nI (i_93 + 1))), (2, .int r_406), (3, .int 1), (5, .int 0), (1, .int 1), (0, .ref rd)]) hx hb dX4_readEither_95 hl (k := 3) rfl (nI_add i_93 1) (by decide) rfl (fun ls hl => ?_)
        refine lv_goto (tgt := 11) hx hb dX4_readEither_98 (by decide) ?_
        exact ih_92 (i_93 + 1, r_406, 1) ws_408 _ _ ls (by show 400 - (i_93 + 1) < 400 - i_93; omega) ⟨hlp_101, ⟨ty_409, hK, htx, (⟨ts_435, te_436, cc_437, ra_438, rb_439, rc_440, rv_441, re_442, ya_443, by omega, by omega, by omega, by omega, er_448, et_449, wr_450, wt_451, ⟨k_452, c9_453, t_454, f_455, e_456, u_457, w_458⟩, ⟨k_459, c9_460, t_461, f_462, e_463, u_464, w_465⟩⟩ : RS ρ ws_408 ty_409 rd krd tp ktp cd bb tl)⟩, (show (i_93 + 1) ≤ 400 from by omega), (show r_406 = 0 ∨ r_406 = 1 from w_407), (show 1 = 0 ∨ 1 = 1 from Or.inr rfl)⟩ hP hD hS (lv_sub hl [0, 1, 2, 4, 5] rfl)
      refine lv_iload hx hb dX4_readEither_60 (lv_at hl 0 rfl) ?_
      refine lv_if_ne (tgt := 69) hx hb dX4_readEither_62 (by decide) (fun c_467 => absurd (by decide) c_467) (fun c_467 => ?_)
      refine lv_iconst (v := 1) hx hb dX4_readEither_65 (by decide) ?_
      refine lv_goto (tgt := 70) hx hb dX4_readEither_66 (by decide) ?_
      refine lv_istore_n (lv' := [(3, .int 1), (5, .int 0), (4, .int (nI i_93)), (2, .int x_94), (1, .int 1), (0, .ref rd)]) hx hb dX4_readEither_70 rfl hl (by decide) rfl (fun ls hl => ?_)
      refine lv_aload_n hx hb dX4_readEither_71 rfl (lv_at hl 5 rfl) ?_
      refine va_get (D := D) (ci := 4) (v := .ref tp) (C := RX4) (T := TX4) (N := 8) hx hb hts hin4 hown hK hP krd e_367 rfl 0 (by decide) (hts (.fieldLink RX4 12 "HoneyHouse$RuleReader" "tape" "LHoneyHouse$Tape;") (List.mem_of_getElem? (i := 1) rfl)) (fun _ h9 => h9) rfl dX4_readEither_72 ?_
      have hFc := free_all hD hS hA
      refine va_callv (va_runV (As := []) (rest := []) ⟨hx, hb, hml, hown, hts⟩ (a_advance l D ρ ws_362 ty_363 tp ktp tl te_126 ya_133 (nI ts_125) bb k_149 c9_150 t_151 f_373 H.size (by omega) (by omega) e_368 e_372 u_374 wt_141) (cwV 0 hts gX4_readEither_X6_advance rfl rfl rfl (by decide +kernel) ⟨Nat.le_of_ble_eq_true rfl, Nat.le_of_ble_eq_true rfl⟩) ⟨fun a U g mk q => by obtain ⟨q0, q1, qP, qK, qD⟩ := q; exact ⟨q0, q1, qP, va_K.moved (u := U) (U := U.calling g mk a) (Vm.Alike.refl U.vm) qK, qD⟩, va_recv hK hP (ci := 6) (q0 := ktp) rfl e_368, fun U hU hW => ⟨rfl, by rw [hU], by rw [hU]; exact hP, va_K.moved hW.alike hK, hD.weaken (fun _ _ _ _ => trivial)⟩⟩ rfl rfl hl.1 rfl (lv_room (Nat.le_of_ble_eq_true rfl)) dX4_readEither_75 ⟨Nat.le_of_ble_eq_true rfl, Nat.le_of_ble_eq_true rfl⟩) hS (fun q _ h => hFc q h) hFc (fun u t H1 locs ht hvm w_469 hB hz1 hk1 hS => ?_)
      obtain ⟨ws_470, ty_471, hm_472, ht_474, hP1, hK1, hD1, hx_473⟩ := hB
      rw [ht] at hP1
      have hK := va_K.moved hvm.symm hK1
      have hD := hD1.weaken (fun _ _ _ h => hFc _ h)
      generalize H1 = H at hP1 hS ⊢
      have hP := hP1
      have e_475 := hm_472.objK e_367 (by decide)
      obtain ⟨g_477, e_476, h_478⟩ := hm_472.obj e_368
      obtain ⟨z_479, z_480, z_481, z_482, rfl⟩ := smX6 h_478
      obtain ⟨f_484, e_483⟩ := hm_472.arrI e_369
      have u_485 := ht_474 _ _ u_371
      obtain ⟨f_487, e_486⟩ := hm_472.arrI e_372
      have u_488 := ht_474 _ _ u_374
      have hsm := hsm.tr (hm_472.mono (by decide))
      have hlp_101 := hlp_101.tr (hm_472.mono (by decide))
      have htx := htx.tr ht_474
      obtain ⟨k_489, s_490, e_491, h_492, h_493, h_494, e_495⟩ := hx_473
      refine lv_aload_n hx hb dX4_readEither_78 rfl (lv_at hl 5 rfl) ?_
      refine lv_iload_n hx hb dX4_readEither_79 rfl (lv_at hl 4 rfl) ?_
      have hFc := free_all hD hS hA
      refine va_calli (va_runV (As := [.int 1]) (rest := []) ⟨hx, hb, hml, hown, hts⟩ (r_readOne1 l D ρ ws_470 ty_471 adK adV fo rd krd tp ktp cd bb tl  H.size (⟨s_490, e_491, cc_127, ra_128, rb_129, rc_130, rv_131, re_132, nI k_489, by omega, by omega, by omega, by omega, e_475, e_495, wr_140, wt_141, ⟨k_142, c9_143, t_144, f_484, e_483, u_485, w_148⟩, ⟨k_149, c9_150, t_151, f_487, e_486, u_488, w_155⟩⟩ : RS ρ ws_470 ty_471 rd krd tp ktp cd bb tl)) (cwV 1 hts gX4_readEither_X4_readOne rfl rfl rfl (by decide +kernel) ⟨Nat.le_of_ble_eq_true rfl, Nat.le_of_ble_eq_true rfl⟩) ⟨fun a U g mk q => by obtain ⟨q0, q1, qP, qK, qD, qS⟩ := q; exact ⟨q0, q1, qP, va_K.moved (u := U) (U := U.calling g mk a) (Vm.Alike.refl U.vm) qK, qD, SZ.same rfl rfl qS⟩, va_recv hK hP (ci := 4) (q0 := krd) rfl e_475, fun U hU hW => ⟨rfl, by rw [hU], by rw [hU]; exact hP, va_K.moved hW.alike hK, hD.weaken (fun _ _ _ _ => trivial), hsz9.go hS hW hU hFc⟩⟩ rfl rfl hl.1 rfl (lv_room (Nat.le_of_ble_eq_true rfl)) dX4_readEither_80 ⟨Nat.le_of_ble_eq_true rfl, Nat.le_of_ble_eq_true rfl⟩) hS (fun q _ h => hFc q h) hFc (fun r_496 u t H1 locs ht hvm w_497 hB hz1 hk1 hS => ?_)
      obtain ⟨ws_498, ty_499, hm_500, ht_502, hP1, hK1, hD1, hx_501⟩ := hB
      rw [ht] at hP1
      have hK := va_K.moved hvm.symm hK1
      have hD := hD1.weaken (fun _ _ _ h => hFc _ h)
      generalize H1 = H at hP1 hS ⊢
      have hP := hP1
      obtain ⟨g_504, e_503, h_505⟩ := hm_500.obj e_475
      obtain ⟨z_506, z_507, z_508, z_509, z_510, z_511, rfl⟩ := smX4 h_505
      obtain ⟨g_513, e_512, h_514⟩ := hm_500.obj e_495
      obtain ⟨z_515, z_516, z_517, z_518, rfl⟩ := smX6 h_514
      obtain ⟨f_520, e_519⟩ := hm_500.arrI e_483
      have u_521 := ht_502 _ _ u_485
      obtain ⟨f_523, e_522⟩ := hm_500.arrI e_486
      have u_524 := ht_502 _ _ u_488
      have hsm := hsm.tr (hm_500.mono (by decide))
      have hlp_101 := hlp_101.tr (hm_500.mono (by decide))
      have htx := htx.tr ht_502
      obtain ⟨ts_525, te_526, cc_527, ra_528, rb_529, rc_530, rv_531, re_532, ya_533, h1_534, h2_535, h3_536, h4_537, er_538, et_539, wr_540, wt_541, ⟨k_542, c9_543, t_544, f_545, e_546, u_547, w_548⟩, ⟨k_549, c9_550, t_551, f_552, e_553, u_554, w_555⟩⟩ := id hx_501
      refine lv_istore_n (lv' := [(2, .int r_496), (3, .int 1), (5, .int 0), (4, .int (nI i_93)), (1, .int 1), (0, .ref rd)]) hx hb dX4_readEither_83 rfl hl (by decide) rfl (fun ls hl => ?_)
      refine lv_iload hx hb dX4_readEither_84 (lv_at hl 2 rfl) ?_
      refine lv_if_eq (tgt := 95) hx hb dX4_readEither_86 (by decide) (fun c_556 => ?_) (fun c_556 => absurd (by decide) c_556)
      refine lv_iinc (v := nI (i_93 + 1)) (lv' := [(4, .int (nI (i_93 + 1))), (2, .int r_496), (3, .int 1), (5, .int 0), (1, .int 1), (0, .ref rd)]) hx hb dX4_readEither_95 hl (k := 3) rfl (nI_add i_93 1) (by decide) rfl (fun ls hl => ?_)
      refine lv_goto (tgt := 11) hx hb dX4_readEither_98 (by decide) ?_
      exact ih_92 (i_93 + 1, r_496, 1) ws_498 _ _ ls (by show 400 - (i_93 + 1) < 400 - i_93; omega) ⟨hlp_101, ⟨ty_499, hK, htx, (⟨ts_525, te_526, cc_527, ra_528, rb_529, rc_530, rv_531, re_532, ya_533, by omega, by omega, by omega, by omega, er_538, et_539, wr_540, wt_541, ⟨k_542, c9_543, t_544, f_545, e_546, u_547, w_548⟩, ⟨k_549, c9_550, t_551, f_552, e_553, u_554, w_555⟩⟩ : RS ρ ws_498 ty_499 rd krd tp ktp cd bb tl)⟩, (show (i_93 + 1) ≤ 400 from by omega), (show r_496 = 0 ∨ r_496 = 1 from w_497), (show 1 = 0 ∨ 1 = 1 from Or.inr rfl)⟩ hP hD hS (lv_sub hl [0, 1, 2, 4, 5] rfl)
    refine lv_aload_n hx hb dX4_readEither_50 rfl (lv_at hl 5 rfl) ?_
    refine lv_bipush (v := (-3)) hx hb dX4_readEither_51 (by decide) ?_
    have hFc := free_all hD hS hA
    refine va_callv (va_runV (As := [.int (-3)]) (rest := []) ⟨hx, hb, hml, hown, hts⟩ (r_addCode l D ρ ws_362 ty_363 adK adV fo rd krd tp ktp cd bb tl (-3) H.size (⟨ts_125, te_126, cc_127, ra_128, rb_129, rc_130, rv_131, re_132, ya_133, by omega, by omega, by omega, by omega, e_367, e_368, wr_140, wt_141, ⟨k_142, c9_143, t_144, f_370, e_369, u_371, w_148⟩, ⟨k_149, c9_150, t_151, f_373, e_372, u_374, w_155⟩⟩ : RS ρ ws_362 ty_363 rd krd tp ktp cd bb tl)) (cwV 1 hts gX4_readEither_X4_addCode rfl rfl rfl (by decide +kernel) ⟨Nat.le_of_ble_eq_true rfl, Nat.le_of_ble_eq_true rfl⟩) ⟨fun a U g mk q => by obtain ⟨q0, q1, qP, qK, qD, qS⟩ := q; exact ⟨q0, q1, qP, va_K.moved (u := U) (U := U.calling g mk a) (Vm.Alike.refl U.vm) qK, qD, SZ.same rfl rfl qS⟩, va_recv hK hP (ci := 4) (q0 := krd) rfl e_367, fun U hU hW => ⟨rfl, by rw [hU], by rw [hU]; exact hP, va_K.moved hW.alike hK, hD.weaken (fun _ _ _ _ => trivial), hsz9.go hS hW hU hFc⟩⟩ rfl rfl hl.1 rfl (lv_room (Nat.le_of_ble_eq_true rfl)) dX4_readEither_53 ⟨Nat.le_of_ble_eq_true rfl, Nat.le_of_ble_eq_true rfl⟩) hS (fun q _ h => hFc q h) hFc (fun u t H1 locs ht hvm w_558 hB hz1 hk1 hS => ?_)
    obtain ⟨ws_559, ty_560, hm_561, ht_563, hP1, hK1, hD1, hx_562⟩ := hB
    rw [ht] at hP1
    have hK := va_K.moved hvm.symm hK1
    have hD := hD1.weaken (fun _ _ _ h => hFc _ h)
    generalize H1 = H at hP1 hS ⊢
    have hP := hP1
    obtain ⟨g_565, e_564, h_566⟩ := hm_561.obj e_367
    obtain ⟨z_567, z_568, z_569, z_570, z_571, z_572, rfl⟩ := smX4 h_566
    obtain ⟨g_574, e_573, h_575⟩ := hm_561.obj e_368
    obtain ⟨z_576, z_577, z_578, z_579, rfl⟩ := smX6 h_575
    obtain ⟨f_581, e_580⟩ := hm_561.arrI e_369
    have u_582 := ht_563 _ _ u_371
    obtain ⟨f_584, e_583⟩ := hm_561.arrI e_372
    have u_585 := ht_563 _ _ u_374
    have hsm := hsm.tr (hm_561.mono (by decide))
    have hlp_101 := hlp_101.tr (hm_561.mono (by decide))
    have htx := htx.tr ht_563
    obtain ⟨ts_586, te_587, cc_588, ra_589, rb_590, rc_591, rv_592, re_593, ya_594, h1_595, h2_596, h3_597, h4_598, er_599, et_600, wr_601, wt_602, ⟨k_603, c9_604, t_605, f_606, e_607, u_608, w_609⟩, ⟨k_610, c9_611, t_612, f_613, e_614, u_615, w_616⟩⟩ := id hx_562
    refine lv_iload_n hx hb dX4_readEither_56 rfl (lv_at hl 3 rfl) ?_
    refine lv_if_ne (tgt := 65) hx hb dX4_readEither_57 (by decide) (fun c_617 => ?_) (fun c_617 => ?_)
    · refine lv_iconst (v := 1) hx hb dX4_readEither_65 (by decide) ?_
      refine lv_goto (tgt := 70) hx hb dX4_readEither_66 (by decide) ?_
      refine lv_istore_n (lv' := [(3, .int 1), (5, .int 0), (4, .int (nI i_93)), (2, .int x_94), (1, .int 1), (0, .ref rd)]) hx hb dX4_readEither_70 rfl hl (by decide) rfl (fun ls hl => ?_)
      refine lv_aload_n hx hb dX4_readEither_71 rfl (lv_at hl 5 rfl) ?_
      refine va_get (D := D) (ci := 4) (v := .ref tp) (C := RX4) (T := TX4) (N := 8) hx hb hts hin4 hown hK hP krd er_599 rfl 0 (by decide) (hts (.fieldLink RX4 12 "HoneyHouse$RuleReader" "tape" "LHoneyHouse$Tape;") (List.mem_of_getElem? (i := 1) rfl)) (fun _ h9 => h9) rfl dX4_readEither_72 ?_
      have hFc := free_all hD hS hA
      refine va_callv (va_runV (As := []) (rest := []) ⟨hx, hb, hml, hown, hts⟩ (a_advance l D ρ ws_559 ty_560 tp ktp tl te_587 ya_594 (nI ts_586) bb k_610 c9_611 t_612 f_613 H.size (by omega) (by omega) et_600 e_614 u_615 wt_602) (cwV 0 hts gX4_readEither_X6_advance rfl rfl rfl (by decide +kernel) ⟨Nat.le_of_ble_eq_true rfl, Nat.le_of_ble_eq_true rfl⟩) ⟨fun a U g mk q => by obtain ⟨q0, q1, qP, qK, qD⟩ := q; exact ⟨q0, q1, qP, va_K.moved (u := U) (U := U.calling g mk a) (Vm.Alike.refl U.vm) qK, qD⟩, va_recv hK hP (ci := 6) (q0 := ktp) rfl et_600, fun U hU hW => ⟨rfl, by rw [hU], by rw [hU]; exact hP, va_K.moved hW.alike hK, hD.weaken (fun _ _ _ _ => trivial)⟩⟩ rfl rfl hl.1 rfl (lv_room (Nat.le_of_ble_eq_true rfl)) dX4_readEither_75 ⟨Nat.le_of_ble_eq_true rfl, Nat.le_of_ble_eq_true rfl⟩) hS (fun q _ h => hFc q h) hFc (fun u t H1 locs ht hvm w_619 hB hz1 hk1 hS => ?_)
      obtain ⟨ws_620, ty_621, hm_622, ht_624, hP1, hK1, hD1, hx_623⟩ := hB
      rw [ht] at hP1
      have hK := va_K.moved hvm.symm hK1
      have hD := hD1.weaken (fun _ _ _ h => hFc _ h)
      generalize H1 = H at hP1 hS ⊢
      have hP := hP1
      have e_625 := hm_622.objK er_599 (by decide)
      obtain ⟨g_627, e_626, h_628⟩ := hm_622.obj et_600
      obtain ⟨z_629, z_630, z_631, z_632, rfl⟩ := smX6 h_628
      obtain ⟨f_634, e_633⟩ := hm_622.arrI e_607
      have u_635 := ht_624 _ _ u_608
      obtain ⟨f_637, e_636⟩ := hm_622.arrI e_614
      have u_638 := ht_624 _ _ u_615
      have hsm := hsm.tr (hm_622.mono (by decide))
      have hlp_101 := hlp_101.tr (hm_622.mono (by decide))
      have htx := htx.tr ht_624
      obtain ⟨k_639, s_640, e_641, h_642, h_643, h_644, e_645⟩ := hx_623
      refine lv_aload_n hx hb dX4_readEither_78 rfl (lv_at hl 5 rfl) ?_
      refine lv_iload_n hx hb dX4_readEither_79 rfl (lv_at hl 4 rfl) ?_
      have hFc := free_all hD hS hA
      refine va_calli (va_runV (As := [.int 1]) (rest := []) ⟨hx, hb, hml, hown, hts⟩ (r_readOne1 l D ρ ws_620 ty_621 adK adV fo rd krd tp ktp cd bb tl  H.size (⟨s_640, e_641, cc_588, ra_589, rb_590, rc_591, rv_592, re_593, nI k_639, by omega, by omega, by omega, by omega, e_625, e_645, wr_601, wt_602, ⟨k_603, c9_604, t_605, f_634, e_633, u_635, w_609⟩, ⟨k_610, c9_611, t_612, f_637, e_636, u_638, w_616⟩⟩ : RS ρ ws_620 ty_621 rd krd tp ktp cd bb tl)) (cwV 1 hts gX4_readEither_X4_readOne rfl rfl rfl (by decide +kernel) ⟨Nat.le_of_ble_eq_true rfl, Nat.le_of_ble_eq_true rfl⟩) ⟨fun a U g mk q => by obtain ⟨q0, q1, qP, qK, qD, qS⟩ := q; exact ⟨q0, q1, qP, va_K.moved (u := U) (U := U.calling g mk a) (Vm.Alike.refl U.vm) qK, qD, SZ.same rfl rfl qS⟩, va_recv hK hP (ci := 4) (q0 := krd) rfl e_625, fun U hU hW => ⟨rfl, by rw [hU], by rw [hU]; exact hP, va_K.moved hW.alike hK, hD.weaken (fun _ _ _ _ => trivial), hsz9.go hS hW hU hFc⟩⟩ rfl rfl hl.1 rfl (lv_room (Nat.le_of_ble_eq_true rfl)) dX4_readEither_80 ⟨Nat.le_of_ble_eq_true rfl, Nat.le_of_ble_eq_true rfl⟩) hS (fun q _ h => hFc q h) hFc (fun r_646 u t H1 locs ht hvm w_647 hB hz1 hk1 hS => ?_)
      obtain ⟨ws_648, ty_649, hm_650, ht_652, hP1, hK1, hD1, hx_651⟩ := hB
      rw [ht] at hP1
      have hK := va_K.moved hvm.symm hK1
      have hD := hD1.weaken (fun _ _ _ h => hFc _ h)
      generalize H1 = H at hP1 hS ⊢
      have hP := hP1
      obtain ⟨g_654, e_653, h_655⟩ := hm_650.obj e_625
      obtain ⟨z_656, z_657, z_658, z_659, z_660, z_661, rfl⟩ := smX4 h_655
      obtain ⟨g_663, e_662, h_664⟩ := hm_650.obj e_645
      obtain ⟨z_665, z_666, z_667, z_668, rfl⟩ := smX6 h_664
      obtain ⟨f_670, e_669⟩ := hm_650.arrI e_633
      have u_671 := ht_652 _ _ u_635
      obtain ⟨f_673, e_672⟩ := hm_650.arrI e_636
      have u_674 := ht_652 _ _ u_638
      have hsm := hsm.tr (hm_650.mono (by decide))
      have hlp_101 := hlp_101.tr (hm_650.mono (by decide))
      have htx := htx.tr ht_652
      obtain ⟨ts_675, te_676, cc_677, ra_678, rb_679, rc_680, rv_681, re_682, ya_683, h1_684, h2_685, h3_686, h4_687, er_688, et_689, wr_690, wt_691, ⟨k_692, c9_693, t_694, f_695, e_696, u_697, w_698⟩, ⟨k_699, c9_700, t_701, f_702, e_703, u_704, w_705⟩⟩ := id hx_651
      refine lv_istore_n (lv' := [(2, .int r_646), (3, .int 1), (5, .int 0), (4, .int (nI i_93)), (1, .int 1), (0, .ref rd)]) hx hb dX4_readEither_83 rfl hl (by decide) rfl (fun ls hl => ?_)
      refine lv_iload hx hb dX4_readEither_84 (lv_at hl 2 rfl) ?_
      refine lv_if_eq (tgt := 95) hx hb dX4_readEither_86 (by decide) (fun c_706 => ?_) (fun c_706 => absurd (by decide) c_706)
      refine lv_iinc (v := nI (i_93 + 1)) (lv' := [(4, .int (nI (i_93 + 1))), (2, .int r_646), (3, .int 1), (5, .int 0), (1, .int 1), (0, .ref rd)]) hx hb dX4_readEither_95 hl (k := 3) rfl (nI_add i_93 1) (by decide) rfl (fun ls hl => ?_)
      refine lv_goto (tgt := 11) hx hb dX4_readEither_98 (by decide) ?_
      exact ih_92 (i_93 + 1, r_646, 1) ws_648 _ _ ls (by show 400 - (i_93 + 1) < 400 - i_93; omega) ⟨hlp_101, ⟨ty_649, hK, htx, (⟨ts_675, te_676, cc_677, ra_678, rb_679, rc_680, rv_681, re_682, ya_683, by omega, by omega, by omega, by omega, er_688, et_689, wr_690, wt_691, ⟨k_692, c9_693, t_694, f_695, e_696, u_697, w_698⟩, ⟨k_699, c9_700, t_701, f_702, e_703, u_704, w_705⟩⟩ : RS ρ ws_648 ty_649 rd krd tp ktp cd bb tl)⟩, (show (i_93 + 1) ≤ 400 from by omega), (show r_646 = 0 ∨ r_646 = 1 from w_647), (show 1 = 0 ∨ 1 = 1 from Or.inr rfl)⟩ hP hD hS (lv_sub hl [0, 1, 2, 4, 5] rfl)
    refine lv_iload hx hb dX4_readEither_60 (lv_at hl 0 rfl) ?_
    refine lv_if_ne (tgt := 69) hx hb dX4_readEither_62 (by decide) (fun c_707 => absurd (by decide) c_707) (fun c_707 => ?_)
    refine lv_iconst (v := 1) hx hb dX4_readEither_65 (by decide) ?_
    refine lv_goto (tgt := 70) hx hb dX4_readEither_66 (by decide) ?_
    refine lv_istore_n (lv' := [(3, .int 1), (5, .int 0), (4, .int (nI i_93)), (2, .int x_94), (1, .int 1), (0, .ref rd)]) hx hb dX4_readEither_70 rfl hl (by decide) rfl (fun ls hl => ?_)
    refine lv_aload_n hx hb dX4_readEither_71 rfl (lv_at hl 5 rfl) ?_
    refine va_get (D := D) (ci := 4) (v := .ref tp) (C := RX4) (T := TX4) (N := 8) hx hb hts hin4 hown hK hP krd er_599 rfl 0 (by decide) (hts (.fieldLink RX4 12 "HoneyHouse$RuleReader" "tape" "LHoneyHouse$Tape;") (List.mem_of_getElem? (i := 1) rfl)) (fun _ h9 => h9) rfl dX4_readEither_72 ?_
    have hFc := free_all hD hS hA
    refine va_callv (va_runV (As := []) (rest := []) ⟨hx, hb, hml, hown, hts⟩ (a_advance l D ρ ws_559 ty_560 tp ktp tl te_587 ya_594 (nI ts_586) bb k_610 c9_611 t_612 f_613 H.size (by omega) (by omega) et_600 e_614 u_615 wt_602) (cwV 0 hts gX4_readEither_X6_advance rfl rfl rfl (by decide +kernel) ⟨Nat.le_of_ble_eq_true rfl, Nat.le_of_ble_eq_true rfl⟩) ⟨fun a U g mk q => by obtain ⟨q0, q1, qP, qK, qD⟩ := q; exact ⟨q0, q1, qP, va_K.moved (u := U) (U := U.calling g mk a) (Vm.Alike.refl U.vm) qK, qD⟩, va_recv hK hP (ci := 6) (q0 := ktp) rfl et_600, fun U hU hW => ⟨rfl, by rw [hU], by rw [hU]; exact hP, va_K.moved hW.alike hK, hD.weaken (fun _ _ _ _ => trivial)⟩⟩ rfl rfl hl.1 rfl (lv_room (Nat.le_of_ble_eq_true rfl)) dX4_readEither_75 ⟨Nat.le_of_ble_eq_true rfl, Nat.le_of_ble_eq_true rfl⟩) hS (fun q _ h => hFc q h) hFc (fun u t H1 locs ht hvm w_709 hB hz1 hk1 hS => ?_)
    obtain ⟨ws_710, ty_711, hm_712, ht_714, hP1, hK1, hD1, hx_713⟩ := hB
    rw [ht] at hP1
    have hK := va_K.moved hvm.symm hK1
    have hD := hD1.weaken (fun _ _ _ h => hFc _ h)
    generalize H1 = H at hP1 hS ⊢
    have hP := hP1
    have e_715 := hm_712.objK er_599 (by decide)
    obtain ⟨g_717, e_716, h_718⟩ := hm_712.obj et_600
    obtain ⟨z_719, z_720, z_721, z_722, rfl⟩ := smX6 h_718
    obtain ⟨f_724, e_723⟩ := hm_712.arrI e_607
    have u_725 := ht_714 _ _ u_608
    obtain ⟨f_727, e_726⟩ := hm_712.arrI e_614
    have u_728 := ht_714 _ _ u_615
    have hsm := hsm.tr (hm_712.mono (by decide))
    have hlp_101 := hlp_101.tr (hm_712.mono (by decide))
    have htx := htx.tr ht_714
    obtain ⟨k_729, s_730, e_731, h_732, h_733, h_734, e_735⟩ := hx_713
    refine lv_aload_n hx hb dX4_readEither_78 rfl (lv_at hl 5 rfl) ?_
    refine lv_iload_n hx hb dX4_readEither_79 rfl (lv_at hl 4 rfl) ?_
    have hFc := free_all hD hS hA
    refine va_calli (va_runV (As := [.int 1]) (rest := []) ⟨hx, hb, hml, hown, hts⟩ (r_readOne1 l D ρ ws_710 ty_711 adK adV fo rd krd tp ktp cd bb tl  H.size (⟨s_730, e_731, cc_588, ra_589, rb_590, rc_591, rv_592, re_593, nI k_729, by omega, by omega, by omega, by omega, e_715, e_735, wr_601, wt_602, ⟨k_603, c9_604, t_605, f_724, e_723, u_725, w_609⟩, ⟨k_610, c9_611, t_612, f_727, e_726, u_728, w_616⟩⟩ : RS ρ ws_710 ty_711 rd krd tp ktp cd bb tl)) (cwV 1 hts gX4_readEither_X4_readOne rfl rfl rfl (by decide +kernel) ⟨Nat.le_of_ble_eq_true rfl, Nat.le_of_ble_eq_true rfl⟩) ⟨fun a U g mk q => by obtain ⟨q0, q1, qP, qK, qD, qS⟩ := q; exact ⟨q0, q1, qP, va_K.moved (u := U) (U := U.calling g mk a) (Vm.Alike.refl U.vm) qK, qD, SZ.same rfl rfl qS⟩, va_recv hK hP (ci := 4) (q0 := krd) rfl e_715, fun U hU hW => ⟨rfl, by rw [hU], by rw [hU]; exact hP, va_K.moved hW.alike hK, hD.weaken (fun _ _ _ _ => trivial), hsz9.go hS hW hU hFc⟩⟩ rfl rfl hl.1 rfl (lv_room (Nat.le_of_ble_eq_true rfl)) dX4_readEither_80 ⟨Nat.le_of_ble_eq_true rfl, Nat.le_of_ble_eq_true rfl⟩) hS (fun q _ h => hFc q h) hFc (fun r_736 u t H1 locs ht hvm w_737 hB hz1 hk1 hS => ?_)
    obtain ⟨ws_738, ty_739, hm_740, ht_742, hP1, hK1, hD1, hx_741⟩ := hB
    rw [ht] at hP1
    have hK := va_K.moved hvm.symm hK1
    have hD := hD1.weaken (fun _ _ _ h => hFc _ h)
    generalize H1 = H at hP1 hS ⊢
    have hP := hP1
    obtain ⟨g_744, e_743, h_745⟩ := hm_740.obj e_715
    obtain ⟨z_746, z_747, z_748, z_749, z_750, z_751, rfl⟩ := smX4 h_745
    obtain ⟨g_753, e_752, h_754⟩ := hm_740.obj e_735
    obtain ⟨z_755, z_756, z_757, z_758, rfl⟩ := smX6 h_754
    obtain ⟨f_760, e_759⟩ := hm_740.arrI e_723
    have u_761 := ht_742 _ _ u_725
    obtain ⟨f_763, e_762⟩ := hm_740.arrI e_726
    have u_764 := ht_742 _ _ u_728
    have hsm := hsm.tr (hm_740.mono (by decide))
    have hlp_101 := hlp_101.tr (hm_740.mono (by decide))
    have htx := htx.tr ht_742
    obtain ⟨ts_765, te_766, cc_767, ra_768, rb_769, rc_770, rv_771, re_772, ya_773, h1_774, h2_775, h3_776, h4_777, er_778, et_779, wr_780, wt_781, ⟨k_782, c9_783, t_784, f_785, e_786, u_787, w_788⟩, ⟨k_789, c9_790, t_791, f_792, e_793, u_794, w_795⟩⟩ := id hx_741
    refine lv_istore_n (lv' := [(2, .int r_736), (3, .int 1), (5, .int 0), (4, .int (nI i_93)), (1, .int 1), (0, .ref rd)]) hx hb dX4_readEither_83 rfl hl (by decide) rfl (fun ls hl => ?_)
    refine lv_iload hx hb dX4_readEither_84 (lv_at hl 2 rfl) ?_
    refine lv_if_eq (tgt := 95) hx hb dX4_readEither_86 (by decide) (fun c_796 => ?_) (fun c_796 => absurd (by decide) c_796)
    refine lv_iinc (v := nI (i_93 + 1)) (lv' := [(4, .int (nI (i_93 + 1))), (2, .int r_736), (3, .int 1), (5, .int 0), (1, .int 1), (0, .ref rd)]) hx hb dX4_readEither_95 hl (k := 3) rfl (nI_add i_93 1) (by decide) rfl (fun ls hl => ?_)
    refine lv_goto (tgt := 11) hx hb dX4_readEither_98 (by decide) ?_
    exact ih_92 (i_93 + 1, r_736, 1) ws_738 _ _ ls (by show 400 - (i_93 + 1) < 400 - i_93; omega) ⟨hlp_101, ⟨ty_739, hK, htx, (⟨ts_765, te_766, cc_767, ra_768, rb_769, rc_770, rv_771, re_772, ya_773, by omega, by omega, by omega, by omega, er_778, et_779, wr_780, wt_781, ⟨k_782, c9_783, t_784, f_785, e_786, u_787, w_788⟩, ⟨k_789, c9_790, t_791, f_792, e_793, u_794, w_795⟩⟩ : RS ρ ws_738 ty_739 rd krd tp ktp cd bb tl)⟩, (show (i_93 + 1) ≤ 400 from by omega), (show r_736 = 0 ∨ r_736 = 1 from w_737), (show 1 = 0 ∨ 1 = 1 from Or.inr rfl)⟩ hP hD hS (lv_sub hl [0, 1, 2, 4, 5] rfl)
  refine lv_istore (lv' := [(5, .int 1), (4, .int (nI i_93)), (2, .int x_94), (3, .int y_95), (1, .int 1), (0, .ref rd)]) hx hb dX4_readEither_39 hl (by decide) rfl (fun ls hl => ?_)
  refine lv_iload hx hb dX4_readEither_41 (lv_at hl 0 rfl) ?_
  refine lv_if_ne (tgt := 56) hx hb dX4_readEither_43 (by decide) (fun c_797 => ?_) (fun c_797 => absurd c_797 (by decide))
  refine lv_iload_n hx hb dX4_readEither_56 rfl (lv_at hl 3 rfl) ?_
  refine lv_if_ne (tgt := 65) hx hb dX4_readEither_57 (by decide) (fun c_798 => ?_) (fun c_798 => ?_)
  · refine lv_iconst (v := 1) hx hb dX4_readEither_65 (by decide) ?_
    refine lv_goto (tgt := 70) hx hb dX4_readEither_66 (by decide) ?_
    refine lv_istore_n (lv' := [(3, .int 1), (5, .int 1), (4, .int (nI i_93)), (2, .int x_94), (1, .int 1), (0, .ref rd)]) hx hb dX4_readEither_70 rfl hl (by decide) rfl (fun ls hl => ?_)
    refine lv_aload_n hx hb dX4_readEither_71 rfl (lv_at hl 5 rfl) ?_
    refine va_get (D := D) (ci := 4) (v := .ref tp) (C := RX4) (T := TX4) (N := 8) hx hb hts hin4 hown hK hP krd e_367 rfl 0 (by decide) (hts (.fieldLink RX4 12 "HoneyHouse$RuleReader" "tape" "LHoneyHouse$Tape;") (List.mem_of_getElem? (i := 1) rfl)) (fun _ h9 => h9) rfl dX4_readEither_72 ?_
    have hFc := free_all hD hS hA
    refine va_callv (va_runV (As := []) (rest := []) ⟨hx, hb, hml, hown, hts⟩ (a_advance l D ρ ws_362 ty_363 tp ktp tl te_126 ya_133 (nI ts_125) bb k_149 c9_150 t_151 f_373 H.size (by omega) (by omega) e_368 e_372 u_374 wt_141) (cwV 0 hts gX4_readEither_X6_advance rfl rfl rfl (by decide +kernel) ⟨Nat.le_of_ble_eq_true rfl, Nat.le_of_ble_eq_true rfl⟩) ⟨fun a U g mk q => by obtain ⟨q0, q1, qP, qK, qD⟩ := q; exact ⟨q0, q1, qP, va_K.moved (u := U) (U := U.calling g mk a) (Vm.Alike.refl U.vm) qK, qD⟩, va_recv hK hP (ci := 6) (q0 := ktp) rfl e_368, fun U hU hW => ⟨rfl, by rw [hU], by rw [hU]; exact hP, va_K.moved hW.alike hK, hD.weaken (fun _ _ _ _ => trivial)⟩⟩ rfl rfl hl.1 rfl (lv_room (Nat.le_of_ble_eq_true rfl)) dX4_readEither_75 ⟨Nat.le_of_ble_eq_true rfl, Nat.le_of_ble_eq_true rfl⟩) hS (fun q _ h => hFc q h) hFc (fun u t H1 locs ht hvm w_800 hB hz1 hk1 hS => ?_)
    obtain ⟨ws_801, ty_802, hm_803, ht_805, hP1, hK1, hD1, hx_804⟩ := hB
    rw [ht] at hP1
    have hK := va_K.moved hvm.symm hK1
    have hD := hD1.weaken (fun _ _ _ h => hFc _ h)
    generalize H1 = H at hP1 hS ⊢
    have hP := hP1
    have e_806 := hm_803.objK e_367 (by decide)
    obtain ⟨g_808, e_807, h_809⟩ := hm_803.obj e_368
    obtain ⟨z_810, z_811, z_812, z_813, rfl⟩ := smX6 h_809
    obtain ⟨f_815, e_814⟩ := hm_803.arrI e_369
    have u_816 := ht_805 _ _ u_371
    obtain ⟨f_818, e_817⟩ := hm_803.arrI e_372
    have u_819 := ht_805 _ _ u_374
    have hsm := hsm.tr (hm_803.mono (by decide))
    have hlp_101 := hlp_101.tr (hm_803.mono (by decide))
    have htx := htx.tr ht_805
    obtain ⟨k_820, s_821, e_822, h_823, h_824, h_825, e_826⟩ := hx_804
    refine lv_aload_n hx hb dX4_readEither_78 rfl (lv_at hl 5 rfl) ?_
    refine lv_iload_n hx hb dX4_readEither_79 rfl (lv_at hl 4 rfl) ?_
    have hFc := free_all hD hS hA
    refine va_calli (va_runV (As := [.int 1]) (rest := []) ⟨hx, hb, hml, hown, hts⟩ (r_readOne1 l D ρ ws_801 ty_802 adK adV fo rd krd tp ktp cd bb tl  H.size (⟨s_821, e_822, cc_127, ra_128, rb_129, rc_130, rv_131, re_132, nI k_820, by omega, by omega, by omega, by omega, e_806, e_826, wr_140, wt_141, ⟨k_142, c9_143, t_144, f_815, e_814, u_816, w_148⟩, ⟨k_149, c9_150, t_151, f_818, e_817, u_819, w_155⟩⟩ : RS ρ ws_801 ty_802 rd krd tp ktp cd bb tl)) (cwV 1 hts gX4_readEither_X4_readOne rfl rfl rfl (by decide +kernel) ⟨Nat.le_of_ble_eq_true rfl, Nat.le_of_ble_eq_true rfl⟩) ⟨fun a U g mk q => by obtain ⟨q0, q1, qP, qK, qD, qS⟩ := q; exact ⟨q0, q1, qP, va_K.moved (u := U) (U := U.calling g mk a) (Vm.Alike.refl U.vm) qK, qD, SZ.same rfl rfl qS⟩, va_recv hK hP (ci := 4) (q0 := krd) rfl e_806, fun U hU hW => ⟨rfl, by rw [hU], by rw [hU]; exact hP, va_K.moved hW.alike hK, hD.weaken (fun _ _ _ _ => trivial), hsz9.go hS hW hU hFc⟩⟩ rfl rfl hl.1 rfl (lv_room (Nat.le_of_ble_eq_true rfl)) dX4_readEither_80 ⟨Nat.le_of_ble_eq_true rfl, Nat.le_of_ble_eq_true rfl⟩) hS (fun q _ h => hFc q h) hFc (fun r_827 u t H1 locs ht hvm w_828 hB hz1 hk1 hS => ?_)
    obtain ⟨ws_829, ty_830, hm_831, ht_833, hP1, hK1, hD1, hx_832⟩ := hB
    rw [ht] at hP1
    have hK := va_K.moved hvm.symm hK1
    have hD := hD1.weaken (fun _ _ _ h => hFc _ h)
    generalize H1 = H at hP1 hS ⊢
    have hP := hP1
    obtain ⟨g_835, e_834, h_836⟩ := hm_831.obj e_806
    obtain ⟨z_837, z_838, z_839, z_840, z_841, z_842, rfl⟩ := smX4 h_836
    obtain ⟨g_844, e_843, h_845⟩ := hm_831.obj e_826
    obtain ⟨z_846, z_847, z_848, z_849, rfl⟩ := smX6 h_845
    obtain ⟨f_851, e_850⟩ := hm_831.arrI e_814
    have u_852 := ht_833 _ _ u_816
    obtain ⟨f_854, e_853⟩ := hm_831.arrI e_817
    have u_855 := ht_833 _ _ u_819
    have hsm := hsm.tr (hm_831.mono (by decide))
    have hlp_101 := hlp_101.tr (hm_831.mono (by decide))
    have htx := htx.tr ht_833
    obtain ⟨ts_856, te_857, cc_858, ra_859, rb_860, rc_861, rv_862, re_863, ya_864, h1_865, h2_866, h3_867, h4_868, er_869, et_870, wr_871, wt_872, ⟨k_873, c9_874, t_875, f_876, e_877, u_878, w_879⟩, ⟨k_880, c9_881, t_882, f_883, e_884, u_885, w_886⟩⟩ := id hx_832
    refine lv_istore_n (lv' := [(2, .int r_827), (3, .int 1), (5, .int 1), (4, .int (nI i_93)), (1, .int 1), (0, .ref rd)]) hx hb dX4_readEither_83 rfl hl (by decide) rfl (fun ls hl => ?_)
    refine lv_iload hx hb dX4_readEither_84 (lv_at hl 2 rfl) ?_
    refine lv_if_eq (tgt := 95) hx hb dX4_readEither_86 (by decide) (fun c_887 => absurd c_887 (by decide)) (fun c_887 => ?_)
    refine lv_aload_n hx hb dX4_readEither_89 rfl (lv_at hl 5 rfl) ?_
    refine lv_bipush (v := (-2)) hx hb dX4_readEither_90 (by decide) ?_
    have hFc := free_all hD hS hA
    refine va_callv (va_runV (As := [.int (-2)]) (rest := []) ⟨hx, hb, hml, hown, hts⟩ (r_addCode l D ρ ws_829 ty_830 adK adV fo rd krd tp ktp cd bb tl (-2) H.size (⟨ts_856, te_857, cc_858, ra_859, rb_860, rc_861, rv_862, re_863, ya_864, by omega, by omega, by omega, by omega, er_869, et_870, wr_871, wt_872, ⟨k_873, c9_874, t_875, f_876, e_877, u_878, w_879⟩, ⟨k_880, c9_881, t_882, f_883, e_884, u_885, w_886⟩⟩ : RS ρ ws_829 ty_830 rd krd tp ktp cd bb tl)) (cwV 1 hts gX4_readEither_X4_addCode rfl rfl rfl (by decide +kernel) ⟨Nat.le_of_ble_eq_true rfl, Nat.le_of_ble_eq_true rfl⟩) ⟨fun a U g mk q => by obtain ⟨q0, q1, qP, qK, qD, qS⟩ := q; exact ⟨q0, q1, qP, va_K.moved (u := U) (U := U.calling g mk a) (Vm.Alike.refl U.vm) qK, qD, SZ.same rfl rfl qS⟩, va_recv hK hP (ci := 4) (q0 := krd) rfl er_869, fun U hU hW => ⟨rfl, by rw [hU], by rw [hU]; exact hP, va_K.moved hW.alike hK, hD.weaken (fun _ _ _ _ => trivial), hsz9.go hS hW hU hFc⟩⟩ rfl rfl hl.1 rfl (lv_room (Nat.le_of_ble_eq_true rfl)) dX4_readEither_92 ⟨Nat.le_of_ble_eq_true rfl, Nat.le_of_ble_eq_true rfl⟩) hS (fun q _ h => hFc q h) hFc (fun u t H1 locs ht hvm w_889 hB hz1 hk1 hS => ?_)
    obtain ⟨ws_890, ty_891, hm_892, ht_894, hP1, hK1, hD1, hx_893⟩ := hB
    rw [ht] at hP1
    have hK := va_K.moved hvm.symm hK1
    have hD := hD1.weaken (fun _ _ _ h => hFc _ h)
    generalize H1 = H at hP1 hS ⊢
    have hP := hP1
    obtain ⟨g_896, e_895, h_897⟩ := hm_892.obj er_869
    obtain ⟨z_898, z_899, z_900, z_901, z_902, z_903, rfl⟩ := smX4 h_897
    obtain ⟨g_905, e_904, h_906⟩ := hm_892.obj et_870
    obtain ⟨z_907, z_908, z_909, z_910, rfl⟩ := smX6 h_906
    obtain ⟨f_912, e_911⟩ := hm_892.arrI e_877
    have u_913 := ht_894 _ _ u_878
    obtain ⟨f_915, e_914⟩ := hm_892.arrI e_884
    have u_916 := ht_894 _ _ u_885
    have hsm := hsm.tr (hm_892.mono (by decide))
    have hlp_101 := hlp_101.tr (hm_892.mono (by decide))
    have htx := htx.tr ht_894
    obtain ⟨ts_917, te_918, cc_919, ra_920, rb_921, rc_922, rv_923, re_924, ya_925, h1_926, h2_927, h3_928, h4_929, er_930, et_931, wr_932, wt_933, ⟨k_934, c9_935, t_936, f_937, e_938, u_939, w_940⟩, ⟨k_941, c9_942, t_943, f_944, e_945, u_946, w_947⟩⟩ := id hx_893
    refine lv_iinc (v := nI (i_93 + 1)) (lv' := [(4, .int (nI (i_93 + 1))), (2, .int r_827), (3, .int 1), (5, .int 1), (1, .int 1), (0, .ref rd)]) hx hb dX4_readEither_95 hl (k := 3) rfl (nI_add i_93 1) (by decide) rfl (fun ls hl => ?_)
    refine lv_goto (tgt := 11) hx hb dX4_readEither_98 (by decide) ?_
    exact ih_92 (i_93 + 1, r_827, 1) ws_890 _ _ ls (by show 400 - (i_93 + 1) < 400 - i_93; omega) ⟨hlp_101, ⟨ty_891, hK, htx, (⟨ts_917, te_918, cc_919, ra_920, rb_921, rc_922, rv_923, re_924, ya_925, by omega, by omega, by omega, by omega, er_930, et_931, wr_932, wt_933, ⟨k_934, c9_935, t_936, f_937, e_938, u_939, w_940⟩, ⟨k_941, c9_942, t_943, f_944, e_945, u_946, w_947⟩⟩ : RS ρ ws_890 ty_891 rd krd tp ktp cd bb tl)⟩, (show (i_93 + 1) ≤ 400 from by omega), (show r_827 = 0 ∨ r_827 = 1 from w_828), (show 1 = 0 ∨ 1 = 1 from Or.inr rfl)⟩ hP hD hS (lv_sub hl [0, 1, 2, 4, 5] rfl)
  refine lv_iload hx hb dX4_readEither_60 (lv_at hl 0 rfl) ?_
  refine lv_if_ne (tgt := 69) hx hb dX4_readEither_62 (by decide) (fun c_948 => ?_) (fun c_948 => absurd c_948 (by decide))
  refine lv_iconst (v := 0) hx hb dX4_readEither_69 (by decide) ?_
  refine lv_istore_n (lv' := [(3, .int 0), (5, .int 1), (4, .int (nI i_93)), (2, .int x_94), (1, .int 1), (0, .ref rd)]) hx hb dX4_readEither_70 rfl hl (by decide) rfl (fun ls hl => ?_)
  refine lv_aload_n hx hb dX4_readEither_71 rfl (lv_at hl 5 rfl) ?_
  refine va_get (D := D) (ci := 4) (v := .ref tp) (C := RX4) (T := TX4) (N := 8) hx hb hts hin4 hown hK hP krd e_367 rfl 0 (by decide) (hts (.fieldLink RX4 12 "HoneyHouse$RuleReader" "tape" "LHoneyHouse$Tape;") (List.mem_of_getElem? (i := 1) rfl)) (fun _ h9 => h9) rfl dX4_readEither_72 ?_
  have hFc := free_all hD hS hA
  refine va_callv (va_runV (As := []) (rest := []) ⟨hx, hb, hml, hown, hts⟩ (a_advance l D ρ ws_362 ty_363 tp ktp tl te_126 ya_133 (nI ts_125) bb k_149 c9_150 t_151 f_373 H.size (by omega) (by omega) e_368 e_372 u_374 wt_141) (cwV 0 hts gX4_readEither_X6_advance rfl rfl rfl (by decide +kernel) ⟨Nat.le_of_ble_eq_true rfl, Nat.le_of_ble_eq_true rfl⟩) ⟨fun a U g mk q => by obtain ⟨q0, q1, qP, qK, qD⟩ := q; exact ⟨q0, q1, qP, va_K.moved (u := U) (U := U.calling g mk a) (Vm.Alike.refl U.vm) qK, qD⟩, va_recv hK hP (ci := 6) (q0 := ktp) rfl e_368, fun U hU hW => ⟨rfl, by rw [hU], by rw [hU]; exact hP, va_K.moved hW.alike hK, hD.weaken (fun _ _ _ _ => trivial)⟩⟩ rfl rfl hl.1 rfl (lv_room (Nat.le_of_ble_eq_true rfl)) dX4_readEither_75 ⟨Nat.le_of_ble_eq_true rfl, Nat.le_of_ble_eq_true rfl⟩) hS (fun q _ h => hFc q h) hFc (fun u t H1 locs ht hvm w_950 hB hz1 hk1 hS => ?_)
  obtain ⟨ws_951, ty_952, hm_953, ht_955, hP1, hK1, hD1, hx_954⟩ := hB
  rw [ht] at hP1
  have hK := va_K.moved hvm.symm hK1
  have hD := hD1.weaken (fun _ _ _ h => hFc _ h)
  generalize H1 = H at hP1 hS ⊢
  have hP := hP1
  have e_956 := hm_953.objK e_367 (by decide)
  obtain ⟨g_958, e_957, h_959⟩ := hm_953.obj e_368
  obtain ⟨z_960, z_961, z_962, z_963, rfl⟩ := smX6 h_959
  obtain ⟨f_965, e_964⟩ := hm_953.arrI e_369
  have u_966 := ht_955 _ _ u_371
  obtain ⟨f_968, e_967⟩ := hm_953.arrI e_372
  have u_969 := ht_955 _ _ u_374
  have hsm := hsm.tr (hm_953.mono (by decide))
  have hlp_101 := hlp_101.tr (hm_953.mono (by decide))
  have htx := htx.tr ht_955
  obtain ⟨k_970, s_971, e_972, h_973, h_974, h_975, e_976⟩ := hx_954
  refine lv_aload_n hx hb dX4_readEither_78 rfl (lv_at hl 5 rfl) ?_
  refine lv_iload_n hx hb dX4_readEither_79 rfl (lv_at hl 4 rfl) ?_
  have hFc := free_all hD hS hA
  refine va_calli (va_runV (As := [.int 1]) (rest := []) ⟨hx, hb, hml, hown, hts⟩ (r_readOne1 l D ρ ws_951 ty_952 adK adV fo rd krd tp ktp cd bb tl  H.size (⟨s_971, e_972, cc_127, ra_128, rb_129, rc_130, rv_131, re_132, nI k_970, by omega, by omega, by omega, by omega, e_956, e_976, wr_140, wt_141, ⟨k_142, c9_143, t_144, f_965, e_964, u_966, w_148⟩, ⟨k_149, c9_150, t_151, f_968, e_967, u_969, w_155⟩⟩ : RS ρ ws_951 ty_952 rd krd tp ktp cd bb tl)) (cwV 1 hts gX4_readEither_X4_readOne rfl rfl rfl (by decide +kernel) ⟨Nat.le_of_ble_eq_true rfl, Nat.le_of_ble_eq_true rfl⟩) ⟨fun a U g mk q => by obtain ⟨q0, q1, qP, qK, qD, qS⟩ := q; exact ⟨q0, q1, qP, va_K.moved (u := U) (U := U.calling g mk a) (Vm.Alike.refl U.vm) qK, qD, SZ.same rfl rfl qS⟩, va_recv hK hP (ci := 4) (q0 := krd) rfl e_956, fun U hU hW => ⟨rfl, by rw [hU], by rw [hU]; exact hP, va_K.moved hW.alike hK, hD.weaken (fun _ _ _ _ => trivial), hsz9.go hS hW hU hFc⟩⟩ rfl rfl hl.1 rfl (lv_room (Nat.le_of_ble_eq_true rfl)) dX4_readEither_80 ⟨Nat.le_of_ble_eq_true rfl, Nat.le_of_ble_eq_true rfl⟩) hS (fun q _ h => hFc q h) hFc (fun r_977 u t H1 locs ht hvm w_978 hB hz1 hk1 hS => ?_)
  obtain ⟨ws_979, ty_980, hm_981, ht_983, hP1, hK1, hD1, hx_982⟩ := hB
  rw [ht] at hP1
  have hK := va_K.moved hvm.symm hK1
  have hD := hD1.weaken (fun _ _ _ h => hFc _ h)
  generalize H1 = H at hP1 hS ⊢
  have hP := hP1
  obtain ⟨g_985, e_984, h_986⟩ := hm_981.obj e_956
  obtain ⟨z_987, z_988, z_989, z_990, z_991, z_992, rfl⟩ := smX4 h_986
  obtain ⟨g_994, e_993, h_995⟩ := hm_981.obj e_976
  obtain ⟨z_996, z_997, z_998, z_999, rfl⟩ := smX6 h_995
  obtain ⟨f_1001, e_1000⟩ := hm_981.arrI e_964
  have u_1002 := ht_983 _ _ u_966
  obtain ⟨f_1004, e_1003⟩ := hm_981.arrI e_967
  have u_1005 := ht_983 _ _ u_969
  have hsm := hsm.tr (hm_981.mono (by decide))
  have hlp_101 := hlp_101.tr (hm_981.mono (by decide))
  have htx := htx.tr ht_983
  obtain ⟨ts_1006, te_1007, cc_1008, ra_1009, rb_1010, rc_1011, rv_1012, re_1013, ya_1014, h1_1015, h2_1016, h3_1017, h4_1018, er_1019, et_1020, wr_1021, wt_1022, ⟨k_1023, c9_1024, t_1025, f_1026, e_1027, u_1028, w_1029⟩, ⟨k_1030, c9_1031, t_1032, f_1033, e_1034, u_1035, w_1036⟩⟩ := id hx_982
  refine lv_istore_n (lv' := [(2, .int r_977), (3, .int 0), (5, .int 1), (4, .int (nI i_93)), (1, .int 1), (0, .ref rd)]) hx hb dX4_readEither_83 rfl hl (by decide) rfl (fun ls hl => ?_)
  refine lv_iload hx hb dX4_readEither_84 (lv_at hl 2 rfl) ?_
  refine lv_if_eq (tgt := 95) hx hb dX4_readEither_86 (by decide) (fun c_1037 => absurd c_1037 (by decide)) (fun c_1037 => ?_)
  refine lv_aload_n hx hb dX4_readEither_89 rfl (lv_at hl 5 rfl) ?_
  refine lv_bipush (v := (-2)) hx hb dX4_readEither_90 (by decide) ?_
  have hFc := free_all hD hS hA
  refine va_callv (va_runV (As := [.int (-2)]) (rest := []) ⟨hx, hb, hml, hown, hts⟩ (r_addCode l D ρ ws_979 ty_980 adK adV fo rd krd tp ktp cd bb tl (-2) H.size (⟨ts_1006, te_1007, cc_1008, ra_1009, rb_1010, rc_1011, rv_1012, re_1013, ya_1014, by omega, by omega, by omega, by omega, er_1019, et_1020, wr_1021, wt_1022, ⟨k_1023, c9_1024, t_1025, f_1026, e_1027, u_1028, w_1029⟩, ⟨k_1030, c9_1031, t_1032, f_1033, e_1034, u_1035, w_1036⟩⟩ : RS ρ ws_979 ty_980 rd krd tp ktp cd bb tl)) (cwV 1 hts gX4_readEither_X4_addCode rfl rfl rfl (by decide +kernel) ⟨Nat.le_of_ble_eq_true rfl, Nat.le_of_ble_eq_true rfl⟩) ⟨fun a U g mk q => by obtain ⟨q0, q1, qP, qK, qD, qS⟩ := q; exact ⟨q0, q1, qP, va_K.moved (u := U) (U := U.calling g mk a) (Vm.Alike.refl U.vm) qK, qD, SZ.same rfl rfl qS⟩, va_recv hK hP (ci := 4) (q0 := krd) rfl er_1019, fun U hU hW => ⟨rfl, by rw [hU], by rw [hU]; exact hP, va_K.moved hW.alike hK, hD.weaken (fun _ _ _ _ => trivial), hsz9.go hS hW hU hFc⟩⟩ rfl rfl hl.1 rfl (lv_room (Nat.le_of_ble_eq_true rfl)) dX4_readEither_92 ⟨Nat.le_of_ble_eq_true rfl, Nat.le_of_ble_eq_true rfl⟩) hS (fun q _ h => hFc q h) hFc (fun u t H1 locs ht hvm w_1039 hB hz1 hk1 hS => ?_)
  obtain ⟨ws_1040, ty_1041, hm_1042, ht_1044, hP1, hK1, hD1, hx_1043⟩ := hB
  rw [ht] at hP1
  have hK := va_K.moved hvm.symm hK1
  have hD := hD1.weaken (fun _ _ _ h => hFc _ h)
  generalize H1 = H at hP1 hS ⊢
  have hP := hP1
  obtain ⟨g_1046, e_1045, h_1047⟩ := hm_1042.obj er_1019
  obtain ⟨z_1048, z_1049, z_1050, z_1051, z_1052, z_1053, rfl⟩ := smX4 h_1047
  obtain ⟨g_1055, e_1054, h_1056⟩ := hm_1042.obj et_1020
  obtain ⟨z_1057, z_1058, z_1059, z_1060, rfl⟩ := smX6 h_1056
  obtain ⟨f_1062, e_1061⟩ := hm_1042.arrI e_1027
  have u_1063 := ht_1044 _ _ u_1028
  obtain ⟨f_1065, e_1064⟩ := hm_1042.arrI e_1034
  have u_1066 := ht_1044 _ _ u_1035
  have hsm := hsm.tr (hm_1042.mono (by decide))
  have hlp_101 := hlp_101.tr (hm_1042.mono (by decide))
  have htx := htx.tr ht_1044
  obtain ⟨ts_1067, te_1068, cc_1069, ra_1070, rb_1071, rc_1072, rv_1073, re_1074, ya_1075, h1_1076, h2_1077, h3_1078, h4_1079, er_1080, et_1081, wr_1082, wt_1083, ⟨k_1084, c9_1085, t_1086, f_1087, e_1088, u_1089, w_1090⟩, ⟨k_1091, c9_1092, t_1093, f_1094, e_1095, u_1096, w_1097⟩⟩ := id hx_1043
  refine lv_iinc (v := nI (i_93 + 1)) (lv' := [(4, .int (nI (i_93 + 1))), (2, .int r_977), (3, .int 0), (5, .int 1), (1, .int 1), (0, .ref rd)]) hx hb dX4_readEither_95 hl (k := 3) rfl (nI_add i_93 1) (by decide) rfl (fun ls hl => ?_)
  refine lv_goto (tgt := 11) hx hb dX4_readEither_98 (by decide) ?_
  exact ih_92 (i_93 + 1, r_977, 0) ws_1040 _ _ ls (by show 400 - (i_93 + 1) < 400 - i_93; omega) ⟨hlp_101, ⟨ty_1041, hK, htx, (⟨ts_1067, te_1068, cc_1069, ra_1070, rb_1071, rc_1072, rv_1073, re_1074, ya_1075, by omega, by omega, by omega, by omega, er_1080, et_1081, wr_1082, wt_1083, ⟨k_1084, c9_1085, t_1086, f_1087, e_1088, u_1089, w_1090⟩, ⟨k_1091, c9_1092, t_1093, f_1094, e_1095, u_1096, w_1097⟩⟩ : RS ρ ws_1040 ty_1041 rd krd tp ktp cd bb tl)⟩, (show (i_93 + 1) ≤ 400 from by omega), (show r_977 = 0 ∨ r_977 = 1 from w_978), (show 0 = 0 ∨ 0 = 1 from Or.inl rfl)⟩ hP hD hS (lv_sub hl [0, 1, 2, 4, 5] rfl)
set_option maxHeartbeats 4000000 in
set_option maxRecDepth 100000 in
theorem r_readOne0 (l : Launch) (D : va_G) (ρ : Nat → Nat) (ws : va_W) (tys : List (ClassId × FieldType)) (adK adV : Nat → Nat) (fo : Option Nat) (rd krd tp ktp cd bb tl : Nat)  (sz : Nat) (R0 : RS ρ ws tys rd krd tp ktp cd bb tl)  : Met l yX4_readOne wsX4_readOne ({ frames := 19, cells := 0, slots := 0, locals := 437 }) (va_Pc [.ref rd, .int 0] (fun U => U.heap.size = sz ∧ va_P D vwCl ws U.heap ∧ va_K D vwCl tys U ∧ va_D (fun _ => True) ws ∧ SZ adK adV fo (va_A ws sz) U U.heap)) (va_Qi (fun (r : Int32) (_ : Unit) => r = 0 ∨ r = 1) (fun (_ : Unit) (t : State) => ∃ (ws' : va_W) (tys' : List (ClassId × FieldType)), sm ρ [4, 6] ws ws' ∧ tyx tys tys' ∧ va_P D vwCl ws' t.heap ∧ va_K D vwCl tys' t ∧ va_D (va_A ws sz) ws' ∧ (RS ρ ws' tys' rd krd tp ktp cd bb tl)) (va_A ws sz)) 0 0 (va_A ws sz) := by
  refine Met.ofW (cc := cX4_readOne) (maxL := 4) (ret := (some .boolean)) (by decide) rfl ?_
  intro p e s m args below meth c s₁ B hml hv
  obtain ⟨rfl, hsz, hP, hK, hD0, hsz9⟩ := hv
  have hx := B.exec
  have hb := B.bytes
  have hr := B.returns
  have hts := atoms_spec (ws := wsX4_readOne) B.pre
  have hown : s.vm.findClass RX4 = some m.cls := findClass_of_methodNamed B.named
  have hlocks := B.notSynchronized
  subst hsz
  have hD := hD0.self (sz := s.heap.size)
  generalize hAe : va_A ws s.heap.size = A at hD hsz9 ⊢
  have hA : ∀ q : Nat, s.heap.size ≤ q → A q := fun q h => by rw [← hAe]; exact Or.inr h
  have hS : va_S A s.heap s.heap [] := va_S.rf
  have hsm : sm ρ [4, 6] ws ws := sm.rf ws
  have htx : tyx tys tys := tyx.rf tys
  have hin4 : ∀ w ∈ u_ws RX4 TX4 8, w ∈ wsX4_readOne := (fun _ h9 => List.mem_cons_of_mem _ (List.mem_append_left _ ((List.mem_append_right _ h9))))
  have hl := lv_entry ([.ref rd, .int 0]) (n := 4) (Nat.le_of_ble_eq_true rfl)
  rw [lg_entry_eq]
  generalize (lg_sl ([.ref rd, .int 0]) ++ List.replicate (4 - (lg_sl ([.ref rd, .int 0])).length) Slot.unset).toArray = ls at hl ⊢
  have hl : lv_has ls 4 [(0, .ref rd), (1, .int 0)] := hl
  obtain ⟨ts_1, te_2, cc_3, ra_4, rb_5, rc_6, rv_7, re_8, ya_9, h1_10, h2_11, h3_12, h4_13, er_14, et_15, wr_16, wt_17, ⟨k_18, c9_19, t_20, f_21, e_22, u_23, w_24⟩, ⟨k_25, c9_26, t_27, f_28, e_29, u_30, w_31⟩⟩ := id R0
  refine lv_aload_n hx hb dX4_readOne_0 rfl (lv_at hl 0 rfl) ?_
  refine va_get (D := D) (ci := 4) (v := .ref tp) (C := RX4) (T := TX4) (N := 8) hx hb hts hin4 hown hK hP krd er_14 rfl 0 (by decide) (hts (.fieldLink RX4 12 "HoneyHouse$RuleReader" "tape" "LHoneyHouse$Tape;") (List.mem_of_getElem? (i := 1) rfl)) (fun _ h9 => h9) rfl dX4_readOne_1 ?_
  refine va_ldcS hx hb hown hsz9.2.2.2.2.2.2.1 dX4_readOne_4 ?_
  have hFc := free_all hD hS hA
  refine va_calli (va_runV (As := [.ref (adK 3)]) (rest := []) ⟨hx, hb, hml, hown, hts⟩ (a_isWord l D ρ ws tys adK adV fo 3 tp ktp tl ya_9 (nI ts_1) (nI te_2) bb k_25 c9_26 t_27 f_28 s.heap.size (by decide) et_15 e_29 u_30) (cwV 1 hts gX4_readOne_X6_isWord rfl rfl rfl (by decide +kernel) ⟨Nat.le_of_ble_eq_true rfl, Nat.le_of_ble_eq_true rfl⟩) ⟨fun a U g mk q => by obtain ⟨q0, q1, qP, qK, qD, qS⟩ := q; exact ⟨q0, q1, qP, va_K.moved (u := U) (U := U.calling g mk a) (Vm.Alike.refl U.vm) qK, qD, SZ.same rfl rfl qS⟩, va_recv hK hP (ci := 6) (q0 := ktp) rfl et_15, fun U hU hW => ⟨rfl, by rw [hU], by rw [hU]; exact hP, va_K.moved hW.alike hK, hD.weaken (fun _ _ _ _ => trivial), hsz9.go hS hW hU hFc⟩⟩ rfl rfl hl.1 rfl (lv_room (Nat.le_of_ble_eq_true rfl)) dX4_readOne_6 ⟨Nat.le_of_ble_eq_true rfl, Nat.le_of_ble_eq_true rfl⟩) hS (fun q _ h => hFc q h) hFc (fun r_32 u t H1 locs ht hvm w_33 hB hz1 hk1 hS => ?_)
  obtain ⟨ws_34, ty_35, hm_36, ht_38, hP1, hK1, hD1, hx_37⟩ := hB
  rw [ht] at hP1
  have hK := va_K.moved hvm.symm hK1
  have hD := hD1.weaken (fun _ _ _ h => hFc _ h)
  generalize H1 = H at hP1 hS ⊢
  have hP := hP1
  have e_39 := hm_36.objK er_14 (by decide)
  have e_40 := hm_36.objK et_15 (by decide)
  obtain ⟨f_42, e_41⟩ := hm_36.arrI e_22
  have u_43 := ht_38 _ _ u_23
  obtain ⟨f_45, e_44⟩ := hm_36.arrI e_29
  have u_46 := ht_38 _ _ u_30
  have hsm := hsm.tr (hm_36.mono (by decide))
  have htx := htx.tr ht_38
  rcases w_33 with rfl | rfl
  · refine lv_istore_n (lv' := [(2, .int 0), (0, .ref rd), (1, .int 0)]) hx hb dX4_readOne_9 rfl hl (by decide) rfl (fun ls hl => ?_)
    refine lv_iload_n hx hb dX4_readOne_10 rfl (lv_at hl 0 rfl) ?_
    refine lv_if_ne (tgt := 31) hx hb dX4_readOne_11 (by decide) (fun c_47 => absurd (by decide) c_47) (fun c_47 => ?_)
    refine lv_aload_n hx hb dX4_readOne_14 rfl (lv_at hl 1 rfl) ?_
    refine va_get (D := D) (ci := 4) (v := .ref tp) (C := RX4) (T := TX4) (N := 8) hx hb hts hin4 hown hK hP krd e_39 rfl 0 (by decide) (hts (.fieldLink RX4 12 "HoneyHouse$RuleReader" "tape" "LHoneyHouse$Tape;") (List.mem_of_getElem? (i := 1) rfl)) (fun _ h9 => h9) rfl dX4_readOne_15 ?_
    refine lv_bipush (v := 40) hx hb dX4_readOne_18 (by decide) ?_
    refine vp_callSi (W.runV (As := [.int 40]) (rest := []) ⟨hx, hb, hml, hown, hts⟩ (s_isByte l D ws_34 ty_35 tp ktp tl ya_9 (nI ts_1) (nI te_2) bb k_25 c9_26 t_27 f_45 40 e_40 e_44 u_46) (cwV 1 hts gX4_readOne_X6_isByte rfl rfl rfl (by decide +kernel) ⟨Nat.le_of_ble_eq_true rfl, Nat.le_of_ble_eq_true rfl⟩) ⟨fun a U g mk q => ⟨q.1, q.2.1, va_K.moved (u := U) (U := U.calling g mk a) (Vm.Alike.refl U.vm) q.2.2⟩, va_recv hK hP (ci := 6) (q0 := ktp) rfl e_40, fun U hU hW => ⟨rfl, by rw [hU]; exact hP, va_K.moved hW.alike hK⟩⟩ rfl rfl hl.1 rfl (lv_room (Nat.le_of_ble_eq_true rfl)) dX4_readOne_20 ⟨Nat.le_of_ble_eq_true rfl, Nat.le_of_ble_eq_true rfl⟩) (fun r_48 k_49 => ?_)
    rcases k_49 with rfl | rfl
    · refine lv_if_ne (tgt := 31) hx hb dX4_readOne_23 (by decide) (fun c_50 => absurd (by decide) c_50) (fun c_50 => ?_)
      refine lv_aload_n hx hb dX4_readOne_26 rfl (lv_at hl 1 rfl) ?_
      have hFc := free_all hD hS hA
      refine va_calli (va_runV (As := []) (rest := []) ⟨hx, hb, hml, hown, hts⟩ (r_readTest l D ρ ws_34 ty_35 adK adV fo rd krd tp ktp cd bb tl  H.size (⟨ts_1, te_2, cc_3, ra_4, rb_5, rc_6, rv_7, re_8, ya_9, by omega, by omega, by omega, by omega, e_39, e_40, wr_16, wt_17, ⟨k_18, c9_19, t_20, f_42, e_41, u_43, w_24⟩, ⟨k_25, c9_26, t_27, f_45, e_44, u_46, w_31⟩⟩ : RS ρ ws_34 ty_35 rd krd tp ktp cd bb tl)) (cwV 0 hts gX4_readOne_X4_readTest rfl rfl rfl (by decide +kernel) ⟨Nat.le_of_ble_eq_true rfl, Nat.le_of_ble_eq_true rfl⟩) ⟨fun a U g mk q => by obtain ⟨q0, q1, qP, qK, qD, qS⟩ := q; exact ⟨q0, q1, qP, va_K.moved (u := U) (U := U.calling g mk a) (Vm.Alike.refl U.vm) qK, qD, SZ.same rfl rfl qS⟩, va_recv hK hP (ci := 4) (q0 := krd) rfl e_39, fun U hU hW => ⟨rfl, by rw [hU], by rw [hU]; exact hP, va_K.moved hW.alike hK, hD.weaken (fun _ _ _ _ => trivial), hsz9.go hS hW hU hFc⟩⟩ rfl rfl hl.1 rfl (lv_room (Nat.le_of_ble_eq_true rfl)) dX4_readOne_27 ⟨Nat.le_of_ble_eq_true rfl, Nat.le_of_ble_eq_true rfl⟩) hS (fun q _ h => hFc q h) hFc (fun r_51 u t H1 locs ht hvm w_52 hB hz1 hk1 hS => ?_)
      obtain ⟨ws_53, ty_54, hm_55, ht_57, hP1, hK1, hD1, hx_56⟩ := hB
      rw [ht] at hP1
      have hK := va_K.moved hvm.symm hK1
      have hD := hD1.weaken (fun _ _ _ h => hFc _ h)
      generalize H1 = H at hP1 hS ⊢
      have hP := hP1
      obtain ⟨g_59, e_58, h_60⟩ := hm_55.obj e_39
      obtain ⟨z_61, z_62, z_63, z_64, z_65, z_66, rfl⟩ := smX4 h_60
      obtain ⟨g_68, e_67, h_69⟩ := hm_55.obj e_40
      obtain ⟨z_70, z_71, z_72, z_73, rfl⟩ := smX6 h_69
      obtain ⟨f_75, e_74⟩ := hm_55.arrI e_41
      have u_76 := ht_57 _ _ u_43
      obtain ⟨f_78, e_77⟩ := hm_55.arrI e_44
      have u_79 := ht_57 _ _ u_46
      have hsm := hsm.tr (hm_55.mono (by decide))
      have htx := htx.tr ht_57
      obtain ⟨ts_80, te_81, cc_82, ra_83, rb_84, rc_85, rv_86, re_87, ya_88, h1_89, h2_90, h3_91, h4_92, er_93, et_94, wr_95, wt_96, ⟨k_97, c9_98, t_99, f_100, e_101, u_102, w_103⟩, ⟨k_104, c9_105, t_106, f_107, e_108, u_109, w_110⟩⟩ := id hx_56
      exact W.zret (v := r_51) hx hb hr (by rcases w_52 with h9 | h9 <;> rw [h9] <;> rfl) (fun t ht hW => ⟨⟨r_51, (), rfl, w_52, ws_53, ty_54, hsm, htx, by rw [ht]; exact hP, va_K.moved hW.alike hK, hD, (⟨ts_80, te_81, cc_82, ra_83, rb_84, rc_85, rv_86, re_87, ya_88, by omega, by omega, by omega, by omega, er_93, et_94, wr_95, wt_96, ⟨k_97, c9_98, t_99, f_100, e_101, u_102, w_103⟩, ⟨k_104, c9_105, t_106, f_107, e_108, u_109, w_110⟩⟩ : RS ρ ws_53 ty_54 rd krd tp ktp cd bb tl)⟩, hS.F ht⟩) hS.2.2 dX4_readOne_30
    refine lv_if_ne (tgt := 31) hx hb dX4_readOne_23 (by decide) (fun c_111 => ?_) (fun c_111 => absurd c_111 (by decide))
    refine lv_iload_n hx hb dX4_readOne_31 rfl (lv_at hl 2 rfl) ?_
    refine lv_bipush (v := 6) hx hb dX4_readOne_32 (by decide) ?_
    refine lv_icmp_lt (tgt := 50) hx hb dX4_readOne_34 (by decide) (fun c_112 => ?_) (fun c_112 => absurd (by decide) c_112)
    refine lv_aload_n hx hb dX4_readOne_50 rfl (lv_at hl 1 rfl) ?_
    refine va_get (D := D) (ci := 4) (v := .ref tp) (C := RX4) (T := TX4) (N := 8) hx hb hts hin4 hown hK hP krd e_39 rfl 0 (by decide) (hts (.fieldLink RX4 12 "HoneyHouse$RuleReader" "tape" "LHoneyHouse$Tape;") (List.mem_of_getElem? (i := 1) rfl)) (fun _ h9 => h9) rfl dX4_readOne_51 ?_
    have hFc := free_all hD hS hA
    refine va_callv (va_runV (As := []) (rest := []) ⟨hx, hb, hml, hown, hts⟩ (a_advance l D ρ ws_34 ty_35 tp ktp tl te_2 ya_9 (nI ts_1) bb k_25 c9_26 t_27 f_45 H.size (by omega) (by omega) e_40 e_44 u_46 wt_17) (cwV 0 hts gX4_readOne_X6_advance rfl rfl rfl (by decide +kernel) ⟨Nat.le_of_ble_eq_true rfl, Nat.le_of_ble_eq_true rfl⟩) ⟨fun a U g mk q => by obtain ⟨q0, q1, qP, qK, qD⟩ := q; exact ⟨q0, q1, qP, va_K.moved (u := U) (U := U.calling g mk a) (Vm.Alike.refl U.vm) qK, qD⟩, va_recv hK hP (ci := 6) (q0 := ktp) rfl e_40, fun U hU hW => ⟨rfl, by rw [hU], by rw [hU]; exact hP, va_K.moved hW.alike hK, hD.weaken (fun _ _ _ _ => trivial)⟩⟩ rfl rfl hl.1 rfl (lv_room (Nat.le_of_ble_eq_true rfl)) dX4_readOne_54 ⟨Nat.le_of_ble_eq_true rfl, Nat.le_of_ble_eq_true rfl⟩) hS (fun q _ h => hFc q h) hFc (fun u t H1 locs ht hvm w_114 hB hz1 hk1 hS => ?_)
    obtain ⟨ws_115, ty_116, hm_117, ht_119, hP1, hK1, hD1, hx_118⟩ := hB
    rw [ht] at hP1
    have hK := va_K.moved hvm.symm hK1
    have hD := hD1.weaken (fun _ _ _ h => hFc _ h)
    generalize H1 = H at hP1 hS ⊢
    have hP := hP1
    have e_120 := hm_117.objK e_39 (by decide)
    obtain ⟨g_122, e_121, h_123⟩ := hm_117.obj e_40
    obtain ⟨z_124, z_125, z_126, z_127, rfl⟩ := smX6 h_123
    obtain ⟨f_129, e_128⟩ := hm_117.arrI e_41
    have u_130 := ht_119 _ _ u_43
    obtain ⟨f_132, e_131⟩ := hm_117.arrI e_44
    have u_133 := ht_119 _ _ u_46
    have hsm := hsm.tr (hm_117.mono (by decide))
    have htx := htx.tr ht_119
    obtain ⟨k_134, s_135, e_136, h_137, h_138, h_139, e_140⟩ := hx_118
    refine lv_iload_n hx hb dX4_readOne_57 rfl (lv_at hl 0 rfl) ?_
    refine lv_if_ne (tgt := 86) hx hb dX4_readOne_58 (by decide) (fun c_141 => absurd (by decide) c_141) (fun c_141 => ?_)
    refine lv_aload_n hx hb dX4_readOne_61 rfl (lv_at hl 1 rfl) ?_
    refine lv_iload_n hx hb dX4_readOne_62 rfl (lv_at hl 2 rfl) ?_
    refine lv_iconst (v := 1) hx hb dX4_readOne_63 (by decide) ?_
    refine lv_iadd hx hb dX4_readOne_64 ?_
    refine tp_i (y := 1) (by decide) ?_
    have hFc := free_all hD hS hA
    refine va_calli (va_runV (As := [.int 1]) (rest := []) ⟨hx, hb, hml, hown, hts⟩ (r_readEither1 l D ρ ws_115 ty_116 adK adV fo rd krd tp ktp cd bb tl  H.size (⟨s_135, e_136, cc_3, ra_4, rb_5, rc_6, rv_7, re_8, nI k_134, by omega, by omega, by omega, by omega, e_120, e_140, wr_16, wt_17, ⟨k_18, c9_19, t_20, f_129, e_128, u_130, w_24⟩, ⟨k_25, c9_26, t_27, f_132, e_131, u_133, w_31⟩⟩ : RS ρ ws_115 ty_116 rd krd tp ktp cd bb tl)) (cwV 1 hts gX4_readOne_X4_readEither rfl rfl rfl (by decide +kernel) ⟨Nat.le_of_ble_eq_true rfl, Nat.le_of_ble_eq_true rfl⟩) ⟨fun a U g mk q => by obtain ⟨q0, q1, qP, qK, qD, qS⟩ := q; exact ⟨q0, q1, qP, va_K.moved (u := U) (U := U.calling g mk a) (Vm.Alike.refl U.vm) qK, qD, SZ.same rfl rfl qS⟩, va_recv hK hP (ci := 4) (q0 := krd) rfl e_120, fun U hU hW => ⟨rfl, by rw [hU], by rw [hU]; exact hP, va_K.moved hW.alike hK, hD.weaken (fun _ _ _ _ => trivial), hsz9.go hS hW hU hFc⟩⟩ rfl rfl hl.1 rfl (lv_room (Nat.le_of_ble_eq_true rfl)) dX4_readOne_65 ⟨Nat.le_of_ble_eq_true rfl, Nat.le_of_ble_eq_true rfl⟩) hS (fun q _ h => hFc q h) hFc (fun r_142 u t H1 locs ht hvm w_143 hB hz1 hk1 hS => ?_)
    obtain ⟨ws_144, ty_145, hm_146, ht_148, hP1, hK1, hD1, hx_147⟩ := hB
    rw [ht] at hP1
    have hK := va_K.moved hvm.symm hK1
    have hD := hD1.weaken (fun _ _ _ h => hFc _ h)
    generalize H1 = H at hP1 hS ⊢
    have hP := hP1
    obtain ⟨g_150, e_149, h_151⟩ := hm_146.obj e_120
    obtain ⟨z_152, z_153, z_154, z_155, z_156, z_157, rfl⟩ := smX4 h_151
    obtain ⟨g_159, e_158, h_160⟩ := hm_146.obj e_140
    obtain ⟨z_161, z_162, z_163, z_164, rfl⟩ := smX6 h_160
    obtain ⟨f_166, e_165⟩ := hm_146.arrI e_128
    have u_167 := ht_148 _ _ u_130
    obtain ⟨f_169, e_168⟩ := hm_146.arrI e_131
    have u_170 := ht_148 _ _ u_133
    have hsm := hsm.tr (hm_146.mono (by decide))
    have htx := htx.tr ht_148
    obtain ⟨ts_171, te_172, cc_173, ra_174, rb_175, rc_176, rv_177, re_178, ya_179, h1_180, h2_181, h3_182, h4_183, er_184, et_185, wr_186, wt_187, ⟨k_188, c9_189, t_190, f_191, e_192, u_193, w_194⟩, ⟨k_195, c9_196, t_197, f_198, e_199, u_200, w_201⟩⟩ := id hx_147
    refine lv_if_eq (tgt := 84) hx hb dX4_readOne_68 (by decide) (fun c_202 => ?_) (fun c_202 => ?_)
    · refine lv_iconst (v := 0) hx hb dX4_readOne_84 (by decide) ?_
      exact W.zret (v := 0) hx hb hr rfl (fun t ht hW => ⟨⟨0, (), rfl, Or.inl rfl, ws_144, ty_145, hsm, htx, by rw [ht]; exact hP, va_K.moved hW.alike hK, hD, (⟨ts_171, te_172, cc_173, ra_174, rb_175, rc_176, rv_177, re_178, ya_179, by omega, by omega, by omega, by omega, er_184, et_185, wr_186, wt_187, ⟨k_188, c9_189, t_190, f_191, e_192, u_193, w_194⟩, ⟨k_195, c9_196, t_197, f_198, e_199, u_200, w_201⟩⟩ : RS ρ ws_144 ty_145 rd krd tp ktp cd bb tl)⟩, hS.F ht⟩) hS.2.2 dX4_readOne_85
    refine lv_aload_n hx hb dX4_readOne_71 rfl (lv_at hl 1 rfl) ?_
    refine lv_bipush (v := 41) hx hb dX4_readOne_72 (by decide) ?_
    have hFc := free_all hD hS hA
    refine va_calli (va_runV (As := [.int 41]) (rest := []) ⟨hx, hb, hml, hown, hts⟩ (r_readByte l D ρ ws_144 ty_145 adK adV fo rd krd tp ktp cd bb tl 41 H.size (⟨ts_171, te_172, cc_173, ra_174, rb_175, rc_176, rv_177, re_178, ya_179, by omega, by omega, by omega, by omega, er_184, et_185, wr_186, wt_187, ⟨k_188, c9_189, t_190, f_191, e_192, u_193, w_194⟩, ⟨k_195, c9_196, t_197, f_198, e_199, u_200, w_201⟩⟩ : RS ρ ws_144 ty_145 rd krd tp ktp cd bb tl)) (cwV 1 hts gX4_readOne_X4_readByte rfl rfl rfl (by decide +kernel) ⟨Nat.le_of_ble_eq_true rfl, Nat.le_of_ble_eq_true rfl⟩) ⟨fun a U g mk q => by obtain ⟨q0, q1, qP, qK, qD, qS⟩ := q; exact ⟨q0, q1, qP, va_K.moved (u := U) (U := U.calling g mk a) (Vm.Alike.refl U.vm) qK, qD, SZ.same rfl rfl qS⟩, va_recv hK hP (ci := 4) (q0 := krd) rfl er_184, fun U hU hW => ⟨rfl, by rw [hU], by rw [hU]; exact hP, va_K.moved hW.alike hK, hD.weaken (fun _ _ _ _ => trivial), hsz9.go hS hW hU hFc⟩⟩ rfl rfl hl.1 rfl (lv_room (Nat.le_of_ble_eq_true rfl)) dX4_readOne_74 ⟨Nat.le_of_ble_eq_true rfl, Nat.le_of_ble_eq_true rfl⟩) hS (fun q _ h => hFc q h) hFc (fun r_203 u t H1 locs ht hvm w_204 hB hz1 hk1 hS => ?_)
    obtain ⟨ws_205, ty_206, hm_207, ht_209, hP1, hK1, hD1, hx_208⟩ := hB
    rw [ht] at hP1
    have hK := va_K.moved hvm.symm hK1
    have hD := hD1.weaken (fun _ _ _ h => hFc _ h)
    generalize H1 = H at hP1 hS ⊢
    have hP := hP1
    obtain ⟨g_211, e_210, h_212⟩ := hm_207.obj er_184
    obtain ⟨z_213, z_214, z_215, z_216, z_217, z_218, rfl⟩ := smX4 h_212
    obtain ⟨g_220, e_219, h_221⟩ := hm_207.obj et_185
    obtain ⟨z_222, z_223, z_224, z_225, rfl⟩ := smX6 h_221
    obtain ⟨f_227, e_226⟩ := hm_207.arrI e_192
    have u_228 := ht_209 _ _ u_193
    obtain ⟨f_230, e_229⟩ := hm_207.arrI e_199
    have u_231 := ht_209 _ _ u_200
    have hsm := hsm.tr (hm_207.mono (by decide))
    have htx := htx.tr ht_209
    obtain ⟨ts_232, te_233, cc_234, ra_235, rb_236, rc_237, rv_238, re_239, ya_240, h1_241, h2_242, h3_243, h4_244, er_245, et_246, wr_247, wt_248, ⟨k_249, c9_250, t_251, f_252, e_253, u_254, w_255⟩, ⟨k_256, c9_257, t_258, f_259, e_260, u_261, w_262⟩⟩ := id hx_208
    rcases w_204 with rfl | rfl
    · refine lv_if_eq (tgt := 84) hx hb dX4_readOne_77 (by decide) (fun c_263 => ?_) (fun c_263 => absurd (by decide) c_263)
      refine lv_iconst (v := 0) hx hb dX4_readOne_84 (by decide) ?_
      exact W.zret (v := 0) hx hb hr rfl (fun t ht hW => ⟨⟨0, (), rfl, Or.inl rfl, ws_205, ty_206, hsm, htx, by rw [ht]; exact hP, va_K.moved hW.alike hK, hD, (⟨ts_232, te_233, cc_234, ra_235, rb_236, rc_237, rv_238, re_239, ya_240, by omega, by omega, by omega, by omega, er_245, et_246, wr_247, wt_248, ⟨k_249, c9_250, t_251, f_252, e_253, u_254, w_255⟩, ⟨k_256, c9_257, t_258, f_259, e_260, u_261, w_262⟩⟩ : RS ρ ws_205 ty_206 rd krd tp ktp cd bb tl)⟩, hS.F ht⟩) hS.2.2 dX4_readOne_85
    refine lv_if_eq (tgt := 84) hx hb dX4_readOne_77 (by decide) (fun c_264 => absurd c_264 (by decide)) (fun c_264 => ?_)
    refine lv_iconst (v := 1) hx hb dX4_readOne_80 (by decide) ?_
    refine lv_goto (tgt := 85) hx hb dX4_readOne_81 (by decide) ?_
    exact W.zret (v := 1) hx hb hr rfl (fun t ht hW => ⟨⟨1, (), rfl, Or.inr rfl, ws_205, ty_206, hsm, htx, by rw [ht]; exact hP, va_K.moved hW.alike hK, hD, (⟨ts_232, te_233, cc_234, ra_235, rb_236, rc_237, rv_238, re_239, ya_240, by omega, by omega, by omega, by omega, er_245, et_246, wr_247, wt_248, ⟨k_249, c9_250, t_251, f_252, e_253, u_254, w_255⟩, ⟨k_256, c9_257, t_258, f_259, e_260, u_261, w_262⟩⟩ : RS ρ ws_205 ty_206 rd krd tp ktp cd bb tl)⟩, hS.F ht⟩) hS.2.2 dX4_readOne_85
  refine lv_istore_n (lv' := [(2, .int 1), (0, .ref rd), (1, .int 0)]) hx hb dX4_readOne_9 rfl hl (by decide) rfl (fun ls hl => ?_)
  refine lv_iload_n hx hb dX4_readOne_10 rfl (lv_at hl 0 rfl) ?_
  refine lv_if_ne (tgt := 31) hx hb dX4_readOne_11 (by decide) (fun c_265 => ?_) (fun c_265 => absurd c_265 (by decide))
  refine lv_iload_n hx hb dX4_readOne_31 rfl (lv_at hl 2 rfl) ?_
  refine lv_bipush (v := 6) hx hb dX4_readOne_32 (by decide) ?_
  refine lv_icmp_lt (tgt := 50) hx hb dX4_readOne_34 (by decide) (fun c_266 => ?_) (fun c_266 => absurd (by decide) c_266)
  refine lv_aload_n hx hb dX4_readOne_50 rfl (lv_at hl 1 rfl) ?_
  refine va_get (D := D) (ci := 4) (v := .ref tp) (C := RX4) (T := TX4) (N := 8) hx hb hts hin4 hown hK hP krd e_39 rfl 0 (by decide) (hts (.fieldLink RX4 12 "HoneyHouse$RuleReader" "tape" "LHoneyHouse$Tape;") (List.mem_of_getElem? (i := 1) rfl)) (fun _ h9 => h9) rfl dX4_readOne_51 ?_
  have hFc := free_all hD hS hA
  refine va_callv (va_runV (As := []) (rest := []) ⟨hx, hb, hml, hown, hts⟩ (a_advance l D ρ ws_34 ty_35 tp ktp tl te_2 ya_9 (nI ts_1) bb k_25 c9_26 t_27 f_45 H.size (by omega) (by omega) e_40 e_44 u_46 wt_17) (cwV 0 hts gX4_readOne_X6_advance rfl rfl rfl (by decide +kernel) ⟨Nat.le_of_ble_eq_true rfl, Nat.le_of_ble_eq_true rfl⟩) ⟨fun a U g mk q => by obtain ⟨q0, q1, qP, qK, qD⟩ := q; exact ⟨q0, q1, qP, va_K.moved (u := U) (U := U.calling g mk a) (Vm.Alike.refl U.vm) qK, qD⟩, va_recv hK hP (ci := 6) (q0 := ktp) rfl e_40, fun U hU hW => ⟨rfl, by rw [hU], by rw [hU]; exact hP, va_K.moved hW.alike hK, hD.weaken (fun _ _ _ _ => trivial)⟩⟩ rfl rfl hl.1 rfl (lv_room (Nat.le_of_ble_eq_true rfl)) dX4_readOne_54 ⟨Nat.le_of_ble_eq_true rfl, Nat.le_of_ble_eq_true rfl⟩) hS (fun q _ h => hFc q h) hFc (fun u t H1 locs ht hvm w_268 hB hz1 hk1 hS => ?_)
  obtain ⟨ws_269, ty_270, hm_271, ht_273, hP1, hK1, hD1, hx_272⟩ := hB
  rw [ht] at hP1
  have hK := va_K.moved hvm.symm hK1
  have hD := hD1.weaken (fun _ _ _ h => hFc _ h)
  generalize H1 = H at hP1 hS ⊢
  have hP := hP1
  have e_274 := hm_271.objK e_39 (by decide)
  obtain ⟨g_276, e_275, h_277⟩ := hm_271.obj e_40
  obtain ⟨z_278, z_279, z_280, z_281, rfl⟩ := smX6 h_277
  obtain ⟨f_283, e_282⟩ := hm_271.arrI e_41
  have u_284 := ht_273 _ _ u_43
  obtain ⟨f_286, e_285⟩ := hm_271.arrI e_44
  have u_287 := ht_273 _ _ u_46
  have hsm := hsm.tr (hm_271.mono (by decide))
  have htx := htx.tr ht_273
  obtain ⟨k_288, s_289, e_290, h_291, h_292, h_293, e_294⟩ := hx_272
  refine lv_iload_n hx hb dX4_readOne_57 rfl (lv_at hl 0 rfl) ?_
  refine lv_if_ne (tgt := 86) hx hb dX4_readOne_58 (by decide) (fun c_295 => ?_) (fun c_295 => absurd c_295 (by decide))
  refine lv_aload_n hx hb dX4_readOne_86 rfl (lv_at hl 1 rfl) ?_
  refine lv_iload_n hx hb dX4_readOne_87 rfl (lv_at hl 2 rfl) ?_
  refine lv_iconst (v := 1) hx hb dX4_readOne_88 (by decide) ?_
  refine lv_iadd hx hb dX4_readOne_89 ?_
  refine tp_i (y := 1) (by decide) ?_
  have hFc := free_all hD hS hA
  refine va_calli (va_runV (As := [.int 1]) (rest := []) ⟨hx, hb, hml, hown, hts⟩ (r_readOne1 l D ρ ws_269 ty_270 adK adV fo rd krd tp ktp cd bb tl  H.size (⟨s_289, e_290, cc_3, ra_4, rb_5, rc_6, rv_7, re_8, nI k_288, by omega, by omega, by omega, by omega, e_274, e_294, wr_16, wt_17, ⟨k_18, c9_19, t_20, f_283, e_282, u_284, w_24⟩, ⟨k_25, c9_26, t_27, f_286, e_285, u_287, w_31⟩⟩ : RS ρ ws_269 ty_270 rd krd tp ktp cd bb tl)) (cwV 1 hts gX4_readOne_X4_readOne rfl rfl rfl (by decide +kernel) ⟨Nat.le_of_ble_eq_true rfl, Nat.le_of_ble_eq_true rfl⟩) ⟨fun a U g mk q => by obtain ⟨q0, q1, qP, qK, qD, qS⟩ := q; exact ⟨q0, q1, qP, va_K.moved (u := U) (U := U.calling g mk a) (Vm.Alike.refl U.vm) qK, qD, SZ.same rfl rfl qS⟩, va_recv hK hP (ci := 4) (q0 := krd) rfl e_274, fun U hU hW => ⟨rfl, by rw [hU], by rw [hU]; exact hP, va_K.moved hW.alike hK, hD.weaken (fun _ _ _ _ => trivial), hsz9.go hS hW hU hFc⟩⟩ rfl rfl hl.1 rfl (lv_room (Nat.le_of_ble_eq_true rfl)) dX4_readOne_90 ⟨Nat.le_of_ble_eq_true rfl, Nat.le_of_ble_eq_true rfl⟩) hS (fun q _ h => hFc q h) hFc (fun r_296 u t H1 locs ht hvm w_297 hB hz1 hk1 hS => ?_)
  obtain ⟨ws_298, ty_299, hm_300, ht_302, hP1, hK1, hD1, hx_301⟩ := hB
  rw [ht] at hP1
  have hK := va_K.moved hvm.symm hK1
  have hD := hD1.weaken (fun _ _ _ h => hFc _ h)
  generalize H1 = H at hP1 hS ⊢
  have hP := hP1
  obtain ⟨g_304, e_303, h_305⟩ := hm_300.obj e_274
  obtain ⟨z_306, z_307, z_308, z_309, z_310, z_311, rfl⟩ := smX4 h_305
  obtain ⟨g_313, e_312, h_314⟩ := hm_300.obj e_294
  obtain ⟨z_315, z_316, z_317, z_318, rfl⟩ := smX6 h_314
  obtain ⟨f_320, e_319⟩ := hm_300.arrI e_282
  have u_321 := ht_302 _ _ u_284
  obtain ⟨f_323, e_322⟩ := hm_300.arrI e_285
  have u_324 := ht_302 _ _ u_287
  have hsm := hsm.tr (hm_300.mono (by decide))
  have htx := htx.tr ht_302
  obtain ⟨ts_325, te_326, cc_327, ra_328, rb_329, rc_330, rv_331, re_332, ya_333, h1_334, h2_335, h3_336, h4_337, er_338, et_339, wr_340, wt_341, ⟨k_342, c9_343, t_344, f_345, e_346, u_347, w_348⟩, ⟨k_349, c9_350, t_351, f_352, e_353, u_354, w_355⟩⟩ := id hx_301
  refine lv_istore_n (lv' := [(3, .int r_296), (2, .int 1), (0, .ref rd), (1, .int 0)]) hx hb dX4_readOne_93 rfl hl (by decide) rfl (fun ls hl => ?_)
  refine lv_aload_n hx hb dX4_readOne_94 rfl (lv_at hl 2 rfl) ?_
  refine lv_iconst (v := (-1)) hx hb dX4_readOne_95 (by decide) ?_
  have hFc := free_all hD hS hA
  refine va_callv (va_runV (As := [.int (-1)]) (rest := []) ⟨hx, hb, hml, hown, hts⟩ (r_addCode l D ρ ws_298 ty_299 adK adV fo rd krd tp ktp cd bb tl (-1) H.size (⟨ts_325, te_326, cc_327, ra_328, rb_329, rc_330, rv_331, re_332, ya_333, by omega, by omega, by omega, by omega, er_338, et_339, wr_340, wt_341, ⟨k_342, c9_343, t_344, f_345, e_346, u_347, w_348⟩, ⟨k_349, c9_350, t_351, f_352, e_353, u_354, w_355⟩⟩ : RS ρ ws_298 ty_299 rd krd tp ktp cd bb tl)) (cwV 1 hts gX4_readOne_X4_addCode rfl rfl rfl (by decide +kernel) ⟨Nat.le_of_ble_eq_true rfl, Nat.le_of_ble_eq_true rfl⟩) ⟨fun a U g mk q => by obtain ⟨q0, q1, qP, qK, qD, qS⟩ := q; exact ⟨q0, q1, qP, va_K.moved (u := U) (U := U.calling g mk a) (Vm.Alike.refl U.vm) qK, qD, SZ.same rfl rfl qS⟩, va_recv hK hP (ci := 4) (q0 := krd) rfl er_338, fun U hU hW => ⟨rfl, by rw [hU], by rw [hU]; exact hP, va_K.moved hW.alike hK, hD.weaken (fun _ _ _ _ => trivial), hsz9.go hS hW hU hFc⟩⟩ rfl rfl hl.1 rfl (lv_room (Nat.le_of_ble_eq_true rfl)) dX4_readOne_96 ⟨Nat.le_of_ble_eq_true rfl, Nat.le_of_ble_eq_true rfl⟩) hS (fun q _ h => hFc q h) hFc (fun u t H1 locs ht hvm w_357 hB hz1 hk1 hS => ?_)
  obtain ⟨ws_358, ty_359, hm_360, ht_362, hP1, hK1, hD1, hx_361⟩ := hB
  rw [ht] at hP1
  have hK := va_K.moved hvm.symm hK1
  have hD := hD1.weaken (fun _ _ _ h => hFc _ h)
  generalize H1 = H at hP1 hS ⊢
  have hP := hP1
  obtain ⟨g_364, e_363, h_365⟩ := hm_360.obj er_338
  obtain ⟨z_366, z_367, z_368, z_369, z_370, z_371, rfl⟩ := smX4 h_365
  obtain ⟨g_373, e_372, h_374⟩ := hm_360.obj et_339
  obtain ⟨z_375, z_376, z_377, z_378, rfl⟩ := smX6 h_374
  obtain ⟨f_380, e_379⟩ := hm_360.arrI e_346
  have u_381 := ht_362 _ _ u_347
  obtain ⟨f_383, e_382⟩ := hm_360.arrI e_353
  have u_384 := ht_362 _ _ u_354
  have hsm := hsm.tr (hm_360.mono (by decide))
  have htx := htx.tr ht_362
  obtain ⟨ts_385, te_386, cc_387, ra_388, rb_389, rc_390, rv_391, re_392, ya_393, h1_394, h2_395, h3_396, h4_397, er_398, et_399, wr_400, wt_401, ⟨k_402, c9_403, t_404, f_405, e_406, u_407, w_408⟩, ⟨k_409, c9_410, t_411, f_412, e_413, u_414, w_415⟩⟩ := id hx_361
  refine lv_iload_n hx hb dX4_readOne_99 rfl (lv_at hl 0 rfl) ?_
  exact W.zret (v := r_296) hx hb hr (by rcases w_297 with h9 | h9 <;> rw [h9] <;> rfl) (fun t ht hW => ⟨⟨r_296, (), rfl, w_297, ws_358, ty_359, hsm, htx, by rw [ht]; exact hP, va_K.moved hW.alike hK, hD, (⟨ts_385, te_386, cc_387, ra_388, rb_389, rc_390, rv_391, re_392, ya_393, by omega, by omega, by omega, by omega, er_398, et_399, wr_400, wt_401, ⟨k_402, c9_403, t_404, f_405, e_406, u_407, w_408⟩, ⟨k_409, c9_410, t_411, f_412, e_413, u_414, w_415⟩⟩ : RS ρ ws_358 ty_359 rd krd tp ktp cd bb tl)⟩, hS.F ht⟩) hS.2.2 dX4_readOne_100
set_option maxHeartbeats 4000000 in
set_option maxRecDepth 100000 in
theorem r_readEither0 (l : Launch) (D : va_G) (ρ : Nat → Nat) (ws : va_W) (tys : List (ClassId × FieldType)) (adK adV : Nat → Nat) (fo : Option Nat) (rd krd tp ktp cd bb tl : Nat)  (sz : Nat) (R0 : RS ρ ws tys rd krd tp ktp cd bb tl)  : Met l yX4_readEither wsX4_readEither ({ frames := 20, cells := 0, slots := 0, locals := 460 }) (va_Pc [.ref rd, .int 0] (fun U => U.heap.size = sz ∧ va_P D vwCl ws U.heap ∧ va_K D vwCl tys U ∧ va_D (fun _ => True) ws ∧ SZ adK adV fo (va_A ws sz) U U.heap)) (va_Qi (fun (r : Int32) (_ : Unit) => r = 0 ∨ r = 1) (fun (_ : Unit) (t : State) => ∃ (ws' : va_W) (tys' : List (ClassId × FieldType)), sm ρ [4, 6] ws ws' ∧ tyx tys tys' ∧ va_P D vwCl ws' t.heap ∧ va_K D vwCl tys' t ∧ va_D (va_A ws sz) ws' ∧ (RS ρ ws' tys' rd krd tp ktp cd bb tl)) (va_A ws sz)) 0 0 (va_A ws sz) := by
  refine Met.ofW (cc := cX4_readEither) (maxL := 6) (ret := (some .boolean)) (by decide) rfl ?_
  intro p e s m args below meth c s₁ B hml hv
  obtain ⟨rfl, hsz, hP, hK, hD0, hsz9⟩ := hv
  have hx := B.exec
  have hb := B.bytes
  have hr := B.returns
  have hts := atoms_spec (ws := wsX4_readEither) B.pre
  have hown : s.vm.findClass RX4 = some m.cls := findClass_of_methodNamed B.named
  have hlocks := B.notSynchronized
  subst hsz
  have hD := hD0.self (sz := s.heap.size)
  generalize hAe : va_A ws s.heap.size = A at hD hsz9 ⊢
  have hA : ∀ q : Nat, s.heap.size ≤ q → A q := fun q h => by rw [← hAe]; exact Or.inr h
  have hS : va_S A s.heap s.heap [] := va_S.rf
  have hsm : sm ρ [4, 6] ws ws := sm.rf ws
  have htx : tyx tys tys := tyx.rf tys
  have hin4 : ∀ w ∈ u_ws RX4 TX4 8, w ∈ wsX4_readEither := (fun _ h9 => List.mem_cons_of_mem _ (List.mem_append_left _ ((List.mem_append_right _ h9))))
  have hl := lv_entry ([.ref rd, .int 0]) (n := 6) (Nat.le_of_ble_eq_true rfl)
  rw [lg_entry_eq]
  generalize (lg_sl ([.ref rd, .int 0]) ++ List.replicate (6 - (lg_sl ([.ref rd, .int 0])).length) Slot.unset).toArray = ls at hl ⊢
  have hl : lv_has ls 6 [(0, .ref rd), (1, .int 0)] := hl
  obtain ⟨ts_1, te_2, cc_3, ra_4, rb_5, rc_6, rv_7, re_8, ya_9, h1_10, h2_11, h3_12, h4_13, er_14, et_15, wr_16, wt_17, ⟨k_18, c9_19, t_20, f_21, e_22, u_23, w_24⟩, ⟨k_25, c9_26, t_27, f_28, e_29, u_30, w_31⟩⟩ := id R0
  refine lv_aload_n hx hb dX4_readEither_0 rfl (lv_at hl 0 rfl) ?_
  refine lv_iload_n hx hb dX4_readEither_1 rfl (lv_at hl 1 rfl) ?_
  have hFc := free_all hD hS hA
  refine va_calli (va_runV (As := [.int 0]) (rest := []) ⟨hx, hb, hml, hown, hts⟩ (r_readOne0 l D ρ ws tys adK adV fo rd krd tp ktp cd bb tl  s.heap.size (⟨ts_1, te_2, cc_3, ra_4, rb_5, rc_6, rv_7, re_8, ya_9, by omega, by omega, by omega, by omega, er_14, et_15, wr_16, wt_17, ⟨k_18, c9_19, t_20, f_21, e_22, u_23, w_24⟩, ⟨k_25, c9_26, t_27, f_28, e_29, u_30, w_31⟩⟩ : RS ρ ws tys rd krd tp ktp cd bb tl)) (cwV 1 hts gX4_readEither_X4_readOne rfl rfl rfl (by decide +kernel) ⟨Nat.le_of_ble_eq_true rfl, Nat.le_of_ble_eq_true rfl⟩) ⟨fun a U g mk q => by obtain ⟨q0, q1, qP, qK, qD, qS⟩ := q; exact ⟨q0, q1, qP, va_K.moved (u := U) (U := U.calling g mk a) (Vm.Alike.refl U.vm) qK, qD, SZ.same rfl rfl qS⟩, va_recv hK hP (ci := 4) (q0 := krd) rfl er_14, fun U hU hW => ⟨rfl, by rw [hU], by rw [hU]; exact hP, va_K.moved hW.alike hK, hD.weaken (fun _ _ _ _ => trivial), hsz9.go hS hW hU hFc⟩⟩ rfl rfl hl.1 rfl (lv_room (Nat.le_of_ble_eq_true rfl)) dX4_readEither_2 ⟨Nat.le_of_ble_eq_true rfl, Nat.le_of_ble_eq_true rfl⟩) hS (fun q _ h => hFc q h) hFc (fun r_32 u t H1 locs ht hvm w_33 hB hz1 hk1 hS => ?_)
  obtain ⟨ws_34, ty_35, hm_36, ht_38, hP1, hK1, hD1, hx_37⟩ := hB
  rw [ht] at hP1
  have hK := va_K.moved hvm.symm hK1
  have hD := hD1.weaken (fun _ _ _ h => hFc _ h)
  generalize H1 = H at hP1 hS ⊢
  have hP := hP1
  obtain ⟨g_40, e_39, h_41⟩ := hm_36.obj er_14
  obtain ⟨z_42, z_43, z_44, z_45, z_46, z_47, rfl⟩ := smX4 h_41
  obtain ⟨g_49, e_48, h_50⟩ := hm_36.obj et_15
  obtain ⟨z_51, z_52, z_53, z_54, rfl⟩ := smX6 h_50
  obtain ⟨f_56, e_55⟩ := hm_36.arrI e_22
  have u_57 := ht_38 _ _ u_23
  obtain ⟨f_59, e_58⟩ := hm_36.arrI e_29
  have u_60 := ht_38 _ _ u_30
  have hsm := hsm.tr (hm_36.mono (by decide))
  have htx := htx.tr ht_38
  obtain ⟨ts_61, te_62, cc_63, ra_64, rb_65, rc_66, rv_67, re_68, ya_69, h1_70, h2_71, h3_72, h4_73, er_74, et_75, wr_76, wt_77, ⟨k_78, c9_79, t_80, f_81, e_82, u_83, w_84⟩, ⟨k_85, c9_86, t_87, f_88, e_89, u_90, w_91⟩⟩ := id hx_37
  refine lv_istore_n (lv' := [(2, .int r_32), (0, .ref rd), (1, .int 0)]) hx hb dX4_readEither_5 rfl hl (by decide) rfl (fun ls hl => ?_)
  refine lv_iconst (v := 0) hx hb dX4_readEither_6 (by decide) ?_
  refine lv_istore_n (lv' := [(3, .int 0), (2, .int r_32), (0, .ref rd), (1, .int 0)]) hx hb dX4_readEither_7 rfl hl (by decide) rfl (fun ls hl => ?_)
  refine lv_iconst (v := 0) hx hb dX4_readEither_8 (by decide) ?_
  refine lv_istore (lv' := [(4, .int 0), (3, .int 0), (2, .int r_32), (0, .ref rd), (1, .int 0)]) hx hb dX4_readEither_9 hl (by decide) rfl (fun ls hl => ?_)
  refine lp_V (nL := 6) (σ := Nat × Int32 × Int32) (lv := fun x9 => [(4, .int (nI x9.1)), (2, .int x9.2.1), (3, .int x9.2.2), (1, .int 0), (0, .ref rd)]) (μ := fun x9 => 400 - x9.1) (J := fun x9 ws9 => sm ρ [4, 6] ws_34 ws9 ∧ (∃ ty9 : List (ClassId × FieldType), va_K D vwCl ty9 s ∧ tyx tys ty9 ∧ RS ρ ws9 ty9 rd krd tp ktp cd bb tl) ∧ (x9.1 ≤ 400) ∧ (x9.2.1 = 0 ∨ x9.2.1 = 1) ∧ (x9.2.2 = 0 ∨ x9.2.2 = 1)) (fun x9 ws_99 H locs ls hj hP hD hS hl ih_92 => ?_) (0, r_32, 0) ws_34 _ _ ls ⟨sm.rf _, ⟨ty_35, hK, htx, (⟨ts_61, te_62, cc_63, ra_64, rb_65, rc_66, rv_67, re_68, ya_69, by omega, by omega, by omega, by omega, er_74, et_75, wr_76, wt_77, ⟨k_78, c9_79, t_80, f_81, e_82, u_83, w_84⟩, ⟨k_85, c9_86, t_87, f_88, e_89, u_90, w_91⟩⟩ : RS ρ ws_34 ty_35 rd krd tp ktp cd bb tl)⟩, (show 0 ≤ 400 from by omega), (show r_32 = 0 ∨ r_32 = 1 from w_33), (show 0 = 0 ∨ 0 = 1 from Or.inl rfl)⟩ hP hD hS (lv_sub hl [0, 2, 1, 4, 3] rfl)
  obtain ⟨i_93, x_94, y_95⟩ := x9
  replace hj : sm ρ [4, 6] ws_34 ws_99 ∧ (∃ ty9 : List (ClassId × FieldType), va_K D vwCl ty9 s ∧ tyx tys ty9 ∧ RS ρ ws_99 ty9 rd krd tp ktp cd bb tl) ∧ (i_93 ≤ 400) ∧ (x_94 = 0 ∨ x_94 = 1) ∧ (y_95 = 0 ∨ y_95 = 1) := hj
  obtain ⟨hm_100, hR_102, hi_96, hbx_97, hby_98⟩ := hj
  obtain ⟨g_104, e_103, h_105⟩ := hm_100.obj er_74
  obtain ⟨z_106, z_107, z_108, z_109, z_110, z_111, rfl⟩ := smX4 h_105
  obtain ⟨g_113, e_112, h_114⟩ := hm_100.obj et_75
  obtain ⟨z_115, z_116, z_117, z_118, rfl⟩ := smX6 h_114
  obtain ⟨f_120, e_119⟩ := hm_100.arrI e_82
  obtain ⟨f_122, e_121⟩ := hm_100.arrI e_89
  have hsm := hsm.tr (hm_100.mono (by decide))
  obtain ⟨ty_123, hK, htx, hR_124⟩ := hR_102
  obtain ⟨ts_125, te_126, cc_127, ra_128, rb_129, rc_130, rv_131, re_132, ya_133, h1_134, h2_135, h3_136, h4_137, er_138, et_139, wr_140, wt_141, ⟨k_142, c9_143, t_144, f_145, e_146, u_147, w_148⟩, ⟨k_149, c9_150, t_151, f_152, e_153, u_154, w_155⟩⟩ := id hR_124
  have hlp_101 := hm_100
  have hl : lv_has ls 6 [(4, .int (nI i_93)), (2, .int x_94), (3, .int y_95), (1, .int 0), (0, .ref rd)] := hl
  refine lv_iload hx hb dX4_readEither_11 (lv_at hl 0 rfl) ?_
  refine lv_sipush (v := 400) hx hb dX4_readEither_13 (by decide) ?_
  refine lv_icmp_ge (tgt := 101) hx hb dX4_readEither_16 (by decide) (fun c_156 => ?_) (fun c_156 => ?_)
  · have d_157 := n_le (a := 400) (b := i_93) (by omega) (by omega) c_156
    refine lv_iload_n hx hb dX4_readEither_101 rfl (lv_at hl 2 rfl) ?_
    refine lv_if_eq (tgt := 111) hx hb dX4_readEither_102 (by decide) (fun c_158 => ?_) (fun c_158 => ?_)
    · refine lv_iload_n hx hb dX4_readEither_111 rfl (lv_at hl 1 rfl) ?_
      exact W.zret (v := x_94) hx hb hr (by rcases hbx_97 with h9 | h9 <;> rw [h9] <;> rfl) (fun t ht hW => ⟨⟨x_94, (), rfl, hbx_97, ws_99, ty_123, hsm, htx, by rw [ht]; exact hP, va_K.moved hW.alike hK, hD, (⟨ts_125, te_126, cc_127, ra_128, rb_129, rc_130, rv_131, re_132, ya_133, by omega, by omega, by omega, by omega, er_138, et_139, wr_140, wt_141, ⟨k_142, c9_143, t_144, f_145, e_146, u_147, w_148⟩, ⟨k_149, c9_150, t_151, f_152, e_153, u_154, w_155⟩⟩ : RS ρ ws_99 ty_123 rd krd tp ktp cd bb tl)⟩, hS.F ht⟩) hS.2.2 dX4_readEither_112
    refine lv_aload_n hx hb dX4_readEither_105 rfl (lv_at hl 4 rfl) ?_
    refine lv_bipush (v := (-3)) hx hb dX4_readEither_106 (by decide) ?_
    have hFc := free_all hD hS hA
    refine va_callv (va_runV (As := [.int (-3)]) (rest := []) ⟨hx, hb, hml, hown, hts⟩ (r_addCode l D ρ ws_99 ty_123 adK adV fo rd krd tp ktp cd bb tl (-3) H.size (⟨ts_125, te_126, cc_127, ra_128, rb_129, rc_130, rv_131, re_132, ya_133, by omega, by omega, by omega, by omega, er_138, et_139, wr_140, wt_141, ⟨k_142, c9_143, t_144, f_145, e_146, u_147, w_148⟩, ⟨k_149, c9_150, t_151, f_152, e_153, u_154, w_155⟩⟩ : RS ρ ws_99 ty_123 rd krd tp ktp cd bb tl)) (cwV 1 hts gX4_readEither_X4_addCode rfl rfl rfl (by decide +kernel) ⟨Nat.le_of_ble_eq_true rfl, Nat.le_of_ble_eq_true rfl⟩) ⟨fun a U g mk q => by obtain ⟨q0, q1, qP, qK, qD, qS⟩ := q; exact ⟨q0, q1, qP, va_K.moved (u := U) (U := U.calling g mk a) (Vm.Alike.refl U.vm) qK, qD, SZ.same rfl rfl qS⟩, va_recv hK hP (ci := 4) (q0 := krd) rfl er_138, fun U hU hW => ⟨rfl, by rw [hU], by rw [hU]; exact hP, va_K.moved hW.alike hK, hD.weaken (fun _ _ _ _ => trivial), hsz9.go hS hW hU hFc⟩⟩ rfl rfl hl.1 rfl (lv_room (Nat.le_of_ble_eq_true rfl)) dX4_readEither_108 ⟨Nat.le_of_ble_eq_true rfl, Nat.le_of_ble_eq_true rfl⟩) hS (fun q _ h => hFc q h) hFc (fun u t H1 locs ht hvm w_160 hB hz1 hk1 hS => ?_)
    obtain ⟨ws_161, ty_162, hm_163, ht_165, hP1, hK1, hD1, hx_164⟩ := hB
    rw [ht] at hP1
    have hK := va_K.moved hvm.symm hK1
    have hD := hD1.weaken (fun _ _ _ h => hFc _ h)
    generalize H1 = H at hP1 hS ⊢
    have hP := hP1
    obtain ⟨g_167, e_166, h_168⟩ := hm_163.obj er_138
    obtain ⟨z_169, z_170, z_171, z_172, z_173, z_174, rfl⟩ := smX4 h_168
    obtain ⟨g_176, e_175, h_177⟩ := hm_163.obj et_139
    obtain ⟨z_178, z_179, z_180, z_181, rfl⟩ := smX6 h_177
    obtain ⟨f_183, e_182⟩ := hm_163.arrI e_146
    have u_184 := ht_165 _ _ u_147
    obtain ⟨f_186, e_185⟩ := hm_163.arrI e_153
    have u_187 := ht_165 _ _ u_154
    have hsm := hsm.tr (hm_163.mono (by decide))
    have hlp_101 := hlp_101.tr (hm_163.mono (by decide))
    have htx := htx.tr ht_165
    obtain ⟨ts_188, te_189, cc_190, ra_191, rb_192, rc_193, rv_194, re_195, ya_196, h1_197, h2_198, h3_199, h4_200, er_201, et_202, wr_203, wt_204, ⟨k_205, c9_206, t_207, f_208, e_209, u_210, w_211⟩, ⟨k_212, c9_213, t_214, f_215, e_216, u_217, w_218⟩⟩ := id hx_164
    refine lv_iload_n hx hb dX4_readEither_111 rfl (lv_at hl 1 rfl) ?_
    exact W.zret (v := x_94) hx hb hr (by rcases hbx_97 with h9 | h9 <;> rw [h9] <;> rfl) (fun t ht hW => ⟨⟨x_94, (), rfl, hbx_97, ws_161, ty_162, hsm, htx, by rw [ht]; exact hP, va_K.moved hW.alike hK, hD, (⟨ts_188, te_189, cc_190, ra_191, rb_192, rc_193, rv_194, re_195, ya_196, by omega, by omega, by omega, by omega, er_201, et_202, wr_203, wt_204, ⟨k_205, c9_206, t_207, f_208, e_209, u_210, w_211⟩, ⟨k_212, c9_213, t_214, f_215, e_216, u_217, w_218⟩⟩ : RS ρ ws_161 ty_162 rd krd tp ktp cd bb tl)⟩, hS.F ht⟩) hS.2.2 dX4_readEither_112
  have d_219 := n_nle (a := 400) (b := i_93) (by omega) (by omega) c_156
  refine lv_iload_n hx hb dX4_readEither_19 rfl (lv_at hl 1 rfl) ?_
  refine lv_if_eq (tgt := 101) hx hb dX4_readEither_20 (by decide) (fun c_220 => ?_) (fun c_220 => ?_)
  · refine lv_iload_n hx hb dX4_readEither_101 rfl (lv_at hl 2 rfl) ?_
    refine lv_if_eq (tgt := 111) hx hb dX4_readEither_102 (by decide) (fun c_221 => ?_) (fun c_221 => ?_)
    · refine lv_iload_n hx hb dX4_readEither_111 rfl (lv_at hl 1 rfl) ?_
      exact W.zret (v := x_94) hx hb hr (by rcases hbx_97 with h9 | h9 <;> rw [h9] <;> rfl) (fun t ht hW => ⟨⟨x_94, (), rfl, hbx_97, ws_99, ty_123, hsm, htx, by rw [ht]; exact hP, va_K.moved hW.alike hK, hD, (⟨ts_125, te_126, cc_127, ra_128, rb_129, rc_130, rv_131, re_132, ya_133, by omega, by omega, by omega, by omega, er_138, et_139, wr_140, wt_141, ⟨k_142, c9_143, t_144, f_145, e_146, u_147, w_148⟩, ⟨k_149, c9_150, t_151, f_152, e_153, u_154, w_155⟩⟩ : RS ρ ws_99 ty_123 rd krd tp ktp cd bb tl)⟩, hS.F ht⟩) hS.2.2 dX4_readEither_112
    refine lv_aload_n hx hb dX4_readEither_105 rfl (lv_at hl 4 rfl) ?_
    refine lv_bipush (v := (-3)) hx hb dX4_readEither_106 (by decide) ?_
    have hFc := free_all hD hS hA
    refine va_callv (va_runV (As := [.int (-3)]) (rest := []) ⟨hx, hb, hml, hown, hts⟩ (r_addCode l D ρ ws_99 ty_123 adK adV fo rd krd tp ktp cd bb tl (-3) H.size (⟨ts_125, te_126, cc_127, ra_128, rb_129, rc_130, rv_131, re_132, ya_133, by omega, by omega, by omega, by omega, er_138, et_139, wr_140, wt_141, ⟨k_142, c9_143, t_144, f_145, e_146, u_147, w_148⟩, ⟨k_149, c9_150, t_151, f_152, e_153, u_154, w_155⟩⟩ : RS ρ ws_99 ty_123 rd krd tp ktp cd bb tl)) (cwV 1 hts gX4_readEither_X4_addCode rfl rfl rfl (by decide +kernel) ⟨Nat.le_of_ble_eq_true rfl, Nat.le_of_ble_eq_true rfl⟩) ⟨fun a U g mk q => by obtain ⟨q0, q1, qP, qK, qD, qS⟩ := q; exact ⟨q0, q1, qP, va_K.moved (u := U) (U := U.calling g mk a) (Vm.Alike.refl U.vm) qK, qD, SZ.same rfl rfl qS⟩, va_recv hK hP (ci := 4) (q0 := krd) rfl er_138, fun U hU hW => ⟨rfl, by rw [hU], by rw [hU]; exact hP, va_K.moved hW.alike hK, hD.weaken (fun _ _ _ _ => trivial), hsz9.go hS hW hU hFc⟩⟩ rfl rfl hl.1 rfl (lv_room (Nat.le_of_ble_eq_true rfl)) dX4_readEither_108 ⟨Nat.le_of_ble_eq_true rfl, Nat.le_of_ble_eq_true rfl⟩) hS (fun q _ h => hFc q h) hFc (fun u t H1 locs ht hvm w_223 hB hz1 hk1 hS => ?_)
    obtain ⟨ws_224, ty_225, hm_226, ht_228, hP1, hK1, hD1, hx_227⟩ := hB
    rw [ht] at hP1
    have hK := va_K.moved hvm.symm hK1
    have hD := hD1.weaken (fun _ _ _ h => hFc _ h)
    generalize H1 = H at hP1 hS ⊢
    have hP := hP1
    obtain ⟨g_230, e_229, h_231⟩ := hm_226.obj er_138
    obtain ⟨z_232, z_233, z_234, z_235, z_236, z_237, rfl⟩ := smX4 h_231
    obtain ⟨g_239, e_238, h_240⟩ := hm_226.obj et_139
    obtain ⟨z_241, z_242, z_243, z_244, rfl⟩ := smX6 h_240
    obtain ⟨f_246, e_245⟩ := hm_226.arrI e_146
    have u_247 := ht_228 _ _ u_147
    obtain ⟨f_249, e_248⟩ := hm_226.arrI e_153
    have u_250 := ht_228 _ _ u_154
    have hsm := hsm.tr (hm_226.mono (by decide))
    have hlp_101 := hlp_101.tr (hm_226.mono (by decide))
    have htx := htx.tr ht_228
    obtain ⟨ts_251, te_252, cc_253, ra_254, rb_255, rc_256, rv_257, re_258, ya_259, h1_260, h2_261, h3_262, h4_263, er_264, et_265, wr_266, wt_267, ⟨k_268, c9_269, t_270, f_271, e_272, u_273, w_274⟩, ⟨k_275, c9_276, t_277, f_278, e_279, u_280, w_281⟩⟩ := id hx_227
    refine lv_iload_n hx hb dX4_readEither_111 rfl (lv_at hl 1 rfl) ?_
    exact W.zret (v := x_94) hx hb hr (by rcases hbx_97 with h9 | h9 <;> rw [h9] <;> rfl) (fun t ht hW => ⟨⟨x_94, (), rfl, hbx_97, ws_224, ty_225, hsm, htx, by rw [ht]; exact hP, va_K.moved hW.alike hK, hD, (⟨ts_251, te_252, cc_253, ra_254, rb_255, rc_256, rv_257, re_258, ya_259, by omega, by omega, by omega, by omega, er_264, et_265, wr_266, wt_267, ⟨k_268, c9_269, t_270, f_271, e_272, u_273, w_274⟩, ⟨k_275, c9_276, t_277, f_278, e_279, u_280, w_281⟩⟩ : RS ρ ws_224 ty_225 rd krd tp ktp cd bb tl)⟩, hS.F ht⟩) hS.2.2 dX4_readEither_112
  refine lv_aload_n hx hb dX4_readEither_23 rfl (lv_at hl 4 rfl) ?_
  have hFc := free_all hD hS hA
  refine va_calli (va_runV (As := []) (rest := []) ⟨hx, hb, hml, hown, hts⟩ (r_isAndOr l D ρ ws_99 ty_123 adK adV fo rd krd tp ktp cd bb tl  H.size (⟨ts_125, te_126, cc_127, ra_128, rb_129, rc_130, rv_131, re_132, ya_133, by omega, by omega, by omega, by omega, er_138, et_139, wr_140, wt_141, ⟨k_142, c9_143, t_144, f_145, e_146, u_147, w_148⟩, ⟨k_149, c9_150, t_151, f_152, e_153, u_154, w_155⟩⟩ : RS ρ ws_99 ty_123 rd krd tp ktp cd bb tl)) (cwV 0 hts gX4_readEither_X4_isAndOr rfl rfl rfl (by decide +kernel) ⟨Nat.le_of_ble_eq_true rfl, Nat.le_of_ble_eq_true rfl⟩) ⟨fun a U g mk q => by obtain ⟨q0, q1, qP, qK, qD, qS⟩ := q; exact ⟨q0, q1, qP, va_K.moved (u := U) (U := U.calling g mk a) (Vm.Alike.refl U.vm) qK, qD, SZ.same rfl rfl qS⟩, va_recv hK hP (ci := 4) (q0 := krd) rfl er_138, fun U hU hW => ⟨rfl, by rw [hU], by rw [hU]; exact hP, va_K.moved hW.alike hK, hD.weaken (fun _ _ _ _ => trivial), hsz9.go hS hW hU hFc⟩⟩ rfl rfl hl.1 rfl (lv_room (Nat.le_of_ble_eq_true rfl)) dX4_readEither_24 ⟨Nat.le_of_ble_eq_true rfl, Nat.le_of_ble_eq_true rfl⟩) hS (fun q _ h => hFc q h) hFc (fun r_282 u t H1 locs ht hvm w_283 hB hz1 hk1 hS => ?_)
  obtain ⟨ws_284, ty_285, hm_286, ht_288, hP1, hK1, hD1, hx_287⟩ := hB
  rw [ht] at hP1
  have hK := va_K.moved hvm.symm hK1
  have hD := hD1.weaken (fun _ _ _ h => hFc _ h)
  generalize H1 = H at hP1 hS ⊢
  have hP := hP1
  have e_289 := hm_286.objK er_138 (by decide)
  have e_290 := hm_286.objK et_139 (by decide)
  obtain ⟨f_292, e_291⟩ := hm_286.arrI e_146
  have u_293 := ht_288 _ _ u_147
  obtain ⟨f_295, e_294⟩ := hm_286.arrI e_153
  have u_296 := ht_288 _ _ u_154
  have hsm := hsm.tr (hm_286.mono (by decide))
  have hlp_101 := hlp_101.tr (hm_286.mono (by decide))
  have htx := htx.tr ht_288
  rcases w_283 with rfl | rfl
  · refine lv_if_eq (tgt := 101) hx hb dX4_readEither_27 (by decide) (fun c_297 => ?_) (fun c_297 => absurd (by decide) c_297)
    refine lv_iload_n hx hb dX4_readEither_101 rfl (lv_at hl 2 rfl) ?_
    refine lv_if_eq (tgt := 111) hx hb dX4_readEither_102 (by decide) (fun c_298 => ?_) (fun c_298 => ?_)
    · refine lv_iload_n hx hb dX4_readEither_111 rfl (lv_at hl 1 rfl) ?_
      exact W.zret (v := x_94) hx hb hr (by rcases hbx_97 with h9 | h9 <;> rw [h9] <;> rfl) (fun t ht hW => ⟨⟨x_94, (), rfl, hbx_97, ws_284, ty_285, hsm, htx, by rw [ht]; exact hP, va_K.moved hW.alike hK, hD, (⟨ts_125, te_126, cc_127, ra_128, rb_129, rc_130, rv_131, re_132, ya_133, by omega, by omega, by omega, by omega, e_289, e_290, wr_140, wt_141, ⟨k_142, c9_143, t_144, f_292, e_291, u_293, w_148⟩, ⟨k_149, c9_150, t_151, f_295, e_294, u_296, w_155⟩⟩ : RS ρ ws_284 ty_285 rd krd tp ktp cd bb tl)⟩, hS.F ht⟩) hS.2.2 dX4_readEither_112
    refine lv_aload_n hx hb dX4_readEither_105 rfl (lv_at hl 4 rfl) ?_
    refine lv_bipush (v := (-3)) hx hb dX4_readEither_106 (by decide) ?_
    have hFc := free_all hD hS hA
    refine va_callv (va_runV (As := [.int (-3)]) (rest := []) ⟨hx, hb, hml, hown, hts⟩ (r_addCode l D ρ ws_284 ty_285 adK adV fo rd krd tp ktp cd bb tl (-3) H.size (⟨ts_125, te_126, cc_127, ra_128, rb_129, rc_130, rv_131, re_132, ya_133, by omega, by omega, by omega, by omega, e_289, e_290, wr_140, wt_141, ⟨k_142, c9_143, t_144, f_292, e_291, u_293, w_148⟩, ⟨k_149, c9_150, t_151, f_295, e_294, u_296, w_155⟩⟩ : RS ρ ws_284 ty_285 rd krd tp ktp cd bb tl)) (cwV 1 hts gX4_readEither_X4_addCode rfl rfl rfl (by decide +kernel) ⟨Nat.le_of_ble_eq_true rfl, Nat.le_of_ble_eq_true rfl⟩) ⟨fun a U g mk q => by obtain ⟨q0, q1, qP, qK, qD, qS⟩ := q; exact ⟨q0, q1, qP, va_K.moved (u := U) (U := U.calling g mk a) (Vm.Alike.refl U.vm) qK, qD, SZ.same rfl rfl qS⟩, va_recv hK hP (ci := 4) (q0 := krd) rfl e_289, fun U hU hW => ⟨rfl, by rw [hU], by rw [hU]; exact hP, va_K.moved hW.alike hK, hD.weaken (fun _ _ _ _ => trivial), hsz9.go hS hW hU hFc⟩⟩ rfl rfl hl.1 rfl (lv_room (Nat.le_of_ble_eq_true rfl)) dX4_readEither_108 ⟨Nat.le_of_ble_eq_true rfl, Nat.le_of_ble_eq_true rfl⟩) hS (fun q _ h => hFc q h) hFc (fun u t H1 locs ht hvm w_300 hB hz1 hk1 hS => ?_)
    obtain ⟨ws_301, ty_302, hm_303, ht_305, hP1, hK1, hD1, hx_304⟩ := hB
    rw [ht] at hP1
    have hK := va_K.moved hvm.symm hK1
    have hD := hD1.weaken (fun _ _ _ h => hFc _ h)
    generalize H1 = H at hP1 hS ⊢
    have hP := hP1
    obtain ⟨g_307, e_306, h_308⟩ := hm_303.obj e_289
    obtain ⟨z_309, z_310, z_311, z_312, z_313, z_314, rfl⟩ := smX4 h_308
    obtain ⟨g_316, e_315, h_317⟩ := hm_303.obj e_290
    obtain ⟨z_318, z_319, z_320, z_321, rfl⟩ := smX6 h_317
    obtain ⟨f_323, e_322⟩ := hm_303.arrI e_291
    have u_324 := ht_305 _ _ u_293
    obtain ⟨f_326, e_325⟩ := hm_303.arrI e_294
    have u_327 := ht_305 _ _ u_296
    have hsm := hsm.tr (hm_303.mono (by decide))
    have hlp_101 := hlp_101.tr (hm_303.mono (by decide))
    have htx := htx.tr ht_305
    obtain ⟨ts_328, te_329, cc_330, ra_331, rb_332, rc_333, rv_334, re_335, ya_336, h1_337, h2_338, h3_339, h4_340, er_341, et_342, wr_343, wt_344, ⟨k_345, c9_346, t_347, f_348, e_349, u_350, w_351⟩, ⟨k_352, c9_353, t_354, f_355, e_356, u_357, w_358⟩⟩ := id hx_304
    refine lv_iload_n hx hb dX4_readEither_111 rfl (lv_at hl 1 rfl) ?_
    exact W.zret (v := x_94) hx hb hr (by rcases hbx_97 with h9 | h9 <;> rw [h9] <;> rfl) (fun t ht hW => ⟨⟨x_94, (), rfl, hbx_97, ws_301, ty_302, hsm, htx, by rw [ht]; exact hP, va_K.moved hW.alike hK, hD, (⟨ts_328, te_329, cc_330, ra_331, rb_332, rc_333, rv_334, re_335, ya_336, by omega, by omega, by omega, by omega, er_341, et_342, wr_343, wt_344, ⟨k_345, c9_346, t_347, f_348, e_349, u_350, w_351⟩, ⟨k_352, c9_353, t_354, f_355, e_356, u_357, w_358⟩⟩ : RS ρ ws_301 ty_302 rd krd tp ktp cd bb tl)⟩, hS.F ht⟩) hS.2.2 dX4_readEither_112
  refine lv_if_eq (tgt := 101) hx hb dX4_readEither_27 (by decide) (fun c_359 => absurd c_359 (by decide)) (fun c_359 => ?_)
  refine lv_aload_n hx hb dX4_readEither_30 rfl (lv_at hl 4 rfl) ?_
  refine va_get (D := D) (ci := 4) (v := .ref tp) (C := RX4) (T := TX4) (N := 8) hx hb hts hin4 hown hK hP krd e_289 rfl 0 (by decide) (hts (.fieldLink RX4 12 "HoneyHouse$RuleReader" "tape" "LHoneyHouse$Tape;") (List.mem_of_getElem? (i := 1) rfl)) (fun _ h9 => h9) rfl dX4_readEither_31 ?_
  refine va_ldcS hx hb hown hsz9.2.2.2.2.2.1 dX4_readEither_34 ?_
  have hFc := free_all hD hS hA
  refine va_calli (va_runV (As := [.ref (adK 2)]) (rest := []) ⟨hx, hb, hml, hown, hts⟩ (a_isWord l D ρ ws_284 ty_285 adK adV fo 2 tp ktp tl ya_133 (nI ts_125) (nI te_126) bb k_149 c9_150 t_151 f_295 H.size (by decide) e_290 e_294 u_296) (cwV 1 hts gX4_readEither_X6_isWord rfl rfl rfl (by decide +kernel) ⟨Nat.le_of_ble_eq_true rfl, Nat.le_of_ble_eq_true rfl⟩) ⟨fun a U g mk q => by obtain ⟨q0, q1, qP, qK, qD, qS⟩ := q; exact ⟨q0, q1, qP, va_K.moved (u := U) (U := U.calling g mk a) (Vm.Alike.refl U.vm) qK, qD, SZ.same rfl rfl qS⟩, va_recv hK hP (ci := 6) (q0 := ktp) rfl e_290, fun U hU hW => ⟨rfl, by rw [hU], by rw [hU]; exact hP, va_K.moved hW.alike hK, hD.weaken (fun _ _ _ _ => trivial), hsz9.go hS hW hU hFc⟩⟩ rfl rfl hl.1 rfl (lv_room (Nat.le_of_ble_eq_true rfl)) dX4_readEither_36 ⟨Nat.le_of_ble_eq_true rfl, Nat.le_of_ble_eq_true rfl⟩) hS (fun q _ h => hFc q h) hFc (fun r_360 u t H1 locs ht hvm w_361 hB hz1 hk1 hS => ?_)
  obtain ⟨ws_362, ty_363, hm_364, ht_366, hP1, hK1, hD1, hx_365⟩ := hB
  rw [ht] at hP1
  have hK := va_K.moved hvm.symm hK1
  have hD := hD1.weaken (fun _ _ _ h => hFc _ h)
  generalize H1 = H at hP1 hS ⊢
  have hP := hP1
  have e_367 := hm_364.objK e_289 (by decide)
  have e_368 := hm_364.objK e_290 (by decide)
  obtain ⟨f_370, e_369⟩ := hm_364.arrI e_291
  have u_371 := ht_366 _ _ u_293
  obtain ⟨f_373, e_372⟩ := hm_364.arrI e_294
  have u_374 := ht_366 _ _ u_296
  have hsm := hsm.tr (hm_364.mono (by decide))
  have hlp_101 := hlp_101.tr (hm_364.mono (by decide))
  have htx := htx.tr ht_366
  rcases w_361 with rfl | rfl
  · refine lv_istore (lv' := [(5, .int 0), (4, .int (nI i_93)), (2, .int x_94), (3, .int y_95), (1, .int 0), (0, .ref rd)]) hx hb dX4_readEither_39 hl (by decide) rfl (fun ls hl => ?_)
    refine lv_iload hx hb dX4_readEither_41 (lv_at hl 0 rfl) ?_
    refine lv_if_ne (tgt := 56) hx hb dX4_readEither_43 (by decide) (fun c_375 => absurd (by decide) c_375) (fun c_375 => ?_)
    refine lv_iload_n hx hb dX4_readEither_46 rfl (lv_at hl 3 rfl) ?_
    refine lv_if_eq (tgt := 56) hx hb dX4_readEither_47 (by decide) (fun c_376 => ?_) (fun c_376 => ?_)
    · refine lv_iload_n hx hb dX4_readEither_56 rfl (lv_at hl 3 rfl) ?_
      refine lv_if_ne (tgt := 65) hx hb dX4_readEither_57 (by decide) (fun c_377 => ?_) (fun c_377 => ?_)
      · refine lv_iconst (v := 1) hx hb dX4_readEither_65 (by decide) ?_
        refine lv_goto (tgt := 70) hx hb dX4_readEither_66 (by decide) ?_
        refine lv_istore_n (lv' := [(3, .int 1), (5, .int 0), (4, .int (nI i_93)), (2, .int x_94), (1, .int 0), (0, .ref rd)]) hx hb dX4_readEither_70 rfl hl (by decide) rfl (fun ls hl => ?_)
        refine lv_aload_n hx hb dX4_readEither_71 rfl (lv_at hl 5 rfl) ?_
        refine va_get (D := D) (ci := 4) (v := .ref tp) (C := RX4) (T := TX4) (N := 8) hx hb hts hin4 hown hK hP krd e_367 rfl 0 (by decide) (hts (.fieldLink RX4 12 "HoneyHouse$RuleReader" "tape" "LHoneyHouse$Tape;") (List.mem_of_getElem? (i := 1) rfl)) (fun _ h9 => h9) rfl dX4_readEither_72 ?_
        have hFc := free_all hD hS hA
        refine va_callv (va_runV (As := []) (rest := []) ⟨hx, hb, hml, hown, hts⟩ (a_advance l D ρ ws_362 ty_363 tp ktp tl te_126 ya_133 (nI ts_125) bb k_149 c9_150 t_151 f_373 H.size (by omega) (by omega) e_368 e_372 u_374 wt_141) (cwV 0 hts gX4_readEither_X6_advance rfl rfl rfl (by decide +kernel) ⟨Nat.le_of_ble_eq_true rfl, Nat.le_of_ble_eq_true rfl⟩) ⟨fun a U g mk q => by obtain ⟨q0, q1, qP, qK, qD⟩ := q; exact ⟨q0, q1, qP, va_K.moved (u := U) (U := U.calling g mk a) (Vm.Alike.refl U.vm) qK, qD⟩, va_recv hK hP (ci := 6) (q0 := ktp) rfl e_368, fun U hU hW => ⟨rfl, by rw [hU], by rw [hU]; exact hP, va_K.moved hW.alike hK, hD.weaken (fun _ _ _ _ => trivial)⟩⟩ rfl rfl hl.1 rfl (lv_room (Nat.le_of_ble_eq_true rfl)) dX4_readEither_75 ⟨Nat.le_of_ble_eq_true rfl, Nat.le_of_ble_eq_true rfl⟩) hS (fun q _ h => hFc q h) hFc (fun u t H1 locs ht hvm w_379 hB hz1 hk1 hS => ?_)
        obtain ⟨ws_380, ty_381, hm_382, ht_384, hP1, hK1, hD1, hx_383⟩ := hB
        rw [ht] at hP1
        have hK := va_K.moved hvm.symm hK1
        have hD := hD1.weaken (fun _ _ _ h => hFc _ h)
        generalize H1 = H at hP1 hS ⊢
        have hP := hP1
        have e_385 := hm_382.objK e_367 (by decide)
        obtain ⟨g_387, e_386, h_388⟩ := hm_382.obj e_368
        obtain ⟨z_389, z_390, z_391, z_392, rfl⟩ := smX6 h_388
        obtain ⟨f_394, e_393⟩ := hm_382.arrI e_369
        have u_395 := ht_384 _ _ u_371
        obtain ⟨f_397, e_396⟩ := hm_382.arrI e_372
        have u_398 := ht_384 _ _ u_374
        have hsm := hsm.tr (hm_382.mono (by decide))
        have hlp_101 := hlp_101.tr (hm_382.mono (by decide))
        have htx := htx.tr ht_384
        obtain ⟨k_399, s_400, e_401, h_402, h_403, h_404, e_405⟩ := hx_383
        refine lv_aload_n hx hb dX4_readEither_78 rfl (lv_at hl 5 rfl) ?_
        refine lv_iload_n hx hb dX4_readEither_79 rfl (lv_at hl 4 rfl) ?_
        have hFc := free_all hD hS hA
        refine va_calli (va_runV (As := [.int 0]) (rest := []) ⟨hx, hb, hml, hown, hts⟩ (r_readOne0 l D ρ ws_380 ty_381 adK adV fo rd krd tp ktp cd bb tl  H.size (⟨s_400, e_401, cc_127, ra_128, rb_129, rc_130, rv_131, re_132, nI k_399, by omega, by omega, by omega, by omega, e_385, e_405, wr_140, wt_141, ⟨k_142, c9_143, t_144, f_394, e_393, u_395, w_148⟩, ⟨k_149, c9_150, t_151, f_397, e_396, u_398, w_155⟩⟩ : RS ρ ws_380 ty_381 rd krd tp ktp cd bb tl)) (cwV 1 hts gX4_readEither_X4_readOne rfl rfl rfl (by decide +kernel) ⟨Nat.le_of_ble_eq_true rfl, Nat.le_of_ble_eq_true rfl⟩) ⟨fun a U g mk q => by obtain ⟨q0, q1, qP, qK, qD, qS⟩ := q; exact ⟨q0, q1, qP, va_K.moved (u := U) (U := U.calling g mk a) (Vm.Alike.refl U.vm) qK, qD, SZ.same rfl rfl qS⟩, va_recv hK hP (ci := 4) (q0 := krd) rfl e_385, fun U hU hW => ⟨rfl, by rw [hU], by rw [hU]; exact hP, va_K.moved hW.alike hK, hD.weaken (fun _ _ _ _ => trivial), hsz9.go hS hW hU hFc⟩⟩ rfl rfl hl.1 rfl (lv_room (Nat.le_of_ble_eq_true rfl)) dX4_readEither_80 ⟨Nat.le_of_ble_eq_true rfl, Nat.le_of_ble_eq_true rfl⟩) hS (fun q _ h => hFc q h) hFc (fun r_406 u t H1 locs ht hvm w_407 hB hz1 hk1 hS => ?_)
        obtain ⟨ws_408, ty_409, hm_410, ht_412, hP1, hK1, hD1, hx_411⟩ := hB
        rw [ht] at hP1
        have hK := va_K.moved hvm.symm hK1
        have hD := hD1.weaken (fun _ _ _ h => hFc _ h)
        generalize H1 = H at hP1 hS ⊢
        have hP := hP1
        obtain ⟨g_414, e_413, h_415⟩ := hm_410.obj e_385
        obtain ⟨z_416, z_417, z_418, z_419, z_420, z_421, rfl⟩ := smX4 h_415
        obtain ⟨g_423, e_422, h_424⟩ := hm_410.obj e_405
        obtain ⟨z_425, z_426, z_427, z_428, rfl⟩ := smX6 h_424
        obtain ⟨f_430, e_429⟩ := hm_410.arrI e_393
        have u_431 := ht_412 _ _ u_395
        obtain ⟨f_433, e_432⟩ := hm_410.arrI e_396
        have u_434 := ht_412 _ _ u_398
        have hsm := hsm.tr (hm_410.mono (by decide))
        have hlp_101 := hlp_101.tr (hm_410.mono (by decide))
        have htx := htx.tr ht_412
        obtain ⟨ts_435, te_436, cc_437, ra_438, rb_439, rc_440, rv_441, re_442, ya_443, h1_444, h2_445, h3_446, h4_447, er_448, et_449, wr_450, wt_451, ⟨k_452, c9_453, t_454, f_455, e_456, u_457, w_458⟩, ⟨k_459, c9_460, t_461, f_462, e_463, u_464, w_465⟩⟩ := id hx_411
        refine lv_istore_n (lv' := [(2, .int r_406), (3, .int 1), (5, .int 0), (4, .int (nI i_93)), (1, .int 0), (0, .ref rd)]) hx hb dX4_readEither_83 rfl hl (by decide) rfl (fun ls hl => ?_)
        refine lv_iload hx hb dX4_readEither_84 (lv_at hl 2 rfl) ?_
        refine lv_if_eq (tgt := 95) hx hb dX4_readEither_86 (by decide) (fun c_466 => ?_) (fun c_466 => absurd (by decide) c_466)
        refine lv_iinc (v := nI (i_93 + 1)) (lv' := [(4, .int (nI (i_93 + 1))), (2, .int r_406), (3, .int 1), (5, .int 0), (1, .int 0), (0, .ref rd)]) hx hb dX4_readEither_95 hl (k := 3) rfl (nI_add i_93 1) (by decide) rfl (fun ls hl => ?_)
        refine lv_goto (tgt := 11) hx hb dX4_readEither_98 (by decide) ?_
        exact ih_92 (i_93 + 1, r_406, 1) ws_408 _ _ ls (by show 400 - (i_93 + 1) < 400 - i_93; omega) ⟨hlp_101, ⟨ty_409, hK, htx, (⟨ts_435, te_436, cc_437, ra_438, rb_439, rc_440, rv_441, re_442, ya_443, by omega, by omega, by omega, by omega, er_448, et_449, wr_450, wt_451, ⟨k_452, c9_453, t_454, f_455, e_456, u_457, w_458⟩, ⟨k_459, c9_460, t_461, f_462, e_463, u_464, w_465⟩⟩ : RS ρ ws_408 ty_409 rd krd tp ktp cd bb tl)⟩, (show (i_93 + 1) ≤ 400 from by omega), (show r_406 = 0 ∨ r_406 = 1 from w_407), (show 1 = 0 ∨ 1 = 1 from Or.inr rfl)⟩ hP hD hS (lv_sub hl [0, 1, 2, 4, 5] rfl)
      refine lv_iload hx hb dX4_readEither_60 (lv_at hl 0 rfl) ?_
      refine lv_if_ne (tgt := 69) hx hb dX4_readEither_62 (by decide) (fun c_467 => absurd (by decide) c_467) (fun c_467 => ?_)
      refine lv_iconst (v := 1) hx hb dX4_readEither_65 (by decide) ?_
      refine lv_goto (tgt := 70) hx hb dX4_readEither_66 (by decide) ?_
      refine lv_istore_n (lv' := [(3, .int 1), (5, .int 0), (4, .int (nI i_93)), (2, .int x_94), (1, .int 0), (0, .ref rd)]) hx hb dX4_readEither_70 rfl hl (by decide) rfl (fun ls hl => ?_)
      refine lv_aload_n hx hb dX4_readEither_71 rfl (lv_at hl 5 rfl) ?_
      refine va_get (D := D) (ci := 4) (v := .ref tp) (C := RX4) (T := TX4) (N := 8) hx hb hts hin4 hown hK hP krd e_367 rfl 0 (by decide) (hts (.fieldLink RX4 12 "HoneyHouse$RuleReader" "tape" "LHoneyHouse$Tape;") (List.mem_of_getElem? (i := 1) rfl)) (fun _ h9 => h9) rfl dX4_readEither_72 ?_
      have hFc := free_all hD hS hA
      refine va_callv (va_runV (As := []) (rest := []) ⟨hx, hb, hml, hown, hts⟩ (a_advance l D ρ ws_362 ty_363 tp ktp tl te_126 ya_133 (nI ts_125) bb k_149 c9_150 t_151 f_373 H.size (by omega) (by omega) e_368 e_372 u_374 wt_141) (cwV 0 hts gX4_readEither_X6_advance rfl rfl rfl (by decide +kernel) ⟨Nat.le_of_ble_eq_true rfl, Nat.le_of_ble_eq_true rfl⟩) ⟨fun a U g mk q => by obtain ⟨q0, q1, qP, qK, qD⟩ := q; exact ⟨q0, q1, qP, va_K.moved (u := U) (U := U.calling g mk a) (Vm.Alike.refl U.vm) qK, qD⟩, va_recv hK hP (ci := 6) (q0 := ktp) rfl e_368, fun U hU hW => ⟨rfl, by rw [hU], by rw [hU]; exact hP, va_K.moved hW.alike hK, hD.weaken (fun _ _ _ _ => trivial)⟩⟩ rfl rfl hl.1 rfl (lv_room (Nat.le_of_ble_eq_true rfl)) dX4_readEither_75 ⟨Nat.le_of_ble_eq_true rfl, Nat.le_of_ble_eq_true rfl⟩) hS (fun q _ h => hFc q h) hFc (fun u t H1 locs ht hvm w_469 hB hz1 hk1 hS => ?_)
      obtain ⟨ws_470, ty_471, hm_472, ht_474, hP1, hK1, hD1, hx_473⟩ := hB
      rw [ht] at hP1
      have hK := va_K.moved hvm.symm hK1
      have hD := hD1.weaken (fun _ _ _ h => hFc _ h)
      generalize H1 = H at hP1 hS ⊢
      have hP := hP1
      have e_475 := hm_472.objK e_367 (by decide)
      obtain ⟨g_477, e_476, h_478⟩ := hm_472.obj e_368
      obtain ⟨z_479, z_480, z_481, z_482, rfl⟩ := smX6 h_478
      obtain ⟨f_484, e_483⟩ := hm_472.arrI e_369
      have u_485 := ht_474 _ _ u_371
      obtain ⟨f_487, e_486⟩ := hm_472.arrI e_372
      have u_488 := ht_474 _ _ u_374
      have hsm := hsm.tr (hm_472.mono (by decide))
      have hlp_101 := hlp_101.tr (hm_472.mono (by decide))
      have htx := htx.tr ht_474
      obtain ⟨k_489, s_490, e_491, h_492, h_493, h_494, e_495⟩ := hx_473
      refine lv_aload_n hx hb dX4_readEither_78 rfl (lv_at hl 5 rfl) ?_
      refine lv_iload_n hx hb dX4_readEither_79 rfl (lv_at hl 4 rfl) ?_
      have hFc := free_all hD hS hA
      refine va_calli (va_runV (As := [.int 0]) (rest := []) ⟨hx, hb, hml, hown, hts⟩ (r_readOne0 l D ρ ws_470 ty_471 adK adV fo rd krd tp ktp cd bb tl  H.size (⟨s_490, e_491, cc_127, ra_128, rb_129, rc_130, rv_131, re_132, nI k_489, by omega, by omega, by omega, by omega, e_475, e_495, wr_140, wt_141, ⟨k_142, c9_143, t_144, f_484, e_483, u_485, w_148⟩, ⟨k_149, c9_150, t_151, f_487, e_486, u_488, w_155⟩⟩ : RS ρ ws_470 ty_471 rd krd tp ktp cd bb tl)) (cwV 1 hts gX4_readEither_X4_readOne rfl rfl rfl (by decide +kernel) ⟨Nat.le_of_ble_eq_true rfl, Nat.le_of_ble_eq_true rfl⟩) ⟨fun a U g mk q => by obtain ⟨q0, q1, qP, qK, qD, qS⟩ := q; exact ⟨q0, q1, qP, va_K.moved (u := U) (U := U.calling g mk a) (Vm.Alike.refl U.vm) qK, qD, SZ.same rfl rfl qS⟩, va_recv hK hP (ci := 4) (q0 := krd) rfl e_475, fun U hU hW => ⟨rfl, by rw [hU], by rw [hU]; exact hP, va_K.moved hW.alike hK, hD.weaken (fun _ _ _ _ => trivial), hsz9.go hS hW hU hFc⟩⟩ rfl rfl hl.1 rfl (lv_room (Nat.le_of_ble_eq_true rfl)) dX4_readEither_80 ⟨Nat.le_of_ble_eq_true rfl, Nat.le_of_ble_eq_true rfl⟩) hS (fun q _ h => hFc q h) hFc (fun r_496 u t H1 locs ht hvm w_497 hB hz1 hk1 hS => ?_)
      obtain ⟨ws_498, ty_499, hm_500, ht_502, hP1, hK1, hD1, hx_501⟩ := hB
      rw [ht] at hP1
      have hK := va_K.moved hvm.symm hK1
      have hD := hD1.weaken (fun _ _ _ h => hFc _ h)
      generalize H1 = H at hP1 hS ⊢
      have hP := hP1
      obtain ⟨g_504, e_503, h_505⟩ := hm_500.obj e_475
      obtain ⟨z_506, z_507, z_508, z_509, z_510, z_511, rfl⟩ := smX4 h_505
      obtain ⟨g_513, e_512, h_514⟩ := hm_500.obj e_495
      obtain ⟨z_515, z_516, z_517, z_518, rfl⟩ := smX6 h_514
      obtain ⟨f_520, e_519⟩ := hm_500.arrI e_483
      have u_521 := ht_502 _ _ u_485
      obtain ⟨f_523, e_522⟩ := hm_500.arrI e_486
      have u_524 := ht_502 _ _ u_488
      have hsm := hsm.tr (hm_500.mono (by decide))
      have hlp_101 := hlp_101.tr (hm_500.mono (by decide))
      have htx := htx.tr ht_502
      obtain ⟨ts_525, te_526, cc_527, ra_528, rb_529, rc_530, rv_531, re_532, ya_533, h1_534, h2_535, h3_536, h4_537, er_538, et_539, wr_540, wt_541, ⟨k_542, c9_543, t_544, f_545, e_546, u_547, w_548⟩, ⟨k_549, c9_550, t_551, f_552, e_553, u_554, w_555⟩⟩ := id hx_501
      refine lv_istore_n (lv' := [(2, .int r_496), (3, .int 1), (5, .int 0), (4, .int (nI i_93)), (1, .int 0), (0, .ref rd)]) hx hb dX4_readEither_83 rfl hl (by decide) rfl (fun ls hl => ?_)
      refine lv_iload hx hb dX4_readEither_84 (lv_at hl 2 rfl) ?_
      refine lv_if_eq (tgt := 95) hx hb dX4_readEither_86 (by decide) (fun c_556 => ?_) (fun c_556 => absurd (by decide) c_556)
      refine lv_iinc (v := nI (i_93 + 1)) (lv' := [(4, .int (nI (i_93 + 1))), (2, .int r_496), (3, .int 1), (5, .int 0), (1, .int 0), (0, .ref rd)]) hx hb dX4_readEither_95 hl (k := 3) rfl (nI_add i_93 1) (by decide) rfl (fun ls hl => ?_)
      refine lv_goto (tgt := 11) hx hb dX4_readEither_98 (by decide) ?_
      exact ih_92 (i_93 + 1, r_496, 1) ws_498 _ _ ls (by show 400 - (i_93 + 1) < 400 - i_93; omega) ⟨hlp_101, ⟨ty_499, hK, htx, (⟨ts_525, te_526, cc_527, ra_528, rb_529, rc_530, rv_531, re_532, ya_533, by omega, by omega, by omega, by omega, er_538, et_539, wr_540, wt_541, ⟨k_542, c9_543, t_544, f_545, e_546, u_547, w_548⟩, ⟨k_549, c9_550, t_551, f_552, e_553, u_554, w_555⟩⟩ : RS ρ ws_498 ty_499 rd krd tp ktp cd bb tl)⟩, (show (i_93 + 1) ≤ 400 from by omega), (show r_496 = 0 ∨ r_496 = 1 from w_497), (show 1 = 0 ∨ 1 = 1 from Or.inr rfl)⟩ hP hD hS (lv_sub hl [0, 1, 2, 4, 5] rfl)
    refine lv_aload_n hx hb dX4_readEither_50 rfl (lv_at hl 5 rfl) ?_
    refine lv_bipush (v := (-3)) hx hb dX4_readEither_51 (by decide) ?_
    have hFc := free_all hD hS hA
    refine va_callv (va_runV (As := [.int (-3)]) (rest := []) ⟨hx, hb, hml, hown, hts⟩ (r_addCode l D ρ ws_362 ty_363 adK adV fo rd krd tp ktp cd bb tl (-3) H.size (⟨ts_125, te_126, cc_127, ra_128, rb_129, rc_130, rv_131, re_132, ya_133, by omega, by omega, by omega, by omega, e_367, e_368, wr_140, wt_141, ⟨k_142, c9_143, t_144, f_370, e_369, u_371, w_148⟩, ⟨k_149, c9_150, t_151, f_373, e_372, u_374, w_155⟩⟩ : RS ρ ws_362 ty_363 rd krd tp ktp cd bb tl)) (cwV 1 hts gX4_readEither_X4_addCode rfl rfl rfl (by decide +kernel) ⟨Nat.le_of_ble_eq_true rfl, Nat.le_of_ble_eq_true rfl⟩) ⟨fun a U g mk q => by obtain ⟨q0, q1, qP, qK, qD, qS⟩ := q; exact ⟨q0, q1, qP, va_K.moved (u := U) (U := U.calling g mk a) (Vm.Alike.refl U.vm) qK, qD, SZ.same rfl rfl qS⟩, va_recv hK hP (ci := 4) (q0 := krd) rfl e_367, fun U hU hW => ⟨rfl, by rw [hU], by rw [hU]; exact hP, va_K.moved hW.alike hK, hD.weaken (fun _ _ _ _ => trivial), hsz9.go hS hW hU hFc⟩⟩ rfl rfl hl.1 rfl (lv_room (Nat.le_of_ble_eq_true rfl)) dX4_readEither_53 ⟨Nat.le_of_ble_eq_true rfl, Nat.le_of_ble_eq_true rfl⟩) hS (fun q _ h => hFc q h) hFc (fun u t H1 locs ht hvm w_558 hB hz1 hk1 hS => ?_)
    obtain ⟨ws_559, ty_560, hm_561, ht_563, hP1, hK1, hD1, hx_562⟩ := hB
    rw [ht] at hP1
    have hK := va_K.moved hvm.symm hK1
    have hD := hD1.weaken (fun _ _ _ h => hFc _ h)
    generalize H1 = H at hP1 hS ⊢
    have hP := hP1
    obtain ⟨g_565, e_564, h_566⟩ := hm_561.obj e_367
    obtain ⟨z_567, z_568, z_569, z_570, z_571, z_572, rfl⟩ := smX4 h_566
    obtain ⟨g_574, e_573, h_575⟩ := hm_561.obj e_368
    obtain ⟨z_576, z_577, z_578, z_579, rfl⟩ := smX6 h_575
    obtain ⟨f_581, e_580⟩ := hm_561.arrI e_369
    have u_582 := ht_563 _ _ u_371
    obtain ⟨f_584, e_583⟩ := hm_561.arrI e_372
    have u_585 := ht_563 _ _ u_374
    have hsm := hsm.tr (hm_561.mono (by decide))
    have hlp_101 := hlp_101.tr (hm_561.mono (by decide))
    have htx := htx.tr ht_563
    obtain ⟨ts_586, te_587, cc_588, ra_589, rb_590, rc_591, rv_592, re_593, ya_594, h1_595, h2_596, h3_597, h4_598, er_599, et_600, wr_601, wt_602, ⟨k_603, c9_604, t_605, f_606, e_607, u_608, w_609⟩, ⟨k_610, c9_611, t_612, f_613, e_614, u_615, w_616⟩⟩ := id hx_562
    refine lv_iload_n hx hb dX4_readEither_56 rfl (lv_at hl 3 rfl) ?_
    refine lv_if_ne (tgt := 65) hx hb dX4_readEither_57 (by decide) (fun c_617 => ?_) (fun c_617 => ?_)
    · refine lv_iconst (v := 1) hx hb dX4_readEither_65 (by decide) ?_
      refine lv_goto (tgt := 70) hx hb dX4_readEither_66 (by decide) ?_
      refine lv_istore_n (lv' := [(3, .int 1), (5, .int 0), (4, .int (nI i_93)), (2, .int x_94), (1, .int 0), (0, .ref rd)]) hx hb dX4_readEither_70 rfl hl (by decide) rfl (fun ls hl => ?_)
      refine lv_aload_n hx hb dX4_readEither_71 rfl (lv_at hl 5 rfl) ?_
      refine va_get (D := D) (ci := 4) (v := .ref tp) (C := RX4) (T := TX4) (N := 8) hx hb hts hin4 hown hK hP krd er_599 rfl 0 (by decide) (hts (.fieldLink RX4 12 "HoneyHouse$RuleReader" "tape" "LHoneyHouse$Tape;") (List.mem_of_getElem? (i := 1) rfl)) (fun _ h9 => h9) rfl dX4_readEither_72 ?_
      have hFc := free_all hD hS hA
      refine va_callv (va_runV (As := []) (rest := []) ⟨hx, hb, hml, hown, hts⟩ (a_advance l D ρ ws_559 ty_560 tp ktp tl te_587 ya_594 (nI ts_586) bb k_610 c9_611 t_612 f_613 H.size (by omega) (by omega) et_600 e_614 u_615 wt_602) (cwV 0 hts gX4_readEither_X6_advance rfl rfl rfl (by decide +kernel) ⟨Nat.le_of_ble_eq_true rfl, Nat.le_of_ble_eq_true rfl⟩) ⟨fun a U g mk q => by obtain ⟨q0, q1, qP, qK, qD⟩ := q; exact ⟨q0, q1, qP, va_K.moved (u := U) (U := U.calling g mk a) (Vm.Alike.refl U.vm) qK, qD⟩, va_recv hK hP (ci := 6) (q0 := ktp) rfl et_600, fun U hU hW => ⟨rfl, by rw [hU], by rw [hU]; exact hP, va_K.moved hW.alike hK, hD.weaken (fun _ _ _ _ => trivial)⟩⟩ rfl rfl hl.1 rfl (lv_room (Nat.le_of_ble_eq_true rfl)) dX4_readEither_75 ⟨Nat.le_of_ble_eq_true rfl, Nat.le_of_ble_eq_true rfl⟩) hS (fun q _ h => hFc q h) hFc (fun u t H1 locs ht hvm w_619 hB hz1 hk1 hS => ?_)
      obtain ⟨ws_620, ty_621, hm_622, ht_624, hP1, hK1, hD1, hx_623⟩ := hB
      rw [ht] at hP1
      have hK := va_K.moved hvm.symm hK1
      have hD := hD1.weaken (fun _ _ _ h => hFc _ h)
      generalize H1 = H at hP1 hS ⊢
      have hP := hP1
      have e_625 := hm_622.objK er_599 (by decide)
      obtain ⟨g_627, e_626, h_628⟩ := hm_622.obj et_600
      obtain ⟨z_629, z_630, z_631, z_632, rfl⟩ := smX6 h_628
      obtain ⟨f_634, e_633⟩ := hm_622.arrI e_607
      have u_635 := ht_624 _ _ u_608
      obtain ⟨f_637, e_636⟩ := hm_622.arrI e_614
      have u_638 := ht_624 _ _ u_615
      have hsm := hsm.tr (hm_622.mono (by decide))
      have hlp_101 := hlp_101.tr (hm_622.mono (by decide))
      have htx := htx.tr ht_624
      obtain ⟨k_639, s_640, e_641, h_642, h_643, h_644, e_645⟩ := hx_623
      refine lv_aload_n hx hb dX4_readEither_78 rfl (lv_at hl 5 rfl) ?_
      refine lv_iload_n hx hb dX4_readEither_79 rfl (lv_at hl 4 rfl) ?_
      have hFc := free_all hD hS hA
      refine va_calli (va_runV (As := [.int 0]) (rest := []) ⟨hx, hb, hml, hown, hts⟩ (r_readOne0 l D ρ ws_620 ty_621 adK adV fo rd krd tp ktp cd bb tl  H.size (⟨s_640, e_641, cc_588, ra_589, rb_590, rc_591, rv_592, re_593, nI k_639, by omega, by omega, by omega, by omega, e_625, e_645, wr_601, wt_602, ⟨k_603, c9_604, t_605, f_634, e_633, u_635, w_609⟩, ⟨k_610, c9_611, t_612, f_637, e_636, u_638, w_616⟩⟩ : RS ρ ws_620 ty_621 rd krd tp ktp cd bb tl)) (cwV 1 hts gX4_readEither_X4_readOne rfl rfl rfl (by decide +kernel) ⟨Nat.le_of_ble_eq_true rfl, Nat.le_of_ble_eq_true rfl⟩) ⟨fun a U g mk q => by obtain ⟨q0, q1, qP, qK, qD, qS⟩ := q; exact ⟨q0, q1, qP, va_K.moved (u := U) (U := U.calling g mk a) (Vm.Alike.refl U.vm) qK, qD, SZ.same rfl rfl qS⟩, va_recv hK hP (ci := 4) (q0 := krd) rfl e_625, fun U hU hW => ⟨rfl, by rw [hU], by rw [hU]; exact hP, va_K.moved hW.alike hK, hD.weaken (fun _ _ _ _ => trivial), hsz9.go hS hW hU hFc⟩⟩ rfl rfl hl.1 rfl (lv_room (Nat.le_of_ble_eq_true rfl)) dX4_readEither_80 ⟨Nat.le_of_ble_eq_true rfl, Nat.le_of_ble_eq_true rfl⟩) hS (fun q _ h => hFc q h) hFc (fun r_646 u t H1 locs ht hvm w_647 hB hz1 hk1 hS => ?_)
      obtain ⟨ws_648, ty_649, hm_650, ht_652, hP1, hK1, hD1, hx_651⟩ := hB
      rw [ht] at hP1
      have hK := va_K.moved hvm.symm hK1
      have hD := hD1.weaken (fun _ _ _ h => hFc _ h)
      generalize H1 = H at hP1 hS ⊢
      have hP := hP1
      obtain ⟨g_654, e_653, h_655⟩ := hm_650.obj e_625
      obtain ⟨z_656, z_657, z_658, z_659, z_660, z_661, rfl⟩ := smX4 h_655
      obtain ⟨g_663, e_662, h_664⟩ := hm_650.obj e_645
      obtain ⟨z_665, z_666, z_667, z_668, rfl⟩ := smX6 h_664
      obtain ⟨f_670, e_669⟩ := hm_650.arrI e_633
      have u_671 := ht_652 _ _ u_635
      obtain ⟨f_673, e_672⟩ := hm_650.arrI e_636
      have u_674 := ht_652 _ _ u_638
      have hsm := hsm.tr (hm_650.mono (by decide))
      have hlp_101 := hlp_101.tr (hm_650.mono (by decide))
      have htx := htx.tr ht_652
      obtain ⟨ts_675, te_676, cc_677, ra_678, rb_679, rc_680, rv_681, re_682, ya_683, h1_684, h2_685, h3_686, h4_687, er_688, et_689, wr_690, wt_691, ⟨k_692, c9_693, t_694, f_695, e_696, u_697, w_698⟩, ⟨k_699, c9_700, t_701, f_702, e_703, u_704, w_705⟩⟩ := id hx_651
      refine lv_istore_n (lv' := [(2, .int r_646), (3, .int 1), (5, .int 0), (4, .int (nI i_93)), (1, .int 0), (0, .ref rd)]) hx hb dX4_readEither_83 rfl hl (by decide) rfl (fun ls hl => ?_)
      refine lv_iload hx hb dX4_readEither_84 (lv_at hl 2 rfl) ?_
      refine lv_if_eq (tgt := 95) hx hb dX4_readEither_86 (by decide) (fun c_706 => ?_) (fun c_706 => absurd (by decide) c_706)
      refine lv_iinc (v := nI (i_93 + 1)) (lv' := [(4, .int (nI (i_93 + 1))), (2, .int r_646), (3, .int 1), (5, .int 0), (1, .int 0), (0, .ref rd)]) hx hb dX4_readEither_95 hl (k := 3) rfl (nI_add i_93 1) (by decide) rfl (fun ls hl => ?_)
      refine lv_goto (tgt := 11) hx hb dX4_readEither_98 (by decide) ?_
      exact ih_92 (i_93 + 1, r_646, 1) ws_648 _ _ ls (by show 400 - (i_93 + 1) < 400 - i_93; omega) ⟨hlp_101, ⟨ty_649, hK, htx, (⟨ts_675, te_676, cc_677, ra_678, rb_679, rc_680, rv_681, re_682, ya_683, by omega, by omega, by omega, by omega, er_688, et_689, wr_690, wt_691, ⟨k_692, c9_693, t_694, f_695, e_696, u_697, w_698⟩, ⟨k_699, c9_700, t_701, f_702, e_703, u_704, w_705⟩⟩ : RS ρ ws_648 ty_649 rd krd tp ktp cd bb tl)⟩, (show (i_93 + 1) ≤ 400 from by omega), (show r_646 = 0 ∨ r_646 = 1 from w_647), (show 1 = 0 ∨ 1 = 1 from Or.inr rfl)⟩ hP hD hS (lv_sub hl [0, 1, 2, 4, 5] rfl)
    refine lv_iload hx hb dX4_readEither_60 (lv_at hl 0 rfl) ?_
    refine lv_if_ne (tgt := 69) hx hb dX4_readEither_62 (by decide) (fun c_707 => absurd (by decide) c_707) (fun c_707 => ?_)
    refine lv_iconst (v := 1) hx hb dX4_readEither_65 (by decide) ?_
    refine lv_goto (tgt := 70) hx hb dX4_readEither_66 (by decide) ?_
    refine lv_istore_n (lv' := [(3, .int 1), (5, .int 0), (4, .int (nI i_93)), (2, .int x_94), (1, .int 0), (0, .ref rd)]) hx hb dX4_readEither_70 rfl hl (by decide) rfl (fun ls hl => ?_)
    refine lv_aload_n hx hb dX4_readEither_71 rfl (lv_at hl 5 rfl) ?_
    refine va_get (D := D) (ci := 4) (v := .ref tp) (C := RX4) (T := TX4) (N := 8) hx hb hts hin4 hown hK hP krd er_599 rfl 0 (by decide) (hts (.fieldLink RX4 12 "HoneyHouse$RuleReader" "tape" "LHoneyHouse$Tape;") (List.mem_of_getElem? (i := 1) rfl)) (fun _ h9 => h9) rfl dX4_readEither_72 ?_
    have hFc := free_all hD hS hA
    refine va_callv (va_runV (As := []) (rest := []) ⟨hx, hb, hml, hown, hts⟩ (a_advance l D ρ ws_559 ty_560 tp ktp tl te_587 ya_594 (nI ts_586) bb k_610 c9_611 t_612 f_613 H.size (by omega) (by omega) et_600 e_614 u_615 wt_602) (cwV 0 hts gX4_readEither_X6_advance rfl rfl rfl (by decide +kernel) ⟨Nat.le_of_ble_eq_true rfl, Nat.le_of_ble_eq_true rfl⟩) ⟨fun a U g mk q => by obtain ⟨q0, q1, qP, qK, qD⟩ := q; exact ⟨q0, q1, qP, va_K.moved (u := U) (U := U.calling g mk a) (Vm.Alike.refl U.vm) qK, qD⟩, va_recv hK hP (ci := 6) (q0 := ktp) rfl et_600, fun U hU hW => ⟨rfl, by rw [hU], by rw [hU]; exact hP, va_K.moved hW.alike hK, hD.weaken (fun _ _ _ _ => trivial)⟩⟩ rfl rfl hl.1 rfl (lv_room (Nat.le_of_ble_eq_true rfl)) dX4_readEither_75 ⟨Nat.le_of_ble_eq_true rfl, Nat.le_of_ble_eq_true rfl⟩) hS (fun q _ h => hFc q h) hFc (fun u t H1 locs ht hvm w_709 hB hz1 hk1 hS => ?_)
    obtain ⟨ws_710, ty_711, hm_712, ht_714, hP1, hK1, hD1, hx_713⟩ := hB
    rw [ht] at hP1
    have hK := va_K.moved hvm.symm hK1
    have hD := hD1.weaken (fun _ _ _ h => hFc _ h)
    generalize H1 = H at hP1 hS ⊢
    have hP := hP1
    have e_715 := hm_712.objK er_599 (by decide)
    obtain ⟨g_717, e_716, h_718⟩ := hm_712.obj et_600
    obtain ⟨z_719, z_720, z_721, z_722, rfl⟩ := smX6 h_718
    obtain ⟨f_724, e_723⟩ := hm_712.arrI e_607
    have u_725 := ht_714 _ _ u_608
    obtain ⟨f_727, e_726⟩ := hm_712.arrI e_614
    have u_728 := ht_714 _ _ u_615
    have hsm := hsm.tr (hm_712.mono (by decide))
    have hlp_101 := hlp_101.tr (hm_712.mono (by decide))
    have htx := htx.tr ht_714
    obtain ⟨k_729, s_730, e_731, h_732, h_733, h_734, e_735⟩ := hx_713
    refine lv_aload_n hx hb dX4_readEither_78 rfl (lv_at hl 5 rfl) ?_
    refine lv_iload_n hx hb dX4_readEither_79 rfl (lv_at hl 4 rfl) ?_
    have hFc := free_all hD hS hA
    refine va_calli (va_runV (As := [.int 0]) (rest := []) ⟨hx, hb, hml, hown, hts⟩ (r_readOne0 l D ρ ws_710 ty_711 adK adV fo rd krd tp ktp cd bb tl  H.size (⟨s_730, e_731, cc_588, ra_589, rb_590, rc_591, rv_592, re_593, nI k_729, by omega, by omega, by omega, by omega, e_715, e_735, wr_601, wt_602, ⟨k_603, c9_604, t_605, f_724, e_723, u_725, w_609⟩, ⟨k_610, c9_611, t_612, f_727, e_726, u_728, w_616⟩⟩ : RS ρ ws_710 ty_711 rd krd tp ktp cd bb tl)) (cwV 1 hts gX4_readEither_X4_readOne rfl rfl rfl (by decide +kernel) ⟨Nat.le_of_ble_eq_true rfl, Nat.le_of_ble_eq_true rfl⟩) ⟨fun a U g mk q => by obtain ⟨q0, q1, qP, qK, qD, qS⟩ := q; exact ⟨q0, q1, qP, va_K.moved (u := U) (U := U.calling g mk a) (Vm.Alike.refl U.vm) qK, qD, SZ.same rfl rfl qS⟩, va_recv hK hP (ci := 4) (q0 := krd) rfl e_715, fun U hU hW => ⟨rfl, by rw [hU], by rw [hU]; exact hP, va_K.moved hW.alike hK, hD.weaken (fun _ _ _ _ => trivial), hsz9.go hS hW hU hFc⟩⟩ rfl rfl hl.1 rfl (lv_room (Nat.le_of_ble_eq_true rfl)) dX4_readEither_80 ⟨Nat.le_of_ble_eq_true rfl, Nat.le_of_ble_eq_true rfl⟩) hS (fun q _ h => hFc q h) hFc (fun r_736 u t H1 locs ht hvm w_737 hB hz1 hk1 hS => ?_)
    obtain ⟨ws_738, ty_739, hm_740, ht_742, hP1, hK1, hD1, hx_741⟩ := hB
    rw [ht] at hP1
    have hK := va_K.moved hvm.symm hK1
    have hD := hD1.weaken (fun _ _ _ h => hFc _ h)
    generalize H1 = H at hP1 hS ⊢
    have hP := hP1
    obtain ⟨g_744, e_743, h_745⟩ := hm_740.obj e_715
    obtain ⟨z_746, z_747, z_748, z_749, z_750, z_751, rfl⟩ := smX4 h_745
    obtain ⟨g_753, e_752, h_754⟩ := hm_740.obj e_735
    obtain ⟨z_755, z_756, z_757, z_758, rfl⟩ := smX6 h_754
    obtain ⟨f_760, e_759⟩ := hm_740.arrI e_723
    have u_761 := ht_742 _ _ u_725
    obtain ⟨f_763, e_762⟩ := hm_740.arrI e_726
    have u_764 := ht_742 _ _ u_728
    have hsm := hsm.tr (hm_740.mono (by decide))
    have hlp_101 := hlp_101.tr (hm_740.mono (by decide))
    have htx := htx.tr ht_742
    obtain ⟨ts_765, te_766, cc_767, ra_768, rb_769, rc_770, rv_771, re_772, ya_773, h1_774, h2_775, h3_776, h4_777, er_778, et_779, wr_780, wt_781, ⟨k_782, c9_783, t_784, f_785, e_786, u_787, w_788⟩, ⟨k_789, c9_790, t_791, f_792, e_793, u_794, w_795⟩⟩ := id hx_741
    refine lv_istore_n (lv' := [(2, .int r_736), (3, .int 1), (5, .int 0), (4, .int (nI i_93)), (1, .int 0), (0, .ref rd)]) hx hb dX4_readEither_83 rfl hl (by decide) rfl (fun ls hl => ?_)
    refine lv_iload hx hb dX4_readEither_84 (lv_at hl 2 rfl) ?_
    refine lv_if_eq (tgt := 95) hx hb dX4_readEither_86 (by decide) (fun c_796 => ?_) (fun c_796 => absurd (by decide) c_796)
    refine lv_iinc (v := nI (i_93 + 1)) (lv' := [(4, .int (nI (i_93 + 1))), (2, .int r_736), (3, .int 1), (5, .int 0), (1, .int 0), (0, .ref rd)]) hx hb dX4_readEither_95 hl (k := 3) rfl (nI_add i_93 1) (by decide) rfl (fun ls hl => ?_)
    refine lv_goto (tgt := 11) hx hb dX4_readEither_98 (by decide) ?_
    exact ih_92 (i_93 + 1, r_736, 1) ws_738 _ _ ls (by show 400 - (i_93 + 1) < 400 - i_93; omega) ⟨hlp_101, ⟨ty_739, hK, htx, (⟨ts_765, te_766, cc_767, ra_768, rb_769, rc_770, rv_771, re_772, ya_773, by omega, by omega, by omega, by omega, er_778, et_779, wr_780, wt_781, ⟨k_782, c9_783, t_784, f_785, e_786, u_787, w_788⟩, ⟨k_789, c9_790, t_791, f_792, e_793, u_794, w_795⟩⟩ : RS ρ ws_738 ty_739 rd krd tp ktp cd bb tl)⟩, (show (i_93 + 1) ≤ 400 from by omega), (show r_736 = 0 ∨ r_736 = 1 from w_737), (show 1 = 0 ∨ 1 = 1 from Or.inr rfl)⟩ hP hD hS (lv_sub hl [0, 1, 2, 4, 5] rfl)
  refine lv_istore (lv' := [(5, .int 1), (4, .int (nI i_93)), (2, .int x_94), (3, .int y_95), (1, .int 0), (0, .ref rd)]) hx hb dX4_readEither_39 hl (by decide) rfl (fun ls hl => ?_)
  refine lv_iload hx hb dX4_readEither_41 (lv_at hl 0 rfl) ?_
  refine lv_if_ne (tgt := 56) hx hb dX4_readEither_43 (by decide) (fun c_797 => ?_) (fun c_797 => absurd c_797 (by decide))
  refine lv_iload_n hx hb dX4_readEither_56 rfl (lv_at hl 3 rfl) ?_
  refine lv_if_ne (tgt := 65) hx hb dX4_readEither_57 (by decide) (fun c_798 => ?_) (fun c_798 => ?_)
  · refine lv_iconst (v := 1) hx hb dX4_readEither_65 (by decide) ?_
    refine lv_goto (tgt := 70) hx hb dX4_readEither_66 (by decide) ?_
    refine lv_istore_n (lv' := [(3, .int 1), (5, .int 1), (4, .int (nI i_93)), (2, .int x_94), (1, .int 0), (0, .ref rd)]) hx hb dX4_readEither_70 rfl hl (by decide) rfl (fun ls hl => ?_)
    refine lv_aload_n hx hb dX4_readEither_71 rfl (lv_at hl 5 rfl) ?_
    refine va_get (D := D) (ci := 4) (v := .ref tp) (C := RX4) (T := TX4) (N := 8) hx hb hts hin4 hown hK hP krd e_367 rfl 0 (by decide) (hts (.fieldLink RX4 12 "HoneyHouse$RuleReader" "tape" "LHoneyHouse$Tape;") (List.mem_of_getElem? (i := 1) rfl)) (fun _ h9 => h9) rfl dX4_readEither_72 ?_
    have hFc := free_all hD hS hA
    refine va_callv (va_runV (As := []) (rest := []) ⟨hx, hb, hml, hown, hts⟩ (a_advance l D ρ ws_362 ty_363 tp ktp tl te_126 ya_133 (nI ts_125) bb k_149 c9_150 t_151 f_373 H.size (by omega) (by omega) e_368 e_372 u_374 wt_141) (cwV 0 hts gX4_readEither_X6_advance rfl rfl rfl (by decide +kernel) ⟨Nat.le_of_ble_eq_true rfl, Nat.le_of_ble_eq_true rfl⟩) ⟨fun a U g mk q => by obtain ⟨q0, q1, qP, qK, qD⟩ := q; exact ⟨q0, q1, qP, va_K.moved (u := U) (U := U.calling g mk a) (Vm.Alike.refl U.vm) qK, qD⟩, va_recv hK hP (ci := 6) (q0 := ktp) rfl e_368, fun U hU hW => ⟨rfl, by rw [hU], by rw [hU]; exact hP, va_K.moved hW.alike hK, hD.weaken (fun _ _ _ _ => trivial)⟩⟩ rfl rfl hl.1 rfl (lv_room (Nat.le_of_ble_eq_true rfl)) dX4_readEither_75 ⟨Nat.le_of_ble_eq_true rfl, Nat.le_of_ble_eq_true rfl⟩) hS (fun q _ h => hFc q h) hFc (fun u t H1 locs ht hvm w_800 hB hz1 hk1 hS => ?_)
    obtain ⟨ws_801, ty_802, hm_803, ht_805, hP1, hK1, hD1, hx_804⟩ := hB
    rw [ht] at hP1
    have hK := va_K.moved hvm.symm hK1
    have hD := hD1.weaken (fun _ _ _ h => hFc _ h)
    generalize H1 = H at hP1 hS ⊢
    have hP := hP1
    have e_806 := hm_803.objK e_367 (by decide)
    obtain ⟨g_808, e_807, h_809⟩ := hm_803.obj e_368
    obtain ⟨z_810, z_811, z_812, z_813, rfl⟩ := smX6 h_809
    obtain ⟨f_815, e_814⟩ := hm_803.arrI e_369
    have u_816 := ht_805 _ _ u_371
    obtain ⟨f_818, e_817⟩ := hm_803.arrI e_372
    have u_819 := ht_805 _ _ u_374
    have hsm := hsm.tr (hm_803.mono (by decide))
    have hlp_101 := hlp_101.tr (hm_803.mono (by decide))
    have htx := htx.tr ht_805
    obtain ⟨k_820, s_821, e_822, h_823, h_824, h_825, e_826⟩ := hx_804
    refine lv_aload_n hx hb dX4_readEither_78 rfl (lv_at hl 5 rfl) ?_
    refine lv_iload_n hx hb dX4_readEither_79 rfl (lv_at hl 4 rfl) ?_
    have hFc := free_all hD hS hA
    refine va_calli (va_runV (As := [.int 0]) (rest := []) ⟨hx, hb, hml, hown, hts⟩ (r_readOne0 l D ρ ws_801 ty_802 adK adV fo rd krd tp ktp cd bb tl  H.size (⟨s_821, e_822, cc_127, ra_128, rb_129, rc_130, rv_131, re_132, nI k_820, by omega, by omega, by omega, by omega, e_806, e_826, wr_140, wt_141, ⟨k_142, c9_143, t_144, f_815, e_814, u_816, w_148⟩, ⟨k_149, c9_150, t_151, f_818, e_817, u_819, w_155⟩⟩ : RS ρ ws_801 ty_802 rd krd tp ktp cd bb tl)) (cwV 1 hts gX4_readEither_X4_readOne rfl rfl rfl (by decide +kernel) ⟨Nat.le_of_ble_eq_true rfl, Nat.le_of_ble_eq_true rfl⟩) ⟨fun a U g mk q => by obtain ⟨q0, q1, qP, qK, qD, qS⟩ := q; exact ⟨q0, q1, qP, va_K.moved (u := U) (U := U.calling g mk a) (Vm.Alike.refl U.vm) qK, qD, SZ.same rfl rfl qS⟩, va_recv hK hP (ci := 4) (q0 := krd) rfl e_806, fun U hU hW => ⟨rfl, by rw [hU], by rw [hU]; exact hP, va_K.moved hW.alike hK, hD.weaken (fun _ _ _ _ => trivial), hsz9.go hS hW hU hFc⟩⟩ rfl rfl hl.1 rfl (lv_room (Nat.le_of_ble_eq_true rfl)) dX4_readEither_80 ⟨Nat.le_of_ble_eq_true rfl, Nat.le_of_ble_eq_true rfl⟩) hS (fun q _ h => hFc q h) hFc (fun r_827 u t H1 locs ht hvm w_828 hB hz1 hk1 hS => ?_)
    obtain ⟨ws_829, ty_830, hm_831, ht_833, hP1, hK1, hD1, hx_832⟩ := hB
    rw [ht] at hP1
    have hK := va_K.moved hvm.symm hK1
    have hD := hD1.weaken (fun _ _ _ h => hFc _ h)
    generalize H1 = H at hP1 hS ⊢
    have hP := hP1
    obtain ⟨g_835, e_834, h_836⟩ := hm_831.obj e_806
    obtain ⟨z_837, z_838, z_839, z_840, z_841, z_842, rfl⟩ := smX4 h_836
    obtain ⟨g_844, e_843, h_845⟩ := hm_831.obj e_826
    obtain ⟨z_846, z_847, z_848, z_849, rfl⟩ := smX6 h_845
    obtain ⟨f_851, e_850⟩ := hm_831.arrI e_814
    have u_852 := ht_833 _ _ u_816
    obtain ⟨f_854, e_853⟩ := hm_831.arrI e_817
    have u_855 := ht_833 _ _ u_819
    have hsm := hsm.tr (hm_831.mono (by decide))
    have hlp_101 := hlp_101.tr (hm_831.mono (by decide))
    have htx := htx.tr ht_833
    obtain ⟨ts_856, te_857, cc_858, ra_859, rb_860, rc_861, rv_862, re_863, ya_864, h1_865, h2_866, h3_867, h4_868, er_869, et_870, wr_871, wt_872, ⟨k_873, c9_874, t_875, f_876, e_877, u_878, w_879⟩, ⟨k_880, c9_881, t_882, f_883, e_884, u_885, w_886⟩⟩ := id hx_832
    refine lv_istore_n (lv' := [(2, .int r_827), (3, .int 1), (5, .int 1), (4, .int (nI i_93)), (1, .int 0), (0, .ref rd)]) hx hb dX4_readEither_83 rfl hl (by decide) rfl (fun ls hl => ?_)
    refine lv_iload hx hb dX4_readEither_84 (lv_at hl 2 rfl) ?_
    refine lv_if_eq (tgt := 95) hx hb dX4_readEither_86 (by decide) (fun c_887 => absurd c_887 (by decide)) (fun c_887 => ?_)
    refine lv_aload_n hx hb dX4_readEither_89 rfl (lv_at hl 5 rfl) ?_
    refine lv_bipush (v := (-2)) hx hb dX4_readEither_90 (by decide) ?_
    have hFc := free_all hD hS hA
    refine va_callv (va_runV (As := [.int (-2)]) (rest := []) ⟨hx, hb, hml, hown, hts⟩ (r_addCode l D ρ ws_829 ty_830 adK adV fo rd krd tp ktp cd bb tl (-2) H.size (⟨ts_856, te_857, cc_858, ra_859, rb_860, rc_861, rv_862, re_863, ya_864, by omega, by omega, by omega, by omega, er_869, et_870, wr_871, wt_872, ⟨k_873, c9_874, t_875, f_876, e_877, u_878, w_879⟩, ⟨k_880, c9_881, t_882, f_883, e_884, u_885, w_886⟩⟩ : RS ρ ws_829 ty_830 rd krd tp ktp cd bb tl)) (cwV 1 hts gX4_readEither_X4_addCode rfl rfl rfl (by decide +kernel) ⟨Nat.le_of_ble_eq_true rfl, Nat.le_of_ble_eq_true rfl⟩) ⟨fun a U g mk q => by obtain ⟨q0, q1, qP, qK, qD, qS⟩ := q; exact ⟨q0, q1, qP, va_K.moved (u := U) (U := U.calling g mk a) (Vm.Alike.refl U.vm) qK, qD, SZ.same rfl rfl qS⟩, va_recv hK hP (ci := 4) (q0 := krd) rfl er_869, fun U hU hW => ⟨rfl, by rw [hU], by rw [hU]; exact hP, va_K.moved hW.alike hK, hD.weaken (fun _ _ _ _ => trivial), hsz9.go hS hW hU hFc⟩⟩ rfl rfl hl.1 rfl (lv_room (Nat.le_of_ble_eq_true rfl)) dX4_readEither_92 ⟨Nat.le_of_ble_eq_true rfl, Nat.le_of_ble_eq_true rfl⟩) hS (fun q _ h => hFc q h) hFc (fun u t H1 locs ht hvm w_889 hB hz1 hk1 hS => ?_)
    obtain ⟨ws_890, ty_891, hm_892, ht_894, hP1, hK1, hD1, hx_893⟩ := hB
    rw [ht] at hP1
    have hK := va_K.moved hvm.symm hK1
    have hD := hD1.weaken (fun _ _ _ h => hFc _ h)
    generalize H1 = H at hP1 hS ⊢
    have hP := hP1
    obtain ⟨g_896, e_895, h_897⟩ := hm_892.obj er_869
    obtain ⟨z_898, z_899, z_900, z_901, z_902, z_903, rfl⟩ := smX4 h_897
    obtain ⟨g_905, e_904, h_906⟩ := hm_892.obj et_870
    obtain ⟨z_907, z_908, z_909, z_910, rfl⟩ := smX6 h_906
    obtain ⟨f_912, e_911⟩ := hm_892.arrI e_877
    have u_913 := ht_894 _ _ u_878
    obtain ⟨f_915, e_914⟩ := hm_892.arrI e_884
    have u_916 := ht_894 _ _ u_885
    have hsm := hsm.tr (hm_892.mono (by decide))
    have hlp_101 := hlp_101.tr (hm_892.mono (by decide))
    have htx := htx.tr ht_894
    obtain ⟨ts_917, te_918, cc_919, ra_920, rb_921, rc_922, rv_923, re_924, ya_925, h1_926, h2_927, h3_928, h4_929, er_930, et_931, wr_932, wt_933, ⟨k_934, c9_935, t_936, f_937, e_938, u_939, w_940⟩, ⟨k_941, c9_942, t_943, f_944, e_945, u_946, w_947⟩⟩ := id hx_893
    refine lv_iinc (v := nI (i_93 + 1)) (lv' := [(4, .int (nI (i_93 + 1))), (2, .int r_827), (3, .int 1), (5, .int 1), (1, .int 0), (0, .ref rd)]) hx hb dX4_readEither_95 hl (k := 3) rfl (nI_add i_93 1) (by decide) rfl (fun ls hl => ?_)
    refine lv_goto (tgt := 11) hx hb dX4_readEither_98 (by decide) ?_
    exact ih_92 (i_93 + 1, r_827, 1) ws_890 _ _ ls (by show 400 - (i_93 + 1) < 400 - i_93; omega) ⟨hlp_101, ⟨ty_891, hK, htx, (⟨ts_917, te_918, cc_919, ra_920, rb_921, rc_922, rv_923, re_924, ya_925, by omega, by omega, by omega, by omega, er_930, et_931, wr_932, wt_933, ⟨k_934, c9_935, t_936, f_937, e_938, u_939, w_940⟩, ⟨k_941, c9_942, t_943, f_944, e_945, u_946, w_947⟩⟩ : RS ρ ws_890 ty_891 rd krd tp ktp cd bb tl)⟩, (show (i_93 + 1) ≤ 400 from by omega), (show r_827 = 0 ∨ r_827 = 1 from w_828), (show 1 = 0 ∨ 1 = 1 from Or.inr rfl)⟩ hP hD hS (lv_sub hl [0, 1, 2, 4, 5] rfl)
  refine lv_iload hx hb dX4_readEither_60 (lv_at hl 0 rfl) ?_
  refine lv_if_ne (tgt := 69) hx hb dX4_readEither_62 (by decide) (fun c_948 => ?_) (fun c_948 => absurd c_948 (by decide))
  refine lv_iconst (v := 0) hx hb dX4_readEither_69 (by decide) ?_
  refine lv_istore_n (lv' := [(3, .int 0), (5, .int 1), (4, .int (nI i_93)), (2, .int x_94), (1, .int 0), (0, .ref rd)]) hx hb dX4_readEither_70 rfl hl (by decide) rfl (fun ls hl => ?_)
  refine lv_aload_n hx hb dX4_readEither_71 rfl (lv_at hl 5 rfl) ?_
  refine va_get (D := D) (ci := 4) (v := .ref tp) (C := RX4) (T := TX4) (N := 8) hx hb hts hin4 hown hK hP krd e_367 rfl 0 (by decide) (hts (.fieldLink RX4 12 "HoneyHouse$RuleReader" "tape" "LHoneyHouse$Tape;") (List.mem_of_getElem? (i := 1) rfl)) (fun _ h9 => h9) rfl dX4_readEither_72 ?_
  have hFc := free_all hD hS hA
  refine va_callv (va_runV (As := []) (rest := []) ⟨hx, hb, hml, hown, hts⟩ (a_advance l D ρ ws_362 ty_363 tp ktp tl te_126 ya_133 (nI ts_125) bb k_149 c9_150 t_151 f_373 H.size (by omega) (by omega) e_368 e_372 u_374 wt_141) (cwV 0 hts gX4_readEither_X6_advance rfl rfl rfl (by decide +kernel) ⟨Nat.le_of_ble_eq_true rfl, Nat.le_of_ble_eq_true rfl⟩) ⟨fun a U g mk q => by obtain ⟨q0, q1, qP, qK, qD⟩ := q; exact ⟨q0, q1, qP, va_K.moved (u := U) (U := U.calling g mk a) (Vm.Alike.refl U.vm) qK, qD⟩, va_recv hK hP (ci := 6) (q0 := ktp) rfl e_368, fun U hU hW => ⟨rfl, by rw [hU], by rw [hU]; exact hP, va_K.moved hW.alike hK, hD.weaken (fun _ _ _ _ => trivial)⟩⟩ rfl rfl hl.1 rfl (lv_room (Nat.le_of_ble_eq_true rfl)) dX4_readEither_75 ⟨Nat.le_of_ble_eq_true rfl, Nat.le_of_ble_eq_true rfl⟩) hS (fun q _ h => hFc q h) hFc (fun u t H1 locs ht hvm w_950 hB hz1 hk1 hS => ?_)
  obtain ⟨ws_951, ty_952, hm_953, ht_955, hP1, hK1, hD1, hx_954⟩ := hB
  rw [ht] at hP1
  have hK := va_K.moved hvm.symm hK1
  have hD := hD1.weaken (fun _ _ _ h => hFc _ h)
  generalize H1 = H at hP1 hS ⊢
  have hP := hP1
  have e_956 := hm_953.objK e_367 (by decide)
  obtain ⟨g_958, e_957, h_959⟩ := hm_953.obj e_368
  obtain ⟨z_960, z_961, z_962, z_963, rfl⟩ := smX6 h_959
  obtain ⟨f_965, e_964⟩ := hm_953.arrI e_369
  have u_966 := ht_955 _ _ u_371
  obtain ⟨f_968, e_967⟩ := hm_953.arrI e_372
  have u_969 := ht_955 _ _ u_374
  have hsm := hsm.tr (hm_953.mono (by decide))
  have hlp_101 := hlp_101.tr (hm_953.mono (by decide))
  have htx := htx.tr ht_955
  obtain ⟨k_970, s_971, e_972, h_973, h_974, h_975, e_976⟩ := hx_954
  refine lv_aload_n hx hb dX4_readEither_78 rfl (lv_at hl 5 rfl) ?_
  refine lv_iload_n hx hb dX4_readEither_79 rfl (lv_at hl 4 rfl) ?_
  have hFc := free_all hD hS hA
  refine va_calli (va_runV (As := [.int 0]) (rest := []) ⟨hx, hb, hml, hown, hts⟩ (r_readOne0 l D ρ ws_951 ty_952 adK adV fo rd krd tp ktp cd bb tl  H.size (⟨s_971, e_972, cc_127, ra_128, rb_129, rc_130, rv_131, re_132, nI k_970, by omega, by omega, by omega, by omega, e_956, e_976, wr_140, wt_141, ⟨k_142, c9_143, t_144, f_965, e_964, u_966, w_148⟩, ⟨k_149, c9_150, t_151, f_968, e_967, u_969, w_155⟩⟩ : RS ρ ws_951 ty_952 rd krd tp ktp cd bb tl)) (cwV 1 hts gX4_readEither_X4_readOne rfl rfl rfl (by decide +kernel) ⟨Nat.le_of_ble_eq_true rfl, Nat.le_of_ble_eq_true rfl⟩) ⟨fun a U g mk q => by obtain ⟨q0, q1, qP, qK, qD, qS⟩ := q; exact ⟨q0, q1, qP, va_K.moved (u := U) (U := U.calling g mk a) (Vm.Alike.refl U.vm) qK, qD, SZ.same rfl rfl qS⟩, va_recv hK hP (ci := 4) (q0 := krd) rfl e_956, fun U hU hW => ⟨rfl, by rw [hU], by rw [hU]; exact hP, va_K.moved hW.alike hK, hD.weaken (fun _ _ _ _ => trivial), hsz9.go hS hW hU hFc⟩⟩ rfl rfl hl.1 rfl (lv_room (Nat.le_of_ble_eq_true rfl)) dX4_readEither_80 ⟨Nat.le_of_ble_eq_true rfl, Nat.le_of_ble_eq_true rfl⟩) hS (fun q _ h => hFc q h) hFc (fun r_977 u t H1 locs ht hvm w_978 hB hz1 hk1 hS => ?_)
  obtain ⟨ws_979, ty_980, hm_981, ht_983, hP1, hK1, hD1, hx_982⟩ := hB
  rw [ht] at hP1
  have hK := va_K.moved hvm.symm hK1
  have hD := hD1.weaken (fun _ _ _ h => hFc _ h)
  generalize H1 = H at hP1 hS ⊢
  have hP := hP1
  obtain ⟨g_985, e_984, h_986⟩ := hm_981.obj e_956
  obtain ⟨z_987, z_988, z_989, z_990, z_991, z_992, rfl⟩ := smX4 h_986
  obtain ⟨g_994, e_993, h_995⟩ := hm_981.obj e_976
  obtain ⟨z_996, z_997, z_998, z_999, rfl⟩ := smX6 h_995
  obtain ⟨f_1001, e_1000⟩ := hm_981.arrI e_964
  have u_1002 := ht_983 _ _ u_966
  obtain ⟨f_1004, e_1003⟩ := hm_981.arrI e_967
  have u_1005 := ht_983 _ _ u_969
  have hsm := hsm.tr (hm_981.mono (by decide))
  have hlp_101 := hlp_101.tr (hm_981.mono (by decide))
  have htx := htx.tr ht_983
  obtain ⟨ts_1006, te_1007, cc_1008, ra_1009, rb_1010, rc_1011, rv_1012, re_1013, ya_1014, h1_1015, h2_1016, h3_1017, h4_1018, er_1019, et_1020, wr_1021, wt_1022, ⟨k_1023, c9_1024, t_1025, f_1026, e_1027, u_1028, w_1029⟩, ⟨k_1030, c9_1031, t_1032, f_1033, e_1034, u_1035, w_1036⟩⟩ := id hx_982
  refine lv_istore_n (lv' := [(2, .int r_977), (3, .int 0), (5, .int 1), (4, .int (nI i_93)), (1, .int 0), (0, .ref rd)]) hx hb dX4_readEither_83 rfl hl (by decide) rfl (fun ls hl => ?_)
  refine lv_iload hx hb dX4_readEither_84 (lv_at hl 2 rfl) ?_
  refine lv_if_eq (tgt := 95) hx hb dX4_readEither_86 (by decide) (fun c_1037 => absurd c_1037 (by decide)) (fun c_1037 => ?_)
  refine lv_aload_n hx hb dX4_readEither_89 rfl (lv_at hl 5 rfl) ?_
  refine lv_bipush (v := (-2)) hx hb dX4_readEither_90 (by decide) ?_
  have hFc := free_all hD hS hA
  refine va_callv (va_runV (As := [.int (-2)]) (rest := []) ⟨hx, hb, hml, hown, hts⟩ (r_addCode l D ρ ws_979 ty_980 adK adV fo rd krd tp ktp cd bb tl (-2) H.size (⟨ts_1006, te_1007, cc_1008, ra_1009, rb_1010, rc_1011, rv_1012, re_1013, ya_1014, by omega, by omega, by omega, by omega, er_1019, et_1020, wr_1021, wt_1022, ⟨k_1023, c9_1024, t_1025, f_1026, e_1027, u_1028, w_1029⟩, ⟨k_1030, c9_1031, t_1032, f_1033, e_1034, u_1035, w_1036⟩⟩ : RS ρ ws_979 ty_980 rd krd tp ktp cd bb tl)) (cwV 1 hts gX4_readEither_X4_addCode rfl rfl rfl (by decide +kernel) ⟨Nat.le_of_ble_eq_true rfl, Nat.le_of_ble_eq_true rfl⟩) ⟨fun a U g mk q => by obtain ⟨q0, q1, qP, qK, qD, qS⟩ := q; exact ⟨q0, q1, qP, va_K.moved (u := U) (U := U.calling g mk a) (Vm.Alike.refl U.vm) qK, qD, SZ.same rfl rfl qS⟩, va_recv hK hP (ci := 4) (q0 := krd) rfl er_1019, fun U hU hW => ⟨rfl, by rw [hU], by rw [hU]; exact hP, va_K.moved hW.alike hK, hD.weaken (fun _ _ _ _ => trivial), hsz9.go hS hW hU hFc⟩⟩ rfl rfl hl.1 rfl (lv_room (Nat.le_of_ble_eq_true rfl)) dX4_readEither_92 ⟨Nat.le_of_ble_eq_true rfl, Nat.le_of_ble_eq_true rfl⟩) hS (fun q _ h => hFc q h) hFc (fun u t H1 locs ht hvm w_1039 hB hz1 hk1 hS => ?_)
  obtain ⟨ws_1040, ty_1041, hm_1042, ht_1044, hP1, hK1, hD1, hx_1043⟩ := hB
  rw [ht] at hP1
  have hK := va_K.moved hvm.symm hK1
  have hD := hD1.weaken (fun _ _ _ h => hFc _ h)
  generalize H1 = H at hP1 hS ⊢
  have hP := hP1
  obtain ⟨g_1046, e_1045, h_1047⟩ := hm_1042.obj er_1019
  obtain ⟨z_1048, z_1049, z_1050, z_1051, z_1052, z_1053, rfl⟩ := smX4 h_1047
  obtain ⟨g_1055, e_1054, h_1056⟩ := hm_1042.obj et_1020
  obtain ⟨z_1057, z_1058, z_1059, z_1060, rfl⟩ := smX6 h_1056
  obtain ⟨f_1062, e_1061⟩ := hm_1042.arrI e_1027
  have u_1063 := ht_1044 _ _ u_1028
  obtain ⟨f_1065, e_1064⟩ := hm_1042.arrI e_1034
  have u_1066 := ht_1044 _ _ u_1035
  have hsm := hsm.tr (hm_1042.mono (by decide))
  have hlp_101 := hlp_101.tr (hm_1042.mono (by decide))
  have htx := htx.tr ht_1044
  obtain ⟨ts_1067, te_1068, cc_1069, ra_1070, rb_1071, rc_1072, rv_1073, re_1074, ya_1075, h1_1076, h2_1077, h3_1078, h4_1079, er_1080, et_1081, wr_1082, wt_1083, ⟨k_1084, c9_1085, t_1086, f_1087, e_1088, u_1089, w_1090⟩, ⟨k_1091, c9_1092, t_1093, f_1094, e_1095, u_1096, w_1097⟩⟩ := id hx_1043
  refine lv_iinc (v := nI (i_93 + 1)) (lv' := [(4, .int (nI (i_93 + 1))), (2, .int r_977), (3, .int 0), (5, .int 1), (1, .int 0), (0, .ref rd)]) hx hb dX4_readEither_95 hl (k := 3) rfl (nI_add i_93 1) (by decide) rfl (fun ls hl => ?_)
  refine lv_goto (tgt := 11) hx hb dX4_readEither_98 (by decide) ?_
  exact ih_92 (i_93 + 1, r_977, 0) ws_1040 _ _ ls (by show 400 - (i_93 + 1) < 400 - i_93; omega) ⟨hlp_101, ⟨ty_1041, hK, htx, (⟨ts_1067, te_1068, cc_1069, ra_1070, rb_1071, rc_1072, rv_1073, re_1074, ya_1075, by omega, by omega, by omega, by omega, er_1080, et_1081, wr_1082, wt_1083, ⟨k_1084, c9_1085, t_1086, f_1087, e_1088, u_1089, w_1090⟩, ⟨k_1091, c9_1092, t_1093, f_1094, e_1095, u_1096, w_1097⟩⟩ : RS ρ ws_1040 ty_1041 rd krd tp ktp cd bb tl)⟩, (show (i_93 + 1) ≤ 400 from by omega), (show r_977 = 0 ∨ r_977 = 1 from w_978), (show 0 = 0 ∨ 0 = 1 from Or.inl rfl)⟩ hP hD hS (lv_sub hl [0, 1, 2, 4, 5] rfl)
