theorem dX4_readOne_0 : decode cX4_readOne 0 = .ok (.aload_n 0, 1) := by decide +kernel
theorem dX4_readOne_1 : decode cX4_readOne 1 = .ok (.getfield 12, 3) := by decide +kernel
theorem dX4_readOne_4 : decode cX4_readOne 4 = .ok (.ldc 104, 2) := by decide +kernel
theorem dX4_readOne_6 : decode cX4_readOne 6 = .ok (.invokevirtual 99, 3) := by decide +kernel
theorem dX4_readOne_9 : decode cX4_readOne 9 = .ok (.istore_n 2, 1) := by decide +kernel
theorem dX4_readOne_10 : decode cX4_readOne 10 = .ok (.iload_n 2, 1) := by decide +kernel
theorem dX4_readOne_11 : decode cX4_readOne 11 = .ok (.ifCond .ne 20, 3) := by decide +kernel
theorem dX4_readOne_14 : decode cX4_readOne 14 = .ok (.aload_n 0, 1) := by decide +kernel
theorem dX4_readOne_15 : decode cX4_readOne 15 = .ok (.getfield 12, 3) := by decide +kernel
theorem dX4_readOne_18 : decode cX4_readOne 18 = .ok (.bipush 40, 2) := by decide +kernel
theorem dX4_readOne_20 : decode cX4_readOne 20 = .ok (.invokevirtual 114, 3) := by decide +kernel
theorem dX4_readOne_23 : decode cX4_readOne 23 = .ok (.ifCond .ne 8, 3) := by decide +kernel
theorem dX4_readOne_26 : decode cX4_readOne 26 = .ok (.aload_n 0, 1) := by decide +kernel
theorem dX4_readOne_27 : decode cX4_readOne 27 = .ok (.invokevirtual 130, 3) := by decide +kernel
theorem dX4_readOne_30 : decode cX4_readOne 30 = .ok (.ireturn, 1) := by decide +kernel
theorem dX4_readOne_31 : decode cX4_readOne 31 = .ok (.iload_n 1, 1) := by decide +kernel
theorem dX4_readOne_32 : decode cX4_readOne 32 = .ok (.bipush 6, 2) := by decide +kernel
theorem dX4_readOne_34 : decode cX4_readOne 34 = .ok (.if_icmp .lt 16, 3) := by decide +kernel
theorem dX4_readOne_37 : decode cX4_readOne 37 = .ok (.aload_n 0, 1) := by decide +kernel
theorem dX4_readOne_38 : decode cX4_readOne 38 = .ok (.iconst 3, 1) := by decide +kernel
theorem dX4_readOne_39 : decode cX4_readOne 39 = .ok (.aload_n 0, 1) := by decide +kernel
theorem dX4_readOne_40 : decode cX4_readOne 40 = .ok (.getfield 12, 3) := by decide +kernel
theorem dX4_readOne_43 : decode cX4_readOne 43 = .ok (.getfield 73, 3) := by decide +kernel
theorem dX4_readOne_46 : decode cX4_readOne 46 = .ok (.invokevirtual 76, 3) := by decide +kernel
theorem dX4_readOne_49 : decode cX4_readOne 49 = .ok (.ireturn, 1) := by decide +kernel
theorem dX4_readOne_50 : decode cX4_readOne 50 = .ok (.aload_n 0, 1) := by decide +kernel
theorem dX4_readOne_51 : decode cX4_readOne 51 = .ok (.getfield 12, 3) := by decide +kernel
theorem dX4_readOne_54 : decode cX4_readOne 54 = .ok (.invokevirtual 94, 3) := by decide +kernel
theorem dX4_readOne_57 : decode cX4_readOne 57 = .ok (.iload_n 2, 1) := by decide +kernel
theorem dX4_readOne_58 : decode cX4_readOne 58 = .ok (.ifCond .ne 28, 3) := by decide +kernel
theorem dX4_readOne_61 : decode cX4_readOne 61 = .ok (.aload_n 0, 1) := by decide +kernel
theorem dX4_readOne_62 : decode cX4_readOne 62 = .ok (.iload_n 1, 1) := by decide +kernel
theorem dX4_readOne_63 : decode cX4_readOne 63 = .ok (.iconst 1, 1) := by decide +kernel
theorem dX4_readOne_64 : decode cX4_readOne 64 = .ok (.iadd, 1) := by decide +kernel
theorem dX4_readOne_65 : decode cX4_readOne 65 = .ok (.invokevirtual 43, 3) := by decide +kernel
theorem dX4_readOne_68 : decode cX4_readOne 68 = .ok (.ifCond .eq 16, 3) := by decide +kernel
theorem dX4_readOne_71 : decode cX4_readOne 71 = .ok (.aload_n 0, 1) := by decide +kernel
theorem dX4_readOne_72 : decode cX4_readOne 72 = .ok (.bipush 41, 2) := by decide +kernel
theorem dX4_readOne_74 : decode cX4_readOne 74 = .ok (.invokevirtual 39, 3) := by decide +kernel
theorem dX4_readOne_77 : decode cX4_readOne 77 = .ok (.ifCond .eq 7, 3) := by decide +kernel
theorem dX4_readOne_80 : decode cX4_readOne 80 = .ok (.iconst 1, 1) := by decide +kernel
theorem dX4_readOne_81 : decode cX4_readOne 81 = .ok (.goto 4, 3) := by decide +kernel
theorem dX4_readOne_84 : decode cX4_readOne 84 = .ok (.iconst 0, 1) := by decide +kernel
theorem dX4_readOne_85 : decode cX4_readOne 85 = .ok (.ireturn, 1) := by decide +kernel
theorem dX4_readOne_86 : decode cX4_readOne 86 = .ok (.aload_n 0, 1) := by decide +kernel
theorem dX4_readOne_87 : decode cX4_readOne 87 = .ok (.iload_n 1, 1) := by decide +kernel
theorem dX4_readOne_88 : decode cX4_readOne 88 = .ok (.iconst 1, 1) := by decide +kernel
theorem dX4_readOne_89 : decode cX4_readOne 89 = .ok (.iadd, 1) := by decide +kernel
theorem dX4_readOne_90 : decode cX4_readOne 90 = .ok (.invokevirtual 120, 3) := by decide +kernel
theorem dX4_readOne_93 : decode cX4_readOne 93 = .ok (.istore_n 3, 1) := by decide +kernel
theorem dX4_readOne_94 : decode cX4_readOne 94 = .ok (.aload_n 0, 1) := by decide +kernel
theorem dX4_readOne_95 : decode cX4_readOne 95 = .ok (.iconst (-1), 1) := by decide +kernel
theorem dX4_readOne_96 : decode cX4_readOne 96 = .ok (.invokevirtual 126, 3) := by decide +kernel
theorem dX4_readOne_99 : decode cX4_readOne 99 = .ok (.iload_n 3, 1) := by decide +kernel
theorem dX4_readOne_100 : decode cX4_readOne 100 = .ok (.ireturn, 1) := by decide +kernel
theorem dX4_readEither_0 : decode cX4_readEither 0 = .ok (.aload_n 0, 1) := by decide +kernel
theorem dX4_readEither_1 : decode cX4_readEither 1 = .ok (.iload_n 1, 1) := by decide +kernel
theorem dX4_readEither_2 : decode cX4_readEither 2 = .ok (.invokevirtual 120, 3) := by decide +kernel
theorem dX4_readEither_5 : decode cX4_readEither 5 = .ok (.istore_n 2, 1) := by decide +kernel
theorem dX4_readEither_6 : decode cX4_readEither 6 = .ok (.iconst 0, 1) := by decide +kernel
theorem dX4_readEither_7 : decode cX4_readEither 7 = .ok (.istore_n 3, 1) := by decide +kernel
theorem dX4_readEither_8 : decode cX4_readEither 8 = .ok (.iconst 0, 1) := by decide +kernel
theorem dX4_readEither_9 : decode cX4_readEither 9 = .ok (.istore 4, 2) := by decide +kernel
theorem dX4_readEither_11 : decode cX4_readEither 11 = .ok (.iload 4, 2) := by decide +kernel
theorem dX4_readEither_13 : decode cX4_readEither 13 = .ok (.sipush 400, 3) := by decide +kernel
theorem dX4_readEither_16 : decode cX4_readEither 16 = .ok (.if_icmp .ge 85, 3) := by decide +kernel
theorem dX4_readEither_19 : decode cX4_readEither 19 = .ok (.iload_n 2, 1) := by decide +kernel
theorem dX4_readEither_20 : decode cX4_readEither 20 = .ok (.ifCond .eq 81, 3) := by decide +kernel
theorem dX4_readEither_23 : decode cX4_readEither 23 = .ok (.aload_n 0, 1) := by decide +kernel
theorem dX4_readEither_24 : decode cX4_readEither 24 = .ok (.invokevirtual 123, 3) := by decide +kernel
theorem dX4_readEither_27 : decode cX4_readEither 27 = .ok (.ifCond .eq 74, 3) := by decide +kernel
theorem dX4_readEither_30 : decode cX4_readEither 30 = .ok (.aload_n 0, 1) := by decide +kernel
theorem dX4_readEither_31 : decode cX4_readEither 31 = .ok (.getfield 12, 3) := by decide +kernel
theorem dX4_readEither_34 : decode cX4_readEither 34 = .ok (.ldc 102, 2) := by decide +kernel
theorem dX4_readEither_36 : decode cX4_readEither 36 = .ok (.invokevirtual 99, 3) := by decide +kernel
theorem dX4_readEither_39 : decode cX4_readEither 39 = .ok (.istore 5, 2) := by decide +kernel
theorem dX4_readEither_41 : decode cX4_readEither 41 = .ok (.iload 5, 2) := by decide +kernel
theorem dX4_readEither_43 : decode cX4_readEither 43 = .ok (.ifCond .ne 13, 3) := by decide +kernel
theorem dX4_readEither_46 : decode cX4_readEither 46 = .ok (.iload_n 3, 1) := by decide +kernel
theorem dX4_readEither_47 : decode cX4_readEither 47 = .ok (.ifCond .eq 9, 3) := by decide +kernel
theorem dX4_readEither_50 : decode cX4_readEither 50 = .ok (.aload_n 0, 1) := by decide +kernel
theorem dX4_readEither_51 : decode cX4_readEither 51 = .ok (.bipush (-3), 2) := by decide +kernel
theorem dX4_readEither_53 : decode cX4_readEither 53 = .ok (.invokevirtual 126, 3) := by decide +kernel
theorem dX4_readEither_56 : decode cX4_readEither 56 = .ok (.iload_n 3, 1) := by decide +kernel
theorem dX4_readEither_57 : decode cX4_readEither 57 = .ok (.ifCond .ne 8, 3) := by decide +kernel
theorem dX4_readEither_60 : decode cX4_readEither 60 = .ok (.iload 5, 2) := by decide +kernel
theorem dX4_readEither_62 : decode cX4_readEither 62 = .ok (.ifCond .ne 7, 3) := by decide +kernel
theorem dX4_readEither_65 : decode cX4_readEither 65 = .ok (.iconst 1, 1) := by decide +kernel
theorem dX4_readEither_66 : decode cX4_readEither 66 = .ok (.goto 4, 3) := by decide +kernel
theorem dX4_readEither_69 : decode cX4_readEither 69 = .ok (.iconst 0, 1) := by decide +kernel
theorem dX4_readEither_70 : decode cX4_readEither 70 = .ok (.istore_n 3, 1) := by decide +kernel
theorem dX4_readEither_71 : decode cX4_readEither 71 = .ok (.aload_n 0, 1) := by decide +kernel
theorem dX4_readEither_72 : decode cX4_readEither 72 = .ok (.getfield 12, 3) := by decide +kernel
theorem dX4_readEither_75 : decode cX4_readEither 75 = .ok (.invokevirtual 94, 3) := by decide +kernel
theorem dX4_readEither_78 : decode cX4_readEither 78 = .ok (.aload_n 0, 1) := by decide +kernel
theorem dX4_readEither_79 : decode cX4_readEither 79 = .ok (.iload_n 1, 1) := by decide +kernel
theorem dX4_readEither_80 : decode cX4_readEither 80 = .ok (.invokevirtual 120, 3) := by decide +kernel
theorem dX4_readEither_83 : decode cX4_readEither 83 = .ok (.istore_n 2, 1) := by decide +kernel
theorem dX4_readEither_84 : decode cX4_readEither 84 = .ok (.iload 5, 2) := by decide +kernel
theorem dX4_readEither_86 : decode cX4_readEither 86 = .ok (.ifCond .eq 9, 3) := by decide +kernel
theorem dX4_readEither_89 : decode cX4_readEither 89 = .ok (.aload_n 0, 1) := by decide +kernel
theorem dX4_readEither_90 : decode cX4_readEither 90 = .ok (.bipush (-2), 2) := by decide +kernel
theorem dX4_readEither_92 : decode cX4_readEither 92 = .ok (.invokevirtual 126, 3) := by decide +kernel
theorem dX4_readEither_95 : decode cX4_readEither 95 = .ok (.iinc 4 1, 3) := by decide +kernel
theorem dX4_readEither_98 : decode cX4_readEither 98 = .ok (.goto (-87), 3) := by decide +kernel
theorem dX4_readEither_101 : decode cX4_readEither 101 = .ok (.iload_n 3, 1) := by decide +kernel
theorem dX4_readEither_102 : decode cX4_readEither 102 = .ok (.ifCond .eq 9, 3) := by decide +kernel
theorem dX4_readEither_105 : decode cX4_readEither 105 = .ok (.aload_n 0, 1) := by decide +kernel
theorem dX4_readEither_106 : decode cX4_readEither 106 = .ok (.bipush (-3), 2) := by decide +kernel
theorem dX4_readEither_108 : decode cX4_readEither 108 = .ok (.invokevirtual 126, 3) := by decide +kernel
theorem dX4_readEither_111 : decode cX4_readEither 111 = .ok (.iload_n 2, 1) := by decide +kernel
theorem dX4_readEither_112 : decode cX4_readEither 112 = .ok (.ireturn, 1) := by decide +kernel
set_option maxRecDepth 20000 in
theorem ggX4_readOne_X6_isWord : GoodIn wsX4_readOne wsX6_isWord := goodIn_r _ [7, 8, 9, 10, 11, 12, 13, 14, 15, 16, 17, 18, 19, 20, 21, 22, 23, 24, 25, 6, 26, 27, 28, 29, 30, 31, 32, 33, 34, 35, 36, 37, 38, 39, 40, 41, 42, 43, 44, 45, 46, 47, 48, 49, 50, 51, 52, 53, 54, 55, 56, 57, 58, 59, 60, 61, 62, 63, 64, 65, 139, 140, 141, 142, 143] rfl (by decide +kernel)
set_option maxRecDepth 20000 in
theorem gX4_readOne_X6_isWord : GoodIn wsX4_readOne (wsV RX4 99 RX6 yX6_isWord wsX6_isWord) := goodIn_app (goodIn_of _ (by decide +kernel)) ggX4_readOne_X6_isWord
set_option maxRecDepth 20000 in
theorem ggX4_readOne_X6_isByte : GoodIn wsX4_readOne wsX6_isByte := goodIn_r _ [69, 8, 10, 23, 24, 25, 6, 26, 27, 28, 139, 140, 141, 142, 143] rfl (by decide +kernel)
set_option maxRecDepth 20000 in
theorem gX4_readOne_X6_isByte : GoodIn wsX4_readOne (wsV RX4 114 RX6 yX6_isByte wsX6_isByte) := goodIn_app (goodIn_of _ (by decide +kernel)) ggX4_readOne_X6_isByte
set_option maxRecDepth 20000 in
theorem ggX4_readOne_X4_readTest : GoodIn wsX4_readOne wsX4_readTest := goodIn_r _ [74, 1, 75, 76, 77, 78, 73, 79, 3, 4, 5, 6, 7, 8, 9, 10, 11, 12, 13, 14, 15, 16, 17, 18, 19, 20, 21, 22, 23, 24, 25, 26, 27, 28, 29, 30, 31, 32, 33, 34, 35, 36, 37, 38, 39, 40, 41, 42, 43, 44, 45, 46, 47, 48, 49, 50, 51, 52, 53, 54, 55, 56, 57, 58, 59, 60, 61, 62, 63, 64, 65, 80, 81, 82, 83, 2, 84, 85, 86, 87, 88, 89, 90, 91, 92, 93, 94, 95, 96, 97, 98, 99, 100, 101, 102, 103, 104, 105, 106, 107, 108, 109, 110, 111, 112, 113, 114, 115, 131, 132, 133, 134, 135, 136, 137, 138, 139, 140, 141, 142, 143] rfl (by decide +kernel)
set_option maxRecDepth 20000 in
theorem gX4_readOne_X4_readTest : GoodIn wsX4_readOne (wsV RX4 130 RX4 yX4_readTest wsX4_readTest) := goodIn_app (goodIn_of _ (by decide +kernel)) ggX4_readOne_X4_readTest
set_option maxRecDepth 20000 in
theorem ggX4_readOne_X4_failAt : GoodIn wsX4_readOne wsX4_failAt := goodIn_r _ [87, 88, 89, 131, 132, 133, 134, 135, 136, 137, 138] rfl (by decide +kernel)
set_option maxRecDepth 20000 in
theorem gX4_readOne_X4_failAt : GoodIn wsX4_readOne (wsV RX4 76 RX4 yX4_failAt wsX4_failAt) := goodIn_app (goodIn_of _ (by decide +kernel)) ggX4_readOne_X4_failAt
set_option maxRecDepth 20000 in
theorem ggX4_readEither_X4_readOne : GoodIn wsX4_readEither wsX4_readOne := goodIn_r _ [86, 1, 87, 10, 11, 12, 13, 14, 15, 16, 17, 18, 19, 20, 21, 22, 23, 24, 25, 26, 27, 28, 29, 30, 31, 32, 33, 34, 35, 36, 37, 38, 39, 40, 41, 42, 43, 44, 45, 46, 47, 48, 49, 50, 51, 52, 53, 54, 55, 56, 57, 58, 59, 60, 61, 62, 63, 64, 65, 66, 67, 68, 69, 70, 71, 72, 88, 89, 90, 91, 92, 93, 94, 5, 95, 96, 97, 98, 99, 100, 101, 102, 103, 104, 105, 106, 107, 108, 109, 110, 79, 80, 81, 82, 83, 84, 85, 111, 112, 113, 114, 115, 116, 117, 118, 119, 120, 121, 122, 123, 73, 74, 75, 76, 77, 78, 124, 125, 126, 127, 128, 129, 130, 2, 3, 4, 0, 6, 7, 8, 9, 131, 132, 133, 134, 135, 136, 137, 138, 139, 140, 141, 142, 143] rfl (by decide +kernel)
set_option maxRecDepth 20000 in
theorem gX4_readEither_X4_readOne : GoodIn wsX4_readEither (wsV RX4 120 RX4 yX4_readOne wsX4_readOne) := goodIn_app (goodIn_of _ (by decide +kernel)) ggX4_readEither_X4_readOne
set_option maxRecDepth 20000 in
theorem ggX4_readEither_X4_isAndOr : GoodIn wsX4_readEither wsX4_isAndOr := goodIn_r _ [9, 1, 10, 11, 12, 13, 14, 15, 16, 17, 18, 19, 20, 21, 22, 23, 24, 25, 26, 27, 28, 29, 30, 31, 32, 33, 34, 35, 36, 37, 38, 39, 40, 41, 42, 43, 44, 45, 46, 47, 48, 49, 50, 51, 52, 53, 54, 55, 56, 57, 58, 59, 60, 61, 62, 63, 64, 65, 66, 67, 68, 69, 70, 71, 72, 131, 132, 133, 134, 135, 136, 137, 138, 139, 140, 141, 142, 143] rfl (by decide +kernel)
set_option maxRecDepth 20000 in
theorem gX4_readEither_X4_isAndOr : GoodIn wsX4_readEither (wsV RX4 123 RX4 yX4_isAndOr wsX4_isAndOr) := goodIn_app (goodIn_of _ (by decide +kernel)) ggX4_readEither_X4_isAndOr
set_option maxRecDepth 20000 in
theorem ggX4_readEither_X6_isWord : GoodIn wsX4_readEither wsX6_isWord := goodIn_r _ [14, 15, 16, 17, 18, 19, 20, 21, 22, 23, 24, 25, 26, 27, 28, 29, 30, 31, 32, 13, 33, 34, 35, 36, 37, 38, 39, 40, 41, 42, 43, 44, 45, 46, 47, 48, 49, 50, 51, 52, 53, 54, 55, 56, 57, 58, 59, 60, 61, 62, 63, 64, 65, 66, 67, 68, 69, 70, 71, 72, 139, 140, 141, 142, 143] rfl (by decide +kernel)
set_option maxRecDepth 20000 in
theorem gX4_readEither_X6_isWord : GoodIn wsX4_readEither (wsV RX4 99 RX6 yX6_isWord wsX6_isWord) := goodIn_app (goodIn_of _ (by decide +kernel)) ggX4_readEither_X6_isWord
set_option maxRecDepth 20000 in
theorem ggX4_readEither_X6_advance : GoodIn wsX4_readEither wsX6_advance := goodIn_r _ [82, 16, 34, 17, 15, 30, 31, 32, 13, 33, 35, 83, 84, 85, 139, 140, 141, 142, 143] rfl (by decide +kernel)
set_option maxRecDepth 20000 in
theorem gX4_readEither_X6_advance : GoodIn wsX4_readEither (wsV RX4 94 RX6 yX6_advance wsX6_advance) := goodIn_app (goodIn_of _ (by decide +kernel)) ggX4_readEither_X6_advance
set_option maxRecDepth 20000 in
theorem ggX4_readEither_X4_addCode : GoodIn wsX4_readEither wsX4_addCode := goodIn_r _ [76, 77, 78, 131, 132, 133, 134, 135, 136, 137, 138] rfl (by decide +kernel)
set_option maxRecDepth 20000 in
theorem gX4_readEither_X4_addCode : GoodIn wsX4_readEither (wsV RX4 126 RX4 yX4_addCode wsX4_addCode) := goodIn_app (goodIn_of _ (by decide +kernel)) ggX4_readEither_X4_addCode
set_option maxRecDepth 20000 in
theorem ggX4_readOne_X6_advance : GoodIn wsX4_readOne wsX6_advance := goodIn_r _ [93, 9, 27, 10, 8, 23, 24, 25, 6, 26, 28, 94, 95, 96, 139, 140, 141, 142, 143] rfl (by decide +kernel)
set_option maxRecDepth 20000 in
theorem gX4_readOne_X6_advance : GoodIn wsX4_readOne (wsV RX4 94 RX6 yX6_advance wsX6_advance) := goodIn_app (goodIn_of _ (by decide +kernel)) ggX4_readOne_X6_advance
set_option maxRecDepth 20000 in
theorem ggX4_readOne_X4_readEither : GoodIn wsX4_readOne wsX4_readEither := goodIn_r _ [126, 1, 123, 124, 125, 73, 127, 128, 129, 130, 3, 4, 5, 6, 7, 8, 9, 10, 11, 12, 13, 14, 15, 16, 17, 18, 19, 20, 21, 22, 23, 24, 25, 26, 27, 28, 29, 30, 31, 32, 33, 34, 35, 36, 37, 38, 39, 40, 41, 42, 43, 44, 45, 46, 47, 48, 49, 50, 51, 52, 53, 54, 55, 56, 57, 58, 59, 60, 61, 62, 63, 64, 65, 110, 111, 112, 113, 114, 115, 90, 91, 92, 93, 94, 95, 96, 0, 2, 66, 67, 68, 69, 70, 71, 72, 74, 75, 76, 77, 78, 79, 80, 81, 82, 83, 84, 85, 86, 87, 88, 89, 97, 98, 99, 100, 101, 102, 103, 104, 105, 106, 107, 108, 109, 116, 117, 118, 119, 120, 121, 122, 131, 132, 133, 134, 135, 136, 137, 138, 139, 140, 141, 142, 143] rfl (by decide +kernel)
set_option maxRecDepth 20000 in
theorem gX4_readOne_X4_readEither : GoodIn wsX4_readOne (wsV RX4 43 RX4 yX4_readEither wsX4_readEither) := goodIn_app (goodIn_of _ (by decide +kernel)) ggX4_readOne_X4_readEither
set_option maxRecDepth 20000 in
theorem ggX4_readOne_X4_readByte : GoodIn wsX4_readOne wsX4_readByte := goodIn_r _ [122, 1, 66, 67, 68, 6, 69, 8, 10, 23, 24, 25, 26, 27, 28, 80, 81, 82, 73, 83, 2, 84, 85, 86, 87, 88, 89, 90, 91, 92, 93, 9, 94, 95, 96, 131, 132, 133, 134, 135, 136, 137, 138, 139, 140, 141, 142, 143] rfl (by decide +kernel)
set_option maxRecDepth 20000 in
theorem gX4_readOne_X4_readByte : GoodIn wsX4_readOne (wsV RX4 39 RX4 yX4_readByte wsX4_readByte) := goodIn_app (goodIn_of _ (by decide +kernel)) ggX4_readOne_X4_readByte
set_option maxRecDepth 20000 in
theorem ggX4_readOne_X4_readOne : GoodIn wsX4_readOne wsX4_readOne := goodIn_r _ [0, 1, 2, 3, 4, 5, 6, 7, 8, 9, 10, 11, 12, 13, 14, 15, 16, 17, 18, 19, 20, 21, 22, 23, 24, 25, 26, 27, 28, 29, 30, 31, 32, 33, 34, 35, 36, 37, 38, 39, 40, 41, 42, 43, 44, 45, 46, 47, 48, 49, 50, 51, 52, 53, 54, 55, 56, 57, 58, 59, 60, 61, 62, 63, 64, 65, 66, 67, 68, 69, 70, 71, 72, 73, 74, 75, 76, 77, 78, 79, 80, 81, 82, 83, 84, 85, 86, 87, 88, 89, 90, 91, 92, 93, 94, 95, 96, 97, 98, 99, 100, 101, 102, 103, 104, 105, 106, 107, 108, 109, 110, 111, 112, 113, 114, 115, 116, 117, 118, 119, 120, 121, 122, 123, 124, 125, 126, 127, 128, 129, 130, 131, 132, 133, 134, 135, 136, 137, 138, 139, 140, 141, 142, 143] rfl (by decide +kernel)
set_option maxRecDepth 20000 in
theorem gX4_readOne_X4_readOne : GoodIn wsX4_readOne (wsV RX4 120 RX4 yX4_readOne wsX4_readOne) := goodIn_app (goodIn_of _ (by decide +kernel)) ggX4_readOne_X4_readOne
set_option maxRecDepth 20000 in
theorem ggX4_readOne_X4_addCode : GoodIn wsX4_readOne wsX4_addCode := goodIn_r _ [113, 114, 115, 131, 132, 133, 134, 135, 136, 137, 138] rfl (by decide +kernel)
set_option maxRecDepth 20000 in
theorem gX4_readOne_X4_addCode : GoodIn wsX4_readOne (wsV RX4 126 RX4 yX4_addCode wsX4_addCode) := goodIn_app (goodIn_of _ (by decide +kernel)) ggX4_readOne_X4_addCode
/-- a fault was found: the machine comes to it from s0 -/
def FLT (ρ : Nat → Nat) (ws : va_W) (tys : List (ClassId × FieldType)) (f9 : Nat → Int32) (rd krd tp ktp cd bb tl : Nat) (s0 : S4) (nk : Int64) (fr : Int32) : Prop := ∃ (k p ts9 : Nat) (T9 : List Tk) (vl9 : Int32), 1 ≤ k ∧ k ≤ 3 ∧ Rch f9 tl s0 (10 + k, p, [], []) ∧ RSX ρ ws tys f9 rd krd tp ktp cd bb tl ts9 T9 nk fr (nI k) (nI p) vl9
/-- one thing was read -/
def ONE (ρ : Nat → Nat) (ws : va_W) (tys : List (ClassId × FieldType)) (f9 : Nat → Int32) (rd krd tp ktp cd bb tl ts : Nat) (σ : List Nat) (T : List Tk) (nk : Int64) (fr fk fp : Int32) : Prop := ∃ (b9 : Nat) (T9 : List Tk) (vl9 : Int32), Rch f9 tl (0, ts, σ, T) (1, b9, pN σ, T9 ++ eN σ) ∧ ts ≤ b9 ∧ 2 * T9.length + ts ≤ 2 * T.length + b9 ∧ RSX ρ ws tys f9 rd krd tp ktp cd bb tl b9 T9 nk fr fk fp vl9
/-- either was read -/
def EIT (ρ : Nat → Nat) (ws : va_W) (tys : List (ClassId × FieldType)) (f9 : Nat → Int32) (rd krd tp ktp cd bb tl ts : Nat) (σ : List Nat) (T : List Tk) (nk : Int64) (fr fk fp : Int32) : Prop := ∃ (b9 : Nat) (τ9 : List Nat) (T9 : List Tk) (vl9 : Int32), Rch f9 tl (0, ts, σ, T) (1, b9, τ9, T9) ∧ jO τ9 = σ ∧ ¬ (wdE f9 tl b9 = 1 ∨ wdE f9 tl b9 = 2) ∧ ts ≤ b9 ∧ 2 * (T9 ++ eO τ9).length + ts ≤ 2 * T.length + b9 ∧ RSX ρ ws tys f9 rd krd tp ktp cd bb tl b9 (T9 ++ eO τ9) nk fr fk fp vl9
/-- at the head of either's loop: all is read so far -/
def LPE (ρ : Nat → Nat) (ws : va_W) (tys : List (ClassId × FieldType)) (f9 : Nat → Int32) (rd krd tp ktp cd bb tl ts : Nat) (σ : List Nat) (T : List Tk) (nk : Int64) (fr fk fp : Int32) (i : Nat) (y : Int32) : Prop := ∃ (b9 : Nat) (τ9 : List Nat) (T9 : List Tk) (vl9 : Int32), Rch f9 tl (0, ts, σ, T) (1, b9, τ9, T9) ∧ owS τ9 σ y ∧ ts + 2 * i ≤ b9 ∧ (y = 1 → 2 * (T9 ++ eA τ9).length + 2 + ts ≤ 2 * T.length + b9) ∧ (y = 0 → 2 * (T9 ++ eA τ9).length + ts ≤ 2 * T.length + b9) ∧ RSX ρ ws tys f9 rd krd tp ktp cd bb tl b9 (T9 ++ eA τ9) nk fr fk fp vl9
theorem rch_cl {f : Nat → Int32} {n b : Nat} {s : S4} {τ σ : List Nat} {T : List Tk} (h : Rch f n s (1, b, τ, T)) (hj : jO τ = 12 :: σ) (hc : b < n ∧ f b = 41) : Rch f n s (1, nxF f n b, pN σ, (T ++ eO τ) ++ eN σ) := by
  have h9 := st_close (T := T) hc (brk_12 hj)
  rw [hj] at h9
  exact h.st h9
theorem rch_no {f : Nat → Int32} {n b : Nat} {s : S4} {σ : List Nat} {T : List Tk} (h : Rch f n s (1, b, pN (3 :: σ), T ++ eN (3 :: σ))) : Rch f n s (1, b, pN σ, (T ++ [(3, 0, 0, 0)]) ++ eN σ) := by
  rw [pN_3, eN_3] at h
  rw [List.append_assoc]
  exact h
theorem rch_an {f : Nat → Int32} {n b : Nat} {s : S4} {σ : List Nat} {T : List Tk} {x : Nat} (hx : ¬ x = 3) (h : Rch f n s (1, b, pN (x :: σ), T ++ eN (x :: σ))) : Rch f n s (1, b, x :: σ, T) := by
  rw [pN_n _ hx, eN_n _ hx, List.append_nil] at h
  exact h
theorem rch_bs {f : Nat → Int32} {n b : Nat} {s : S4} {σ : List Nat} {T : List Tk} (hb : bas σ) (h : Rch f n s (1, b, pN σ, T ++ eN σ)) : Rch f n s (1, b, σ, T) := by
  rw [hb.fx.1, hb.fx.2.1, List.append_nil] at h
  exact h
set_option maxHeartbeats 4000000 in
set_option maxRecDepth 100000 in
theorem r_readOne6 (l : Launch) (D : va_G) (ρ : Nat → Nat) (ws : va_W) (tys : List (ClassId × FieldType)) (adK adV : Nat → Nat) (fo : Option Nat) (f9 : Nat → Int32) (rd krd tp ktp cd bb tl ts : Nat) (T : List Tk) (nk : Int64) (fr fk fp vl : Int32) (σ : List Nat) (sz : Nat) (htl : tl ≤ 400) (hng : ∀ i : Nat, i < tl → ¬ f9 i = -1) (R0 : RSX ρ ws tys f9 rd krd tp ktp cd bb tl ts T nk fr fk fp vl) (hdp : dep σ = 6) (hT2 : 2 * T.length ≤ ts) : Met l yX4_readOne wsX4_readOne ({ frames := 7, cells := 0, slots := 0, locals := 149 }) (va_Pc [.ref rd, .int 6] (fun U => U.heap.size = sz ∧ va_P D vwCl ws U.heap ∧ va_K D vwCl tys U ∧ va_D (fun _ => True) ws ∧ SZ adK adV fo (va_A ws sz) U U.heap)) (va_Qi (fun (r : Int32) (s9 : Int32) => r = s9) (fun (s9 : Int32) (t : State) => ∃ (ws' : va_W) (tys' : List (ClassId × FieldType)), sm ρ [4, 6] ws ws' ∧ tyx tys tys' ∧ va_P D vwCl ws' t.heap ∧ va_K D vwCl tys' t ∧ va_D (va_A ws sz) ws' ∧ ((s9 = 0 ∧ FLT ρ ws' tys' f9 rd krd tp ktp cd bb tl (0, ts, σ, T) nk fr) ∨ (s9 = 1 ∧ ONE ρ ws' tys' f9 rd krd tp ktp cd bb tl ts σ T nk fr fk fp))) (va_A ws sz)) 0 0 (va_A ws sz) := by
  refine Met.ofW (cc := cX4_readOne) (maxL := 4) (ret := (some .boolean)) (by decide) rfl ?_
  intro p e s m args below meth c s₁ B hml hv
  obtain ⟨rfl, hsz, hP, hK, hD0, hsz9⟩ := hv
  have hx := B.exec
  have hb := B.bytes
  have hr := B.returns
  have hts := atoms_spec (ws := wsX4_readOne) B.pre
  have hown : s.vm.findClass RX4 = some m.cls := findClass_of_methodNamed B.named
  have hlocks := B.notSynchronized
  subst hsz
  have hD := hD0.self (sz := s.heap.size)
  generalize hAe : va_A ws s.heap.size = A at hD hsz9 ⊢
  have hA : ∀ q : Nat, s.heap.size ≤ q → A q := fun q h => by rw [← hAe]; exact Or.inr h
  have hS : va_S A s.heap s.heap [] := va_S.rf
  have hsm : sm ρ [4, 6] ws ws := sm.rf ws
  have htx : tyx tys tys := tyx.rf tys
  have hin4 : ∀ w ∈ u_ws RX4 TX4 8, w ∈ wsX4_readOne := (fun _ h9 => List.mem_cons_of_mem _ (List.mem_append_left _ ((List.mem_append_right _ h9))))
  have hin6 : ∀ w ∈ u_ws RX6 TX6 5, w ∈ wsX4_readOne := (fun _ h9 => List.mem_cons_of_mem _ ((List.mem_append_right _ h9)))
  have hl := lv_entry ([.ref rd, .int 6]) (n := 4) (Nat.le_of_ble_eq_true rfl)
  rw [lg_entry_eq]
  generalize (lg_sl ([.ref rd, .int 6]) ++ List.replicate (4 - (lg_sl ([.ref rd, .int 6])).length) Slot.unset).toArray = ls at hl ⊢
  have hl : lv_has ls 4 [(0, .ref rd), (1, .int 6)] := hl
  obtain ⟨kc_1, cc_2, tc_3, fc_4, kb_5, cb_6, tb_7, fb_8, hp_9, hT_10, er_11, et_12, wr_13, wt_14, ec_15, uc_16, wc_17, hc_18, eb_19, ub_20, wb_21, hb_22⟩ := id R0
  have hp_91 := hp_9.1
  have hp_9t := teF_le (f := f9) hp_9.1
  have hpc9 := hp_91
  refine lv_aload_n hx hb dX4_readOne_0 rfl (lv_at hl 0 rfl) ?_
  refine va_get (D := D) (ci := 4) (v := .ref tp) (C := RX4) (T := TX4) (N := 8) hx hb hts hin4 hown hK hP krd er_11 rfl 0 (by decide) (hts (.fieldLink RX4 12 "HoneyHouse$RuleReader" "tape" "LHoneyHouse$Tape;") (List.mem_of_getElem? (i := 1) rfl)) (fun _ h9 => h9) rfl dX4_readOne_1 ?_
  refine va_ldcS hx hb hown hsz9.2.2.2.2.2.2.1 dX4_readOne_4 ?_
  have hFc := free_all hD hS hA
  refine va_calli (va_runV (As := [.ref (adK 3)]) (rest := []) ⟨hx, hb, hml, hown, hts⟩ (a_isWord l D (rz []) ws tys adK adV fo 3 f9 tp ktp tl ts bb kb_5 cb_6 tb_7 fb_8 s.heap.size (by decide) htl hb_22 hng hp_9 et_12 eb_19 ub_20 rz_o0) (cwV 1 hts gX4_readOne_X6_isWord rfl rfl rfl (by decide +kernel) ⟨Nat.le_of_ble_eq_true rfl, Nat.le_of_ble_eq_true rfl⟩) ⟨fun a U g mk q => by obtain ⟨q0, q1, qP, qK, qD, qS⟩ := q; exact ⟨q0, q1, qP, va_K.moved (u := U) (U := U.calling g mk a) (Vm.Alike.refl U.vm) qK, qD, SZ.same rfl rfl qS⟩, va_recv hK hP (ci := 6) (q0 := ktp) rfl et_12, fun U hU hW => ⟨rfl, by rw [hU], by rw [hU]; exact hP, va_K.moved hW.alike hK, hD.weaken (fun _ _ _ _ => trivial), hsz9.go hS hW hU hFc⟩⟩ rfl rfl hl.1 rfl (lv_room (Nat.le_of_ble_eq_true rfl)) dX4_readOne_6 ⟨Nat.le_of_ble_eq_true rfl, Nat.le_of_ble_eq_true rfl⟩) hS (fun q _ h => hFc q h) hFc (fun r_23 u t H1 locs ht hvm w_24 hB hz1 hk1 hS => ?_)
  obtain ⟨ws_25, ty_26, hm_27, ht_29, hP1, hK1, hD1, hx_28⟩ := hB
  rw [ht] at hP1
  have hK := va_K.moved hvm.symm hK1
  have hD := hD1.weaken (fun _ _ _ h => hFc _ h)
  generalize H1 = H at hP1 hS ⊢
  have hP := hP1
  have e_30 := hm_27.keep rz_o0 er_11
  have e_31 := hm_27.keep rz_o0 et_12
  have e_32 := hm_27.keep rz_o0 ec_15
  have e_33 := hm_27.keep rz_o0 eb_19
  have u_34 := ht_29 _ _ uc_16
  have u_35 := ht_29 _ _ ub_20
  have hm_36 : sm ρ [] ws ws_25 := hm_27.up (fun k _ h => rz_u0  k h)
  have hsm := hsm.tr (hm_36.mono (by decide))
  have htx := htx.tr ht_29
  rcases w_24 with ⟨rfl, iw_37⟩ | ⟨rfl, iw_37⟩
  · have iw_37 : ¬ wdE f9 tl ts = 3 := iw_37
    refine lv_istore_n (lv' := [(2, .int 0), (0, .ref rd), (1, .int 6)]) hx hb dX4_readOne_9 rfl hl (by decide) rfl (fun ls hl => ?_)
    refine lv_iload_n hx hb dX4_readOne_10 rfl (lv_at hl 0 rfl) ?_
    refine lv_if_ne (tgt := 31) hx hb dX4_readOne_11 (by decide) (fun c_38 => absurd (by decide) c_38) (fun c_38 => ?_)
    refine lv_aload_n hx hb dX4_readOne_14 rfl (lv_at hl 1 rfl) ?_
    refine va_get (D := D) (ci := 4) (v := .ref tp) (C := RX4) (T := TX4) (N := 8) hx hb hts hin4 hown hK hP krd e_30 rfl 0 (by decide) (hts (.fieldLink RX4 12 "HoneyHouse$RuleReader" "tape" "LHoneyHouse$Tape;") (List.mem_of_getElem? (i := 1) rfl)) (fun _ h9 => h9) rfl dX4_readOne_15 ?_
    refine lv_bipush (v := 40) hx hb dX4_readOne_18 (by decide) ?_
    refine vp_callSi (W.runV (As := [.int 40]) (rest := []) ⟨hx, hb, hml, hown, hts⟩ (s_isByte l D ws_25 ty_26 f9 tp ktp tl ts bb kb_5 cb_6 tb_7 fb_8 40 (by unfold ltr; decide) (by unfold dgt; decide) htl hb_22 hng hp_9 e_31 e_33 u_35) (cwV 1 hts gX4_readOne_X6_isByte rfl rfl rfl (by decide +kernel) ⟨Nat.le_of_ble_eq_true rfl, Nat.le_of_ble_eq_true rfl⟩) ⟨fun a U g mk q => ⟨q.1, q.2.1, va_K.moved (u := U) (U := U.calling g mk a) (Vm.Alike.refl U.vm) q.2.2⟩, va_recv hK hP (ci := 6) (q0 := ktp) rfl e_31, fun U hU hW => ⟨rfl, by rw [hU]; exact hP, va_K.moved hW.alike hK⟩⟩ rfl rfl hl.1 rfl (lv_room (Nat.le_of_ble_eq_true rfl)) dX4_readOne_20 ⟨Nat.le_of_ble_eq_true rfl, Nat.le_of_ble_eq_true rfl⟩) (fun r_39 k_40 => ?_)
    rcases k_40 with ⟨rfl, ib_41⟩ | ⟨rfl, ib_41⟩
    · refine lv_if_ne (tgt := 31) hx hb dX4_readOne_23 (by decide) (fun c_42 => absurd (by decide) c_42) (fun c_42 => ?_)
      refine lv_aload_n hx hb dX4_readOne_26 rfl (lv_at hl 1 rfl) ?_
      have hFc := free_all hD hS hA
      refine va_calli (va_runV (As := []) (rest := []) ⟨hx, hb, hml, hown, hts⟩ (r_readTest l D ρ ws_25 ty_26 adK adV fo f9 rd krd tp ktp cd bb tl ts T nk fr fk fp vl  H.size htl hng (⟨kc_1, cc_2, tc_3, fc_4, kb_5, cb_6, tb_7, fb_8, hp_9, hT_10, e_30, e_31, wr_13, wt_14, e_32, u_34, wc_17, hc_18, e_33, u_35, wb_21, hb_22⟩ : RSX ρ ws_25 ty_26 f9 rd krd tp ktp cd bb tl ts T nk fr fk fp vl) (by omega)) (cwV 0 hts gX4_readOne_X4_readTest rfl rfl rfl (by decide +kernel) ⟨Nat.le_of_ble_eq_true rfl, Nat.le_of_ble_eq_true rfl⟩) ⟨fun a U g mk q => by obtain ⟨q0, q1, qP, qK, qD, qS⟩ := q; exact ⟨q0, q1, qP, va_K.moved (u := U) (U := U.calling g mk a) (Vm.Alike.refl U.vm) qK, qD, SZ.same rfl rfl qS⟩, va_recv hK hP (ci := 4) (q0 := krd) rfl e_30, fun U hU hW => ⟨rfl, by rw [hU], by rw [hU]; exact hP, va_K.moved hW.alike hK, hD.weaken (fun _ _ _ _ => trivial), hsz9.go hS hW hU hFc⟩⟩ rfl rfl hl.1 rfl (lv_room (Nat.le_of_ble_eq_true rfl)) dX4_readOne_27 ⟨Nat.le_of_ble_eq_true rfl, Nat.le_of_ble_eq_true rfl⟩) hS (fun q _ h => hFc q h) hFc (fun r_43 u t H1 locs ht hvm w_44 hB hz1 hk1 hS => ?_)
      subst w_44
      obtain ⟨ws_45, ty_46, hm_47, ht_49, hP1, hK1, hD1, hx_48⟩ := hB
      rw [ht] at hP1
      have hK := va_K.moved hvm.symm hK1
      have hD := hD1.weaken (fun _ _ _ h => hFc _ h)
      generalize H1 = H at hP1 hS ⊢
      have hP := hP1
      obtain ⟨g_51, e_50, h_52⟩ := hm_47.obj e_30
      obtain ⟨z_53, z_54, z_55, z_56, z_57, z_58, rfl⟩ := smX4 h_52
      obtain ⟨g_60, e_59, h_61⟩ := hm_47.obj e_31
      obtain ⟨z_62, z_63, z_64, z_65, rfl⟩ := smX6 h_61
      obtain ⟨f_67, e_66⟩ := hm_47.arrI e_32
      have u_68 := ht_49 _ _ u_34
      have e_69 := hm_47.keep (by rw [wb_21]; omega) e_33
      have u_70 := ht_49 _ _ u_35
      have hsm := hsm.tr (hm_47.mono (by decide))
      have htx := htx.tr ht_49
      obtain ⟨k_71, p_72, w_73, m_74, v_75, ht_76, ⟨rfl, hk_77, hk_78, ts_79, vl_80, hR_81⟩ | ⟨rfl, hk_77, hg_82, vl_80, hR_81⟩⟩ := hx_48
      · obtain ⟨kc_83, cc_84, tc_85, fc_86, kb_87, cb_88, tb_89, fb_90, hp_91, hT_92, er_93, et_94, wr_95, wt_96, ec_97, uc_98, wc_99, hc_100, eb_101, ub_102, wb_103, hb_104⟩ := id hR_81
        have hp_911 := hp_91.1
        have hp_91t := teF_le (f := f9) hp_91.1
        exact W.zret (v := 0) hx hb hr rfl (fun t ht hW => ⟨⟨0, 0, rfl, rfl, ws_45, ty_46, hsm, htx, by rw [ht]; exact hP, va_K.moved hW.alike hK, hD, Or.inl ⟨rfl, k_71, p_72, _, _, _, by omega, by omega, (Rch.rf _).st (st_tf (fun q9 => q9.elim ib_41 iw_37) ht_76 hk_77), (⟨kc_83, cc_84, tc_85, fc_86, kb_87, cb_88, tb_89, fb_90, hp_91, hT_92, er_93, et_94, wr_95, wt_96, ec_97, uc_98, wc_99, hc_100, eb_101, ub_102, wb_103, hb_104⟩ : RSX ρ ws_45 ty_46 f9 rd krd tp ktp cd bb tl ts_79 T nk fr (nI k_71) (nI p_72) vl_80)⟩⟩, hS.F ht⟩) hS.2.2 dX4_readOne_30
      subst hk_77
      obtain ⟨kc_105, cc_106, tc_107, fc_108, kb_109, cb_110, tb_111, fb_112, hp_113, hT_114, er_115, et_116, wr_117, wt_118, ec_119, uc_120, wc_121, hc_122, eb_123, ub_124, wb_125, hb_126⟩ := id hR_81
      have hp_1131 := hp_113.1
      have hp_113t := teF_le (f := f9) hp_113.1
      exact W.zret (v := 1) hx hb hr rfl (fun t ht hW => ⟨⟨1, 1, rfl, rfl, ws_45, ty_46, hsm, htx, by rw [ht]; exact hP, va_K.moved hW.alike hK, hD, Or.inr ⟨rfl, p_72, _, _, (Rch.rf _).st (st_te (fun q9 => q9.elim ib_41 iw_37) ht_76), by omega, by rw [len_a1]; omega, (⟨kc_105, cc_106, tc_107, fc_108, kb_109, cb_110, tb_111, fb_112, hp_113, hT_114, er_115, et_116, wr_117, wt_118, ec_119, uc_120, wc_121, hc_122, eb_123, ub_124, wb_125, hb_126⟩ : RSX ρ ws_45 ty_46 f9 rd krd tp ktp cd bb tl p_72 (T ++ [(13, w_73, m_74, v_75)]) nk fr fk fp vl_80)⟩⟩, hS.F ht⟩) hS.2.2 dX4_readOne_30
    refine lv_if_ne (tgt := 31) hx hb dX4_readOne_23 (by decide) (fun c_127 => ?_) (fun c_127 => absurd c_127 (by decide))
    refine lv_iload_n hx hb dX4_readOne_31 rfl (lv_at hl 2 rfl) ?_
    refine lv_bipush (v := 6) hx hb dX4_readOne_32 (by decide) ?_
    refine lv_icmp_lt (tgt := 50) hx hb dX4_readOne_34 (by decide) (fun c_128 => absurd c_128 (by decide)) (fun c_128 => ?_)
    refine lv_aload_n hx hb dX4_readOne_37 rfl (lv_at hl 1 rfl) ?_
    refine lv_iconst (v := 3) hx hb dX4_readOne_38 (by decide) ?_
    refine lv_aload_n hx hb dX4_readOne_39 rfl (lv_at hl 1 rfl) ?_
    refine va_get (D := D) (ci := 4) (v := .ref tp) (C := RX4) (T := TX4) (N := 8) hx hb hts hin4 hown hK hP krd e_30 rfl 0 (by decide) (hts (.fieldLink RX4 12 "HoneyHouse$RuleReader" "tape" "LHoneyHouse$Tape;") (List.mem_of_getElem? (i := 1) rfl)) (fun _ h9 => h9) rfl dX4_readOne_40 ?_
    refine va_get (D := D) (ci := 6) (v := .int (nI ts)) (C := RX6) (T := TX6) (N := 5) hx hb hts hin6 hown hK hP ktp e_31 rfl 2 (by decide) (hts (.fieldLink RX4 73 "HoneyHouse$Tape" "start" "I") (List.mem_of_getElem? (i := 2) rfl)) (fun _ h9 => h9) rfl dX4_readOne_43 ?_
    have hFc := free_all hD hS hA
    refine va_calli (va_runV (As := [.int 3, .int (nI ts)]) (rest := []) ⟨hx, hb, hml, hown, hts⟩ (r_failAt l D ρ ws_25 ty_26 adK adV fo f9 rd krd tp ktp cd bb tl ts T nk fr fk fp vl 3 (nI ts) H.size htl hng (⟨kc_1, cc_2, tc_3, fc_4, kb_5, cb_6, tb_7, fb_8, hp_9, hT_10, e_30, e_31, wr_13, wt_14, e_32, u_34, wc_17, hc_18, e_33, u_35, wb_21, hb_22⟩ : RSX ρ ws_25 ty_26 f9 rd krd tp ktp cd bb tl ts T nk fr fk fp vl) ) (cwV 2 hts gX4_readOne_X4_failAt rfl rfl rfl (by decide +kernel) ⟨Nat.le_of_ble_eq_true rfl, Nat.le_of_ble_eq_true rfl⟩) ⟨fun a U g mk q => by obtain ⟨q0, q1, qP, qK, qD, qS⟩ := q; exact ⟨q0, q1, qP, va_K.moved (u := U) (U := U.calling g mk a) (Vm.Alike.refl U.vm) qK, qD, SZ.same rfl rfl qS⟩, va_recv hK hP (ci := 4) (q0 := krd) rfl e_30, fun U hU hW => ⟨rfl, by rw [hU], by rw [hU]; exact hP, va_K.moved hW.alike hK, hD.weaken (fun _ _ _ _ => trivial), hsz9.go hS hW hU hFc⟩⟩ rfl rfl hl.1 rfl (lv_room (Nat.le_of_ble_eq_true rfl)) dX4_readOne_46 ⟨Nat.le_of_ble_eq_true rfl, Nat.le_of_ble_eq_true rfl⟩) hS (fun q _ h => hFc q h) hFc (fun r_129 u t H1 locs ht hvm w_130 hB hz1 hk1 hS => ?_)
    subst w_130
    obtain ⟨ws_131, ty_132, hm_133, ht_135, hP1, hK1, hD1, hx_134⟩ := hB
    rw [ht] at hP1
    have hK := va_K.moved hvm.symm hK1
    have hD := hD1.weaken (fun _ _ _ h => hFc _ h)
    generalize H1 = H at hP1 hS ⊢
    have hP := hP1
    obtain ⟨g_137, e_136, h_138⟩ := hm_133.obj e_30
    obtain ⟨z_139, z_140, z_141, z_142, z_143, z_144, rfl⟩ := smX4 h_138
    obtain ⟨g_146, e_145, h_147⟩ := hm_133.obj e_31
    obtain ⟨z_148, z_149, z_150, z_151, rfl⟩ := smX6 h_147
    obtain ⟨f_153, e_152⟩ := hm_133.arrI e_32
    have u_154 := ht_135 _ _ u_34
    have e_155 := hm_133.keep (by rw [wb_21]; omega) e_33
    have u_156 := ht_135 _ _ u_35
    have hsm := hsm.tr (hm_133.mono (by decide))
    have htx := htx.tr ht_135
    obtain ⟨rfl, hR_157⟩ := hx_134
    obtain ⟨kc_158, cc_159, tc_160, fc_161, kb_162, cb_163, tb_164, fb_165, hp_166, hT_167, er_168, et_169, wr_170, wt_171, ec_172, uc_173, wc_174, hc_175, eb_176, ub_177, wb_178, hb_179⟩ := id hR_157
    have hp_1661 := hp_166.1
    have hp_166t := teF_le (f := f9) hp_166.1
    exact W.zret (v := 0) hx hb hr rfl (fun t ht hW => ⟨⟨0, 0, rfl, rfl, ws_131, ty_132, hsm, htx, by rw [ht]; exact hP, va_K.moved hW.alike hK, hD, Or.inl ⟨rfl, 3, ts, _, _, _, by omega, by omega, (Rch.rf _).st (st_deep (Or.inl ib_41) hdp), (⟨kc_158, cc_159, tc_160, fc_161, kb_162, cb_163, tb_164, fb_165, hp_166, hT_167, er_168, et_169, wr_170, wt_171, ec_172, uc_173, wc_174, hc_175, eb_176, ub_177, wb_178, hb_179⟩ : RSX ρ ws_131 ty_132 f9 rd krd tp ktp cd bb tl ts T nk fr 3 (nI ts) vl)⟩⟩, hS.F ht⟩) hS.2.2 dX4_readOne_49
  have iw_37 : wdE f9 tl ts = 3 := iw_37
  refine lv_istore_n (lv' := [(2, .int 1), (0, .ref rd), (1, .int 6)]) hx hb dX4_readOne_9 rfl hl (by decide) rfl (fun ls hl => ?_)
  refine lv_iload_n hx hb dX4_readOne_10 rfl (lv_at hl 0 rfl) ?_
  refine lv_if_ne (tgt := 31) hx hb dX4_readOne_11 (by decide) (fun c_180 => ?_) (fun c_180 => absurd c_180 (by decide))
  refine lv_iload_n hx hb dX4_readOne_31 rfl (lv_at hl 2 rfl) ?_
  refine lv_bipush (v := 6) hx hb dX4_readOne_32 (by decide) ?_
  refine lv_icmp_lt (tgt := 50) hx hb dX4_readOne_34 (by decide) (fun c_181 => absurd c_181 (by decide)) (fun c_181 => ?_)
  refine lv_aload_n hx hb dX4_readOne_37 rfl (lv_at hl 1 rfl) ?_
  refine lv_iconst (v := 3) hx hb dX4_readOne_38 (by decide) ?_
  refine lv_aload_n hx hb dX4_readOne_39 rfl (lv_at hl 1 rfl) ?_
  refine va_get (D := D) (ci := 4) (v := .ref tp) (C := RX4) (T := TX4) (N := 8) hx hb hts hin4 hown hK hP krd e_30 rfl 0 (by decide) (hts (.fieldLink RX4 12 "HoneyHouse$RuleReader" "tape" "LHoneyHouse$Tape;") (List.mem_of_getElem? (i := 1) rfl)) (fun _ h9 => h9) rfl dX4_readOne_40 ?_
  refine va_get (D := D) (ci := 6) (v := .int (nI ts)) (C := RX6) (T := TX6) (N := 5) hx hb hts hin6 hown hK hP ktp e_31 rfl 2 (by decide) (hts (.fieldLink RX4 73 "HoneyHouse$Tape" "start" "I") (List.mem_of_getElem? (i := 2) rfl)) (fun _ h9 => h9) rfl dX4_readOne_43 ?_
  have hFc := free_all hD hS hA
  refine va_calli (va_runV (As := [.int 3, .int (nI ts)]) (rest := []) ⟨hx, hb, hml, hown, hts⟩ (r_failAt l D ρ ws_25 ty_26 adK adV fo f9 rd krd tp ktp cd bb tl ts T nk fr fk fp vl 3 (nI ts) H.size htl hng (⟨kc_1, cc_2, tc_3, fc_4, kb_5, cb_6, tb_7, fb_8, hp_9, hT_10, e_30, e_31, wr_13, wt_14, e_32, u_34, wc_17, hc_18, e_33, u_35, wb_21, hb_22⟩ : RSX ρ ws_25 ty_26 f9 rd krd tp ktp cd bb tl ts T nk fr fk fp vl) ) (cwV 2 hts gX4_readOne_X4_failAt rfl rfl rfl (by decide +kernel) ⟨Nat.le_of_ble_eq_true rfl, Nat.le_of_ble_eq_true rfl⟩) ⟨fun a U g mk q => by obtain ⟨q0, q1, qP, qK, qD, qS⟩ := q; exact ⟨q0, q1, qP, va_K.moved (u := U) (U := U.calling g mk a) (Vm.Alike.refl U.vm) qK, qD, SZ.same rfl rfl qS⟩, va_recv hK hP (ci := 4) (q0 := krd) rfl e_30, fun U hU hW => ⟨rfl, by rw [hU], by rw [hU]; exact hP, va_K.moved hW.alike hK, hD.weaken (fun _ _ _ _ => trivial), hsz9.go hS hW hU hFc⟩⟩ rfl rfl hl.1 rfl (lv_room (Nat.le_of_ble_eq_true rfl)) dX4_readOne_46 ⟨Nat.le_of_ble_eq_true rfl, Nat.le_of_ble_eq_true rfl⟩) hS (fun q _ h => hFc q h) hFc (fun r_182 u t H1 locs ht hvm w_183 hB hz1 hk1 hS => ?_)
  subst w_183
  obtain ⟨ws_184, ty_185, hm_186, ht_188, hP1, hK1, hD1, hx_187⟩ := hB
  rw [ht] at hP1
  have hK := va_K.moved hvm.symm hK1
  have hD := hD1.weaken (fun _ _ _ h => hFc _ h)
  generalize H1 = H at hP1 hS ⊢
  have hP := hP1
  obtain ⟨g_190, e_189, h_191⟩ := hm_186.obj e_30
  obtain ⟨z_192, z_193, z_194, z_195, z_196, z_197, rfl⟩ := smX4 h_191
  obtain ⟨g_199, e_198, h_200⟩ := hm_186.obj e_31
  obtain ⟨z_201, z_202, z_203, z_204, rfl⟩ := smX6 h_200
  obtain ⟨f_206, e_205⟩ := hm_186.arrI e_32
  have u_207 := ht_188 _ _ u_34
  have e_208 := hm_186.keep (by rw [wb_21]; omega) e_33
  have u_209 := ht_188 _ _ u_35
  have hsm := hsm.tr (hm_186.mono (by decide))
  have htx := htx.tr ht_188
  obtain ⟨rfl, hR_210⟩ := hx_187
  obtain ⟨kc_211, cc_212, tc_213, fc_214, kb_215, cb_216, tb_217, fb_218, hp_219, hT_220, er_221, et_222, wr_223, wt_224, ec_225, uc_226, wc_227, hc_228, eb_229, ub_230, wb_231, hb_232⟩ := id hR_210
  have hp_2191 := hp_219.1
  have hp_219t := teF_le (f := f9) hp_219.1
  exact W.zret (v := 0) hx hb hr rfl (fun t ht hW => ⟨⟨0, 0, rfl, rfl, ws_184, ty_185, hsm, htx, by rw [ht]; exact hP, va_K.moved hW.alike hK, hD, Or.inl ⟨rfl, 3, ts, _, _, _, by omega, by omega, (Rch.rf _).st (st_deep (Or.inr iw_37) hdp), (⟨kc_211, cc_212, tc_213, fc_214, kb_215, cb_216, tb_217, fb_218, hp_219, hT_220, er_221, et_222, wr_223, wt_224, ec_225, uc_226, wc_227, hc_228, eb_229, ub_230, wb_231, hb_232⟩ : RSX ρ ws_184 ty_185 f9 rd krd tp ktp cd bb tl ts T nk fr 3 (nI ts) vl)⟩⟩, hS.F ht⟩) hS.2.2 dX4_readOne_49
set_option maxHeartbeats 4000000 in
set_option maxRecDepth 100000 in
theorem r_readEither6 (l : Launch) (D : va_G) (ρ : Nat → Nat) (ws : va_W) (tys : List (ClassId × FieldType)) (adK adV : Nat → Nat) (fo : Option Nat) (f9 : Nat → Int32) (rd krd tp ktp cd bb tl ts : Nat) (T : List Tk) (nk : Int64) (fr fk fp vl : Int32) (σ : List Nat) (sz : Nat) (htl : tl ≤ 400) (hng : ∀ i : Nat, i < tl → ¬ f9 i = -1) (R0 : RSX ρ ws tys f9 rd krd tp ktp cd bb tl ts T nk fr fk fp vl) (hbs : bas σ) (hdp : dep σ = 6) (hT2 : 2 * T.length ≤ ts) : Met l yX4_readEither wsX4_readEither ({ frames := 8, cells := 0, slots := 0, locals := 172 }) (va_Pc [.ref rd, .int 6] (fun U => U.heap.size = sz ∧ va_P D vwCl ws U.heap ∧ va_K D vwCl tys U ∧ va_D (fun _ => True) ws ∧ SZ adK adV fo (va_A ws sz) U U.heap)) (va_Qi (fun (r : Int32) (s9 : Int32) => r = s9) (fun (s9 : Int32) (t : State) => ∃ (ws' : va_W) (tys' : List (ClassId × FieldType)), sm ρ [4, 6] ws ws' ∧ tyx tys tys' ∧ va_P D vwCl ws' t.heap ∧ va_K D vwCl tys' t ∧ va_D (va_A ws sz) ws' ∧ ((s9 = 0 ∧ FLT ρ ws' tys' f9 rd krd tp ktp cd bb tl (0, ts, σ, T) nk fr) ∨ (s9 = 1 ∧ EIT ρ ws' tys' f9 rd krd tp ktp cd bb tl ts σ T nk fr fk fp))) (va_A ws sz)) 0 0 (va_A ws sz) := by
  refine Met.ofW (cc := cX4_readEither) (maxL := 6) (ret := (some .boolean)) (by decide) rfl ?_
  intro p e s m args below meth c s₁ B hml hv
  obtain ⟨rfl, hsz, hP, hK, hD0, hsz9⟩ := hv
  have hx := B.exec
  have hb := B.bytes
  have hr := B.returns
  have hts := atoms_spec (ws := wsX4_readEither) B.pre
  have hown : s.vm.findClass RX4 = some m.cls := findClass_of_methodNamed B.named
  have hlocks := B.notSynchronized
  subst hsz
  have hD := hD0.self (sz := s.heap.size)
  generalize hAe : va_A ws s.heap.size = A at hD hsz9 ⊢
  have hA : ∀ q : Nat, s.heap.size ≤ q → A q := fun q h => by rw [← hAe]; exact Or.inr h
  have hS : va_S A s.heap s.heap [] := va_S.rf
  have hsm : sm ρ [4, 6] ws ws := sm.rf ws
  have htx : tyx tys tys := tyx.rf tys
  have hin4 : ∀ w ∈ u_ws RX4 TX4 8, w ∈ wsX4_readEither := (fun _ h9 => List.mem_cons_of_mem _ (List.mem_append_left _ ((List.mem_append_right _ h9))))
  have hl := lv_entry ([.ref rd, .int 6]) (n := 6) (Nat.le_of_ble_eq_true rfl)
  rw [lg_entry_eq]
  generalize (lg_sl ([.ref rd, .int 6]) ++ List.replicate (6 - (lg_sl ([.ref rd, .int 6])).length) Slot.unset).toArray = ls at hl ⊢
  have hl : lv_has ls 6 [(0, .ref rd), (1, .int 6)] := hl
  obtain ⟨kc_1, cc_2, tc_3, fc_4, kb_5, cb_6, tb_7, fb_8, hp_9, hT_10, er_11, et_12, wr_13, wt_14, ec_15, uc_16, wc_17, hc_18, eb_19, ub_20, wb_21, hb_22⟩ := id R0
  have hp_91 := hp_9.1
  have hp_9t := teF_le (f := f9) hp_9.1
  refine lv_aload_n hx hb dX4_readEither_0 rfl (lv_at hl 0 rfl) ?_
  refine lv_iload_n hx hb dX4_readEither_1 rfl (lv_at hl 1 rfl) ?_
  have hFc := free_all hD hS hA
  refine va_calli (va_runV (As := [.int 6]) (rest := []) ⟨hx, hb, hml, hown, hts⟩ (r_readOne6 l D ρ ws tys adK adV fo f9 rd krd tp ktp cd bb tl ts T nk fr fk fp vl σ s.heap.size htl hng (⟨kc_1, cc_2, tc_3, fc_4, kb_5, cb_6, tb_7, fb_8, hp_9, hT_10, er_11, et_12, wr_13, wt_14, ec_15, uc_16, wc_17, hc_18, eb_19, ub_20, wb_21, hb_22⟩ : RSX ρ ws tys f9 rd krd tp ktp cd bb tl ts T nk fr fk fp vl) hdp (by omega)) (cwV 1 hts gX4_readEither_X4_readOne rfl rfl rfl (by decide +kernel) ⟨Nat.le_of_ble_eq_true rfl, Nat.le_of_ble_eq_true rfl⟩) ⟨fun a U g mk q => by obtain ⟨q0, q1, qP, qK, qD, qS⟩ := q; exact ⟨q0, q1, qP, va_K.moved (u := U) (U := U.calling g mk a) (Vm.Alike.refl U.vm) qK, qD, SZ.same rfl rfl qS⟩, va_recv hK hP (ci := 4) (q0 := krd) rfl er_11, fun U hU hW => ⟨rfl, by rw [hU], by rw [hU]; exact hP, va_K.moved hW.alike hK, hD.weaken (fun _ _ _ _ => trivial), hsz9.go hS hW hU hFc⟩⟩ rfl rfl hl.1 rfl (lv_room (Nat.le_of_ble_eq_true rfl)) dX4_readEither_2 ⟨Nat.le_of_ble_eq_true rfl, Nat.le_of_ble_eq_true rfl⟩) hS (fun q _ h => hFc q h) hFc (fun r_23 u t H1 locs ht hvm w_24 hB hz1 hk1 hS => ?_)
  subst w_24
  obtain ⟨ws_25, ty_26, hm_27, ht_29, hP1, hK1, hD1, hx_28⟩ := hB
  rw [ht] at hP1
  have hK := va_K.moved hvm.symm hK1
  have hD := hD1.weaken (fun _ _ _ h => hFc _ h)
  generalize H1 = H at hP1 hS ⊢
  have hP := hP1
  obtain ⟨g_31, e_30, h_32⟩ := hm_27.obj er_11
  obtain ⟨z_33, z_34, z_35, z_36, z_37, z_38, rfl⟩ := smX4 h_32
  obtain ⟨g_40, e_39, h_41⟩ := hm_27.obj et_12
  obtain ⟨z_42, z_43, z_44, z_45, rfl⟩ := smX6 h_41
  obtain ⟨f_47, e_46⟩ := hm_27.arrI ec_15
  have u_48 := ht_29 _ _ uc_16
  have e_49 := hm_27.keep (by rw [wb_21]; omega) eb_19
  have u_50 := ht_29 _ _ ub_20
  have hsm := hsm.tr (hm_27.mono (by decide))
  have htx := htx.tr ht_29
  refine lv_istore_n (lv' := [(2, .int r_23), (0, .ref rd), (1, .int 6)]) hx hb dX4_readEither_5 rfl hl (by decide) rfl (fun ls hl => ?_)
  refine lv_iconst (v := 0) hx hb dX4_readEither_6 (by decide) ?_
  refine lv_istore_n (lv' := [(3, .int 0), (2, .int r_23), (0, .ref rd), (1, .int 6)]) hx hb dX4_readEither_7 rfl hl (by decide) rfl (fun ls hl => ?_)
  refine lv_iconst (v := 0) hx hb dX4_readEither_8 (by decide) ?_
  refine lv_istore (lv' := [(4, .int 0), (3, .int 0), (2, .int r_23), (0, .ref rd), (1, .int 6)]) hx hb dX4_readEither_9 hl (by decide) rfl (fun ls hl => ?_)
  refine lp_V (nL := 6) (σ := Nat × Int32 × Int32) (lv := fun x9 => [(4, .int (nI x9.1)), (2, .int x9.2.1), (3, .int x9.2.2), (1, .int 6), (0, .ref rd)]) (μ := fun x9 => 400 - x9.1) (J := fun x9 ws9 => sm ρ [4, 6] ws_25 ws9 ∧ (∃ ty9 : List (ClassId × FieldType), va_K D vwCl ty9 s ∧ tyx tys ty9 ∧ ((x9.2.1 = 1 ∧ (x9.2.2 = 0 ∨ x9.2.2 = 1) ∧ LPE ρ ws9 ty9 f9 rd krd tp ktp cd bb tl ts σ T nk fr fk fp x9.1 x9.2.2) ∨ (x9.2.1 = 0 ∧ (x9.2.2 = 0 ∨ x9.2.2 = 1) ∧ FLT ρ ws9 ty9 f9 rd krd tp ktp cd bb tl (0, ts, σ, T) nk fr))) ∧ (x9.1 ≤ 400)) (fun x9 ws_56 H locs ls hj hP hD hS hl ih_51 => ?_) (0, r_23, 0) ws_25 _ _ ls ⟨sm.rf _, ⟨ty_26, hK, htx, by rcases hx_28 with ⟨h0, h⟩ | ⟨h0, b9, T9, vl, hr, g1, g2, h⟩; exact Or.inr ⟨h0, Or.inl rfl, h⟩; exact Or.inl ⟨h0, Or.inl rfl, ⟨b9, σ, T9, vl, rch_bs hbs hr, ow_0 hbs, by omega, fun (h9 : (0 : Int32) = 1) => absurd h9 (by decide), fun _ => by rw [hbs.fx.2.2.2.1, List.append_nil]; omega, by rw [hbs.fx.2.2.2.1, List.append_nil]; exact h⟩⟩⟩, (show 0 ≤ 400 from by omega)⟩ hP hD hS (lv_sub hl [0, 2, 1, 4, 3] rfl)
  obtain ⟨i_52, x_53, y_54⟩ := x9
  replace hj : sm ρ [4, 6] ws_25 ws_56 ∧ (∃ ty9 : List (ClassId × FieldType), va_K D vwCl ty9 s ∧ tyx tys ty9 ∧ ((x_53 = 1 ∧ (y_54 = 0 ∨ y_54 = 1) ∧ LPE ρ ws_56 ty9 f9 rd krd tp ktp cd bb tl ts σ T nk fr fk fp i_52 y_54) ∨ (x_53 = 0 ∧ (y_54 = 0 ∨ y_54 = 1) ∧ FLT ρ ws_56 ty9 f9 rd krd tp ktp cd bb tl (0, ts, σ, T) nk fr))) ∧ (i_52 ≤ 400) := hj
  obtain ⟨hm_57, hR_59, hi_55⟩ := hj
  obtain ⟨g_61, e_60, h_62⟩ := hm_57.obj e_30
  obtain ⟨z_63, z_64, z_65, z_66, z_67, z_68, rfl⟩ := smX4 h_62
  obtain ⟨g_70, e_69, h_71⟩ := hm_57.obj e_39
  obtain ⟨z_72, z_73, z_74, z_75, rfl⟩ := smX6 h_71
  obtain ⟨f_77, e_76⟩ := hm_57.arrI e_46
  have e_78 := hm_57.keep (by rw [wb_21]; omega) e_49
  have hsm := hsm.tr (hm_57.mono (by decide))
  have hlp_58 := hm_57
  have hl : lv_has ls 6 [(4, .int (nI i_52)), (2, .int x_53), (3, .int y_54), (1, .int 6), (0, .ref rd)] := hl
  refine lv_iload hx hb dX4_readEither_11 (lv_at hl 0 rfl) ?_
  obtain ⟨ty_79, hK, htx, hR_80⟩ := hR_59
  rcases hR_80 with ⟨rfl, rfl | rfl, b_81, ta_82, T_83, vl_84, hr_85, ow_86, gi_87, ga_88, gb_89, hR_90⟩ | ⟨rfl, rfl | rfl, k_91, p_92, ts_93, T_83, vl_84, hk_94, hk_95, hr_85, hR_90⟩
  · have gb_89 := gb_89 rfl
    obtain ⟨kc_96, cc_97, tc_98, fc_99, kb_100, cb_101, tb_102, fb_103, hp_104, hT_105, er_106, et_107, wr_108, wt_109, ec_110, uc_111, wc_112, hc_113, eb_114, ub_115, wb_116, hb_117⟩ := id hR_90
    have hp_1041 := hp_104.1
    have hp_104t := teF_le (f := f9) hp_104.1
    refine lv_sipush (v := 400) hx hb dX4_readEither_13 (by decide) ?_
    refine lv_icmp_ge (tgt := 101) hx hb dX4_readEither_16 (by decide) (fun c_118 => ?_) (fun c_118 => ?_)
    · have d_119 := n_le (a := 400) (b := i_52) (by omega) (by omega) c_118
      refine lv_iload_n hx hb dX4_readEither_101 rfl (lv_at hl 2 rfl) ?_
      refine lv_if_eq (tgt := 111) hx hb dX4_readEither_102 (by decide) (fun c_120 => ?_) (fun c_120 => absurd (by decide) c_120)
      refine lv_iload_n hx hb dX4_readEither_111 rfl (lv_at hl 1 rfl) ?_
      exact W.zret (v := 1) hx hb hr rfl (fun t ht hW => ⟨⟨1, 1, rfl, rfl, ws_56, ty_79, hsm, htx, by rw [ht]; exact hP, va_K.moved hW.alike hK, hD, (by exfalso; omega)⟩, hS.F ht⟩) hS.2.2 dX4_readEither_112
    have d_121 := n_nle (a := 400) (b := i_52) (by omega) (by omega) c_118
    refine lv_iload_n hx hb dX4_readEither_19 rfl (lv_at hl 1 rfl) ?_
    refine lv_if_eq (tgt := 101) hx hb dX4_readEither_20 (by decide) (fun c_122 => absurd c_122 (by decide)) (fun c_122 => ?_)
    refine lv_aload_n hx hb dX4_readEither_23 rfl (lv_at hl 4 rfl) ?_
    have hFc := free_all hD hS hA
    refine va_calli (va_runV (As := []) (rest := []) ⟨hx, hb, hml, hown, hts⟩ (r_isAndOr l D (rz []) ws_56 ty_79 adK adV fo f9 rd krd tp ktp cd tl b_81 nk fr fk fp (nI (T_83 ++ eA ta_82).length) vl_84 bb kb_100 cb_101 tb_102 fb_103 H.size er_106 htl hb_117 hng hp_104 et_107 eb_114 ub_115 rz_o0) (cwV 0 hts gX4_readEither_X4_isAndOr rfl rfl rfl (by decide +kernel) ⟨Nat.le_of_ble_eq_true rfl, Nat.le_of_ble_eq_true rfl⟩) ⟨fun a U g mk q => by obtain ⟨q0, q1, qP, qK, qD, qS⟩ := q; exact ⟨q0, q1, qP, va_K.moved (u := U) (U := U.calling g mk a) (Vm.Alike.refl U.vm) qK, qD, SZ.same rfl rfl qS⟩, va_recv hK hP (ci := 4) (q0 := krd) rfl er_106, fun U hU hW => ⟨rfl, by rw [hU], by rw [hU]; exact hP, va_K.moved hW.alike hK, hD.weaken (fun _ _ _ _ => trivial), hsz9.go hS hW hU hFc⟩⟩ rfl rfl hl.1 rfl (lv_room (Nat.le_of_ble_eq_true rfl)) dX4_readEither_24 ⟨Nat.le_of_ble_eq_true rfl, Nat.le_of_ble_eq_true rfl⟩) hS (fun q _ h => hFc q h) hFc (fun r_123 u t H1 locs ht hvm w_124 hB hz1 hk1 hS => ?_)
    obtain ⟨ws_125, ty_126, hm_127, ht_129, hP1, hK1, hD1, hx_128⟩ := hB
    rw [ht] at hP1
    have hK := va_K.moved hvm.symm hK1
    have hD := hD1.weaken (fun _ _ _ h => hFc _ h)
    generalize H1 = H at hP1 hS ⊢
    have hP := hP1
    have e_130 := hm_127.keep rz_o0 er_106
    have e_131 := hm_127.keep rz_o0 et_107
    have e_132 := hm_127.keep rz_o0 ec_110
    have e_133 := hm_127.keep rz_o0 eb_114
    have u_134 := ht_129 _ _ uc_111
    have u_135 := ht_129 _ _ ub_115
    have hm_136 : sm ρ [] ws_56 ws_125 := hm_127.up (fun k _ h => rz_u0  k h)
    have hsm := hsm.tr (hm_136.mono (by decide))
    have hlp_58 := hlp_58.tr (hm_136.mono (by decide))
    have htx := htx.tr ht_129
    rcases w_124 with ⟨rfl, ao_137⟩ | ⟨rfl, ao_137⟩
    · refine lv_if_eq (tgt := 101) hx hb dX4_readEither_27 (by decide) (fun c_138 => ?_) (fun c_138 => absurd (by decide) c_138)
      refine lv_iload_n hx hb dX4_readEither_101 rfl (lv_at hl 2 rfl) ?_
      refine lv_if_eq (tgt := 111) hx hb dX4_readEither_102 (by decide) (fun c_139 => ?_) (fun c_139 => absurd (by decide) c_139)
      refine lv_iload_n hx hb dX4_readEither_111 rfl (lv_at hl 1 rfl) ?_
      exact W.zret (v := 1) hx hb hr rfl (fun t ht hW => ⟨⟨1, 1, rfl, rfl, ws_125, ty_126, hsm, htx, by rw [ht]; exact hP, va_K.moved hW.alike hK, hD, Or.inr ⟨rfl, b_81, ta_82, T_83, _, hr_85, ow_jO hbs ow_86, ao_137, by omega, by rw [(ow_eO hbs ow_86).1 rfl]; omega, by rw [(ow_eO hbs ow_86).1 rfl]; exact (⟨kc_96, cc_97, tc_98, fc_99, kb_100, cb_101, tb_102, fb_103, hp_104, hT_105, e_130, e_131, wr_108, wt_109, e_132, u_134, wc_112, hc_113, e_133, u_135, wb_116, hb_117⟩ : RSX ρ ws_125 ty_126 f9 rd krd tp ktp cd bb tl b_81 (T_83 ++ eA ta_82) nk fr fk fp vl_84)⟩⟩, hS.F ht⟩) hS.2.2 dX4_readEither_112
    refine lv_if_eq (tgt := 101) hx hb dX4_readEither_27 (by decide) (fun c_140 => absurd c_140 (by decide)) (fun c_140 => ?_)
    refine lv_aload_n hx hb dX4_readEither_30 rfl (lv_at hl 4 rfl) ?_
    refine va_get (D := D) (ci := 4) (v := .ref tp) (C := RX4) (T := TX4) (N := 8) hx hb hts hin4 hown hK hP krd e_130 rfl 0 (by decide) (hts (.fieldLink RX4 12 "HoneyHouse$RuleReader" "tape" "LHoneyHouse$Tape;") (List.mem_of_getElem? (i := 1) rfl)) (fun _ h9 => h9) rfl dX4_readEither_31 ?_
    refine va_ldcS hx hb hown hsz9.2.2.2.2.2.1 dX4_readEither_34 ?_
    have hFc := free_all hD hS hA
    refine va_calli (va_runV (As := [.ref (adK 2)]) (rest := []) ⟨hx, hb, hml, hown, hts⟩ (a_isWord l D (rz []) ws_125 ty_126 adK adV fo 2 f9 tp ktp tl b_81 bb kb_100 cb_101 tb_102 fb_103 H.size (by decide) htl hb_117 hng hp_104 e_131 e_133 u_135 rz_o0) (cwV 1 hts gX4_readEither_X6_isWord rfl rfl rfl (by decide +kernel) ⟨Nat.le_of_ble_eq_true rfl, Nat.le_of_ble_eq_true rfl⟩) ⟨fun a U g mk q => by obtain ⟨q0, q1, qP, qK, qD, qS⟩ := q; exact ⟨q0, q1, qP, va_K.moved (u := U) (U := U.calling g mk a) (Vm.Alike.refl U.vm) qK, qD, SZ.same rfl rfl qS⟩, va_recv hK hP (ci := 6) (q0 := ktp) rfl e_131, fun U hU hW => ⟨rfl, by rw [hU], by rw [hU]; exact hP, va_K.moved hW.alike hK, hD.weaken (fun _ _ _ _ => trivial), hsz9.go hS hW hU hFc⟩⟩ rfl rfl hl.1 rfl (lv_room (Nat.le_of_ble_eq_true rfl)) dX4_readEither_36 ⟨Nat.le_of_ble_eq_true rfl, Nat.le_of_ble_eq_true rfl⟩) hS (fun q _ h => hFc q h) hFc (fun r_141 u t H1 locs ht hvm w_142 hB hz1 hk1 hS => ?_)
    obtain ⟨ws_143, ty_144, hm_145, ht_147, hP1, hK1, hD1, hx_146⟩ := hB
    rw [ht] at hP1
    have hK := va_K.moved hvm.symm hK1
    have hD := hD1.weaken (fun _ _ _ h => hFc _ h)
    generalize H1 = H at hP1 hS ⊢
    have hP := hP1
    have e_148 := hm_145.keep rz_o0 e_130
    have e_149 := hm_145.keep rz_o0 e_131
    have e_150 := hm_145.keep rz_o0 e_132
    have e_151 := hm_145.keep rz_o0 e_133
    have u_152 := ht_147 _ _ u_134
    have u_153 := ht_147 _ _ u_135
    have hm_154 : sm ρ [] ws_125 ws_143 := hm_145.up (fun k _ h => rz_u0  k h)
    have hsm := hsm.tr (hm_154.mono (by decide))
    have hlp_58 := hlp_58.tr (hm_154.mono (by decide))
    have htx := htx.tr ht_147
    rcases w_142 with ⟨rfl, iw_155⟩ | ⟨rfl, iw_155⟩
    · have iw_155 : ¬ wdE f9 tl b_81 = 2 := iw_155
      refine lv_istore (lv' := [(5, .int 0), (4, .int (nI i_52)), (2, .int 1), (3, .int 0), (1, .int 6), (0, .ref rd)]) hx hb dX4_readEither_39 hl (by decide) rfl (fun ls hl => ?_)
      refine lv_iload hx hb dX4_readEither_41 (lv_at hl 0 rfl) ?_
      refine lv_if_ne (tgt := 56) hx hb dX4_readEither_43 (by decide) (fun c_156 => absurd (by decide) c_156) (fun c_156 => ?_)
      refine lv_iload_n hx hb dX4_readEither_46 rfl (lv_at hl 3 rfl) ?_
      refine lv_if_eq (tgt := 56) hx hb dX4_readEither_47 (by decide) (fun c_157 => ?_) (fun c_157 => absurd (by decide) c_157)
      refine lv_iload_n hx hb dX4_readEither_56 rfl (lv_at hl 3 rfl) ?_
      refine lv_if_ne (tgt := 65) hx hb dX4_readEither_57 (by decide) (fun c_158 => absurd (by decide) c_158) (fun c_158 => ?_)
      refine lv_iload hx hb dX4_readEither_60 (lv_at hl 0 rfl) ?_
      refine lv_if_ne (tgt := 69) hx hb dX4_readEither_62 (by decide) (fun c_159 => absurd (by decide) c_159) (fun c_159 => ?_)
      refine lv_iconst (v := 1) hx hb dX4_readEither_65 (by decide) ?_
      refine lv_goto (tgt := 70) hx hb dX4_readEither_66 (by decide) ?_
      refine lv_istore_n (lv' := [(3, .int 1), (5, .int 0), (4, .int (nI i_52)), (2, .int 1), (1, .int 6), (0, .ref rd)]) hx hb dX4_readEither_70 rfl hl (by decide) rfl (fun ls hl => ?_)
      have hw1 : wdE f9 tl b_81 = 1 := by omega
      have hw9 : b_81 + 2 ≤ nxF f9 tl b_81 ∧ nxF f9 tl b_81 ≤ tl := nx_wd hp_104.1 (j := 1) (by omega) hw1
      have hm9 : Rch f9 tl (0, ts, σ, T) (0, nxF f9 tl b_81, 1 :: σ, T_83 ++ eA ta_82) := by have h9 := hr_85.st (st_or hw1); rw [ow_jO hbs ow_86, (ow_eO hbs ow_86).1 rfl] at h9; exact h9
      have hdq : dep (1 :: σ) = dep σ := dep_n _ (by omega)
      refine lv_aload_n hx hb dX4_readEither_71 rfl (lv_at hl 5 rfl) ?_
      refine va_get (D := D) (ci := 4) (v := .ref tp) (C := RX4) (T := TX4) (N := 8) hx hb hts hin4 hown hK hP krd e_148 rfl 0 (by decide) (hts (.fieldLink RX4 12 "HoneyHouse$RuleReader" "tape" "LHoneyHouse$Tape;") (List.mem_of_getElem? (i := 1) rfl)) (fun _ h9 => h9) rfl dX4_readEither_72 ?_
      have hFc := free_all hD hS hA
      refine va_callv (va_runV (As := []) (rest := []) ⟨hx, hb, hml, hown, hts⟩ (a_advance l D (rz [ktp]) ws_143 ty_144 f9 tp ktp tl (teF f9 tl b_81) (nI (kdF f9 tl b_81)) (nI b_81) bb kb_100 cb_101 tb_102 fb_103 H.size htl hb_117 hng (by omega) e_149 e_151 u_153 (rz_o1 (pl_ne e_151 e_149 (by intro h9; simp at h9))) (rz_in (by simp))) (cwV 0 hts gX4_readEither_X6_advance rfl rfl rfl (by decide +kernel) ⟨Nat.le_of_ble_eq_true rfl, Nat.le_of_ble_eq_true rfl⟩) ⟨fun a U g mk q => by obtain ⟨q0, q1, qP, qK, qD⟩ := q; exact ⟨q0, q1, qP, va_K.moved (u := U) (U := U.calling g mk a) (Vm.Alike.refl U.vm) qK, qD⟩, va_recv hK hP (ci := 6) (q0 := ktp) rfl e_149, fun U hU hW => ⟨rfl, by rw [hU], by rw [hU]; exact hP, va_K.moved hW.alike hK, hD.weaken (fun _ _ _ _ => trivial)⟩⟩ rfl rfl hl.1 rfl (lv_room (Nat.le_of_ble_eq_true rfl)) dX4_readEither_75 ⟨Nat.le_of_ble_eq_true rfl, Nat.le_of_ble_eq_true rfl⟩) hS (fun q _ h => hFc q h) hFc (fun u t H1 locs ht hvm w_161 hB hz1 hk1 hS => ?_)
      obtain ⟨ws_162, ty_163, hm_164, ht_166, hP1, hK1, hD1, hx_165⟩ := hB
      rw [ht] at hP1
      have hK := va_K.moved hvm.symm hK1
      have hD := hD1.weaken (fun _ _ _ h => hFc _ h)
      generalize H1 = H at hP1 hS ⊢
      have hP := hP1
      have e_167 := hm_164.keep (rz_o1 (pl_ne e_148 e_149 (by intro h9; simp at h9))) e_148
      have e_168 := hm_164.keep (rz_o1 (pl_ne e_150 e_149 (by intro h9; simp at h9))) e_150
      have e_169 := hm_164.keep (rz_o1 (pl_ne e_151 e_149 (by intro h9; simp at h9))) e_151
      have u_170 := ht_166 _ _ u_152
      have u_171 := ht_166 _ _ u_153
      have hm_172 : sm ρ [6] ws_143 ws_162 := hm_164.up (fun k _ h => rz_u1 wt_109 k h)
      have hsm := hsm.tr (hm_172.mono (by decide))
      have hlp_58 := hlp_58.tr (hm_172.mono (by decide))
      have htx := htx.tr ht_166
      have e_173 : ws_162[ktp]? = some (tp, .inr (6, [.int (nI tl), .int (nI (kdF f9 tl (nxF f9 tl b_81))), .int (nI (nxF f9 tl b_81)), .int (nI (teF f9 tl (nxF f9 tl b_81))), .ref bb])) := hx_165; have hq_174 : pcB f9 tl (nxF f9 tl b_81) := nxF_pc (f := f9) hp_104.1; have hq_1741 := hq_174.1; have hq_174t := teF_le (f := f9) hq_174.1; have hg_175 := nx_gain (f := f9) hp_104.1
      refine lv_aload_n hx hb dX4_readEither_78 rfl (lv_at hl 5 rfl) ?_
      refine lv_iload_n hx hb dX4_readEither_79 rfl (lv_at hl 4 rfl) ?_
      have hFc := free_all hD hS hA
      refine va_calli (va_runV (As := [.int 6]) (rest := []) ⟨hx, hb, hml, hown, hts⟩ (r_readOne6 l D ρ ws_162 ty_163 adK adV fo f9 rd krd tp ktp cd bb tl (nxF f9 tl b_81) (T_83 ++ eA ta_82) nk fr fk fp vl_84 (1 :: σ) H.size htl hng (⟨kc_96, cc_97, tc_98, fc_99, kb_100, cb_101, tb_102, fb_103, hq_174, hT_105, e_167, e_173, wr_108, wt_109, e_168, u_170, wc_112, hc_113, e_169, u_171, wb_116, hb_117⟩ : RSX ρ ws_162 ty_163 f9 rd krd tp ktp cd bb tl (nxF f9 tl b_81) (T_83 ++ eA ta_82) nk fr fk fp vl_84) (hdq.trans hdp) (by omega)) (cwV 1 hts gX4_readEither_X4_readOne rfl rfl rfl (by decide +kernel) ⟨Nat.le_of_ble_eq_true rfl, Nat.le_of_ble_eq_true rfl⟩) ⟨fun a U g mk q => by obtain ⟨q0, q1, qP, qK, qD, qS⟩ := q; exact ⟨q0, q1, qP, va_K.moved (u := U) (U := U.calling g mk a) (Vm.Alike.refl U.vm) qK, qD, SZ.same rfl rfl qS⟩, va_recv hK hP (ci := 4) (q0 := krd) rfl e_167, fun U hU hW => ⟨rfl, by rw [hU], by rw [hU]; exact hP, va_K.moved hW.alike hK, hD.weaken (fun _ _ _ _ => trivial), hsz9.go hS hW hU hFc⟩⟩ rfl rfl hl.1 rfl (lv_room (Nat.le_of_ble_eq_true rfl)) dX4_readEither_80 ⟨Nat.le_of_ble_eq_true rfl, Nat.le_of_ble_eq_true rfl⟩) hS (fun q _ h => hFc q h) hFc (fun r_176 u t H1 locs ht hvm w_177 hB hz1 hk1 hS => ?_)
      subst w_177
      obtain ⟨ws_178, ty_179, hm_180, ht_182, hP1, hK1, hD1, hx_181⟩ := hB
      rw [ht] at hP1
      have hK := va_K.moved hvm.symm hK1
      have hD := hD1.weaken (fun _ _ _ h => hFc _ h)
      generalize H1 = H at hP1 hS ⊢
      have hP := hP1
      obtain ⟨g_184, e_183, h_185⟩ := hm_180.obj e_167
      obtain ⟨z_186, z_187, z_188, z_189, z_190, z_191, rfl⟩ := smX4 h_185
      obtain ⟨g_193, e_192, h_194⟩ := hm_180.obj e_173
      obtain ⟨z_195, z_196, z_197, z_198, rfl⟩ := smX6 h_194
      obtain ⟨f_200, e_199⟩ := hm_180.arrI e_168
      have u_201 := ht_182 _ _ u_170
      have e_202 := hm_180.keep (by rw [wb_116]; omega) e_169
      have u_203 := ht_182 _ _ u_171
      have hsm := hsm.tr (hm_180.mono (by decide))
      have hlp_58 := hlp_58.tr (hm_180.mono (by decide))
      have htx := htx.tr ht_182
      rcases hx_181 with ⟨rfl, k_204, p_205, ts_206, T_207, vl_208, hk_209, hk_210, hr_211, hR_212⟩ | ⟨rfl, b_213, T_207, vl_208, hr_211, hg_217, hg_218, hR_212⟩
      · obtain ⟨kc_219, cc_220, tc_221, fc_222, kb_223, cb_224, tb_225, fb_226, hp_227, hT_228, er_229, et_230, wr_231, wt_232, ec_233, uc_234, wc_235, hc_236, eb_237, ub_238, wb_239, hb_240⟩ := id hR_212
        have hp_2271 := hp_227.1
        have hp_227t := teF_le (f := f9) hp_227.1
        refine lv_istore_n (lv' := [(2, .int 0), (3, .int 1), (5, .int 0), (4, .int (nI i_52)), (1, .int 6), (0, .ref rd)]) hx hb dX4_readEither_83 rfl hl (by decide) rfl (fun ls hl => ?_)
        refine lv_iload hx hb dX4_readEither_84 (lv_at hl 2 rfl) ?_
        refine lv_if_eq (tgt := 95) hx hb dX4_readEither_86 (by decide) (fun c_241 => ?_) (fun c_241 => absurd (by decide) c_241)
        refine lv_iinc (v := nI (i_52 + 1)) (lv' := [(4, .int (nI (i_52 + 1))), (2, .int 0), (3, .int 1), (5, .int 0), (1, .int 6), (0, .ref rd)]) hx hb dX4_readEither_95 hl (k := 3) rfl (nI_add i_52 1) (by decide) rfl (fun ls hl => ?_)
        refine lv_goto (tgt := 11) hx hb dX4_readEither_98 (by decide) ?_
        exact ih_51 (i_52 + 1, 0, 1) ws_178 _ _ ls (by show 400 - (i_52 + 1) < 400 - i_52; omega) ⟨hlp_58, ⟨ty_179, hK, htx, Or.inr ⟨rfl, Or.inr rfl, (⟨k_204, p_205, _, _, _, by omega, by omega, hm9.tr hr_211, (⟨kc_219, cc_220, tc_221, fc_222, kb_223, cb_224, tb_225, fb_226, hp_227, hT_228, er_229, et_230, wr_231, wt_232, ec_233, uc_234, wc_235, hc_236, eb_237, ub_238, wb_239, hb_240⟩ : RSX ρ ws_178 ty_179 f9 rd krd tp ktp cd bb tl ts_206 T_207 nk fr (nI k_204) (nI p_205) vl_208)⟩ : FLT ρ ws_178 ty_179 f9 rd krd tp ktp cd bb tl (0, ts, σ, T) nk fr)⟩⟩, (show (i_52 + 1) ≤ 400 from by omega)⟩ hP hD hS (lv_sub hl [0, 1, 2, 4, 5] rfl)
      obtain ⟨kc_242, cc_243, tc_244, fc_245, kb_246, cb_247, tb_248, fb_249, hp_250, hT_251, er_252, et_253, wr_254, wt_255, ec_256, uc_257, wc_258, hc_259, eb_260, ub_261, wb_262, hb_263⟩ := id hR_212
      have hp_2501 := hp_250.1
      have hp_250t := teF_le (f := f9) hp_250.1
      refine lv_istore_n (lv' := [(2, .int 1), (3, .int 1), (5, .int 0), (4, .int (nI i_52)), (1, .int 6), (0, .ref rd)]) hx hb dX4_readEither_83 rfl hl (by decide) rfl (fun ls hl => ?_)
      refine lv_iload hx hb dX4_readEither_84 (lv_at hl 2 rfl) ?_
      refine lv_if_eq (tgt := 95) hx hb dX4_readEither_86 (by decide) (fun c_264 => ?_) (fun c_264 => absurd (by decide) c_264)
      refine lv_iinc (v := nI (i_52 + 1)) (lv' := [(4, .int (nI (i_52 + 1))), (2, .int 1), (3, .int 1), (5, .int 0), (1, .int 6), (0, .ref rd)]) hx hb dX4_readEither_95 hl (k := 3) rfl (nI_add i_52 1) (by decide) rfl (fun ls hl => ?_)
      refine lv_goto (tgt := 11) hx hb dX4_readEither_98 (by decide) ?_
      exact ih_51 (i_52 + 1, 1, 1) ws_178 _ _ ls (by show 400 - (i_52 + 1) < 400 - i_52; omega) ⟨hlp_58, ⟨ty_179, hK, htx, Or.inl ⟨rfl, Or.inr rfl, (⟨b_213, 1 :: σ, T_207, _, hm9.tr (rch_an (by omega) hr_211), ow_or, by omega, fun _ => by rw [eA_n _ (by omega), List.append_nil]; omega, fun h9 => absurd h9 (by decide), by rw [eA_n _ (by omega), List.append_nil]; exact (⟨kc_242, cc_243, tc_244, fc_245, kb_246, cb_247, tb_248, fb_249, hp_250, hT_251, er_252, et_253, wr_254, wt_255, ec_256, uc_257, wc_258, hc_259, eb_260, ub_261, wb_262, hb_263⟩ : RSX ρ ws_178 ty_179 f9 rd krd tp ktp cd bb tl b_213 T_207 nk fr fk fp vl_208)⟩ : LPE ρ ws_178 ty_179 f9 rd krd tp ktp cd bb tl ts σ T nk fr fk fp (i_52 + 1) 1)⟩⟩, (show (i_52 + 1) ≤ 400 from by omega)⟩ hP hD hS (lv_sub hl [0, 1, 2, 4, 5] rfl)
    have iw_155 : wdE f9 tl b_81 = 2 := iw_155
    refine lv_istore (lv' := [(5, .int 1), (4, .int (nI i_52)), (2, .int 1), (3, .int 0), (1, .int 6), (0, .ref rd)]) hx hb dX4_readEither_39 hl (by decide) rfl (fun ls hl => ?_)
    refine lv_iload hx hb dX4_readEither_41 (lv_at hl 0 rfl) ?_
    refine lv_if_ne (tgt := 56) hx hb dX4_readEither_43 (by decide) (fun c_265 => ?_) (fun c_265 => absurd c_265 (by decide))
    refine lv_iload_n hx hb dX4_readEither_56 rfl (lv_at hl 3 rfl) ?_
    refine lv_if_ne (tgt := 65) hx hb dX4_readEither_57 (by decide) (fun c_266 => absurd (by decide) c_266) (fun c_266 => ?_)
    refine lv_iload hx hb dX4_readEither_60 (lv_at hl 0 rfl) ?_
    refine lv_if_ne (tgt := 69) hx hb dX4_readEither_62 (by decide) (fun c_267 => ?_) (fun c_267 => absurd c_267 (by decide))
    refine lv_iconst (v := 0) hx hb dX4_readEither_69 (by decide) ?_
    refine lv_istore_n (lv' := [(3, .int 0), (5, .int 1), (4, .int (nI i_52)), (2, .int 1), (1, .int 6), (0, .ref rd)]) hx hb dX4_readEither_70 rfl hl (by decide) rfl (fun ls hl => ?_)
    have hw9 : b_81 + 3 ≤ nxF f9 tl b_81 ∧ nxF f9 tl b_81 ≤ tl := nx_wd hp_104.1 (j := 2) (by omega) iw_155
    have hm9 : Rch f9 tl (0, ts, σ, T) (0, nxF f9 tl b_81, 2 :: jA ta_82, T_83 ++ eA ta_82) := hr_85.st (st_and iw_155)
    have hdq : dep (2 :: jA ta_82) = dep σ := (dep_n _ (by omega)).trans ((dep_jA _).trans ((dep_jO _).symm.trans (congrArg dep (ow_jO hbs ow_86))))
    refine lv_aload_n hx hb dX4_readEither_71 rfl (lv_at hl 5 rfl) ?_
    refine va_get (D := D) (ci := 4) (v := .ref tp) (C := RX4) (T := TX4) (N := 8) hx hb hts hin4 hown hK hP krd e_148 rfl 0 (by decide) (hts (.fieldLink RX4 12 "HoneyHouse$RuleReader" "tape" "LHoneyHouse$Tape;") (List.mem_of_getElem? (i := 1) rfl)) (fun _ h9 => h9) rfl dX4_readEither_72 ?_
    have hFc := free_all hD hS hA
    refine va_callv (va_runV (As := []) (rest := []) ⟨hx, hb, hml, hown, hts⟩ (a_advance l D (rz [ktp]) ws_143 ty_144 f9 tp ktp tl (teF f9 tl b_81) (nI (kdF f9 tl b_81)) (nI b_81) bb kb_100 cb_101 tb_102 fb_103 H.size htl hb_117 hng (by omega) e_149 e_151 u_153 (rz_o1 (pl_ne e_151 e_149 (by intro h9; simp at h9))) (rz_in (by simp))) (cwV 0 hts gX4_readEither_X6_advance rfl rfl rfl (by decide +kernel) ⟨Nat.le_of_ble_eq_true rfl, Nat.le_of_ble_eq_true rfl⟩) ⟨fun a U g mk q => by obtain ⟨q0, q1, qP, qK, qD⟩ := q; exact ⟨q0, q1, qP, va_K.moved (u := U) (U := U.calling g mk a) (Vm.Alike.refl U.vm) qK, qD⟩, va_recv hK hP (ci := 6) (q0 := ktp) rfl e_149, fun U hU hW => ⟨rfl, by rw [hU], by rw [hU]; exact hP, va_K.moved hW.alike hK, hD.weaken (fun _ _ _ _ => trivial)⟩⟩ rfl rfl hl.1 rfl (lv_room (Nat.le_of_ble_eq_true rfl)) dX4_readEither_75 ⟨Nat.le_of_ble_eq_true rfl, Nat.le_of_ble_eq_true rfl⟩) hS (fun q _ h => hFc q h) hFc (fun u t H1 locs ht hvm w_269 hB hz1 hk1 hS => ?_)
    obtain ⟨ws_270, ty_271, hm_272, ht_274, hP1, hK1, hD1, hx_273⟩ := hB
    rw [ht] at hP1
    have hK := va_K.moved hvm.symm hK1
    have hD := hD1.weaken (fun _ _ _ h => hFc _ h)
    generalize H1 = H at hP1 hS ⊢
    have hP := hP1
    have e_275 := hm_272.keep (rz_o1 (pl_ne e_148 e_149 (by intro h9; simp at h9))) e_148
    have e_276 := hm_272.keep (rz_o1 (pl_ne e_150 e_149 (by intro h9; simp at h9))) e_150
    have e_277 := hm_272.keep (rz_o1 (pl_ne e_151 e_149 (by intro h9; simp at h9))) e_151
    have u_278 := ht_274 _ _ u_152
    have u_279 := ht_274 _ _ u_153
    have hm_280 : sm ρ [6] ws_143 ws_270 := hm_272.up (fun k _ h => rz_u1 wt_109 k h)
    have hsm := hsm.tr (hm_280.mono (by decide))
    have hlp_58 := hlp_58.tr (hm_280.mono (by decide))
    have htx := htx.tr ht_274
    have e_281 : ws_270[ktp]? = some (tp, .inr (6, [.int (nI tl), .int (nI (kdF f9 tl (nxF f9 tl b_81))), .int (nI (nxF f9 tl b_81)), .int (nI (teF f9 tl (nxF f9 tl b_81))), .ref bb])) := hx_273; have hq_282 : pcB f9 tl (nxF f9 tl b_81) := nxF_pc (f := f9) hp_104.1; have hq_2821 := hq_282.1; have hq_282t := teF_le (f := f9) hq_282.1; have hg_283 := nx_gain (f := f9) hp_104.1
    refine lv_aload_n hx hb dX4_readEither_78 rfl (lv_at hl 5 rfl) ?_
    refine lv_iload_n hx hb dX4_readEither_79 rfl (lv_at hl 4 rfl) ?_
    have hFc := free_all hD hS hA
    refine va_calli (va_runV (As := [.int 6]) (rest := []) ⟨hx, hb, hml, hown, hts⟩ (r_readOne6 l D ρ ws_270 ty_271 adK adV fo f9 rd krd tp ktp cd bb tl (nxF f9 tl b_81) (T_83 ++ eA ta_82) nk fr fk fp vl_84 (2 :: jA ta_82) H.size htl hng (⟨kc_96, cc_97, tc_98, fc_99, kb_100, cb_101, tb_102, fb_103, hq_282, hT_105, e_275, e_281, wr_108, wt_109, e_276, u_278, wc_112, hc_113, e_277, u_279, wb_116, hb_117⟩ : RSX ρ ws_270 ty_271 f9 rd krd tp ktp cd bb tl (nxF f9 tl b_81) (T_83 ++ eA ta_82) nk fr fk fp vl_84) (hdq.trans hdp) (by omega)) (cwV 1 hts gX4_readEither_X4_readOne rfl rfl rfl (by decide +kernel) ⟨Nat.le_of_ble_eq_true rfl, Nat.le_of_ble_eq_true rfl⟩) ⟨fun a U g mk q => by obtain ⟨q0, q1, qP, qK, qD, qS⟩ := q; exact ⟨q0, q1, qP, va_K.moved (u := U) (U := U.calling g mk a) (Vm.Alike.refl U.vm) qK, qD, SZ.same rfl rfl qS⟩, va_recv hK hP (ci := 4) (q0 := krd) rfl e_275, fun U hU hW => ⟨rfl, by rw [hU], by rw [hU]; exact hP, va_K.moved hW.alike hK, hD.weaken (fun _ _ _ _ => trivial), hsz9.go hS hW hU hFc⟩⟩ rfl rfl hl.1 rfl (lv_room (Nat.le_of_ble_eq_true rfl)) dX4_readEither_80 ⟨Nat.le_of_ble_eq_true rfl, Nat.le_of_ble_eq_true rfl⟩) hS (fun q _ h => hFc q h) hFc (fun r_284 u t H1 locs ht hvm w_285 hB hz1 hk1 hS => ?_)
    subst w_285
    obtain ⟨ws_286, ty_287, hm_288, ht_290, hP1, hK1, hD1, hx_289⟩ := hB
    rw [ht] at hP1
    have hK := va_K.moved hvm.symm hK1
    have hD := hD1.weaken (fun _ _ _ h => hFc _ h)
    generalize H1 = H at hP1 hS ⊢
    have hP := hP1
    obtain ⟨g_292, e_291, h_293⟩ := hm_288.obj e_275
    obtain ⟨z_294, z_295, z_296, z_297, z_298, z_299, rfl⟩ := smX4 h_293
    obtain ⟨g_301, e_300, h_302⟩ := hm_288.obj e_281
    obtain ⟨z_303, z_304, z_305, z_306, rfl⟩ := smX6 h_302
    obtain ⟨f_308, e_307⟩ := hm_288.arrI e_276
    have u_309 := ht_290 _ _ u_278
    have e_310 := hm_288.keep (by rw [wb_116]; omega) e_277
    have u_311 := ht_290 _ _ u_279
    have hsm := hsm.tr (hm_288.mono (by decide))
    have hlp_58 := hlp_58.tr (hm_288.mono (by decide))
    have htx := htx.tr ht_290
    rcases hx_289 with ⟨rfl, k_312, p_313, ts_314, T_315, vl_316, hk_317, hk_318, hr_319, hR_320⟩ | ⟨rfl, b_321, T_315, vl_316, hr_319, hg_325, hg_326, hR_320⟩
    · obtain ⟨kc_327, cc_328, tc_329, fc_330, kb_331, cb_332, tb_333, fb_334, hp_335, hT_336, er_337, et_338, wr_339, wt_340, ec_341, uc_342, wc_343, hc_344, eb_345, ub_346, wb_347, hb_348⟩ := id hR_320
      have hp_3351 := hp_335.1
      have hp_335t := teF_le (f := f9) hp_335.1
      refine lv_istore_n (lv' := [(2, .int 0), (3, .int 0), (5, .int 1), (4, .int (nI i_52)), (1, .int 6), (0, .ref rd)]) hx hb dX4_readEither_83 rfl hl (by decide) rfl (fun ls hl => ?_)
      refine lv_iload hx hb dX4_readEither_84 (lv_at hl 2 rfl) ?_
      refine lv_if_eq (tgt := 95) hx hb dX4_readEither_86 (by decide) (fun c_349 => absurd c_349 (by decide)) (fun c_349 => ?_)
      refine lv_aload_n hx hb dX4_readEither_89 rfl (lv_at hl 5 rfl) ?_
      refine lv_bipush (v := (-2)) hx hb dX4_readEither_90 (by decide) ?_
      have hFc := free_all hD hS hA
      refine va_callv (va_runV (As := [.int (-2)]) (rest := []) ⟨hx, hb, hml, hown, hts⟩ (r_addCode l D ρ ws_286 ty_287 adK adV fo f9 rd krd tp ktp cd bb tl ts_314 T_315 nk fr (nI k_312) (nI p_313) vl_316 (2, 0, 0, 0) (-2) H.size htl hng (⟨kc_327, cc_328, tc_329, fc_330, kb_331, cb_332, tb_333, fb_334, hp_335, hT_336, er_337, et_338, wr_339, wt_340, ec_341, uc_342, wc_343, hc_344, eb_345, ub_346, wb_347, hb_348⟩ : RSX ρ ws_286 ty_287 f9 rd krd tp ktp cd bb tl ts_314 T_315 nk fr (nI k_312) (nI p_313) vl_316) rfl) (cwV 1 hts gX4_readEither_X4_addCode rfl rfl rfl (by decide +kernel) ⟨Nat.le_of_ble_eq_true rfl, Nat.le_of_ble_eq_true rfl⟩) ⟨fun a U g mk q => by obtain ⟨q0, q1, qP, qK, qD, qS⟩ := q; exact ⟨q0, q1, qP, va_K.moved (u := U) (U := U.calling g mk a) (Vm.Alike.refl U.vm) qK, qD, SZ.same rfl rfl qS⟩, va_recv hK hP (ci := 4) (q0 := krd) rfl er_337, fun U hU hW => ⟨rfl, by rw [hU], by rw [hU]; exact hP, va_K.moved hW.alike hK, hD.weaken (fun _ _ _ _ => trivial), hsz9.go hS hW hU hFc⟩⟩ rfl rfl hl.1 rfl (lv_room (Nat.le_of_ble_eq_true rfl)) dX4_readEither_92 ⟨Nat.le_of_ble_eq_true rfl, Nat.le_of_ble_eq_true rfl⟩) hS (fun q _ h => hFc q h) hFc (fun u t H1 locs ht hvm w_351 hB hz1 hk1 hS => ?_)
      obtain ⟨ws_352, ty_353, hm_354, ht_356, hP1, hK1, hD1, hx_355⟩ := hB
      rw [ht] at hP1
      have hK := va_K.moved hvm.symm hK1
      have hD := hD1.weaken (fun _ _ _ h => hFc _ h)
      generalize H1 = H at hP1 hS ⊢
      have hP := hP1
      obtain ⟨g_358, e_357, h_359⟩ := hm_354.obj er_337
      obtain ⟨z_360, z_361, z_362, z_363, z_364, z_365, rfl⟩ := smX4 h_359
      obtain ⟨g_367, e_366, h_368⟩ := hm_354.obj et_338
      obtain ⟨z_369, z_370, z_371, z_372, rfl⟩ := smX6 h_368
      obtain ⟨f_374, e_373⟩ := hm_354.arrI ec_341
      have u_375 := ht_356 _ _ uc_342
      have e_376 := hm_354.keep (by rw [wb_347]; omega) eb_345
      have u_377 := ht_356 _ _ ub_346
      have hsm := hsm.tr (hm_354.mono (by decide))
      have hlp_58 := hlp_58.tr (hm_354.mono (by decide))
      have htx := htx.tr ht_356
      rcases hx_355 with ⟨hl_378, hR_379⟩ | ⟨hl_378, hR_379⟩
      · obtain ⟨kc_380, cc_381, tc_382, fc_383, kb_384, cb_385, tb_386, fb_387, hp_388, hT_389, er_390, et_391, wr_392, wt_393, ec_394, uc_395, wc_396, hc_397, eb_398, ub_399, wb_400, hb_401⟩ := id hR_379
        have hp_3881 := hp_388.1
        have hp_388t := teF_le (f := f9) hp_388.1
        refine lv_iinc (v := nI (i_52 + 1)) (lv' := [(4, .int (nI (i_52 + 1))), (2, .int 0), (3, .int 0), (5, .int 1), (1, .int 6), (0, .ref rd)]) hx hb dX4_readEither_95 hl (k := 3) rfl (nI_add i_52 1) (by decide) rfl (fun ls hl => ?_)
        refine lv_goto (tgt := 11) hx hb dX4_readEither_98 (by decide) ?_
        exact ih_51 (i_52 + 1, 0, 0) ws_352 _ _ ls (by show 400 - (i_52 + 1) < 400 - i_52; omega) ⟨hlp_58, ⟨ty_353, hK, htx, Or.inr ⟨rfl, Or.inl rfl, (⟨k_312, p_313, _, _, _, by omega, by omega, hm9.tr hr_319, (⟨kc_380, cc_381, tc_382, fc_383, kb_384, cb_385, tb_386, fb_387, hp_388, hT_389, er_390, et_391, wr_392, wt_393, ec_394, uc_395, wc_396, hc_397, eb_398, ub_399, wb_400, hb_401⟩ : RSX ρ ws_352 ty_353 f9 rd krd tp ktp cd bb tl ts_314 (T_315 ++ [(2, 0, 0, 0)]) nk fr (nI k_312) (nI p_313) vl_316)⟩ : FLT ρ ws_352 ty_353 f9 rd krd tp ktp cd bb tl (0, ts, σ, T) nk fr)⟩⟩, (show (i_52 + 1) ≤ 400 from by omega)⟩ hP hD hS (lv_sub hl [0, 1, 2, 4, 5] rfl)
      obtain ⟨kc_402, cc_403, tc_404, fc_405, kb_406, cb_407, tb_408, fb_409, hp_410, hT_411, er_412, et_413, wr_414, wt_415, ec_416, uc_417, wc_418, hc_419, eb_420, ub_421, wb_422, hb_423⟩ := id hR_379
      have hp_4101 := hp_410.1
      have hp_410t := teF_le (f := f9) hp_410.1
      refine lv_iinc (v := nI (i_52 + 1)) (lv' := [(4, .int (nI (i_52 + 1))), (2, .int 0), (3, .int 0), (5, .int 1), (1, .int 6), (0, .ref rd)]) hx hb dX4_readEither_95 hl (k := 3) rfl (nI_add i_52 1) (by decide) rfl (fun ls hl => ?_)
      refine lv_goto (tgt := 11) hx hb dX4_readEither_98 (by decide) ?_
      exact ih_51 (i_52 + 1, 0, 0) ws_352 _ _ ls (by show 400 - (i_52 + 1) < 400 - i_52; omega) ⟨hlp_58, ⟨ty_353, hK, htx, Or.inr ⟨rfl, Or.inl rfl, (⟨k_312, p_313, _, _, _, by omega, by omega, hm9.tr hr_319, (⟨kc_402, cc_403, tc_404, fc_405, kb_406, cb_407, tb_408, fb_409, hp_410, hT_411, er_412, et_413, wr_414, wt_415, ec_416, uc_417, wc_418, hc_419, eb_420, ub_421, wb_422, hb_423⟩ : RSX ρ ws_352 ty_353 f9 rd krd tp ktp cd bb tl ts_314 T_315 nk fr (nI k_312) (nI p_313) vl_316)⟩ : FLT ρ ws_352 ty_353 f9 rd krd tp ktp cd bb tl (0, ts, σ, T) nk fr)⟩⟩, (show (i_52 + 1) ≤ 400 from by omega)⟩ hP hD hS (lv_sub hl [0, 1, 2, 4, 5] rfl)
    obtain ⟨kc_424, cc_425, tc_426, fc_427, kb_428, cb_429, tb_430, fb_431, hp_432, hT_433, er_434, et_435, wr_436, wt_437, ec_438, uc_439, wc_440, hc_441, eb_442, ub_443, wb_444, hb_445⟩ := id hR_320
    have hp_4321 := hp_432.1
    have hp_432t := teF_le (f := f9) hp_432.1
    refine lv_istore_n (lv' := [(2, .int 1), (3, .int 0), (5, .int 1), (4, .int (nI i_52)), (1, .int 6), (0, .ref rd)]) hx hb dX4_readEither_83 rfl hl (by decide) rfl (fun ls hl => ?_)
    refine lv_iload hx hb dX4_readEither_84 (lv_at hl 2 rfl) ?_
    refine lv_if_eq (tgt := 95) hx hb dX4_readEither_86 (by decide) (fun c_446 => absurd c_446 (by decide)) (fun c_446 => ?_)
    refine lv_aload_n hx hb dX4_readEither_89 rfl (lv_at hl 5 rfl) ?_
    refine lv_bipush (v := (-2)) hx hb dX4_readEither_90 (by decide) ?_
    have hFc := free_all hD hS hA
    refine va_callv (va_runV (As := [.int (-2)]) (rest := []) ⟨hx, hb, hml, hown, hts⟩ (r_addCode l D ρ ws_286 ty_287 adK adV fo f9 rd krd tp ktp cd bb tl b_321 T_315 nk fr fk fp vl_316 (2, 0, 0, 0) (-2) H.size htl hng (⟨kc_424, cc_425, tc_426, fc_427, kb_428, cb_429, tb_430, fb_431, hp_432, hT_433, er_434, et_435, wr_436, wt_437, ec_438, uc_439, wc_440, hc_441, eb_442, ub_443, wb_444, hb_445⟩ : RSX ρ ws_286 ty_287 f9 rd krd tp ktp cd bb tl b_321 T_315 nk fr fk fp vl_316) rfl) (cwV 1 hts gX4_readEither_X4_addCode rfl rfl rfl (by decide +kernel) ⟨Nat.le_of_ble_eq_true rfl, Nat.le_of_ble_eq_true rfl⟩) ⟨fun a U g mk q => by obtain ⟨q0, q1, qP, qK, qD, qS⟩ := q; exact ⟨q0, q1, qP, va_K.moved (u := U) (U := U.calling g mk a) (Vm.Alike.refl U.vm) qK, qD, SZ.same rfl rfl qS⟩, va_recv hK hP (ci := 4) (q0 := krd) rfl er_434, fun U hU hW => ⟨rfl, by rw [hU], by rw [hU]; exact hP, va_K.moved hW.alike hK, hD.weaken (fun _ _ _ _ => trivial), hsz9.go hS hW hU hFc⟩⟩ rfl rfl hl.1 rfl (lv_room (Nat.le_of_ble_eq_true rfl)) dX4_readEither_92 ⟨Nat.le_of_ble_eq_true rfl, Nat.le_of_ble_eq_true rfl⟩) hS (fun q _ h => hFc q h) hFc (fun u t H1 locs ht hvm w_448 hB hz1 hk1 hS => ?_)
    obtain ⟨ws_449, ty_450, hm_451, ht_453, hP1, hK1, hD1, hx_452⟩ := hB
    rw [ht] at hP1
    have hK := va_K.moved hvm.symm hK1
    have hD := hD1.weaken (fun _ _ _ h => hFc _ h)
    generalize H1 = H at hP1 hS ⊢
    have hP := hP1
    obtain ⟨g_455, e_454, h_456⟩ := hm_451.obj er_434
    obtain ⟨z_457, z_458, z_459, z_460, z_461, z_462, rfl⟩ := smX4 h_456
    obtain ⟨g_464, e_463, h_465⟩ := hm_451.obj et_435
    obtain ⟨z_466, z_467, z_468, z_469, rfl⟩ := smX6 h_465
    obtain ⟨f_471, e_470⟩ := hm_451.arrI ec_438
    have u_472 := ht_453 _ _ uc_439
    have e_473 := hm_451.keep (by rw [wb_444]; omega) eb_442
    have u_474 := ht_453 _ _ ub_443
    have hsm := hsm.tr (hm_451.mono (by decide))
    have hlp_58 := hlp_58.tr (hm_451.mono (by decide))
    have htx := htx.tr ht_453
    obtain ⟨hl_475, hR_476⟩ := hx_452.resolve_right (fun h9 => h9.1 (by omega))
    obtain ⟨kc_477, cc_478, tc_479, fc_480, kb_481, cb_482, tb_483, fb_484, hp_485, hT_486, er_487, et_488, wr_489, wt_490, ec_491, uc_492, wc_493, hc_494, eb_495, ub_496, wb_497, hb_498⟩ := id hR_476
    have hp_4851 := hp_485.1
    have hp_485t := teF_le (f := f9) hp_485.1
    refine lv_iinc (v := nI (i_52 + 1)) (lv' := [(4, .int (nI (i_52 + 1))), (2, .int 1), (3, .int 0), (5, .int 1), (1, .int 6), (0, .ref rd)]) hx hb dX4_readEither_95 hl (k := 3) rfl (nI_add i_52 1) (by decide) rfl (fun ls hl => ?_)
    refine lv_goto (tgt := 11) hx hb dX4_readEither_98 (by decide) ?_
    exact ih_51 (i_52 + 1, 1, 0) ws_449 _ _ ls (by show 400 - (i_52 + 1) < 400 - i_52; omega) ⟨hlp_58, ⟨ty_450, hK, htx, Or.inl ⟨rfl, Or.inl rfl, (⟨b_321, 2 :: jA ta_82, T_315, _, hm9.tr (rch_an (by omega) hr_319), ow_and hbs ow_86, by omega, fun h9 => absurd h9 (by decide), fun _ => by rw [eA_2jA, len_a1]; omega, by rw [eA_2jA]; exact (⟨kc_477, cc_478, tc_479, fc_480, kb_481, cb_482, tb_483, fb_484, hp_485, hT_486, er_487, et_488, wr_489, wt_490, ec_491, uc_492, wc_493, hc_494, eb_495, ub_496, wb_497, hb_498⟩ : RSX ρ ws_449 ty_450 f9 rd krd tp ktp cd bb tl b_321 (T_315 ++ [(2, 0, 0, 0)]) nk fr fk fp vl_316)⟩ : LPE ρ ws_449 ty_450 f9 rd krd tp ktp cd bb tl ts σ T nk fr fk fp (i_52 + 1) 0)⟩⟩, (show (i_52 + 1) ≤ 400 from by omega)⟩ hP hD hS (lv_sub hl [0, 1, 2, 4, 5] rfl)
  · have ga_88 := ga_88 rfl
    obtain ⟨kc_499, cc_500, tc_501, fc_502, kb_503, cb_504, tb_505, fb_506, hp_507, hT_508, er_509, et_510, wr_511, wt_512, ec_513, uc_514, wc_515, hc_516, eb_517, ub_518, wb_519, hb_520⟩ := id hR_90
    have hp_5071 := hp_507.1
    have hp_507t := teF_le (f := f9) hp_507.1
    refine lv_sipush (v := 400) hx hb dX4_readEither_13 (by decide) ?_
    refine lv_icmp_ge (tgt := 101) hx hb dX4_readEither_16 (by decide) (fun c_521 => ?_) (fun c_521 => ?_)
    · have d_522 := n_le (a := 400) (b := i_52) (by omega) (by omega) c_521
      refine lv_iload_n hx hb dX4_readEither_101 rfl (lv_at hl 2 rfl) ?_
      refine lv_if_eq (tgt := 111) hx hb dX4_readEither_102 (by decide) (fun c_523 => absurd c_523 (by decide)) (fun c_523 => ?_)
      refine lv_aload_n hx hb dX4_readEither_105 rfl (lv_at hl 4 rfl) ?_
      refine lv_bipush (v := (-3)) hx hb dX4_readEither_106 (by decide) ?_
      have hFc := free_all hD hS hA
      refine va_callv (va_runV (As := [.int (-3)]) (rest := []) ⟨hx, hb, hml, hown, hts⟩ (r_addCode l D ρ ws_56 ty_79 adK adV fo f9 rd krd tp ktp cd bb tl b_81 (T_83 ++ eA ta_82) nk fr fk fp vl_84 (1, 0, 0, 0) (-3) H.size htl hng (⟨kc_499, cc_500, tc_501, fc_502, kb_503, cb_504, tb_505, fb_506, hp_507, hT_508, er_509, et_510, wr_511, wt_512, ec_513, uc_514, wc_515, hc_516, eb_517, ub_518, wb_519, hb_520⟩ : RSX ρ ws_56 ty_79 f9 rd krd tp ktp cd bb tl b_81 (T_83 ++ eA ta_82) nk fr fk fp vl_84) rfl) (cwV 1 hts gX4_readEither_X4_addCode rfl rfl rfl (by decide +kernel) ⟨Nat.le_of_ble_eq_true rfl, Nat.le_of_ble_eq_true rfl⟩) ⟨fun a U g mk q => by obtain ⟨q0, q1, qP, qK, qD, qS⟩ := q; exact ⟨q0, q1, qP, va_K.moved (u := U) (U := U.calling g mk a) (Vm.Alike.refl U.vm) qK, qD, SZ.same rfl rfl qS⟩, va_recv hK hP (ci := 4) (q0 := krd) rfl er_509, fun U hU hW => ⟨rfl, by rw [hU], by rw [hU]; exact hP, va_K.moved hW.alike hK, hD.weaken (fun _ _ _ _ => trivial), hsz9.go hS hW hU hFc⟩⟩ rfl rfl hl.1 rfl (lv_room (Nat.le_of_ble_eq_true rfl)) dX4_readEither_108 ⟨Nat.le_of_ble_eq_true rfl, Nat.le_of_ble_eq_true rfl⟩) hS (fun q _ h => hFc q h) hFc (fun u t H1 locs ht hvm w_525 hB hz1 hk1 hS => ?_)
      obtain ⟨ws_526, ty_527, hm_528, ht_530, hP1, hK1, hD1, hx_529⟩ := hB
      rw [ht] at hP1
      have hK := va_K.moved hvm.symm hK1
      have hD := hD1.weaken (fun _ _ _ h => hFc _ h)
      generalize H1 = H at hP1 hS ⊢
      have hP := hP1
      obtain ⟨g_532, e_531, h_533⟩ := hm_528.obj er_509
      obtain ⟨z_534, z_535, z_536, z_537, z_538, z_539, rfl⟩ := smX4 h_533
      obtain ⟨g_541, e_540, h_542⟩ := hm_528.obj et_510
      obtain ⟨z_543, z_544, z_545, z_546, rfl⟩ := smX6 h_542
      obtain ⟨f_548, e_547⟩ := hm_528.arrI ec_513
      have u_549 := ht_530 _ _ uc_514
      have e_550 := hm_528.keep (by rw [wb_519]; omega) eb_517
      have u_551 := ht_530 _ _ ub_518
      have hsm := hsm.tr (hm_528.mono (by decide))
      have hlp_58 := hlp_58.tr (hm_528.mono (by decide))
      have htx := htx.tr ht_530
      rcases hx_529 with ⟨hl_552, hR_553⟩ | ⟨hl_552, hR_553⟩
      · obtain ⟨kc_554, cc_555, tc_556, fc_557, kb_558, cb_559, tb_560, fb_561, hp_562, hT_563, er_564, et_565, wr_566, wt_567, ec_568, uc_569, wc_570, hc_571, eb_572, ub_573, wb_574, hb_575⟩ := id hR_553
        have hp_5621 := hp_562.1
        have hp_562t := teF_le (f := f9) hp_562.1
        refine lv_iload_n hx hb dX4_readEither_111 rfl (lv_at hl 1 rfl) ?_
        exact W.zret (v := 1) hx hb hr rfl (fun t ht hW => ⟨⟨1, 1, rfl, rfl, ws_526, ty_527, hsm, htx, by rw [ht]; exact hP, va_K.moved hW.alike hK, hD, (by exfalso; omega)⟩, hS.F ht⟩) hS.2.2 dX4_readEither_112
      obtain ⟨kc_576, cc_577, tc_578, fc_579, kb_580, cb_581, tb_582, fb_583, hp_584, hT_585, er_586, et_587, wr_588, wt_589, ec_590, uc_591, wc_592, hc_593, eb_594, ub_595, wb_596, hb_597⟩ := id hR_553
      have hp_5841 := hp_584.1
      have hp_584t := teF_le (f := f9) hp_584.1
      refine lv_iload_n hx hb dX4_readEither_111 rfl (lv_at hl 1 rfl) ?_
      exact W.zret (v := 1) hx hb hr rfl (fun t ht hW => ⟨⟨1, 1, rfl, rfl, ws_526, ty_527, hsm, htx, by rw [ht]; exact hP, va_K.moved hW.alike hK, hD, (by exfalso; omega)⟩, hS.F ht⟩) hS.2.2 dX4_readEither_112
    have d_598 := n_nle (a := 400) (b := i_52) (by omega) (by omega) c_521
    refine lv_iload_n hx hb dX4_readEither_19 rfl (lv_at hl 1 rfl) ?_
    refine lv_if_eq (tgt := 101) hx hb dX4_readEither_20 (by decide) (fun c_599 => absurd c_599 (by decide)) (fun c_599 => ?_)
    refine lv_aload_n hx hb dX4_readEither_23 rfl (lv_at hl 4 rfl) ?_
    have hFc := free_all hD hS hA
    refine va_calli (va_runV (As := []) (rest := []) ⟨hx, hb, hml, hown, hts⟩ (r_isAndOr l D (rz []) ws_56 ty_79 adK adV fo f9 rd krd tp ktp cd tl b_81 nk fr fk fp (nI (T_83 ++ eA ta_82).length) vl_84 bb kb_503 cb_504 tb_505 fb_506 H.size er_509 htl hb_520 hng hp_507 et_510 eb_517 ub_518 rz_o0) (cwV 0 hts gX4_readEither_X4_isAndOr rfl rfl rfl (by decide +kernel) ⟨Nat.le_of_ble_eq_true rfl, Nat.le_of_ble_eq_true rfl⟩) ⟨fun a U g mk q => by obtain ⟨q0, q1, qP, qK, qD, qS⟩ := q; exact ⟨q0, q1, qP, va_K.moved (u := U) (U := U.calling g mk a) (Vm.Alike.refl U.vm) qK, qD, SZ.same rfl rfl qS⟩, va_recv hK hP (ci := 4) (q0 := krd) rfl er_509, fun U hU hW => ⟨rfl, by rw [hU], by rw [hU]; exact hP, va_K.moved hW.alike hK, hD.weaken (fun _ _ _ _ => trivial), hsz9.go hS hW hU hFc⟩⟩ rfl rfl hl.1 rfl (lv_room (Nat.le_of_ble_eq_true rfl)) dX4_readEither_24 ⟨Nat.le_of_ble_eq_true rfl, Nat.le_of_ble_eq_true rfl⟩) hS (fun q _ h => hFc q h) hFc (fun r_600 u t H1 locs ht hvm w_601 hB hz1 hk1 hS => ?_)
    obtain ⟨ws_602, ty_603, hm_604, ht_606, hP1, hK1, hD1, hx_605⟩ := hB
    rw [ht] at hP1
    have hK := va_K.moved hvm.symm hK1
    have hD := hD1.weaken (fun _ _ _ h => hFc _ h)
    generalize H1 = H at hP1 hS ⊢
    have hP := hP1
    have e_607 := hm_604.keep rz_o0 er_509
    have e_608 := hm_604.keep rz_o0 et_510
    have e_609 := hm_604.keep rz_o0 ec_513
    have e_610 := hm_604.keep rz_o0 eb_517
    have u_611 := ht_606 _ _ uc_514
    have u_612 := ht_606 _ _ ub_518
    have hm_613 : sm ρ [] ws_56 ws_602 := hm_604.up (fun k _ h => rz_u0  k h)
    have hsm := hsm.tr (hm_613.mono (by decide))
    have hlp_58 := hlp_58.tr (hm_613.mono (by decide))
    have htx := htx.tr ht_606
    rcases w_601 with ⟨rfl, ao_614⟩ | ⟨rfl, ao_614⟩
    · refine lv_if_eq (tgt := 101) hx hb dX4_readEither_27 (by decide) (fun c_615 => ?_) (fun c_615 => absurd (by decide) c_615)
      refine lv_iload_n hx hb dX4_readEither_101 rfl (lv_at hl 2 rfl) ?_
      refine lv_if_eq (tgt := 111) hx hb dX4_readEither_102 (by decide) (fun c_616 => absurd c_616 (by decide)) (fun c_616 => ?_)
      refine lv_aload_n hx hb dX4_readEither_105 rfl (lv_at hl 4 rfl) ?_
      refine lv_bipush (v := (-3)) hx hb dX4_readEither_106 (by decide) ?_
      have hFc := free_all hD hS hA
      refine va_callv (va_runV (As := [.int (-3)]) (rest := []) ⟨hx, hb, hml, hown, hts⟩ (r_addCode l D ρ ws_602 ty_603 adK adV fo f9 rd krd tp ktp cd bb tl b_81 (T_83 ++ eA ta_82) nk fr fk fp vl_84 (1, 0, 0, 0) (-3) H.size htl hng (⟨kc_499, cc_500, tc_501, fc_502, kb_503, cb_504, tb_505, fb_506, hp_507, hT_508, e_607, e_608, wr_511, wt_512, e_609, u_611, wc_515, hc_516, e_610, u_612, wb_519, hb_520⟩ : RSX ρ ws_602 ty_603 f9 rd krd tp ktp cd bb tl b_81 (T_83 ++ eA ta_82) nk fr fk fp vl_84) rfl) (cwV 1 hts gX4_readEither_X4_addCode rfl rfl rfl (by decide +kernel) ⟨Nat.le_of_ble_eq_true rfl, Nat.le_of_ble_eq_true rfl⟩) ⟨fun a U g mk q => by obtain ⟨q0, q1, qP, qK, qD, qS⟩ := q; exact ⟨q0, q1, qP, va_K.moved (u := U) (U := U.calling g mk a) (Vm.Alike.refl U.vm) qK, qD, SZ.same rfl rfl qS⟩, va_recv hK hP (ci := 4) (q0 := krd) rfl e_607, fun U hU hW => ⟨rfl, by rw [hU], by rw [hU]; exact hP, va_K.moved hW.alike hK, hD.weaken (fun _ _ _ _ => trivial), hsz9.go hS hW hU hFc⟩⟩ rfl rfl hl.1 rfl (lv_room (Nat.le_of_ble_eq_true rfl)) dX4_readEither_108 ⟨Nat.le_of_ble_eq_true rfl, Nat.le_of_ble_eq_true rfl⟩) hS (fun q _ h => hFc q h) hFc (fun u t H1 locs ht hvm w_618 hB hz1 hk1 hS => ?_)
      obtain ⟨ws_619, ty_620, hm_621, ht_623, hP1, hK1, hD1, hx_622⟩ := hB
      rw [ht] at hP1
      have hK := va_K.moved hvm.symm hK1
      have hD := hD1.weaken (fun _ _ _ h => hFc _ h)
      generalize H1 = H at hP1 hS ⊢
      have hP := hP1
      obtain ⟨g_625, e_624, h_626⟩ := hm_621.obj e_607
      obtain ⟨z_627, z_628, z_629, z_630, z_631, z_632, rfl⟩ := smX4 h_626
      obtain ⟨g_634, e_633, h_635⟩ := hm_621.obj e_608
      obtain ⟨z_636, z_637, z_638, z_639, rfl⟩ := smX6 h_635
      obtain ⟨f_641, e_640⟩ := hm_621.arrI e_609
      have u_642 := ht_623 _ _ u_611
      have e_643 := hm_621.keep (by rw [wb_519]; omega) e_610
      have u_644 := ht_623 _ _ u_612
      have hsm := hsm.tr (hm_621.mono (by decide))
      have hlp_58 := hlp_58.tr (hm_621.mono (by decide))
      have htx := htx.tr ht_623
      obtain ⟨hl_645, hR_646⟩ := hx_622.resolve_right (fun h9 => h9.1 (by omega))
      obtain ⟨kc_647, cc_648, tc_649, fc_650, kb_651, cb_652, tb_653, fb_654, hp_655, hT_656, er_657, et_658, wr_659, wt_660, ec_661, uc_662, wc_663, hc_664, eb_665, ub_666, wb_667, hb_668⟩ := id hR_646
      have hp_6551 := hp_655.1
      have hp_655t := teF_le (f := f9) hp_655.1
      refine lv_iload_n hx hb dX4_readEither_111 rfl (lv_at hl 1 rfl) ?_
      exact W.zret (v := 1) hx hb hr rfl (fun t ht hW => ⟨⟨1, 1, rfl, rfl, ws_619, ty_620, hsm, htx, by rw [ht]; exact hP, va_K.moved hW.alike hK, hD, Or.inr ⟨rfl, b_81, ta_82, T_83, _, hr_85, ow_jO hbs ow_86, ao_614, by omega, by rw [(ow_eO hbs ow_86).2 rfl, ← List.append_assoc, len_a1]; omega, by rw [(ow_eO hbs ow_86).2 rfl, ← List.append_assoc]; exact (⟨kc_647, cc_648, tc_649, fc_650, kb_651, cb_652, tb_653, fb_654, hp_655, hT_656, er_657, et_658, wr_659, wt_660, ec_661, uc_662, wc_663, hc_664, eb_665, ub_666, wb_667, hb_668⟩ : RSX ρ ws_619 ty_620 f9 rd krd tp ktp cd bb tl b_81 ((T_83 ++ eA ta_82) ++ [(1, 0, 0, 0)]) nk fr fk fp vl_84)⟩⟩, hS.F ht⟩) hS.2.2 dX4_readEither_112
    refine lv_if_eq (tgt := 101) hx hb dX4_readEither_27 (by decide) (fun c_669 => absurd c_669 (by decide)) (fun c_669 => ?_)
    refine lv_aload_n hx hb dX4_readEither_30 rfl (lv_at hl 4 rfl) ?_
    refine va_get (D := D) (ci := 4) (v := .ref tp) (C := RX4) (T := TX4) (N := 8) hx hb hts hin4 hown hK hP krd e_607 rfl 0 (by decide) (hts (.fieldLink RX4 12 "HoneyHouse$RuleReader" "tape" "LHoneyHouse$Tape;") (List.mem_of_getElem? (i := 1) rfl)) (fun _ h9 => h9) rfl dX4_readEither_31 ?_
    refine va_ldcS hx hb hown hsz9.2.2.2.2.2.1 dX4_readEither_34 ?_
    have hFc := free_all hD hS hA
    refine va_calli (va_runV (As := [.ref (adK 2)]) (rest := []) ⟨hx, hb, hml, hown, hts⟩ (a_isWord l D (rz []) ws_602 ty_603 adK adV fo 2 f9 tp ktp tl b_81 bb kb_503 cb_504 tb_505 fb_506 H.size (by decide) htl hb_520 hng hp_507 e_608 e_610 u_612 rz_o0) (cwV 1 hts gX4_readEither_X6_isWord rfl rfl rfl (by decide +kernel) ⟨Nat.le_of_ble_eq_true rfl, Nat.le_of_ble_eq_true rfl⟩) ⟨fun a U g mk q => by obtain ⟨q0, q1, qP, qK, qD, qS⟩ := q; exact ⟨q0, q1, qP, va_K.moved (u := U) (U := U.calling g mk a) (Vm.Alike.refl U.vm) qK, qD, SZ.same rfl rfl qS⟩, va_recv hK hP (ci := 6) (q0 := ktp) rfl e_608, fun U hU hW => ⟨rfl, by rw [hU], by rw [hU]; exact hP, va_K.moved hW.alike hK, hD.weaken (fun _ _ _ _ => trivial), hsz9.go hS hW hU hFc⟩⟩ rfl rfl hl.1 rfl (lv_room (Nat.le_of_ble_eq_true rfl)) dX4_readEither_36 ⟨Nat.le_of_ble_eq_true rfl, Nat.le_of_ble_eq_true rfl⟩) hS (fun q _ h => hFc q h) hFc (fun r_670 u t H1 locs ht hvm w_671 hB hz1 hk1 hS => ?_)
    obtain ⟨ws_672, ty_673, hm_674, ht_676, hP1, hK1, hD1, hx_675⟩ := hB
    rw [ht] at hP1
    have hK := va_K.moved hvm.symm hK1
    have hD := hD1.weaken (fun _ _ _ h => hFc _ h)
    generalize H1 = H at hP1 hS ⊢
    have hP := hP1
    have e_677 := hm_674.keep rz_o0 e_607
    have e_678 := hm_674.keep rz_o0 e_608
    have e_679 := hm_674.keep rz_o0 e_609
    have e_680 := hm_674.keep rz_o0 e_610
    have u_681 := ht_676 _ _ u_611
    have u_682 := ht_676 _ _ u_612
    have hm_683 : sm ρ [] ws_602 ws_672 := hm_674.up (fun k _ h => rz_u0  k h)
    have hsm := hsm.tr (hm_683.mono (by decide))
    have hlp_58 := hlp_58.tr (hm_683.mono (by decide))
    have htx := htx.tr ht_676
    rcases w_671 with ⟨rfl, iw_684⟩ | ⟨rfl, iw_684⟩
    · have iw_684 : ¬ wdE f9 tl b_81 = 2 := iw_684
      refine lv_istore (lv' := [(5, .int 0), (4, .int (nI i_52)), (2, .int 1), (3, .int 1), (1, .int 6), (0, .ref rd)]) hx hb dX4_readEither_39 hl (by decide) rfl (fun ls hl => ?_)
      refine lv_iload hx hb dX4_readEither_41 (lv_at hl 0 rfl) ?_
      refine lv_if_ne (tgt := 56) hx hb dX4_readEither_43 (by decide) (fun c_685 => absurd (by decide) c_685) (fun c_685 => ?_)
      refine lv_iload_n hx hb dX4_readEither_46 rfl (lv_at hl 3 rfl) ?_
      refine lv_if_eq (tgt := 56) hx hb dX4_readEither_47 (by decide) (fun c_686 => absurd c_686 (by decide)) (fun c_686 => ?_)
      refine lv_aload_n hx hb dX4_readEither_50 rfl (lv_at hl 5 rfl) ?_
      refine lv_bipush (v := (-3)) hx hb dX4_readEither_51 (by decide) ?_
      have hFc := free_all hD hS hA
      refine va_callv (va_runV (As := [.int (-3)]) (rest := []) ⟨hx, hb, hml, hown, hts⟩ (r_addCode l D ρ ws_672 ty_673 adK adV fo f9 rd krd tp ktp cd bb tl b_81 (T_83 ++ eA ta_82) nk fr fk fp vl_84 (1, 0, 0, 0) (-3) H.size htl hng (⟨kc_499, cc_500, tc_501, fc_502, kb_503, cb_504, tb_505, fb_506, hp_507, hT_508, e_677, e_678, wr_511, wt_512, e_679, u_681, wc_515, hc_516, e_680, u_682, wb_519, hb_520⟩ : RSX ρ ws_672 ty_673 f9 rd krd tp ktp cd bb tl b_81 (T_83 ++ eA ta_82) nk fr fk fp vl_84) rfl) (cwV 1 hts gX4_readEither_X4_addCode rfl rfl rfl (by decide +kernel) ⟨Nat.le_of_ble_eq_true rfl, Nat.le_of_ble_eq_true rfl⟩) ⟨fun a U g mk q => by obtain ⟨q0, q1, qP, qK, qD, qS⟩ := q; exact ⟨q0, q1, qP, va_K.moved (u := U) (U := U.calling g mk a) (Vm.Alike.refl U.vm) qK, qD, SZ.same rfl rfl qS⟩, va_recv hK hP (ci := 4) (q0 := krd) rfl e_677, fun U hU hW => ⟨rfl, by rw [hU], by rw [hU]; exact hP, va_K.moved hW.alike hK, hD.weaken (fun _ _ _ _ => trivial), hsz9.go hS hW hU hFc⟩⟩ rfl rfl hl.1 rfl (lv_room (Nat.le_of_ble_eq_true rfl)) dX4_readEither_53 ⟨Nat.le_of_ble_eq_true rfl, Nat.le_of_ble_eq_true rfl⟩) hS (fun q _ h => hFc q h) hFc (fun u t H1 locs ht hvm w_688 hB hz1 hk1 hS => ?_)
      obtain ⟨ws_689, ty_690, hm_691, ht_693, hP1, hK1, hD1, hx_692⟩ := hB
      rw [ht] at hP1
      have hK := va_K.moved hvm.symm hK1
      have hD := hD1.weaken (fun _ _ _ h => hFc _ h)
      generalize H1 = H at hP1 hS ⊢
      have hP := hP1
      obtain ⟨g_695, e_694, h_696⟩ := hm_691.obj e_677
      obtain ⟨z_697, z_698, z_699, z_700, z_701, z_702, rfl⟩ := smX4 h_696
      obtain ⟨g_704, e_703, h_705⟩ := hm_691.obj e_678
      obtain ⟨z_706, z_707, z_708, z_709, rfl⟩ := smX6 h_705
      obtain ⟨f_711, e_710⟩ := hm_691.arrI e_679
      have u_712 := ht_693 _ _ u_681
      have e_713 := hm_691.keep (by rw [wb_519]; omega) e_680
      have u_714 := ht_693 _ _ u_682
      have hsm := hsm.tr (hm_691.mono (by decide))
      have hlp_58 := hlp_58.tr (hm_691.mono (by decide))
      have htx := htx.tr ht_693
      obtain ⟨hl_715, hR_716⟩ := hx_692.resolve_right (fun h9 => h9.1 (by omega))
      obtain ⟨kc_717, cc_718, tc_719, fc_720, kb_721, cb_722, tb_723, fb_724, hp_725, hT_726, er_727, et_728, wr_729, wt_730, ec_731, uc_732, wc_733, hc_734, eb_735, ub_736, wb_737, hb_738⟩ := id hR_716
      have hp_7251 := hp_725.1
      have hp_725t := teF_le (f := f9) hp_725.1
      refine lv_iload_n hx hb dX4_readEither_56 rfl (lv_at hl 3 rfl) ?_
      refine lv_if_ne (tgt := 65) hx hb dX4_readEither_57 (by decide) (fun c_739 => ?_) (fun c_739 => absurd c_739 (by decide))
      refine lv_iconst (v := 1) hx hb dX4_readEither_65 (by decide) ?_
      refine lv_goto (tgt := 70) hx hb dX4_readEither_66 (by decide) ?_
      refine lv_istore_n (lv' := [(3, .int 1), (5, .int 0), (4, .int (nI i_52)), (2, .int 1), (1, .int 6), (0, .ref rd)]) hx hb dX4_readEither_70 rfl hl (by decide) rfl (fun ls hl => ?_)
      have hw1 : wdE f9 tl b_81 = 1 := by omega
      have hw9 : b_81 + 2 ≤ nxF f9 tl b_81 ∧ nxF f9 tl b_81 ≤ tl := nx_wd hp_725.1 (j := 1) (by omega) hw1
      have hm9 : Rch f9 tl (0, ts, σ, T) (0, nxF f9 tl b_81, 1 :: σ, (T_83 ++ eA ta_82) ++ [(1, 0, 0, 0)]) := by have h9 := hr_85.st (st_or hw1); rw [ow_jO hbs ow_86, (ow_eO hbs ow_86).2 rfl, ← List.append_assoc] at h9; exact h9
      have hdq : dep (1 :: σ) = dep σ := dep_n _ (by omega)
      have hl9 := len_a1 (T_83 ++ eA ta_82) ((1, 0, 0, 0) : Tk)
      refine lv_aload_n hx hb dX4_readEither_71 rfl (lv_at hl 5 rfl) ?_
      refine va_get (D := D) (ci := 4) (v := .ref tp) (C := RX4) (T := TX4) (N := 8) hx hb hts hin4 hown hK hP krd er_727 rfl 0 (by decide) (hts (.fieldLink RX4 12 "HoneyHouse$RuleReader" "tape" "LHoneyHouse$Tape;") (List.mem_of_getElem? (i := 1) rfl)) (fun _ h9 => h9) rfl dX4_readEither_72 ?_
      have hFc := free_all hD hS hA
      refine va_callv (va_runV (As := []) (rest := []) ⟨hx, hb, hml, hown, hts⟩ (a_advance l D (rz [ktp]) ws_689 ty_690 f9 tp ktp tl (teF f9 tl b_81) (nI (kdF f9 tl b_81)) (nI b_81) bb kb_721 cb_722 tb_723 fb_724 H.size htl hb_738 hng (by omega) et_728 eb_735 ub_736 (rz_o1 (pl_ne eb_735 et_728 (by intro h9; simp at h9))) (rz_in (by simp))) (cwV 0 hts gX4_readEither_X6_advance rfl rfl rfl (by decide +kernel) ⟨Nat.le_of_ble_eq_true rfl, Nat.le_of_ble_eq_true rfl⟩) ⟨fun a U g mk q => by obtain ⟨q0, q1, qP, qK, qD⟩ := q; exact ⟨q0, q1, qP, va_K.moved (u := U) (U := U.calling g mk a) (Vm.Alike.refl U.vm) qK, qD⟩, va_recv hK hP (ci := 6) (q0 := ktp) rfl et_728, fun U hU hW => ⟨rfl, by rw [hU], by rw [hU]; exact hP, va_K.moved hW.alike hK, hD.weaken (fun _ _ _ _ => trivial)⟩⟩ rfl rfl hl.1 rfl (lv_room (Nat.le_of_ble_eq_true rfl)) dX4_readEither_75 ⟨Nat.le_of_ble_eq_true rfl, Nat.le_of_ble_eq_true rfl⟩) hS (fun q _ h => hFc q h) hFc (fun u t H1 locs ht hvm w_741 hB hz1 hk1 hS => ?_)
      obtain ⟨ws_742, ty_743, hm_744, ht_746, hP1, hK1, hD1, hx_745⟩ := hB
      rw [ht] at hP1
      have hK := va_K.moved hvm.symm hK1
      have hD := hD1.weaken (fun _ _ _ h => hFc _ h)
      generalize H1 = H at hP1 hS ⊢
      have hP := hP1
      have e_747 := hm_744.keep (rz_o1 (pl_ne er_727 et_728 (by intro h9; simp at h9))) er_727
      have e_748 := hm_744.keep (rz_o1 (pl_ne ec_731 et_728 (by intro h9; simp at h9))) ec_731
      have e_749 := hm_744.keep (rz_o1 (pl_ne eb_735 et_728 (by intro h9; simp at h9))) eb_735
      have u_750 := ht_746 _ _ uc_732
      have u_751 := ht_746 _ _ ub_736
      have hm_752 : sm ρ [6] ws_689 ws_742 := hm_744.up (fun k _ h => rz_u1 wt_730 k h)
      have hsm := hsm.tr (hm_752.mono (by decide))
      have hlp_58 := hlp_58.tr (hm_752.mono (by decide))
      have htx := htx.tr ht_746
      have e_753 : ws_742[ktp]? = some (tp, .inr (6, [.int (nI tl), .int (nI (kdF f9 tl (nxF f9 tl b_81))), .int (nI (nxF f9 tl b_81)), .int (nI (teF f9 tl (nxF f9 tl b_81))), .ref bb])) := hx_745; have hq_754 : pcB f9 tl (nxF f9 tl b_81) := nxF_pc (f := f9) hp_725.1; have hq_7541 := hq_754.1; have hq_754t := teF_le (f := f9) hq_754.1; have hg_755 := nx_gain (f := f9) hp_725.1
      refine lv_aload_n hx hb dX4_readEither_78 rfl (lv_at hl 5 rfl) ?_
      refine lv_iload_n hx hb dX4_readEither_79 rfl (lv_at hl 4 rfl) ?_
      have hFc := free_all hD hS hA
      refine va_calli (va_runV (As := [.int 6]) (rest := []) ⟨hx, hb, hml, hown, hts⟩ (r_readOne6 l D ρ ws_742 ty_743 adK adV fo f9 rd krd tp ktp cd bb tl (nxF f9 tl b_81) ((T_83 ++ eA ta_82) ++ [(1, 0, 0, 0)]) nk fr fk fp vl_84 (1 :: σ) H.size htl hng (⟨kc_717, cc_718, tc_719, fc_720, kb_721, cb_722, tb_723, fb_724, hq_754, hT_726, e_747, e_753, wr_729, wt_730, e_748, u_750, wc_733, hc_734, e_749, u_751, wb_737, hb_738⟩ : RSX ρ ws_742 ty_743 f9 rd krd tp ktp cd bb tl (nxF f9 tl b_81) ((T_83 ++ eA ta_82) ++ [(1, 0, 0, 0)]) nk fr fk fp vl_84) (hdq.trans hdp) (by omega)) (cwV 1 hts gX4_readEither_X4_readOne rfl rfl rfl (by decide +kernel) ⟨Nat.le_of_ble_eq_true rfl, Nat.le_of_ble_eq_true rfl⟩) ⟨fun a U g mk q => by obtain ⟨q0, q1, qP, qK, qD, qS⟩ := q; exact ⟨q0, q1, qP, va_K.moved (u := U) (U := U.calling g mk a) (Vm.Alike.refl U.vm) qK, qD, SZ.same rfl rfl qS⟩, va_recv hK hP (ci := 4) (q0 := krd) rfl e_747, fun U hU hW => ⟨rfl, by rw [hU], by rw [hU]; exact hP, va_K.moved hW.alike hK, hD.weaken (fun _ _ _ _ => trivial), hsz9.go hS hW hU hFc⟩⟩ rfl rfl hl.1 rfl (lv_room (Nat.le_of_ble_eq_true rfl)) dX4_readEither_80 ⟨Nat.le_of_ble_eq_true rfl, Nat.le_of_ble_eq_true rfl⟩) hS (fun q _ h => hFc q h) hFc (fun r_756 u t H1 locs ht hvm w_757 hB hz1 hk1 hS => ?_)
      subst w_757
      obtain ⟨ws_758, ty_759, hm_760, ht_762, hP1, hK1, hD1, hx_761⟩ := hB
      rw [ht] at hP1
      have hK := va_K.moved hvm.symm hK1
      have hD := hD1.weaken (fun _ _ _ h => hFc _ h)
      generalize H1 = H at hP1 hS ⊢
      have hP := hP1
      obtain ⟨g_764, e_763, h_765⟩ := hm_760.obj e_747
      obtain ⟨z_766, z_767, z_768, z_769, z_770, z_771, rfl⟩ := smX4 h_765
      obtain ⟨g_773, e_772, h_774⟩ := hm_760.obj e_753
      obtain ⟨z_775, z_776, z_777, z_778, rfl⟩ := smX6 h_774
      obtain ⟨f_780, e_779⟩ := hm_760.arrI e_748
      have u_781 := ht_762 _ _ u_750
      have e_782 := hm_760.keep (by rw [wb_737]; omega) e_749
      have u_783 := ht_762 _ _ u_751
      have hsm := hsm.tr (hm_760.mono (by decide))
      have hlp_58 := hlp_58.tr (hm_760.mono (by decide))
      have htx := htx.tr ht_762
      rcases hx_761 with ⟨rfl, k_784, p_785, ts_786, T_787, vl_788, hk_789, hk_790, hr_791, hR_792⟩ | ⟨rfl, b_793, T_787, vl_788, hr_791, hg_797, hg_798, hR_792⟩
      · obtain ⟨kc_799, cc_800, tc_801, fc_802, kb_803, cb_804, tb_805, fb_806, hp_807, hT_808, er_809, et_810, wr_811, wt_812, ec_813, uc_814, wc_815, hc_816, eb_817, ub_818, wb_819, hb_820⟩ := id hR_792
        have hp_8071 := hp_807.1
        have hp_807t := teF_le (f := f9) hp_807.1
        refine lv_istore_n (lv' := [(2, .int 0), (3, .int 1), (5, .int 0), (4, .int (nI i_52)), (1, .int 6), (0, .ref rd)]) hx hb dX4_readEither_83 rfl hl (by decide) rfl (fun ls hl => ?_)
        refine lv_iload hx hb dX4_readEither_84 (lv_at hl 2 rfl) ?_
        refine lv_if_eq (tgt := 95) hx hb dX4_readEither_86 (by decide) (fun c_821 => ?_) (fun c_821 => absurd (by decide) c_821)
        refine lv_iinc (v := nI (i_52 + 1)) (lv' := [(4, .int (nI (i_52 + 1))), (2, .int 0), (3, .int 1), (5, .int 0), (1, .int 6), (0, .ref rd)]) hx hb dX4_readEither_95 hl (k := 3) rfl (nI_add i_52 1) (by decide) rfl (fun ls hl => ?_)
        refine lv_goto (tgt := 11) hx hb dX4_readEither_98 (by decide) ?_
        exact ih_51 (i_52 + 1, 0, 1) ws_758 _ _ ls (by show 400 - (i_52 + 1) < 400 - i_52; omega) ⟨hlp_58, ⟨ty_759, hK, htx, Or.inr ⟨rfl, Or.inr rfl, (⟨k_784, p_785, _, _, _, by omega, by omega, hm9.tr hr_791, (⟨kc_799, cc_800, tc_801, fc_802, kb_803, cb_804, tb_805, fb_806, hp_807, hT_808, er_809, et_810, wr_811, wt_812, ec_813, uc_814, wc_815, hc_816, eb_817, ub_818, wb_819, hb_820⟩ : RSX ρ ws_758 ty_759 f9 rd krd tp ktp cd bb tl ts_786 T_787 nk fr (nI k_784) (nI p_785) vl_788)⟩ : FLT ρ ws_758 ty_759 f9 rd krd tp ktp cd bb tl (0, ts, σ, T) nk fr)⟩⟩, (show (i_52 + 1) ≤ 400 from by omega)⟩ hP hD hS (lv_sub hl [0, 1, 2, 4, 5] rfl)
      obtain ⟨kc_822, cc_823, tc_824, fc_825, kb_826, cb_827, tb_828, fb_829, hp_830, hT_831, er_832, et_833, wr_834, wt_835, ec_836, uc_837, wc_838, hc_839, eb_840, ub_841, wb_842, hb_843⟩ := id hR_792
      have hp_8301 := hp_830.1
      have hp_830t := teF_le (f := f9) hp_830.1
      refine lv_istore_n (lv' := [(2, .int 1), (3, .int 1), (5, .int 0), (4, .int (nI i_52)), (1, .int 6), (0, .ref rd)]) hx hb dX4_readEither_83 rfl hl (by decide) rfl (fun ls hl => ?_)
      refine lv_iload hx hb dX4_readEither_84 (lv_at hl 2 rfl) ?_
      refine lv_if_eq (tgt := 95) hx hb dX4_readEither_86 (by decide) (fun c_844 => ?_) (fun c_844 => absurd (by decide) c_844)
      refine lv_iinc (v := nI (i_52 + 1)) (lv' := [(4, .int (nI (i_52 + 1))), (2, .int 1), (3, .int 1), (5, .int 0), (1, .int 6), (0, .ref rd)]) hx hb dX4_readEither_95 hl (k := 3) rfl (nI_add i_52 1) (by decide) rfl (fun ls hl => ?_)
      refine lv_goto (tgt := 11) hx hb dX4_readEither_98 (by decide) ?_
      exact ih_51 (i_52 + 1, 1, 1) ws_758 _ _ ls (by show 400 - (i_52 + 1) < 400 - i_52; omega) ⟨hlp_58, ⟨ty_759, hK, htx, Or.inl ⟨rfl, Or.inr rfl, (⟨b_793, 1 :: σ, T_787, _, hm9.tr (rch_an (by omega) hr_791), ow_or, by omega, fun _ => by rw [eA_n _ (by omega), List.append_nil]; omega, fun h9 => absurd h9 (by decide), by rw [eA_n _ (by omega), List.append_nil]; exact (⟨kc_822, cc_823, tc_824, fc_825, kb_826, cb_827, tb_828, fb_829, hp_830, hT_831, er_832, et_833, wr_834, wt_835, ec_836, uc_837, wc_838, hc_839, eb_840, ub_841, wb_842, hb_843⟩ : RSX ρ ws_758 ty_759 f9 rd krd tp ktp cd bb tl b_793 T_787 nk fr fk fp vl_788)⟩ : LPE ρ ws_758 ty_759 f9 rd krd tp ktp cd bb tl ts σ T nk fr fk fp (i_52 + 1) 1)⟩⟩, (show (i_52 + 1) ≤ 400 from by omega)⟩ hP hD hS (lv_sub hl [0, 1, 2, 4, 5] rfl)
    have iw_684 : wdE f9 tl b_81 = 2 := iw_684
    refine lv_istore (lv' := [(5, .int 1), (4, .int (nI i_52)), (2, .int 1), (3, .int 1), (1, .int 6), (0, .ref rd)]) hx hb dX4_readEither_39 hl (by decide) rfl (fun ls hl => ?_)
    refine lv_iload hx hb dX4_readEither_41 (lv_at hl 0 rfl) ?_
    refine lv_if_ne (tgt := 56) hx hb dX4_readEither_43 (by decide) (fun c_845 => ?_) (fun c_845 => absurd c_845 (by decide))
    refine lv_iload_n hx hb dX4_readEither_56 rfl (lv_at hl 3 rfl) ?_
    refine lv_if_ne (tgt := 65) hx hb dX4_readEither_57 (by decide) (fun c_846 => ?_) (fun c_846 => absurd c_846 (by decide))
    refine lv_iconst (v := 1) hx hb dX4_readEither_65 (by decide) ?_
    refine lv_goto (tgt := 70) hx hb dX4_readEither_66 (by decide) ?_
    refine lv_istore_n (lv' := [(3, .int 1), (5, .int 1), (4, .int (nI i_52)), (2, .int 1), (1, .int 6), (0, .ref rd)]) hx hb dX4_readEither_70 rfl hl (by decide) rfl (fun ls hl => ?_)
    have hw9 : b_81 + 3 ≤ nxF f9 tl b_81 ∧ nxF f9 tl b_81 ≤ tl := nx_wd hp_507.1 (j := 2) (by omega) iw_684
    have hm9 : Rch f9 tl (0, ts, σ, T) (0, nxF f9 tl b_81, 2 :: jA ta_82, T_83 ++ eA ta_82) := hr_85.st (st_and iw_684)
    have hdq : dep (2 :: jA ta_82) = dep σ := (dep_n _ (by omega)).trans ((dep_jA _).trans ((dep_jO _).symm.trans (congrArg dep (ow_jO hbs ow_86))))
    refine lv_aload_n hx hb dX4_readEither_71 rfl (lv_at hl 5 rfl) ?_
    refine va_get (D := D) (ci := 4) (v := .ref tp) (C := RX4) (T := TX4) (N := 8) hx hb hts hin4 hown hK hP krd e_677 rfl 0 (by decide) (hts (.fieldLink RX4 12 "HoneyHouse$RuleReader" "tape" "LHoneyHouse$Tape;") (List.mem_of_getElem? (i := 1) rfl)) (fun _ h9 => h9) rfl dX4_readEither_72 ?_
    have hFc := free_all hD hS hA
    refine va_callv (va_runV (As := []) (rest := []) ⟨hx, hb, hml, hown, hts⟩ (a_advance l D (rz [ktp]) ws_672 ty_673 f9 tp ktp tl (teF f9 tl b_81) (nI (kdF f9 tl b_81)) (nI b_81) bb kb_503 cb_504 tb_505 fb_506 H.size htl hb_520 hng (by omega) e_678 e_680 u_682 (rz_o1 (pl_ne e_680 e_678 (by intro h9; simp at h9))) (rz_in (by simp))) (cwV 0 hts gX4_readEither_X6_advance rfl rfl rfl (by decide +kernel) ⟨Nat.le_of_ble_eq_true rfl, Nat.le_of_ble_eq_true rfl⟩) ⟨fun a U g mk q => by obtain ⟨q0, q1, qP, qK, qD⟩ := q; exact ⟨q0, q1, qP, va_K.moved (u := U) (U := U.calling g mk a) (Vm.Alike.refl U.vm) qK, qD⟩, va_recv hK hP (ci := 6) (q0 := ktp) rfl e_678, fun U hU hW => ⟨rfl, by rw [hU], by rw [hU]; exact hP, va_K.moved hW.alike hK, hD.weaken (fun _ _ _ _ => trivial)⟩⟩ rfl rfl hl.1 rfl (lv_room (Nat.le_of_ble_eq_true rfl)) dX4_readEither_75 ⟨Nat.le_of_ble_eq_true rfl, Nat.le_of_ble_eq_true rfl⟩) hS (fun q _ h => hFc q h) hFc (fun u t H1 locs ht hvm w_848 hB hz1 hk1 hS => ?_)
    obtain ⟨ws_849, ty_850, hm_851, ht_853, hP1, hK1, hD1, hx_852⟩ := hB
    rw [ht] at hP1
    have hK := va_K.moved hvm.symm hK1
    have hD := hD1.weaken (fun _ _ _ h => hFc _ h)
    generalize H1 = H at hP1 hS ⊢
    have hP := hP1
    have e_854 := hm_851.keep (rz_o1 (pl_ne e_677 e_678 (by intro h9; simp at h9))) e_677
    have e_855 := hm_851.keep (rz_o1 (pl_ne e_679 e_678 (by intro h9; simp at h9))) e_679
    have e_856 := hm_851.keep (rz_o1 (pl_ne e_680 e_678 (by intro h9; simp at h9))) e_680
    have u_857 := ht_853 _ _ u_681
    have u_858 := ht_853 _ _ u_682
    have hm_859 : sm ρ [6] ws_672 ws_849 := hm_851.up (fun k _ h => rz_u1 wt_512 k h)
    have hsm := hsm.tr (hm_859.mono (by decide))
    have hlp_58 := hlp_58.tr (hm_859.mono (by decide))
    have htx := htx.tr ht_853
    have e_860 : ws_849[ktp]? = some (tp, .inr (6, [.int (nI tl), .int (nI (kdF f9 tl (nxF f9 tl b_81))), .int (nI (nxF f9 tl b_81)), .int (nI (teF f9 tl (nxF f9 tl b_81))), .ref bb])) := hx_852; have hq_861 : pcB f9 tl (nxF f9 tl b_81) := nxF_pc (f := f9) hp_507.1; have hq_8611 := hq_861.1; have hq_861t := teF_le (f := f9) hq_861.1; have hg_862 := nx_gain (f := f9) hp_507.1
    refine lv_aload_n hx hb dX4_readEither_78 rfl (lv_at hl 5 rfl) ?_
    refine lv_iload_n hx hb dX4_readEither_79 rfl (lv_at hl 4 rfl) ?_
    have hFc := free_all hD hS hA
    refine va_calli (va_runV (As := [.int 6]) (rest := []) ⟨hx, hb, hml, hown, hts⟩ (r_readOne6 l D ρ ws_849 ty_850 adK adV fo f9 rd krd tp ktp cd bb tl (nxF f9 tl b_81) (T_83 ++ eA ta_82) nk fr fk fp vl_84 (2 :: jA ta_82) H.size htl hng (⟨kc_499, cc_500, tc_501, fc_502, kb_503, cb_504, tb_505, fb_506, hq_861, hT_508, e_854, e_860, wr_511, wt_512, e_855, u_857, wc_515, hc_516, e_856, u_858, wb_519, hb_520⟩ : RSX ρ ws_849 ty_850 f9 rd krd tp ktp cd bb tl (nxF f9 tl b_81) (T_83 ++ eA ta_82) nk fr fk fp vl_84) (hdq.trans hdp) (by omega)) (cwV 1 hts gX4_readEither_X4_readOne rfl rfl rfl (by decide +kernel) ⟨Nat.le_of_ble_eq_true rfl, Nat.le_of_ble_eq_true rfl⟩) ⟨fun a U g mk q => by obtain ⟨q0, q1, qP, qK, qD, qS⟩ := q; exact ⟨q0, q1, qP, va_K.moved (u := U) (U := U.calling g mk a) (Vm.Alike.refl U.vm) qK, qD, SZ.same rfl rfl qS⟩, va_recv hK hP (ci := 4) (q0 := krd) rfl e_854, fun U hU hW => ⟨rfl, by rw [hU], by rw [hU]; exact hP, va_K.moved hW.alike hK, hD.weaken (fun _ _ _ _ => trivial), hsz9.go hS hW hU hFc⟩⟩ rfl rfl hl.1 rfl (lv_room (Nat.le_of_ble_eq_true rfl)) dX4_readEither_80 ⟨Nat.le_of_ble_eq_true rfl, Nat.le_of_ble_eq_true rfl⟩) hS (fun q _ h => hFc q h) hFc (fun r_863 u t H1 locs ht hvm w_864 hB hz1 hk1 hS => ?_)
    subst w_864
    obtain ⟨ws_865, ty_866, hm_867, ht_869, hP1, hK1, hD1, hx_868⟩ := hB
    rw [ht] at hP1
    have hK := va_K.moved hvm.symm hK1
    have hD := hD1.weaken (fun _ _ _ h => hFc _ h)
    generalize H1 = H at hP1 hS ⊢
    have hP := hP1
    obtain ⟨g_871, e_870, h_872⟩ := hm_867.obj e_854
    obtain ⟨z_873, z_874, z_875, z_876, z_877, z_878, rfl⟩ := smX4 h_872
    obtain ⟨g_880, e_879, h_881⟩ := hm_867.obj e_860
    obtain ⟨z_882, z_883, z_884, z_885, rfl⟩ := smX6 h_881
    obtain ⟨f_887, e_886⟩ := hm_867.arrI e_855
    have u_888 := ht_869 _ _ u_857
    have e_889 := hm_867.keep (by rw [wb_519]; omega) e_856
    have u_890 := ht_869 _ _ u_858
    have hsm := hsm.tr (hm_867.mono (by decide))
    have hlp_58 := hlp_58.tr (hm_867.mono (by decide))
    have htx := htx.tr ht_869
    rcases hx_868 with ⟨rfl, k_891, p_892, ts_893, T_894, vl_895, hk_896, hk_897, hr_898, hR_899⟩ | ⟨rfl, b_900, T_894, vl_895, hr_898, hg_904, hg_905, hR_899⟩
    · obtain ⟨kc_906, cc_907, tc_908, fc_909, kb_910, cb_911, tb_912, fb_913, hp_914, hT_915, er_916, et_917, wr_918, wt_919, ec_920, uc_921, wc_922, hc_923, eb_924, ub_925, wb_926, hb_927⟩ := id hR_899
      have hp_9141 := hp_914.1
      have hp_914t := teF_le (f := f9) hp_914.1
      refine lv_istore_n (lv' := [(2, .int 0), (3, .int 1), (5, .int 1), (4, .int (nI i_52)), (1, .int 6), (0, .ref rd)]) hx hb dX4_readEither_83 rfl hl (by decide) rfl (fun ls hl => ?_)
      refine lv_iload hx hb dX4_readEither_84 (lv_at hl 2 rfl) ?_
      refine lv_if_eq (tgt := 95) hx hb dX4_readEither_86 (by decide) (fun c_928 => absurd c_928 (by decide)) (fun c_928 => ?_)
      refine lv_aload_n hx hb dX4_readEither_89 rfl (lv_at hl 5 rfl) ?_
      refine lv_bipush (v := (-2)) hx hb dX4_readEither_90 (by decide) ?_
      have hFc := free_all hD hS hA
      refine va_callv (va_runV (As := [.int (-2)]) (rest := []) ⟨hx, hb, hml, hown, hts⟩ (r_addCode l D ρ ws_865 ty_866 adK adV fo f9 rd krd tp ktp cd bb tl ts_893 T_894 nk fr (nI k_891) (nI p_892) vl_895 (2, 0, 0, 0) (-2) H.size htl hng (⟨kc_906, cc_907, tc_908, fc_909, kb_910, cb_911, tb_912, fb_913, hp_914, hT_915, er_916, et_917, wr_918, wt_919, ec_920, uc_921, wc_922, hc_923, eb_924, ub_925, wb_926, hb_927⟩ : RSX ρ ws_865 ty_866 f9 rd krd tp ktp cd bb tl ts_893 T_894 nk fr (nI k_891) (nI p_892) vl_895) rfl) (cwV 1 hts gX4_readEither_X4_addCode rfl rfl rfl (by decide +kernel) ⟨Nat.le_of_ble_eq_true rfl, Nat.le_of_ble_eq_true rfl⟩) ⟨fun a U g mk q => by obtain ⟨q0, q1, qP, qK, qD, qS⟩ := q; exact ⟨q0, q1, qP, va_K.moved (u := U) (U := U.calling g mk a) (Vm.Alike.refl U.vm) qK, qD, SZ.same rfl rfl qS⟩, va_recv hK hP (ci := 4) (q0 := krd) rfl er_916, fun U hU hW => ⟨rfl, by rw [hU], by rw [hU]; exact hP, va_K.moved hW.alike hK, hD.weaken (fun _ _ _ _ => trivial), hsz9.go hS hW hU hFc⟩⟩ rfl rfl hl.1 rfl (lv_room (Nat.le_of_ble_eq_true rfl)) dX4_readEither_92 ⟨Nat.le_of_ble_eq_true rfl, Nat.le_of_ble_eq_true rfl⟩) hS (fun q _ h => hFc q h) hFc (fun u t H1 locs ht hvm w_930 hB hz1 hk1 hS => ?_)
      obtain ⟨ws_931, ty_932, hm_933, ht_935, hP1, hK1, hD1, hx_934⟩ := hB
      rw [ht] at hP1
      have hK := va_K.moved hvm.symm hK1
      have hD := hD1.weaken (fun _ _ _ h => hFc _ h)
      generalize H1 = H at hP1 hS ⊢
      have hP := hP1
      obtain ⟨g_937, e_936, h_938⟩ := hm_933.obj er_916
      obtain ⟨z_939, z_940, z_941, z_942, z_943, z_944, rfl⟩ := smX4 h_938
      obtain ⟨g_946, e_945, h_947⟩ := hm_933.obj et_917
      obtain ⟨z_948, z_949, z_950, z_951, rfl⟩ := smX6 h_947
      obtain ⟨f_953, e_952⟩ := hm_933.arrI ec_920
      have u_954 := ht_935 _ _ uc_921
      have e_955 := hm_933.keep (by rw [wb_926]; omega) eb_924
      have u_956 := ht_935 _ _ ub_925
      have hsm := hsm.tr (hm_933.mono (by decide))
      have hlp_58 := hlp_58.tr (hm_933.mono (by decide))
      have htx := htx.tr ht_935
      rcases hx_934 with ⟨hl_957, hR_958⟩ | ⟨hl_957, hR_958⟩
      · obtain ⟨kc_959, cc_960, tc_961, fc_962, kb_963, cb_964, tb_965, fb_966, hp_967, hT_968, er_969, et_970, wr_971, wt_972, ec_973, uc_974, wc_975, hc_976, eb_977, ub_978, wb_979, hb_980⟩ := id hR_958
        have hp_9671 := hp_967.1
        have hp_967t := teF_le (f := f9) hp_967.1
        refine lv_iinc (v := nI (i_52 + 1)) (lv' := [(4, .int (nI (i_52 + 1))), (2, .int 0), (3, .int 1), (5, .int 1), (1, .int 6), (0, .ref rd)]) hx hb dX4_readEither_95 hl (k := 3) rfl (nI_add i_52 1) (by decide) rfl (fun ls hl => ?_)
        refine lv_goto (tgt := 11) hx hb dX4_readEither_98 (by decide) ?_
        exact ih_51 (i_52 + 1, 0, 1) ws_931 _ _ ls (by show 400 - (i_52 + 1) < 400 - i_52; omega) ⟨hlp_58, ⟨ty_932, hK, htx, Or.inr ⟨rfl, Or.inr rfl, (⟨k_891, p_892, _, _, _, by omega, by omega, hm9.tr hr_898, (⟨kc_959, cc_960, tc_961, fc_962, kb_963, cb_964, tb_965, fb_966, hp_967, hT_968, er_969, et_970, wr_971, wt_972, ec_973, uc_974, wc_975, hc_976, eb_977, ub_978, wb_979, hb_980⟩ : RSX ρ ws_931 ty_932 f9 rd krd tp ktp cd bb tl ts_893 (T_894 ++ [(2, 0, 0, 0)]) nk fr (nI k_891) (nI p_892) vl_895)⟩ : FLT ρ ws_931 ty_932 f9 rd krd tp ktp cd bb tl (0, ts, σ, T) nk fr)⟩⟩, (show (i_52 + 1) ≤ 400 from by omega)⟩ hP hD hS (lv_sub hl [0, 1, 2, 4, 5] rfl)
      obtain ⟨kc_981, cc_982, tc_983, fc_984, kb_985, cb_986, tb_987, fb_988, hp_989, hT_990, er_991, et_992, wr_993, wt_994, ec_995, uc_996, wc_997, hc_998, eb_999, ub_1000, wb_1001, hb_1002⟩ := id hR_958
      have hp_9891 := hp_989.1
      have hp_989t := teF_le (f := f9) hp_989.1
      refine lv_iinc (v := nI (i_52 + 1)) (lv' := [(4, .int (nI (i_52 + 1))), (2, .int 0), (3, .int 1), (5, .int 1), (1, .int 6), (0, .ref rd)]) hx hb dX4_readEither_95 hl (k := 3) rfl (nI_add i_52 1) (by decide) rfl (fun ls hl => ?_)
      refine lv_goto (tgt := 11) hx hb dX4_readEither_98 (by decide) ?_
      exact ih_51 (i_52 + 1, 0, 1) ws_931 _ _ ls (by show 400 - (i_52 + 1) < 400 - i_52; omega) ⟨hlp_58, ⟨ty_932, hK, htx, Or.inr ⟨rfl, Or.inr rfl, (⟨k_891, p_892, _, _, _, by omega, by omega, hm9.tr hr_898, (⟨kc_981, cc_982, tc_983, fc_984, kb_985, cb_986, tb_987, fb_988, hp_989, hT_990, er_991, et_992, wr_993, wt_994, ec_995, uc_996, wc_997, hc_998, eb_999, ub_1000, wb_1001, hb_1002⟩ : RSX ρ ws_931 ty_932 f9 rd krd tp ktp cd bb tl ts_893 T_894 nk fr (nI k_891) (nI p_892) vl_895)⟩ : FLT ρ ws_931 ty_932 f9 rd krd tp ktp cd bb tl (0, ts, σ, T) nk fr)⟩⟩, (show (i_52 + 1) ≤ 400 from by omega)⟩ hP hD hS (lv_sub hl [0, 1, 2, 4, 5] rfl)
    obtain ⟨kc_1003, cc_1004, tc_1005, fc_1006, kb_1007, cb_1008, tb_1009, fb_1010, hp_1011, hT_1012, er_1013, et_1014, wr_1015, wt_1016, ec_1017, uc_1018, wc_1019, hc_1020, eb_1021, ub_1022, wb_1023, hb_1024⟩ := id hR_899
    have hp_10111 := hp_1011.1
    have hp_1011t := teF_le (f := f9) hp_1011.1
    refine lv_istore_n (lv' := [(2, .int 1), (3, .int 1), (5, .int 1), (4, .int (nI i_52)), (1, .int 6), (0, .ref rd)]) hx hb dX4_readEither_83 rfl hl (by decide) rfl (fun ls hl => ?_)
    refine lv_iload hx hb dX4_readEither_84 (lv_at hl 2 rfl) ?_
    refine lv_if_eq (tgt := 95) hx hb dX4_readEither_86 (by decide) (fun c_1025 => absurd c_1025 (by decide)) (fun c_1025 => ?_)
    refine lv_aload_n hx hb dX4_readEither_89 rfl (lv_at hl 5 rfl) ?_
    refine lv_bipush (v := (-2)) hx hb dX4_readEither_90 (by decide) ?_
    have hFc := free_all hD hS hA
    refine va_callv (va_runV (As := [.int (-2)]) (rest := []) ⟨hx, hb, hml, hown, hts⟩ (r_addCode l D ρ ws_865 ty_866 adK adV fo f9 rd krd tp ktp cd bb tl b_900 T_894 nk fr fk fp vl_895 (2, 0, 0, 0) (-2) H.size htl hng (⟨kc_1003, cc_1004, tc_1005, fc_1006, kb_1007, cb_1008, tb_1009, fb_1010, hp_1011, hT_1012, er_1013, et_1014, wr_1015, wt_1016, ec_1017, uc_1018, wc_1019, hc_1020, eb_1021, ub_1022, wb_1023, hb_1024⟩ : RSX ρ ws_865 ty_866 f9 rd krd tp ktp cd bb tl b_900 T_894 nk fr fk fp vl_895) rfl) (cwV 1 hts gX4_readEither_X4_addCode rfl rfl rfl (by decide +kernel) ⟨Nat.le_of_ble_eq_true rfl, Nat.le_of_ble_eq_true rfl⟩) ⟨fun a U g mk q => by obtain ⟨q0, q1, qP, qK, qD, qS⟩ := q; exact ⟨q0, q1, qP, va_K.moved (u := U) (U := U.calling g mk a) (Vm.Alike.refl U.vm) qK, qD, SZ.same rfl rfl qS⟩, va_recv hK hP (ci := 4) (q0 := krd) rfl er_1013, fun U hU hW => ⟨rfl, by rw [hU], by rw [hU]; exact hP, va_K.moved hW.alike hK, hD.weaken (fun _ _ _ _ => trivial), hsz9.go hS hW hU hFc⟩⟩ rfl rfl hl.1 rfl (lv_room (Nat.le_of_ble_eq_true rfl)) dX4_readEither_92 ⟨Nat.le_of_ble_eq_true rfl, Nat.le_of_ble_eq_true rfl⟩) hS (fun q _ h => hFc q h) hFc (fun u t H1 locs ht hvm w_1027 hB hz1 hk1 hS => ?_)
    obtain ⟨ws_1028, ty_1029, hm_1030, ht_1032, hP1, hK1, hD1, hx_1031⟩ := hB
    rw [ht] at hP1
    have hK := va_K.moved hvm.symm hK1
    have hD := hD1.weaken (fun _ _ _ h => hFc _ h)
    generalize H1 = H at hP1 hS ⊢
    have hP := hP1
    obtain ⟨g_1034, e_1033, h_1035⟩ := hm_1030.obj er_1013
    obtain ⟨z_1036, z_1037, z_1038, z_1039, z_1040, z_1041, rfl⟩ := smX4 h_1035
    obtain ⟨g_1043, e_1042, h_1044⟩ := hm_1030.obj et_1014
    obtain ⟨z_1045, z_1046, z_1047, z_1048, rfl⟩ := smX6 h_1044
    obtain ⟨f_1050, e_1049⟩ := hm_1030.arrI ec_1017
    have u_1051 := ht_1032 _ _ uc_1018
    have e_1052 := hm_1030.keep (by rw [wb_1023]; omega) eb_1021
    have u_1053 := ht_1032 _ _ ub_1022
    have hsm := hsm.tr (hm_1030.mono (by decide))
    have hlp_58 := hlp_58.tr (hm_1030.mono (by decide))
    have htx := htx.tr ht_1032
    obtain ⟨hl_1054, hR_1055⟩ := hx_1031.resolve_right (fun h9 => h9.1 (by omega))
    obtain ⟨kc_1056, cc_1057, tc_1058, fc_1059, kb_1060, cb_1061, tb_1062, fb_1063, hp_1064, hT_1065, er_1066, et_1067, wr_1068, wt_1069, ec_1070, uc_1071, wc_1072, hc_1073, eb_1074, ub_1075, wb_1076, hb_1077⟩ := id hR_1055
    have hp_10641 := hp_1064.1
    have hp_1064t := teF_le (f := f9) hp_1064.1
    refine lv_iinc (v := nI (i_52 + 1)) (lv' := [(4, .int (nI (i_52 + 1))), (2, .int 1), (3, .int 1), (5, .int 1), (1, .int 6), (0, .ref rd)]) hx hb dX4_readEither_95 hl (k := 3) rfl (nI_add i_52 1) (by decide) rfl (fun ls hl => ?_)
    refine lv_goto (tgt := 11) hx hb dX4_readEither_98 (by decide) ?_
    exact ih_51 (i_52 + 1, 1, 1) ws_1028 _ _ ls (by show 400 - (i_52 + 1) < 400 - i_52; omega) ⟨hlp_58, ⟨ty_1029, hK, htx, Or.inl ⟨rfl, Or.inr rfl, (⟨b_900, 2 :: jA ta_82, T_894, _, hm9.tr (rch_an (by omega) hr_898), ow_and hbs ow_86, by omega, fun _ => by rw [eA_2jA, len_a1]; omega, fun h9 => absurd h9 (by decide), by rw [eA_2jA]; exact (⟨kc_1056, cc_1057, tc_1058, fc_1059, kb_1060, cb_1061, tb_1062, fb_1063, hp_1064, hT_1065, er_1066, et_1067, wr_1068, wt_1069, ec_1070, uc_1071, wc_1072, hc_1073, eb_1074, ub_1075, wb_1076, hb_1077⟩ : RSX ρ ws_1028 ty_1029 f9 rd krd tp ktp cd bb tl b_900 (T_894 ++ [(2, 0, 0, 0)]) nk fr fk fp vl_895)⟩ : LPE ρ ws_1028 ty_1029 f9 rd krd tp ktp cd bb tl ts σ T nk fr fk fp (i_52 + 1) 1)⟩⟩, (show (i_52 + 1) ≤ 400 from by omega)⟩ hP hD hS (lv_sub hl [0, 1, 2, 4, 5] rfl)
  · obtain ⟨kc_1078, cc_1079, tc_1080, fc_1081, kb_1082, cb_1083, tb_1084, fb_1085, hp_1086, hT_1087, er_1088, et_1089, wr_1090, wt_1091, ec_1092, uc_1093, wc_1094, hc_1095, eb_1096, ub_1097, wb_1098, hb_1099⟩ := id hR_90
    have hp_10861 := hp_1086.1
    have hp_1086t := teF_le (f := f9) hp_1086.1
    refine lv_sipush (v := 400) hx hb dX4_readEither_13 (by decide) ?_
    refine lv_icmp_ge (tgt := 101) hx hb dX4_readEither_16 (by decide) (fun c_1100 => ?_) (fun c_1100 => ?_)
    · have d_1101 := n_le (a := 400) (b := i_52) (by omega) (by omega) c_1100
      refine lv_iload_n hx hb dX4_readEither_101 rfl (lv_at hl 2 rfl) ?_
      refine lv_if_eq (tgt := 111) hx hb dX4_readEither_102 (by decide) (fun c_1102 => ?_) (fun c_1102 => absurd (by decide) c_1102)
      refine lv_iload_n hx hb dX4_readEither_111 rfl (lv_at hl 1 rfl) ?_
      exact W.zret (v := 0) hx hb hr rfl (fun t ht hW => ⟨⟨0, 0, rfl, rfl, ws_56, ty_79, hsm, htx, by rw [ht]; exact hP, va_K.moved hW.alike hK, hD, Or.inl ⟨rfl, k_91, p_92, _, _, _, by omega, by omega, hr_85, (⟨kc_1078, cc_1079, tc_1080, fc_1081, kb_1082, cb_1083, tb_1084, fb_1085, hp_1086, hT_1087, er_1088, et_1089, wr_1090, wt_1091, ec_1092, uc_1093, wc_1094, hc_1095, eb_1096, ub_1097, wb_1098, hb_1099⟩ : RSX ρ ws_56 ty_79 f9 rd krd tp ktp cd bb tl ts_93 T_83 nk fr (nI k_91) (nI p_92) vl_84)⟩⟩, hS.F ht⟩) hS.2.2 dX4_readEither_112
    have d_1103 := n_nle (a := 400) (b := i_52) (by omega) (by omega) c_1100
    refine lv_iload_n hx hb dX4_readEither_19 rfl (lv_at hl 1 rfl) ?_
    refine lv_if_eq (tgt := 101) hx hb dX4_readEither_20 (by decide) (fun c_1104 => ?_) (fun c_1104 => absurd (by decide) c_1104)
    refine lv_iload_n hx hb dX4_readEither_101 rfl (lv_at hl 2 rfl) ?_
    refine lv_if_eq (tgt := 111) hx hb dX4_readEither_102 (by decide) (fun c_1105 => ?_) (fun c_1105 => absurd (by decide) c_1105)
    refine lv_iload_n hx hb dX4_readEither_111 rfl (lv_at hl 1 rfl) ?_
    exact W.zret (v := 0) hx hb hr rfl (fun t ht hW => ⟨⟨0, 0, rfl, rfl, ws_56, ty_79, hsm, htx, by rw [ht]; exact hP, va_K.moved hW.alike hK, hD, Or.inl ⟨rfl, k_91, p_92, _, _, _, by omega, by omega, hr_85, (⟨kc_1078, cc_1079, tc_1080, fc_1081, kb_1082, cb_1083, tb_1084, fb_1085, hp_1086, hT_1087, er_1088, et_1089, wr_1090, wt_1091, ec_1092, uc_1093, wc_1094, hc_1095, eb_1096, ub_1097, wb_1098, hb_1099⟩ : RSX ρ ws_56 ty_79 f9 rd krd tp ktp cd bb tl ts_93 T_83 nk fr (nI k_91) (nI p_92) vl_84)⟩⟩, hS.F ht⟩) hS.2.2 dX4_readEither_112
  obtain ⟨kc_1106, cc_1107, tc_1108, fc_1109, kb_1110, cb_1111, tb_1112, fb_1113, hp_1114, hT_1115, er_1116, et_1117, wr_1118, wt_1119, ec_1120, uc_1121, wc_1122, hc_1123, eb_1124, ub_1125, wb_1126, hb_1127⟩ := id hR_90
  have hp_11141 := hp_1114.1
  have hp_1114t := teF_le (f := f9) hp_1114.1
  refine lv_sipush (v := 400) hx hb dX4_readEither_13 (by decide) ?_
  refine lv_icmp_ge (tgt := 101) hx hb dX4_readEither_16 (by decide) (fun c_1128 => ?_) (fun c_1128 => ?_)
  · have d_1129 := n_le (a := 400) (b := i_52) (by omega) (by omega) c_1128
    refine lv_iload_n hx hb dX4_readEither_101 rfl (lv_at hl 2 rfl) ?_
    refine lv_if_eq (tgt := 111) hx hb dX4_readEither_102 (by decide) (fun c_1130 => absurd c_1130 (by decide)) (fun c_1130 => ?_)
    refine lv_aload_n hx hb dX4_readEither_105 rfl (lv_at hl 4 rfl) ?_
    refine lv_bipush (v := (-3)) hx hb dX4_readEither_106 (by decide) ?_
    have hFc := free_all hD hS hA
    refine va_callv (va_runV (As := [.int (-3)]) (rest := []) ⟨hx, hb, hml, hown, hts⟩ (r_addCode l D ρ ws_56 ty_79 adK adV fo f9 rd krd tp ktp cd bb tl ts_93 T_83 nk fr (nI k_91) (nI p_92) vl_84 (1, 0, 0, 0) (-3) H.size htl hng (⟨kc_1106, cc_1107, tc_1108, fc_1109, kb_1110, cb_1111, tb_1112, fb_1113, hp_1114, hT_1115, er_1116, et_1117, wr_1118, wt_1119, ec_1120, uc_1121, wc_1122, hc_1123, eb_1124, ub_1125, wb_1126, hb_1127⟩ : RSX ρ ws_56 ty_79 f9 rd krd tp ktp cd bb tl ts_93 T_83 nk fr (nI k_91) (nI p_92) vl_84) rfl) (cwV 1 hts gX4_readEither_X4_addCode rfl rfl rfl (by decide +kernel) ⟨Nat.le_of_ble_eq_true rfl, Nat.le_of_ble_eq_true rfl⟩) ⟨fun a U g mk q => by obtain ⟨q0, q1, qP, qK, qD, qS⟩ := q; exact ⟨q0, q1, qP, va_K.moved (u := U) (U := U.calling g mk a) (Vm.Alike.refl U.vm) qK, qD, SZ.same rfl rfl qS⟩, va_recv hK hP (ci := 4) (q0 := krd) rfl er_1116, fun U hU hW => ⟨rfl, by rw [hU], by rw [hU]; exact hP, va_K.moved hW.alike hK, hD.weaken (fun _ _ _ _ => trivial), hsz9.go hS hW hU hFc⟩⟩ rfl rfl hl.1 rfl (lv_room (Nat.le_of_ble_eq_true rfl)) dX4_readEither_108 ⟨Nat.le_of_ble_eq_true rfl, Nat.le_of_ble_eq_true rfl⟩) hS (fun q _ h => hFc q h) hFc (fun u t H1 locs ht hvm w_1132 hB hz1 hk1 hS => ?_)
    obtain ⟨ws_1133, ty_1134, hm_1135, ht_1137, hP1, hK1, hD1, hx_1136⟩ := hB
    rw [ht] at hP1
    have hK := va_K.moved hvm.symm hK1
    have hD := hD1.weaken (fun _ _ _ h => hFc _ h)
    generalize H1 = H at hP1 hS ⊢
    have hP := hP1
    obtain ⟨g_1139, e_1138, h_1140⟩ := hm_1135.obj er_1116
    obtain ⟨z_1141, z_1142, z_1143, z_1144, z_1145, z_1146, rfl⟩ := smX4 h_1140
    obtain ⟨g_1148, e_1147, h_1149⟩ := hm_1135.obj et_1117
    obtain ⟨z_1150, z_1151, z_1152, z_1153, rfl⟩ := smX6 h_1149
    obtain ⟨f_1155, e_1154⟩ := hm_1135.arrI ec_1120
    have u_1156 := ht_1137 _ _ uc_1121
    have e_1157 := hm_1135.keep (by rw [wb_1126]; omega) eb_1124
    have u_1158 := ht_1137 _ _ ub_1125
    have hsm := hsm.tr (hm_1135.mono (by decide))
    have hlp_58 := hlp_58.tr (hm_1135.mono (by decide))
    have htx := htx.tr ht_1137
    rcases hx_1136 with ⟨hl_1159, hR_1160⟩ | ⟨hl_1159, hR_1160⟩
    · obtain ⟨kc_1161, cc_1162, tc_1163, fc_1164, kb_1165, cb_1166, tb_1167, fb_1168, hp_1169, hT_1170, er_1171, et_1172, wr_1173, wt_1174, ec_1175, uc_1176, wc_1177, hc_1178, eb_1179, ub_1180, wb_1181, hb_1182⟩ := id hR_1160
      have hp_11691 := hp_1169.1
      have hp_1169t := teF_le (f := f9) hp_1169.1
      refine lv_iload_n hx hb dX4_readEither_111 rfl (lv_at hl 1 rfl) ?_
      exact W.zret (v := 0) hx hb hr rfl (fun t ht hW => ⟨⟨0, 0, rfl, rfl, ws_1133, ty_1134, hsm, htx, by rw [ht]; exact hP, va_K.moved hW.alike hK, hD, Or.inl ⟨rfl, k_91, p_92, _, _, _, by omega, by omega, hr_85, (⟨kc_1161, cc_1162, tc_1163, fc_1164, kb_1165, cb_1166, tb_1167, fb_1168, hp_1169, hT_1170, er_1171, et_1172, wr_1173, wt_1174, ec_1175, uc_1176, wc_1177, hc_1178, eb_1179, ub_1180, wb_1181, hb_1182⟩ : RSX ρ ws_1133 ty_1134 f9 rd krd tp ktp cd bb tl ts_93 (T_83 ++ [(1, 0, 0, 0)]) nk fr (nI k_91) (nI p_92) vl_84)⟩⟩, hS.F ht⟩) hS.2.2 dX4_readEither_112
    obtain ⟨kc_1183, cc_1184, tc_1185, fc_1186, kb_1187, cb_1188, tb_1189, fb_1190, hp_1191, hT_1192, er_1193, et_1194, wr_1195, wt_1196, ec_1197, uc_1198, wc_1199, hc_1200, eb_1201, ub_1202, wb_1203, hb_1204⟩ := id hR_1160
    have hp_11911 := hp_1191.1
    have hp_1191t := teF_le (f := f9) hp_1191.1
    refine lv_iload_n hx hb dX4_readEither_111 rfl (lv_at hl 1 rfl) ?_
    exact W.zret (v := 0) hx hb hr rfl (fun t ht hW => ⟨⟨0, 0, rfl, rfl, ws_1133, ty_1134, hsm, htx, by rw [ht]; exact hP, va_K.moved hW.alike hK, hD, Or.inl ⟨rfl, k_91, p_92, _, _, _, by omega, by omega, hr_85, (⟨kc_1183, cc_1184, tc_1185, fc_1186, kb_1187, cb_1188, tb_1189, fb_1190, hp_1191, hT_1192, er_1193, et_1194, wr_1195, wt_1196, ec_1197, uc_1198, wc_1199, hc_1200, eb_1201, ub_1202, wb_1203, hb_1204⟩ : RSX ρ ws_1133 ty_1134 f9 rd krd tp ktp cd bb tl ts_93 T_83 nk fr (nI k_91) (nI p_92) vl_84)⟩⟩, hS.F ht⟩) hS.2.2 dX4_readEither_112
  have d_1205 := n_nle (a := 400) (b := i_52) (by omega) (by omega) c_1128
  refine lv_iload_n hx hb dX4_readEither_19 rfl (lv_at hl 1 rfl) ?_
  refine lv_if_eq (tgt := 101) hx hb dX4_readEither_20 (by decide) (fun c_1206 => ?_) (fun c_1206 => absurd (by decide) c_1206)
  refine lv_iload_n hx hb dX4_readEither_101 rfl (lv_at hl 2 rfl) ?_
  refine lv_if_eq (tgt := 111) hx hb dX4_readEither_102 (by decide) (fun c_1207 => absurd c_1207 (by decide)) (fun c_1207 => ?_)
  refine lv_aload_n hx hb dX4_readEither_105 rfl (lv_at hl 4 rfl) ?_
  refine lv_bipush (v := (-3)) hx hb dX4_readEither_106 (by decide) ?_
  have hFc := free_all hD hS hA
  refine va_callv (va_runV (As := [.int (-3)]) (rest := []) ⟨hx, hb, hml, hown, hts⟩ (r_addCode l D ρ ws_56 ty_79 adK adV fo f9 rd krd tp ktp cd bb tl ts_93 T_83 nk fr (nI k_91) (nI p_92) vl_84 (1, 0, 0, 0) (-3) H.size htl hng (⟨kc_1106, cc_1107, tc_1108, fc_1109, kb_1110, cb_1111, tb_1112, fb_1113, hp_1114, hT_1115, er_1116, et_1117, wr_1118, wt_1119, ec_1120, uc_1121, wc_1122, hc_1123, eb_1124, ub_1125, wb_1126, hb_1127⟩ : RSX ρ ws_56 ty_79 f9 rd krd tp ktp cd bb tl ts_93 T_83 nk fr (nI k_91) (nI p_92) vl_84) rfl) (cwV 1 hts gX4_readEither_X4_addCode rfl rfl rfl (by decide +kernel) ⟨Nat.le_of_ble_eq_true rfl, Nat.le_of_ble_eq_true rfl⟩) ⟨fun a U g mk q => by obtain ⟨q0, q1, qP, qK, qD, qS⟩ := q; exact ⟨q0, q1, qP, va_K.moved (u := U) (U := U.calling g mk a) (Vm.Alike.refl U.vm) qK, qD, SZ.same rfl rfl qS⟩, va_recv hK hP (ci := 4) (q0 := krd) rfl er_1116, fun U hU hW => ⟨rfl, by rw [hU], by rw [hU]; exact hP, va_K.moved hW.alike hK, hD.weaken (fun _ _ _ _ => trivial), hsz9.go hS hW hU hFc⟩⟩ rfl rfl hl.1 rfl (lv_room (Nat.le_of_ble_eq_true rfl)) dX4_readEither_108 ⟨Nat.le_of_ble_eq_true rfl, Nat.le_of_ble_eq_true rfl⟩) hS (fun q _ h => hFc q h) hFc (fun u t H1 locs ht hvm w_1209 hB hz1 hk1 hS => ?_)
  obtain ⟨ws_1210, ty_1211, hm_1212, ht_1214, hP1, hK1, hD1, hx_1213⟩ := hB
  rw [ht] at hP1
  have hK := va_K.moved hvm.symm hK1
  have hD := hD1.weaken (fun _ _ _ h => hFc _ h)
  generalize H1 = H at hP1 hS ⊢
  have hP := hP1
  obtain ⟨g_1216, e_1215, h_1217⟩ := hm_1212.obj er_1116
  obtain ⟨z_1218, z_1219, z_1220, z_1221, z_1222, z_1223, rfl⟩ := smX4 h_1217
  obtain ⟨g_1225, e_1224, h_1226⟩ := hm_1212.obj et_1117
  obtain ⟨z_1227, z_1228, z_1229, z_1230, rfl⟩ := smX6 h_1226
  obtain ⟨f_1232, e_1231⟩ := hm_1212.arrI ec_1120
  have u_1233 := ht_1214 _ _ uc_1121
  have e_1234 := hm_1212.keep (by rw [wb_1126]; omega) eb_1124
  have u_1235 := ht_1214 _ _ ub_1125
  have hsm := hsm.tr (hm_1212.mono (by decide))
  have hlp_58 := hlp_58.tr (hm_1212.mono (by decide))
  have htx := htx.tr ht_1214
  rcases hx_1213 with ⟨hl_1236, hR_1237⟩ | ⟨hl_1236, hR_1237⟩
  · obtain ⟨kc_1238, cc_1239, tc_1240, fc_1241, kb_1242, cb_1243, tb_1244, fb_1245, hp_1246, hT_1247, er_1248, et_1249, wr_1250, wt_1251, ec_1252, uc_1253, wc_1254, hc_1255, eb_1256, ub_1257, wb_1258, hb_1259⟩ := id hR_1237
    have hp_12461 := hp_1246.1
    have hp_1246t := teF_le (f := f9) hp_1246.1
    refine lv_iload_n hx hb dX4_readEither_111 rfl (lv_at hl 1 rfl) ?_
    exact W.zret (v := 0) hx hb hr rfl (fun t ht hW => ⟨⟨0, 0, rfl, rfl, ws_1210, ty_1211, hsm, htx, by rw [ht]; exact hP, va_K.moved hW.alike hK, hD, Or.inl ⟨rfl, k_91, p_92, _, _, _, by omega, by omega, hr_85, (⟨kc_1238, cc_1239, tc_1240, fc_1241, kb_1242, cb_1243, tb_1244, fb_1245, hp_1246, hT_1247, er_1248, et_1249, wr_1250, wt_1251, ec_1252, uc_1253, wc_1254, hc_1255, eb_1256, ub_1257, wb_1258, hb_1259⟩ : RSX ρ ws_1210 ty_1211 f9 rd krd tp ktp cd bb tl ts_93 (T_83 ++ [(1, 0, 0, 0)]) nk fr (nI k_91) (nI p_92) vl_84)⟩⟩, hS.F ht⟩) hS.2.2 dX4_readEither_112
  obtain ⟨kc_1260, cc_1261, tc_1262, fc_1263, kb_1264, cb_1265, tb_1266, fb_1267, hp_1268, hT_1269, er_1270, et_1271, wr_1272, wt_1273, ec_1274, uc_1275, wc_1276, hc_1277, eb_1278, ub_1279, wb_1280, hb_1281⟩ := id hR_1237
  have hp_12681 := hp_1268.1
  have hp_1268t := teF_le (f := f9) hp_1268.1
  refine lv_iload_n hx hb dX4_readEither_111 rfl (lv_at hl 1 rfl) ?_
  exact W.zret (v := 0) hx hb hr rfl (fun t ht hW => ⟨⟨0, 0, rfl, rfl, ws_1210, ty_1211, hsm, htx, by rw [ht]; exact hP, va_K.moved hW.alike hK, hD, Or.inl ⟨rfl, k_91, p_92, _, _, _, by omega, by omega, hr_85, (⟨kc_1260, cc_1261, tc_1262, fc_1263, kb_1264, cb_1265, tb_1266, fb_1267, hp_1268, hT_1269, er_1270, et_1271, wr_1272, wt_1273, ec_1274, uc_1275, wc_1276, hc_1277, eb_1278, ub_1279, wb_1280, hb_1281⟩ : RSX ρ ws_1210 ty_1211 f9 rd krd tp ktp cd bb tl ts_93 T_83 nk fr (nI k_91) (nI p_92) vl_84)⟩⟩, hS.F ht⟩) hS.2.2 dX4_readEither_112
set_option maxHeartbeats 4000000 in
set_option maxRecDepth 100000 in
theorem r_readOne5 (l : Launch) (D : va_G) (ρ : Nat → Nat) (ws : va_W) (tys : List (ClassId × FieldType)) (adK adV : Nat → Nat) (fo : Option Nat) (f9 : Nat → Int32) (rd krd tp ktp cd bb tl ts : Nat) (T : List Tk) (nk : Int64) (fr fk fp vl : Int32) (σ : List Nat) (sz : Nat) (htl : tl ≤ 400) (hng : ∀ i : Nat, i < tl → ¬ f9 i = -1) (R0 : RSX ρ ws tys f9 rd krd tp ktp cd bb tl ts T nk fr fk fp vl) (hdp : dep σ = 5) (hT2 : 2 * T.length ≤ ts) : Met l yX4_readOne wsX4_readOne ({ frames := 9, cells := 0, slots := 0, locals := 197 }) (va_Pc [.ref rd, .int 5] (fun U => U.heap.size = sz ∧ va_P D vwCl ws U.heap ∧ va_K D vwCl tys U ∧ va_D (fun _ => True) ws ∧ SZ adK adV fo (va_A ws sz) U U.heap)) (va_Qi (fun (r : Int32) (s9 : Int32) => r = s9) (fun (s9 : Int32) (t : State) => ∃ (ws' : va_W) (tys' : List (ClassId × FieldType)), sm ρ [4, 6] ws ws' ∧ tyx tys tys' ∧ va_P D vwCl ws' t.heap ∧ va_K D vwCl tys' t ∧ va_D (va_A ws sz) ws' ∧ ((s9 = 0 ∧ FLT ρ ws' tys' f9 rd krd tp ktp cd bb tl (0, ts, σ, T) nk fr) ∨ (s9 = 1 ∧ ONE ρ ws' tys' f9 rd krd tp ktp cd bb tl ts σ T nk fr fk fp))) (va_A ws sz)) 0 0 (va_A ws sz) := by
  refine Met.ofW (cc := cX4_readOne) (maxL := 4) (ret := (some .boolean)) (by decide) rfl ?_
  intro p e s m args below meth c s₁ B hml hv
  obtain ⟨rfl, hsz, hP, hK, hD0, hsz9⟩ := hv
  have hx := B.exec
  have hb := B.bytes
  have hr := B.returns
  have hts := atoms_spec (ws := wsX4_readOne) B.pre
  have hown : s.vm.findClass RX4 = some m.cls := findClass_of_methodNamed B.named
  have hlocks := B.notSynchronized
  subst hsz
  have hD := hD0.self (sz := s.heap.size)
  generalize hAe : va_A ws s.heap.size = A at hD hsz9 ⊢
  have hA : ∀ q : Nat, s.heap.size ≤ q → A q := fun q h => by rw [← hAe]; exact Or.inr h
  have hS : va_S A s.heap s.heap [] := va_S.rf
  have hsm : sm ρ [4, 6] ws ws := sm.rf ws
  have htx : tyx tys tys := tyx.rf tys
  have hin4 : ∀ w ∈ u_ws RX4 TX4 8, w ∈ wsX4_readOne := (fun _ h9 => List.mem_cons_of_mem _ (List.mem_append_left _ ((List.mem_append_right _ h9))))
  have hl := lv_entry ([.ref rd, .int 5]) (n := 4) (Nat.le_of_ble_eq_true rfl)
  rw [lg_entry_eq]
  generalize (lg_sl ([.ref rd, .int 5]) ++ List.replicate (4 - (lg_sl ([.ref rd, .int 5])).length) Slot.unset).toArray = ls at hl ⊢
  have hl : lv_has ls 4 [(0, .ref rd), (1, .int 5)] := hl
  obtain ⟨kc_1, cc_2, tc_3, fc_4, kb_5, cb_6, tb_7, fb_8, hp_9, hT_10, er_11, et_12, wr_13, wt_14, ec_15, uc_16, wc_17, hc_18, eb_19, ub_20, wb_21, hb_22⟩ := id R0
  have hp_91 := hp_9.1
  have hp_9t := teF_le (f := f9) hp_9.1
  have hpc9 := hp_91
  refine lv_aload_n hx hb dX4_readOne_0 rfl (lv_at hl 0 rfl) ?_
  refine va_get (D := D) (ci := 4) (v := .ref tp) (C := RX4) (T := TX4) (N := 8) hx hb hts hin4 hown hK hP krd er_11 rfl 0 (by decide) (hts (.fieldLink RX4 12 "HoneyHouse$RuleReader" "tape" "LHoneyHouse$Tape;") (List.mem_of_getElem? (i := 1) rfl)) (fun _ h9 => h9) rfl dX4_readOne_1 ?_
  refine va_ldcS hx hb hown hsz9.2.2.2.2.2.2.1 dX4_readOne_4 ?_
  have hFc := free_all hD hS hA
  refine va_calli (va_runV (As := [.ref (adK 3)]) (rest := []) ⟨hx, hb, hml, hown, hts⟩ (a_isWord l D (rz []) ws tys adK adV fo 3 f9 tp ktp tl ts bb kb_5 cb_6 tb_7 fb_8 s.heap.size (by decide) htl hb_22 hng hp_9 et_12 eb_19 ub_20 rz_o0) (cwV 1 hts gX4_readOne_X6_isWord rfl rfl rfl (by decide +kernel) ⟨Nat.le_of_ble_eq_true rfl, Nat.le_of_ble_eq_true rfl⟩) ⟨fun a U g mk q => by obtain ⟨q0, q1, qP, qK, qD, qS⟩ := q; exact ⟨q0, q1, qP, va_K.moved (u := U) (U := U.calling g mk a) (Vm.Alike.refl U.vm) qK, qD, SZ.same rfl rfl qS⟩, va_recv hK hP (ci := 6) (q0 := ktp) rfl et_12, fun U hU hW => ⟨rfl, by rw [hU], by rw [hU]; exact hP, va_K.moved hW.alike hK, hD.weaken (fun _ _ _ _ => trivial), hsz9.go hS hW hU hFc⟩⟩ rfl rfl hl.1 rfl (lv_room (Nat.le_of_ble_eq_true rfl)) dX4_readOne_6 ⟨Nat.le_of_ble_eq_true rfl, Nat.le_of_ble_eq_true rfl⟩) hS (fun q _ h => hFc q h) hFc (fun r_23 u t H1 locs ht hvm w_24 hB hz1 hk1 hS => ?_)
  obtain ⟨ws_25, ty_26, hm_27, ht_29, hP1, hK1, hD1, hx_28⟩ := hB
  rw [ht] at hP1
  have hK := va_K.moved hvm.symm hK1
  have hD := hD1.weaken (fun _ _ _ h => hFc _ h)
  generalize H1 = H at hP1 hS ⊢
  have hP := hP1
  have e_30 := hm_27.keep rz_o0 er_11
  have e_31 := hm_27.keep rz_o0 et_12
  have e_32 := hm_27.keep rz_o0 ec_15
  have e_33 := hm_27.keep rz_o0 eb_19
  have u_34 := ht_29 _ _ uc_16
  have u_35 := ht_29 _ _ ub_20
  have hm_36 : sm ρ [] ws ws_25 := hm_27.up (fun k _ h => rz_u0  k h)
  have hsm := hsm.tr (hm_36.mono (by decide))
  have htx := htx.tr ht_29
  rcases w_24 with ⟨rfl, iw_37⟩ | ⟨rfl, iw_37⟩
  · have iw_37 : ¬ wdE f9 tl ts = 3 := iw_37
    refine lv_istore_n (lv' := [(2, .int 0), (0, .ref rd), (1, .int 5)]) hx hb dX4_readOne_9 rfl hl (by decide) rfl (fun ls hl => ?_)
    refine lv_iload_n hx hb dX4_readOne_10 rfl (lv_at hl 0 rfl) ?_
    refine lv_if_ne (tgt := 31) hx hb dX4_readOne_11 (by decide) (fun c_38 => absurd (by decide) c_38) (fun c_38 => ?_)
    refine lv_aload_n hx hb dX4_readOne_14 rfl (lv_at hl 1 rfl) ?_
    refine va_get (D := D) (ci := 4) (v := .ref tp) (C := RX4) (T := TX4) (N := 8) hx hb hts hin4 hown hK hP krd e_30 rfl 0 (by decide) (hts (.fieldLink RX4 12 "HoneyHouse$RuleReader" "tape" "LHoneyHouse$Tape;") (List.mem_of_getElem? (i := 1) rfl)) (fun _ h9 => h9) rfl dX4_readOne_15 ?_
    refine lv_bipush (v := 40) hx hb dX4_readOne_18 (by decide) ?_
    refine vp_callSi (W.runV (As := [.int 40]) (rest := []) ⟨hx, hb, hml, hown, hts⟩ (s_isByte l D ws_25 ty_26 f9 tp ktp tl ts bb kb_5 cb_6 tb_7 fb_8 40 (by unfold ltr; decide) (by unfold dgt; decide) htl hb_22 hng hp_9 e_31 e_33 u_35) (cwV 1 hts gX4_readOne_X6_isByte rfl rfl rfl (by decide +kernel) ⟨Nat.le_of_ble_eq_true rfl, Nat.le_of_ble_eq_true rfl⟩) ⟨fun a U g mk q => ⟨q.1, q.2.1, va_K.moved (u := U) (U := U.calling g mk a) (Vm.Alike.refl U.vm) q.2.2⟩, va_recv hK hP (ci := 6) (q0 := ktp) rfl e_31, fun U hU hW => ⟨rfl, by rw [hU]; exact hP, va_K.moved hW.alike hK⟩⟩ rfl rfl hl.1 rfl (lv_room (Nat.le_of_ble_eq_true rfl)) dX4_readOne_20 ⟨Nat.le_of_ble_eq_true rfl, Nat.le_of_ble_eq_true rfl⟩) (fun r_39 k_40 => ?_)
    rcases k_40 with ⟨rfl, ib_41⟩ | ⟨rfl, ib_41⟩
    · refine lv_if_ne (tgt := 31) hx hb dX4_readOne_23 (by decide) (fun c_42 => absurd (by decide) c_42) (fun c_42 => ?_)
      refine lv_aload_n hx hb dX4_readOne_26 rfl (lv_at hl 1 rfl) ?_
      have hFc := free_all hD hS hA
      refine va_calli (va_runV (As := []) (rest := []) ⟨hx, hb, hml, hown, hts⟩ (r_readTest l D ρ ws_25 ty_26 adK adV fo f9 rd krd tp ktp cd bb tl ts T nk fr fk fp vl  H.size htl hng (⟨kc_1, cc_2, tc_3, fc_4, kb_5, cb_6, tb_7, fb_8, hp_9, hT_10, e_30, e_31, wr_13, wt_14, e_32, u_34, wc_17, hc_18, e_33, u_35, wb_21, hb_22⟩ : RSX ρ ws_25 ty_26 f9 rd krd tp ktp cd bb tl ts T nk fr fk fp vl) (by omega)) (cwV 0 hts gX4_readOne_X4_readTest rfl rfl rfl (by decide +kernel) ⟨Nat.le_of_ble_eq_true rfl, Nat.le_of_ble_eq_true rfl⟩) ⟨fun a U g mk q => by obtain ⟨q0, q1, qP, qK, qD, qS⟩ := q; exact ⟨q0, q1, qP, va_K.moved (u := U) (U := U.calling g mk a) (Vm.Alike.refl U.vm) qK, qD, SZ.same rfl rfl qS⟩, va_recv hK hP (ci := 4) (q0 := krd) rfl e_30, fun U hU hW => ⟨rfl, by rw [hU], by rw [hU]; exact hP, va_K.moved hW.alike hK, hD.weaken (fun _ _ _ _ => trivial), hsz9.go hS hW hU hFc⟩⟩ rfl rfl hl.1 rfl (lv_room (Nat.le_of_ble_eq_true rfl)) dX4_readOne_27 ⟨Nat.le_of_ble_eq_true rfl, Nat.le_of_ble_eq_true rfl⟩) hS (fun q _ h => hFc q h) hFc (fun r_43 u t H1 locs ht hvm w_44 hB hz1 hk1 hS => ?_)
      subst w_44
      obtain ⟨ws_45, ty_46, hm_47, ht_49, hP1, hK1, hD1, hx_48⟩ := hB
      rw [ht] at hP1
      have hK := va_K.moved hvm.symm hK1
      have hD := hD1.weaken (fun _ _ _ h => hFc _ h)
      generalize H1 = H at hP1 hS ⊢
      have hP := hP1
      obtain ⟨g_51, e_50, h_52⟩ := hm_47.obj e_30
      obtain ⟨z_53, z_54, z_55, z_56, z_57, z_58, rfl⟩ := smX4 h_52
      obtain ⟨g_60, e_59, h_61⟩ := hm_47.obj e_31
      obtain ⟨z_62, z_63, z_64, z_65, rfl⟩ := smX6 h_61
      obtain ⟨f_67, e_66⟩ := hm_47.arrI e_32
      have u_68 := ht_49 _ _ u_34
      have e_69 := hm_47.keep (by rw [wb_21]; omega) e_33
      have u_70 := ht_49 _ _ u_35
      have hsm := hsm.tr (hm_47.mono (by decide))
      have htx := htx.tr ht_49
      obtain ⟨k_71, p_72, w_73, m_74, v_75, ht_76, ⟨rfl, hk_77, hk_78, ts_79, vl_80, hR_81⟩ | ⟨rfl, hk_77, hg_82, vl_80, hR_81⟩⟩ := hx_48
      · obtain ⟨kc_83, cc_84, tc_85, fc_86, kb_87, cb_88, tb_89, fb_90, hp_91, hT_92, er_93, et_94, wr_95, wt_96, ec_97, uc_98, wc_99, hc_100, eb_101, ub_102, wb_103, hb_104⟩ := id hR_81
        have hp_911 := hp_91.1
        have hp_91t := teF_le (f := f9) hp_91.1
        exact W.zret (v := 0) hx hb hr rfl (fun t ht hW => ⟨⟨0, 0, rfl, rfl, ws_45, ty_46, hsm, htx, by rw [ht]; exact hP, va_K.moved hW.alike hK, hD, Or.inl ⟨rfl, k_71, p_72, _, _, _, by omega, by omega, (Rch.rf _).st (st_tf (fun q9 => q9.elim ib_41 iw_37) ht_76 hk_77), (⟨kc_83, cc_84, tc_85, fc_86, kb_87, cb_88, tb_89, fb_90, hp_91, hT_92, er_93, et_94, wr_95, wt_96, ec_97, uc_98, wc_99, hc_100, eb_101, ub_102, wb_103, hb_104⟩ : RSX ρ ws_45 ty_46 f9 rd krd tp ktp cd bb tl ts_79 T nk fr (nI k_71) (nI p_72) vl_80)⟩⟩, hS.F ht⟩) hS.2.2 dX4_readOne_30
      subst hk_77
      obtain ⟨kc_105, cc_106, tc_107, fc_108, kb_109, cb_110, tb_111, fb_112, hp_113, hT_114, er_115, et_116, wr_117, wt_118, ec_119, uc_120, wc_121, hc_122, eb_123, ub_124, wb_125, hb_126⟩ := id hR_81
      have hp_1131 := hp_113.1
      have hp_113t := teF_le (f := f9) hp_113.1
      exact W.zret (v := 1) hx hb hr rfl (fun t ht hW => ⟨⟨1, 1, rfl, rfl, ws_45, ty_46, hsm, htx, by rw [ht]; exact hP, va_K.moved hW.alike hK, hD, Or.inr ⟨rfl, p_72, _, _, (Rch.rf _).st (st_te (fun q9 => q9.elim ib_41 iw_37) ht_76), by omega, by rw [len_a1]; omega, (⟨kc_105, cc_106, tc_107, fc_108, kb_109, cb_110, tb_111, fb_112, hp_113, hT_114, er_115, et_116, wr_117, wt_118, ec_119, uc_120, wc_121, hc_122, eb_123, ub_124, wb_125, hb_126⟩ : RSX ρ ws_45 ty_46 f9 rd krd tp ktp cd bb tl p_72 (T ++ [(13, w_73, m_74, v_75)]) nk fr fk fp vl_80)⟩⟩, hS.F ht⟩) hS.2.2 dX4_readOne_30
    refine lv_if_ne (tgt := 31) hx hb dX4_readOne_23 (by decide) (fun c_127 => ?_) (fun c_127 => absurd c_127 (by decide))
    have hw9 := wd_40 ib_41
    refine lv_iload_n hx hb dX4_readOne_31 rfl (lv_at hl 2 rfl) ?_
    refine lv_bipush (v := 6) hx hb dX4_readOne_32 (by decide) ?_
    refine lv_icmp_lt (tgt := 50) hx hb dX4_readOne_34 (by decide) (fun c_128 => ?_) (fun c_128 => absurd (by decide) c_128)
    refine lv_aload_n hx hb dX4_readOne_50 rfl (lv_at hl 1 rfl) ?_
    refine va_get (D := D) (ci := 4) (v := .ref tp) (C := RX4) (T := TX4) (N := 8) hx hb hts hin4 hown hK hP krd e_30 rfl 0 (by decide) (hts (.fieldLink RX4 12 "HoneyHouse$RuleReader" "tape" "LHoneyHouse$Tape;") (List.mem_of_getElem? (i := 1) rfl)) (fun _ h9 => h9) rfl dX4_readOne_51 ?_
    have hFc := free_all hD hS hA
    refine va_callv (va_runV (As := []) (rest := []) ⟨hx, hb, hml, hown, hts⟩ (a_advance l D (rz [ktp]) ws_25 ty_26 f9 tp ktp tl (teF f9 tl ts) (nI (kdF f9 tl ts)) (nI ts) bb kb_5 cb_6 tb_7 fb_8 H.size htl hb_22 hng (by omega) e_31 e_33 u_35 (rz_o1 (pl_ne e_33 e_31 (by intro h9; simp at h9))) (rz_in (by simp))) (cwV 0 hts gX4_readOne_X6_advance rfl rfl rfl (by decide +kernel) ⟨Nat.le_of_ble_eq_true rfl, Nat.le_of_ble_eq_true rfl⟩) ⟨fun a U g mk q => by obtain ⟨q0, q1, qP, qK, qD⟩ := q; exact ⟨q0, q1, qP, va_K.moved (u := U) (U := U.calling g mk a) (Vm.Alike.refl U.vm) qK, qD⟩, va_recv hK hP (ci := 6) (q0 := ktp) rfl e_31, fun U hU hW => ⟨rfl, by rw [hU], by rw [hU]; exact hP, va_K.moved hW.alike hK, hD.weaken (fun _ _ _ _ => trivial)⟩⟩ rfl rfl hl.1 rfl (lv_room (Nat.le_of_ble_eq_true rfl)) dX4_readOne_54 ⟨Nat.le_of_ble_eq_true rfl, Nat.le_of_ble_eq_true rfl⟩) hS (fun q _ h => hFc q h) hFc (fun u t H1 locs ht hvm w_130 hB hz1 hk1 hS => ?_)
    obtain ⟨ws_131, ty_132, hm_133, ht_135, hP1, hK1, hD1, hx_134⟩ := hB
    rw [ht] at hP1
    have hK := va_K.moved hvm.symm hK1
    have hD := hD1.weaken (fun _ _ _ h => hFc _ h)
    generalize H1 = H at hP1 hS ⊢
    have hP := hP1
    have e_136 := hm_133.keep (rz_o1 (pl_ne e_30 e_31 (by intro h9; simp at h9))) e_30
    have e_137 := hm_133.keep (rz_o1 (pl_ne e_32 e_31 (by intro h9; simp at h9))) e_32
    have e_138 := hm_133.keep (rz_o1 (pl_ne e_33 e_31 (by intro h9; simp at h9))) e_33
    have u_139 := ht_135 _ _ u_34
    have u_140 := ht_135 _ _ u_35
    have hm_141 : sm ρ [6] ws_25 ws_131 := hm_133.up (fun k _ h => rz_u1 wt_14 k h)
    have hsm := hsm.tr (hm_141.mono (by decide))
    have htx := htx.tr ht_135
    have e_142 : ws_131[ktp]? = some (tp, .inr (6, [.int (nI tl), .int (nI (kdF f9 tl (nxF f9 tl ts))), .int (nI (nxF f9 tl ts)), .int (nI (teF f9 tl (nxF f9 tl ts))), .ref bb])) := hx_134; have hq_143 : pcB f9 tl (nxF f9 tl ts) := nxF_pc (f := f9) hp_9.1; have hq_1431 := hq_143.1; have hq_143t := teF_le (f := f9) hq_143.1; have hg_144 := nx_gain (f := f9) hp_9.1
    refine lv_iload_n hx hb dX4_readOne_57 rfl (lv_at hl 0 rfl) ?_
    refine lv_if_ne (tgt := 86) hx hb dX4_readOne_58 (by decide) (fun c_145 => absurd (by decide) c_145) (fun c_145 => ?_)
    refine lv_aload_n hx hb dX4_readOne_61 rfl (lv_at hl 1 rfl) ?_
    refine lv_iload_n hx hb dX4_readOne_62 rfl (lv_at hl 2 rfl) ?_
    refine lv_iconst (v := 1) hx hb dX4_readOne_63 (by decide) ?_
    refine lv_iadd hx hb dX4_readOne_64 ?_
    refine tp_i (y := 6) (by decide) ?_
    have hFc := free_all hD hS hA
    refine va_calli (va_runV (As := [.int 6]) (rest := []) ⟨hx, hb, hml, hown, hts⟩ (r_readEither6 l D ρ ws_131 ty_132 adK adV fo f9 rd krd tp ktp cd bb tl (nxF f9 tl ts) T nk fr fk fp vl (12 :: σ) H.size htl hng (⟨kc_1, cc_2, tc_3, fc_4, kb_5, cb_6, tb_7, fb_8, hq_143, hT_10, e_136, e_142, wr_13, wt_14, e_137, u_139, wc_17, hc_18, e_138, u_140, wb_21, hb_22⟩ : RSX ρ ws_131 ty_132 f9 rd krd tp ktp cd bb tl (nxF f9 tl ts) T nk fr fk fp vl) (bas_12 σ) ((dep_y σ (Or.inr rfl)).trans (by omega)) (by omega)) (cwV 1 hts gX4_readOne_X4_readEither rfl rfl rfl (by decide +kernel) ⟨Nat.le_of_ble_eq_true rfl, Nat.le_of_ble_eq_true rfl⟩) ⟨fun a U g mk q => by obtain ⟨q0, q1, qP, qK, qD, qS⟩ := q; exact ⟨q0, q1, qP, va_K.moved (u := U) (U := U.calling g mk a) (Vm.Alike.refl U.vm) qK, qD, SZ.same rfl rfl qS⟩, va_recv hK hP (ci := 4) (q0 := krd) rfl e_136, fun U hU hW => ⟨rfl, by rw [hU], by rw [hU]; exact hP, va_K.moved hW.alike hK, hD.weaken (fun _ _ _ _ => trivial), hsz9.go hS hW hU hFc⟩⟩ rfl rfl hl.1 rfl (lv_room (Nat.le_of_ble_eq_true rfl)) dX4_readOne_65 ⟨Nat.le_of_ble_eq_true rfl, Nat.le_of_ble_eq_true rfl⟩) hS (fun q _ h => hFc q h) hFc (fun r_146 u t H1 locs ht hvm w_147 hB hz1 hk1 hS => ?_)
    subst w_147
    obtain ⟨ws_148, ty_149, hm_150, ht_152, hP1, hK1, hD1, hx_151⟩ := hB
    rw [ht] at hP1
    have hK := va_K.moved hvm.symm hK1
    have hD := hD1.weaken (fun _ _ _ h => hFc _ h)
    generalize H1 = H at hP1 hS ⊢
    have hP := hP1
    obtain ⟨g_154, e_153, h_155⟩ := hm_150.obj e_136
    obtain ⟨z_156, z_157, z_158, z_159, z_160, z_161, rfl⟩ := smX4 h_155
    obtain ⟨g_163, e_162, h_164⟩ := hm_150.obj e_142
    obtain ⟨z_165, z_166, z_167, z_168, rfl⟩ := smX6 h_164
    obtain ⟨f_170, e_169⟩ := hm_150.arrI e_137
    have u_171 := ht_152 _ _ u_139
    have e_172 := hm_150.keep (by rw [wb_21]; omega) e_138
    have u_173 := ht_152 _ _ u_140
    have hsm := hsm.tr (hm_150.mono (by decide))
    have htx := htx.tr ht_152
    rcases hx_151 with ⟨rfl, k_174, p_175, ts_176, T_177, vl_178, hk_179, hk_180, hr_181, hR_182⟩ | ⟨rfl, b_183, ta_184, T_177, vl_178, hr_181, hj_185, hn_186, hg_187, hg_188, hR_182⟩
    · obtain ⟨kc_189, cc_190, tc_191, fc_192, kb_193, cb_194, tb_195, fb_196, hp_197, hT_198, er_199, et_200, wr_201, wt_202, ec_203, uc_204, wc_205, hc_206, eb_207, ub_208, wb_209, hb_210⟩ := id hR_182
      have hp_1971 := hp_197.1
      have hp_197t := teF_le (f := f9) hp_197.1
      refine lv_if_eq (tgt := 84) hx hb dX4_readOne_68 (by decide) (fun c_211 => ?_) (fun c_211 => absurd (by decide) c_211)
      refine lv_iconst (v := 0) hx hb dX4_readOne_84 (by decide) ?_
      exact W.zret (v := 0) hx hb hr rfl (fun t ht hW => ⟨⟨0, 0, rfl, rfl, ws_148, ty_149, hsm, htx, by rw [ht]; exact hP, va_K.moved hW.alike hK, hD, Or.inl ⟨rfl, k_174, p_175, _, _, _, by omega, by omega, ((Rch.rf (0, ts, σ, T)).st (st_open ib_41 (by omega))).tr hr_181, (⟨kc_189, cc_190, tc_191, fc_192, kb_193, cb_194, tb_195, fb_196, hp_197, hT_198, er_199, et_200, wr_201, wt_202, ec_203, uc_204, wc_205, hc_206, eb_207, ub_208, wb_209, hb_210⟩ : RSX ρ ws_148 ty_149 f9 rd krd tp ktp cd bb tl ts_176 T_177 nk fr (nI k_174) (nI p_175) vl_178)⟩⟩, hS.F ht⟩) hS.2.2 dX4_readOne_85
    obtain ⟨kc_212, cc_213, tc_214, fc_215, kb_216, cb_217, tb_218, fb_219, hp_220, hT_221, er_222, et_223, wr_224, wt_225, ec_226, uc_227, wc_228, hc_229, eb_230, ub_231, wb_232, hb_233⟩ := id hR_182
    have hp_2201 := hp_220.1
    have hp_220t := teF_le (f := f9) hp_220.1
    refine lv_if_eq (tgt := 84) hx hb dX4_readOne_68 (by decide) (fun c_234 => absurd c_234 (by decide)) (fun c_234 => ?_)
    refine lv_aload_n hx hb dX4_readOne_71 rfl (lv_at hl 1 rfl) ?_
    refine lv_bipush (v := 41) hx hb dX4_readOne_72 (by decide) ?_
    have hFc := free_all hD hS hA
    refine va_calli (va_runV (As := [.int 41]) (rest := []) ⟨hx, hb, hml, hown, hts⟩ (r_readByte l D ρ ws_148 ty_149 adK adV fo f9 rd krd tp ktp cd bb tl b_183 (T_177 ++ eO ta_184) nk fr fk fp vl_178 41 H.size htl hng (⟨kc_212, cc_213, tc_214, fc_215, kb_216, cb_217, tb_218, fb_219, hp_220, hT_221, er_222, et_223, wr_224, wt_225, ec_226, uc_227, wc_228, hc_229, eb_230, ub_231, wb_232, hb_233⟩ : RSX ρ ws_148 ty_149 f9 rd krd tp ktp cd bb tl b_183 (T_177 ++ eO ta_184) nk fr fk fp vl_178) (by unfold ltr; decide) (by unfold dgt; decide)) (cwV 1 hts gX4_readOne_X4_readByte rfl rfl rfl (by decide +kernel) ⟨Nat.le_of_ble_eq_true rfl, Nat.le_of_ble_eq_true rfl⟩) ⟨fun a U g mk q => by obtain ⟨q0, q1, qP, qK, qD, qS⟩ := q; exact ⟨q0, q1, qP, va_K.moved (u := U) (U := U.calling g mk a) (Vm.Alike.refl U.vm) qK, qD, SZ.same rfl rfl qS⟩, va_recv hK hP (ci := 4) (q0 := krd) rfl er_222, fun U hU hW => ⟨rfl, by rw [hU], by rw [hU]; exact hP, va_K.moved hW.alike hK, hD.weaken (fun _ _ _ _ => trivial), hsz9.go hS hW hU hFc⟩⟩ rfl rfl hl.1 rfl (lv_room (Nat.le_of_ble_eq_true rfl)) dX4_readOne_74 ⟨Nat.le_of_ble_eq_true rfl, Nat.le_of_ble_eq_true rfl⟩) hS (fun q _ h => hFc q h) hFc (fun r_235 u t H1 locs ht hvm w_236 hB hz1 hk1 hS => ?_)
    subst w_236
    obtain ⟨ws_237, ty_238, hm_239, ht_241, hP1, hK1, hD1, hx_240⟩ := hB
    rw [ht] at hP1
    have hK := va_K.moved hvm.symm hK1
    have hD := hD1.weaken (fun _ _ _ h => hFc _ h)
    generalize H1 = H at hP1 hS ⊢
    have hP := hP1
    obtain ⟨g_243, e_242, h_244⟩ := hm_239.obj er_222
    obtain ⟨z_245, z_246, z_247, z_248, z_249, z_250, rfl⟩ := smX4 h_244
    obtain ⟨g_252, e_251, h_253⟩ := hm_239.obj et_223
    obtain ⟨z_254, z_255, z_256, z_257, rfl⟩ := smX6 h_253
    obtain ⟨f_259, e_258⟩ := hm_239.arrI ec_226
    have u_260 := ht_241 _ _ uc_227
    have e_261 := hm_239.keep (by rw [wb_232]; omega) eb_230
    have u_262 := ht_241 _ _ ub_231
    have hsm := hsm.tr (hm_239.mono (by decide))
    have htx := htx.tr ht_241
    rcases hx_240 with ⟨rfl, rb_263, hR_264⟩ | ⟨rfl, rb_263, hR_264⟩
    · obtain ⟨kc_265, cc_266, tc_267, fc_268, kb_269, cb_270, tb_271, fb_272, hp_273, hT_274, er_275, et_276, wr_277, wt_278, ec_279, uc_280, wc_281, hc_282, eb_283, ub_284, wb_285, hb_286⟩ := id hR_264
      have hp_2731 := hp_273.1
      have hp_273t := teF_le (f := f9) hp_273.1
      refine lv_if_eq (tgt := 84) hx hb dX4_readOne_77 (by decide) (fun c_287 => ?_) (fun c_287 => absurd (by decide) c_287)
      refine lv_iconst (v := 0) hx hb dX4_readOne_84 (by decide) ?_
      exact W.zret (v := 0) hx hb hr rfl (fun t ht hW => ⟨⟨0, 0, rfl, rfl, ws_237, ty_238, hsm, htx, by rw [ht]; exact hP, va_K.moved hW.alike hK, hD, Or.inl ⟨rfl, 1, b_183, _, _, _, by omega, by omega, (((Rch.rf (0, ts, σ, T)).st (st_open ib_41 (by omega))).tr hr_181).st (st_left hn_186 rb_263 (brk_12 hj_185)), (⟨kc_265, cc_266, tc_267, fc_268, kb_269, cb_270, tb_271, fb_272, hp_273, hT_274, er_275, et_276, wr_277, wt_278, ec_279, uc_280, wc_281, hc_282, eb_283, ub_284, wb_285, hb_286⟩ : RSX ρ ws_237 ty_238 f9 rd krd tp ktp cd bb tl b_183 (T_177 ++ eO ta_184) nk fr 1 (nI b_183) vl_178)⟩⟩, hS.F ht⟩) hS.2.2 dX4_readOne_85
    have rb_263g := nx_gain (f := f9) hp_220.1
    obtain ⟨kc_288, cc_289, tc_290, fc_291, kb_292, cb_293, tb_294, fb_295, hp_296, hT_297, er_298, et_299, wr_300, wt_301, ec_302, uc_303, wc_304, hc_305, eb_306, ub_307, wb_308, hb_309⟩ := id hR_264
    have hp_2961 := hp_296.1
    have hp_296t := teF_le (f := f9) hp_296.1
    refine lv_if_eq (tgt := 84) hx hb dX4_readOne_77 (by decide) (fun c_310 => absurd c_310 (by decide)) (fun c_310 => ?_)
    refine lv_iconst (v := 1) hx hb dX4_readOne_80 (by decide) ?_
    refine lv_goto (tgt := 85) hx hb dX4_readOne_81 (by decide) ?_
    exact W.zret (v := 1) hx hb hr rfl (fun t ht hW => ⟨⟨1, 1, rfl, rfl, ws_237, ty_238, hsm, htx, by rw [ht]; exact hP, va_K.moved hW.alike hK, hD, Or.inr ⟨rfl, nxF f9 tl b_183, _, _, rch_cl (((Rch.rf (0, ts, σ, T)).st (st_open ib_41 (by omega))).tr hr_181) hj_185 rb_263, by omega, by omega, (⟨kc_288, cc_289, tc_290, fc_291, kb_292, cb_293, tb_294, fb_295, hp_296, hT_297, er_298, et_299, wr_300, wt_301, ec_302, uc_303, wc_304, hc_305, eb_306, ub_307, wb_308, hb_309⟩ : RSX ρ ws_237 ty_238 f9 rd krd tp ktp cd bb tl (nxF f9 tl b_183) (T_177 ++ eO ta_184) nk fr fk fp vl_178)⟩⟩, hS.F ht⟩) hS.2.2 dX4_readOne_85
  have iw_37 : wdE f9 tl ts = 3 := iw_37
  refine lv_istore_n (lv' := [(2, .int 1), (0, .ref rd), (1, .int 5)]) hx hb dX4_readOne_9 rfl hl (by decide) rfl (fun ls hl => ?_)
  refine lv_iload_n hx hb dX4_readOne_10 rfl (lv_at hl 0 rfl) ?_
  refine lv_if_ne (tgt := 31) hx hb dX4_readOne_11 (by decide) (fun c_311 => ?_) (fun c_311 => absurd c_311 (by decide))
  have hw9 := nx_wd hpc9 (j := 3) (by omega) iw_37
  have hw9 : ts + 3 ≤ nxF f9 tl ts ∧ nxF f9 tl ts ≤ tl := hw9
  refine lv_iload_n hx hb dX4_readOne_31 rfl (lv_at hl 2 rfl) ?_
  refine lv_bipush (v := 6) hx hb dX4_readOne_32 (by decide) ?_
  refine lv_icmp_lt (tgt := 50) hx hb dX4_readOne_34 (by decide) (fun c_312 => ?_) (fun c_312 => absurd (by decide) c_312)
  refine lv_aload_n hx hb dX4_readOne_50 rfl (lv_at hl 1 rfl) ?_
  refine va_get (D := D) (ci := 4) (v := .ref tp) (C := RX4) (T := TX4) (N := 8) hx hb hts hin4 hown hK hP krd e_30 rfl 0 (by decide) (hts (.fieldLink RX4 12 "HoneyHouse$RuleReader" "tape" "LHoneyHouse$Tape;") (List.mem_of_getElem? (i := 1) rfl)) (fun _ h9 => h9) rfl dX4_readOne_51 ?_
  have hFc := free_all hD hS hA
  refine va_callv (va_runV (As := []) (rest := []) ⟨hx, hb, hml, hown, hts⟩ (a_advance l D (rz [ktp]) ws_25 ty_26 f9 tp ktp tl (teF f9 tl ts) (nI (kdF f9 tl ts)) (nI ts) bb kb_5 cb_6 tb_7 fb_8 H.size htl hb_22 hng (by omega) e_31 e_33 u_35 (rz_o1 (pl_ne e_33 e_31 (by intro h9; simp at h9))) (rz_in (by simp))) (cwV 0 hts gX4_readOne_X6_advance rfl rfl rfl (by decide +kernel) ⟨Nat.le_of_ble_eq_true rfl, Nat.le_of_ble_eq_true rfl⟩) ⟨fun a U g mk q => by obtain ⟨q0, q1, qP, qK, qD⟩ := q; exact ⟨q0, q1, qP, va_K.moved (u := U) (U := U.calling g mk a) (Vm.Alike.refl U.vm) qK, qD⟩, va_recv hK hP (ci := 6) (q0 := ktp) rfl e_31, fun U hU hW => ⟨rfl, by rw [hU], by rw [hU]; exact hP, va_K.moved hW.alike hK, hD.weaken (fun _ _ _ _ => trivial)⟩⟩ rfl rfl hl.1 rfl (lv_room (Nat.le_of_ble_eq_true rfl)) dX4_readOne_54 ⟨Nat.le_of_ble_eq_true rfl, Nat.le_of_ble_eq_true rfl⟩) hS (fun q _ h => hFc q h) hFc (fun u t H1 locs ht hvm w_314 hB hz1 hk1 hS => ?_)
  obtain ⟨ws_315, ty_316, hm_317, ht_319, hP1, hK1, hD1, hx_318⟩ := hB
  rw [ht] at hP1
  have hK := va_K.moved hvm.symm hK1
  have hD := hD1.weaken (fun _ _ _ h => hFc _ h)
  generalize H1 = H at hP1 hS ⊢
  have hP := hP1
  have e_320 := hm_317.keep (rz_o1 (pl_ne e_30 e_31 (by intro h9; simp at h9))) e_30
  have e_321 := hm_317.keep (rz_o1 (pl_ne e_32 e_31 (by intro h9; simp at h9))) e_32
  have e_322 := hm_317.keep (rz_o1 (pl_ne e_33 e_31 (by intro h9; simp at h9))) e_33
  have u_323 := ht_319 _ _ u_34
  have u_324 := ht_319 _ _ u_35
  have hm_325 : sm ρ [6] ws_25 ws_315 := hm_317.up (fun k _ h => rz_u1 wt_14 k h)
  have hsm := hsm.tr (hm_325.mono (by decide))
  have htx := htx.tr ht_319
  have e_326 : ws_315[ktp]? = some (tp, .inr (6, [.int (nI tl), .int (nI (kdF f9 tl (nxF f9 tl ts))), .int (nI (nxF f9 tl ts)), .int (nI (teF f9 tl (nxF f9 tl ts))), .ref bb])) := hx_318; have hq_327 : pcB f9 tl (nxF f9 tl ts) := nxF_pc (f := f9) hp_9.1; have hq_3271 := hq_327.1; have hq_327t := teF_le (f := f9) hq_327.1; have hg_328 := nx_gain (f := f9) hp_9.1
  refine lv_iload_n hx hb dX4_readOne_57 rfl (lv_at hl 0 rfl) ?_
  refine lv_if_ne (tgt := 86) hx hb dX4_readOne_58 (by decide) (fun c_329 => ?_) (fun c_329 => absurd c_329 (by decide))
  refine lv_aload_n hx hb dX4_readOne_86 rfl (lv_at hl 1 rfl) ?_
  refine lv_iload_n hx hb dX4_readOne_87 rfl (lv_at hl 2 rfl) ?_
  refine lv_iconst (v := 1) hx hb dX4_readOne_88 (by decide) ?_
  refine lv_iadd hx hb dX4_readOne_89 ?_
  refine tp_i (y := 6) (by decide) ?_
  have hFc := free_all hD hS hA
  refine va_calli (va_runV (As := [.int 6]) (rest := []) ⟨hx, hb, hml, hown, hts⟩ (r_readOne6 l D ρ ws_315 ty_316 adK adV fo f9 rd krd tp ktp cd bb tl (nxF f9 tl ts) T nk fr fk fp vl (3 :: σ) H.size htl hng (⟨kc_1, cc_2, tc_3, fc_4, kb_5, cb_6, tb_7, fb_8, hq_327, hT_10, e_320, e_326, wr_13, wt_14, e_321, u_323, wc_17, hc_18, e_322, u_324, wb_21, hb_22⟩ : RSX ρ ws_315 ty_316 f9 rd krd tp ktp cd bb tl (nxF f9 tl ts) T nk fr fk fp vl) ((dep_y σ (Or.inl rfl)).trans (by omega)) (by omega)) (cwV 1 hts gX4_readOne_X4_readOne rfl rfl rfl (by decide +kernel) ⟨Nat.le_of_ble_eq_true rfl, Nat.le_of_ble_eq_true rfl⟩) ⟨fun a U g mk q => by obtain ⟨q0, q1, qP, qK, qD, qS⟩ := q; exact ⟨q0, q1, qP, va_K.moved (u := U) (U := U.calling g mk a) (Vm.Alike.refl U.vm) qK, qD, SZ.same rfl rfl qS⟩, va_recv hK hP (ci := 4) (q0 := krd) rfl e_320, fun U hU hW => ⟨rfl, by rw [hU], by rw [hU]; exact hP, va_K.moved hW.alike hK, hD.weaken (fun _ _ _ _ => trivial), hsz9.go hS hW hU hFc⟩⟩ rfl rfl hl.1 rfl (lv_room (Nat.le_of_ble_eq_true rfl)) dX4_readOne_90 ⟨Nat.le_of_ble_eq_true rfl, Nat.le_of_ble_eq_true rfl⟩) hS (fun q _ h => hFc q h) hFc (fun r_330 u t H1 locs ht hvm w_331 hB hz1 hk1 hS => ?_)
  subst w_331
  obtain ⟨ws_332, ty_333, hm_334, ht_336, hP1, hK1, hD1, hx_335⟩ := hB
  rw [ht] at hP1
  have hK := va_K.moved hvm.symm hK1
  have hD := hD1.weaken (fun _ _ _ h => hFc _ h)
  generalize H1 = H at hP1 hS ⊢
  have hP := hP1
  obtain ⟨g_338, e_337, h_339⟩ := hm_334.obj e_320
  obtain ⟨z_340, z_341, z_342, z_343, z_344, z_345, rfl⟩ := smX4 h_339
  obtain ⟨g_347, e_346, h_348⟩ := hm_334.obj e_326
  obtain ⟨z_349, z_350, z_351, z_352, rfl⟩ := smX6 h_348
  obtain ⟨f_354, e_353⟩ := hm_334.arrI e_321
  have u_355 := ht_336 _ _ u_323
  have e_356 := hm_334.keep (by rw [wb_21]; omega) e_322
  have u_357 := ht_336 _ _ u_324
  have hsm := hsm.tr (hm_334.mono (by decide))
  have htx := htx.tr ht_336
  rcases hx_335 with ⟨rfl, k_358, p_359, ts_360, T_361, vl_362, hk_363, hk_364, hr_365, hR_366⟩ | ⟨rfl, b_367, T_361, vl_362, hr_365, hg_371, hg_372, hR_366⟩
  · obtain ⟨kc_373, cc_374, tc_375, fc_376, kb_377, cb_378, tb_379, fb_380, hp_381, hT_382, er_383, et_384, wr_385, wt_386, ec_387, uc_388, wc_389, hc_390, eb_391, ub_392, wb_393, hb_394⟩ := id hR_366
    have hp_3811 := hp_381.1
    have hp_381t := teF_le (f := f9) hp_381.1
    refine lv_istore_n (lv' := [(3, .int 0), (2, .int 1), (0, .ref rd), (1, .int 5)]) hx hb dX4_readOne_93 rfl hl (by decide) rfl (fun ls hl => ?_)
    refine lv_aload_n hx hb dX4_readOne_94 rfl (lv_at hl 2 rfl) ?_
    refine lv_iconst (v := (-1)) hx hb dX4_readOne_95 (by decide) ?_
    have hFc := free_all hD hS hA
    refine va_callv (va_runV (As := [.int (-1)]) (rest := []) ⟨hx, hb, hml, hown, hts⟩ (r_addCode l D ρ ws_332 ty_333 adK adV fo f9 rd krd tp ktp cd bb tl ts_360 T_361 nk fr (nI k_358) (nI p_359) vl_362 (3, 0, 0, 0) (-1) H.size htl hng (⟨kc_373, cc_374, tc_375, fc_376, kb_377, cb_378, tb_379, fb_380, hp_381, hT_382, er_383, et_384, wr_385, wt_386, ec_387, uc_388, wc_389, hc_390, eb_391, ub_392, wb_393, hb_394⟩ : RSX ρ ws_332 ty_333 f9 rd krd tp ktp cd bb tl ts_360 T_361 nk fr (nI k_358) (nI p_359) vl_362) rfl) (cwV 1 hts gX4_readOne_X4_addCode rfl rfl rfl (by decide +kernel) ⟨Nat.le_of_ble_eq_true rfl, Nat.le_of_ble_eq_true rfl⟩) ⟨fun a U g mk q => by obtain ⟨q0, q1, qP, qK, qD, qS⟩ := q; exact ⟨q0, q1, qP, va_K.moved (u := U) (U := U.calling g mk a) (Vm.Alike.refl U.vm) qK, qD, SZ.same rfl rfl qS⟩, va_recv hK hP (ci := 4) (q0 := krd) rfl er_383, fun U hU hW => ⟨rfl, by rw [hU], by rw [hU]; exact hP, va_K.moved hW.alike hK, hD.weaken (fun _ _ _ _ => trivial), hsz9.go hS hW hU hFc⟩⟩ rfl rfl hl.1 rfl (lv_room (Nat.le_of_ble_eq_true rfl)) dX4_readOne_96 ⟨Nat.le_of_ble_eq_true rfl, Nat.le_of_ble_eq_true rfl⟩) hS (fun q _ h => hFc q h) hFc (fun u t H1 locs ht hvm w_396 hB hz1 hk1 hS => ?_)
    obtain ⟨ws_397, ty_398, hm_399, ht_401, hP1, hK1, hD1, hx_400⟩ := hB
    rw [ht] at hP1
    have hK := va_K.moved hvm.symm hK1
    have hD := hD1.weaken (fun _ _ _ h => hFc _ h)
    generalize H1 = H at hP1 hS ⊢
    have hP := hP1
    obtain ⟨g_403, e_402, h_404⟩ := hm_399.obj er_383
    obtain ⟨z_405, z_406, z_407, z_408, z_409, z_410, rfl⟩ := smX4 h_404
    obtain ⟨g_412, e_411, h_413⟩ := hm_399.obj et_384
    obtain ⟨z_414, z_415, z_416, z_417, rfl⟩ := smX6 h_413
    obtain ⟨f_419, e_418⟩ := hm_399.arrI ec_387
    have u_420 := ht_401 _ _ uc_388
    have e_421 := hm_399.keep (by rw [wb_393]; omega) eb_391
    have u_422 := ht_401 _ _ ub_392
    have hsm := hsm.tr (hm_399.mono (by decide))
    have htx := htx.tr ht_401
    rcases hx_400 with ⟨hl_423, hR_424⟩ | ⟨hl_423, hR_424⟩
    · obtain ⟨kc_425, cc_426, tc_427, fc_428, kb_429, cb_430, tb_431, fb_432, hp_433, hT_434, er_435, et_436, wr_437, wt_438, ec_439, uc_440, wc_441, hc_442, eb_443, ub_444, wb_445, hb_446⟩ := id hR_424
      have hp_4331 := hp_433.1
      have hp_433t := teF_le (f := f9) hp_433.1
      refine lv_iload_n hx hb dX4_readOne_99 rfl (lv_at hl 0 rfl) ?_
      exact W.zret (v := 0) hx hb hr rfl (fun t ht hW => ⟨⟨0, 0, rfl, rfl, ws_397, ty_398, hsm, htx, by rw [ht]; exact hP, va_K.moved hW.alike hK, hD, Or.inl ⟨rfl, k_358, p_359, _, _, _, by omega, by omega, ((Rch.rf (0, ts, σ, T)).st (st_not iw_37 (by omega))).tr hr_365, (⟨kc_425, cc_426, tc_427, fc_428, kb_429, cb_430, tb_431, fb_432, hp_433, hT_434, er_435, et_436, wr_437, wt_438, ec_439, uc_440, wc_441, hc_442, eb_443, ub_444, wb_445, hb_446⟩ : RSX ρ ws_397 ty_398 f9 rd krd tp ktp cd bb tl ts_360 (T_361 ++ [(3, 0, 0, 0)]) nk fr (nI k_358) (nI p_359) vl_362)⟩⟩, hS.F ht⟩) hS.2.2 dX4_readOne_100
    obtain ⟨kc_447, cc_448, tc_449, fc_450, kb_451, cb_452, tb_453, fb_454, hp_455, hT_456, er_457, et_458, wr_459, wt_460, ec_461, uc_462, wc_463, hc_464, eb_465, ub_466, wb_467, hb_468⟩ := id hR_424
    have hp_4551 := hp_455.1
    have hp_455t := teF_le (f := f9) hp_455.1
    refine lv_iload_n hx hb dX4_readOne_99 rfl (lv_at hl 0 rfl) ?_
    exact W.zret (v := 0) hx hb hr rfl (fun t ht hW => ⟨⟨0, 0, rfl, rfl, ws_397, ty_398, hsm, htx, by rw [ht]; exact hP, va_K.moved hW.alike hK, hD, Or.inl ⟨rfl, k_358, p_359, _, _, _, by omega, by omega, ((Rch.rf (0, ts, σ, T)).st (st_not iw_37 (by omega))).tr hr_365, (⟨kc_447, cc_448, tc_449, fc_450, kb_451, cb_452, tb_453, fb_454, hp_455, hT_456, er_457, et_458, wr_459, wt_460, ec_461, uc_462, wc_463, hc_464, eb_465, ub_466, wb_467, hb_468⟩ : RSX ρ ws_397 ty_398 f9 rd krd tp ktp cd bb tl ts_360 T_361 nk fr (nI k_358) (nI p_359) vl_362)⟩⟩, hS.F ht⟩) hS.2.2 dX4_readOne_100
  obtain ⟨kc_469, cc_470, tc_471, fc_472, kb_473, cb_474, tb_475, fb_476, hp_477, hT_478, er_479, et_480, wr_481, wt_482, ec_483, uc_484, wc_485, hc_486, eb_487, ub_488, wb_489, hb_490⟩ := id hR_366
  have hp_4771 := hp_477.1
  have hp_477t := teF_le (f := f9) hp_477.1
  refine lv_istore_n (lv' := [(3, .int 1), (2, .int 1), (0, .ref rd), (1, .int 5)]) hx hb dX4_readOne_93 rfl hl (by decide) rfl (fun ls hl => ?_)
  refine lv_aload_n hx hb dX4_readOne_94 rfl (lv_at hl 2 rfl) ?_
  refine lv_iconst (v := (-1)) hx hb dX4_readOne_95 (by decide) ?_
  have hFc := free_all hD hS hA
  refine va_callv (va_runV (As := [.int (-1)]) (rest := []) ⟨hx, hb, hml, hown, hts⟩ (r_addCode l D ρ ws_332 ty_333 adK adV fo f9 rd krd tp ktp cd bb tl b_367 T_361 nk fr fk fp vl_362 (3, 0, 0, 0) (-1) H.size htl hng (⟨kc_469, cc_470, tc_471, fc_472, kb_473, cb_474, tb_475, fb_476, hp_477, hT_478, er_479, et_480, wr_481, wt_482, ec_483, uc_484, wc_485, hc_486, eb_487, ub_488, wb_489, hb_490⟩ : RSX ρ ws_332 ty_333 f9 rd krd tp ktp cd bb tl b_367 T_361 nk fr fk fp vl_362) rfl) (cwV 1 hts gX4_readOne_X4_addCode rfl rfl rfl (by decide +kernel) ⟨Nat.le_of_ble_eq_true rfl, Nat.le_of_ble_eq_true rfl⟩) ⟨fun a U g mk q => by obtain ⟨q0, q1, qP, qK, qD, qS⟩ := q; exact ⟨q0, q1, qP, va_K.moved (u := U) (U := U.calling g mk a) (Vm.Alike.refl U.vm) qK, qD, SZ.same rfl rfl qS⟩, va_recv hK hP (ci := 4) (q0 := krd) rfl er_479, fun U hU hW => ⟨rfl, by rw [hU], by rw [hU]; exact hP, va_K.moved hW.alike hK, hD.weaken (fun _ _ _ _ => trivial), hsz9.go hS hW hU hFc⟩⟩ rfl rfl hl.1 rfl (lv_room (Nat.le_of_ble_eq_true rfl)) dX4_readOne_96 ⟨Nat.le_of_ble_eq_true rfl, Nat.le_of_ble_eq_true rfl⟩) hS (fun q _ h => hFc q h) hFc (fun u t H1 locs ht hvm w_492 hB hz1 hk1 hS => ?_)
  obtain ⟨ws_493, ty_494, hm_495, ht_497, hP1, hK1, hD1, hx_496⟩ := hB
  rw [ht] at hP1
  have hK := va_K.moved hvm.symm hK1
  have hD := hD1.weaken (fun _ _ _ h => hFc _ h)
  generalize H1 = H at hP1 hS ⊢
  have hP := hP1
  obtain ⟨g_499, e_498, h_500⟩ := hm_495.obj er_479
  obtain ⟨z_501, z_502, z_503, z_504, z_505, z_506, rfl⟩ := smX4 h_500
  obtain ⟨g_508, e_507, h_509⟩ := hm_495.obj et_480
  obtain ⟨z_510, z_511, z_512, z_513, rfl⟩ := smX6 h_509
  obtain ⟨f_515, e_514⟩ := hm_495.arrI ec_483
  have u_516 := ht_497 _ _ uc_484
  have e_517 := hm_495.keep (by rw [wb_489]; omega) eb_487
  have u_518 := ht_497 _ _ ub_488
  have hsm := hsm.tr (hm_495.mono (by decide))
  have htx := htx.tr ht_497
  obtain ⟨hl_519, hR_520⟩ := hx_496.resolve_right (fun h9 => h9.1 (by omega))
  obtain ⟨kc_521, cc_522, tc_523, fc_524, kb_525, cb_526, tb_527, fb_528, hp_529, hT_530, er_531, et_532, wr_533, wt_534, ec_535, uc_536, wc_537, hc_538, eb_539, ub_540, wb_541, hb_542⟩ := id hR_520
  have hp_5291 := hp_529.1
  have hp_529t := teF_le (f := f9) hp_529.1
  refine lv_iload_n hx hb dX4_readOne_99 rfl (lv_at hl 0 rfl) ?_
  exact W.zret (v := 1) hx hb hr rfl (fun t ht hW => ⟨⟨1, 1, rfl, rfl, ws_493, ty_494, hsm, htx, by rw [ht]; exact hP, va_K.moved hW.alike hK, hD, Or.inr ⟨rfl, b_367, _, _, rch_no (((Rch.rf (0, ts, σ, T)).st (st_not iw_37 (by omega))).tr hr_365), by omega, by rw [len_a1]; omega, (⟨kc_521, cc_522, tc_523, fc_524, kb_525, cb_526, tb_527, fb_528, hp_529, hT_530, er_531, et_532, wr_533, wt_534, ec_535, uc_536, wc_537, hc_538, eb_539, ub_540, wb_541, hb_542⟩ : RSX ρ ws_493 ty_494 f9 rd krd tp ktp cd bb tl b_367 (T_361 ++ [(3, 0, 0, 0)]) nk fr fk fp vl_362)⟩⟩, hS.F ht⟩) hS.2.2 dX4_readOne_100
set_option maxHeartbeats 4000000 in
set_option maxRecDepth 100000 in
theorem r_readEither5 (l : Launch) (D : va_G) (ρ : Nat → Nat) (ws : va_W) (tys : List (ClassId × FieldType)) (adK adV : Nat → Nat) (fo : Option Nat) (f9 : Nat → Int32) (rd krd tp ktp cd bb tl ts : Nat) (T : List Tk) (nk : Int64) (fr fk fp vl : Int32) (σ : List Nat) (sz : Nat) (htl : tl ≤ 400) (hng : ∀ i : Nat, i < tl → ¬ f9 i = -1) (R0 : RSX ρ ws tys f9 rd krd tp ktp cd bb tl ts T nk fr fk fp vl) (hbs : bas σ) (hdp : dep σ = 5) (hT2 : 2 * T.length ≤ ts) : Met l yX4_readEither wsX4_readEither ({ frames := 10, cells := 0, slots := 0, locals := 220 }) (va_Pc [.ref rd, .int 5] (fun U => U.heap.size = sz ∧ va_P D vwCl ws U.heap ∧ va_K D vwCl tys U ∧ va_D (fun _ => True) ws ∧ SZ adK adV fo (va_A ws sz) U U.heap)) (va_Qi (fun (r : Int32) (s9 : Int32) => r = s9) (fun (s9 : Int32) (t : State) => ∃ (ws' : va_W) (tys' : List (ClassId × FieldType)), sm ρ [4, 6] ws ws' ∧ tyx tys tys' ∧ va_P D vwCl ws' t.heap ∧ va_K D vwCl tys' t ∧ va_D (va_A ws sz) ws' ∧ ((s9 = 0 ∧ FLT ρ ws' tys' f9 rd krd tp ktp cd bb tl (0, ts, σ, T) nk fr) ∨ (s9 = 1 ∧ EIT ρ ws' tys' f9 rd krd tp ktp cd bb tl ts σ T nk fr fk fp))) (va_A ws sz)) 0 0 (va_A ws sz) := by
  refine Met.ofW (cc := cX4_readEither) (maxL := 6) (ret := (some .boolean)) (by decide) rfl ?_
  intro p e s m args below meth c s₁ B hml hv
  obtain ⟨rfl, hsz, hP, hK, hD0, hsz9⟩ := hv
  have hx := B.exec
  have hb := B.bytes
  have hr := B.returns
  have hts := atoms_spec (ws := wsX4_readEither) B.pre
  have hown : s.vm.findClass RX4 = some m.cls := findClass_of_methodNamed B.named
  have hlocks := B.notSynchronized
  subst hsz
  have hD := hD0.self (sz := s.heap.size)
  generalize hAe : va_A ws s.heap.size = A at hD hsz9 ⊢
  have hA : ∀ q : Nat, s.heap.size ≤ q → A q := fun q h => by rw [← hAe]; exact Or.inr h
  have hS : va_S A s.heap s.heap [] := va_S.rf
  have hsm : sm ρ [4, 6] ws ws := sm.rf ws
  have htx : tyx tys tys := tyx.rf tys
  have hin4 : ∀ w ∈ u_ws RX4 TX4 8, w ∈ wsX4_readEither := (fun _ h9 => List.mem_cons_of_mem _ (List.mem_append_left _ ((List.mem_append_right _ h9))))
  have hl := lv_entry ([.ref rd, .int 5]) (n := 6) (Nat.le_of_ble_eq_true rfl)
  rw [lg_entry_eq]
  generalize (lg_sl ([.ref rd, .int 5]) ++ List.replicate (6 - (lg_sl ([.ref rd, .int 5])).length) Slot.unset).toArray = ls at hl ⊢
  have hl : lv_has ls 6 [(0, .ref rd), (1, .int 5)] := hl
  obtain ⟨kc_1, cc_2, tc_3, fc_4, kb_5, cb_6, tb_7, fb_8, hp_9, hT_10, er_11, et_12, wr_13, wt_14, ec_15, uc_16, wc_17, hc_18, eb_19, ub_20, wb_21, hb_22⟩ := id R0
  have hp_91 := hp_9.1
  have hp_9t := teF_le (f := f9) hp_9.1
  refine lv_aload_n hx hb dX4_readEither_0 rfl (lv_at hl 0 rfl) ?_
  refine lv_iload_n hx hb dX4_readEither_1 rfl (lv_at hl 1 rfl) ?_
  have hFc := free_all hD hS hA
  refine va_calli (va_runV (As := [.int 5]) (rest := []) ⟨hx, hb, hml, hown, hts⟩ (r_readOne5 l D ρ ws tys adK adV fo f9 rd krd tp ktp cd bb tl ts T nk fr fk fp vl σ s.heap.size htl hng (⟨kc_1, cc_2, tc_3, fc_4, kb_5, cb_6, tb_7, fb_8, hp_9, hT_10, er_11, et_12, wr_13, wt_14, ec_15, uc_16, wc_17, hc_18, eb_19, ub_20, wb_21, hb_22⟩ : RSX ρ ws tys f9 rd krd tp ktp cd bb tl ts T nk fr fk fp vl) hdp (by omega)) (cwV 1 hts gX4_readEither_X4_readOne rfl rfl rfl (by decide +kernel) ⟨Nat.le_of_ble_eq_true rfl, Nat.le_of_ble_eq_true rfl⟩) ⟨fun a U g mk q => by obtain ⟨q0, q1, qP, qK, qD, qS⟩ := q; exact ⟨q0, q1, qP, va_K.moved (u := U) (U := U.calling g mk a) (Vm.Alike.refl U.vm) qK, qD, SZ.same rfl rfl qS⟩, va_recv hK hP (ci := 4) (q0 := krd) rfl er_11, fun U hU hW => ⟨rfl, by rw [hU], by rw [hU]; exact hP, va_K.moved hW.alike hK, hD.weaken (fun _ _ _ _ => trivial), hsz9.go hS hW hU hFc⟩⟩ rfl rfl hl.1 rfl (lv_room (Nat.le_of_ble_eq_true rfl)) dX4_readEither_2 ⟨Nat.le_of_ble_eq_true rfl, Nat.le_of_ble_eq_true rfl⟩) hS (fun q _ h => hFc q h) hFc (fun r_23 u t H1 locs ht hvm w_24 hB hz1 hk1 hS => ?_)
  subst w_24
  obtain ⟨ws_25, ty_26, hm_27, ht_29, hP1, hK1, hD1, hx_28⟩ := hB
  rw [ht] at hP1
  have hK := va_K.moved hvm.symm hK1
  have hD := hD1.weaken (fun _ _ _ h => hFc _ h)
  generalize H1 = H at hP1 hS ⊢
  have hP := hP1
  obtain ⟨g_31, e_30, h_32⟩ := hm_27.obj er_11
  obtain ⟨z_33, z_34, z_35, z_36, z_37, z_38, rfl⟩ := smX4 h_32
  obtain ⟨g_40, e_39, h_41⟩ := hm_27.obj et_12
  obtain ⟨z_42, z_43, z_44, z_45, rfl⟩ := smX6 h_41
  obtain ⟨f_47, e_46⟩ := hm_27.arrI ec_15
  have u_48 := ht_29 _ _ uc_16
  have e_49 := hm_27.keep (by rw [wb_21]; omega) eb_19
  have u_50 := ht_29 _ _ ub_20
  have hsm := hsm.tr (hm_27.mono (by decide))
  have htx := htx.tr ht_29
  refine lv_istore_n (lv' := [(2, .int r_23), (0, .ref rd), (1, .int 5)]) hx hb dX4_readEither_5 rfl hl (by decide) rfl (fun ls hl => ?_)
  refine lv_iconst (v := 0) hx hb dX4_readEither_6 (by decide) ?_
  refine lv_istore_n (lv' := [(3, .int 0), (2, .int r_23), (0, .ref rd), (1, .int 5)]) hx hb dX4_readEither_7 rfl hl (by decide) rfl (fun ls hl => ?_)
  refine lv_iconst (v := 0) hx hb dX4_readEither_8 (by decide) ?_
  refine lv_istore (lv' := [(4, .int 0), (3, .int 0), (2, .int r_23), (0, .ref rd), (1, .int 5)]) hx hb dX4_readEither_9 hl (by decide) rfl (fun ls hl => ?_)
  refine lp_V (nL := 6) (σ := Nat × Int32 × Int32) (lv := fun x9 => [(4, .int (nI x9.1)), (2, .int x9.2.1), (3, .int x9.2.2), (1, .int 5), (0, .ref rd)]) (μ := fun x9 => 400 - x9.1) (J := fun x9 ws9 => sm ρ [4, 6] ws_25 ws9 ∧ (∃ ty9 : List (ClassId × FieldType), va_K D vwCl ty9 s ∧ tyx tys ty9 ∧ ((x9.2.1 = 1 ∧ (x9.2.2 = 0 ∨ x9.2.2 = 1) ∧ LPE ρ ws9 ty9 f9 rd krd tp ktp cd bb tl ts σ T nk fr fk fp x9.1 x9.2.2) ∨ (x9.2.1 = 0 ∧ (x9.2.2 = 0 ∨ x9.2.2 = 1) ∧ FLT ρ ws9 ty9 f9 rd krd tp ktp cd bb tl (0, ts, σ, T) nk fr))) ∧ (x9.1 ≤ 400)) (fun x9 ws_56 H locs ls hj hP hD hS hl ih_51 => ?_) (0, r_23, 0) ws_25 _ _ ls ⟨sm.rf _, ⟨ty_26, hK, htx, by rcases hx_28 with ⟨h0, h⟩ | ⟨h0, b9, T9, vl, hr, g1, g2, h⟩; exact Or.inr ⟨h0, Or.inl rfl, h⟩; exact Or.inl ⟨h0, Or.inl rfl, ⟨b9, σ, T9, vl, rch_bs hbs hr, ow_0 hbs, by omega, fun (h9 : (0 : Int32) = 1) => absurd h9 (by decide), fun _ => by rw [hbs.fx.2.2.2.1, List.append_nil]; omega, by rw [hbs.fx.2.2.2.1, List.append_nil]; exact h⟩⟩⟩, (show 0 ≤ 400 from by omega)⟩ hP hD hS (lv_sub hl [0, 2, 1, 4, 3] rfl)
  obtain ⟨i_52, x_53, y_54⟩ := x9
  replace hj : sm ρ [4, 6] ws_25 ws_56 ∧ (∃ ty9 : List (ClassId × FieldType), va_K D vwCl ty9 s ∧ tyx tys ty9 ∧ ((x_53 = 1 ∧ (y_54 = 0 ∨ y_54 = 1) ∧ LPE ρ ws_56 ty9 f9 rd krd tp ktp cd bb tl ts σ T nk fr fk fp i_52 y_54) ∨ (x_53 = 0 ∧ (y_54 = 0 ∨ y_54 = 1) ∧ FLT ρ ws_56 ty9 f9 rd krd tp ktp cd bb tl (0, ts, σ, T) nk fr))) ∧ (i_52 ≤ 400) := hj
  obtain ⟨hm_57, hR_59, hi_55⟩ := hj
  obtain ⟨g_61, e_60, h_62⟩ := hm_57.obj e_30
  obtain ⟨z_63, z_64, z_65, z_66, z_67, z_68, rfl⟩ := smX4 h_62
  obtain ⟨g_70, e_69, h_71⟩ := hm_57.obj e_39
  obtain ⟨z_72, z_73, z_74, z_75, rfl⟩ := smX6 h_71
  obtain ⟨f_77, e_76⟩ := hm_57.arrI e_46
  have e_78 := hm_57.keep (by rw [wb_21]; omega) e_49
  have hsm := hsm.tr (hm_57.mono (by decide))
  have hlp_58 := hm_57
  have hl : lv_has ls 6 [(4, .int (nI i_52)), (2, .int x_53), (3, .int y_54), (1, .int 5), (0, .ref rd)] := hl
  refine lv_iload hx hb dX4_readEither_11 (lv_at hl 0 rfl) ?_
  obtain ⟨ty_79, hK, htx, hR_80⟩ := hR_59
  rcases hR_80 with ⟨rfl, rfl | rfl, b_81, ta_82, T_83, vl_84, hr_85, ow_86, gi_87, ga_88, gb_89, hR_90⟩ | ⟨rfl, rfl | rfl, k_91, p_92, ts_93, T_83, vl_84, hk_94, hk_95, hr_85, hR_90⟩
  · have gb_89 := gb_89 rfl
    obtain ⟨kc_96, cc_97, tc_98, fc_99, kb_100, cb_101, tb_102, fb_103, hp_104, hT_105, er_106, et_107, wr_108, wt_109, ec_110, uc_111, wc_112, hc_113, eb_114, ub_115, wb_116, hb_117⟩ := id hR_90
    have hp_1041 := hp_104.1
    have hp_104t := teF_le (f := f9) hp_104.1
    refine lv_sipush (v := 400) hx hb dX4_readEither_13 (by decide) ?_
    refine lv_icmp_ge (tgt := 101) hx hb dX4_readEither_16 (by decide) (fun c_118 => ?_) (fun c_118 => ?_)
    · have d_119 := n_le (a := 400) (b := i_52) (by omega) (by omega) c_118
      refine lv_iload_n hx hb dX4_readEither_101 rfl (lv_at hl 2 rfl) ?_
      refine lv_if_eq (tgt := 111) hx hb dX4_readEither_102 (by decide) (fun c_120 => ?_) (fun c_120 => absurd (by decide) c_120)
      refine lv_iload_n hx hb dX4_readEither_111 rfl (lv_at hl 1 rfl) ?_
      exact W.zret (v := 1) hx hb hr rfl (fun t ht hW => ⟨⟨1, 1, rfl, rfl, ws_56, ty_79, hsm, htx, by rw [ht]; exact hP, va_K.moved hW.alike hK, hD, (by exfalso; omega)⟩, hS.F ht⟩) hS.2.2 dX4_readEither_112
    have d_121 := n_nle (a := 400) (b := i_52) (by omega) (by omega) c_118
    refine lv_iload_n hx hb dX4_readEither_19 rfl (lv_at hl 1 rfl) ?_
    refine lv_if_eq (tgt := 101) hx hb dX4_readEither_20 (by decide) (fun c_122 => absurd c_122 (by decide)) (fun c_122 => ?_)
    refine lv_aload_n hx hb dX4_readEither_23 rfl (lv_at hl 4 rfl) ?_
    have hFc := free_all hD hS hA
    refine va_calli (va_runV (As := []) (rest := []) ⟨hx, hb, hml, hown, hts⟩ (r_isAndOr l D (rz []) ws_56 ty_79 adK adV fo f9 rd krd tp ktp cd tl b_81 nk fr fk fp (nI (T_83 ++ eA ta_82).length) vl_84 bb kb_100 cb_101 tb_102 fb_103 H.size er_106 htl hb_117 hng hp_104 et_107 eb_114 ub_115 rz_o0) (cwV 0 hts gX4_readEither_X4_isAndOr rfl rfl rfl (by decide +kernel) ⟨Nat.le_of_ble_eq_true rfl, Nat.le_of_ble_eq_true rfl⟩) ⟨fun a U g mk q => by obtain ⟨q0, q1, qP, qK, qD, qS⟩ := q; exact ⟨q0, q1, qP, va_K.moved (u := U) (U := U.calling g mk a) (Vm.Alike.refl U.vm) qK, qD, SZ.same rfl rfl qS⟩, va_recv hK hP (ci := 4) (q0 := krd) rfl er_106, fun U hU hW => ⟨rfl, by rw [hU], by rw [hU]; exact hP, va_K.moved hW.alike hK, hD.weaken (fun _ _ _ _ => trivial), hsz9.go hS hW hU hFc⟩⟩ rfl rfl hl.1 rfl (lv_room (Nat.le_of_ble_eq_true rfl)) dX4_readEither_24 ⟨Nat.le_of_ble_eq_true rfl, Nat.le_of_ble_eq_true rfl⟩) hS (fun q _ h => hFc q h) hFc (fun r_123 u t H1 locs ht hvm w_124 hB hz1 hk1 hS => ?_)
    obtain ⟨ws_125, ty_126, hm_127, ht_129, hP1, hK1, hD1, hx_128⟩ := hB
    rw [ht] at hP1
    have hK := va_K.moved hvm.symm hK1
    have hD := hD1.weaken (fun _ _ _ h => hFc _ h)
    generalize H1 = H at hP1 hS ⊢
    have hP := hP1
    have e_130 := hm_127.keep rz_o0 er_106
    have e_131 := hm_127.keep rz_o0 et_107
    have e_132 := hm_127.keep rz_o0 ec_110
    have e_133 := hm_127.keep rz_o0 eb_114
    have u_134 := ht_129 _ _ uc_111
    have u_135 := ht_129 _ _ ub_115
    have hm_136 : sm ρ [] ws_56 ws_125 := hm_127.up (fun k _ h => rz_u0  k h)
    have hsm := hsm.tr (hm_136.mono (by decide))
    have hlp_58 := hlp_58.tr (hm_136.mono (by decide))
    have htx := htx.tr ht_129
    rcases w_124 with ⟨rfl, ao_137⟩ | ⟨rfl, ao_137⟩
    · refine lv_if_eq (tgt := 101) hx hb dX4_readEither_27 (by decide) (fun c_138 => ?_) (fun c_138 => absurd (by decide) c_138)
      refine lv_iload_n hx hb dX4_readEither_101 rfl (lv_at hl 2 rfl) ?_
      refine lv_if_eq (tgt := 111) hx hb dX4_readEither_102 (by decide) (fun c_139 => ?_) (fun c_139 => absurd (by decide) c_139)
      refine lv_iload_n hx hb dX4_readEither_111 rfl (lv_at hl 1 rfl) ?_
      exact W.zret (v := 1) hx hb hr rfl (fun t ht hW => ⟨⟨1, 1, rfl, rfl, ws_125, ty_126, hsm, htx, by rw [ht]; exact hP, va_K.moved hW.alike hK, hD, Or.inr ⟨rfl, b_81, ta_82, T_83, _, hr_85, ow_jO hbs ow_86, ao_137, by omega, by rw [(ow_eO hbs ow_86).1 rfl]; omega, by rw [(ow_eO hbs ow_86).1 rfl]; exact (⟨kc_96, cc_97, tc_98, fc_99, kb_100, cb_101, tb_102, fb_103, hp_104, hT_105, e_130, e_131, wr_108, wt_109, e_132, u_134, wc_112, hc_113, e_133, u_135, wb_116, hb_117⟩ : RSX ρ ws_125 ty_126 f9 rd krd tp ktp cd bb tl b_81 (T_83 ++ eA ta_82) nk fr fk fp vl_84)⟩⟩, hS.F ht⟩) hS.2.2 dX4_readEither_112
    refine lv_if_eq (tgt := 101) hx hb dX4_readEither_27 (by decide) (fun c_140 => absurd c_140 (by decide)) (fun c_140 => ?_)
    refine lv_aload_n hx hb dX4_readEither_30 rfl (lv_at hl 4 rfl) ?_
    refine va_get (D := D) (ci := 4) (v := .ref tp) (C := RX4) (T := TX4) (N := 8) hx hb hts hin4 hown hK hP krd e_130 rfl 0 (by decide) (hts (.fieldLink RX4 12 "HoneyHouse$RuleReader" "tape" "LHoneyHouse$Tape;") (List.mem_of_getElem? (i := 1) rfl)) (fun _ h9 => h9) rfl dX4_readEither_31 ?_
    refine va_ldcS hx hb hown hsz9.2.2.2.2.2.1 dX4_readEither_34 ?_
    have hFc := free_all hD hS hA
    refine va_calli (va_runV (As := [.ref (adK 2)]) (rest := []) ⟨hx, hb, hml, hown, hts⟩ (a_isWord l D (rz []) ws_125 ty_126 adK adV fo 2 f9 tp ktp tl b_81 bb kb_100 cb_101 tb_102 fb_103 H.size (by decide) htl hb_117 hng hp_104 e_131 e_133 u_135 rz_o0) (cwV 1 hts gX4_readEither_X6_isWord rfl rfl rfl (by decide +kernel) ⟨Nat.le_of_ble_eq_true rfl, Nat.le_of_ble_eq_true rfl⟩) ⟨fun a U g mk q => by obtain ⟨q0, q1, qP, qK, qD, qS⟩ := q; exact ⟨q0, q1, qP, va_K.moved (u := U) (U := U.calling g mk a) (Vm.Alike.refl U.vm) qK, qD, SZ.same rfl rfl qS⟩, va_recv hK hP (ci := 6) (q0 := ktp) rfl e_131, fun U hU hW => ⟨rfl, by rw [hU], by rw [hU]; exact hP, va_K.moved hW.alike hK, hD.weaken (fun _ _ _ _ => trivial), hsz9.go hS hW hU hFc⟩⟩ rfl rfl hl.1 rfl (lv_room (Nat.le_of_ble_eq_true rfl)) dX4_readEither_36 ⟨Nat.le_of_ble_eq_true rfl, Nat.le_of_ble_eq_true rfl⟩) hS (fun q _ h => hFc q h) hFc (fun r_141 u t H1 locs ht hvm w_142 hB hz1 hk1 hS => ?_)
    obtain ⟨ws_143, ty_144, hm_145, ht_147, hP1, hK1, hD1, hx_146⟩ := hB
    rw [ht] at hP1
    have hK := va_K.moved hvm.symm hK1
    have hD := hD1.weaken (fun _ _ _ h => hFc _ h)
    generalize H1 = H at hP1 hS ⊢
    have hP := hP1
    have e_148 := hm_145.keep rz_o0 e_130
    have e_149 := hm_145.keep rz_o0 e_131
    have e_150 := hm_145.keep rz_o0 e_132
    have e_151 := hm_145.keep rz_o0 e_133
    have u_152 := ht_147 _ _ u_134
    have u_153 := ht_147 _ _ u_135
    have hm_154 : sm ρ [] ws_125 ws_143 := hm_145.up (fun k _ h => rz_u0  k h)
    have hsm := hsm.tr (hm_154.mono (by decide))
    have hlp_58 := hlp_58.tr (hm_154.mono (by decide))
    have htx := htx.tr ht_147
    rcases w_142 with ⟨rfl, iw_155⟩ | ⟨rfl, iw_155⟩
    · have iw_155 : ¬ wdE f9 tl b_81 = 2 := iw_155
      refine lv_istore (lv' := [(5, .int 0), (4, .int (nI i_52)), (2, .int 1), (3, .int 0), (1, .int 5), (0, .ref rd)]) hx hb dX4_readEither_39 hl (by decide) rfl (fun ls hl => ?_)
      refine lv_iload hx hb dX4_readEither_41 (lv_at hl 0 rfl) ?_
      refine lv_if_ne (tgt := 56) hx hb dX4_readEither_43 (by decide) (fun c_156 => absurd (by decide) c_156) (fun c_156 => ?_)
      refine lv_iload_n hx hb dX4_readEither_46 rfl (lv_at hl 3 rfl) ?_
      refine lv_if_eq (tgt := 56) hx hb dX4_readEither_47 (by decide) (fun c_157 => ?_) (fun c_157 => absurd (by decide) c_157)
      refine lv_iload_n hx hb dX4_readEither_56 rfl (lv_at hl 3 rfl) ?_
      refine lv_if_ne (tgt := 65) hx hb dX4_readEither_57 (by decide) (fun c_158 => absurd (by decide) c_158) (fun c_158 => ?_)
      refine lv_iload hx hb dX4_readEither_60 (lv_at hl 0 rfl) ?_
      refine lv_if_ne (tgt := 69) hx hb dX4_readEither_62 (by decide) (fun c_159 => absurd (by decide) c_159) (fun c_159 => ?_)
      refine lv_iconst (v := 1) hx hb dX4_readEither_65 (by decide) ?_
      refine lv_goto (tgt := 70) hx hb dX4_readEither_66 (by decide) ?_
      refine lv_istore_n (lv' := [(3, .int 1), (5, .int 0), (4, .int (nI i_52)), (2, .int 1), (1, .int 5), (0, .ref rd)]) hx hb dX4_readEither_70 rfl hl (by decide) rfl (fun ls hl => ?_)
      have hw1 : wdE f9 tl b_81 = 1 := by omega
      have hw9 : b_81 + 2 ≤ nxF f9 tl b_81 ∧ nxF f9 tl b_81 ≤ tl := nx_wd hp_104.1 (j := 1) (by omega) hw1
      have hm9 : Rch f9 tl (0, ts, σ, T) (0, nxF f9 tl b_81, 1 :: σ, T_83 ++ eA ta_82) := by have h9 := hr_85.st (st_or hw1); rw [ow_jO hbs ow_86, (ow_eO hbs ow_86).1 rfl] at h9; exact h9
      have hdq : dep (1 :: σ) = dep σ := dep_n _ (by omega)
      refine lv_aload_n hx hb dX4_readEither_71 rfl (lv_at hl 5 rfl) ?_
      refine va_get (D := D) (ci := 4) (v := .ref tp) (C := RX4) (T := TX4) (N := 8) hx hb hts hin4 hown hK hP krd e_148 rfl 0 (by decide) (hts (.fieldLink RX4 12 "HoneyHouse$RuleReader" "tape" "LHoneyHouse$Tape;") (List.mem_of_getElem? (i := 1) rfl)) (fun _ h9 => h9) rfl dX4_readEither_72 ?_
      have hFc := free_all hD hS hA
      refine va_callv (va_runV (As := []) (rest := []) ⟨hx, hb, hml, hown, hts⟩ (a_advance l D (rz [ktp]) ws_143 ty_144 f9 tp ktp tl (teF f9 tl b_81) (nI (kdF f9 tl b_81)) (nI b_81) bb kb_100 cb_101 tb_102 fb_103 H.size htl hb_117 hng (by omega) e_149 e_151 u_153 (rz_o1 (pl_ne e_151 e_149 (by intro h9; simp at h9))) (rz_in (by simp))) (cwV 0 hts gX4_readEither_X6_advance rfl rfl rfl (by decide +kernel) ⟨Nat.le_of_ble_eq_true rfl, Nat.le_of_ble_eq_true rfl⟩) ⟨fun a U g mk q => by obtain ⟨q0, q1, qP, qK, qD⟩ := q; exact ⟨q0, q1, qP, va_K.moved (u := U) (U := U.calling g mk a) (Vm.Alike.refl U.vm) qK, qD⟩, va_recv hK hP (ci := 6) (q0 := ktp) rfl e_149, fun U hU hW => ⟨rfl, by rw [hU], by rw [hU]; exact hP, va_K.moved hW.alike hK, hD.weaken (fun _ _ _ _ => trivial)⟩⟩ rfl rfl hl.1 rfl (lv_room (Nat.le_of_ble_eq_true rfl)) dX4_readEither_75 ⟨Nat.le_of_ble_eq_true rfl, Nat.le_of_ble_eq_true rfl⟩) hS (fun q _ h => hFc q h) hFc (fun u t H1 locs ht hvm w_161 hB hz1 hk1 hS => ?_)
      obtain ⟨ws_162, ty_163, hm_164, ht_166, hP1, hK1, hD1, hx_165⟩ := hB
      rw [ht] at hP1
      have hK := va_K.moved hvm.symm hK1
      have hD := hD1.weaken (fun _ _ _ h => hFc _ h)
      generalize H1 = H at hP1 hS ⊢
      have hP := hP1
      have e_167 := hm_164.keep (rz_o1 (pl_ne e_148 e_149 (by intro h9; simp at h9))) e_148
      have e_168 := hm_164.keep (rz_o1 (pl_ne e_150 e_149 (by intro h9; simp at h9))) e_150
      have e_169 := hm_164.keep (rz_o1 (pl_ne e_151 e_149 (by intro h9; simp at h9))) e_151
      have u_170 := ht_166 _ _ u_152
      have u_171 := ht_166 _ _ u_153
      have hm_172 : sm ρ [6] ws_143 ws_162 := hm_164.up (fun k _ h => rz_u1 wt_109 k h)
      have hsm := hsm.tr (hm_172.mono (by decide))
      have hlp_58 := hlp_58.tr (hm_172.mono (by decide))
      have htx := htx.tr ht_166
      have e_173 : ws_162[ktp]? = some (tp, .inr (6, [.int (nI tl), .int (nI (kdF f9 tl (nxF f9 tl b_81))), .int (nI (nxF f9 tl b_81)), .int (nI (teF f9 tl (nxF f9 tl b_81))), .ref bb])) := hx_165; have hq_174 : pcB f9 tl (nxF f9 tl b_81) := nxF_pc (f := f9) hp_104.1; have hq_1741 := hq_174.1; have hq_174t := teF_le (f := f9) hq_174.1; have hg_175 := nx_gain (f := f9) hp_104.1
      refine lv_aload_n hx hb dX4_readEither_78 rfl (lv_at hl 5 rfl) ?_
      refine lv_iload_n hx hb dX4_readEither_79 rfl (lv_at hl 4 rfl) ?_
      have hFc := free_all hD hS hA
      refine va_calli (va_runV (As := [.int 5]) (rest := []) ⟨hx, hb, hml, hown, hts⟩ (r_readOne5 l D ρ ws_162 ty_163 adK adV fo f9 rd krd tp ktp cd bb tl (nxF f9 tl b_81) (T_83 ++ eA ta_82) nk fr fk fp vl_84 (1 :: σ) H.size htl hng (⟨kc_96, cc_97, tc_98, fc_99, kb_100, cb_101, tb_102, fb_103, hq_174, hT_105, e_167, e_173, wr_108, wt_109, e_168, u_170, wc_112, hc_113, e_169, u_171, wb_116, hb_117⟩ : RSX ρ ws_162 ty_163 f9 rd krd tp ktp cd bb tl (nxF f9 tl b_81) (T_83 ++ eA ta_82) nk fr fk fp vl_84) (hdq.trans hdp) (by omega)) (cwV 1 hts gX4_readEither_X4_readOne rfl rfl rfl (by decide +kernel) ⟨Nat.le_of_ble_eq_true rfl, Nat.le_of_ble_eq_true rfl⟩) ⟨fun a U g mk q => by obtain ⟨q0, q1, qP, qK, qD, qS⟩ := q; exact ⟨q0, q1, qP, va_K.moved (u := U) (U := U.calling g mk a) (Vm.Alike.refl U.vm) qK, qD, SZ.same rfl rfl qS⟩, va_recv hK hP (ci := 4) (q0 := krd) rfl e_167, fun U hU hW => ⟨rfl, by rw [hU], by rw [hU]; exact hP, va_K.moved hW.alike hK, hD.weaken (fun _ _ _ _ => trivial), hsz9.go hS hW hU hFc⟩⟩ rfl rfl hl.1 rfl (lv_room (Nat.le_of_ble_eq_true rfl)) dX4_readEither_80 ⟨Nat.le_of_ble_eq_true rfl, Nat.le_of_ble_eq_true rfl⟩) hS (fun q _ h => hFc q h) hFc (fun r_176 u t H1 locs ht hvm w_177 hB hz1 hk1 hS => ?_)
      subst w_177
      obtain ⟨ws_178, ty_179, hm_180, ht_182, hP1, hK1, hD1, hx_181⟩ := hB
      rw [ht] at hP1
      have hK := va_K.moved hvm.symm hK1
      have hD := hD1.weaken (fun _ _ _ h => hFc _ h)
      generalize H1 = H at hP1 hS ⊢
      have hP := hP1
      obtain ⟨g_184, e_183, h_185⟩ := hm_180.obj e_167
      obtain ⟨z_186, z_187, z_188, z_189, z_190, z_191, rfl⟩ := smX4 h_185
      obtain ⟨g_193, e_192, h_194⟩ := hm_180.obj e_173
      obtain ⟨z_195, z_196, z_197, z_198, rfl⟩ := smX6 h_194
      obtain ⟨f_200, e_199⟩ := hm_180.arrI e_168
      have u_201 := ht_182 _ _ u_170
      have e_202 := hm_180.keep (by rw [wb_116]; omega) e_169
      have u_203 := ht_182 _ _ u_171
      have hsm := hsm.tr (hm_180.mono (by decide))
      have hlp_58 := hlp_58.tr (hm_180.mono (by decide))
      have htx := htx.tr ht_182
      rcases hx_181 with ⟨rfl, k_204, p_205, ts_206, T_207, vl_208, hk_209, hk_210, hr_211, hR_212⟩ | ⟨rfl, b_213, T_207, vl_208, hr_211, hg_217, hg_218, hR_212⟩
      · obtain ⟨kc_219, cc_220, tc_221, fc_222, kb_223, cb_224, tb_225, fb_226, hp_227, hT_228, er_229, et_230, wr_231, wt_232, ec_233, uc_234, wc_235, hc_236, eb_237, ub_238, wb_239, hb_240⟩ := id hR_212
        have hp_2271 := hp_227.1
        have hp_227t := teF_le (f := f9) hp_227.1
        refine lv_istore_n (lv' := [(2, .int 0), (3, .int 1), (5, .int 0), (4, .int (nI i_52)), (1, .int 5), (0, .ref rd)]) hx hb dX4_readEither_83 rfl hl (by decide) rfl (fun ls hl => ?_)
        refine lv_iload hx hb dX4_readEither_84 (lv_at hl 2 rfl) ?_
        refine lv_if_eq (tgt := 95) hx hb dX4_readEither_86 (by decide) (fun c_241 => ?_) (fun c_241 => absurd (by decide) c_241)
        refine lv_iinc (v := nI (i_52 + 1)) (lv' := [(4, .int (nI (i_52 + 1))), (2, .int 0), (3, .int 1), (5, .int 0), (1, .int 5), (0, .ref rd)]) hx hb dX4_readEither_95 hl (k := 3) rfl (nI_add i_52 1) (by decide) rfl (fun ls hl => ?_)
        refine lv_goto (tgt := 11) hx hb dX4_readEither_98 (by decide) ?_
        exact ih_51 (i_52 + 1, 0, 1) ws_178 _ _ ls (by show 400 - (i_52 + 1) < 400 - i_52; omega) ⟨hlp_58, ⟨ty_179, hK, htx, Or.inr ⟨rfl, Or.inr rfl, (⟨k_204, p_205, _, _, _, by omega, by omega, hm9.tr hr_211, (⟨kc_219, cc_220, tc_221, fc_222, kb_223, cb_224, tb_225, fb_226, hp_227, hT_228, er_229, et_230, wr_231, wt_232, ec_233, uc_234, wc_235, hc_236, eb_237, ub_238, wb_239, hb_240⟩ : RSX ρ ws_178 ty_179 f9 rd krd tp ktp cd bb tl ts_206 T_207 nk fr (nI k_204) (nI p_205) vl_208)⟩ : FLT ρ ws_178 ty_179 f9 rd krd tp ktp cd bb tl (0, ts, σ, T) nk fr)⟩⟩, (show (i_52 + 1) ≤ 400 from by omega)⟩ hP hD hS (lv_sub hl [0, 1, 2, 4, 5] rfl)
      obtain ⟨kc_242, cc_243, tc_244, fc_245, kb_246, cb_247, tb_248, fb_249, hp_250, hT_251, er_252, et_253, wr_254, wt_255, ec_256, uc_257, wc_258, hc_259, eb_260, ub_261, wb_262, hb_263⟩ := id hR_212
      have hp_2501 := hp_250.1
      have hp_250t := teF_le (f := f9) hp_250.1
      refine lv_istore_n (lv' := [(2, .int 1), (3, .int 1), (5, .int 0), (4, .int (nI i_52)), (1, .int 5), (0, .ref rd)]) hx hb dX4_readEither_83 rfl hl (by decide) rfl (fun ls hl => ?_)
      refine lv_iload hx hb dX4_readEither_84 (lv_at hl 2 rfl) ?_
      refine lv_if_eq (tgt := 95) hx hb dX4_readEither_86 (by decide) (fun c_264 => ?_) (fun c_264 => absurd (by decide) c_264)
      refine lv_iinc (v := nI (i_52 + 1)) (lv' := [(4, .int (nI (i_52 + 1))), (2, .int 1), (3, .int 1), (5, .int 0), (1, .int 5), (0, .ref rd)]) hx hb dX4_readEither_95 hl (k := 3) rfl (nI_add i_52 1) (by decide) rfl (fun ls hl => ?_)
      refine lv_goto (tgt := 11) hx hb dX4_readEither_98 (by decide) ?_
      exact ih_51 (i_52 + 1, 1, 1) ws_178 _ _ ls (by show 400 - (i_52 + 1) < 400 - i_52; omega) ⟨hlp_58, ⟨ty_179, hK, htx, Or.inl ⟨rfl, Or.inr rfl, (⟨b_213, 1 :: σ, T_207, _, hm9.tr (rch_an (by omega) hr_211), ow_or, by omega, fun _ => by rw [eA_n _ (by omega), List.append_nil]; omega, fun h9 => absurd h9 (by decide), by rw [eA_n _ (by omega), List.append_nil]; exact (⟨kc_242, cc_243, tc_244, fc_245, kb_246, cb_247, tb_248, fb_249, hp_250, hT_251, er_252, et_253, wr_254, wt_255, ec_256, uc_257, wc_258, hc_259, eb_260, ub_261, wb_262, hb_263⟩ : RSX ρ ws_178 ty_179 f9 rd krd tp ktp cd bb tl b_213 T_207 nk fr fk fp vl_208)⟩ : LPE ρ ws_178 ty_179 f9 rd krd tp ktp cd bb tl ts σ T nk fr fk fp (i_52 + 1) 1)⟩⟩, (show (i_52 + 1) ≤ 400 from by omega)⟩ hP hD hS (lv_sub hl [0, 1, 2, 4, 5] rfl)
    have iw_155 : wdE f9 tl b_81 = 2 := iw_155
    refine lv_istore (lv' := [(5, .int 1), (4, .int (nI i_52)), (2, .int 1), (3, .int 0), (1, .int 5), (0, .ref rd)]) hx hb dX4_readEither_39 hl (by decide) rfl (fun ls hl => ?_)
    refine lv_iload hx hb dX4_readEither_41 (lv_at hl 0 rfl) ?_
    refine lv_if_ne (tgt := 56) hx hb dX4_readEither_43 (by decide) (fun c_265 => ?_) (fun c_265 => absurd c_265 (by decide))
    refine lv_iload_n hx hb dX4_readEither_56 rfl (lv_at hl 3 rfl) ?_
    refine lv_if_ne (tgt := 65) hx hb dX4_readEither_57 (by decide) (fun c_266 => absurd (by decide) c_266) (fun c_266 => ?_)
    refine lv_iload hx hb dX4_readEither_60 (lv_at hl 0 rfl) ?_
    refine lv_if_ne (tgt := 69) hx hb dX4_readEither_62 (by decide) (fun c_267 => ?_) (fun c_267 => absurd c_267 (by decide))
    refine lv_iconst (v := 0) hx hb dX4_readEither_69 (by decide) ?_
    refine lv_istore_n (lv' := [(3, .int 0), (5, .int 1), (4, .int (nI i_52)), (2, .int 1), (1, .int 5), (0, .ref rd)]) hx hb dX4_readEither_70 rfl hl (by decide) rfl (fun ls hl => ?_)
    have hw9 : b_81 + 3 ≤ nxF f9 tl b_81 ∧ nxF f9 tl b_81 ≤ tl := nx_wd hp_104.1 (j := 2) (by omega) iw_155
    have hm9 : Rch f9 tl (0, ts, σ, T) (0, nxF f9 tl b_81, 2 :: jA ta_82, T_83 ++ eA ta_82) := hr_85.st (st_and iw_155)
    have hdq : dep (2 :: jA ta_82) = dep σ := (dep_n _ (by omega)).trans ((dep_jA _).trans ((dep_jO _).symm.trans (congrArg dep (ow_jO hbs ow_86))))
    refine lv_aload_n hx hb dX4_readEither_71 rfl (lv_at hl 5 rfl) ?_
    refine va_get (D := D) (ci := 4) (v := .ref tp) (C := RX4) (T := TX4) (N := 8) hx hb hts hin4 hown hK hP krd e_148 rfl 0 (by decide) (hts (.fieldLink RX4 12 "HoneyHouse$RuleReader" "tape" "LHoneyHouse$Tape;") (List.mem_of_getElem? (i := 1) rfl)) (fun _ h9 => h9) rfl dX4_readEither_72 ?_
    have hFc := free_all hD hS hA
    refine va_callv (va_runV (As := []) (rest := []) ⟨hx, hb, hml, hown, hts⟩ (a_advance l D (rz [ktp]) ws_143 ty_144 f9 tp ktp tl (teF f9 tl b_81) (nI (kdF f9 tl b_81)) (nI b_81) bb kb_100 cb_101 tb_102 fb_103 H.size htl hb_117 hng (by omega) e_149 e_151 u_153 (rz_o1 (pl_ne e_151 e_149 (by intro h9; simp at h9))) (rz_in (by simp))) (cwV 0 hts gX4_readEither_X6_advance rfl rfl rfl (by decide +kernel) ⟨Nat.le_of_ble_eq_true rfl, Nat.le_of_ble_eq_true rfl⟩) ⟨fun a U g mk q => by obtain ⟨q0, q1, qP, qK, qD⟩ := q; exact ⟨q0, q1, qP, va_K.moved (u := U) (U := U.calling g mk a) (Vm.Alike.refl U.vm) qK, qD⟩, va_recv hK hP (ci := 6) (q0 := ktp) rfl e_149, fun U hU hW => ⟨rfl, by rw [hU], by rw [hU]; exact hP, va_K.moved hW.alike hK, hD.weaken (fun _ _ _ _ => trivial)⟩⟩ rfl rfl hl.1 rfl (lv_room (Nat.le_of_ble_eq_true rfl)) dX4_readEither_75 ⟨Nat.le_of_ble_eq_true rfl, Nat.le_of_ble_eq_true rfl⟩) hS (fun q _ h => hFc q h) hFc (fun u t H1 locs ht hvm w_269 hB hz1 hk1 hS => ?_)
    obtain ⟨ws_270, ty_271, hm_272, ht_274, hP1, hK1, hD1, hx_273⟩ := hB
    rw [ht] at hP1
    have hK := va_K.moved hvm.symm hK1
    have hD := hD1.weaken (fun _ _ _ h => hFc _ h)
    generalize H1 = H at hP1 hS ⊢
    have hP := hP1
    have e_275 := hm_272.keep (rz_o1 (pl_ne e_148 e_149 (by intro h9; simp at h9))) e_148
    have e_276 := hm_272.keep (rz_o1 (pl_ne e_150 e_149 (by intro h9; simp at h9))) e_150
    have e_277 := hm_272.keep (rz_o1 (pl_ne e_151 e_149 (by intro h9; simp at h9))) e_151
    have u_278 := ht_274 _ _ u_152
    have u_279 := ht_274 _ _ u_153
    have hm_280 : sm ρ [6] ws_143 ws_270 := hm_272.up (fun k _ h => rz_u1 wt_109 k h)
    have hsm := hsm.tr (hm_280.mono (by decide))
    have hlp_58 := hlp_58.tr (hm_280.mono (by decide))
    have htx := htx.tr ht_274
    have e_281 : ws_270[ktp]? = some (tp, .inr (6, [.int (nI tl), .int (nI (kdF f9 tl (nxF f9 tl b_81))), .int (nI (nxF f9 tl b_81)), .int (nI (teF f9 tl (nxF f9 tl b_81))), .ref bb])) := hx_273; have hq_282 : pcB f9 tl (nxF f9 tl b_81) := nxF_pc (f := f9) hp_104.1; have hq_2821 := hq_282.1; have hq_282t := teF_le (f := f9) hq_282.1; have hg_283 := nx_gain (f := f9) hp_104.1
    refine lv_aload_n hx hb dX4_readEither_78 rfl (lv_at hl 5 rfl) ?_
    refine lv_iload_n hx hb dX4_readEither_79 rfl (lv_at hl 4 rfl) ?_
    have hFc := free_all hD hS hA
    refine va_calli (va_runV (As := [.int 5]) (rest := []) ⟨hx, hb, hml, hown, hts⟩ (r_readOne5 l D ρ ws_270 ty_271 adK adV fo f9 rd krd tp ktp cd bb tl (nxF f9 tl b_81) (T_83 ++ eA ta_82) nk fr fk fp vl_84 (2 :: jA ta_82) H.size htl hng (⟨kc_96, cc_97, tc_98, fc_99, kb_100, cb_101, tb_102, fb_103, hq_282, hT_105, e_275, e_281, wr_108, wt_109, e_276, u_278, wc_112, hc_113, e_277, u_279, wb_116, hb_117⟩ : RSX ρ ws_270 ty_271 f9 rd krd tp ktp cd bb tl (nxF f9 tl b_81) (T_83 ++ eA ta_82) nk fr fk fp vl_84) (hdq.trans hdp) (by omega)) (cwV 1 hts gX4_readEither_X4_readOne rfl rfl rfl (by decide +kernel) ⟨Nat.le_of_ble_eq_true rfl, Nat.le_of_ble_eq_true rfl⟩) ⟨fun a U g mk q => by obtain ⟨q0, q1, qP, qK, qD, qS⟩ := q; exact ⟨q0, q1, qP, va_K.moved (u := U) (U := U.calling g mk a) (Vm.Alike.refl U.vm) qK, qD, SZ.same rfl rfl qS⟩, va_recv hK hP (ci := 4) (q0 := krd) rfl e_275, fun U hU hW => ⟨rfl, by rw [hU], by rw [hU]; exact hP, va_K.moved hW.alike hK, hD.weaken (fun _ _ _ _ => trivial), hsz9.go hS hW hU hFc⟩⟩ rfl rfl hl.1 rfl (lv_room (Nat.le_of_ble_eq_true rfl)) dX4_readEither_80 ⟨Nat.le_of_ble_eq_true rfl, Nat.le_of_ble_eq_true rfl⟩) hS (fun q _ h => hFc q h) hFc (fun r_284 u t H1 locs ht hvm w_285 hB hz1 hk1 hS => ?_)
    subst w_285
    obtain ⟨ws_286, ty_287, hm_288, ht_290, hP1, hK1, hD1, hx_289⟩ := hB
    rw [ht] at hP1
    have hK := va_K.moved hvm.symm hK1
    have hD := hD1.weaken (fun _ _ _ h => hFc _ h)
    generalize H1 = H at hP1 hS ⊢
    have hP := hP1
    obtain ⟨g_292, e_291, h_293⟩ := hm_288.obj e_275
    obtain ⟨z_294, z_295, z_296, z_297, z_298, z_299, rfl⟩ := smX4 h_293
    obtain ⟨g_301, e_300, h_302⟩ := hm_288.obj e_281
    obtain ⟨z_303, z_304, z_305, z_306, rfl⟩ := smX6 h_302
    obtain ⟨f_308, e_307⟩ := hm_288.arrI e_276
    have u_309 := ht_290 _ _ u_278
    have e_310 := hm_288.keep (by rw [wb_116]; omega) e_277
    have u_311 := ht_290 _ _ u_279
    have hsm := hsm.tr (hm_288.mono (by decide))
    have hlp_58 := hlp_58.tr (hm_288.mono (by decide))
    have htx := htx.tr ht_290
    rcases hx_289 with ⟨rfl, k_312, p_313, ts_314, T_315, vl_316, hk_317, hk_318, hr_319, hR_320⟩ | ⟨rfl, b_321, T_315, vl_316, hr_319, hg_325, hg_326, hR_320⟩
    · obtain ⟨kc_327, cc_328, tc_329, fc_330, kb_331, cb_332, tb_333, fb_334, hp_335, hT_336, er_337, et_338, wr_339, wt_340, ec_341, uc_342, wc_343, hc_344, eb_345, ub_346, wb_347, hb_348⟩ := id hR_320
      have hp_3351 := hp_335.1
      have hp_335t := teF_le (f := f9) hp_335.1
      refine lv_istore_n (lv' := [(2, .int 0), (3, .int 0), (5, .int 1), (4, .int (nI i_52)), (1, .int 5), (0, .ref rd)]) hx hb dX4_readEither_83 rfl hl (by decide) rfl (fun ls hl => ?_)
      refine lv_iload hx hb dX4_readEither_84 (lv_at hl 2 rfl) ?_
      refine lv_if_eq (tgt := 95) hx hb dX4_readEither_86 (by decide) (fun c_349 => absurd c_349 (by decide)) (fun c_349 => ?_)
      refine lv_aload_n hx hb dX4_readEither_89 rfl (lv_at hl 5 rfl) ?_
      refine lv_bipush (v := (-2)) hx hb dX4_readEither_90 (by decide) ?_
      have hFc := free_all hD hS hA
      refine va_callv (va_runV (As := [.int (-2)]) (rest := []) ⟨hx, hb, hml, hown, hts⟩ (r_addCode l D ρ ws_286 ty_287 adK adV fo f9 rd krd tp ktp cd bb tl ts_314 T_315 nk fr (nI k_312) (nI p_313) vl_316 (2, 0, 0, 0) (-2) H.size htl hng (⟨kc_327, cc_328, tc_329, fc_330, kb_331, cb_332, tb_333, fb_334, hp_335, hT_336, er_337, et_338, wr_339, wt_340, ec_341, uc_342, wc_343, hc_344, eb_345, ub_346, wb_347, hb_348⟩ : RSX ρ ws_286 ty_287 f9 rd krd tp ktp cd bb tl ts_314 T_315 nk fr (nI k_312) (nI p_313) vl_316) rfl) (cwV 1 hts gX4_readEither_X4_addCode rfl rfl rfl (by decide +kernel) ⟨Nat.le_of_ble_eq_true rfl, Nat.le_of_ble_eq_true rfl⟩) ⟨fun a U g mk q => by obtain ⟨q0, q1, qP, qK, qD, qS⟩ := q; exact ⟨q0, q1, qP, va_K.moved (u := U) (U := U.calling g mk a) (Vm.Alike.refl U.vm) qK, qD, SZ.same rfl rfl qS⟩, va_recv hK hP (ci := 4) (q0 := krd) rfl er_337, fun U hU hW => ⟨rfl, by rw [hU], by rw [hU]; exact hP, va_K.moved hW.alike hK, hD.weaken (fun _ _ _ _ => trivial), hsz9.go hS hW hU hFc⟩⟩ rfl rfl hl.1 rfl (lv_room (Nat.le_of_ble_eq_true rfl)) dX4_readEither_92 ⟨Nat.le_of_ble_eq_true rfl, Nat.le_of_ble_eq_true rfl⟩) hS (fun q _ h => hFc q h) hFc (fun u t H1 locs ht hvm w_351 hB hz1 hk1 hS => ?_)
      obtain ⟨ws_352, ty_353, hm_354, ht_356, hP1, hK1, hD1, hx_355⟩ := hB
      rw [ht] at hP1
      have hK := va_K.moved hvm.symm hK1
      have hD := hD1.weaken (fun _ _ _ h => hFc _ h)
      generalize H1 = H at hP1 hS ⊢
      have hP := hP1
      obtain ⟨g_358, e_357, h_359⟩ := hm_354.obj er_337
      obtain ⟨z_360, z_361, z_362, z_363, z_364, z_365, rfl⟩ := smX4 h_359
      obtain ⟨g_367, e_366, h_368⟩ := hm_354.obj et_338
      obtain ⟨z_369, z_370, z_371, z_372, rfl⟩ := smX6 h_368
      obtain ⟨f_374, e_373⟩ := hm_354.arrI ec_341
      have u_375 := ht_356 _ _ uc_342
      have e_376 := hm_354.keep (by rw [wb_347]; omega) eb_345
      have u_377 := ht_356 _ _ ub_346
      have hsm := hsm.tr (hm_354.mono (by decide))
      have hlp_58 := hlp_58.tr (hm_354.mono (by decide))
      have htx := htx.tr ht_356
      rcases hx_355 with ⟨hl_378, hR_379⟩ | ⟨hl_378, hR_379⟩
      · obtain ⟨kc_380, cc_381, tc_382, fc_383, kb_384, cb_385, tb_386, fb_387, hp_388, hT_389, er_390, et_391, wr_392, wt_393, ec_394, uc_395, wc_396, hc_397, eb_398, ub_399, wb_400, hb_401⟩ := id hR_379
        have hp_3881 := hp_388.1
        have hp_388t := teF_le (f := f9) hp_388.1
        refine lv_iinc (v := nI (i_52 + 1)) (lv' := [(4, .int (nI (i_52 + 1))), (2, .int 0), (3, .int 0), (5, .int 1), (1, .int 5), (0, .ref rd)]) hx hb dX4_readEither_95 hl (k := 3) rfl (nI_add i_52 1) (by decide) rfl (fun ls hl => ?_)
        refine lv_goto (tgt := 11) hx hb dX4_readEither_98 (by decide) ?_
        exact ih_51 (i_52 + 1, 0, 0) ws_352 _ _ ls (by show 400 - (i_52 + 1) < 400 - i_52; omega) ⟨hlp_58, ⟨ty_353, hK, htx, Or.inr ⟨rfl, Or.inl rfl, (⟨k_312, p_313, _, _, _, by omega, by omega, hm9.tr hr_319, (⟨kc_380, cc_381, tc_382, fc_383, kb_384, cb_385, tb_386, fb_387, hp_388, hT_389, er_390, et_391, wr_392, wt_393, ec_394, uc_395, wc_396, hc_397, eb_398, ub_399, wb_400, hb_401⟩ : RSX ρ ws_352 ty_353 f9 rd krd tp ktp cd bb tl ts_314 (T_315 ++ [(2, 0, 0, 0)]) nk fr (nI k_312) (nI p_313) vl_316)⟩ : FLT ρ ws_352 ty_353 f9 rd krd tp ktp cd bb tl (0, ts, σ, T) nk fr)⟩⟩, (show (i_52 + 1) ≤ 400 from by omega)⟩ hP hD hS (lv_sub hl [0, 1, 2, 4, 5] rfl)
      obtain ⟨kc_402, cc_403, tc_404, fc_405, kb_406, cb_407, tb_408, fb_409, hp_410, hT_411, er_412, et_413, wr_414, wt_415, ec_416, uc_417, wc_418, hc_419, eb_420, ub_421, wb_422, hb_423⟩ := id hR_379
      have hp_4101 := hp_410.1
      have hp_410t := teF_le (f := f9) hp_410.1
      refine lv_iinc (v := nI (i_52 + 1)) (lv' := [(4, .int (nI (i_52 + 1))), (2, .int 0), (3, .int 0), (5, .int 1), (1, .int 5), (0, .ref rd)]) hx hb dX4_readEither_95 hl (k := 3) rfl (nI_add i_52 1) (by decide) rfl (fun ls hl => ?_)
      refine lv_goto (tgt := 11) hx hb dX4_readEither_98 (by decide) ?_
      exact ih_51 (i_52 + 1, 0, 0) ws_352 _ _ ls (by show 400 - (i_52 + 1) < 400 - i_52; omega) ⟨hlp_58, ⟨ty_353, hK, htx, Or.inr ⟨rfl, Or.inl rfl, (⟨k_312, p_313, _, _, _, by omega, by omega, hm9.tr hr_319, (⟨kc_402, cc_403, tc_404, fc_405, kb_406, cb_407, tb_408, fb_409, hp_410, hT_411, er_412, et_413, wr_414, wt_415, ec_416, uc_417, wc_418, hc_419, eb_420, ub_421, wb_422, hb_423⟩ : RSX ρ ws_352 ty_353 f9 rd krd tp ktp cd bb tl ts_314 T_315 nk fr (nI k_312) (nI p_313) vl_316)⟩ : FLT ρ ws_352 ty_353 f9 rd krd tp ktp cd bb tl (0, ts, σ, T) nk fr)⟩⟩, (show (i_52 + 1) ≤ 400 from by omega)⟩ hP hD hS (lv_sub hl [0, 1, 2, 4, 5] rfl)
    obtain ⟨kc_424, cc_425, tc_426, fc_427, kb_428, cb_429, tb_430, fb_431, hp_432, hT_433, er_434, et_435, wr_436, wt_437, ec_438, uc_439, wc_440, hc_441, eb_442, ub_443, wb_444, hb_445⟩ := id hR_320
    have hp_4321 := hp_432.1
    have hp_432t := teF_le (f := f9) hp_432.1
    refine lv_istore_n (lv' := [(2, .int 1), (3, .int 0), (5, .int 1), (4, .int (nI i_52)), (1, .int 5), (0, .ref rd)]) hx hb dX4_readEither_83 rfl hl (by decide) rfl (fun ls hl => ?_)
    refine lv_iload hx hb dX4_readEither_84 (lv_at hl 2 rfl) ?_
    refine lv_if_eq (tgt := 95) hx hb dX4_readEither_86 (by decide) (fun c_446 => absurd c_446 (by decide)) (fun c_446 => ?_)
    refine lv_aload_n hx hb dX4_readEither_89 rfl (lv_at hl 5 rfl) ?_
    refine lv_bipush (v := (-2)) hx hb dX4_readEither_90 (by decide) ?_
    have hFc := free_all hD hS hA
    refine va_callv (va_runV (As := [.int (-2)]) (rest := []) ⟨hx, hb, hml, hown, hts⟩ (r_addCode l D ρ ws_286 ty_287 adK adV fo f9 rd krd tp ktp cd bb tl b_321 T_315 nk fr fk fp vl_316 (2, 0, 0, 0) (-2) H.size htl hng (⟨kc_424, cc_425, tc_426, fc_427, kb_428, cb_429, tb_430, fb_431, hp_432, hT_433, er_434, et_435, wr_436, wt_437, ec_438, uc_439, wc_440, hc_441, eb_442, ub_443, wb_444, hb_445⟩ : RSX ρ ws_286 ty_287 f9 rd krd tp ktp cd bb tl b_321 T_315 nk fr fk fp vl_316) rfl) (cwV 1 hts gX4_readEither_X4_addCode rfl rfl rfl (by decide +kernel) ⟨Nat.le_of_ble_eq_true rfl, Nat.le_of_ble_eq_true rfl⟩) ⟨fun a U g mk q => by obtain ⟨q0, q1, qP, qK, qD, qS⟩ := q; exact ⟨q0, q1, qP, va_K.moved (u := U) (U := U.calling g mk a) (Vm.Alike.refl U.vm) qK, qD, SZ.same rfl rfl qS⟩, va_recv hK hP (ci := 4) (q0 := krd) rfl er_434, fun U hU hW => ⟨rfl, by rw [hU], by rw [hU]; exact hP, va_K.moved hW.alike hK, hD.weaken (fun _ _ _ _ => trivial), hsz9.go hS hW hU hFc⟩⟩ rfl rfl hl.1 rfl (lv_room (Nat.le_of_ble_eq_true rfl)) dX4_readEither_92 ⟨Nat.le_of_ble_eq_true rfl, Nat.le_of_ble_eq_true rfl⟩) hS (fun q _ h => hFc q h) hFc (fun u t H1 locs ht hvm w_448 hB hz1 hk1 hS => ?_)
    obtain ⟨ws_449, ty_450, hm_451, ht_453, hP1, hK1, hD1, hx_452⟩ := hB
    rw [ht] at hP1
    have hK := va_K.moved hvm.symm hK1
    have hD := hD1.weaken (fun _ _ _ h => hFc _ h)
    generalize H1 = H at hP1 hS ⊢
    have hP := hP1
    obtain ⟨g_455, e_454, h_456⟩ := hm_451.obj er_434
    obtain ⟨z_457, z_458, z_459, z_460, z_461, z_462, rfl⟩ := smX4 h_456
    obtain ⟨g_464, e_463, h_465⟩ := hm_451.obj et_435
    obtain ⟨z_466, z_467, z_468, z_469, rfl⟩ := smX6 h_465
    obtain ⟨f_471, e_470⟩ := hm_451.arrI ec_438
    have u_472 := ht_453 _ _ uc_439
    have e_473 := hm_451.keep (by rw [wb_444]; omega) eb_442
    have u_474 := ht_453 _ _ ub_443
    have hsm := hsm.tr (hm_451.mono (by decide))
    have hlp_58 := hlp_58.tr (hm_451.mono (by decide))
    have htx := htx.tr ht_453
    obtain ⟨hl_475, hR_476⟩ := hx_452.resolve_right (fun h9 => h9.1 (by omega))
    obtain ⟨kc_477, cc_478, tc_479, fc_480, kb_481, cb_482, tb_483, fb_484, hp_485, hT_486, er_487, et_488, wr_489, wt_490, ec_491, uc_492, wc_493, hc_494, eb_495, ub_496, wb_497, hb_498⟩ := id hR_476
    have hp_4851 := hp_485.1
    have hp_485t := teF_le (f := f9) hp_485.1
    refine lv_iinc (v := nI (i_52 + 1)) (lv' := [(4, .int (nI (i_52 + 1))), (2, .int 1), (3, .int 0), (5, .int 1), (1, .int 5), (0, .ref rd)]) hx hb dX4_readEither_95 hl (k := 3) rfl (nI_add i_52 1) (by decide) rfl (fun ls hl => ?_)
    refine lv_goto (tgt := 11) hx hb dX4_readEither_98 (by decide) ?_
    exact ih_51 (i_52 + 1, 1, 0) ws_449 _ _ ls (by show 400 - (i_52 + 1) < 400 - i_52; omega) ⟨hlp_58, ⟨ty_450, hK, htx, Or.inl ⟨rfl, Or.inl rfl, (⟨b_321, 2 :: jA ta_82, T_315, _, hm9.tr (rch_an (by omega) hr_319), ow_and hbs ow_86, by omega, fun h9 => absurd h9 (by decide), fun _ => by rw [eA_2jA, len_a1]; omega, by rw [eA_2jA]; exact (⟨kc_477, cc_478, tc_479, fc_480, kb_481, cb_482, tb_483, fb_484, hp_485, hT_486, er_487, et_488, wr_489, wt_490, ec_491, uc_492, wc_493, hc_494, eb_495, ub_496, wb_497, hb_498⟩ : RSX ρ ws_449 ty_450 f9 rd krd tp ktp cd bb tl b_321 (T_315 ++ [(2, 0, 0, 0)]) nk fr fk fp vl_316)⟩ : LPE ρ ws_449 ty_450 f9 rd krd tp ktp cd bb tl ts σ T nk fr fk fp (i_52 + 1) 0)⟩⟩, (show (i_52 + 1) ≤ 400 from by omega)⟩ hP hD hS (lv_sub hl [0, 1, 2, 4, 5] rfl)
  · have ga_88 := ga_88 rfl
    obtain ⟨kc_499, cc_500, tc_501, fc_502, kb_503, cb_504, tb_505, fb_506, hp_507, hT_508, er_509, et_510, wr_511, wt_512, ec_513, uc_514, wc_515, hc_516, eb_517, ub_518, wb_519, hb_520⟩ := id hR_90
    have hp_5071 := hp_507.1
    have hp_507t := teF_le (f := f9) hp_507.1
    refine lv_sipush (v := 400) hx hb dX4_readEither_13 (by decide) ?_
    refine lv_icmp_ge (tgt := 101) hx hb dX4_readEither_16 (by decide) (fun c_521 => ?_) (fun c_521 => ?_)
    · have d_522 := n_le (a := 400) (b := i_52) (by omega) (by omega) c_521
      refine lv_iload_n hx hb dX4_readEither_101 rfl (lv_at hl 2 rfl) ?_
      refine lv_if_eq (tgt := 111) hx hb dX4_readEither_102 (by decide) (fun c_523 => absurd c_523 (by decide)) (fun c_523 => ?_)
      refine lv_aload_n hx hb dX4_readEither_105 rfl (lv_at hl 4 rfl) ?_
      refine lv_bipush (v := (-3)) hx hb dX4_readEither_106 (by decide) ?_
      have hFc := free_all hD hS hA
      refine va_callv (va_runV (As := [.int (-3)]) (rest := []) ⟨hx, hb, hml, hown, hts⟩ (r_addCode l D ρ ws_56 ty_79 adK adV fo f9 rd krd tp ktp cd bb tl b_81 (T_83 ++ eA ta_82) nk fr fk fp vl_84 (1, 0, 0, 0) (-3) H.size htl hng (⟨kc_499, cc_500, tc_501, fc_502, kb_503, cb_504, tb_505, fb_506, hp_507, hT_508, er_509, et_510, wr_511, wt_512, ec_513, uc_514, wc_515, hc_516, eb_517, ub_518, wb_519, hb_520⟩ : RSX ρ ws_56 ty_79 f9 rd krd tp ktp cd bb tl b_81 (T_83 ++ eA ta_82) nk fr fk fp vl_84) rfl) (cwV 1 hts gX4_readEither_X4_addCode rfl rfl rfl (by decide +kernel) ⟨Nat.le_of_ble_eq_true rfl, Nat.le_of_ble_eq_true rfl⟩) ⟨fun a U g mk q => by obtain ⟨q0, q1, qP, qK, qD, qS⟩ := q; exact ⟨q0, q1, qP, va_K.moved (u := U) (U := U.calling g mk a) (Vm.Alike.refl U.vm) qK, qD, SZ.same rfl rfl qS⟩, va_recv hK hP (ci := 4) (q0 := krd) rfl er_509, fun U hU hW => ⟨rfl, by rw [hU], by rw [hU]; exact hP, va_K.moved hW.alike hK, hD.weaken (fun _ _ _ _ => trivial), hsz9.go hS hW hU hFc⟩⟩ rfl rfl hl.1 rfl (lv_room (Nat.le_of_ble_eq_true rfl)) dX4_readEither_108 ⟨Nat.le_of_ble_eq_true rfl, Nat.le_of_ble_eq_true rfl⟩) hS (fun q _ h => hFc q h) hFc (fun u t H1 locs ht hvm w_525 hB hz1 hk1 hS => ?_)
      obtain ⟨ws_526, ty_527, hm_528, ht_530, hP1, hK1, hD1, hx_529⟩ := hB
      rw [ht] at hP1
      have hK := va_K.moved hvm.symm hK1
      have hD := hD1.weaken (fun _ _ _ h => hFc _ h)
      generalize H1 = H at hP1 hS ⊢
      have hP := hP1
      obtain ⟨g_532, e_531, h_533⟩ := hm_528.obj er_509
      obtain ⟨z_534, z_535, z_536, z_537, z_538, z_539, rfl⟩ := smX4 h_533
      obtain ⟨g_541, e_540, h_542⟩ := hm_528.obj et_510
      obtain ⟨z_543, z_544, z_545, z_546, rfl⟩ := smX6 h_542
      obtain ⟨f_548, e_547⟩ := hm_528.arrI ec_513
      have u_549 := ht_530 _ _ uc_514
      have e_550 := hm_528.keep (by rw [wb_519]; omega) eb_517
      have u_551 := ht_530 _ _ ub_518
      have hsm := hsm.tr (hm_528.mono (by decide))
      have hlp_58 := hlp_58.tr (hm_528.mono (by decide))
      have htx := htx.tr ht_530
      rcases hx_529 with ⟨hl_552, hR_553⟩ | ⟨hl_552, hR_553⟩
      · obtain ⟨kc_554, cc_555, tc_556, fc_557, kb_558, cb_559, tb_560, fb_561, hp_562, hT_563, er_564, et_565, wr_566, wt_567, ec_568, uc_569, wc_570, hc_571, eb_572, ub_573, wb_574, hb_575⟩ := id hR_553
        have hp_5621 := hp_562.1
        have hp_562t := teF_le (f := f9) hp_562.1
        refine lv_iload_n hx hb dX4_readEither_111 rfl (lv_at hl 1 rfl) ?_
        exact W.zret (v := 1) hx hb hr rfl (fun t ht hW => ⟨⟨1, 1, rfl, rfl, ws_526, ty_527, hsm, htx, by rw [ht]; exact hP, va_K.moved hW.alike hK, hD, (by exfalso; omega)⟩, hS.F ht⟩) hS.2.2 dX4_readEither_112
      obtain ⟨kc_576, cc_577, tc_578, fc_579, kb_580, cb_581, tb_582, fb_583, hp_584, hT_585, er_586, et_587, wr_588, wt_589, ec_590, uc_591, wc_592, hc_593, eb_594, ub_595, wb_596, hb_597⟩ := id hR_553
      have hp_5841 := hp_584.1
      have hp_584t := teF_le (f := f9) hp_584.1
      refine lv_iload_n hx hb dX4_readEither_111 rfl (lv_at hl 1 rfl) ?_
      exact W.zret (v := 1) hx hb hr rfl (fun t ht hW => ⟨⟨1, 1, rfl, rfl, ws_526, ty_527, hsm, htx, by rw [ht]; exact hP, va_K.moved hW.alike hK, hD, (by exfalso; omega)⟩, hS.F ht⟩) hS.2.2 dX4_readEither_112
    have d_598 := n_nle (a := 400) (b := i_52) (by omega) (by omega) c_521
    refine lv_iload_n hx hb dX4_readEither_19 rfl (lv_at hl 1 rfl) ?_
    refine lv_if_eq (tgt := 101) hx hb dX4_readEither_20 (by decide) (fun c_599 => absurd c_599 (by decide)) (fun c_599 => ?_)
    refine lv_aload_n hx hb dX4_readEither_23 rfl (lv_at hl 4 rfl) ?_
    have hFc := free_all hD hS hA
    refine va_calli (va_runV (As := []) (rest := []) ⟨hx, hb, hml, hown, hts⟩ (r_isAndOr l D (rz []) ws_56 ty_79 adK adV fo f9 rd krd tp ktp cd tl b_81 nk fr fk fp (nI (T_83 ++ eA ta_82).length) vl_84 bb kb_503 cb_504 tb_505 fb_506 H.size er_509 htl hb_520 hng hp_507 et_510 eb_517 ub_518 rz_o0) (cwV 0 hts gX4_readEither_X4_isAndOr rfl rfl rfl (by decide +kernel) ⟨Nat.le_of_ble_eq_true rfl, Nat.le_of_ble_eq_true rfl⟩) ⟨fun a U g mk q => by obtain ⟨q0, q1, qP, qK, qD, qS⟩ := q; exact ⟨q0, q1, qP, va_K.moved (u := U) (U := U.calling g mk a) (Vm.Alike.refl U.vm) qK, qD, SZ.same rfl rfl qS⟩, va_recv hK hP (ci := 4) (q0 := krd) rfl er_509, fun U hU hW => ⟨rfl, by rw [hU], by rw [hU]; exact hP, va_K.moved hW.alike hK, hD.weaken (fun _ _ _ _ => trivial), hsz9.go hS hW hU hFc⟩⟩ rfl rfl hl.1 rfl (lv_room (Nat.le_of_ble_eq_true rfl)) dX4_readEither_24 ⟨Nat.le_of_ble_eq_true rfl, Nat.le_of_ble_eq_true rfl⟩) hS (fun q _ h => hFc q h) hFc (fun r_600 u t H1 locs ht hvm w_601 hB hz1 hk1 hS => ?_)
    obtain ⟨ws_602, ty_603, hm_604, ht_606, hP1, hK1, hD1, hx_605⟩ := hB
    rw [ht] at hP1
    have hK := va_K.moved hvm.symm hK1
    have hD := hD1.weaken (fun _ _ _ h => hFc _ h)
    generalize H1 = H at hP1 hS ⊢
    have hP := hP1
    have e_607 := hm_604.keep rz_o0 er_509
    have e_608 := hm_604.keep rz_o0 et_510
    have e_609 := hm_604.keep rz_o0 ec_513
    have e_610 := hm_604.keep rz_o0 eb_517
    have u_611 := ht_606 _ _ uc_514
    have u_612 := ht_606 _ _ ub_518
    have hm_613 : sm ρ [] ws_56 ws_602 := hm_604.up (fun k _ h => rz_u0  k h)
    have hsm := hsm.tr (hm_613.mono (by decide))
    have hlp_58 := hlp_58.tr (hm_613.mono (by decide))
    have htx := htx.tr ht_606
    rcases w_601 with ⟨rfl, ao_614⟩ | ⟨rfl, ao_614⟩
    · refine lv_if_eq (tgt := 101) hx hb dX4_readEither_27 (by decide) (fun c_615 => ?_) (fun c_615 => absurd (by decide) c_615)
      refine lv_iload_n hx hb dX4_readEither_101 rfl (lv_at hl 2 rfl) ?_
      refine lv_if_eq (tgt := 111) hx hb dX4_readEither_102 (by decide) (fun c_616 => absurd c_616 (by decide)) (fun c_616 => ?_)
      refine lv_aload_n hx hb dX4_readEither_105 rfl (lv_at hl 4 rfl) ?_
      refine lv_bipush (v := (-3)) hx hb dX4_readEither_106 (by decide) ?_
      have hFc := free_all hD hS hA
      refine va_callv (va_runV (As := [.int (-3)]) (rest := []) ⟨hx, hb, hml, hown, hts⟩ (r_addCode l D ρ ws_602 ty_603 adK adV fo f9 rd krd tp ktp cd bb tl b_81 (T_83 ++ eA ta_82) nk fr fk fp vl_84 (1, 0, 0, 0) (-3) H.size htl hng (⟨kc_499, cc_500, tc_501, fc_502, kb_503, cb_504, tb_505, fb_506, hp_507, hT_508, e_607, e_608, wr_511, wt_512, e_609, u_611, wc_515, hc_516, e_610, u_612, wb_519, hb_520⟩ : RSX ρ ws_602 ty_603 f9 rd krd tp ktp cd bb tl b_81 (T_83 ++ eA ta_82) nk fr fk fp vl_84) rfl) (cwV 1 hts gX4_readEither_X4_addCode rfl rfl rfl (by decide +kernel) ⟨Nat.le_of_ble_eq_true rfl, Nat.le_of_ble_eq_true rfl⟩) ⟨fun a U g mk q => by obtain ⟨q0, q1, qP, qK, qD, qS⟩ := q; exact ⟨q0, q1, qP, va_K.moved (u := U) (U := U.calling g mk a) (Vm.Alike.refl U.vm) qK, qD, SZ.same rfl rfl qS⟩, va_recv hK hP (ci := 4) (q0 := krd) rfl e_607, fun U hU hW => ⟨rfl, by rw [hU], by rw [hU]; exact hP, va_K.moved hW.alike hK, hD.weaken (fun _ _ _ _ => trivial), hsz9.go hS hW hU hFc⟩⟩ rfl rfl hl.1 rfl (lv_room (Nat.le_of_ble_eq_true rfl)) dX4_readEither_108 ⟨Nat.le_of_ble_eq_true rfl, Nat.le_of_ble_eq_true rfl⟩) hS (fun q _ h => hFc q h) hFc (fun u t H1 locs ht hvm w_618 hB hz1 hk1 hS => ?_)
      obtain ⟨ws_619, ty_620, hm_621, ht_623, hP1, hK1, hD1, hx_622⟩ := hB
      rw [ht] at hP1
      have hK := va_K.moved hvm.symm hK1
      have hD := hD1.weaken (fun _ _ _ h => hFc _ h)
      generalize H1 = H at hP1 hS ⊢
      have hP := hP1
      obtain ⟨g_625, e_624, h_626⟩ := hm_621.obj e_607
      obtain ⟨z_627, z_628, z_629, z_630, z_631, z_632, rfl⟩ := smX4 h_626
      obtain ⟨g_634, e_633, h_635⟩ := hm_621.obj e_608
      obtain ⟨z_636, z_637, z_638, z_639, rfl⟩ := smX6 h_635
      obtain ⟨f_641, e_640⟩ := hm_621.arrI e_609
      have u_642 := ht_623 _ _ u_611
      have e_643 := hm_621.keep (by rw [wb_519]; omega) e_610
      have u_644 := ht_623 _ _ u_612
      have hsm := hsm.tr (hm_621.mono (by decide))
      have hlp_58 := hlp_58.tr (hm_621.mono (by decide))
      have htx := htx.tr ht_623
      obtain ⟨hl_645, hR_646⟩ := hx_622.resolve_right (fun h9 => h9.1 (by omega))
      obtain ⟨kc_647, cc_648, tc_649, fc_650, kb_651, cb_652, tb_653, fb_654, hp_655, hT_656, er_657, et_658, wr_659, wt_660, ec_661, uc_662, wc_663, hc_664, eb_665, ub_666, wb_667, hb_668⟩ := id hR_646
      have hp_6551 := hp_655.1
      have hp_655t := teF_le (f := f9) hp_655.1
      refine lv_iload_n hx hb dX4_readEither_111 rfl (lv_at hl 1 rfl) ?_
      exact W.zret (v := 1) hx hb hr rfl (fun t ht hW => ⟨⟨1, 1, rfl, rfl, ws_619, ty_620, hsm, htx, by rw [ht]; exact hP, va_K.moved hW.alike hK, hD, Or.inr ⟨rfl, b_81, ta_82, T_83, _, hr_85, ow_jO hbs ow_86, ao_614, by omega, by rw [(ow_eO hbs ow_86).2 rfl, ← List.append_assoc, len_a1]; omega, by rw [(ow_eO hbs ow_86).2 rfl, ← List.append_assoc]; exact (⟨kc_647, cc_648, tc_649, fc_650, kb_651, cb_652, tb_653, fb_654, hp_655, hT_656, er_657, et_658, wr_659, wt_660, ec_661, uc_662, wc_663, hc_664, eb_665, ub_666, wb_667, hb_668⟩ : RSX ρ ws_619 ty_620 f9 rd krd tp ktp cd bb tl b_81 ((T_83 ++ eA ta_82) ++ [(1, 0, 0, 0)]) nk fr fk fp vl_84)⟩⟩, hS.F ht⟩) hS.2.2 dX4_readEither_112
    refine lv_if_eq (tgt := 101) hx hb dX4_readEither_27 (by decide) (fun c_669 => absurd c_669 (by decide)) (fun c_669 => ?_)
    refine lv_aload_n hx hb dX4_readEither_30 rfl (lv_at hl 4 rfl) ?_
    refine va_get (D := D) (ci := 4) (v := .ref tp) (C := RX4) (T := TX4) (N := 8) hx hb hts hin4 hown hK hP krd e_607 rfl 0 (by decide) (hts (.fieldLink RX4 12 "HoneyHouse$RuleReader" "tape" "LHoneyHouse$Tape;") (List.mem_of_getElem? (i := 1) rfl)) (fun _ h9 => h9) rfl dX4_readEither_31 ?_
    refine va_ldcS hx hb hown hsz9.2.2.2.2.2.1 dX4_readEither_34 ?_
    have hFc := free_all hD hS hA
    refine va_calli (va_runV (As := [.ref (adK 2)]) (rest := []) ⟨hx, hb, hml, hown, hts⟩ (a_isWord l D (rz []) ws_602 ty_603 adK adV fo 2 f9 tp ktp tl b_81 bb kb_503 cb_504 tb_505 fb_506 H.size (by decide) htl hb_520 hng hp_507 e_608 e_610 u_612 rz_o0) (cwV 1 hts gX4_readEither_X6_isWord rfl rfl rfl (by decide +kernel) ⟨Nat.le_of_ble_eq_true rfl, Nat.le_of_ble_eq_true rfl⟩) ⟨fun a U g mk q => by obtain ⟨q0, q1, qP, qK, qD, qS⟩ := q; exact ⟨q0, q1, qP, va_K.moved (u := U) (U := U.calling g mk a) (Vm.Alike.refl U.vm) qK, qD, SZ.same rfl rfl qS⟩, va_recv hK hP (ci := 6) (q0 := ktp) rfl e_608, fun U hU hW => ⟨rfl, by rw [hU], by rw [hU]; exact hP, va_K.moved hW.alike hK, hD.weaken (fun _ _ _ _ => trivial), hsz9.go hS hW hU hFc⟩⟩ rfl rfl hl.1 rfl (lv_room (Nat.le_of_ble_eq_true rfl)) dX4_readEither_36 ⟨Nat.le_of_ble_eq_true rfl, Nat.le_of_ble_eq_true rfl⟩) hS (fun q _ h => hFc q h) hFc (fun r_670 u t H1 locs ht hvm w_671 hB hz1 hk1 hS => ?_)
    obtain ⟨ws_672, ty_673, hm_674, ht_676, hP1, hK1, hD1, hx_675⟩ := hB
    rw [ht] at hP1
    have hK := va_K.moved hvm.symm hK1
    have hD := hD1.weaken (fun _ _ _ h => hFc _ h)
    generalize H1 = H at hP1 hS ⊢
    have hP := hP1
    have e_677 := hm_674.keep rz_o0 e_607
    have e_678 := hm_674.keep rz_o0 e_608
    have e_679 := hm_674.keep rz_o0 e_609
    have e_680 := hm_674.keep rz_o0 e_610
    have u_681 := ht_676 _ _ u_611
    have u_682 := ht_676 _ _ u_612
    have hm_683 : sm ρ [] ws_602 ws_672 := hm_674.up (fun k _ h => rz_u0  k h)
    have hsm := hsm.tr (hm_683.mono (by decide))
    have hlp_58 := hlp_58.tr (hm_683.mono (by decide))
    have htx := htx.tr ht_676
    rcases w_671 with ⟨rfl, iw_684⟩ | ⟨rfl, iw_684⟩
    · have iw_684 : ¬ wdE f9 tl b_81 = 2 := iw_684
      refine lv_istore (lv' := [(5, .int 0), (4, .int (nI i_52)), (2, .int 1), (3, .int 1), (1, .int 5), (0, .ref rd)]) hx hb dX4_readEither_39 hl (by decide) rfl (fun ls hl => ?_)
      refine lv_iload hx hb dX4_readEither_41 (lv_at hl 0 rfl) ?_
      refine lv_if_ne (tgt := 56) hx hb dX4_readEither_43 (by decide) (fun c_685 => absurd (by decide) c_685) (fun c_685 => ?_)
      refine lv_iload_n hx hb dX4_readEither_46 rfl (lv_at hl 3 rfl) ?_
      refine lv_if_eq (tgt := 56) hx hb dX4_readEither_47 (by decide) (fun c_686 => absurd c_686 (by decide)) (fun c_686 => ?_)
      refine lv_aload_n hx hb dX4_readEither_50 rfl (lv_at hl 5 rfl) ?_
      refine lv_bipush (v := (-3)) hx hb dX4_readEither_51 (by decide) ?_
      have hFc := free_all hD hS hA
      refine va_callv (va_runV (As := [.int (-3)]) (rest := []) ⟨hx, hb, hml, hown, hts⟩ (r_addCode l D ρ ws_672 ty_673 adK adV fo f9 rd krd tp ktp cd bb tl b_81 (T_83 ++ eA ta_82) nk fr fk fp vl_84 (1, 0, 0, 0) (-3) H.size htl hng (⟨kc_499, cc_500, tc_501, fc_502, kb_503, cb_504, tb_505, fb_506, hp_507, hT_508, e_677, e_678, wr_511, wt_512, e_679, u_681, wc_515, hc_516, e_680, u_682, wb_519, hb_520⟩ : RSX ρ ws_672 ty_673 f9 rd krd tp ktp cd bb tl b_81 (T_83 ++ eA ta_82) nk fr fk fp vl_84) rfl) (cwV 1 hts gX4_readEither_X4_addCode rfl rfl rfl (by decide +kernel) ⟨Nat.le_of_ble_eq_true rfl, Nat.le_of_ble_eq_true rfl⟩) ⟨fun a U g mk q => by obtain ⟨q0, q1, qP, qK, qD, qS⟩ := q; exact ⟨q0, q1, qP, va_K.moved (u := U) (U := U.calling g mk a) (Vm.Alike.refl U.vm) qK, qD, SZ.same rfl rfl qS⟩, va_recv hK hP (ci := 4) (q0 := krd) rfl e_677, fun U hU hW => ⟨rfl, by rw [hU], by rw [hU]; exact hP, va_K.moved hW.alike hK, hD.weaken (fun _ _ _ _ => trivial), hsz9.go hS hW hU hFc⟩⟩ rfl rfl hl.1 rfl (lv_room (Nat.le_of_ble_eq_true rfl)) dX4_readEither_53 ⟨Nat.le_of_ble_eq_true rfl, Nat.le_of_ble_eq_true rfl⟩) hS (fun q _ h => hFc q h) hFc (fun u t H1 locs ht hvm w_688 hB hz1 hk1 hS => ?_)
      obtain ⟨ws_689, ty_690, hm_691, ht_693, hP1, hK1, hD1, hx_692⟩ := hB
      rw [ht] at hP1
      have hK := va_K.moved hvm.symm hK1
      have hD := hD1.weaken (fun _ _ _ h => hFc _ h)
      generalize H1 = H at hP1 hS ⊢
      have hP := hP1
      obtain ⟨g_695, e_694, h_696⟩ := hm_691.obj e_677
      obtain ⟨z_697, z_698, z_699, z_700, z_701, z_702, rfl⟩ := smX4 h_696
      obtain ⟨g_704, e_703, h_705⟩ := hm_691.obj e_678
      obtain ⟨z_706, z_707, z_708, z_709, rfl⟩ := smX6 h_705
      obtain ⟨f_711, e_710⟩ := hm_691.arrI e_679
      have u_712 := ht_693 _ _ u_681
      have e_713 := hm_691.keep (by rw [wb_519]; omega) e_680
      have u_714 := ht_693 _ _ u_682
      have hsm := hsm.tr (hm_691.mono (by decide))
      have hlp_58 := hlp_58.tr (hm_691.mono (by decide))
      have htx := htx.tr ht_693
      obtain ⟨hl_715, hR_716⟩ := hx_692.resolve_right (fun h9 => h9.1 (by omega))
      obtain ⟨kc_717, cc_718, tc_719, fc_720, kb_721, cb_722, tb_723, fb_724, hp_725, hT_726, er_727, et_728, wr_729, wt_730, ec_731, uc_732, wc_733, hc_734, eb_735, ub_736, wb_737, hb_738⟩ := id hR_716
      have hp_7251 := hp_725.1
      have hp_725t := teF_le (f := f9) hp_725.1
      refine lv_iload_n hx hb dX4_readEither_56 rfl (lv_at hl 3 rfl) ?_
      refine lv_if_ne (tgt := 65) hx hb dX4_readEither_57 (by decide) (fun c_739 => ?_) (fun c_739 => absurd c_739 (by decide))
      refine lv_iconst (v := 1) hx hb dX4_readEither_65 (by decide) ?_
      refine lv_goto (tgt := 70) hx hb dX4_readEither_66 (by decide) ?_
      refine lv_istore_n (lv' := [(3, .int 1), (5, .int 0), (4, .int (nI i_52)), (2, .int 1), (1, .int 5), (0, .ref rd)]) hx hb dX4_readEither_70 rfl hl (by decide) rfl (fun ls hl => ?_)
      have hw1 : wdE f9 tl b_81 = 1 := by omega
      have hw9 : b_81 + 2 ≤ nxF f9 tl b_81 ∧ nxF f9 tl b_81 ≤ tl := nx_wd hp_725.1 (j := 1) (by omega) hw1
      have hm9 : Rch f9 tl (0, ts, σ, T) (0, nxF f9 tl b_81, 1 :: σ, (T_83 ++ eA ta_82) ++ [(1, 0, 0, 0)]) := by have h9 := hr_85.st (st_or hw1); rw [ow_jO hbs ow_86, (ow_eO hbs ow_86).2 rfl, ← List.append_assoc] at h9; exact h9
      have hdq : dep (1 :: σ) = dep σ := dep_n _ (by omega)
      have hl9 := len_a1 (T_83 ++ eA ta_82) ((1, 0, 0, 0) : Tk)
      refine lv_aload_n hx hb dX4_readEither_71 rfl (lv_at hl 5 rfl) ?_
      refine va_get (D := D) (ci := 4) (v := .ref tp) (C := RX4) (T := TX4) (N := 8) hx hb hts hin4 hown hK hP krd er_727 rfl 0 (by decide) (hts (.fieldLink RX4 12 "HoneyHouse$RuleReader" "tape" "LHoneyHouse$Tape;") (List.mem_of_getElem? (i := 1) rfl)) (fun _ h9 => h9) rfl dX4_readEither_72 ?_
      have hFc := free_all hD hS hA
      refine va_callv (va_runV (As := []) (rest := []) ⟨hx, hb, hml, hown, hts⟩ (a_advance l D (rz [ktp]) ws_689 ty_690 f9 tp ktp tl (teF f9 tl b_81) (nI (kdF f9 tl b_81)) (nI b_81) bb kb_721 cb_722 tb_723 fb_724 H.size htl hb_738 hng (by omega) et_728 eb_735 ub_736 (rz_o1 (pl_ne eb_735 et_728 (by intro h9; simp at h9))) (rz_in (by simp))) (cwV 0 hts gX4_readEither_X6_advance rfl rfl rfl (by decide +kernel) ⟨Nat.le_of_ble_eq_true rfl, Nat.le_of_ble_eq_true rfl⟩) ⟨fun a U g mk q => by obtain ⟨q0, q1, qP, qK, qD⟩ := q; exact ⟨q0, q1, qP, va_K.moved (u := U) (U := U.calling g mk a) (Vm.Alike.refl U.vm) qK, qD⟩, va_recv hK hP (ci := 6) (q0 := ktp) rfl et_728, fun U hU hW => ⟨rfl, by rw [hU], by rw [hU]; exact hP, va_K.moved hW.alike hK, hD.weaken (fun _ _ _ _ => trivial)⟩⟩ rfl rfl hl.1 rfl (lv_room (Nat.le_of_ble_eq_true rfl)) dX4_readEither_75 ⟨Nat.le_of_ble_eq_true rfl, Nat.le_of_ble_eq_true rfl⟩) hS (fun q _ h => hFc q h) hFc (fun u t H1 locs ht hvm w_741 hB hz1 hk1 hS => ?_)
      obtain ⟨ws_742, ty_743, hm_744, ht_746, hP1, hK1, hD1, hx_745⟩ := hB
      rw [ht] at hP1
      have hK := va_K.moved hvm.symm hK1
      have hD := hD1.weaken (fun _ _ _ h => hFc _ h)
      generalize H1 = H at hP1 hS ⊢
      have hP := hP1
      have e_747 := hm_744.keep (rz_o1 (pl_ne er_727 et_728 (by intro h9; simp at h9))) er_727
      have e_748 := hm_744.keep (rz_o1 (pl_ne ec_731 et_728 (by intro h9; simp at h9))) ec_731
      have e_749 := hm_744.keep (rz_o1 (pl_ne eb_735 et_728 (by intro h9; simp at h9))) eb_735
      have u_750 := ht_746 _ _ uc_732
      have u_751 := ht_746 _ _ ub_736
      have hm_752 : sm ρ [6] ws_689 ws_742 := hm_744.up (fun k _ h => rz_u1 wt_730 k h)
      have hsm := hsm.tr (hm_752.mono (by decide))
      have hlp_58 := hlp_58.tr (hm_752.mono (by decide))
      have htx := htx.tr ht_746
      have e_753 : ws_742[ktp]? = some (tp, .inr (6, [.int (nI tl), .int (nI (kdF f9 tl (nxF f9 tl b_81))), .int (nI (nxF f9 tl b_81)), .int (nI (teF f9 tl (nxF f9 tl b_81))), .ref bb])) := hx_745; have hq_754 : pcB f9 tl (nxF f9 tl b_81) := nxF_pc (f := f9) hp_725.1; have hq_7541 := hq_754.1; have hq_754t := teF_le (f := f9) hq_754.1; have hg_755 := nx_gain (f := f9) hp_725.1
      refine lv_aload_n hx hb dX4_readEither_78 rfl (lv_at hl 5 rfl) ?_
      refine lv_iload_n hx hb dX4_readEither_79 rfl (lv_at hl 4 rfl) ?_
      have hFc := free_all hD hS hA
      refine va_calli (va_runV (As := [.int 5]) (rest := []) ⟨hx, hb, hml, hown, hts⟩ (r_readOne5 l D ρ ws_742 ty_743 adK adV fo f9 rd krd tp ktp cd bb tl (nxF f9 tl b_81) ((T_83 ++ eA ta_82) ++ [(1, 0, 0, 0)]) nk fr fk fp vl_84 (1 :: σ) H.size htl hng (⟨kc_717, cc_718, tc_719, fc_720, kb_721, cb_722, tb_723, fb_724, hq_754, hT_726, e_747, e_753, wr_729, wt_730, e_748, u_750, wc_733, hc_734, e_749, u_751, wb_737, hb_738⟩ : RSX ρ ws_742 ty_743 f9 rd krd tp ktp cd bb tl (nxF f9 tl b_81) ((T_83 ++ eA ta_82) ++ [(1, 0, 0, 0)]) nk fr fk fp vl_84) (hdq.trans hdp) (by omega)) (cwV 1 hts gX4_readEither_X4_readOne rfl rfl rfl (by decide +kernel) ⟨Nat.le_of_ble_eq_true rfl, Nat.le_of_ble_eq_true rfl⟩) ⟨fun a U g mk q => by obtain ⟨q0, q1, qP, qK, qD, qS⟩ := q; exact ⟨q0, q1, qP, va_K.moved (u := U) (U := U.calling g mk a) (Vm.Alike.refl U.vm) qK, qD, SZ.same rfl rfl qS⟩, va_recv hK hP (ci := 4) (q0 := krd) rfl e_747, fun U hU hW => ⟨rfl, by rw [hU], by rw [hU]; exact hP, va_K.moved hW.alike hK, hD.weaken (fun _ _ _ _ => trivial), hsz9.go hS hW hU hFc⟩⟩ rfl rfl hl.1 rfl (lv_room (Nat.le_of_ble_eq_true rfl)) dX4_readEither_80 ⟨Nat.le_of_ble_eq_true rfl, Nat.le_of_ble_eq_true rfl⟩) hS (fun q _ h => hFc q h) hFc (fun r_756 u t H1 locs ht hvm w_757 hB hz1 hk1 hS => ?_)
      subst w_757
      obtain ⟨ws_758, ty_759, hm_760, ht_762, hP1, hK1, hD1, hx_761⟩ := hB
      rw [ht] at hP1
      have hK := va_K.moved hvm.symm hK1
      have hD := hD1.weaken (fun _ _ _ h => hFc _ h)
      generalize H1 = H at hP1 hS ⊢
      have hP := hP1
      obtain ⟨g_764, e_763, h_765⟩ := hm_760.obj e_747
      obtain ⟨z_766, z_767, z_768, z_769, z_770, z_771, rfl⟩ := smX4 h_765
      obtain ⟨g_773, e_772, h_774⟩ := hm_760.obj e_753
      obtain ⟨z_775, z_776, z_777, z_778, rfl⟩ := smX6 h_774
      obtain ⟨f_780, e_779⟩ := hm_760.arrI e_748
      have u_781 := ht_762 _ _ u_750
      have e_782 := hm_760.keep (by rw [wb_737]; omega) e_749
      have u_783 := ht_762 _ _ u_751
      have hsm := hsm.tr (hm_760.mono (by decide))
      have hlp_58 := hlp_58.tr (hm_760.mono (by decide))
      have htx := htx.tr ht_762
      rcases hx_761 with ⟨rfl, k_784, p_785, ts_786, T_787, vl_788, hk_789, hk_790, hr_791, hR_792⟩ | ⟨rfl, b_793, T_787, vl_788, hr_791, hg_797, hg_798, hR_792⟩
      · obtain ⟨kc_799, cc_800, tc_801, fc_802, kb_803, cb_804, tb_805, fb_806, hp_807, hT_808, er_809, et_810, wr_811, wt_812, ec_813, uc_814, wc_815, hc_816, eb_817, ub_818, wb_819, hb_820⟩ := id hR_792
        have hp_8071 := hp_807.1
        have hp_807t := teF_le (f := f9) hp_807.1
        refine lv_istore_n (lv' := [(2, .int 0), (3, .int 1), (5, .int 0), (4, .int (nI i_52)), (1, .int 5), (0, .ref rd)]) hx hb dX4_readEither_83 rfl hl (by decide) rfl (fun ls hl => ?_)
        refine lv_iload hx hb dX4_readEither_84 (lv_at hl 2 rfl) ?_
        refine lv_if_eq (tgt := 95) hx hb dX4_readEither_86 (by decide) (fun c_821 => ?_) (fun c_821 => absurd (by decide) c_821)
        refine lv_iinc (v := nI (i_52 + 1)) (lv' := [(4, .int (nI (i_52 + 1))), (2, .int 0), (3, .int 1), (5, .int 0), (1, .int 5), (0, .ref rd)]) hx hb dX4_readEither_95 hl (k := 3) rfl (nI_add i_52 1) (by decide) rfl (fun ls hl => ?_)
        refine lv_goto (tgt := 11) hx hb dX4_readEither_98 (by decide) ?_
        exact ih_51 (i_52 + 1, 0, 1) ws_758 _ _ ls (by show 400 - (i_52 + 1) < 400 - i_52; omega) ⟨hlp_58, ⟨ty_759, hK, htx, Or.inr ⟨rfl, Or.inr rfl, (⟨k_784, p_785, _, _, _, by omega, by omega, hm9.tr hr_791, (⟨kc_799, cc_800, tc_801, fc_802, kb_803, cb_804, tb_805, fb_806, hp_807, hT_808, er_809, et_810, wr_811, wt_812, ec_813, uc_814, wc_815, hc_816, eb_817, ub_818, wb_819, hb_820⟩ : RSX ρ ws_758 ty_759 f9 rd krd tp ktp cd bb tl ts_786 T_787 nk fr (nI k_784) (nI p_785) vl_788)⟩ : FLT ρ ws_758 ty_759 f9 rd krd tp ktp cd bb tl (0, ts, σ, T) nk fr)⟩⟩, (show (i_52 + 1) ≤ 400 from by omega)⟩ hP hD hS (lv_sub hl [0, 1, 2, 4, 5] rfl)
      obtain ⟨kc_822, cc_823, tc_824, fc_825, kb_826, cb_827, tb_828, fb_829, hp_830, hT_831, er_832, et_833, wr_834, wt_835, ec_836, uc_837, wc_838, hc_839, eb_840, ub_841, wb_842, hb_843⟩ := id hR_792
      have hp_8301 := hp_830.1
      have hp_830t := teF_le (f := f9) hp_830.1
      refine lv_istore_n (lv' := [(2, .int 1), (3, .int 1), (5, .int 0), (4, .int (nI i_52)), (1, .int 5), (0, .ref rd)]) hx hb dX4_readEither_83 rfl hl (by decide) rfl (fun ls hl => ?_)
      refine lv_iload hx hb dX4_readEither_84 (lv_at hl 2 rfl) ?_
      refine lv_if_eq (tgt := 95) hx hb dX4_readEither_86 (by decide) (fun c_844 => ?_) (fun c_844 => absurd (by decide) c_844)
      refine lv_iinc (v := nI (i_52 + 1)) (lv' := [(4, .int (nI (i_52 + 1))), (2, .int 1), (3, .int 1), (5, .int 0), (1, .int 5), (0, .ref rd)]) hx hb dX4_readEither_95 hl (k := 3) rfl (nI_add i_52 1) (by decide) rfl (fun ls hl => ?_)
      refine lv_goto (tgt := 11) hx hb dX4_readEither_98 (by decide) ?_
      exact ih_51 (i_52 + 1, 1, 1) ws_758 _ _ ls (by show 400 - (i_52 + 1) < 400 - i_52; omega) ⟨hlp_58, ⟨ty_759, hK, htx, Or.inl ⟨rfl, Or.inr rfl, (⟨b_793, 1 :: σ, T_787, _, hm9.tr (rch_an (by omega) hr_791), ow_or, by omega, fun _ => by rw [eA_n _ (by omega), List.append_nil]; omega, fun h9 => absurd h9 (by decide), by rw [eA_n _ (by omega), List.append_nil]; exact (⟨kc_822, cc_823, tc_824, fc_825, kb_826, cb_827, tb_828, fb_829, hp_830, hT_831, er_832, et_833, wr_834, wt_835, ec_836, uc_837, wc_838, hc_839, eb_840, ub_841, wb_842, hb_843⟩ : RSX ρ ws_758 ty_759 f9 rd krd tp ktp cd bb tl b_793 T_787 nk fr fk fp vl_788)⟩ : LPE ρ ws_758 ty_759 f9 rd krd tp ktp cd bb tl ts σ T nk fr fk fp (i_52 + 1) 1)⟩⟩, (show (i_52 + 1) ≤ 400 from by omega)⟩ hP hD hS (lv_sub hl [0, 1, 2, 4, 5] rfl)
    have iw_684 : wdE f9 tl b_81 = 2 := iw_684
    refine lv_istore (lv' := [(5, .int 1), (4, .int (nI i_52)), (2, .int 1), (3, .int 1), (1, .int 5), (0, .ref rd)]) hx hb dX4_readEither_39 hl (by decide) rfl (fun ls hl => ?_)
    refine lv_iload hx hb dX4_readEither_41 (lv_at hl 0 rfl) ?_
    refine lv_if_ne (tgt := 56) hx hb dX4_readEither_43 (by decide) (fun c_845 => ?_) (fun c_845 => absurd c_845 (by decide))
    refine lv_iload_n hx hb dX4_readEither_56 rfl (lv_at hl 3 rfl) ?_
    refine lv_if_ne (tgt := 65) hx hb dX4_readEither_57 (by decide) (fun c_846 => ?_) (fun c_846 => absurd c_846 (by decide))
    refine lv_iconst (v := 1) hx hb dX4_readEither_65 (by decide) ?_
    refine lv_goto (tgt := 70) hx hb dX4_readEither_66 (by decide) ?_
    refine lv_istore_n (lv' := [(3, .int 1), (5, .int 1), (4, .int (nI i_52)), (2, .int 1), (1, .int 5), (0, .ref rd)]) hx hb dX4_readEither_70 rfl hl (by decide) rfl (fun ls hl => ?_)
    have hw9 : b_81 + 3 ≤ nxF f9 tl b_81 ∧ nxF f9 tl b_81 ≤ tl := nx_wd hp_507.1 (j := 2) (by omega) iw_684
    have hm9 : Rch f9 tl (0, ts, σ, T) (0, nxF f9 tl b_81, 2 :: jA ta_82, T_83 ++ eA ta_82) := hr_85.st (st_and iw_684)
    have hdq : dep (2 :: jA ta_82) = dep σ := (dep_n _ (by omega)).trans ((dep_jA _).trans ((dep_jO _).symm.trans (congrArg dep (ow_jO hbs ow_86))))
    refine lv_aload_n hx hb dX4_readEither_71 rfl (lv_at hl 5 rfl) ?_
    refine va_get (D := D) (ci := 4) (v := .ref tp) (C := RX4) (T := TX4) (N := 8) hx hb hts hin4 hown hK hP krd e_677 rfl 0 (by decide) (hts (.fieldLink RX4 12 "HoneyHouse$RuleReader" "tape" "LHoneyHouse$Tape;") (List.mem_of_getElem? (i := 1) rfl)) (fun _ h9 => h9) rfl dX4_readEither_72 ?_
    have hFc := free_all hD hS hA
    refine va_callv (va_runV (As := []) (rest := []) ⟨hx, hb, hml, hown, hts⟩ (a_advance l D (rz [ktp]) ws_672 ty_673 f9 tp ktp tl (teF f9 tl b_81) (nI (kdF f9 tl b_81)) (nI b_81) bb kb_503 cb_504 tb_505 fb_506 H.size htl hb_520 hng (by omega) e_678 e_680 u_682 (rz_o1 (pl_ne e_680 e_678 (by intro h9; simp at h9))) (rz_in (by simp))) (cwV 0 hts gX4_readEither_X6_advance rfl rfl rfl (by decide +kernel) ⟨Nat.le_of_ble_eq_true rfl, Nat.le_of_ble_eq_true rfl⟩) ⟨fun a U g mk q => by obtain ⟨q0, q1, qP, qK, qD⟩ := q; exact ⟨q0, q1, qP, va_K.moved (u := U) (U := U.calling g mk a) (Vm.Alike.refl U.vm) qK, qD⟩, va_recv hK hP (ci := 6) (q0 := ktp) rfl e_678, fun U hU hW => ⟨rfl, by rw [hU], by rw [hU]; exact hP, va_K.moved hW.alike hK, hD.weaken (fun _ _ _ _ => trivial)⟩⟩ rfl rfl hl.1 rfl (lv_room (Nat.le_of_ble_eq_true rfl)) dX4_readEither_75 ⟨Nat.le_of_ble_eq_true rfl, Nat.le_of_ble_eq_true rfl⟩) hS (fun q _ h => hFc q h) hFc (fun u t H1 locs ht hvm w_848 hB hz1 hk1 hS => ?_)
    obtain ⟨ws_849, ty_850, hm_851, ht_853, hP1, hK1, hD1, hx_852⟩ := hB
    rw [ht] at hP1
    have hK := va_K.moved hvm.symm hK1
    have hD := hD1.weaken (fun _ _ _ h => hFc _ h)
    generalize H1 = H at hP1 hS ⊢
    have hP := hP1
    have e_854 := hm_851.keep (rz_o1 (pl_ne e_677 e_678 (by intro h9; simp at h9))) e_677
    have e_855 := hm_851.keep (rz_o1 (pl_ne e_679 e_678 (by intro h9; simp at h9))) e_679
    have e_856 := hm_851.keep (rz_o1 (pl_ne e_680 e_678 (by intro h9; simp at h9))) e_680
    have u_857 := ht_853 _ _ u_681
    have u_858 := ht_853 _ _ u_682
    have hm_859 : sm ρ [6] ws_672 ws_849 := hm_851.up (fun k _ h => rz_u1 wt_512 k h)
    have hsm := hsm.tr (hm_859.mono (by decide))
    have hlp_58 := hlp_58.tr (hm_859.mono (by decide))
    have htx := htx.tr ht_853
    have e_860 : ws_849[ktp]? = some (tp, .inr (6, [.int (nI tl), .int (nI (kdF f9 tl (nxF f9 tl b_81))), .int (nI (nxF f9 tl b_81)), .int (nI (teF f9 tl (nxF f9 tl b_81))), .ref bb])) := hx_852; have hq_861 : pcB f9 tl (nxF f9 tl b_81) := nxF_pc (f := f9) hp_507.1; have hq_8611 := hq_861.1; have hq_861t := teF_le (f := f9) hq_861.1; have hg_862 := nx_gain (f := f9) hp_507.1
    refine lv_aload_n hx hb dX4_readEither_78 rfl (lv_at hl 5 rfl) ?_
    refine lv_iload_n hx hb dX4_readEither_79 rfl (lv_at hl 4 rfl) ?_
    have hFc := free_all hD hS hA
    refine va_calli (va_runV (As := [.int 5]) (rest := []) ⟨hx, hb, hml, hown, hts⟩ (r_readOne5 l D ρ ws_849 ty_850 adK adV fo f9 rd krd tp ktp cd bb tl (nxF f9 tl b_81) (T_83 ++ eA ta_82) nk fr fk fp vl_84 (2 :: jA ta_82) H.size htl hng (⟨kc_499, cc_500, tc_501, fc_502, kb_503, cb_504, tb_505, fb_506, hq_861, hT_508, e_854, e_860, wr_511, wt_512, e_855, u_857, wc_515, hc_516, e_856, u_858, wb_519, hb_520⟩ : RSX ρ ws_849 ty_850 f9 rd krd tp ktp cd bb tl (nxF f9 tl b_81) (T_83 ++ eA ta_82) nk fr fk fp vl_84) (hdq.trans hdp) (by omega)) (cwV 1 hts gX4_readEither_X4_readOne rfl rfl rfl (by decide +kernel) ⟨Nat.le_of_ble_eq_true rfl, Nat.le_of_ble_eq_true rfl⟩) ⟨fun a U g mk q => by obtain ⟨q0, q1, qP, qK, qD, qS⟩ := q; exact ⟨q0, q1, qP, va_K.moved (u := U) (U := U.calling g mk a) (Vm.Alike.refl U.vm) qK, qD, SZ.same rfl rfl qS⟩, va_recv hK hP (ci := 4) (q0 := krd) rfl e_854, fun U hU hW => ⟨rfl, by rw [hU], by rw [hU]; exact hP, va_K.moved hW.alike hK, hD.weaken (fun _ _ _ _ => trivial), hsz9.go hS hW hU hFc⟩⟩ rfl rfl hl.1 rfl (lv_room (Nat.le_of_ble_eq_true rfl)) dX4_readEither_80 ⟨Nat.le_of_ble_eq_true rfl, Nat.le_of_ble_eq_true rfl⟩) hS (fun q _ h => hFc q h) hFc (fun r_863 u t H1 locs ht hvm w_864 hB hz1 hk1 hS => ?_)
    subst w_864
    obtain ⟨ws_865, ty_866, hm_867, ht_869, hP1, hK1, hD1, hx_868⟩ := hB
    rw [ht] at hP1
    have hK := va_K.moved hvm.symm hK1
    have hD := hD1.weaken (fun _ _ _ h => hFc _ h)
    generalize H1 = H at hP1 hS ⊢
    have hP := hP1
    obtain ⟨g_871, e_870, h_872⟩ := hm_867.obj e_854
    obtain ⟨z_873, z_874, z_875, z_876, z_877, z_878, rfl⟩ := smX4 h_872
    obtain ⟨g_880, e_879, h_881⟩ := hm_867.obj e_860
    obtain ⟨z_882, z_883, z_884, z_885, rfl⟩ := smX6 h_881
    obtain ⟨f_887, e_886⟩ := hm_867.arrI e_855
    have u_888 := ht_869 _ _ u_857
    have e_889 := hm_867.keep (by rw [wb_519]; omega) e_856
    have u_890 := ht_869 _ _ u_858
    have hsm := hsm.tr (hm_867.mono (by decide))
    have hlp_58 := hlp_58.tr (hm_867.mono (by decide))
    have htx := htx.tr ht_869
    rcases hx_868 with ⟨rfl, k_891, p_892, ts_893, T_894, vl_895, hk_896, hk_897, hr_898, hR_899⟩ | ⟨rfl, b_900, T_894, vl_895, hr_898, hg_904, hg_905, hR_899⟩
    · obtain ⟨kc_906, cc_907, tc_908, fc_909, kb_910, cb_911, tb_912, fb_913, hp_914, hT_915, er_916, et_917, wr_918, wt_919, ec_920, uc_921, wc_922, hc_923, eb_924, ub_925, wb_926, hb_927⟩ := id hR_899
      have hp_9141 := hp_914.1
      have hp_914t := teF_le (f := f9) hp_914.1
      refine lv_istore_n (lv' := [(2, .int 0), (3, .int 1), (5, .int 1), (4, .int (nI i_52)), (1, .int 5), (0, .ref rd)]) hx hb dX4_readEither_83 rfl hl (by decide) rfl (fun ls hl => ?_)
      refine lv_iload hx hb dX4_readEither_84 (lv_at hl 2 rfl) ?_
      refine lv_if_eq (tgt := 95) hx hb dX4_readEither_86 (by decide) (fun c_928 => absurd c_928 (by decide)) (fun c_928 => ?_)
      refine lv_aload_n hx hb dX4_readEither_89 rfl (lv_at hl 5 rfl) ?_
      refine lv_bipush (v := (-2)) hx hb dX4_readEither_90 (by decide) ?_
      have hFc := free_all hD hS hA
      refine va_callv (va_runV (As := [.int (-2)]) (rest := []) ⟨hx, hb, hml, hown, hts⟩ (r_addCode l D ρ ws_865 ty_866 adK adV fo f9 rd krd tp ktp cd bb tl ts_893 T_894 nk fr (nI k_891) (nI p_892) vl_895 (2, 0, 0, 0) (-2) H.size htl hng (⟨kc_906, cc_907, tc_908, fc_909, kb_910, cb_911, tb_912, fb_913, hp_914, hT_915, er_916, et_917, wr_918, wt_919, ec_920, uc_921, wc_922, hc_923, eb_924, ub_925, wb_926, hb_927⟩ : RSX ρ ws_865 ty_866 f9 rd krd tp ktp cd bb tl ts_893 T_894 nk fr (nI k_891) (nI p_892) vl_895) rfl) (cwV 1 hts gX4_readEither_X4_addCode rfl rfl rfl (by decide +kernel) ⟨Nat.le_of_ble_eq_true rfl, Nat.le_of_ble_eq_true rfl⟩) ⟨fun a U g mk q => by obtain ⟨q0, q1, qP, qK, qD, qS⟩ := q; exact ⟨q0, q1, qP, va_K.moved (u := U) (U := U.calling g mk a) (Vm.Alike.refl U.vm) qK, qD, SZ.same rfl rfl qS⟩, va_recv hK hP (ci := 4) (q0 := krd) rfl er_916, fun U hU hW => ⟨rfl, by rw [hU], by rw [hU]; exact hP, va_K.moved hW.alike hK, hD.weaken (fun _ _ _ _ => trivial), hsz9.go hS hW hU hFc⟩⟩ rfl rfl hl.1 rfl (lv_room (Nat.le_of_ble_eq_true rfl)) dX4_readEither_92 ⟨Nat.le_of_ble_eq_true rfl, Nat.le_of_ble_eq_true rfl⟩) hS (fun q _ h => hFc q h) hFc (fun u t H1 locs ht hvm w_930 hB hz1 hk1 hS => ?_)
      obtain ⟨ws_931, ty_932, hm_933, ht_935, hP1, hK1, hD1, hx_934⟩ := hB
      rw [ht] at hP1
      have hK := va_K.moved hvm.symm hK1
      have hD := hD1.weaken (fun _ _ _ h => hFc _ h)
      generalize H1 = H at hP1 hS ⊢
      have hP := hP1
      obtain ⟨g_937, e_936, h_938⟩ := hm_933.obj er_916
      obtain ⟨z_939, z_940, z_941, z_942, z_943, z_944, rfl⟩ := smX4 h_938
      obtain ⟨g_946, e_945, h_947⟩ := hm_933.obj et_917
      obtain ⟨z_948, z_949, z_950, z_951, rfl⟩ := smX6 h_947
      obtain ⟨f_953, e_952⟩ := hm_933.arrI ec_920
      have u_954 := ht_935 _ _ uc_921
      have e_955 := hm_933.keep (by rw [wb_926]; omega) eb_924
      have u_956 := ht_935 _ _ ub_925
      have hsm := hsm.tr (hm_933.mono (by decide))
      have hlp_58 := hlp_58.tr (hm_933.mono (by decide))
      have htx := htx.tr ht_935
      rcases hx_934 with ⟨hl_957, hR_958⟩ | ⟨hl_957, hR_958⟩
      · obtain ⟨kc_959, cc_960, tc_961, fc_962, kb_963, cb_964, tb_965, fb_966, hp_967, hT_968, er_969, et_970, wr_971, wt_972, ec_973, uc_974, wc_975, hc_976, eb_977, ub_978, wb_979, hb_980⟩ := id hR_958
        have hp_9671 := hp_967.1
        have hp_967t := teF_le (f := f9) hp_967.1
        refine lv_iinc (v := nI (i_52 + 1)) (lv' := [(4, .int (nI (i_52 + 1))), (2, .int 0), (3, .int 1), (5, .int 1), (1, .int 5), (0, .ref rd)]) hx hb dX4_readEither_95 hl (k := 3) rfl (nI_add i_52 1) (by decide) rfl (fun ls hl => ?_)
        refine lv_goto (tgt := 11) hx hb dX4_readEither_98 (by decide) ?_
        exact ih_51 (i_52 + 1, 0, 1) ws_931 _ _ ls (by show 400 - (i_52 + 1) < 400 - i_52; omega) ⟨hlp_58, ⟨ty_932, hK, htx, Or.inr ⟨rfl, Or.inr rfl, (⟨k_891, p_892, _, _, _, by omega, by omega, hm9.tr hr_898, (⟨kc_959, cc_960, tc_961, fc_962, kb_963, cb_964, tb_965, fb_966, hp_967, hT_968, er_969, et_970, wr_971, wt_972, ec_973, uc_974, wc_975, hc_976, eb_977, ub_978, wb_979, hb_980⟩ : RSX ρ ws_931 ty_932 f9 rd krd tp ktp cd bb tl ts_893 (T_894 ++ [(2, 0, 0, 0)]) nk fr (nI k_891) (nI p_892) vl_895)⟩ : FLT ρ ws_931 ty_932 f9 rd krd tp ktp cd bb tl (0, ts, σ, T) nk fr)⟩⟩, (show (i_52 + 1) ≤ 400 from by omega)⟩ hP hD hS (lv_sub hl [0, 1, 2, 4, 5] rfl)
      obtain ⟨kc_981, cc_982, tc_983, fc_984, kb_985, cb_986, tb_987, fb_988, hp_989, hT_990, er_991, et_992, wr_993, wt_994, ec_995, uc_996, wc_997, hc_998, eb_999, ub_1000, wb_1001, hb_1002⟩ := id hR_958
      have hp_9891 := hp_989.1
      have hp_989t := teF_le (f := f9) hp_989.1
      refine lv_iinc (v := nI (i_52 + 1)) (lv' := [(4, .int (nI (i_52 + 1))), (2, .int 0), (3, .int 1), (5, .int 1), (1, .int 5), (0, .ref rd)]) hx hb dX4_readEither_95 hl (k := 3) rfl (nI_add i_52 1) (by decide) rfl (fun ls hl => ?_)
      refine lv_goto (tgt := 11) hx hb dX4_readEither_98 (by decide) ?_
      exact ih_51 (i_52 + 1, 0, 1) ws_931 _ _ ls (by show 400 - (i_52 + 1) < 400 - i_52; omega) ⟨hlp_58, ⟨ty_932, hK, htx, Or.inr ⟨rfl, Or.inr rfl, (⟨k_891, p_892, _, _, _, by omega, by omega, hm9.tr hr_898, (⟨kc_981, cc_982, tc_983, fc_984, kb_985, cb_986, tb_987, fb_988, hp_989, hT_990, er_991, et_992, wr_993, wt_994, ec_995, uc_996, wc_997, hc_998, eb_999, ub_1000, wb_1001, hb_1002⟩ : RSX ρ ws_931 ty_932 f9 rd krd tp ktp cd bb tl ts_893 T_894 nk fr (nI k_891) (nI p_892) vl_895)⟩ : FLT ρ ws_931 ty_932 f9 rd krd tp ktp cd bb tl (0, ts, σ, T) nk fr)⟩⟩, (show (i_52 + 1) ≤ 400 from by omega)⟩ hP hD hS (lv_sub hl [0, 1, 2, 4, 5] rfl)
    obtain ⟨kc_1003, cc_1004, tc_1005, fc_1006, kb_1007, cb_1008, tb_1009, fb_1010, hp_1011, hT_1012, er_1013, et_1014, wr_1015, wt_1016, ec_1017, uc_1018, wc_1019, hc_1020, eb_1021, ub_1022, wb_1023, hb_1024⟩ := id hR_899
    have hp_10111 := hp_1011.1
    have hp_1011t := teF_le (f := f9) hp_1011.1
    refine lv_istore_n (lv' := [(2, .int 1), (3, .int 1), (5, .int 1), (4, .int (nI i_52)), (1, .int 5), (0, .ref rd)]) hx hb dX4_readEither_83 rfl hl (by decide) rfl (fun ls hl => ?_)
    refine lv_iload hx hb dX4_readEither_84 (lv_at hl 2 rfl) ?_
    refine lv_if_eq (tgt := 95) hx hb dX4_readEither_86 (by decide) (fun c_1025 => absurd c_1025 (by decide)) (fun c_1025 => ?_)
    refine lv_aload_n hx hb dX4_readEither_89 rfl (lv_at hl 5 rfl) ?_
    refine lv_bipush (v := (-2)) hx hb dX4_readEither_90 (by decide) ?_
    have hFc := free_all hD hS hA
    refine va_callv (va_runV (As := [.int (-2)]) (rest := []) ⟨hx, hb, hml, hown, hts⟩ (r_addCode l D ρ ws_865 ty_866 adK adV fo f9 rd krd tp ktp cd bb tl b_900 T_894 nk fr fk fp vl_895 (2, 0, 0, 0) (-2) H.size htl hng (⟨kc_1003, cc_1004, tc_1005, fc_1006, kb_1007, cb_1008, tb_1009, fb_1010, hp_1011, hT_1012, er_1013, et_1014, wr_1015, wt_1016, ec_1017, uc_1018, wc_1019, hc_1020, eb_1021, ub_1022, wb_1023, hb_1024⟩ : RSX ρ ws_865 ty_866 f9 rd krd tp ktp cd bb tl b_900 T_894 nk fr fk fp vl_895) rfl) (cwV 1 hts gX4_readEither_X4_addCode rfl rfl rfl (by decide +kernel) ⟨Nat.le_of_ble_eq_true rfl, Nat.le_of_ble_eq_true rfl⟩) ⟨fun a U g mk q => by obtain ⟨q0, q1, qP, qK, qD, qS⟩ := q; exact ⟨q0, q1, qP, va_K.moved (u := U) (U := U.calling g mk a) (Vm.Alike.refl U.vm) qK, qD, SZ.same rfl rfl qS⟩, va_recv hK hP (ci := 4) (q0 := krd) rfl er_1013, fun U hU hW => ⟨rfl, by rw [hU], by rw [hU]; exact hP, va_K.moved hW.alike hK, hD.weaken (fun _ _ _ _ => trivial), hsz9.go hS hW hU hFc⟩⟩ rfl rfl hl.1 rfl (lv_room (Nat.le_of_ble_eq_true rfl)) dX4_readEither_92 ⟨Nat.le_of_ble_eq_true rfl, Nat.le_of_ble_eq_true rfl⟩) hS (fun q _ h => hFc q h) hFc (fun u t H1 locs ht hvm w_1027 hB hz1 hk1 hS => ?_)
    obtain ⟨ws_1028, ty_1029, hm_1030, ht_1032, hP1, hK1, hD1, hx_1031⟩ := hB
    rw [ht] at hP1
    have hK := va_K.moved hvm.symm hK1
    have hD := hD1.weaken (fun _ _ _ h => hFc _ h)
    generalize H1 = H at hP1 hS ⊢
    have hP := hP1
    obtain ⟨g_1034, e_1033, h_1035⟩ := hm_1030.obj er_1013
    obtain ⟨z_1036, z_1037, z_1038, z_1039, z_1040, z_1041, rfl⟩ := smX4 h_1035
    obtain ⟨g_1043, e_1042, h_1044⟩ := hm_1030.obj et_1014
    obtain ⟨z_1045, z_1046, z_1047, z_1048, rfl⟩ := smX6 h_1044
    obtain ⟨f_1050, e_1049⟩ := hm_1030.arrI ec_1017
    have u_1051 := ht_1032 _ _ uc_1018
    have e_1052 := hm_1030.keep (by rw [wb_1023]; omega) eb_1021
    have u_1053 := ht_1032 _ _ ub_1022
    have hsm := hsm.tr (hm_1030.mono (by decide))
    have hlp_58 := hlp_58.tr (hm_1030.mono (by decide))
    have htx := htx.tr ht_1032
    obtain ⟨hl_1054, hR_1055⟩ := hx_1031.resolve_right (fun h9 => h9.1 (by omega))
    obtain ⟨kc_1056, cc_1057, tc_1058, fc_1059, kb_1060, cb_1061, tb_1062, fb_1063, hp_1064, hT_1065, er_1066, et_1067, wr_1068, wt_1069, ec_1070, uc_1071, wc_1072, hc_1073, eb_1074, ub_1075, wb_1076, hb_1077⟩ := id hR_1055
    have hp_10641 := hp_1064.1
    have hp_1064t := teF_le (f := f9) hp_1064.1
    refine lv_iinc (v := nI (i_52 + 1)) (lv' := [(4, .int (nI (i_52 + 1))), (2, .int 1), (3, .int 1), (5, .int 1), (1, .int 5), (0, .ref rd)]) hx hb dX4_readEither_95 hl (k := 3) rfl (nI_add i_52 1) (by decide) rfl (fun ls hl => ?_)
    refine lv_goto (tgt := 11) hx hb dX4_readEither_98 (by decide) ?_
    exact ih_51 (i_52 + 1, 1, 1) ws_1028 _ _ ls (by show 400 - (i_52 + 1) < 400 - i_52; omega) ⟨hlp_58, ⟨ty_1029, hK, htx, Or.inl ⟨rfl, Or.inr rfl, (⟨b_900, 2 :: jA ta_82, T_894, _, hm9.tr (rch_an (by omega) hr_898), ow_and hbs ow_86, by omega, fun _ => by rw [eA_2jA, len_a1]; omega, fun h9 => absurd h9 (by decide), by rw [eA_2jA]; exact (⟨kc_1056, cc_1057, tc_1058, fc_1059, kb_1060, cb_1061, tb_1062, fb_1063, hp_1064, hT_1065, er_1066, et_1067, wr_1068, wt_1069, ec_1070, uc_1071, wc_1072, hc_1073, eb_1074, ub_1075, wb_1076, hb_1077⟩ : RSX ρ ws_1028 ty_1029 f9 rd krd tp ktp cd bb tl b_900 (T_894 ++ [(2, 0, 0, 0)]) nk fr fk fp vl_895)⟩ : LPE ρ ws_1028 ty_1029 f9 rd krd tp ktp cd bb tl ts σ T nk fr fk fp (i_52 + 1) 1)⟩⟩, (show (i_52 + 1) ≤ 400 from by omega)⟩ hP hD hS (lv_sub hl [0, 1, 2, 4, 5] rfl)
  · obtain ⟨kc_1078, cc_1079, tc_1080, fc_1081, kb_1082, cb_1083, tb_1084, fb_1085, hp_1086, hT_1087, er_1088, et_1089, wr_1090, wt_1091, ec_1092, uc_1093, wc_1094, hc_1095, eb_1096, ub_1097, wb_1098, hb_1099⟩ := id hR_90
    have hp_10861 := hp_1086.1
    have hp_1086t := teF_le (f := f9) hp_1086.1
    refine lv_sipush (v := 400) hx hb dX4_readEither_13 (by decide) ?_
    refine lv_icmp_ge (tgt := 101) hx hb dX4_readEither_16 (by decide) (fun c_1100 => ?_) (fun c_1100 => ?_)
    · have d_1101 := n_le (a := 400) (b := i_52) (by omega) (by omega) c_1100
      refine lv_iload_n hx hb dX4_readEither_101 rfl (lv_at hl 2 rfl) ?_
      refine lv_if_eq (tgt := 111) hx hb dX4_readEither_102 (by decide) (fun c_1102 => ?_) (fun c_1102 => absurd (by decide) c_1102)
      refine lv_iload_n hx hb dX4_readEither_111 rfl (lv_at hl 1 rfl) ?_
      exact W.zret (v := 0) hx hb hr rfl (fun t ht hW => ⟨⟨0, 0, rfl, rfl, ws_56, ty_79, hsm, htx, by rw [ht]; exact hP, va_K.moved hW.alike hK, hD, Or.inl ⟨rfl, k_91, p_92, _, _, _, by omega, by omega, hr_85, (⟨kc_1078, cc_1079, tc_1080, fc_1081, kb_1082, cb_1083, tb_1084, fb_1085, hp_1086, hT_1087, er_1088, et_1089, wr_1090, wt_1091, ec_1092, uc_1093, wc_1094, hc_1095, eb_1096, ub_1097, wb_1098, hb_1099⟩ : RSX ρ ws_56 ty_79 f9 rd krd tp ktp cd bb tl ts_93 T_83 nk fr (nI k_91) (nI p_92) vl_84)⟩⟩, hS.F ht⟩) hS.2.2 dX4_readEither_112
    have d_1103 := n_nle (a := 400) (b := i_52) (by omega) (by omega) c_1100
    refine lv_iload_n hx hb dX4_readEither_19 rfl (lv_at hl 1 rfl) ?_
    refine lv_if_eq (tgt := 101) hx hb dX4_readEither_20 (by decide) (fun c_1104 => ?_) (fun c_1104 => absurd (by decide) c_1104)
    refine lv_iload_n hx hb dX4_readEither_101 rfl (lv_at hl 2 rfl) ?_
    refine lv_if_eq (tgt := 111) hx hb dX4_readEither_102 (by decide) (fun c_1105 => ?_) (fun c_1105 => absurd (by decide) c_1105)
    refine lv_iload_n hx hb dX4_readEither_111 rfl (lv_at hl 1 rfl) ?_
    exact W.zret (v := 0) hx hb hr rfl (fun t ht hW => ⟨⟨0, 0, rfl, rfl, ws_56, ty_79, hsm, htx, by rw [ht]; exact hP, va_K.moved hW.alike hK, hD, Or.inl ⟨rfl, k_91, p_92, _, _, _, by omega, by omega, hr_85, (⟨kc_1078, cc_1079, tc_1080, fc_1081, kb_1082, cb_1083, tb_1084, fb_1085, hp_1086, hT_1087, er_1088, et_1089, wr_1090, wt_1091, ec_1092, uc_1093, wc_1094, hc_1095, eb_1096, ub_1097, wb_1098, hb_1099⟩ : RSX ρ ws_56 ty_79 f9 rd krd tp ktp cd bb tl ts_93 T_83 nk fr (nI k_91) (nI p_92) vl_84)⟩⟩, hS.F ht⟩) hS.2.2 dX4_readEither_112
  obtain ⟨kc_1106, cc_1107, tc_1108, fc_1109, kb_1110, cb_1111, tb_1112, fb_1113, hp_1114, hT_1115, er_1116, et_1117, wr_1118, wt_1119, ec_1120, uc_1121, wc_1122, hc_1123, eb_1124, ub_1125, wb_1126, hb_1127⟩ := id hR_90
  have hp_11141 := hp_1114.1
  have hp_1114t := teF_le (f := f9) hp_1114.1
  refine lv_sipush (v := 400) hx hb dX4_readEither_13 (by decide) ?_
  refine lv_icmp_ge (tgt := 101) hx hb dX4_readEither_16 (by decide) (fun c_1128 => ?_) (fun c_1128 => ?_)
  · have d_1129 := n_le (a := 400) (b := i_52) (by omega) (by omega) c_1128
    refine lv_iload_n hx hb dX4_readEither_101 rfl (lv_at hl 2 rfl) ?_
    refine lv_if_eq (tgt := 111) hx hb dX4_readEither_102 (by decide) (fun c_1130 => absurd c_1130 (by decide)) (fun c_1130 => ?_)
    refine lv_aload_n hx hb dX4_readEither_105 rfl (lv_at hl 4 rfl) ?_
    refine lv_bipush (v := (-3)) hx hb dX4_readEither_106 (by decide) ?_
    have hFc := free_all hD hS hA
    refine va_callv (va_runV (As := [.int (-3)]) (rest := []) ⟨hx, hb, hml, hown, hts⟩ (r_addCode l D ρ ws_56 ty_79 adK adV fo f9 rd krd tp ktp cd bb tl ts_93 T_83 nk fr (nI k_91) (nI p_92) vl_84 (1, 0, 0, 0) (-3) H.size htl hng (⟨kc_1106, cc_1107, tc_1108, fc_1109, kb_1110, cb_1111, tb_1112, fb_1113, hp_1114, hT_1115, er_1116, et_1117, wr_1118, wt_1119, ec_1120, uc_1121, wc_1122, hc_1123, eb_1124, ub_1125, wb_1126, hb_1127⟩ : RSX ρ ws_56 ty_79 f9 rd krd tp ktp cd bb tl ts_93 T_83 nk fr (nI k_91) (nI p_92) vl_84) rfl) (cwV 1 hts gX4_readEither_X4_addCode rfl rfl rfl (by decide +kernel) ⟨Nat.le_of_ble_eq_true rfl, Nat.le_of_ble_eq_true rfl⟩) ⟨fun a U g mk q => by obtain ⟨q0, q1, qP, qK, qD, qS⟩ := q; exact ⟨q0, q1, qP, va_K.moved (u := U) (U := U.calling g mk a) (Vm.Alike.refl U.vm) qK, qD, SZ.same rfl rfl qS⟩, va_recv hK hP (ci := 4) (q0 := krd) rfl er_1116, fun U hU hW => ⟨rfl, by rw [hU], by rw [hU]; exact hP, va_K.moved hW.alike hK, hD.weaken (fun _ _ _ _ => trivial), hsz9.go hS hW hU hFc⟩⟩ rfl rfl hl.1 rfl (lv_room (Nat.le_of_ble_eq_true rfl)) dX4_readEither_108 ⟨Nat.le_of_ble_eq_true rfl, Nat.le_of_ble_eq_true rfl⟩) hS (fun q _ h => hFc q h) hFc (fun u t H1 locs ht hvm w_1132 hB hz1 hk1 hS => ?_)
    obtain ⟨ws_1133, ty_1134, hm_1135, ht_1137, hP1, hK1, hD1, hx_1136⟩ := hB
    rw [ht] at hP1
    have hK := va_K.moved hvm.symm hK1
    have hD := hD1.weaken (fun _ _ _ h => hFc _ h)
    generalize H1 = H at hP1 hS ⊢
    have hP := hP1
    obtain ⟨g_1139, e_1138, h_1140⟩ := hm_1135.obj er_1116
    obtain ⟨z_1141, z_1142, z_1143, z_1144, z_1145, z_1146, rfl⟩ := smX4 h_1140
    obtain ⟨g_1148, e_1147, h_1149⟩ := hm_1135.obj et_1117
    obtain ⟨z_1150, z_1151, z_1152, z_1153, rfl⟩ := smX6 h_1149
    obtain ⟨f_1155, e_1154⟩ := hm_1135.arrI ec_1120
    have u_1156 := ht_1137 _ _ uc_1121
    have e_1157 := hm_1135.keep (by rw [wb_1126]; omega) eb_1124
    have u_1158 := ht_1137 _ _ ub_1125
    have hsm := hsm.tr (hm_1135.mono (by decide))
    have hlp_58 := hlp_58.tr (hm_1135.mono (by decide))
    have htx := htx.tr ht_1137
    rcases hx_1136 with ⟨hl_1159, hR_1160⟩ | ⟨hl_1159, hR_1160⟩
    · obtain ⟨kc_1161, cc_1162, tc_1163, fc_1164, kb_1165, cb_1166, tb_1167, fb_1168, hp_1169, hT_1170, er_1171, et_1172, wr_1173, wt_1174, ec_1175, uc_1176, wc_1177, hc_1178, eb_1179, ub_1180, wb_1181, hb_1182⟩ := id hR_1160
      have hp_11691 := hp_1169.1
      have hp_1169t := teF_le (f := f9) hp_1169.1
      refine lv_iload_n hx hb dX4_readEither_111 rfl (lv_at hl 1 rfl) ?_
      exact W.zret (v := 0) hx hb hr rfl (fun t ht hW => ⟨⟨0, 0, rfl, rfl, ws_1133, ty_1134, hsm, htx, by rw [ht]; exact hP, va_K.moved hW.alike hK, hD, Or.inl ⟨rfl, k_91, p_92, _, _, _, by omega, by omega, hr_85, (⟨kc_1161, cc_1162, tc_1163, fc_1164, kb_1165, cb_1166, tb_1167, fb_1168, hp_1169, hT_1170, er_1171, et_1172, wr_1173, wt_1174, ec_1175, uc_1176, wc_1177, hc_1178, eb_1179, ub_1180, wb_1181, hb_1182⟩ : RSX ρ ws_1133 ty_1134 f9 rd krd tp ktp cd bb tl ts_93 (T_83 ++ [(1, 0, 0, 0)]) nk fr (nI k_91) (nI p_92) vl_84)⟩⟩, hS.F ht⟩) hS.2.2 dX4_readEither_112
    obtain ⟨kc_1183, cc_1184, tc_1185, fc_1186, kb_1187, cb_1188, tb_1189, fb_1190, hp_1191, hT_1192, er_1193, et_1194, wr_1195, wt_1196, ec_1197, uc_1198, wc_1199, hc_1200, eb_1201, ub_1202, wb_1203, hb_1204⟩ := id hR_1160
    have hp_11911 := hp_1191.1
    have hp_1191t := teF_le (f := f9) hp_1191.1
    refine lv_iload_n hx hb dX4_readEither_111 rfl (lv_at hl 1 rfl) ?_
    exact W.zret (v := 0) hx hb hr rfl (fun t ht hW => ⟨⟨0, 0, rfl, rfl, ws_1133, ty_1134, hsm, htx, by rw [ht]; exact hP, va_K.moved hW.alike hK, hD, Or.inl ⟨rfl, k_91, p_92, _, _, _, by omega, by omega, hr_85, (⟨kc_1183, cc_1184, tc_1185, fc_1186, kb_1187, cb_1188, tb_1189, fb_1190, hp_1191, hT_1192, er_1193, et_1194, wr_1195, wt_1196, ec_1197, uc_1198, wc_1199, hc_1200, eb_1201, ub_1202, wb_1203, hb_1204⟩ : RSX ρ ws_1133 ty_1134 f9 rd krd tp ktp cd bb tl ts_93 T_83 nk fr (nI k_91) (nI p_92) vl_84)⟩⟩, hS.F ht⟩) hS.2.2 dX4_readEither_112
  have d_1205 := n_nle (a := 400) (b := i_52) (by omega) (by omega) c_1128
  refine lv_iload_n hx hb dX4_readEither_19 rfl (lv_at hl 1 rfl) ?_
  refine lv_if_eq (tgt := 101) hx hb dX4_readEither_20 (by decide) (fun c_1206 => ?_) (fun c_1206 => absurd (by decide) c_1206)
  refine lv_iload_n hx hb dX4_readEither_101 rfl (lv_at hl 2 rfl) ?_
  refine lv_if_eq (tgt := 111) hx hb dX4_readEither_102 (by decide) (fun c_1207 => absurd c_1207 (by decide)) (fun c_1207 => ?_)
  refine lv_aload_n hx hb dX4_readEither_105 rfl (lv_at hl 4 rfl) ?_
  refine lv_bipush (v := (-3)) hx hb dX4_readEither_106 (by decide) ?_
  have hFc := free_all hD hS hA
  refine va_callv (va_runV (As := [.int (-3)]) (rest := []) ⟨hx, hb, hml, hown, hts⟩ (r_addCode l D ρ ws_56 ty_79 adK adV fo f9 rd krd tp ktp cd bb tl ts_93 T_83 nk fr (nI k_91) (nI p_92) vl_84 (1, 0, 0, 0) (-3) H.size htl hng (⟨kc_1106, cc_1107, tc_1108, fc_1109, kb_1110, cb_1111, tb_1112, fb_1113, hp_1114, hT_1115, er_1116, et_1117, wr_1118, wt_1119, ec_1120, uc_1121, wc_1122, hc_1123, eb_1124, ub_1125, wb_1126, hb_1127⟩ : RSX ρ ws_56 ty_79 f9 rd krd tp ktp cd bb tl ts_93 T_83 nk fr (nI k_91) (nI p_92) vl_84) rfl) (cwV 1 hts gX4_readEither_X4_addCode rfl rfl rfl (by decide +kernel) ⟨Nat.le_of_ble_eq_true rfl, Nat.le_of_ble_eq_true rfl⟩) ⟨fun a U g mk q => by obtain ⟨q0, q1, qP, qK, qD, qS⟩ := q; exact ⟨q0, q1, qP, va_K.moved (u := U) (U := U.calling g mk a) (Vm.Alike.refl U.vm) qK, qD, SZ.same rfl rfl qS⟩, va_recv hK hP (ci := 4) (q0 := krd) rfl er_1116, fun U hU hW => ⟨rfl, by rw [hU], by rw [hU]; exact hP, va_K.moved hW.alike hK, hD.weaken (fun _ _ _ _ => trivial), hsz9.go hS hW hU hFc⟩⟩ rfl rfl hl.1 rfl (lv_room (Nat.le_of_ble_eq_true rfl)) dX4_readEither_108 ⟨Nat.le_of_ble_eq_true rfl, Nat.le_of_ble_eq_true rfl⟩) hS (fun q _ h => hFc q h) hFc (fun u t H1 locs ht hvm w_1209 hB hz1 hk1 hS => ?_)
  obtain ⟨ws_1210, ty_1211, hm_1212, ht_1214, hP1, hK1, hD1, hx_1213⟩ := hB
  rw [ht] at hP1
  have hK := va_K.moved hvm.symm hK1
  have hD := hD1.weaken (fun _ _ _ h => hFc _ h)
  generalize H1 = H at hP1 hS ⊢
  have hP := hP1
  obtain ⟨g_1216, e_1215, h_1217⟩ := hm_1212.obj er_1116
  obtain ⟨z_1218, z_1219, z_1220, z_1221, z_1222, z_1223, rfl⟩ := smX4 h_1217
  obtain ⟨g_1225, e_1224, h_1226⟩ := hm_1212.obj et_1117
  obtain ⟨z_1227, z_1228, z_1229, z_1230, rfl⟩ := smX6 h_1226
  obtain ⟨f_1232, e_1231⟩ := hm_1212.arrI ec_1120
  have u_1233 := ht_1214 _ _ uc_1121
  have e_1234 := hm_1212.keep (by rw [wb_1126]; omega) eb_1124
  have u_1235 := ht_1214 _ _ ub_1125
  have hsm := hsm.tr (hm_1212.mono (by decide))
  have hlp_58 := hlp_58.tr (hm_1212.mono (by decide))
  have htx := htx.tr ht_1214
  rcases hx_1213 with ⟨hl_1236, hR_1237⟩ | ⟨hl_1236, hR_1237⟩
  · obtain ⟨kc_1238, cc_1239, tc_1240, fc_1241, kb_1242, cb_1243, tb_1244, fb_1245, hp_1246, hT_1247, er_1248, et_1249, wr_1250, wt_1251, ec_1252, uc_1253, wc_1254, hc_1255, eb_1256, ub_1257, wb_1258, hb_1259⟩ := id hR_1237
    have hp_12461 := hp_1246.1
    have hp_1246t := teF_le (f := f9) hp_1246.1
    refine lv_iload_n hx hb dX4_readEither_111 rfl (lv_at hl 1 rfl) ?_
    exact W.zret (v := 0) hx hb hr rfl (fun t ht hW => ⟨⟨0, 0, rfl, rfl, ws_1210, ty_1211, hsm, htx, by rw [ht]; exact hP, va_K.moved hW.alike hK, hD, Or.inl ⟨rfl, k_91, p_92, _, _, _, by omega, by omega, hr_85, (⟨kc_1238, cc_1239, tc_1240, fc_1241, kb_1242, cb_1243, tb_1244, fb_1245, hp_1246, hT_1247, er_1248, et_1249, wr_1250, wt_1251, ec_1252, uc_1253, wc_1254, hc_1255, eb_1256, ub_1257, wb_1258, hb_1259⟩ : RSX ρ ws_1210 ty_1211 f9 rd krd tp ktp cd bb tl ts_93 (T_83 ++ [(1, 0, 0, 0)]) nk fr (nI k_91) (nI p_92) vl_84)⟩⟩, hS.F ht⟩) hS.2.2 dX4_readEither_112
  obtain ⟨kc_1260, cc_1261, tc_1262, fc_1263, kb_1264, cb_1265, tb_1266, fb_1267, hp_1268, hT_1269, er_1270, et_1271, wr_1272, wt_1273, ec_1274, uc_1275, wc_1276, hc_1277, eb_1278, ub_1279, wb_1280, hb_1281⟩ := id hR_1237
  have hp_12681 := hp_1268.1
  have hp_1268t := teF_le (f := f9) hp_1268.1
  refine lv_iload_n hx hb dX4_readEither_111 rfl (lv_at hl 1 rfl) ?_
  exact W.zret (v := 0) hx hb hr rfl (fun t ht hW => ⟨⟨0, 0, rfl, rfl, ws_1210, ty_1211, hsm, htx, by rw [ht]; exact hP, va_K.moved hW.alike hK, hD, Or.inl ⟨rfl, k_91, p_92, _, _, _, by omega, by omega, hr_85, (⟨kc_1260, cc_1261, tc_1262, fc_1263, kb_1264, cb_1265, tb_1266, fb_1267, hp_1268, hT_1269, er_1270, et_1271, wr_1272, wt_1273, ec_1274, uc_1275, wc_1276, hc_1277, eb_1278, ub_1279, wb_1280, hb_1281⟩ : RSX ρ ws_1210 ty_1211 f9 rd krd tp ktp cd bb tl ts_93 T_83 nk fr (nI k_91) (nI p_92) vl_84)⟩⟩, hS.F ht⟩) hS.2.2 dX4_readEither_112
set_option maxHeartbeats 4000000 in
set_option maxRecDepth 100000 in
theorem r_readOne4 (l : Launch) (D : va_G) (ρ : Nat → Nat) (ws : va_W) (tys : List (ClassId × FieldType)) (adK adV : Nat → Nat) (fo : Option Nat) (f9 : Nat → Int32) (rd krd tp ktp cd bb tl ts : Nat) (T : List Tk) (nk : Int64) (fr fk fp vl : Int32) (σ : List Nat) (sz : Nat) (htl : tl ≤ 400) (hng : ∀ i : Nat, i < tl → ¬ f9 i = -1) (R0 : RSX ρ ws tys f9 rd krd tp ktp cd bb tl ts T nk fr fk fp vl) (hdp : dep σ = 4) (hT2 : 2 * T.length ≤ ts) : Met l yX4_readOne wsX4_readOne ({ frames := 11, cells := 0, slots := 0, locals := 245 }) (va_Pc [.ref rd, .int 4] (fun U => U.heap.size = sz ∧ va_P D vwCl ws U.heap ∧ va_K D vwCl tys U ∧ va_D (fun _ => True) ws ∧ SZ adK adV fo (va_A ws sz) U U.heap)) (va_Qi (fun (r : Int32) (s9 : Int32) => r = s9) (fun (s9 : Int32) (t : State) => ∃ (ws' : va_W) (tys' : List (ClassId × FieldType)), sm ρ [4, 6] ws ws' ∧ tyx tys tys' ∧ va_P D vwCl ws' t.heap ∧ va_K D vwCl tys' t ∧ va_D (va_A ws sz) ws' ∧ ((s9 = 0 ∧ FLT ρ ws' tys' f9 rd krd tp ktp cd bb tl (0, ts, σ, T) nk fr) ∨ (s9 = 1 ∧ ONE ρ ws' tys' f9 rd krd tp ktp cd bb tl ts σ T nk fr fk fp))) (va_A ws sz)) 0 0 (va_A ws sz) := by
  refine Met.ofW (cc := cX4_readOne) (maxL := 4) (ret := (some .boolean)) (by decide) rfl ?_
  intro p e s m args below meth c s₁ B hml hv
  obtain ⟨rfl, hsz, hP, hK, hD0, hsz9⟩ := hv
  have hx := B.exec
  have hb := B.bytes
  have hr := B.returns
  have hts := atoms_spec (ws := wsX4_readOne) B.pre
  have hown : s.vm.findClass RX4 = some m.cls := findClass_of_methodNamed B.named
  have hlocks := B.notSynchronized
  subst hsz
  have hD := hD0.self (sz := s.heap.size)
  generalize hAe : va_A ws s.heap.size = A at hD hsz9 ⊢
  have hA : ∀ q : Nat, s.heap.size ≤ q → A q := fun q h => by rw [← hAe]; exact Or.inr h
  have hS : va_S A s.heap s.heap [] := va_S.rf
  have hsm : sm ρ [4, 6] ws ws := sm.rf ws
  have htx : tyx tys tys := tyx.rf tys
  have hin4 : ∀ w ∈ u_ws RX4 TX4 8, w ∈ wsX4_readOne := (fun _ h9 => List.mem_cons_of_mem _ (List.mem_append_left _ ((List.mem_append_right _ h9))))
  have hl := lv_entry ([.ref rd, .int 4]) (n := 4) (Nat.le_of_ble_eq_true rfl)
  rw [lg_entry_eq]
  generalize (lg_sl ([.ref rd, .int 4]) ++ List.replicate (4 - (lg_sl ([.ref rd, .int 4])).length) Slot.unset).toArray = ls at hl ⊢
  have hl : lv_has ls 4 [(0, .ref rd), (1, .int 4)] := hl
  obtain ⟨kc_1, cc_2, tc_3, fc_4, kb_5, cb_6, tb_7, fb_8, hp_9, hT_10, er_11, et_12, wr_13, wt_14, ec_15, uc_16, wc_17, hc_18, eb_19, ub_20, wb_21, hb_22⟩ := id R0
  have hp_91 := hp_9.1
  have hp_9t := teF_le (f := f9) hp_9.1
  have hpc9 := hp_91
  refine lv_aload_n hx hb dX4_readOne_0 rfl (lv_at hl 0 rfl) ?_
  refine va_get (D := D) (ci := 4) (v := .ref tp) (C := RX4) (T := TX4) (N := 8) hx hb hts hin4 hown hK hP krd er_11 rfl 0 (by decide) (hts (.fieldLink RX4 12 "HoneyHouse$RuleReader" "tape" "LHoneyHouse$Tape;") (List.mem_of_getElem? (i := 1) rfl)) (fun _ h9 => h9) rfl dX4_readOne_1 ?_
  refine va_ldcS hx hb hown hsz9.2.2.2.2.2.2.1 dX4_readOne_4 ?_
  have hFc := free_all hD hS hA
  refine va_calli (va_runV (As := [.ref (adK 3)]) (rest := []) ⟨hx, hb, hml, hown, hts⟩ (a_isWord l D (rz []) ws tys adK adV fo 3 f9 tp ktp tl ts bb kb_5 cb_6 tb_7 fb_8 s.heap.size (by decide) htl hb_22 hng hp_9 et_12 eb_19 ub_20 rz_o0) (cwV 1 hts gX4_readOne_X6_isWord rfl rfl rfl (by decide +kernel) ⟨Nat.le_of_ble_eq_true rfl, Nat.le_of_ble_eq_true rfl⟩) ⟨fun a U g mk q => by obtain ⟨q0, q1, qP, qK, qD, qS⟩ := q; exact ⟨q0, q1, qP, va_K.moved (u := U) (U := U.calling g mk a) (Vm.Alike.refl U.vm) qK, qD, SZ.same rfl rfl qS⟩, va_recv hK hP (ci := 6) (q0 := ktp) rfl et_12, fun U hU hW => ⟨rfl, by rw [hU], by rw [hU]; exact hP, va_K.moved hW.alike hK, hD.weaken (fun _ _ _ _ => trivial), hsz9.go hS hW hU hFc⟩⟩ rfl rfl hl.1 rfl (lv_room (Nat.le_of_ble_eq_true rfl)) dX4_readOne_6 ⟨Nat.le_of_ble_eq_true rfl, Nat.le_of_ble_eq_true rfl⟩) hS (fun q _ h => hFc q h) hFc (fun r_23 u t H1 locs ht hvm w_24 hB hz1 hk1 hS => ?_)
  obtain ⟨ws_25, ty_26, hm_27, ht_29, hP1, hK1, hD1, hx_28⟩ := hB
  rw [ht] at hP1
  have hK := va_K.moved hvm.symm hK1
  have hD := hD1.weaken (fun _ _ _ h => hFc _ h)
  generalize H1 = H at hP1 hS ⊢
  have hP := hP1
  have e_30 := hm_27.keep rz_o0 er_11
  have e_31 := hm_27.keep rz_o0 et_12
  have e_32 := hm_27.keep rz_o0 ec_15
  have e_33 := hm_27.keep rz_o0 eb_19
  have u_34 := ht_29 _ _ uc_16
  have u_35 := ht_29 _ _ ub_20
  have hm_36 : sm ρ [] ws ws_25 := hm_27.up (fun k _ h => rz_u0  k h)
  have hsm := hsm.tr (hm_36.mono (by decide))
  have htx := htx.tr ht_29
  rcases w_24 with ⟨rfl, iw_37⟩ | ⟨rfl, iw_37⟩
  · have iw_37 : ¬ wdE f9 tl ts = 3 := iw_37
    refine lv_istore_n (lv' := [(2, .int 0), (0, .ref rd), (1, .int 4)]) hx hb dX4_readOne_9 rfl hl (by decide) rfl (fun ls hl => ?_)
    refine lv_iload_n hx hb dX4_readOne_10 rfl (lv_at hl 0 rfl) ?_
    refine lv_if_ne (tgt := 31) hx hb dX4_readOne_11 (by decide) (fun c_38 => absurd (by decide) c_38) (fun c_38 => ?_)
    refine lv_aload_n hx hb dX4_readOne_14 rfl (lv_at hl 1 rfl) ?_
    refine va_get (D := D) (ci := 4) (v := .ref tp) (C := RX4) (T := TX4) (N := 8) hx hb hts hin4 hown hK hP krd e_30 rfl 0 (by decide) (hts (.fieldLink RX4 12 "HoneyHouse$RuleReader" "tape" "LHoneyHouse$Tape;") (List.mem_of_getElem? (i := 1) rfl)) (fun _ h9 => h9) rfl dX4_readOne_15 ?_
    refine lv_bipush (v := 40) hx hb dX4_readOne_18 (by decide) ?_
    refine vp_callSi (W.runV (As := [.int 40]) (rest := []) ⟨hx, hb, hml, hown, hts⟩ (s_isByte l D ws_25 ty_26 f9 tp ktp tl ts bb kb_5 cb_6 tb_7 fb_8 40 (by unfold ltr; decide) (by unfold dgt; decide) htl hb_22 hng hp_9 e_31 e_33 u_35) (cwV 1 hts gX4_readOne_X6_isByte rfl rfl rfl (by decide +kernel) ⟨Nat.le_of_ble_eq_true rfl, Nat.le_of_ble_eq_true rfl⟩) ⟨fun a U g mk q => ⟨q.1, q.2.1, va_K.moved (u := U) (U := U.calling g mk a) (Vm.Alike.refl U.vm) q.2.2⟩, va_recv hK hP (ci := 6) (q0 := ktp) rfl e_31, fun U hU hW => ⟨rfl, by rw [hU]; exact hP, va_K.moved hW.alike hK⟩⟩ rfl rfl hl.1 rfl (lv_room (Nat.le_of_ble_eq_true rfl)) dX4_readOne_20 ⟨Nat.le_of_ble_eq_true rfl, Nat.le_of_ble_eq_true rfl⟩) (fun r_39 k_40 => ?_)
    rcases k_40 with ⟨rfl, ib_41⟩ | ⟨rfl, ib_41⟩
    · refine lv_if_ne (tgt := 31) hx hb dX4_readOne_23 (by decide) (fun c_42 => absurd (by decide) c_42) (fun c_42 => ?_)
      refine lv_aload_n hx hb dX4_readOne_26 rfl (lv_at hl 1 rfl) ?_
      have hFc := free_all hD hS hA
      refine va_calli (va_runV (As := []) (rest := []) ⟨hx, hb, hml, hown, hts⟩ (r_readTest l D ρ ws_25 ty_26 adK adV fo f9 rd krd tp ktp cd bb tl ts T nk fr fk fp vl  H.size htl hng (⟨kc_1, cc_2, tc_3, fc_4, kb_5, cb_6, tb_7, fb_8, hp_9, hT_10, e_30, e_31, wr_13, wt_14, e_32, u_34, wc_17, hc_18, e_33, u_35, wb_21, hb_22⟩ : RSX ρ ws_25 ty_26 f9 rd krd tp ktp cd bb tl ts T nk fr fk fp vl) (by omega)) (cwV 0 hts gX4_readOne_X4_readTest rfl rfl rfl (by decide +kernel) ⟨Nat.le_of_ble_eq_true rfl, Nat.le_of_ble_eq_true rfl⟩) ⟨fun a U g mk q => by obtain ⟨q0, q1, qP, qK, qD, qS⟩ := q; exact ⟨q0, q1, qP, va_K.moved (u := U) (U := U.calling g mk a) (Vm.Alike.refl U.vm) qK, qD, SZ.same rfl rfl qS⟩, va_recv hK hP (ci := 4) (q0 := krd) rfl e_30, fun U hU hW => ⟨rfl, by rw [hU], by rw [hU]; exact hP, va_K.moved hW.alike hK, hD.weaken (fun _ _ _ _ => trivial), hsz9.go hS hW hU hFc⟩⟩ rfl rfl hl.1 rfl (lv_room (Nat.le_of_ble_eq_true rfl)) dX4_readOne_27 ⟨Nat.le_of_ble_eq_true rfl, Nat.le_of_ble_eq_true rfl⟩) hS (fun q _ h => hFc q h) hFc (fun r_43 u t H1 locs ht hvm w_44 hB hz1 hk1 hS => ?_)
      subst w_44
      obtain ⟨ws_45, ty_46, hm_47, ht_49, hP1, hK1, hD1, hx_48⟩ := hB
      rw [ht] at hP1
      have hK := va_K.moved hvm.symm hK1
      have hD := hD1.weaken (fun _ _ _ h => hFc _ h)
      generalize H1 = H at hP1 hS ⊢
      have hP := hP1
      obtain ⟨g_51, e_50, h_52⟩ := hm_47.obj e_30
      obtain ⟨z_53, z_54, z_55, z_56, z_57, z_58, rfl⟩ := smX4 h_52
      obtain ⟨g_60, e_59, h_61⟩ := hm_47.obj e_31
      obtain ⟨z_62, z_63, z_64, z_65, rfl⟩ := smX6 h_61
      obtain ⟨f_67, e_66⟩ := hm_47.arrI e_32
      have u_68 := ht_49 _ _ u_34
      have e_69 := hm_47.keep (by rw [wb_21]; omega) e_33
      have u_70 := ht_49 _ _ u_35
      have hsm := hsm.tr (hm_47.mono (by decide))
      have htx := htx.tr ht_49
      obtain ⟨k_71, p_72, w_73, m_74, v_75, ht_76, ⟨rfl, hk_77, hk_78, ts_79, vl_80, hR_81⟩ | ⟨rfl, hk_77, hg_82, vl_80, hR_81⟩⟩ := hx_48
      · obtain ⟨kc_83, cc_84, tc_85, fc_86, kb_87, cb_88, tb_89, fb_90, hp_91, hT_92, er_93, et_94, wr_95, wt_96, ec_97, uc_98, wc_99, hc_100, eb_101, ub_102, wb_103, hb_104⟩ := id hR_81
        have hp_911 := hp_91.1
        have hp_91t := teF_le (f := f9) hp_91.1
        exact W.zret (v := 0) hx hb hr rfl (fun t ht hW => ⟨⟨0, 0, rfl, rfl, ws_45, ty_46, hsm, htx, by rw [ht]; exact hP, va_K.moved hW.alike hK, hD, Or.inl ⟨rfl, k_71, p_72, _, _, _, by omega, by omega, (Rch.rf _).st (st_tf (fun q9 => q9.elim ib_41 iw_37) ht_76 hk_77), (⟨kc_83, cc_84, tc_85, fc_86, kb_87, cb_88, tb_89, fb_90, hp_91, hT_92, er_93, et_94, wr_95, wt_96, ec_97, uc_98, wc_99, hc_100, eb_101, ub_102, wb_103, hb_104⟩ : RSX ρ ws_45 ty_46 f9 rd krd tp ktp cd bb tl ts_79 T nk fr (nI k_71) (nI p_72) vl_80)⟩⟩, hS.F ht⟩) hS.2.2 dX4_readOne_30
      subst hk_77
      obtain ⟨kc_105, cc_106, tc_107, fc_108, kb_109, cb_110, tb_111, fb_112, hp_113, hT_114, er_115, et_116, wr_117, wt_118, ec_119, uc_120, wc_121, hc_122, eb_123, ub_124, wb_125, hb_126⟩ := id hR_81
      have hp_1131 := hp_113.1
      have hp_113t := teF_le (f := f9) hp_113.1
      exact W.zret (v := 1) hx hb hr rfl (fun t ht hW => ⟨⟨1, 1, rfl, rfl, ws_45, ty_46, hsm, htx, by rw [ht]; exact hP, va_K.moved hW.alike hK, hD, Or.inr ⟨rfl, p_72, _, _, (Rch.rf _).st (st_te (fun q9 => q9.elim ib_41 iw_37) ht_76), by omega, by rw [len_a1]; omega, (⟨kc_105, cc_106, tc_107, fc_108, kb_109, cb_110, tb_111, fb_112, hp_113, hT_114, er_115, et_116, wr_117, wt_118, ec_119, uc_120, wc_121, hc_122, eb_123, ub_124, wb_125, hb_126⟩ : RSX ρ ws_45 ty_46 f9 rd krd tp ktp cd bb tl p_72 (T ++ [(13, w_73, m_74, v_75)]) nk fr fk fp vl_80)⟩⟩, hS.F ht⟩) hS.2.2 dX4_readOne_30
    refine lv_if_ne (tgt := 31) hx hb dX4_readOne_23 (by decide) (fun c_127 => ?_) (fun c_127 => absurd c_127 (by decide))
    have hw9 := wd_40 ib_41
    refine lv_iload_n hx hb dX4_readOne_31 rfl (lv_at hl 2 rfl) ?_
    refine lv_bipush (v := 6) hx hb dX4_readOne_32 (by decide) ?_
    refine lv_icmp_lt (tgt := 50) hx hb dX4_readOne_34 (by decide) (fun c_128 => ?_) (fun c_128 => absurd (by decide) c_128)
    refine lv_aload_n hx hb dX4_readOne_50 rfl (lv_at hl 1 rfl) ?_
    refine va_get (D := D) (ci := 4) (v := .ref tp) (C := RX4) (T := TX4) (N := 8) hx hb hts hin4 hown hK hP krd e_30 rfl 0 (by decide) (hts (.fieldLink RX4 12 "HoneyHouse$RuleReader" "tape" "LHoneyHouse$Tape;") (List.mem_of_getElem? (i := 1) rfl)) (fun _ h9 => h9) rfl dX4_readOne_51 ?_
    have hFc := free_all hD hS hA
    refine va_callv (va_runV (As := []) (rest := []) ⟨hx, hb, hml, hown, hts⟩ (a_advance l D (rz [ktp]) ws_25 ty_26 f9 tp ktp tl (teF f9 tl ts) (nI (kdF f9 tl ts)) (nI ts) bb kb_5 cb_6 tb_7 fb_8 H.size htl hb_22 hng (by omega) e_31 e_33 u_35 (rz_o1 (pl_ne e_33 e_31 (by intro h9; simp at h9))) (rz_in (by simp))) (cwV 0 hts gX4_readOne_X6_advance rfl rfl rfl (by decide +kernel) ⟨Nat.le_of_ble_eq_true rfl, Nat.le_of_ble_eq_true rfl⟩) ⟨fun a U g mk q => by obtain ⟨q0, q1, qP, qK, qD⟩ := q; exact ⟨q0, q1, qP, va_K.moved (u := U) (U := U.calling g mk a) (Vm.Alike.refl U.vm) qK, qD⟩, va_recv hK hP (ci := 6) (q0 := ktp) rfl e_31, fun U hU hW => ⟨rfl, by rw [hU], by rw [hU]; exact hP, va_K.moved hW.alike hK, hD.weaken (fun _ _ _ _ => trivial)⟩⟩ rfl rfl hl.1 rfl (lv_room (Nat.le_of_ble_eq_true rfl)) dX4_readOne_54 ⟨Nat.le_of_ble_eq_true rfl, Nat.le_of_ble_eq_true rfl⟩) hS (fun q _ h => hFc q h) hFc (fun u t H1 locs ht hvm w_130 hB hz1 hk1 hS => ?_)
    obtain ⟨ws_131, ty_132, hm_133, ht_135, hP1, hK1, hD1, hx_134⟩ := hB
    rw [ht] at hP1
    have hK := va_K.moved hvm.symm hK1
    have hD := hD1.weaken (fun _ _ _ h => hFc _ h)
    generalize H1 = H at hP1 hS ⊢
    have hP := hP1
    have e_136 := hm_133.keep (rz_o1 (pl_ne e_30 e_31 (by intro h9; simp at h9))) e_30
    have e_137 := hm_133.keep (rz_o1 (pl_ne e_32 e_31 (by intro h9; simp at h9))) e_32
    have e_138 := hm_133.keep (rz_o1 (pl_ne e_33 e_31 (by intro h9; simp at h9))) e_33
    have u_139 := ht_135 _ _ u_34
    have u_140 := ht_135 _ _ u_35
    have hm_141 : sm ρ [6] ws_25 ws_131 := hm_133.up (fun k _ h => rz_u1 wt_14 k h)
    have hsm := hsm.tr (hm_141.mono (by decide))
    have htx := htx.tr ht_135
    have e_142 : ws_131[ktp]? = some (tp, .inr (6, [.int (nI tl), .int (nI (kdF f9 tl (nxF f9 tl ts))), .int (nI (nxF f9 tl ts)), .int (nI (teF f9 tl (nxF f9 tl ts))), .ref bb])) := hx_134; have hq_143 : pcB f9 tl (nxF f9 tl ts) := nxF_pc (f := f9) hp_9.1; have hq_1431 := hq_143.1; have hq_143t := teF_le (f := f9) hq_143.1; have hg_144 := nx_gain (f := f9) hp_9.1
    refine lv_iload_n hx hb dX4_readOne_57 rfl (lv_at hl 0 rfl) ?_
    refine lv_if_ne (tgt := 86) hx hb dX4_readOne_58 (by decide) (fun c_145 => absurd (by decide) c_145) (fun c_145 => ?_)
    refine lv_aload_n hx hb dX4_readOne_61 rfl (lv_at hl 1 rfl) ?_
    refine lv_iload_n hx hb dX4_readOne_62 rfl (lv_at hl 2 rfl) ?_
    refine lv_iconst (v := 1) hx hb dX4_readOne_63 (by decide) ?_
    refine lv_iadd hx hb dX4_readOne_64 ?_
    refine tp_i (y := 5) (by decide) ?_
    have hFc := free_all hD hS hA
    refine va_calli (va_runV (As := [.int 5]) (rest := []) ⟨hx, hb, hml, hown, hts⟩ (r_readEither5 l D ρ ws_131 ty_132 adK adV fo f9 rd krd tp ktp cd bb tl (nxF f9 tl ts) T nk fr fk fp vl (12 :: σ) H.size htl hng (⟨kc_1, cc_2, tc_3, fc_4, kb_5, cb_6, tb_7, fb_8, hq_143, hT_10, e_136, e_142, wr_13, wt_14, e_137, u_139, wc_17, hc_18, e_138, u_140, wb_21, hb_22⟩ : RSX ρ ws_131 ty_132 f9 rd krd tp ktp cd bb tl (nxF f9 tl ts) T nk fr fk fp vl) (bas_12 σ) ((dep_y σ (Or.inr rfl)).trans (by omega)) (by omega)) (cwV 1 hts gX4_readOne_X4_readEither rfl rfl rfl (by decide +kernel) ⟨Nat.le_of_ble_eq_true rfl, Nat.le_of_ble_eq_true rfl⟩) ⟨fun a U g mk q => by obtain ⟨q0, q1, qP, qK, qD, qS⟩ := q; exact ⟨q0, q1, qP, va_K.moved (u := U) (U := U.calling g mk a) (Vm.Alike.refl U.vm) qK, qD, SZ.same rfl rfl qS⟩, va_recv hK hP (ci := 4) (q0 := krd) rfl e_136, fun U hU hW => ⟨rfl, by rw [hU], by rw [hU]; exact hP, va_K.moved hW.alike hK, hD.weaken (fun _ _ _ _ => trivial), hsz9.go hS hW hU hFc⟩⟩ rfl rfl hl.1 rfl (lv_room (Nat.le_of_ble_eq_true rfl)) dX4_readOne_65 ⟨Nat.le_of_ble_eq_true rfl, Nat.le_of_ble_eq_true rfl⟩) hS (fun q _ h => hFc q h) hFc (fun r_146 u t H1 locs ht hvm w_147 hB hz1 hk1 hS => ?_)
    subst w_147
    obtain ⟨ws_148, ty_149, hm_150, ht_152, hP1, hK1, hD1, hx_151⟩ := hB
    rw [ht] at hP1
    have hK := va_K.moved hvm.symm hK1
    have hD := hD1.weaken (fun _ _ _ h => hFc _ h)
    generalize H1 = H at hP1 hS ⊢
    have hP := hP1
    obtain ⟨g_154, e_153, h_155⟩ := hm_150.obj e_136
    obtain ⟨z_156, z_157, z_158, z_159, z_160, z_161, rfl⟩ := smX4 h_155
    obtain ⟨g_163, e_162, h_164⟩ := hm_150.obj e_142
    obtain ⟨z_165, z_166, z_167, z_168, rfl⟩ := smX6 h_164
    obtain ⟨f_170, e_169⟩ := hm_150.arrI e_137
    have u_171 := ht_152 _ _ u_139
    have e_172 := hm_150.keep (by rw [wb_21]; omega) e_138
    have u_173 := ht_152 _ _ u_140
    have hsm := hsm.tr (hm_150.mono (by decide))
    have htx := htx.tr ht_152
    rcases hx_151 with ⟨rfl, k_174, p_175, ts_176, T_177, vl_178, hk_179, hk_180, hr_181, hR_182⟩ | ⟨rfl, b_183, ta_184, T_177, vl_178, hr_181, hj_185, hn_186, hg_187, hg_188, hR_182⟩
    · obtain ⟨kc_189, cc_190, tc_191, fc_192, kb_193, cb_194, tb_195, fb_196, hp_197, hT_198, er_199, et_200, wr_201, wt_202, ec_203, uc_204, wc_205, hc_206, eb_207, ub_208, wb_209, hb_210⟩ := id hR_182
      have hp_1971 := hp_197.1
      have hp_197t := teF_le (f := f9) hp_197.1
      refine lv_if_eq (tgt := 84) hx hb dX4_readOne_68 (by decide) (fun c_211 => ?_) (fun c_211 => absurd (by decide) c_211)
      refine lv_iconst (v := 0) hx hb dX4_readOne_84 (by decide) ?_
      exact W.zret (v := 0) hx hb hr rfl (fun t ht hW => ⟨⟨0, 0, rfl, rfl, ws_148, ty_149, hsm, htx, by rw [ht]; exact hP, va_K.moved hW.alike hK, hD, Or.inl ⟨rfl, k_174, p_175, _, _, _, by omega, by omega, ((Rch.rf (0, ts, σ, T)).st (st_open ib_41 (by omega))).tr hr_181, (⟨kc_189, cc_190, tc_191, fc_192, kb_193, cb_194, tb_195, fb_196, hp_197, hT_198, er_199, et_200, wr_201, wt_202, ec_203, uc_204, wc_205, hc_206, eb_207, ub_208, wb_209, hb_210⟩ : RSX ρ ws_148 ty_149 f9 rd krd tp ktp cd bb tl ts_176 T_177 nk fr (nI k_174) (nI p_175) vl_178)⟩⟩, hS.F ht⟩) hS.2.2 dX4_readOne_85
    obtain ⟨kc_212, cc_213, tc_214, fc_215, kb_216, cb_217, tb_218, fb_219, hp_220, hT_221, er_222, et_223, wr_224, wt_225, ec_226, uc_227, wc_228, hc_229, eb_230, ub_231, wb_232, hb_233⟩ := id hR_182
    have hp_2201 := hp_220.1
    have hp_220t := teF_le (f := f9) hp_220.1
    refine lv_if_eq (tgt := 84) hx hb dX4_readOne_68 (by decide) (fun c_234 => absurd c_234 (by decide)) (fun c_234 => ?_)
    refine lv_aload_n hx hb dX4_readOne_71 rfl (lv_at hl 1 rfl) ?_
    refine lv_bipush (v := 41) hx hb dX4_readOne_72 (by decide) ?_
    have hFc := free_all hD hS hA
    refine va_calli (va_runV (As := [.int 41]) (rest := []) ⟨hx, hb, hml, hown, hts⟩ (r_readByte l D ρ ws_148 ty_149 adK adV fo f9 rd krd tp ktp cd bb tl b_183 (T_177 ++ eO ta_184) nk fr fk fp vl_178 41 H.size htl hng (⟨kc_212, cc_213, tc_214, fc_215, kb_216, cb_217, tb_218, fb_219, hp_220, hT_221, er_222, et_223, wr_224, wt_225, ec_226, uc_227, wc_228, hc_229, eb_230, ub_231, wb_232, hb_233⟩ : RSX ρ ws_148 ty_149 f9 rd krd tp ktp cd bb tl b_183 (T_177 ++ eO ta_184) nk fr fk fp vl_178) (by unfold ltr; decide) (by unfold dgt; decide)) (cwV 1 hts gX4_readOne_X4_readByte rfl rfl rfl (by decide +kernel) ⟨Nat.le_of_ble_eq_true rfl, Nat.le_of_ble_eq_true rfl⟩) ⟨fun a U g mk q => by obtain ⟨q0, q1, qP, qK, qD, qS⟩ := q; exact ⟨q0, q1, qP, va_K.moved (u := U) (U := U.calling g mk a) (Vm.Alike.refl U.vm) qK, qD, SZ.same rfl rfl qS⟩, va_recv hK hP (ci := 4) (q0 := krd) rfl er_222, fun U hU hW => ⟨rfl, by rw [hU], by rw [hU]; exact hP, va_K.moved hW.alike hK, hD.weaken (fun _ _ _ _ => trivial), hsz9.go hS hW hU hFc⟩⟩ rfl rfl hl.1 rfl (lv_room (Nat.le_of_ble_eq_true rfl)) dX4_readOne_74 ⟨Nat.le_of_ble_eq_true rfl, Nat.le_of_ble_eq_true rfl⟩) hS (fun q _ h => hFc q h) hFc (fun r_235 u t H1 locs ht hvm w_236 hB hz1 hk1 hS => ?_)
    subst w_236
    obtain ⟨ws_237, ty_238, hm_239, ht_241, hP1, hK1, hD1, hx_240⟩ := hB
    rw [ht] at hP1
    have hK := va_K.moved hvm.symm hK1
    have hD := hD1.weaken (fun _ _ _ h => hFc _ h)
    generalize H1 = H at hP1 hS ⊢
    have hP := hP1
    obtain ⟨g_243, e_242, h_244⟩ := hm_239.obj er_222
    obtain ⟨z_245, z_246, z_247, z_248, z_249, z_250, rfl⟩ := smX4 h_244
    obtain ⟨g_252, e_251, h_253⟩ := hm_239.obj et_223
    obtain ⟨z_254, z_255, z_256, z_257, rfl⟩ := smX6 h_253
    obtain ⟨f_259, e_258⟩ := hm_239.arrI ec_226
    have u_260 := ht_241 _ _ uc_227
    have e_261 := hm_239.keep (by rw [wb_232]; omega) eb_230
    have u_262 := ht_241 _ _ ub_231
    have hsm := hsm.tr (hm_239.mono (by decide))
    have htx := htx.tr ht_241
    rcases hx_240 with ⟨rfl, rb_263, hR_264⟩ | ⟨rfl, rb_263, hR_264⟩
    · obtain ⟨kc_265, cc_266, tc_267, fc_268, kb_269, cb_270, tb_271, fb_272, hp_273, hT_274, er_275, et_276, wr_277, wt_278, ec_279, uc_280, wc_281, hc_282, eb_283, ub_284, wb_285, hb_286⟩ := id hR_264
      have hp_2731 := hp_273.1
      have hp_273t := teF_le (f := f9) hp_273.1
      refine lv_if_eq (tgt := 84) hx hb dX4_readOne_77 (by decide) (fun c_287 => ?_) (fun c_287 => absurd (by decide) c_287)
      refine lv_iconst (v := 0) hx hb dX4_readOne_84 (by decide) ?_
      exact W.zret (v := 0) hx hb hr rfl (fun t ht hW => ⟨⟨0, 0, rfl, rfl, ws_237, ty_238, hsm, htx, by rw [ht]; exact hP, va_K.moved hW.alike hK, hD, Or.inl ⟨rfl, 1, b_183, _, _, _, by omega, by omega, (((Rch.rf (0, ts, σ, T)).st (st_open ib_41 (by omega))).tr hr_181).st (st_left hn_186 rb_263 (brk_12 hj_185)), (⟨kc_265, cc_266, tc_267, fc_268, kb_269, cb_270, tb_271, fb_272, hp_273, hT_274, er_275, et_276, wr_277, wt_278, ec_279, uc_280, wc_281, hc_282, eb_283, ub_284, wb_285, hb_286⟩ : RSX ρ ws_237 ty_238 f9 rd krd tp ktp cd bb tl b_183 (T_177 ++ eO ta_184) nk fr 1 (nI b_183) vl_178)⟩⟩, hS.F ht⟩) hS.2.2 dX4_readOne_85
    have rb_263g := nx_gain (f := f9) hp_220.1
    obtain ⟨kc_288, cc_289, tc_290, fc_291, kb_292, cb_293, tb_294, fb_295, hp_296, hT_297, er_298, et_299, wr_300, wt_301, ec_302, uc_303, wc_304, hc_305, eb_306, ub_307, wb_308, hb_309⟩ := id hR_264
    have hp_2961 := hp_296.1
    have hp_296t := teF_le (f := f9) hp_296.1
    refine lv_if_eq (tgt := 84) hx hb dX4_readOne_77 (by decide) (fun c_310 => absurd c_310 (by decide)) (fun c_310 => ?_)
    refine lv_iconst (v := 1) hx hb dX4_readOne_80 (by decide) ?_
    refine lv_goto (tgt := 85) hx hb dX4_readOne_81 (by decide) ?_
    exact W.zret (v := 1) hx hb hr rfl (fun t ht hW => ⟨⟨1, 1, rfl, rfl, ws_237, ty_238, hsm, htx, by rw [ht]; exact hP, va_K.moved hW.alike hK, hD, Or.inr ⟨rfl, nxF f9 tl b_183, _, _, rch_cl (((Rch.rf (0, ts, σ, T)).st (st_open ib_41 (by omega))).tr hr_181) hj_185 rb_263, by omega, by omega, (⟨kc_288, cc_289, tc_290, fc_291, kb_292, cb_293, tb_294, fb_295, hp_296, hT_297, er_298, et_299, wr_300, wt_301, ec_302, uc_303, wc_304, hc_305, eb_306, ub_307, wb_308, hb_309⟩ : RSX ρ ws_237 ty_238 f9 rd krd tp ktp cd bb tl (nxF f9 tl b_183) (T_177 ++ eO ta_184) nk fr fk fp vl_178)⟩⟩, hS.F ht⟩) hS.2.2 dX4_readOne_85
  have iw_37 : wdE f9 tl ts = 3 := iw_37
  refine lv_istore_n (lv' := [(2, .int 1), (0, .ref rd), (1, .int 4)]) hx hb dX4_readOne_9 rfl hl (by decide) rfl (fun ls hl => ?_)
  refine lv_iload_n hx hb dX4_readOne_10 rfl (lv_at hl 0 rfl) ?_
  refine lv_if_ne (tgt := 31) hx hb dX4_readOne_11 (by decide) (fun c_311 => ?_) (fun c_311 => absurd c_311 (by decide))
  have hw9 := nx_wd hpc9 (j := 3) (by omega) iw_37
  have hw9 : ts + 3 ≤ nxF f9 tl ts ∧ nxF f9 tl ts ≤ tl := hw9
  refine lv_iload_n hx hb dX4_readOne_31 rfl (lv_at hl 2 rfl) ?_
  refine lv_bipush (v := 6) hx hb dX4_readOne_32 (by decide) ?_
  refine lv_icmp_lt (tgt := 50) hx hb dX4_readOne_34 (by decide) (fun c_312 => ?_) (fun c_312 => absurd (by decide) c_312)
  refine lv_aload_n hx hb dX4_readOne_50 rfl (lv_at hl 1 rfl) ?_
  refine va_get (D := D) (ci := 4) (v := .ref tp) (C := RX4) (T := TX4) (N := 8) hx hb hts hin4 hown hK hP krd e_30 rfl 0 (by decide) (hts (.fieldLink RX4 12 "HoneyHouse$RuleReader" "tape" "LHoneyHouse$Tape;") (List.mem_of_getElem? (i := 1) rfl)) (fun _ h9 => h9) rfl dX4_readOne_51 ?_
  have hFc := free_all hD hS hA
  refine va_callv (va_runV (As := []) (rest := []) ⟨hx, hb, hml, hown, hts⟩ (a_advance l D (rz [ktp]) ws_25 ty_26 f9 tp ktp tl (teF f9 tl ts) (nI (kdF f9 tl ts)) (nI ts) bb kb_5 cb_6 tb_7 fb_8 H.size htl hb_22 hng (by omega) e_31 e_33 u_35 (rz_o1 (pl_ne e_33 e_31 (by intro h9; simp at h9))) (rz_in (by simp))) (cwV 0 hts gX4_readOne_X6_advance rfl rfl rfl (by decide +kernel) ⟨Nat.le_of_ble_eq_true rfl, Nat.le_of_ble_eq_true rfl⟩) ⟨fun a U g mk q => by obtain ⟨q0, q1, qP, qK, qD⟩ := q; exact ⟨q0, q1, qP, va_K.moved (u := U) (U := U.calling g mk a) (Vm.Alike.refl U.vm) qK, qD⟩, va_recv hK hP (ci := 6) (q0 := ktp) rfl e_31, fun U hU hW => ⟨rfl, by rw [hU], by rw [hU]; exact hP, va_K.moved hW.alike hK, hD.weaken (fun _ _ _ _ => trivial)⟩⟩ rfl rfl hl.1 rfl (lv_room (Nat.le_of_ble_eq_true rfl)) dX4_readOne_54 ⟨Nat.le_of_ble_eq_true rfl, Nat.le_of_ble_eq_true rfl⟩) hS (fun q _ h => hFc q h) hFc (fun u t H1 locs ht hvm w_314 hB hz1 hk1 hS => ?_)
  obtain ⟨ws_315, ty_316, hm_317, ht_319, hP1, hK1, hD1, hx_318⟩ := hB
  rw [ht] at hP1
  have hK := va_K.moved hvm.symm hK1
  have hD := hD1.weaken (fun _ _ _ h => hFc _ h)
  generalize H1 = H at hP1 hS ⊢
  have hP := hP1
  have e_320 := hm_317.keep (rz_o1 (pl_ne e_30 e_31 (by intro h9; simp at h9))) e_30
  have e_321 := hm_317.keep (rz_o1 (pl_ne e_32 e_31 (by intro h9; simp at h9))) e_32
  have e_322 := hm_317.keep (rz_o1 (pl_ne e_33 e_31 (by intro h9; simp at h9))) e_33
  have u_323 := ht_319 _ _ u_34
  have u_324 := ht_319 _ _ u_35
  have hm_325 : sm ρ [6] ws_25 ws_315 := hm_317.up (fun k _ h => rz_u1 wt_14 k h)
  have hsm := hsm.tr (hm_325.mono (by decide))
  have htx := htx.tr ht_319
  have e_326 : ws_315[ktp]? = some (tp, .inr (6, [.int (nI tl), .int (nI (kdF f9 tl (nxF f9 tl ts))), .int (nI (nxF f9 tl ts)), .int (nI (teF f9 tl (nxF f9 tl ts))), .ref bb])) := hx_318; have hq_327 : pcB f9 tl (nxF f9 tl ts) := nxF_pc (f := f9) hp_9.1; have hq_3271 := hq_327.1; have hq_327t := teF_le (f := f9) hq_327.1; have hg_328 := nx_gain (f := f9) hp_9.1
  refine lv_iload_n hx hb dX4_readOne_57 rfl (lv_at hl 0 rfl) ?_
  refine lv_if_ne (tgt := 86) hx hb dX4_readOne_58 (by decide) (fun c_329 => ?_) (fun c_329 => absurd c_329 (by decide))
  refine lv_aload_n hx hb dX4_readOne_86 rfl (lv_at hl 1 rfl) ?_
  refine lv_iload_n hx hb dX4_readOne_87 rfl (lv_at hl 2 rfl) ?_
  refine lv_iconst (v := 1) hx hb dX4_readOne_88 (by decide) ?_
  refine lv_iadd hx hb dX4_readOne_89 ?_
  refine tp_i (y := 5) (by decide) ?_
  have hFc := free_all hD hS hA
  refine va_calli (va_runV (As := [.int 5]) (rest := []) ⟨hx, hb, hml, hown, hts⟩ (r_readOne5 l D ρ ws_315 ty_316 adK adV fo f9 rd krd tp ktp cd bb tl (nxF f9 tl ts) T nk fr fk fp vl (3 :: σ) H.size htl hng (⟨kc_1, cc_2, tc_3, fc_4, kb_5, cb_6, tb_7, fb_8, hq_327, hT_10, e_320, e_326, wr_13, wt_14, e_321, u_323, wc_17, hc_18, e_322, u_324, wb_21, hb_22⟩ : RSX ρ ws_315 ty_316 f9 rd krd tp ktp cd bb tl (nxF f9 tl ts) T nk fr fk fp vl) ((dep_y σ (Or.inl rfl)).trans (by omega)) (by omega)) (cwV 1 hts gX4_readOne_X4_readOne rfl rfl rfl (by decide +kernel) ⟨Nat.le_of_ble_eq_true rfl, Nat.le_of_ble_eq_true rfl⟩) ⟨fun a U g mk q => by obtain ⟨q0, q1, qP, qK, qD, qS⟩ := q; exact ⟨q0, q1, qP, va_K.moved (u := U) (U := U.calling g mk a) (Vm.Alike.refl U.vm) qK, qD, SZ.same rfl rfl qS⟩, va_recv hK hP (ci := 4) (q0 := krd) rfl e_320, fun U hU hW => ⟨rfl, by rw [hU], by rw [hU]; exact hP, va_K.moved hW.alike hK, hD.weaken (fun _ _ _ _ => trivial), hsz9.go hS hW hU hFc⟩⟩ rfl rfl hl.1 rfl (lv_room (Nat.le_of_ble_eq_true rfl)) dX4_readOne_90 ⟨Nat.le_of_ble_eq_true rfl, Nat.le_of_ble_eq_true rfl⟩) hS (fun q _ h => hFc q h) hFc (fun r_330 u t H1 locs ht hvm w_331 hB hz1 hk1 hS => ?_)
  subst w_331
  obtain ⟨ws_332, ty_333, hm_334, ht_336, hP1, hK1, hD1, hx_335⟩ := hB
  rw [ht] at hP1
  have hK := va_K.moved hvm.symm hK1
  have hD := hD1.weaken (fun _ _ _ h => hFc _ h)
  generalize H1 = H at hP1 hS ⊢
  have hP := hP1
  obtain ⟨g_338, e_337, h_339⟩ := hm_334.obj e_320
  obtain ⟨z_340, z_341, z_342, z_343, z_344, z_345, rfl⟩ := smX4 h_339
  obtain ⟨g_347, e_346, h_348⟩ := hm_334.obj e_326
  obtain ⟨z_349, z_350, z_351, z_352, rfl⟩ := smX6 h_348
  obtain ⟨f_354, e_353⟩ := hm_334.arrI e_321
  have u_355 := ht_336 _ _ u_323
  have e_356 := hm_334.keep (by rw [wb_21]; omega) e_322
  have u_357 := ht_336 _ _ u_324
  have hsm := hsm.tr (hm_334.mono (by decide))
  have htx := htx.tr ht_336
  rcases hx_335 with ⟨rfl, k_358, p_359, ts_360, T_361, vl_362, hk_363, hk_364, hr_365, hR_366⟩ | ⟨rfl, b_367, T_361, vl_362, hr_365, hg_371, hg_372, hR_366⟩
  · obtain ⟨kc_373, cc_374, tc_375, fc_376, kb_377, cb_378, tb_379, fb_380, hp_381, hT_382, er_383, et_384, wr_385, wt_386, ec_387, uc_388, wc_389, hc_390, eb_391, ub_392, wb_393, hb_394⟩ := id hR_366
    have hp_3811 := hp_381.1
    have hp_381t := teF_le (f := f9) hp_381.1
    refine lv_istore_n (lv' := [(3, .int 0), (2, .int 1), (0, .ref rd), (1, .int 4)]) hx hb dX4_readOne_93 rfl hl (by decide) rfl (fun ls hl => ?_)
    refine lv_aload_n hx hb dX4_readOne_94 rfl (lv_at hl 2 rfl) ?_
    refine lv_iconst (v := (-1)) hx hb dX4_readOne_95 (by decide) ?_
    have hFc := free_all hD hS hA
    refine va_callv (va_runV (As := [.int (-1)]) (rest := []) ⟨hx, hb, hml, hown, hts⟩ (r_addCode l D ρ ws_332 ty_333 adK adV fo f9 rd krd tp ktp cd bb tl ts_360 T_361 nk fr (nI k_358) (nI p_359) vl_362 (3, 0, 0, 0) (-1) H.size htl hng (⟨kc_373, cc_374, tc_375, fc_376, kb_377, cb_378, tb_379, fb_380, hp_381, hT_382, er_383, et_384, wr_385, wt_386, ec_387, uc_388, wc_389, hc_390, eb_391, ub_392, wb_393, hb_394⟩ : RSX ρ ws_332 ty_333 f9 rd krd tp ktp cd bb tl ts_360 T_361 nk fr (nI k_358) (nI p_359) vl_362) rfl) (cwV 1 hts gX4_readOne_X4_addCode rfl rfl rfl (by decide +kernel) ⟨Nat.le_of_ble_eq_true rfl, Nat.le_of_ble_eq_true rfl⟩) ⟨fun a U g mk q => by obtain ⟨q0, q1, qP, qK, qD, qS⟩ := q; exact ⟨q0, q1, qP, va_K.moved (u := U) (U := U.calling g mk a) (Vm.Alike.refl U.vm) qK, qD, SZ.same rfl rfl qS⟩, va_recv hK hP (ci := 4) (q0 := krd) rfl er_383, fun U hU hW => ⟨rfl, by rw [hU], by rw [hU]; exact hP, va_K.moved hW.alike hK, hD.weaken (fun _ _ _ _ => trivial), hsz9.go hS hW hU hFc⟩⟩ rfl rfl hl.1 rfl (lv_room (Nat.le_of_ble_eq_true rfl)) dX4_readOne_96 ⟨Nat.le_of_ble_eq_true rfl, Nat.le_of_ble_eq_true rfl⟩) hS (fun q _ h => hFc q h) hFc (fun u t H1 locs ht hvm w_396 hB hz1 hk1 hS => ?_)
    obtain ⟨ws_397, ty_398, hm_399, ht_401, hP1, hK1, hD1, hx_400⟩ := hB
    rw [ht] at hP1
    have hK := va_K.moved hvm.symm hK1
    have hD := hD1.weaken (fun _ _ _ h => hFc _ h)
    generalize H1 = H at hP1 hS ⊢
    have hP := hP1
    obtain ⟨g_403, e_402, h_404⟩ := hm_399.obj er_383
    obtain ⟨z_405, z_406, z_407, z_408, z_409, z_410, rfl⟩ := smX4 h_404
    obtain ⟨g_412, e_411, h_413⟩ := hm_399.obj et_384
    obtain ⟨z_414, z_415, z_416, z_417, rfl⟩ := smX6 h_413
    obtain ⟨f_419, e_418⟩ := hm_399.arrI ec_387
    have u_420 := ht_401 _ _ uc_388
    have e_421 := hm_399.keep (by rw [wb_393]; omega) eb_391
    have u_422 := ht_401 _ _ ub_392
    have hsm := hsm.tr (hm_399.mono (by decide))
    have htx := htx.tr ht_401
    rcases hx_400 with ⟨hl_423, hR_424⟩ | ⟨hl_423, hR_424⟩
    · obtain ⟨kc_425, cc_426, tc_427, fc_428, kb_429, cb_430, tb_431, fb_432, hp_433, hT_434, er_435, et_436, wr_437, wt_438, ec_439, uc_440, wc_441, hc_442, eb_443, ub_444, wb_445, hb_446⟩ := id hR_424
      have hp_4331 := hp_433.1
      have hp_433t := teF_le (f := f9) hp_433.1
      refine lv_iload_n hx hb dX4_readOne_99 rfl (lv_at hl 0 rfl) ?_
      exact W.zret (v := 0) hx hb hr rfl (fun t ht hW => ⟨⟨0, 0, rfl, rfl, ws_397, ty_398, hsm, htx, by rw [ht]; exact hP, va_K.moved hW.alike hK, hD, Or.inl ⟨rfl, k_358, p_359, _, _, _, by omega, by omega, ((Rch.rf (0, ts, σ, T)).st (st_not iw_37 (by omega))).tr hr_365, (⟨kc_425, cc_426, tc_427, fc_428, kb_429, cb_430, tb_431, fb_432, hp_433, hT_434, er_435, et_436, wr_437, wt_438, ec_439, uc_440, wc_441, hc_442, eb_443, ub_444, wb_445, hb_446⟩ : RSX ρ ws_397 ty_398 f9 rd krd tp ktp cd bb tl ts_360 (T_361 ++ [(3, 0, 0, 0)]) nk fr (nI k_358) (nI p_359) vl_362)⟩⟩, hS.F ht⟩) hS.2.2 dX4_readOne_100
    obtain ⟨kc_447, cc_448, tc_449, fc_450, kb_451, cb_452, tb_453, fb_454, hp_455, hT_456, er_457, et_458, wr_459, wt_460, ec_461, uc_462, wc_463, hc_464, eb_465, ub_466, wb_467, hb_468⟩ := id hR_424
    have hp_4551 := hp_455.1
    have hp_455t := teF_le (f := f9) hp_455.1
    refine lv_iload_n hx hb dX4_readOne_99 rfl (lv_at hl 0 rfl) ?_
    exact W.zret (v := 0) hx hb hr rfl (fun t ht hW => ⟨⟨0, 0, rfl, rfl, ws_397, ty_398, hsm, htx, by rw [ht]; exact hP, va_K.moved hW.alike hK, hD, Or.inl ⟨rfl, k_358, p_359, _, _, _, by omega, by omega, ((Rch.rf (0, ts, σ, T)).st (st_not iw_37 (by omega))).tr hr_365, (⟨kc_447, cc_448, tc_449, fc_450, kb_451, cb_452, tb_453, fb_454, hp_455, hT_456, er_457, et_458, wr_459, wt_460, ec_461, uc_462, wc_463, hc_464, eb_465, ub_466, wb_467, hb_468⟩ : RSX ρ ws_397 ty_398 f9 rd krd tp ktp cd bb tl ts_360 T_361 nk fr (nI k_358) (nI p_359) vl_362)⟩⟩, hS.F ht⟩) hS.2.2 dX4_readOne_100
  obtain ⟨kc_469, cc_470, tc_471, fc_472, kb_473, cb_474, tb_475, fb_476, hp_477, hT_478, er_479, et_480, wr_481, wt_482, ec_483, uc_484, wc_485, hc_486, eb_487, ub_488, wb_489, hb_490⟩ := id hR_366
  have hp_4771 := hp_477.1
  have hp_477t := teF_le (f := f9) hp_477.1
  refine lv_istore_n (lv' := [(3, .int 1), (2, .int 1), (0, .ref rd), (1, .int 4)]) hx hb dX4_readOne_93 rfl hl (by decide) rfl (fun ls hl => ?_)
  refine lv_aload_n hx hb dX4_readOne_94 rfl (lv_at hl 2 rfl) ?_
  refine lv_iconst (v := (-1)) hx hb dX4_readOne_95 (by decide) ?_
  have hFc := free_all hD hS hA
  refine va_callv (va_runV (As := [.int (-1)]) (rest := []) ⟨hx, hb, hml, hown, hts⟩ (r_addCode l D ρ ws_332 ty_333 adK adV fo f9 rd krd tp ktp cd bb tl b_367 T_361 nk fr fk fp vl_362 (3, 0, 0, 0) (-1) H.size htl hng (⟨kc_469, cc_470, tc_471, fc_472, kb_473, cb_474, tb_475, fb_476, hp_477, hT_478, er_479, et_480, wr_481, wt_482, ec_483, uc_484, wc_485, hc_486, eb_487, ub_488, wb_489, hb_490⟩ : RSX ρ ws_332 ty_333 f9 rd krd tp ktp cd bb tl b_367 T_361 nk fr fk fp vl_362) rfl) (cwV 1 hts gX4_readOne_X4_addCode rfl rfl rfl (by decide +kernel) ⟨Nat.le_of_ble_eq_true rfl, Nat.le_of_ble_eq_true rfl⟩) ⟨fun a U g mk q => by obtain ⟨q0, q1, qP, qK, qD, qS⟩ := q; exact ⟨q0, q1, qP, va_K.moved (u := U) (U := U.calling g mk a) (Vm.Alike.refl U.vm) qK, qD, SZ.same rfl rfl qS⟩, va_recv hK hP (ci := 4) (q0 := krd) rfl er_479, fun U hU hW => ⟨rfl, by rw [hU], by rw [hU]; exact hP, va_K.moved hW.alike hK, hD.weaken (fun _ _ _ _ => trivial), hsz9.go hS hW hU hFc⟩⟩ rfl rfl hl.1 rfl (lv_room (Nat.le_of_ble_eq_true rfl)) dX4_readOne_96 ⟨Nat.le_of_ble_eq_true rfl, Nat.le_of_ble_eq_true rfl⟩) hS (fun q _ h => hFc q h) hFc (fun u t H1 locs ht hvm w_492 hB hz1 hk1 hS => ?_)
  obtain ⟨ws_493, ty_494, hm_495, ht_497, hP1, hK1, hD1, hx_496⟩ := hB
  rw [ht] at hP1
  have hK := va_K.moved hvm.symm hK1
  have hD := hD1.weaken (fun _ _ _ h => hFc _ h)
  generalize H1 = H at hP1 hS ⊢
  have hP := hP1
  obtain ⟨g_499, e_498, h_500⟩ := hm_495.obj er_479
  obtain ⟨z_501, z_502, z_503, z_504, z_505, z_506, rfl⟩ := smX4 h_500
  obtain ⟨g_508, e_507, h_509⟩ := hm_495.obj et_480
  obtain ⟨z_510, z_511, z_512, z_513, rfl⟩ := smX6 h_509
  obtain ⟨f_515, e_514⟩ := hm_495.arrI ec_483
  have u_516 := ht_497 _ _ uc_484
  have e_517 := hm_495.keep (by rw [wb_489]; omega) eb_487
  have u_518 := ht_497 _ _ ub_488
  have hsm := hsm.tr (hm_495.mono (by decide))
  have htx := htx.tr ht_497
  obtain ⟨hl_519, hR_520⟩ := hx_496.resolve_right (fun h9 => h9.1 (by omega))
  obtain ⟨kc_521, cc_522, tc_523, fc_524, kb_525, cb_526, tb_527, fb_528, hp_529, hT_530, er_531, et_532, wr_533, wt_534, ec_535, uc_536, wc_537, hc_538, eb_539, ub_540, wb_541, hb_542⟩ := id hR_520
  have hp_5291 := hp_529.1
  have hp_529t := teF_le (f := f9) hp_529.1
  refine lv_iload_n hx hb dX4_readOne_99 rfl (lv_at hl 0 rfl) ?_
  exact W.zret (v := 1) hx hb hr rfl (fun t ht hW => ⟨⟨1, 1, rfl, rfl, ws_493, ty_494, hsm, htx, by rw [ht]; exact hP, va_K.moved hW.alike hK, hD, Or.inr ⟨rfl, b_367, _, _, rch_no (((Rch.rf (0, ts, σ, T)).st (st_not iw_37 (by omega))).tr hr_365), by omega, by rw [len_a1]; omega, (⟨kc_521, cc_522, tc_523, fc_524, kb_525, cb_526, tb_527, fb_528, hp_529, hT_530, er_531, et_532, wr_533, wt_534, ec_535, uc_536, wc_537, hc_538, eb_539, ub_540, wb_541, hb_542⟩ : RSX ρ ws_493 ty_494 f9 rd krd tp ktp cd bb tl b_367 (T_361 ++ [(3, 0, 0, 0)]) nk fr fk fp vl_362)⟩⟩, hS.F ht⟩) hS.2.2 dX4_readOne_100
set_option maxHeartbeats 4000000 in
set_option maxRecDepth 100000 in
theorem r_readEither4 (l : Launch) (D : va_G) (ρ : Nat → Nat) (ws : va_W) (tys : List (ClassId × FieldType)) (adK adV : Nat → Nat) (fo : Option Nat) (f9 : Nat → Int32) (rd krd tp ktp cd bb tl ts : Nat) (T : List Tk) (nk : Int64) (fr fk fp vl : Int32) (σ : List Nat) (sz : Nat) (htl : tl ≤ 400) (hng : ∀ i : Nat, i < tl → ¬ f9 i = -1) (R0 : RSX ρ ws tys f9 rd krd tp ktp cd bb tl ts T nk fr fk fp vl) (hbs : bas σ) (hdp : dep σ = 4) (hT2 : 2 * T.length ≤ ts) : Met l yX4_readEither wsX4_readEither ({ frames := 12, cells := 0, slots := 0, locals := 268 }) (va_Pc [.ref rd, .int 4] (fun U => U.heap.size = sz ∧ va_P D vwCl ws U.heap ∧ va_K D vwCl tys U ∧ va_D (fun _ => True) ws ∧ SZ adK adV fo (va_A ws sz) U U.heap)) (va_Qi (fun (r : Int32) (s9 : Int32) => r = s9) (fun (s9 : Int32) (t : State) => ∃ (ws' : va_W) (tys' : List (ClassId × FieldType)), sm ρ [4, 6] ws ws' ∧ tyx tys tys' ∧ va_P D vwCl ws' t.heap ∧ va_K D vwCl tys' t ∧ va_D (va_A ws sz) ws' ∧ ((s9 = 0 ∧ FLT ρ ws' tys' f9 rd krd tp ktp cd bb tl (0, ts, σ, T) nk fr) ∨ (s9 = 1 ∧ EIT ρ ws' tys' f9 rd krd tp ktp cd bb tl ts σ T nk fr fk fp))) (va_A ws sz)) 0 0 (va_A ws sz) := by
  refine Met.ofW (cc := cX4_readEither) (maxL := 6) (ret := (some .boolean)) (by decide) rfl ?_
  intro p e s m args below meth c s₁ B hml hv
  obtain ⟨rfl, hsz, hP, hK, hD0, hsz9⟩ := hv
  have hx := B.exec
  have hb := B.bytes
  have hr := B.returns
  have hts := atoms_spec (ws := wsX4_readEither) B.pre
  have hown : s.vm.findClass RX4 = some m.cls := findClass_of_methodNamed B.named
  have hlocks := B.notSynchronized
  subst hsz
  have hD := hD0.self (sz := s.heap.size)
  generalize hAe : va_A ws s.heap.size = A at hD hsz9 ⊢
  have hA : ∀ q : Nat, s.heap.size ≤ q → A q := fun q h => by rw [← hAe]; exact Or.inr h
  have hS : va_S A s.heap s.heap [] := va_S.rf
  have hsm : sm ρ [4, 6] ws ws := sm.rf ws
  have htx : tyx tys tys := tyx.rf tys
  have hin4 : ∀ w ∈ u_ws RX4 TX4 8, w ∈ wsX4_readEither := (fun _ h9 => List.mem_cons_of_mem _ (List.mem_append_left _ ((List.mem_append_right _ h9))))
  have hl := lv_entry ([.ref rd, .int 4]) (n := 6) (Nat.le_of_ble_eq_true rfl)
  rw [lg_entry_eq]
  generalize (lg_sl ([.ref rd, .int 4]) ++ List.replicate (6 - (lg_sl ([.ref rd, .int 4])).length) Slot.unset).toArray = ls at hl ⊢
  have hl : lv_has ls 6 [(0, .ref rd), (1, .int 4)] := hl
  obtain ⟨kc_1, cc_2, tc_3, fc_4, kb_5, cb_6, tb_7, fb_8, hp_9, hT_10, er_11, et_12, wr_13, wt_14, ec_15, uc_16, wc_17, hc_18, eb_19, ub_20, wb_21, hb_22⟩ := id R0
  have hp_91 := hp_9.1
  have hp_9t := teF_le (f := f9) hp_9.1
  refine lv_aload_n hx hb dX4_readEither_0 rfl (lv_at hl 0 rfl) ?_
  refine lv_iload_n hx hb dX4_readEither_1 rfl (lv_at hl 1 rfl) ?_
  have hFc := free_all hD hS hA
  refine va_calli (va_runV (As := [.int 4]) (rest := []) ⟨hx, hb, hml, hown, hts⟩ (r_readOne4 l D ρ ws tys adK adV fo f9 rd krd tp ktp cd bb tl ts T nk fr fk fp vl σ s.heap.size htl hng (⟨kc_1, cc_2, tc_3, fc_4, kb_5, cb_6, tb_7, fb_8, hp_9, hT_10, er_11, et_12, wr_13, wt_14, ec_15, uc_16, wc_17, hc_18, eb_19, ub_20, wb_21, hb_22⟩ : RSX ρ ws tys f9 rd krd tp ktp cd bb tl ts T nk fr fk fp vl) hdp (by omega)) (cwV 1 hts gX4_readEither_X4_readOne rfl rfl rfl (by decide +kernel) ⟨Nat.le_of_ble_eq_true rfl, Nat.le_of_ble_eq_true rfl⟩) ⟨fun a U g mk q => by obtain ⟨q0, q1, qP, qK, qD, qS⟩ := q; exact ⟨q0, q1, qP, va_K.moved (u := U) (U := U.calling g mk a) (Vm.Alike.refl U.vm) qK, qD, SZ.same rfl rfl qS⟩, va_recv hK hP (ci := 4) (q0 := krd) rfl er_11, fun U hU hW => ⟨rfl, by rw [hU], by rw [hU]; exact hP, va_K.moved hW.alike hK, hD.weaken (fun _ _ _ _ => trivial), hsz9.go hS hW hU hFc⟩⟩ rfl rfl hl.1 rfl (lv_room (Nat.le_of_ble_eq_true rfl)) dX4_readEither_2 ⟨Nat.le_of_ble_eq_true rfl, Nat.le_of_ble_eq_true rfl⟩) hS (fun q _ h => hFc q h) hFc (fun r_23 u t H1 locs ht hvm w_24 hB hz1 hk1 hS => ?_)
  subst w_24
  obtain ⟨ws_25, ty_26, hm_27, ht_29, hP1, hK1, hD1, hx_28⟩ := hB
  rw [ht] at hP1
  have hK := va_K.moved hvm.symm hK1
  have hD := hD1.weaken (fun _ _ _ h => hFc _ h)
  generalize H1 = H at hP1 hS ⊢
  have hP := hP1
  obtain ⟨g_31, e_30, h_32⟩ := hm_27.obj er_11
  obtain ⟨z_33, z_34, z_35, z_36, z_37, z_38, rfl⟩ := smX4 h_32
  obtain ⟨g_40, e_39, h_41⟩ := hm_27.obj et_12
  obtain ⟨z_42, z_43, z_44, z_45, rfl⟩ := smX6 h_41
  obtain ⟨f_47, e_46⟩ := hm_27.arrI ec_15
  have u_48 := ht_29 _ _ uc_16
  have e_49 := hm_27.keep (by rw [wb_21]; omega) eb_19
  have u_50 := ht_29 _ _ ub_20
  have hsm := hsm.tr (hm_27.mono (by decide))
  have htx := htx.tr ht_29
  refine lv_istore_n (lv' := [(2, .int r_23), (0, .ref rd), (1, .int 4)]) hx hb dX4_readEither_5 rfl hl (by decide) rfl (fun ls hl => ?_)
  refine lv_iconst (v := 0) hx hb dX4_readEither_6 (by decide) ?_
  refine lv_istore_n (lv' := [(3, .int 0), (2, .int r_23), (0, .ref rd), (1, .int 4)]) hx hb dX4_readEither_7 rfl hl (by decide) rfl (fun ls hl => ?_)
  refine lv_iconst (v := 0) hx hb dX4_readEither_8 (by decide) ?_
  refine lv_istore (lv' := [(4, .int 0), (3, .int 0), (2, .int r_23), (0, .ref rd), (1, .int 4)]) hx hb dX4_readEither_9 hl (by decide) rfl (fun ls hl => ?_)
  refine lp_V (nL := 6) (σ := Nat × Int32 × Int32) (lv := fun x9 => [(4, .int (nI x9.1)), (2, .int x9.2.1), (3, .int x9.2.2), (1, .int 4), (0, .ref rd)]) (μ := fun x9 => 400 - x9.1) (J := fun x9 ws9 => sm ρ [4, 6] ws_25 ws9 ∧ (∃ ty9 : List (ClassId × FieldType), va_K D vwCl ty9 s ∧ tyx tys ty9 ∧ ((x9.2.1 = 1 ∧ (x9.2.2 = 0 ∨ x9.2.2 = 1) ∧ LPE ρ ws9 ty9 f9 rd krd tp ktp cd bb tl ts σ T nk fr fk fp x9.1 x9.2.2) ∨ (x9.2.1 = 0 ∧ (x9.2.2 = 0 ∨ x9.2.2 = 1) ∧ FLT ρ ws9 ty9 f9 rd krd tp ktp cd bb tl (0, ts, σ, T) nk fr))) ∧ (x9.1 ≤ 400)) (fun x9 ws_56 H locs ls hj hP hD hS hl ih_51 => ?_) (0, r_23, 0) ws_25 _ _ ls ⟨sm.rf _, ⟨ty_26, hK, htx, by rcases hx_28 with ⟨h0, h⟩ | ⟨h0, b9, T9, vl, hr, g1, g2, h⟩; exact Or.inr ⟨h0, Or.inl rfl, h⟩; exact Or.inl ⟨h0, Or.inl rfl, ⟨b9, σ, T9, vl, rch_bs hbs hr, ow_0 hbs, by omega, fun (h9 : (0 : Int32) = 1) => absurd h9 (by decide), fun _ => by rw [hbs.fx.2.2.2.1, List.append_nil]; omega, by rw [hbs.fx.2.2.2.1, List.append_nil]; exact h⟩⟩⟩, (show 0 ≤ 400 from by omega)⟩ hP hD hS (lv_sub hl [0, 2, 1, 4, 3] rfl)
  obtain ⟨i_52, x_53, y_54⟩ := x9
  replace hj : sm ρ [4, 6] ws_25 ws_56 ∧ (∃ ty9 : List (ClassId × FieldType), va_K D vwCl ty9 s ∧ tyx tys ty9 ∧ ((x_53 = 1 ∧ (y_54 = 0 ∨ y_54 = 1) ∧ LPE ρ ws_56 ty9 f9 rd krd tp ktp cd bb tl ts σ T nk fr fk fp i_52 y_54) ∨ (x_53 = 0 ∧ (y_54 = 0 ∨ y_54 = 1) ∧ FLT ρ ws_56 ty9 f9 rd krd tp ktp cd bb tl (0, ts, σ, T) nk fr))) ∧ (i_52 ≤ 400) := hj
  obtain ⟨hm_57, hR_59, hi_55⟩ := hj
  obtain ⟨g_61, e_60, h_62⟩ := hm_57.obj e_30
  obtain ⟨z_63, z_64, z_65, z_66, z_67, z_68, rfl⟩ := smX4 h_62
  obtain ⟨g_70, e_69, h_71⟩ := hm_57.obj e_39
  obtain ⟨z_72, z_73, z_74, z_75, rfl⟩ := smX6 h_71
  obtain ⟨f_77, e_76⟩ := hm_57.arrI e_46
  have e_78 := hm_57.keep (by rw [wb_21]; omega) e_49
  have hsm := hsm.tr (hm_57.mono (by decide))
  have hlp_58 := hm_57
  have hl : lv_has ls 6 [(4, .int (nI i_52)), (2, .int x_53), (3, .int y_54), (1, .int 4), (0, .ref rd)] := hl
  refine lv_iload hx hb dX4_readEither_11 (lv_at hl 0 rfl) ?_
  obtain ⟨ty_79, hK, htx, hR_80⟩ := hR_59
  rcases hR_80 with ⟨rfl, rfl | rfl, b_81, ta_82, T_83, vl_84, hr_85, ow_86, gi_87, ga_88, gb_89, hR_90⟩ | ⟨rfl, rfl | rfl, k_91, p_92, ts_93, T_83, vl_84, hk_94, hk_95, hr_85, hR_90⟩
  · have gb_89 := gb_89 rfl
    obtain ⟨kc_96, cc_97, tc_98, fc_99, kb_100, cb_101, tb_102, fb_103, hp_104, hT_105, er_106, et_107, wr_108, wt_109, ec_110, uc_111, wc_112, hc_113, eb_114, ub_115, wb_116, hb_117⟩ := id hR_90
    have hp_1041 := hp_104.1
    have hp_104t := teF_le (f := f9) hp_104.1
    refine lv_sipush (v := 400) hx hb dX4_readEither_13 (by decide) ?_
    refine lv_icmp_ge (tgt := 101) hx hb dX4_readEither_16 (by decide) (fun c_118 => ?_) (fun c_118 => ?_)
    · have d_119 := n_le (a := 400) (b := i_52) (by omega) (by omega) c_118
      refine lv_iload_n hx hb dX4_readEither_101 rfl (lv_at hl 2 rfl) ?_
      refine lv_if_eq (tgt := 111) hx hb dX4_readEither_102 (by decide) (fun c_120 => ?_) (fun c_120 => absurd (by decide) c_120)
      refine lv_iload_n hx hb dX4_readEither_111 rfl (lv_at hl 1 rfl) ?_
      exact W.zret (v := 1) hx hb hr rfl (fun t ht hW => ⟨⟨1, 1, rfl, rfl, ws_56, ty_79, hsm, htx, by rw [ht]; exact hP, va_K.moved hW.alike hK, hD, (by exfalso; omega)⟩, hS.F ht⟩) hS.2.2 dX4_readEither_112
    have d_121 := n_nle (a := 400) (b := i_52) (by omega) (by omega) c_118
    refine lv_iload_n hx hb dX4_readEither_19 rfl (lv_at hl 1 rfl) ?_
    refine lv_if_eq (tgt := 101) hx hb dX4_readEither_20 (by decide) (fun c_122 => absurd c_122 (by decide)) (fun c_122 => ?_)
    refine lv_aload_n hx hb dX4_readEither_23 rfl (lv_at hl 4 rfl) ?_
    have hFc := free_all hD hS hA
    refine va_calli (va_runV (As := []) (rest := []) ⟨hx, hb, hml, hown, hts⟩ (r_isAndOr l D (rz []) ws_56 ty_79 adK adV fo f9 rd krd tp ktp cd tl b_81 nk fr fk fp (nI (T_83 ++ eA ta_82).length) vl_84 bb kb_100 cb_101 tb_102 fb_103 H.size er_106 htl hb_117 hng hp_104 et_107 eb_114 ub_115 rz_o0) (cwV 0 hts gX4_readEither_X4_isAndOr rfl rfl rfl (by decide +kernel) ⟨Nat.le_of_ble_eq_true rfl, Nat.le_of_ble_eq_true rfl⟩) ⟨fun a U g mk q => by obtain ⟨q0, q1, qP, qK, qD, qS⟩ := q; exact ⟨q0, q1, qP, va_K.moved (u := U) (U := U.calling g mk a) (Vm.Alike.refl U.vm) qK, qD, SZ.same rfl rfl qS⟩, va_recv hK hP (ci := 4) (q0 := krd) rfl er_106, fun U hU hW => ⟨rfl, by rw [hU], by rw [hU]; exact hP, va_K.moved hW.alike hK, hD.weaken (fun _ _ _ _ => trivial), hsz9.go hS hW hU hFc⟩⟩ rfl rfl hl.1 rfl (lv_room (Nat.le_of_ble_eq_true rfl)) dX4_readEither_24 ⟨Nat.le_of_ble_eq_true rfl, Nat.le_of_ble_eq_true rfl⟩) hS (fun q _ h => hFc q h) hFc (fun r_123 u t H1 locs ht hvm w_124 hB hz1 hk1 hS => ?_)
    obtain ⟨ws_125, ty_126, hm_127, ht_129, hP1, hK1, hD1, hx_128⟩ := hB
    rw [ht] at hP1
    have hK := va_K.moved hvm.symm hK1
    have hD := hD1.weaken (fun _ _ _ h => hFc _ h)
    generalize H1 = H at hP1 hS ⊢
    have hP := hP1
    have e_130 := hm_127.keep rz_o0 er_106
    have e_131 := hm_127.keep rz_o0 et_107
    have e_132 := hm_127.keep rz_o0 ec_110
    have e_133 := hm_127.keep rz_o0 eb_114
    have u_134 := ht_129 _ _ uc_111
    have u_135 := ht_129 _ _ ub_115
    have hm_136 : sm ρ [] ws_56 ws_125 := hm_127.up (fun k _ h => rz_u0  k h)
    have hsm := hsm.tr (hm_136.mono (by decide))
    have hlp_58 := hlp_58.tr (hm_136.mono (by decide))
    have htx := htx.tr ht_129
    rcases w_124 with ⟨rfl, ao_137⟩ | ⟨rfl, ao_137⟩
    · refine lv_if_eq (tgt := 101) hx hb dX4_readEither_27 (by decide) (fun c_138 => ?_) (fun c_138 => absurd (by decide) c_138)
      refine lv_iload_n hx hb dX4_readEither_101 rfl (lv_at hl 2 rfl) ?_
      refine lv_if_eq (tgt := 111) hx hb dX4_readEither_102 (by decide) (fun c_139 => ?_) (fun c_139 => absurd (by decide) c_139)
      refine lv_iload_n hx hb dX4_readEither_111 rfl (lv_at hl 1 rfl) ?_
      exact W.zret (v := 1) hx hb hr rfl (fun t ht hW => ⟨⟨1, 1, rfl, rfl, ws_125, ty_126, hsm, htx, by rw [ht]; exact hP, va_K.moved hW.alike hK, hD, Or.inr ⟨rfl, b_81, ta_82, T_83, _, hr_85, ow_jO hbs ow_86, ao_137, by omega, by rw [(ow_eO hbs ow_86).1 rfl]; omega, by rw [(ow_eO hbs ow_86).1 rfl]; exact (⟨kc_96, cc_97, tc_98, fc_99, kb_100, cb_101, tb_102, fb_103, hp_104, hT_105, e_130, e_131, wr_108, wt_109, e_132, u_134, wc_112, hc_113, e_133, u_135, wb_116, hb_117⟩ : RSX ρ ws_125 ty_126 f9 rd krd tp ktp cd bb tl b_81 (T_83 ++ eA ta_82) nk fr fk fp vl_84)⟩⟩, hS.F ht⟩) hS.2.2 dX4_readEither_112
    refine lv_if_eq (tgt := 101) hx hb dX4_readEither_27 (by decide) (fun c_140 => absurd c_140 (by decide)) (fun c_140 => ?_)
    refine lv_aload_n hx hb dX4_readEither_30 rfl (lv_at hl 4 rfl) ?_
    refine va_get (D := D) (ci := 4) (v := .ref tp) (C := RX4) (T := TX4) (N := 8) hx hb hts hin4 hown hK hP krd e_130 rfl 0 (by decide) (hts (.fieldLink RX4 12 "HoneyHouse$RuleReader" "tape" "LHoneyHouse$Tape;") (List.mem_of_getElem? (i := 1) rfl)) (fun _ h9 => h9) rfl dX4_readEither_31 ?_
    refine va_ldcS hx hb hown hsz9.2.2.2.2.2.1 dX4_readEither_34 ?_
    have hFc := free_all hD hS hA
    refine va_calli (va_runV (As := [.ref (adK 2)]) (rest := []) ⟨hx, hb, hml, hown, hts⟩ (a_isWord l D (rz []) ws_125 ty_126 adK adV fo 2 f9 tp ktp tl b_81 bb kb_100 cb_101 tb_102 fb_103 H.size (by decide) htl hb_117 hng hp_104 e_131 e_133 u_135 rz_o0) (cwV 1 hts gX4_readEither_X6_isWord rfl rfl rfl (by decide +kernel) ⟨Nat.le_of_ble_eq_true rfl, Nat.le_of_ble_eq_true rfl⟩) ⟨fun a U g mk q => by obtain ⟨q0, q1, qP, qK, qD, qS⟩ := q; exact ⟨q0, q1, qP, va_K.moved (u := U) (U := U.calling g mk a) (Vm.Alike.refl U.vm) qK, qD, SZ.same rfl rfl qS⟩, va_recv hK hP (ci := 6) (q0 := ktp) rfl e_131, fun U hU hW => ⟨rfl, by rw [hU], by rw [hU]; exact hP, va_K.moved hW.alike hK, hD.weaken (fun _ _ _ _ => trivial), hsz9.go hS hW hU hFc⟩⟩ rfl rfl hl.1 rfl (lv_room (Nat.le_of_ble_eq_true rfl)) dX4_readEither_36 ⟨Nat.le_of_ble_eq_true rfl, Nat.le_of_ble_eq_true rfl⟩) hS (fun q _ h => hFc q h) hFc (fun r_141 u t H1 locs ht hvm w_142 hB hz1 hk1 hS => ?_)
    obtain ⟨ws_143, ty_144, hm_145, ht_147, hP1, hK1, hD1, hx_146⟩ := hB
    rw [ht] at hP1
    have hK := va_K.moved hvm.symm hK1
    have hD := hD1.weaken (fun _ _ _ h => hFc _ h)
    generalize H1 = H at hP1 hS ⊢
    have hP := hP1
    have e_148 := hm_145.keep rz_o0 e_130
    have e_149 := hm_145.keep rz_o0 e_131
    have e_150 := hm_145.keep rz_o0 e_132
    have e_151 := hm_145.keep rz_o0 e_133
    have u_152 := ht_147 _ _ u_134
    have u_153 := ht_147 _ _ u_135
    have hm_154 : sm ρ [] ws_125 ws_143 := hm_145.up (fun k _ h => rz_u0  k h)
    have hsm := hsm.tr (hm_154.mono (by decide))
    have hlp_58 := hlp_58.tr (hm_154.mono (by decide))
    have htx := htx.tr ht_147
    rcases w_142 with ⟨rfl, iw_155⟩ | ⟨rfl, iw_155⟩
    · have iw_155 : ¬ wdE f9 tl b_81 = 2 := iw_155
      refine lv_istore (lv' := [(5, .int 0), (4, .int (nI i_52)), (2, .int 1), (3, .int 0), (1, .int 4), (0, .ref rd)]) hx hb dX4_readEither_39 hl (by decide) rfl (fun ls hl => ?_)
      refine lv_iload hx hb dX4_readEither_41 (lv_at hl 0 rfl) ?_
      refine lv_if_ne (tgt := 56) hx hb dX4_readEither_43 (by decide) (fun c_156 => absurd (by decide) c_156) (fun c_156 => ?_)
      refine lv_iload_n hx hb dX4_readEither_46 rfl (lv_at hl 3 rfl) ?_
      refine lv_if_eq (tgt := 56) hx hb dX4_readEither_47 (by decide) (fun c_157 => ?_) (fun c_157 => absurd (by decide) c_157)
      refine lv_iload_n hx hb dX4_readEither_56 rfl (lv_at hl 3 rfl) ?_
      refine lv_if_ne (tgt := 65) hx hb dX4_readEither_57 (by decide) (fun c_158 => absurd (by decide) c_158) (fun c_158 => ?_)
      refine lv_iload hx hb dX4_readEither_60 (lv_at hl 0 rfl) ?_
      refine lv_if_ne (tgt := 69) hx hb dX4_readEither_62 (by decide) (fun c_159 => absurd (by decide) c_159) (fun c_159 => ?_)
      refine lv_iconst (v := 1) hx hb dX4_readEither_65 (by decide) ?_
      refine lv_goto (tgt := 70) hx hb dX4_readEither_66 (by decide) ?_
      refine lv_istore_n (lv' := [(3, .int 1), (5, .int 0), (4, .int (nI i_52)), (2, .int 1), (1, .int 4), (0, .ref rd)]) hx hb dX4_readEither_70 rfl hl (by decide) rfl (fun ls hl => ?_)
      have hw1 : wdE f9 tl b_81 = 1 := by omega
      have hw9 : b_81 + 2 ≤ nxF f9 tl b_81 ∧ nxF f9 tl b_81 ≤ tl := nx_wd hp_104.1 (j := 1) (by omega) hw1
      have hm9 : Rch f9 tl (0, ts, σ, T) (0, nxF f9 tl b_81, 1 :: σ, T_83 ++ eA ta_82) := by have h9 := hr_85.st (st_or hw1); rw [ow_jO hbs ow_86, (ow_eO hbs ow_86).1 rfl] at h9; exact h9
      have hdq : dep (1 :: σ) = dep σ := dep_n _ (by omega)
      refine lv_aload_n hx hb dX4_readEither_71 rfl (lv_at hl 5 rfl) ?_
      refine va_get (D := D) (ci := 4) (v := .ref tp) (C := RX4) (T := TX4) (N := 8) hx hb hts hin4 hown hK hP krd e_148 rfl 0 (by decide) (hts (.fieldLink RX4 12 "HoneyHouse$RuleReader" "tape" "LHoneyHouse$Tape;") (List.mem_of_getElem? (i := 1) rfl)) (fun _ h9 => h9) rfl dX4_readEither_72 ?_
      have hFc := free_all hD hS hA
      refine va_callv (va_runV (As := []) (rest := []) ⟨hx, hb, hml, hown, hts⟩ (a_advance l D (rz [ktp]) ws_143 ty_144 f9 tp ktp tl (teF f9 tl b_81) (nI (kdF f9 tl b_81)) (nI b_81) bb kb_100 cb_101 tb_102 fb_103 H.size htl hb_117 hng (by omega) e_149 e_151 u_153 (rz_o1 (pl_ne e_151 e_149 (by intro h9; simp at h9))) (rz_in (by simp))) (cwV 0 hts gX4_readEither_X6_advance rfl rfl rfl (by decide +kernel) ⟨Nat.le_of_ble_eq_true rfl, Nat.le_of_ble_eq_true rfl⟩) ⟨fun a U g mk q => by obtain ⟨q0, q1, qP, qK, qD⟩ := q; exact ⟨q0, q1, qP, va_K.moved (u := U) (U := U.calling g mk a) (Vm.Alike.refl U.vm) qK, qD⟩, va_recv hK hP (ci := 6) (q0 := ktp) rfl e_149, fun U hU hW => ⟨rfl, by rw [hU], by rw [hU]; exact hP, va_K.moved hW.alike hK, hD.weaken (fun _ _ _ _ => trivial)⟩⟩ rfl rfl hl.1 rfl (lv_room (Nat.le_of_ble_eq_true rfl)) dX4_readEither_75 ⟨Nat.le_of_ble_eq_true rfl, Nat.le_of_ble_eq_true rfl⟩) hS (fun q _ h => hFc q h) hFc (fun u t H1 locs ht hvm w_161 hB hz1 hk1 hS => ?_)
      obtain ⟨ws_162, ty_163, hm_164, ht_166, hP1, hK1, hD1, hx_165⟩ := hB
      rw [ht] at hP1
      have hK := va_K.moved hvm.symm hK1
      have hD := hD1.weaken (fun _ _ _ h => hFc _ h)
      generalize H1 = H at hP1 hS ⊢
      have hP := hP1
      have e_167 := hm_164.keep (rz_o1 (pl_ne e_148 e_149 (by intro h9; simp at h9))) e_148
      have e_168 := hm_164.keep (rz_o1 (pl_ne e_150 e_149 (by intro h9; simp at h9))) e_150
      have e_169 := hm_164.keep (rz_o1 (pl_ne e_151 e_149 (by intro h9; simp at h9))) e_151
      have u_170 := ht_166 _ _ u_152
      have u_171 := ht_166 _ _ u_153
      have hm_172 : sm ρ [6] ws_143 ws_162 := hm_164.up (fun k _ h => rz_u1 wt_109 k h)
      have hsm := hsm.tr (hm_172.mono (by decide))
      have hlp_58 := hlp_58.tr (hm_172.mono (by decide))
      have htx := htx.tr ht_166
      have e_173 : ws_162[ktp]? = some (tp, .inr (6, [.int (nI tl), .int (nI (kdF f9 tl (nxF f9 tl b_81))), .int (nI (nxF f9 tl b_81)), .int (nI (teF f9 tl (nxF f9 tl b_81))), .ref bb])) := hx_165; have hq_174 : pcB f9 tl (nxF f9 tl b_81) := nxF_pc (f := f9) hp_104.1; have hq_1741 := hq_174.1; have hq_174t := teF_le (f := f9) hq_174.1; have hg_175 := nx_gain (f := f9) hp_104.1
      refine lv_aload_n hx hb dX4_readEither_78 rfl (lv_at hl 5 rfl) ?_
      refine lv_iload_n hx hb dX4_readEither_79 rfl (lv_at hl 4 rfl) ?_
      have hFc := free_all hD hS hA
      refine va_calli (va_runV (As := [.int 4]) (rest := []) ⟨hx, hb, hml, hown, hts⟩ (r_readOne4 l D ρ ws_162 ty_163 adK adV fo f9 rd krd tp ktp cd bb tl (nxF f9 tl b_81) (T_83 ++ eA ta_82) nk fr fk fp vl_84 (1 :: σ) H.size htl hng (⟨kc_96, cc_97, tc_98, fc_99, kb_100, cb_101, tb_102, fb_103, hq_174, hT_105, e_167, e_173, wr_108, wt_109, e_168, u_170, wc_112, hc_113, e_169, u_171, wb_116, hb_117⟩ : RSX ρ ws_162 ty_163 f9 rd krd tp ktp cd bb tl (nxF f9 tl b_81) (T_83 ++ eA ta_82) nk fr fk fp vl_84) (hdq.trans hdp) (by omega)) (cwV 1 hts gX4_readEither_X4_readOne rfl rfl rfl (by decide +kernel) ⟨Nat.le_of_ble_eq_true rfl, Nat.le_of_ble_eq_true rfl⟩) ⟨fun a U g mk q => by obtain ⟨q0, q1, qP, qK, qD, qS⟩ := q; exact ⟨q0, q1, qP, va_K.moved (u := U) (U := U.calling g mk a) (Vm.Alike.refl U.vm) qK, qD, SZ.same rfl rfl qS⟩, va_recv hK hP (ci := 4) (q0 := krd) rfl e_167, fun U hU hW => ⟨rfl, by rw [hU], by rw [hU]; exact hP, va_K.moved hW.alike hK, hD.weaken (fun _ _ _ _ => trivial), hsz9.go hS hW hU hFc⟩⟩ rfl rfl hl.1 rfl (lv_room (Nat.le_of_ble_eq_true rfl)) dX4_readEither_80 ⟨Nat.le_of_ble_eq_true rfl, Nat.le_of_ble_eq_true rfl⟩) hS (fun q _ h => hFc q h) hFc (fun r_176 u t H1 locs ht hvm w_177 hB hz1 hk1 hS => ?_)
      subst w_177
      obtain ⟨ws_178, ty_179, hm_180, ht_182, hP1, hK1, hD1, hx_181⟩ := hB
      rw [ht] at hP1
      have hK := va_K.moved hvm.symm hK1
      have hD := hD1.weaken (fun _ _ _ h => hFc _ h)
      generalize H1 = H at hP1 hS ⊢
      have hP := hP1
      obtain ⟨g_184, e_183, h_185⟩ := hm_180.obj e_167
      obtain ⟨z_186, z_187, z_188, z_189, z_190, z_191, rfl⟩ := smX4 h_185
      obtain ⟨g_193, e_192, h_194⟩ := hm_180.obj e_173
      obtain ⟨z_195, z_196, z_197, z_198, rfl⟩ := smX6 h_194
      obtain ⟨f_200, e_199⟩ := hm_180.arrI e_168
      have u_201 := ht_182 _ _ u_170
      have e_202 := hm_180.keep (by rw [wb_116]; omega) e_169
      have u_203 := ht_182 _ _ u_171
      have hsm := hsm.tr (hm_180.mono (by decide))
      have hlp_58 := hlp_58.tr (hm_180.mono (by decide))
      have htx := htx.tr ht_182
      rcases hx_181 with ⟨rfl, k_204, p_205, ts_206, T_207, vl_208, hk_209, hk_210, hr_211, hR_212⟩ | ⟨rfl, b_213, T_207, vl_208, hr_211, hg_217, hg_218, hR_212⟩
      · obtain ⟨kc_219, cc_220, tc_221, fc_222, kb_223, cb_224, tb_225, fb_226, hp_227, hT_228, er_229, et_230, wr_231, wt_232, ec_233, uc_234, wc_235, hc_236, eb_237, ub_238, wb_239, hb_240⟩ := id hR_212
        have hp_2271 := hp_227.1
        have hp_227t := teF_le (f := f9) hp_227.1
        refine lv_istore_n (lv' := [(2, .int 0), (3, .int 1), (5, .int 0), (4, .int (nI i_52)), (1, .int 4), (0, .ref rd)]) hx hb dX4_readEither_83 rfl hl (by decide) rfl (fun ls hl => ?_)
        refine lv_iload hx hb dX4_readEither_84 (lv_at hl 2 rfl) ?_
        refine lv_if_eq (tgt := 95) hx hb dX4_readEither_86 (by decide) (fun c_241 => ?_) (fun c_241 => absurd (by decide) c_241)
        refine lv_iinc (v := nI (i_52 + 1)) (lv' := [(4, .int (nI (i_52 + 1))), (2, .int 0), (3, .int 1), (5, .int 0), (1, .int 4), (0, .ref rd)]) hx hb dX4_readEither_95 hl (k := 3) rfl (nI_add i_52 1) (by decide) rfl (fun ls hl => ?_)
        refine lv_goto (tgt := 11) hx hb dX4_readEither_98 (by decide) ?_
        exact ih_51 (i_52 + 1, 0, 1) ws_178 _ _ ls (by show 400 - (i_52 + 1) < 400 - i_52; omega) ⟨hlp_58, ⟨ty_179, hK, htx, Or.inr ⟨rfl, Or.inr rfl, (⟨k_204, p_205, _, _, _, by omega, by omega, hm9.tr hr_211, (⟨kc_219, cc_220, tc_221, fc_222, kb_223, cb_224, tb_225, fb_226, hp_227, hT_228, er_229, et_230, wr_231, wt_232, ec_233, uc_234, wc_235, hc_236, eb_237, ub_238, wb_239, hb_240⟩ : RSX ρ ws_178 ty_179 f9 rd krd tp ktp cd bb tl ts_206 T_207 nk fr (nI k_204) (nI p_205) vl_208)⟩ : FLT ρ ws_178 ty_179 f9 rd krd tp ktp cd bb tl (0, ts, σ, T) nk fr)⟩⟩, (show (i_52 + 1) ≤ 400 from by omega)⟩ hP hD hS (lv_sub hl [0, 1, 2, 4, 5] rfl)
      obtain ⟨kc_242, cc_243, tc_244, fc_245, kb_246, cb_247, tb_248, fb_249, hp_250, hT_251, er_252, et_253, wr_254, wt_255, ec_256, uc_257, wc_258, hc_259, eb_260, ub_261, wb_262, hb_263⟩ := id hR_212
      have hp_2501 := hp_250.1
      have hp_250t := teF_le (f := f9) hp_250.1
      refine lv_istore_n (lv' := [(2, .int 1), (3, .int 1), (5, .int 0), (4, .int (nI i_52)), (1, .int 4), (0, .ref rd)]) hx hb dX4_readEither_83 rfl hl (by decide) rfl (fun ls hl => ?_)
      refine lv_iload hx hb dX4_readEither_84 (lv_at hl 2 rfl) ?_
      refine lv_if_eq (tgt := 95) hx hb dX4_readEither_86 (by decide) (fun c_264 => ?_) (fun c_264 => absurd (by decide) c_264)
      refine lv_iinc (v := nI (i_52 + 1)) (lv' := [(4, .int (nI (i_52 + 1))), (2, .int 1), (3, .int 1), (5, .int 0), (1, .int 4), (0, .ref rd)]) hx hb dX4_readEither_95 hl (k := 3) rfl (nI_add i_52 1) (by decide) rfl (fun ls hl => ?_)
      refine lv_goto (tgt := 11) hx hb dX4_readEither_98 (by decide) ?_
      exact ih_51 (i_52 + 1, 1, 1) ws_178 _ _ ls (by show 400 - (i_52 + 1) < 400 - i_52; omega) ⟨hlp_58, ⟨ty_179, hK, htx, Or.inl ⟨rfl, Or.inr rfl, (⟨b_213, 1 :: σ, T_207, _, hm9.tr (rch_an (by omega) hr_211), ow_or, by omega, fun _ => by rw [eA_n _ (by omega), List.append_nil]; omega, fun h9 => absurd h9 (by decide), by rw [eA_n _ (by omega), List.append_nil]; exact (⟨kc_242, cc_243, tc_244, fc_245, kb_246, cb_247, tb_248, fb_249, hp_250, hT_251, er_252, et_253, wr_254, wt_255, ec_256, uc_257, wc_258, hc_259, eb_260, ub_261, wb_262, hb_263⟩ : RSX ρ ws_178 ty_179 f9 rd krd tp ktp cd bb tl b_213 T_207 nk fr fk fp vl_208)⟩ : LPE ρ ws_178 ty_179 f9 rd krd tp ktp cd bb tl ts σ T nk fr fk fp (i_52 + 1) 1)⟩⟩, (show (i_52 + 1) ≤ 400 from by omega)⟩ hP hD hS (lv_sub hl [0, 1, 2, 4, 5] rfl)
    have iw_155 : wdE f9 tl b_81 = 2 := iw_155
    refine lv_istore (lv' := [(5, .int 1), (4, .int (nI i_52)), (2, .int 1), (3, .int 0), (1, .int 4), (0, .ref rd)]) hx hb dX4_readEither_39 hl (by decide) rfl (fun ls hl => ?_)
    refine lv_iload hx hb dX4_readEither_41 (lv_at hl 0 rfl) ?_
    refine lv_if_ne (tgt := 56) hx hb dX4_readEither_43 (by decide) (fun c_265 => ?_) (fun c_265 => absurd c_265 (by decide))
    refine lv_iload_n hx hb dX4_readEither_56 rfl (lv_at hl 3 rfl) ?_
    refine lv_if_ne (tgt := 65) hx hb dX4_readEither_57 (by decide) (fun c_266 => absurd (by decide) c_266) (fun c_266 => ?_)
    refine lv_iload hx hb dX4_readEither_60 (lv_at hl 0 rfl) ?_
    refine lv_if_ne (tgt := 69) hx hb dX4_readEither_62 (by decide) (fun c_267 => ?_) (fun c_267 => absurd c_267 (by decide))
    refine lv_iconst (v := 0) hx hb dX4_readEither_69 (by decide) ?_
    refine lv_istore_n (lv' := [(3, .int 0), (5, .int 1), (4, .int (nI i_52)), (2, .int 1), (1, .int 4), (0, .ref rd)]) hx hb dX4_readEither_70 rfl hl (by decide) rfl (fun ls hl => ?_)
    have hw9 : b_81 + 3 ≤ nxF f9 tl b_81 ∧ nxF f9 tl b_81 ≤ tl := nx_wd hp_104.1 (j := 2) (by omega) iw_155
    have hm9 : Rch f9 tl (0, ts, σ, T) (0, nxF f9 tl b_81, 2 :: jA ta_82, T_83 ++ eA ta_82) := hr_85.st (st_and iw_155)
    have hdq : dep (2 :: jA ta_82) = dep σ := (dep_n _ (by omega)).trans ((dep_jA _).trans ((dep_jO _).symm.trans (congrArg dep (ow_jO hbs ow_86))))
    refine lv_aload_n hx hb dX4_readEither_71 rfl (lv_at hl 5 rfl) ?_
    refine va_get (D := D) (ci := 4) (v := .ref tp) (C := RX4) (T := TX4) (N := 8) hx hb hts hin4 hown hK hP krd e_148 rfl 0 (by decide) (hts (.fieldLink RX4 12 "HoneyHouse$RuleReader" "tape" "LHoneyHouse$Tape;") (List.mem_of_getElem? (i := 1) rfl)) (fun _ h9 => h9) rfl dX4_readEither_72 ?_
    have hFc := free_all hD hS hA
    refine va_callv (va_runV (As := []) (rest := []) ⟨hx, hb, hml, hown, hts⟩ (a_advance l D (rz [ktp]) ws_143 ty_144 f9 tp ktp tl (teF f9 tl b_81) (nI (kdF f9 tl b_81)) (nI b_81) bb kb_100 cb_101 tb_102 fb_103 H.size htl hb_117 hng (by omega) e_149 e_151 u_153 (rz_o1 (pl_ne e_151 e_149 (by intro h9; simp at h9))) (rz_in (by simp))) (cwV 0 hts gX4_readEither_X6_advance rfl rfl rfl (by decide +kernel) ⟨Nat.le_of_ble_eq_true rfl, Nat.le_of_ble_eq_true rfl⟩) ⟨fun a U g mk q => by obtain ⟨q0, q1, qP, qK, qD⟩ := q; exact ⟨q0, q1, qP, va_K.moved (u := U) (U := U.calling g mk a) (Vm.Alike.refl U.vm) qK, qD⟩, va_recv hK hP (ci := 6) (q0 := ktp) rfl e_149, fun U hU hW => ⟨rfl, by rw [hU], by rw [hU]; exact hP, va_K.moved hW.alike hK, hD.weaken (fun _ _ _ _ => trivial)⟩⟩ rfl rfl hl.1 rfl (lv_room (Nat.le_of_ble_eq_true rfl)) dX4_readEither_75 ⟨Nat.le_of_ble_eq_true rfl, Nat.le_of_ble_eq_true rfl⟩) hS (fun q _ h => hFc q h) hFc (fun u t H1 locs ht hvm w_269 hB hz1 hk1 hS => ?_)
    obtain ⟨ws_270, ty_271, hm_272, ht_274, hP1, hK1, hD1, hx_273⟩ := hB
    rw [ht] at hP1
    have hK := va_K.moved hvm.symm hK1
    have hD := hD1.weaken (fun _ _ _ h => hFc _ h)
    generalize H1 = H at hP1 hS ⊢
    have hP := hP1
    have e_275 := hm_272.keep (rz_o1 (pl_ne e_148 e_149 (by intro h9; simp at h9))) e_148
    have e_276 := hm_272.keep (rz_o1 (pl_ne e_150 e_149 (by intro h9; simp at h9))) e_150
    have e_277 := hm_272.keep (rz_o1 (pl_ne e_151 e_149 (by intro h9; simp at h9))) e_151
    have u_278 := ht_274 _ _ u_152
    have u_279 := ht_274 _ _ u_153
    have hm_280 : sm ρ [6] ws_143 ws_270 := hm_272.up (fun k _ h => rz_u1 wt_109 k h)
    have hsm := hsm.tr (hm_280.mono (by decide))
    have hlp_58 := hlp_58.tr (hm_280.mono (by decide))
    have htx := htx.tr ht_274
    have e_281 : ws_270[ktp]? = some (tp, .inr (6, [.int (nI tl), .int (nI (kdF f9 tl (nxF f9 tl b_81))), .int (nI (nxF f9 tl b_81)), .int (nI (teF f9 tl (nxF f9 tl b_81))), .ref bb])) := hx_273; have hq_282 : pcB f9 tl (nxF f9 tl b_81) := nxF_pc (f := f9) hp_104.1; have hq_2821 := hq_282.1; have hq_282t := teF_le (f := f9) hq_282.1; have hg_283 := nx_gain (f := f9) hp_104.1
    refine lv_aload_n hx hb dX4_readEither_78 rfl (lv_at hl 5 rfl) ?_
    refine lv_iload_n hx hb dX4_readEither_79 rfl (lv_at hl 4 rfl) ?_
    have hFc := free_all hD hS hA
    refine va_calli (va_runV (As := [.int 4]) (rest := []) ⟨hx, hb, hml, hown, hts⟩ (r_readOne4 l D ρ ws_270 ty_271 adK adV fo f9 rd krd tp ktp cd bb tl (nxF f9 tl b_81) (T_83 ++ eA ta_82) nk fr fk fp vl_84 (2 :: jA ta_82) H.size htl hng (⟨kc_96, cc_97, tc_98, fc_99, kb_100, cb_101, tb_102, fb_103, hq_282, hT_105, e_275, e_281, wr_108, wt_109, e_276, u_278, wc_112, hc_113, e_277, u_279, wb_116, hb_117⟩ : RSX ρ ws_270 ty_271 f9 rd krd tp ktp cd bb tl (nxF f9 tl b_81) (T_83 ++ eA ta_82) nk fr fk fp vl_84) (hdq.trans hdp) (by omega)) (cwV 1 hts gX4_readEither_X4_readOne rfl rfl rfl (by decide +kernel) ⟨Nat.le_of_ble_eq_true rfl, Nat.le_of_ble_eq_true rfl⟩) ⟨fun a U g mk q => by obtain ⟨q0, q1, qP, qK, qD, qS⟩ := q; exact ⟨q0, q1, qP, va_K.moved (u := U) (U := U.calling g mk a) (Vm.Alike.refl U.vm) qK, qD, SZ.same rfl rfl qS⟩, va_recv hK hP (ci := 4) (q0 := krd) rfl e_275, fun U hU hW => ⟨rfl, by rw [hU], by rw [hU]; exact hP, va_K.moved hW.alike hK, hD.weaken (fun _ _ _ _ => trivial), hsz9.go hS hW hU hFc⟩⟩ rfl rfl hl.1 rfl (lv_room (Nat.le_of_ble_eq_true rfl)) dX4_readEither_80 ⟨Nat.le_of_ble_eq_true rfl, Nat.le_of_ble_eq_true rfl⟩) hS (fun q _ h => hFc q h) hFc (fun r_284 u t H1 locs ht hvm w_285 hB hz1 hk1 hS => ?_)
    subst w_285
    obtain ⟨ws_286, ty_287, hm_288, ht_290, hP1, hK1, hD1, hx_289⟩ := hB
    rw [ht] at hP1
    have hK := va_K.moved hvm.symm hK1
    have hD := hD1.weaken (fun _ _ _ h => hFc _ h)
    generalize H1 = H at hP1 hS ⊢
    have hP := hP1
    obtain ⟨g_292, e_291, h_293⟩ := hm_288.obj e_275
    obtain ⟨z_294, z_295, z_296, z_297, z_298, z_299, rfl⟩ := smX4 h_293
    obtain ⟨g_301, e_300, h_302⟩ := hm_288.obj e_281
    obtain ⟨z_303, z_304, z_305, z_306, rfl⟩ := smX6 h_302
    obtain ⟨f_308, e_307⟩ := hm_288.arrI e_276
    have u_309 := ht_290 _ _ u_278
    have e_310 := hm_288.keep (by rw [wb_116]; omega) e_277
    have u_311 := ht_290 _ _ u_279
    have hsm := hsm.tr (hm_288.mono (by decide))
    have hlp_58 := hlp_58.tr (hm_288.mono (by decide))
    have htx := htx.tr ht_290
    rcases hx_289 with ⟨rfl, k_312, p_313, ts_314, T_315, vl_316, hk_317, hk_318, hr_319, hR_320⟩ | ⟨rfl, b_321, T_315, vl_316, hr_319, hg_325, hg_326, hR_320⟩
    · obtain ⟨kc_327, cc_328, tc_329, fc_330, kb_331, cb_332, tb_333, fb_334, hp_335, hT_336, er_337, et_338, wr_339, wt_340, ec_341, uc_342, wc_343, hc_344, eb_345, ub_346, wb_347, hb_348⟩ := id hR_320
      have hp_3351 := hp_335.1
      have hp_335t := teF_le (f := f9) hp_335.1
      refine lv_istore_n (lv' := [(2, .int 0), (3, .int 0), (5, .int 1), (4, .int (nI i_52)), (1, .int 4), (0, .ref rd)]) hx hb dX4_readEither_83 rfl hl (by decide) rfl (fun ls hl => ?_)
      refine lv_iload hx hb dX4_readEither_84 (lv_at hl 2 rfl) ?_
      refine lv_if_eq (tgt := 95) hx hb dX4_readEither_86 (by decide) (fun c_349 => absurd c_349 (by decide)) (fun c_349 => ?_)
      refine lv_aload_n hx hb dX4_readEither_89 rfl (lv_at hl 5 rfl) ?_
      refine lv_bipush (v := (-2)) hx hb dX4_readEither_90 (by decide) ?_
      have hFc := free_all hD hS hA
      refine va_callv (va_runV (As := [.int (-2)]) (rest := []) ⟨hx, hb, hml, hown, hts⟩ (r_addCode l D ρ ws_286 ty_287 adK adV fo f9 rd krd tp ktp cd bb tl ts_314 T_315 nk fr (nI k_312) (nI p_313) vl_316 (2, 0, 0, 0) (-2) H.size htl hng (⟨kc_327, cc_328, tc_329, fc_330, kb_331, cb_332, tb_333, fb_334, hp_335, hT_336, er_337, et_338, wr_339, wt_340, ec_341, uc_342, wc_343, hc_344, eb_345, ub_346, wb_347, hb_348⟩ : RSX ρ ws_286 ty_287 f9 rd krd tp ktp cd bb tl ts_314 T_315 nk fr (nI k_312) (nI p_313) vl_316) rfl) (cwV 1 hts gX4_readEither_X4_addCode rfl rfl rfl (by decide +kernel) ⟨Nat.le_of_ble_eq_true rfl, Nat.le_of_ble_eq_true rfl⟩) ⟨fun a U g mk q => by obtain ⟨q0, q1, qP, qK, qD, qS⟩ := q; exact ⟨q0, q1, qP, va_K.moved (u := U) (U := U.calling g mk a) (Vm.Alike.refl U.vm) qK, qD, SZ.same rfl rfl qS⟩, va_recv hK hP (ci := 4) (q0 := krd) rfl er_337, fun U hU hW => ⟨rfl, by rw [hU], by rw [hU]; exact hP, va_K.moved hW.alike hK, hD.weaken (fun _ _ _ _ => trivial), hsz9.go hS hW hU hFc⟩⟩ rfl rfl hl.1 rfl (lv_room (Nat.le_of_ble_eq_true rfl)) dX4_readEither_92 ⟨Nat.le_of_ble_eq_true rfl, Nat.le_of_ble_eq_true rfl⟩) hS (fun q _ h => hFc q h) hFc (fun u t H1 locs ht hvm w_351 hB hz1 hk1 hS => ?_)
      obtain ⟨ws_352, ty_353, hm_354, ht_356, hP1, hK1, hD1, hx_355⟩ := hB
      rw [ht] at hP1
      have hK := va_K.moved hvm.symm hK1
      have hD := hD1.weaken (fun _ _ _ h => hFc _ h)
      generalize H1 = H at hP1 hS ⊢
      have hP := hP1
      obtain ⟨g_358, e_357, h_359⟩ := hm_354.obj er_337
      obtain ⟨z_360, z_361, z_362, z_363, z_364, z_365, rfl⟩ := smX4 h_359
      obtain ⟨g_367, e_366, h_368⟩ := hm_354.obj et_338
      obtain ⟨z_369, z_370, z_371, z_372, rfl⟩ := smX6 h_368
      obtain ⟨f_374, e_373⟩ := hm_354.arrI ec_341
      have u_375 := ht_356 _ _ uc_342
      have e_376 := hm_354.keep (by rw [wb_347]; omega) eb_345
      have u_377 := ht_356 _ _ ub_346
      have hsm := hsm.tr (hm_354.mono (by decide))
      have hlp_58 := hlp_58.tr (hm_354.mono (by decide))
      have htx := htx.tr ht_356
      rcases hx_355 with ⟨hl_378, hR_379⟩ | ⟨hl_378, hR_379⟩
      · obtain ⟨kc_380, cc_381, tc_382, fc_383, kb_384, cb_385, tb_386, fb_387, hp_388, hT_389, er_390, et_391, wr_392, wt_393, ec_394, uc_395, wc_396, hc_397, eb_398, ub_399, wb_400, hb_401⟩ := id hR_379
        have hp_3881 := hp_388.1
        have hp_388t := teF_le (f := f9) hp_388.1
        refine lv_iinc (v := nI (i_52 + 1)) (lv' := [(4, .int (nI (i_52 + 1))), (2, .int 0), (3, .int 0), (5, .int 1), (1, .int 4), (0, .ref rd)]) hx hb dX4_readEither_95 hl (k := 3) rfl (nI_add i_52 1) (by decide) rfl (fun ls hl => ?_)
        refine lv_goto (tgt := 11) hx hb dX4_readEither_98 (by decide) ?_
        exact ih_51 (i_52 + 1, 0, 0) ws_352 _ _ ls (by show 400 - (i_52 + 1) < 400 - i_52; omega) ⟨hlp_58, ⟨ty_353, hK, htx, Or.inr ⟨rfl, Or.inl rfl, (⟨k_312, p_313, _, _, _, by omega, by omega, hm9.tr hr_319, (⟨kc_380, cc_381, tc_382, fc_383, kb_384, cb_385, tb_386, fb_387, hp_388, hT_389, er_390, et_391, wr_392, wt_393, ec_394, uc_395, wc_396, hc_397, eb_398, ub_399, wb_400, hb_401⟩ : RSX ρ ws_352 ty_353 f9 rd krd tp ktp cd bb tl ts_314 (T_315 ++ [(2, 0, 0, 0)]) nk fr (nI k_312) (nI p_313) vl_316)⟩ : FLT ρ ws_352 ty_353 f9 rd krd tp ktp cd bb tl (0, ts, σ, T) nk fr)⟩⟩, (show (i_52 + 1) ≤ 400 from by omega)⟩ hP hD hS (lv_sub hl [0, 1, 2, 4, 5] rfl)
      obtain ⟨kc_402, cc_403, tc_404, fc_405, kb_406, cb_407, tb_408, fb_409, hp_410, hT_411, er_412, et_413, wr_414, wt_415, ec_416, uc_417, wc_418, hc_419, eb_420, ub_421, wb_422, hb_423⟩ := id hR_379
      have hp_4101 := hp_410.1
      have hp_410t := teF_le (f := f9) hp_410.1
      refine lv_iinc (v := nI (i_52 + 1)) (lv' := [(4, .int (nI (i_52 + 1))), (2, .int 0), (3, .int 0), (5, .int 1), (1, .int 4), (0, .ref rd)]) hx hb dX4_readEither_95 hl (k := 3) rfl (nI_add i_52 1) (by decide) rfl (fun ls hl => ?_)
      refine lv_goto (tgt := 11) hx hb dX4_readEither_98 (by decide) ?_
      exact ih_51 (i_52 + 1, 0, 0) ws_352 _ _ ls (by show 400 - (i_52 + 1) < 400 - i_52; omega) ⟨hlp_58, ⟨ty_353, hK, htx, Or.inr ⟨rfl, Or.inl rfl, (⟨k_312, p_313, _, _, _, by omega, by omega, hm9.tr hr_319, (⟨kc_402, cc_403, tc_404, fc_405, kb_406, cb_407, tb_408, fb_409, hp_410, hT_411, er_412, et_413, wr_414, wt_415, ec_416, uc_417, wc_418, hc_419, eb_420, ub_421, wb_422, hb_423⟩ : RSX ρ ws_352 ty_353 f9 rd krd tp ktp cd bb tl ts_314 T_315 nk fr (nI k_312) (nI p_313) vl_316)⟩ : FLT ρ ws_352 ty_353 f9 rd krd tp ktp cd bb tl (0, ts, σ, T) nk fr)⟩⟩, (show (i_52 + 1) ≤ 400 from by omega)⟩ hP hD hS (lv_sub hl [0, 1, 2, 4, 5] rfl)
    obtain ⟨kc_424, cc_425, tc_426, fc_427, kb_428, cb_429, tb_430, fb_431, hp_432, hT_433, er_434, et_435, wr_436, wt_437, ec_438, uc_439, wc_440, hc_441, eb_442, ub_443, wb_444, hb_445⟩ := id hR_320
    have hp_4321 := hp_432.1
    have hp_432t := teF_le (f := f9) hp_432.1
    refine lv_istore_n (lv' := [(2, .int 1), (3, .int 0), (5, .int 1), (4, .int (nI i_52)), (1, .int 4), (0, .ref rd)]) hx hb dX4_readEither_83 rfl hl (by decide) rfl (fun ls hl => ?_)
    refine lv_iload hx hb dX4_readEither_84 (lv_at hl 2 rfl) ?_
    refine lv_if_eq (tgt := 95) hx hb dX4_readEither_86 (by decide) (fun c_446 => absurd c_446 (by decide)) (fun c_446 => ?_)
    refine lv_aload_n hx hb dX4_readEither_89 rfl (lv_at hl 5 rfl) ?_
    refine lv_bipush (v := (-2)) hx hb dX4_readEither_90 (by decide) ?_
    have hFc := free_all hD hS hA
    refine va_callv (va_runV (As := [.int (-2)]) (rest := []) ⟨hx, hb, hml, hown, hts⟩ (r_addCode l D ρ ws_286 ty_287 adK adV fo f9 rd krd tp ktp cd bb tl b_321 T_315 nk fr fk fp vl_316 (2, 0, 0, 0) (-2) H.size htl hng (⟨kc_424, cc_425, tc_426, fc_427, kb_428, cb_429, tb_430, fb_431, hp_432, hT_433, er_434, et_435, wr_436, wt_437, ec_438, uc_439, wc_440, hc_441, eb_442, ub_443, wb_444, hb_445⟩ : RSX ρ ws_286 ty_287 f9 rd krd tp ktp cd bb tl b_321 T_315 nk fr fk fp vl_316) rfl) (cwV 1 hts gX4_readEither_X4_addCode rfl rfl rfl (by decide +kernel) ⟨Nat.le_of_ble_eq_true rfl, Nat.le_of_ble_eq_true rfl⟩) ⟨fun a U g mk q => by obtain ⟨q0, q1, qP, qK, qD, qS⟩ := q; exact ⟨q0, q1, qP, va_K.moved (u := U) (U := U.calling g mk a) (Vm.Alike.refl U.vm) qK, qD, SZ.same rfl rfl qS⟩, va_recv hK hP (ci := 4) (q0 := krd) rfl er_434, fun U hU hW => ⟨rfl, by rw [hU], by rw [hU]; exact hP, va_K.moved hW.alike hK, hD.weaken (fun _ _ _ _ => trivial), hsz9.go hS hW hU hFc⟩⟩ rfl rfl hl.1 rfl (lv_room (Nat.le_of_ble_eq_true rfl)) dX4_readEither_92 ⟨Nat.le_of_ble_eq_true rfl, Nat.le_of_ble_eq_true rfl⟩) hS (fun q _ h => hFc q h) hFc (fun u t H1 locs ht hvm w_448 hB hz1 hk1 hS => ?_)
    obtain ⟨ws_449, ty_450, hm_451, ht_453, hP1, hK1, hD1, hx_452⟩ := hB
    rw [ht] at hP1
    have hK := va_K.moved hvm.symm hK1
    have hD := hD1.weaken (fun _ _ _ h => hFc _ h)
    generalize H1 = H at hP1 hS ⊢
    have hP := hP1
    obtain ⟨g_455, e_454, h_456⟩ := hm_451.obj er_434
    obtain ⟨z_457, z_458, z_459, z_460, z_461, z_462, rfl⟩ := smX4 h_456
    obtain ⟨g_464, e_463, h_465⟩ := hm_451.obj et_435
    obtain ⟨z_466, z_467, z_468, z_469, rfl⟩ := smX6 h_465
    obtain ⟨f_471, e_470⟩ := hm_451.arrI ec_438
    have u_472 := ht_453 _ _ uc_439
    have e_473 := hm_451.keep (by rw [wb_444]; omega) eb_442
    have u_474 := ht_453 _ _ ub_443
    have hsm := hsm.tr (hm_451.mono (by decide))
    have hlp_58 := hlp_58.tr (hm_451.mono (by decide))
    have htx := htx.tr ht_453
    obtain ⟨hl_475, hR_476⟩ := hx_452.resolve_right (fun h9 => h9.1 (by omega))
    obtain ⟨kc_477, cc_478, tc_479, fc_480, kb_481, cb_482, tb_483, fb_484, hp_485, hT_486, er_487, et_488, wr_489, wt_490, ec_491, uc_492, wc_493, hc_494, eb_495, ub_496, wb_497, hb_498⟩ := id hR_476
    have hp_4851 := hp_485.1
    have hp_485t := teF_le (f := f9) hp_485.1
    refine lv_iinc (v := nI (i_52 + 1)) (lv' := [(4, .int (nI (i_52 + 1))), (2, .int 1), (3, .int 0), (5, .int 1), (1, .int 4), (0, .ref rd)]) hx hb dX4_readEither_95 hl (k := 3) rfl (nI_add i_52 1) (by decide) rfl (fun ls hl => ?_)
    refine lv_goto (tgt := 11) hx hb dX4_readEither_98 (by decide) ?_
    exact ih_51 (i_52 + 1, 1, 0) ws_449 _ _ ls (by show 400 - (i_52 + 1) < 400 - i_52; omega) ⟨hlp_58, ⟨ty_450, hK, htx, Or.inl ⟨rfl, Or.inl rfl, (⟨b_321, 2 :: jA ta_82, T_315, _, hm9.tr (rch_an (by omega) hr_319), ow_and hbs ow_86, by omega, fun h9 => absurd h9 (by decide), fun _ => by rw [eA_2jA, len_a1]; omega, by rw [eA_2jA]; exact (⟨kc_477, cc_478, tc_479, fc_480, kb_481, cb_482, tb_483, fb_484, hp_485, hT_486, er_487, et_488, wr_489, wt_490, ec_491, uc_492, wc_493, hc_494, eb_495, ub_496, wb_497, hb_498⟩ : RSX ρ ws_449 ty_450 f9 rd krd tp ktp cd bb tl b_321 (T_315 ++ [(2, 0, 0, 0)]) nk fr fk fp vl_316)⟩ : LPE ρ ws_449 ty_450 f9 rd krd tp ktp cd bb tl ts σ T nk fr fk fp (i_52 + 1) 0)⟩⟩, (show (i_52 + 1) ≤ 400 from by omega)⟩ hP hD hS (lv_sub hl [0, 1, 2, 4, 5] rfl)
  · have ga_88 := ga_88 rfl
    obtain ⟨kc_499, cc_500, tc_501, fc_502, kb_503, cb_504, tb_505, fb_506, hp_507, hT_508, er_509, et_510, wr_511, wt_512, ec_513, uc_514, wc_515, hc_516, eb_517, ub_518, wb_519, hb_520⟩ := id hR_90
    have hp_5071 := hp_507.1
    have hp_507t := teF_le (f := f9) hp_507.1
    refine lv_sipush (v := 400) hx hb dX4_readEither_13 (by decide) ?_
    refine lv_icmp_ge (tgt := 101) hx hb dX4_readEither_16 (by decide) (fun c_521 => ?_) (fun c_521 => ?_)
    · have d_522 := n_le (a := 400) (b := i_52) (by omega) (by omega) c_521
      refine lv_iload_n hx hb dX4_readEither_101 rfl (lv_at hl 2 rfl) ?_
      refine lv_if_eq (tgt := 111) hx hb dX4_readEither_102 (by decide) (fun c_523 => absurd c_523 (by decide)) (fun c_523 => ?_)
      refine lv_aload_n hx hb dX4_readEither_105 rfl (lv_at hl 4 rfl) ?_
      refine lv_bipush (v := (-3)) hx hb dX4_readEither_106 (by decide) ?_
      have hFc := free_all hD hS hA
      refine va_callv (va_runV (As := [.int (-3)]) (rest := []) ⟨hx, hb, hml, hown, hts⟩ (r_addCode l D ρ ws_56 ty_79 adK adV fo f9 rd krd tp ktp cd bb tl b_81 (T_83 ++ eA ta_82) nk fr fk fp vl_84 (1, 0, 0, 0) (-3) H.size htl hng (⟨kc_499, cc_500, tc_501, fc_502, kb_503, cb_504, tb_505, fb_506, hp_507, hT_508, er_509, et_510, wr_511, wt_512, ec_513, uc_514, wc_515, hc_516, eb_517, ub_518, wb_519, hb_520⟩ : RSX ρ ws_56 ty_79 f9 rd krd tp ktp cd bb tl b_81 (T_83 ++ eA ta_82) nk fr fk fp vl_84) rfl) (cwV 1 hts gX4_readEither_X4_addCode rfl rfl rfl (by decide +kernel) ⟨Nat.le_of_ble_eq_true rfl, Nat.le_of_ble_eq_true rfl⟩) ⟨fun a U g mk q => by obtain ⟨q0, q1, qP, qK, qD, qS⟩ := q; exact ⟨q0, q1, qP, va_K.moved (u := U) (U := U.calling g mk a) (Vm.Alike.refl U.vm) qK, qD, SZ.same rfl rfl qS⟩, va_recv hK hP (ci := 4) (q0 := krd) rfl er_509, fun U hU hW => ⟨rfl, by rw [hU], by rw [hU]; exact hP, va_K.moved hW.alike hK, hD.weaken (fun _ _ _ _ => trivial), hsz9.go hS hW hU hFc⟩⟩ rfl rfl hl.1 rfl (lv_room (Nat.le_of_ble_eq_true rfl)) dX4_readEither_108 ⟨Nat.le_of_ble_eq_true rfl, Nat.le_of_ble_eq_true rfl⟩) hS (fun q _ h => hFc q h) hFc (fun u t H1 locs ht hvm w_525 hB hz1 hk1 hS => ?_)
      obtain ⟨ws_526, ty_527, hm_528, ht_530, hP1, hK1, hD1, hx_529⟩ := hB
      rw [ht] at hP1
      have hK := va_K.moved hvm.symm hK1
      have hD := hD1.weaken (fun _ _ _ h => hFc _ h)
      generalize H1 = H at hP1 hS ⊢
      have hP := hP1
      obtain ⟨g_532, e_531, h_533⟩ := hm_528.obj er_509
      obtain ⟨z_534, z_535, z_536, z_537, z_538, z_539, rfl⟩ := smX4 h_533
      obtain ⟨g_541, e_540, h_542⟩ := hm_528.obj et_510
      obtain ⟨z_543, z_544, z_545, z_546, rfl⟩ := smX6 h_542
      obtain ⟨f_548, e_547⟩ := hm_528.arrI ec_513
      have u_549 := ht_530 _ _ uc_514
      have e_550 := hm_528.keep (by rw [wb_519]; omega) eb_517
      have u_551 := ht_530 _ _ ub_518
      have hsm := hsm.tr (hm_528.mono (by decide))
      have hlp_58 := hlp_58.tr (hm_528.mono (by decide))
      have htx := htx.tr ht_530
      rcases hx_529 with ⟨hl_552, hR_553⟩ | ⟨hl_552, hR_553⟩
      · obtain ⟨kc_554, cc_555, tc_556, fc_557, kb_558, cb_559, tb_560, fb_561, hp_562, hT_563, er_564, et_565, wr_566, wt_567, ec_568, uc_569, wc_570, hc_571, eb_572, ub_573, wb_574, hb_575⟩ := id hR_553
        have hp_5621 := hp_562.1
        have hp_562t := teF_le (f := f9) hp_562.1
        refine lv_iload_n hx hb dX4_readEither_111 rfl (lv_at hl 1 rfl) ?_
        exact W.zret (v := 1) hx hb hr rfl (fun t ht hW => ⟨⟨1, 1, rfl, rfl, ws_526, ty_527, hsm, htx, by rw [ht]; exact hP, va_K.moved hW.alike hK, hD, (by exfalso; omega)⟩, hS.F ht⟩) hS.2.2 dX4_readEither_112
      obtain ⟨kc_576, cc_577, tc_578, fc_579, kb_580, cb_581, tb_582, fb_583, hp_584, hT_585, er_586, et_587, wr_588, wt_589, ec_590, uc_591, wc_592, hc_593, eb_594, ub_595, wb_596, hb_597⟩ := id hR_553
      have hp_5841 := hp_584.1
      have hp_584t := teF_le (f := f9) hp_584.1
      refine lv_iload_n hx hb dX4_readEither_111 rfl (lv_at hl 1 rfl) ?_
      exact W.zret (v := 1) hx hb hr rfl (fun t ht hW => ⟨⟨1, 1, rfl, rfl, ws_526, ty_527, hsm, htx, by rw [ht]; exact hP, va_K.moved hW.alike hK, hD, (by exfalso; omega)⟩, hS.F ht⟩) hS.2.2 dX4_readEither_112
    have d_598 := n_nle (a := 400) (b := i_52) (by omega) (by omega) c_521
    refine lv_iload_n hx hb dX4_readEither_19 rfl (lv_at hl 1 rfl) ?_
    refine lv_if_eq (tgt := 101) hx hb dX4_readEither_20 (by decide) (fun c_599 => absurd c_599 (by decide)) (fun c_599 => ?_)
    refine lv_aload_n hx hb dX4_readEither_23 rfl (lv_at hl 4 rfl) ?_
    have hFc := free_all hD hS hA
    refine va_calli (va_runV (As := []) (rest := []) ⟨hx, hb, hml, hown, hts⟩ (r_isAndOr l D (rz []) ws_56 ty_79 adK adV fo f9 rd krd tp ktp cd tl b_81 nk fr fk fp (nI (T_83 ++ eA ta_82).length) vl_84 bb kb_503 cb_504 tb_505 fb_506 H.size er_509 htl hb_520 hng hp_507 et_510 eb_517 ub_518 rz_o0) (cwV 0 hts gX4_readEither_X4_isAndOr rfl rfl rfl (by decide +kernel) ⟨Nat.le_of_ble_eq_true rfl, Nat.le_of_ble_eq_true rfl⟩) ⟨fun a U g mk q => by obtain ⟨q0, q1, qP, qK, qD, qS⟩ := q; exact ⟨q0, q1, qP, va_K.moved (u := U) (U := U.calling g mk a) (Vm.Alike.refl U.vm) qK, qD, SZ.same rfl rfl qS⟩, va_recv hK hP (ci := 4) (q0 := krd) rfl er_509, fun U hU hW => ⟨rfl, by rw [hU], by rw [hU]; exact hP, va_K.moved hW.alike hK, hD.weaken (fun _ _ _ _ => trivial), hsz9.go hS hW hU hFc⟩⟩ rfl rfl hl.1 rfl (lv_room (Nat.le_of_ble_eq_true rfl)) dX4_readEither_24 ⟨Nat.le_of_ble_eq_true rfl, Nat.le_of_ble_eq_true rfl⟩) hS (fun q _ h => hFc q h) hFc (fun r_600 u t H1 locs ht hvm w_601 hB hz1 hk1 hS => ?_)
    obtain ⟨ws_602, ty_603, hm_604, ht_606, hP1, hK1, hD1, hx_605⟩ := hB
    rw [ht] at hP1
    have hK := va_K.moved hvm.symm hK1
    have hD := hD1.weaken (fun _ _ _ h => hFc _ h)
    generalize H1 = H at hP1 hS ⊢
    have hP := hP1
    have e_607 := hm_604.keep rz_o0 er_509
    have e_608 := hm_604.keep rz_o0 et_510
    have e_609 := hm_604.keep rz_o0 ec_513
    have e_610 := hm_604.keep rz_o0 eb_517
    have u_611 := ht_606 _ _ uc_514
    have u_612 := ht_606 _ _ ub_518
    have hm_613 : sm ρ [] ws_56 ws_602 := hm_604.up (fun k _ h => rz_u0  k h)
    have hsm := hsm.tr (hm_613.mono (by decide))
    have hlp_58 := hlp_58.tr (hm_613.mono (by decide))
    have htx := htx.tr ht_606
    rcases w_601 with ⟨rfl, ao_614⟩ | ⟨rfl, ao_614⟩
    · refine lv_if_eq (tgt := 101) hx hb dX4_readEither_27 (by decide) (fun c_615 => ?_) (fun c_615 => absurd (by decide) c_615)
      refine lv_iload_n hx hb dX4_readEither_101 rfl (lv_at hl 2 rfl) ?_
      refine lv_if_eq (tgt := 111) hx hb dX4_readEither_102 (by decide) (fun c_616 => absurd c_616 (by decide)) (fun c_616 => ?_)
      refine lv_aload_n hx hb dX4_readEither_105 rfl (lv_at hl 4 rfl) ?_
      refine lv_bipush (v := (-3)) hx hb dX4_readEither_106 (by decide) ?_
      have hFc := free_all hD hS hA
      refine va_callv (va_runV (As := [.int (-3)]) (rest := []) ⟨hx, hb, hml, hown, hts⟩ (r_addCode l D ρ ws_602 ty_603 adK adV fo f9 rd krd tp ktp cd bb tl b_81 (T_83 ++ eA ta_82) nk fr fk fp vl_84 (1, 0, 0, 0) (-3) H.size htl hng (⟨kc_499, cc_500, tc_501, fc_502, kb_503, cb_504, tb_505, fb_506, hp_507, hT_508, e_607, e_608, wr_511, wt_512, e_609, u_611, wc_515, hc_516, e_610, u_612, wb_519, hb_520⟩ : RSX ρ ws_602 ty_603 f9 rd krd tp ktp cd bb tl b_81 (T_83 ++ eA ta_82) nk fr fk fp vl_84) rfl) (cwV 1 hts gX4_readEither_X4_addCode rfl rfl rfl (by decide +kernel) ⟨Nat.le_of_ble_eq_true rfl, Nat.le_of_ble_eq_true rfl⟩) ⟨fun a U g mk q => by obtain ⟨q0, q1, qP, qK, qD, qS⟩ := q; exact ⟨q0, q1, qP, va_K.moved (u := U) (U := U.calling g mk a) (Vm.Alike.refl U.vm) qK, qD, SZ.same rfl rfl qS⟩, va_recv hK hP (ci := 4) (q0 := krd) rfl e_607, fun U hU hW => ⟨rfl, by rw [hU], by rw [hU]; exact hP, va_K.moved hW.alike hK, hD.weaken (fun _ _ _ _ => trivial), hsz9.go hS hW hU hFc⟩⟩ rfl rfl hl.1 rfl (lv_room (Nat.le_of_ble_eq_true rfl)) dX4_readEither_108 ⟨Nat.le_of_ble_eq_true rfl, Nat.le_of_ble_eq_true rfl⟩) hS (fun q _ h => hFc q h) hFc (fun u t H1 locs ht hvm w_618 hB hz1 hk1 hS => ?_)
      obtain ⟨ws_619, ty_620, hm_621, ht_623, hP1, hK1, hD1, hx_622⟩ := hB
      rw [ht] at hP1
      have hK := va_K.moved hvm.symm hK1
      have hD := hD1.weaken (fun _ _ _ h => hFc _ h)
      generalize H1 = H at hP1 hS ⊢
      have hP := hP1
      obtain ⟨g_625, e_624, h_626⟩ := hm_621.obj e_607
      obtain ⟨z_627, z_628, z_629, z_630, z_631, z_632, rfl⟩ := smX4 h_626
      obtain ⟨g_634, e_633, h_635⟩ := hm_621.obj e_608
      obtain ⟨z_636, z_637, z_638, z_639, rfl⟩ := smX6 h_635
      obtain ⟨f_641, e_640⟩ := hm_621.arrI e_609
      have u_642 := ht_623 _ _ u_611
      have e_643 := hm_621.keep (by rw [wb_519]; omega) e_610
      have u_644 := ht_623 _ _ u_612
      have hsm := hsm.tr (hm_621.mono (by decide))
      have hlp_58 := hlp_58.tr (hm_621.mono (by decide))
      have htx := htx.tr ht_623
      obtain ⟨hl_645, hR_646⟩ := hx_622.resolve_right (fun h9 => h9.1 (by omega))
      obtain ⟨kc_647, cc_648, tc_649, fc_650, kb_651, cb_652, tb_653, fb_654, hp_655, hT_656, er_657, et_658, wr_659, wt_660, ec_661, uc_662, wc_663, hc_664, eb_665, ub_666, wb_667, hb_668⟩ := id hR_646
      have hp_6551 := hp_655.1
      have hp_655t := teF_le (f := f9) hp_655.1
      refine lv_iload_n hx hb dX4_readEither_111 rfl (lv_at hl 1 rfl) ?_
      exact W.zret (v := 1) hx hb hr rfl (fun t ht hW => ⟨⟨1, 1, rfl, rfl, ws_619, ty_620, hsm, htx, by rw [ht]; exact hP, va_K.moved hW.alike hK, hD, Or.inr ⟨rfl, b_81, ta_82, T_83, _, hr_85, ow_jO hbs ow_86, ao_614, by omega, by rw [(ow_eO hbs ow_86).2 rfl, ← List.append_assoc, len_a1]; omega, by rw [(ow_eO hbs ow_86).2 rfl, ← List.append_assoc]; exact (⟨kc_647, cc_648, tc_649, fc_650, kb_651, cb_652, tb_653, fb_654, hp_655, hT_656, er_657, et_658, wr_659, wt_660, ec_661, uc_662, wc_663, hc_664, eb_665, ub_666, wb_667, hb_668⟩ : RSX ρ ws_619 ty_620 f9 rd krd tp ktp cd bb tl b_81 ((T_83 ++ eA ta_82) ++ [(1, 0, 0, 0)]) nk fr fk fp vl_84)⟩⟩, hS.F ht⟩) hS.2.2 dX4_readEither_112
    refine lv_if_eq (tgt := 101) hx hb dX4_readEither_27 (by decide) (fun c_669 => absurd c_669 (by decide)) (fun c_669 => ?_)
    refine lv_aload_n hx hb dX4_readEither_30 rfl (lv_at hl 4 rfl) ?_
    refine va_get (D := D) (ci := 4) (v := .ref tp) (C := RX4) (T := TX4) (N := 8) hx hb hts hin4 hown hK hP krd e_607 rfl 0 (by decide) (hts (.fieldLink RX4 12 "HoneyHouse$RuleReader" "tape" "LHoneyHouse$Tape;") (List.mem_of_getElem? (i := 1) rfl)) (fun _ h9 => h9) rfl dX4_readEither_31 ?_
    refine va_ldcS hx hb hown hsz9.2.2.2.2.2.1 dX4_readEither_34 ?_
    have hFc := free_all hD hS hA
    refine va_calli (va_runV (As := [.ref (adK 2)]) (rest := []) ⟨hx, hb, hml, hown, hts⟩ (a_isWord l D (rz []) ws_602 ty_603 adK adV fo 2 f9 tp ktp tl b_81 bb kb_503 cb_504 tb_505 fb_506 H.size (by decide) htl hb_520 hng hp_507 e_608 e_610 u_612 rz_o0) (cwV 1 hts gX4_readEither_X6_isWord rfl rfl rfl (by decide +kernel) ⟨Nat.le_of_ble_eq_true rfl, Nat.le_of_ble_eq_true rfl⟩) ⟨fun a U g mk q => by obtain ⟨q0, q1, qP, qK, qD, qS⟩ := q; exact ⟨q0, q1, qP, va_K.moved (u := U) (U := U.calling g mk a) (Vm.Alike.refl U.vm) qK, qD, SZ.same rfl rfl qS⟩, va_recv hK hP (ci := 6) (q0 := ktp) rfl e_608, fun U hU hW => ⟨rfl, by rw [hU], by rw [hU]; exact hP, va_K.moved hW.alike hK, hD.weaken (fun _ _ _ _ => trivial), hsz9.go hS hW hU hFc⟩⟩ rfl rfl hl.1 rfl (lv_room (Nat.le_of_ble_eq_true rfl)) dX4_readEither_36 ⟨Nat.le_of_ble_eq_true rfl, Nat.le_of_ble_eq_true rfl⟩) hS (fun q _ h => hFc q h) hFc (fun r_670 u t H1 locs ht hvm w_671 hB hz1 hk1 hS => ?_)
    obtain ⟨ws_672, ty_673, hm_674, ht_676, hP1, hK1, hD1, hx_675⟩ := hB
    rw [ht] at hP1
    have hK := va_K.moved hvm.symm hK1
    have hD := hD1.weaken (fun _ _ _ h => hFc _ h)
    generalize H1 = H at hP1 hS ⊢
    have hP := hP1
    have e_677 := hm_674.keep rz_o0 e_607
    have e_678 := hm_674.keep rz_o0 e_608
    have e_679 := hm_674.keep rz_o0 e_609
    have e_680 := hm_674.keep rz_o0 e_610
    have u_681 := ht_676 _ _ u_611
    have u_682 := ht_676 _ _ u_612
    have hm_683 : sm ρ [] ws_602 ws_672 := hm_674.up (fun k _ h => rz_u0  k h)
    have hsm := hsm.tr (hm_683.mono (by decide))
    have hlp_58 := hlp_58.tr (hm_683.mono (by decide))
    have htx := htx.tr ht_676
    rcases w_671 with ⟨rfl, iw_684⟩ | ⟨rfl, iw_684⟩
    · have iw_684 : ¬ wdE f9 tl b_81 = 2 := iw_684
      refine lv_istore (lv' := [(5, .int 0), (4, .int (nI i_52)), (2, .int 1), (3, .int 1), (1, .int 4), (0, .ref rd)]) hx hb dX4_readEither_39 hl (by decide) rfl (fun ls hl => ?_)
      refine lv_iload hx hb dX4_readEither_41 (lv_at hl 0 rfl) ?_
      refine lv_if_ne (tgt := 56) hx hb dX4_readEither_43 (by decide) (fun c_685 => absurd (by decide) c_685) (fun c_685 => ?_)
      refine lv_iload_n hx hb dX4_readEither_46 rfl (lv_at hl 3 rfl) ?_
      refine lv_if_eq (tgt := 56) hx hb dX4_readEither_47 (by decide) (fun c_686 => absurd c_686 (by decide)) (fun c_686 => ?_)
      refine lv_aload_n hx hb dX4_readEither_50 rfl (lv_at hl 5 rfl) ?_
      refine lv_bipush (v := (-3)) hx hb dX4_readEither_51 (by decide) ?_
      have hFc := free_all hD hS hA
      refine va_callv (va_runV (As := [.int (-3)]) (rest := []) ⟨hx, hb, hml, hown, hts⟩ (r_addCode l D ρ ws_672 ty_673 adK adV fo f9 rd krd tp ktp cd bb tl b_81 (T_83 ++ eA ta_82) nk fr fk fp vl_84 (1, 0, 0, 0) (-3) H.size htl hng (⟨kc_499, cc_500, tc_501, fc_502, kb_503, cb_504, tb_505, fb_506, hp_507, hT_508, e_677, e_678, wr_511, wt_512, e_679, u_681, wc_515, hc_516, e_680, u_682, wb_519, hb_520⟩ : RSX ρ ws_672 ty_673 f9 rd krd tp ktp cd bb tl b_81 (T_83 ++ eA ta_82) nk fr fk fp vl_84) rfl) (cwV 1 hts gX4_readEither_X4_addCode rfl rfl rfl (by decide +kernel) ⟨Nat.le_of_ble_eq_true rfl, Nat.le_of_ble_eq_true rfl⟩) ⟨fun a U g mk q => by obtain ⟨q0, q1, qP, qK, qD, qS⟩ := q; exact ⟨q0, q1, qP, va_K.moved (u := U) (U := U.calling g mk a) (Vm.Alike.refl U.vm) qK, qD, SZ.same rfl rfl qS⟩, va_recv hK hP (ci := 4) (q0 := krd) rfl e_677, fun U hU hW => ⟨rfl, by rw [hU], by rw [hU]; exact hP, va_K.moved hW.alike hK, hD.weaken (fun _ _ _ _ => trivial), hsz9.go hS hW hU hFc⟩⟩ rfl rfl hl.1 rfl (lv_room (Nat.le_of_ble_eq_true rfl)) dX4_readEither_53 ⟨Nat.le_of_ble_eq_true rfl, Nat.le_of_ble_eq_true rfl⟩) hS (fun q _ h => hFc q h) hFc (fun u t H1 locs ht hvm w_688 hB hz1 hk1 hS => ?_)
      obtain ⟨ws_689, ty_690, hm_691, ht_693, hP1, hK1, hD1, hx_692⟩ := hB
      rw [ht] at hP1
      have hK := va_K.moved hvm.symm hK1
      have hD := hD1.weaken (fun _ _ _ h => hFc _ h)
      generalize H1 = H at hP1 hS ⊢
      have hP := hP1
      obtain ⟨g_695, e_694, h_696⟩ := hm_691.obj e_677
      obtain ⟨z_697, z_698, z_699, z_700, z_701, z_702, rfl⟩ := smX4 h_696
      obtain ⟨g_704, e_703, h_705⟩ := hm_691.obj e_678
      obtain ⟨z_706, z_707, z_708, z_709, rfl⟩ := smX6 h_705
      obtain ⟨f_711, e_710⟩ := hm_691.arrI e_679
      have u_712 := ht_693 _ _ u_681
      have e_713 := hm_691.keep (by rw [wb_519]; omega) e_680
      have u_714 := ht_693 _ _ u_682
      have hsm := hsm.tr (hm_691.mono (by decide))
      have hlp_58 := hlp_58.tr (hm_691.mono (by decide))
      have htx := htx.tr ht_693
      obtain ⟨hl_715, hR_716⟩ := hx_692.resolve_right (fun h9 => h9.1 (by omega))
      obtain ⟨kc_717, cc_718, tc_719, fc_720, kb_721, cb_722, tb_723, fb_724, hp_725, hT_726, er_727, et_728, wr_729, wt_730, ec_731, uc_732, wc_733, hc_734, eb_735, ub_736, wb_737, hb_738⟩ := id hR_716
      have hp_7251 := hp_725.1
      have hp_725t := teF_le (f := f9) hp_725.1
      refine lv_iload_n hx hb dX4_readEither_56 rfl (lv_at hl 3 rfl) ?_
      refine lv_if_ne (tgt := 65) hx hb dX4_readEither_57 (by decide) (fun c_739 => ?_) (fun c_739 => absurd c_739 (by decide))
      refine lv_iconst (v := 1) hx hb dX4_readEither_65 (by decide) ?_
      refine lv_goto (tgt := 70) hx hb dX4_readEither_66 (by decide) ?_
      refine lv_istore_n (lv' := [(3, .int 1), (5, .int 0), (4, .int (nI i_52)), (2, .int 1), (1, .int 4), (0, .ref rd)]) hx hb dX4_readEither_70 rfl hl (by decide) rfl (fun ls hl => ?_)
      have hw1 : wdE f9 tl b_81 = 1 := by omega
      have hw9 : b_81 + 2 ≤ nxF f9 tl b_81 ∧ nxF f9 tl b_81 ≤ tl := nx_wd hp_725.1 (j := 1) (by omega) hw1
      have hm9 : Rch f9 tl (0, ts, σ, T) (0, nxF f9 tl b_81, 1 :: σ, (T_83 ++ eA ta_82) ++ [(1, 0, 0, 0)]) := by have h9 := hr_85.st (st_or hw1); rw [ow_jO hbs ow_86, (ow_eO hbs ow_86).2 rfl, ← List.append_assoc] at h9; exact h9
      have hdq : dep (1 :: σ) = dep σ := dep_n _ (by omega)
      have hl9 := len_a1 (T_83 ++ eA ta_82) ((1, 0, 0, 0) : Tk)
      refine lv_aload_n hx hb dX4_readEither_71 rfl (lv_at hl 5 rfl) ?_
      refine va_get (D := D) (ci := 4) (v := .ref tp) (C := RX4) (T := TX4) (N := 8) hx hb hts hin4 hown hK hP krd er_727 rfl 0 (by decide) (hts (.fieldLink RX4 12 "HoneyHouse$RuleReader" "tape" "LHoneyHouse$Tape;") (List.mem_of_getElem? (i := 1) rfl)) (fun _ h9 => h9) rfl dX4_readEither_72 ?_
      have hFc := free_all hD hS hA
      refine va_callv (va_runV (As := []) (rest := []) ⟨hx, hb, hml, hown, hts⟩ (a_advance l D (rz [ktp]) ws_689 ty_690 f9 tp ktp tl (teF f9 tl b_81) (nI (kdF f9 tl b_81)) (nI b_81) bb kb_721 cb_722 tb_723 fb_724 H.size htl hb_738 hng (by omega) et_728 eb_735 ub_736 (rz_o1 (pl_ne eb_735 et_728 (by intro h9; simp at h9))) (rz_in (by simp))) (cwV 0 hts gX4_readEither_X6_advance rfl rfl rfl (by decide +kernel) ⟨Nat.le_of_ble_eq_true rfl, Nat.le_of_ble_eq_true rfl⟩) ⟨fun a U g mk q => by obtain ⟨q0, q1, qP, qK, qD⟩ := q; exact ⟨q0, q1, qP, va_K.moved (u := U) (U := U.calling g mk a) (Vm.Alike.refl U.vm) qK, qD⟩, va_recv hK hP (ci := 6) (q0 := ktp) rfl et_728, fun U hU hW => ⟨rfl, by rw [hU], by rw [hU]; exact hP, va_K.moved hW.alike hK, hD.weaken (fun _ _ _ _ => trivial)⟩⟩ rfl rfl hl.1 rfl (lv_room (Nat.le_of_ble_eq_true rfl)) dX4_readEither_75 ⟨Nat.le_of_ble_eq_true rfl, Nat.le_of_ble_eq_true rfl⟩) hS (fun q _ h => hFc q h) hFc (fun u t H1 locs ht hvm w_741 hB hz1 hk1 hS => ?_)
      obtain ⟨ws_742, ty_743, hm_744, ht_746, hP1, hK1, hD1, hx_745⟩ := hB
      rw [ht] at hP1
      have hK := va_K.moved hvm.symm hK1
      have hD := hD1.weaken (fun _ _ _ h => hFc _ h)
      generalize H1 = H at hP1 hS ⊢
      have hP := hP1
      have e_747 := hm_744.keep (rz_o1 (pl_ne er_727 et_728 (by intro h9; simp at h9))) er_727
      have e_748 := hm_744.keep (rz_o1 (pl_ne ec_731 et_728 (by intro h9; simp at h9))) ec_731
      have e_749 := hm_744.keep (rz_o1 (pl_ne eb_735 et_728 (by intro h9; simp at h9))) eb_735
      have u_750 := ht_746 _ _ uc_732
      have u_751 := ht_746 _ _ ub_736
      have hm_752 : sm ρ [6] ws_689 ws_742 := hm_744.up (fun k _ h => rz_u1 wt_730 k h)
      have hsm := hsm.tr (hm_752.mono (by decide))
      have hlp_58 := hlp_58.tr (hm_752.mono (by decide))
      have htx := htx.tr ht_746
      have e_753 : ws_742[ktp]? = some (tp, .inr (6, [.int (nI tl), .int (nI (kdF f9 tl (nxF f9 tl b_81))), .int (nI (nxF f9 tl b_81)), .int (nI (teF f9 tl (nxF f9 tl b_81))), .ref bb])) := hx_745; have hq_754 : pcB f9 tl (nxF f9 tl b_81) := nxF_pc (f := f9) hp_725.1; have hq_7541 := hq_754.1; have hq_754t := teF_le (f := f9) hq_754.1; have hg_755 := nx_gain (f := f9) hp_725.1
      refine lv_aload_n hx hb dX4_readEither_78 rfl (lv_at hl 5 rfl) ?_
      refine lv_iload_n hx hb dX4_readEither_79 rfl (lv_at hl 4 rfl) ?_
      have hFc := free_all hD hS hA
      refine va_calli (va_runV (As := [.int 4]) (rest := []) ⟨hx, hb, hml, hown, hts⟩ (r_readOne4 l D ρ ws_742 ty_743 adK adV fo f9 rd krd tp ktp cd bb tl (nxF f9 tl b_81) ((T_83 ++ eA ta_82) ++ [(1, 0, 0, 0)]) nk fr fk fp vl_84 (1 :: σ) H.size htl hng (⟨kc_717, cc_718, tc_719, fc_720, kb_721, cb_722, tb_723, fb_724, hq_754, hT_726, e_747, e_753, wr_729, wt_730, e_748, u_750, wc_733, hc_734, e_749, u_751, wb_737, hb_738⟩ : RSX ρ ws_742 ty_743 f9 rd krd tp ktp cd bb tl (nxF f9 tl b_81) ((T_83 ++ eA ta_82) ++ [(1, 0, 0, 0)]) nk fr fk fp vl_84) (hdq.trans hdp) (by omega)) (cwV 1 hts gX4_readEither_X4_readOne rfl rfl rfl (by decide +kernel) ⟨Nat.le_of_ble_eq_true rfl, Nat.le_of_ble_eq_true rfl⟩) ⟨fun a U g mk q => by obtain ⟨q0, q1, qP, qK, qD, qS⟩ := q; exact ⟨q0, q1, qP, va_K.moved (u := U) (U := U.calling g mk a) (Vm.Alike.refl U.vm) qK, qD, SZ.same rfl rfl qS⟩, va_recv hK hP (ci := 4) (q0 := krd) rfl e_747, fun U hU hW => ⟨rfl, by rw [hU], by rw [hU]; exact hP, va_K.moved hW.alike hK, hD.weaken (fun _ _ _ _ => trivial), hsz9.go hS hW hU hFc⟩⟩ rfl rfl hl.1 rfl (lv_room (Nat.le_of_ble_eq_true rfl)) dX4_readEither_80 ⟨Nat.le_of_ble_eq_true rfl, Nat.le_of_ble_eq_true rfl⟩) hS (fun q _ h => hFc q h) hFc (fun r_756 u t H1 locs ht hvm w_757 hB hz1 hk1 hS => ?_)
      subst w_757
      obtain ⟨ws_758, ty_759, hm_760, ht_762, hP1, hK1, hD1, hx_761⟩ := hB
      rw [ht] at hP1
      have hK := va_K.moved hvm.symm hK1
      have hD := hD1.weaken (fun _ _ _ h => hFc _ h)
      generalize H1 = H at hP1 hS ⊢
      have hP := hP1
      obtain ⟨g_764, e_763, h_765⟩ := hm_760.obj e_747
      obtain ⟨z_766, z_767, z_768, z_769, z_770, z_771, rfl⟩ := smX4 h_765
      obtain ⟨g_773, e_772, h_774⟩ := hm_760.obj e_753
      obtain ⟨z_775, z_776, z_777, z_778, rfl⟩ := smX6 h_774
      obtain ⟨f_780, e_779⟩ := hm_760.arrI e_748
      have u_781 := ht_762 _ _ u_750
      have e_782 := hm_760.keep (by rw [wb_737]; omega) e_749
      have u_783 := ht_762 _ _ u_751
      have hsm := hsm.tr (hm_760.mono (by decide))
      have hlp_58 := hlp_58.tr (hm_760.mono (by decide))
      have htx := htx.tr ht_762
      rcases hx_761 with ⟨rfl, k_784, p_785, ts_786, T_787, vl_788, hk_789, hk_790, hr_791, hR_792⟩ | ⟨rfl, b_793, T_787, vl_788, hr_791, hg_797, hg_798, hR_792⟩
      · obtain ⟨kc_799, cc_800, tc_801, fc_802, kb_803, cb_804, tb_805, fb_806, hp_807, hT_808, er_809, et_810, wr_811, wt_812, ec_813, uc_814, wc_815, hc_816, eb_817, ub_818, wb_819, hb_820⟩ := id hR_792
        have hp_8071 := hp_807.1
        have hp_807t := teF_le (f := f9) hp_807.1
        refine lv_istore_n (lv' := [(2, .int 0), (3, .int 1), (5, .int 0), (4, .int (nI i_52)), (1, .int 4), (0, .ref rd)]) hx hb dX4_readEither_83 rfl hl (by decide) rfl (fun ls hl => ?_)
        refine lv_iload hx hb dX4_readEither_84 (lv_at hl 2 rfl) ?_
        refine lv_if_eq (tgt := 95) hx hb dX4_readEither_86 (by decide) (fun c_821 => ?_) (fun c_821 => absurd (by decide) c_821)
        refine lv_iinc (v := nI (i_52 + 1)) (lv' := [(4, .int (nI (i_52 + 1))), (2, .int 0), (3, .int 1), (5, .int 0), (1, .int 4), (0, .ref rd)]) hx hb dX4_readEither_95 hl (k := 3) rfl (nI_add i_52 1) (by decide) rfl (fun ls hl => ?_)
        refine lv_goto (tgt := 11) hx hb dX4_readEither_98 (by decide) ?_
        exact ih_51 (i_52 + 1, 0, 1) ws_758 _ _ ls (by show 400 - (i_52 + 1) < 400 - i_52; omega) ⟨hlp_58, ⟨ty_759, hK, htx, Or.inr ⟨rfl, Or.inr rfl, (⟨k_784, p_785, _, _, _, by omega, by omega, hm9.tr hr_791, (⟨kc_799, cc_800, tc_801, fc_802, kb_803, cb_804, tb_805, fb_806, hp_807, hT_808, er_809, et_810, wr_811, wt_812, ec_813, uc_814, wc_815, hc_816, eb_817, ub_818, wb_819, hb_820⟩ : RSX ρ ws_758 ty_759 f9 rd krd tp ktp cd bb tl ts_786 T_787 nk fr (nI k_784) (nI p_785) vl_788)⟩ : FLT ρ ws_758 ty_759 f9 rd krd tp ktp cd bb tl (0, ts, σ, T) nk fr)⟩⟩, (show (i_52 + 1) ≤ 400 from by omega)⟩ hP hD hS (lv_sub hl [0, 1, 2, 4, 5] rfl)
      obtain ⟨kc_822, cc_823, tc_824, fc_825, kb_826, cb_827, tb_828, fb_829, hp_830, hT_831, er_832, et_833, wr_834, wt_835, ec_836, uc_837, wc_838, hc_839, eb_840, ub_841, wb_842, hb_843⟩ := id hR_792
      have hp_8301 := hp_830.1
      have hp_830t := teF_le (f := f9) hp_830.1
      refine lv_istore_n (lv' := [(2, .int 1), (3, .int 1), (5, .int 0), (4, .int (nI i_52)), (1, .int 4), (0, .ref rd)]) hx hb dX4_readEither_83 rfl hl (by decide) rfl (fun ls hl => ?_)
      refine lv_iload hx hb dX4_readEither_84 (lv_at hl 2 rfl) ?_
      refine lv_if_eq (tgt := 95) hx hb dX4_readEither_86 (by decide) (fun c_844 => ?_) (fun c_844 => absurd (by decide) c_844)
      refine lv_iinc (v := nI (i_52 + 1)) (lv' := [(4, .int (nI (i_52 + 1))), (2, .int 1), (3, .int 1), (5, .int 0), (1, .int 4), (0, .ref rd)]) hx hb dX4_readEither_95 hl (k := 3) rfl (nI_add i_52 1) (by decide) rfl (fun ls hl => ?_)
      refine lv_goto (tgt := 11) hx hb dX4_readEither_98 (by decide) ?_
      exact ih_51 (i_52 + 1, 1, 1) ws_758 _ _ ls (by show 400 - (i_52 + 1) < 400 - i_52; omega) ⟨hlp_58, ⟨ty_759, hK, htx, Or.inl ⟨rfl, Or.inr rfl, (⟨b_793, 1 :: σ, T_787, _, hm9.tr (rch_an (by omega) hr_791), ow_or, by omega, fun _ => by rw [eA_n _ (by omega), List.append_nil]; omega, fun h9 => absurd h9 (by decide), by rw [eA_n _ (by omega), List.append_nil]; exact (⟨kc_822, cc_823, tc_824, fc_825, kb_826, cb_827, tb_828, fb_829, hp_830, hT_831, er_832, et_833, wr_834, wt_835, ec_836, uc_837, wc_838, hc_839, eb_840, ub_841, wb_842, hb_843⟩ : RSX ρ ws_758 ty_759 f9 rd krd tp ktp cd bb tl b_793 T_787 nk fr fk fp vl_788)⟩ : LPE ρ ws_758 ty_759 f9 rd krd tp ktp cd bb tl ts σ T nk fr fk fp (i_52 + 1) 1)⟩⟩, (show (i_52 + 1) ≤ 400 from by omega)⟩ hP hD hS (lv_sub hl [0, 1, 2, 4, 5] rfl)
    have iw_684 : wdE f9 tl b_81 = 2 := iw_684
    refine lv_istore (lv' := [(5, .int 1), (4, .int (nI i_52)), (2, .int 1), (3, .int 1), (1, .int 4), (0, .ref rd)]) hx hb dX4_readEither_39 hl (by decide) rfl (fun ls hl => ?_)
    refine lv_iload hx hb dX4_readEither_41 (lv_at hl 0 rfl) ?_
    refine lv_if_ne (tgt := 56) hx hb dX4_readEither_43 (by decide) (fun c_845 => ?_) (fun c_845 => absurd c_845 (by decide))
    refine lv_iload_n hx hb dX4_readEither_56 rfl (lv_at hl 3 rfl) ?_
    refine lv_if_ne (tgt := 65) hx hb dX4_readEither_57 (by decide) (fun c_846 => ?_) (fun c_846 => absurd c_846 (by decide))
    refine lv_iconst (v := 1) hx hb dX4_readEither_65 (by decide) ?_
    refine lv_goto (tgt := 70) hx hb dX4_readEither_66 (by decide) ?_
    refine lv_istore_n (lv' := [(3, .int 1), (5, .int 1), (4, .int (nI i_52)), (2, .int 1), (1, .int 4), (0, .ref rd)]) hx hb dX4_readEither_70 rfl hl (by decide) rfl (fun ls hl => ?_)
    have hw9 : b_81 + 3 ≤ nxF f9 tl b_81 ∧ nxF f9 tl b_81 ≤ tl := nx_wd hp_507.1 (j := 2) (by omega) iw_684
    have hm9 : Rch f9 tl (0, ts, σ, T) (0, nxF f9 tl b_81, 2 :: jA ta_82, T_83 ++ eA ta_82) := hr_85.st (st_and iw_684)
    have hdq : dep (2 :: jA ta_82) = dep σ := (dep_n _ (by omega)).trans ((dep_jA _).trans ((dep_jO _).symm.trans (congrArg dep (ow_jO hbs ow_86))))
    refine lv_aload_n hx hb dX4_readEither_71 rfl (lv_at hl 5 rfl) ?_
    refine va_get (D := D) (ci := 4) (v := .ref tp) (C := RX4) (T := TX4) (N := 8) hx hb hts hin4 hown hK hP krd e_677 rfl 0 (by decide) (hts (.fieldLink RX4 12 "HoneyHouse$RuleReader" "tape" "LHoneyHouse$Tape;") (List.mem_of_getElem? (i := 1) rfl)) (fun _ h9 => h9) rfl dX4_readEither_72 ?_
    have hFc := free_all hD hS hA
    refine va_callv (va_runV (As := []) (rest := []) ⟨hx, hb, hml, hown, hts⟩ (a_advance l D (rz [ktp]) ws_672 ty_673 f9 tp ktp tl (teF f9 tl b_81) (nI (kdF f9 tl b_81)) (nI b_81) bb kb_503 cb_504 tb_505 fb_506 H.size htl hb_520 hng (by omega) e_678 e_680 u_682 (rz_o1 (pl_ne e_680 e_678 (by intro h9; simp at h9))) (rz_in (by simp))) (cwV 0 hts gX4_readEither_X6_advance rfl rfl rfl (by decide +kernel) ⟨Nat.le_of_ble_eq_true rfl, Nat.le_of_ble_eq_true rfl⟩) ⟨fun a U g mk q => by obtain ⟨q0, q1, qP, qK, qD⟩ := q; exact ⟨q0, q1, qP, va_K.moved (u := U) (U := U.calling g mk a) (Vm.Alike.refl U.vm) qK, qD⟩, va_recv hK hP (ci := 6) (q0 := ktp) rfl e_678, fun U hU hW => ⟨rfl, by rw [hU], by rw [hU]; exact hP, va_K.moved hW.alike hK, hD.weaken (fun _ _ _ _ => trivial)⟩⟩ rfl rfl hl.1 rfl (lv_room (Nat.le_of_ble_eq_true rfl)) dX4_readEither_75 ⟨Nat.le_of_ble_eq_true rfl, Nat.le_of_ble_eq_true rfl⟩) hS (fun q _ h => hFc q h) hFc (fun u t H1 locs ht hvm w_848 hB hz1 hk1 hS => ?_)
    obtain ⟨ws_849, ty_850, hm_851, ht_853, hP1, hK1, hD1, hx_852⟩ := hB
    rw [ht] at hP1
    have hK := va_K.moved hvm.symm hK1
    have hD := hD1.weaken (fun _ _ _ h => hFc _ h)
    generalize H1 = H at hP1 hS ⊢
    have hP := hP1
    have e_854 := hm_851.keep (rz_o1 (pl_ne e_677 e_678 (by intro h9; simp at h9))) e_677
    have e_855 := hm_851.keep (rz_o1 (pl_ne e_679 e_678 (by intro h9; simp at h9))) e_679
    have e_856 := hm_851.keep (rz_o1 (pl_ne e_680 e_678 (by intro h9; simp at h9))) e_680
    have u_857 := ht_853 _ _ u_681
    have u_858 := ht_853 _ _ u_682
    have hm_859 : sm ρ [6] ws_672 ws_849 := hm_851.up (fun k _ h => rz_u1 wt_512 k h)
    have hsm := hsm.tr (hm_859.mono (by decide))
    have hlp_58 := hlp_58.tr (hm_859.mono (by decide))
    have htx := htx.tr ht_853
    have e_860 : ws_849[ktp]? = some (tp, .inr (6, [.int (nI tl), .int (nI (kdF f9 tl (nxF f9 tl b_81))), .int (nI (nxF f9 tl b_81)), .int (nI (teF f9 tl (nxF f9 tl b_81))), .ref bb])) := hx_852; have hq_861 : pcB f9 tl (nxF f9 tl b_81) := nxF_pc (f := f9) hp_507.1; have hq_8611 := hq_861.1; have hq_861t := teF_le (f := f9) hq_861.1; have hg_862 := nx_gain (f := f9) hp_507.1
    refine lv_aload_n hx hb dX4_readEither_78 rfl (lv_at hl 5 rfl) ?_
    refine lv_iload_n hx hb dX4_readEither_79 rfl (lv_at hl 4 rfl) ?_
    have hFc := free_all hD hS hA
    refine va_calli (va_runV (As := [.int 4]) (rest := []) ⟨hx, hb, hml, hown, hts⟩ (r_readOne4 l D ρ ws_849 ty_850 adK adV fo f9 rd krd tp ktp cd bb tl (nxF f9 tl b_81) (T_83 ++ eA ta_82) nk fr fk fp vl_84 (2 :: jA ta_82) H.size htl hng (⟨kc_499, cc_500, tc_501, fc_502, kb_503, cb_504, tb_505, fb_506, hq_861, hT_508, e_854, e_860, wr_511, wt_512, e_855, u_857, wc_515, hc_516, e_856, u_858, wb_519, hb_520⟩ : RSX ρ ws_849 ty_850 f9 rd krd tp ktp cd bb tl (nxF f9 tl b_81) (T_83 ++ eA ta_82) nk fr fk fp vl_84) (hdq.trans hdp) (by omega)) (cwV 1 hts gX4_readEither_X4_readOne rfl rfl rfl (by decide +kernel) ⟨Nat.le_of_ble_eq_true rfl, Nat.le_of_ble_eq_true rfl⟩) ⟨fun a U g mk q => by obtain ⟨q0, q1, qP, qK, qD, qS⟩ := q; exact ⟨q0, q1, qP, va_K.moved (u := U) (U := U.calling g mk a) (Vm.Alike.refl U.vm) qK, qD, SZ.same rfl rfl qS⟩, va_recv hK hP (ci := 4) (q0 := krd) rfl e_854, fun U hU hW => ⟨rfl, by rw [hU], by rw [hU]; exact hP, va_K.moved hW.alike hK, hD.weaken (fun _ _ _ _ => trivial), hsz9.go hS hW hU hFc⟩⟩ rfl rfl hl.1 rfl (lv_room (Nat.le_of_ble_eq_true rfl)) dX4_readEither_80 ⟨Nat.le_of_ble_eq_true rfl, Nat.le_of_ble_eq_true rfl⟩) hS (fun q _ h => hFc q h) hFc (fun r_863 u t H1 locs ht hvm w_864 hB hz1 hk1 hS => ?_)
    subst w_864
    obtain ⟨ws_865, ty_866, hm_867, ht_869, hP1, hK1, hD1, hx_868⟩ := hB
    rw [ht] at hP1
    have hK := va_K.moved hvm.symm hK1
    have hD := hD1.weaken (fun _ _ _ h => hFc _ h)
    generalize H1 = H at hP1 hS ⊢
    have hP := hP1
    obtain ⟨g_871, e_870, h_872⟩ := hm_867.obj e_854
    obtain ⟨z_873, z_874, z_875, z_876, z_877, z_878, rfl⟩ := smX4 h_872
    obtain ⟨g_880, e_879, h_881⟩ := hm_867.obj e_860
    obtain ⟨z_882, z_883, z_884, z_885, rfl⟩ := smX6 h_881
    obtain ⟨f_887, e_886⟩ := hm_867.arrI e_855
    have u_888 := ht_869 _ _ u_857
    have e_889 := hm_867.keep (by rw [wb_519]; omega) e_856
    have u_890 := ht_869 _ _ u_858
    have hsm := hsm.tr (hm_867.mono (by decide))
    have hlp_58 := hlp_58.tr (hm_867.mono (by decide))
    have htx := htx.tr ht_869
    rcases hx_868 with ⟨rfl, k_891, p_892, ts_893, T_894, vl_895, hk_896, hk_897, hr_898, hR_899⟩ | ⟨rfl, b_900, T_894, vl_895, hr_898, hg_904, hg_905, hR_899⟩
    · obtain ⟨kc_906, cc_907, tc_908, fc_909, kb_910, cb_911, tb_912, fb_913, hp_914, hT_915, er_916, et_917, wr_918, wt_919, ec_920, uc_921, wc_922, hc_923, eb_924, ub_925, wb_926, hb_927⟩ := id hR_899
      have hp_9141 := hp_914.1
      have hp_914t := teF_le (f := f9) hp_914.1
      refine lv_istore_n (lv' := [(2, .int 0), (3, .int 1), (5, .int 1), (4, .int (nI i_52)), (1, .int 4), (0, .ref rd)]) hx hb dX4_readEither_83 rfl hl (by decide) rfl (fun ls hl => ?_)
      refine lv_iload hx hb dX4_readEither_84 (lv_at hl 2 rfl) ?_
      refine lv_if_eq (tgt := 95) hx hb dX4_readEither_86 (by decide) (fun c_928 => absurd c_928 (by decide)) (fun c_928 => ?_)
      refine lv_aload_n hx hb dX4_readEither_89 rfl (lv_at hl 5 rfl) ?_
      refine lv_bipush (v := (-2)) hx hb dX4_readEither_90 (by decide) ?_
      have hFc := free_all hD hS hA
      refine va_callv (va_runV (As := [.int (-2)]) (rest := []) ⟨hx, hb, hml, hown, hts⟩ (r_addCode l D ρ ws_865 ty_866 adK adV fo f9 rd krd tp ktp cd bb tl ts_893 T_894 nk fr (nI k_891) (nI p_892) vl_895 (2, 0, 0, 0) (-2) H.size htl hng (⟨kc_906, cc_907, tc_908, fc_909, kb_910, cb_911, tb_912, fb_913, hp_914, hT_915, er_916, et_917, wr_918, wt_919, ec_920, uc_921, wc_922, hc_923, eb_924, ub_925, wb_926, hb_927⟩ : RSX ρ ws_865 ty_866 f9 rd krd tp ktp cd bb tl ts_893 T_894 nk fr (nI k_891) (nI p_892) vl_895) rfl) (cwV 1 hts gX4_readEither_X4_addCode rfl rfl rfl (by decide +kernel) ⟨Nat.le_of_ble_eq_true rfl, Nat.le_of_ble_eq_true rfl⟩) ⟨fun a U g mk q => by obtain ⟨q0, q1, qP, qK, qD, qS⟩ := q; exact ⟨q0, q1, qP, va_K.moved (u := U) (U := U.calling g mk a) (Vm.Alike.refl U.vm) qK, qD, SZ.same rfl rfl qS⟩, va_recv hK hP (ci := 4) (q0 := krd) rfl er_916, fun U hU hW => ⟨rfl, by rw [hU], by rw [hU]; exact hP, va_K.moved hW.alike hK, hD.weaken (fun _ _ _ _ => trivial), hsz9.go hS hW hU hFc⟩⟩ rfl rfl hl.1 rfl (lv_room (Nat.le_of_ble_eq_true rfl)) dX4_readEither_92 ⟨Nat.le_of_ble_eq_true rfl, Nat.le_of_ble_eq_true rfl⟩) hS (fun q _ h => hFc q h) hFc (fun u t H1 locs ht hvm w_930 hB hz1 hk1 hS => ?_)
      obtain ⟨ws_931, ty_932, hm_933, ht_935, hP1, hK1, hD1, hx_934⟩ := hB
      rw [ht] at hP1
      have hK := va_K.moved hvm.symm hK1
      have hD := hD1.weaken (fun _ _ _ h => hFc _ h)
      generalize H1 = H at hP1 hS ⊢
      have hP := hP1
      obtain ⟨g_937, e_936, h_938⟩ := hm_933.obj er_916
      obtain ⟨z_939, z_940, z_941, z_942, z_943, z_944, rfl⟩ := smX4 h_938
      obtain ⟨g_946, e_945, h_947⟩ := hm_933.obj et_917
      obtain ⟨z_948, z_949, z_950, z_951, rfl⟩ := smX6 h_947
      obtain ⟨f_953, e_952⟩ := hm_933.arrI ec_920
      have u_954 := ht_935 _ _ uc_921
      have e_955 := hm_933.keep (by rw [wb_926]; omega) eb_924
      have u_956 := ht_935 _ _ ub_925
      have hsm := hsm.tr (hm_933.mono (by decide))
      have hlp_58 := hlp_58.tr (hm_933.mono (by decide))
      have htx := htx.tr ht_935
      rcases hx_934 with ⟨hl_957, hR_958⟩ | ⟨hl_957, hR_958⟩
      · obtain ⟨kc_959, cc_960, tc_961, fc_962, kb_963, cb_964, tb_965, fb_966, hp_967, hT_968, er_969, et_970, wr_971, wt_972, ec_973, uc_974, wc_975, hc_976, eb_977, ub_978, wb_979, hb_980⟩ := id hR_958
        have hp_9671 := hp_967.1
        have hp_967t := teF_le (f := f9) hp_967.1
        refine lv_iinc (v := nI (i_52 + 1)) (lv' := [(4, .int (nI (i_52 + 1))), (2, .int 0), (3, .int 1), (5, .int 1), (1, .int 4), (0, .ref rd)]) hx hb dX4_readEither_95 hl (k := 3) rfl (nI_add i_52 1) (by decide) rfl (fun ls hl => ?_)
        refine lv_goto (tgt := 11) hx hb dX4_readEither_98 (by decide) ?_
        exact ih_51 (i_52 + 1, 0, 1) ws_931 _ _ ls (by show 400 - (i_52 + 1) < 400 - i_52; omega) ⟨hlp_58, ⟨ty_932, hK, htx, Or.inr ⟨rfl, Or.inr rfl, (⟨k_891, p_892, _, _, _, by omega, by omega, hm9.tr hr_898, (⟨kc_959, cc_960, tc_961, fc_962, kb_963, cb_964, tb_965, fb_966, hp_967, hT_968, er_969, et_970, wr_971, wt_972, ec_973, uc_974, wc_975, hc_976, eb_977, ub_978, wb_979, hb_980⟩ : RSX ρ ws_931 ty_932 f9 rd krd tp ktp cd bb tl ts_893 (T_894 ++ [(2, 0, 0, 0)]) nk fr (nI k_891) (nI p_892) vl_895)⟩ : FLT ρ ws_931 ty_932 f9 rd krd tp ktp cd bb tl (0, ts, σ, T) nk fr)⟩⟩, (show (i_52 + 1) ≤ 400 from by omega)⟩ hP hD hS (lv_sub hl [0, 1, 2, 4, 5] rfl)
      obtain ⟨kc_981, cc_982, tc_983, fc_984, kb_985, cb_986, tb_987, fb_988, hp_989, hT_990, er_991, et_992, wr_993, wt_994, ec_995, uc_996, wc_997, hc_998, eb_999, ub_1000, wb_1001, hb_1002⟩ := id hR_958
      have hp_9891 := hp_989.1
      have hp_989t := teF_le (f := f9) hp_989.1
      refine lv_iinc (v := nI (i_52 + 1)) (lv' := [(4, .int (nI (i_52 + 1))), (2, .int 0), (3, .int 1), (5, .int 1), (1, .int 4), (0, .ref rd)]) hx hb dX4_readEither_95 hl (k := 3) rfl (nI_add i_52 1) (by decide) rfl (fun ls hl => ?_)
      refine lv_goto (tgt := 11) hx hb dX4_readEither_98 (by decide) ?_
      exact ih_51 (i_52 + 1, 0, 1) ws_931 _ _ ls (by show 400 - (i_52 + 1) < 400 - i_52; omega) ⟨hlp_58, ⟨ty_932, hK, htx, Or.inr ⟨rfl, Or.inr rfl, (⟨k_891, p_892, _, _, _, by omega, by omega, hm9.tr hr_898, (⟨kc_981, cc_982, tc_983, fc_984, kb_985, cb_986, tb_987, fb_988, hp_989, hT_990, er_991, et_992, wr_993, wt_994, ec_995, uc_996, wc_997, hc_998, eb_999, ub_1000, wb_1001, hb_1002⟩ : RSX ρ ws_931 ty_932 f9 rd krd tp ktp cd bb tl ts_893 T_894 nk fr (nI k_891) (nI p_892) vl_895)⟩ : FLT ρ ws_931 ty_932 f9 rd krd tp ktp cd bb tl (0, ts, σ, T) nk fr)⟩⟩, (show (i_52 + 1) ≤ 400 from by omega)⟩ hP hD hS (lv_sub hl [0, 1, 2, 4, 5] rfl)
    obtain ⟨kc_1003, cc_1004, tc_1005, fc_1006, kb_1007, cb_1008, tb_1009, fb_1010, hp_1011, hT_1012, er_1013, et_1014, wr_1015, wt_1016, ec_1017, uc_1018, wc_1019, hc_1020, eb_1021, ub_1022, wb_1023, hb_1024⟩ := id hR_899
    have hp_10111 := hp_1011.1
    have hp_1011t := teF_le (f := f9) hp_1011.1
    refine lv_istore_n (lv' := [(2, .int 1), (3, .int 1), (5, .int 1), (4, .int (nI i_52)), (1, .int 4), (0, .ref rd)]) hx hb dX4_readEither_83 rfl hl (by decide) rfl (fun ls hl => ?_)
    refine lv_iload hx hb dX4_readEither_84 (lv_at hl 2 rfl) ?_
    refine lv_if_eq (tgt := 95) hx hb dX4_readEither_86 (by decide) (fun c_1025 => absurd c_1025 (by decide)) (fun c_1025 => ?_)
    refine lv_aload_n hx hb dX4_readEither_89 rfl (lv_at hl 5 rfl) ?_
    refine lv_bipush (v := (-2)) hx hb dX4_readEither_90 (by decide) ?_
    have hFc := free_all hD hS hA
    refine va_callv (va_runV (As := [.int (-2)]) (rest := []) ⟨hx, hb, hml, hown, hts⟩ (r_addCode l D ρ ws_865 ty_866 adK adV fo f9 rd krd tp ktp cd bb tl b_900 T_894 nk fr fk fp vl_895 (2, 0, 0, 0) (-2) H.size htl hng (⟨kc_1003, cc_1004, tc_1005, fc_1006, kb_1007, cb_1008, tb_1009, fb_1010, hp_1011, hT_1012, er_1013, et_1014, wr_1015, wt_1016, ec_1017, uc_1018, wc_1019, hc_1020, eb_1021, ub_1022, wb_1023, hb_1024⟩ : RSX ρ ws_865 ty_866 f9 rd krd tp ktp cd bb tl b_900 T_894 nk fr fk fp vl_895) rfl) (cwV 1 hts gX4_readEither_X4_addCode rfl rfl rfl (by decide +kernel) ⟨Nat.le_of_ble_eq_true rfl, Nat.le_of_ble_eq_true rfl⟩) ⟨fun a U g mk q => by obtain ⟨q0, q1, qP, qK, qD, qS⟩ := q; exact ⟨q0, q1, qP, va_K.moved (u := U) (U := U.calling g mk a) (Vm.Alike.refl U.vm) qK, qD, SZ.same rfl rfl qS⟩, va_recv hK hP (ci := 4) (q0 := krd) rfl er_1013, fun U hU hW => ⟨rfl, by rw [hU], by rw [hU]; exact hP, va_K.moved hW.alike hK, hD.weaken (fun _ _ _ _ => trivial), hsz9.go hS hW hU hFc⟩⟩ rfl rfl hl.1 rfl (lv_room (Nat.le_of_ble_eq_true rfl)) dX4_readEither_92 ⟨Nat.le_of_ble_eq_true rfl, Nat.le_of_ble_eq_true rfl⟩) hS (fun q _ h => hFc q h) hFc (fun u t H1 locs ht hvm w_1027 hB hz1 hk1 hS => ?_)
    obtain ⟨ws_1028, ty_1029, hm_1030, ht_1032, hP1, hK1, hD1, hx_1031⟩ := hB
    rw [ht] at hP1
    have hK := va_K.moved hvm.symm hK1
    have hD := hD1.weaken (fun _ _ _ h => hFc _ h)
    generalize H1 = H at hP1 hS ⊢
    have hP := hP1
    obtain ⟨g_1034, e_1033, h_1035⟩ := hm_1030.obj er_1013
    obtain ⟨z_1036, z_1037, z_1038, z_1039, z_1040, z_1041, rfl⟩ := smX4 h_1035
    obtain ⟨g_1043, e_1042, h_1044⟩ := hm_1030.obj et_1014
    obtain ⟨z_1045, z_1046, z_1047, z_1048, rfl⟩ := smX6 h_1044
    obtain ⟨f_1050, e_1049⟩ := hm_1030.arrI ec_1017
    have u_1051 := ht_1032 _ _ uc_1018
    have e_1052 := hm_1030.keep (by rw [wb_1023]; omega) eb_1021
    have u_1053 := ht_1032 _ _ ub_1022
    have hsm := hsm.tr (hm_1030.mono (by decide))
    have hlp_58 := hlp_58.tr (hm_1030.mono (by decide))
    have htx := htx.tr ht_1032
    obtain ⟨hl_1054, hR_1055⟩ := hx_1031.resolve_right (fun h9 => h9.1 (by omega))
    obtain ⟨kc_1056, cc_1057, tc_1058, fc_1059, kb_1060, cb_1061, tb_1062, fb_1063, hp_1064, hT_1065, er_1066, et_1067, wr_1068, wt_1069, ec_1070, uc_1071, wc_1072, hc_1073, eb_1074, ub_1075, wb_1076, hb_1077⟩ := id hR_1055
    have hp_10641 := hp_1064.1
    have hp_1064t := teF_le (f := f9) hp_1064.1
    refine lv_iinc (v := nI (i_52 + 1)) (lv' := [(4, .int (nI (i_52 + 1))), (2, .int 1), (3, .int 1), (5, .int 1), (1, .int 4), (0, .ref rd)]) hx hb dX4_readEither_95 hl (k := 3) rfl (nI_add i_52 1) (by decide) rfl (fun ls hl => ?_)
    refine lv_goto (tgt := 11) hx hb dX4_readEither_98 (by decide) ?_
    exact ih_51 (i_52 + 1, 1, 1) ws_1028 _ _ ls (by show 400 - (i_52 + 1) < 400 - i_52; omega) ⟨hlp_58, ⟨ty_1029, hK, htx, Or.inl ⟨rfl, Or.inr rfl, (⟨b_900, 2 :: jA ta_82, T_894, _, hm9.tr (rch_an (by omega) hr_898), ow_and hbs ow_86, by omega, fun _ => by rw [eA_2jA, len_a1]; omega, fun h9 => absurd h9 (by decide), by rw [eA_2jA]; exact (⟨kc_1056, cc_1057, tc_1058, fc_1059, kb_1060, cb_1061, tb_1062, fb_1063, hp_1064, hT_1065, er_1066, et_1067, wr_1068, wt_1069, ec_1070, uc_1071, wc_1072, hc_1073, eb_1074, ub_1075, wb_1076, hb_1077⟩ : RSX ρ ws_1028 ty_1029 f9 rd krd tp ktp cd bb tl b_900 (T_894 ++ [(2, 0, 0, 0)]) nk fr fk fp vl_895)⟩ : LPE ρ ws_1028 ty_1029 f9 rd krd tp ktp cd bb tl ts σ T nk fr fk fp (i_52 + 1) 1)⟩⟩, (show (i_52 + 1) ≤ 400 from by omega)⟩ hP hD hS (lv_sub hl [0, 1, 2, 4, 5] rfl)
  · obtain ⟨kc_1078, cc_1079, tc_1080, fc_1081, kb_1082, cb_1083, tb_1084, fb_1085, hp_1086, hT_1087, er_1088, et_1089, wr_1090, wt_1091, ec_1092, uc_1093, wc_1094, hc_1095, eb_1096, ub_1097, wb_1098, hb_1099⟩ := id hR_90
    have hp_10861 := hp_1086.1
    have hp_1086t := teF_le (f := f9) hp_1086.1
    refine lv_sipush (v := 400) hx hb dX4_readEither_13 (by decide) ?_
    refine lv_icmp_ge (tgt := 101) hx hb dX4_readEither_16 (by decide) (fun c_1100 => ?_) (fun c_1100 => ?_)
    · have d_1101 := n_le (a := 400) (b := i_52) (by omega) (by omega) c_1100
      refine lv_iload_n hx hb dX4_readEither_101 rfl (lv_at hl 2 rfl) ?_
      refine lv_if_eq (tgt := 111) hx hb dX4_readEither_102 (by decide) (fun c_1102 => ?_) (fun c_1102 => absurd (by decide) c_1102)
      refine lv_iload_n hx hb dX4_readEither_111 rfl (lv_at hl 1 rfl) ?_
      exact W.zret (v := 0) hx hb hr rfl (fun t ht hW => ⟨⟨0, 0, rfl, rfl, ws_56, ty_79, hsm, htx, by rw [ht]; exact hP, va_K.moved hW.alike hK, hD, Or.inl ⟨rfl, k_91, p_92, _, _, _, by omega, by omega, hr_85, (⟨kc_1078, cc_1079, tc_1080, fc_1081, kb_1082, cb_1083, tb_1084, fb_1085, hp_1086, hT_1087, er_1088, et_1089, wr_1090, wt_1091, ec_1092, uc_1093, wc_1094, hc_1095, eb_1096, ub_1097, wb_1098, hb_1099⟩ : RSX ρ ws_56 ty_79 f9 rd krd tp ktp cd bb tl ts_93 T_83 nk fr (nI k_91) (nI p_92) vl_84)⟩⟩, hS.F ht⟩) hS.2.2 dX4_readEither_112
    have d_1103 := n_nle (a := 400) (b := i_52) (by omega) (by omega) c_1100
    refine lv_iload_n hx hb dX4_readEither_19 rfl (lv_at hl 1 rfl) ?_
    refine lv_if_eq (tgt := 101) hx hb dX4_readEither_20 (by decide) (fun c_1104 => ?_) (fun c_1104 => absurd (by decide) c_1104)
    refine lv_iload_n hx hb dX4_readEither_101 rfl (lv_at hl 2 rfl) ?_
    refine lv_if_eq (tgt := 111) hx hb dX4_readEither_102 (by decide) (fun c_1105 => ?_) (fun c_1105 => absurd (by decide) c_1105)
    refine lv_iload_n hx hb dX4_readEither_111 rfl (lv_at hl 1 rfl) ?_
    exact W.zret (v := 0) hx hb hr rfl (fun t ht hW => ⟨⟨0, 0, rfl, rfl, ws_56, ty_79, hsm, htx, by rw [ht]; exact hP, va_K.moved hW.alike hK, hD, Or.inl ⟨rfl, k_91, p_92, _, _, _, by omega, by omega, hr_85, (⟨kc_1078, cc_1079, tc_1080, fc_1081, kb_1082, cb_1083, tb_1084, fb_1085, hp_1086, hT_1087, er_1088, et_1089, wr_1090, wt_1091, ec_1092, uc_1093, wc_1094, hc_1095, eb_1096, ub_1097, wb_1098, hb_1099⟩ : RSX ρ ws_56 ty_79 f9 rd krd tp ktp cd bb tl ts_93 T_83 nk fr (nI k_91) (nI p_92) vl_84)⟩⟩, hS.F ht⟩) hS.2.2 dX4_readEither_112
  obtain ⟨kc_1106, cc_1107, tc_1108, fc_1109, kb_1110, cb_1111, tb_1112, fb_1113, hp_1114, hT_1115, er_1116, et_1117, wr_1118, wt_1119, ec_1120, uc_1121, wc_1122, hc_1123, eb_1124, ub_1125, wb_1126, hb_1127⟩ := id hR_90
  have hp_11141 := hp_1114.1
  have hp_1114t := teF_le (f := f9) hp_1114.1
  refine lv_sipush (v := 400) hx hb dX4_readEither_13 (by decide) ?_
  refine lv_icmp_ge (tgt := 101) hx hb dX4_readEither_16 (by decide) (fun c_1128 => ?_) (fun c_1128 => ?_)
  · have d_1129 := n_le (a := 400) (b := i_52) (by omega) (by omega) c_1128
    refine lv_iload_n hx hb dX4_readEither_101 rfl (lv_at hl 2 rfl) ?_
    refine lv_if_eq (tgt := 111) hx hb dX4_readEither_102 (by decide) (fun c_1130 => absurd c_1130 (by decide)) (fun c_1130 => ?_)
    refine lv_aload_n hx hb dX4_readEither_105 rfl (lv_at hl 4 rfl) ?_
    refine lv_bipush (v := (-3)) hx hb dX4_readEither_106 (by decide) ?_
    have hFc := free_all hD hS hA
    refine va_callv (va_runV (As := [.int (-3)]) (rest := []) ⟨hx, hb, hml, hown, hts⟩ (r_addCode l D ρ ws_56 ty_79 adK adV fo f9 rd krd tp ktp cd bb tl ts_93 T_83 nk fr (nI k_91) (nI p_92) vl_84 (1, 0, 0, 0) (-3) H.size htl hng (⟨kc_1106, cc_1107, tc_1108, fc_1109, kb_1110, cb_1111, tb_1112, fb_1113, hp_1114, hT_1115, er_1116, et_1117, wr_1118, wt_1119, ec_1120, uc_1121, wc_1122, hc_1123, eb_1124, ub_1125, wb_1126, hb_1127⟩ : RSX ρ ws_56 ty_79 f9 rd krd tp ktp cd bb tl ts_93 T_83 nk fr (nI k_91) (nI p_92) vl_84) rfl) (cwV 1 hts gX4_readEither_X4_addCode rfl rfl rfl (by decide +kernel) ⟨Nat.le_of_ble_eq_true rfl, Nat.le_of_ble_eq_true rfl⟩) ⟨fun a U g mk q => by obtain ⟨q0, q1, qP, qK, qD, qS⟩ := q; exact ⟨q0, q1, qP, va_K.moved (u := U) (U := U.calling g mk a) (Vm.Alike.refl U.vm) qK, qD, SZ.same rfl rfl qS⟩, va_recv hK hP (ci := 4) (q0 := krd) rfl er_1116, fun U hU hW => ⟨rfl, by rw [hU], by rw [hU]; exact hP, va_K.moved hW.alike hK, hD.weaken (fun _ _ _ _ => trivial), hsz9.go hS hW hU hFc⟩⟩ rfl rfl hl.1 rfl (lv_room (Nat.le_of_ble_eq_true rfl)) dX4_readEither_108 ⟨Nat.le_of_ble_eq_true rfl, Nat.le_of_ble_eq_true rfl⟩) hS (fun q _ h => hFc q h) hFc (fun u t H1 locs ht hvm w_1132 hB hz1 hk1 hS => ?_)
    obtain ⟨ws_1133, ty_1134, hm_1135, ht_1137, hP1, hK1, hD1, hx_1136⟩ := hB
    rw [ht] at hP1
    have hK := va_K.moved hvm.symm hK1
    have hD := hD1.weaken (fun _ _ _ h => hFc _ h)
    generalize H1 = H at hP1 hS ⊢
    have hP := hP1
    obtain ⟨g_1139, e_1138, h_1140⟩ := hm_1135.obj er_1116
    obtain ⟨z_1141, z_1142, z_1143, z_1144, z_1145, z_1146, rfl⟩ := smX4 h_1140
    obtain ⟨g_1148, e_1147, h_1149⟩ := hm_1135.obj et_1117
    obtain ⟨z_1150, z_1151, z_1152, z_1153, rfl⟩ := smX6 h_1149
    obtain ⟨f_1155, e_1154⟩ := hm_1135.arrI ec_1120
    have u_1156 := ht_1137 _ _ uc_1121
    have e_1157 := hm_1135.keep (by rw [wb_1126]; omega) eb_1124
    have u_1158 := ht_1137 _ _ ub_1125
    have hsm := hsm.tr (hm_1135.mono (by decide))
    have hlp_58 := hlp_58.tr (hm_1135.mono (by decide))
    have htx := htx.tr ht_1137
    rcases hx_1136 with ⟨hl_1159, hR_1160⟩ | ⟨hl_1159, hR_1160⟩
    · obtain ⟨kc_1161, cc_1162, tc_1163, fc_1164, kb_1165, cb_1166, tb_1167, fb_1168, hp_1169, hT_1170, er_1171, et_1172, wr_1173, wt_1174, ec_1175, uc_1176, wc_1177, hc_1178, eb_1179, ub_1180, wb_1181, hb_1182⟩ := id hR_1160
      have hp_11691 := hp_1169.1
      have hp_1169t := teF_le (f := f9) hp_1169.1
      refine lv_iload_n hx hb dX4_readEither_111 rfl (lv_at hl 1 rfl) ?_
      exact W.zret (v := 0) hx hb hr rfl (fun t ht hW => ⟨⟨0, 0, rfl, rfl, ws_1133, ty_1134, hsm, htx, by rw [ht]; exact hP, va_K.moved hW.alike hK, hD, Or.inl ⟨rfl, k_91, p_92, _, _, _, by omega, by omega, hr_85, (⟨kc_1161, cc_1162, tc_1163, fc_1164, kb_1165, cb_1166, tb_1167, fb_1168, hp_1169, hT_1170, er_1171, et_1172, wr_1173, wt_1174, ec_1175, uc_1176, wc_1177, hc_1178, eb_1179, ub_1180, wb_1181, hb_1182⟩ : RSX ρ ws_1133 ty_1134 f9 rd krd tp ktp cd bb tl ts_93 (T_83 ++ [(1, 0, 0, 0)]) nk fr (nI k_91) (nI p_92) vl_84)⟩⟩, hS.F ht⟩) hS.2.2 dX4_readEither_112
    obtain ⟨kc_1183, cc_1184, tc_1185, fc_1186, kb_1187, cb_1188, tb_1189, fb_1190, hp_1191, hT_1192, er_1193, et_1194, wr_1195, wt_1196, ec_1197, uc_1198, wc_1199, hc_1200, eb_1201, ub_1202, wb_1203, hb_1204⟩ := id hR_1160
    have hp_11911 := hp_1191.1
    have hp_1191t := teF_le (f := f9) hp_1191.1
    refine lv_iload_n hx hb dX4_readEither_111 rfl (lv_at hl 1 rfl) ?_
    exact W.zret (v := 0) hx hb hr rfl (fun t ht hW => ⟨⟨0, 0, rfl, rfl, ws_1133, ty_1134, hsm, htx, by rw [ht]; exact hP, va_K.moved hW.alike hK, hD, Or.inl ⟨rfl, k_91, p_92, _, _, _, by omega, by omega, hr_85, (⟨kc_1183, cc_1184, tc_1185, fc_1186, kb_1187, cb_1188, tb_1189, fb_1190, hp_1191, hT_1192, er_1193, et_1194, wr_1195, wt_1196, ec_1197, uc_1198, wc_1199, hc_1200, eb_1201, ub_1202, wb_1203, hb_1204⟩ : RSX ρ ws_1133 ty_1134 f9 rd krd tp ktp cd bb tl ts_93 T_83 nk fr (nI k_91) (nI p_92) vl_84)⟩⟩, hS.F ht⟩) hS.2.2 dX4_readEither_112
  have d_1205 := n_nle (a := 400) (b := i_52) (by omega) (by omega) c_1128
  refine lv_iload_n hx hb dX4_readEither_19 rfl (lv_at hl 1 rfl) ?_
  refine lv_if_eq (tgt := 101) hx hb dX4_readEither_20 (by decide) (fun c_1206 => ?_) (fun c_1206 => absurd (by decide) c_1206)
  refine lv_iload_n hx hb dX4_readEither_101 rfl (lv_at hl 2 rfl) ?_
  refine lv_if_eq (tgt := 111) hx hb dX4_readEither_102 (by decide) (fun c_1207 => absurd c_1207 (by decide)) (fun c_1207 => ?_)
  refine lv_aload_n hx hb dX4_readEither_105 rfl (lv_at hl 4 rfl) ?_
  refine lv_bipush (v := (-3)) hx hb dX4_readEither_106 (by decide) ?_
  have hFc := free_all hD hS hA
  refine va_callv (va_runV (As := [.int (-3)]) (rest := []) ⟨hx, hb, hml, hown, hts⟩ (r_addCode l D ρ ws_56 ty_79 adK adV fo f9 rd krd tp ktp cd bb tl ts_93 T_83 nk fr (nI k_91) (nI p_92) vl_84 (1, 0, 0, 0) (-3) H.size htl hng (⟨kc_1106, cc_1107, tc_1108, fc_1109, kb_1110, cb_1111, tb_1112, fb_1113, hp_1114, hT_1115, er_1116, et_1117, wr_1118, wt_1119, ec_1120, uc_1121, wc_1122, hc_1123, eb_1124, ub_1125, wb_1126, hb_1127⟩ : RSX ρ ws_56 ty_79 f9 rd krd tp ktp cd bb tl ts_93 T_83 nk fr (nI k_91) (nI p_92) vl_84) rfl) (cwV 1 hts gX4_readEither_X4_addCode rfl rfl rfl (by decide +kernel) ⟨Nat.le_of_ble_eq_true rfl, Nat.le_of_ble_eq_true rfl⟩) ⟨fun a U g mk q => by obtain ⟨q0, q1, qP, qK, qD, qS⟩ := q; exact ⟨q0, q1, qP, va_K.moved (u := U) (U := U.calling g mk a) (Vm.Alike.refl U.vm) qK, qD, SZ.same rfl rfl qS⟩, va_recv hK hP (ci := 4) (q0 := krd) rfl er_1116, fun U hU hW => ⟨rfl, by rw [hU], by rw [hU]; exact hP, va_K.moved hW.alike hK, hD.weaken (fun _ _ _ _ => trivial), hsz9.go hS hW hU hFc⟩⟩ rfl rfl hl.1 rfl (lv_room (Nat.le_of_ble_eq_true rfl)) dX4_readEither_108 ⟨Nat.le_of_ble_eq_true rfl, Nat.le_of_ble_eq_true rfl⟩) hS (fun q _ h => hFc q h) hFc (fun u t H1 locs ht hvm w_1209 hB hz1 hk1 hS => ?_)
  obtain ⟨ws_1210, ty_1211, hm_1212, ht_1214, hP1, hK1, hD1, hx_1213⟩ := hB
  rw [ht] at hP1
  have hK := va_K.moved hvm.symm hK1
  have hD := hD1.weaken (fun _ _ _ h => hFc _ h)
  generalize H1 = H at hP1 hS ⊢
  have hP := hP1
  obtain ⟨g_1216, e_1215, h_1217⟩ := hm_1212.obj er_1116
  obtain ⟨z_1218, z_1219, z_1220, z_1221, z_1222, z_1223, rfl⟩ := smX4 h_1217
  obtain ⟨g_1225, e_1224, h_1226⟩ := hm_1212.obj et_1117
  obtain ⟨z_1227, z_1228, z_1229, z_1230, rfl⟩ := smX6 h_1226
  obtain ⟨f_1232, e_1231⟩ := hm_1212.arrI ec_1120
  have u_1233 := ht_1214 _ _ uc_1121
  have e_1234 := hm_1212.keep (by rw [wb_1126]; omega) eb_1124
  have u_1235 := ht_1214 _ _ ub_1125
  have hsm := hsm.tr (hm_1212.mono (by decide))
  have hlp_58 := hlp_58.tr (hm_1212.mono (by decide))
  have htx := htx.tr ht_1214
  rcases hx_1213 with ⟨hl_1236, hR_1237⟩ | ⟨hl_1236, hR_1237⟩
  · obtain ⟨kc_1238, cc_1239, tc_1240, fc_1241, kb_1242, cb_1243, tb_1244, fb_1245, hp_1246, hT_1247, er_1248, et_1249, wr_1250, wt_1251, ec_1252, uc_1253, wc_1254, hc_1255, eb_1256, ub_1257, wb_1258, hb_1259⟩ := id hR_1237
    have hp_12461 := hp_1246.1
    have hp_1246t := teF_le (f := f9) hp_1246.1
    refine lv_iload_n hx hb dX4_readEither_111 rfl (lv_at hl 1 rfl) ?_
    exact W.zret (v := 0) hx hb hr rfl (fun t ht hW => ⟨⟨0, 0, rfl, rfl, ws_1210, ty_1211, hsm, htx, by rw [ht]; exact hP, va_K.moved hW.alike hK, hD, Or.inl ⟨rfl, k_91, p_92, _, _, _, by omega, by omega, hr_85, (⟨kc_1238, cc_1239, tc_1240, fc_1241, kb_1242, cb_1243, tb_1244, fb_1245, hp_1246, hT_1247, er_1248, et_1249, wr_1250, wt_1251, ec_1252, uc_1253, wc_1254, hc_1255, eb_1256, ub_1257, wb_1258, hb_1259⟩ : RSX ρ ws_1210 ty_1211 f9 rd krd tp ktp cd bb tl ts_93 (T_83 ++ [(1, 0, 0, 0)]) nk fr (nI k_91) (nI p_92) vl_84)⟩⟩, hS.F ht⟩) hS.2.2 dX4_readEither_112
  obtain ⟨kc_1260, cc_1261, tc_1262, fc_1263, kb_1264, cb_1265, tb_1266, fb_1267, hp_1268, hT_1269, er_1270, et_1271, wr_1272, wt_1273, ec_1274, uc_1275, wc_1276, hc_1277, eb_1278, ub_1279, wb_1280, hb_1281⟩ := id hR_1237
  have hp_12681 := hp_1268.1
  have hp_1268t := teF_le (f := f9) hp_1268.1
  refine lv_iload_n hx hb dX4_readEither_111 rfl (lv_at hl 1 rfl) ?_
  exact W.zret (v := 0) hx hb hr rfl (fun t ht hW => ⟨⟨0, 0, rfl, rfl, ws_1210, ty_1211, hsm, htx, by rw [ht]; exact hP, va_K.moved hW.alike hK, hD, Or.inl ⟨rfl, k_91, p_92, _, _, _, by omega, by omega, hr_85, (⟨kc_1260, cc_1261, tc_1262, fc_1263, kb_1264, cb_1265, tb_1266, fb_1267, hp_1268, hT_1269, er_1270, et_1271, wr_1272, wt_1273, ec_1274, uc_1275, wc_1276, hc_1277, eb_1278, ub_1279, wb_1280, hb_1281⟩ : RSX ρ ws_1210 ty_1211 f9 rd krd tp ktp cd bb tl ts_93 T_83 nk fr (nI k_91) (nI p_92) vl_84)⟩⟩, hS.F ht⟩) hS.2.2 dX4_readEither_112
set_option maxHeartbeats 4000000 in
set_option maxRecDepth 100000 in
theorem r_readOne3 (l : Launch) (D : va_G) (ρ : Nat → Nat) (ws : va_W) (tys : List (ClassId × FieldType)) (adK adV : Nat → Nat) (fo : Option Nat) (f9 : Nat → Int32) (rd krd tp ktp cd bb tl ts : Nat) (T : List Tk) (nk : Int64) (fr fk fp vl : Int32) (σ : List Nat) (sz : Nat) (htl : tl ≤ 400) (hng : ∀ i : Nat, i < tl → ¬ f9 i = -1) (R0 : RSX ρ ws tys f9 rd krd tp ktp cd bb tl ts T nk fr fk fp vl) (hdp : dep σ = 3) (hT2 : 2 * T.length ≤ ts) : Met l yX4_readOne wsX4_readOne ({ frames := 13, cells := 0, slots := 0, locals := 293 }) (va_Pc [.ref rd, .int 3] (fun U => U.heap.size = sz ∧ va_P D vwCl ws U.heap ∧ va_K D vwCl tys U ∧ va_D (fun _ => True) ws ∧ SZ adK adV fo (va_A ws sz) U U.heap)) (va_Qi (fun (r : Int32) (s9 : Int32) => r = s9) (fun (s9 : Int32) (t : State) => ∃ (ws' : va_W) (tys' : List (ClassId × FieldType)), sm ρ [4, 6] ws ws' ∧ tyx tys tys' ∧ va_P D vwCl ws' t.heap ∧ va_K D vwCl tys' t ∧ va_D (va_A ws sz) ws' ∧ ((s9 = 0 ∧ FLT ρ ws' tys' f9 rd krd tp ktp cd bb tl (0, ts, σ, T) nk fr) ∨ (s9 = 1 ∧ ONE ρ ws' tys' f9 rd krd tp ktp cd bb tl ts σ T nk fr fk fp))) (va_A ws sz)) 0 0 (va_A ws sz) := by
  refine Met.ofW (cc := cX4_readOne) (maxL := 4) (ret := (some .boolean)) (by decide) rfl ?_
  intro p e s m args below meth c s₁ B hml hv
  obtain ⟨rfl, hsz, hP, hK, hD0, hsz9⟩ := hv
  have hx := B.exec
  have hb := B.bytes
  have hr := B.returns
  have hts := atoms_spec (ws := wsX4_readOne) B.pre
  have hown : s.vm.findClass RX4 = some m.cls := findClass_of_methodNamed B.named
  have hlocks := B.notSynchronized
  subst hsz
  have hD := hD0.self (sz := s.heap.size)
  generalize hAe : va_A ws s.heap.size = A at hD hsz9 ⊢
  have hA : ∀ q : Nat, s.heap.size ≤ q → A q := fun q h => by rw [← hAe]; exact Or.inr h
  have hS : va_S A s.heap s.heap [] := va_S.rf
  have hsm : sm ρ [4, 6] ws ws := sm.rf ws
  have htx : tyx tys tys := tyx.rf tys
  have hin4 : ∀ w ∈ u_ws RX4 TX4 8, w ∈ wsX4_readOne := (fun _ h9 => List.mem_cons_of_mem _ (List.mem_append_left _ ((List.mem_append_right _ h9))))
  have hl := lv_entry ([.ref rd, .int 3]) (n := 4) (Nat.le_of_ble_eq_true rfl)
  rw [lg_entry_eq]
  generalize (lg_sl ([.ref rd, .int 3]) ++ List.replicate (4 - (lg_sl ([.ref rd, .int 3])).length) Slot.unset).toArray = ls at hl ⊢
  have hl : lv_has ls 4 [(0, .ref rd), (1, .int 3)] := hl
  obtain ⟨kc_1, cc_2, tc_3, fc_4, kb_5, cb_6, tb_7, fb_8, hp_9, hT_10, er_11, et_12, wr_13, wt_14, ec_15, uc_16, wc_17, hc_18, eb_19, ub_20, wb_21, hb_22⟩ := id R0
  have hp_91 := hp_9.1
  have hp_9t := teF_le (f := f9) hp_9.1
  have hpc9 := hp_91
  refine lv_aload_n hx hb dX4_readOne_0 rfl (lv_at hl 0 rfl) ?_
  refine va_get (D := D) (ci := 4) (v := .ref tp) (C := RX4) (T := TX4) (N := 8) hx hb hts hin4 hown hK hP krd er_11 rfl 0 (by decide) (hts (.fieldLink RX4 12 "HoneyHouse$RuleReader" "tape" "LHoneyHouse$Tape;") (List.mem_of_getElem? (i := 1) rfl)) (fun _ h9 => h9) rfl dX4_readOne_1 ?_
  refine va_ldcS hx hb hown hsz9.2.2.2.2.2.2.1 dX4_readOne_4 ?_
  have hFc := free_all hD hS hA
  refine va_calli (va_runV (As := [.ref (adK 3)]) (rest := []) ⟨hx, hb, hml, hown, hts⟩ (a_isWord l D (rz []) ws tys adK adV fo 3 f9 tp ktp tl ts bb kb_5 cb_6 tb_7 fb_8 s.heap.size (by decide) htl hb_22 hng hp_9 et_12 eb_19 ub_20 rz_o0) (cwV 1 hts gX4_readOne_X6_isWord rfl rfl rfl (by decide +kernel) ⟨Nat.le_of_ble_eq_true rfl, Nat.le_of_ble_eq_true rfl⟩) ⟨fun a U g mk q => by obtain ⟨q0, q1, qP, qK, qD, qS⟩ := q; exact ⟨q0, q1, qP, va_K.moved (u := U) (U := U.calling g mk a) (Vm.Alike.refl U.vm) qK, qD, SZ.same rfl rfl qS⟩, va_recv hK hP (ci := 6) (q0 := ktp) rfl et_12, fun U hU hW => ⟨rfl, by rw [hU], by rw [hU]; exact hP, va_K.moved hW.alike hK, hD.weaken (fun _ _ _ _ => trivial), hsz9.go hS hW hU hFc⟩⟩ rfl rfl hl.1 rfl (lv_room (Nat.le_of_ble_eq_true rfl)) dX4_readOne_6 ⟨Nat.le_of_ble_eq_true rfl, Nat.le_of_ble_eq_true rfl⟩) hS (fun q _ h => hFc q h) hFc (fun r_23 u t H1 locs ht hvm w_24 hB hz1 hk1 hS => ?_)
  obtain ⟨ws_25, ty_26, hm_27, ht_29, hP1, hK1, hD1, hx_28⟩ := hB
  rw [ht] at hP1
  have hK := va_K.moved hvm.symm hK1
  have hD := hD1.weaken (fun _ _ _ h => hFc _ h)
  generalize H1 = H at hP1 hS ⊢
  have hP := hP1
  have e_30 := hm_27.keep rz_o0 er_11
  have e_31 := hm_27.keep rz_o0 et_12
  have e_32 := hm_27.keep rz_o0 ec_15
  have e_33 := hm_27.keep rz_o0 eb_19
  have u_34 := ht_29 _ _ uc_16
  have u_35 := ht_29 _ _ ub_20
  have hm_36 : sm ρ [] ws ws_25 := hm_27.up (fun k _ h => rz_u0  k h)
  have hsm := hsm.tr (hm_36.mono (by decide))
  have htx := htx.tr ht_29
  rcases w_24 with ⟨rfl, iw_37⟩ | ⟨rfl, iw_37⟩
  · have iw_37 : ¬ wdE f9 tl ts = 3 := iw_37
    refine lv_istore_n (lv' := [(2, .int 0), (0, .ref rd), (1, .int 3)]) hx hb dX4_readOne_9 rfl hl (by decide) rfl (fun ls hl => ?_)
    refine lv_iload_n hx hb dX4_readOne_10 rfl (lv_at hl 0 rfl) ?_
    refine lv_if_ne (tgt := 31) hx hb dX4_readOne_11 (by decide) (fun c_38 => absurd (by decide) c_38) (fun c_38 => ?_)
    refine lv_aload_n hx hb dX4_readOne_14 rfl (lv_at hl 1 rfl) ?_
    refine va_get (D := D) (ci := 4) (v := .ref tp) (C := RX4) (T := TX4) (N := 8) hx hb hts hin4 hown hK hP krd e_30 rfl 0 (by decide) (hts (.fieldLink RX4 12 "HoneyHouse$RuleReader" "tape" "LHoneyHouse$Tape;") (List.mem_of_getElem? (i := 1) rfl)) (fun _ h9 => h9) rfl dX4_readOne_15 ?_
    refine lv_bipush (v := 40) hx hb dX4_readOne_18 (by decide) ?_
    refine vp_callSi (W.runV (As := [.int 40]) (rest := []) ⟨hx, hb, hml, hown, hts⟩ (s_isByte l D ws_25 ty_26 f9 tp ktp tl ts bb kb_5 cb_6 tb_7 fb_8 40 (by unfold ltr; decide) (by unfold dgt; decide) htl hb_22 hng hp_9 e_31 e_33 u_35) (cwV 1 hts gX4_readOne_X6_isByte rfl rfl rfl (by decide +kernel) ⟨Nat.le_of_ble_eq_true rfl, Nat.le_of_ble_eq_true rfl⟩) ⟨fun a U g mk q => ⟨q.1, q.2.1, va_K.moved (u := U) (U := U.calling g mk a) (Vm.Alike.refl U.vm) q.2.2⟩, va_recv hK hP (ci := 6) (q0 := ktp) rfl e_31, fun U hU hW => ⟨rfl, by rw [hU]; exact hP, va_K.moved hW.alike hK⟩⟩ rfl rfl hl.1 rfl (lv_room (Nat.le_of_ble_eq_true rfl)) dX4_readOne_20 ⟨Nat.le_of_ble_eq_true rfl, Nat.le_of_ble_eq_true rfl⟩) (fun r_39 k_40 => ?_)
    rcases k_40 with ⟨rfl, ib_41⟩ | ⟨rfl, ib_41⟩
    · refine lv_if_ne (tgt := 31) hx hb dX4_readOne_23 (by decide) (fun c_42 => absurd (by decide) c_42) (fun c_42 => ?_)
      refine lv_aload_n hx hb dX4_readOne_26 rfl (lv_at hl 1 rfl) ?_
      have hFc := free_all hD hS hA
      refine va_calli (va_runV (As := []) (rest := []) ⟨hx, hb, hml, hown, hts⟩ (r_readTest l D ρ ws_25 ty_26 adK adV fo f9 rd krd tp ktp cd bb tl ts T nk fr fk fp vl  H.size htl hng (⟨kc_1, cc_2, tc_3, fc_4, kb_5, cb_6, tb_7, fb_8, hp_9, hT_10, e_30, e_31, wr_13, wt_14, e_32, u_34, wc_17, hc_18, e_33, u_35, wb_21, hb_22⟩ : RSX ρ ws_25 ty_26 f9 rd krd tp ktp cd bb tl ts T nk fr fk fp vl) (by omega)) (cwV 0 hts gX4_readOne_X4_readTest rfl rfl rfl (by decide +kernel) ⟨Nat.le_of_ble_eq_true rfl, Nat.le_of_ble_eq_true rfl⟩) ⟨fun a U g mk q => by obtain ⟨q0, q1, qP, qK, qD, qS⟩ := q; exact ⟨q0, q1, qP, va_K.moved (u := U) (U := U.calling g mk a) (Vm.Alike.refl U.vm) qK, qD, SZ.same rfl rfl qS⟩, va_recv hK hP (ci := 4) (q0 := krd) rfl e_30, fun U hU hW => ⟨rfl, by rw [hU], by rw [hU]; exact hP, va_K.moved hW.alike hK, hD.weaken (fun _ _ _ _ => trivial), hsz9.go hS hW hU hFc⟩⟩ rfl rfl hl.1 rfl (lv_room (Nat.le_of_ble_eq_true rfl)) dX4_readOne_27 ⟨Nat.le_of_ble_eq_true rfl, Nat.le_of_ble_eq_true rfl⟩) hS (fun q _ h => hFc q h) hFc (fun r_43 u t H1 locs ht hvm w_44 hB hz1 hk1 hS => ?_)
      subst w_44
      obtain ⟨ws_45, ty_46, hm_47, ht_49, hP1, hK1, hD1, hx_48⟩ := hB
      rw [ht] at hP1
      have hK := va_K.moved hvm.symm hK1
      have hD := hD1.weaken (fun _ _ _ h => hFc _ h)
      generalize H1 = H at hP1 hS ⊢
      have hP := hP1
      obtain ⟨g_51, e_50, h_52⟩ := hm_47.obj e_30
      obtain ⟨z_53, z_54, z_55, z_56, z_57, z_58, rfl⟩ := smX4 h_52
      obtain ⟨g_60, e_59, h_61⟩ := hm_47.obj e_31
      obtain ⟨z_62, z_63, z_64, z_65, rfl⟩ := smX6 h_61
      obtain ⟨f_67, e_66⟩ := hm_47.arrI e_32
      have u_68 := ht_49 _ _ u_34
      have e_69 := hm_47.keep (by rw [wb_21]; omega) e_33
      have u_70 := ht_49 _ _ u_35
      have hsm := hsm.tr (hm_47.mono (by decide))
      have htx := htx.tr ht_49
      obtain ⟨k_71, p_72, w_73, m_74, v_75, ht_76, ⟨rfl, hk_77, hk_78, ts_79, vl_80, hR_81⟩ | ⟨rfl, hk_77, hg_82, vl_80, hR_81⟩⟩ := hx_48
      · obtain ⟨kc_83, cc_84, tc_85, fc_86, kb_87, cb_88, tb_89, fb_90, hp_91, hT_92, er_93, et_94, wr_95, wt_96, ec_97, uc_98, wc_99, hc_100, eb_101, ub_102, wb_103, hb_104⟩ := id hR_81
        have hp_911 := hp_91.1
        have hp_91t := teF_le (f := f9) hp_91.1
        exact W.zret (v := 0) hx hb hr rfl (fun t ht hW => ⟨⟨0, 0, rfl, rfl, ws_45, ty_46, hsm, htx, by rw [ht]; exact hP, va_K.moved hW.alike hK, hD, Or.inl ⟨rfl, k_71, p_72, _, _, _, by omega, by omega, (Rch.rf _).st (st_tf (fun q9 => q9.elim ib_41 iw_37) ht_76 hk_77), (⟨kc_83, cc_84, tc_85, fc_86, kb_87, cb_88, tb_89, fb_90, hp_91, hT_92, er_93, et_94, wr_95, wt_96, ec_97, uc_98, wc_99, hc_100, eb_101, ub_102, wb_103, hb_104⟩ : RSX ρ ws_45 ty_46 f9 rd krd tp ktp cd bb tl ts_79 T nk fr (nI k_71) (nI p_72) vl_80)⟩⟩, hS.F ht⟩) hS.2.2 dX4_readOne_30
      subst hk_77
      obtain ⟨kc_105, cc_106, tc_107, fc_108, kb_109, cb_110, tb_111, fb_112, hp_113, hT_114, er_115, et_116, wr_117, wt_118, ec_119, uc_120, wc_121, hc_122, eb_123, ub_124, wb_125, hb_126⟩ := id hR_81
      have hp_1131 := hp_113.1
      have hp_113t := teF_le (f := f9) hp_113.1
      exact W.zret (v := 1) hx hb hr rfl (fun t ht hW => ⟨⟨1, 1, rfl, rfl, ws_45, ty_46, hsm, htx, by rw [ht]; exact hP, va_K.moved hW.alike hK, hD, Or.inr ⟨rfl, p_72, _, _, (Rch.rf _).st (st_te (fun q9 => q9.elim ib_41 iw_37) ht_76), by omega, by rw [len_a1]; omega, (⟨kc_105, cc_106, tc_107, fc_108, kb_109, cb_110, tb_111, fb_112, hp_113, hT_114, er_115, et_116, wr_117, wt_118, ec_119, uc_120, wc_121, hc_122, eb_123, ub_124, wb_125, hb_126⟩ : RSX ρ ws_45 ty_46 f9 rd krd tp ktp cd bb tl p_72 (T ++ [(13, w_73, m_74, v_75)]) nk fr fk fp vl_80)⟩⟩, hS.F ht⟩) hS.2.2 dX4_readOne_30
    refine lv_if_ne (tgt := 31) hx hb dX4_readOne_23 (by decide) (fun c_127 => ?_) (fun c_127 => absurd c_127 (by decide))
    have hw9 := wd_40 ib_41
    refine lv_iload_n hx hb dX4_readOne_31 rfl (lv_at hl 2 rfl) ?_
    refine lv_bipush (v := 6) hx hb dX4_readOne_32 (by decide) ?_
    refine lv_icmp_lt (tgt := 50) hx hb dX4_readOne_34 (by decide) (fun c_128 => ?_) (fun c_128 => absurd (by decide) c_128)
    refine lv_aload_n hx hb dX4_readOne_50 rfl (lv_at hl 1 rfl) ?_
    refine va_get (D := D) (ci := 4) (v := .ref tp) (C := RX4) (T := TX4) (N := 8) hx hb hts hin4 hown hK hP krd e_30 rfl 0 (by decide) (hts (.fieldLink RX4 12 "HoneyHouse$RuleReader" "tape" "LHoneyHouse$Tape;") (List.mem_of_getElem? (i := 1) rfl)) (fun _ h9 => h9) rfl dX4_readOne_51 ?_
    have hFc := free_all hD hS hA
    refine va_callv (va_runV (As := []) (rest := []) ⟨hx, hb, hml, hown, hts⟩ (a_advance l D (rz [ktp]) ws_25 ty_26 f9 tp ktp tl (teF f9 tl ts) (nI (kdF f9 tl ts)) (nI ts) bb kb_5 cb_6 tb_7 fb_8 H.size htl hb_22 hng (by omega) e_31 e_33 u_35 (rz_o1 (pl_ne e_33 e_31 (by intro h9; simp at h9))) (rz_in (by simp))) (cwV 0 hts gX4_readOne_X6_advance rfl rfl rfl (by decide +kernel) ⟨Nat.le_of_ble_eq_true rfl, Nat.le_of_ble_eq_true rfl⟩) ⟨fun a U g mk q => by obtain ⟨q0, q1, qP, qK, qD⟩ := q; exact ⟨q0, q1, qP, va_K.moved (u := U) (U := U.calling g mk a) (Vm.Alike.refl U.vm) qK, qD⟩, va_recv hK hP (ci := 6) (q0 := ktp) rfl e_31, fun U hU hW => ⟨rfl, by rw [hU], by rw [hU]; exact hP, va_K.moved hW.alike hK, hD.weaken (fun _ _ _ _ => trivial)⟩⟩ rfl rfl hl.1 rfl (lv_room (Nat.le_of_ble_eq_true rfl)) dX4_readOne_54 ⟨Nat.le_of_ble_eq_true rfl, Nat.le_of_ble_eq_true rfl⟩) hS (fun q _ h => hFc q h) hFc (fun u t H1 locs ht hvm w_130 hB hz1 hk1 hS => ?_)
    obtain ⟨ws_131, ty_132, hm_133, ht_135, hP1, hK1, hD1, hx_134⟩ := hB
    rw [ht] at hP1
    have hK := va_K.moved hvm.symm hK1
    have hD := hD1.weaken (fun _ _ _ h => hFc _ h)
    generalize H1 = H at hP1 hS ⊢
    have hP := hP1
    have e_136 := hm_133.keep (rz_o1 (pl_ne e_30 e_31 (by intro h9; simp at h9))) e_30
    have e_137 := hm_133.keep (rz_o1 (pl_ne e_32 e_31 (by intro h9; simp at h9))) e_32
    have e_138 := hm_133.keep (rz_o1 (pl_ne e_33 e_31 (by intro h9; simp at h9))) e_33
    have u_139 := ht_135 _ _ u_34
    have u_140 := ht_135 _ _ u_35
    have hm_141 : sm ρ [6] ws_25 ws_131 := hm_133.up (fun k _ h => rz_u1 wt_14 k h)
    have hsm := hsm.tr (hm_141.mono (by decide))
    have htx := htx.tr ht_135
    have e_142 : ws_131[ktp]? = some (tp, .inr (6, [.int (nI tl), .int (nI (kdF f9 tl (nxF f9 tl ts))), .int (nI (nxF f9 tl ts)), .int (nI (teF f9 tl (nxF f9 tl ts))), .ref bb])) := hx_134; have hq_143 : pcB f9 tl (nxF f9 tl ts) := nxF_pc (f := f9) hp_9.1; have hq_1431 := hq_143.1; have hq_143t := teF_le (f := f9) hq_143.1; have hg_144 := nx_gain (f := f9) hp_9.1
    refine lv_iload_n hx hb dX4_readOne_57 rfl (lv_at hl 0 rfl) ?_
    refine lv_if_ne (tgt := 86) hx hb dX4_readOne_58 (by decide) (fun c_145 => absurd (by decide) c_145) (fun c_145 => ?_)
    refine lv_aload_n hx hb dX4_readOne_61 rfl (lv_at hl 1 rfl) ?_
    refine lv_iload_n hx hb dX4_readOne_62 rfl (lv_at hl 2 rfl) ?_
    refine lv_iconst (v := 1) hx hb dX4_readOne_63 (by decide) ?_
    refine lv_iadd hx hb dX4_readOne_64 ?_
    refine tp_i (y := 4) (by decide) ?_
    have hFc := free_all hD hS hA
    refine va_calli (va_runV (As := [.int 4]) (rest := []) ⟨hx, hb, hml, hown, hts⟩ (r_readEither4 l D ρ ws_131 ty_132 adK adV fo f9 rd krd tp ktp cd bb tl (nxF f9 tl ts) T nk fr fk fp vl (12 :: σ) H.size htl hng (⟨kc_1, cc_2, tc_3, fc_4, kb_5, cb_6, tb_7, fb_8, hq_143, hT_10, e_136, e_142, wr_13, wt_14, e_137, u_139, wc_17, hc_18, e_138, u_140, wb_21, hb_22⟩ : RSX ρ ws_131 ty_132 f9 rd krd tp ktp cd bb tl (nxF f9 tl ts) T nk fr fk fp vl) (bas_12 σ) ((dep_y σ (Or.inr rfl)).trans (by omega)) (by omega)) (cwV 1 hts gX4_readOne_X4_readEither rfl rfl rfl (by decide +kernel) ⟨Nat.le_of_ble_eq_true rfl, Nat.le_of_ble_eq_true rfl⟩) ⟨fun a U g mk q => by obtain ⟨q0, q1, qP, qK, qD, qS⟩ := q; exact ⟨q0, q1, qP, va_K.moved (u := U) (U := U.calling g mk a) (Vm.Alike.refl U.vm) qK, qD, SZ.same rfl rfl qS⟩, va_recv hK hP (ci := 4) (q0 := krd) rfl e_136, fun U hU hW => ⟨rfl, by rw [hU], by rw [hU]; exact hP, va_K.moved hW.alike hK, hD.weaken (fun _ _ _ _ => trivial), hsz9.go hS hW hU hFc⟩⟩ rfl rfl hl.1 rfl (lv_room (Nat.le_of_ble_eq_true rfl)) dX4_readOne_65 ⟨Nat.le_of_ble_eq_true rfl, Nat.le_of_ble_eq_true rfl⟩) hS (fun q _ h => hFc q h) hFc (fun r_146 u t H1 locs ht hvm w_147 hB hz1 hk1 hS => ?_)
    subst w_147
    obtain ⟨ws_148, ty_149, hm_150, ht_152, hP1, hK1, hD1, hx_151⟩ := hB
    rw [ht] at hP1
    have hK := va_K.moved hvm.symm hK1
    have hD := hD1.weaken (fun _ _ _ h => hFc _ h)
    generalize H1 = H at hP1 hS ⊢
    have hP := hP1
    obtain ⟨g_154, e_153, h_155⟩ := hm_150.obj e_136
    obtain ⟨z_156, z_157, z_158, z_159, z_160, z_161, rfl⟩ := smX4 h_155
    obtain ⟨g_163, e_162, h_164⟩ := hm_150.obj e_142
    obtain ⟨z_165, z_166, z_167, z_168, rfl⟩ := smX6 h_164
    obtain ⟨f_170, e_169⟩ := hm_150.arrI e_137
    have u_171 := ht_152 _ _ u_139
    have e_172 := hm_150.keep (by rw [wb_21]; omega) e_138
    have u_173 := ht_152 _ _ u_140
    have hsm := hsm.tr (hm_150.mono (by decide))
    have htx := htx.tr ht_152
    rcases hx_151 with ⟨rfl, k_174, p_175, ts_176, T_177, vl_178, hk_179, hk_180, hr_181, hR_182⟩ | ⟨rfl, b_183, ta_184, T_177, vl_178, hr_181, hj_185, hn_186, hg_187, hg_188, hR_182⟩
    · obtain ⟨kc_189, cc_190, tc_191, fc_192, kb_193, cb_194, tb_195, fb_196, hp_197, hT_198, er_199, et_200, wr_201, wt_202, ec_203, uc_204, wc_205, hc_206, eb_207, ub_208, wb_209, hb_210⟩ := id hR_182
      have hp_1971 := hp_197.1
      have hp_197t := teF_le (f := f9) hp_197.1
      refine lv_if_eq (tgt := 84) hx hb dX4_readOne_68 (by decide) (fun c_211 => ?_) (fun c_211 => absurd (by decide) c_211)
      refine lv_iconst (v := 0) hx hb dX4_readOne_84 (by decide) ?_
      exact W.zret (v := 0) hx hb hr rfl (fun t ht hW => ⟨⟨0, 0, rfl, rfl, ws_148, ty_149, hsm, htx, by rw [ht]; exact hP, va_K.moved hW.alike hK, hD, Or.inl ⟨rfl, k_174, p_175, _, _, _, by omega, by omega, ((Rch.rf (0, ts, σ, T)).st (st_open ib_41 (by omega))).tr hr_181, (⟨kc_189, cc_190, tc_191, fc_192, kb_193, cb_194, tb_195, fb_196, hp_197, hT_198, er_199, et_200, wr_201, wt_202, ec_203, uc_204, wc_205, hc_206, eb_207, ub_208, wb_209, hb_210⟩ : RSX ρ ws_148 ty_149 f9 rd krd tp ktp cd bb tl ts_176 T_177 nk fr (nI k_174) (nI p_175) vl_178)⟩⟩, hS.F ht⟩) hS.2.2 dX4_readOne_85
    obtain ⟨kc_212, cc_213, tc_214, fc_215, kb_216, cb_217, tb_218, fb_219, hp_220, hT_221, er_222, et_223, wr_224, wt_225, ec_226, uc_227, wc_228, hc_229, eb_230, ub_231, wb_232, hb_233⟩ := id hR_182
    have hp_2201 := hp_220.1
    have hp_220t := teF_le (f := f9) hp_220.1
    refine lv_if_eq (tgt := 84) hx hb dX4_readOne_68 (by decide) (fun c_234 => absurd c_234 (by decide)) (fun c_234 => ?_)
    refine lv_aload_n hx hb dX4_readOne_71 rfl (lv_at hl 1 rfl) ?_
    refine lv_bipush (v := 41) hx hb dX4_readOne_72 (by decide) ?_
    have hFc := free_all hD hS hA
    refine va_calli (va_runV (As := [.int 41]) (rest := []) ⟨hx, hb, hml, hown, hts⟩ (r_readByte l D ρ ws_148 ty_149 adK adV fo f9 rd krd tp ktp cd bb tl b_183 (T_177 ++ eO ta_184) nk fr fk fp vl_178 41 H.size htl hng (⟨kc_212, cc_213, tc_214, fc_215, kb_216, cb_217, tb_218, fb_219, hp_220, hT_221, er_222, et_223, wr_224, wt_225, ec_226, uc_227, wc_228, hc_229, eb_230, ub_231, wb_232, hb_233⟩ : RSX ρ ws_148 ty_149 f9 rd krd tp ktp cd bb tl b_183 (T_177 ++ eO ta_184) nk fr fk fp vl_178) (by unfold ltr; decide) (by unfold dgt; decide)) (cwV 1 hts gX4_readOne_X4_readByte rfl rfl rfl (by decide +kernel) ⟨Nat.le_of_ble_eq_true rfl, Nat.le_of_ble_eq_true rfl⟩) ⟨fun a U g mk q => by obtain ⟨q0, q1, qP, qK, qD, qS⟩ := q; exact ⟨q0, q1, qP, va_K.moved (u := U) (U := U.calling g mk a) (Vm.Alike.refl U.vm) qK, qD, SZ.same rfl rfl qS⟩, va_recv hK hP (ci := 4) (q0 := krd) rfl er_222, fun U hU hW => ⟨rfl, by rw [hU], by rw [hU]; exact hP, va_K.moved hW.alike hK, hD.weaken (fun _ _ _ _ => trivial), hsz9.go hS hW hU hFc⟩⟩ rfl rfl hl.1 rfl (lv_room (Nat.le_of_ble_eq_true rfl)) dX4_readOne_74 ⟨Nat.le_of_ble_eq_true rfl, Nat.le_of_ble_eq_true rfl⟩) hS (fun q _ h => hFc q h) hFc (fun r_235 u t H1 locs ht hvm w_236 hB hz1 hk1 hS => ?_)
    subst w_236
    obtain ⟨ws_237, ty_238, hm_239, ht_241, hP1, hK1, hD1, hx_240⟩ := hB
    rw [ht] at hP1
    have hK := va_K.moved hvm.symm hK1
    have hD := hD1.weaken (fun _ _ _ h => hFc _ h)
    generalize H1 = H at hP1 hS ⊢
    have hP := hP1
    obtain ⟨g_243, e_242, h_244⟩ := hm_239.obj er_222
    obtain ⟨z_245, z_246, z_247, z_248, z_249, z_250, rfl⟩ := smX4 h_244
    obtain ⟨g_252, e_251, h_253⟩ := hm_239.obj et_223
    obtain ⟨z_254, z_255, z_256, z_257, rfl⟩ := smX6 h_253
    obtain ⟨f_259, e_258⟩ := hm_239.arrI ec_226
    have u_260 := ht_241 _ _ uc_227
    have e_261 := hm_239.keep (by rw [wb_232]; omega) eb_230
    have u_262 := ht_241 _ _ ub_231
    have hsm := hsm.tr (hm_239.mono (by decide))
    have htx := htx.tr ht_241
    rcases hx_240 with ⟨rfl, rb_263, hR_264⟩ | ⟨rfl, rb_263, hR_264⟩
    · obtain ⟨kc_265, cc_266, tc_267, fc_268, kb_269, cb_270, tb_271, fb_272, hp_273, hT_274, er_275, et_276, wr_277, wt_278, ec_279, uc_280, wc_281, hc_282, eb_283, ub_284, wb_285, hb_286⟩ := id hR_264
      have hp_2731 := hp_273.1
      have hp_273t := teF_le (f := f9) hp_273.1
      refine lv_if_eq (tgt := 84) hx hb dX4_readOne_77 (by decide) (fun c_287 => ?_) (fun c_287 => absurd (by decide) c_287)
      refine lv_iconst (v := 0) hx hb dX4_readOne_84 (by decide) ?_
      exact W.zret (v := 0) hx hb hr rfl (fun t ht hW => ⟨⟨0, 0, rfl, rfl, ws_237, ty_238, hsm, htx, by rw [ht]; exact hP, va_K.moved hW.alike hK, hD, Or.inl ⟨rfl, 1, b_183, _, _, _, by omega, by omega, (((Rch.rf (0, ts, σ, T)).st (st_open ib_41 (by omega))).tr hr_181).st (st_left hn_186 rb_263 (brk_12 hj_185)), (⟨kc_265, cc_266, tc_267, fc_268, kb_269, cb_270, tb_271, fb_272, hp_273, hT_274, er_275, et_276, wr_277, wt_278, ec_279, uc_280, wc_281, hc_282, eb_283, ub_284, wb_285, hb_286⟩ : RSX ρ ws_237 ty_238 f9 rd krd tp ktp cd bb tl b_183 (T_177 ++ eO ta_184) nk fr 1 (nI b_183) vl_178)⟩⟩, hS.F ht⟩) hS.2.2 dX4_readOne_85
    have rb_263g := nx_gain (f := f9) hp_220.1
    obtain ⟨kc_288, cc_289, tc_290, fc_291, kb_292, cb_293, tb_294, fb_295, hp_296, hT_297, er_298, et_299, wr_300, wt_301, ec_302, uc_303, wc_304, hc_305, eb_306, ub_307, wb_308, hb_309⟩ := id hR_264
    have hp_2961 := hp_296.1
    have hp_296t := teF_le (f := f9) hp_296.1
    refine lv_if_eq (tgt := 84) hx hb dX4_readOne_77 (by decide) (fun c_310 => absurd c_310 (by decide)) (fun c_310 => ?_)
    refine lv_iconst (v := 1) hx hb dX4_readOne_80 (by decide) ?_
    refine lv_goto (tgt := 85) hx hb dX4_readOne_81 (by decide) ?_
    exact W.zret (v := 1) hx hb hr rfl (fun t ht hW => ⟨⟨1, 1, rfl, rfl, ws_237, ty_238, hsm, htx, by rw [ht]; exact hP, va_K.moved hW.alike hK, hD, Or.inr ⟨rfl, nxF f9 tl b_183, _, _, rch_cl (((Rch.rf (0, ts, σ, T)).st (st_open ib_41 (by omega))).tr hr_181) hj_185 rb_263, by omega, by omega, (⟨kc_288, cc_289, tc_290, fc_291, kb_292, cb_293, tb_294, fb_295, hp_296, hT_297, er_298, et_299, wr_300, wt_301, ec_302, uc_303, wc_304, hc_305, eb_306, ub_307, wb_308, hb_309⟩ : RSX ρ ws_237 ty_238 f9 rd krd tp ktp cd bb tl (nxF f9 tl b_183) (T_177 ++ eO ta_184) nk fr fk fp vl_178)⟩⟩, hS.F ht⟩) hS.2.2 dX4_readOne_85
  have iw_37 : wdE f9 tl ts = 3 := iw_37
  refine lv_istore_n (lv' := [(2, .int 1), (0, .ref rd), (1, .int 3)]) hx hb dX4_readOne_9 rfl hl (by decide) rfl (fun ls hl => ?_)
  refine lv_iload_n hx hb dX4_readOne_10 rfl (lv_at hl 0 rfl) ?_
  refine lv_if_ne (tgt := 31) hx hb dX4_readOne_11 (by decide) (fun c_311 => ?_) (fun c_311 => absurd c_311 (by decide))
  have hw9 := nx_wd hpc9 (j := 3) (by omega) iw_37
  have hw9 : ts + 3 ≤ nxF f9 tl ts ∧ nxF f9 tl ts ≤ tl := hw9
  refine lv_iload_n hx hb dX4_readOne_31 rfl (lv_at hl 2 rfl) ?_
  refine lv_bipush (v := 6) hx hb dX4_readOne_32 (by decide) ?_
  refine lv_icmp_lt (tgt := 50) hx hb dX4_readOne_34 (by decide) (fun c_312 => ?_) (fun c_312 => absurd (by decide) c_312)
  refine lv_aload_n hx hb dX4_readOne_50 rfl (lv_at hl 1 rfl) ?_
  refine va_get (D := D) (ci := 4) (v := .ref tp) (C := RX4) (T := TX4) (N := 8) hx hb hts hin4 hown hK hP krd e_30 rfl 0 (by decide) (hts (.fieldLink RX4 12 "HoneyHouse$RuleReader" "tape" "LHoneyHouse$Tape;") (List.mem_of_getElem? (i := 1) rfl)) (fun _ h9 => h9) rfl dX4_readOne_51 ?_
  have hFc := free_all hD hS hA
  refine va_callv (va_runV (As := []) (rest := []) ⟨hx, hb, hml, hown, hts⟩ (a_advance l D (rz [ktp]) ws_25 ty_26 f9 tp ktp tl (teF f9 tl ts) (nI (kdF f9 tl ts)) (nI ts) bb kb_5 cb_6 tb_7 fb_8 H.size htl hb_22 hng (by omega) e_31 e_33 u_35 (rz_o1 (pl_ne e_33 e_31 (by intro h9; simp at h9))) (rz_in (by simp))) (cwV 0 hts gX4_readOne_X6_advance rfl rfl rfl (by decide +kernel) ⟨Nat.le_of_ble_eq_true rfl, Nat.le_of_ble_eq_true rfl⟩) ⟨fun a U g mk q => by obtain ⟨q0, q1, qP, qK, qD⟩ := q; exact ⟨q0, q1, qP, va_K.moved (u := U) (U := U.calling g mk a) (Vm.Alike.refl U.vm) qK, qD⟩, va_recv hK hP (ci := 6) (q0 := ktp) rfl e_31, fun U hU hW => ⟨rfl, by rw [hU], by rw [hU]; exact hP, va_K.moved hW.alike hK, hD.weaken (fun _ _ _ _ => trivial)⟩⟩ rfl rfl hl.1 rfl (lv_room (Nat.le_of_ble_eq_true rfl)) dX4_readOne_54 ⟨Nat.le_of_ble_eq_true rfl, Nat.le_of_ble_eq_true rfl⟩) hS (fun q _ h => hFc q h) hFc (fun u t H1 locs ht hvm w_314 hB hz1 hk1 hS => ?_)
  obtain ⟨ws_315, ty_316, hm_317, ht_319, hP1, hK1, hD1, hx_318⟩ := hB
  rw [ht] at hP1
  have hK := va_K.moved hvm.symm hK1
  have hD := hD1.weaken (fun _ _ _ h => hFc _ h)
  generalize H1 = H at hP1 hS ⊢
  have hP := hP1
  have e_320 := hm_317.keep (rz_o1 (pl_ne e_30 e_31 (by intro h9; simp at h9))) e_30
  have e_321 := hm_317.keep (rz_o1 (pl_ne e_32 e_31 (by intro h9; simp at h9))) e_32
  have e_322 := hm_317.keep (rz_o1 (pl_ne e_33 e_31 (by intro h9; simp at h9))) e_33
  have u_323 := ht_319 _ _ u_34
  have u_324 := ht_319 _ _ u_35
  have hm_325 : sm ρ [6] ws_25 ws_315 := hm_317.up (fun k _ h => rz_u1 wt_14 k h)
  have hsm := hsm.tr (hm_325.mono (by decide))
  have htx := htx.tr ht_319
  have e_326 : ws_315[ktp]? = some (tp, .inr (6, [.int (nI tl), .int (nI (kdF f9 tl (nxF f9 tl ts))), .int (nI (nxF f9 tl ts)), .int (nI (teF f9 tl (nxF f9 tl ts))), .ref bb])) := hx_318; have hq_327 : pcB f9 tl (nxF f9 tl ts) := nxF_pc (f := f9) hp_9.1; have hq_3271 := hq_327.1; have hq_327t := teF_le (f := f9) hq_327.1; have hg_328 := nx_gain (f := f9) hp_9.1
  refine lv_iload_n hx hb dX4_readOne_57 rfl (lv_at hl 0 rfl) ?_
  refine lv_if_ne (tgt := 86) hx hb dX4_readOne_58 (by decide) (fun c_329 => ?_) (fun c_329 => absurd c_329 (by decide))
  refine lv_aload_n hx hb dX4_readOne_86 rfl (lv_at hl 1 rfl) ?_
  refine lv_iload_n hx hb dX4_readOne_87 rfl (lv_at hl 2 rfl) ?_
  refine lv_iconst (v := 1) hx hb dX4_readOne_88 (by decide) ?_
  refine lv_iadd hx hb dX4_readOne_89 ?_
  refine tp_i (y := 4) (by decide) ?_
  have hFc := free_all hD hS hA
  refine va_calli (va_runV (As := [.int 4]) (rest := []) ⟨hx, hb, hml, hown, hts⟩ (r_readOne4 l D ρ ws_315 ty_316 adK adV fo f9 rd krd tp ktp cd bb tl (nxF f9 tl ts) T nk fr fk fp vl (3 :: σ) H.size htl hng (⟨kc_1, cc_2, tc_3, fc_4, kb_5, cb_6, tb_7, fb_8, hq_327, hT_10, e_320, e_326, wr_13, wt_14, e_321, u_323, wc_17, hc_18, e_322, u_324, wb_21, hb_22⟩ : RSX ρ ws_315 ty_316 f9 rd krd tp ktp cd bb tl (nxF f9 tl ts) T nk fr fk fp vl) ((dep_y σ (Or.inl rfl)).trans (by omega)) (by omega)) (cwV 1 hts gX4_readOne_X4_readOne rfl rfl rfl (by decide +kernel) ⟨Nat.le_of_ble_eq_true rfl, Nat.le_of_ble_eq_true rfl⟩) ⟨fun a U g mk q => by obtain ⟨q0, q1, qP, qK, qD, qS⟩ := q; exact ⟨q0, q1, qP, va_K.moved (u := U) (U := U.calling g mk a) (Vm.Alike.refl U.vm) qK, qD, SZ.same rfl rfl qS⟩, va_recv hK hP (ci := 4) (q0 := krd) rfl e_320, fun U hU hW => ⟨rfl, by rw [hU], by rw [hU]; exact hP, va_K.moved hW.alike hK, hD.weaken (fun _ _ _ _ => trivial), hsz9.go hS hW hU hFc⟩⟩ rfl rfl hl.1 rfl (lv_room (Nat.le_of_ble_eq_true rfl)) dX4_readOne_90 ⟨Nat.le_of_ble_eq_true rfl, Nat.le_of_ble_eq_true rfl⟩) hS (fun q _ h => hFc q h) hFc (fun r_330 u t H1 locs ht hvm w_331 hB hz1 hk1 hS => ?_)
  subst w_331
  obtain ⟨ws_332, ty_333, hm_334, ht_336, hP1, hK1, hD1, hx_335⟩ := hB
  rw [ht] at hP1
  have hK := va_K.moved hvm.symm hK1
  have hD := hD1.weaken (fun _ _ _ h => hFc _ h)
  generalize H1 = H at hP1 hS ⊢
  have hP := hP1
  obtain ⟨g_338, e_337, h_339⟩ := hm_334.obj e_320
  obtain ⟨z_340, z_341, z_342, z_343, z_344, z_345, rfl⟩ := smX4 h_339
  obtain ⟨g_347, e_346, h_348⟩ := hm_334.obj e_326
  obtain ⟨z_349, z_350, z_351, z_352, rfl⟩ := smX6 h_348
  obtain ⟨f_354, e_353⟩ := hm_334.arrI e_321
  have u_355 := ht_336 _ _ u_323
  have e_356 := hm_334.keep (by rw [wb_21]; omega) e_322
  have u_357 := ht_336 _ _ u_324
  have hsm := hsm.tr (hm_334.mono (by decide))
  have htx := htx.tr ht_336
  rcases hx_335 with ⟨rfl, k_358, p_359, ts_360, T_361, vl_362, hk_363, hk_364, hr_365, hR_366⟩ | ⟨rfl, b_367, T_361, vl_362, hr_365, hg_371, hg_372, hR_366⟩
  · obtain ⟨kc_373, cc_374, tc_375, fc_376, kb_377, cb_378, tb_379, fb_380, hp_381, hT_382, er_383, et_384, wr_385, wt_386, ec_387, uc_388, wc_389, hc_390, eb_391, ub_392, wb_393, hb_394⟩ := id hR_366
    have hp_3811 := hp_381.1
    have hp_381t := teF_le (f := f9) hp_381.1
    refine lv_istore_n (lv' := [(3, .int 0), (2, .int 1), (0, .ref rd), (1, .int 3)]) hx hb dX4_readOne_93 rfl hl (by decide) rfl (fun ls hl => ?_)
    refine lv_aload_n hx hb dX4_readOne_94 rfl (lv_at hl 2 rfl) ?_
    refine lv_iconst (v := (-1)) hx hb dX4_readOne_95 (by decide) ?_
    have hFc := free_all hD hS hA
    refine va_callv (va_runV (As := [.int (-1)]) (rest := []) ⟨hx, hb, hml, hown, hts⟩ (r_addCode l D ρ ws_332 ty_333 adK adV fo f9 rd krd tp ktp cd bb tl ts_360 T_361 nk fr (nI k_358) (nI p_359) vl_362 (3, 0, 0, 0) (-1) H.size htl hng (⟨kc_373, cc_374, tc_375, fc_376, kb_377, cb_378, tb_379, fb_380, hp_381, hT_382, er_383, et_384, wr_385, wt_386, ec_387, uc_388, wc_389, hc_390, eb_391, ub_392, wb_393, hb_394⟩ : RSX ρ ws_332 ty_333 f9 rd krd tp ktp cd bb tl ts_360 T_361 nk fr (nI k_358) (nI p_359) vl_362) rfl) (cwV 1 hts gX4_readOne_X4_addCode rfl rfl rfl (by decide +kernel) ⟨Nat.le_of_ble_eq_true rfl, Nat.le_of_ble_eq_true rfl⟩) ⟨fun a U g mk q => by obtain ⟨q0, q1, qP, qK, qD, qS⟩ := q; exact ⟨q0, q1, qP, va_K.moved (u := U) (U := U.calling g mk a) (Vm.Alike.refl U.vm) qK, qD, SZ.same rfl rfl qS⟩, va_recv hK hP (ci := 4) (q0 := krd) rfl er_383, fun U hU hW => ⟨rfl, by rw [hU], by rw [hU]; exact hP, va_K.moved hW.alike hK, hD.weaken (fun _ _ _ _ => trivial), hsz9.go hS hW hU hFc⟩⟩ rfl rfl hl.1 rfl (lv_room (Nat.le_of_ble_eq_true rfl)) dX4_readOne_96 ⟨Nat.le_of_ble_eq_true rfl, Nat.le_of_ble_eq_true rfl⟩) hS (fun q _ h => hFc q h) hFc (fun u t H1 locs ht hvm w_396 hB hz1 hk1 hS => ?_)
    obtain ⟨ws_397, ty_398, hm_399, ht_401, hP1, hK1, hD1, hx_400⟩ := hB
    rw [ht] at hP1
    have hK := va_K.moved hvm.symm hK1
    have hD := hD1.weaken (fun _ _ _ h => hFc _ h)
    generalize H1 = H at hP1 hS ⊢
    have hP := hP1
    obtain ⟨g_403, e_402, h_404⟩ := hm_399.obj er_383
    obtain ⟨z_405, z_406, z_407, z_408, z_409, z_410, rfl⟩ := smX4 h_404
    obtain ⟨g_412, e_411, h_413⟩ := hm_399.obj et_384
    obtain ⟨z_414, z_415, z_416, z_417, rfl⟩ := smX6 h_413
    obtain ⟨f_419, e_418⟩ := hm_399.arrI ec_387
    have u_420 := ht_401 _ _ uc_388
    have e_421 := hm_399.keep (by rw [wb_393]; omega) eb_391
    have u_422 := ht_401 _ _ ub_392
    have hsm := hsm.tr (hm_399.mono (by decide))
    have htx := htx.tr ht_401
    rcases hx_400 with ⟨hl_423, hR_424⟩ | ⟨hl_423, hR_424⟩
    · obtain ⟨kc_425, cc_426, tc_427, fc_428, kb_429, cb_430, tb_431, fb_432, hp_433, hT_434, er_435, et_436, wr_437, wt_438, ec_439, uc_440, wc_441, hc_442, eb_443, ub_444, wb_445, hb_446⟩ := id hR_424
      have hp_4331 := hp_433.1
      have hp_433t := teF_le (f := f9) hp_433.1
      refine lv_iload_n hx hb dX4_readOne_99 rfl (lv_at hl 0 rfl) ?_
      exact W.zret (v := 0) hx hb hr rfl (fun t ht hW => ⟨⟨0, 0, rfl, rfl, ws_397, ty_398, hsm, htx, by rw [ht]; exact hP, va_K.moved hW.alike hK, hD, Or.inl ⟨rfl, k_358, p_359, _, _, _, by omega, by omega, ((Rch.rf (0, ts, σ, T)).st (st_not iw_37 (by omega))).tr hr_365, (⟨kc_425, cc_426, tc_427, fc_428, kb_429, cb_430, tb_431, fb_432, hp_433, hT_434, er_435, et_436, wr_437, wt_438, ec_439, uc_440, wc_441, hc_442, eb_443, ub_444, wb_445, hb_446⟩ : RSX ρ ws_397 ty_398 f9 rd krd tp ktp cd bb tl ts_360 (T_361 ++ [(3, 0, 0, 0)]) nk fr (nI k_358) (nI p_359) vl_362)⟩⟩, hS.F ht⟩) hS.2.2 dX4_readOne_100
    obtain ⟨kc_447, cc_448, tc_449, fc_450, kb_451, cb_452, tb_453, fb_454, hp_455, hT_456, er_457, et_458, wr_459, wt_460, ec_461, uc_462, wc_463, hc_464, eb_465, ub_466, wb_467, hb_468⟩ := id hR_424
    have hp_4551 := hp_455.1
    have hp_455t := teF_le (f := f9) hp_455.1
    refine lv_iload_n hx hb dX4_readOne_99 rfl (lv_at hl 0 rfl) ?_
    exact W.zret (v := 0) hx hb hr rfl (fun t ht hW => ⟨⟨0, 0, rfl, rfl, ws_397, ty_398, hsm, htx, by rw [ht]; exact hP, va_K.moved hW.alike hK, hD, Or.inl ⟨rfl, k_358, p_359, _, _, _, by omega, by omega, ((Rch.rf (0, ts, σ, T)).st (st_not iw_37 (by omega))).tr hr_365, (⟨kc_447, cc_448, tc_449, fc_450, kb_451, cb_452, tb_453, fb_454, hp_455, hT_456, er_457, et_458, wr_459, wt_460, ec_461, uc_462, wc_463, hc_464, eb_465, ub_466, wb_467, hb_468⟩ : RSX ρ ws_397 ty_398 f9 rd krd tp ktp cd bb tl ts_360 T_361 nk fr (nI k_358) (nI p_359) vl_362)⟩⟩, hS.F ht⟩) hS.2.2 dX4_readOne_100
  obtain ⟨kc_469, cc_470, tc_471, fc_472, kb_473, cb_474, tb_475, fb_476, hp_477, hT_478, er_479, et_480, wr_481, wt_482, ec_483, uc_484, wc_485, hc_486, eb_487, ub_488, wb_489, hb_490⟩ := id hR_366
  have hp_4771 := hp_477.1
  have hp_477t := teF_le (f := f9) hp_477.1
  refine lv_istore_n (lv' := [(3, .int 1), (2, .int 1), (0, .ref rd), (1, .int 3)]) hx hb dX4_readOne_93 rfl hl (by decide) rfl (fun ls hl => ?_)
  refine lv_aload_n hx hb dX4_readOne_94 rfl (lv_at hl 2 rfl) ?_
  refine lv_iconst (v := (-1)) hx hb dX4_readOne_95 (by decide) ?_
  have hFc := free_all hD hS hA
  refine va_callv (va_runV (As := [.int (-1)]) (rest := []) ⟨hx, hb, hml, hown, hts⟩ (r_addCode l D ρ ws_332 ty_333 adK adV fo f9 rd krd tp ktp cd bb tl b_367 T_361 nk fr fk fp vl_362 (3, 0, 0, 0) (-1) H.size htl hng (⟨kc_469, cc_470, tc_471, fc_472, kb_473, cb_474, tb_475, fb_476, hp_477, hT_478, er_479, et_480, wr_481, wt_482, ec_483, uc_484, wc_485, hc_486, eb_487, ub_488, wb_489, hb_490⟩ : RSX ρ ws_332 ty_333 f9 rd krd tp ktp cd bb tl b_367 T_361 nk fr fk fp vl_362) rfl) (cwV 1 hts gX4_readOne_X4_addCode rfl rfl rfl (by decide +kernel) ⟨Nat.le_of_ble_eq_true rfl, Nat.le_of_ble_eq_true rfl⟩) ⟨fun a U g mk q => by obtain ⟨q0, q1, qP, qK, qD, qS⟩ := q; exact ⟨q0, q1, qP, va_K.moved (u := U) (U := U.calling g mk a) (Vm.Alike.refl U.vm) qK, qD, SZ.same rfl rfl qS⟩, va_recv hK hP (ci := 4) (q0 := krd) rfl er_479, fun U hU hW => ⟨rfl, by rw [hU], by rw [hU]; exact hP, va_K.moved hW.alike hK, hD.weaken (fun _ _ _ _ => trivial), hsz9.go hS hW hU hFc⟩⟩ rfl rfl hl.1 rfl (lv_room (Nat.le_of_ble_eq_true rfl)) dX4_readOne_96 ⟨Nat.le_of_ble_eq_true rfl, Nat.le_of_ble_eq_true rfl⟩) hS (fun q _ h => hFc q h) hFc (fun u t H1 locs ht hvm w_492 hB hz1 hk1 hS => ?_)
  obtain ⟨ws_493, ty_494, hm_495, ht_497, hP1, hK1, hD1, hx_496⟩ := hB
  rw [ht] at hP1
  have hK := va_K.moved hvm.symm hK1
  have hD := hD1.weaken (fun _ _ _ h => hFc _ h)
  generalize H1 = H at hP1 hS ⊢
  have hP := hP1
  obtain ⟨g_499, e_498, h_500⟩ := hm_495.obj er_479
  obtain ⟨z_501, z_502, z_503, z_504, z_505, z_506, rfl⟩ := smX4 h_500
  obtain ⟨g_508, e_507, h_509⟩ := hm_495.obj et_480
  obtain ⟨z_510, z_511, z_512, z_513, rfl⟩ := smX6 h_509
  obtain ⟨f_515, e_514⟩ := hm_495.arrI ec_483
  have u_516 := ht_497 _ _ uc_484
  have e_517 := hm_495.keep (by rw [wb_489]; omega) eb_487
  have u_518 := ht_497 _ _ ub_488
  have hsm := hsm.tr (hm_495.mono (by decide))
  have htx := htx.tr ht_497
  obtain ⟨hl_519, hR_520⟩ := hx_496.resolve_right (fun h9 => h9.1 (by omega))
  obtain ⟨kc_521, cc_522, tc_523, fc_524, kb_525, cb_526, tb_527, fb_528, hp_529, hT_530, er_531, et_532, wr_533, wt_534, ec_535, uc_536, wc_537, hc_538, eb_539, ub_540, wb_541, hb_542⟩ := id hR_520
  have hp_5291 := hp_529.1
  have hp_529t := teF_le (f := f9) hp_529.1
  refine lv_iload_n hx hb dX4_readOne_99 rfl (lv_at hl 0 rfl) ?_
  exact W.zret (v := 1) hx hb hr rfl (fun t ht hW => ⟨⟨1, 1, rfl, rfl, ws_493, ty_494, hsm, htx, by rw [ht]; exact hP, va_K.moved hW.alike hK, hD, Or.inr ⟨rfl, b_367, _, _, rch_no (((Rch.rf (0, ts, σ, T)).st (st_not iw_37 (by omega))).tr hr_365), by omega, by rw [len_a1]; omega, (⟨kc_521, cc_522, tc_523, fc_524, kb_525, cb_526, tb_527, fb_528, hp_529, hT_530, er_531, et_532, wr_533, wt_534, ec_535, uc_536, wc_537, hc_538, eb_539, ub_540, wb_541, hb_542⟩ : RSX ρ ws_493 ty_494 f9 rd krd tp ktp cd bb tl b_367 (T_361 ++ [(3, 0, 0, 0)]) nk fr fk fp vl_362)⟩⟩, hS.F ht⟩) hS.2.2 dX4_readOne_100
set_option maxHeartbeats 4000000 in
set_option maxRecDepth 100000 in
theorem r_readEither3 (l : Launch) (D : va_G) (ρ : Nat → Nat) (ws : va_W) (tys : List (ClassId × FieldType)) (adK adV : Nat → Nat) (fo : Option Nat) (f9 : Nat → Int32) (rd krd tp ktp cd bb tl ts : Nat) (T : List Tk) (nk : Int64) (fr fk fp vl : Int32) (σ : List Nat) (sz : Nat) (htl : tl ≤ 400) (hng : ∀ i : Nat, i < tl → ¬ f9 i = -1) (R0 : RSX ρ ws tys f9 rd krd tp ktp cd bb tl ts T nk fr fk fp vl) (hbs : bas σ) (hdp : dep σ = 3) (hT2 : 2 * T.length ≤ ts) : Met l yX4_readEither wsX4_readEither ({ frames := 14, cells := 0, slots := 0, locals := 316 }) (va_Pc [.ref rd, .int 3] (fun U => U.heap.size = sz ∧ va_P D vwCl ws U.heap ∧ va_K D vwCl tys U ∧ va_D (fun _ => True) ws ∧ SZ adK adV fo (va_A ws sz) U U.heap)) (va_Qi (fun (r : Int32) (s9 : Int32) => r = s9) (fun (s9 : Int32) (t : State) => ∃ (ws' : va_W) (tys' : List (ClassId × FieldType)), sm ρ [4, 6] ws ws' ∧ tyx tys tys' ∧ va_P D vwCl ws' t.heap ∧ va_K D vwCl tys' t ∧ va_D (va_A ws sz) ws' ∧ ((s9 = 0 ∧ FLT ρ ws' tys' f9 rd krd tp ktp cd bb tl (0, ts, σ, T) nk fr) ∨ (s9 = 1 ∧ EIT ρ ws' tys' f9 rd krd tp ktp cd bb tl ts σ T nk fr fk fp))) (va_A ws sz)) 0 0 (va_A ws sz) := by
  refine Met.ofW (cc := cX4_readEither) (maxL := 6) (ret := (some .boolean)) (by decide) rfl ?_
  intro p e s m args below meth c s₁ B hml hv
  obtain ⟨rfl, hsz, hP, hK, hD0, hsz9⟩ := hv
  have hx := B.exec
  have hb := B.bytes
  have hr := B.returns
  have hts := atoms_spec (ws := wsX4_readEither) B.pre
  have hown : s.vm.findClass RX4 = some m.cls := findClass_of_methodNamed B.named
  have hlocks := B.notSynchronized
  subst hsz
  have hD := hD0.self (sz := s.heap.size)
  generalize hAe : va_A ws s.heap.size = A at hD hsz9 ⊢
  have hA : ∀ q : Nat, s.heap.size ≤ q → A q := fun q h => by rw [← hAe]; exact Or.inr h
  have hS : va_S A s.heap s.heap [] := va_S.rf
  have hsm : sm ρ [4, 6] ws ws := sm.rf ws
  have htx : tyx tys tys := tyx.rf tys
  have hin4 : ∀ w ∈ u_ws RX4 TX4 8, w ∈ wsX4_readEither := (fun _ h9 => List.mem_cons_of_mem _ (List.mem_append_left _ ((List.mem_append_right _ h9))))
  have hl := lv_entry ([.ref rd, .int 3]) (n := 6) (Nat.le_of_ble_eq_true rfl)
  rw [lg_entry_eq]
  generalize (lg_sl ([.ref rd, .int 3]) ++ List.replicate (6 - (lg_sl ([.ref rd, .int 3])).length) Slot.unset).toArray = ls at hl ⊢
  have hl : lv_has ls 6 [(0, .ref rd), (1, .int 3)] := hl
  obtain ⟨kc_1, cc_2, tc_3, fc_4, kb_5, cb_6, tb_7, fb_8, hp_9, hT_10, er_11, et_12, wr_13, wt_14, ec_15, uc_16, wc_17, hc_18, eb_19, ub_20, wb_21, hb_22⟩ := id R0
  have hp_91 := hp_9.1
  have hp_9t := teF_le (f := f9) hp_9.1
  refine lv_aload_n hx hb dX4_readEither_0 rfl (lv_at hl 0 rfl) ?_
  refine lv_iload_n hx hb dX4_readEither_1 rfl (lv_at hl 1 rfl) ?_
  have hFc := free_all hD hS hA
  refine va_calli (va_runV (As := [.int 3]) (rest := []) ⟨hx, hb, hml, hown, hts⟩ (r_readOne3 l D ρ ws tys adK adV fo f9 rd krd tp ktp cd bb tl ts T nk fr fk fp vl σ s.heap.size htl hng (⟨kc_1, cc_2, tc_3, fc_4, kb_5, cb_6, tb_7, fb_8, hp_9, hT_10, er_11, et_12, wr_13, wt_14, ec_15, uc_16, wc_17, hc_18, eb_19, ub_20, wb_21, hb_22⟩ : RSX ρ ws tys f9 rd krd tp ktp cd bb tl ts T nk fr fk fp vl) hdp (by omega)) (cwV 1 hts gX4_readEither_X4_readOne rfl rfl rfl (by decide +kernel) ⟨Nat.le_of_ble_eq_true rfl, Nat.le_of_ble_eq_true rfl⟩) ⟨fun a U g mk q => by obtain ⟨q0, q1, qP, qK, qD, qS⟩ := q; exact ⟨q0, q1, qP, va_K.moved (u := U) (U := U.calling g mk a) (Vm.Alike.refl U.vm) qK, qD, SZ.same rfl rfl qS⟩, va_recv hK hP (ci := 4) (q0 := krd) rfl er_11, fun U hU hW => ⟨rfl, by rw [hU], by rw [hU]; exact hP, va_K.moved hW.alike hK, hD.weaken (fun _ _ _ _ => trivial), hsz9.go hS hW hU hFc⟩⟩ rfl rfl hl.1 rfl (lv_room (Nat.le_of_ble_eq_true rfl)) dX4_readEither_2 ⟨Nat.le_of_ble_eq_true rfl, Nat.le_of_ble_eq_true rfl⟩) hS (fun q _ h => hFc q h) hFc (fun r_23 u t H1 locs ht hvm w_24 hB hz1 hk1 hS => ?_)
  subst w_24
  obtain ⟨ws_25, ty_26, hm_27, ht_29, hP1, hK1, hD1, hx_28⟩ := hB
  rw [ht] at hP1
  have hK := va_K.moved hvm.symm hK1
  have hD := hD1.weaken (fun _ _ _ h => hFc _ h)
  generalize H1 = H at hP1 hS ⊢
  have hP := hP1
  obtain ⟨g_31, e_30, h_32⟩ := hm_27.obj er_11
  obtain ⟨z_33, z_34, z_35, z_36, z_37, z_38, rfl⟩ := smX4 h_32
  obtain ⟨g_40, e_39, h_41⟩ := hm_27.obj et_12
  obtain ⟨z_42, z_43, z_44, z_45, rfl⟩ := smX6 h_41
  obtain ⟨f_47, e_46⟩ := hm_27.arrI ec_15
  have u_48 := ht_29 _ _ uc_16
  have e_49 := hm_27.keep (by rw [wb_21]; omega) eb_19
  have u_50 := ht_29 _ _ ub_20
  have hsm := hsm.tr (hm_27.mono (by decide))
  have htx := htx.tr ht_29
  refine lv_istore_n (lv' := [(2, .int r_23), (0, .ref rd), (1, .int 3)]) hx hb dX4_readEither_5 rfl hl (by decide) rfl (fun ls hl => ?_)
  refine lv_iconst (v := 0) hx hb dX4_readEither_6 (by decide) ?_
  refine lv_istore_n (lv' := [(3, .int 0), (2, .int r_23), (0, .ref rd), (1, .int 3)]) hx hb dX4_readEither_7 rfl hl (by decide) rfl (fun ls hl => ?_)
  refine lv_iconst (v := 0) hx hb dX4_readEither_8 (by decide) ?_
  refine lv_istore (lv' := [(4, .int 0), (3, .int 0), (2, .int r_23), (0, .ref rd), (1, .int 3)]) hx hb dX4_readEither_9 hl (by decide) rfl (fun ls hl => ?_)
  refine lp_V (nL := 6) (σ := Nat × Int32 × Int32) (lv := fun x9 => [(4, .int (nI x9.1)), (2, .int x9.2.1), (3, .int x9.2.2), (1, .int 3), (0, .ref rd)]) (μ := fun x9 => 400 - x9.1) (J := fun x9 ws9 => sm ρ [4, 6] ws_25 ws9 ∧ (∃ ty9 : List (ClassId × FieldType), va_K D vwCl ty9 s ∧ tyx tys ty9 ∧ ((x9.2.1 = 1 ∧ (x9.2.2 = 0 ∨ x9.2.2 = 1) ∧ LPE ρ ws9 ty9 f9 rd krd tp ktp cd bb tl ts σ T nk fr fk fp x9.1 x9.2.2) ∨ (x9.2.1 = 0 ∧ (x9.2.2 = 0 ∨ x9.2.2 = 1) ∧ FLT ρ ws9 ty9 f9 rd krd tp ktp cd bb tl (0, ts, σ, T) nk fr))) ∧ (x9.1 ≤ 400)) (fun x9 ws_56 H locs ls hj hP hD hS hl ih_51 => ?_) (0, r_23, 0) ws_25 _ _ ls ⟨sm.rf _, ⟨ty_26, hK, htx, by rcases hx_28 with ⟨h0, h⟩ | ⟨h0, b9, T9, vl, hr, g1, g2, h⟩; exact Or.inr ⟨h0, Or.inl rfl, h⟩; exact Or.inl ⟨h0, Or.inl rfl, ⟨b9, σ, T9, vl, rch_bs hbs hr, ow_0 hbs, by omega, fun (h9 : (0 : Int32) = 1) => absurd h9 (by decide), fun _ => by rw [hbs.fx.2.2.2.1, List.append_nil]; omega, by rw [hbs.fx.2.2.2.1, List.append_nil]; exact h⟩⟩⟩, (show 0 ≤ 400 from by omega)⟩ hP hD hS (lv_sub hl [0, 2, 1, 4, 3] rfl)
  obtain ⟨i_52, x_53, y_54⟩ := x9
  replace hj : sm ρ [4, 6] ws_25 ws_56 ∧ (∃ ty9 : List (ClassId × FieldType), va_K D vwCl ty9 s ∧ tyx tys ty9 ∧ ((x_53 = 1 ∧ (y_54 = 0 ∨ y_54 = 1) ∧ LPE ρ ws_56 ty9 f9 rd krd tp ktp cd bb tl ts σ T nk fr fk fp i_52 y_54) ∨ (x_53 = 0 ∧ (y_54 = 0 ∨ y_54 = 1) ∧ FLT ρ ws_56 ty9 f9 rd krd tp ktp cd bb tl (0, ts, σ, T) nk fr))) ∧ (i_52 ≤ 400) := hj
  obtain ⟨hm_57, hR_59, hi_55⟩ := hj
  obtain ⟨g_61, e_60, h_62⟩ := hm_57.obj e_30
  obtain ⟨z_63, z_64, z_65, z_66, z_67, z_68, rfl⟩ := smX4 h_62
  obtain ⟨g_70, e_69, h_71⟩ := hm_57.obj e_39
  obtain ⟨z_72, z_73, z_74, z_75, rfl⟩ := smX6 h_71
  obtain ⟨f_77, e_76⟩ := hm_57.arrI e_46
  have e_78 := hm_57.keep (by rw [wb_21]; omega) e_49
  have hsm := hsm.tr (hm_57.mono (by decide))
  have hlp_58 := hm_57
  have hl : lv_has ls 6 [(4, .int (nI i_52)), (2, .int x_53), (3, .int y_54), (1, .int 3), (0, .ref rd)] := hl
  refine lv_iload hx hb dX4_readEither_11 (lv_at hl 0 rfl) ?_
  obtain ⟨ty_79, hK, htx, hR_80⟩ := hR_59
  rcases hR_80 with ⟨rfl, rfl | rfl, b_81, ta_82, T_83, vl_84, hr_85, ow_86, gi_87, ga_88, gb_89, hR_90⟩ | ⟨rfl, rfl | rfl, k_91, p_92, ts_93, T_83, vl_84, hk_94, hk_95, hr_85, hR_90⟩
  · have gb_89 := gb_89 rfl
    obtain ⟨kc_96, cc_97, tc_98, fc_99, kb_100, cb_101, tb_102, fb_103, hp_104, hT_105, er_106, et_107, wr_108, wt_109, ec_110, uc_111, wc_112, hc_113, eb_114, ub_115, wb_116, hb_117⟩ := id hR_90
    have hp_1041 := hp_104.1
    have hp_104t := teF_le (f := f9) hp_104.1
    refine lv_sipush (v := 400) hx hb dX4_readEither_13 (by decide) ?_
    refine lv_icmp_ge (tgt := 101) hx hb dX4_readEither_16 (by decide) (fun c_118 => ?_) (fun c_118 => ?_)
    · have d_119 := n_le (a := 400) (b := i_52) (by omega) (by omega) c_118
      refine lv_iload_n hx hb dX4_readEither_101 rfl (lv_at hl 2 rfl) ?_
      refine lv_if_eq (tgt := 111) hx hb dX4_readEither_102 (by decide) (fun c_120 => ?_) (fun c_120 => absurd (by decide) c_120)
      refine lv_iload_n hx hb dX4_readEither_111 rfl (lv_at hl 1 rfl) ?_
      exact W.zret (v := 1) hx hb hr rfl (fun t ht hW => ⟨⟨1, 1, rfl, rfl, ws_56, ty_79, hsm, htx, by rw [ht]; exact hP, va_K.moved hW.alike hK, hD, (by exfalso; omega)⟩, hS.F ht⟩) hS.2.2 dX4_readEither_112
    have d_121 := n_nle (a := 400) (b := i_52) (by omega) (by omega) c_118
    refine lv_iload_n hx hb dX4_readEither_19 rfl (lv_at hl 1 rfl) ?_
    refine lv_if_eq (tgt := 101) hx hb dX4_readEither_20 (by decide) (fun c_122 => absurd c_122 (by decide)) (fun c_122 => ?_)
    refine lv_aload_n hx hb dX4_readEither_23 rfl (lv_at hl 4 rfl) ?_
    have hFc := free_all hD hS hA
    refine va_calli (va_runV (As := []) (rest := []) ⟨hx, hb, hml, hown, hts⟩ (r_isAndOr l D (rz []) ws_56 ty_79 adK adV fo f9 rd krd tp ktp cd tl b_81 nk fr fk fp (nI (T_83 ++ eA ta_82).length) vl_84 bb kb_100 cb_101 tb_102 fb_103 H.size er_106 htl hb_117 hng hp_104 et_107 eb_114 ub_115 rz_o0) (cwV 0 hts gX4_readEither_X4_isAndOr rfl rfl rfl (by decide +kernel) ⟨Nat.le_of_ble_eq_true rfl, Nat.le_of_ble_eq_true rfl⟩) ⟨fun a U g mk q => by obtain ⟨q0, q1, qP, qK, qD, qS⟩ := q; exact ⟨q0, q1, qP, va_K.moved (u := U) (U := U.calling g mk a) (Vm.Alike.refl U.vm) qK, qD, SZ.same rfl rfl qS⟩, va_recv hK hP (ci := 4) (q0 := krd) rfl er_106, fun U hU hW => ⟨rfl, by rw [hU], by rw [hU]; exact hP, va_K.moved hW.alike hK, hD.weaken (fun _ _ _ _ => trivial), hsz9.go hS hW hU hFc⟩⟩ rfl rfl hl.1 rfl (lv_room (Nat.le_of_ble_eq_true rfl)) dX4_readEither_24 ⟨Nat.le_of_ble_eq_true rfl, Nat.le_of_ble_eq_true rfl⟩) hS (fun q _ h => hFc q h) hFc (fun r_123 u t H1 locs ht hvm w_124 hB hz1 hk1 hS => ?_)
    obtain ⟨ws_125, ty_126, hm_127, ht_129, hP1, hK1, hD1, hx_128⟩ := hB
    rw [ht] at hP1
    have hK := va_K.moved hvm.symm hK1
    have hD := hD1.weaken (fun _ _ _ h => hFc _ h)
    generalize H1 = H at hP1 hS ⊢
    have hP := hP1
    have e_130 := hm_127.keep rz_o0 er_106
    have e_131 := hm_127.keep rz_o0 et_107
    have e_132 := hm_127.keep rz_o0 ec_110
    have e_133 := hm_127.keep rz_o0 eb_114
    have u_134 := ht_129 _ _ uc_111
    have u_135 := ht_129 _ _ ub_115
    have hm_136 : sm ρ [] ws_56 ws_125 := hm_127.up (fun k _ h => rz_u0  k h)
    have hsm := hsm.tr (hm_136.mono (by decide))
    have hlp_58 := hlp_58.tr (hm_136.mono (by decide))
    have htx := htx.tr ht_129
    rcases w_124 with ⟨rfl, ao_137⟩ | ⟨rfl, ao_137⟩
    · refine lv_if_eq (tgt := 101) hx hb dX4_readEither_27 (by decide) (fun c_138 => ?_) (fun c_138 => absurd (by decide) c_138)
      refine lv_iload_n hx hb dX4_readEither_101 rfl (lv_at hl 2 rfl) ?_
      refine lv_if_eq (tgt := 111) hx hb dX4_readEither_102 (by decide) (fun c_139 => ?_) (fun c_139 => absurd (by decide) c_139)
      refine lv_iload_n hx hb dX4_readEither_111 rfl (lv_at hl 1 rfl) ?_
      exact W.zret (v := 1) hx hb hr rfl (fun t ht hW => ⟨⟨1, 1, rfl, rfl, ws_125, ty_126, hsm, htx, by rw [ht]; exact hP, va_K.moved hW.alike hK, hD, Or.inr ⟨rfl, b_81, ta_82, T_83, _, hr_85, ow_jO hbs ow_86, ao_137, by omega, by rw [(ow_eO hbs ow_86).1 rfl]; omega, by rw [(ow_eO hbs ow_86).1 rfl]; exact (⟨kc_96, cc_97, tc_98, fc_99, kb_100, cb_101, tb_102, fb_103, hp_104, hT_105, e_130, e_131, wr_108, wt_109, e_132, u_134, wc_112, hc_113, e_133, u_135, wb_116, hb_117⟩ : RSX ρ ws_125 ty_126 f9 rd krd tp ktp cd bb tl b_81 (T_83 ++ eA ta_82) nk fr fk fp vl_84)⟩⟩, hS.F ht⟩) hS.2.2 dX4_readEither_112
    refine lv_if_eq (tgt := 101) hx hb dX4_readEither_27 (by decide) (fun c_140 => absurd c_140 (by decide)) (fun c_140 => ?_)
    refine lv_aload_n hx hb dX4_readEither_30 rfl (lv_at hl 4 rfl) ?_
    refine va_get (D := D) (ci := 4) (v := .ref tp) (C := RX4) (T := TX4) (N := 8) hx hb hts hin4 hown hK hP krd e_130 rfl 0 (by decide) (hts (.fieldLink RX4 12 "HoneyHouse$RuleReader" "tape" "LHoneyHouse$Tape;") (List.mem_of_getElem? (i := 1) rfl)) (fun _ h9 => h9) rfl dX4_readEither_31 ?_
    refine va_ldcS hx hb hown hsz9.2.2.2.2.2.1 dX4_readEither_34 ?_
    have hFc := free_all hD hS hA
    refine va_calli (va_runV (As := [.ref (adK 2)]) (rest := []) ⟨hx, hb, hml, hown, hts⟩ (a_isWord l D (rz []) ws_125 ty_126 adK adV fo 2 f9 tp ktp tl b_81 bb kb_100 cb_101 tb_102 fb_103 H.size (by decide) htl hb_117 hng hp_104 e_131 e_133 u_135 rz_o0) (cwV 1 hts gX4_readEither_X6_isWord rfl rfl rfl (by decide +kernel) ⟨Nat.le_of_ble_eq_true rfl, Nat.le_of_ble_eq_true rfl⟩) ⟨fun a U g mk q => by obtain ⟨q0, q1, qP, qK, qD, qS⟩ := q; exact ⟨q0, q1, qP, va_K.moved (u := U) (U := U.calling g mk a) (Vm.Alike.refl U.vm) qK, qD, SZ.same rfl rfl qS⟩, va_recv hK hP (ci := 6) (q0 := ktp) rfl e_131, fun U hU hW => ⟨rfl, by rw [hU], by rw [hU]; exact hP, va_K.moved hW.alike hK, hD.weaken (fun _ _ _ _ => trivial), hsz9.go hS hW hU hFc⟩⟩ rfl rfl hl.1 rfl (lv_room (Nat.le_of_ble_eq_true rfl)) dX4_readEither_36 ⟨Nat.le_of_ble_eq_true rfl, Nat.le_of_ble_eq_true rfl⟩) hS (fun q _ h => hFc q h) hFc (fun r_141 u t H1 locs ht hvm w_142 hB hz1 hk1 hS => ?_)
    obtain ⟨ws_143, ty_144, hm_145, ht_147, hP1, hK1, hD1, hx_146⟩ := hB
    rw [ht] at hP1
    have hK := va_K.moved hvm.symm hK1
    have hD := hD1.weaken (fun _ _ _ h => hFc _ h)
    generalize H1 = H at hP1 hS ⊢
    have hP := hP1
    have e_148 := hm_145.keep rz_o0 e_130
    have e_149 := hm_145.keep rz_o0 e_131
    have e_150 := hm_145.keep rz_o0 e_132
    have e_151 := hm_145.keep rz_o0 e_133
    have u_152 := ht_147 _ _ u_134
    have u_153 := ht_147 _ _ u_135
    have hm_154 : sm ρ [] ws_125 ws_143 := hm_145.up (fun k _ h => rz_u0  k h)
    have hsm := hsm.tr (hm_154.mono (by decide))
    have hlp_58 := hlp_58.tr (hm_154.mono (by decide))
    have htx := htx.tr ht_147
    rcases w_142 with ⟨rfl, iw_155⟩ | ⟨rfl, iw_155⟩
    · have iw_155 : ¬ wdE f9 tl b_81 = 2 := iw_155
      refine lv_istore (lv' := [(5, .int 0), (4, .int (nI i_52)), (2, .int 1), (3, .int 0), (1, .int 3), (0, .ref rd)]) hx hb dX4_readEither_39 hl (by decide) rfl (fun ls hl => ?_)
      refine lv_iload hx hb dX4_readEither_41 (lv_at hl 0 rfl) ?_
      refine lv_if_ne (tgt := 56) hx hb dX4_readEither_43 (by decide) (fun c_156 => absurd (by decide) c_156) (fun c_156 => ?_)
      refine lv_iload_n hx hb dX4_readEither_46 rfl (lv_at hl 3 rfl) ?_
      refine lv_if_eq (tgt := 56) hx hb dX4_readEither_47 (by decide) (fun c_157 => ?_) (fun c_157 => absurd (by decide) c_157)
      refine lv_iload_n hx hb dX4_readEither_56 rfl (lv_at hl 3 rfl) ?_
      refine lv_if_ne (tgt := 65) hx hb dX4_readEither_57 (by decide) (fun c_158 => absurd (by decide) c_158) (fun c_158 => ?_)
      refine lv_iload hx hb dX4_readEither_60 (lv_at hl 0 rfl) ?_
      refine lv_if_ne (tgt := 69) hx hb dX4_readEither_62 (by decide) (fun c_159 => absurd (by decide) c_159) (fun c_159 => ?_)
      refine lv_iconst (v := 1) hx hb dX4_readEither_65 (by decide) ?_
      refine lv_goto (tgt := 70) hx hb dX4_readEither_66 (by decide) ?_
      refine lv_istore_n (lv' := [(3, .int 1), (5, .int 0), (4, .int (nI i_52)), (2, .int 1), (1, .int 3), (0, .ref rd)]) hx hb dX4_readEither_70 rfl hl (by decide) rfl (fun ls hl => ?_)
      have hw1 : wdE f9 tl b_81 = 1 := by omega
      have hw9 : b_81 + 2 ≤ nxF f9 tl b_81 ∧ nxF f9 tl b_81 ≤ tl := nx_wd hp_104.1 (j := 1) (by omega) hw1
      have hm9 : Rch f9 tl (0, ts, σ, T) (0, nxF f9 tl b_81, 1 :: σ, T_83 ++ eA ta_82) := by have h9 := hr_85.st (st_or hw1); rw [ow_jO hbs ow_86, (ow_eO hbs ow_86).1 rfl] at h9; exact h9
      have hdq : dep (1 :: σ) = dep σ := dep_n _ (by omega)
      refine lv_aload_n hx hb dX4_readEither_71 rfl (lv_at hl 5 rfl) ?_
      refine va_get (D := D) (ci := 4) (v := .ref tp) (C := RX4) (T := TX4) (N := 8) hx hb hts hin4 hown hK hP krd e_148 rfl 0 (by decide) (hts (.fieldLink RX4 12 "HoneyHouse$RuleReader" "tape" "LHoneyHouse$Tape;") (List.mem_of_getElem? (i := 1) rfl)) (fun _ h9 => h9) rfl dX4_readEither_72 ?_
      have hFc := free_all hD hS hA
      refine va_callv (va_runV (As := []) (rest := []) ⟨hx, hb, hml, hown, hts⟩ (a_advance l D (rz [ktp]) ws_143 ty_144 f9 tp ktp tl (teF f9 tl b_81) (nI (kdF f9 tl b_81)) (nI b_81) bb kb_100 cb_101 tb_102 fb_103 H.size htl hb_117 hng (by omega) e_149 e_151 u_153 (rz_o1 (pl_ne e_151 e_149 (by intro h9; simp at h9))) (rz_in (by simp))) (cwV 0 hts gX4_readEither_X6_advance rfl rfl rfl (by decide +kernel) ⟨Nat.le_of_ble_eq_true rfl, Nat.le_of_ble_eq_true rfl⟩) ⟨fun a U g mk q => by obtain ⟨q0, q1, qP, qK, qD⟩ := q; exact ⟨q0, q1, qP, va_K.moved (u := U) (U := U.calling g mk a) (Vm.Alike.refl U.vm) qK, qD⟩, va_recv hK hP (ci := 6) (q0 := ktp) rfl e_149, fun U hU hW => ⟨rfl, by rw [hU], by rw [hU]; exact hP, va_K.moved hW.alike hK, hD.weaken (fun _ _ _ _ => trivial)⟩⟩ rfl rfl hl.1 rfl (lv_room (Nat.le_of_ble_eq_true rfl)) dX4_readEither_75 ⟨Nat.le_of_ble_eq_true rfl, Nat.le_of_ble_eq_true rfl⟩) hS (fun q _ h => hFc q h) hFc (fun u t H1 locs ht hvm w_161 hB hz1 hk1 hS => ?_)
      obtain ⟨ws_162, ty_163, hm_164, ht_166, hP1, hK1, hD1, hx_165⟩ := hB
      rw [ht] at hP1
      have hK := va_K.moved hvm.symm hK1
      have hD := hD1.weaken (fun _ _ _ h => hFc _ h)
      generalize H1 = H at hP1 hS ⊢
      have hP := hP1
      have e_167 := hm_164.keep (rz_o1 (pl_ne e_148 e_149 (by intro h9; simp at h9))) e_148
      have e_168 := hm_164.keep (rz_o1 (pl_ne e_150 e_149 (by intro h9; simp at h9))) e_150
      have e_169 := hm_164.keep (rz_o1 (pl_ne e_151 e_149 (by intro h9; simp at h9))) e_151
      have u_170 := ht_166 _ _ u_152
      have u_171 := ht_166 _ _ u_153
      have hm_172 : sm ρ [6] ws_143 ws_162 := hm_164.up (fun k _ h => rz_u1 wt_109 k h)
      have hsm := hsm.tr (hm_172.mono (by decide))
      have hlp_58 := hlp_58.tr (hm_172.mono (by decide))
      have htx := htx.tr ht_166
      have e_173 : ws_162[ktp]? = some (tp, .inr (6, [.int (nI tl), .int (nI (kdF f9 tl (nxF f9 tl b_81))), .int (nI (nxF f9 tl b_81)), .int (nI (teF f9 tl (nxF f9 tl b_81))), .ref bb])) := hx_165; have hq_174 : pcB f9 tl (nxF f9 tl b_81) := nxF_pc (f := f9) hp_104.1; have hq_1741 := hq_174.1; have hq_174t := teF_le (f := f9) hq_174.1; have hg_175 := nx_gain (f := f9) hp_104.1
      refine lv_aload_n hx hb dX4_readEither_78 rfl (lv_at hl 5 rfl) ?_
      refine lv_iload_n hx hb dX4_readEither_79 rfl (lv_at hl 4 rfl) ?_
      have hFc := free_all hD hS hA
      refine va_calli (va_runV (As := [.int 3]) (rest := []) ⟨hx, hb, hml, hown, hts⟩ (r_readOne3 l D ρ ws_162 ty_163 adK adV fo f9 rd krd tp ktp cd bb tl (nxF f9 tl b_81) (T_83 ++ eA ta_82) nk fr fk fp vl_84 (1 :: σ) H.size htl hng (⟨kc_96, cc_97, tc_98, fc_99, kb_100, cb_101, tb_102, fb_103, hq_174, hT_105, e_167, e_173, wr_108, wt_109, e_168, u_170, wc_112, hc_113, e_169, u_171, wb_116, hb_117⟩ : RSX ρ ws_162 ty_163 f9 rd krd tp ktp cd bb tl (nxF f9 tl b_81) (T_83 ++ eA ta_82) nk fr fk fp vl_84) (hdq.trans hdp) (by omega)) (cwV 1 hts gX4_readEither_X4_readOne rfl rfl rfl (by decide +kernel) ⟨Nat.le_of_ble_eq_true rfl, Nat.le_of_ble_eq_true rfl⟩) ⟨fun a U g mk q => by obtain ⟨q0, q1, qP, qK, qD, qS⟩ := q; exact ⟨q0, q1, qP, va_K.moved (u := U) (U := U.calling g mk a) (Vm.Alike.refl U.vm) qK, qD, SZ.same rfl rfl qS⟩, va_recv hK hP (ci := 4) (q0 := krd) rfl e_167, fun U hU hW => ⟨rfl, by rw [hU], by rw [hU]; exact hP, va_K.moved hW.alike hK, hD.weaken (fun _ _ _ _ => trivial), hsz9.go hS hW hU hFc⟩⟩ rfl rfl hl.1 rfl (lv_room (Nat.le_of_ble_eq_true rfl)) dX4_readEither_80 ⟨Nat.le_of_ble_eq_true rfl, Nat.le_of_ble_eq_true rfl⟩) hS (fun q _ h => hFc q h) hFc (fun r_176 u t H1 locs ht hvm w_177 hB hz1 hk1 hS => ?_)
      subst w_177
      obtain ⟨ws_178, ty_179, hm_180, ht_182, hP1, hK1, hD1, hx_181⟩ := hB
      rw [ht] at hP1
      have hK := va_K.moved hvm.symm hK1
      have hD := hD1.weaken (fun _ _ _ h => hFc _ h)
      generalize H1 = H at hP1 hS ⊢
      have hP := hP1
      obtain ⟨g_184, e_183, h_185⟩ := hm_180.obj e_167
      obtain ⟨z_186, z_187, z_188, z_189, z_190, z_191, rfl⟩ := smX4 h_185
      obtain ⟨g_193, e_192, h_194⟩ := hm_180.obj e_173
      obtain ⟨z_195, z_196, z_197, z_198, rfl⟩ := smX6 h_194
      obtain ⟨f_200, e_199⟩ := hm_180.arrI e_168
      have u_201 := ht_182 _ _ u_170
      have e_202 := hm_180.keep (by rw [wb_116]; omega) e_169
      have u_203 := ht_182 _ _ u_171
      have hsm := hsm.tr (hm_180.mono (by decide))
      have hlp_58 := hlp_58.tr (hm_180.mono (by decide))
      have htx := htx.tr ht_182
      rcases hx_181 with ⟨rfl, k_204, p_205, ts_206, T_207, vl_208, hk_209, hk_210, hr_211, hR_212⟩ | ⟨rfl, b_213, T_207, vl_208, hr_211, hg_217, hg_218, hR_212⟩
      · obtain ⟨kc_219, cc_220, tc_221, fc_222, kb_223, cb_224, tb_225, fb_226, hp_227, hT_228, er_229, et_230, wr_231, wt_232, ec_233, uc_234, wc_235, hc_236, eb_237, ub_238, wb_239, hb_240⟩ := id hR_212
        have hp_2271 := hp_227.1
        have hp_227t := teF_le (f := f9) hp_227.1
        refine lv_istore_n (lv' := [(2, .int 0), (3, .int 1), (5, .int 0), (4, .int (nI i_52)), (1, .int 3), (0, .ref rd)]) hx hb dX4_readEither_83 rfl hl (by decide) rfl (fun ls hl => ?_)
        refine lv_iload hx hb dX4_readEither_84 (lv_at hl 2 rfl) ?_
        refine lv_if_eq (tgt := 95) hx hb dX4_readEither_86 (by decide) (fun c_241 => ?_) (fun c_241 => absurd (by decide) c_241)
        refine lv_iinc (v := nI (i_52 + 1)) (lv' := [(4, .int (nI (i_52 + 1))), (2, .int 0), (3, .int 1), (5, .int 0), (1, .int 3), (0, .ref rd)]) hx hb dX4_readEither_95 hl (k := 3) rfl (nI_add i_52 1) (by decide) rfl (fun ls hl => ?_)
        refine lv_goto (tgt := 11) hx hb dX4_readEither_98 (by decide) ?_
        exact ih_51 (i_52 + 1, 0, 1) ws_178 _ _ ls (by show 400 - (i_52 + 1) < 400 - i_52; omega) ⟨hlp_58, ⟨ty_179, hK, htx, Or.inr ⟨rfl, Or.inr rfl, (⟨k_204, p_205, _, _, _, by omega, by omega, hm9.tr hr_211, (⟨kc_219, cc_220, tc_221, fc_222, kb_223, cb_224, tb_225, fb_226, hp_227, hT_228, er_229, et_230, wr_231, wt_232, ec_233, uc_234, wc_235, hc_236, eb_237, ub_238, wb_239, hb_240⟩ : RSX ρ ws_178 ty_179 f9 rd krd tp ktp cd bb tl ts_206 T_207 nk fr (nI k_204) (nI p_205) vl_208)⟩ : FLT ρ ws_178 ty_179 f9 rd krd tp ktp cd bb tl (0, ts, σ, T) nk fr)⟩⟩, (show (i_52 + 1) ≤ 400 from by omega)⟩ hP hD hS (lv_sub hl [0, 1, 2, 4, 5] rfl)
      obtain ⟨kc_242, cc_243, tc_244, fc_245, kb_246, cb_247, tb_248, fb_249, hp_250, hT_251, er_252, et_253, wr_254, wt_255, ec_256, uc_257, wc_258, hc_259, eb_260, ub_261, wb_262, hb_263⟩ := id hR_212
      have hp_2501 := hp_250.1
      have hp_250t := teF_le (f := f9) hp_250.1
      refine lv_istore_n (lv' := [(2, .int 1), (3, .int 1), (5, .int 0), (4, .int (nI i_52)), (1, .int 3), (0, .ref rd)]) hx hb dX4_readEither_83 rfl hl (by decide) rfl (fun ls hl => ?_)
      refine lv_iload hx hb dX4_readEither_84 (lv_at hl 2 rfl) ?_
      refine lv_if_eq (tgt := 95) hx hb dX4_readEither_86 (by decide) (fun c_264 => ?_) (fun c_264 => absurd (by decide) c_264)
      refine lv_iinc (v := nI (i_52 + 1)) (lv' := [(4, .int (nI (i_52 + 1))), (2, .int 1), (3, .int 1), (5, .int 0), (1, .int 3), (0, .ref rd)]) hx hb dX4_readEither_95 hl (k := 3) rfl (nI_add i_52 1) (by decide) rfl (fun ls hl => ?_)
      refine lv_goto (tgt := 11) hx hb dX4_readEither_98 (by decide) ?_
      exact ih_51 (i_52 + 1, 1, 1) ws_178 _ _ ls (by show 400 - (i_52 + 1) < 400 - i_52; omega) ⟨hlp_58, ⟨ty_179, hK, htx, Or.inl ⟨rfl, Or.inr rfl, (⟨b_213, 1 :: σ, T_207, _, hm9.tr (rch_an (by omega) hr_211), ow_or, by omega, fun _ => by rw [eA_n _ (by omega), List.append_nil]; omega, fun h9 => absurd h9 (by decide), by rw [eA_n _ (by omega), List.append_nil]; exact (⟨kc_242, cc_243, tc_244, fc_245, kb_246, cb_247, tb_248, fb_249, hp_250, hT_251, er_252, et_253, wr_254, wt_255, ec_256, uc_257, wc_258, hc_259, eb_260, ub_261, wb_262, hb_263⟩ : RSX ρ ws_178 ty_179 f9 rd krd tp ktp cd bb tl b_213 T_207 nk fr fk fp vl_208)⟩ : LPE ρ ws_178 ty_179 f9 rd krd tp ktp cd bb tl ts σ T nk fr fk fp (i_52 + 1) 1)⟩⟩, (show (i_52 + 1) ≤ 400 from by omega)⟩ hP hD hS (lv_sub hl [0, 1, 2, 4, 5] rfl)
    have iw_155 : wdE f9 tl b_81 = 2 := iw_155
    refine lv_istore (lv' := [(5, .int 1), (4, .int (nI i_52)), (2, .int 1), (3, .int 0), (1, .int 3), (0, .ref rd)]) hx hb dX4_readEither_39 hl (by decide) rfl (fun ls hl => ?_)
    refine lv_iload hx hb dX4_readEither_41 (lv_at hl 0 rfl) ?_
    refine lv_if_ne (tgt := 56) hx hb dX4_readEither_43 (by decide) (fun c_265 => ?_) (fun c_265 => absurd c_265 (by decide))
    refine lv_iload_n hx hb dX4_readEither_56 rfl (lv_at hl 3 rfl) ?_
    refine lv_if_ne (tgt := 65) hx hb dX4_readEither_57 (by decide) (fun c_266 => absurd (by decide) c_266) (fun c_266 => ?_)
    refine lv_iload hx hb dX4_readEither_60 (lv_at hl 0 rfl) ?_
    refine lv_if_ne (tgt := 69) hx hb dX4_readEither_62 (by decide) (fun c_267 => ?_) (fun c_267 => absurd c_267 (by decide))
    refine lv_iconst (v := 0) hx hb dX4_readEither_69 (by decide) ?_
    refine lv_istore_n (lv' := [(3, .int 0), (5, .int 1), (4, .int (nI i_52)), (2, .int 1), (1, .int 3), (0, .ref rd)]) hx hb dX4_readEither_70 rfl hl (by decide) rfl (fun ls hl => ?_)
    have hw9 : b_81 + 3 ≤ nxF f9 tl b_81 ∧ nxF f9 tl b_81 ≤ tl := nx_wd hp_104.1 (j := 2) (by omega) iw_155
    have hm9 : Rch f9 tl (0, ts, σ, T) (0, nxF f9 tl b_81, 2 :: jA ta_82, T_83 ++ eA ta_82) := hr_85.st (st_and iw_155)
    have hdq : dep (2 :: jA ta_82) = dep σ := (dep_n _ (by omega)).trans ((dep_jA _).trans ((dep_jO _).symm.trans (congrArg dep (ow_jO hbs ow_86))))
    refine lv_aload_n hx hb dX4_readEither_71 rfl (lv_at hl 5 rfl) ?_
    refine va_get (D := D) (ci := 4) (v := .ref tp) (C := RX4) (T := TX4) (N := 8) hx hb hts hin4 hown hK hP krd e_148 rfl 0 (by decide) (hts (.fieldLink RX4 12 "HoneyHouse$RuleReader" "tape" "LHoneyHouse$Tape;") (List.mem_of_getElem? (i := 1) rfl)) (fun _ h9 => h9) rfl dX4_readEither_72 ?_
    have hFc := free_all hD hS hA
    refine va_callv (va_runV (As := []) (rest := []) ⟨hx, hb, hml, hown, hts⟩ (a_advance l D (rz [ktp]) ws_143 ty_144 f9 tp ktp tl (teF f9 tl b_81) (nI (kdF f9 tl b_81)) (nI b_81) bb kb_100 cb_101 tb_102 fb_103 H.size htl hb_117 hng (by omega) e_149 e_151 u_153 (rz_o1 (pl_ne e_151 e_149 (by intro h9; simp at h9))) (rz_in (by simp))) (cwV 0 hts gX4_readEither_X6_advance rfl rfl rfl (by decide +kernel) ⟨Nat.le_of_ble_eq_true rfl, Nat.le_of_ble_eq_true rfl⟩) ⟨fun a U g mk q => by obtain ⟨q0, q1, qP, qK, qD⟩ := q; exact ⟨q0, q1, qP, va_K.moved (u := U) (U := U.calling g mk a) (Vm.Alike.refl U.vm) qK, qD⟩, va_recv hK hP (ci := 6) (q0 := ktp) rfl e_149, fun U hU hW => ⟨rfl, by rw [hU], by rw [hU]; exact hP, va_K.moved hW.alike hK, hD.weaken (fun _ _ _ _ => trivial)⟩⟩ rfl rfl hl.1 rfl (lv_room (Nat.le_of_ble_eq_true rfl)) dX4_readEither_75 ⟨Nat.le_of_ble_eq_true rfl, Nat.le_of_ble_eq_true rfl⟩) hS (fun q _ h => hFc q h) hFc (fun u t H1 locs ht hvm w_269 hB hz1 hk1 hS => ?_)
    obtain ⟨ws_270, ty_271, hm_272, ht_274, hP1, hK1, hD1, hx_273⟩ := hB
    rw [ht] at hP1
    have hK := va_K.moved hvm.symm hK1
    have hD := hD1.weaken (fun _ _ _ h => hFc _ h)
    generalize H1 = H at hP1 hS ⊢
    have hP := hP1
    have e_275 := hm_272.keep (rz_o1 (pl_ne e_148 e_149 (by intro h9; simp at h9))) e_148
    have e_276 := hm_272.keep (rz_o1 (pl_ne e_150 e_149 (by intro h9; simp at h9))) e_150
    have e_277 := hm_272.keep (rz_o1 (pl_ne e_151 e_149 (by intro h9; simp at h9))) e_151
    have u_278 := ht_274 _ _ u_152
    have u_279 := ht_274 _ _ u_153
    have hm_280 : sm ρ [6] ws_143 ws_270 := hm_272.up (fun k _ h => rz_u1 wt_109 k h)
    have hsm := hsm.tr (hm_280.mono (by decide))
    have hlp_58 := hlp_58.tr (hm_280.mono (by decide))
    have htx := htx.tr ht_274
    have e_281 : ws_270[ktp]? = some (tp, .inr (6, [.int (nI tl), .int (nI (kdF f9 tl (nxF f9 tl b_81))), .int (nI (nxF f9 tl b_81)), .int (nI (teF f9 tl (nxF f9 tl b_81))), .ref bb])) := hx_273; have hq_282 : pcB f9 tl (nxF f9 tl b_81) := nxF_pc (f := f9) hp_104.1; have hq_2821 := hq_282.1; have hq_282t := teF_le (f := f9) hq_282.1; have hg_283 := nx_gain (f := f9) hp_104.1
    refine lv_aload_n hx hb dX4_readEither_78 rfl (lv_at hl 5 rfl) ?_
    refine lv_iload_n hx hb dX4_readEither_79 rfl (lv_at hl 4 rfl) ?_
    have hFc := free_all hD hS hA
    refine va_calli (va_runV (As := [.int 3]) (rest := []) ⟨hx, hb, hml, hown, hts⟩ (r_readOne3 l D ρ ws_270 ty_271 adK adV fo f9 rd krd tp ktp cd bb tl (nxF f9 tl b_81) (T_83 ++ eA ta_82) nk fr fk fp vl_84 (2 :: jA ta_82) H.size htl hng (⟨kc_96, cc_97, tc_98, fc_99, kb_100, cb_101, tb_102, fb_103, hq_282, hT_105, e_275, e_281, wr_108, wt_109, e_276, u_278, wc_112, hc_113, e_277, u_279, wb_116, hb_117⟩ : RSX ρ ws_270 ty_271 f9 rd krd tp ktp cd bb tl (nxF f9 tl b_81) (T_83 ++ eA ta_82) nk fr fk fp vl_84) (hdq.trans hdp) (by omega)) (cwV 1 hts gX4_readEither_X4_readOne rfl rfl rfl (by decide +kernel) ⟨Nat.le_of_ble_eq_true rfl, Nat.le_of_ble_eq_true rfl⟩) ⟨fun a U g mk q => by obtain ⟨q0, q1, qP, qK, qD, qS⟩ := q; exact ⟨q0, q1, qP, va_K.moved (u := U) (U := U.calling g mk a) (Vm.Alike.refl U.vm) qK, qD, SZ.same rfl rfl qS⟩, va_recv hK hP (ci := 4) (q0 := krd) rfl e_275, fun U hU hW => ⟨rfl, by rw [hU], by rw [hU]; exact hP, va_K.moved hW.alike hK, hD.weaken (fun _ _ _ _ => trivial), hsz9.go hS hW hU hFc⟩⟩ rfl rfl hl.1 rfl (lv_room (Nat.le_of_ble_eq_true rfl)) dX4_readEither_80 ⟨Nat.le_of_ble_eq_true rfl, Nat.le_of_ble_eq_true rfl⟩) hS (fun q _ h => hFc q h) hFc (fun r_284 u t H1 locs ht hvm w_285 hB hz1 hk1 hS => ?_)
    subst w_285
    obtain ⟨ws_286, ty_287, hm_288, ht_290, hP1, hK1, hD1, hx_289⟩ := hB
    rw [ht] at hP1
    have hK := va_K.moved hvm.symm hK1
    have hD := hD1.weaken (fun _ _ _ h => hFc _ h)
    generalize H1 = H at hP1 hS ⊢
    have hP := hP1
    obtain ⟨g_292, e_291, h_293⟩ := hm_288.obj e_275
    obtain ⟨z_294, z_295, z_296, z_297, z_298, z_299, rfl⟩ := smX4 h_293
    obtain ⟨g_301, e_300, h_302⟩ := hm_288.obj e_281
    obtain ⟨z_303, z_304, z_305, z_306, rfl⟩ := smX6 h_302
    obtain ⟨f_308, e_307⟩ := hm_288.arrI e_276
    have u_309 := ht_290 _ _ u_278
    have e_310 := hm_288.keep (by rw [wb_116]; omega) e_277
    have u_311 := ht_290 _ _ u_279
    have hsm := hsm.tr (hm_288.mono (by decide))
    have hlp_58 := hlp_58.tr (hm_288.mono (by decide))
    have htx := htx.tr ht_290
    rcases hx_289 with ⟨rfl, k_312, p_313, ts_314, T_315, vl_316, hk_317, hk_318, hr_319, hR_320⟩ | ⟨rfl, b_321, T_315, vl_316, hr_319, hg_325, hg_326, hR_320⟩
    · obtain ⟨kc_327, cc_328, tc_329, fc_330, kb_331, cb_332, tb_333, fb_334, hp_335, hT_336, er_337, et_338, wr_339, wt_340, ec_341, uc_342, wc_343, hc_344, eb_345, ub_346, wb_347, hb_348⟩ := id hR_320
      have hp_3351 := hp_335.1
      have hp_335t := teF_le (f := f9) hp_335.1
      refine lv_istore_n (lv' := [(2, .int 0), (3, .int 0), (5, .int 1), (4, .int (nI i_52)), (1, .int 3), (0, .ref rd)]) hx hb dX4_readEither_83 rfl hl (by decide) rfl (fun ls hl => ?_)
      refine lv_iload hx hb dX4_readEither_84 (lv_at hl 2 rfl) ?_
      refine lv_if_eq (tgt := 95) hx hb dX4_readEither_86 (by decide) (fun c_349 => absurd c_349 (by decide)) (fun c_349 => ?_)
      refine lv_aload_n hx hb dX4_readEither_89 rfl (lv_at hl 5 rfl) ?_
      refine lv_bipush (v := (-2)) hx hb dX4_readEither_90 (by decide) ?_
      have hFc := free_all hD hS hA
      refine va_callv (va_runV (As := [.int (-2)]) (rest := []) ⟨hx, hb, hml, hown, hts⟩ (r_addCode l D ρ ws_286 ty_287 adK adV fo f9 rd krd tp ktp cd bb tl ts_314 T_315 nk fr (nI k_312) (nI p_313) vl_316 (2, 0, 0, 0) (-2) H.size htl hng (⟨kc_327, cc_328, tc_329, fc_330, kb_331, cb_332, tb_333, fb_334, hp_335, hT_336, er_337, et_338, wr_339, wt_340, ec_341, uc_342, wc_343, hc_344, eb_345, ub_346, wb_347, hb_348⟩ : RSX ρ ws_286 ty_287 f9 rd krd tp ktp cd bb tl ts_314 T_315 nk fr (nI k_312) (nI p_313) vl_316) rfl) (cwV 1 hts gX4_readEither_X4_addCode rfl rfl rfl (by decide +kernel) ⟨Nat.le_of_ble_eq_true rfl, Nat.le_of_ble_eq_true rfl⟩) ⟨fun a U g mk q => by obtain ⟨q0, q1, qP, qK, qD, qS⟩ := q; exact ⟨q0, q1, qP, va_K.moved (u := U) (U := U.calling g mk a) (Vm.Alike.refl U.vm) qK, qD, SZ.same rfl rfl qS⟩, va_recv hK hP (ci := 4) (q0 := krd) rfl er_337, fun U hU hW => ⟨rfl, by rw [hU], by rw [hU]; exact hP, va_K.moved hW.alike hK, hD.weaken (fun _ _ _ _ => trivial), hsz9.go hS hW hU hFc⟩⟩ rfl rfl hl.1 rfl (lv_room (Nat.le_of_ble_eq_true rfl)) dX4_readEither_92 ⟨Nat.le_of_ble_eq_true rfl, Nat.le_of_ble_eq_true rfl⟩) hS (fun q _ h => hFc q h) hFc (fun u t H1 locs ht hvm w_351 hB hz1 hk1 hS => ?_)
      obtain ⟨ws_352, ty_353, hm_354, ht_356, hP1, hK1, hD1, hx_355⟩ := hB
      rw [ht] at hP1
      have hK := va_K.moved hvm.symm hK1
      have hD := hD1.weaken (fun _ _ _ h => hFc _ h)
      generalize H1 = H at hP1 hS ⊢
      have hP := hP1
      obtain ⟨g_358, e_357, h_359⟩ := hm_354.obj er_337
      obtain ⟨z_360, z_361, z_362, z_363, z_364, z_365, rfl⟩ := smX4 h_359
      obtain ⟨g_367, e_366, h_368⟩ := hm_354.obj et_338
      obtain ⟨z_369, z_370, z_371, z_372, rfl⟩ := smX6 h_368
      obtain ⟨f_374, e_373⟩ := hm_354.arrI ec_341
      have u_375 := ht_356 _ _ uc_342
      have e_376 := hm_354.keep (by rw [wb_347]; omega) eb_345
      have u_377 := ht_356 _ _ ub_346
      have hsm := hsm.tr (hm_354.mono (by decide))
      have hlp_58 := hlp_58.tr (hm_354.mono (by decide))
      have htx := htx.tr ht_356
      rcases hx_355 with ⟨hl_378, hR_379⟩ | ⟨hl_378, hR_379⟩
      · obtain ⟨kc_380, cc_381, tc_382, fc_383, kb_384, cb_385, tb_386, fb_387, hp_388, hT_389, er_390, et_391, wr_392, wt_393, ec_394, uc_395, wc_396, hc_397, eb_398, ub_399, wb_400, hb_401⟩ := id hR_379
        have hp_3881 := hp_388.1
        have hp_388t := teF_le (f := f9) hp_388.1
        refine lv_iinc (v := nI (i_52 + 1)) (lv' := [(4, .int (nI (i_52 + 1))), (2, .int 0), (3, .int 0), (5, .int 1), (1, .int 3), (0, .ref rd)]) hx hb dX4_readEither_95 hl (k := 3) rfl (nI_add i_52 1) (by decide) rfl (fun ls hl => ?_)
        refine lv_goto (tgt := 11) hx hb dX4_readEither_98 (by decide) ?_
        exact ih_51 (i_52 + 1, 0, 0) ws_352 _ _ ls (by show 400 - (i_52 + 1) < 400 - i_52; omega) ⟨hlp_58, ⟨ty_353, hK, htx, Or.inr ⟨rfl, Or.inl rfl, (⟨k_312, p_313, _, _, _, by omega, by omega, hm9.tr hr_319, (⟨kc_380, cc_381, tc_382, fc_383, kb_384, cb_385, tb_386, fb_387, hp_388, hT_389, er_390, et_391, wr_392, wt_393, ec_394, uc_395, wc_396, hc_397, eb_398, ub_399, wb_400, hb_401⟩ : RSX ρ ws_352 ty_353 f9 rd krd tp ktp cd bb tl ts_314 (T_315 ++ [(2, 0, 0, 0)]) nk fr (nI k_312) (nI p_313) vl_316)⟩ : FLT ρ ws_352 ty_353 f9 rd krd tp ktp cd bb tl (0, ts, σ, T) nk fr)⟩⟩, (show (i_52 + 1) ≤ 400 from by omega)⟩ hP hD hS (lv_sub hl [0, 1, 2, 4, 5] rfl)
      obtain ⟨kc_402, cc_403, tc_404, fc_405, kb_406, cb_407, tb_408, fb_409, hp_410, hT_411, er_412, et_413, wr_414, wt_415, ec_416, uc_417, wc_418, hc_419, eb_420, ub_421, wb_422, hb_423⟩ := id hR_379
      have hp_4101 := hp_410.1
      have hp_410t := teF_le (f := f9) hp_410.1
      refine lv_iinc (v := nI (i_52 + 1)) (lv' := [(4, .int (nI (i_52 + 1))), (2, .int 0), (3, .int 0), (5, .int 1), (1, .int 3), (0, .ref rd)]) hx hb dX4_readEither_95 hl (k := 3) rfl (nI_add i_52 1) (by decide) rfl (fun ls hl => ?_)
      refine lv_goto (tgt := 11) hx hb dX4_readEither_98 (by decide) ?_
      exact ih_51 (i_52 + 1, 0, 0) ws_352 _ _ ls (by show 400 - (i_52 + 1) < 400 - i_52; omega) ⟨hlp_58, ⟨ty_353, hK, htx, Or.inr ⟨rfl, Or.inl rfl, (⟨k_312, p_313, _, _, _, by omega, by omega, hm9.tr hr_319, (⟨kc_402, cc_403, tc_404, fc_405, kb_406, cb_407, tb_408, fb_409, hp_410, hT_411, er_412, et_413, wr_414, wt_415, ec_416, uc_417, wc_418, hc_419, eb_420, ub_421, wb_422, hb_423⟩ : RSX ρ ws_352 ty_353 f9 rd krd tp ktp cd bb tl ts_314 T_315 nk fr (nI k_312) (nI p_313) vl_316)⟩ : FLT ρ ws_352 ty_353 f9 rd krd tp ktp cd bb tl (0, ts, σ, T) nk fr)⟩⟩, (show (i_52 + 1) ≤ 400 from by omega)⟩ hP hD hS (lv_sub hl [0, 1, 2, 4, 5] rfl)
    obtain ⟨kc_424, cc_425, tc_426, fc_427, kb_428, cb_429, tb_430, fb_431, hp_432, hT_433, er_434, et_435, wr_436, wt_437, ec_438, uc_439, wc_440, hc_441, eb_442, ub_443, wb_444, hb_445⟩ := id hR_320
    have hp_4321 := hp_432.1
    have hp_432t := teF_le (f := f9) hp_432.1
    refine lv_istore_n (lv' := [(2, .int 1), (3, .int 0), (5, .int 1), (4, .int (nI i_52)), (1, .int 3), (0, .ref rd)]) hx hb dX4_readEither_83 rfl hl (by decide) rfl (fun ls hl => ?_)
    refine lv_iload hx hb dX4_readEither_84 (lv_at hl 2 rfl) ?_
    refine lv_if_eq (tgt := 95) hx hb dX4_readEither_86 (by decide) (fun c_446 => absurd c_446 (by decide)) (fun c_446 => ?_)
    refine lv_aload_n hx hb dX4_readEither_89 rfl (lv_at hl 5 rfl) ?_
    refine lv_bipush (v := (-2)) hx hb dX4_readEither_90 (by decide) ?_
    have hFc := free_all hD hS hA
    refine va_callv (va_runV (As := [.int (-2)]) (rest := []) ⟨hx, hb, hml, hown, hts⟩ (r_addCode l D ρ ws_286 ty_287 adK adV fo f9 rd krd tp ktp cd bb tl b_321 T_315 nk fr fk fp vl_316 (2, 0, 0, 0) (-2) H.size htl hng (⟨kc_424, cc_425, tc_426, fc_427, kb_428, cb_429, tb_430, fb_431, hp_432, hT_433, er_434, et_435, wr_436, wt_437, ec_438, uc_439, wc_440, hc_441, eb_442, ub_443, wb_444, hb_445⟩ : RSX ρ ws_286 ty_287 f9 rd krd tp ktp cd bb tl b_321 T_315 nk fr fk fp vl_316) rfl) (cwV 1 hts gX4_readEither_X4_addCode rfl rfl rfl (by decide +kernel) ⟨Nat.le_of_ble_eq_true rfl, Nat.le_of_ble_eq_true rfl⟩) ⟨fun a U g mk q => by obtain ⟨q0, q1, qP, qK, qD, qS⟩ := q; exact ⟨q0, q1, qP, va_K.moved (u := U) (U := U.calling g mk a) (Vm.Alike.refl U.vm) qK, qD, SZ.same rfl rfl qS⟩, va_recv hK hP (ci := 4) (q0 := krd) rfl er_434, fun U hU hW => ⟨rfl, by rw [hU], by rw [hU]; exact hP, va_K.moved hW.alike hK, hD.weaken (fun _ _ _ _ => trivial), hsz9.go hS hW hU hFc⟩⟩ rfl rfl hl.1 rfl (lv_room (Nat.le_of_ble_eq_true rfl)) dX4_readEither_92 ⟨Nat.le_of_ble_eq_true rfl, Nat.le_of_ble_eq_true rfl⟩) hS (fun q _ h => hFc q h) hFc (fun u t H1 locs ht hvm w_448 hB hz1 hk1 hS => ?_)
    obtain ⟨ws_449, ty_450, hm_451, ht_453, hP1, hK1, hD1, hx_452⟩ := hB
    rw [ht] at hP1
    have hK := va_K.moved hvm.symm hK1
    have hD := hD1.weaken (fun _ _ _ h => hFc _ h)
    generalize H1 = H at hP1 hS ⊢
    have hP := hP1
    obtain ⟨g_455, e_454, h_456⟩ := hm_451.obj er_434
    obtain ⟨z_457, z_458, z_459, z_460, z_461, z_462, rfl⟩ := smX4 h_456
    obtain ⟨g_464, e_463, h_465⟩ := hm_451.obj et_435
    obtain ⟨z_466, z_467, z_468, z_469, rfl⟩ := smX6 h_465
    obtain ⟨f_471, e_470⟩ := hm_451.arrI ec_438
    have u_472 := ht_453 _ _ uc_439
    have e_473 := hm_451.keep (by rw [wb_444]; omega) eb_442
    have u_474 := ht_453 _ _ ub_443
    have hsm := hsm.tr (hm_451.mono (by decide))
    have hlp_58 := hlp_58.tr (hm_451.mono (by decide))
    have htx := htx.tr ht_453
    obtain ⟨hl_475, hR_476⟩ := hx_452.resolve_right (fun h9 => h9.1 (by omega))
    obtain ⟨kc_477, cc_478, tc_479, fc_480, kb_481, cb_482, tb_483, fb_484, hp_485, hT_486, er_487, et_488, wr_489, wt_490, ec_491, uc_492, wc_493, hc_494, eb_495, ub_496, wb_497, hb_498⟩ := id hR_476
    have hp_4851 := hp_485.1
    have hp_485t := teF_le (f := f9) hp_485.1
    refine lv_iinc (v := nI (i_52 + 1)) (lv' := [(4, .int (nI (i_52 + 1))), (2, .int 1), (3, .int 0), (5, .int 1), (1, .int 3), (0, .ref rd)]) hx hb dX4_readEither_95 hl (k := 3) rfl (nI_add i_52 1) (by decide) rfl (fun ls hl => ?_)
    refine lv_goto (tgt := 11) hx hb dX4_readEither_98 (by decide) ?_
    exact ih_51 (i_52 + 1, 1, 0) ws_449 _ _ ls (by show 400 - (i_52 + 1) < 400 - i_52; omega) ⟨hlp_58, ⟨ty_450, hK, htx, Or.inl ⟨rfl, Or.inl rfl, (⟨b_321, 2 :: jA ta_82, T_315, _, hm9.tr (rch_an (by omega) hr_319), ow_and hbs ow_86, by omega, fun h9 => absurd h9 (by decide), fun _ => by rw [eA_2jA, len_a1]; omega, by rw [eA_2jA]; exact (⟨kc_477, cc_478, tc_479, fc_480, kb_481, cb_482, tb_483, fb_484, hp_485, hT_486, er_487, et_488, wr_489, wt_490, ec_491, uc_492, wc_493, hc_494, eb_495, ub_496, wb_497, hb_498⟩ : RSX ρ ws_449 ty_450 f9 rd krd tp ktp cd bb tl b_321 (T_315 ++ [(2, 0, 0, 0)]) nk fr fk fp vl_316)⟩ : LPE ρ ws_449 ty_450 f9 rd krd tp ktp cd bb tl ts σ T nk fr fk fp (i_52 + 1) 0)⟩⟩, (show (i_52 + 1) ≤ 400 from by omega)⟩ hP hD hS (lv_sub hl [0, 1, 2, 4, 5] rfl)
  · have ga_88 := ga_88 rfl
    obtain ⟨kc_499, cc_500, tc_501, fc_502, kb_503, cb_504, tb_505, fb_506, hp_507, hT_508, er_509, et_510, wr_511, wt_512, ec_513, uc_514, wc_515, hc_516, eb_517, ub_518, wb_519, hb_520⟩ := id hR_90
    have hp_5071 := hp_507.1
    have hp_507t := teF_le (f := f9) hp_507.1
    refine lv_sipush (v := 400) hx hb dX4_readEither_13 (by decide) ?_
    refine lv_icmp_ge (tgt := 101) hx hb dX4_readEither_16 (by decide) (fun c_521 => ?_) (fun c_521 => ?_)
    · have d_522 := n_le (a := 400) (b := i_52) (by omega) (by omega) c_521
      refine lv_iload_n hx hb dX4_readEither_101 rfl (lv_at hl 2 rfl) ?_
      refine lv_if_eq (tgt := 111) hx hb dX4_readEither_102 (by decide) (fun c_523 => absurd c_523 (by decide)) (fun c_523 => ?_)
      refine lv_aload_n hx hb dX4_readEither_105 rfl (lv_at hl 4 rfl) ?_
      refine lv_bipush (v := (-3)) hx hb dX4_readEither_106 (by decide) ?_
      have hFc := free_all hD hS hA
      refine va_callv (va_runV (As := [.int (-3)]) (rest := []) ⟨hx, hb, hml, hown, hts⟩ (r_addCode l D ρ ws_56 ty_79 adK adV fo f9 rd krd tp ktp cd bb tl b_81 (T_83 ++ eA ta_82) nk fr fk fp vl_84 (1, 0, 0, 0) (-3) H.size htl hng (⟨kc_499, cc_500, tc_501, fc_502, kb_503, cb_504, tb_505, fb_506, hp_507, hT_508, er_509, et_510, wr_511, wt_512, ec_513, uc_514, wc_515, hc_516, eb_517, ub_518, wb_519, hb_520⟩ : RSX ρ ws_56 ty_79 f9 rd krd tp ktp cd bb tl b_81 (T_83 ++ eA ta_82) nk fr fk fp vl_84) rfl) (cwV 1 hts gX4_readEither_X4_addCode rfl rfl rfl (by decide +kernel) ⟨Nat.le_of_ble_eq_true rfl, Nat.le_of_ble_eq_true rfl⟩) ⟨fun a U g mk q => by obtain ⟨q0, q1, qP, qK, qD, qS⟩ := q; exact ⟨q0, q1, qP, va_K.moved (u := U) (U := U.calling g mk a) (Vm.Alike.refl U.vm) qK, qD, SZ.same rfl rfl qS⟩, va_recv hK hP (ci := 4) (q0 := krd) rfl er_509, fun U hU hW => ⟨rfl, by rw [hU], by rw [hU]; exact hP, va_K.moved hW.alike hK, hD.weaken (fun _ _ _ _ => trivial), hsz9.go hS hW hU hFc⟩⟩ rfl rfl hl.1 rfl (lv_room (Nat.le_of_ble_eq_true rfl)) dX4_readEither_108 ⟨Nat.le_of_ble_eq_true rfl, Nat.le_of_ble_eq_true rfl⟩) hS (fun q _ h => hFc q h) hFc (fun u t H1 locs ht hvm w_525 hB hz1 hk1 hS => ?_)
      obtain ⟨ws_526, ty_527, hm_528, ht_530, hP1, hK1, hD1, hx_529⟩ := hB
      rw [ht] at hP1
      have hK := va_K.moved hvm.symm hK1
      have hD := hD1.weaken (fun _ _ _ h => hFc _ h)
      generalize H1 = H at hP1 hS ⊢
      have hP := hP1
      obtain ⟨g_532, e_531, h_533⟩ := hm_528.obj er_509
      obtain ⟨z_534, z_535, z_536, z_537, z_538, z_539, rfl⟩ := smX4 h_533
      obtain ⟨g_541, e_540, h_542⟩ := hm_528.obj et_510
      obtain ⟨z_543, z_544, z_545, z_546, rfl⟩ := smX6 h_542
      obtain ⟨f_548, e_547⟩ := hm_528.arrI ec_513
      have u_549 := ht_530 _ _ uc_514
      have e_550 := hm_528.keep (by rw [wb_519]; omega) eb_517
      have u_551 := ht_530 _ _ ub_518
      have hsm := hsm.tr (hm_528.mono (by decide))
      have hlp_58 := hlp_58.tr (hm_528.mono (by decide))
      have htx := htx.tr ht_530
      rcases hx_529 with ⟨hl_552, hR_553⟩ | ⟨hl_552, hR_553⟩
      · obtain ⟨kc_554, cc_555, tc_556, fc_557, kb_558, cb_559, tb_560, fb_561, hp_562, hT_563, er_564, et_565, wr_566, wt_567, ec_568, uc_569, wc_570, hc_571, eb_572, ub_573, wb_574, hb_575⟩ := id hR_553
        have hp_5621 := hp_562.1
        have hp_562t := teF_le (f := f9) hp_562.1
        refine lv_iload_n hx hb dX4_readEither_111 rfl (lv_at hl 1 rfl) ?_
        exact W.zret (v := 1) hx hb hr rfl (fun t ht hW => ⟨⟨1, 1, rfl, rfl, ws_526, ty_527, hsm, htx, by rw [ht]; exact hP, va_K.moved hW.alike hK, hD, (by exfalso; omega)⟩, hS.F ht⟩) hS.2.2 dX4_readEither_112
      obtain ⟨kc_576, cc_577, tc_578, fc_579, kb_580, cb_581, tb_582, fb_583, hp_584, hT_585, er_586, et_587, wr_588, wt_589, ec_590, uc_591, wc_592, hc_593, eb_594, ub_595, wb_596, hb_597⟩ := id hR_553
      have hp_5841 := hp_584.1
      have hp_584t := teF_le (f := f9) hp_584.1
      refine lv_iload_n hx hb dX4_readEither_111 rfl (lv_at hl 1 rfl) ?_
      exact W.zret (v := 1) hx hb hr rfl (fun t ht hW => ⟨⟨1, 1, rfl, rfl, ws_526, ty_527, hsm, htx, by rw [ht]; exact hP, va_K.moved hW.alike hK, hD, (by exfalso; omega)⟩, hS.F ht⟩) hS.2.2 dX4_readEither_112
    have d_598 := n_nle (a := 400) (b := i_52) (by omega) (by omega) c_521
    refine lv_iload_n hx hb dX4_readEither_19 rfl (lv_at hl 1 rfl) ?_
    refine lv_if_eq (tgt := 101) hx hb dX4_readEither_20 (by decide) (fun c_599 => absurd c_599 (by decide)) (fun c_599 => ?_)
    refine lv_aload_n hx hb dX4_readEither_23 rfl (lv_at hl 4 rfl) ?_
    have hFc := free_all hD hS hA
    refine va_calli (va_runV (As := []) (rest := []) ⟨hx, hb, hml, hown, hts⟩ (r_isAndOr l D (rz []) ws_56 ty_79 adK adV fo f9 rd krd tp ktp cd tl b_81 nk fr fk fp (nI (T_83 ++ eA ta_82).length) vl_84 bb kb_503 cb_504 tb_505 fb_506 H.size er_509 htl hb_520 hng hp_507 et_510 eb_517 ub_518 rz_o0) (cwV 0 hts gX4_readEither_X4_isAndOr rfl rfl rfl (by decide +kernel) ⟨Nat.le_of_ble_eq_true rfl, Nat.le_of_ble_eq_true rfl⟩) ⟨fun a U g mk q => by obtain ⟨q0, q1, qP, qK, qD, qS⟩ := q; exact ⟨q0, q1, qP, va_K.moved (u := U) (U := U.calling g mk a) (Vm.Alike.refl U.vm) qK, qD, SZ.same rfl rfl qS⟩, va_recv hK hP (ci := 4) (q0 := krd) rfl er_509, fun U hU hW => ⟨rfl, by rw [hU], by rw [hU]; exact hP, va_K.moved hW.alike hK, hD.weaken (fun _ _ _ _ => trivial), hsz9.go hS hW hU hFc⟩⟩ rfl rfl hl.1 rfl (lv_room (Nat.le_of_ble_eq_true rfl)) dX4_readEither_24 ⟨Nat.le_of_ble_eq_true rfl, Nat.le_of_ble_eq_true rfl⟩) hS (fun q _ h => hFc q h) hFc (fun r_600 u t H1 locs ht hvm w_601 hB hz1 hk1 hS => ?_)
    obtain ⟨ws_602, ty_603, hm_604, ht_606, hP1, hK1, hD1, hx_605⟩ := hB
    rw [ht] at hP1
    have hK := va_K.moved hvm.symm hK1
    have hD := hD1.weaken (fun _ _ _ h => hFc _ h)
    generalize H1 = H at hP1 hS ⊢
    have hP := hP1
    have e_607 := hm_604.keep rz_o0 er_509
    have e_608 := hm_604.keep rz_o0 et_510
    have e_609 := hm_604.keep rz_o0 ec_513
    have e_610 := hm_604.keep rz_o0 eb_517
    have u_611 := ht_606 _ _ uc_514
    have u_612 := ht_606 _ _ ub_518
    have hm_613 : sm ρ [] ws_56 ws_602 := hm_604.up (fun k _ h => rz_u0  k h)
    have hsm := hsm.tr (hm_613.mono (by decide))
    have hlp_58 := hlp_58.tr (hm_613.mono (by decide))
    have htx := htx.tr ht_606
    rcases w_601 with ⟨rfl, ao_614⟩ | ⟨rfl, ao_614⟩
    · refine lv_if_eq (tgt := 101) hx hb dX4_readEither_27 (by decide) (fun c_615 => ?_) (fun c_615 => absurd (by decide) c_615)
      refine lv_iload_n hx hb dX4_readEither_101 rfl (lv_at hl 2 rfl) ?_
      refine lv_if_eq (tgt := 111) hx hb dX4_readEither_102 (by decide) (fun c_616 => absurd c_616 (by decide)) (fun c_616 => ?_)
      refine lv_aload_n hx hb dX4_readEither_105 rfl (lv_at hl 4 rfl) ?_
      refine lv_bipush (v := (-3)) hx hb dX4_readEither_106 (by decide) ?_
      have hFc := free_all hD hS hA
      refine va_callv (va_runV (As := [.int (-3)]) (rest := []) ⟨hx, hb, hml, hown, hts⟩ (r_addCode l D ρ ws_602 ty_603 adK adV fo f9 rd krd tp ktp cd bb tl b_81 (T_83 ++ eA ta_82) nk fr fk fp vl_84 (1, 0, 0, 0) (-3) H.size htl hng (⟨kc_499, cc_500, tc_501, fc_502, kb_503, cb_504, tb_505, fb_506, hp_507, hT_508, e_607, e_608, wr_511, wt_512, e_609, u_611, wc_515, hc_516, e_610, u_612, wb_519, hb_520⟩ : RSX ρ ws_602 ty_603 f9 rd krd tp ktp cd bb tl b_81 (T_83 ++ eA ta_82) nk fr fk fp vl_84) rfl) (cwV 1 hts gX4_readEither_X4_addCode rfl rfl rfl (by decide +kernel) ⟨Nat.le_of_ble_eq_true rfl, Nat.le_of_ble_eq_true rfl⟩) ⟨fun a U g mk q => by obtain ⟨q0, q1, qP, qK, qD, qS⟩ := q; exact ⟨q0, q1, qP, va_K.moved (u := U) (U := U.calling g mk a) (Vm.Alike.refl U.vm) qK, qD, SZ.same rfl rfl qS⟩, va_recv hK hP (ci := 4) (q0 := krd) rfl e_607, fun U hU hW => ⟨rfl, by rw [hU], by rw [hU]; exact hP, va_K.moved hW.alike hK, hD.weaken (fun _ _ _ _ => trivial), hsz9.go hS hW hU hFc⟩⟩ rfl rfl hl.1 rfl (lv_room (Nat.le_of_ble_eq_true rfl)) dX4_readEither_108 ⟨Nat.le_of_ble_eq_true rfl, Nat.le_of_ble_eq_true rfl⟩) hS (fun q _ h => hFc q h) hFc (fun u t H1 locs ht hvm w_618 hB hz1 hk1 hS => ?_)
      obtain ⟨ws_619, ty_620, hm_621, ht_623, hP1, hK1, hD1, hx_622⟩ := hB
      rw [ht] at hP1
      have hK := va_K.moved hvm.symm hK1
      have hD := hD1.weaken (fun _ _ _ h => hFc _ h)
      generalize H1 = H at hP1 hS ⊢
      have hP := hP1
      obtain ⟨g_625, e_624, h_626⟩ := hm_621.obj e_607
      obtain ⟨z_627, z_628, z_629, z_630, z_631, z_632, rfl⟩ := smX4 h_626
      obtain ⟨g_634, e_633, h_635⟩ := hm_621.obj e_608
      obtain ⟨z_636, z_637, z_638, z_639, rfl⟩ := smX6 h_635
      obtain ⟨f_641, e_640⟩ := hm_621.arrI e_609
      have u_642 := ht_623 _ _ u_611
      have e_643 := hm_621.keep (by rw [wb_519]; omega) e_610
      have u_644 := ht_623 _ _ u_612
      have hsm := hsm.tr (hm_621.mono (by decide))
      have hlp_58 := hlp_58.tr (hm_621.mono (by decide))
      have htx := htx.tr ht_623
      obtain ⟨hl_645, hR_646⟩ := hx_622.resolve_right (fun h9 => h9.1 (by omega))
      obtain ⟨kc_647, cc_648, tc_649, fc_650, kb_651, cb_652, tb_653, fb_654, hp_655, hT_656, er_657, et_658, wr_659, wt_660, ec_661, uc_662, wc_663, hc_664, eb_665, ub_666, wb_667, hb_668⟩ := id hR_646
      have hp_6551 := hp_655.1
      have hp_655t := teF_le (f := f9) hp_655.1
      refine lv_iload_n hx hb dX4_readEither_111 rfl (lv_at hl 1 rfl) ?_
      exact W.zret (v := 1) hx hb hr rfl (fun t ht hW => ⟨⟨1, 1, rfl, rfl, ws_619, ty_620, hsm, htx, by rw [ht]; exact hP, va_K.moved hW.alike hK, hD, Or.inr ⟨rfl, b_81, ta_82, T_83, _, hr_85, ow_jO hbs ow_86, ao_614, by omega, by rw [(ow_eO hbs ow_86).2 rfl, ← List.append_assoc, len_a1]; omega, by rw [(ow_eO hbs ow_86).2 rfl, ← List.append_assoc]; exact (⟨kc_647, cc_648, tc_649, fc_650, kb_651, cb_652, tb_653, fb_654, hp_655, hT_656, er_657, et_658, wr_659, wt_660, ec_661, uc_662, wc_663, hc_664, eb_665, ub_666, wb_667, hb_668⟩ : RSX ρ ws_619 ty_620 f9 rd krd tp ktp cd bb tl b_81 ((T_83 ++ eA ta_82) ++ [(1, 0, 0, 0)]) nk fr fk fp vl_84)⟩⟩, hS.F ht⟩) hS.2.2 dX4_readEither_112
    refine lv_if_eq (tgt := 101) hx hb dX4_readEither_27 (by decide) (fun c_669 => absurd c_669 (by decide)) (fun c_669 => ?_)
    refine lv_aload_n hx hb dX4_readEither_30 rfl (lv_at hl 4 rfl) ?_
    refine va_get (D := D) (ci := 4) (v := .ref tp) (C := RX4) (T := TX4) (N := 8) hx hb hts hin4 hown hK hP krd e_607 rfl 0 (by decide) (hts (.fieldLink RX4 12 "HoneyHouse$RuleReader" "tape" "LHoneyHouse$Tape;") (List.mem_of_getElem? (i := 1) rfl)) (fun _ h9 => h9) rfl dX4_readEither_31 ?_
    refine va_ldcS hx hb hown hsz9.2.2.2.2.2.1 dX4_readEither_34 ?_
    have hFc := free_all hD hS hA
    refine va_calli (va_runV (As := [.ref (adK 2)]) (rest := []) ⟨hx, hb, hml, hown, hts⟩ (a_isWord l D (rz []) ws_602 ty_603 adK adV fo 2 f9 tp ktp tl b_81 bb kb_503 cb_504 tb_505 fb_506 H.size (by decide) htl hb_520 hng hp_507 e_608 e_610 u_612 rz_o0) (cwV 1 hts gX4_readEither_X6_isWord rfl rfl rfl (by decide +kernel) ⟨Nat.le_of_ble_eq_true rfl, Nat.le_of_ble_eq_true rfl⟩) ⟨fun a U g mk q => by obtain ⟨q0, q1, qP, qK, qD, qS⟩ := q; exact ⟨q0, q1, qP, va_K.moved (u := U) (U := U.calling g mk a) (Vm.Alike.refl U.vm) qK, qD, SZ.same rfl rfl qS⟩, va_recv hK hP (ci := 6) (q0 := ktp) rfl e_608, fun U hU hW => ⟨rfl, by rw [hU], by rw [hU]; exact hP, va_K.moved hW.alike hK, hD.weaken (fun _ _ _ _ => trivial), hsz9.go hS hW hU hFc⟩⟩ rfl rfl hl.1 rfl (lv_room (Nat.le_of_ble_eq_true rfl)) dX4_readEither_36 ⟨Nat.le_of_ble_eq_true rfl, Nat.le_of_ble_eq_true rfl⟩) hS (fun q _ h => hFc q h) hFc (fun r_670 u t H1 locs ht hvm w_671 hB hz1 hk1 hS => ?_)
    obtain ⟨ws_672, ty_673, hm_674, ht_676, hP1, hK1, hD1, hx_675⟩ := hB
    rw [ht] at hP1
    have hK := va_K.moved hvm.symm hK1
    have hD := hD1.weaken (fun _ _ _ h => hFc _ h)
    generalize H1 = H at hP1 hS ⊢
    have hP := hP1
    have e_677 := hm_674.keep rz_o0 e_607
    have e_678 := hm_674.keep rz_o0 e_608
    have e_679 := hm_674.keep rz_o0 e_609
    have e_680 := hm_674.keep rz_o0 e_610
    have u_681 := ht_676 _ _ u_611
    have u_682 := ht_676 _ _ u_612
    have hm_683 : sm ρ [] ws_602 ws_672 := hm_674.up (fun k _ h => rz_u0  k h)
    have hsm := hsm.tr (hm_683.mono (by decide))
    have hlp_58 := hlp_58.tr (hm_683.mono (by decide))
    have htx := htx.tr ht_676
    rcases w_671 with ⟨rfl, iw_684⟩ | ⟨rfl, iw_684⟩
    · have iw_684 : ¬ wdE f9 tl b_81 = 2 := iw_684
      refine lv_istore (lv' := [(5, .int 0), (4, .int (nI i_52)), (2, .int 1), (3, .int 1), (1, .int 3), (0, .ref rd)]) hx hb dX4_readEither_39 hl (by decide) rfl (fun ls hl => ?_)
      refine lv_iload hx hb dX4_readEither_41 (lv_at hl 0 rfl) ?_
      refine lv_if_ne (tgt := 56) hx hb dX4_readEither_43 (by decide) (fun c_685 => absurd (by decide) c_685) (fun c_685 => ?_)
      refine lv_iload_n hx hb dX4_readEither_46 rfl (lv_at hl 3 rfl) ?_
      refine lv_if_eq (tgt := 56) hx hb dX4_readEither_47 (by decide) (fun c_686 => absurd c_686 (by decide)) (fun c_686 => ?_)
      refine lv_aload_n hx hb dX4_readEither_50 rfl (lv_at hl 5 rfl) ?_
      refine lv_bipush (v := (-3)) hx hb dX4_readEither_51 (by decide) ?_
      have hFc := free_all hD hS hA
      refine va_callv (va_runV (As := [.int (-3)]) (rest := []) ⟨hx, hb, hml, hown, hts⟩ (r_addCode l D ρ ws_672 ty_673 adK adV fo f9 rd krd tp ktp cd bb tl b_81 (T_83 ++ eA ta_82) nk fr fk fp vl_84 (1, 0, 0, 0) (-3) H.size htl hng (⟨kc_499, cc_500, tc_501, fc_502, kb_503, cb_504, tb_505, fb_506, hp_507, hT_508, e_677, e_678, wr_511, wt_512, e_679, u_681, wc_515, hc_516, e_680, u_682, wb_519, hb_520⟩ : RSX ρ ws_672 ty_673 f9 rd krd tp ktp cd bb tl b_81 (T_83 ++ eA ta_82) nk fr fk fp vl_84) rfl) (cwV 1 hts gX4_readEither_X4_addCode rfl rfl rfl (by decide +kernel) ⟨Nat.le_of_ble_eq_true rfl, Nat.le_of_ble_eq_true rfl⟩) ⟨fun a U g mk q => by obtain ⟨q0, q1, qP, qK, qD, qS⟩ := q; exact ⟨q0, q1, qP, va_K.moved (u := U) (U := U.calling g mk a) (Vm.Alike.refl U.vm) qK, qD, SZ.same rfl rfl qS⟩, va_recv hK hP (ci := 4) (q0 := krd) rfl e_677, fun U hU hW => ⟨rfl, by rw [hU], by rw [hU]; exact hP, va_K.moved hW.alike hK, hD.weaken (fun _ _ _ _ => trivial), hsz9.go hS hW hU hFc⟩⟩ rfl rfl hl.1 rfl (lv_room (Nat.le_of_ble_eq_true rfl)) dX4_readEither_53 ⟨Nat.le_of_ble_eq_true rfl, Nat.le_of_ble_eq_true rfl⟩) hS (fun q _ h => hFc q h) hFc (fun u t H1 locs ht hvm w_688 hB hz1 hk1 hS => ?_)
      obtain ⟨ws_689, ty_690, hm_691, ht_693, hP1, hK1, hD1, hx_692⟩ := hB
      rw [ht] at hP1
      have hK := va_K.moved hvm.symm hK1
      have hD := hD1.weaken (fun _ _ _ h => hFc _ h)
      generalize H1 = H at hP1 hS ⊢
      have hP := hP1
      obtain ⟨g_695, e_694, h_696⟩ := hm_691.obj e_677
      obtain ⟨z_697, z_698, z_699, z_700, z_701, z_702, rfl⟩ := smX4 h_696
      obtain ⟨g_704, e_703, h_705⟩ := hm_691.obj e_678
      obtain ⟨z_706, z_707, z_708, z_709, rfl⟩ := smX6 h_705
      obtain ⟨f_711, e_710⟩ := hm_691.arrI e_679
      have u_712 := ht_693 _ _ u_681
      have e_713 := hm_691.keep (by rw [wb_519]; omega) e_680
      have u_714 := ht_693 _ _ u_682
      have hsm := hsm.tr (hm_691.mono (by decide))
      have hlp_58 := hlp_58.tr (hm_691.mono (by decide))
      have htx := htx.tr ht_693
      obtain ⟨hl_715, hR_716⟩ := hx_692.resolve_right (fun h9 => h9.1 (by omega))
      obtain ⟨kc_717, cc_718, tc_719, fc_720, kb_721, cb_722, tb_723, fb_724, hp_725, hT_726, er_727, et_728, wr_729, wt_730, ec_731, uc_732, wc_733, hc_734, eb_735, ub_736, wb_737, hb_738⟩ := id hR_716
      have hp_7251 := hp_725.1
      have hp_725t := teF_le (f := f9) hp_725.1
      refine lv_iload_n hx hb dX4_readEither_56 rfl (lv_at hl 3 rfl) ?_
      refine lv_if_ne (tgt := 65) hx hb dX4_readEither_57 (by decide) (fun c_739 => ?_) (fun c_739 => absurd c_739 (by decide))
      refine lv_iconst (v := 1) hx hb dX4_readEither_65 (by decide) ?_
      refine lv_goto (tgt := 70) hx hb dX4_readEither_66 (by decide) ?_
      refine lv_istore_n (lv' := [(3, .int 1), (5, .int 0), (4, .int (nI i_52)), (2, .int 1), (1, .int 3), (0, .ref rd)]) hx hb dX4_readEither_70 rfl hl (by decide) rfl (fun ls hl => ?_)
      have hw1 : wdE f9 tl b_81 = 1 := by omega
      have hw9 : b_81 + 2 ≤ nxF f9 tl b_81 ∧ nxF f9 tl b_81 ≤ tl := nx_wd hp_725.1 (j := 1) (by omega) hw1
      have hm9 : Rch f9 tl (0, ts, σ, T) (0, nxF f9 tl b_81, 1 :: σ, (T_83 ++ eA ta_82) ++ [(1, 0, 0, 0)]) := by have h9 := hr_85.st (st_or hw1); rw [ow_jO hbs ow_86, (ow_eO hbs ow_86).2 rfl, ← List.append_assoc] at h9; exact h9
      have hdq : dep (1 :: σ) = dep σ := dep_n _ (by omega)
      have hl9 := len_a1 (T_83 ++ eA ta_82) ((1, 0, 0, 0) : Tk)
      refine lv_aload_n hx hb dX4_readEither_71 rfl (lv_at hl 5 rfl) ?_
      refine va_get (D := D) (ci := 4) (v := .ref tp) (C := RX4) (T := TX4) (N := 8) hx hb hts hin4 hown hK hP krd er_727 rfl 0 (by decide) (hts (.fieldLink RX4 12 "HoneyHouse$RuleReader" "tape" "LHoneyHouse$Tape;") (List.mem_of_getElem? (i := 1) rfl)) (fun _ h9 => h9) rfl dX4_readEither_72 ?_
      have hFc := free_all hD hS hA
      refine va_callv (va_runV (As := []) (rest := []) ⟨hx, hb, hml, hown, hts⟩ (a_advance l D (rz [ktp]) ws_689 ty_690 f9 tp ktp tl (teF f9 tl b_81) (nI (kdF f9 tl b_81)) (nI b_81) bb kb_721 cb_722 tb_723 fb_724 H.size htl hb_738 hng (by omega) et_728 eb_735 ub_736 (rz_o1 (pl_ne eb_735 et_728 (by intro h9; simp at h9))) (rz_in (by simp))) (cwV 0 hts gX4_readEither_X6_advance rfl rfl rfl (by decide +kernel) ⟨Nat.le_of_ble_eq_true rfl, Nat.le_of_ble_eq_true rfl⟩) ⟨fun a U g mk q => by obtain ⟨q0, q1, qP, qK, qD⟩ := q; exact ⟨q0, q1, qP, va_K.moved (u := U) (U := U.calling g mk a) (Vm.Alike.refl U.vm) qK, qD⟩, va_recv hK hP (ci := 6) (q0 := ktp) rfl et_728, fun U hU hW => ⟨rfl, by rw [hU], by rw [hU]; exact hP, va_K.moved hW.alike hK, hD.weaken (fun _ _ _ _ => trivial)⟩⟩ rfl rfl hl.1 rfl (lv_room (Nat.le_of_ble_eq_true rfl)) dX4_readEither_75 ⟨Nat.le_of_ble_eq_true rfl, Nat.le_of_ble_eq_true rfl⟩) hS (fun q _ h => hFc q h) hFc (fun u t H1 locs ht hvm w_741 hB hz1 hk1 hS => ?_)
      obtain ⟨ws_742, ty_743, hm_744, ht_746, hP1, hK1, hD1, hx_745⟩ := hB
      rw [ht] at hP1
      have hK := va_K.moved hvm.symm hK1
      have hD := hD1.weaken (fun _ _ _ h => hFc _ h)
      generalize H1 = H at hP1 hS ⊢
      have hP := hP1
      have e_747 := hm_744.keep (rz_o1 (pl_ne er_727 et_728 (by intro h9; simp at h9))) er_727
      have e_748 := hm_744.keep (rz_o1 (pl_ne ec_731 et_728 (by intro h9; simp at h9))) ec_731
      have e_749 := hm_744.keep (rz_o1 (pl_ne eb_735 et_728 (by intro h9; simp at h9))) eb_735
      have u_750 := ht_746 _ _ uc_732
      have u_751 := ht_746 _ _ ub_736
      have hm_752 : sm ρ [6] ws_689 ws_742 := hm_744.up (fun k _ h => rz_u1 wt_730 k h)
      have hsm := hsm.tr (hm_752.mono (by decide))
      have hlp_58 := hlp_58.tr (hm_752.mono (by decide))
      have htx := htx.tr ht_746
      have e_753 : ws_742[ktp]? = some (tp, .inr (6, [.int (nI tl), .int (nI (kdF f9 tl (nxF f9 tl b_81))), .int (nI (nxF f9 tl b_81)), .int (nI (teF f9 tl (nxF f9 tl b_81))), .ref bb])) := hx_745; have hq_754 : pcB f9 tl (nxF f9 tl b_81) := nxF_pc (f := f9) hp_725.1; have hq_7541 := hq_754.1; have hq_754t := teF_le (f := f9) hq_754.1; have hg_755 := nx_gain (f := f9) hp_725.1
      refine lv_aload_n hx hb dX4_readEither_78 rfl (lv_at hl 5 rfl) ?_
      refine lv_iload_n hx hb dX4_readEither_79 rfl (lv_at hl 4 rfl) ?_
      have hFc := free_all hD hS hA
      refine va_calli (va_runV (As := [.int 3]) (rest := []) ⟨hx, hb, hml, hown, hts⟩ (r_readOne3 l D ρ ws_742 ty_743 adK adV fo f9 rd krd tp ktp cd bb tl (nxF f9 tl b_81) ((T_83 ++ eA ta_82) ++ [(1, 0, 0, 0)]) nk fr fk fp vl_84 (1 :: σ) H.size htl hng (⟨kc_717, cc_718, tc_719, fc_720, kb_721, cb_722, tb_723, fb_724, hq_754, hT_726, e_747, e_753, wr_729, wt_730, e_748, u_750, wc_733, hc_734, e_749, u_751, wb_737, hb_738⟩ : RSX ρ ws_742 ty_743 f9 rd krd tp ktp cd bb tl (nxF f9 tl b_81) ((T_83 ++ eA ta_82) ++ [(1, 0, 0, 0)]) nk fr fk fp vl_84) (hdq.trans hdp) (by omega)) (cwV 1 hts gX4_readEither_X4_readOne rfl rfl rfl (by decide +kernel) ⟨Nat.le_of_ble_eq_true rfl, Nat.le_of_ble_eq_true rfl⟩) ⟨fun a U g mk q => by obtain ⟨q0, q1, qP, qK, qD, qS⟩ := q; exact ⟨q0, q1, qP, va_K.moved (u := U) (U := U.calling g mk a) (Vm.Alike.refl U.vm) qK, qD, SZ.same rfl rfl qS⟩, va_recv hK hP (ci := 4) (q0 := krd) rfl e_747, fun U hU hW => ⟨rfl, by rw [hU], by rw [hU]; exact hP, va_K.moved hW.alike hK, hD.weaken (fun _ _ _ _ => trivial), hsz9.go hS hW hU hFc⟩⟩ rfl rfl hl.1 rfl (lv_room (Nat.le_of_ble_eq_true rfl)) dX4_readEither_80 ⟨Nat.le_of_ble_eq_true rfl, Nat.le_of_ble_eq_true rfl⟩) hS (fun q _ h => hFc q h) hFc (fun r_756 u t H1 locs ht hvm w_757 hB hz1 hk1 hS => ?_)
      subst w_757
      obtain ⟨ws_758, ty_759, hm_760, ht_762, hP1, hK1, hD1, hx_761⟩ := hB
      rw [ht] at hP1
      have hK := va_K.moved hvm.symm hK1
      have hD := hD1.weaken (fun _ _ _ h => hFc _ h)
      generalize H1 = H at hP1 hS ⊢
      have hP := hP1
      obtain ⟨g_764, e_763, h_765⟩ := hm_760.obj e_747
      obtain ⟨z_766, z_767, z_768, z_769, z_770, z_771, rfl⟩ := smX4 h_765
      obtain ⟨g_773, e_772, h_774⟩ := hm_760.obj e_753
      obtain ⟨z_775, z_776, z_777, z_778, rfl⟩ := smX6 h_774
      obtain ⟨f_780, e_779⟩ := hm_760.arrI e_748
      have u_781 := ht_762 _ _ u_750
      have e_782 := hm_760.keep (by rw [wb_737]; omega) e_749
      have u_783 := ht_762 _ _ u_751
      have hsm := hsm.tr (hm_760.mono (by decide))
      have hlp_58 := hlp_58.tr (hm_760.mono (by decide))
      have htx := htx.tr ht_762
      rcases hx_761 with ⟨rfl, k_784, p_785, ts_786, T_787, vl_788, hk_789, hk_790, hr_791, hR_792⟩ | ⟨rfl, b_793, T_787, vl_788, hr_791, hg_797, hg_798, hR_792⟩
      · obtain ⟨kc_799, cc_800, tc_801, fc_802, kb_803, cb_804, tb_805, fb_806, hp_807, hT_808, er_809, et_810, wr_811, wt_812, ec_813, uc_814, wc_815, hc_816, eb_817, ub_818, wb_819, hb_820⟩ := id hR_792
        have hp_8071 := hp_807.1
        have hp_807t := teF_le (f := f9) hp_807.1
        refine lv_istore_n (lv' := [(2, .int 0), (3, .int 1), (5, .int 0), (4, .int (nI i_52)), (1, .int 3), (0, .ref rd)]) hx hb dX4_readEither_83 rfl hl (by decide) rfl (fun ls hl => ?_)
        refine lv_iload hx hb dX4_readEither_84 (lv_at hl 2 rfl) ?_
        refine lv_if_eq (tgt := 95) hx hb dX4_readEither_86 (by decide) (fun c_821 => ?_) (fun c_821 => absurd (by decide) c_821)
        refine lv_iinc (v := nI (i_52 + 1)) (lv' := [(4, .int (nI (i_52 + 1))), (2, .int 0), (3, .int 1), (5, .int 0), (1, .int 3), (0, .ref rd)]) hx hb dX4_readEither_95 hl (k := 3) rfl (nI_add i_52 1) (by decide) rfl (fun ls hl => ?_)
        refine lv_goto (tgt := 11) hx hb dX4_readEither_98 (by decide) ?_
        exact ih_51 (i_52 + 1, 0, 1) ws_758 _ _ ls (by show 400 - (i_52 + 1) < 400 - i_52; omega) ⟨hlp_58, ⟨ty_759, hK, htx, Or.inr ⟨rfl, Or.inr rfl, (⟨k_784, p_785, _, _, _, by omega, by omega, hm9.tr hr_791, (⟨kc_799, cc_800, tc_801, fc_802, kb_803, cb_804, tb_805, fb_806, hp_807, hT_808, er_809, et_810, wr_811, wt_812, ec_813, uc_814, wc_815, hc_816, eb_817, ub_818, wb_819, hb_820⟩ : RSX ρ ws_758 ty_759 f9 rd krd tp ktp cd bb tl ts_786 T_787 nk fr (nI k_784) (nI p_785) vl_788)⟩ : FLT ρ ws_758 ty_759 f9 rd krd tp ktp cd bb tl (0, ts, σ, T) nk fr)⟩⟩, (show (i_52 + 1) ≤ 400 from by omega)⟩ hP hD hS (lv_sub hl [0, 1, 2, 4, 5] rfl)
      obtain ⟨kc_822, cc_823, tc_824, fc_825, kb_826, cb_827, tb_828, fb_829, hp_830, hT_831, er_832, et_833, wr_834, wt_835, ec_836, uc_837, wc_838, hc_839, eb_840, ub_841, wb_842, hb_843⟩ := id hR_792
      have hp_8301 := hp_830.1
      have hp_830t := teF_le (f := f9) hp_830.1
      refine lv_istore_n (lv' := [(2, .int 1), (3, .int 1), (5, .int 0), (4, .int (nI i_52)), (1, .int 3), (0, .ref rd)]) hx hb dX4_readEither_83 rfl hl (by decide) rfl (fun ls hl => ?_)
      refine lv_iload hx hb dX4_readEither_84 (lv_at hl 2 rfl) ?_
      refine lv_if_eq (tgt := 95) hx hb dX4_readEither_86 (by decide) (fun c_844 => ?_) (fun c_844 => absurd (by decide) c_844)
      refine lv_iinc (v := nI (i_52 + 1)) (lv' := [(4, .int (nI (i_52 + 1))), (2, .int 1), (3, .int 1), (5, .int 0), (1, .int 3), (0, .ref rd)]) hx hb dX4_readEither_95 hl (k := 3) rfl (nI_add i_52 1) (by decide) rfl (fun ls hl => ?_)
      refine lv_goto (tgt := 11) hx hb dX4_readEither_98 (by decide) ?_
      exact ih_51 (i_52 + 1, 1, 1) ws_758 _ _ ls (by show 400 - (i_52 + 1) < 400 - i_52; omega) ⟨hlp_58, ⟨ty_759, hK, htx, Or.inl ⟨rfl, Or.inr rfl, (⟨b_793, 1 :: σ, T_787, _, hm9.tr (rch_an (by omega) hr_791), ow_or, by omega, fun _ => by rw [eA_n _ (by omega), List.append_nil]; omega, fun h9 => absurd h9 (by decide), by rw [eA_n _ (by omega), List.append_nil]; exact (⟨kc_822, cc_823, tc_824, fc_825, kb_826, cb_827, tb_828, fb_829, hp_830, hT_831, er_832, et_833, wr_834, wt_835, ec_836, uc_837, wc_838, hc_839, eb_840, ub_841, wb_842, hb_843⟩ : RSX ρ ws_758 ty_759 f9 rd krd tp ktp cd bb tl b_793 T_787 nk fr fk fp vl_788)⟩ : LPE ρ ws_758 ty_759 f9 rd krd tp ktp cd bb tl ts σ T nk fr fk fp (i_52 + 1) 1)⟩⟩, (show (i_52 + 1) ≤ 400 from by omega)⟩ hP hD hS (lv_sub hl [0, 1, 2, 4, 5] rfl)
    have iw_684 : wdE f9 tl b_81 = 2 := iw_684
    refine lv_istore (lv' := [(5, .int 1), (4, .int (nI i_52)), (2, .int 1), (3, .int 1), (1, .int 3), (0, .ref rd)]) hx hb dX4_readEither_39 hl (by decide) rfl (fun ls hl => ?_)
    refine lv_iload hx hb dX4_readEither_41 (lv_at hl 0 rfl) ?_
    refine lv_if_ne (tgt := 56) hx hb dX4_readEither_43 (by decide) (fun c_845 => ?_) (fun c_845 => absurd c_845 (by decide))
    refine lv_iload_n hx hb dX4_readEither_56 rfl (lv_at hl 3 rfl) ?_
    refine lv_if_ne (tgt := 65) hx hb dX4_readEither_57 (by decide) (fun c_846 => ?_) (fun c_846 => absurd c_846 (by decide))
    refine lv_iconst (v := 1) hx hb dX4_readEither_65 (by decide) ?_
    refine lv_goto (tgt := 70) hx hb dX4_readEither_66 (by decide) ?_
    refine lv_istore_n (lv' := [(3, .int 1), (5, .int 1), (4, .int (nI i_52)), (2, .int 1), (1, .int 3), (0, .ref rd)]) hx hb dX4_readEither_70 rfl hl (by decide) rfl (fun ls hl => ?_)
    have hw9 : b_81 + 3 ≤ nxF f9 tl b_81 ∧ nxF f9 tl b_81 ≤ tl := nx_wd hp_507.1 (j := 2) (by omega) iw_684
    have hm9 : Rch f9 tl (0, ts, σ, T) (0, nxF f9 tl b_81, 2 :: jA ta_82, T_83 ++ eA ta_82) := hr_85.st (st_and iw_684)
    have hdq : dep (2 :: jA ta_82) = dep σ := (dep_n _ (by omega)).trans ((dep_jA _).trans ((dep_jO _).symm.trans (congrArg dep (ow_jO hbs ow_86))))
    refine lv_aload_n hx hb dX4_readEither_71 rfl (lv_at hl 5 rfl) ?_
    refine va_get (D := D) (ci := 4) (v := .ref tp) (C := RX4) (T := TX4) (N := 8) hx hb hts hin4 hown hK hP krd e_677 rfl 0 (by decide) (hts (.fieldLink RX4 12 "HoneyHouse$RuleReader" "tape" "LHoneyHouse$Tape;") (List.mem_of_getElem? (i := 1) rfl)) (fun _ h9 => h9) rfl dX4_readEither_72 ?_
    have hFc := free_all hD hS hA
    refine va_callv (va_runV (As := []) (rest := []) ⟨hx, hb, hml, hown, hts⟩ (a_advance l D (rz [ktp]) ws_672 ty_673 f9 tp ktp tl (teF f9 tl b_81) (nI (kdF f9 tl b_81)) (nI b_81) bb kb_503 cb_504 tb_505 fb_506 H.size htl hb_520 hng (by omega) e_678 e_680 u_682 (rz_o1 (pl_ne e_680 e_678 (by intro h9; simp at h9))) (rz_in (by simp))) (cwV 0 hts gX4_readEither_X6_advance rfl rfl rfl (by decide +kernel) ⟨Nat.le_of_ble_eq_true rfl, Nat.le_of_ble_eq_true rfl⟩) ⟨fun a U g mk q => by obtain ⟨q0, q1, qP, qK, qD⟩ := q; exact ⟨q0, q1, qP, va_K.moved (u := U) (U := U.calling g mk a) (Vm.Alike.refl U.vm) qK, qD⟩, va_recv hK hP (ci := 6) (q0 := ktp) rfl e_678, fun U hU hW => ⟨rfl, by rw [hU], by rw [hU]; exact hP, va_K.moved hW.alike hK, hD.weaken (fun _ _ _ _ => trivial)⟩⟩ rfl rfl hl.1 rfl (lv_room (Nat.le_of_ble_eq_true rfl)) dX4_readEither_75 ⟨Nat.le_of_ble_eq_true rfl, Nat.le_of_ble_eq_true rfl⟩) hS (fun q _ h => hFc q h) hFc (fun u t H1 locs ht hvm w_848 hB hz1 hk1 hS => ?_)
    obtain ⟨ws_849, ty_850, hm_851, ht_853, hP1, hK1, hD1, hx_852⟩ := hB
    rw [ht] at hP1
    have hK := va_K.moved hvm.symm hK1
    have hD := hD1.weaken (fun _ _ _ h => hFc _ h)
    generalize H1 = H at hP1 hS ⊢
    have hP := hP1
    have e_854 := hm_851.keep (rz_o1 (pl_ne e_677 e_678 (by intro h9; simp at h9))) e_677
    have e_855 := hm_851.keep (rz_o1 (pl_ne e_679 e_678 (by intro h9; simp at h9))) e_679
    have e_856 := hm_851.keep (rz_o1 (pl_ne e_680 e_678 (by intro h9; simp at h9))) e_680
    have u_857 := ht_853 _ _ u_681
    have u_858 := ht_853 _ _ u_682
    have hm_859 : sm ρ [6] ws_672 ws_849 := hm_851.up (fun k _ h => rz_u1 wt_512 k h)
    have hsm := hsm.tr (hm_859.mono (by decide))
    have hlp_58 := hlp_58.tr (hm_859.mono (by decide))
    have htx := htx.tr ht_853
    have e_860 : ws_849[ktp]? = some (tp, .inr (6, [.int (nI tl), .int (nI (kdF f9 tl (nxF f9 tl b_81))), .int (nI (nxF f9 tl b_81)), .int (nI (teF f9 tl (nxF f9 tl b_81))), .ref bb])) := hx_852; have hq_861 : pcB f9 tl (nxF f9 tl b_81) := nxF_pc (f := f9) hp_507.1; have hq_8611 := hq_861.1; have hq_861t := teF_le (f := f9) hq_861.1; have hg_862 := nx_gain (f := f9) hp_507.1
    refine lv_aload_n hx hb dX4_readEither_78 rfl (lv_at hl 5 rfl) ?_
    refine lv_iload_n hx hb dX4_readEither_79 rfl (lv_at hl 4 rfl) ?_
    have hFc := free_all hD hS hA
    refine va_calli (va_runV (As := [.int 3]) (rest := []) ⟨hx, hb, hml, hown, hts⟩ (r_readOne3 l D ρ ws_849 ty_850 adK adV fo f9 rd krd tp ktp cd bb tl (nxF f9 tl b_81) (T_83 ++ eA ta_82) nk fr fk fp vl_84 (2 :: jA ta_82) H.size htl hng (⟨kc_499, cc_500, tc_501, fc_502, kb_503, cb_504, tb_505, fb_506, hq_861, hT_508, e_854, e_860, wr_511, wt_512, e_855, u_857, wc_515, hc_516, e_856, u_858, wb_519, hb_520⟩ : RSX ρ ws_849 ty_850 f9 rd krd tp ktp cd bb tl (nxF f9 tl b_81) (T_83 ++ eA ta_82) nk fr fk fp vl_84) (hdq.trans hdp) (by omega)) (cwV 1 hts gX4_readEither_X4_readOne rfl rfl rfl (by decide +kernel) ⟨Nat.le_of_ble_eq_true rfl, Nat.le_of_ble_eq_true rfl⟩) ⟨fun a U g mk q => by obtain ⟨q0, q1, qP, qK, qD, qS⟩ := q; exact ⟨q0, q1, qP, va_K.moved (u := U) (U := U.calling g mk a) (Vm.Alike.refl U.vm) qK, qD, SZ.same rfl rfl qS⟩, va_recv hK hP (ci := 4) (q0 := krd) rfl e_854, fun U hU hW => ⟨rfl, by rw [hU], by rw [hU]; exact hP, va_K.moved hW.alike hK, hD.weaken (fun _ _ _ _ => trivial), hsz9.go hS hW hU hFc⟩⟩ rfl rfl hl.1 rfl (lv_room (Nat.le_of_ble_eq_true rfl)) dX4_readEither_80 ⟨Nat.le_of_ble_eq_true rfl, Nat.le_of_ble_eq_true rfl⟩) hS (fun q _ h => hFc q h) hFc (fun r_863 u t H1 locs ht hvm w_864 hB hz1 hk1 hS => ?_)
    subst w_864
    obtain ⟨ws_865, ty_866, hm_867, ht_869, hP1, hK1, hD1, hx_868⟩ := hB
    rw [ht] at hP1
    have hK := va_K.moved hvm.symm hK1
    have hD := hD1.weaken (fun _ _ _ h => hFc _ h)
    generalize H1 = H at hP1 hS ⊢
    have hP := hP1
    obtain ⟨g_871, e_870, h_872⟩ := hm_867.obj e_854
    obtain ⟨z_873, z_874, z_875, z_876, z_877, z_878, rfl⟩ := smX4 h_872
    obtain ⟨g_880, e_879, h_881⟩ := hm_867.obj e_860
    obtain ⟨z_882, z_883, z_884, z_885, rfl⟩ := smX6 h_881
    obtain ⟨f_887, e_886⟩ := hm_867.arrI e_855
    have u_888 := ht_869 _ _ u_857
    have e_889 := hm_867.keep (by rw [wb_519]; omega) e_856
    have u_890 := ht_869 _ _ u_858
    have hsm := hsm.tr (hm_867.mono (by decide))
    have hlp_58 := hlp_58.tr (hm_867.mono (by decide))
    have htx := htx.tr ht_869
    rcases hx_868 with ⟨rfl, k_891, p_892, ts_893, T_894, vl_895, hk_896, hk_897, hr_898, hR_899⟩ | ⟨rfl, b_900, T_894, vl_895, hr_898, hg_904, hg_905, hR_899⟩
    · obtain ⟨kc_906, cc_907, tc_908, fc_909, kb_910, cb_911, tb_912, fb_913, hp_914, hT_915, er_916, et_917, wr_918, wt_919, ec_920, uc_921, wc_922, hc_923, eb_924, ub_925, wb_926, hb_927⟩ := id hR_899
      have hp_9141 := hp_914.1
      have hp_914t := teF_le (f := f9) hp_914.1
      refine lv_istore_n (lv' := [(2, .int 0), (3, .int 1), (5, .int 1), (4, .int (nI i_52)), (1, .int 3), (0, .ref rd)]) hx hb dX4_readEither_83 rfl hl (by decide) rfl (fun ls hl => ?_)
      refine lv_iload hx hb dX4_readEither_84 (lv_at hl 2 rfl) ?_
      refine lv_if_eq (tgt := 95) hx hb dX4_readEither_86 (by decide) (fun c_928 => absurd c_928 (by decide)) (fun c_928 => ?_)
      refine lv_aload_n hx hb dX4_readEither_89 rfl (lv_at hl 5 rfl) ?_
      refine lv_bipush (v := (-2)) hx hb dX4_readEither_90 (by decide) ?_
      have hFc := free_all hD hS hA
      refine va_callv (va_runV (As := [.int (-2)]) (rest := []) ⟨hx, hb, hml, hown, hts⟩ (r_addCode l D ρ ws_865 ty_866 adK adV fo f9 rd krd tp ktp cd bb tl ts_893 T_894 nk fr (nI k_891) (nI p_892) vl_895 (2, 0, 0, 0) (-2) H.size htl hng (⟨kc_906, cc_907, tc_908, fc_909, kb_910, cb_911, tb_912, fb_913, hp_914, hT_915, er_916, et_917, wr_918, wt_919, ec_920, uc_921, wc_922, hc_923, eb_924, ub_925, wb_926, hb_927⟩ : RSX ρ ws_865 ty_866 f9 rd krd tp ktp cd bb tl ts_893 T_894 nk fr (nI k_891) (nI p_892) vl_895) rfl) (cwV 1 hts gX4_readEither_X4_addCode rfl rfl rfl (by decide +kernel) ⟨Nat.le_of_ble_eq_true rfl, Nat.le_of_ble_eq_true rfl⟩) ⟨fun a U g mk q => by obtain ⟨q0, q1, qP, qK, qD, qS⟩ := q; exact ⟨q0, q1, qP, va_K.moved (u := U) (U := U.calling g mk a) (Vm.Alike.refl U.vm) qK, qD, SZ.same rfl rfl qS⟩, va_recv hK hP (ci := 4) (q0 := krd) rfl er_916, fun U hU hW => ⟨rfl, by rw [hU], by rw [hU]; exact hP, va_K.moved hW.alike hK, hD.weaken (fun _ _ _ _ => trivial), hsz9.go hS hW hU hFc⟩⟩ rfl rfl hl.1 rfl (lv_room (Nat.le_of_ble_eq_true rfl)) dX4_readEither_92 ⟨Nat.le_of_ble_eq_true rfl, Nat.le_of_ble_eq_true rfl⟩) hS (fun q _ h => hFc q h) hFc (fun u t H1 locs ht hvm w_930 hB hz1 hk1 hS => ?_)
      obtain ⟨ws_931, ty_932, hm_933, ht_935, hP1, hK1, hD1, hx_934⟩ := hB
      rw [ht] at hP1
      have hK := va_K.moved hvm.symm hK1
      have hD := hD1.weaken (fun _ _ _ h => hFc _ h)
      generalize H1 = H at hP1 hS ⊢
      have hP := hP1
      obtain ⟨g_937, e_936, h_938⟩ := hm_933.obj er_916
      obtain ⟨z_939, z_940, z_941, z_942, z_943, z_944, rfl⟩ := smX4 h_938
      obtain ⟨g_946, e_945, h_947⟩ := hm_933.obj et_917
      obtain ⟨z_948, z_949, z_950, z_951, rfl⟩ := smX6 h_947
      obtain ⟨f_953, e_952⟩ := hm_933.arrI ec_920
      have u_954 := ht_935 _ _ uc_921
      have e_955 := hm_933.keep (by rw [wb_926]; omega) eb_924
      have u_956 := ht_935 _ _ ub_925
      have hsm := hsm.tr (hm_933.mono (by decide))
      have hlp_58 := hlp_58.tr (hm_933.mono (by decide))
      have htx := htx.tr ht_935
      rcases hx_934 with ⟨hl_957, hR_958⟩ | ⟨hl_957, hR_958⟩
      · obtain ⟨kc_959, cc_960, tc_961, fc_962, kb_963, cb_964, tb_965, fb_966, hp_967, hT_968, er_969, et_970, wr_971, wt_972, ec_973, uc_974, wc_975, hc_976, eb_977, ub_978, wb_979, hb_980⟩ := id hR_958
        have hp_9671 := hp_967.1
        have hp_967t := teF_le (f := f9) hp_967.1
        refine lv_iinc (v := nI (i_52 + 1)) (lv' := [(4, .int (nI (i_52 + 1))), (2, .int 0), (3, .int 1), (5, .int 1), (1, .int 3), (0, .ref rd)]) hx hb dX4_readEither_95 hl (k := 3) rfl (nI_add i_52 1) (by decide) rfl (fun ls hl => ?_)
        refine lv_goto (tgt := 11) hx hb dX4_readEither_98 (by decide) ?_
        exact ih_51 (i_52 + 1, 0, 1) ws_931 _ _ ls (by show 400 - (i_52 + 1) < 400 - i_52; omega) ⟨hlp_58, ⟨ty_932, hK, htx, Or.inr ⟨rfl, Or.inr rfl, (⟨k_891, p_892, _, _, _, by omega, by omega, hm9.tr hr_898, (⟨kc_959, cc_960, tc_961, fc_962, kb_963, cb_964, tb_965, fb_966, hp_967, hT_968, er_969, et_970, wr_971, wt_972, ec_973, uc_974, wc_975, hc_976, eb_977, ub_978, wb_979, hb_980⟩ : RSX ρ ws_931 ty_932 f9 rd krd tp ktp cd bb tl ts_893 (T_894 ++ [(2, 0, 0, 0)]) nk fr (nI k_891) (nI p_892) vl_895)⟩ : FLT ρ ws_931 ty_932 f9 rd krd tp ktp cd bb tl (0, ts, σ, T) nk fr)⟩⟩, (show (i_52 + 1) ≤ 400 from by omega)⟩ hP hD hS (lv_sub hl [0, 1, 2, 4, 5] rfl)
      obtain ⟨kc_981, cc_982, tc_983, fc_984, kb_985, cb_986, tb_987, fb_988, hp_989, hT_990, er_991, et_992, wr_993, wt_994, ec_995, uc_996, wc_997, hc_998, eb_999, ub_1000, wb_1001, hb_1002⟩ := id hR_958
      have hp_9891 := hp_989.1
      have hp_989t := teF_le (f := f9) hp_989.1
      refine lv_iinc (v := nI (i_52 + 1)) (lv' := [(4, .int (nI (i_52 + 1))), (2, .int 0), (3, .int 1), (5, .int 1), (1, .int 3), (0, .ref rd)]) hx hb dX4_readEither_95 hl (k := 3) rfl (nI_add i_52 1) (by decide) rfl (fun ls hl => ?_)
      refine lv_goto (tgt := 11) hx hb dX4_readEither_98 (by decide) ?_
      exact ih_51 (i_52 + 1, 0, 1) ws_931 _ _ ls (by show 400 - (i_52 + 1) < 400 - i_52; omega) ⟨hlp_58, ⟨ty_932, hK, htx, Or.inr ⟨rfl, Or.inr rfl, (⟨k_891, p_892, _, _, _, by omega, by omega, hm9.tr hr_898, (⟨kc_981, cc_982, tc_983, fc_984, kb_985, cb_986, tb_987, fb_988, hp_989, hT_990, er_991, et_992, wr_993, wt_994, ec_995, uc_996, wc_997, hc_998, eb_999, ub_1000, wb_1001, hb_1002⟩ : RSX ρ ws_931 ty_932 f9 rd krd tp ktp cd bb tl ts_893 T_894 nk fr (nI k_891) (nI p_892) vl_895)⟩ : FLT ρ ws_931 ty_932 f9 rd krd tp ktp cd bb tl (0, ts, σ, T) nk fr)⟩⟩, (show (i_52 + 1) ≤ 400 from by omega)⟩ hP hD hS (lv_sub hl [0, 1, 2, 4, 5] rfl)
    obtain ⟨kc_1003, cc_1004, tc_1005, fc_1006, kb_1007, cb_1008, tb_1009, fb_1010, hp_1011, hT_1012, er_1013, et_1014, wr_1015, wt_1016, ec_1017, uc_1018, wc_1019, hc_1020, eb_1021, ub_1022, wb_1023, hb_1024⟩ := id hR_899
    have hp_10111 := hp_1011.1
    have hp_1011t := teF_le (f := f9) hp_1011.1
    refine lv_istore_n (lv' := [(2, .int 1), (3, .int 1), (5, .int 1), (4, .int (nI i_52)), (1, .int 3), (0, .ref rd)]) hx hb dX4_readEither_83 rfl hl (by decide) rfl (fun ls hl => ?_)
    refine lv_iload hx hb dX4_readEither_84 (lv_at hl 2 rfl) ?_
    refine lv_if_eq (tgt := 95) hx hb dX4_readEither_86 (by decide) (fun c_1025 => absurd c_1025 (by decide)) (fun c_1025 => ?_)
    refine lv_aload_n hx hb dX4_readEither_89 rfl (lv_at hl 5 rfl) ?_
    refine lv_bipush (v := (-2)) hx hb dX4_readEither_90 (by decide) ?_
    have hFc := free_all hD hS hA
    refine va_callv (va_runV (As := [.int (-2)]) (rest := []) ⟨hx, hb, hml, hown, hts⟩ (r_addCode l D ρ ws_865 ty_866 adK adV fo f9 rd krd tp ktp cd bb tl b_900 T_894 nk fr fk fp vl_895 (2, 0, 0, 0) (-2) H.size htl hng (⟨kc_1003, cc_1004, tc_1005, fc_1006, kb_1007, cb_1008, tb_1009, fb_1010, hp_1011, hT_1012, er_1013, et_1014, wr_1015, wt_1016, ec_1017, uc_1018, wc_1019, hc_1020, eb_1021, ub_1022, wb_1023, hb_1024⟩ : RSX ρ ws_865 ty_866 f9 rd krd tp ktp cd bb tl b_900 T_894 nk fr fk fp vl_895) rfl) (cwV 1 hts gX4_readEither_X4_addCode rfl rfl rfl (by decide +kernel) ⟨Nat.le_of_ble_eq_true rfl, Nat.le_of_ble_eq_true rfl⟩) ⟨fun a U g mk q => by obtain ⟨q0, q1, qP, qK, qD, qS⟩ := q; exact ⟨q0, q1, qP, va_K.moved (u := U) (U := U.calling g mk a) (Vm.Alike.refl U.vm) qK, qD, SZ.same rfl rfl qS⟩, va_recv hK hP (ci := 4) (q0 := krd) rfl er_1013, fun U hU hW => ⟨rfl, by rw [hU], by rw [hU]; exact hP, va_K.moved hW.alike hK, hD.weaken (fun _ _ _ _ => trivial), hsz9.go hS hW hU hFc⟩⟩ rfl rfl hl.1 rfl (lv_room (Nat.le_of_ble_eq_true rfl)) dX4_readEither_92 ⟨Nat.le_of_ble_eq_true rfl, Nat.le_of_ble_eq_true rfl⟩) hS (fun q _ h => hFc q h) hFc (fun u t H1 locs ht hvm w_1027 hB hz1 hk1 hS => ?_)
    obtain ⟨ws_1028, ty_1029, hm_1030, ht_1032, hP1, hK1, hD1, hx_1031⟩ := hB
    rw [ht] at hP1
    have hK := va_K.moved hvm.symm hK1
    have hD := hD1.weaken (fun _ _ _ h => hFc _ h)
    generalize H1 = H at hP1 hS ⊢
    have hP := hP1
    obtain ⟨g_1034, e_1033, h_1035⟩ := hm_1030.obj er_1013
    obtain ⟨z_1036, z_1037, z_1038, z_1039, z_1040, z_1041, rfl⟩ := smX4 h_1035
    obtain ⟨g_1043, e_1042, h_1044⟩ := hm_1030.obj et_1014
    obtain ⟨z_1045, z_1046, z_1047, z_1048, rfl⟩ := smX6 h_1044
    obtain ⟨f_1050, e_1049⟩ := hm_1030.arrI ec_1017
    have u_1051 := ht_1032 _ _ uc_1018
    have e_1052 := hm_1030.keep (by rw [wb_1023]; omega) eb_1021
    have u_1053 := ht_1032 _ _ ub_1022
    have hsm := hsm.tr (hm_1030.mono (by decide))
    have hlp_58 := hlp_58.tr (hm_1030.mono (by decide))
    have htx := htx.tr ht_1032
    obtain ⟨hl_1054, hR_1055⟩ := hx_1031.resolve_right (fun h9 => h9.1 (by omega))
    obtain ⟨kc_1056, cc_1057, tc_1058, fc_1059, kb_1060, cb_1061, tb_1062, fb_1063, hp_1064, hT_1065, er_1066, et_1067, wr_1068, wt_1069, ec_1070, uc_1071, wc_1072, hc_1073, eb_1074, ub_1075, wb_1076, hb_1077⟩ := id hR_1055
    have hp_10641 := hp_1064.1
    have hp_1064t := teF_le (f := f9) hp_1064.1
    refine lv_iinc (v := nI (i_52 + 1)) (lv' := [(4, .int (nI (i_52 + 1))), (2, .int 1), (3, .int 1), (5, .int 1), (1, .int 3), (0, .ref rd)]) hx hb dX4_readEither_95 hl (k := 3) rfl (nI_add i_52 1) (by decide) rfl (fun ls hl => ?_)
    refine lv_goto (tgt := 11) hx hb dX4_readEither_98 (by decide) ?_
    exact ih_51 (i_52 + 1, 1, 1) ws_1028 _ _ ls (by show 400 - (i_52 + 1) < 400 - i_52; omega) ⟨hlp_58, ⟨ty_1029, hK, htx, Or.inl ⟨rfl, Or.inr rfl, (⟨b_900, 2 :: jA ta_82, T_894, _, hm9.tr (rch_an (by omega) hr_898), ow_and hbs ow_86, by omega, fun _ => by rw [eA_2jA, len_a1]; omega, fun h9 => absurd h9 (by decide), by rw [eA_2jA]; exact (⟨kc_1056, cc_1057, tc_1058, fc_1059, kb_1060, cb_1061, tb_1062, fb_1063, hp_1064, hT_1065, er_1066, et_1067, wr_1068, wt_1069, ec_1070, uc_1071, wc_1072, hc_1073, eb_1074, ub_1075, wb_1076, hb_1077⟩ : RSX ρ ws_1028 ty_1029 f9 rd krd tp ktp cd bb tl b_900 (T_894 ++ [(2, 0, 0, 0)]) nk fr fk fp vl_895)⟩ : LPE ρ ws_1028 ty_1029 f9 rd krd tp ktp cd bb tl ts σ T nk fr fk fp (i_52 + 1) 1)⟩⟩, (show (i_52 + 1) ≤ 400 from by omega)⟩ hP hD hS (lv_sub hl [0, 1, 2, 4, 5] rfl)
  · obtain ⟨kc_1078, cc_1079, tc_1080, fc_1081, kb_1082, cb_1083, tb_1084, fb_1085, hp_1086, hT_1087, er_1088, et_1089, wr_1090, wt_1091, ec_1092, uc_1093, wc_1094, hc_1095, eb_1096, ub_1097, wb_1098, hb_1099⟩ := id hR_90
    have hp_10861 := hp_1086.1
    have hp_1086t := teF_le (f := f9) hp_1086.1
    refine lv_sipush (v := 400) hx hb dX4_readEither_13 (by decide) ?_
    refine lv_icmp_ge (tgt := 101) hx hb dX4_readEither_16 (by decide) (fun c_1100 => ?_) (fun c_1100 => ?_)
    · have d_1101 := n_le (a := 400) (b := i_52) (by omega) (by omega) c_1100
      refine lv_iload_n hx hb dX4_readEither_101 rfl (lv_at hl 2 rfl) ?_
      refine lv_if_eq (tgt := 111) hx hb dX4_readEither_102 (by decide) (fun c_1102 => ?_) (fun c_1102 => absurd (by decide) c_1102)
      refine lv_iload_n hx hb dX4_readEither_111 rfl (lv_at hl 1 rfl) ?_
      exact W.zret (v := 0) hx hb hr rfl (fun t ht hW => ⟨⟨0, 0, rfl, rfl, ws_56, ty_79, hsm, htx, by rw [ht]; exact hP, va_K.moved hW.alike hK, hD, Or.inl ⟨rfl, k_91, p_92, _, _, _, by omega, by omega, hr_85, (⟨kc_1078, cc_1079, tc_1080, fc_1081, kb_1082, cb_1083, tb_1084, fb_1085, hp_1086, hT_1087, er_1088, et_1089, wr_1090, wt_1091, ec_1092, uc_1093, wc_1094, hc_1095, eb_1096, ub_1097, wb_1098, hb_1099⟩ : RSX ρ ws_56 ty_79 f9 rd krd tp ktp cd bb tl ts_93 T_83 nk fr (nI k_91) (nI p_92) vl_84)⟩⟩, hS.F ht⟩) hS.2.2 dX4_readEither_112
    have d_1103 := n_nle (a := 400) (b := i_52) (by omega) (by omega) c_1100
    refine lv_iload_n hx hb dX4_readEither_19 rfl (lv_at hl 1 rfl) ?_
    refine lv_if_eq (tgt := 101) hx hb dX4_readEither_20 (by decide) (fun c_1104 => ?_) (fun c_1104 => absurd (by decide) c_1104)
    refine lv_iload_n hx hb dX4_readEither_101 rfl (lv_at hl 2 rfl) ?_
    refine lv_if_eq (tgt := 111) hx hb dX4_readEither_102 (by decide) (fun c_1105 => ?_) (fun c_1105 => absurd (by decide) c_1105)
    refine lv_iload_n hx hb dX4_readEither_111 rfl (lv_at hl 1 rfl) ?_
    exact W.zret (v := 0) hx hb hr rfl (fun t ht hW => ⟨⟨0, 0, rfl, rfl, ws_56, ty_79, hsm, htx, by rw [ht]; exact hP, va_K.moved hW.alike hK, hD, Or.inl ⟨rfl, k_91, p_92, _, _, _, by omega, by omega, hr_85, (⟨kc_1078, cc_1079, tc_1080, fc_1081, kb_1082, cb_1083, tb_1084, fb_1085, hp_1086, hT_1087, er_1088, et_1089, wr_1090, wt_1091, ec_1092, uc_1093, wc_1094, hc_1095, eb_1096, ub_1097, wb_1098, hb_1099⟩ : RSX ρ ws_56 ty_79 f9 rd krd tp ktp cd bb tl ts_93 T_83 nk fr (nI k_91) (nI p_92) vl_84)⟩⟩, hS.F ht⟩) hS.2.2 dX4_readEither_112
  obtain ⟨kc_1106, cc_1107, tc_1108, fc_1109, kb_1110, cb_1111, tb_1112, fb_1113, hp_1114, hT_1115, er_1116, et_1117, wr_1118, wt_1119, ec_1120, uc_1121, wc_1122, hc_1123, eb_1124, ub_1125, wb_1126, hb_1127⟩ := id hR_90
  have hp_11141 := hp_1114.1
  have hp_1114t := teF_le (f := f9) hp_1114.1
  refine lv_sipush (v := 400) hx hb dX4_readEither_13 (by decide) ?_
  refine lv_icmp_ge (tgt := 101) hx hb dX4_readEither_16 (by decide) (fun c_1128 => ?_) (fun c_1128 => ?_)
  · have d_1129 := n_le (a := 400) (b := i_52) (by omega) (by omega) c_1128
    refine lv_iload_n hx hb dX4_readEither_101 rfl (lv_at hl 2 rfl) ?_
    refine lv_if_eq (tgt := 111) hx hb dX4_readEither_102 (by decide) (fun c_1130 => absurd c_1130 (by decide)) (fun c_1130 => ?_)
    refine lv_aload_n hx hb dX4_readEither_105 rfl (lv_at hl 4 rfl) ?_
    refine lv_bipush (v := (-3)) hx hb dX4_readEither_106 (by decide) ?_
    have hFc := free_all hD hS hA
    refine va_callv (va_runV (As := [.int (-3)]) (rest := []) ⟨hx, hb, hml, hown, hts⟩ (r_addCode l D ρ ws_56 ty_79 adK adV fo f9 rd krd tp ktp cd bb tl ts_93 T_83 nk fr (nI k_91) (nI p_92) vl_84 (1, 0, 0, 0) (-3) H.size htl hng (⟨kc_1106, cc_1107, tc_1108, fc_1109, kb_1110, cb_1111, tb_1112, fb_1113, hp_1114, hT_1115, er_1116, et_1117, wr_1118, wt_1119, ec_1120, uc_1121, wc_1122, hc_1123, eb_1124, ub_1125, wb_1126, hb_1127⟩ : RSX ρ ws_56 ty_79 f9 rd krd tp ktp cd bb tl ts_93 T_83 nk fr (nI k_91) (nI p_92) vl_84) rfl) (cwV 1 hts gX4_readEither_X4_addCode rfl rfl rfl (by decide +kernel) ⟨Nat.le_of_ble_eq_true rfl, Nat.le_of_ble_eq_true rfl⟩) ⟨fun a U g mk q => by obtain ⟨q0, q1, qP, qK, qD, qS⟩ := q; exact ⟨q0, q1, qP, va_K.moved (u := U) (U := U.calling g mk a) (Vm.Alike.refl U.vm) qK, qD, SZ.same rfl rfl qS⟩, va_recv hK hP (ci := 4) (q0 := krd) rfl er_1116, fun U hU hW => ⟨rfl, by rw [hU], by rw [hU]; exact hP, va_K.moved hW.alike hK, hD.weaken (fun _ _ _ _ => trivial), hsz9.go hS hW hU hFc⟩⟩ rfl rfl hl.1 rfl (lv_room (Nat.le_of_ble_eq_true rfl)) dX4_readEither_108 ⟨Nat.le_of_ble_eq_true rfl, Nat.le_of_ble_eq_true rfl⟩) hS (fun q _ h => hFc q h) hFc (fun u t H1 locs ht hvm w_1132 hB hz1 hk1 hS => ?_)
    obtain ⟨ws_1133, ty_1134, hm_1135, ht_1137, hP1, hK1, hD1, hx_1136⟩ := hB
    rw [ht] at hP1
    have hK := va_K.moved hvm.symm hK1
    have hD := hD1.weaken (fun _ _ _ h => hFc _ h)
    generalize H1 = H at hP1 hS ⊢
    have hP := hP1
    obtain ⟨g_1139, e_1138, h_1140⟩ := hm_1135.obj er_1116
    obtain ⟨z_1141, z_1142, z_1143, z_1144, z_1145, z_1146, rfl⟩ := smX4 h_1140
    obtain ⟨g_1148, e_1147, h_1149⟩ := hm_1135.obj et_1117
    obtain ⟨z_1150, z_1151, z_1152, z_1153, rfl⟩ := smX6 h_1149
    obtain ⟨f_1155, e_1154⟩ := hm_1135.arrI ec_1120
    have u_1156 := ht_1137 _ _ uc_1121
    have e_1157 := hm_1135.keep (by rw [wb_1126]; omega) eb_1124
    have u_1158 := ht_1137 _ _ ub_1125
    have hsm := hsm.tr (hm_1135.mono (by decide))
    have hlp_58 := hlp_58.tr (hm_1135.mono (by decide))
    have htx := htx.tr ht_1137
    rcases hx_1136 with ⟨hl_1159, hR_1160⟩ | ⟨hl_1159, hR_1160⟩
    · obtain ⟨kc_1161, cc_1162, tc_1163, fc_1164, kb_1165, cb_1166, tb_1167, fb_1168, hp_1169, hT_1170, er_1171, et_1172, wr_1173, wt_1174, ec_1175, uc_1176, wc_1177, hc_1178, eb_1179, ub_1180, wb_1181, hb_1182⟩ := id hR_1160
      have hp_11691 := hp_1169.1
      have hp_1169t := teF_le (f := f9) hp_1169.1
      refine lv_iload_n hx hb dX4_readEither_111 rfl (lv_at hl 1 rfl) ?_
      exact W.zret (v := 0) hx hb hr rfl (fun t ht hW => ⟨⟨0, 0, rfl, rfl, ws_1133, ty_1134, hsm, htx, by rw [ht]; exact hP, va_K.moved hW.alike hK, hD, Or.inl ⟨rfl, k_91, p_92, _, _, _, by omega, by omega, hr_85, (⟨kc_1161, cc_1162, tc_1163, fc_1164, kb_1165, cb_1166, tb_1167, fb_1168, hp_1169, hT_1170, er_1171, et_1172, wr_1173, wt_1174, ec_1175, uc_1176, wc_1177, hc_1178, eb_1179, ub_1180, wb_1181, hb_1182⟩ : RSX ρ ws_1133 ty_1134 f9 rd krd tp ktp cd bb tl ts_93 (T_83 ++ [(1, 0, 0, 0)]) nk fr (nI k_91) (nI p_92) vl_84)⟩⟩, hS.F ht⟩) hS.2.2 dX4_readEither_112
    obtain ⟨kc_1183, cc_1184, tc_1185, fc_1186, kb_1187, cb_1188, tb_1189, fb_1190, hp_1191, hT_1192, er_1193, et_1194, wr_1195, wt_1196, ec_1197, uc_1198, wc_1199, hc_1200, eb_1201, ub_1202, wb_1203, hb_1204⟩ := id hR_1160
    have hp_11911 := hp_1191.1
    have hp_1191t := teF_le (f := f9) hp_1191.1
    refine lv_iload_n hx hb dX4_readEither_111 rfl (lv_at hl 1 rfl) ?_
    exact W.zret (v := 0) hx hb hr rfl (fun t ht hW => ⟨⟨0, 0, rfl, rfl, ws_1133, ty_1134, hsm, htx, by rw [ht]; exact hP, va_K.moved hW.alike hK, hD, Or.inl ⟨rfl, k_91, p_92, _, _, _, by omega, by omega, hr_85, (⟨kc_1183, cc_1184, tc_1185, fc_1186, kb_1187, cb_1188, tb_1189, fb_1190, hp_1191, hT_1192, er_1193, et_1194, wr_1195, wt_1196, ec_1197, uc_1198, wc_1199, hc_1200, eb_1201, ub_1202, wb_1203, hb_1204⟩ : RSX ρ ws_1133 ty_1134 f9 rd krd tp ktp cd bb tl ts_93 T_83 nk fr (nI k_91) (nI p_92) vl_84)⟩⟩, hS.F ht⟩) hS.2.2 dX4_readEither_112
  have d_1205 := n_nle (a := 400) (b := i_52) (by omega) (by omega) c_1128
  refine lv_iload_n hx hb dX4_readEither_19 rfl (lv_at hl 1 rfl) ?_
  refine lv_if_eq (tgt := 101) hx hb dX4_readEither_20 (by decide) (fun c_1206 => ?_) (fun c_1206 => absurd (by decide) c_1206)
  refine lv_iload_n hx hb dX4_readEither_101 rfl (lv_at hl 2 rfl) ?_
  refine lv_if_eq (tgt := 111) hx hb dX4_readEither_102 (by decide) (fun c_1207 => absurd c_1207 (by decide)) (fun c_1207 => ?_)
  refine lv_aload_n hx hb dX4_readEither_105 rfl (lv_at hl 4 rfl) ?_
  refine lv_bipush (v := (-3)) hx hb dX4_readEither_106 (by decide) ?_
  have hFc := free_all hD hS hA
  refine va_callv (va_runV (As := [.int (-3)]) (rest := []) ⟨hx, hb, hml, hown, hts⟩ (r_addCode l D ρ ws_56 ty_79 adK adV fo f9 rd krd tp ktp cd bb tl ts_93 T_83 nk fr (nI k_91) (nI p_92) vl_84 (1, 0, 0, 0) (-3) H.size htl hng (⟨kc_1106, cc_1107, tc_1108, fc_1109, kb_1110, cb_1111, tb_1112, fb_1113, hp_1114, hT_1115, er_1116, et_1117, wr_1118, wt_1119, ec_1120, uc_1121, wc_1122, hc_1123, eb_1124, ub_1125, wb_1126, hb_1127⟩ : RSX ρ ws_56 ty_79 f9 rd krd tp ktp cd bb tl ts_93 T_83 nk fr (nI k_91) (nI p_92) vl_84) rfl) (cwV 1 hts gX4_readEither_X4_addCode rfl rfl rfl (by decide +kernel) ⟨Nat.le_of_ble_eq_true rfl, Nat.le_of_ble_eq_true rfl⟩) ⟨fun a U g mk q => by obtain ⟨q0, q1, qP, qK, qD, qS⟩ := q; exact ⟨q0, q1, qP, va_K.moved (u := U) (U := U.calling g mk a) (Vm.Alike.refl U.vm) qK, qD, SZ.same rfl rfl qS⟩, va_recv hK hP (ci := 4) (q0 := krd) rfl er_1116, fun U hU hW => ⟨rfl, by rw [hU], by rw [hU]; exact hP, va_K.moved hW.alike hK, hD.weaken (fun _ _ _ _ => trivial), hsz9.go hS hW hU hFc⟩⟩ rfl rfl hl.1 rfl (lv_room (Nat.le_of_ble_eq_true rfl)) dX4_readEither_108 ⟨Nat.le_of_ble_eq_true rfl, Nat.le_of_ble_eq_true rfl⟩) hS (fun q _ h => hFc q h) hFc (fun u t H1 locs ht hvm w_1209 hB hz1 hk1 hS => ?_)
  obtain ⟨ws_1210, ty_1211, hm_1212, ht_1214, hP1, hK1, hD1, hx_1213⟩ := hB
  rw [ht] at hP1
  have hK := va_K.moved hvm.symm hK1
  have hD := hD1.weaken (fun _ _ _ h => hFc _ h)
  generalize H1 = H at hP1 hS ⊢
  have hP := hP1
  obtain ⟨g_1216, e_1215, h_1217⟩ := hm_1212.obj er_1116
  obtain ⟨z_1218, z_1219, z_1220, z_1221, z_1222, z_1223, rfl⟩ := smX4 h_1217
  obtain ⟨g_1225, e_1224, h_1226⟩ := hm_1212.obj et_1117
  obtain ⟨z_1227, z_1228, z_1229, z_1230, rfl⟩ := smX6 h_1226
  obtain ⟨f_1232, e_1231⟩ := hm_1212.arrI ec_1120
  have u_1233 := ht_1214 _ _ uc_1121
  have e_1234 := hm_1212.keep (by rw [wb_1126]; omega) eb_1124
  have u_1235 := ht_1214 _ _ ub_1125
  have hsm := hsm.tr (hm_1212.mono (by decide))
  have hlp_58 := hlp_58.tr (hm_1212.mono (by decide))
  have htx := htx.tr ht_1214
  rcases hx_1213 with ⟨hl_1236, hR_1237⟩ | ⟨hl_1236, hR_1237⟩
  · obtain ⟨kc_1238, cc_1239, tc_1240, fc_1241, kb_1242, cb_1243, tb_1244, fb_1245, hp_1246, hT_1247, er_1248, et_1249, wr_1250, wt_1251, ec_1252, uc_1253, wc_1254, hc_1255, eb_1256, ub_1257, wb_1258, hb_1259⟩ := id hR_1237
    have hp_12461 := hp_1246.1
    have hp_1246t := teF_le (f := f9) hp_1246.1
    refine lv_iload_n hx hb dX4_readEither_111 rfl (lv_at hl 1 rfl) ?_
    exact W.zret (v := 0) hx hb hr rfl (fun t ht hW => ⟨⟨0, 0, rfl, rfl, ws_1210, ty_1211, hsm, htx, by rw [ht]; exact hP, va_K.moved hW.alike hK, hD, Or.inl ⟨rfl, k_91, p_92, _, _, _, by omega, by omega, hr_85, (⟨kc_1238, cc_1239, tc_1240, fc_1241, kb_1242, cb_1243, tb_1244, fb_1245, hp_1246, hT_1247, er_1248, et_1249, wr_1250, wt_1251, ec_1252, uc_1253, wc_1254, hc_1255, eb_1256, ub_1257, wb_1258, hb_1259⟩ : RSX ρ ws_1210 ty_1211 f9 rd krd tp ktp cd bb tl ts_93 (T_83 ++ [(1, 0, 0, 0)]) nk fr (nI k_91) (nI p_92) vl_84)⟩⟩, hS.F ht⟩) hS.2.2 dX4_readEither_112
  obtain ⟨kc_1260, cc_1261, tc_1262, fc_1263, kb_1264, cb_1265, tb_1266, fb_1267, hp_1268, hT_1269, er_1270, et_1271, wr_1272, wt_1273, ec_1274, uc_1275, wc_1276, hc_1277, eb_1278, ub_1279, wb_1280, hb_1281⟩ := id hR_1237
  have hp_12681 := hp_1268.1
  have hp_1268t := teF_le (f := f9) hp_1268.1
  refine lv_iload_n hx hb dX4_readEither_111 rfl (lv_at hl 1 rfl) ?_
  exact W.zret (v := 0) hx hb hr rfl (fun t ht hW => ⟨⟨0, 0, rfl, rfl, ws_1210, ty_1211, hsm, htx, by rw [ht]; exact hP, va_K.moved hW.alike hK, hD, Or.inl ⟨rfl, k_91, p_92, _, _, _, by omega, by omega, hr_85, (⟨kc_1260, cc_1261, tc_1262, fc_1263, kb_1264, cb_1265, tb_1266, fb_1267, hp_1268, hT_1269, er_1270, et_1271, wr_1272, wt_1273, ec_1274, uc_1275, wc_1276, hc_1277, eb_1278, ub_1279, wb_1280, hb_1281⟩ : RSX ρ ws_1210 ty_1211 f9 rd krd tp ktp cd bb tl ts_93 T_83 nk fr (nI k_91) (nI p_92) vl_84)⟩⟩, hS.F ht⟩) hS.2.2 dX4_readEither_112
set_option maxHeartbeats 4000000 in
set_option maxRecDepth 100000 in
theorem r_readOne2 (l : Launch) (D : va_G) (ρ : Nat → Nat) (ws : va_W) (tys : List (ClassId × FieldType)) (adK adV : Nat → Nat) (fo : Option Nat) (f9 : Nat → Int32) (rd krd tp ktp cd bb tl ts : Nat) (T : List Tk) (nk : Int64) (fr fk fp vl : Int32) (σ : List Nat) (sz : Nat) (htl : tl ≤ 400) (hng : ∀ i : Nat, i < tl → ¬ f9 i = -1) (R0 : RSX ρ ws tys f9 rd krd tp ktp cd bb tl ts T nk fr fk fp vl) (hdp : dep σ = 2) (hT2 : 2 * T.length ≤ ts) : Met l yX4_readOne wsX4_readOne ({ frames := 15, cells := 0, slots := 0, locals := 341 }) (va_Pc [.ref rd, .int 2] (fun U => U.heap.size = sz ∧ va_P D vwCl ws U.heap ∧ va_K D vwCl tys U ∧ va_D (fun _ => True) ws ∧ SZ adK adV fo (va_A ws sz) U U.heap)) (va_Qi (fun (r : Int32) (s9 : Int32) => r = s9) (fun (s9 : Int32) (t : State) => ∃ (ws' : va_W) (tys' : List (ClassId × FieldType)), sm ρ [4, 6] ws ws' ∧ tyx tys tys' ∧ va_P D vwCl ws' t.heap ∧ va_K D vwCl tys' t ∧ va_D (va_A ws sz) ws' ∧ ((s9 = 0 ∧ FLT ρ ws' tys' f9 rd krd tp ktp cd bb tl (0, ts, σ, T) nk fr) ∨ (s9 = 1 ∧ ONE ρ ws' tys' f9 rd krd tp ktp cd bb tl ts σ T nk fr fk fp))) (va_A ws sz)) 0 0 (va_A ws sz) := by
  refine Met.ofW (cc := cX4_readOne) (maxL := 4) (ret := (some .boolean)) (by decide) rfl ?_
  intro p e s m args below meth c s₁ B hml hv
  obtain ⟨rfl, hsz, hP, hK, hD0, hsz9⟩ := hv
  have hx := B.exec
  have hb := B.bytes
  have hr := B.returns
  have hts := atoms_spec (ws := wsX4_readOne) B.pre
  have hown : s.vm.findClass RX4 = some m.cls := findClass_of_methodNamed B.named
  have hlocks := B.notSynchronized
  subst hsz
  have hD := hD0.self (sz := s.heap.size)
  generalize hAe : va_A ws s.heap.size = A at hD hsz9 ⊢
  have hA : ∀ q : Nat, s.heap.size ≤ q → A q := fun q h => by rw [← hAe]; exact Or.inr h
  have hS : va_S A s.heap s.heap [] := va_S.rf
  have hsm : sm ρ [4, 6] ws ws := sm.rf ws
  have htx : tyx tys tys := tyx.rf tys
  have hin4 : ∀ w ∈ u_ws RX4 TX4 8, w ∈ wsX4_readOne := (fun _ h9 => List.mem_cons_of_mem _ (List.mem_append_left _ ((List.mem_append_right _ h9))))
  have hl := lv_entry ([.ref rd, .int 2]) (n := 4) (Nat.le_of_ble_eq_true rfl)
  rw [lg_entry_eq]
  generalize (lg_sl ([.ref rd, .int 2]) ++ List.replicate (4 - (lg_sl ([.ref rd, .int 2])).length) Slot.unset).toArray = ls at hl ⊢
  have hl : lv_has ls 4 [(0, .ref rd), (1, .int 2)] := hl
  obtain ⟨kc_1, cc_2, tc_3, fc_4, kb_5, cb_6, tb_7, fb_8, hp_9, hT_10, er_11, et_12, wr_13, wt_14, ec_15, uc_16, wc_17, hc_18, eb_19, ub_20, wb_21, hb_22⟩ := id R0
  have hp_91 := hp_9.1
  have hp_9t := teF_le (f := f9) hp_9.1
  have hpc9 := hp_91
  refine lv_aload_n hx hb dX4_readOne_0 rfl (lv_at hl 0 rfl) ?_
  refine va_get (D := D) (ci := 4) (v := .ref tp) (C := RX4) (T := TX4) (N := 8) hx hb hts hin4 hown hK hP krd er_11 rfl 0 (by decide) (hts (.fieldLink RX4 12 "HoneyHouse$RuleReader" "tape" "LHoneyHouse$Tape;") (List.mem_of_getElem? (i := 1) rfl)) (fun _ h9 => h9) rfl dX4_readOne_1 ?_
  refine va_ldcS hx hb hown hsz9.2.2.2.2.2.2.1 dX4_readOne_4 ?_
  have hFc := free_all hD hS hA
  refine va_calli (va_runV (As := [.ref (adK 3)]) (rest := []) ⟨hx, hb, hml, hown, hts⟩ (a_isWord l D (rz []) ws tys adK adV fo 3 f9 tp ktp tl ts bb kb_5 cb_6 tb_7 fb_8 s.heap.size (by decide) htl hb_22 hng hp_9 et_12 eb_19 ub_20 rz_o0) (cwV 1 hts gX4_readOne_X6_isWord rfl rfl rfl (by decide +kernel) ⟨Nat.le_of_ble_eq_true rfl, Nat.le_of_ble_eq_true rfl⟩) ⟨fun a U g mk q => by obtain ⟨q0, q1, qP, qK, qD, qS⟩ := q; exact ⟨q0, q1, qP, va_K.moved (u := U) (U := U.calling g mk a) (Vm.Alike.refl U.vm) qK, qD, SZ.same rfl rfl qS⟩, va_recv hK hP (ci := 6) (q0 := ktp) rfl et_12, fun U hU hW => ⟨rfl, by rw [hU], by rw [hU]; exact hP, va_K.moved hW.alike hK, hD.weaken (fun _ _ _ _ => trivial), hsz9.go hS hW hU hFc⟩⟩ rfl rfl hl.1 rfl (lv_room (Nat.le_of_ble_eq_true rfl)) dX4_readOne_6 ⟨Nat.le_of_ble_eq_true rfl, Nat.le_of_ble_eq_true rfl⟩) hS (fun q _ h => hFc q h) hFc (fun r_23 u t H1 locs ht hvm w_24 hB hz1 hk1 hS => ?_)
  obtain ⟨ws_25, ty_26, hm_27, ht_29, hP1, hK1, hD1, hx_28⟩ := hB
  rw [ht] at hP1
  have hK := va_K.moved hvm.symm hK1
  have hD := hD1.weaken (fun _ _ _ h => hFc _ h)
  generalize H1 = H at hP1 hS ⊢
  have hP := hP1
  have e_30 := hm_27.keep rz_o0 er_11
  have e_31 := hm_27.keep rz_o0 et_12
  have e_32 := hm_27.keep rz_o0 ec_15
  have e_33 := hm_27.keep rz_o0 eb_19
  have u_34 := ht_29 _ _ uc_16
  have u_35 := ht_29 _ _ ub_20
  have hm_36 : sm ρ [] ws ws_25 := hm_27.up (fun k _ h => rz_u0  k h)
  have hsm := hsm.tr (hm_36.mono (by decide))
  have htx := htx.tr ht_29
  rcases w_24 with ⟨rfl, iw_37⟩ | ⟨rfl, iw_37⟩
  · have iw_37 : ¬ wdE f9 tl ts = 3 := iw_37
    refine lv_istore_n (lv' := [(2, .int 0), (0, .ref rd), (1, .int 2)]) hx hb dX4_readOne_9 rfl hl (by decide) rfl (fun ls hl => ?_)
    refine lv_iload_n hx hb dX4_readOne_10 rfl (lv_at hl 0 rfl) ?_
    refine lv_if_ne (tgt := 31) hx hb dX4_readOne_11 (by decide) (fun c_38 => absurd (by decide) c_38) (fun c_38 => ?_)
    refine lv_aload_n hx hb dX4_readOne_14 rfl (lv_at hl 1 rfl) ?_
    refine va_get (D := D) (ci := 4) (v := .ref tp) (C := RX4) (T := TX4) (N := 8) hx hb hts hin4 hown hK hP krd e_30 rfl 0 (by decide) (hts (.fieldLink RX4 12 "HoneyHouse$RuleReader" "tape" "LHoneyHouse$Tape;") (List.mem_of_getElem? (i := 1) rfl)) (fun _ h9 => h9) rfl dX4_readOne_15 ?_
    refine lv_bipush (v := 40) hx hb dX4_readOne_18 (by decide) ?_
    refine vp_callSi (W.runV (As := [.int 40]) (rest := []) ⟨hx, hb, hml, hown, hts⟩ (s_isByte l D ws_25 ty_26 f9 tp ktp tl ts bb kb_5 cb_6 tb_7 fb_8 40 (by unfold ltr; decide) (by unfold dgt; decide) htl hb_22 hng hp_9 e_31 e_33 u_35) (cwV 1 hts gX4_readOne_X6_isByte rfl rfl rfl (by decide +kernel) ⟨Nat.le_of_ble_eq_true rfl, Nat.le_of_ble_eq_true rfl⟩) ⟨fun a U g mk q => ⟨q.1, q.2.1, va_K.moved (u := U) (U := U.calling g mk a) (Vm.Alike.refl U.vm) q.2.2⟩, va_recv hK hP (ci := 6) (q0 := ktp) rfl e_31, fun U hU hW => ⟨rfl, by rw [hU]; exact hP, va_K.moved hW.alike hK⟩⟩ rfl rfl hl.1 rfl (lv_room (Nat.le_of_ble_eq_true rfl)) dX4_readOne_20 ⟨Nat.le_of_ble_eq_true rfl, Nat.le_of_ble_eq_true rfl⟩) (fun r_39 k_40 => ?_)
    rcases k_40 with ⟨rfl, ib_41⟩ | ⟨rfl, ib_41⟩
    · refine lv_if_ne (tgt := 31) hx hb dX4_readOne_23 (by decide) (fun c_42 => absurd (by decide) c_42) (fun c_42 => ?_)
      refine lv_aload_n hx hb dX4_readOne_26 rfl (lv_at hl 1 rfl) ?_
      have hFc := free_all hD hS hA
      refine va_calli (va_runV (As := []) (rest := []) ⟨hx, hb, hml, hown, hts⟩ (r_readTest l D ρ ws_25 ty_26 adK adV fo f9 rd krd tp ktp cd bb tl ts T nk fr fk fp vl  H.size htl hng (⟨kc_1, cc_2, tc_3, fc_4, kb_5, cb_6, tb_7, fb_8, hp_9, hT_10, e_30, e_31, wr_13, wt_14, e_32, u_34, wc_17, hc_18, e_33, u_35, wb_21, hb_22⟩ : RSX ρ ws_25 ty_26 f9 rd krd tp ktp cd bb tl ts T nk fr fk fp vl) (by omega)) (cwV 0 hts gX4_readOne_X4_readTest rfl rfl rfl (by decide +kernel) ⟨Nat.le_of_ble_eq_true rfl, Nat.le_of_ble_eq_true rfl⟩) ⟨fun a U g mk q => by obtain ⟨q0, q1, qP, qK, qD, qS⟩ := q; exact ⟨q0, q1, qP, va_K.moved (u := U) (U := U.calling g mk a) (Vm.Alike.refl U.vm) qK, qD, SZ.same rfl rfl qS⟩, va_recv hK hP (ci := 4) (q0 := krd) rfl e_30, fun U hU hW => ⟨rfl, by rw [hU], by rw [hU]; exact hP, va_K.moved hW.alike hK, hD.weaken (fun _ _ _ _ => trivial), hsz9.go hS hW hU hFc⟩⟩ rfl rfl hl.1 rfl (lv_room (Nat.le_of_ble_eq_true rfl)) dX4_readOne_27 ⟨Nat.le_of_ble_eq_true rfl, Nat.le_of_ble_eq_true rfl⟩) hS (fun q _ h => hFc q h) hFc (fun r_43 u t H1 locs ht hvm w_44 hB hz1 hk1 hS => ?_)
      subst w_44
      obtain ⟨ws_45, ty_46, hm_47, ht_49, hP1, hK1, hD1, hx_48⟩ := hB
      rw [ht] at hP1
      have hK := va_K.moved hvm.symm hK1
      have hD := hD1.weaken (fun _ _ _ h => hFc _ h)
      generalize H1 = H at hP1 hS ⊢
      have hP := hP1
      obtain ⟨g_51, e_50, h_52⟩ := hm_47.obj e_30
      obtain ⟨z_53, z_54, z_55, z_56, z_57, z_58, rfl⟩ := smX4 h_52
      obtain ⟨g_60, e_59, h_61⟩ := hm_47.obj e_31
      obtain ⟨z_62, z_63, z_64, z_65, rfl⟩ := smX6 h_61
      obtain ⟨f_67, e_66⟩ := hm_47.arrI e_32
      have u_68 := ht_49 _ _ u_34
      have e_69 := hm_47.keep (by rw [wb_21]; omega) e_33
      have u_70 := ht_49 _ _ u_35
      have hsm := hsm.tr (hm_47.mono (by decide))
      have htx := htx.tr ht_49
      obtain ⟨k_71, p_72, w_73, m_74, v_75, ht_76, ⟨rfl, hk_77, hk_78, ts_79, vl_80, hR_81⟩ | ⟨rfl, hk_77, hg_82, vl_80, hR_81⟩⟩ := hx_48
      · obtain ⟨kc_83, cc_84, tc_85, fc_86, kb_87, cb_88, tb_89, fb_90, hp_91, hT_92, er_93, et_94, wr_95, wt_96, ec_97, uc_98, wc_99, hc_100, eb_101, ub_102, wb_103, hb_104⟩ := id hR_81
        have hp_911 := hp_91.1
        have hp_91t := teF_le (f := f9) hp_91.1
        exact W.zret (v := 0) hx hb hr rfl (fun t ht hW => ⟨⟨0, 0, rfl, rfl, ws_45, ty_46, hsm, htx, by rw [ht]; exact hP, va_K.moved hW.alike hK, hD, Or.inl ⟨rfl, k_71, p_72, _, _, _, by omega, by omega, (Rch.rf _).st (st_tf (fun q9 => q9.elim ib_41 iw_37) ht_76 hk_77), (⟨kc_83, cc_84, tc_85, fc_86, kb_87, cb_88, tb_89, fb_90, hp_91, hT_92, er_93, et_94, wr_95, wt_96, ec_97, uc_98, wc_99, hc_100, eb_101, ub_102, wb_103, hb_104⟩ : RSX ρ ws_45 ty_46 f9 rd krd tp ktp cd bb tl ts_79 T nk fr (nI k_71) (nI p_72) vl_80)⟩⟩, hS.F ht⟩) hS.2.2 dX4_readOne_30
      subst hk_77
      obtain ⟨kc_105, cc_106, tc_107, fc_108, kb_109, cb_110, tb_111, fb_112, hp_113, hT_114, er_115, et_116, wr_117, wt_118, ec_119, uc_120, wc_121, hc_122, eb_123, ub_124, wb_125, hb_126⟩ := id hR_81
      have hp_1131 := hp_113.1
      have hp_113t := teF_le (f := f9) hp_113.1
      exact W.zret (v := 1) hx hb hr rfl (fun t ht hW => ⟨⟨1, 1, rfl, rfl, ws_45, ty_46, hsm, htx, by rw [ht]; exact hP, va_K.moved hW.alike hK, hD, Or.inr ⟨rfl, p_72, _, _, (Rch.rf _).st (st_te (fun q9 => q9.elim ib_41 iw_37) ht_76), by omega, by rw [len_a1]; omega, (⟨kc_105, cc_106, tc_107, fc_108, kb_109, cb_110, tb_111, fb_112, hp_113, hT_114, er_115, et_116, wr_117, wt_118, ec_119, uc_120, wc_121, hc_122, eb_123, ub_124, wb_125, hb_126⟩ : RSX ρ ws_45 ty_46 f9 rd krd tp ktp cd bb tl p_72 (T ++ [(13, w_73, m_74, v_75)]) nk fr fk fp vl_80)⟩⟩, hS.F ht⟩) hS.2.2 dX4_readOne_30
    refine lv_if_ne (tgt := 31) hx hb dX4_readOne_23 (by decide) (fun c_127 => ?_) (fun c_127 => absurd c_127 (by decide))
    have hw9 := wd_40 ib_41
    refine lv_iload_n hx hb dX4_readOne_31 rfl (lv_at hl 2 rfl) ?_
    refine lv_bipush (v := 6) hx hb dX4_readOne_32 (by decide) ?_
    refine lv_icmp_lt (tgt := 50) hx hb dX4_readOne_34 (by decide) (fun c_128 => ?_) (fun c_128 => absurd (by decide) c_128)
    refine lv_aload_n hx hb dX4_readOne_50 rfl (lv_at hl 1 rfl) ?_
    refine va_get (D := D) (ci := 4) (v := .ref tp) (C := RX4) (T := TX4) (N := 8) hx hb hts hin4 hown hK hP krd e_30 rfl 0 (by decide) (hts (.fieldLink RX4 12 "HoneyHouse$RuleReader" "tape" "LHoneyHouse$Tape;") (List.mem_of_getElem? (i := 1) rfl)) (fun _ h9 => h9) rfl dX4_readOne_51 ?_
    have hFc := free_all hD hS hA
    refine va_callv (va_runV (As := []) (rest := []) ⟨hx, hb, hml, hown, hts⟩ (a_advance l D (rz [ktp]) ws_25 ty_26 f9 tp ktp tl (teF f9 tl ts) (nI (kdF f9 tl ts)) (nI ts) bb kb_5 cb_6 tb_7 fb_8 H.size htl hb_22 hng (by omega) e_31 e_33 u_35 (rz_o1 (pl_ne e_33 e_31 (by intro h9; simp at h9))) (rz_in (by simp))) (cwV 0 hts gX4_readOne_X6_advance rfl rfl rfl (by decide +kernel) ⟨Nat.le_of_ble_eq_true rfl, Nat.le_of_ble_eq_true rfl⟩) ⟨fun a U g mk q => by obtain ⟨q0, q1, qP, qK, qD⟩ := q; exact ⟨q0, q1, qP, va_K.moved (u := U) (U := U.calling g mk a) (Vm.Alike.refl U.vm) qK, qD⟩, va_recv hK hP (ci := 6) (q0 := ktp) rfl e_31, fun U hU hW => ⟨rfl, by rw [hU], by rw [hU]; exact hP, va_K.moved hW.alike hK, hD.weaken (fun _ _ _ _ => trivial)⟩⟩ rfl rfl hl.1 rfl (lv_room (Nat.le_of_ble_eq_true rfl)) dX4_readOne_54 ⟨Nat.le_of_ble_eq_true rfl, Nat.le_of_ble_eq_true rfl⟩) hS (fun q _ h => hFc q h) hFc (fun u t H1 locs ht hvm w_130 hB hz1 hk1 hS => ?_)
    obtain ⟨ws_131, ty_132, hm_133, ht_135, hP1, hK1, hD1, hx_134⟩ := hB
    rw [ht] at hP1
    have hK := va_K.moved hvm.symm hK1
    have hD := hD1.weaken (fun _ _ _ h => hFc _ h)
    generalize H1 = H at hP1 hS ⊢
    have hP := hP1
    have e_136 := hm_133.keep (rz_o1 (pl_ne e_30 e_31 (by intro h9; simp at h9))) e_30
    have e_137 := hm_133.keep (rz_o1 (pl_ne e_32 e_31 (by intro h9; simp at h9))) e_32
    have e_138 := hm_133.keep (rz_o1 (pl_ne e_33 e_31 (by intro h9; simp at h9))) e_33
    have u_139 := ht_135 _ _ u_34
    have u_140 := ht_135 _ _ u_35
    have hm_141 : sm ρ [6] ws_25 ws_131 := hm_133.up (fun k _ h => rz_u1 wt_14 k h)
    have hsm := hsm.tr (hm_141.mono (by decide))
    have htx := htx.tr ht_135
    have e_142 : ws_131[ktp]? = some (tp, .inr (6, [.int (nI tl), .int (nI (kdF f9 tl (nxF f9 tl ts))), .int (nI (nxF f9 tl ts)), .int (nI (teF f9 tl (nxF f9 tl ts))), .ref bb])) := hx_134; have hq_143 : pcB f9 tl (nxF f9 tl ts) := nxF_pc (f := f9) hp_9.1; have hq_1431 := hq_143.1; have hq_143t := teF_le (f := f9) hq_143.1; have hg_144 := nx_gain (f := f9) hp_9.1
    refine lv_iload_n hx hb dX4_readOne_57 rfl (lv_at hl 0 rfl) ?_
    refine lv_if_ne (tgt := 86) hx hb dX4_readOne_58 (by decide) (fun c_145 => absurd (by decide) c_145) (fun c_145 => ?_)
    refine lv_aload_n hx hb dX4_readOne_61 rfl (lv_at hl 1 rfl) ?_
    refine lv_iload_n hx hb dX4_readOne_62 rfl (lv_at hl 2 rfl) ?_
    refine lv_iconst (v := 1) hx hb dX4_readOne_63 (by decide) ?_
    refine lv_iadd hx hb dX4_readOne_64 ?_
    refine tp_i (y := 3) (by decide) ?_
    have hFc := free_all hD hS hA
    refine va_calli (va_runV (As := [.int 3]) (rest := []) ⟨hx, hb, hml, hown, hts⟩ (r_readEither3 l D ρ ws_131 ty_132 adK adV fo f9 rd krd tp ktp cd bb tl (nxF f9 tl ts) T nk fr fk fp vl (12 :: σ) H.size htl hng (⟨kc_1, cc_2, tc_3, fc_4, kb_5, cb_6, tb_7, fb_8, hq_143, hT_10, e_136, e_142, wr_13, wt_14, e_137, u_139, wc_17, hc_18, e_138, u_140, wb_21, hb_22⟩ : RSX ρ ws_131 ty_132 f9 rd krd tp ktp cd bb tl (nxF f9 tl ts) T nk fr fk fp vl) (bas_12 σ) ((dep_y σ (Or.inr rfl)).trans (by omega)) (by omega)) (cwV 1 hts gX4_readOne_X4_readEither rfl rfl rfl (by decide +kernel) ⟨Nat.le_of_ble_eq_true rfl, Nat.le_of_ble_eq_true rfl⟩) ⟨fun a U g mk q => by obtain ⟨q0, q1, qP, qK, qD, qS⟩ := q; exact ⟨q0, q1, qP, va_K.moved (u := U) (U := U.calling g mk a) (Vm.Alike.refl U.vm) qK, qD, SZ.same rfl rfl qS⟩, va_recv hK hP (ci := 4) (q0 := krd) rfl e_136, fun U hU hW => ⟨rfl, by rw [hU], by rw [hU]; exact hP, va_K.moved hW.alike hK, hD.weaken (fun _ _ _ _ => trivial), hsz9.go hS hW hU hFc⟩⟩ rfl rfl hl.1 rfl (lv_room (Nat.le_of_ble_eq_true rfl)) dX4_readOne_65 ⟨Nat.le_of_ble_eq_true rfl, Nat.le_of_ble_eq_true rfl⟩) hS (fun q _ h => hFc q h) hFc (fun r_146 u t H1 locs ht hvm w_147 hB hz1 hk1 hS => ?_)
    subst w_147
    obtain ⟨ws_148, ty_149, hm_150, ht_152, hP1, hK1, hD1, hx_151⟩ := hB
    rw [ht] at hP1
    have hK := va_K.moved hvm.symm hK1
    have hD := hD1.weaken (fun _ _ _ h => hFc _ h)
    generalize H1 = H at hP1 hS ⊢
    have hP := hP1
    obtain ⟨g_154, e_153, h_155⟩ := hm_150.obj e_136
    obtain ⟨z_156, z_157, z_158, z_159, z_160, z_161, rfl⟩ := smX4 h_155
    obtain ⟨g_163, e_162, h_164⟩ := hm_150.obj e_142
    obtain ⟨z_165, z_166, z_167, z_168, rfl⟩ := smX6 h_164
    obtain ⟨f_170, e_169⟩ := hm_150.arrI e_137
    have u_171 := ht_152 _ _ u_139
    have e_172 := hm_150.keep (by rw [wb_21]; omega) e_138
    have u_173 := ht_152 _ _ u_140
    have hsm := hsm.tr (hm_150.mono (by decide))
    have htx := htx.tr ht_152
    rcases hx_151 with ⟨rfl, k_174, p_175, ts_176, T_177, vl_178, hk_179, hk_180, hr_181, hR_182⟩ | ⟨rfl, b_183, ta_184, T_177, vl_178, hr_181, hj_185, hn_186, hg_187, hg_188, hR_182⟩
    · obtain ⟨kc_189, cc_190, tc_191, fc_192, kb_193, cb_194, tb_195, fb_196, hp_197, hT_198, er_199, et_200, wr_201, wt_202, ec_203, uc_204, wc_205, hc_206, eb_207, ub_208, wb_209, hb_210⟩ := id hR_182
      have hp_1971 := hp_197.1
      have hp_197t := teF_le (f := f9) hp_197.1
      refine lv_if_eq (tgt := 84) hx hb dX4_readOne_68 (by decide) (fun c_211 => ?_) (fun c_211 => absurd (by decide) c_211)
      refine lv_iconst (v := 0) hx hb dX4_readOne_84 (by decide) ?_
      exact W.zret (v := 0) hx hb hr rfl (fun t ht hW => ⟨⟨0, 0, rfl, rfl, ws_148, ty_149, hsm, htx, by rw [ht]; exact hP, va_K.moved hW.alike hK, hD, Or.inl ⟨rfl, k_174, p_175, _, _, _, by omega, by omega, ((Rch.rf (0, ts, σ, T)).st (st_open ib_41 (by omega))).tr hr_181, (⟨kc_189, cc_190, tc_191, fc_192, kb_193, cb_194, tb_195, fb_196, hp_197, hT_198, er_199, et_200, wr_201, wt_202, ec_203, uc_204, wc_205, hc_206, eb_207, ub_208, wb_209, hb_210⟩ : RSX ρ ws_148 ty_149 f9 rd krd tp ktp cd bb tl ts_176 T_177 nk fr (nI k_174) (nI p_175) vl_178)⟩⟩, hS.F ht⟩) hS.2.2 dX4_readOne_85
    obtain ⟨kc_212, cc_213, tc_214, fc_215, kb_216, cb_217, tb_218, fb_219, hp_220, hT_221, er_222, et_223, wr_224, wt_225, ec_226, uc_227, wc_228, hc_229, eb_230, ub_231, wb_232, hb_233⟩ := id hR_182
    have hp_2201 := hp_220.1
    have hp_220t := teF_le (f := f9) hp_220.1
    refine lv_if_eq (tgt := 84) hx hb dX4_readOne_68 (by decide) (fun c_234 => absurd c_234 (by decide)) (fun c_234 => ?_)
    refine lv_aload_n hx hb dX4_readOne_71 rfl (lv_at hl 1 rfl) ?_
    refine lv_bipush (v := 41) hx hb dX4_readOne_72 (by decide) ?_
    have hFc := free_all hD hS hA
    refine va_calli (va_runV (As := [.int 41]) (rest := []) ⟨hx, hb, hml, hown, hts⟩ (r_readByte l D ρ ws_148 ty_149 adK adV fo f9 rd krd tp ktp cd bb tl b_183 (T_177 ++ eO ta_184) nk fr fk fp vl_178 41 H.size htl hng (⟨kc_212, cc_213, tc_214, fc_215, kb_216, cb_217, tb_218, fb_219, hp_220, hT_221, er_222, et_223, wr_224, wt_225, ec_226, uc_227, wc_228, hc_229, eb_230, ub_231, wb_232, hb_233⟩ : RSX ρ ws_148 ty_149 f9 rd krd tp ktp cd bb tl b_183 (T_177 ++ eO ta_184) nk fr fk fp vl_178) (by unfold ltr; decide) (by unfold dgt; decide)) (cwV 1 hts gX4_readOne_X4_readByte rfl rfl rfl (by decide +kernel) ⟨Nat.le_of_ble_eq_true rfl, Nat.le_of_ble_eq_true rfl⟩) ⟨fun a U g mk q => by obtain ⟨q0, q1, qP, qK, qD, qS⟩ := q; exact ⟨q0, q1, qP, va_K.moved (u := U) (U := U.calling g mk a) (Vm.Alike.refl U.vm) qK, qD, SZ.same rfl rfl qS⟩, va_recv hK hP (ci := 4) (q0 := krd) rfl er_222, fun U hU hW => ⟨rfl, by rw [hU], by rw [hU]; exact hP, va_K.moved hW.alike hK, hD.weaken (fun _ _ _ _ => trivial), hsz9.go hS hW hU hFc⟩⟩ rfl rfl hl.1 rfl (lv_room (Nat.le_of_ble_eq_true rfl)) dX4_readOne_74 ⟨Nat.le_of_ble_eq_true rfl, Nat.le_of_ble_eq_true rfl⟩) hS (fun q _ h => hFc q h) hFc (fun r_235 u t H1 locs ht hvm w_236 hB hz1 hk1 hS => ?_)
    subst w_236
    obtain ⟨ws_237, ty_238, hm_239, ht_241, hP1, hK1, hD1, hx_240⟩ := hB
    rw [ht] at hP1
    have hK := va_K.moved hvm.symm hK1
    have hD := hD1.weaken (fun _ _ _ h => hFc _ h)
    generalize H1 = H at hP1 hS ⊢
    have hP := hP1
    obtain ⟨g_243, e_242, h_244⟩ := hm_239.obj er_222
    obtain ⟨z_245, z_246, z_247, z_248, z_249, z_250, rfl⟩ := smX4 h_244
    obtain ⟨g_252, e_251, h_253⟩ := hm_239.obj et_223
    obtain ⟨z_254, z_255, z_256, z_257, rfl⟩ := smX6 h_253
    obtain ⟨f_259, e_258⟩ := hm_239.arrI ec_226
    have u_260 := ht_241 _ _ uc_227
    have e_261 := hm_239.keep (by rw [wb_232]; omega) eb_230
    have u_262 := ht_241 _ _ ub_231
    have hsm := hsm.tr (hm_239.mono (by decide))
    have htx := htx.tr ht_241
    rcases hx_240 with ⟨rfl, rb_263, hR_264⟩ | ⟨rfl, rb_263, hR_264⟩
    · obtain ⟨kc_265, cc_266, tc_267, fc_268, kb_269, cb_270, tb_271, fb_272, hp_273, hT_274, er_275, et_276, wr_277, wt_278, ec_279, uc_280, wc_281, hc_282, eb_283, ub_284, wb_285, hb_286⟩ := id hR_264
      have hp_2731 := hp_273.1
      have hp_273t := teF_le (f := f9) hp_273.1
      refine lv_if_eq (tgt := 84) hx hb dX4_readOne_77 (by decide) (fun c_287 => ?_) (fun c_287 => absurd (by decide) c_287)
      refine lv_iconst (v := 0) hx hb dX4_readOne_84 (by decide) ?_
      exact W.zret (v := 0) hx hb hr rfl (fun t ht hW => ⟨⟨0, 0, rfl, rfl, ws_237, ty_238, hsm, htx, by rw [ht]; exact hP, va_K.moved hW.alike hK, hD, Or.inl ⟨rfl, 1, b_183, _, _, _, by omega, by omega, (((Rch.rf (0, ts, σ, T)).st (st_open ib_41 (by omega))).tr hr_181).st (st_left hn_186 rb_263 (brk_12 hj_185)), (⟨kc_265, cc_266, tc_267, fc_268, kb_269, cb_270, tb_271, fb_272, hp_273, hT_274, er_275, et_276, wr_277, wt_278, ec_279, uc_280, wc_281, hc_282, eb_283, ub_284, wb_285, hb_286⟩ : RSX ρ ws_237 ty_238 f9 rd krd tp ktp cd bb tl b_183 (T_177 ++ eO ta_184) nk fr 1 (nI b_183) vl_178)⟩⟩, hS.F ht⟩) hS.2.2 dX4_readOne_85
    have rb_263g := nx_gain (f := f9) hp_220.1
    obtain ⟨kc_288, cc_289, tc_290, fc_291, kb_292, cb_293, tb_294, fb_295, hp_296, hT_297, er_298, et_299, wr_300, wt_301, ec_302, uc_303, wc_304, hc_305, eb_306, ub_307, wb_308, hb_309⟩ := id hR_264
    have hp_2961 := hp_296.1
    have hp_296t := teF_le (f := f9) hp_296.1
    refine lv_if_eq (tgt := 84) hx hb dX4_readOne_77 (by decide) (fun c_310 => absurd c_310 (by decide)) (fun c_310 => ?_)
    refine lv_iconst (v := 1) hx hb dX4_readOne_80 (by decide) ?_
    refine lv_goto (tgt := 85) hx hb dX4_readOne_81 (by decide) ?_
    exact W.zret (v := 1) hx hb hr rfl (fun t ht hW => ⟨⟨1, 1, rfl, rfl, ws_237, ty_238, hsm, htx, by rw [ht]; exact hP, va_K.moved hW.alike hK, hD, Or.inr ⟨rfl, nxF f9 tl b_183, _, _, rch_cl (((Rch.rf (0, ts, σ, T)).st (st_open ib_41 (by omega))).tr hr_181) hj_185 rb_263, by omega, by omega, (⟨kc_288, cc_289, tc_290, fc_291, kb_292, cb_293, tb_294, fb_295, hp_296, hT_297, er_298, et_299, wr_300, wt_301, ec_302, uc_303, wc_304, hc_305, eb_306, ub_307, wb_308, hb_309⟩ : RSX ρ ws_237 ty_238 f9 rd krd tp ktp cd bb tl (nxF f9 tl b_183) (T_177 ++ eO ta_184) nk fr fk fp vl_178)⟩⟩, hS.F ht⟩) hS.2.2 dX4_readOne_85
  have iw_37 : wdE f9 tl ts = 3 := iw_37
  refine lv_istore_n (lv' := [(2, .int 1), (0, .ref rd), (1, .int 2)]) hx hb dX4_readOne_9 rfl hl (by decide) rfl (fun ls hl => ?_)
  refine lv_iload_n hx hb dX4_readOne_10 rfl (lv_at hl 0 rfl) ?_
  refine lv_if_ne (tgt := 31) hx hb dX4_readOne_11 (by decide) (fun c_311 => ?_) (fun c_311 => absurd c_311 (by decide))
  have hw9 := nx_wd hpc9 (j := 3) (by omega) iw_37
  have hw9 : ts + 3 ≤ nxF f9 tl ts ∧ nxF f9 tl ts ≤ tl := hw9
  refine lv_iload_n hx hb dX4_readOne_31 rfl (lv_at hl 2 rfl) ?_
  refine lv_bipush (v := 6) hx hb dX4_readOne_32 (by decide) ?_
  refine lv_icmp_lt (tgt := 50) hx hb dX4_readOne_34 (by decide) (fun c_312 => ?_) (fun c_312 => absurd (by decide) c_312)
  refine lv_aload_n hx hb dX4_readOne_50 rfl (lv_at hl 1 rfl) ?_
  refine va_get (D := D) (ci := 4) (v := .ref tp) (C := RX4) (T := TX4) (N := 8) hx hb hts hin4 hown hK hP krd e_30 rfl 0 (by decide) (hts (.fieldLink RX4 12 "HoneyHouse$RuleReader" "tape" "LHoneyHouse$Tape;") (List.mem_of_getElem? (i := 1) rfl)) (fun _ h9 => h9) rfl dX4_readOne_51 ?_
  have hFc := free_all hD hS hA
  refine va_callv (va_runV (As := []) (rest := []) ⟨hx, hb, hml, hown, hts⟩ (a_advance l D (rz [ktp]) ws_25 ty_26 f9 tp ktp tl (teF f9 tl ts) (nI (kdF f9 tl ts)) (nI ts) bb kb_5 cb_6 tb_7 fb_8 H.size htl hb_22 hng (by omega) e_31 e_33 u_35 (rz_o1 (pl_ne e_33 e_31 (by intro h9; simp at h9))) (rz_in (by simp))) (cwV 0 hts gX4_readOne_X6_advance rfl rfl rfl (by decide +kernel) ⟨Nat.le_of_ble_eq_true rfl, Nat.le_of_ble_eq_true rfl⟩) ⟨fun a U g mk q => by obtain ⟨q0, q1, qP, qK, qD⟩ := q; exact ⟨q0, q1, qP, va_K.moved (u := U) (U := U.calling g mk a) (Vm.Alike.refl U.vm) qK, qD⟩, va_recv hK hP (ci := 6) (q0 := ktp) rfl e_31, fun U hU hW => ⟨rfl, by rw [hU], by rw [hU]; exact hP, va_K.moved hW.alike hK, hD.weaken (fun _ _ _ _ => trivial)⟩⟩ rfl rfl hl.1 rfl (lv_room (Nat.le_of_ble_eq_true rfl)) dX4_readOne_54 ⟨Nat.le_of_ble_eq_true rfl, Nat.le_of_ble_eq_true rfl⟩) hS (fun q _ h => hFc q h) hFc (fun u t H1 locs ht hvm w_314 hB hz1 hk1 hS => ?_)
  obtain ⟨ws_315, ty_316, hm_317, ht_319, hP1, hK1, hD1, hx_318⟩ := hB
  rw [ht] at hP1
  have hK := va_K.moved hvm.symm hK1
  have hD := hD1.weaken (fun _ _ _ h => hFc _ h)
  generalize H1 = H at hP1 hS ⊢
  have hP := hP1
  have e_320 := hm_317.keep (rz_o1 (pl_ne e_30 e_31 (by intro h9; simp at h9))) e_30
  have e_321 := hm_317.keep (rz_o1 (pl_ne e_32 e_31 (by intro h9; simp at h9))) e_32
  have e_322 := hm_317.keep (rz_o1 (pl_ne e_33 e_31 (by intro h9; simp at h9))) e_33
  have u_323 := ht_319 _ _ u_34
  have u_324 := ht_319 _ _ u_35
  have hm_325 : sm ρ [6] ws_25 ws_315 := hm_317.up (fun k _ h => rz_u1 wt_14 k h)
  have hsm := hsm.tr (hm_325.mono (by decide))
  have htx := htx.tr ht_319
  have e_326 : ws_315[ktp]? = some (tp, .inr (6, [.int (nI tl), .int (nI (kdF f9 tl (nxF f9 tl ts))), .int (nI (nxF f9 tl ts)), .int (nI (teF f9 tl (nxF f9 tl ts))), .ref bb])) := hx_318; have hq_327 : pcB f9 tl (nxF f9 tl ts) := nxF_pc (f := f9) hp_9.1; have hq_3271 := hq_327.1; have hq_327t := teF_le (f := f9) hq_327.1; have hg_328 := nx_gain (f := f9) hp_9.1
  refine lv_iload_n hx hb dX4_readOne_57 rfl (lv_at hl 0 rfl) ?_
  refine lv_if_ne (tgt := 86) hx hb dX4_readOne_58 (by decide) (fun c_329 => ?_) (fun c_329 => absurd c_329 (by decide))
  refine lv_aload_n hx hb dX4_readOne_86 rfl (lv_at hl 1 rfl) ?_
  refine lv_iload_n hx hb dX4_readOne_87 rfl (lv_at hl 2 rfl) ?_
  refine lv_iconst (v := 1) hx hb dX4_readOne_88 (by decide) ?_
  refine lv_iadd hx hb dX4_readOne_89 ?_
  refine tp_i (y := 3) (by decide) ?_
  have hFc := free_all hD hS hA
  refine va_calli (va_runV (As := [.int 3]) (rest := []) ⟨hx, hb, hml, hown, hts⟩ (r_readOne3 l D ρ ws_315 ty_316 adK adV fo f9 rd krd tp ktp cd bb tl (nxF f9 tl ts) T nk fr fk fp vl (3 :: σ) H.size htl hng (⟨kc_1, cc_2, tc_3, fc_4, kb_5, cb_6, tb_7, fb_8, hq_327, hT_10, e_320, e_326, wr_13, wt_14, e_321, u_323, wc_17, hc_18, e_322, u_324, wb_21, hb_22⟩ : RSX ρ ws_315 ty_316 f9 rd krd tp ktp cd bb tl (nxF f9 tl ts) T nk fr fk fp vl) ((dep_y σ (Or.inl rfl)).trans (by omega)) (by omega)) (cwV 1 hts gX4_readOne_X4_readOne rfl rfl rfl (by decide +kernel) ⟨Nat.le_of_ble_eq_true rfl, Nat.le_of_ble_eq_true rfl⟩) ⟨fun a U g mk q => by obtain ⟨q0, q1, qP, qK, qD, qS⟩ := q; exact ⟨q0, q1, qP, va_K.moved (u := U) (U := U.calling g mk a) (Vm.Alike.refl U.vm) qK, qD, SZ.same rfl rfl qS⟩, va_recv hK hP (ci := 4) (q0 := krd) rfl e_320, fun U hU hW => ⟨rfl, by rw [hU], by rw [hU]; exact hP, va_K.moved hW.alike hK, hD.weaken (fun _ _ _ _ => trivial), hsz9.go hS hW hU hFc⟩⟩ rfl rfl hl.1 rfl (lv_room (Nat.le_of_ble_eq_true rfl)) dX4_readOne_90 ⟨Nat.le_of_ble_eq_true rfl, Nat.le_of_ble_eq_true rfl⟩) hS (fun q _ h => hFc q h) hFc (fun r_330 u t H1 locs ht hvm w_331 hB hz1 hk1 hS => ?_)
  subst w_331
  obtain ⟨ws_332, ty_333, hm_334, ht_336, hP1, hK1, hD1, hx_335⟩ := hB
  rw [ht] at hP1
  have hK := va_K.moved hvm.symm hK1
  have hD := hD1.weaken (fun _ _ _ h => hFc _ h)
  generalize H1 = H at hP1 hS ⊢
  have hP := hP1
  obtain ⟨g_338, e_337, h_339⟩ := hm_334.obj e_320
  obtain ⟨z_340, z_341, z_342, z_343, z_344, z_345, rfl⟩ := smX4 h_339
  obtain ⟨g_347, e_346, h_348⟩ := hm_334.obj e_326
  obtain ⟨z_349, z_350, z_351, z_352, rfl⟩ := smX6 h_348
  obtain ⟨f_354, e_353⟩ := hm_334.arrI e_321
  have u_355 := ht_336 _ _ u_323
  have e_356 := hm_334.keep (by rw [wb_21]; omega) e_322
  have u_357 := ht_336 _ _ u_324
  have hsm := hsm.tr (hm_334.mono (by decide))
  have htx := htx.tr ht_336
  rcases hx_335 with ⟨rfl, k_358, p_359, ts_360, T_361, vl_362, hk_363, hk_364, hr_365, hR_366⟩ | ⟨rfl, b_367, T_361, vl_362, hr_365, hg_371, hg_372, hR_366⟩
  · obtain ⟨kc_373, cc_374, tc_375, fc_376, kb_377, cb_378, tb_379, fb_380, hp_381, hT_382, er_383, et_384, wr_385, wt_386, ec_387, uc_388, wc_389, hc_390, eb_391, ub_392, wb_393, hb_394⟩ := id hR_366
    have hp_3811 := hp_381.1
    have hp_381t := teF_le (f := f9) hp_381.1
    refine lv_istore_n (lv' := [(3, .int 0), (2, .int 1), (0, .ref rd), (1, .int 2)]) hx hb dX4_readOne_93 rfl hl (by decide) rfl (fun ls hl => ?_)
    refine lv_aload_n hx hb dX4_readOne_94 rfl (lv_at hl 2 rfl) ?_
    refine lv_iconst (v := (-1)) hx hb dX4_readOne_95 (by decide) ?_
    have hFc := free_all hD hS hA
    refine va_callv (va_runV (As := [.int (-1)]) (rest := []) ⟨hx, hb, hml, hown, hts⟩ (r_addCode l D ρ ws_332 ty_333 adK adV fo f9 rd krd tp ktp cd bb tl ts_360 T_361 nk fr (nI k_358) (nI p_359) vl_362 (3, 0, 0, 0) (-1) H.size htl hng (⟨kc_373, cc_374, tc_375, fc_376, kb_377, cb_378, tb_379, fb_380, hp_381, hT_382, er_383, et_384, wr_385, wt_386, ec_387, uc_388, wc_389, hc_390, eb_391, ub_392, wb_393, hb_394⟩ : RSX ρ ws_332 ty_333 f9 rd krd tp ktp cd bb tl ts_360 T_361 nk fr (nI k_358) (nI p_359) vl_362) rfl) (cwV 1 hts gX4_readOne_X4_addCode rfl rfl rfl (by decide +kernel) ⟨Nat.le_of_ble_eq_true rfl, Nat.le_of_ble_eq_true rfl⟩) ⟨fun a U g mk q => by obtain ⟨q0, q1, qP, qK, qD, qS⟩ := q; exact ⟨q0, q1, qP, va_K.moved (u := U) (U := U.calling g mk a) (Vm.Alike.refl U.vm) qK, qD, SZ.same rfl rfl qS⟩, va_recv hK hP (ci := 4) (q0 := krd) rfl er_383, fun U hU hW => ⟨rfl, by rw [hU], by rw [hU]; exact hP, va_K.moved hW.alike hK, hD.weaken (fun _ _ _ _ => trivial), hsz9.go hS hW hU hFc⟩⟩ rfl rfl hl.1 rfl (lv_room (Nat.le_of_ble_eq_true rfl)) dX4_readOne_96 ⟨Nat.le_of_ble_eq_true rfl, Nat.le_of_ble_eq_true rfl⟩) hS (fun q _ h => hFc q h) hFc (fun u t H1 locs ht hvm w_396 hB hz1 hk1 hS => ?_)
    obtain ⟨ws_397, ty_398, hm_399, ht_401, hP1, hK1, hD1, hx_400⟩ := hB
    rw [ht] at hP1
    have hK := va_K.moved hvm.symm hK1
    have hD := hD1.weaken (fun _ _ _ h => hFc _ h)
    generalize H1 = H at hP1 hS ⊢
    have hP := hP1
    obtain ⟨g_403, e_402, h_404⟩ := hm_399.obj er_383
    obtain ⟨z_405, z_406, z_407, z_408, z_409, z_410, rfl⟩ := smX4 h_404
    obtain ⟨g_412, e_411, h_413⟩ := hm_399.obj et_384
    obtain ⟨z_414, z_415, z_416, z_417, rfl⟩ := smX6 h_413
    obtain ⟨f_419, e_418⟩ := hm_399.arrI ec_387
    have u_420 := ht_401 _ _ uc_388
    have e_421 := hm_399.keep (by rw [wb_393]; omega) eb_391
    have u_422 := ht_401 _ _ ub_392
    have hsm := hsm.tr (hm_399.mono (by decide))
    have htx := htx.tr ht_401
    rcases hx_400 with ⟨hl_423, hR_424⟩ | ⟨hl_423, hR_424⟩
    · obtain ⟨kc_425, cc_426, tc_427, fc_428, kb_429, cb_430, tb_431, fb_432, hp_433, hT_434, er_435, et_436, wr_437, wt_438, ec_439, uc_440, wc_441, hc_442, eb_443, ub_444, wb_445, hb_446⟩ := id hR_424
      have hp_4331 := hp_433.1
      have hp_433t := teF_le (f := f9) hp_433.1
      refine lv_iload_n hx hb dX4_readOne_99 rfl (lv_at hl 0 rfl) ?_
      exact W.zret (v := 0) hx hb hr rfl (fun t ht hW => ⟨⟨0, 0, rfl, rfl, ws_397, ty_398, hsm, htx, by rw [ht]; exact hP, va_K.moved hW.alike hK, hD, Or.inl ⟨rfl, k_358, p_359, _, _, _, by omega, by omega, ((Rch.rf (0, ts, σ, T)).st (st_not iw_37 (by omega))).tr hr_365, (⟨kc_425, cc_426, tc_427, fc_428, kb_429, cb_430, tb_431, fb_432, hp_433, hT_434, er_435, et_436, wr_437, wt_438, ec_439, uc_440, wc_441, hc_442, eb_443, ub_444, wb_445, hb_446⟩ : RSX ρ ws_397 ty_398 f9 rd krd tp ktp cd bb tl ts_360 (T_361 ++ [(3, 0, 0, 0)]) nk fr (nI k_358) (nI p_359) vl_362)⟩⟩, hS.F ht⟩) hS.2.2 dX4_readOne_100
    obtain ⟨kc_447, cc_448, tc_449, fc_450, kb_451, cb_452, tb_453, fb_454, hp_455, hT_456, er_457, et_458, wr_459, wt_460, ec_461, uc_462, wc_463, hc_464, eb_465, ub_466, wb_467, hb_468⟩ := id hR_424
    have hp_4551 := hp_455.1
    have hp_455t := teF_le (f := f9) hp_455.1
    refine lv_iload_n hx hb dX4_readOne_99 rfl (lv_at hl 0 rfl) ?_
    exact W.zret (v := 0) hx hb hr rfl (fun t ht hW => ⟨⟨0, 0, rfl, rfl, ws_397, ty_398, hsm, htx, by rw [ht]; exact hP, va_K.moved hW.alike hK, hD, Or.inl ⟨rfl, k_358, p_359, _, _, _, by omega, by omega, ((Rch.rf (0, ts, σ, T)).st (st_not iw_37 (by omega))).tr hr_365, (⟨kc_447, cc_448, tc_449, fc_450, kb_451, cb_452, tb_453, fb_454, hp_455, hT_456, er_457, et_458, wr_459, wt_460, ec_461, uc_462, wc_463, hc_464, eb_465, ub_466, wb_467, hb_468⟩ : RSX ρ ws_397 ty_398 f9 rd krd tp ktp cd bb tl ts_360 T_361 nk fr (nI k_358) (nI p_359) vl_362)⟩⟩, hS.F ht⟩) hS.2.2 dX4_readOne_100
  obtain ⟨kc_469, cc_470, tc_471, fc_472, kb_473, cb_474, tb_475, fb_476, hp_477, hT_478, er_479, et_480, wr_481, wt_482, ec_483, uc_484, wc_485, hc_486, eb_487, ub_488, wb_489, hb_490⟩ := id hR_366
  have hp_4771 := hp_477.1
  have hp_477t := teF_le (f := f9) hp_477.1
  refine lv_istore_n (lv' := [(3, .int 1), (2, .int 1), (0, .ref rd), (1, .int 2)]) hx hb dX4_readOne_93 rfl hl (by decide) rfl (fun ls hl => ?_)
  refine lv_aload_n hx hb dX4_readOne_94 rfl (lv_at hl 2 rfl) ?_
  refine lv_iconst (v := (-1)) hx hb dX4_readOne_95 (by decide) ?_
  have hFc := free_all hD hS hA
  refine va_callv (va_runV (As := [.int (-1)]) (rest := []) ⟨hx, hb, hml, hown, hts⟩ (r_addCode l D ρ ws_332 ty_333 adK adV fo f9 rd krd tp ktp cd bb tl b_367 T_361 nk fr fk fp vl_362 (3, 0, 0, 0) (-1) H.size htl hng (⟨kc_469, cc_470, tc_471, fc_472, kb_473, cb_474, tb_475, fb_476, hp_477, hT_478, er_479, et_480, wr_481, wt_482, ec_483, uc_484, wc_485, hc_486, eb_487, ub_488, wb_489, hb_490⟩ : RSX ρ ws_332 ty_333 f9 rd krd tp ktp cd bb tl b_367 T_361 nk fr fk fp vl_362) rfl) (cwV 1 hts gX4_readOne_X4_addCode rfl rfl rfl (by decide +kernel) ⟨Nat.le_of_ble_eq_true rfl, Nat.le_of_ble_eq_true rfl⟩) ⟨fun a U g mk q => by obtain ⟨q0, q1, qP, qK, qD, qS⟩ := q; exact ⟨q0, q1, qP, va_K.moved (u := U) (U := U.calling g mk a) (Vm.Alike.refl U.vm) qK, qD, SZ.same rfl rfl qS⟩, va_recv hK hP (ci := 4) (q0 := krd) rfl er_479, fun U hU hW => ⟨rfl, by rw [hU], by rw [hU]; exact hP, va_K.moved hW.alike hK, hD.weaken (fun _ _ _ _ => trivial), hsz9.go hS hW hU hFc⟩⟩ rfl rfl hl.1 rfl (lv_room (Nat.le_of_ble_eq_true rfl)) dX4_readOne_96 ⟨Nat.le_of_ble_eq_true rfl, Nat.le_of_ble_eq_true rfl⟩) hS (fun q _ h => hFc q h) hFc (fun u t H1 locs ht hvm w_492 hB hz1 hk1 hS => ?_)
  obtain ⟨ws_493, ty_494, hm_495, ht_497, hP1, hK1, hD1, hx_496⟩ := hB
  rw [ht] at hP1
  have hK := va_K.moved hvm.symm hK1
  have hD := hD1.weaken (fun _ _ _ h => hFc _ h)
  generalize H1 = H at hP1 hS ⊢
  have hP := hP1
  obtain ⟨g_499, e_498, h_500⟩ := hm_495.obj er_479
  obtain ⟨z_501, z_502, z_503, z_504, z_505, z_506, rfl⟩ := smX4 h_500
  obtain ⟨g_508, e_507, h_509⟩ := hm_495.obj et_480
  obtain ⟨z_510, z_511, z_512, z_513, rfl⟩ := smX6 h_509
  obtain ⟨f_515, e_514⟩ := hm_495.arrI ec_483
  have u_516 := ht_497 _ _ uc_484
  have e_517 := hm_495.keep (by rw [wb_489]; omega) eb_487
  have u_518 := ht_497 _ _ ub_488
  have hsm := hsm.tr (hm_495.mono (by decide))
  have htx := htx.tr ht_497
  obtain ⟨hl_519, hR_520⟩ := hx_496.resolve_right (fun h9 => h9.1 (by omega))
  obtain ⟨kc_521, cc_522, tc_523, fc_524, kb_525, cb_526, tb_527, fb_528, hp_529, hT_530, er_531, et_532, wr_533, wt_534, ec_535, uc_536, wc_537, hc_538, eb_539, ub_540, wb_541, hb_542⟩ := id hR_520
  have hp_5291 := hp_529.1
  have hp_529t := teF_le (f := f9) hp_529.1
  refine lv_iload_n hx hb dX4_readOne_99 rfl (lv_at hl 0 rfl) ?_
  exact W.zret (v := 1) hx hb hr rfl (fun t ht hW => ⟨⟨1, 1, rfl, rfl, ws_493, ty_494, hsm, htx, by rw [ht]; exact hP, va_K.moved hW.alike hK, hD, Or.inr ⟨rfl, b_367, _, _, rch_no (((Rch.rf (0, ts, σ, T)).st (st_not iw_37 (by omega))).tr hr_365), by omega, by rw [len_a1]; omega, (⟨kc_521, cc_522, tc_523, fc_524, kb_525, cb_526, tb_527, fb_528, hp_529, hT_530, er_531, et_532, wr_533, wt_534, ec_535, uc_536, wc_537, hc_538, eb_539, ub_540, wb_541, hb_542⟩ : RSX ρ ws_493 ty_494 f9 rd krd tp ktp cd bb tl b_367 (T_361 ++ [(3, 0, 0, 0)]) nk fr fk fp vl_362)⟩⟩, hS.F ht⟩) hS.2.2 dX4_readOne_100
set_option maxHeartbeats 4000000 in
set_option maxRecDepth 100000 in
theorem r_readEither2 (l : Launch) (D : va_G) (ρ : Nat → Nat) (ws : va_W) (tys : List (ClassId × FieldType)) (adK adV : Nat → Nat) (fo : Option Nat) (f9 : Nat → Int32) (rd krd tp ktp cd bb tl ts : Nat) (T : List Tk) (nk : Int64) (fr fk fp vl : Int32) (σ : List Nat) (sz : Nat) (htl : tl ≤ 400) (hng : ∀ i : Nat, i < tl → ¬ f9 i = -1) (R0 : RSX ρ ws tys f9 rd krd tp ktp cd bb tl ts T nk fr fk fp vl) (hbs : bas σ) (hdp : dep σ = 2) (hT2 : 2 * T.length ≤ ts) : Met l yX4_readEither wsX4_readEither ({ frames := 16, cells := 0, slots := 0, locals := 364 }) (va_Pc [.ref rd, .int 2] (fun U => U.heap.size = sz ∧ va_P D vwCl ws U.heap ∧ va_K D vwCl tys U ∧ va_D (fun _ => True) ws ∧ SZ adK adV fo (va_A ws sz) U U.heap)) (va_Qi (fun (r : Int32) (s9 : Int32) => r = s9) (fun (s9 : Int32) (t : State) => ∃ (ws' : va_W) (tys' : List (ClassId × FieldType)), sm ρ [4, 6] ws ws' ∧ tyx tys tys' ∧ va_P D vwCl ws' t.heap ∧ va_K D vwCl tys' t ∧ va_D (va_A ws sz) ws' ∧ ((s9 = 0 ∧ FLT ρ ws' tys' f9 rd krd tp ktp cd bb tl (0, ts, σ, T) nk fr) ∨ (s9 = 1 ∧ EIT ρ ws' tys' f9 rd krd tp ktp cd bb tl ts σ T nk fr fk fp))) (va_A ws sz)) 0 0 (va_A ws sz) := by
  refine Met.ofW (cc := cX4_readEither) (maxL := 6) (ret := (some .boolean)) (by decide) rfl ?_
  intro p e s m args below meth c s₁ B hml hv
  obtain ⟨rfl, hsz, hP, hK, hD0, hsz9⟩ := hv
  have hx := B.exec
  have hb := B.bytes
  have hr := B.returns
  have hts := atoms_spec (ws := wsX4_readEither) B.pre
  have hown : s.vm.findClass RX4 = some m.cls := findClass_of_methodNamed B.named
  have hlocks := B.notSynchronized
  subst hsz
  have hD := hD0.self (sz := s.heap.size)
  generalize hAe : va_A ws s.heap.size = A at hD hsz9 ⊢
  have hA : ∀ q : Nat, s.heap.size ≤ q → A q := fun q h => by rw [← hAe]; exact Or.inr h
  have hS : va_S A s.heap s.heap [] := va_S.rf
  have hsm : sm ρ [4, 6] ws ws := sm.rf ws
  have htx : tyx tys tys := tyx.rf tys
  have hin4 : ∀ w ∈ u_ws RX4 TX4 8, w ∈ wsX4_readEither := (fun _ h9 => List.mem_cons_of_mem _ (List.mem_append_left _ ((List.mem_append_right _ h9))))
  have hl := lv_entry ([.ref rd, .int 2]) (n := 6) (Nat.le_of_ble_eq_true rfl)
  rw [lg_entry_eq]
  generalize (lg_sl ([.ref rd, .int 2]) ++ List.replicate (6 - (lg_sl ([.ref rd, .int 2])).length) Slot.unset).toArray = ls at hl ⊢
  have hl : lv_has ls 6 [(0, .ref rd), (1, .int 2)] := hl
  obtain ⟨kc_1, cc_2, tc_3, fc_4, kb_5, cb_6, tb_7, fb_8, hp_9, hT_10, er_11, et_12, wr_13, wt_14, ec_15, uc_16, wc_17, hc_18, eb_19, ub_20, wb_21, hb_22⟩ := id R0
  have hp_91 := hp_9.1
  have hp_9t := teF_le (f := f9) hp_9.1
  refine lv_aload_n hx hb dX4_readEither_0 rfl (lv_at hl 0 rfl) ?_
  refine lv_iload_n hx hb dX4_readEither_1 rfl (lv_at hl 1 rfl) ?_
  have hFc := free_all hD hS hA
  refine va_calli (va_runV (As := [.int 2]) (rest := []) ⟨hx, hb, hml, hown, hts⟩ (r_readOne2 l D ρ ws tys adK adV fo f9 rd krd tp ktp cd bb tl ts T nk fr fk fp vl σ s.heap.size htl hng (⟨kc_1, cc_2, tc_3, fc_4, kb_5, cb_6, tb_7, fb_8, hp_9, hT_10, er_11, et_12, wr_13, wt_14, ec_15, uc_16, wc_17, hc_18, eb_19, ub_20, wb_21, hb_22⟩ : RSX ρ ws tys f9 rd krd tp ktp cd bb tl ts T nk fr fk fp vl) hdp (by omega)) (cwV 1 hts gX4_readEither_X4_readOne rfl rfl rfl (by decide +kernel) ⟨Nat.le_of_ble_eq_true rfl, Nat.le_of_ble_eq_true rfl⟩) ⟨fun a U g mk q => by obtain ⟨q0, q1, qP, qK, qD, qS⟩ := q; exact ⟨q0, q1, qP, va_K.moved (u := U) (U := U.calling g mk a) (Vm.Alike.refl U.vm) qK, qD, SZ.same rfl rfl qS⟩, va_recv hK hP (ci := 4) (q0 := krd) rfl er_11, fun U hU hW => ⟨rfl, by rw [hU], by rw [hU]; exact hP, va_K.moved hW.alike hK, hD.weaken (fun _ _ _ _ => trivial), hsz9.go hS hW hU hFc⟩⟩ rfl rfl hl.1 rfl (lv_room (Nat.le_of_ble_eq_true rfl)) dX4_readEither_2 ⟨Nat.le_of_ble_eq_true rfl, Nat.le_of_ble_eq_true rfl⟩) hS (fun q _ h => hFc q h) hFc (fun r_23 u t H1 locs ht hvm w_24 hB hz1 hk1 hS => ?_)
  subst w_24
  obtain ⟨ws_25, ty_26, hm_27, ht_29, hP1, hK1, hD1, hx_28⟩ := hB
  rw [ht] at hP1
  have hK := va_K.moved hvm.symm hK1
  have hD := hD1.weaken (fun _ _ _ h => hFc _ h)
  generalize H1 = H at hP1 hS ⊢
  have hP := hP1
  obtain ⟨g_31, e_30, h_32⟩ := hm_27.obj er_11
  obtain ⟨z_33, z_34, z_35, z_36, z_37, z_38, rfl⟩ := smX4 h_32
  obtain ⟨g_40, e_39, h_41⟩ := hm_27.obj et_12
  obtain ⟨z_42, z_43, z_44, z_45, rfl⟩ := smX6 h_41
  obtain ⟨f_47, e_46⟩ := hm_27.arrI ec_15
  have u_48 := ht_29 _ _ uc_16
  have e_49 := hm_27.keep (by rw [wb_21]; omega) eb_19
  have u_50 := ht_29 _ _ ub_20
  have hsm := hsm.tr (hm_27.mono (by decide))
  have htx := htx.tr ht_29
  refine lv_istore_n (lv' := [(2, .int r_23), (0, .ref rd), (1, .int 2)]) hx hb dX4_readEither_5 rfl hl (by decide) rfl (fun ls hl => ?_)
  refine lv_iconst (v := 0) hx hb dX4_readEither_6 (by decide) ?_
  refine lv_istore_n (lv' := [(3, .int 0), (2, .int r_23), (0, .ref rd), (1, .int 2)]) hx hb dX4_readEither_7 rfl hl (by decide) rfl (fun ls hl => ?_)
  refine lv_iconst (v := 0) hx hb dX4_readEither_8 (by decide) ?_
  refine lv_istore (lv' := [(4, .int 0), (3, .int 0), (2, .int r_23), (0, .ref rd), (1, .int 2)]) hx hb dX4_readEither_9 hl (by decide) rfl (fun ls hl => ?_)
  refine lp_V (nL := 6) (σ := Nat × Int32 × Int32) (lv := fun x9 => [(4, .int (nI x9.1)), (2, .int x9.2.1), (3, .int x9.2.2), (1, .int 2), (0, .ref rd)]) (μ := fun x9 => 400 - x9.1) (J := fun x9 ws9 => sm ρ [4, 6] ws_25 ws9 ∧ (∃ ty9 : List (ClassId × FieldType), va_K D vwCl ty9 s ∧ tyx tys ty9 ∧ ((x9.2.1 = 1 ∧ (x9.2.2 = 0 ∨ x9.2.2 = 1) ∧ LPE ρ ws9 ty9 f9 rd krd tp ktp cd bb tl ts σ T nk fr fk fp x9.1 x9.2.2) ∨ (x9.2.1 = 0 ∧ (x9.2.2 = 0 ∨ x9.2.2 = 1) ∧ FLT ρ ws9 ty9 f9 rd krd tp ktp cd bb tl (0, ts, σ, T) nk fr))) ∧ (x9.1 ≤ 400)) (fun x9 ws_56 H locs ls hj hP hD hS hl ih_51 => ?_) (0, r_23, 0) ws_25 _ _ ls ⟨sm.rf _, ⟨ty_26, hK, htx, by rcases hx_28 with ⟨h0, h⟩ | ⟨h0, b9, T9, vl, hr, g1, g2, h⟩; exact Or.inr ⟨h0, Or.inl rfl, h⟩; exact Or.inl ⟨h0, Or.inl rfl, ⟨b9, σ, T9, vl, rch_bs hbs hr, ow_0 hbs, by omega, fun (h9 : (0 : Int32) = 1) => absurd h9 (by decide), fun _ => by rw [hbs.fx.2.2.2.1, List.append_nil]; omega, by rw [hbs.fx.2.2.2.1, List.append_nil]; exact h⟩⟩⟩, (show 0 ≤ 400 from by omega)⟩ hP hD hS (lv_sub hl [0, 2, 1, 4, 3] rfl)
  obtain ⟨i_52, x_53, y_54⟩ := x9
  replace hj : sm ρ [4, 6] ws_25 ws_56 ∧ (∃ ty9 : List (ClassId × FieldType), va_K D vwCl ty9 s ∧ tyx tys ty9 ∧ ((x_53 = 1 ∧ (y_54 = 0 ∨ y_54 = 1) ∧ LPE ρ ws_56 ty9 f9 rd krd tp ktp cd bb tl ts σ T nk fr fk fp i_52 y_54) ∨ (x_53 = 0 ∧ (y_54 = 0 ∨ y_54 = 1) ∧ FLT ρ ws_56 ty9 f9 rd krd tp ktp cd bb tl (0, ts, σ, T) nk fr))) ∧ (i_52 ≤ 400) := hj
  obtain ⟨hm_57, hR_59, hi_55⟩ := hj
  obtain ⟨g_61, e_60, h_62⟩ := hm_57.obj e_30
  obtain ⟨z_63, z_64, z_65, z_66, z_67, z_68, rfl⟩ := smX4 h_62
  obtain ⟨g_70, e_69, h_71⟩ := hm_57.obj e_39
  obtain ⟨z_72, z_73, z_74, z_75, rfl⟩ := smX6 h_71
  obtain ⟨f_77, e_76⟩ := hm_57.arrI e_46
  have e_78 := hm_57.keep (by rw [wb_21]; omega) e_49
  have hsm := hsm.tr (hm_57.mono (by decide))
  have hlp_58 := hm_57
  have hl : lv_has ls 6 [(4, .int (nI i_52)), (2, .int x_53), (3, .int y_54), (1, .int 2), (0, .ref rd)] := hl
  refine lv_iload hx hb dX4_readEither_11 (lv_at hl 0 rfl) ?_
  obtain ⟨ty_79, hK, htx, hR_80⟩ := hR_59
  rcases hR_80 with ⟨rfl, rfl | rfl, b_81, ta_82, T_83, vl_84, hr_85, ow_86, gi_87, ga_88, gb_89, hR_90⟩ | ⟨rfl, rfl | rfl, k_91, p_92, ts_93, T_83, vl_84, hk_94, hk_95, hr_85, hR_90⟩
  · have gb_89 := gb_89 rfl
    obtain ⟨kc_96, cc_97, tc_98, fc_99, kb_100, cb_101, tb_102, fb_103, hp_104, hT_105, er_106, et_107, wr_108, wt_109, ec_110, uc_111, wc_112, hc_113, eb_114, ub_115, wb_116, hb_117⟩ := id hR_90
    have hp_1041 := hp_104.1
    have hp_104t := teF_le (f := f9) hp_104.1
    refine lv_sipush (v := 400) hx hb dX4_readEither_13 (by decide) ?_
    refine lv_icmp_ge (tgt := 101) hx hb dX4_readEither_16 (by decide) (fun c_118 => ?_) (fun c_118 => ?_)
    · have d_119 := n_le (a := 400) (b := i_52) (by omega) (by omega) c_118
      refine lv_iload_n hx hb dX4_readEither_101 rfl (lv_at hl 2 rfl) ?_
      refine lv_if_eq (tgt := 111) hx hb dX4_readEither_102 (by decide) (fun c_120 => ?_) (fun c_120 => absurd (by decide) c_120)
      refine lv_iload_n hx hb dX4_readEither_111 rfl (lv_at hl 1 rfl) ?_
      exact W.zret (v := 1) hx hb hr rfl (fun t ht hW => ⟨⟨1, 1, rfl, rfl, ws_56, ty_79, hsm, htx, by rw [ht]; exact hP, va_K.moved hW.alike hK, hD, (by exfalso; omega)⟩, hS.F ht⟩) hS.2.2 dX4_readEither_112
    have d_121 := n_nle (a := 400) (b := i_52) (by omega) (by omega) c_118
    refine lv_iload_n hx hb dX4_readEither_19 rfl (lv_at hl 1 rfl) ?_
    refine lv_if_eq (tgt := 101) hx hb dX4_readEither_20 (by decide) (fun c_122 => absurd c_122 (by decide)) (fun c_122 => ?_)
    refine lv_aload_n hx hb dX4_readEither_23 rfl (lv_at hl 4 rfl) ?_
    have hFc := free_all hD hS hA
    refine va_calli (va_runV (As := []) (rest := []) ⟨hx, hb, hml, hown, hts⟩ (r_isAndOr l D (rz []) ws_56 ty_79 adK adV fo f9 rd krd tp ktp cd tl b_81 nk fr fk fp (nI (T_83 ++ eA ta_82).length) vl_84 bb kb_100 cb_101 tb_102 fb_103 H.size er_106 htl hb_117 hng hp_104 et_107 eb_114 ub_115 rz_o0) (cwV 0 hts gX4_readEither_X4_isAndOr rfl rfl rfl (by decide +kernel) ⟨Nat.le_of_ble_eq_true rfl, Nat.le_of_ble_eq_true rfl⟩) ⟨fun a U g mk q => by obtain ⟨q0, q1, qP, qK, qD, qS⟩ := q; exact ⟨q0, q1, qP, va_K.moved (u := U) (U := U.calling g mk a) (Vm.Alike.refl U.vm) qK, qD, SZ.same rfl rfl qS⟩, va_recv hK hP (ci := 4) (q0 := krd) rfl er_106, fun U hU hW => ⟨rfl, by rw [hU], by rw [hU]; exact hP, va_K.moved hW.alike hK, hD.weaken (fun _ _ _ _ => trivial), hsz9.go hS hW hU hFc⟩⟩ rfl rfl hl.1 rfl (lv_room (Nat.le_of_ble_eq_true rfl)) dX4_readEither_24 ⟨Nat.le_of_ble_eq_true rfl, Nat.le_of_ble_eq_true rfl⟩) hS (fun q _ h => hFc q h) hFc (fun r_123 u t H1 locs ht hvm w_124 hB hz1 hk1 hS => ?_)
    obtain ⟨ws_125, ty_126, hm_127, ht_129, hP1, hK1, hD1, hx_128⟩ := hB
    rw [ht] at hP1
    have hK := va_K.moved hvm.symm hK1
    have hD := hD1.weaken (fun _ _ _ h => hFc _ h)
    generalize H1 = H at hP1 hS ⊢
    have hP := hP1
    have e_130 := hm_127.keep rz_o0 er_106
    have e_131 := hm_127.keep rz_o0 et_107
    have e_132 := hm_127.keep rz_o0 ec_110
    have e_133 := hm_127.keep rz_o0 eb_114
    have u_134 := ht_129 _ _ uc_111
    have u_135 := ht_129 _ _ ub_115
    have hm_136 : sm ρ [] ws_56 ws_125 := hm_127.up (fun k _ h => rz_u0  k h)
    have hsm := hsm.tr (hm_136.mono (by decide))
    have hlp_58 := hlp_58.tr (hm_136.mono (by decide))
    have htx := htx.tr ht_129
    rcases w_124 with ⟨rfl, ao_137⟩ | ⟨rfl, ao_137⟩
    · refine lv_if_eq (tgt := 101) hx hb dX4_readEither_27 (by decide) (fun c_138 => ?_) (fun c_138 => absurd (by decide) c_138)
      refine lv_iload_n hx hb dX4_readEither_101 rfl (lv_at hl 2 rfl) ?_
      refine lv_if_eq (tgt := 111) hx hb dX4_readEither_102 (by decide) (fun c_139 => ?_) (fun c_139 => absurd (by decide) c_139)
      refine lv_iload_n hx hb dX4_readEither_111 rfl (lv_at hl 1 rfl) ?_
      exact W.zret (v := 1) hx hb hr rfl (fun t ht hW => ⟨⟨1, 1, rfl, rfl, ws_125, ty_126, hsm, htx, by rw [ht]; exact hP, va_K.moved hW.alike hK, hD, Or.inr ⟨rfl, b_81, ta_82, T_83, _, hr_85, ow_jO hbs ow_86, ao_137, by omega, by rw [(ow_eO hbs ow_86).1 rfl]; omega, by rw [(ow_eO hbs ow_86).1 rfl]; exact (⟨kc_96, cc_97, tc_98, fc_99, kb_100, cb_101, tb_102, fb_103, hp_104, hT_105, e_130, e_131, wr_108, wt_109, e_132, u_134, wc_112, hc_113, e_133, u_135, wb_116, hb_117⟩ : RSX ρ ws_125 ty_126 f9 rd krd tp ktp cd bb tl b_81 (T_83 ++ eA ta_82) nk fr fk fp vl_84)⟩⟩, hS.F ht⟩) hS.2.2 dX4_readEither_112
    refine lv_if_eq (tgt := 101) hx hb dX4_readEither_27 (by decide) (fun c_140 => absurd c_140 (by decide)) (fun c_140 => ?_)
    refine lv_aload_n hx hb dX4_readEither_30 rfl (lv_at hl 4 rfl) ?_
    refine va_get (D := D) (ci := 4) (v := .ref tp) (C := RX4) (T := TX4) (N := 8) hx hb hts hin4 hown hK hP krd e_130 rfl 0 (by decide) (hts (.fieldLink RX4 12 "HoneyHouse$RuleReader" "tape" "LHoneyHouse$Tape;") (List.mem_of_getElem? (i := 1) rfl)) (fun _ h9 => h9) rfl dX4_readEither_31 ?_
    refine va_ldcS hx hb hown hsz9.2.2.2.2.2.1 dX4_readEither_34 ?_
    have hFc := free_all hD hS hA
    refine va_calli (va_runV (As := [.ref (adK 2)]) (rest := []) ⟨hx, hb, hml, hown, hts⟩ (a_isWord l D (rz []) ws_125 ty_126 adK adV fo 2 f9 tp ktp tl b_81 bb kb_100 cb_101 tb_102 fb_103 H.size (by decide) htl hb_117 hng hp_104 e_131 e_133 u_135 rz_o0) (cwV 1 hts gX4_readEither_X6_isWord rfl rfl rfl (by decide +kernel) ⟨Nat.le_of_ble_eq_true rfl, Nat.le_of_ble_eq_true rfl⟩) ⟨fun a U g mk q => by obtain ⟨q0, q1, qP, qK, qD, qS⟩ := q; exact ⟨q0, q1, qP, va_K.moved (u := U) (U := U.calling g mk a) (Vm.Alike.refl U.vm) qK, qD, SZ.same rfl rfl qS⟩, va_recv hK hP (ci := 6) (q0 := ktp) rfl e_131, fun U hU hW => ⟨rfl, by rw [hU], by rw [hU]; exact hP, va_K.moved hW.alike hK, hD.weaken (fun _ _ _ _ => trivial), hsz9.go hS hW hU hFc⟩⟩ rfl rfl hl.1 rfl (lv_room (Nat.le_of_ble_eq_true rfl)) dX4_readEither_36 ⟨Nat.le_of_ble_eq_true rfl, Nat.le_of_ble_eq_true rfl⟩) hS (fun q _ h => hFc q h) hFc (fun r_141 u t H1 locs ht hvm w_142 hB hz1 hk1 hS => ?_)
    obtain ⟨ws_143, ty_144, hm_145, ht_147, hP1, hK1, hD1, hx_146⟩ := hB
    rw [ht] at hP1
    have hK := va_K.moved hvm.symm hK1
    have hD := hD1.weaken (fun _ _ _ h => hFc _ h)
    generalize H1 = H at hP1 hS ⊢
    have hP := hP1
    have e_148 := hm_145.keep rz_o0 e_130
    have e_149 := hm_145.keep rz_o0 e_131
    have e_150 := hm_145.keep rz_o0 e_132
    have e_151 := hm_145.keep rz_o0 e_133
    have u_152 := ht_147 _ _ u_134
    have u_153 := ht_147 _ _ u_135
    have hm_154 : sm ρ [] ws_125 ws_143 := hm_145.up (fun k _ h => rz_u0  k h)
    have hsm := hsm.tr (hm_154.mono (by decide))
    have hlp_58 := hlp_58.tr (hm_154.mono (by decide))
    have htx := htx.tr ht_147
    rcases w_142 with ⟨rfl, iw_155⟩ | ⟨rfl, iw_155⟩
    · have iw_155 : ¬ wdE f9 tl b_81 = 2 := iw_155
      refine lv_istore (lv' := [(5, .int 0), (4, .int (nI i_52)), (2, .int 1), (3, .int 0), (1, .int 2), (0, .ref rd)]) hx hb dX4_readEither_39 hl (by decide) rfl (fun ls hl => ?_)
      refine lv_iload hx hb dX4_readEither_41 (lv_at hl 0 rfl) ?_
      refine lv_if_ne (tgt := 56) hx hb dX4_readEither_43 (by decide) (fun c_156 => absurd (by decide) c_156) (fun c_156 => ?_)
      refine lv_iload_n hx hb dX4_readEither_46 rfl (lv_at hl 3 rfl) ?_
      refine lv_if_eq (tgt := 56) hx hb dX4_readEither_47 (by decide) (fun c_157 => ?_) (fun c_157 => absurd (by decide) c_157)
      refine lv_iload_n hx hb dX4_readEither_56 rfl (lv_at hl 3 rfl) ?_
      refine lv_if_ne (tgt := 65) hx hb dX4_readEither_57 (by decide) (fun c_158 => absurd (by decide) c_158) (fun c_158 => ?_)
      refine lv_iload hx hb dX4_readEither_60 (lv_at hl 0 rfl) ?_
      refine lv_if_ne (tgt := 69) hx hb dX4_readEither_62 (by decide) (fun c_159 => absurd (by decide) c_159) (fun c_159 => ?_)
      refine lv_iconst (v := 1) hx hb dX4_readEither_65 (by decide) ?_
      refine lv_goto (tgt := 70) hx hb dX4_readEither_66 (by decide) ?_
      refine lv_istore_n (lv' := [(3, .int 1), (5, .int 0), (4, .int (nI i_52)), (2, .int 1), (1, .int 2), (0, .ref rd)]) hx hb dX4_readEither_70 rfl hl (by decide) rfl (fun ls hl => ?_)
      have hw1 : wdE f9 tl b_81 = 1 := by omega
      have hw9 : b_81 + 2 ≤ nxF f9 tl b_81 ∧ nxF f9 tl b_81 ≤ tl := nx_wd hp_104.1 (j := 1) (by omega) hw1
      have hm9 : Rch f9 tl (0, ts, σ, T) (0, nxF f9 tl b_81, 1 :: σ, T_83 ++ eA ta_82) := by have h9 := hr_85.st (st_or hw1); rw [ow_jO hbs ow_86, (ow_eO hbs ow_86).1 rfl] at h9; exact h9
      have hdq : dep (1 :: σ) = dep σ := dep_n _ (by omega)
      refine lv_aload_n hx hb dX4_readEither_71 rfl (lv_at hl 5 rfl) ?_
      refine va_get (D := D) (ci := 4) (v := .ref tp) (C := RX4) (T := TX4) (N := 8) hx hb hts hin4 hown hK hP krd e_148 rfl 0 (by decide) (hts (.fieldLink RX4 12 "HoneyHouse$RuleReader" "tape" "LHoneyHouse$Tape;") (List.mem_of_getElem? (i := 1) rfl)) (fun _ h9 => h9) rfl dX4_readEither_72 ?_
      have hFc := free_all hD hS hA
      refine va_callv (va_runV (As := []) (rest := []) ⟨hx, hb, hml, hown, hts⟩ (a_advance l D (rz [ktp]) ws_143 ty_144 f9 tp ktp tl (teF f9 tl b_81) (nI (kdF f9 tl b_81)) (nI b_81) bb kb_100 cb_101 tb_102 fb_103 H.size htl hb_117 hng (by omega) e_149 e_151 u_153 (rz_o1 (pl_ne e_151 e_149 (by intro h9; simp at h9))) (rz_in (by simp))) (cwV 0 hts gX4_readEither_X6_advance rfl rfl rfl (by decide +kernel) ⟨Nat.le_of_ble_eq_true rfl, Nat.le_of_ble_eq_true rfl⟩) ⟨fun a U g mk q => by obtain ⟨q0, q1, qP, qK, qD⟩ := q; exact ⟨q0, q1, qP, va_K.moved (u := U) (U := U.calling g mk a) (Vm.Alike.refl U.vm) qK, qD⟩, va_recv hK hP (ci := 6) (q0 := ktp) rfl e_149, fun U hU hW => ⟨rfl, by rw [hU], by rw [hU]; exact hP, va_K.moved hW.alike hK, hD.weaken (fun _ _ _ _ => trivial)⟩⟩ rfl rfl hl.1 rfl (lv_room (Nat.le_of_ble_eq_true rfl)) dX4_readEither_75 ⟨Nat.le_of_ble_eq_true rfl, Nat.le_of_ble_eq_true rfl⟩) hS (fun q _ h => hFc q h) hFc (fun u t H1 locs ht hvm w_161 hB hz1 hk1 hS => ?_)
      obtain ⟨ws_162, ty_163, hm_164, ht_166, hP1, hK1, hD1, hx_165⟩ := hB
      rw [ht] at hP1
      have hK := va_K.moved hvm.symm hK1
      have hD := hD1.weaken (fun _ _ _ h => hFc _ h)
      generalize H1 = H at hP1 hS ⊢
      have hP := hP1
      have e_167 := hm_164.keep (rz_o1 (pl_ne e_148 e_149 (by intro h9; simp at h9))) e_148
      have e_168 := hm_164.keep (rz_o1 (pl_ne e_150 e_149 (by intro h9; simp at h9))) e_150
      have e_169 := hm_164.keep (rz_o1 (pl_ne e_151 e_149 (by intro h9; simp at h9))) e_151
      have u_170 := ht_166 _ _ u_152
      have u_171 := ht_166 _ _ u_153
      have hm_172 : sm ρ [6] ws_143 ws_162 := hm_164.up (fun k _ h => rz_u1 wt_109 k h)
      have hsm := hsm.tr (hm_172.mono (by decide))
      have hlp_58 := hlp_58.tr (hm_172.mono (by decide))
      have htx := htx.tr ht_166
      have e_173 : ws_162[ktp]? = some (tp, .inr (6, [.int (nI tl), .int (nI (kdF f9 tl (nxF f9 tl b_81))), .int (nI (nxF f9 tl b_81)), .int (nI (teF f9 tl (nxF f9 tl b_81))), .ref bb])) := hx_165; have hq_174 : pcB f9 tl (nxF f9 tl b_81) := nxF_pc (f := f9) hp_104.1; have hq_1741 := hq_174.1; have hq_174t := teF_le (f := f9) hq_174.1; have hg_175 := nx_gain (f := f9) hp_104.1
      refine lv_aload_n hx hb dX4_readEither_78 rfl (lv_at hl 5 rfl) ?_
      refine lv_iload_n hx hb dX4_readEither_79 rfl (lv_at hl 4 rfl) ?_
      have hFc := free_all hD hS hA
      refine va_calli (va_runV (As := [.int 2]) (rest := []) ⟨hx, hb, hml, hown, hts⟩ (r_readOne2 l D ρ ws_162 ty_163 adK adV fo f9 rd krd tp ktp cd bb tl (nxF f9 tl b_81) (T_83 ++ eA ta_82) nk fr fk fp vl_84 (1 :: σ) H.size htl hng (⟨kc_96, cc_97, tc_98, fc_99, kb_100, cb_101, tb_102, fb_103, hq_174, hT_105, e_167, e_173, wr_108, wt_109, e_168, u_170, wc_112, hc_113, e_169, u_171, wb_116, hb_117⟩ : RSX ρ ws_162 ty_163 f9 rd krd tp ktp cd bb tl (nxF f9 tl b_81) (T_83 ++ eA ta_82) nk fr fk fp vl_84) (hdq.trans hdp) (by omega)) (cwV 1 hts gX4_readEither_X4_readOne rfl rfl rfl (by decide +kernel) ⟨Nat.le_of_ble_eq_true rfl, Nat.le_of_ble_eq_true rfl⟩) ⟨fun a U g mk q => by obtain ⟨q0, q1, qP, qK, qD, qS⟩ := q; exact ⟨q0, q1, qP, va_K.moved (u := U) (U := U.calling g mk a) (Vm.Alike.refl U.vm) qK, qD, SZ.same rfl rfl qS⟩, va_recv hK hP (ci := 4) (q0 := krd) rfl e_167, fun U hU hW => ⟨rfl, by rw [hU], by rw [hU]; exact hP, va_K.moved hW.alike hK, hD.weaken (fun _ _ _ _ => trivial), hsz9.go hS hW hU hFc⟩⟩ rfl rfl hl.1 rfl (lv_room (Nat.le_of_ble_eq_true rfl)) dX4_readEither_80 ⟨Nat.le_of_ble_eq_true rfl, Nat.le_of_ble_eq_true rfl⟩) hS (fun q _ h => hFc q h) hFc (fun r_176 u t H1 locs ht hvm w_177 hB hz1 hk1 hS => ?_)
      subst w_177
      obtain ⟨ws_178, ty_179, hm_180, ht_182, hP1, hK1, hD1, hx_181⟩ := hB
      rw [ht] at hP1
      have hK := va_K.moved hvm.symm hK1
      have hD := hD1.weaken (fun _ _ _ h => hFc _ h)
      generalize H1 = H at hP1 hS ⊢
      have hP := hP1
      obtain ⟨g_184, e_183, h_185⟩ := hm_180.obj e_167
      obtain ⟨z_186, z_187, z_188, z_189, z_190, z_191, rfl⟩ := smX4 h_185
      obtain ⟨g_193, e_192, h_194⟩ := hm_180.obj e_173
      obtain ⟨z_195, z_196, z_197, z_198, rfl⟩ := smX6 h_194
      obtain ⟨f_200, e_199⟩ := hm_180.arrI e_168
      have u_201 := ht_182 _ _ u_170
      have e_202 := hm_180.keep (by rw [wb_116]; omega) e_169
      have u_203 := ht_182 _ _ u_171
      have hsm := hsm.tr (hm_180.mono (by decide))
      have hlp_58 := hlp_58.tr (hm_180.mono (by decide))
      have htx := htx.tr ht_182
      rcases hx_181 with ⟨rfl, k_204, p_205, ts_206, T_207, vl_208, hk_209, hk_210, hr_211, hR_212⟩ | ⟨rfl, b_213, T_207, vl_208, hr_211, hg_217, hg_218, hR_212⟩
      · obtain ⟨kc_219, cc_220, tc_221, fc_222, kb_223, cb_224, tb_225, fb_226, hp_227, hT_228, er_229, et_230, wr_231, wt_232, ec_233, uc_234, wc_235, hc_236, eb_237, ub_238, wb_239, hb_240⟩ := id hR_212
        have hp_2271 := hp_227.1
        have hp_227t := teF_le (f := f9) hp_227.1
        refine lv_istore_n (lv' := [(2, .int 0), (3, .int 1), (5, .int 0), (4, .int (nI i_52)), (1, .int 2), (0, .ref rd)]) hx hb dX4_readEither_83 rfl hl (by decide) rfl (fun ls hl => ?_)
        refine lv_iload hx hb dX4_readEither_84 (lv_at hl 2 rfl) ?_
        refine lv_if_eq (tgt := 95) hx hb dX4_readEither_86 (by decide) (fun c_241 => ?_) (fun c_241 => absurd (by decide) c_241)
        refine lv_iinc (v := nI (i_52 + 1)) (lv' := [(4, .int (nI (i_52 + 1))), (2, .int 0), (3, .int 1), (5, .int 0), (1, .int 2), (0, .ref rd)]) hx hb dX4_readEither_95 hl (k := 3) rfl (nI_add i_52 1) (by decide) rfl (fun ls hl => ?_)
        refine lv_goto (tgt := 11) hx hb dX4_readEither_98 (by decide) ?_
        exact ih_51 (i_52 + 1, 0, 1) ws_178 _ _ ls (by show 400 - (i_52 + 1) < 400 - i_52; omega) ⟨hlp_58, ⟨ty_179, hK, htx, Or.inr ⟨rfl, Or.inr rfl, (⟨k_204, p_205, _, _, _, by omega, by omega, hm9.tr hr_211, (⟨kc_219, cc_220, tc_221, fc_222, kb_223, cb_224, tb_225, fb_226, hp_227, hT_228, er_229, et_230, wr_231, wt_232, ec_233, uc_234, wc_235, hc_236, eb_237, ub_238, wb_239, hb_240⟩ : RSX ρ ws_178 ty_179 f9 rd krd tp ktp cd bb tl ts_206 T_207 nk fr (nI k_204) (nI p_205) vl_208)⟩ : FLT ρ ws_178 ty_179 f9 rd krd tp ktp cd bb tl (0, ts, σ, T) nk fr)⟩⟩, (show (i_52 + 1) ≤ 400 from by omega)⟩ hP hD hS (lv_sub hl [0, 1, 2, 4, 5] rfl)
      obtain ⟨kc_242, cc_243, tc_244, fc_245, kb_246, cb_247, tb_248, fb_249, hp_250, hT_251, er_252, et_253, wr_254, wt_255, ec_256, uc_257, wc_258, hc_259, eb_260, ub_261, wb_262, hb_263⟩ := id hR_212
      have hp_2501 := hp_250.1
      have hp_250t := teF_le (f := f9) hp_250.1
      refine lv_istore_n (lv' := [(2, .int 1), (3, .int 1), (5, .int 0), (4, .int (nI i_52)), (1, .int 2), (0, .ref rd)]) hx hb dX4_readEither_83 rfl hl (by decide) rfl (fun ls hl => ?_)
      refine lv_iload hx hb dX4_readEither_84 (lv_at hl 2 rfl) ?_
      refine lv_if_eq (tgt := 95) hx hb dX4_readEither_86 (by decide) (fun c_264 => ?_) (fun c_264 => absurd (by decide) c_264)
      refine lv_iinc (v := nI (i_52 + 1)) (lv' := [(4, .int (nI (i_52 + 1))), (2, .int 1), (3, .int 1), (5, .int 0), (1, .int 2), (0, .ref rd)]) hx hb dX4_readEither_95 hl (k := 3) rfl (nI_add i_52 1) (by decide) rfl (fun ls hl => ?_)
      refine lv_goto (tgt := 11) hx hb dX4_readEither_98 (by decide) ?_
      exact ih_51 (i_52 + 1, 1, 1) ws_178 _ _ ls (by show 400 - (i_52 + 1) < 400 - i_52; omega) ⟨hlp_58, ⟨ty_179, hK, htx, Or.inl ⟨rfl, Or.inr rfl, (⟨b_213, 1 :: σ, T_207, _, hm9.tr (rch_an (by omega) hr_211), ow_or, by omega, fun _ => by rw [eA_n _ (by omega), List.append_nil]; omega, fun h9 => absurd h9 (by decide), by rw [eA_n _ (by omega), List.append_nil]; exact (⟨kc_242, cc_243, tc_244, fc_245, kb_246, cb_247, tb_248, fb_249, hp_250, hT_251, er_252, et_253, wr_254, wt_255, ec_256, uc_257, wc_258, hc_259, eb_260, ub_261, wb_262, hb_263⟩ : RSX ρ ws_178 ty_179 f9 rd krd tp ktp cd bb tl b_213 T_207 nk fr fk fp vl_208)⟩ : LPE ρ ws_178 ty_179 f9 rd krd tp ktp cd bb tl ts σ T nk fr fk fp (i_52 + 1) 1)⟩⟩, (show (i_52 + 1) ≤ 400 from by omega)⟩ hP hD hS (lv_sub hl [0, 1, 2, 4, 5] rfl)
    have iw_155 : wdE f9 tl b_81 = 2 := iw_155
    refine lv_istore (lv' := [(5, .int 1), (4, .int (nI i_52)), (2, .int 1), (3, .int 0), (1, .int 2), (0, .ref rd)]) hx hb dX4_readEither_39 hl (by decide) rfl (fun ls hl => ?_)
    refine lv_iload hx hb dX4_readEither_41 (lv_at hl 0 rfl) ?_
    refine lv_if_ne (tgt := 56) hx hb dX4_readEither_43 (by decide) (fun c_265 => ?_) (fun c_265 => absurd c_265 (by decide))
    refine lv_iload_n hx hb dX4_readEither_56 rfl (lv_at hl 3 rfl) ?_
    refine lv_if_ne (tgt := 65) hx hb dX4_readEither_57 (by decide) (fun c_266 => absurd (by decide) c_266) (fun c_266 => ?_)
    refine lv_iload hx hb dX4_readEither_60 (lv_at hl 0 rfl) ?_
    refine lv_if_ne (tgt := 69) hx hb dX4_readEither_62 (by decide) (fun c_267 => ?_) (fun c_267 => absurd c_267 (by decide))
    refine lv_iconst (v := 0) hx hb dX4_readEither_69 (by decide) ?_
    refine lv_istore_n (lv' := [(3, .int 0), (5, .int 1), (4, .int (nI i_52)), (2, .int 1), (1, .int 2), (0, .ref rd)]) hx hb dX4_readEither_70 rfl hl (by decide) rfl (fun ls hl => ?_)
    have hw9 : b_81 + 3 ≤ nxF f9 tl b_81 ∧ nxF f9 tl b_81 ≤ tl := nx_wd hp_104.1 (j := 2) (by omega) iw_155
    have hm9 : Rch f9 tl (0, ts, σ, T) (0, nxF f9 tl b_81, 2 :: jA ta_82, T_83 ++ eA ta_82) := hr_85.st (st_and iw_155)
    have hdq : dep (2 :: jA ta_82) = dep σ := (dep_n _ (by omega)).trans ((dep_jA _).trans ((dep_jO _).symm.trans (congrArg dep (ow_jO hbs ow_86))))
    refine lv_aload_n hx hb dX4_readEither_71 rfl (lv_at hl 5 rfl) ?_
    refine va_get (D := D) (ci := 4) (v := .ref tp) (C := RX4) (T := TX4) (N := 8) hx hb hts hin4 hown hK hP krd e_148 rfl 0 (by decide) (hts (.fieldLink RX4 12 "HoneyHouse$RuleReader" "tape" "LHoneyHouse$Tape;") (List.mem_of_getElem? (i := 1) rfl)) (fun _ h9 => h9) rfl dX4_readEither_72 ?_
    have hFc := free_all hD hS hA
    refine va_callv (va_runV (As := []) (rest := []) ⟨hx, hb, hml, hown, hts⟩ (a_advance l D (rz [ktp]) ws_143 ty_144 f9 tp ktp tl (teF f9 tl b_81) (nI (kdF f9 tl b_81)) (nI b_81) bb kb_100 cb_101 tb_102 fb_103 H.size htl hb_117 hng (by omega) e_149 e_151 u_153 (rz_o1 (pl_ne e_151 e_149 (by intro h9; simp at h9))) (rz_in (by simp))) (cwV 0 hts gX4_readEither_X6_advance rfl rfl rfl (by decide +kernel) ⟨Nat.le_of_ble_eq_true rfl, Nat.le_of_ble_eq_true rfl⟩) ⟨fun a U g mk q => by obtain ⟨q0, q1, qP, qK, qD⟩ := q; exact ⟨q0, q1, qP, va_K.moved (u := U) (U := U.calling g mk a) (Vm.Alike.refl U.vm) qK, qD⟩, va_recv hK hP (ci := 6) (q0 := ktp) rfl e_149, fun U hU hW => ⟨rfl, by rw [hU], by rw [hU]; exact hP, va_K.moved hW.alike hK, hD.weaken (fun _ _ _ _ => trivial)⟩⟩ rfl rfl hl.1 rfl (lv_room (Nat.le_of_ble_eq_true rfl)) dX4_readEither_75 ⟨Nat.le_of_ble_eq_true rfl, Nat.le_of_ble_eq_true rfl⟩) hS (fun q _ h => hFc q h) hFc (fun u t H1 locs ht hvm w_269 hB hz1 hk1 hS => ?_)
    obtain ⟨ws_270, ty_271, hm_272, ht_274, hP1, hK1, hD1, hx_273⟩ := hB
    rw [ht] at hP1
    have hK := va_K.moved hvm.symm hK1
    have hD := hD1.weaken (fun _ _ _ h => hFc _ h)
    generalize H1 = H at hP1 hS ⊢
    have hP := hP1
    have e_275 := hm_272.keep (rz_o1 (pl_ne e_148 e_149 (by intro h9; simp at h9))) e_148
    have e_276 := hm_272.keep (rz_o1 (pl_ne e_150 e_149 (by intro h9; simp at h9))) e_150
    have e_277 := hm_272.keep (rz_o1 (pl_ne e_151 e_149 (by intro h9; simp at h9))) e_151
    have u_278 := ht_274 _ _ u_152
    have u_279 := ht_274 _ _ u_153
    have hm_280 : sm ρ [6] ws_143 ws_270 := hm_272.up (fun k _ h => rz_u1 wt_109 k h)
    have hsm := hsm.tr (hm_280.mono (by decide))
    have hlp_58 := hlp_58.tr (hm_280.mono (by decide))
    have htx := htx.tr ht_274
    have e_281 : ws_270[ktp]? = some (tp, .inr (6, [.int (nI tl), .int (nI (kdF f9 tl (nxF f9 tl b_81))), .int (nI (nxF f9 tl b_81)), .int (nI (teF f9 tl (nxF f9 tl b_81))), .ref bb])) := hx_273; have hq_282 : pcB f9 tl (nxF f9 tl b_81) := nxF_pc (f := f9) hp_104.1; have hq_2821 := hq_282.1; have hq_282t := teF_le (f := f9) hq_282.1; have hg_283 := nx_gain (f := f9) hp_104.1
    refine lv_aload_n hx hb dX4_readEither_78 rfl (lv_at hl 5 rfl) ?_
    refine lv_iload_n hx hb dX4_readEither_79 rfl (lv_at hl 4 rfl) ?_
    have hFc := free_all hD hS hA
    refine va_calli (va_runV (As := [.int 2]) (rest := []) ⟨hx, hb, hml, hown, hts⟩ (r_readOne2 l D ρ ws_270 ty_271 adK adV fo f9 rd krd tp ktp cd bb tl (nxF f9 tl b_81) (T_83 ++ eA ta_82) nk fr fk fp vl_84 (2 :: jA ta_82) H.size htl hng (⟨kc_96, cc_97, tc_98, fc_99, kb_100, cb_101, tb_102, fb_103, hq_282, hT_105, e_275, e_281, wr_108, wt_109, e_276, u_278, wc_112, hc_113, e_277, u_279, wb_116, hb_117⟩ : RSX ρ ws_270 ty_271 f9 rd krd tp ktp cd bb tl (nxF f9 tl b_81) (T_83 ++ eA ta_82) nk fr fk fp vl_84) (hdq.trans hdp) (by omega)) (cwV 1 hts gX4_readEither_X4_readOne rfl rfl rfl (by decide +kernel) ⟨Nat.le_of_ble_eq_true rfl, Nat.le_of_ble_eq_true rfl⟩) ⟨fun a U g mk q => by obtain ⟨q0, q1, qP, qK, qD, qS⟩ := q; exact ⟨q0, q1, qP, va_K.moved (u := U) (U := U.calling g mk a) (Vm.Alike.refl U.vm) qK, qD, SZ.same rfl rfl qS⟩, va_recv hK hP (ci := 4) (q0 := krd) rfl e_275, fun U hU hW => ⟨rfl, by rw [hU], by rw [hU]; exact hP, va_K.moved hW.alike hK, hD.weaken (fun _ _ _ _ => trivial), hsz9.go hS hW hU hFc⟩⟩ rfl rfl hl.1 rfl (lv_room (Nat.le_of_ble_eq_true rfl)) dX4_readEither_80 ⟨Nat.le_of_ble_eq_true rfl, Nat.le_of_ble_eq_true rfl⟩) hS (fun q _ h => hFc q h) hFc (fun r_284 u t H1 locs ht hvm w_285 hB hz1 hk1 hS => ?_)
    subst w_285
    obtain ⟨ws_286, ty_287, hm_288, ht_290, hP1, hK1, hD1, hx_289⟩ := hB
    rw [ht] at hP1
    have hK := va_K.moved hvm.symm hK1
    have hD := hD1.weaken (fun _ _ _ h => hFc _ h)
    generalize H1 = H at hP1 hS ⊢
    have hP := hP1
    obtain ⟨g_292, e_291, h_293⟩ := hm_288.obj e_275
    obtain ⟨z_294, z_295, z_296, z_297, z_298, z_299, rfl⟩ := smX4 h_293
    obtain ⟨g_301, e_300, h_302⟩ := hm_288.obj e_281
    obtain ⟨z_303, z_304, z_305, z_306, rfl⟩ := smX6 h_302
    obtain ⟨f_308, e_307⟩ := hm_288.arrI e_276
    have u_309 := ht_290 _ _ u_278
    have e_310 := hm_288.keep (by rw [wb_116]; omega) e_277
    have u_311 := ht_290 _ _ u_279
    have hsm := hsm.tr (hm_288.mono (by decide))
    have hlp_58 := hlp_58.tr (hm_288.mono (by decide))
    have htx := htx.tr ht_290
    rcases hx_289 with ⟨rfl, k_312, p_313, ts_314, T_315, vl_316, hk_317, hk_318, hr_319, hR_320⟩ | ⟨rfl, b_321, T_315, vl_316, hr_319, hg_325, hg_326, hR_320⟩
    · obtain ⟨kc_327, cc_328, tc_329, fc_330, kb_331, cb_332, tb_333, fb_334, hp_335, hT_336, er_337, et_338, wr_339, wt_340, ec_341, uc_342, wc_343, hc_344, eb_345, ub_346, wb_347, hb_348⟩ := id hR_320
      have hp_3351 := hp_335.1
      have hp_335t := teF_le (f := f9) hp_335.1
      refine lv_istore_n (lv' := [(2, .int 0), (3, .int 0), (5, .int 1), (4, .int (nI i_52)), (1, .int 2), (0, .ref rd)]) hx hb dX4_readEither_83 rfl hl (by decide) rfl (fun ls hl => ?_)
      refine lv_iload hx hb dX4_readEither_84 (lv_at hl 2 rfl) ?_
      refine lv_if_eq (tgt := 95) hx hb dX4_readEither_86 (by decide) (fun c_349 => absurd c_349 (by decide)) (fun c_349 => ?_)
      refine lv_aload_n hx hb dX4_readEither_89 rfl (lv_at hl 5 rfl) ?_
      refine lv_bipush (v := (-2)) hx hb dX4_readEither_90 (by decide) ?_
      have hFc := free_all hD hS hA
      refine va_callv (va_runV (As := [.int (-2)]) (rest := []) ⟨hx, hb, hml, hown, hts⟩ (r_addCode l D ρ ws_286 ty_287 adK adV fo f9 rd krd tp ktp cd bb tl ts_314 T_315 nk fr (nI k_312) (nI p_313) vl_316 (2, 0, 0, 0) (-2) H.size htl hng (⟨kc_327, cc_328, tc_329, fc_330, kb_331, cb_332, tb_333, fb_334, hp_335, hT_336, er_337, et_338, wr_339, wt_340, ec_341, uc_342, wc_343, hc_344, eb_345, ub_346, wb_347, hb_348⟩ : RSX ρ ws_286 ty_287 f9 rd krd tp ktp cd bb tl ts_314 T_315 nk fr (nI k_312) (nI p_313) vl_316) rfl) (cwV 1 hts gX4_readEither_X4_addCode rfl rfl rfl (by decide +kernel) ⟨Nat.le_of_ble_eq_true rfl, Nat.le_of_ble_eq_true rfl⟩) ⟨fun a U g mk q => by obtain ⟨q0, q1, qP, qK, qD, qS⟩ := q; exact ⟨q0, q1, qP, va_K.moved (u := U) (U := U.calling g mk a) (Vm.Alike.refl U.vm) qK, qD, SZ.same rfl rfl qS⟩, va_recv hK hP (ci := 4) (q0 := krd) rfl er_337, fun U hU hW => ⟨rfl, by rw [hU], by rw [hU]; exact hP, va_K.moved hW.alike hK, hD.weaken (fun _ _ _ _ => trivial), hsz9.go hS hW hU hFc⟩⟩ rfl rfl hl.1 rfl (lv_room (Nat.le_of_ble_eq_true rfl)) dX4_readEither_92 ⟨Nat.le_of_ble_eq_true rfl, Nat.le_of_ble_eq_true rfl⟩) hS (fun q _ h => hFc q h) hFc (fun u t H1 locs ht hvm w_351 hB hz1 hk1 hS => ?_)
      obtain ⟨ws_352, ty_353, hm_354, ht_356, hP1, hK1, hD1, hx_355⟩ := hB
      rw [ht] at hP1
      have hK := va_K.moved hvm.symm hK1
      have hD := hD1.weaken (fun _ _ _ h => hFc _ h)
      generalize H1 = H at hP1 hS ⊢
      have hP := hP1
      obtain ⟨g_358, e_357, h_359⟩ := hm_354.obj er_337
      obtain ⟨z_360, z_361, z_362, z_363, z_364, z_365, rfl⟩ := smX4 h_359
      obtain ⟨g_367, e_366, h_368⟩ := hm_354.obj et_338
      obtain ⟨z_369, z_370, z_371, z_372, rfl⟩ := smX6 h_368
      obtain ⟨f_374, e_373⟩ := hm_354.arrI ec_341
      have u_375 := ht_356 _ _ uc_342
      have e_376 := hm_354.keep (by rw [wb_347]; omega) eb_345
      have u_377 := ht_356 _ _ ub_346
      have hsm := hsm.tr (hm_354.mono (by decide))
      have hlp_58 := hlp_58.tr (hm_354.mono (by decide))
      have htx := htx.tr ht_356
      rcases hx_355 with ⟨hl_378, hR_379⟩ | ⟨hl_378, hR_379⟩
      · obtain ⟨kc_380, cc_381, tc_382, fc_383, kb_384, cb_385, tb_386, fb_387, hp_388, hT_389, er_390, et_391, wr_392, wt_393, ec_394, uc_395, wc_396, hc_397, eb_398, ub_399, wb_400, hb_401⟩ := id hR_379
        have hp_3881 := hp_388.1
        have hp_388t := teF_le (f := f9) hp_388.1
        refine lv_iinc (v := nI (i_52 + 1)) (lv' := [(4, .int (nI (i_52 + 1))), (2, .int 0), (3, .int 0), (5, .int 1), (1, .int 2), (0, .ref rd)]) hx hb dX4_readEither_95 hl (k := 3) rfl (nI_add i_52 1) (by decide) rfl (fun ls hl => ?_)
        refine lv_goto (tgt := 11) hx hb dX4_readEither_98 (by decide) ?_
        exact ih_51 (i_52 + 1, 0, 0) ws_352 _ _ ls (by show 400 - (i_52 + 1) < 400 - i_52; omega) ⟨hlp_58, ⟨ty_353, hK, htx, Or.inr ⟨rfl, Or.inl rfl, (⟨k_312, p_313, _, _, _, by omega, by omega, hm9.tr hr_319, (⟨kc_380, cc_381, tc_382, fc_383, kb_384, cb_385, tb_386, fb_387, hp_388, hT_389, er_390, et_391, wr_392, wt_393, ec_394, uc_395, wc_396, hc_397, eb_398, ub_399, wb_400, hb_401⟩ : RSX ρ ws_352 ty_353 f9 rd krd tp ktp cd bb tl ts_314 (T_315 ++ [(2, 0, 0, 0)]) nk fr (nI k_312) (nI p_313) vl_316)⟩ : FLT ρ ws_352 ty_353 f9 rd krd tp ktp cd bb tl (0, ts, σ, T) nk fr)⟩⟩, (show (i_52 + 1) ≤ 400 from by omega)⟩ hP hD hS (lv_sub hl [0, 1, 2, 4, 5] rfl)
      obtain ⟨kc_402, cc_403, tc_404, fc_405, kb_406, cb_407, tb_408, fb_409, hp_410, hT_411, er_412, et_413, wr_414, wt_415, ec_416, uc_417, wc_418, hc_419, eb_420, ub_421, wb_422, hb_423⟩ := id hR_379
      have hp_4101 := hp_410.1
      have hp_410t := teF_le (f := f9) hp_410.1
      refine lv_iinc (v := nI (i_52 + 1)) (lv' := [(4, .int (nI (i_52 + 1))), (2, .int 0), (3, .int 0), (5, .int 1), (1, .int 2), (0, .ref rd)]) hx hb dX4_readEither_95 hl (k := 3) rfl (nI_add i_52 1) (by decide) rfl (fun ls hl => ?_)
      refine lv_goto (tgt := 11) hx hb dX4_readEither_98 (by decide) ?_
      exact ih_51 (i_52 + 1, 0, 0) ws_352 _ _ ls (by show 400 - (i_52 + 1) < 400 - i_52; omega) ⟨hlp_58, ⟨ty_353, hK, htx, Or.inr ⟨rfl, Or.inl rfl, (⟨k_312, p_313, _, _, _, by omega, by omega, hm9.tr hr_319, (⟨kc_402, cc_403, tc_404, fc_405, kb_406, cb_407, tb_408, fb_409, hp_410, hT_411, er_412, et_413, wr_414, wt_415, ec_416, uc_417, wc_418, hc_419, eb_420, ub_421, wb_422, hb_423⟩ : RSX ρ ws_352 ty_353 f9 rd krd tp ktp cd bb tl ts_314 T_315 nk fr (nI k_312) (nI p_313) vl_316)⟩ : FLT ρ ws_352 ty_353 f9 rd krd tp ktp cd bb tl (0, ts, σ, T) nk fr)⟩⟩, (show (i_52 + 1) ≤ 400 from by omega)⟩ hP hD hS (lv_sub hl [0, 1, 2, 4, 5] rfl)
    obtain ⟨kc_424, cc_425, tc_426, fc_427, kb_428, cb_429, tb_430, fb_431, hp_432, hT_433, er_434, et_435, wr_436, wt_437, ec_438, uc_439, wc_440, hc_441, eb_442, ub_443, wb_444, hb_445⟩ := id hR_320
    have hp_4321 := hp_432.1
    have hp_432t := teF_le (f := f9) hp_432.1
    refine lv_istore_n (lv' := [(2, .int 1), (3, .int 0), (5, .int 1), (4, .int (nI i_52)), (1, .int 2), (0, .ref rd)]) hx hb dX4_readEither_83 rfl hl (by decide) rfl (fun ls hl => ?_)
    refine lv_iload hx hb dX4_readEither_84 (lv_at hl 2 rfl) ?_
    refine lv_if_eq (tgt := 95) hx hb dX4_readEither_86 (by decide) (fun c_446 => absurd c_446 (by decide)) (fun c_446 => ?_)
    refine lv_aload_n hx hb dX4_readEither_89 rfl (lv_at hl 5 rfl) ?_
    refine lv_bipush (v := (-2)) hx hb dX4_readEither_90 (by decide) ?_
    have hFc := free_all hD hS hA
    refine va_callv (va_runV (As := [.int (-2)]) (rest := []) ⟨hx, hb, hml, hown, hts⟩ (r_addCode l D ρ ws_286 ty_287 adK adV fo f9 rd krd tp ktp cd bb tl b_321 T_315 nk fr fk fp vl_316 (2, 0, 0, 0) (-2) H.size htl hng (⟨kc_424, cc_425, tc_426, fc_427, kb_428, cb_429, tb_430, fb_431, hp_432, hT_433, er_434, et_435, wr_436, wt_437, ec_438, uc_439, wc_440, hc_441, eb_442, ub_443, wb_444, hb_445⟩ : RSX ρ ws_286 ty_287 f9 rd krd tp ktp cd bb tl b_321 T_315 nk fr fk fp vl_316) rfl) (cwV 1 hts gX4_readEither_X4_addCode rfl rfl rfl (by decide +kernel) ⟨Nat.le_of_ble_eq_true rfl, Nat.le_of_ble_eq_true rfl⟩) ⟨fun a U g mk q => by obtain ⟨q0, q1, qP, qK, qD, qS⟩ := q; exact ⟨q0, q1, qP, va_K.moved (u := U) (U := U.calling g mk a) (Vm.Alike.refl U.vm) qK, qD, SZ.same rfl rfl qS⟩, va_recv hK hP (ci := 4) (q0 := krd) rfl er_434, fun U hU hW => ⟨rfl, by rw [hU], by rw [hU]; exact hP, va_K.moved hW.alike hK, hD.weaken (fun _ _ _ _ => trivial), hsz9.go hS hW hU hFc⟩⟩ rfl rfl hl.1 rfl (lv_room (Nat.le_of_ble_eq_true rfl)) dX4_readEither_92 ⟨Nat.le_of_ble_eq_true rfl, Nat.le_of_ble_eq_true rfl⟩) hS (fun q _ h => hFc q h) hFc (fun u t H1 locs ht hvm w_448 hB hz1 hk1 hS => ?_)
    obtain ⟨ws_449, ty_450, hm_451, ht_453, hP1, hK1, hD1, hx_452⟩ := hB
    rw [ht] at hP1
    have hK := va_K.moved hvm.symm hK1
    have hD := hD1.weaken (fun _ _ _ h => hFc _ h)
    generalize H1 = H at hP1 hS ⊢
    have hP := hP1
    obtain ⟨g_455, e_454, h_456⟩ := hm_451.obj er_434
    obtain ⟨z_457, z_458, z_459, z_460, z_461, z_462, rfl⟩ := smX4 h_456
    obtain ⟨g_464, e_463, h_465⟩ := hm_451.obj et_435
    obtain ⟨z_466, z_467, z_468, z_469, rfl⟩ := smX6 h_465
    obtain ⟨f_471, e_470⟩ := hm_451.arrI ec_438
    have u_472 := ht_453 _ _ uc_439
    have e_473 := hm_451.keep (by rw [wb_444]; omega) eb_442
    have u_474 := ht_453 _ _ ub_443
    have hsm := hsm.tr (hm_451.mono (by decide))
    have hlp_58 := hlp_58.tr (hm_451.mono (by decide))
    have htx := htx.tr ht_453
    obtain ⟨hl_475, hR_476⟩ := hx_452.resolve_right (fun h9 => h9.1 (by omega))
    obtain ⟨kc_477, cc_478, tc_479, fc_480, kb_481, cb_482, tb_483, fb_484, hp_485, hT_486, er_487, et_488, wr_489, wt_490, ec_491, uc_492, wc_493, hc_494, eb_495, ub_496, wb_497, hb_498⟩ := id hR_476
    have hp_4851 := hp_485.1
    have hp_485t := teF_le (f := f9) hp_485.1
    refine lv_iinc (v := nI (i_52 + 1)) (lv' := [(4, .int (nI (i_52 + 1))), (2, .int 1), (3, .int 0), (5, .int 1), (1, .int 2), (0, .ref rd)]) hx hb dX4_readEither_95 hl (k := 3) rfl (nI_add i_52 1) (by decide) rfl (fun ls hl => ?_)
    refine lv_goto (tgt := 11) hx hb dX4_readEither_98 (by decide) ?_
    exact ih_51 (i_52 + 1, 1, 0) ws_449 _ _ ls (by show 400 - (i_52 + 1) < 400 - i_52; omega) ⟨hlp_58, ⟨ty_450, hK, htx, Or.inl ⟨rfl, Or.inl rfl, (⟨b_321, 2 :: jA ta_82, T_315, _, hm9.tr (rch_an (by omega) hr_319), ow_and hbs ow_86, by omega, fun h9 => absurd h9 (by decide), fun _ => by rw [eA_2jA, len_a1]; omega, by rw [eA_2jA]; exact (⟨kc_477, cc_478, tc_479, fc_480, kb_481, cb_482, tb_483, fb_484, hp_485, hT_486, er_487, et_488, wr_489, wt_490, ec_491, uc_492, wc_493, hc_494, eb_495, ub_496, wb_497, hb_498⟩ : RSX ρ ws_449 ty_450 f9 rd krd tp ktp cd bb tl b_321 (T_315 ++ [(2, 0, 0, 0)]) nk fr fk fp vl_316)⟩ : LPE ρ ws_449 ty_450 f9 rd krd tp ktp cd bb tl ts σ T nk fr fk fp (i_52 + 1) 0)⟩⟩, (show (i_52 + 1) ≤ 400 from by omega)⟩ hP hD hS (lv_sub hl [0, 1, 2, 4, 5] rfl)
  · have ga_88 := ga_88 rfl
    obtain ⟨kc_499, cc_500, tc_501, fc_502, kb_503, cb_504, tb_505, fb_506, hp_507, hT_508, er_509, et_510, wr_511, wt_512, ec_513, uc_514, wc_515, hc_516, eb_517, ub_518, wb_519, hb_520⟩ := id hR_90
    have hp_5071 := hp_507.1
    have hp_507t := teF_le (f := f9) hp_507.1
    refine lv_sipush (v := 400) hx hb dX4_readEither_13 (by decide) ?_
    refine lv_icmp_ge (tgt := 101) hx hb dX4_readEither_16 (by decide) (fun c_521 => ?_) (fun c_521 => ?_)
    · have d_522 := n_le (a := 400) (b := i_52) (by omega) (by omega) c_521
      refine lv_iload_n hx hb dX4_readEither_101 rfl (lv_at hl 2 rfl) ?_
      refine lv_if_eq (tgt := 111) hx hb dX4_readEither_102 (by decide) (fun c_523 => absurd c_523 (by decide)) (fun c_523 => ?_)
      refine lv_aload_n hx hb dX4_readEither_105 rfl (lv_at hl 4 rfl) ?_
      refine lv_bipush (v := (-3)) hx hb dX4_readEither_106 (by decide) ?_
      have hFc := free_all hD hS hA
      refine va_callv (va_runV (As := [.int (-3)]) (rest := []) ⟨hx, hb, hml, hown, hts⟩ (r_addCode l D ρ ws_56 ty_79 adK adV fo f9 rd krd tp ktp cd bb tl b_81 (T_83 ++ eA ta_82) nk fr fk fp vl_84 (1, 0, 0, 0) (-3) H.size htl hng (⟨kc_499, cc_500, tc_501, fc_502, kb_503, cb_504, tb_505, fb_506, hp_507, hT_508, er_509, et_510, wr_511, wt_512, ec_513, uc_514, wc_515, hc_516, eb_517, ub_518, wb_519, hb_520⟩ : RSX ρ ws_56 ty_79 f9 rd krd tp ktp cd bb tl b_81 (T_83 ++ eA ta_82) nk fr fk fp vl_84) rfl) (cwV 1 hts gX4_readEither_X4_addCode rfl rfl rfl (by decide +kernel) ⟨Nat.le_of_ble_eq_true rfl, Nat.le_of_ble_eq_true rfl⟩) ⟨fun a U g mk q => by obtain ⟨q0, q1, qP, qK, qD, qS⟩ := q; exact ⟨q0, q1, qP, va_K.moved (u := U) (U := U.calling g mk a) (Vm.Alike.refl U.vm) qK, qD, SZ.same rfl rfl qS⟩, va_recv hK hP (ci := 4) (q0 := krd) rfl er_509, fun U hU hW => ⟨rfl, by rw [hU], by rw [hU]; exact hP, va_K.moved hW.alike hK, hD.weaken (fun _ _ _ _ => trivial), hsz9.go hS hW hU hFc⟩⟩ rfl rfl hl.1 rfl (lv_room (Nat.le_of_ble_eq_true rfl)) dX4_readEither_108 ⟨Nat.le_of_ble_eq_true rfl, Nat.le_of_ble_eq_true rfl⟩) hS (fun q _ h => hFc q h) hFc (fun u t H1 locs ht hvm w_525 hB hz1 hk1 hS => ?_)
      obtain ⟨ws_526, ty_527, hm_528, ht_530, hP1, hK1, hD1, hx_529⟩ := hB
      rw [ht] at hP1
      have hK := va_K.moved hvm.symm hK1
      have hD := hD1.weaken (fun _ _ _ h => hFc _ h)
      generalize H1 = H at hP1 hS ⊢
      have hP := hP1
      obtain ⟨g_532, e_531, h_533⟩ := hm_528.obj er_509
      obtain ⟨z_534, z_535, z_536, z_537, z_538, z_539, rfl⟩ := smX4 h_533
      obtain ⟨g_541, e_540, h_542⟩ := hm_528.obj et_510
      obtain ⟨z_543, z_544, z_545, z_546, rfl⟩ := smX6 h_542
      obtain ⟨f_548, e_547⟩ := hm_528.arrI ec_513
      have u_549 := ht_530 _ _ uc_514
      have e_550 := hm_528.keep (by rw [wb_519]; omega) eb_517
      have u_551 := ht_530 _ _ ub_518
      have hsm := hsm.tr (hm_528.mono (by decide))
      have hlp_58 := hlp_58.tr (hm_528.mono (by decide))
      have htx := htx.tr ht_530
      rcases hx_529 with ⟨hl_552, hR_553⟩ | ⟨hl_552, hR_553⟩
      · obtain ⟨kc_554, cc_555, tc_556, fc_557, kb_558, cb_559, tb_560, fb_561, hp_562, hT_563, er_564, et_565, wr_566, wt_567, ec_568, uc_569, wc_570, hc_571, eb_572, ub_573, wb_574, hb_575⟩ := id hR_553
        have hp_5621 := hp_562.1
        have hp_562t := teF_le (f := f9) hp_562.1
        refine lv_iload_n hx hb dX4_readEither_111 rfl (lv_at hl 1 rfl) ?_
        exact W.zret (v := 1) hx hb hr rfl (fun t ht hW => ⟨⟨1, 1, rfl, rfl, ws_526, ty_527, hsm, htx, by rw [ht]; exact hP, va_K.moved hW.alike hK, hD, (by exfalso; omega)⟩, hS.F ht⟩) hS.2.2 dX4_readEither_112
      obtain ⟨kc_576, cc_577, tc_578, fc_579, kb_580, cb_581, tb_582, fb_583, hp_584, hT_585, er_586, et_587, wr_588, wt_589, ec_590, uc_591, wc_592, hc_593, eb_594, ub_595, wb_596, hb_597⟩ := id hR_553
      have hp_5841 := hp_584.1
      have hp_584t := teF_le (f := f9) hp_584.1
      refine lv_iload_n hx hb dX4_readEither_111 rfl (lv_at hl 1 rfl) ?_
      exact W.zret (v := 1) hx hb hr rfl (fun t ht hW => ⟨⟨1, 1, rfl, rfl, ws_526, ty_527, hsm, htx, by rw [ht]; exact hP, va_K.moved hW.alike hK, hD, (by exfalso; omega)⟩, hS.F ht⟩) hS.2.2 dX4_readEither_112
    have d_598 := n_nle (a := 400) (b := i_52) (by omega) (by omega) c_521
    refine lv_iload_n hx hb dX4_readEither_19 rfl (lv_at hl 1 rfl) ?_
    refine lv_if_eq (tgt := 101) hx hb dX4_readEither_20 (by decide) (fun c_599 => absurd c_599 (by decide)) (fun c_599 => ?_)
    refine lv_aload_n hx hb dX4_readEither_23 rfl (lv_at hl 4 rfl) ?_
    have hFc := free_all hD hS hA
    refine va_calli (va_runV (As := []) (rest := []) ⟨hx, hb, hml, hown, hts⟩ (r_isAndOr l D (rz []) ws_56 ty_79 adK adV fo f9 rd krd tp ktp cd tl b_81 nk fr fk fp (nI (T_83 ++ eA ta_82).length) vl_84 bb kb_503 cb_504 tb_505 fb_506 H.size er_509 htl hb_520 hng hp_507 et_510 eb_517 ub_518 rz_o0) (cwV 0 hts gX4_readEither_X4_isAndOr rfl rfl rfl (by decide +kernel) ⟨Nat.le_of_ble_eq_true rfl, Nat.le_of_ble_eq_true rfl⟩) ⟨fun a U g mk q => by obtain ⟨q0, q1, qP, qK, qD, qS⟩ := q; exact ⟨q0, q1, qP, va_K.moved (u := U) (U := U.calling g mk a) (Vm.Alike.refl U.vm) qK, qD, SZ.same rfl rfl qS⟩, va_recv hK hP (ci := 4) (q0 := krd) rfl er_509, fun U hU hW => ⟨rfl, by rw [hU], by rw [hU]; exact hP, va_K.moved hW.alike hK, hD.weaken (fun _ _ _ _ => trivial), hsz9.go hS hW hU hFc⟩⟩ rfl rfl hl.1 rfl (lv_room (Nat.le_of_ble_eq_true rfl)) dX4_readEither_24 ⟨Nat.le_of_ble_eq_true rfl, Nat.le_of_ble_eq_true rfl⟩) hS (fun q _ h => hFc q h) hFc (fun r_600 u t H1 locs ht hvm w_601 hB hz1 hk1 hS => ?_)
    obtain ⟨ws_602, ty_603, hm_604, ht_606, hP1, hK1, hD1, hx_605⟩ := hB
    rw [ht] at hP1
    have hK := va_K.moved hvm.symm hK1
    have hD := hD1.weaken (fun _ _ _ h => hFc _ h)
    generalize H1 = H at hP1 hS ⊢
    have hP := hP1
    have e_607 := hm_604.keep rz_o0 er_509
    have e_608 := hm_604.keep rz_o0 et_510
    have e_609 := hm_604.keep rz_o0 ec_513
    have e_610 := hm_604.keep rz_o0 eb_517
    have u_611 := ht_606 _ _ uc_514
    have u_612 := ht_606 _ _ ub_518
    have hm_613 : sm ρ [] ws_56 ws_602 := hm_604.up (fun k _ h => rz_u0  k h)
    have hsm := hsm.tr (hm_613.mono (by decide))
    have hlp_58 := hlp_58.tr (hm_613.mono (by decide))
    have htx := htx.tr ht_606
    rcases w_601 with ⟨rfl, ao_614⟩ | ⟨rfl, ao_614⟩
    · refine lv_if_eq (tgt := 101) hx hb dX4_readEither_27 (by decide) (fun c_615 => ?_) (fun c_615 => absurd (by decide) c_615)
      refine lv_iload_n hx hb dX4_readEither_101 rfl (lv_at hl 2 rfl) ?_
      refine lv_if_eq (tgt := 111) hx hb dX4_readEither_102 (by decide) (fun c_616 => absurd c_616 (by decide)) (fun c_616 => ?_)
      refine lv_aload_n hx hb dX4_readEither_105 rfl (lv_at hl 4 rfl) ?_
      refine lv_bipush (v := (-3)) hx hb dX4_readEither_106 (by decide) ?_
      have hFc := free_all hD hS hA
      refine va_callv (va_runV (As := [.int (-3)]) (rest := []) ⟨hx, hb, hml, hown, hts⟩ (r_addCode l D ρ ws_602 ty_603 adK adV fo f9 rd krd tp ktp cd bb tl b_81 (T_83 ++ eA ta_82) nk fr fk fp vl_84 (1, 0, 0, 0) (-3) H.size htl hng (⟨kc_499, cc_500, tc_501, fc_502, kb_503, cb_504, tb_505, fb_506, hp_507, hT_508, e_607, e_608, wr_511, wt_512, e_609, u_611, wc_515, hc_516, e_610, u_612, wb_519, hb_520⟩ : RSX ρ ws_602 ty_603 f9 rd krd tp ktp cd bb tl b_81 (T_83 ++ eA ta_82) nk fr fk fp vl_84) rfl) (cwV 1 hts gX4_readEither_X4_addCode rfl rfl rfl (by decide +kernel) ⟨Nat.le_of_ble_eq_true rfl, Nat.le_of_ble_eq_true rfl⟩) ⟨fun a U g mk q => by obtain ⟨q0, q1, qP, qK, qD, qS⟩ := q; exact ⟨q0, q1, qP, va_K.moved (u := U) (U := U.calling g mk a) (Vm.Alike.refl U.vm) qK, qD, SZ.same rfl rfl qS⟩, va_recv hK hP (ci := 4) (q0 := krd) rfl e_607, fun U hU hW => ⟨rfl, by rw [hU], by rw [hU]; exact hP, va_K.moved hW.alike hK, hD.weaken (fun _ _ _ _ => trivial), hsz9.go hS hW hU hFc⟩⟩ rfl rfl hl.1 rfl (lv_room (Nat.le_of_ble_eq_true rfl)) dX4_readEither_108 ⟨Nat.le_of_ble_eq_true rfl, Nat.le_of_ble_eq_true rfl⟩) hS (fun q _ h => hFc q h) hFc (fun u t H1 locs ht hvm w_618 hB hz1 hk1 hS => ?_)
      obtain ⟨ws_619, ty_620, hm_621, ht_623, hP1, hK1, hD1, hx_622⟩ := hB
      rw [ht] at hP1
      have hK := va_K.moved hvm.symm hK1
      have hD := hD1.weaken (fun _ _ _ h => hFc _ h)
      generalize H1 = H at hP1 hS ⊢
      have hP := hP1
      obtain ⟨g_625, e_624, h_626⟩ := hm_621.obj e_607
      obtain ⟨z_627, z_628, z_629, z_630, z_631, z_632, rfl⟩ := smX4 h_626
      obtain ⟨g_634, e_633, h_635⟩ := hm_621.obj e_608
      obtain ⟨z_636, z_637, z_638, z_639, rfl⟩ := smX6 h_635
      obtain ⟨f_641, e_640⟩ := hm_621.arrI e_609
      have u_642 := ht_623 _ _ u_611
      have e_643 := hm_621.keep (by rw [wb_519]; omega) e_610
      have u_644 := ht_623 _ _ u_612
      have hsm := hsm.tr (hm_621.mono (by decide))
      have hlp_58 := hlp_58.tr (hm_621.mono (by decide))
      have htx := htx.tr ht_623
      obtain ⟨hl_645, hR_646⟩ := hx_622.resolve_right (fun h9 => h9.1 (by omega))
      obtain ⟨kc_647, cc_648, tc_649, fc_650, kb_651, cb_652, tb_653, fb_654, hp_655, hT_656, er_657, et_658, wr_659, wt_660, ec_661, uc_662, wc_663, hc_664, eb_665, ub_666, wb_667, hb_668⟩ := id hR_646
      have hp_6551 := hp_655.1
      have hp_655t := teF_le (f := f9) hp_655.1
      refine lv_iload_n hx hb dX4_readEither_111 rfl (lv_at hl 1 rfl) ?_
      exact W.zret (v := 1) hx hb hr rfl (fun t ht hW => ⟨⟨1, 1, rfl, rfl, ws_619, ty_620, hsm, htx, by rw [ht]; exact hP, va_K.moved hW.alike hK, hD, Or.inr ⟨rfl, b_81, ta_82, T_83, _, hr_85, ow_jO hbs ow_86, ao_614, by omega, by rw [(ow_eO hbs ow_86).2 rfl, ← List.append_assoc, len_a1]; omega, by rw [(ow_eO hbs ow_86).2 rfl, ← List.append_assoc]; exact (⟨kc_647, cc_648, tc_649, fc_650, kb_651, cb_652, tb_653, fb_654, hp_655, hT_656, er_657, et_658, wr_659, wt_660, ec_661, uc_662, wc_663, hc_664, eb_665, ub_666, wb_667, hb_668⟩ : RSX ρ ws_619 ty_620 f9 rd krd tp ktp cd bb tl b_81 ((T_83 ++ eA ta_82) ++ [(1, 0, 0, 0)]) nk fr fk fp vl_84)⟩⟩, hS.F ht⟩) hS.2.2 dX4_readEither_112
    refine lv_if_eq (tgt := 101) hx hb dX4_readEither_27 (by decide) (fun c_669 => absurd c_669 (by decide)) (fun c_669 => ?_)
    refine lv_aload_n hx hb dX4_readEither_30 rfl (lv_at hl 4 rfl) ?_
    refine va_get (D := D) (ci := 4) (v := .ref tp) (C := RX4) (T := TX4) (N := 8) hx hb hts hin4 hown hK hP krd e_607 rfl 0 (by decide) (hts (.fieldLink RX4 12 "HoneyHouse$RuleReader" "tape" "LHoneyHouse$Tape;") (List.mem_of_getElem? (i := 1) rfl)) (fun _ h9 => h9) rfl dX4_readEither_31 ?_
    refine va_ldcS hx hb hown hsz9.2.2.2.2.2.1 dX4_readEither_34 ?_
    have hFc := free_all hD hS hA
    refine va_calli (va_runV (As := [.ref (adK 2)]) (rest := []) ⟨hx, hb, hml, hown, hts⟩ (a_isWord l D (rz []) ws_602 ty_603 adK adV fo 2 f9 tp ktp tl b_81 bb kb_503 cb_504 tb_505 fb_506 H.size (by decide) htl hb_520 hng hp_507 e_608 e_610 u_612 rz_o0) (cwV 1 hts gX4_readEither_X6_isWord rfl rfl rfl (by decide +kernel) ⟨Nat.le_of_ble_eq_true rfl, Nat.le_of_ble_eq_true rfl⟩) ⟨fun a U g mk q => by obtain ⟨q0, q1, qP, qK, qD, qS⟩ := q; exact ⟨q0, q1, qP, va_K.moved (u := U) (U := U.calling g mk a) (Vm.Alike.refl U.vm) qK, qD, SZ.same rfl rfl qS⟩, va_recv hK hP (ci := 6) (q0 := ktp) rfl e_608, fun U hU hW => ⟨rfl, by rw [hU], by rw [hU]; exact hP, va_K.moved hW.alike hK, hD.weaken (fun _ _ _ _ => trivial), hsz9.go hS hW hU hFc⟩⟩ rfl rfl hl.1 rfl (lv_room (Nat.le_of_ble_eq_true rfl)) dX4_readEither_36 ⟨Nat.le_of_ble_eq_true rfl, Nat.le_of_ble_eq_true rfl⟩) hS (fun q _ h => hFc q h) hFc (fun r_670 u t H1 locs ht hvm w_671 hB hz1 hk1 hS => ?_)
    obtain ⟨ws_672, ty_673, hm_674, ht_676, hP1, hK1, hD1, hx_675⟩ := hB
    rw [ht] at hP1
    have hK := va_K.moved hvm.symm hK1
    have hD := hD1.weaken (fun _ _ _ h => hFc _ h)
    generalize H1 = H at hP1 hS ⊢
    have hP := hP1
    have e_677 := hm_674.keep rz_o0 e_607
    have e_678 := hm_674.keep rz_o0 e_608
    have e_679 := hm_674.keep rz_o0 e_609
    have e_680 := hm_674.keep rz_o0 e_610
    have u_681 := ht_676 _ _ u_611
    have u_682 := ht_676 _ _ u_612
    have hm_683 : sm ρ [] ws_602 ws_672 := hm_674.up (fun k _ h => rz_u0  k h)
    have hsm := hsm.tr (hm_683.mono (by decide))
    have hlp_58 := hlp_58.tr (hm_683.mono (by decide))
    have htx := htx.tr ht_676
    rcases w_671 with ⟨rfl, iw_684⟩ | ⟨rfl, iw_684⟩
    · have iw_684 : ¬ wdE f9 tl b_81 = 2 := iw_684
      refine lv_istore (lv' := [(5, .int 0), (4, .int (nI i_52)), (2, .int 1), (3, .int 1), (1, .int 2), (0, .ref rd)]) hx hb dX4_readEither_39 hl (by decide) rfl (fun ls hl => ?_)
      refine lv_iload hx hb dX4_readEither_41 (lv_at hl 0 rfl) ?_
      refine lv_if_ne (tgt := 56) hx hb dX4_readEither_43 (by decide) (fun c_685 => absurd (by decide) c_685) (fun c_685 => ?_)
      refine lv_iload_n hx hb dX4_readEither_46 rfl (lv_at hl 3 rfl) ?_
      refine lv_if_eq (tgt := 56) hx hb dX4_readEither_47 (by decide) (fun c_686 => absurd c_686 (by decide)) (fun c_686 => ?_)
      refine lv_aload_n hx hb dX4_readEither_50 rfl (lv_at hl 5 rfl) ?_
      refine lv_bipush (v := (-3)) hx hb dX4_readEither_51 (by decide) ?_
      have hFc := free_all hD hS hA
      refine va_callv (va_runV (As := [.int (-3)]) (rest := []) ⟨hx, hb, hml, hown, hts⟩ (r_addCode l D ρ ws_672 ty_673 adK adV fo f9 rd krd tp ktp cd bb tl b_81 (T_83 ++ eA ta_82) nk fr fk fp vl_84 (1, 0, 0, 0) (-3) H.size htl hng (⟨kc_499, cc_500, tc_501, fc_502, kb_503, cb_504, tb_505, fb_506, hp_507, hT_508, e_677, e_678, wr_511, wt_512, e_679, u_681, wc_515, hc_516, e_680, u_682, wb_519, hb_520⟩ : RSX ρ ws_672 ty_673 f9 rd krd tp ktp cd bb tl b_81 (T_83 ++ eA ta_82) nk fr fk fp vl_84) rfl) (cwV 1 hts gX4_readEither_X4_addCode rfl rfl rfl (by decide +kernel) ⟨Nat.le_of_ble_eq_true rfl, Nat.le_of_ble_eq_true rfl⟩) ⟨fun a U g mk q => by obtain ⟨q0, q1, qP, qK, qD, qS⟩ := q; exact ⟨q0, q1, qP, va_K.moved (u := U) (U := U.calling g mk a) (Vm.Alike.refl U.vm) qK, qD, SZ.same rfl rfl qS⟩, va_recv hK hP (ci := 4) (q0 := krd) rfl e_677, fun U hU hW => ⟨rfl, by rw [hU], by rw [hU]; exact hP, va_K.moved hW.alike hK, hD.weaken (fun _ _ _ _ => trivial), hsz9.go hS hW hU hFc⟩⟩ rfl rfl hl.1 rfl (lv_room (Nat.le_of_ble_eq_true rfl)) dX4_readEither_53 ⟨Nat.le_of_ble_eq_true rfl, Nat.le_of_ble_eq_true rfl⟩) hS (fun q _ h => hFc q h) hFc (fun u t H1 locs ht hvm w_688 hB hz1 hk1 hS => ?_)
      obtain ⟨ws_689, ty_690, hm_691, ht_693, hP1, hK1, hD1, hx_692⟩ := hB
      rw [ht] at hP1
      have hK := va_K.moved hvm.symm hK1
      have hD := hD1.weaken (fun _ _ _ h => hFc _ h)
      generalize H1 = H at hP1 hS ⊢
      have hP := hP1
      obtain ⟨g_695, e_694, h_696⟩ := hm_691.obj e_677
      obtain ⟨z_697, z_698, z_699, z_700, z_701, z_702, rfl⟩ := smX4 h_696
      obtain ⟨g_704, e_703, h_705⟩ := hm_691.obj e_678
      obtain ⟨z_706, z_707, z_708, z_709, rfl⟩ := smX6 h_705
      obtain ⟨f_711, e_710⟩ := hm_691.arrI e_679
      have u_712 := ht_693 _ _ u_681
      have e_713 := hm_691.keep (by rw [wb_519]; omega) e_680
      have u_714 := ht_693 _ _ u_682
      have hsm := hsm.tr (hm_691.mono (by decide))
      have hlp_58 := hlp_58.tr (hm_691.mono (by decide))
      have htx := htx.tr ht_693
      obtain ⟨hl_715, hR_716⟩ := hx_692.resolve_right (fun h9 => h9.1 (by omega))
      obtain ⟨kc_717, cc_718, tc_719, fc_720, kb_721, cb_722, tb_723, fb_724, hp_725, hT_726, er_727, et_728, wr_729, wt_730, ec_731, uc_732, wc_733, hc_734, eb_735, ub_736, wb_737, hb_738⟩ := id hR_716
      have hp_7251 := hp_725.1
      have hp_725t := teF_le (f := f9) hp_725.1
      refine lv_iload_n hx hb dX4_readEither_56 rfl (lv_at hl 3 rfl) ?_
      refine lv_if_ne (tgt := 65) hx hb dX4_readEither_57 (by decide) (fun c_739 => ?_) (fun c_739 => absurd c_739 (by decide))
      refine lv_iconst (v := 1) hx hb dX4_readEither_65 (by decide) ?_
      refine lv_goto (tgt := 70) hx hb dX4_readEither_66 (by decide) ?_
      refine lv_istore_n (lv' := [(3, .int 1), (5, .int 0), (4, .int (nI i_52)), (2, .int 1), (1, .int 2), (0, .ref rd)]) hx hb dX4_readEither_70 rfl hl (by decide) rfl (fun ls hl => ?_)
      have hw1 : wdE f9 tl b_81 = 1 := by omega
      have hw9 : b_81 + 2 ≤ nxF f9 tl b_81 ∧ nxF f9 tl b_81 ≤ tl := nx_wd hp_725.1 (j := 1) (by omega) hw1
      have hm9 : Rch f9 tl (0, ts, σ, T) (0, nxF f9 tl b_81, 1 :: σ, (T_83 ++ eA ta_82) ++ [(1, 0, 0, 0)]) := by have h9 := hr_85.st (st_or hw1); rw [ow_jO hbs ow_86, (ow_eO hbs ow_86).2 rfl, ← List.append_assoc] at h9; exact h9
      have hdq : dep (1 :: σ) = dep σ := dep_n _ (by omega)
      have hl9 := len_a1 (T_83 ++ eA ta_82) ((1, 0, 0, 0) : Tk)
      refine lv_aload_n hx hb dX4_readEither_71 rfl (lv_at hl 5 rfl) ?_
      refine va_get (D := D) (ci := 4) (v := .ref tp) (C := RX4) (T := TX4) (N := 8) hx hb hts hin4 hown hK hP krd er_727 rfl 0 (by decide) (hts (.fieldLink RX4 12 "HoneyHouse$RuleReader" "tape" "LHoneyHouse$Tape;") (List.mem_of_getElem? (i := 1) rfl)) (fun _ h9 => h9) rfl dX4_readEither_72 ?_
      have hFc := free_all hD hS hA
      refine va_callv (va_runV (As := []) (rest := []) ⟨hx, hb, hml, hown, hts⟩ (a_advance l D (rz [ktp]) ws_689 ty_690 f9 tp ktp tl (teF f9 tl b_81) (nI (kdF f9 tl b_81)) (nI b_81) bb kb_721 cb_722 tb_723 fb_724 H.size htl hb_738 hng (by omega) et_728 eb_735 ub_736 (rz_o1 (pl_ne eb_735 et_728 (by intro h9; simp at h9))) (rz_in (by simp))) (cwV 0 hts gX4_readEither_X6_advance rfl rfl rfl (by decide +kernel) ⟨Nat.le_of_ble_eq_true rfl, Nat.le_of_ble_eq_true rfl⟩) ⟨fun a U g mk q => by obtain ⟨q0, q1, qP, qK, qD⟩ := q; exact ⟨q0, q1, qP, va_K.moved (u := U) (U := U.calling g mk a) (Vm.Alike.refl U.vm) qK, qD⟩, va_recv hK hP (ci := 6) (q0 := ktp) rfl et_728, fun U hU hW => ⟨rfl, by rw [hU], by rw [hU]; exact hP, va_K.moved hW.alike hK, hD.weaken (fun _ _ _ _ => trivial)⟩⟩ rfl rfl hl.1 rfl (lv_room (Nat.le_of_ble_eq_true rfl)) dX4_readEither_75 ⟨Nat.le_of_ble_eq_true rfl, Nat.le_of_ble_eq_true rfl⟩) hS (fun q _ h => hFc q h) hFc (fun u t H1 locs ht hvm w_741 hB hz1 hk1 hS => ?_)
      obtain ⟨ws_742, ty_743, hm_744, ht_746, hP1, hK1, hD1, hx_745⟩ := hB
      rw [ht] at hP1
      have hK := va_K.moved hvm.symm hK1
      have hD := hD1.weaken (fun _ _ _ h => hFc _ h)
      generalize H1 = H at hP1 hS ⊢
      have hP := hP1
      have e_747 := hm_744.keep (rz_o1 (pl_ne er_727 et_728 (by intro h9; simp at h9))) er_727
      have e_748 := hm_744.keep (rz_o1 (pl_ne ec_731 et_728 (by intro h9; simp at h9))) ec_731
      have e_749 := hm_744.keep (rz_o1 (pl_ne eb_735 et_728 (by intro h9; simp at h9))) eb_735
      have u_750 := ht_746 _ _ uc_732
      have u_751 := ht_746 _ _ ub_736
      have hm_752 : sm ρ [6] ws_689 ws_742 := hm_744.up (fun k _ h => rz_u1 wt_730 k h)
      have hsm := hsm.tr (hm_752.mono (by decide))
      have hlp_58 := hlp_58.tr (hm_752.mono (by decide))
      have htx := htx.tr ht_746
      have e_753 : ws_742[ktp]? = some (tp, .inr (6, [.int (nI tl), .int (nI (kdF f9 tl (nxF f9 tl b_81))), .int (nI (nxF f9 tl b_81)), .int (nI (teF f9 tl (nxF f9 tl b_81))), .ref bb])) := hx_745; have hq_754 : pcB f9 tl (nxF f9 tl b_81) := nxF_pc (f := f9) hp_725.1; have hq_7541 := hq_754.1; have hq_754t := teF_le (f := f9) hq_754.1; have hg_755 := nx_gain (f := f9) hp_725.1
      refine lv_aload_n hx hb dX4_readEither_78 rfl (lv_at hl 5 rfl) ?_
      refine lv_iload_n hx hb dX4_readEither_79 rfl (lv_at hl 4 rfl) ?_
      have hFc := free_all hD hS hA
      refine va_calli (va_runV (As := [.int 2]) (rest := []) ⟨hx, hb, hml, hown, hts⟩ (r_readOne2 l D ρ ws_742 ty_743 adK adV fo f9 rd krd tp ktp cd bb tl (nxF f9 tl b_81) ((T_83 ++ eA ta_82) ++ [(1, 0, 0, 0)]) nk fr fk fp vl_84 (1 :: σ) H.size htl hng (⟨kc_717, cc_718, tc_719, fc_720, kb_721, cb_722, tb_723, fb_724, hq_754, hT_726, e_747, e_753, wr_729, wt_730, e_748, u_750, wc_733, hc_734, e_749, u_751, wb_737, hb_738⟩ : RSX ρ ws_742 ty_743 f9 rd krd tp ktp cd bb tl (nxF f9 tl b_81) ((T_83 ++ eA ta_82) ++ [(1, 0, 0, 0)]) nk fr fk fp vl_84) (hdq.trans hdp) (by omega)) (cwV 1 hts gX4_readEither_X4_readOne rfl rfl rfl (by decide +kernel) ⟨Nat.le_of_ble_eq_true rfl, Nat.le_of_ble_eq_true rfl⟩) ⟨fun a U g mk q => by obtain ⟨q0, q1, qP, qK, qD, qS⟩ := q; exact ⟨q0, q1, qP, va_K.moved (u := U) (U := U.calling g mk a) (Vm.Alike.refl U.vm) qK, qD, SZ.same rfl rfl qS⟩, va_recv hK hP (ci := 4) (q0 := krd) rfl e_747, fun U hU hW => ⟨rfl, by rw [hU], by rw [hU]; exact hP, va_K.moved hW.alike hK, hD.weaken (fun _ _ _ _ => trivial), hsz9.go hS hW hU hFc⟩⟩ rfl rfl hl.1 rfl (lv_room (Nat.le_of_ble_eq_true rfl)) dX4_readEither_80 ⟨Nat.le_of_ble_eq_true rfl, Nat.le_of_ble_eq_true rfl⟩) hS (fun q _ h => hFc q h) hFc (fun r_756 u t H1 locs ht hvm w_757 hB hz1 hk1 hS => ?_)
      subst w_757
      obtain ⟨ws_758, ty_759, hm_760, ht_762, hP1, hK1, hD1, hx_761⟩ := hB
      rw [ht] at hP1
      have hK := va_K.moved hvm.symm hK1
      have hD := hD1.weaken (fun _ _ _ h => hFc _ h)
      generalize H1 = H at hP1 hS ⊢
      have hP := hP1
      obtain ⟨g_764, e_763, h_765⟩ := hm_760.obj e_747
      obtain ⟨z_766, z_767, z_768, z_769, z_770, z_771, rfl⟩ := smX4 h_765
      obtain ⟨g_773, e_772, h_774⟩ := hm_760.obj e_753
      obtain ⟨z_775, z_776, z_777, z_778, rfl⟩ := smX6 h_774
      obtain ⟨f_780, e_779⟩ := hm_760.arrI e_748
      have u_781 := ht_762 _ _ u_750
      have e_782 := hm_760.keep (by rw [wb_737]; omega) e_749
      have u_783 := ht_762 _ _ u_751
      have hsm := hsm.tr (hm_760.mono (by decide))
      have hlp_58 := hlp_58.tr (hm_760.mono (by decide))
      have htx := htx.tr ht_762
      rcases hx_761 with ⟨rfl, k_784, p_785, ts_786, T_787, vl_788, hk_789, hk_790, hr_791, hR_792⟩ | ⟨rfl, b_793, T_787, vl_788, hr_791, hg_797, hg_798, hR_792⟩
      · obtain ⟨kc_799, cc_800, tc_801, fc_802, kb_803, cb_804, tb_805, fb_806, hp_807, hT_808, er_809, et_810, wr_811, wt_812, ec_813, uc_814, wc_815, hc_816, eb_817, ub_818, wb_819, hb_820⟩ := id hR_792
        have hp_8071 := hp_807.1
        have hp_807t := teF_le (f := f9) hp_807.1
        refine lv_istore_n (lv' := [(2, .int 0), (3, .int 1), (5, .int 0), (4, .int (nI i_52)), (1, .int 2), (0, .ref rd)]) hx hb dX4_readEither_83 rfl hl (by decide) rfl (fun ls hl => ?_)
        refine lv_iload hx hb dX4_readEither_84 (lv_at hl 2 rfl) ?_
        refine lv_if_eq (tgt := 95) hx hb dX4_readEither_86 (by decide) (fun c_821 => ?_) (fun c_821 => absurd (by decide) c_821)
        refine lv_iinc (v := nI (i_52 + 1)) (lv' := [(4, .int (nI (i_52 + 1))), (2, .int 0), (3, .int 1), (5, .int 0), (1, .int 2), (0, .ref rd)]) hx hb dX4_readEither_95 hl (k := 3) rfl (nI_add i_52 1) (by decide) rfl (fun ls hl => ?_)
        refine lv_goto (tgt := 11) hx hb dX4_readEither_98 (by decide) ?_
        exact ih_51 (i_52 + 1, 0, 1) ws_758 _ _ ls (by show 400 - (i_52 + 1) < 400 - i_52; omega) ⟨hlp_58, ⟨ty_759, hK, htx, Or.inr ⟨rfl, Or.inr rfl, (⟨k_784, p_785, _, _, _, by omega, by omega, hm9.tr hr_791, (⟨kc_799, cc_800, tc_801, fc_802, kb_803, cb_804, tb_805, fb_806, hp_807, hT_808, er_809, et_810, wr_811, wt_812, ec_813, uc_814, wc_815, hc_816, eb_817, ub_818, wb_819, hb_820⟩ : RSX ρ ws_758 ty_759 f9 rd krd tp ktp cd bb tl ts_786 T_787 nk fr (nI k_784) (nI p_785) vl_788)⟩ : FLT ρ ws_758 ty_759 f9 rd krd tp ktp cd bb tl (0, ts, σ, T) nk fr)⟩⟩, (show (i_52 + 1) ≤ 400 from by omega)⟩ hP hD hS (lv_sub hl [0, 1, 2, 4, 5] rfl)
      obtain ⟨kc_822, cc_823, tc_824, fc_825, kb_826, cb_827, tb_828, fb_829, hp_830, hT_831, er_832, et_833, wr_834, wt_835, ec_836, uc_837, wc_838, hc_839, eb_840, ub_841, wb_842, hb_843⟩ := id hR_792
      have hp_8301 := hp_830.1
      have hp_830t := teF_le (f := f9) hp_830.1
      refine lv_istore_n (lv' := [(2, .int 1), (3, .int 1), (5, .int 0), (4, .int (nI i_52)), (1, .int 2), (0, .ref rd)]) hx hb dX4_readEither_83 rfl hl (by decide) rfl (fun ls hl => ?_)
      refine lv_iload hx hb dX4_readEither_84 (lv_at hl 2 rfl) ?_
      refine lv_if_eq (tgt := 95) hx hb dX4_readEither_86 (by decide) (fun c_844 => ?_) (fun c_844 => absurd (by decide) c_844)
      refine lv_iinc (v := nI (i_52 + 1)) (lv' := [(4, .int (nI (i_52 + 1))), (2, .int 1), (3, .int 1), (5, .int 0), (1, .int 2), (0, .ref rd)]) hx hb dX4_readEither_95 hl (k := 3) rfl (nI_add i_52 1) (by decide) rfl (fun ls hl => ?_)
      refine lv_goto (tgt := 11) hx hb dX4_readEither_98 (by decide) ?_
      exact ih_51 (i_52 + 1, 1, 1) ws_758 _ _ ls (by show 400 - (i_52 + 1) < 400 - i_52; omega) ⟨hlp_58, ⟨ty_759, hK, htx, Or.inl ⟨rfl, Or.inr rfl, (⟨b_793, 1 :: σ, T_787, _, hm9.tr (rch_an (by omega) hr_791), ow_or, by omega, fun _ => by rw [eA_n _ (by omega), List.append_nil]; omega, fun h9 => absurd h9 (by decide), by rw [eA_n _ (by omega), List.append_nil]; exact (⟨kc_822, cc_823, tc_824, fc_825, kb_826, cb_827, tb_828, fb_829, hp_830, hT_831, er_832, et_833, wr_834, wt_835, ec_836, uc_837, wc_838, hc_839, eb_840, ub_841, wb_842, hb_843⟩ : RSX ρ ws_758 ty_759 f9 rd krd tp ktp cd bb tl b_793 T_787 nk fr fk fp vl_788)⟩ : LPE ρ ws_758 ty_759 f9 rd krd tp ktp cd bb tl ts σ T nk fr fk fp (i_52 + 1) 1)⟩⟩, (show (i_52 + 1) ≤ 400 from by omega)⟩ hP hD hS (lv_sub hl [0, 1, 2, 4, 5] rfl)
    have iw_684 : wdE f9 tl b_81 = 2 := iw_684
    refine lv_istore (lv' := [(5, .int 1), (4, .int (nI i_52)), (2, .int 1), (3, .int 1), (1, .int 2), (0, .ref rd)]) hx hb dX4_readEither_39 hl (by decide) rfl (fun ls hl => ?_)
    refine lv_iload hx hb dX4_readEither_41 (lv_at hl 0 rfl) ?_
    refine lv_if_ne (tgt := 56) hx hb dX4_readEither_43 (by decide) (fun c_845 => ?_) (fun c_845 => absurd c_845 (by decide))
    refine lv_iload_n hx hb dX4_readEither_56 rfl (lv_at hl 3 rfl) ?_
    refine lv_if_ne (tgt := 65) hx hb dX4_readEither_57 (by decide) (fun c_846 => ?_) (fun c_846 => absurd c_846 (by decide))
    refine lv_iconst (v := 1) hx hb dX4_readEither_65 (by decide) ?_
    refine lv_goto (tgt := 70) hx hb dX4_readEither_66 (by decide) ?_
    refine lv_istore_n (lv' := [(3, .int 1), (5, .int 1), (4, .int (nI i_52)), (2, .int 1), (1, .int 2), (0, .ref rd)]) hx hb dX4_readEither_70 rfl hl (by decide) rfl (fun ls hl => ?_)
    have hw9 : b_81 + 3 ≤ nxF f9 tl b_81 ∧ nxF f9 tl b_81 ≤ tl := nx_wd hp_507.1 (j := 2) (by omega) iw_684
    have hm9 : Rch f9 tl (0, ts, σ, T) (0, nxF f9 tl b_81, 2 :: jA ta_82, T_83 ++ eA ta_82) := hr_85.st (st_and iw_684)
    have hdq : dep (2 :: jA ta_82) = dep σ := (dep_n _ (by omega)).trans ((dep_jA _).trans ((dep_jO _).symm.trans (congrArg dep (ow_jO hbs ow_86))))
    refine lv_aload_n hx hb dX4_readEither_71 rfl (lv_at hl 5 rfl) ?_
    refine va_get (D := D) (ci := 4) (v := .ref tp) (C := RX4) (T := TX4) (N := 8) hx hb hts hin4 hown hK hP krd e_677 rfl 0 (by decide) (hts (.fieldLink RX4 12 "HoneyHouse$RuleReader" "tape" "LHoneyHouse$Tape;") (List.mem_of_getElem? (i := 1) rfl)) (fun _ h9 => h9) rfl dX4_readEither_72 ?_
    have hFc := free_all hD hS hA
    refine va_callv (va_runV (As := []) (rest := []) ⟨hx, hb, hml, hown, hts⟩ (a_advance l D (rz [ktp]) ws_672 ty_673 f9 tp ktp tl (teF f9 tl b_81) (nI (kdF f9 tl b_81)) (nI b_81) bb kb_503 cb_504 tb_505 fb_506 H.size htl hb_520 hng (by omega) e_678 e_680 u_682 (rz_o1 (pl_ne e_680 e_678 (by intro h9; simp at h9))) (rz_in (by simp))) (cwV 0 hts gX4_readEither_X6_advance rfl rfl rfl (by decide +kernel) ⟨Nat.le_of_ble_eq_true rfl, Nat.le_of_ble_eq_true rfl⟩) ⟨fun a U g mk q => by obtain ⟨q0, q1, qP, qK, qD⟩ := q; exact ⟨q0, q1, qP, va_K.moved (u := U) (U := U.calling g mk a) (Vm.Alike.refl U.vm) qK, qD⟩, va_recv hK hP (ci := 6) (q0 := ktp) rfl e_678, fun U hU hW => ⟨rfl, by rw [hU], by rw [hU]; exact hP, va_K.moved hW.alike hK, hD.weaken (fun _ _ _ _ => trivial)⟩⟩ rfl rfl hl.1 rfl (lv_room (Nat.le_of_ble_eq_true rfl)) dX4_readEither_75 ⟨Nat.le_of_ble_eq_true rfl, Nat.le_of_ble_eq_true rfl⟩) hS (fun q _ h => hFc q h) hFc (fun u t H1 locs ht hvm w_848 hB hz1 hk1 hS => ?_)
    obtain ⟨ws_849, ty_850, hm_851, ht_853, hP1, hK1, hD1, hx_852⟩ := hB
    rw [ht] at hP1
    have hK := va_K.moved hvm.symm hK1
    have hD := hD1.weaken (fun _ _ _ h => hFc _ h)
    generalize H1 = H at hP1 hS ⊢
    have hP := hP1
    have e_854 := hm_851.keep (rz_o1 (pl_ne e_677 e_678 (by intro h9; simp at h9))) e_677
    have e_855 := hm_851.keep (rz_o1 (pl_ne e_679 e_678 (by intro h9; simp at h9))) e_679
    have e_856 := hm_851.keep (rz_o1 (pl_ne e_680 e_678 (by intro h9; simp at h9))) e_680
    have u_857 := ht_853 _ _ u_681
    have u_858 := ht_853 _ _ u_682
    have hm_859 : sm ρ [6] ws_672 ws_849 := hm_851.up (fun k _ h => rz_u1 wt_512 k h)
    have hsm := hsm.tr (hm_859.mono (by decide))
    have hlp_58 := hlp_58.tr (hm_859.mono (by decide))
    have htx := htx.tr ht_853
    have e_860 : ws_849[ktp]? = some (tp, .inr (6, [.int (nI tl), .int (nI (kdF f9 tl (nxF f9 tl b_81))), .int (nI (nxF f9 tl b_81)), .int (nI (teF f9 tl (nxF f9 tl b_81))), .ref bb])) := hx_852; have hq_861 : pcB f9 tl (nxF f9 tl b_81) := nxF_pc (f := f9) hp_507.1; have hq_8611 := hq_861.1; have hq_861t := teF_le (f := f9) hq_861.1; have hg_862 := nx_gain (f := f9) hp_507.1
    refine lv_aload_n hx hb dX4_readEither_78 rfl (lv_at hl 5 rfl) ?_
    refine lv_iload_n hx hb dX4_readEither_79 rfl (lv_at hl 4 rfl) ?_
    have hFc := free_all hD hS hA
    refine va_calli (va_runV (As := [.int 2]) (rest := []) ⟨hx, hb, hml, hown, hts⟩ (r_readOne2 l D ρ ws_849 ty_850 adK adV fo f9 rd krd tp ktp cd bb tl (nxF f9 tl b_81) (T_83 ++ eA ta_82) nk fr fk fp vl_84 (2 :: jA ta_82) H.size htl hng (⟨kc_499, cc_500, tc_501, fc_502, kb_503, cb_504, tb_505, fb_506, hq_861, hT_508, e_854, e_860, wr_511, wt_512, e_855, u_857, wc_515, hc_516, e_856, u_858, wb_519, hb_520⟩ : RSX ρ ws_849 ty_850 f9 rd krd tp ktp cd bb tl (nxF f9 tl b_81) (T_83 ++ eA ta_82) nk fr fk fp vl_84) (hdq.trans hdp) (by omega)) (cwV 1 hts gX4_readEither_X4_readOne rfl rfl rfl (by decide +kernel) ⟨Nat.le_of_ble_eq_true rfl, Nat.le_of_ble_eq_true rfl⟩) ⟨fun a U g mk q => by obtain ⟨q0, q1, qP, qK, qD, qS⟩ := q; exact ⟨q0, q1, qP, va_K.moved (u := U) (U := U.calling g mk a) (Vm.Alike.refl U.vm) qK, qD, SZ.same rfl rfl qS⟩, va_recv hK hP (ci := 4) (q0 := krd) rfl e_854, fun U hU hW => ⟨rfl, by rw [hU], by rw [hU]; exact hP, va_K.moved hW.alike hK, hD.weaken (fun _ _ _ _ => trivial), hsz9.go hS hW hU hFc⟩⟩ rfl rfl hl.1 rfl (lv_room (Nat.le_of_ble_eq_true rfl)) dX4_readEither_80 ⟨Nat.le_of_ble_eq_true rfl, Nat.le_of_ble_eq_true rfl⟩) hS (fun q _ h => hFc q h) hFc (fun r_863 u t H1 locs ht hvm w_864 hB hz1 hk1 hS => ?_)
    subst w_864
    obtain ⟨ws_865, ty_866, hm_867, ht_869, hP1, hK1, hD1, hx_868⟩ := hB
    rw [ht] at hP1
    have hK := va_K.moved hvm.symm hK1
    have hD := hD1.weaken (fun _ _ _ h => hFc _ h)
    generalize H1 = H at hP1 hS ⊢
    have hP := hP1
    obtain ⟨g_871, e_870, h_872⟩ := hm_867.obj e_854
    obtain ⟨z_873, z_874, z_875, z_876, z_877, z_878, rfl⟩ := smX4 h_872
    obtain ⟨g_880, e_879, h_881⟩ := hm_867.obj e_860
    obtain ⟨z_882, z_883, z_884, z_885, rfl⟩ := smX6 h_881
    obtain ⟨f_887, e_886⟩ := hm_867.arrI e_855
    have u_888 := ht_869 _ _ u_857
    have e_889 := hm_867.keep (by rw [wb_519]; omega) e_856
    have u_890 := ht_869 _ _ u_858
    have hsm := hsm.tr (hm_867.mono (by decide))
    have hlp_58 := hlp_58.tr (hm_867.mono (by decide))
    have htx := htx.tr ht_869
    rcases hx_868 with ⟨rfl, k_891, p_892, ts_893, T_894, vl_895, hk_896, hk_897, hr_898, hR_899⟩ | ⟨rfl, b_900, T_894, vl_895, hr_898, hg_904, hg_905, hR_899⟩
    · obtain ⟨kc_906, cc_907, tc_908, fc_909, kb_910, cb_911, tb_912, fb_913, hp_914, hT_915, er_916, et_917, wr_918, wt_919, ec_920, uc_921, wc_922, hc_923, eb_924, ub_925, wb_926, hb_927⟩ := id hR_899
      have hp_9141 := hp_914.1
      have hp_914t := teF_le (f := f9) hp_914.1
      refine lv_istore_n (lv' := [(2, .int 0), (3, .int 1), (5, .int 1), (4, .int (nI i_52)), (1, .int 2), (0, .ref rd)]) hx hb dX4_readEither_83 rfl hl (by decide) rfl (fun ls hl => ?_)
      refine lv_iload hx hb dX4_readEither_84 (lv_at hl 2 rfl) ?_
      refine lv_if_eq (tgt := 95) hx hb dX4_readEither_86 (by decide) (fun c_928 => absurd c_928 (by decide)) (fun c_928 => ?_)
      refine lv_aload_n hx hb dX4_readEither_89 rfl (lv_at hl 5 rfl) ?_
      refine lv_bipush (v := (-2)) hx hb dX4_readEither_90 (by decide) ?_
      have hFc := free_all hD hS hA
      refine va_callv (va_runV (As := [.int (-2)]) (rest := []) ⟨hx, hb, hml, hown, hts⟩ (r_addCode l D ρ ws_865 ty_866 adK adV fo f9 rd krd tp ktp cd bb tl ts_893 T_894 nk fr (nI k_891) (nI p_892) vl_895 (2, 0, 0, 0) (-2) H.size htl hng (⟨kc_906, cc_907, tc_908, fc_909, kb_910, cb_911, tb_912, fb_913, hp_914, hT_915, er_916, et_917, wr_918, wt_919, ec_920, uc_921, wc_922, hc_923, eb_924, ub_925, wb_926, hb_927⟩ : RSX ρ ws_865 ty_866 f9 rd krd tp ktp cd bb tl ts_893 T_894 nk fr (nI k_891) (nI p_892) vl_895) rfl) (cwV 1 hts gX4_readEither_X4_addCode rfl rfl rfl (by decide +kernel) ⟨Nat.le_of_ble_eq_true rfl, Nat.le_of_ble_eq_true rfl⟩) ⟨fun a U g mk q => by obtain ⟨q0, q1, qP, qK, qD, qS⟩ := q; exact ⟨q0, q1, qP, va_K.moved (u := U) (U := U.calling g mk a) (Vm.Alike.refl U.vm) qK, qD, SZ.same rfl rfl qS⟩, va_recv hK hP (ci := 4) (q0 := krd) rfl er_916, fun U hU hW => ⟨rfl, by rw [hU], by rw [hU]; exact hP, va_K.moved hW.alike hK, hD.weaken (fun _ _ _ _ => trivial), hsz9.go hS hW hU hFc⟩⟩ rfl rfl hl.1 rfl (lv_room (Nat.le_of_ble_eq_true rfl)) dX4_readEither_92 ⟨Nat.le_of_ble_eq_true rfl, Nat.le_of_ble_eq_true rfl⟩) hS (fun q _ h => hFc q h) hFc (fun u t H1 locs ht hvm w_930 hB hz1 hk1 hS => ?_)
      obtain ⟨ws_931, ty_932, hm_933, ht_935, hP1, hK1, hD1, hx_934⟩ := hB
      rw [ht] at hP1
      have hK := va_K.moved hvm.symm hK1
      have hD := hD1.weaken (fun _ _ _ h => hFc _ h)
      generalize H1 = H at hP1 hS ⊢
      have hP := hP1
      obtain ⟨g_937, e_936, h_938⟩ := hm_933.obj er_916
      obtain ⟨z_939, z_940, z_941, z_942, z_943, z_944, rfl⟩ := smX4 h_938
      obtain ⟨g_946, e_945, h_947⟩ := hm_933.obj et_917
      obtain ⟨z_948, z_949, z_950, z_951, rfl⟩ := smX6 h_947
      obtain ⟨f_953, e_952⟩ := hm_933.arrI ec_920
      have u_954 := ht_935 _ _ uc_921
      have e_955 := hm_933.keep (by rw [wb_926]; omega) eb_924
      have u_956 := ht_935 _ _ ub_925
      have hsm := hsm.tr (hm_933.mono (by decide))
      have hlp_58 := hlp_58.tr (hm_933.mono (by decide))
      have htx := htx.tr ht_935
      rcases hx_934 with ⟨hl_957, hR_958⟩ | ⟨hl_957, hR_958⟩
      · obtain ⟨kc_959, cc_960, tc_961, fc_962, kb_963, cb_964, tb_965, fb_966, hp_967, hT_968, er_969, et_970, wr_971, wt_972, ec_973, uc_974, wc_975, hc_976, eb_977, ub_978, wb_979, hb_980⟩ := id hR_958
        have hp_9671 := hp_967.1
        have hp_967t := teF_le (f := f9) hp_967.1
        refine lv_iinc (v := nI (i_52 + 1)) (lv' := [(4, .int (nI (i_52 + 1))), (2, .int 0), (3, .int 1), (5, .int 1), (1, .int 2), (0, .ref rd)]) hx hb dX4_readEither_95 hl (k := 3) rfl (nI_add i_52 1) (by decide) rfl (fun ls hl => ?_)
        refine lv_goto (tgt := 11) hx hb dX4_readEither_98 (by decide) ?_
        exact ih_51 (i_52 + 1, 0, 1) ws_931 _ _ ls (by show 400 - (i_52 + 1) < 400 - i_52; omega) ⟨hlp_58, ⟨ty_932, hK, htx, Or.inr ⟨rfl, Or.inr rfl, (⟨k_891, p_892, _, _, _, by omega, by omega, hm9.tr hr_898, (⟨kc_959, cc_960, tc_961, fc_962, kb_963, cb_964, tb_965, fb_966, hp_967, hT_968, er_969, et_970, wr_971, wt_972, ec_973, uc_974, wc_975, hc_976, eb_977, ub_978, wb_979, hb_980⟩ : RSX ρ ws_931 ty_932 f9 rd krd tp ktp cd bb tl ts_893 (T_894 ++ [(2, 0, 0, 0)]) nk fr (nI k_891) (nI p_892) vl_895)⟩ : FLT ρ ws_931 ty_932 f9 rd krd tp ktp cd bb tl (0, ts, σ, T) nk fr)⟩⟩, (show (i_52 + 1) ≤ 400 from by omega)⟩ hP hD hS (lv_sub hl [0, 1, 2, 4, 5] rfl)
      obtain ⟨kc_981, cc_982, tc_983, fc_984, kb_985, cb_986, tb_987, fb_988, hp_989, hT_990, er_991, et_992, wr_993, wt_994, ec_995, uc_996, wc_997, hc_998, eb_999, ub_1000, wb_1001, hb_1002⟩ := id hR_958
      have hp_9891 := hp_989.1
      have hp_989t := teF_le (f := f9) hp_989.1
      refine lv_iinc (v := nI (i_52 + 1)) (lv' := [(4, .int (nI (i_52 + 1))), (2, .int 0), (3, .int 1), (5, .int 1), (1, .int 2), (0, .ref rd)]) hx hb dX4_readEither_95 hl (k := 3) rfl (nI_add i_52 1) (by decide) rfl (fun ls hl => ?_)
      refine lv_goto (tgt := 11) hx hb dX4_readEither_98 (by decide) ?_
      exact ih_51 (i_52 + 1, 0, 1) ws_931 _ _ ls (by show 400 - (i_52 + 1) < 400 - i_52; omega) ⟨hlp_58, ⟨ty_932, hK, htx, Or.inr ⟨rfl, Or.inr rfl, (⟨k_891, p_892, _, _, _, by omega, by omega, hm9.tr hr_898, (⟨kc_981, cc_982, tc_983, fc_984, kb_985, cb_986, tb_987, fb_988, hp_989, hT_990, er_991, et_992, wr_993, wt_994, ec_995, uc_996, wc_997, hc_998, eb_999, ub_1000, wb_1001, hb_1002⟩ : RSX ρ ws_931 ty_932 f9 rd krd tp ktp cd bb tl ts_893 T_894 nk fr (nI k_891) (nI p_892) vl_895)⟩ : FLT ρ ws_931 ty_932 f9 rd krd tp ktp cd bb tl (0, ts, σ, T) nk fr)⟩⟩, (show (i_52 + 1) ≤ 400 from by omega)⟩ hP hD hS (lv_sub hl [0, 1, 2, 4, 5] rfl)
    obtain ⟨kc_1003, cc_1004, tc_1005, fc_1006, kb_1007, cb_1008, tb_1009, fb_1010, hp_1011, hT_1012, er_1013, et_1014, wr_1015, wt_1016, ec_1017, uc_1018, wc_1019, hc_1020, eb_1021, ub_1022, wb_1023, hb_1024⟩ := id hR_899
    have hp_10111 := hp_1011.1
    have hp_1011t := teF_le (f := f9) hp_1011.1
    refine lv_istore_n (lv' := [(2, .int 1), (3, .int 1), (5, .int 1), (4, .int (nI i_52)), (1, .int 2), (0, .ref rd)]) hx hb dX4_readEither_83 rfl hl (by decide) rfl (fun ls hl => ?_)
    refine lv_iload hx hb dX4_readEither_84 (lv_at hl 2 rfl) ?_
    refine lv_if_eq (tgt := 95) hx hb dX4_readEither_86 (by decide) (fun c_1025 => absurd c_1025 (by decide)) (fun c_1025 => ?_)
    refine lv_aload_n hx hb dX4_readEither_89 rfl (lv_at hl 5 rfl) ?_
    refine lv_bipush (v := (-2)) hx hb dX4_readEither_90 (by decide) ?_
    have hFc := free_all hD hS hA
    refine va_callv (va_runV (As := [.int (-2)]) (rest := []) ⟨hx, hb, hml, hown, hts⟩ (r_addCode l D ρ ws_865 ty_866 adK adV fo f9 rd krd tp ktp cd bb tl b_900 T_894 nk fr fk fp vl_895 (2, 0, 0, 0) (-2) H.size htl hng (⟨kc_1003, cc_1004, tc_1005, fc_1006, kb_1007, cb_1008, tb_1009, fb_1010, hp_1011, hT_1012, er_1013, et_1014, wr_1015, wt_1016, ec_1017, uc_1018, wc_1019, hc_1020, eb_1021, ub_1022, wb_1023, hb_1024⟩ : RSX ρ ws_865 ty_866 f9 rd krd tp ktp cd bb tl b_900 T_894 nk fr fk fp vl_895) rfl) (cwV 1 hts gX4_readEither_X4_addCode rfl rfl rfl (by decide +kernel) ⟨Nat.le_of_ble_eq_true rfl, Nat.le_of_ble_eq_true rfl⟩) ⟨fun a U g mk q => by obtain ⟨q0, q1, qP, qK, qD, qS⟩ := q; exact ⟨q0, q1, qP, va_K.moved (u := U) (U := U.calling g mk a) (Vm.Alike.refl U.vm) qK, qD, SZ.same rfl rfl qS⟩, va_recv hK hP (ci := 4) (q0 := krd) rfl er_1013, fun U hU hW => ⟨rfl, by rw [hU], by rw [hU]; exact hP, va_K.moved hW.alike hK, hD.weaken (fun _ _ _ _ => trivial), hsz9.go hS hW hU hFc⟩⟩ rfl rfl hl.1 rfl (lv_room (Nat.le_of_ble_eq_true rfl)) dX4_readEither_92 ⟨Nat.le_of_ble_eq_true rfl, Nat.le_of_ble_eq_true rfl⟩) hS (fun q _ h => hFc q h) hFc (fun u t H1 locs ht hvm w_1027 hB hz1 hk1 hS => ?_)
    obtain ⟨ws_1028, ty_1029, hm_1030, ht_1032, hP1, hK1, hD1, hx_1031⟩ := hB
    rw [ht] at hP1
    have hK := va_K.moved hvm.symm hK1
    have hD := hD1.weaken (fun _ _ _ h => hFc _ h)
    generalize H1 = H at hP1 hS ⊢
    have hP := hP1
    obtain ⟨g_1034, e_1033, h_1035⟩ := hm_1030.obj er_1013
    obtain ⟨z_1036, z_1037, z_1038, z_1039, z_1040, z_1041, rfl⟩ := smX4 h_1035
    obtain ⟨g_1043, e_1042, h_1044⟩ := hm_1030.obj et_1014
    obtain ⟨z_1045, z_1046, z_1047, z_1048, rfl⟩ := smX6 h_1044
    obtain ⟨f_1050, e_1049⟩ := hm_1030.arrI ec_1017
    have u_1051 := ht_1032 _ _ uc_1018
    have e_1052 := hm_1030.keep (by rw [wb_1023]; omega) eb_1021
    have u_1053 := ht_1032 _ _ ub_1022
    have hsm := hsm.tr (hm_1030.mono (by decide))
    have hlp_58 := hlp_58.tr (hm_1030.mono (by decide))
    have htx := htx.tr ht_1032
    obtain ⟨hl_1054, hR_1055⟩ := hx_1031.resolve_right (fun h9 => h9.1 (by omega))
    obtain ⟨kc_1056, cc_1057, tc_1058, fc_1059, kb_1060, cb_1061, tb_1062, fb_1063, hp_1064, hT_1065, er_1066, et_1067, wr_1068, wt_1069, ec_1070, uc_1071, wc_1072, hc_1073, eb_1074, ub_1075, wb_1076, hb_1077⟩ := id hR_1055
    have hp_10641 := hp_1064.1
    have hp_1064t := teF_le (f := f9) hp_1064.1
    refine lv_iinc (v := nI (i_52 + 1)) (lv' := [(4, .int (nI (i_52 + 1))), (2, .int 1), (3, .int 1), (5, .int 1), (1, .int 2), (0, .ref rd)]) hx hb dX4_readEither_95 hl (k := 3) rfl (nI_add i_52 1) (by decide) rfl (fun ls hl => ?_)
    refine lv_goto (tgt := 11) hx hb dX4_readEither_98 (by decide) ?_
    exact ih_51 (i_52 + 1, 1, 1) ws_1028 _ _ ls (by show 400 - (i_52 + 1) < 400 - i_52; omega) ⟨hlp_58, ⟨ty_1029, hK, htx, Or.inl ⟨rfl, Or.inr rfl, (⟨b_900, 2 :: jA ta_82, T_894, _, hm9.tr (rch_an (by omega) hr_898), ow_and hbs ow_86, by omega, fun _ => by rw [eA_2jA, len_a1]; omega, fun h9 => absurd h9 (by decide), by rw [eA_2jA]; exact (⟨kc_1056, cc_1057, tc_1058, fc_1059, kb_1060, cb_1061, tb_1062, fb_1063, hp_1064, hT_1065, er_1066, et_1067, wr_1068, wt_1069, ec_1070, uc_1071, wc_1072, hc_1073, eb_1074, ub_1075, wb_1076, hb_1077⟩ : RSX ρ ws_1028 ty_1029 f9 rd krd tp ktp cd bb tl b_900 (T_894 ++ [(2, 0, 0, 0)]) nk fr fk fp vl_895)⟩ : LPE ρ ws_1028 ty_1029 f9 rd krd tp ktp cd bb tl ts σ T nk fr fk fp (i_52 + 1) 1)⟩⟩, (show (i_52 + 1) ≤ 400 from by omega)⟩ hP hD hS (lv_sub hl [0, 1, 2, 4, 5] rfl)
  · obtain ⟨kc_1078, cc_1079, tc_1080, fc_1081, kb_1082, cb_1083, tb_1084, fb_1085, hp_1086, hT_1087, er_1088, et_1089, wr_1090, wt_1091, ec_1092, uc_1093, wc_1094, hc_1095, eb_1096, ub_1097, wb_1098, hb_1099⟩ := id hR_90
    have hp_10861 := hp_1086.1
    have hp_1086t := teF_le (f := f9) hp_1086.1
    refine lv_sipush (v := 400) hx hb dX4_readEither_13 (by decide) ?_
    refine lv_icmp_ge (tgt := 101) hx hb dX4_readEither_16 (by decide) (fun c_1100 => ?_) (fun c_1100 => ?_)
    · have d_1101 := n_le (a := 400) (b := i_52) (by omega) (by omega) c_1100
      refine lv_iload_n hx hb dX4_readEither_101 rfl (lv_at hl 2 rfl) ?_
      refine lv_if_eq (tgt := 111) hx hb dX4_readEither_102 (by decide) (fun c_1102 => ?_) (fun c_1102 => absurd (by decide) c_1102)
      refine lv_iload_n hx hb dX4_readEither_111 rfl (lv_at hl 1 rfl) ?_
      exact W.zret (v := 0) hx hb hr rfl (fun t ht hW => ⟨⟨0, 0, rfl, rfl, ws_56, ty_79, hsm, htx, by rw [ht]; exact hP, va_K.moved hW.alike hK, hD, Or.inl ⟨rfl, k_91, p_92, _, _, _, by omega, by omega, hr_85, (⟨kc_1078, cc_1079, tc_1080, fc_1081, kb_1082, cb_1083, tb_1084, fb_1085, hp_1086, hT_1087, er_1088, et_1089, wr_1090, wt_1091, ec_1092, uc_1093, wc_1094, hc_1095, eb_1096, ub_1097, wb_1098, hb_1099⟩ : RSX ρ ws_56 ty_79 f9 rd krd tp ktp cd bb tl ts_93 T_83 nk fr (nI k_91) (nI p_92) vl_84)⟩⟩, hS.F ht⟩) hS.2.2 dX4_readEither_112
    have d_1103 := n_nle (a := 400) (b := i_52) (by omega) (by omega) c_1100
    refine lv_iload_n hx hb dX4_readEither_19 rfl (lv_at hl 1 rfl) ?_
    refine lv_if_eq (tgt := 101) hx hb dX4_readEither_20 (by decide) (fun c_1104 => ?_) (fun c_1104 => absurd (by decide) c_1104)
    refine lv_iload_n hx hb dX4_readEither_101 rfl (lv_at hl 2 rfl) ?_
    refine lv_if_eq (tgt := 111) hx hb dX4_readEither_102 (by decide) (fun c_1105 => ?_) (fun c_1105 => absurd (by decide) c_1105)
    refine lv_iload_n hx hb dX4_readEither_111 rfl (lv_at hl 1 rfl) ?_
    exact W.zret (v := 0) hx hb hr rfl (fun t ht hW => ⟨⟨0, 0, rfl, rfl, ws_56, ty_79, hsm, htx, by rw [ht]; exact hP, va_K.moved hW.alike hK, hD, Or.inl ⟨rfl, k_91, p_92, _, _, _, by omega, by omega, hr_85, (⟨kc_1078, cc_1079, tc_1080, fc_1081, kb_1082, cb_1083, tb_1084, fb_1085, hp_1086, hT_1087, er_1088, et_1089, wr_1090, wt_1091, ec_1092, uc_1093, wc_1094, hc_1095, eb_1096, ub_1097, wb_1098, hb_1099⟩ : RSX ρ ws_56 ty_79 f9 rd krd tp ktp cd bb tl ts_93 T_83 nk fr (nI k_91) (nI p_92) vl_84)⟩⟩, hS.F ht⟩) hS.2.2 dX4_readEither_112
  obtain ⟨kc_1106, cc_1107, tc_1108, fc_1109, kb_1110, cb_1111, tb_1112, fb_1113, hp_1114, hT_1115, er_1116, et_1117, wr_1118, wt_1119, ec_1120, uc_1121, wc_1122, hc_1123, eb_1124, ub_1125, wb_1126, hb_1127⟩ := id hR_90
  have hp_11141 := hp_1114.1
  have hp_1114t := teF_le (f := f9) hp_1114.1
  refine lv_sipush (v := 400) hx hb dX4_readEither_13 (by decide) ?_
  refine lv_icmp_ge (tgt := 101) hx hb dX4_readEither_16 (by decide) (fun c_1128 => ?_) (fun c_1128 => ?_)
  · have d_1129 := n_le (a := 400) (b := i_52) (by omega) (by omega) c_1128
    refine lv_iload_n hx hb dX4_readEither_101 rfl (lv_at hl 2 rfl) ?_
    refine lv_if_eq (tgt := 111) hx hb dX4_readEither_102 (by decide) (fun c_1130 => absurd c_1130 (by decide)) (fun c_1130 => ?_)
    refine lv_aload_n hx hb dX4_readEither_105 rfl (lv_at hl 4 rfl) ?_
    refine lv_bipush (v := (-3)) hx hb dX4_readEither_106 (by decide) ?_
    have hFc := free_all hD hS hA
    refine va_callv (va_runV (As := [.int (-3)]) (rest := []) ⟨hx, hb, hml, hown, hts⟩ (r_addCode l D ρ ws_56 ty_79 adK adV fo f9 rd krd tp ktp cd bb tl ts_93 T_83 nk fr (nI k_91) (nI p_92) vl_84 (1, 0, 0, 0) (-3) H.size htl hng (⟨kc_1106, cc_1107, tc_1108, fc_1109, kb_1110, cb_1111, tb_1112, fb_1113, hp_1114, hT_1115, er_1116, et_1117, wr_1118, wt_1119, ec_1120, uc_1121, wc_1122, hc_1123, eb_1124, ub_1125, wb_1126, hb_1127⟩ : RSX ρ ws_56 ty_79 f9 rd krd tp ktp cd bb tl ts_93 T_83 nk fr (nI k_91) (nI p_92) vl_84) rfl) (cwV 1 hts gX4_readEither_X4_addCode rfl rfl rfl (by decide +kernel) ⟨Nat.le_of_ble_eq_true rfl, Nat.le_of_ble_eq_true rfl⟩) ⟨fun a U g mk q => by obtain ⟨q0, q1, qP, qK, qD, qS⟩ := q; exact ⟨q0, q1, qP, va_K.moved (u := U) (U := U.calling g mk a) (Vm.Alike.refl U.vm) qK, qD, SZ.same rfl rfl qS⟩, va_recv hK hP (ci := 4) (q0 := krd) rfl er_1116, fun U hU hW => ⟨rfl, by rw [hU], by rw [hU]; exact hP, va_K.moved hW.alike hK, hD.weaken (fun _ _ _ _ => trivial), hsz9.go hS hW hU hFc⟩⟩ rfl rfl hl.1 rfl (lv_room (Nat.le_of_ble_eq_true rfl)) dX4_readEither_108 ⟨Nat.le_of_ble_eq_true rfl, Nat.le_of_ble_eq_true rfl⟩) hS (fun q _ h => hFc q h) hFc (fun u t H1 locs ht hvm w_1132 hB hz1 hk1 hS => ?_)
    obtain ⟨ws_1133, ty_1134, hm_1135, ht_1137, hP1, hK1, hD1, hx_1136⟩ := hB
    rw [ht] at hP1
    have hK := va_K.moved hvm.symm hK1
    have hD := hD1.weaken (fun _ _ _ h => hFc _ h)
    generalize H1 = H at hP1 hS ⊢
    have hP := hP1
    obtain ⟨g_1139, e_1138, h_1140⟩ := hm_1135.obj er_1116
    obtain ⟨z_1141, z_1142, z_1143, z_1144, z_1145, z_1146, rfl⟩ := smX4 h_1140
    obtain ⟨g_1148, e_1147, h_1149⟩ := hm_1135.obj et_1117
    obtain ⟨z_1150, z_1151, z_1152, z_1153, rfl⟩ := smX6 h_1149
    obtain ⟨f_1155, e_1154⟩ := hm_1135.arrI ec_1120
    have u_1156 := ht_1137 _ _ uc_1121
    have e_1157 := hm_1135.keep (by rw [wb_1126]; omega) eb_1124
    have u_1158 := ht_1137 _ _ ub_1125
    have hsm := hsm.tr (hm_1135.mono (by decide))
    have hlp_58 := hlp_58.tr (hm_1135.mono (by decide))
    have htx := htx.tr ht_1137
    rcases hx_1136 with ⟨hl_1159, hR_1160⟩ | ⟨hl_1159, hR_1160⟩
    · obtain ⟨kc_1161, cc_1162, tc_1163, fc_1164, kb_1165, cb_1166, tb_1167, fb_1168, hp_1169, hT_1170, er_1171, et_1172, wr_1173, wt_1174, ec_1175, uc_1176, wc_1177, hc_1178, eb_1179, ub_1180, wb_1181, hb_1182⟩ := id hR_1160
      have hp_11691 := hp_1169.1
      have hp_1169t := teF_le (f := f9) hp_1169.1
      refine lv_iload_n hx hb dX4_readEither_111 rfl (lv_at hl 1 rfl) ?_
      exact W.zret (v := 0) hx hb hr rfl (fun t ht hW => ⟨⟨0, 0, rfl, rfl, ws_1133, ty_1134, hsm, htx, by rw [ht]; exact hP, va_K.moved hW.alike hK, hD, Or.inl ⟨rfl, k_91, p_92, _, _, _, by omega, by omega, hr_85, (⟨kc_1161, cc_1162, tc_1163, fc_1164, kb_1165, cb_1166, tb_1167, fb_1168, hp_1169, hT_1170, er_1171, et_1172, wr_1173, wt_1174, ec_1175, uc_1176, wc_1177, hc_1178, eb_1179, ub_1180, wb_1181, hb_1182⟩ : RSX ρ ws_1133 ty_1134 f9 rd krd tp ktp cd bb tl ts_93 (T_83 ++ [(1, 0, 0, 0)]) nk fr (nI k_91) (nI p_92) vl_84)⟩⟩, hS.F ht⟩) hS.2.2 dX4_readEither_112
    obtain ⟨kc_1183, cc_1184, tc_1185, fc_1186, kb_1187, cb_1188, tb_1189, fb_1190, hp_1191, hT_1192, er_1193, et_1194, wr_1195, wt_1196, ec_1197, uc_1198, wc_1199, hc_1200, eb_1201, ub_1202, wb_1203, hb_1204⟩ := id hR_1160
    have hp_11911 := hp_1191.1
    have hp_1191t := teF_le (f := f9) hp_1191.1
    refine lv_iload_n hx hb dX4_readEither_111 rfl (lv_at hl 1 rfl) ?_
    exact W.zret (v := 0) hx hb hr rfl (fun t ht hW => ⟨⟨0, 0, rfl, rfl, ws_1133, ty_1134, hsm, htx, by rw [ht]; exact hP, va_K.moved hW.alike hK, hD, Or.inl ⟨rfl, k_91, p_92, _, _, _, by omega, by omega, hr_85, (⟨kc_1183, cc_1184, tc_1185, fc_1186, kb_1187, cb_1188, tb_1189, fb_1190, hp_1191, hT_1192, er_1193, et_1194, wr_1195, wt_1196, ec_1197, uc_1198, wc_1199, hc_1200, eb_1201, ub_1202, wb_1203, hb_1204⟩ : RSX ρ ws_1133 ty_1134 f9 rd krd tp ktp cd bb tl ts_93 T_83 nk fr (nI k_91) (nI p_92) vl_84)⟩⟩, hS.F ht⟩) hS.2.2 dX4_readEither_112
  have d_1205 := n_nle (a := 400) (b := i_52) (by omega) (by omega) c_1128
  refine lv_iload_n hx hb dX4_readEither_19 rfl (lv_at hl 1 rfl) ?_
  refine lv_if_eq (tgt := 101) hx hb dX4_readEither_20 (by decide) (fun c_1206 => ?_) (fun c_1206 => absurd (by decide) c_1206)
  refine lv_iload_n hx hb dX4_readEither_101 rfl (lv_at hl 2 rfl) ?_
  refine lv_if_eq (tgt := 111) hx hb dX4_readEither_102 (by decide) (fun c_1207 => absurd c_1207 (by decide)) (fun c_1207 => ?_)
  refine lv_aload_n hx hb dX4_readEither_105 rfl (lv_at hl 4 rfl) ?_
  refine lv_bipush (v := (-3)) hx hb dX4_readEither_106 (by decide) ?_
  have hFc := free_all hD hS hA
  refine va_callv (va_runV (As := [.int (-3)]) (rest := []) ⟨hx, hb, hml, hown, hts⟩ (r_addCode l D ρ ws_56 ty_79 adK adV fo f9 rd krd tp ktp cd bb tl ts_93 T_83 nk fr (nI k_91) (nI p_92) vl_84 (1, 0, 0, 0) (-3) H.size htl hng (⟨kc_1106, cc_1107, tc_1108, fc_1109, kb_1110, cb_1111, tb_1112, fb_1113, hp_1114, hT_1115, er_1116, et_1117, wr_1118, wt_1119, ec_1120, uc_1121, wc_1122, hc_1123, eb_1124, ub_1125, wb_1126, hb_1127⟩ : RSX ρ ws_56 ty_79 f9 rd krd tp ktp cd bb tl ts_93 T_83 nk fr (nI k_91) (nI p_92) vl_84) rfl) (cwV 1 hts gX4_readEither_X4_addCode rfl rfl rfl (by decide +kernel) ⟨Nat.le_of_ble_eq_true rfl, Nat.le_of_ble_eq_true rfl⟩) ⟨fun a U g mk q => by obtain ⟨q0, q1, qP, qK, qD, qS⟩ := q; exact ⟨q0, q1, qP, va_K.moved (u := U) (U := U.calling g mk a) (Vm.Alike.refl U.vm) qK, qD, SZ.same rfl rfl qS⟩, va_recv hK hP (ci := 4) (q0 := krd) rfl er_1116, fun U hU hW => ⟨rfl, by rw [hU], by rw [hU]; exact hP, va_K.moved hW.alike hK, hD.weaken (fun _ _ _ _ => trivial), hsz9.go hS hW hU hFc⟩⟩ rfl rfl hl.1 rfl (lv_room (Nat.le_of_ble_eq_true rfl)) dX4_readEither_108 ⟨Nat.le_of_ble_eq_true rfl, Nat.le_of_ble_eq_true rfl⟩) hS (fun q _ h => hFc q h) hFc (fun u t H1 locs ht hvm w_1209 hB hz1 hk1 hS => ?_)
  obtain ⟨ws_1210, ty_1211, hm_1212, ht_1214, hP1, hK1, hD1, hx_1213⟩ := hB
  rw [ht] at hP1
  have hK := va_K.moved hvm.symm hK1
  have hD := hD1.weaken (fun _ _ _ h => hFc _ h)
  generalize H1 = H at hP1 hS ⊢
  have hP := hP1
  obtain ⟨g_1216, e_1215, h_1217⟩ := hm_1212.obj er_1116
  obtain ⟨z_1218, z_1219, z_1220, z_1221, z_1222, z_1223, rfl⟩ := smX4 h_1217
  obtain ⟨g_1225, e_1224, h_1226⟩ := hm_1212.obj et_1117
  obtain ⟨z_1227, z_1228, z_1229, z_1230, rfl⟩ := smX6 h_1226
  obtain ⟨f_1232, e_1231⟩ := hm_1212.arrI ec_1120
  have u_1233 := ht_1214 _ _ uc_1121
  have e_1234 := hm_1212.keep (by rw [wb_1126]; omega) eb_1124
  have u_1235 := ht_1214 _ _ ub_1125
  have hsm := hsm.tr (hm_1212.mono (by decide))
  have hlp_58 := hlp_58.tr (hm_1212.mono (by decide))
  have htx := htx.tr ht_1214
  rcases hx_1213 with ⟨hl_1236, hR_1237⟩ | ⟨hl_1236, hR_1237⟩
  · obtain ⟨kc_1238, cc_1239, tc_1240, fc_1241, kb_1242, cb_1243, tb_1244, fb_1245, hp_1246, hT_1247, er_1248, et_1249, wr_1250, wt_1251, ec_1252, uc_1253, wc_1254, hc_1255, eb_1256, ub_1257, wb_1258, hb_1259⟩ := id hR_1237
    have hp_12461 := hp_1246.1
    have hp_1246t := teF_le (f := f9) hp_1246.1
    refine lv_iload_n hx hb dX4_readEither_111 rfl (lv_at hl 1 rfl) ?_
    exact W.zret (v := 0) hx hb hr rfl (fun t ht hW => ⟨⟨0, 0, rfl, rfl, ws_1210, ty_1211, hsm, htx, by rw [ht]; exact hP, va_K.moved hW.alike hK, hD, Or.inl ⟨rfl, k_91, p_92, _, _, _, by omega, by omega, hr_85, (⟨kc_1238, cc_1239, tc_1240, fc_1241, kb_1242, cb_1243, tb_1244, fb_1245, hp_1246, hT_1247, er_1248, et_1249, wr_1250, wt_1251, ec_1252, uc_1253, wc_1254, hc_1255, eb_1256, ub_1257, wb_1258, hb_1259⟩ : RSX ρ ws_1210 ty_1211 f9 rd krd tp ktp cd bb tl ts_93 (T_83 ++ [(1, 0, 0, 0)]) nk fr (nI k_91) (nI p_92) vl_84)⟩⟩, hS.F ht⟩) hS.2.2 dX4_readEither_112
  obtain ⟨kc_1260, cc_1261, tc_1262, fc_1263, kb_1264, cb_1265, tb_1266, fb_1267, hp_1268, hT_1269, er_1270, et_1271, wr_1272, wt_1273, ec_1274, uc_1275, wc_1276, hc_1277, eb_1278, ub_1279, wb_1280, hb_1281⟩ := id hR_1237
  have hp_12681 := hp_1268.1
  have hp_1268t := teF_le (f := f9) hp_1268.1
  refine lv_iload_n hx hb dX4_readEither_111 rfl (lv_at hl 1 rfl) ?_
  exact W.zret (v := 0) hx hb hr rfl (fun t ht hW => ⟨⟨0, 0, rfl, rfl, ws_1210, ty_1211, hsm, htx, by rw [ht]; exact hP, va_K.moved hW.alike hK, hD, Or.inl ⟨rfl, k_91, p_92, _, _, _, by omega, by omega, hr_85, (⟨kc_1260, cc_1261, tc_1262, fc_1263, kb_1264, cb_1265, tb_1266, fb_1267, hp_1268, hT_1269, er_1270, et_1271, wr_1272, wt_1273, ec_1274, uc_1275, wc_1276, hc_1277, eb_1278, ub_1279, wb_1280, hb_1281⟩ : RSX ρ ws_1210 ty_1211 f9 rd krd tp ktp cd bb tl ts_93 T_83 nk fr (nI k_91) (nI p_92) vl_84)⟩⟩, hS.F ht⟩) hS.2.2 dX4_readEither_112
set_option maxHeartbeats 4000000 in
set_option maxRecDepth 100000 in
theorem r_readOne1 (l : Launch) (D : va_G) (ρ : Nat → Nat) (ws : va_W) (tys : List (ClassId × FieldType)) (adK adV : Nat → Nat) (fo : Option Nat) (f9 : Nat → Int32) (rd krd tp ktp cd bb tl ts : Nat) (T : List Tk) (nk : Int64) (fr fk fp vl : Int32) (σ : List Nat) (sz : Nat) (htl : tl ≤ 400) (hng : ∀ i : Nat, i < tl → ¬ f9 i = -1) (R0 : RSX ρ ws tys f9 rd krd tp ktp cd bb tl ts T nk fr fk fp vl) (hdp : dep σ = 1) (hT2 : 2 * T.length ≤ ts) : Met l yX4_readOne wsX4_readOne ({ frames := 17, cells := 0, slots := 0, locals := 389 }) (va_Pc [.ref rd, .int 1] (fun U => U.heap.size = sz ∧ va_P D vwCl ws U.heap ∧ va_K D vwCl tys U ∧ va_D (fun _ => True) ws ∧ SZ adK adV fo (va_A ws sz) U U.heap)) (va_Qi (fun (r : Int32) (s9 : Int32) => r = s9) (fun (s9 : Int32) (t : State) => ∃ (ws' : va_W) (tys' : List (ClassId × FieldType)), sm ρ [4, 6] ws ws' ∧ tyx tys tys' ∧ va_P D vwCl ws' t.heap ∧ va_K D vwCl tys' t ∧ va_D (va_A ws sz) ws' ∧ ((s9 = 0 ∧ FLT ρ ws' tys' f9 rd krd tp ktp cd bb tl (0, ts, σ, T) nk fr) ∨ (s9 = 1 ∧ ONE ρ ws' tys' f9 rd krd tp ktp cd bb tl ts σ T nk fr fk fp))) (va_A ws sz)) 0 0 (va_A ws sz) := by
  refine Met.ofW (cc := cX4_readOne) (maxL := 4) (ret := (some .boolean)) (by decide) rfl ?_
  intro p e s m args below meth c s₁ B hml hv
  obtain ⟨rfl, hsz, hP, hK, hD0, hsz9⟩ := hv
  have hx := B.exec
  have hb := B.bytes
  have hr := B.returns
  have hts := atoms_spec (ws := wsX4_readOne) B.pre
  have hown : s.vm.findClass RX4 = some m.cls := findClass_of_methodNamed B.named
  have hlocks := B.notSynchronized
  subst hsz
  have hD := hD0.self (sz := s.heap.size)
  generalize hAe : va_A ws s.heap.size = A at hD hsz9 ⊢
  have hA : ∀ q : Nat, s.heap.size ≤ q → A q := fun q h => by rw [← hAe]; exact Or.inr h
  have hS : va_S A s.heap s.heap [] := va_S.rf
  have hsm : sm ρ [4, 6] ws ws := sm.rf ws
  have htx : tyx tys tys := tyx.rf tys
  have hin4 : ∀ w ∈ u_ws RX4 TX4 8, w ∈ wsX4_readOne := (fun _ h9 => List.mem_cons_of_mem _ (List.mem_append_left _ ((List.mem_append_right _ h9))))
  have hl := lv_entry ([.ref rd, .int 1]) (n := 4) (Nat.le_of_ble_eq_true rfl)
  rw [lg_entry_eq]
  generalize (lg_sl ([.ref rd, .int 1]) ++ List.replicate (4 - (lg_sl ([.ref rd, .int 1])).length) Slot.unset).toArray = ls at hl ⊢
  have hl : lv_has ls 4 [(0, .ref rd), (1, .int 1)] := hl
  obtain ⟨kc_1, cc_2, tc_3, fc_4, kb_5, cb_6, tb_7, fb_8, hp_9, hT_10, er_11, et_12, wr_13, wt_14, ec_15, uc_16, wc_17, hc_18, eb_19, ub_20, wb_21, hb_22⟩ := id R0
  have hp_91 := hp_9.1
  have hp_9t := teF_le (f := f9) hp_9.1
  have hpc9 := hp_91
  refine lv_aload_n hx hb dX4_readOne_0 rfl (lv_at hl 0 rfl) ?_
  refine va_get (D := D) (ci := 4) (v := .ref tp) (C := RX4) (T := TX4) (N := 8) hx hb hts hin4 hown hK hP krd er_11 rfl 0 (by decide) (hts (.fieldLink RX4 12 "HoneyHouse$RuleReader" "tape" "LHoneyHouse$Tape;") (List.mem_of_getElem? (i := 1) rfl)) (fun _ h9 => h9) rfl dX4_readOne_1 ?_
  refine va_ldcS hx hb hown hsz9.2.2.2.2.2.2.1 dX4_readOne_4 ?_
  have hFc := free_all hD hS hA
  refine va_calli (va_runV (As := [.ref (adK 3)]) (rest := []) ⟨hx, hb, hml, hown, hts⟩ (a_isWord l D (rz []) ws tys adK adV fo 3 f9 tp ktp tl ts bb kb_5 cb_6 tb_7 fb_8 s.heap.size (by decide) htl hb_22 hng hp_9 et_12 eb_19 ub_20 rz_o0) (cwV 1 hts gX4_readOne_X6_isWord rfl rfl rfl (by decide +kernel) ⟨Nat.le_of_ble_eq_true rfl, Nat.le_of_ble_eq_true rfl⟩) ⟨fun a U g mk q => by obtain ⟨q0, q1, qP, qK, qD, qS⟩ := q; exact ⟨q0, q1, qP, va_K.moved (u := U) (U := U.calling g mk a) (Vm.Alike.refl U.vm) qK, qD, SZ.same rfl rfl qS⟩, va_recv hK hP (ci := 6) (q0 := ktp) rfl et_12, fun U hU hW => ⟨rfl, by rw [hU], by rw [hU]; exact hP, va_K.moved hW.alike hK, hD.weaken (fun _ _ _ _ => trivial), hsz9.go hS hW hU hFc⟩⟩ rfl rfl hl.1 rfl (lv_room (Nat.le_of_ble_eq_true rfl)) dX4_readOne_6 ⟨Nat.le_of_ble_eq_true rfl, Nat.le_of_ble_eq_true rfl⟩) hS (fun q _ h => hFc q h) hFc (fun r_23 u t H1 locs ht hvm w_24 hB hz1 hk1 hS => ?_)
  obtain ⟨ws_25, ty_26, hm_27, ht_29, hP1, hK1, hD1, hx_28⟩ := hB
  rw [ht] at hP1
  have hK := va_K.moved hvm.symm hK1
  have hD := hD1.weaken (fun _ _ _ h => hFc _ h)
  generalize H1 = H at hP1 hS ⊢
  have hP := hP1
  have e_30 := hm_27.keep rz_o0 er_11
  have e_31 := hm_27.keep rz_o0 et_12
  have e_32 := hm_27.keep rz_o0 ec_15
  have e_33 := hm_27.keep rz_o0 eb_19
  have u_34 := ht_29 _ _ uc_16
  have u_35 := ht_29 _ _ ub_20
  have hm_36 : sm ρ [] ws ws_25 := hm_27.up (fun k _ h => rz_u0  k h)
  have hsm := hsm.tr (hm_36.mono (by decide))
  have htx := htx.tr ht_29
  rcases w_24 with ⟨rfl, iw_37⟩ | ⟨rfl, iw_37⟩
  · have iw_37 : ¬ wdE f9 tl ts = 3 := iw_37
    refine lv_istore_n (lv' := [(2, .int 0), (0, .ref rd), (1, .int 1)]) hx hb dX4_readOne_9 rfl hl (by decide) rfl (fun ls hl => ?_)
    refine lv_iload_n hx hb dX4_readOne_10 rfl (lv_at hl 0 rfl) ?_
    refine lv_if_ne (tgt := 31) hx hb dX4_readOne_11 (by decide) (fun c_38 => absurd (by decide) c_38) (fun c_38 => ?_)
    refine lv_aload_n hx hb dX4_readOne_14 rfl (lv_at hl 1 rfl) ?_
    refine va_get (D := D) (ci := 4) (v := .ref tp) (C := RX4) (T := TX4) (N := 8) hx hb hts hin4 hown hK hP krd e_30 rfl 0 (by decide) (hts (.fieldLink RX4 12 "HoneyHouse$RuleReader" "tape" "LHoneyHouse$Tape;") (List.mem_of_getElem? (i := 1) rfl)) (fun _ h9 => h9) rfl dX4_readOne_15 ?_
    refine lv_bipush (v := 40) hx hb dX4_readOne_18 (by decide) ?_
    refine vp_callSi (W.runV (As := [.int 40]) (rest := []) ⟨hx, hb, hml, hown, hts⟩ (s_isByte l D ws_25 ty_26 f9 tp ktp tl ts bb kb_5 cb_6 tb_7 fb_8 40 (by unfold ltr; decide) (by unfold dgt; decide) htl hb_22 hng hp_9 e_31 e_33 u_35) (cwV 1 hts gX4_readOne_X6_isByte rfl rfl rfl (by decide +kernel) ⟨Nat.le_of_ble_eq_true rfl, Nat.le_of_ble_eq_true rfl⟩) ⟨fun a U g mk q => ⟨q.1, q.2.1, va_K.moved (u := U) (U := U.calling g mk a) (Vm.Alike.refl U.vm) q.2.2⟩, va_recv hK hP (ci := 6) (q0 := ktp) rfl e_31, fun U hU hW => ⟨rfl, by rw [hU]; exact hP, va_K.moved hW.alike hK⟩⟩ rfl rfl hl.1 rfl (lv_room (Nat.le_of_ble_eq_true rfl)) dX4_readOne_20 ⟨Nat.le_of_ble_eq_true rfl, Nat.le_of_ble_eq_true rfl⟩) (fun r_39 k_40 => ?_)
    rcases k_40 with ⟨rfl, ib_41⟩ | ⟨rfl, ib_41⟩
    · refine lv_if_ne (tgt := 31) hx hb dX4_readOne_23 (by decide) (fun c_42 => absurd (by decide) c_42) (fun c_42 => ?_)
      refine lv_aload_n hx hb dX4_readOne_26 rfl (lv_at hl 1 rfl) ?_
      have hFc := free_all hD hS hA
      refine va_calli (va_runV (As := []) (rest := []) ⟨hx, hb, hml, hown, hts⟩ (r_readTest l D ρ ws_25 ty_26 adK adV fo f9 rd krd tp ktp cd bb tl ts T nk fr fk fp vl  H.size htl hng (⟨kc_1, cc_2, tc_3, fc_4, kb_5, cb_6, tb_7, fb_8, hp_9, hT_10, e_30, e_31, wr_13, wt_14, e_32, u_34, wc_17, hc_18, e_33, u_35, wb_21, hb_22⟩ : RSX ρ ws_25 ty_26 f9 rd krd tp ktp cd bb tl ts T nk fr fk fp vl) (by omega)) (cwV 0 hts gX4_readOne_X4_readTest rfl rfl rfl (by decide +kernel) ⟨Nat.le_of_ble_eq_true rfl, Nat.le_of_ble_eq_true rfl⟩) ⟨fun a U g mk q => by obtain ⟨q0, q1, qP, qK, qD, qS⟩ := q; exact ⟨q0, q1, qP, va_K.moved (u := U) (U := U.calling g mk a) (Vm.Alike.refl U.vm) qK, qD, SZ.same rfl rfl qS⟩, va_recv hK hP (ci := 4) (q0 := krd) rfl e_30, fun U hU hW => ⟨rfl, by rw [hU], by rw [hU]; exact hP, va_K.moved hW.alike hK, hD.weaken (fun _ _ _ _ => trivial), hsz9.go hS hW hU hFc⟩⟩ rfl rfl hl.1 rfl (lv_room (Nat.le_of_ble_eq_true rfl)) dX4_readOne_27 ⟨Nat.le_of_ble_eq_true rfl, Nat.le_of_ble_eq_true rfl⟩) hS (fun q _ h => hFc q h) hFc (fun r_43 u t H1 locs ht hvm w_44 hB hz1 hk1 hS => ?_)
      subst w_44
      obtain ⟨ws_45, ty_46, hm_47, ht_49, hP1, hK1, hD1, hx_48⟩ := hB
      rw [ht] at hP1
      have hK := va_K.moved hvm.symm hK1
      have hD := hD1.weaken (fun _ _ _ h => hFc _ h)
      generalize H1 = H at hP1 hS ⊢
      have hP := hP1
      obtain ⟨g_51, e_50, h_52⟩ := hm_47.obj e_30
      obtain ⟨z_53, z_54, z_55, z_56, z_57, z_58, rfl⟩ := smX4 h_52
      obtain ⟨g_60, e_59, h_61⟩ := hm_47.obj e_31
      obtain ⟨z_62, z_63, z_64, z_65, rfl⟩ := smX6 h_61
      obtain ⟨f_67, e_66⟩ := hm_47.arrI e_32
      have u_68 := ht_49 _ _ u_34
      have e_69 := hm_47.keep (by rw [wb_21]; omega) e_33
      have u_70 := ht_49 _ _ u_35
      have hsm := hsm.tr (hm_47.mono (by decide))
      have htx := htx.tr ht_49
      obtain ⟨k_71, p_72, w_73, m_74, v_75, ht_76, ⟨rfl, hk_77, hk_78, ts_79, vl_80, hR_81⟩ | ⟨rfl, hk_77, hg_82, vl_80, hR_81⟩⟩ := hx_48
      · obtain ⟨kc_83, cc_84, tc_85, fc_86, kb_87, cb_88, tb_89, fb_90, hp_91, hT_92, er_93, et_94, wr_95, wt_96, ec_97, uc_98, wc_99, hc_100, eb_101, ub_102, wb_103, hb_104⟩ := id hR_81
        have hp_911 := hp_91.1
        have hp_91t := teF_le (f := f9) hp_91.1
        exact W.zret (v := 0) hx hb hr rfl (fun t ht hW => ⟨⟨0, 0, rfl, rfl, ws_45, ty_46, hsm, htx, by rw [ht]; exact hP, va_K.moved hW.alike hK, hD, Or.inl ⟨rfl, k_71, p_72, _, _, _, by omega, by omega, (Rch.rf _).st (st_tf (fun q9 => q9.elim ib_41 iw_37) ht_76 hk_77), (⟨kc_83, cc_84, tc_85, fc_86, kb_87, cb_88, tb_89, fb_90, hp_91, hT_92, er_93, et_94, wr_95, wt_96, ec_97, uc_98, wc_99, hc_100, eb_101, ub_102, wb_103, hb_104⟩ : RSX ρ ws_45 ty_46 f9 rd krd tp ktp cd bb tl ts_79 T nk fr (nI k_71) (nI p_72) vl_80)⟩⟩, hS.F ht⟩) hS.2.2 dX4_readOne_30
      subst hk_77
      obtain ⟨kc_105, cc_106, tc_107, fc_108, kb_109, cb_110, tb_111, fb_112, hp_113, hT_114, er_115, et_116, wr_117, wt_118, ec_119, uc_120, wc_121, hc_122, eb_123, ub_124, wb_125, hb_126⟩ := id hR_81
      have hp_1131 := hp_113.1
      have hp_113t := teF_le (f := f9) hp_113.1
      exact W.zret (v := 1) hx hb hr rfl (fun t ht hW => ⟨⟨1, 1, rfl, rfl, ws_45, ty_46, hsm, htx, by rw [ht]; exact hP, va_K.moved hW.alike hK, hD, Or.inr ⟨rfl, p_72, _, _, (Rch.rf _).st (st_te (fun q9 => q9.elim ib_41 iw_37) ht_76), by omega, by rw [len_a1]; omega, (⟨kc_105, cc_106, tc_107, fc_108, kb_109, cb_110, tb_111, fb_112, hp_113, hT_114, er_115, et_116, wr_117, wt_118, ec_119, uc_120, wc_121, hc_122, eb_123, ub_124, wb_125, hb_126⟩ : RSX ρ ws_45 ty_46 f9 rd krd tp ktp cd bb tl p_72 (T ++ [(13, w_73, m_74, v_75)]) nk fr fk fp vl_80)⟩⟩, hS.F ht⟩) hS.2.2 dX4_readOne_30
    refine lv_if_ne (tgt := 31) hx hb dX4_readOne_23 (by decide) (fun c_127 => ?_) (fun c_127 => absurd c_127 (by decide))
    have hw9 := wd_40 ib_41
    refine lv_iload_n hx hb dX4_readOne_31 rfl (lv_at hl 2 rfl) ?_
    refine lv_bipush (v := 6) hx hb dX4_readOne_32 (by decide) ?_
    refine lv_icmp_lt (tgt := 50) hx hb dX4_readOne_34 (by decide) (fun c_128 => ?_) (fun c_128 => absurd (by decide) c_128)
    refine lv_aload_n hx hb dX4_readOne_50 rfl (lv_at hl 1 rfl) ?_
    refine va_get (D := D) (ci := 4) (v := .ref tp) (C := RX4) (T := TX4) (N := 8) hx hb hts hin4 hown hK hP krd e_30 rfl 0 (by decide) (hts (.fieldLink RX4 12 "HoneyHouse$RuleReader" "tape" "LHoneyHouse$Tape;") (List.mem_of_getElem? (i := 1) rfl)) (fun _ h9 => h9) rfl dX4_readOne_51 ?_
    have hFc := free_all hD hS hA
    refine va_callv (va_runV (As := []) (rest := []) ⟨hx, hb, hml, hown, hts⟩ (a_advance l D (rz [ktp]) ws_25 ty_26 f9 tp ktp tl (teF f9 tl ts) (nI (kdF f9 tl ts)) (nI ts) bb kb_5 cb_6 tb_7 fb_8 H.size htl hb_22 hng (by omega) e_31 e_33 u_35 (rz_o1 (pl_ne e_33 e_31 (by intro h9; simp at h9))) (rz_in (by simp))) (cwV 0 hts gX4_readOne_X6_advance rfl rfl rfl (by decide +kernel) ⟨Nat.le_of_ble_eq_true rfl, Nat.le_of_ble_eq_true rfl⟩) ⟨fun a U g mk q => by obtain ⟨q0, q1, qP, qK, qD⟩ := q; exact ⟨q0, q1, qP, va_K.moved (u := U) (U := U.calling g mk a) (Vm.Alike.refl U.vm) qK, qD⟩, va_recv hK hP (ci := 6) (q0 := ktp) rfl e_31, fun U hU hW => ⟨rfl, by rw [hU], by rw [hU]; exact hP, va_K.moved hW.alike hK, hD.weaken (fun _ _ _ _ => trivial)⟩⟩ rfl rfl hl.1 rfl (lv_room (Nat.le_of_ble_eq_true rfl)) dX4_readOne_54 ⟨Nat.le_of_ble_eq_true rfl, Nat.le_of_ble_eq_true rfl⟩) hS (fun q _ h => hFc q h) hFc (fun u t H1 locs ht hvm w_130 hB hz1 hk1 hS => ?_)
    obtain ⟨ws_131, ty_132, hm_133, ht_135, hP1, hK1, hD1, hx_134⟩ := hB
    rw [ht] at hP1
    have hK := va_K.moved hvm.symm hK1
    have hD := hD1.weaken (fun _ _ _ h => hFc _ h)
    generalize H1 = H at hP1 hS ⊢
    have hP := hP1
    have e_136 := hm_133.keep (rz_o1 (pl_ne e_30 e_31 (by intro h9; simp at h9))) e_30
    have e_137 := hm_133.keep (rz_o1 (pl_ne e_32 e_31 (by intro h9; simp at h9))) e_32
    have e_138 := hm_133.keep (rz_o1 (pl_ne e_33 e_31 (by intro h9; simp at h9))) e_33
    have u_139 := ht_135 _ _ u_34
    have u_140 := ht_135 _ _ u_35
    have hm_141 : sm ρ [6] ws_25 ws_131 := hm_133.up (fun k _ h => rz_u1 wt_14 k h)
    have hsm := hsm.tr (hm_141.mono (by decide))
    have htx := htx.tr ht_135
    have e_142 : ws_131[ktp]? = some (tp, .inr (6, [.int (nI tl), .int (nI (kdF f9 tl (nxF f9 tl ts))), .int (nI (nxF f9 tl ts)), .int (nI (teF f9 tl (nxF f9 tl ts))), .ref bb])) := hx_134; have hq_143 : pcB f9 tl (nxF f9 tl ts) := nxF_pc (f := f9) hp_9.1; have hq_1431 := hq_143.1; have hq_143t := teF_le (f := f9) hq_143.1; have hg_144 := nx_gain (f := f9) hp_9.1
    refine lv_iload_n hx hb dX4_readOne_57 rfl (lv_at hl 0 rfl) ?_
    refine lv_if_ne (tgt := 86) hx hb dX4_readOne_58 (by decide) (fun c_145 => absurd (by decide) c_145) (fun c_145 => ?_)
    refine lv_aload_n hx hb dX4_readOne_61 rfl (lv_at hl 1 rfl) ?_
    refine lv_iload_n hx hb dX4_readOne_62 rfl (lv_at hl 2 rfl) ?_
    refine lv_iconst (v := 1) hx hb dX4_readOne_63 (by decide) ?_
    refine lv_iadd hx hb dX4_readOne_64 ?_
    refine tp_i (y := 2) (by decide) ?_
    have hFc := free_all hD hS hA
    refine va_calli (va_runV (As := [.int 2]) (rest := []) ⟨hx, hb, hml, hown, hts⟩ (r_readEither2 l D ρ ws_131 ty_132 adK adV fo f9 rd krd tp ktp cd bb tl (nxF f9 tl ts) T nk fr fk fp vl (12 :: σ) H.size htl hng (⟨kc_1, cc_2, tc_3, fc_4, kb_5, cb_6, tb_7, fb_8, hq_143, hT_10, e_136, e_142, wr_13, wt_14, e_137, u_139, wc_17, hc_18, e_138, u_140, wb_21, hb_22⟩ : RSX ρ ws_131 ty_132 f9 rd krd tp ktp cd bb tl (nxF f9 tl ts) T nk fr fk fp vl) (bas_12 σ) ((dep_y σ (Or.inr rfl)).trans (by omega)) (by omega)) (cwV 1 hts gX4_readOne_X4_readEither rfl rfl rfl (by decide +kernel) ⟨Nat.le_of_ble_eq_true rfl, Nat.le_of_ble_eq_true rfl⟩) ⟨fun a U g mk q => by obtain ⟨q0, q1, qP, qK, qD, qS⟩ := q; exact ⟨q0, q1, qP, va_K.moved (u := U) (U := U.calling g mk a) (Vm.Alike.refl U.vm) qK, qD, SZ.same rfl rfl qS⟩, va_recv hK hP (ci := 4) (q0 := krd) rfl e_136, fun U hU hW => ⟨rfl, by rw [hU], by rw [hU]; exact hP, va_K.moved hW.alike hK, hD.weaken (fun _ _ _ _ => trivial), hsz9.go hS hW hU hFc⟩⟩ rfl rfl hl.1 rfl (lv_room (Nat.le_of_ble_eq_true rfl)) dX4_readOne_65 ⟨Nat.le_of_ble_eq_true rfl, Nat.le_of_ble_eq_true rfl⟩) hS (fun q _ h => hFc q h) hFc (fun r_146 u t H1 locs ht hvm w_147 hB hz1 hk1 hS => ?_)
    subst w_147
    obtain ⟨ws_148, ty_149, hm_150, ht_152, hP1, hK1, hD1, hx_151⟩ := hB
    rw [ht] at hP1
    have hK := va_K.moved hvm.symm hK1
    have hD := hD1.weaken (fun _ _ _ h => hFc _ h)
    generalize H1 = H at hP1 hS ⊢
    have hP := hP1
    obtain ⟨g_154, e_153, h_155⟩ := hm_150.obj e_136
    obtain ⟨z_156, z_157, z_158, z_159, z_160, z_161, rfl⟩ := smX4 h_155
    obtain ⟨g_163, e_162, h_164⟩ := hm_150.obj e_142
    obtain ⟨z_165, z_166, z_167, z_168, rfl⟩ := smX6 h_164
    obtain ⟨f_170, e_169⟩ := hm_150.arrI e_137
    have u_171 := ht_152 _ _ u_139
    have e_172 := hm_150.keep (by rw [wb_21]; omega) e_138
    have u_173 := ht_152 _ _ u_140
    have hsm := hsm.tr (hm_150.mono (by decide))
    have htx := htx.tr ht_152
    rcases hx_151 with ⟨rfl, k_174, p_175, ts_176, T_177, vl_178, hk_179, hk_180, hr_181, hR_182⟩ | ⟨rfl, b_183, ta_184, T_177, vl_178, hr_181, hj_185, hn_186, hg_187, hg_188, hR_182⟩
    · obtain ⟨kc_189, cc_190, tc_191, fc_192, kb_193, cb_194, tb_195, fb_196, hp_197, hT_198, er_199, et_200, wr_201, wt_202, ec_203, uc_204, wc_205, hc_206, eb_207, ub_208, wb_209, hb_210⟩ := id hR_182
      have hp_1971 := hp_197.1
      have hp_197t := teF_le (f := f9) hp_197.1
      refine lv_if_eq (tgt := 84) hx hb dX4_readOne_68 (by decide) (fun c_211 => ?_) (fun c_211 => absurd (by decide) c_211)
      refine lv_iconst (v := 0) hx hb dX4_readOne_84 (by decide) ?_
      exact W.zret (v := 0) hx hb hr rfl (fun t ht hW => ⟨⟨0, 0, rfl, rfl, ws_148, ty_149, hsm, htx, by rw [ht]; exact hP, va_K.moved hW.alike hK, hD, Or.inl ⟨rfl, k_174, p_175, _, _, _, by omega, by omega, ((Rch.rf (0, ts, σ, T)).st (st_open ib_41 (by omega))).tr hr_181, (⟨kc_189, cc_190, tc_191, fc_192, kb_193, cb_194, tb_195, fb_196, hp_197, hT_198, er_199, et_200, wr_201, wt_202, ec_203, uc_204, wc_205, hc_206, eb_207, ub_208, wb_209, hb_210⟩ : RSX ρ ws_148 ty_149 f9 rd krd tp ktp cd bb tl ts_176 T_177 nk fr (nI k_174) (nI p_175) vl_178)⟩⟩, hS.F ht⟩) hS.2.2 dX4_readOne_85
    obtain ⟨kc_212, cc_213, tc_214, fc_215, kb_216, cb_217, tb_218, fb_219, hp_220, hT_221, er_222, et_223, wr_224, wt_225, ec_226, uc_227, wc_228, hc_229, eb_230, ub_231, wb_232, hb_233⟩ := id hR_182
    have hp_2201 := hp_220.1
    have hp_220t := teF_le (f := f9) hp_220.1
    refine lv_if_eq (tgt := 84) hx hb dX4_readOne_68 (by decide) (fun c_234 => absurd c_234 (by decide)) (fun c_234 => ?_)
    refine lv_aload_n hx hb dX4_readOne_71 rfl (lv_at hl 1 rfl) ?_
    refine lv_bipush (v := 41) hx hb dX4_readOne_72 (by decide) ?_
    have hFc := free_all hD hS hA
    refine va_calli (va_runV (As := [.int 41]) (rest := []) ⟨hx, hb, hml, hown, hts⟩ (r_readByte l D ρ ws_148 ty_149 adK adV fo f9 rd krd tp ktp cd bb tl b_183 (T_177 ++ eO ta_184) nk fr fk fp vl_178 41 H.size htl hng (⟨kc_212, cc_213, tc_214, fc_215, kb_216, cb_217, tb_218, fb_219, hp_220, hT_221, er_222, et_223, wr_224, wt_225, ec_226, uc_227, wc_228, hc_229, eb_230, ub_231, wb_232, hb_233⟩ : RSX ρ ws_148 ty_149 f9 rd krd tp ktp cd bb tl b_183 (T_177 ++ eO ta_184) nk fr fk fp vl_178) (by unfold ltr; decide) (by unfold dgt; decide)) (cwV 1 hts gX4_readOne_X4_readByte rfl rfl rfl (by decide +kernel) ⟨Nat.le_of_ble_eq_true rfl, Nat.le_of_ble_eq_true rfl⟩) ⟨fun a U g mk q => by obtain ⟨q0, q1, qP, qK, qD, qS⟩ := q; exact ⟨q0, q1, qP, va_K.moved (u := U) (U := U.calling g mk a) (Vm.Alike.refl U.vm) qK, qD, SZ.same rfl rfl qS⟩, va_recv hK hP (ci := 4) (q0 := krd) rfl er_222, fun U hU hW => ⟨rfl, by rw [hU], by rw [hU]; exact hP, va_K.moved hW.alike hK, hD.weaken (fun _ _ _ _ => trivial), hsz9.go hS hW hU hFc⟩⟩ rfl rfl hl.1 rfl (lv_room (Nat.le_of_ble_eq_true rfl)) dX4_readOne_74 ⟨Nat.le_of_ble_eq_true rfl, Nat.le_of_ble_eq_true rfl⟩) hS (fun q _ h => hFc q h) hFc (fun r_235 u t H1 locs ht hvm w_236 hB hz1 hk1 hS => ?_)
    subst w_236
    obtain ⟨ws_237, ty_238, hm_239, ht_241, hP1, hK1, hD1, hx_240⟩ := hB
    rw [ht] at hP1
    have hK := va_K.moved hvm.symm hK1
    have hD := hD1.weaken (fun _ _ _ h => hFc _ h)
    generalize H1 = H at hP1 hS ⊢
    have hP := hP1
    obtain ⟨g_243, e_242, h_244⟩ := hm_239.obj er_222
    obtain ⟨z_245, z_246, z_247, z_248, z_249, z_250, rfl⟩ := smX4 h_244
    obtain ⟨g_252, e_251, h_253⟩ := hm_239.obj et_223
    obtain ⟨z_254, z_255, z_256, z_257, rfl⟩ := smX6 h_253
    obtain ⟨f_259, e_258⟩ := hm_239.arrI ec_226
    have u_260 := ht_241 _ _ uc_227
    have e_261 := hm_239.keep (by rw [wb_232]; omega) eb_230
    have u_262 := ht_241 _ _ ub_231
    have hsm := hsm.tr (hm_239.mono (by decide))
    have htx := htx.tr ht_241
    rcases hx_240 with ⟨rfl, rb_263, hR_264⟩ | ⟨rfl, rb_263, hR_264⟩
    · obtain ⟨kc_265, cc_266, tc_267, fc_268, kb_269, cb_270, tb_271, fb_272, hp_273, hT_274, er_275, et_276, wr_277, wt_278, ec_279, uc_280, wc_281, hc_282, eb_283, ub_284, wb_285, hb_286⟩ := id hR_264
      have hp_2731 := hp_273.1
      have hp_273t := teF_le (f := f9) hp_273.1
      refine lv_if_eq (tgt := 84) hx hb dX4_readOne_77 (by decide) (fun c_287 => ?_) (fun c_287 => absurd (by decide) c_287)
      refine lv_iconst (v := 0) hx hb dX4_readOne_84 (by decide) ?_
      exact W.zret (v := 0) hx hb hr rfl (fun t ht hW => ⟨⟨0, 0, rfl, rfl, ws_237, ty_238, hsm, htx, by rw [ht]; exact hP, va_K.moved hW.alike hK, hD, Or.inl ⟨rfl, 1, b_183, _, _, _, by omega, by omega, (((Rch.rf (0, ts, σ, T)).st (st_open ib_41 (by omega))).tr hr_181).st (st_left hn_186 rb_263 (brk_12 hj_185)), (⟨kc_265, cc_266, tc_267, fc_268, kb_269, cb_270, tb_271, fb_272, hp_273, hT_274, er_275, et_276, wr_277, wt_278, ec_279, uc_280, wc_281, hc_282, eb_283, ub_284, wb_285, hb_286⟩ : RSX ρ ws_237 ty_238 f9 rd krd tp ktp cd bb tl b_183 (T_177 ++ eO ta_184) nk fr 1 (nI b_183) vl_178)⟩⟩, hS.F ht⟩) hS.2.2 dX4_readOne_85
    have rb_263g := nx_gain (f := f9) hp_220.1
    obtain ⟨kc_288, cc_289, tc_290, fc_291, kb_292, cb_293, tb_294, fb_295, hp_296, hT_297, er_298, et_299, wr_300, wt_301, ec_302, uc_303, wc_304, hc_305, eb_306, ub_307, wb_308, hb_309⟩ := id hR_264
    have hp_2961 := hp_296.1
    have hp_296t := teF_le (f := f9) hp_296.1
    refine lv_if_eq (tgt := 84) hx hb dX4_readOne_77 (by decide) (fun c_310 => absurd c_310 (by decide)) (fun c_310 => ?_)
    refine lv_iconst (v := 1) hx hb dX4_readOne_80 (by decide) ?_
    refine lv_goto (tgt := 85) hx hb dX4_readOne_81 (by decide) ?_
    exact W.zret (v := 1) hx hb hr rfl (fun t ht hW => ⟨⟨1, 1, rfl, rfl, ws_237, ty_238, hsm, htx, by rw [ht]; exact hP, va_K.moved hW.alike hK, hD, Or.inr ⟨rfl, nxF f9 tl b_183, _, _, rch_cl (((Rch.rf (0, ts, σ, T)).st (st_open ib_41 (by omega))).tr hr_181) hj_185 rb_263, by omega, by omega, (⟨kc_288, cc_289, tc_290, fc_291, kb_292, cb_293, tb_294, fb_295, hp_296, hT_297, er_298, et_299, wr_300, wt_301, ec_302, uc_303, wc_304, hc_305, eb_306, ub_307, wb_308, hb_309⟩ : RSX ρ ws_237 ty_238 f9 rd krd tp ktp cd bb tl (nxF f9 tl b_183) (T_177 ++ eO ta_184) nk fr fk fp vl_178)⟩⟩, hS.F ht⟩) hS.2.2 dX4_readOne_85
  have iw_37 : wdE f9 tl ts = 3 := iw_37
  refine lv_istore_n (lv' := [(2, .int 1), (0, .ref rd), (1, .int 1)]) hx hb dX4_readOne_9 rfl hl (by decide) rfl (fun ls hl => ?_)
  refine lv_iload_n hx hb dX4_readOne_10 rfl (lv_at hl 0 rfl) ?_
  refine lv_if_ne (tgt := 31) hx hb dX4_readOne_11 (by decide) (fun c_311 => ?_) (fun c_311 => absurd c_311 (by decide))
  have hw9 := nx_wd hpc9 (j := 3) (by omega) iw_37
  have hw9 : ts + 3 ≤ nxF f9 tl ts ∧ nxF f9 tl ts ≤ tl := hw9
  refine lv_iload_n hx hb dX4_readOne_31 rfl (lv_at hl 2 rfl) ?_
  refine lv_bipush (v := 6) hx hb dX4_readOne_32 (by decide) ?_
  refine lv_icmp_lt (tgt := 50) hx hb dX4_readOne_34 (by decide) (fun c_312 => ?_) (fun c_312 => absurd (by decide) c_312)
  refine lv_aload_n hx hb dX4_readOne_50 rfl (lv_at hl 1 rfl) ?_
  refine va_get (D := D) (ci := 4) (v := .ref tp) (C := RX4) (T := TX4) (N := 8) hx hb hts hin4 hown hK hP krd e_30 rfl 0 (by decide) (hts (.fieldLink RX4 12 "HoneyHouse$RuleReader" "tape" "LHoneyHouse$Tape;") (List.mem_of_getElem? (i := 1) rfl)) (fun _ h9 => h9) rfl dX4_readOne_51 ?_
  have hFc := free_all hD hS hA
  refine va_callv (va_runV (As := []) (rest := []) ⟨hx, hb, hml, hown, hts⟩ (a_advance l D (rz [ktp]) ws_25 ty_26 f9 tp ktp tl (teF f9 tl ts) (nI (kdF f9 tl ts)) (nI ts) bb kb_5 cb_6 tb_7 fb_8 H.size htl hb_22 hng (by omega) e_31 e_33 u_35 (rz_o1 (pl_ne e_33 e_31 (by intro h9; simp at h9))) (rz_in (by simp))) (cwV 0 hts gX4_readOne_X6_advance rfl rfl rfl (by decide +kernel) ⟨Nat.le_of_ble_eq_true rfl, Nat.le_of_ble_eq_true rfl⟩) ⟨fun a U g mk q => by obtain ⟨q0, q1, qP, qK, qD⟩ := q; exact ⟨q0, q1, qP, va_K.moved (u := U) (U := U.calling g mk a) (Vm.Alike.refl U.vm) qK, qD⟩, va_recv hK hP (ci := 6) (q0 := ktp) rfl e_31, fun U hU hW => ⟨rfl, by rw [hU], by rw [hU]; exact hP, va_K.moved hW.alike hK, hD.weaken (fun _ _ _ _ => trivial)⟩⟩ rfl rfl hl.1 rfl (lv_room (Nat.le_of_ble_eq_true rfl)) dX4_readOne_54 ⟨Nat.le_of_ble_eq_true rfl, Nat.le_of_ble_eq_true rfl⟩) hS (fun q _ h => hFc q h) hFc (fun u t H1 locs ht hvm w_314 hB hz1 hk1 hS => ?_)
  obtain ⟨ws_315, ty_316, hm_317, ht_319, hP1, hK1, hD1, hx_318⟩ := hB
  rw [ht] at hP1
  have hK := va_K.moved hvm.symm hK1
  have hD := hD1.weaken (fun _ _ _ h => hFc _ h)
  generalize H1 = H at hP1 hS ⊢
  have hP := hP1
  have e_320 := hm_317.keep (rz_o1 (pl_ne e_30 e_31 (by intro h9; simp at h9))) e_30
  have e_321 := hm_317.keep (rz_o1 (pl_ne e_32 e_31 (by intro h9; simp at h9))) e_32
  have e_322 := hm_317.keep (rz_o1 (pl_ne e_33 e_31 (by intro h9; simp at h9))) e_33
  have u_323 := ht_319 _ _ u_34
  have u_324 := ht_319 _ _ u_35
  have hm_325 : sm ρ [6] ws_25 ws_315 := hm_317.up (fun k _ h => rz_u1 wt_14 k h)
  have hsm := hsm.tr (hm_325.mono (by decide))
  have htx := htx.tr ht_319
  have e_326 : ws_315[ktp]? = some (tp, .inr (6, [.int (nI tl), .int (nI (kdF f9 tl (nxF f9 tl ts))), .int (nI (nxF f9 tl ts)), .int (nI (teF f9 tl (nxF f9 tl ts))), .ref bb])) := hx_318; have hq_327 : pcB f9 tl (nxF f9 tl ts) := nxF_pc (f := f9) hp_9.1; have hq_3271 := hq_327.1; have hq_327t := teF_le (f := f9) hq_327.1; have hg_328 := nx_gain (f := f9) hp_9.1
  refine lv_iload_n hx hb dX4_readOne_57 rfl (lv_at hl 0 rfl) ?_
  refine lv_if_ne (tgt := 86) hx hb dX4_readOne_58 (by decide) (fun c_329 => ?_) (fun c_329 => absurd c_329 (by decide))
  refine lv_aload_n hx hb dX4_readOne_86 rfl (lv_at hl 1 rfl) ?_
  refine lv_iload_n hx hb dX4_readOne_87 rfl (lv_at hl 2 rfl) ?_
  refine lv_iconst (v := 1) hx hb dX4_readOne_88 (by decide) ?_
  refine lv_iadd hx hb dX4_readOne_89 ?_
  refine tp_i (y := 2) (by decide) ?_
  have hFc := free_all hD hS hA
  refine va_calli (va_runV (As := [.int 2]) (rest := []) ⟨hx, hb, hml, hown, hts⟩ (r_readOne2 l D ρ ws_315 ty_316 adK adV fo f9 rd krd tp ktp cd bb tl (nxF f9 tl ts) T nk fr fk fp vl (3 :: σ) H.size htl hng (⟨kc_1, cc_2, tc_3, fc_4, kb_5, cb_6, tb_7, fb_8, hq_327, hT_10, e_320, e_326, wr_13, wt_14, e_321, u_323, wc_17, hc_18, e_322, u_324, wb_21, hb_22⟩ : RSX ρ ws_315 ty_316 f9 rd krd tp ktp cd bb tl (nxF f9 tl ts) T nk fr fk fp vl) ((dep_y σ (Or.inl rfl)).trans (by omega)) (by omega)) (cwV 1 hts gX4_readOne_X4_readOne rfl rfl rfl (by decide +kernel) ⟨Nat.le_of_ble_eq_true rfl, Nat.le_of_ble_eq_true rfl⟩) ⟨fun a U g mk q => by obtain ⟨q0, q1, qP, qK, qD, qS⟩ := q; exact ⟨q0, q1, qP, va_K.moved (u := U) (U := U.calling g mk a) (Vm.Alike.refl U.vm) qK, qD, SZ.same rfl rfl qS⟩, va_recv hK hP (ci := 4) (q0 := krd) rfl e_320, fun U hU hW => ⟨rfl, by rw [hU], by rw [hU]; exact hP, va_K.moved hW.alike hK, hD.weaken (fun _ _ _ _ => trivial), hsz9.go hS hW hU hFc⟩⟩ rfl rfl hl.1 rfl (lv_room (Nat.le_of_ble_eq_true rfl)) dX4_readOne_90 ⟨Nat.le_of_ble_eq_true rfl, Nat.le_of_ble_eq_true rfl⟩) hS (fun q _ h => hFc q h) hFc (fun r_330 u t H1 locs ht hvm w_331 hB hz1 hk1 hS => ?_)
  subst w_331
  obtain ⟨ws_332, ty_333, hm_334, ht_336, hP1, hK1, hD1, hx_335⟩ := hB
  rw [ht] at hP1
  have hK := va_K.moved hvm.symm hK1
  have hD := hD1.weaken (fun _ _ _ h => hFc _ h)
  generalize H1 = H at hP1 hS ⊢
  have hP := hP1
  obtain ⟨g_338, e_337, h_339⟩ := hm_334.obj e_320
  obtain ⟨z_340, z_341, z_342, z_343, z_344, z_345, rfl⟩ := smX4 h_339
  obtain ⟨g_347, e_346, h_348⟩ := hm_334.obj e_326
  obtain ⟨z_349, z_350, z_351, z_352, rfl⟩ := smX6 h_348
  obtain ⟨f_354, e_353⟩ := hm_334.arrI e_321
  have u_355 := ht_336 _ _ u_323
  have e_356 := hm_334.keep (by rw [wb_21]; omega) e_322
  have u_357 := ht_336 _ _ u_324
  have hsm := hsm.tr (hm_334.mono (by decide))
  have htx := htx.tr ht_336
  rcases hx_335 with ⟨rfl, k_358, p_359, ts_360, T_361, vl_362, hk_363, hk_364, hr_365, hR_366⟩ | ⟨rfl, b_367, T_361, vl_362, hr_365, hg_371, hg_372, hR_366⟩
  · obtain ⟨kc_373, cc_374, tc_375, fc_376, kb_377, cb_378, tb_379, fb_380, hp_381, hT_382, er_383, et_384, wr_385, wt_386, ec_387, uc_388, wc_389, hc_390, eb_391, ub_392, wb_393, hb_394⟩ := id hR_366
    have hp_3811 := hp_381.1
    have hp_381t := teF_le (f := f9) hp_381.1
    refine lv_istore_n (lv' := [(3, .int 0), (2, .int 1), (0, .ref rd), (1, .int 1)]) hx hb dX4_readOne_93 rfl hl (by decide) rfl (fun ls hl => ?_)
    refine lv_aload_n hx hb dX4_readOne_94 rfl (lv_at hl 2 rfl) ?_
    refine lv_iconst (v := (-1)) hx hb dX4_readOne_95 (by decide) ?_
    have hFc := free_all hD hS hA
    refine va_callv (va_runV (As := [.int (-1)]) (rest := []) ⟨hx, hb, hml, hown, hts⟩ (r_addCode l D ρ ws_332 ty_333 adK adV fo f9 rd krd tp ktp cd bb tl ts_360 T_361 nk fr (nI k_358) (nI p_359) vl_362 (3, 0, 0, 0) (-1) H.size htl hng (⟨kc_373, cc_374, tc_375, fc_376, kb_377, cb_378, tb_379, fb_380, hp_381, hT_382, er_383, et_384, wr_385, wt_386, ec_387, uc_388, wc_389, hc_390, eb_391, ub_392, wb_393, hb_394⟩ : RSX ρ ws_332 ty_333 f9 rd krd tp ktp cd bb tl ts_360 T_361 nk fr (nI k_358) (nI p_359) vl_362) rfl) (cwV 1 hts gX4_readOne_X4_addCode rfl rfl rfl (by decide +kernel) ⟨Nat.le_of_ble_eq_true rfl, Nat.le_of_ble_eq_true rfl⟩) ⟨fun a U g mk q => by obtain ⟨q0, q1, qP, qK, qD, qS⟩ := q; exact ⟨q0, q1, qP, va_K.moved (u := U) (U := U.calling g mk a) (Vm.Alike.refl U.vm) qK, qD, SZ.same rfl rfl qS⟩, va_recv hK hP (ci := 4) (q0 := krd) rfl er_383, fun U hU hW => ⟨rfl, by rw [hU], by rw [hU]; exact hP, va_K.moved hW.alike hK, hD.weaken (fun _ _ _ _ => trivial), hsz9.go hS hW hU hFc⟩⟩ rfl rfl hl.1 rfl (lv_room (Nat.le_of_ble_eq_true rfl)) dX4_readOne_96 ⟨Nat.le_of_ble_eq_true rfl, Nat.le_of_ble_eq_true rfl⟩) hS (fun q _ h => hFc q h) hFc (fun u t H1 locs ht hvm w_396 hB hz1 hk1 hS => ?_)
    obtain ⟨ws_397, ty_398, hm_399, ht_401, hP1, hK1, hD1, hx_400⟩ := hB
    rw [ht] at hP1
    have hK := va_K.moved hvm.symm hK1
    have hD := hD1.weaken (fun _ _ _ h => hFc _ h)
    generalize H1 = H at hP1 hS ⊢
    have hP := hP1
    obtain ⟨g_403, e_402, h_404⟩ := hm_399.obj er_383
    obtain ⟨z_405, z_406, z_407, z_408, z_409, z_410, rfl⟩ := smX4 h_404
    obtain ⟨g_412, e_411, h_413⟩ := hm_399.obj et_384
    obtain ⟨z_414, z_415, z_416, z_417, rfl⟩ := smX6 h_413
    obtain ⟨f_419, e_418⟩ := hm_399.arrI ec_387
    have u_420 := ht_401 _ _ uc_388
    have e_421 := hm_399.keep (by rw [wb_393]; omega) eb_391
    have u_422 := ht_401 _ _ ub_392
    have hsm := hsm.tr (hm_399.mono (by decide))
    have htx := htx.tr ht_401
    rcases hx_400 with ⟨hl_423, hR_424⟩ | ⟨hl_423, hR_424⟩
    · obtain ⟨kc_425, cc_426, tc_427, fc_428, kb_429, cb_430, tb_431, fb_432, hp_433, hT_434, er_435, et_436, wr_437, wt_438, ec_439, uc_440, wc_441, hc_442, eb_443, ub_444, wb_445, hb_446⟩ := id hR_424
      have hp_4331 := hp_433.1
      have hp_433t := teF_le (f := f9) hp_433.1
      refine lv_iload_n hx hb dX4_readOne_99 rfl (lv_at hl 0 rfl) ?_
      exact W.zret (v := 0) hx hb hr rfl (fun t ht hW => ⟨⟨0, 0, rfl, rfl, ws_397, ty_398, hsm, htx, by rw [ht]; exact hP, va_K.moved hW.alike hK, hD, Or.inl ⟨rfl, k_358, p_359, _, _, _, by omega, by omega, ((Rch.rf (0, ts, σ, T)).st (st_not iw_37 (by omega))).tr hr_365, (⟨kc_425, cc_426, tc_427, fc_428, kb_429, cb_430, tb_431, fb_432, hp_433, hT_434, er_435, et_436, wr_437, wt_438, ec_439, uc_440, wc_441, hc_442, eb_443, ub_444, wb_445, hb_446⟩ : RSX ρ ws_397 ty_398 f9 rd krd tp ktp cd bb tl ts_360 (T_361 ++ [(3, 0, 0, 0)]) nk fr (nI k_358) (nI p_359) vl_362)⟩⟩, hS.F ht⟩) hS.2.2 dX4_readOne_100
    obtain ⟨kc_447, cc_448, tc_449, fc_450, kb_451, cb_452, tb_453, fb_454, hp_455, hT_456, er_457, et_458, wr_459, wt_460, ec_461, uc_462, wc_463, hc_464, eb_465, ub_466, wb_467, hb_468⟩ := id hR_424
    have hp_4551 := hp_455.1
    have hp_455t := teF_le (f := f9) hp_455.1
    refine lv_iload_n hx hb dX4_readOne_99 rfl (lv_at hl 0 rfl) ?_
    exact W.zret (v := 0) hx hb hr rfl (fun t ht hW => ⟨⟨0, 0, rfl, rfl, ws_397, ty_398, hsm, htx, by rw [ht]; exact hP, va_K.moved hW.alike hK, hD, Or.inl ⟨rfl, k_358, p_359, _, _, _, by omega, by omega, ((Rch.rf (0, ts, σ, T)).st (st_not iw_37 (by omega))).tr hr_365, (⟨kc_447, cc_448, tc_449, fc_450, kb_451, cb_452, tb_453, fb_454, hp_455, hT_456, er_457, et_458, wr_459, wt_460, ec_461, uc_462, wc_463, hc_464, eb_465, ub_466, wb_467, hb_468⟩ : RSX ρ ws_397 ty_398 f9 rd krd tp ktp cd bb tl ts_360 T_361 nk fr (nI k_358) (nI p_359) vl_362)⟩⟩, hS.F ht⟩) hS.2.2 dX4_readOne_100
  obtain ⟨kc_469, cc_470, tc_471, fc_472, kb_473, cb_474, tb_475, fb_476, hp_477, hT_478, er_479, et_480, wr_481, wt_482, ec_483, uc_484, wc_485, hc_486, eb_487, ub_488, wb_489, hb_490⟩ := id hR_366
  have hp_4771 := hp_477.1
  have hp_477t := teF_le (f := f9) hp_477.1
  refine lv_istore_n (lv' := [(3, .int 1), (2, .int 1), (0, .ref rd), (1, .int 1)]) hx hb dX4_readOne_93 rfl hl (by decide) rfl (fun ls hl => ?_)
  refine lv_aload_n hx hb dX4_readOne_94 rfl (lv_at hl 2 rfl) ?_
  refine lv_iconst (v := (-1)) hx hb dX4_readOne_95 (by decide) ?_
  have hFc := free_all hD hS hA
  refine va_callv (va_runV (As := [.int (-1)]) (rest := []) ⟨hx, hb, hml, hown, hts⟩ (r_addCode l D ρ ws_332 ty_333 adK adV fo f9 rd krd tp ktp cd bb tl b_367 T_361 nk fr fk fp vl_362 (3, 0, 0, 0) (-1) H.size htl hng (⟨kc_469, cc_470, tc_471, fc_472, kb_473, cb_474, tb_475, fb_476, hp_477, hT_478, er_479, et_480, wr_481, wt_482, ec_483, uc_484, wc_485, hc_486, eb_487, ub_488, wb_489, hb_490⟩ : RSX ρ ws_332 ty_333 f9 rd krd tp ktp cd bb tl b_367 T_361 nk fr fk fp vl_362) rfl) (cwV 1 hts gX4_readOne_X4_addCode rfl rfl rfl (by decide +kernel) ⟨Nat.le_of_ble_eq_true rfl, Nat.le_of_ble_eq_true rfl⟩) ⟨fun a U g mk q => by obtain ⟨q0, q1, qP, qK, qD, qS⟩ := q; exact ⟨q0, q1, qP, va_K.moved (u := U) (U := U.calling g mk a) (Vm.Alike.refl U.vm) qK, qD, SZ.same rfl rfl qS⟩, va_recv hK hP (ci := 4) (q0 := krd) rfl er_479, fun U hU hW => ⟨rfl, by rw [hU], by rw [hU]; exact hP, va_K.moved hW.alike hK, hD.weaken (fun _ _ _ _ => trivial), hsz9.go hS hW hU hFc⟩⟩ rfl rfl hl.1 rfl (lv_room (Nat.le_of_ble_eq_true rfl)) dX4_readOne_96 ⟨Nat.le_of_ble_eq_true rfl, Nat.le_of_ble_eq_true rfl⟩) hS (fun q _ h => hFc q h) hFc (fun u t H1 locs ht hvm w_492 hB hz1 hk1 hS => ?_)
  obtain ⟨ws_493, ty_494, hm_495, ht_497, hP1, hK1, hD1, hx_496⟩ := hB
  rw [ht] at hP1
  have hK := va_K.moved hvm.symm hK1
  have hD := hD1.weaken (fun _ _ _ h => hFc _ h)
  generalize H1 = H at hP1 hS ⊢
  have hP := hP1
  obtain ⟨g_499, e_498, h_500⟩ := hm_495.obj er_479
  obtain ⟨z_501, z_502, z_503, z_504, z_505, z_506, rfl⟩ := smX4 h_500
  obtain ⟨g_508, e_507, h_509⟩ := hm_495.obj et_480
  obtain ⟨z_510, z_511, z_512, z_513, rfl⟩ := smX6 h_509
  obtain ⟨f_515, e_514⟩ := hm_495.arrI ec_483
  have u_516 := ht_497 _ _ uc_484
  have e_517 := hm_495.keep (by rw [wb_489]; omega) eb_487
  have u_518 := ht_497 _ _ ub_488
  have hsm := hsm.tr (hm_495.mono (by decide))
  have htx := htx.tr ht_497
  obtain ⟨hl_519, hR_520⟩ := hx_496.resolve_right (fun h9 => h9.1 (by omega))
  obtain ⟨kc_521, cc_522, tc_523, fc_524, kb_525, cb_526, tb_527, fb_528, hp_529, hT_530, er_531, et_532, wr_533, wt_534, ec_535, uc_536, wc_537, hc_538, eb_539, ub_540, wb_541, hb_542⟩ := id hR_520
  have hp_5291 := hp_529.1
  have hp_529t := teF_le (f := f9) hp_529.1
  refine lv_iload_n hx hb dX4_readOne_99 rfl (lv_at hl 0 rfl) ?_
  exact W.zret (v := 1) hx hb hr rfl (fun t ht hW => ⟨⟨1, 1, rfl, rfl, ws_493, ty_494, hsm, htx, by rw [ht]; exact hP, va_K.moved hW.alike hK, hD, Or.inr ⟨rfl, b_367, _, _, rch_no (((Rch.rf (0, ts, σ, T)).st (st_not iw_37 (by omega))).tr hr_365), by omega, by rw [len_a1]; omega, (⟨kc_521, cc_522, tc_523, fc_524, kb_525, cb_526, tb_527, fb_528, hp_529, hT_530, er_531, et_532, wr_533, wt_534, ec_535, uc_536, wc_537, hc_538, eb_539, ub_540, wb_541, hb_542⟩ : RSX ρ ws_493 ty_494 f9 rd krd tp ktp cd bb tl b_367 (T_361 ++ [(3, 0, 0, 0)]) nk fr fk fp vl_362)⟩⟩, hS.F ht⟩) hS.2.2 dX4_readOne_100
set_option maxHeartbeats 4000000 in
set_option maxRecDepth 100000 in
theorem r_readEither1 (l : Launch) (D : va_G) (ρ : Nat → Nat) (ws : va_W) (tys : List (ClassId × FieldType)) (adK adV : Nat → Nat) (fo : Option Nat) (f9 : Nat → Int32) (rd krd tp ktp cd bb tl ts : Nat) (T : List Tk) (nk : Int64) (fr fk fp vl : Int32) (σ : List Nat) (sz : Nat) (htl : tl ≤ 400) (hng : ∀ i : Nat, i < tl → ¬ f9 i = -1) (R0 : RSX ρ ws tys f9 rd krd tp ktp cd bb tl ts T nk fr fk fp vl) (hbs : bas σ) (hdp : dep σ = 1) (hT2 : 2 * T.length ≤ ts) : Met l yX4_readEither wsX4_readEither ({ frames := 18, cells := 0, slots := 0, locals := 412 }) (va_Pc [.ref rd, .int 1] (fun U => U.heap.size = sz ∧ va_P D vwCl ws U.heap ∧ va_K D vwCl tys U ∧ va_D (fun _ => True) ws ∧ SZ adK adV fo (va_A ws sz) U U.heap)) (va_Qi (fun (r : Int32) (s9 : Int32) => r = s9) (fun (s9 : Int32) (t : State) => ∃ (ws' : va_W) (tys' : List (ClassId × FieldType)), sm ρ [4, 6] ws ws' ∧ tyx tys tys' ∧ va_P D vwCl ws' t.heap ∧ va_K D vwCl tys' t ∧ va_D (va_A ws sz) ws' ∧ ((s9 = 0 ∧ FLT ρ ws' tys' f9 rd krd tp ktp cd bb tl (0, ts, σ, T) nk fr) ∨ (s9 = 1 ∧ EIT ρ ws' tys' f9 rd krd tp ktp cd bb tl ts σ T nk fr fk fp))) (va_A ws sz)) 0 0 (va_A ws sz) := by
  refine Met.ofW (cc := cX4_readEither) (maxL := 6) (ret := (some .boolean)) (by decide) rfl ?_
  intro p e s m args below meth c s₁ B hml hv
  obtain ⟨rfl, hsz, hP, hK, hD0, hsz9⟩ := hv
  have hx := B.exec
  have hb := B.bytes
  have hr := B.returns
  have hts := atoms_spec (ws := wsX4_readEither) B.pre
  have hown : s.vm.findClass RX4 = some m.cls := findClass_of_methodNamed B.named
  have hlocks := B.notSynchronized
  subst hsz
  have hD := hD0.self (sz := s.heap.size)
  generalize hAe : va_A ws s.heap.size = A at hD hsz9 ⊢
  have hA : ∀ q : Nat, s.heap.size ≤ q → A q := fun q h => by rw [← hAe]; exact Or.inr h
  have hS : va_S A s.heap s.heap [] := va_S.rf
  have hsm : sm ρ [4, 6] ws ws := sm.rf ws
  have htx : tyx tys tys := tyx.rf tys
  have hin4 : ∀ w ∈ u_ws RX4 TX4 8, w ∈ wsX4_readEither := (fun _ h9 => List.mem_cons_of_mem _ (List.mem_append_left _ ((List.mem_append_right _ h9))))
  have hl := lv_entry ([.ref rd, .int 1]) (n := 6) (Nat.le_of_ble_eq_true rfl)
  rw [lg_entry_eq]
  generalize (lg_sl ([.ref rd, .int 1]) ++ List.replicate (6 - (lg_sl ([.ref rd, .int 1])).length) Slot.unset).toArray = ls at hl ⊢
  have hl : lv_has ls 6 [(0, .ref rd), (1, .int 1)] := hl
  obtain ⟨kc_1, cc_2, tc_3, fc_4, kb_5, cb_6, tb_7, fb_8, hp_9, hT_10, er_11, et_12, wr_13, wt_14, ec_15, uc_16, wc_17, hc_18, eb_19, ub_20, wb_21, hb_22⟩ := id R0
  have hp_91 := hp_9.1
  have hp_9t := teF_le (f := f9) hp_9.1
  refine lv_aload_n hx hb dX4_readEither_0 rfl (lv_at hl 0 rfl) ?_
  refine lv_iload_n hx hb dX4_readEither_1 rfl (lv_at hl 1 rfl) ?_
  have hFc := free_all hD hS hA
  refine va_calli (va_runV (As := [.int 1]) (rest := []) ⟨hx, hb, hml, hown, hts⟩ (r_readOne1 l D ρ ws tys adK adV fo f9 rd krd tp ktp cd bb tl ts T nk fr fk fp vl σ s.heap.size htl hng (⟨kc_1, cc_2, tc_3, fc_4, kb_5, cb_6, tb_7, fb_8, hp_9, hT_10, er_11, et_12, wr_13, wt_14, ec_15, uc_16, wc_17, hc_18, eb_19, ub_20, wb_21, hb_22⟩ : RSX ρ ws tys f9 rd krd tp ktp cd bb tl ts T nk fr fk fp vl) hdp (by omega)) (cwV 1 hts gX4_readEither_X4_readOne rfl rfl rfl (by decide +kernel) ⟨Nat.le_of_ble_eq_true rfl, Nat.le_of_ble_eq_true rfl⟩) ⟨fun a U g mk q => by obtain ⟨q0, q1, qP, qK, qD, qS⟩ := q; exact ⟨q0, q1, qP, va_K.moved (u := U) (U := U.calling g mk a) (Vm.Alike.refl U.vm) qK, qD, SZ.same rfl rfl qS⟩, va_recv hK hP (ci := 4) (q0 := krd) rfl er_11, fun U hU hW => ⟨rfl, by rw [hU], by rw [hU]; exact hP, va_K.moved hW.alike hK, hD.weaken (fun _ _ _ _ => trivial), hsz9.go hS hW hU hFc⟩⟩ rfl rfl hl.1 rfl (lv_room (Nat.le_of_ble_eq_true rfl)) dX4_readEither_2 ⟨Nat.le_of_ble_eq_true rfl, Nat.le_of_ble_eq_true rfl⟩) hS (fun q _ h => hFc q h) hFc (fun r_23 u t H1 locs ht hvm w_24 hB hz1 hk1 hS => ?_)
  subst w_24
  obtain ⟨ws_25, ty_26, hm_27, ht_29, hP1, hK1, hD1, hx_28⟩ := hB
  rw [ht] at hP1
  have hK := va_K.moved hvm.symm hK1
  have hD := hD1.weaken (fun _ _ _ h => hFc _ h)
  generalize H1 = H at hP1 hS ⊢
  have hP := hP1
  obtain ⟨g_31, e_30, h_32⟩ := hm_27.obj er_11
  obtain ⟨z_33, z_34, z_35, z_36, z_37, z_38, rfl⟩ := smX4 h_32
  obtain ⟨g_40, e_39, h_41⟩ := hm_27.obj et_12
  obtain ⟨z_42, z_43, z_44, z_45, rfl⟩ := smX6 h_41
  obtain ⟨f_47, e_46⟩ := hm_27.arrI ec_15
  have u_48 := ht_29 _ _ uc_16
  have e_49 := hm_27.keep (by rw [wb_21]; omega) eb_19
  have u_50 := ht_29 _ _ ub_20
  have hsm := hsm.tr (hm_27.mono (by decide))
  have htx := htx.tr ht_29
  refine lv_istore_n (lv' := [(2, .int r_23), (0, .ref rd), (1, .int 1)]) hx hb dX4_readEither_5 rfl hl (by decide) rfl (fun ls hl => ?_)
  refine lv_iconst (v := 0) hx hb dX4_readEither_6 (by decide) ?_
  refine lv_istore_n (lv' := [(3, .int 0), (2, .int r_23), (0, .ref rd), (1, .int 1)]) hx hb dX4_readEither_7 rfl hl (by decide) rfl (fun ls hl => ?_)
  refine lv_iconst (v := 0) hx hb dX4_readEither_8 (by decide) ?_
  refine lv_istore (lv' := [(4, .int 0), (3, .int 0), (2, .int r_23), (0, .ref rd), (1, .int 1)]) hx hb dX4_readEither_9 hl (by decide) rfl (fun ls hl => ?_)
  refine lp_V (nL := 6) (σ := Nat × Int32 × Int32) (lv := fun x9 => [(4, .int (nI x9.1)), (2, .int x9.2.1), (3, .int x9.2.2), (1, .int 1), (0, .ref rd)]) (μ := fun x9 => 400 - x9.1) (J := fun x9 ws9 => sm ρ [4, 6] ws_25 ws9 ∧ (∃ ty9 : List (ClassId × FieldType), va_K D vwCl ty9 s ∧ tyx tys ty9 ∧ ((x9.2.1 = 1 ∧ (x9.2.2 = 0 ∨ x9.2.2 = 1) ∧ LPE ρ ws9 ty9 f9 rd krd tp ktp cd bb tl ts σ T nk fr fk fp x9.1 x9.2.2) ∨ (x9.2.1 = 0 ∧ (x9.2.2 = 0 ∨ x9.2.2 = 1) ∧ FLT ρ ws9 ty9 f9 rd krd tp ktp cd bb tl (0, ts, σ, T) nk fr))) ∧ (x9.1 ≤ 400)) (fun x9 ws_56 H locs ls hj hP hD hS hl ih_51 => ?_) (0, r_23, 0) ws_25 _ _ ls ⟨sm.rf _, ⟨ty_26, hK, htx, by rcases hx_28 with ⟨h0, h⟩ | ⟨h0, b9, T9, vl, hr, g1, g2, h⟩; exact Or.inr ⟨h0, Or.inl rfl, h⟩; exact Or.inl ⟨h0, Or.inl rfl, ⟨b9, σ, T9, vl, rch_bs hbs hr, ow_0 hbs, by omega, fun (h9 : (0 : Int32) = 1) => absurd h9 (by decide), fun _ => by rw [hbs.fx.2.2.2.1, List.append_nil]; omega, by rw [hbs.fx.2.2.2.1, List.append_nil]; exact h⟩⟩⟩, (show 0 ≤ 400 from by omega)⟩ hP hD hS (lv_sub hl [0, 2, 1, 4, 3] rfl)
  obtain ⟨i_52, x_53, y_54⟩ := x9
  replace hj : sm ρ [4, 6] ws_25 ws_56 ∧ (∃ ty9 : List (ClassId × FieldType), va_K D vwCl ty9 s ∧ tyx tys ty9 ∧ ((x_53 = 1 ∧ (y_54 = 0 ∨ y_54 = 1) ∧ LPE ρ ws_56 ty9 f9 rd krd tp ktp cd bb tl ts σ T nk fr fk fp i_52 y_54) ∨ (x_53 = 0 ∧ (y_54 = 0 ∨ y_54 = 1) ∧ FLT ρ ws_56 ty9 f9 rd krd tp ktp cd bb tl (0, ts, σ, T) nk fr))) ∧ (i_52 ≤ 400) := hj
  obtain ⟨hm_57, hR_59, hi_55⟩ := hj
  obtain ⟨g_61, e_60, h_62⟩ := hm_57.obj e_30
  obtain ⟨z_63, z_64, z_65, z_66, z_67, z_68, rfl⟩ := smX4 h_62
  obtain ⟨g_70, e_69, h_71⟩ := hm_57.obj e_39
  obtain ⟨z_72, z_73, z_74, z_75, rfl⟩ := smX6 h_71
  obtain ⟨f_77, e_76⟩ := hm_57.arrI e_46
  have e_78 := hm_57.keep (by rw [wb_21]; omega) e_49
  have hsm := hsm.tr (hm_57.mono (by decide))
  have hlp_58 := hm_57
  have hl : lv_has ls 6 [(4, .int (nI i_52)), (2, .int x_53), (3, .int y_54), (1, .int 1), (0, .ref rd)] := hl
  refine lv_iload hx hb dX4_readEither_11 (lv_at hl 0 rfl) ?_
  obtain ⟨ty_79, hK, htx, hR_80⟩ := hR_59
  rcases hR_80 with ⟨rfl, rfl | rfl, b_81, ta_82, T_83, vl_84, hr_85, ow_86, gi_87, ga_88, gb_89, hR_90⟩ | ⟨rfl, rfl | rfl, k_91, p_92, ts_93, T_83, vl_84, hk_94, hk_95, hr_85, hR_90⟩
  · have gb_89 := gb_89 rfl
    obtain ⟨kc_96, cc_97, tc_98, fc_99, kb_100, cb_101, tb_102, fb_103, hp_104, hT_105, er_106, et_107, wr_108, wt_109, ec_110, uc_111, wc_112, hc_113, eb_114, ub_115, wb_116, hb_117⟩ := id hR_90
    have hp_1041 := hp_104.1
    have hp_104t := teF_le (f := f9) hp_104.1
    refine lv_sipush (v := 400) hx hb dX4_readEither_13 (by decide) ?_
    refine lv_icmp_ge (tgt := 101) hx hb dX4_readEither_16 (by decide) (fun c_118 => ?_) (fun c_118 => ?_)
    · have d_119 := n_le (a := 400) (b := i_52) (by omega) (by omega) c_118
      refine lv_iload_n hx hb dX4_readEither_101 rfl (lv_at hl 2 rfl) ?_
      refine lv_if_eq (tgt := 111) hx hb dX4_readEither_102 (by decide) (fun c_120 => ?_) (fun c_120 => absurd (by decide) c_120)
      refine lv_iload_n hx hb dX4_readEither_111 rfl (lv_at hl 1 rfl) ?_
      exact W.zret (v := 1) hx hb hr rfl (fun t ht hW => ⟨⟨1, 1, rfl, rfl, ws_56, ty_79, hsm, htx, by rw [ht]; exact hP, va_K.moved hW.alike hK, hD, (by exfalso; omega)⟩, hS.F ht⟩) hS.2.2 dX4_readEither_112
    have d_121 := n_nle (a := 400) (b := i_52) (by omega) (by omega) c_118
    refine lv_iload_n hx hb dX4_readEither_19 rfl (lv_at hl 1 rfl) ?_
    refine lv_if_eq (tgt := 101) hx hb dX4_readEither_20 (by decide) (fun c_122 => absurd c_122 (by decide)) (fun c_122 => ?_)
    refine lv_aload_n hx hb dX4_readEither_23 rfl (lv_at hl 4 rfl) ?_
    have hFc := free_all hD hS hA
    refine va_calli (va_runV (As := []) (rest := []) ⟨hx, hb, hml, hown, hts⟩ (r_isAndOr l D (rz []) ws_56 ty_79 adK adV fo f9 rd krd tp ktp cd tl b_81 nk fr fk fp (nI (T_83 ++ eA ta_82).length) vl_84 bb kb_100 cb_101 tb_102 fb_103 H.size er_106 htl hb_117 hng hp_104 et_107 eb_114 ub_115 rz_o0) (cwV 0 hts gX4_readEither_X4_isAndOr rfl rfl rfl (by decide +kernel) ⟨Nat.le_of_ble_eq_true rfl, Nat.le_of_ble_eq_true rfl⟩) ⟨fun a U g mk q => by obtain ⟨q0, q1, qP, qK, qD, qS⟩ := q; exact ⟨q0, q1, qP, va_K.moved (u := U) (U := U.calling g mk a) (Vm.Alike.refl U.vm) qK, qD, SZ.same rfl rfl qS⟩, va_recv hK hP (ci := 4) (q0 := krd) rfl er_106, fun U hU hW => ⟨rfl, by rw [hU], by rw [hU]; exact hP, va_K.moved hW.alike hK, hD.weaken (fun _ _ _ _ => trivial), hsz9.go hS hW hU hFc⟩⟩ rfl rfl hl.1 rfl (lv_room (Nat.le_of_ble_eq_true rfl)) dX4_readEither_24 ⟨Nat.le_of_ble_eq_true rfl, Nat.le_of_ble_eq_true rfl⟩) hS (fun q _ h => hFc q h) hFc (fun r_123 u t H1 locs ht hvm w_124 hB hz1 hk1 hS => ?_)
    obtain ⟨ws_125, ty_126, hm_127, ht_129, hP1, hK1, hD1, hx_128⟩ := hB
    rw [ht] at hP1
    have hK := va_K.moved hvm.symm hK1
    have hD := hD1.weaken (fun _ _ _ h => hFc _ h)
    generalize H1 = H at hP1 hS ⊢
    have hP := hP1
    have e_130 := hm_127.keep rz_o0 er_106
    have e_131 := hm_127.keep rz_o0 et_107
    have e_132 := hm_127.keep rz_o0 ec_110
    have e_133 := hm_127.keep rz_o0 eb_114
    have u_134 := ht_129 _ _ uc_111
    have u_135 := ht_129 _ _ ub_115
    have hm_136 : sm ρ [] ws_56 ws_125 := hm_127.up (fun k _ h => rz_u0  k h)
    have hsm := hsm.tr (hm_136.mono (by decide))
    have hlp_58 := hlp_58.tr (hm_136.mono (by decide))
    have htx := htx.tr ht_129
    rcases w_124 with ⟨rfl, ao_137⟩ | ⟨rfl, ao_137⟩
    · refine lv_if_eq (tgt := 101) hx hb dX4_readEither_27 (by decide) (fun c_138 => ?_) (fun c_138 => absurd (by decide) c_138)
      refine lv_iload_n hx hb dX4_readEither_101 rfl (lv_at hl 2 rfl) ?_
      refine lv_if_eq (tgt := 111) hx hb dX4_readEither_102 (by decide) (fun c_139 => ?_) (fun c_139 => absurd (by decide) c_139)
      refine lv_iload_n hx hb dX4_readEither_111 rfl (lv_at hl 1 rfl) ?_
      exact W.zret (v := 1) hx hb hr rfl (fun t ht hW => ⟨⟨1, 1, rfl, rfl, ws_125, ty_126, hsm, htx, by rw [ht]; exact hP, va_K.moved hW.alike hK, hD, Or.inr ⟨rfl, b_81, ta_82, T_83, _, hr_85, ow_jO hbs ow_86, ao_137, by omega, by rw [(ow_eO hbs ow_86).1 rfl]; omega, by rw [(ow_eO hbs ow_86).1 rfl]; exact (⟨kc_96, cc_97, tc_98, fc_99, kb_100, cb_101, tb_102, fb_103, hp_104, hT_105, e_130, e_131, wr_108, wt_109, e_132, u_134, wc_112, hc_113, e_133, u_135, wb_116, hb_117⟩ : RSX ρ ws_125 ty_126 f9 rd krd tp ktp cd bb tl b_81 (T_83 ++ eA ta_82) nk fr fk fp vl_84)⟩⟩, hS.F ht⟩) hS.2.2 dX4_readEither_112
    refine lv_if_eq (tgt := 101) hx hb dX4_readEither_27 (by decide) (fun c_140 => absurd c_140 (by decide)) (fun c_140 => ?_)
    refine lv_aload_n hx hb dX4_readEither_30 rfl (lv_at hl 4 rfl) ?_
    refine va_get (D := D) (ci := 4) (v := .ref tp) (C := RX4) (T := TX4) (N := 8) hx hb hts hin4 hown hK hP krd e_130 rfl 0 (by decide) (hts (.fieldLink RX4 12 "HoneyHouse$RuleReader" "tape" "LHoneyHouse$Tape;") (List.mem_of_getElem? (i := 1) rfl)) (fun _ h9 => h9) rfl dX4_readEither_31 ?_
    refine va_ldcS hx hb hown hsz9.2.2.2.2.2.1 dX4_readEither_34 ?_
    have hFc := free_all hD hS hA
    refine va_calli (va_runV (As := [.ref (adK 2)]) (rest := []) ⟨hx, hb, hml, hown, hts⟩ (a_isWord l D (rz []) ws_125 ty_126 adK adV fo 2 f9 tp ktp tl b_81 bb kb_100 cb_101 tb_102 fb_103 H.size (by decide) htl hb_117 hng hp_104 e_131 e_133 u_135 rz_o0) (cwV 1 hts gX4_readEither_X6_isWord rfl rfl rfl (by decide +kernel) ⟨Nat.le_of_ble_eq_true rfl, Nat.le_of_ble_eq_true rfl⟩) ⟨fun a U g mk q => by obtain ⟨q0, q1, qP, qK, qD, qS⟩ := q; exact ⟨q0, q1, qP, va_K.moved (u := U) (U := U.calling g mk a) (Vm.Alike.refl U.vm) qK, qD, SZ.same rfl rfl qS⟩, va_recv hK hP (ci := 6) (q0 := ktp) rfl e_131, fun U hU hW => ⟨rfl, by rw [hU], by rw [hU]; exact hP, va_K.moved hW.alike hK, hD.weaken (fun _ _ _ _ => trivial), hsz9.go hS hW hU hFc⟩⟩ rfl rfl hl.1 rfl (lv_room (Nat.le_of_ble_eq_true rfl)) dX4_readEither_36 ⟨Nat.le_of_ble_eq_true rfl, Nat.le_of_ble_eq_true rfl⟩) hS (fun q _ h => hFc q h) hFc (fun r_141 u t H1 locs ht hvm w_142 hB hz1 hk1 hS => ?_)
    obtain ⟨ws_143, ty_144, hm_145, ht_147, hP1, hK1, hD1, hx_146⟩ := hB
    rw [ht] at hP1
    have hK := va_K.moved hvm.symm hK1
    have hD := hD1.weaken (fun _ _ _ h => hFc _ h)
    generalize H1 = H at hP1 hS ⊢
    have hP := hP1
    have e_148 := hm_145.keep rz_o0 e_130
    have e_149 := hm_145.keep rz_o0 e_131
    have e_150 := hm_145.keep rz_o0 e_132
    have e_151 := hm_145.keep rz_o0 e_133
    have u_152 := ht_147 _ _ u_134
    have u_153 := ht_147 _ _ u_135
    have hm_154 : sm ρ [] ws_125 ws_143 := hm_145.up (fun k _ h => rz_u0  k h)
    have hsm := hsm.tr (hm_154.mono (by decide))
    have hlp_58 := hlp_58.tr (hm_154.mono (by decide))
    have htx := htx.tr ht_147
    rcases w_142 with ⟨rfl, iw_155⟩ | ⟨rfl, iw_155⟩
    · have iw_155 : ¬ wdE f9 tl b_81 = 2 := iw_155
      refine lv_istore (lv' := [(5, .int 0), (4, .int (nI i_52)), (2, .int 1), (3, .int 0), (1, .int 1), (0, .ref rd)]) hx hb dX4_readEither_39 hl (by decide) rfl (fun ls hl => ?_)
      refine lv_iload hx hb dX4_readEither_41 (lv_at hl 0 rfl) ?_
      refine lv_if_ne (tgt := 56) hx hb dX4_readEither_43 (by decide) (fun c_156 => absurd (by decide) c_156) (fun c_156 => ?_)
      refine lv_iload_n hx hb dX4_readEither_46 rfl (lv_at hl 3 rfl) ?_
      refine lv_if_eq (tgt := 56) hx hb dX4_readEither_47 (by decide) (fun c_157 => ?_) (fun c_157 => absurd (by decide) c_157)
      refine lv_iload_n hx hb dX4_readEither_56 rfl (lv_at hl 3 rfl) ?_
      refine lv_if_ne (tgt := 65) hx hb dX4_readEither_57 (by decide) (fun c_158 => absurd (by decide) c_158) (fun c_158 => ?_)
      refine lv_iload hx hb dX4_readEither_60 (lv_at hl 0 rfl) ?_
      refine lv_if_ne (tgt := 69) hx hb dX4_readEither_62 (by decide) (fun c_159 => absurd (by decide) c_159) (fun c_159 => ?_)
      refine lv_iconst (v := 1) hx hb dX4_readEither_65 (by decide) ?_
      refine lv_goto (tgt := 70) hx hb dX4_readEither_66 (by decide) ?_
      refine lv_istore_n (lv' := [(3, .int 1), (5, .int 0), (4, .int (nI i_52)), (2, .int 1), (1, .int 1), (0, .ref rd)]) hx hb dX4_readEither_70 rfl hl (by decide) rfl (fun ls hl => ?_)
      have hw1 : wdE f9 tl b_81 = 1 := by omega
      have hw9 : b_81 + 2 ≤ nxF f9 tl b_81 ∧ nxF f9 tl b_81 ≤ tl := nx_wd hp_104.1 (j := 1) (by omega) hw1
      have hm9 : Rch f9 tl (0, ts, σ, T) (0, nxF f9 tl b_81, 1 :: σ, T_83 ++ eA ta_82) := by have h9 := hr_85.st (st_or hw1); rw [ow_jO hbs ow_86, (ow_eO hbs ow_86).1 rfl] at h9; exact h9
      have hdq : dep (1 :: σ) = dep σ := dep_n _ (by omega)
      refine lv_aload_n hx hb dX4_readEither_71 rfl (lv_at hl 5 rfl) ?_
      refine va_get (D := D) (ci := 4) (v := .ref tp) (C := RX4) (T := TX4) (N := 8) hx hb hts hin4 hown hK hP krd e_148 rfl 0 (by decide) (hts (.fieldLink RX4 12 "HoneyHouse$RuleReader" "tape" "LHoneyHouse$Tape;") (List.mem_of_getElem? (i := 1) rfl)) (fun _ h9 => h9) rfl dX4_readEither_72 ?_
      have hFc := free_all hD hS hA
      refine va_callv (va_runV (As := []) (rest := []) ⟨hx, hb, hml, hown, hts⟩ (a_advance l D (rz [ktp]) ws_143 ty_144 f9 tp ktp tl (teF f9 tl b_81) (nI (kdF f9 tl b_81)) (nI b_81) bb kb_100 cb_101 tb_102 fb_103 H.size htl hb_117 hng (by omega) e_149 e_151 u_153 (rz_o1 (pl_ne e_151 e_149 (by intro h9; simp at h9))) (rz_in (by simp))) (cwV 0 hts gX4_readEither_X6_advance rfl rfl rfl (by decide +kernel) ⟨Nat.le_of_ble_eq_true rfl, Nat.le_of_ble_eq_true rfl⟩) ⟨fun a U g mk q => by obtain ⟨q0, q1, qP, qK, qD⟩ := q; exact ⟨q0, q1, qP, va_K.moved (u := U) (U := U.calling g mk a) (Vm.Alike.refl U.vm) qK, qD⟩, va_recv hK hP (ci := 6) (q0 := ktp) rfl e_149, fun U hU hW => ⟨rfl, by rw [hU], by rw [hU]; exact hP, va_K.moved hW.alike hK, hD.weaken (fun _ _ _ _ => trivial)⟩⟩ rfl rfl hl.1 rfl (lv_room (Nat.le_of_ble_eq_true rfl)) dX4_readEither_75 ⟨Nat.le_of_ble_eq_true rfl, Nat.le_of_ble_eq_true rfl⟩) hS (fun q _ h => hFc q h) hFc (fun u t H1 locs ht hvm w_161 hB hz1 hk1 hS => ?_)
      obtain ⟨ws_162, ty_163, hm_164, ht_166, hP1, hK1, hD1, hx_165⟩ := hB
      rw [ht] at hP1
      have hK := va_K.moved hvm.symm hK1
      have hD := hD1.weaken (fun _ _ _ h => hFc _ h)
      generalize H1 = H at hP1 hS ⊢
      have hP := hP1
      have e_167 := hm_164.keep (rz_o1 (pl_ne e_148 e_149 (by intro h9; simp at h9))) e_148
      have e_168 := hm_164.keep (rz_o1 (pl_ne e_150 e_149 (by intro h9; simp at h9))) e_150
      have e_169 := hm_164.keep (rz_o1 (pl_ne e_151 e_149 (by intro h9; simp at h9))) e_151
      have u_170 := ht_166 _ _ u_152
      have u_171 := ht_166 _ _ u_153
      have hm_172 : sm ρ [6] ws_143 ws_162 := hm_164.up (fun k _ h => rz_u1 wt_109 k h)
      have hsm := hsm.tr (hm_172.mono (by decide))
      have hlp_58 := hlp_58.tr (hm_172.mono (by decide))
      have htx := htx.tr ht_166
      have e_173 : ws_162[ktp]? = some (tp, .inr (6, [.int (nI tl), .int (nI (kdF f9 tl (nxF f9 tl b_81))), .int (nI (nxF f9 tl b_81)), .int (nI (teF f9 tl (nxF f9 tl b_81))), .ref bb])) := hx_165; have hq_174 : pcB f9 tl (nxF f9 tl b_81) := nxF_pc (f := f9) hp_104.1; have hq_1741 := hq_174.1; have hq_174t := teF_le (f := f9) hq_174.1; have hg_175 := nx_gain (f := f9) hp_104.1
      refine lv_aload_n hx hb dX4_readEither_78 rfl (lv_at hl 5 rfl) ?_
      refine lv_iload_n hx hb dX4_readEither_79 rfl (lv_at hl 4 rfl) ?_
      have hFc := free_all hD hS hA
      refine va_calli (va_runV (As := [.int 1]) (rest := []) ⟨hx, hb, hml, hown, hts⟩ (r_readOne1 l D ρ ws_162 ty_163 adK adV fo f9 rd krd tp ktp cd bb tl (nxF f9 tl b_81) (T_83 ++ eA ta_82) nk fr fk fp vl_84 (1 :: σ) H.size htl hng (⟨kc_96, cc_97, tc_98, fc_99, kb_100, cb_101, tb_102, fb_103, hq_174, hT_105, e_167, e_173, wr_108, wt_109, e_168, u_170, wc_112, hc_113, e_169, u_171, wb_116, hb_117⟩ : RSX ρ ws_162 ty_163 f9 rd krd tp ktp cd bb tl (nxF f9 tl b_81) (T_83 ++ eA ta_82) nk fr fk fp vl_84) (hdq.trans hdp) (by omega)) (cwV 1 hts gX4_readEither_X4_readOne rfl rfl rfl (by decide +kernel) ⟨Nat.le_of_ble_eq_true rfl, Nat.le_of_ble_eq_true rfl⟩) ⟨fun a U g mk q => by obtain ⟨q0, q1, qP, qK, qD, qS⟩ := q; exact ⟨q0, q1, qP, va_K.moved (u := U) (U := U.calling g mk a) (Vm.Alike.refl U.vm) qK, qD, SZ.same rfl rfl qS⟩, va_recv hK hP (ci := 4) (q0 := krd) rfl e_167, fun U hU hW => ⟨rfl, by rw [hU], by rw [hU]; exact hP, va_K.moved hW.alike hK, hD.weaken (fun _ _ _ _ => trivial), hsz9.go hS hW hU hFc⟩⟩ rfl rfl hl.1 rfl (lv_room (Nat.le_of_ble_eq_true rfl)) dX4_readEither_80 ⟨Nat.le_of_ble_eq_true rfl, Nat.le_of_ble_eq_true rfl⟩) hS (fun q _ h => hFc q h) hFc (fun r_176 u t H1 locs ht hvm w_177 hB hz1 hk1 hS => ?_)
      subst w_177
      obtain ⟨ws_178, ty_179, hm_180, ht_182, hP1, hK1, hD1, hx_181⟩ := hB
      rw [ht] at hP1
      have hK := va_K.moved hvm.symm hK1
      have hD := hD1.weaken (fun _ _ _ h => hFc _ h)
      generalize H1 = H at hP1 hS ⊢
      have hP := hP1
      obtain ⟨g_184, e_183, h_185⟩ := hm_180.obj e_167
      obtain ⟨z_186, z_187, z_188, z_189, z_190, z_191, rfl⟩ := smX4 h_185
      obtain ⟨g_193, e_192, h_194⟩ := hm_180.obj e_173
      obtain ⟨z_195, z_196, z_197, z_198, rfl⟩ := smX6 h_194
      obtain ⟨f_200, e_199⟩ := hm_180.arrI e_168
      have u_201 := ht_182 _ _ u_170
      have e_202 := hm_180.keep (by rw [wb_116]; omega) e_169
      have u_203 := ht_182 _ _ u_171
      have hsm := hsm.tr (hm_180.mono (by decide))
      have hlp_58 := hlp_58.tr (hm_180.mono (by decide))
      have htx := htx.tr ht_182
      rcases hx_181 with ⟨rfl, k_204, p_205, ts_206, T_207, vl_208, hk_209, hk_210, hr_211, hR_212⟩ | ⟨rfl, b_213, T_207, vl_208, hr_211, hg_217, hg_218, hR_212⟩
      · obtain ⟨kc_219, cc_220, tc_221, fc_222, kb_223, cb_224, tb_225, fb_226, hp_227, hT_228, er_229, et_230, wr_231, wt_232, ec_233, uc_234, wc_235, hc_236, eb_237, ub_238, wb_239, hb_240⟩ := id hR_212
        have hp_2271 := hp_227.1
        have hp_227t := teF_le (f := f9) hp_227.1
        refine lv_istore_n (lv' := [(2, .int 0), (3, .int 1), (5, .int 0), (4, .int (nI i_52)), (1, .int 1), (0, .ref rd)]) hx hb dX4_readEither_83 rfl hl (by decide) rfl (fun ls hl => ?_)
        refine lv_iload hx hb dX4_readEither_84 (lv_at hl 2 rfl) ?_
        refine lv_if_eq (tgt := 95) hx hb dX4_readEither_86 (by decide) (fun c_241 => ?_) (fun c_241 => absurd (by decide) c_241)
        refine lv_iinc (v := nI (i_52 + 1)) (lv' := [(4, .int (nI (i_52 + 1))), (2, .int 0), (3, .int 1), (5, .int 0), (1, .int 1), (0, .ref rd)]) hx hb dX4_readEither_95 hl (k := 3) rfl (nI_add i_52 1) (by decide) rfl (fun ls hl => ?_)
        refine lv_goto (tgt := 11) hx hb dX4_readEither_98 (by decide) ?_
        exact ih_51 (i_52 + 1, 0, 1) ws_178 _ _ ls (by show 400 - (i_52 + 1) < 400 - i_52; omega) ⟨hlp_58, ⟨ty_179, hK, htx, Or.inr ⟨rfl, Or.inr rfl, (⟨k_204, p_205, _, _, _, by omega, by omega, hm9.tr hr_211, (⟨kc_219, cc_220, tc_221, fc_222, kb_223, cb_224, tb_225, fb_226, hp_227, hT_228, er_229, et_230, wr_231, wt_232, ec_233, uc_234, wc_235, hc_236, eb_237, ub_238, wb_239, hb_240⟩ : RSX ρ ws_178 ty_179 f9 rd krd tp ktp cd bb tl ts_206 T_207 nk fr (nI k_204) (nI p_205) vl_208)⟩ : FLT ρ ws_178 ty_179 f9 rd krd tp ktp cd bb tl (0, ts, σ, T) nk fr)⟩⟩, (show (i_52 + 1) ≤ 400 from by omega)⟩ hP hD hS (lv_sub hl [0, 1, 2, 4, 5] rfl)
      obtain ⟨kc_242, cc_243, tc_244, fc_245, kb_246, cb_247, tb_248, fb_249, hp_250, hT_251, er_252, et_253, wr_254, wt_255, ec_256, uc_257, wc_258, hc_259, eb_260, ub_261, wb_262, hb_263⟩ := id hR_212
      have hp_2501 := hp_250.1
      have hp_250t := teF_le (f := f9) hp_250.1
      refine lv_istore_n (lv' := [(2, .int 1), (3, .int 1), (5, .int 0), (4, .int (nI i_52)), (1, .int 1), (0, .ref rd)]) hx hb dX4_readEither_83 rfl hl (by decide) rfl (fun ls hl => ?_)
      refine lv_iload hx hb dX4_readEither_84 (lv_at hl 2 rfl) ?_
      refine lv_if_eq (tgt := 95) hx hb dX4_readEither_86 (by decide) (fun c_264 => ?_) (fun c_264 => absurd (by decide) c_264)
      refine lv_iinc (v := nI (i_52 + 1)) (lv' := [(4, .int (nI (i_52 + 1))), (2, .int 1), (3, .int 1), (5, .int 0), (1, .int 1), (0, .ref rd)]) hx hb dX4_readEither_95 hl (k := 3) rfl (nI_add i_52 1) (by decide) rfl (fun ls hl => ?_)
      refine lv_goto (tgt := 11) hx hb dX4_readEither_98 (by decide) ?_
      exact ih_51 (i_52 + 1, 1, 1) ws_178 _ _ ls (by show 400 - (i_52 + 1) < 400 - i_52; omega) ⟨hlp_58, ⟨ty_179, hK, htx, Or.inl ⟨rfl, Or.inr rfl, (⟨b_213, 1 :: σ, T_207, _, hm9.tr (rch_an (by omega) hr_211), ow_or, by omega, fun _ => by rw [eA_n _ (by omega), List.append_nil]; omega, fun h9 => absurd h9 (by decide), by rw [eA_n _ (by omega), List.append_nil]; exact (⟨kc_242, cc_243, tc_244, fc_245, kb_246, cb_247, tb_248, fb_249, hp_250, hT_251, er_252, et_253, wr_254, wt_255, ec_256, uc_257, wc_258, hc_259, eb_260, ub_261, wb_262, hb_263⟩ : RSX ρ ws_178 ty_179 f9 rd krd tp ktp cd bb tl b_213 T_207 nk fr fk fp vl_208)⟩ : LPE ρ ws_178 ty_179 f9 rd krd tp ktp cd bb tl ts σ T nk fr fk fp (i_52 + 1) 1)⟩⟩, (show (i_52 + 1) ≤ 400 from by omega)⟩ hP hD hS (lv_sub hl [0, 1, 2, 4, 5] rfl)
    have iw_155 : wdE f9 tl b_81 = 2 := iw_155
    refine lv_istore (lv' := [(5, .int 1), (4, .int (nI i_52)), (2, .int 1), (3, .int 0), (1, .int 1), (0, .ref rd)]) hx hb dX4_readEither_39 hl (by decide) rfl (fun ls hl => ?_)
    refine lv_iload hx hb dX4_readEither_41 (lv_at hl 0 rfl) ?_
    refine lv_if_ne (tgt := 56) hx hb dX4_readEither_43 (by decide) (fun c_265 => ?_) (fun c_265 => absurd c_265 (by decide))
    refine lv_iload_n hx hb dX4_readEither_56 rfl (lv_at hl 3 rfl) ?_
    refine lv_if_ne (tgt := 65) hx hb dX4_readEither_57 (by decide) (fun c_266 => absurd (by decide) c_266) (fun c_266 => ?_)
    refine lv_iload hx hb dX4_readEither_60 (lv_at hl 0 rfl) ?_
    refine lv_if_ne (tgt := 69) hx hb dX4_readEither_62 (by decide) (fun c_267 => ?_) (fun c_267 => absurd c_267 (by decide))
    refine lv_iconst (v := 0) hx hb dX4_readEither_69 (by decide) ?_
    refine lv_istore_n (lv' := [(3, .int 0), (5, .int 1), (4, .int (nI i_52)), (2, .int 1), (1, .int 1), (0, .ref rd)]) hx hb dX4_readEither_70 rfl hl (by decide) rfl (fun ls hl => ?_)
    have hw9 : b_81 + 3 ≤ nxF f9 tl b_81 ∧ nxF f9 tl b_81 ≤ tl := nx_wd hp_104.1 (j := 2) (by omega) iw_155
    have hm9 : Rch f9 tl (0, ts, σ, T) (0, nxF f9 tl b_81, 2 :: jA ta_82, T_83 ++ eA ta_82) := hr_85.st (st_and iw_155)
    have hdq : dep (2 :: jA ta_82) = dep σ := (dep_n _ (by omega)).trans ((dep_jA _).trans ((dep_jO _).symm.trans (congrArg dep (ow_jO hbs ow_86))))
    refine lv_aload_n hx hb dX4_readEither_71 rfl (lv_at hl 5 rfl) ?_
    refine va_get (D := D) (ci := 4) (v := .ref tp) (C := RX4) (T := TX4) (N := 8) hx hb hts hin4 hown hK hP krd e_148 rfl 0 (by decide) (hts (.fieldLink RX4 12 "HoneyHouse$RuleReader" "tape" "LHoneyHouse$Tape;") (List.mem_of_getElem? (i := 1) rfl)) (fun _ h9 => h9) rfl dX4_readEither_72 ?_
    have hFc := free_all hD hS hA
    refine va_callv (va_runV (As := []) (rest := []) ⟨hx, hb, hml, hown, hts⟩ (a_advance l D (rz [ktp]) ws_143 ty_144 f9 tp ktp tl (teF f9 tl b_81) (nI (kdF f9 tl b_81)) (nI b_81) bb kb_100 cb_101 tb_102 fb_103 H.size htl hb_117 hng (by omega) e_149 e_151 u_153 (rz_o1 (pl_ne e_151 e_149 (by intro h9; simp at h9))) (rz_in (by simp))) (cwV 0 hts gX4_readEither_X6_advance rfl rfl rfl (by decide +kernel) ⟨Nat.le_of_ble_eq_true rfl, Nat.le_of_ble_eq_true rfl⟩) ⟨fun a U g mk q => by obtain ⟨q0, q1, qP, qK, qD⟩ := q; exact ⟨q0, q1, qP, va_K.moved (u := U) (U := U.calling g mk a) (Vm.Alike.refl U.vm) qK, qD⟩, va_recv hK hP (ci := 6) (q0 := ktp) rfl e_149, fun U hU hW => ⟨rfl, by rw [hU], by rw [hU]; exact hP, va_K.moved hW.alike hK, hD.weaken (fun _ _ _ _ => trivial)⟩⟩ rfl rfl hl.1 rfl (lv_room (Nat.le_of_ble_eq_true rfl)) dX4_readEither_75 ⟨Nat.le_of_ble_eq_true rfl, Nat.le_of_ble_eq_true rfl⟩) hS (fun q _ h => hFc q h) hFc (fun u t H1 locs ht hvm w_269 hB hz1 hk1 hS => ?_)
    obtain ⟨ws_270, ty_271, hm_272, ht_274, hP1, hK1, hD1, hx_273⟩ := hB
    rw [ht] at hP1
    have hK := va_K.moved hvm.symm hK1
    have hD := hD1.weaken (fun _ _ _ h => hFc _ h)
    generalize H1 = H at hP1 hS ⊢
    have hP := hP1
    have e_275 := hm_272.keep (rz_o1 (pl_ne e_148 e_149 (by intro h9; simp at h9))) e_148
    have e_276 := hm_272.keep (rz_o1 (pl_ne e_150 e_149 (by intro h9; simp at h9))) e_150
    have e_277 := hm_272.keep (rz_o1 (pl_ne e_151 e_149 (by intro h9; simp at h9))) e_151
    have u_278 := ht_274 _ _ u_152
    have u_279 := ht_274 _ _ u_153
    have hm_280 : sm ρ [6] ws_143 ws_270 := hm_272.up (fun k _ h => rz_u1 wt_109 k h)
    have hsm := hsm.tr (hm_280.mono (by decide))
    have hlp_58 := hlp_58.tr (hm_280.mono (by decide))
    have htx := htx.tr ht_274
    have e_281 : ws_270[ktp]? = some (tp, .inr (6, [.int (nI tl), .int (nI (kdF f9 tl (nxF f9 tl b_81))), .int (nI (nxF f9 tl b_81)), .int (nI (teF f9 tl (nxF f9 tl b_81))), .ref bb])) := hx_273; have hq_282 : pcB f9 tl (nxF f9 tl b_81) := nxF_pc (f := f9) hp_104.1; have hq_2821 := hq_282.1; have hq_282t := teF_le (f := f9) hq_282.1; have hg_283 := nx_gain (f := f9) hp_104.1
    refine lv_aload_n hx hb dX4_readEither_78 rfl (lv_at hl 5 rfl) ?_
    refine lv_iload_n hx hb dX4_readEither_79 rfl (lv_at hl 4 rfl) ?_
    have hFc := free_all hD hS hA
    refine va_calli (va_runV (As := [.int 1]) (rest := []) ⟨hx, hb, hml, hown, hts⟩ (r_readOne1 l D ρ ws_270 ty_271 adK adV fo f9 rd krd tp ktp cd bb tl (nxF f9 tl b_81) (T_83 ++ eA ta_82) nk fr fk fp vl_84 (2 :: jA ta_82) H.size htl hng (⟨kc_96, cc_97, tc_98, fc_99, kb_100, cb_101, tb_102, fb_103, hq_282, hT_105, e_275, e_281, wr_108, wt_109, e_276, u_278, wc_112, hc_113, e_277, u_279, wb_116, hb_117⟩ : RSX ρ ws_270 ty_271 f9 rd krd tp ktp cd bb tl (nxF f9 tl b_81) (T_83 ++ eA ta_82) nk fr fk fp vl_84) (hdq.trans hdp) (by omega)) (cwV 1 hts gX4_readEither_X4_readOne rfl rfl rfl (by decide +kernel) ⟨Nat.le_of_ble_eq_true rfl, Nat.le_of_ble_eq_true rfl⟩) ⟨fun a U g mk q => by obtain ⟨q0, q1, qP, qK, qD, qS⟩ := q; exact ⟨q0, q1, qP, va_K.moved (u := U) (U := U.calling g mk a) (Vm.Alike.refl U.vm) qK, qD, SZ.same rfl rfl qS⟩, va_recv hK hP (ci := 4) (q0 := krd) rfl e_275, fun U hU hW => ⟨rfl, by rw [hU], by rw [hU]; exact hP, va_K.moved hW.alike hK, hD.weaken (fun _ _ _ _ => trivial), hsz9.go hS hW hU hFc⟩⟩ rfl rfl hl.1 rfl (lv_room (Nat.le_of_ble_eq_true rfl)) dX4_readEither_80 ⟨Nat.le_of_ble_eq_true rfl, Nat.le_of_ble_eq_true rfl⟩) hS (fun q _ h => hFc q h) hFc (fun r_284 u t H1 locs ht hvm w_285 hB hz1 hk1 hS => ?_)
    subst w_285
    obtain ⟨ws_286, ty_287, hm_288, ht_290, hP1, hK1, hD1, hx_289⟩ := hB
    rw [ht] at hP1
    have hK := va_K.moved hvm.symm hK1
    have hD := hD1.weaken (fun _ _ _ h => hFc _ h)
    generalize H1 = H at hP1 hS ⊢
    have hP := hP1
    obtain ⟨g_292, e_291, h_293⟩ := hm_288.obj e_275
    obtain ⟨z_294, z_295, z_296, z_297, z_298, z_299, rfl⟩ := smX4 h_293
    obtain ⟨g_301, e_300, h_302⟩ := hm_288.obj e_281
    obtain ⟨z_303, z_304, z_305, z_306, rfl⟩ := smX6 h_302
    obtain ⟨f_308, e_307⟩ := hm_288.arrI e_276
    have u_309 := ht_290 _ _ u_278
    have e_310 := hm_288.keep (by rw [wb_116]; omega) e_277
    have u_311 := ht_290 _ _ u_279
    have hsm := hsm.tr (hm_288.mono (by decide))
    have hlp_58 := hlp_58.tr (hm_288.mono (by decide))
    have htx := htx.tr ht_290
    rcases hx_289 with ⟨rfl, k_312, p_313, ts_314, T_315, vl_316, hk_317, hk_318, hr_319, hR_320⟩ | ⟨rfl, b_321, T_315, vl_316, hr_319, hg_325, hg_326, hR_320⟩
    · obtain ⟨kc_327, cc_328, tc_329, fc_330, kb_331, cb_332, tb_333, fb_334, hp_335, hT_336, er_337, et_338, wr_339, wt_340, ec_341, uc_342, wc_343, hc_344, eb_345, ub_346, wb_347, hb_348⟩ := id hR_320
      have hp_3351 := hp_335.1
      have hp_335t := teF_le (f := f9) hp_335.1
      refine lv_istore_n (lv' := [(2, .int 0), (3, .int 0), (5, .int 1), (4, .int (nI i_52)), (1, .int 1), (0, .ref rd)]) hx hb dX4_readEither_83 rfl hl (by decide) rfl (fun ls hl => ?_)
      refine lv_iload hx hb dX4_readEither_84 (lv_at hl 2 rfl) ?_
      refine lv_if_eq (tgt := 95) hx hb dX4_readEither_86 (by decide) (fun c_349 => absurd c_349 (by decide)) (fun c_349 => ?_)
      refine lv_aload_n hx hb dX4_readEither_89 rfl (lv_at hl 5 rfl) ?_
      refine lv_bipush (v := (-2)) hx hb dX4_readEither_90 (by decide) ?_
      have hFc := free_all hD hS hA
      refine va_callv (va_runV (As := [.int (-2)]) (rest := []) ⟨hx, hb, hml, hown, hts⟩ (r_addCode l D ρ ws_286 ty_287 adK adV fo f9 rd krd tp ktp cd bb tl ts_314 T_315 nk fr (nI k_312) (nI p_313) vl_316 (2, 0, 0, 0) (-2) H.size htl hng (⟨kc_327, cc_328, tc_329, fc_330, kb_331, cb_332, tb_333, fb_334, hp_335, hT_336, er_337, et_338, wr_339, wt_340, ec_341, uc_342, wc_343, hc_344, eb_345, ub_346, wb_347, hb_348⟩ : RSX ρ ws_286 ty_287 f9 rd krd tp ktp cd bb tl ts_314 T_315 nk fr (nI k_312) (nI p_313) vl_316) rfl) (cwV 1 hts gX4_readEither_X4_addCode rfl rfl rfl (by decide +kernel) ⟨Nat.le_of_ble_eq_true rfl, Nat.le_of_ble_eq_true rfl⟩) ⟨fun a U g mk q => by obtain ⟨q0, q1, qP, qK, qD, qS⟩ := q; exact ⟨q0, q1, qP, va_K.moved (u := U) (U := U.calling g mk a) (Vm.Alike.refl U.vm) qK, qD, SZ.same rfl rfl qS⟩, va_recv hK hP (ci := 4) (q0 := krd) rfl er_337, fun U hU hW => ⟨rfl, by rw [hU], by rw [hU]; exact hP, va_K.moved hW.alike hK, hD.weaken (fun _ _ _ _ => trivial), hsz9.go hS hW hU hFc⟩⟩ rfl rfl hl.1 rfl (lv_room (Nat.le_of_ble_eq_true rfl)) dX4_readEither_92 ⟨Nat.le_of_ble_eq_true rfl, Nat.le_of_ble_eq_true rfl⟩) hS (fun q _ h => hFc q h) hFc (fun u t H1 locs ht hvm w_351 hB hz1 hk1 hS => ?_)
      obtain ⟨ws_352, ty_353, hm_354, ht_356, hP1, hK1, hD1, hx_355⟩ := hB
      rw [ht] at hP1
      have hK := va_K.moved hvm.symm hK1
      have hD := hD1.weaken (fun _ _ _ h => hFc _ h)
      generalize H1 = H at hP1 hS ⊢
      have hP := hP1
      obtain ⟨g_358, e_357, h_359⟩ := hm_354.obj er_337
      obtain ⟨z_360, z_361, z_362, z_363, z_364, z_365, rfl⟩ := smX4 h_359
      obtain ⟨g_367, e_366, h_368⟩ := hm_354.obj et_338
      obtain ⟨z_369, z_370, z_371, z_372, rfl⟩ := smX6 h_368
      obtain ⟨f_374, e_373⟩ := hm_354.arrI ec_341
      have u_375 := ht_356 _ _ uc_342
      have e_376 := hm_354.keep (by rw [wb_347]; omega) eb_345
      have u_377 := ht_356 _ _ ub_346
      have hsm := hsm.tr (hm_354.mono (by decide))
      have hlp_58 := hlp_58.tr (hm_354.mono (by decide))
      have htx := htx.tr ht_356
      rcases hx_355 with ⟨hl_378, hR_379⟩ | ⟨hl_378, hR_379⟩
      · obtain ⟨kc_380, cc_381, tc_382, fc_383, kb_384, cb_385, tb_386, fb_387, hp_388, hT_389, er_390, et_391, wr_392, wt_393, ec_394, uc_395, wc_396, hc_397, eb_398, ub_399, wb_400, hb_401⟩ := id hR_379
        have hp_3881 := hp_388.1
        have hp_388t := teF_le (f := f9) hp_388.1
        refine lv_iinc (v := nI (i_52 + 1)) (lv' := [(4, .int (nI (i_52 + 1))), (2, .int 0), (3, .int 0), (5, .int 1), (1, .int 1), (0, .ref rd)]) hx hb dX4_readEither_95 hl (k := 3) rfl (nI_add i_52 1) (by decide) rfl (fun ls hl => ?_)
        refine lv_goto (tgt := 11) hx hb dX4_readEither_98 (by decide) ?_
        exact ih_51 (i_52 + 1, 0, 0) ws_352 _ _ ls (by show 400 - (i_52 + 1) < 400 - i_52; omega) ⟨hlp_58, ⟨ty_353, hK, htx, Or.inr ⟨rfl, Or.inl rfl, (⟨k_312, p_313, _, _, _, by omega, by omega, hm9.tr hr_319, (⟨kc_380, cc_381, tc_382, fc_383, kb_384, cb_385, tb_386, fb_387, hp_388, hT_389, er_390, et_391, wr_392, wt_393, ec_394, uc_395, wc_396, hc_397, eb_398, ub_399, wb_400, hb_401⟩ : RSX ρ ws_352 ty_353 f9 rd krd tp ktp cd bb tl ts_314 (T_315 ++ [(2, 0, 0, 0)]) nk fr (nI k_312) (nI p_313) vl_316)⟩ : FLT ρ ws_352 ty_353 f9 rd krd tp ktp cd bb tl (0, ts, σ, T) nk fr)⟩⟩, (show (i_52 + 1) ≤ 400 from by omega)⟩ hP hD hS (lv_sub hl [0, 1, 2, 4, 5] rfl)
      obtain ⟨kc_402, cc_403, tc_404, fc_405, kb_406, cb_407, tb_408, fb_409, hp_410, hT_411, er_412, et_413, wr_414, wt_415, ec_416, uc_417, wc_418, hc_419, eb_420, ub_421, wb_422, hb_423⟩ := id hR_379
      have hp_4101 := hp_410.1
      have hp_410t := teF_le (f := f9) hp_410.1
      refine lv_iinc (v := nI (i_52 + 1)) (lv' := [(4, .int (nI (i_52 + 1))), (2, .int 0), (3, .int 0), (5, .int 1), (1, .int 1), (0, .ref rd)]) hx hb dX4_readEither_95 hl (k := 3) rfl (nI_add i_52 1) (by decide) rfl (fun ls hl => ?_)
      refine lv_goto (tgt := 11) hx hb dX4_readEither_98 (by decide) ?_
      exact ih_51 (i_52 + 1, 0, 0) ws_352 _ _ ls (by show 400 - (i_52 + 1) < 400 - i_52; omega) ⟨hlp_58, ⟨ty_353, hK, htx, Or.inr ⟨rfl, Or.inl rfl, (⟨k_312, p_313, _, _, _, by omega, by omega, hm9.tr hr_319, (⟨kc_402, cc_403, tc_404, fc_405, kb_406, cb_407, tb_408, fb_409, hp_410, hT_411, er_412, et_413, wr_414, wt_415, ec_416, uc_417, wc_418, hc_419, eb_420, ub_421, wb_422, hb_423⟩ : RSX ρ ws_352 ty_353 f9 rd krd tp ktp cd bb tl ts_314 T_315 nk fr (nI k_312) (nI p_313) vl_316)⟩ : FLT ρ ws_352 ty_353 f9 rd krd tp ktp cd bb tl (0, ts, σ, T) nk fr)⟩⟩, (show (i_52 + 1) ≤ 400 from by omega)⟩ hP hD hS (lv_sub hl [0, 1, 2, 4, 5] rfl)
    obtain ⟨kc_424, cc_425, tc_426, fc_427, kb_428, cb_429, tb_430, fb_431, hp_432, hT_433, er_434, et_435, wr_436, wt_437, ec_438, uc_439, wc_440, hc_441, eb_442, ub_443, wb_444, hb_445⟩ := id hR_320
    have hp_4321 := hp_432.1
    have hp_432t := teF_le (f := f9) hp_432.1
    refine lv_istore_n (lv' := [(2, .int 1), (3, .int 0), (5, .int 1), (4, .int (nI i_52)), (1, .int 1), (0, .ref rd)]) hx hb dX4_readEither_83 rfl hl (by decide) rfl (fun ls hl => ?_)
    refine lv_iload hx hb dX4_readEither_84 (lv_at hl 2 rfl) ?_
    refine lv_if_eq (tgt := 95) hx hb dX4_readEither_86 (by decide) (fun c_446 => absurd c_446 (by decide)) (fun c_446 => ?_)
    refine lv_aload_n hx hb dX4_readEither_89 rfl (lv_at hl 5 rfl) ?_
    refine lv_bipush (v := (-2)) hx hb dX4_readEither_90 (by decide) ?_
    have hFc := free_all hD hS hA
    refine va_callv (va_runV (As := [.int (-2)]) (rest := []) ⟨hx, hb, hml, hown, hts⟩ (r_addCode l D ρ ws_286 ty_287 adK adV fo f9 rd krd tp ktp cd bb tl b_321 T_315 nk fr fk fp vl_316 (2, 0, 0, 0) (-2) H.size htl hng (⟨kc_424, cc_425, tc_426, fc_427, kb_428, cb_429, tb_430, fb_431, hp_432, hT_433, er_434, et_435, wr_436, wt_437, ec_438, uc_439, wc_440, hc_441, eb_442, ub_443, wb_444, hb_445⟩ : RSX ρ ws_286 ty_287 f9 rd krd tp ktp cd bb tl b_321 T_315 nk fr fk fp vl_316) rfl) (cwV 1 hts gX4_readEither_X4_addCode rfl rfl rfl (by decide +kernel) ⟨Nat.le_of_ble_eq_true rfl, Nat.le_of_ble_eq_true rfl⟩) ⟨fun a U g mk q => by obtain ⟨q0, q1, qP, qK, qD, qS⟩ := q; exact ⟨q0, q1, qP, va_K.moved (u := U) (U := U.calling g mk a) (Vm.Alike.refl U.vm) qK, qD, SZ.same rfl rfl qS⟩, va_recv hK hP (ci := 4) (q0 := krd) rfl er_434, fun U hU hW => ⟨rfl, by rw [hU], by rw [hU]; exact hP, va_K.moved hW.alike hK, hD.weaken (fun _ _ _ _ => trivial), hsz9.go hS hW hU hFc⟩⟩ rfl rfl hl.1 rfl (lv_room (Nat.le_of_ble_eq_true rfl)) dX4_readEither_92 ⟨Nat.le_of_ble_eq_true rfl, Nat.le_of_ble_eq_true rfl⟩) hS (fun q _ h => hFc q h) hFc (fun u t H1 locs ht hvm w_448 hB hz1 hk1 hS => ?_)
    obtain ⟨ws_449, ty_450, hm_451, ht_453, hP1, hK1, hD1, hx_452⟩ := hB
    rw [ht] at hP1
    have hK := va_K.moved hvm.symm hK1
    have hD := hD1.weaken (fun _ _ _ h => hFc _ h)
    generalize H1 = H at hP1 hS ⊢
    have hP := hP1
    obtain ⟨g_455, e_454, h_456⟩ := hm_451.obj er_434
    obtain ⟨z_457, z_458, z_459, z_460, z_461, z_462, rfl⟩ := smX4 h_456
    obtain ⟨g_464, e_463, h_465⟩ := hm_451.obj et_435
    obtain ⟨z_466, z_467, z_468, z_469, rfl⟩ := smX6 h_465
    obtain ⟨f_471, e_470⟩ := hm_451.arrI ec_438
    have u_472 := ht_453 _ _ uc_439
    have e_473 := hm_451.keep (by rw [wb_444]; omega) eb_442
    have u_474 := ht_453 _ _ ub_443
    have hsm := hsm.tr (hm_451.mono (by decide))
    have hlp_58 := hlp_58.tr (hm_451.mono (by decide))
    have htx := htx.tr ht_453
    obtain ⟨hl_475, hR_476⟩ := hx_452.resolve_right (fun h9 => h9.1 (by omega))
    obtain ⟨kc_477, cc_478, tc_479, fc_480, kb_481, cb_482, tb_483, fb_484, hp_485, hT_486, er_487, et_488, wr_489, wt_490, ec_491, uc_492, wc_493, hc_494, eb_495, ub_496, wb_497, hb_498⟩ := id hR_476
    have hp_4851 := hp_485.1
    have hp_485t := teF_le (f := f9) hp_485.1
    refine lv_iinc (v := nI (i_52 + 1)) (lv' := [(4, .int (nI (i_52 + 1))), (2, .int 1), (3, .int 0), (5, .int 1), (1, .int 1), (0, .ref rd)]) hx hb dX4_readEither_95 hl (k := 3) rfl (nI_add i_52 1) (by decide) rfl (fun ls hl => ?_)
    refine lv_goto (tgt := 11) hx hb dX4_readEither_98 (by decide) ?_
    exact ih_51 (i_52 + 1, 1, 0) ws_449 _ _ ls (by show 400 - (i_52 + 1) < 400 - i_52; omega) ⟨hlp_58, ⟨ty_450, hK, htx, Or.inl ⟨rfl, Or.inl rfl, (⟨b_321, 2 :: jA ta_82, T_315, _, hm9.tr (rch_an (by omega) hr_319), ow_and hbs ow_86, by omega, fun h9 => absurd h9 (by decide), fun _ => by rw [eA_2jA, len_a1]; omega, by rw [eA_2jA]; exact (⟨kc_477, cc_478, tc_479, fc_480, kb_481, cb_482, tb_483, fb_484, hp_485, hT_486, er_487, et_488, wr_489, wt_490, ec_491, uc_492, wc_493, hc_494, eb_495, ub_496, wb_497, hb_498⟩ : RSX ρ ws_449 ty_450 f9 rd krd tp ktp cd bb tl b_321 (T_315 ++ [(2, 0, 0, 0)]) nk fr fk fp vl_316)⟩ : LPE ρ ws_449 ty_450 f9 rd krd tp ktp cd bb tl ts σ T nk fr fk fp (i_52 + 1) 0)⟩⟩, (show (i_52 + 1) ≤ 400 from by omega)⟩ hP hD hS (lv_sub hl [0, 1, 2, 4, 5] rfl)
  · have ga_88 := ga_88 rfl
    obtain ⟨kc_499, cc_500, tc_501, fc_502, kb_503, cb_504, tb_505, fb_506, hp_507, hT_508, er_509, et_510, wr_511, wt_512, ec_513, uc_514, wc_515, hc_516, eb_517, ub_518, wb_519, hb_520⟩ := id hR_90
    have hp_5071 := hp_507.1
    have hp_507t := teF_le (f := f9) hp_507.1
    refine lv_sipush (v := 400) hx hb dX4_readEither_13 (by decide) ?_
    refine lv_icmp_ge (tgt := 101) hx hb dX4_readEither_16 (by decide) (fun c_521 => ?_) (fun c_521 => ?_)
    · have d_522 := n_le (a := 400) (b := i_52) (by omega) (by omega) c_521
      refine lv_iload_n hx hb dX4_readEither_101 rfl (lv_at hl 2 rfl) ?_
      refine lv_if_eq (tgt := 111) hx hb dX4_readEither_102 (by decide) (fun c_523 => absurd c_523 (by decide)) (fun c_523 => ?_)
      refine lv_aload_n hx hb dX4_readEither_105 rfl (lv_at hl 4 rfl) ?_
      refine lv_bipush (v := (-3)) hx hb dX4_readEither_106 (by decide) ?_
      have hFc := free_all hD hS hA
      refine va_callv (va_runV (As := [.int (-3)]) (rest := []) ⟨hx, hb, hml, hown, hts⟩ (r_addCode l D ρ ws_56 ty_79 adK adV fo f9 rd krd tp ktp cd bb tl b_81 (T_83 ++ eA ta_82) nk fr fk fp vl_84 (1, 0, 0, 0) (-3) H.size htl hng (⟨kc_499, cc_500, tc_501, fc_502, kb_503, cb_504, tb_505, fb_506, hp_507, hT_508, er_509, et_510, wr_511, wt_512, ec_513, uc_514, wc_515, hc_516, eb_517, ub_518, wb_519, hb_520⟩ : RSX ρ ws_56 ty_79 f9 rd krd tp ktp cd bb tl b_81 (T_83 ++ eA ta_82) nk fr fk fp vl_84) rfl) (cwV 1 hts gX4_readEither_X4_addCode rfl rfl rfl (by decide +kernel) ⟨Nat.le_of_ble_eq_true rfl, Nat.le_of_ble_eq_true rfl⟩) ⟨fun a U g mk q => by obtain ⟨q0, q1, qP, qK, qD, qS⟩ := q; exact ⟨q0, q1, qP, va_K.moved (u := U) (U := U.calling g mk a) (Vm.Alike.refl U.vm) qK, qD, SZ.same rfl rfl qS⟩, va_recv hK hP (ci := 4) (q0 := krd) rfl er_509, fun U hU hW => ⟨rfl, by rw [hU], by rw [hU]; exact hP, va_K.moved hW.alike hK, hD.weaken (fun _ _ _ _ => trivial), hsz9.go hS hW hU hFc⟩⟩ rfl rfl hl.1 rfl (lv_room (Nat.le_of_ble_eq_true rfl)) dX4_readEither_108 ⟨Nat.le_of_ble_eq_true rfl, Nat.le_of_ble_eq_true rfl⟩) hS (fun q _ h => hFc q h) hFc (fun u t H1 locs ht hvm w_525 hB hz1 hk1 hS => ?_)
      obtain ⟨ws_526, ty_527, hm_528, ht_530, hP1, hK1, hD1, hx_529⟩ := hB
      rw [ht] at hP1
      have hK := va_K.moved hvm.symm hK1
      have hD := hD1.weaken (fun _ _ _ h => hFc _ h)
      generalize H1 = H at hP1 hS ⊢
      have hP := hP1
      obtain ⟨g_532, e_531, h_533⟩ := hm_528.obj er_509
      obtain ⟨z_534, z_535, z_536, z_537, z_538, z_539, rfl⟩ := smX4 h_533
      obtain ⟨g_541, e_540, h_542⟩ := hm_528.obj et_510
      obtain ⟨z_543, z_544, z_545, z_546, rfl⟩ := smX6 h_542
      obtain ⟨f_548, e_547⟩ := hm_528.arrI ec_513
      have u_549 := ht_530 _ _ uc_514
      have e_550 := hm_528.keep (by rw [wb_519]; omega) eb_517
      have u_551 := ht_530 _ _ ub_518
      have hsm := hsm.tr (hm_528.mono (by decide))
      have hlp_58 := hlp_58.tr (hm_528.mono (by decide))
      have htx := htx.tr ht_530
      rcases hx_529 with ⟨hl_552, hR_553⟩ | ⟨hl_552, hR_553⟩
      · obtain ⟨kc_554, cc_555, tc_556, fc_557, kb_558, cb_559, tb_560, fb_561, hp_562, hT_563, er_564, et_565, wr_566, wt_567, ec_568, uc_569, wc_570, hc_571, eb_572, ub_573, wb_574, hb_575⟩ := id hR_553
        have hp_5621 := hp_562.1
        have hp_562t := teF_le (f := f9) hp_562.1
        refine lv_iload_n hx hb dX4_readEither_111 rfl (lv_at hl 1 rfl) ?_
        exact W.zret (v := 1) hx hb hr rfl (fun t ht hW => ⟨⟨1, 1, rfl, rfl, ws_526, ty_527, hsm, htx, by rw [ht]; exact hP, va_K.moved hW.alike hK, hD, (by exfalso; omega)⟩, hS.F ht⟩) hS.2.2 dX4_readEither_112
      obtain ⟨kc_576, cc_577, tc_578, fc_579, kb_580, cb_581, tb_582, fb_583, hp_584, hT_585, er_586, et_587, wr_588, wt_589, ec_590, uc_591, wc_592, hc_593, eb_594, ub_595, wb_596, hb_597⟩ := id hR_553
      have hp_5841 := hp_584.1
      have hp_584t := teF_le (f := f9) hp_584.1
      refine lv_iload_n hx hb dX4_readEither_111 rfl (lv_at hl 1 rfl) ?_
      exact W.zret (v := 1) hx hb hr rfl (fun t ht hW => ⟨⟨1, 1, rfl, rfl, ws_526, ty_527, hsm, htx, by rw [ht]; exact hP, va_K.moved hW.alike hK, hD, (by exfalso; omega)⟩, hS.F ht⟩) hS.2.2 dX4_readEither_112
    have d_598 := n_nle (a := 400) (b := i_52) (by omega) (by omega) c_521
    refine lv_iload_n hx hb dX4_readEither_19 rfl (lv_at hl 1 rfl) ?_
    refine lv_if_eq (tgt := 101) hx hb dX4_readEither_20 (by decide) (fun c_599 => absurd c_599 (by decide)) (fun c_599 => ?_)
    refine lv_aload_n hx hb dX4_readEither_23 rfl (lv_at hl 4 rfl) ?_
    have hFc := free_all hD hS hA
    refine va_calli (va_runV (As := []) (rest := []) ⟨hx, hb, hml, hown, hts⟩ (r_isAndOr l D (rz []) ws_56 ty_79 adK adV fo f9 rd krd tp ktp cd tl b_81 nk fr fk fp (nI (T_83 ++ eA ta_82).length) vl_84 bb kb_503 cb_504 tb_505 fb_506 H.size er_509 htl hb_520 hng hp_507 et_510 eb_517 ub_518 rz_o0) (cwV 0 hts gX4_readEither_X4_isAndOr rfl rfl rfl (by decide +kernel) ⟨Nat.le_of_ble_eq_true rfl, Nat.le_of_ble_eq_true rfl⟩) ⟨fun a U g mk q => by obtain ⟨q0, q1, qP, qK, qD, qS⟩ := q; exact ⟨q0, q1, qP, va_K.moved (u := U) (U := U.calling g mk a) (Vm.Alike.refl U.vm) qK, qD, SZ.same rfl rfl qS⟩, va_recv hK hP (ci := 4) (q0 := krd) rfl er_509, fun U hU hW => ⟨rfl, by rw [hU], by rw [hU]; exact hP, va_K.moved hW.alike hK, hD.weaken (fun _ _ _ _ => trivial), hsz9.go hS hW hU hFc⟩⟩ rfl rfl hl.1 rfl (lv_room (Nat.le_of_ble_eq_true rfl)) dX4_readEither_24 ⟨Nat.le_of_ble_eq_true rfl, Nat.le_of_ble_eq_true rfl⟩) hS (fun q _ h => hFc q h) hFc (fun r_600 u t H1 locs ht hvm w_601 hB hz1 hk1 hS => ?_)
    obtain ⟨ws_602, ty_603, hm_604, ht_606, hP1, hK1, hD1, hx_605⟩ := hB
    rw [ht] at hP1
    have hK := va_K.moved hvm.symm hK1
    have hD := hD1.weaken (fun _ _ _ h => hFc _ h)
    generalize H1 = H at hP1 hS ⊢
    have hP := hP1
    have e_607 := hm_604.keep rz_o0 er_509
    have e_608 := hm_604.keep rz_o0 et_510
    have e_609 := hm_604.keep rz_o0 ec_513
    have e_610 := hm_604.keep rz_o0 eb_517
    have u_611 := ht_606 _ _ uc_514
    have u_612 := ht_606 _ _ ub_518
    have hm_613 : sm ρ [] ws_56 ws_602 := hm_604.up (fun k _ h => rz_u0  k h)
    have hsm := hsm.tr (hm_613.mono (by decide))
    have hlp_58 := hlp_58.tr (hm_613.mono (by decide))
    have htx := htx.tr ht_606
    rcases w_601 with ⟨rfl, ao_614⟩ | ⟨rfl, ao_614⟩
    · refine lv_if_eq (tgt := 101) hx hb dX4_readEither_27 (by decide) (fun c_615 => ?_) (fun c_615 => absurd (by decide) c_615)
      refine lv_iload_n hx hb dX4_readEither_101 rfl (lv_at hl 2 rfl) ?_
      refine lv_if_eq (tgt := 111) hx hb dX4_readEither_102 (by decide) (fun c_616 => absurd c_616 (by decide)) (fun c_616 => ?_)
      refine lv_aload_n hx hb dX4_readEither_105 rfl (lv_at hl 4 rfl) ?_
      refine lv_bipush (v := (-3)) hx hb dX4_readEither_106 (by decide) ?_
      have hFc := free_all hD hS hA
      refine va_callv (va_runV (As := [.int (-3)]) (rest := []) ⟨hx, hb, hml, hown, hts⟩ (r_addCode l D ρ ws_602 ty_603 adK adV fo f9 rd krd tp ktp cd bb tl b_81 (T_83 ++ eA ta_82) nk fr fk fp vl_84 (1, 0, 0, 0) (-3) H.size htl hng (⟨kc_499, cc_500, tc_501, fc_502, kb_503, cb_504, tb_505, fb_506, hp_507, hT_508, e_607, e_608, wr_511, wt_512, e_609, u_611, wc_515, hc_516, e_610, u_612, wb_519, hb_520⟩ : RSX ρ ws_602 ty_603 f9 rd krd tp ktp cd bb tl b_81 (T_83 ++ eA ta_82) nk fr fk fp vl_84) rfl) (cwV 1 hts gX4_readEither_X4_addCode rfl rfl rfl (by decide +kernel) ⟨Nat.le_of_ble_eq_true rfl, Nat.le_of_ble_eq_true rfl⟩) ⟨fun a U g mk q => by obtain ⟨q0, q1, qP, qK, qD, qS⟩ := q; exact ⟨q0, q1, qP, va_K.moved (u := U) (U := U.calling g mk a) (Vm.Alike.refl U.vm) qK, qD, SZ.same rfl rfl qS⟩, va_recv hK hP (ci := 4) (q0 := krd) rfl e_607, fun U hU hW => ⟨rfl, by rw [hU], by rw [hU]; exact hP, va_K.moved hW.alike hK, hD.weaken (fun _ _ _ _ => trivial), hsz9.go hS hW hU hFc⟩⟩ rfl rfl hl.1 rfl (lv_room (Nat.le_of_ble_eq_true rfl)) dX4_readEither_108 ⟨Nat.le_of_ble_eq_true rfl, Nat.le_of_ble_eq_true rfl⟩) hS (fun q _ h => hFc q h) hFc (fun u t H1 locs ht hvm w_618 hB hz1 hk1 hS => ?_)
      obtain ⟨ws_619, ty_620, hm_621, ht_623, hP1, hK1, hD1, hx_622⟩ := hB
      rw [ht] at hP1
      have hK := va_K.moved hvm.symm hK1
      have hD := hD1.weaken (fun _ _ _ h => hFc _ h)
      generalize H1 = H at hP1 hS ⊢
      have hP := hP1
      obtain ⟨g_625, e_624, h_626⟩ := hm_621.obj e_607
      obtain ⟨z_627, z_628, z_629, z_630, z_631, z_632, rfl⟩ := smX4 h_626
      obtain ⟨g_634, e_633, h_635⟩ := hm_621.obj e_608
      obtain ⟨z_636, z_637, z_638, z_639, rfl⟩ := smX6 h_635
      obtain ⟨f_641, e_640⟩ := hm_621.arrI e_609
      have u_642 := ht_623 _ _ u_611
      have e_643 := hm_621.keep (by rw [wb_519]; omega) e_610
      have u_644 := ht_623 _ _ u_612
      have hsm := hsm.tr (hm_621.mono (by decide))
      have hlp_58 := hlp_58.tr (hm_621.mono (by decide))
      have htx := htx.tr ht_623
      obtain ⟨hl_645, hR_646⟩ := hx_622.resolve_right (fun h9 => h9.1 (by omega))
      obtain ⟨kc_647, cc_648, tc_649, fc_650, kb_651, cb_652, tb_653, fb_654, hp_655, hT_656, er_657, et_658, wr_659, wt_660, ec_661, uc_662, wc_663, hc_664, eb_665, ub_666, wb_667, hb_668⟩ := id hR_646
      have hp_6551 := hp_655.1
      have hp_655t := teF_le (f := f9) hp_655.1
      refine lv_iload_n hx hb dX4_readEither_111 rfl (lv_at hl 1 rfl) ?_
      exact W.zret (v := 1) hx hb hr rfl (fun t ht hW => ⟨⟨1, 1, rfl, rfl, ws_619, ty_620, hsm, htx, by rw [ht]; exact hP, va_K.moved hW.alike hK, hD, Or.inr ⟨rfl, b_81, ta_82, T_83, _, hr_85, ow_jO hbs ow_86, ao_614, by omega, by rw [(ow_eO hbs ow_86).2 rfl, ← List.append_assoc, len_a1]; omega, by rw [(ow_eO hbs ow_86).2 rfl, ← List.append_assoc]; exact (⟨kc_647, cc_648, tc_649, fc_650, kb_651, cb_652, tb_653, fb_654, hp_655, hT_656, er_657, et_658, wr_659, wt_660, ec_661, uc_662, wc_663, hc_664, eb_665, ub_666, wb_667, hb_668⟩ : RSX ρ ws_619 ty_620 f9 rd krd tp ktp cd bb tl b_81 ((T_83 ++ eA ta_82) ++ [(1, 0, 0, 0)]) nk fr fk fp vl_84)⟩⟩, hS.F ht⟩) hS.2.2 dX4_readEither_112
    refine lv_if_eq (tgt := 101) hx hb dX4_readEither_27 (by decide) (fun c_669 => absurd c_669 (by decide)) (fun c_669 => ?_)
    refine lv_aload_n hx hb dX4_readEither_30 rfl (lv_at hl 4 rfl) ?_
    refine va_get (D := D) (ci := 4) (v := .ref tp) (C := RX4) (T := TX4) (N := 8) hx hb hts hin4 hown hK hP krd e_607 rfl 0 (by decide) (hts (.fieldLink RX4 12 "HoneyHouse$RuleReader" "tape" "LHoneyHouse$Tape;") (List.mem_of_getElem? (i := 1) rfl)) (fun _ h9 => h9) rfl dX4_readEither_31 ?_
    refine va_ldcS hx hb hown hsz9.2.2.2.2.2.1 dX4_readEither_34 ?_
    have hFc := free_all hD hS hA
    refine va_calli (va_runV (As := [.ref (adK 2)]) (rest := []) ⟨hx, hb, hml, hown, hts⟩ (a_isWord l D (rz []) ws_602 ty_603 adK adV fo 2 f9 tp ktp tl b_81 bb kb_503 cb_504 tb_505 fb_506 H.size (by decide) htl hb_520 hng hp_507 e_608 e_610 u_612 rz_o0) (cwV 1 hts gX4_readEither_X6_isWord rfl rfl rfl (by decide +kernel) ⟨Nat.le_of_ble_eq_true rfl, Nat.le_of_ble_eq_true rfl⟩) ⟨fun a U g mk q => by obtain ⟨q0, q1, qP, qK, qD, qS⟩ := q; exact ⟨q0, q1, qP, va_K.moved (u := U) (U := U.calling g mk a) (Vm.Alike.refl U.vm) qK, qD, SZ.same rfl rfl qS⟩, va_recv hK hP (ci := 6) (q0 := ktp) rfl e_608, fun U hU hW => ⟨rfl, by rw [hU], by rw [hU]; exact hP, va_K.moved hW.alike hK, hD.weaken (fun _ _ _ _ => trivial), hsz9.go hS hW hU hFc⟩⟩ rfl rfl hl.1 rfl (lv_room (Nat.le_of_ble_eq_true rfl)) dX4_readEither_36 ⟨Nat.le_of_ble_eq_true rfl, Nat.le_of_ble_eq_true rfl⟩) hS (fun q _ h => hFc q h) hFc (fun r_670 u t H1 locs ht hvm w_671 hB hz1 hk1 hS => ?_)
    obtain ⟨ws_672, ty_673, hm_674, ht_676, hP1, hK1, hD1, hx_675⟩ := hB
    rw [ht] at hP1
    have hK := va_K.moved hvm.symm hK1
    have hD := hD1.weaken (fun _ _ _ h => hFc _ h)
    generalize H1 = H at hP1 hS ⊢
    have hP := hP1
    have e_677 := hm_674.keep rz_o0 e_607
    have e_678 := hm_674.keep rz_o0 e_608
    have e_679 := hm_674.keep rz_o0 e_609
    have e_680 := hm_674.keep rz_o0 e_610
    have u_681 := ht_676 _ _ u_611
    have u_682 := ht_676 _ _ u_612
    have hm_683 : sm ρ [] ws_602 ws_672 := hm_674.up (fun k _ h => rz_u0  k h)
    have hsm := hsm.tr (hm_683.mono (by decide))
    have hlp_58 := hlp_58.tr (hm_683.mono (by decide))
    have htx := htx.tr ht_676
    rcases w_671 with ⟨rfl, iw_684⟩ | ⟨rfl, iw_684⟩
    · have iw_684 : ¬ wdE f9 tl b_81 = 2 := iw_684
      refine lv_istore (lv' := [(5, .int 0), (4, .int (nI i_52)), (2, .int 1), (3, .int 1), (1, .int 1), (0, .ref rd)]) hx hb dX4_readEither_39 hl (by decide) rfl (fun ls hl => ?_)
      refine lv_iload hx hb dX4_readEither_41 (lv_at hl 0 rfl) ?_
      refine lv_if_ne (tgt := 56) hx hb dX4_readEither_43 (by decide) (fun c_685 => absurd (by decide) c_685) (fun c_685 => ?_)
      refine lv_iload_n hx hb dX4_readEither_46 rfl (lv_at hl 3 rfl) ?_
      refine lv_if_eq (tgt := 56) hx hb dX4_readEither_47 (by decide) (fun c_686 => absurd c_686 (by decide)) (fun c_686 => ?_)
      refine lv_aload_n hx hb dX4_readEither_50 rfl (lv_at hl 5 rfl) ?_
      refine lv_bipush (v := (-3)) hx hb dX4_readEither_51 (by decide) ?_
      have hFc := free_all hD hS hA
      refine va_callv (va_runV (As := [.int (-3)]) (rest := []) ⟨hx, hb, hml, hown, hts⟩ (r_addCode l D ρ ws_672 ty_673 adK adV fo f9 rd krd tp ktp cd bb tl b_81 (T_83 ++ eA ta_82) nk fr fk fp vl_84 (1, 0, 0, 0) (-3) H.size htl hng (⟨kc_499, cc_500, tc_501, fc_502, kb_503, cb_504, tb_505, fb_506, hp_507, hT_508, e_677, e_678, wr_511, wt_512, e_679, u_681, wc_515, hc_516, e_680, u_682, wb_519, hb_520⟩ : RSX ρ ws_672 ty_673 f9 rd krd tp ktp cd bb tl b_81 (T_83 ++ eA ta_82) nk fr fk fp vl_84) rfl) (cwV 1 hts gX4_readEither_X4_addCode rfl rfl rfl (by decide +kernel) ⟨Nat.le_of_ble_eq_true rfl, Nat.le_of_ble_eq_true rfl⟩) ⟨fun a U g mk q => by obtain ⟨q0, q1, qP, qK, qD, qS⟩ := q; exact ⟨q0, q1, qP, va_K.moved (u := U) (U := U.calling g mk a) (Vm.Alike.refl U.vm) qK, qD, SZ.same rfl rfl qS⟩, va_recv hK hP (ci := 4) (q0 := krd) rfl e_677, fun U hU hW => ⟨rfl, by rw [hU], by rw [hU]; exact hP, va_K.moved hW.alike hK, hD.weaken (fun _ _ _ _ => trivial), hsz9.go hS hW hU hFc⟩⟩ rfl rfl hl.1 rfl (lv_room (Nat.le_of_ble_eq_true rfl)) dX4_readEither_53 ⟨Nat.le_of_ble_eq_true rfl, Nat.le_of_ble_eq_true rfl⟩) hS (fun q _ h => hFc q h) hFc (fun u t H1 locs ht hvm w_688 hB hz1 hk1 hS => ?_)
      obtain ⟨ws_689, ty_690, hm_691, ht_693, hP1, hK1, hD1, hx_692⟩ := hB
      rw [ht] at hP1
      have hK := va_K.moved hvm.symm hK1
      have hD := hD1.weaken (fun _ _ _ h => hFc _ h)
      generalize H1 = H at hP1 hS ⊢
      have hP := hP1
      obtain ⟨g_695, e_694, h_696⟩ := hm_691.obj e_677
      obtain ⟨z_697, z_698, z_699, z_700, z_701, z_702, rfl⟩ := smX4 h_696
      obtain ⟨g_704, e_703, h_705⟩ := hm_691.obj e_678
      obtain ⟨z_706, z_707, z_708, z_709, rfl⟩ := smX6 h_705
      obtain ⟨f_711, e_710⟩ := hm_691.arrI e_679
      have u_712 := ht_693 _ _ u_681
      have e_713 := hm_691.keep (by rw [wb_519]; omega) e_680
      have u_714 := ht_693 _ _ u_682
      have hsm := hsm.tr (hm_691.mono (by decide))
      have hlp_58 := hlp_58.tr (hm_691.mono (by decide))
      have htx := htx.tr ht_693
      obtain ⟨hl_715, hR_716⟩ := hx_692.resolve_right (fun h9 => h9.1 (by omega))
      obtain ⟨kc_717, cc_718, tc_719, fc_720, kb_721, cb_722, tb_723, fb_724, hp_725, hT_726, er_727, et_728, wr_729, wt_730, ec_731, uc_732, wc_733, hc_734, eb_735, ub_736, wb_737, hb_738⟩ := id hR_716
      have hp_7251 := hp_725.1
      have hp_725t := teF_le (f := f9) hp_725.1
      refine lv_iload_n hx hb dX4_readEither_56 rfl (lv_at hl 3 rfl) ?_
      refine lv_if_ne (tgt := 65) hx hb dX4_readEither_57 (by decide) (fun c_739 => ?_) (fun c_739 => absurd c_739 (by decide))
      refine lv_iconst (v := 1) hx hb dX4_readEither_65 (by decide) ?_
      refine lv_goto (tgt := 70) hx hb dX4_readEither_66 (by decide) ?_
      refine lv_istore_n (lv' := [(3, .int 1), (5, .int 0), (4, .int (nI i_52)), (2, .int 1), (1, .int 1), (0, .ref rd)]) hx hb dX4_readEither_70 rfl hl (by decide) rfl (fun ls hl => ?_)
      have hw1 : wdE f9 tl b_81 = 1 := by omega
      have hw9 : b_81 + 2 ≤ nxF f9 tl b_81 ∧ nxF f9 tl b_81 ≤ tl := nx_wd hp_725.1 (j := 1) (by omega) hw1
      have hm9 : Rch f9 tl (0, ts, σ, T) (0, nxF f9 tl b_81, 1 :: σ, (T_83 ++ eA ta_82) ++ [(1, 0, 0, 0)]) := by have h9 := hr_85.st (st_or hw1); rw [ow_jO hbs ow_86, (ow_eO hbs ow_86).2 rfl, ← List.append_assoc] at h9; exact h9
      have hdq : dep (1 :: σ) = dep σ := dep_n _ (by omega)
      have hl9 := len_a1 (T_83 ++ eA ta_82) ((1, 0, 0, 0) : Tk)
      refine lv_aload_n hx hb dX4_readEither_71 rfl (lv_at hl 5 rfl) ?_
      refine va_get (D := D) (ci := 4) (v := .ref tp) (C := RX4) (T := TX4) (N := 8) hx hb hts hin4 hown hK hP krd er_727 rfl 0 (by decide) (hts (.fieldLink RX4 12 "HoneyHouse$RuleReader" "tape" "LHoneyHouse$Tape;") (List.mem_of_getElem? (i := 1) rfl)) (fun _ h9 => h9) rfl dX4_readEither_72 ?_
      have hFc := free_all hD hS hA
      refine va_callv (va_runV (As := []) (rest := []) ⟨hx, hb, hml, hown, hts⟩ (a_advance l D (rz [ktp]) ws_689 ty_690 f9 tp ktp tl (teF f9 tl b_81) (nI (kdF f9 tl b_81)) (nI b_81) bb kb_721 cb_722 tb_723 fb_724 H.size htl hb_738 hng (by omega) et_728 eb_735 ub_736 (rz_o1 (pl_ne eb_735 et_728 (by intro h9; simp at h9))) (rz_in (by simp))) (cwV 0 hts gX4_readEither_X6_advance rfl rfl rfl (by decide +kernel) ⟨Nat.le_of_ble_eq_true rfl, Nat.le_of_ble_eq_true rfl⟩) ⟨fun a U g mk q => by obtain ⟨q0, q1, qP, qK, qD⟩ := q; exact ⟨q0, q1, qP, va_K.moved (u := U) (U := U.calling g mk a) (Vm.Alike.refl U.vm) qK, qD⟩, va_recv hK hP (ci := 6) (q0 := ktp) rfl et_728, fun U hU hW => ⟨rfl, by rw [hU], by rw [hU]; exact hP, va_K.moved hW.alike hK, hD.weaken (fun _ _ _ _ => trivial)⟩⟩ rfl rfl hl.1 rfl (lv_room (Nat.le_of_ble_eq_true rfl)) dX4_readEither_75 ⟨Nat.le_of_ble_eq_true rfl, Nat.le_of_ble_eq_true rfl⟩) hS (fun q _ h => hFc q h) hFc (fun u t H1 locs ht hvm w_741 hB hz1 hk1 hS => ?_)
      obtain ⟨ws_742, ty_743, hm_744, ht_746, hP1, hK1, hD1, hx_745⟩ := hB
      rw [ht] at hP1
      have hK := va_K.moved hvm.symm hK1
      have hD := hD1.weaken (fun _ _ _ h => hFc _ h)
      generalize H1 = H at hP1 hS ⊢
      have hP := hP1
      have e_747 := hm_744.keep (rz_o1 (pl_ne er_727 et_728 (by intro h9; simp at h9))) er_727
      have e_748 := hm_744.keep (rz_o1 (pl_ne ec_731 et_728 (by intro h9; simp at h9))) ec_731
      have e_749 := hm_744.keep (rz_o1 (pl_ne eb_735 et_728 (by intro h9; simp at h9))) eb_735
      have u_750 := ht_746 _ _ uc_732
      have u_751 := ht_746 _ _ ub_736
      have hm_752 : sm ρ [6] ws_689 ws_742 := hm_744.up (fun k _ h => rz_u1 wt_730 k h)
      have hsm := hsm.tr (hm_752.mono (by decide))
      have hlp_58 := hlp_58.tr (hm_752.mono (by decide))
      have htx := htx.tr ht_746
      have e_753 : ws_742[ktp]? = some (tp, .inr (6, [.int (nI tl), .int (nI (kdF f9 tl (nxF f9 tl b_81))), .int (nI (nxF f9 tl b_81)), .int (nI (teF f9 tl (nxF f9 tl b_81))), .ref bb])) := hx_745; have hq_754 : pcB f9 tl (nxF f9 tl b_81) := nxF_pc (f := f9) hp_725.1; have hq_7541 := hq_754.1; have hq_754t := teF_le (f := f9) hq_754.1; have hg_755 := nx_gain (f := f9) hp_725.1
      refine lv_aload_n hx hb dX4_readEither_78 rfl (lv_at hl 5 rfl) ?_
      refine lv_iload_n hx hb dX4_readEither_79 rfl (lv_at hl 4 rfl) ?_
      have hFc := free_all hD hS hA
      refine va_calli (va_runV (As := [.int 1]) (rest := []) ⟨hx, hb, hml, hown, hts⟩ (r_readOne1 l D ρ ws_742 ty_743 adK adV fo f9 rd krd tp ktp cd bb tl (nxF f9 tl b_81) ((T_83 ++ eA ta_82) ++ [(1, 0, 0, 0)]) nk fr fk fp vl_84 (1 :: σ) H.size htl hng (⟨kc_717, cc_718, tc_719, fc_720, kb_721, cb_722, tb_723, fb_724, hq_754, hT_726, e_747, e_753, wr_729, wt_730, e_748, u_750, wc_733, hc_734, e_749, u_751, wb_737, hb_738⟩ : RSX ρ ws_742 ty_743 f9 rd krd tp ktp cd bb tl (nxF f9 tl b_81) ((T_83 ++ eA ta_82) ++ [(1, 0, 0, 0)]) nk fr fk fp vl_84) (hdq.trans hdp) (by omega)) (cwV 1 hts gX4_readEither_X4_readOne rfl rfl rfl (by decide +kernel) ⟨Nat.le_of_ble_eq_true rfl, Nat.le_of_ble_eq_true rfl⟩) ⟨fun a U g mk q => by obtain ⟨q0, q1, qP, qK, qD, qS⟩ := q; exact ⟨q0, q1, qP, va_K.moved (u := U) (U := U.calling g mk a) (Vm.Alike.refl U.vm) qK, qD, SZ.same rfl rfl qS⟩, va_recv hK hP (ci := 4) (q0 := krd) rfl e_747, fun U hU hW => ⟨rfl, by rw [hU], by rw [hU]; exact hP, va_K.moved hW.alike hK, hD.weaken (fun _ _ _ _ => trivial), hsz9.go hS hW hU hFc⟩⟩ rfl rfl hl.1 rfl (lv_room (Nat.le_of_ble_eq_true rfl)) dX4_readEither_80 ⟨Nat.le_of_ble_eq_true rfl, Nat.le_of_ble_eq_true rfl⟩) hS (fun q _ h => hFc q h) hFc (fun r_756 u t H1 locs ht hvm w_757 hB hz1 hk1 hS => ?_)
      subst w_757
      obtain ⟨ws_758, ty_759, hm_760, ht_762, hP1, hK1, hD1, hx_761⟩ := hB
      rw [ht] at hP1
      have hK := va_K.moved hvm.symm hK1
      have hD := hD1.weaken (fun _ _ _ h => hFc _ h)
      generalize H1 = H at hP1 hS ⊢
      have hP := hP1
      obtain ⟨g_764, e_763, h_765⟩ := hm_760.obj e_747
      obtain ⟨z_766, z_767, z_768, z_769, z_770, z_771, rfl⟩ := smX4 h_765
      obtain ⟨g_773, e_772, h_774⟩ := hm_760.obj e_753
      obtain ⟨z_775, z_776, z_777, z_778, rfl⟩ := smX6 h_774
      obtain ⟨f_780, e_779⟩ := hm_760.arrI e_748
      have u_781 := ht_762 _ _ u_750
      have e_782 := hm_760.keep (by rw [wb_737]; omega) e_749
      have u_783 := ht_762 _ _ u_751
      have hsm := hsm.tr (hm_760.mono (by decide))
      have hlp_58 := hlp_58.tr (hm_760.mono (by decide))
      have htx := htx.tr ht_762
      rcases hx_761 with ⟨rfl, k_784, p_785, ts_786, T_787, vl_788, hk_789, hk_790, hr_791, hR_792⟩ | ⟨rfl, b_793, T_787, vl_788, hr_791, hg_797, hg_798, hR_792⟩
      · obtain ⟨kc_799, cc_800, tc_801, fc_802, kb_803, cb_804, tb_805, fb_806, hp_807, hT_808, er_809, et_810, wr_811, wt_812, ec_813, uc_814, wc_815, hc_816, eb_817, ub_818, wb_819, hb_820⟩ := id hR_792
        have hp_8071 := hp_807.1
        have hp_807t := teF_le (f := f9) hp_807.1
        refine lv_istore_n (lv' := [(2, .int 0), (3, .int 1), (5, .int 0), (4, .int (nI i_52)), (1, .int 1), (0, .ref rd)]) hx hb dX4_readEither_83 rfl hl (by decide) rfl (fun ls hl => ?_)
        refine lv_iload hx hb dX4_readEither_84 (lv_at hl 2 rfl) ?_
        refine lv_if_eq (tgt := 95) hx hb dX4_readEither_86 (by decide) (fun c_821 => ?_) (fun c_821 => absurd (by decide) c_821)
        refine lv_iinc (v := nI (i_52 + 1)) (lv' := [(4, .int (nI (i_52 + 1))), (2, .int 0), (3, .int 1), (5, .int 0), (1, .int 1), (0, .ref rd)]) hx hb dX4_readEither_95 hl (k := 3) rfl (nI_add i_52 1) (by decide) rfl (fun ls hl => ?_)
        refine lv_goto (tgt := 11) hx hb dX4_readEither_98 (by decide) ?_
        exact ih_51 (i_52 + 1, 0, 1) ws_758 _ _ ls (by show 400 - (i_52 + 1) < 400 - i_52; omega) ⟨hlp_58, ⟨ty_759, hK, htx, Or.inr ⟨rfl, Or.inr rfl, (⟨k_784, p_785, _, _, _, by omega, by omega, hm9.tr hr_791, (⟨kc_799, cc_800, tc_801, fc_802, kb_803, cb_804, tb_805, fb_806, hp_807, hT_808, er_809, et_810, wr_811, wt_812, ec_813, uc_814, wc_815, hc_816, eb_817, ub_818, wb_819, hb_820⟩ : RSX ρ ws_758 ty_759 f9 rd krd tp ktp cd bb tl ts_786 T_787 nk fr (nI k_784) (nI p_785) vl_788)⟩ : FLT ρ ws_758 ty_759 f9 rd krd tp ktp cd bb tl (0, ts, σ, T) nk fr)⟩⟩, (show (i_52 + 1) ≤ 400 from by omega)⟩ hP hD hS (lv_sub hl [0, 1, 2, 4, 5] rfl)
      obtain ⟨kc_822, cc_823, tc_824, fc_825, kb_826, cb_827, tb_828, fb_829, hp_830, hT_831, er_832, et_833, wr_834, wt_835, ec_836, uc_837, wc_838, hc_839, eb_840, ub_841, wb_842, hb_843⟩ := id hR_792
      have hp_8301 := hp_830.1
      have hp_830t := teF_le (f := f9) hp_830.1
      refine lv_istore_n (lv' := [(2, .int 1), (3, .int 1), (5, .int 0), (4, .int (nI i_52)), (1, .int 1), (0, .ref rd)]) hx hb dX4_readEither_83 rfl hl (by decide) rfl (fun ls hl => ?_)
      refine lv_iload hx hb dX4_readEither_84 (lv_at hl 2 rfl) ?_
      refine lv_if_eq (tgt := 95) hx hb dX4_readEither_86 (by decide) (fun c_844 => ?_) (fun c_844 => absurd (by decide) c_844)
      refine lv_iinc (v := nI (i_52 + 1)) (lv' := [(4, .int (nI (i_52 + 1))), (2, .int 1), (3, .int 1), (5, .int 0), (1, .int 1), (0, .ref rd)]) hx hb dX4_readEither_95 hl (k := 3) rfl (nI_add i_52 1) (by decide) rfl (fun ls hl => ?_)
      refine lv_goto (tgt := 11) hx hb dX4_readEither_98 (by decide) ?_
      exact ih_51 (i_52 + 1, 1, 1) ws_758 _ _ ls (by show 400 - (i_52 + 1) < 400 - i_52; omega) ⟨hlp_58, ⟨ty_759, hK, htx, Or.inl ⟨rfl, Or.inr rfl, (⟨b_793, 1 :: σ, T_787, _, hm9.tr (rch_an (by omega) hr_791), ow_or, by omega, fun _ => by rw [eA_n _ (by omega), List.append_nil]; omega, fun h9 => absurd h9 (by decide), by rw [eA_n _ (by omega), List.append_nil]; exact (⟨kc_822, cc_823, tc_824, fc_825, kb_826, cb_827, tb_828, fb_829, hp_830, hT_831, er_832, et_833, wr_834, wt_835, ec_836, uc_837, wc_838, hc_839, eb_840, ub_841, wb_842, hb_843⟩ : RSX ρ ws_758 ty_759 f9 rd krd tp ktp cd bb tl b_793 T_787 nk fr fk fp vl_788)⟩ : LPE ρ ws_758 ty_759 f9 rd krd tp ktp cd bb tl ts σ T nk fr fk fp (i_52 + 1) 1)⟩⟩, (show (i_52 + 1) ≤ 400 from by omega)⟩ hP hD hS (lv_sub hl [0, 1, 2, 4, 5] rfl)
    have iw_684 : wdE f9 tl b_81 = 2 := iw_684
    refine lv_istore (lv' := [(5, .int 1), (4, .int (nI i_52)), (2, .int 1), (3, .int 1), (1, .int 1), (0, .ref rd)]) hx hb dX4_readEither_39 hl (by decide) rfl (fun ls hl => ?_)
    refine lv_iload hx hb dX4_readEither_41 (lv_at hl 0 rfl) ?_
    refine lv_if_ne (tgt := 56) hx hb dX4_readEither_43 (by decide) (fun c_845 => ?_) (fun c_845 => absurd c_845 (by decide))
    refine lv_iload_n hx hb dX4_readEither_56 rfl (lv_at hl 3 rfl) ?_
    refine lv_if_ne (tgt := 65) hx hb dX4_readEither_57 (by decide) (fun c_846 => ?_) (fun c_846 => absurd c_846 (by decide))
    refine lv_iconst (v := 1) hx hb dX4_readEither_65 (by decide) ?_
    refine lv_goto (tgt := 70) hx hb dX4_readEither_66 (by decide) ?_
    refine lv_istore_n (lv' := [(3, .int 1), (5, .int 1), (4, .int (nI i_52)), (2, .int 1), (1, .int 1), (0, .ref rd)]) hx hb dX4_readEither_70 rfl hl (by decide) rfl (fun ls hl => ?_)
    have hw9 : b_81 + 3 ≤ nxF f9 tl b_81 ∧ nxF f9 tl b_81 ≤ tl := nx_wd hp_507.1 (j := 2) (by omega) iw_684
    have hm9 : Rch f9 tl (0, ts, σ, T) (0, nxF f9 tl b_81, 2 :: jA ta_82, T_83 ++ eA ta_82) := hr_85.st (st_and iw_684)
    have hdq : dep (2 :: jA ta_82) = dep σ := (dep_n _ (by omega)).trans ((dep_jA _).trans ((dep_jO _).symm.trans (congrArg dep (ow_jO hbs ow_86))))
    refine lv_aload_n hx hb dX4_readEither_71 rfl (lv_at hl 5 rfl) ?_
    refine va_get (D := D) (ci := 4) (v := .ref tp) (C := RX4) (T := TX4) (N := 8) hx hb hts hin4 hown hK hP krd e_677 rfl 0 (by decide) (hts (.fieldLink RX4 12 "HoneyHouse$RuleReader" "tape" "LHoneyHouse$Tape;") (List.mem_of_getElem? (i := 1) rfl)) (fun _ h9 => h9) rfl dX4_readEither_72 ?_
    have hFc := free_all hD hS hA
    refine va_callv (va_runV (As := []) (rest := []) ⟨hx, hb, hml, hown, hts⟩ (a_advance l D (rz [ktp]) ws_672 ty_673 f9 tp ktp tl (teF f9 tl b_81) (nI (kdF f9 tl b_81)) (nI b_81) bb kb_503 cb_504 tb_505 fb_506 H.size htl hb_520 hng (by omega) e_678 e_680 u_682 (rz_o1 (pl_ne e_680 e_678 (by intro h9; simp at h9))) (rz_in (by simp))) (cwV 0 hts gX4_readEither_X6_advance rfl rfl rfl (by decide +kernel) ⟨Nat.le_of_ble_eq_true rfl, Nat.le_of_ble_eq_true rfl⟩) ⟨fun a U g mk q => by obtain ⟨q0, q1, qP, qK, qD⟩ := q; exact ⟨q0, q1, qP, va_K.moved (u := U) (U := U.calling g mk a) (Vm.Alike.refl U.vm) qK, qD⟩, va_recv hK hP (ci := 6) (q0 := ktp) rfl e_678, fun U hU hW => ⟨rfl, by rw [hU], by rw [hU]; exact hP, va_K.moved hW.alike hK, hD.weaken (fun _ _ _ _ => trivial)⟩⟩ rfl rfl hl.1 rfl (lv_room (Nat.le_of_ble_eq_true rfl)) dX4_readEither_75 ⟨Nat.le_of_ble_eq_true rfl, Nat.le_of_ble_eq_true rfl⟩) hS (fun q _ h => hFc q h) hFc (fun u t H1 locs ht hvm w_848 hB hz1 hk1 hS => ?_)
    obtain ⟨ws_849, ty_850, hm_851, ht_853, hP1, hK1, hD1, hx_852⟩ := hB
    rw [ht] at hP1
    have hK := va_K.moved hvm.symm hK1
    have hD := hD1.weaken (fun _ _ _ h => hFc _ h)
    generalize H1 = H at hP1 hS ⊢
    have hP := hP1
    have e_854 := hm_851.keep (rz_o1 (pl_ne e_677 e_678 (by intro h9; simp at h9))) e_677
    have e_855 := hm_851.keep (rz_o1 (pl_ne e_679 e_678 (by intro h9; simp at h9))) e_679
    have e_856 := hm_851.keep (rz_o1 (pl_ne e_680 e_678 (by intro h9; simp at h9))) e_680
    have u_857 := ht_853 _ _ u_681
    have u_858 := ht_853 _ _ u_682
    have hm_859 : sm ρ [6] ws_672 ws_849 := hm_851.up (fun k _ h => rz_u1 wt_512 k h)
    have hsm := hsm.tr (hm_859.mono (by decide))
    have hlp_58 := hlp_58.tr (hm_859.mono (by decide))
    have htx := htx.tr ht_853
    have e_860 : ws_849[ktp]? = some (tp, .inr (6, [.int (nI tl), .int (nI (kdF f9 tl (nxF f9 tl b_81))), .int (nI (nxF f9 tl b_81)), .int (nI (teF f9 tl (nxF f9 tl b_81))), .ref bb])) := hx_852; have hq_861 : pcB f9 tl (nxF f9 tl b_81) := nxF_pc (f := f9) hp_507.1; have hq_8611 := hq_861.1; have hq_861t := teF_le (f := f9) hq_861.1; have hg_862 := nx_gain (f := f9) hp_507.1
    refine lv_aload_n hx hb dX4_readEither_78 rfl (lv_at hl 5 rfl) ?_
    refine lv_iload_n hx hb dX4_readEither_79 rfl (lv_at hl 4 rfl) ?_
    have hFc := free_all hD hS hA
    refine va_calli (va_runV (As := [.int 1]) (rest := []) ⟨hx, hb, hml, hown, hts⟩ (r_readOne1 l D ρ ws_849 ty_850 adK adV fo f9 rd krd tp ktp cd bb tl (nxF f9 tl b_81) (T_83 ++ eA ta_82) nk fr fk fp vl_84 (2 :: jA ta_82) H.size htl hng (⟨kc_499, cc_500, tc_501, fc_502, kb_503, cb_504, tb_505, fb_506, hq_861, hT_508, e_854, e_860, wr_511, wt_512, e_855, u_857, wc_515, hc_516, e_856, u_858, wb_519, hb_520⟩ : RSX ρ ws_849 ty_850 f9 rd krd tp ktp cd bb tl (nxF f9 tl b_81) (T_83 ++ eA ta_82) nk fr fk fp vl_84) (hdq.trans hdp) (by omega)) (cwV 1 hts gX4_readEither_X4_readOne rfl rfl rfl (by decide +kernel) ⟨Nat.le_of_ble_eq_true rfl, Nat.le_of_ble_eq_true rfl⟩) ⟨fun a U g mk q => by obtain ⟨q0, q1, qP, qK, qD, qS⟩ := q; exact ⟨q0, q1, qP, va_K.moved (u := U) (U := U.calling g mk a) (Vm.Alike.refl U.vm) qK, qD, SZ.same rfl rfl qS⟩, va_recv hK hP (ci := 4) (q0 := krd) rfl e_854, fun U hU hW => ⟨rfl, by rw [hU], by rw [hU]; exact hP, va_K.moved hW.alike hK, hD.weaken (fun _ _ _ _ => trivial), hsz9.go hS hW hU hFc⟩⟩ rfl rfl hl.1 rfl (lv_room (Nat.le_of_ble_eq_true rfl)) dX4_readEither_80 ⟨Nat.le_of_ble_eq_true rfl, Nat.le_of_ble_eq_true rfl⟩) hS (fun q _ h => hFc q h) hFc (fun r_863 u t H1 locs ht hvm w_864 hB hz1 hk1 hS => ?_)
    subst w_864
    obtain ⟨ws_865, ty_866, hm_867, ht_869, hP1, hK1, hD1, hx_868⟩ := hB
    rw [ht] at hP1
    have hK := va_K.moved hvm.symm hK1
    have hD := hD1.weaken (fun _ _ _ h => hFc _ h)
    generalize H1 = H at hP1 hS ⊢
    have hP := hP1
    obtain ⟨g_871, e_870, h_872⟩ := hm_867.obj e_854
    obtain ⟨z_873, z_874, z_875, z_876, z_877, z_878, rfl⟩ := smX4 h_872
    obtain ⟨g_880, e_879, h_881⟩ := hm_867.obj e_860
    obtain ⟨z_882, z_883, z_884, z_885, rfl⟩ := smX6 h_881
    obtain ⟨f_887, e_886⟩ := hm_867.arrI e_855
    have u_888 := ht_869 _ _ u_857
    have e_889 := hm_867.keep (by rw [wb_519]; omega) e_856
    have u_890 := ht_869 _ _ u_858
    have hsm := hsm.tr (hm_867.mono (by decide))
    have hlp_58 := hlp_58.tr (hm_867.mono (by decide))
    have htx := htx.tr ht_869
    rcases hx_868 with ⟨rfl, k_891, p_892, ts_893, T_894, vl_895, hk_896, hk_897, hr_898, hR_899⟩ | ⟨rfl, b_900, T_894, vl_895, hr_898, hg_904, hg_905, hR_899⟩
    · obtain ⟨kc_906, cc_907, tc_908, fc_909, kb_910, cb_911, tb_912, fb_913, hp_914, hT_915, er_916, et_917, wr_918, wt_919, ec_920, uc_921, wc_922, hc_923, eb_924, ub_925, wb_926, hb_927⟩ := id hR_899
      have hp_9141 := hp_914.1
      have hp_914t := teF_le (f := f9) hp_914.1
      refine lv_istore_n (lv' := [(2, .int 0), (3, .int 1), (5, .int 1), (4, .int (nI i_52)), (1, .int 1), (0, .ref rd)]) hx hb dX4_readEither_83 rfl hl (by decide) rfl (fun ls hl => ?_)
      refine lv_iload hx hb dX4_readEither_84 (lv_at hl 2 rfl) ?_
      refine lv_if_eq (tgt := 95) hx hb dX4_readEither_86 (by decide) (fun c_928 => absurd c_928 (by decide)) (fun c_928 => ?_)
      refine lv_aload_n hx hb dX4_readEither_89 rfl (lv_at hl 5 rfl) ?_
      refine lv_bipush (v := (-2)) hx hb dX4_readEither_90 (by decide) ?_
      have hFc := free_all hD hS hA
      refine va_callv (va_runV (As := [.int (-2)]) (rest := []) ⟨hx, hb, hml, hown, hts⟩ (r_addCode l D ρ ws_865 ty_866 adK adV fo f9 rd krd tp ktp cd bb tl ts_893 T_894 nk fr (nI k_891) (nI p_892) vl_895 (2, 0, 0, 0) (-2) H.size htl hng (⟨kc_906, cc_907, tc_908, fc_909, kb_910, cb_911, tb_912, fb_913, hp_914, hT_915, er_916, et_917, wr_918, wt_919, ec_920, uc_921, wc_922, hc_923, eb_924, ub_925, wb_926, hb_927⟩ : RSX ρ ws_865 ty_866 f9 rd krd tp ktp cd bb tl ts_893 T_894 nk fr (nI k_891) (nI p_892) vl_895) rfl) (cwV 1 hts gX4_readEither_X4_addCode rfl rfl rfl (by decide +kernel) ⟨Nat.le_of_ble_eq_true rfl, Nat.le_of_ble_eq_true rfl⟩) ⟨fun a U g mk q => by obtain ⟨q0, q1, qP, qK, qD, qS⟩ := q; exact ⟨q0, q1, qP, va_K.moved (u := U) (U := U.calling g mk a) (Vm.Alike.refl U.vm) qK, qD, SZ.same rfl rfl qS⟩, va_recv hK hP (ci := 4) (q0 := krd) rfl er_916, fun U hU hW => ⟨rfl, by rw [hU], by rw [hU]; exact hP, va_K.moved hW.alike hK, hD.weaken (fun _ _ _ _ => trivial), hsz9.go hS hW hU hFc⟩⟩ rfl rfl hl.1 rfl (lv_room (Nat.le_of_ble_eq_true rfl)) dX4_readEither_92 ⟨Nat.le_of_ble_eq_true rfl, Nat.le_of_ble_eq_true rfl⟩) hS (fun q _ h => hFc q h) hFc (fun u t H1 locs ht hvm w_930 hB hz1 hk1 hS => ?_)
      obtain ⟨ws_931, ty_932, hm_933, ht_935, hP1, hK1, hD1, hx_934⟩ := hB
      rw [ht] at hP1
      have hK := va_K.moved hvm.symm hK1
      have hD := hD1.weaken (fun _ _ _ h => hFc _ h)
      generalize H1 = H at hP1 hS ⊢
      have hP := hP1
      obtain ⟨g_937, e_936, h_938⟩ := hm_933.obj er_916
      obtain ⟨z_939, z_940, z_941, z_942, z_943, z_944, rfl⟩ := smX4 h_938
      obtain ⟨g_946, e_945, h_947⟩ := hm_933.obj et_917
      obtain ⟨z_948, z_949, z_950, z_951, rfl⟩ := smX6 h_947
      obtain ⟨f_953, e_952⟩ := hm_933.arrI ec_920
      have u_954 := ht_935 _ _ uc_921
      have e_955 := hm_933.keep (by rw [wb_926]; omega) eb_924
      have u_956 := ht_935 _ _ ub_925
      have hsm := hsm.tr (hm_933.mono (by decide))
      have hlp_58 := hlp_58.tr (hm_933.mono (by decide))
      have htx := htx.tr ht_935
      rcases hx_934 with ⟨hl_957, hR_958⟩ | ⟨hl_957, hR_958⟩
      · obtain ⟨kc_959, cc_960, tc_961, fc_962, kb_963, cb_964, tb_965, fb_966, hp_967, hT_968, er_969, et_970, wr_971, wt_972, ec_973, uc_974, wc_975, hc_976, eb_977, ub_978, wb_979, hb_980⟩ := id hR_958
        have hp_9671 := hp_967.1
        have hp_967t := teF_le (f := f9) hp_967.1
        refine lv_iinc (v := nI (i_52 + 1)) (lv' := [(4, .int (nI (i_52 + 1))), (2, .int 0), (3, .int 1), (5, .int 1), (1, .int 1), (0, .ref rd)]) hx hb dX4_readEither_95 hl (k := 3) rfl (nI_add i_52 1) (by decide) rfl (fun ls hl => ?_)
        refine lv_goto (tgt := 11) hx hb dX4_readEither_98 (by decide) ?_
        exact ih_51 (i_52 + 1, 0, 1) ws_931 _ _ ls (by show 400 - (i_52 + 1) < 400 - i_52; omega) ⟨hlp_58, ⟨ty_932, hK, htx, Or.inr ⟨rfl, Or.inr rfl, (⟨k_891, p_892, _, _, _, by omega, by omega, hm9.tr hr_898, (⟨kc_959, cc_960, tc_961, fc_962, kb_963, cb_964, tb_965, fb_966, hp_967, hT_968, er_969, et_970, wr_971, wt_972, ec_973, uc_974, wc_975, hc_976, eb_977, ub_978, wb_979, hb_980⟩ : RSX ρ ws_931 ty_932 f9 rd krd tp ktp cd bb tl ts_893 (T_894 ++ [(2, 0, 0, 0)]) nk fr (nI k_891) (nI p_892) vl_895)⟩ : FLT ρ ws_931 ty_932 f9 rd krd tp ktp cd bb tl (0, ts, σ, T) nk fr)⟩⟩, (show (i_52 + 1) ≤ 400 from by omega)⟩ hP hD hS (lv_sub hl [0, 1, 2, 4, 5] rfl)
      obtain ⟨kc_981, cc_982, tc_983, fc_984, kb_985, cb_986, tb_987, fb_988, hp_989, hT_990, er_991, et_992, wr_993, wt_994, ec_995, uc_996, wc_997, hc_998, eb_999, ub_1000, wb_1001, hb_1002⟩ := id hR_958
      have hp_9891 := hp_989.1
      have hp_989t := teF_le (f := f9) hp_989.1
      refine lv_iinc (v := nI (i_52 + 1)) (lv' := [(4, .int (nI (i_52 + 1))), (2, .int 0), (3, .int 1), (5, .int 1), (1, .int 1), (0, .ref rd)]) hx hb dX4_readEither_95 hl (k := 3) rfl (nI_add i_52 1) (by decide) rfl (fun ls hl => ?_)
      refine lv_goto (tgt := 11) hx hb dX4_readEither_98 (by decide) ?_
      exact ih_51 (i_52 + 1, 0, 1) ws_931 _ _ ls (by show 400 - (i_52 + 1) < 400 - i_52; omega) ⟨hlp_58, ⟨ty_932, hK, htx, Or.inr ⟨rfl, Or.inr rfl, (⟨k_891, p_892, _, _, _, by omega, by omega, hm9.tr hr_898, (⟨kc_981, cc_982, tc_983, fc_984, kb_985, cb_986, tb_987, fb_988, hp_989, hT_990, er_991, et_992, wr_993, wt_994, ec_995, uc_996, wc_997, hc_998, eb_999, ub_1000, wb_1001, hb_1002⟩ : RSX ρ ws_931 ty_932 f9 rd krd tp ktp cd bb tl ts_893 T_894 nk fr (nI k_891) (nI p_892) vl_895)⟩ : FLT ρ ws_931 ty_932 f9 rd krd tp ktp cd bb tl (0, ts, σ, T) nk fr)⟩⟩, (show (i_52 + 1) ≤ 400 from by omega)⟩ hP hD hS (lv_sub hl [0, 1, 2, 4, 5] rfl)
    obtain ⟨kc_1003, cc_1004, tc_1005, fc_1006, kb_1007, cb_1008, tb_1009, fb_1010, hp_1011, hT_1012, er_1013, et_1014, wr_1015, wt_1016, ec_1017, uc_1018, wc_1019, hc_1020, eb_1021, ub_1022, wb_1023, hb_1024⟩ := id hR_899
    have hp_10111 := hp_1011.1
    have hp_1011t := teF_le (f := f9) hp_1011.1
    refine lv_istore_n (lv' := [(2, .int 1), (3, .int 1), (5, .int 1), (4, .int (nI i_52)), (1, .int 1), (0, .ref rd)]) hx hb dX4_readEither_83 rfl hl (by decide) rfl (fun ls hl => ?_)
    refine lv_iload hx hb dX4_readEither_84 (lv_at hl 2 rfl) ?_
    refine lv_if_eq (tgt := 95) hx hb dX4_readEither_86 (by decide) (fun c_1025 => absurd c_1025 (by decide)) (fun c_1025 => ?_)
    refine lv_aload_n hx hb dX4_readEither_89 rfl (lv_at hl 5 rfl) ?_
    refine lv_bipush (v := (-2)) hx hb dX4_readEither_90 (by decide) ?_
    have hFc := free_all hD hS hA
    refine va_callv (va_runV (As := [.int (-2)]) (rest := []) ⟨hx, hb, hml, hown, hts⟩ (r_addCode l D ρ ws_865 ty_866 adK adV fo f9 rd krd tp ktp cd bb tl b_900 T_894 nk fr fk fp vl_895 (2, 0, 0, 0) (-2) H.size htl hng (⟨kc_1003, cc_1004, tc_1005, fc_1006, kb_1007, cb_1008, tb_1009, fb_1010, hp_1011, hT_1012, er_1013, et_1014, wr_1015, wt_1016, ec_1017, uc_1018, wc_1019, hc_1020, eb_1021, ub_1022, wb_1023, hb_1024⟩ : RSX ρ ws_865 ty_866 f9 rd krd tp ktp cd bb tl b_900 T_894 nk fr fk fp vl_895) rfl) (cwV 1 hts gX4_readEither_X4_addCode rfl rfl rfl (by decide +kernel) ⟨Nat.le_of_ble_eq_true rfl, Nat.le_of_ble_eq_true rfl⟩) ⟨fun a U g mk q => by obtain ⟨q0, q1, qP, qK, qD, qS⟩ := q; exact ⟨q0, q1, qP, va_K.moved (u := U) (U := U.calling g mk a) (Vm.Alike.refl U.vm) qK, qD, SZ.same rfl rfl qS⟩, va_recv hK hP (ci := 4) (q0 := krd) rfl er_1013, fun U hU hW => ⟨rfl, by rw [hU], by rw [hU]; exact hP, va_K.moved hW.alike hK, hD.weaken (fun _ _ _ _ => trivial), hsz9.go hS hW hU hFc⟩⟩ rfl rfl hl.1 rfl (lv_room (Nat.le_of_ble_eq_true rfl)) dX4_readEither_92 ⟨Nat.le_of_ble_eq_true rfl, Nat.le_of_ble_eq_true rfl⟩) hS (fun q _ h => hFc q h) hFc (fun u t H1 locs ht hvm w_1027 hB hz1 hk1 hS => ?_)
    obtain ⟨ws_1028, ty_1029, hm_1030, ht_1032, hP1, hK1, hD1, hx_1031⟩ := hB
    rw [ht] at hP1
    have hK := va_K.moved hvm.symm hK1
    have hD := hD1.weaken (fun _ _ _ h => hFc _ h)
    generalize H1 = H at hP1 hS ⊢
    have hP := hP1
    obtain ⟨g_1034, e_1033, h_1035⟩ := hm_1030.obj er_1013
    obtain ⟨z_1036, z_1037, z_1038, z_1039, z_1040, z_1041, rfl⟩ := smX4 h_1035
    obtain ⟨g_1043, e_1042, h_1044⟩ := hm_1030.obj et_1014
    obtain ⟨z_1045, z_1046, z_1047, z_1048, rfl⟩ := smX6 h_1044
    obtain ⟨f_1050, e_1049⟩ := hm_1030.arrI ec_1017
    have u_1051 := ht_1032 _ _ uc_1018
    have e_1052 := hm_1030.keep (by rw [wb_1023]; omega) eb_1021
    have u_1053 := ht_1032 _ _ ub_1022
    have hsm := hsm.tr (hm_1030.mono (by decide))
    have hlp_58 := hlp_58.tr (hm_1030.mono (by decide))
    have htx := htx.tr ht_1032
    obtain ⟨hl_1054, hR_1055⟩ := hx_1031.resolve_right (fun h9 => h9.1 (by omega))
    obtain ⟨kc_1056, cc_1057, tc_1058, fc_1059, kb_1060, cb_1061, tb_1062, fb_1063, hp_1064, hT_1065, er_1066, et_1067, wr_1068, wt_1069, ec_1070, uc_1071, wc_1072, hc_1073, eb_1074, ub_1075, wb_1076, hb_1077⟩ := id hR_1055
    have hp_10641 := hp_1064.1
    have hp_1064t := teF_le (f := f9) hp_1064.1
    refine lv_iinc (v := nI (i_52 + 1)) (lv' := [(4, .int (nI (i_52 + 1))), (2, .int 1), (3, .int 1), (5, .int 1), (1, .int 1), (0, .ref rd)]) hx hb dX4_readEither_95 hl (k := 3) rfl (nI_add i_52 1) (by decide) rfl (fun ls hl => ?_)
    refine lv_goto (tgt := 11) hx hb dX4_readEither_98 (by decide) ?_
    exact ih_51 (i_52 + 1, 1, 1) ws_1028 _ _ ls (by show 400 - (i_52 + 1) < 400 - i_52; omega) ⟨hlp_58, ⟨ty_1029, hK, htx, Or.inl ⟨rfl, Or.inr rfl, (⟨b_900, 2 :: jA ta_82, T_894, _, hm9.tr (rch_an (by omega) hr_898), ow_and hbs ow_86, by omega, fun _ => by rw [eA_2jA, len_a1]; omega, fun h9 => absurd h9 (by decide), by rw [eA_2jA]; exact (⟨kc_1056, cc_1057, tc_1058, fc_1059, kb_1060, cb_1061, tb_1062, fb_1063, hp_1064, hT_1065, er_1066, et_1067, wr_1068, wt_1069, ec_1070, uc_1071, wc_1072, hc_1073, eb_1074, ub_1075, wb_1076, hb_1077⟩ : RSX ρ ws_1028 ty_1029 f9 rd krd tp ktp cd bb tl b_900 (T_894 ++ [(2, 0, 0, 0)]) nk fr fk fp vl_895)⟩ : LPE ρ ws_1028 ty_1029 f9 rd krd tp ktp cd bb tl ts σ T nk fr fk fp (i_52 + 1) 1)⟩⟩, (show (i_52 + 1) ≤ 400 from by omega)⟩ hP hD hS (lv_sub hl [0, 1, 2, 4, 5] rfl)
  · obtain ⟨kc_1078, cc_1079, tc_1080, fc_1081, kb_1082, cb_1083, tb_1084, fb_1085, hp_1086, hT_1087, er_1088, et_1089, wr_1090, wt_1091, ec_1092, uc_1093, wc_1094, hc_1095, eb_1096, ub_1097, wb_1098, hb_1099⟩ := id hR_90
    have hp_10861 := hp_1086.1
    have hp_1086t := teF_le (f := f9) hp_1086.1
    refine lv_sipush (v := 400) hx hb dX4_readEither_13 (by decide) ?_
    refine lv_icmp_ge (tgt := 101) hx hb dX4_readEither_16 (by decide) (fun c_1100 => ?_) (fun c_1100 => ?_)
    · have d_1101 := n_le (a := 400) (b := i_52) (by omega) (by omega) c_1100
      refine lv_iload_n hx hb dX4_readEither_101 rfl (lv_at hl 2 rfl) ?_
      refine lv_if_eq (tgt := 111) hx hb dX4_readEither_102 (by decide) (fun c_1102 => ?_) (fun c_1102 => absurd (by decide) c_1102)
      refine lv_iload_n hx hb dX4_readEither_111 rfl (lv_at hl 1 rfl) ?_
      exact W.zret (v := 0) hx hb hr rfl (fun t ht hW => ⟨⟨0, 0, rfl, rfl, ws_56, ty_79, hsm, htx, by rw [ht]; exact hP, va_K.moved hW.alike hK, hD, Or.inl ⟨rfl, k_91, p_92, _, _, _, by omega, by omega, hr_85, (⟨kc_1078, cc_1079, tc_1080, fc_1081, kb_1082, cb_1083, tb_1084, fb_1085, hp_1086, hT_1087, er_1088, et_1089, wr_1090, wt_1091, ec_1092, uc_1093, wc_1094, hc_1095, eb_1096, ub_1097, wb_1098, hb_1099⟩ : RSX ρ ws_56 ty_79 f9 rd krd tp ktp cd bb tl ts_93 T_83 nk fr (nI k_91) (nI p_92) vl_84)⟩⟩, hS.F ht⟩) hS.2.2 dX4_readEither_112
    have d_1103 := n_nle (a := 400) (b := i_52) (by omega) (by omega) c_1100
    refine lv_iload_n hx hb dX4_readEither_19 rfl (lv_at hl 1 rfl) ?_
    refine lv_if_eq (tgt := 101) hx hb dX4_readEither_20 (by decide) (fun c_1104 => ?_) (fun c_1104 => absurd (by decide) c_1104)
    refine lv_iload_n hx hb dX4_readEither_101 rfl (lv_at hl 2 rfl) ?_
    refine lv_if_eq (tgt := 111) hx hb dX4_readEither_102 (by decide) (fun c_1105 => ?_) (fun c_1105 => absurd (by decide) c_1105)
    refine lv_iload_n hx hb dX4_readEither_111 rfl (lv_at hl 1 rfl) ?_
    exact W.zret (v := 0) hx hb hr rfl (fun t ht hW => ⟨⟨0, 0, rfl, rfl, ws_56, ty_79, hsm, htx, by rw [ht]; exact hP, va_K.moved hW.alike hK, hD, Or.inl ⟨rfl, k_91, p_92, _, _, _, by omega, by omega, hr_85, (⟨kc_1078, cc_1079, tc_1080, fc_1081, kb_1082, cb_1083, tb_1084, fb_1085, hp_1086, hT_1087, er_1088, et_1089, wr_1090, wt_1091, ec_1092, uc_1093, wc_1094, hc_1095, eb_1096, ub_1097, wb_1098, hb_1099⟩ : RSX ρ ws_56 ty_79 f9 rd krd tp ktp cd bb tl ts_93 T_83 nk fr (nI k_91) (nI p_92) vl_84)⟩⟩, hS.F ht⟩) hS.2.2 dX4_readEither_112
  obtain ⟨kc_1106, cc_1107, tc_1108, fc_1109, kb_1110, cb_1111, tb_1112, fb_1113, hp_1114, hT_1115, er_1116, et_1117, wr_1118, wt_1119, ec_1120, uc_1121, wc_1122, hc_1123, eb_1124, ub_1125, wb_1126, hb_1127⟩ := id hR_90
  have hp_11141 := hp_1114.1
  have hp_1114t := teF_le (f := f9) hp_1114.1
  refine lv_sipush (v := 400) hx hb dX4_readEither_13 (by decide) ?_
  refine lv_icmp_ge (tgt := 101) hx hb dX4_readEither_16 (by decide) (fun c_1128 => ?_) (fun c_1128 => ?_)
  · have d_1129 := n_le (a := 400) (b := i_52) (by omega) (by omega) c_1128
    refine lv_iload_n hx hb dX4_readEither_101 rfl (lv_at hl 2 rfl) ?_
    refine lv_if_eq (tgt := 111) hx hb dX4_readEither_102 (by decide) (fun c_1130 => absurd c_1130 (by decide)) (fun c_1130 => ?_)
    refine lv_aload_n hx hb dX4_readEither_105 rfl (lv_at hl 4 rfl) ?_
    refine lv_bipush (v := (-3)) hx hb dX4_readEither_106 (by decide) ?_
    have hFc := free_all hD hS hA
    refine va_callv (va_runV (As := [.int (-3)]) (rest := []) ⟨hx, hb, hml, hown, hts⟩ (r_addCode l D ρ ws_56 ty_79 adK adV fo f9 rd krd tp ktp cd bb tl ts_93 T_83 nk fr (nI k_91) (nI p_92) vl_84 (1, 0, 0, 0) (-3) H.size htl hng (⟨kc_1106, cc_1107, tc_1108, fc_1109, kb_1110, cb_1111, tb_1112, fb_1113, hp_1114, hT_1115, er_1116, et_1117, wr_1118, wt_1119, ec_1120, uc_1121, wc_1122, hc_1123, eb_1124, ub_1125, wb_1126, hb_1127⟩ : RSX ρ ws_56 ty_79 f9 rd krd tp ktp cd bb tl ts_93 T_83 nk fr (nI k_91) (nI p_92) vl_84) rfl) (cwV 1 hts gX4_readEither_X4_addCode rfl rfl rfl (by decide +kernel) ⟨Nat.le_of_ble_eq_true rfl, Nat.le_of_ble_eq_true rfl⟩) ⟨fun a U g mk q => by obtain ⟨q0, q1, qP, qK, qD, qS⟩ := q; exact ⟨q0, q1, qP, va_K.moved (u := U) (U := U.calling g mk a) (Vm.Alike.refl U.vm) qK, qD, SZ.same rfl rfl qS⟩, va_recv hK hP (ci := 4) (q0 := krd) rfl er_1116, fun U hU hW => ⟨rfl, by rw [hU], by rw [hU]; exact hP, va_K.moved hW.alike hK, hD.weaken (fun _ _ _ _ => trivial), hsz9.go hS hW hU hFc⟩⟩ rfl rfl hl.1 rfl (lv_room (Nat.le_of_ble_eq_true rfl)) dX4_readEither_108 ⟨Nat.le_of_ble_eq_true rfl, Nat.le_of_ble_eq_true rfl⟩) hS (fun q _ h => hFc q h) hFc (fun u t H1 locs ht hvm w_1132 hB hz1 hk1 hS => ?_)
    obtain ⟨ws_1133, ty_1134, hm_1135, ht_1137, hP1, hK1, hD1, hx_1136⟩ := hB
    rw [ht] at hP1
    have hK := va_K.moved hvm.symm hK1
    have hD := hD1.weaken (fun _ _ _ h => hFc _ h)
    generalize H1 = H at hP1 hS ⊢
    have hP := hP1
    obtain ⟨g_1139, e_1138, h_1140⟩ := hm_1135.obj er_1116
    obtain ⟨z_1141, z_1142, z_1143, z_1144, z_1145, z_1146, rfl⟩ := smX4 h_1140
    obtain ⟨g_1148, e_1147, h_1149⟩ := hm_1135.obj et_1117
    obtain ⟨z_1150, z_1151, z_1152, z_1153, rfl⟩ := smX6 h_1149
    obtain ⟨f_1155, e_1154⟩ := hm_1135.arrI ec_1120
    have u_1156 := ht_1137 _ _ uc_1121
    have e_1157 := hm_1135.keep (by rw [wb_1126]; omega) eb_1124
    have u_1158 := ht_1137 _ _ ub_1125
    have hsm := hsm.tr (hm_1135.mono (by decide))
    have hlp_58 := hlp_58.tr (hm_1135.mono (by decide))
    have htx := htx.tr ht_1137
    rcases hx_1136 with ⟨hl_1159, hR_1160⟩ | ⟨hl_1159, hR_1160⟩
    · obtain ⟨kc_1161, cc_1162, tc_1163, fc_1164, kb_1165, cb_1166, tb_1167, fb_1168, hp_1169, hT_1170, er_1171, et_1172, wr_1173, wt_1174, ec_1175, uc_1176, wc_1177, hc_1178, eb_1179, ub_1180, wb_1181, hb_1182⟩ := id hR_1160
      have hp_11691 := hp_1169.1
      have hp_1169t := teF_le (f := f9) hp_1169.1
      refine lv_iload_n hx hb dX4_readEither_111 rfl (lv_at hl 1 rfl) ?_
      exact W.zret (v := 0) hx hb hr rfl (fun t ht hW => ⟨⟨0, 0, rfl, rfl, ws_1133, ty_1134, hsm, htx, by rw [ht]; exact hP, va_K.moved hW.alike hK, hD, Or.inl ⟨rfl, k_91, p_92, _, _, _, by omega, by omega, hr_85, (⟨kc_1161, cc_1162, tc_1163, fc_1164, kb_1165, cb_1166, tb_1167, fb_1168, hp_1169, hT_1170, er_1171, et_1172, wr_1173, wt_1174, ec_1175, uc_1176, wc_1177, hc_1178, eb_1179, ub_1180, wb_1181, hb_1182⟩ : RSX ρ ws_1133 ty_1134 f9 rd krd tp ktp cd bb tl ts_93 (T_83 ++ [(1, 0, 0, 0)]) nk fr (nI k_91) (nI p_92) vl_84)⟩⟩, hS.F ht⟩) hS.2.2 dX4_readEither_112
    obtain ⟨kc_1183, cc_1184, tc_1185, fc_1186, kb_1187, cb_1188, tb_1189, fb_1190, hp_1191, hT_1192, er_1193, et_1194, wr_1195, wt_1196, ec_1197, uc_1198, wc_1199, hc_1200, eb_1201, ub_1202, wb_1203, hb_1204⟩ := id hR_1160
    have hp_11911 := hp_1191.1
    have hp_1191t := teF_le (f := f9) hp_1191.1
    refine lv_iload_n hx hb dX4_readEither_111 rfl (lv_at hl 1 rfl) ?_
    exact W.zret (v := 0) hx hb hr rfl (fun t ht hW => ⟨⟨0, 0, rfl, rfl, ws_1133, ty_1134, hsm, htx, by rw [ht]; exact hP, va_K.moved hW.alike hK, hD, Or.inl ⟨rfl, k_91, p_92, _, _, _, by omega, by omega, hr_85, (⟨kc_1183, cc_1184, tc_1185, fc_1186, kb_1187, cb_1188, tb_1189, fb_1190, hp_1191, hT_1192, er_1193, et_1194, wr_1195, wt_1196, ec_1197, uc_1198, wc_1199, hc_1200, eb_1201, ub_1202, wb_1203, hb_1204⟩ : RSX ρ ws_1133 ty_1134 f9 rd krd tp ktp cd bb tl ts_93 T_83 nk fr (nI k_91) (nI p_92) vl_84)⟩⟩, hS.F ht⟩) hS.2.2 dX4_readEither_112
  have d_1205 := n_nle (a := 400) (b := i_52) (by omega) (by omega) c_1128
  refine lv_iload_n hx hb dX4_readEither_19 rfl (lv_at hl 1 rfl) ?_
  refine lv_if_eq (tgt := 101) hx hb dX4_readEither_20 (by decide) (fun c_1206 => ?_) (fun c_1206 => absurd (by decide) c_1206)
  refine lv_iload_n hx hb dX4_readEither_101 rfl (lv_at hl 2 rfl) ?_
  refine lv_if_eq (tgt := 111) hx hb dX4_readEither_102 (by decide) (fun c_1207 => absurd c_1207 (by decide)) (fun c_1207 => ?_)
  refine lv_aload_n hx hb dX4_readEither_105 rfl (lv_at hl 4 rfl) ?_
  refine lv_bipush (v := (-3)) hx hb dX4_readEither_106 (by decide) ?_
  have hFc := free_all hD hS hA
  refine va_callv (va_runV (As := [.int (-3)]) (rest := []) ⟨hx, hb, hml, hown, hts⟩ (r_addCode l D ρ ws_56 ty_79 adK adV fo f9 rd krd tp ktp cd bb tl ts_93 T_83 nk fr (nI k_91) (nI p_92) vl_84 (1, 0, 0, 0) (-3) H.size htl hng (⟨kc_1106, cc_1107, tc_1108, fc_1109, kb_1110, cb_1111, tb_1112, fb_1113, hp_1114, hT_1115, er_1116, et_1117, wr_1118, wt_1119, ec_1120, uc_1121, wc_1122, hc_1123, eb_1124, ub_1125, wb_1126, hb_1127⟩ : RSX ρ ws_56 ty_79 f9 rd krd tp ktp cd bb tl ts_93 T_83 nk fr (nI k_91) (nI p_92) vl_84) rfl) (cwV 1 hts gX4_readEither_X4_addCode rfl rfl rfl (by decide +kernel) ⟨Nat.le_of_ble_eq_true rfl, Nat.le_of_ble_eq_true rfl⟩) ⟨fun a U g mk q => by obtain ⟨q0, q1, qP, qK, qD, qS⟩ := q; exact ⟨q0, q1, qP, va_K.moved (u := U) (U := U.calling g mk a) (Vm.Alike.refl U.vm) qK, qD, SZ.same rfl rfl qS⟩, va_recv hK hP (ci := 4) (q0 := krd) rfl er_1116, fun U hU hW => ⟨rfl, by rw [hU], by rw [hU]; exact hP, va_K.moved hW.alike hK, hD.weaken (fun _ _ _ _ => trivial), hsz9.go hS hW hU hFc⟩⟩ rfl rfl hl.1 rfl (lv_room (Nat.le_of_ble_eq_true rfl)) dX4_readEither_108 ⟨Nat.le_of_ble_eq_true rfl, Nat.le_of_ble_eq_true rfl⟩) hS (fun q _ h => hFc q h) hFc (fun u t H1 locs ht hvm w_1209 hB hz1 hk1 hS => ?_)
  obtain ⟨ws_1210, ty_1211, hm_1212, ht_1214, hP1, hK1, hD1, hx_1213⟩ := hB
  rw [ht] at hP1
  have hK := va_K.moved hvm.symm hK1
  have hD := hD1.weaken (fun _ _ _ h => hFc _ h)
  generalize H1 = H at hP1 hS ⊢
  have hP := hP1
  obtain ⟨g_1216, e_1215, h_1217⟩ := hm_1212.obj er_1116
  obtain ⟨z_1218, z_1219, z_1220, z_1221, z_1222, z_1223, rfl⟩ := smX4 h_1217
  obtain ⟨g_1225, e_1224, h_1226⟩ := hm_1212.obj et_1117
  obtain ⟨z_1227, z_1228, z_1229, z_1230, rfl⟩ := smX6 h_1226
  obtain ⟨f_1232, e_1231⟩ := hm_1212.arrI ec_1120
  have u_1233 := ht_1214 _ _ uc_1121
  have e_1234 := hm_1212.keep (by rw [wb_1126]; omega) eb_1124
  have u_1235 := ht_1214 _ _ ub_1125
  have hsm := hsm.tr (hm_1212.mono (by decide))
  have hlp_58 := hlp_58.tr (hm_1212.mono (by decide))
  have htx := htx.tr ht_1214
  rcases hx_1213 with ⟨hl_1236, hR_1237⟩ | ⟨hl_1236, hR_1237⟩
  · obtain ⟨kc_1238, cc_1239, tc_1240, fc_1241, kb_1242, cb_1243, tb_1244, fb_1245, hp_1246, hT_1247, er_1248, et_1249, wr_1250, wt_1251, ec_1252, uc_1253, wc_1254, hc_1255, eb_1256, ub_1257, wb_1258, hb_1259⟩ := id hR_1237
    have hp_12461 := hp_1246.1
    have hp_1246t := teF_le (f := f9) hp_1246.1
    refine lv_iload_n hx hb dX4_readEither_111 rfl (lv_at hl 1 rfl) ?_
    exact W.zret (v := 0) hx hb hr rfl (fun t ht hW => ⟨⟨0, 0, rfl, rfl, ws_1210, ty_1211, hsm, htx, by rw [ht]; exact hP, va_K.moved hW.alike hK, hD, Or.inl ⟨rfl, k_91, p_92, _, _, _, by omega, by omega, hr_85, (⟨kc_1238, cc_1239, tc_1240, fc_1241, kb_1242, cb_1243, tb_1244, fb_1245, hp_1246, hT_1247, er_1248, et_1249, wr_1250, wt_1251, ec_1252, uc_1253, wc_1254, hc_1255, eb_1256, ub_1257, wb_1258, hb_1259⟩ : RSX ρ ws_1210 ty_1211 f9 rd krd tp ktp cd bb tl ts_93 (T_83 ++ [(1, 0, 0, 0)]) nk fr (nI k_91) (nI p_92) vl_84)⟩⟩, hS.F ht⟩) hS.2.2 dX4_readEither_112
  obtain ⟨kc_1260, cc_1261, tc_1262, fc_1263, kb_1264, cb_1265, tb_1266, fb_1267, hp_1268, hT_1269, er_1270, et_1271, wr_1272, wt_1273, ec_1274, uc_1275, wc_1276, hc_1277, eb_1278, ub_1279, wb_1280, hb_1281⟩ := id hR_1237
  have hp_12681 := hp_1268.1
  have hp_1268t := teF_le (f := f9) hp_1268.1
  refine lv_iload_n hx hb dX4_readEither_111 rfl (lv_at hl 1 rfl) ?_
  exact W.zret (v := 0) hx hb hr rfl (fun t ht hW => ⟨⟨0, 0, rfl, rfl, ws_1210, ty_1211, hsm, htx, by rw [ht]; exact hP, va_K.moved hW.alike hK, hD, Or.inl ⟨rfl, k_91, p_92, _, _, _, by omega, by omega, hr_85, (⟨kc_1260, cc_1261, tc_1262, fc_1263, kb_1264, cb_1265, tb_1266, fb_1267, hp_1268, hT_1269, er_1270, et_1271, wr_1272, wt_1273, ec_1274, uc_1275, wc_1276, hc_1277, eb_1278, ub_1279, wb_1280, hb_1281⟩ : RSX ρ ws_1210 ty_1211 f9 rd krd tp ktp cd bb tl ts_93 T_83 nk fr (nI k_91) (nI p_92) vl_84)⟩⟩, hS.F ht⟩) hS.2.2 dX4_readEither_112
set_option maxHeartbeats 4000000 in
set_option maxRecDepth 100000 in
theorem r_readOne0 (l : Launch) (D : va_G) (ρ : Nat → Nat) (ws : va_W) (tys : List (ClassId × FieldType)) (adK adV : Nat → Nat) (fo : Option Nat) (f9 : Nat → Int32) (rd krd tp ktp cd bb tl ts : Nat) (T : List Tk) (nk : Int64) (fr fk fp vl : Int32) (σ : List Nat) (sz : Nat) (htl : tl ≤ 400) (hng : ∀ i : Nat, i < tl → ¬ f9 i = -1) (R0 : RSX ρ ws tys f9 rd krd tp ktp cd bb tl ts T nk fr fk fp vl) (hdp : dep σ = 0) (hT2 : 2 * T.length ≤ ts) : Met l yX4_readOne wsX4_readOne ({ frames := 19, cells := 0, slots := 0, locals := 437 }) (va_Pc [.ref rd, .int 0] (fun U => U.heap.size = sz ∧ va_P D vwCl ws U.heap ∧ va_K D vwCl tys U ∧ va_D (fun _ => True) ws ∧ SZ adK adV fo (va_A ws sz) U U.heap)) (va_Qi (fun (r : Int32) (s9 : Int32) => r = s9) (fun (s9 : Int32) (t : State) => ∃ (ws' : va_W) (tys' : List (ClassId × FieldType)), sm ρ [4, 6] ws ws' ∧ tyx tys tys' ∧ va_P D vwCl ws' t.heap ∧ va_K D vwCl tys' t ∧ va_D (va_A ws sz) ws' ∧ ((s9 = 0 ∧ FLT ρ ws' tys' f9 rd krd tp ktp cd bb tl (0, ts, σ, T) nk fr) ∨ (s9 = 1 ∧ ONE ρ ws' tys' f9 rd krd tp ktp cd bb tl ts σ T nk fr fk fp))) (va_A ws sz)) 0 0 (va_A ws sz) := by
  refine Met.ofW (cc := cX4_readOne) (maxL := 4) (ret := (some .boolean)) (by decide) rfl ?_
  intro p e s m args below meth c s₁ B hml hv
  obtain ⟨rfl, hsz, hP, hK, hD0, hsz9⟩ := hv
  have hx := B.exec
  have hb := B.bytes
  have hr := B.returns
  have hts := atoms_spec (ws := wsX4_readOne) B.pre
  have hown : s.vm.findClass RX4 = some m.cls := findClass_of_methodNamed B.named
  have hlocks := B.notSynchronized
  subst hsz
  have hD := hD0.self (sz := s.heap.size)
  generalize hAe : va_A ws s.heap.size = A at hD hsz9 ⊢
  have hA : ∀ q : Nat, s.heap.size ≤ q → A q := fun q h => by rw [← hAe]; exact Or.inr h
  have hS : va_S A s.heap s.heap [] := va_S.rf
  have hsm : sm ρ [4, 6] ws ws := sm.rf ws
  have htx : tyx tys tys := tyx.rf tys
  have hin4 : ∀ w ∈ u_ws RX4 TX4 8, w ∈ wsX4_readOne := (fun _ h9 => List.mem_cons_of_mem _ (List.mem_append_left _ ((List.mem_append_right _ h9))))
  have hl := lv_entry ([.ref rd, .int 0]) (n := 4) (Nat.le_of_ble_eq_true rfl)
  rw [lg_entry_eq]
  generalize (lg_sl ([.ref rd, .int 0]) ++ List.replicate (4 - (lg_sl ([.ref rd, .int 0])).length) Slot.unset).toArray = ls at hl ⊢
  have hl : lv_has ls 4 [(0, .ref rd), (1, .int 0)] := hl
  obtain ⟨kc_1, cc_2, tc_3, fc_4, kb_5, cb_6, tb_7, fb_8, hp_9, hT_10, er_11, et_12, wr_13, wt_14, ec_15, uc_16, wc_17, hc_18, eb_19, ub_20, wb_21, hb_22⟩ := id R0
  have hp_91 := hp_9.1
  have hp_9t := teF_le (f := f9) hp_9.1
  have hpc9 := hp_91
  refine lv_aload_n hx hb dX4_readOne_0 rfl (lv_at hl 0 rfl) ?_
  refine va_get (D := D) (ci := 4) (v := .ref tp) (C := RX4) (T := TX4) (N := 8) hx hb hts hin4 hown hK hP krd er_11 rfl 0 (by decide) (hts (.fieldLink RX4 12 "HoneyHouse$RuleReader" "tape" "LHoneyHouse$Tape;") (List.mem_of_getElem? (i := 1) rfl)) (fun _ h9 => h9) rfl dX4_readOne_1 ?_
  refine va_ldcS hx hb hown hsz9.2.2.2.2.2.2.1 dX4_readOne_4 ?_
  have hFc := free_all hD hS hA
  refine va_calli (va_runV (As := [.ref (adK 3)]) (rest := []) ⟨hx, hb, hml, hown, hts⟩ (a_isWord l D (rz []) ws tys adK adV fo 3 f9 tp ktp tl ts bb kb_5 cb_6 tb_7 fb_8 s.heap.size (by decide) htl hb_22 hng hp_9 et_12 eb_19 ub_20 rz_o0) (cwV 1 hts gX4_readOne_X6_isWord rfl rfl rfl (by decide +kernel) ⟨Nat.le_of_ble_eq_true rfl, Nat.le_of_ble_eq_true rfl⟩) ⟨fun a U g mk q => by obtain ⟨q0, q1, qP, qK, qD, qS⟩ := q; exact ⟨q0, q1, qP, va_K.moved (u := U) (U := U.calling g mk a) (Vm.Alike.refl U.vm) qK, qD, SZ.same rfl rfl qS⟩, va_recv hK hP (ci := 6) (q0 := ktp) rfl et_12, fun U hU hW => ⟨rfl, by rw [hU], by rw [hU]; exact hP, va_K.moved hW.alike hK, hD.weaken (fun _ _ _ _ => trivial), hsz9.go hS hW hU hFc⟩⟩ rfl rfl hl.1 rfl (lv_room (Nat.le_of_ble_eq_true rfl)) dX4_readOne_6 ⟨Nat.le_of_ble_eq_true rfl, Nat.le_of_ble_eq_true rfl⟩) hS (fun q _ h => hFc q h) hFc (fun r_23 u t H1 locs ht hvm w_24 hB hz1 hk1 hS => ?_)
  obtain ⟨ws_25, ty_26, hm_27, ht_29, hP1, hK1, hD1, hx_28⟩ := hB
  rw [ht] at hP1
  have hK := va_K.moved hvm.symm hK1
  have hD := hD1.weaken (fun _ _ _ h => hFc _ h)
  generalize H1 = H at hP1 hS ⊢
  have hP := hP1
  have e_30 := hm_27.keep rz_o0 er_11
  have e_31 := hm_27.keep rz_o0 et_12
  have e_32 := hm_27.keep rz_o0 ec_15
  have e_33 := hm_27.keep rz_o0 eb_19
  have u_34 := ht_29 _ _ uc_16
  have u_35 := ht_29 _ _ ub_20
  have hm_36 : sm ρ [] ws ws_25 := hm_27.up (fun k _ h => rz_u0  k h)
  have hsm := hsm.tr (hm_36.mono (by decide))
  have htx := htx.tr ht_29
  rcases w_24 with ⟨rfl, iw_37⟩ | ⟨rfl, iw_37⟩
  · have iw_37 : ¬ wdE f9 tl ts = 3 := iw_37
    refine lv_istore_n (lv' := [(2, .int 0), (0, .ref rd), (1, .int 0)]) hx hb dX4_readOne_9 rfl hl (by decide) rfl (fun ls hl => ?_)
    refine lv_iload_n hx hb dX4_readOne_10 rfl (lv_at hl 0 rfl) ?_
    refine lv_if_ne (tgt := 31) hx hb dX4_readOne_11 (by decide) (fun c_38 => absurd (by decide) c_38) (fun c_38 => ?_)
    refine lv_aload_n hx hb dX4_readOne_14 rfl (lv_at hl 1 rfl) ?_
    refine va_get (D := D) (ci := 4) (v := .ref tp) (C := RX4) (T := TX4) (N := 8) hx hb hts hin4 hown hK hP krd e_30 rfl 0 (by decide) (hts (.fieldLink RX4 12 "HoneyHouse$RuleReader" "tape" "LHoneyHouse$Tape;") (List.mem_of_getElem? (i := 1) rfl)) (fun _ h9 => h9) rfl dX4_readOne_15 ?_
    refine lv_bipush (v := 40) hx hb dX4_readOne_18 (by decide) ?_
    refine vp_callSi (W.runV (As := [.int 40]) (rest := []) ⟨hx, hb, hml, hown, hts⟩ (s_isByte l D ws_25 ty_26 f9 tp ktp tl ts bb kb_5 cb_6 tb_7 fb_8 40 (by unfold ltr; decide) (by unfold dgt; decide) htl hb_22 hng hp_9 e_31 e_33 u_35) (cwV 1 hts gX4_readOne_X6_isByte rfl rfl rfl (by decide +kernel) ⟨Nat.le_of_ble_eq_true rfl, Nat.le_of_ble_eq_true rfl⟩) ⟨fun a U g mk q => ⟨q.1, q.2.1, va_K.moved (u := U) (U := U.calling g mk a) (Vm.Alike.refl U.vm) q.2.2⟩, va_recv hK hP (ci := 6) (q0 := ktp) rfl e_31, fun U hU hW => ⟨rfl, by rw [hU]; exact hP, va_K.moved hW.alike hK⟩⟩ rfl rfl hl.1 rfl (lv_room (Nat.le_of_ble_eq_true rfl)) dX4_readOne_20 ⟨Nat.le_of_ble_eq_true rfl, Nat.le_of_ble_eq_true rfl⟩) (fun r_39 k_40 => ?_)
    rcases k_40 with ⟨rfl, ib_41⟩ | ⟨rfl, ib_41⟩
    · refine lv_if_ne (tgt := 31) hx hb dX4_readOne_23 (by decide) (fun c_42 => absurd (by decide) c_42) (fun c_42 => ?_)
      refine lv_aload_n hx hb dX4_readOne_26 rfl (lv_at hl 1 rfl) ?_
      have hFc := free_all hD hS hA
      refine va_calli (va_runV (As := []) (rest := []) ⟨hx, hb, hml, hown, hts⟩ (r_readTest l D ρ ws_25 ty_26 adK adV fo f9 rd krd tp ktp cd bb tl ts T nk fr fk fp vl  H.size htl hng (⟨kc_1, cc_2, tc_3, fc_4, kb_5, cb_6, tb_7, fb_8, hp_9, hT_10, e_30, e_31, wr_13, wt_14, e_32, u_34, wc_17, hc_18, e_33, u_35, wb_21, hb_22⟩ : RSX ρ ws_25 ty_26 f9 rd krd tp ktp cd bb tl ts T nk fr fk fp vl) (by omega)) (cwV 0 hts gX4_readOne_X4_readTest rfl rfl rfl (by decide +kernel) ⟨Nat.le_of_ble_eq_true rfl, Nat.le_of_ble_eq_true rfl⟩) ⟨fun a U g mk q => by obtain ⟨q0, q1, qP, qK, qD, qS⟩ := q; exact ⟨q0, q1, qP, va_K.moved (u := U) (U := U.calling g mk a) (Vm.Alike.refl U.vm) qK, qD, SZ.same rfl rfl qS⟩, va_recv hK hP (ci := 4) (q0 := krd) rfl e_30, fun U hU hW => ⟨rfl, by rw [hU], by rw [hU]; exact hP, va_K.moved hW.alike hK, hD.weaken (fun _ _ _ _ => trivial), hsz9.go hS hW hU hFc⟩⟩ rfl rfl hl.1 rfl (lv_room (Nat.le_of_ble_eq_true rfl)) dX4_readOne_27 ⟨Nat.le_of_ble_eq_true rfl, Nat.le_of_ble_eq_true rfl⟩) hS (fun q _ h => hFc q h) hFc (fun r_43 u t H1 locs ht hvm w_44 hB hz1 hk1 hS => ?_)
      subst w_44
      obtain ⟨ws_45, ty_46, hm_47, ht_49, hP1, hK1, hD1, hx_48⟩ := hB
      rw [ht] at hP1
      have hK := va_K.moved hvm.symm hK1
      have hD := hD1.weaken (fun _ _ _ h => hFc _ h)
      generalize H1 = H at hP1 hS ⊢
      have hP := hP1
      obtain ⟨g_51, e_50, h_52⟩ := hm_47.obj e_30
      obtain ⟨z_53, z_54, z_55, z_56, z_57, z_58, rfl⟩ := smX4 h_52
      obtain ⟨g_60, e_59, h_61⟩ := hm_47.obj e_31
      obtain ⟨z_62, z_63, z_64, z_65, rfl⟩ := smX6 h_61
      obtain ⟨f_67, e_66⟩ := hm_47.arrI e_32
      have u_68 := ht_49 _ _ u_34
      have e_69 := hm_47.keep (by rw [wb_21]; omega) e_33
      have u_70 := ht_49 _ _ u_35
      have hsm := hsm.tr (hm_47.mono (by decide))
      have htx := htx.tr ht_49
      obtain ⟨k_71, p_72, w_73, m_74, v_75, ht_76, ⟨rfl, hk_77, hk_78, ts_79, vl_80, hR_81⟩ | ⟨rfl, hk_77, hg_82, vl_80, hR_81⟩⟩ := hx_48
      · obtain ⟨kc_83, cc_84, tc_85, fc_86, kb_87, cb_88, tb_89, fb_90, hp_91, hT_92, er_93, et_94, wr_95, wt_96, ec_97, uc_98, wc_99, hc_100, eb_101, ub_102, wb_103, hb_104⟩ := id hR_81
        have hp_911 := hp_91.1
        have hp_91t := teF_le (f := f9) hp_91.1
        exact W.zret (v := 0) hx hb hr rfl (fun t ht hW => ⟨⟨0, 0, rfl, rfl, ws_45, ty_46, hsm, htx, by rw [ht]; exact hP, va_K.moved hW.alike hK, hD, Or.inl ⟨rfl, k_71, p_72, _, _, _, by omega, by omega, (Rch.rf _).st (st_tf (fun q9 => q9.elim ib_41 iw_37) ht_76 hk_77), (⟨kc_83, cc_84, tc_85, fc_86, kb_87, cb_88, tb_89, fb_90, hp_91, hT_92, er_93, et_94, wr_95, wt_96, ec_97, uc_98, wc_99, hc_100, eb_101, ub_102, wb_103, hb_104⟩ : RSX ρ ws_45 ty_46 f9 rd krd tp ktp cd bb tl ts_79 T nk fr (nI k_71) (nI p_72) vl_80)⟩⟩, hS.F ht⟩) hS.2.2 dX4_readOne_30
      subst hk_77
      obtain ⟨kc_105, cc_106, tc_107, fc_108, kb_109, cb_110, tb_111, fb_112, hp_113, hT_114, er_115, et_116, wr_117, wt_118, ec_119, uc_120, wc_121, hc_122, eb_123, ub_124, wb_125, hb_126⟩ := id hR_81
      have hp_1131 := hp_113.1
      have hp_113t := teF_le (f := f9) hp_113.1
      exact W.zret (v := 1) hx hb hr rfl (fun t ht hW => ⟨⟨1, 1, rfl, rfl, ws_45, ty_46, hsm, htx, by rw [ht]; exact hP, va_K.moved hW.alike hK, hD, Or.inr ⟨rfl, p_72, _, _, (Rch.rf _).st (st_te (fun q9 => q9.elim ib_41 iw_37) ht_76), by omega, by rw [len_a1]; omega, (⟨kc_105, cc_106, tc_107, fc_108, kb_109, cb_110, tb_111, fb_112, hp_113, hT_114, er_115, et_116, wr_117, wt_118, ec_119, uc_120, wc_121, hc_122, eb_123, ub_124, wb_125, hb_126⟩ : RSX ρ ws_45 ty_46 f9 rd krd tp ktp cd bb tl p_72 (T ++ [(13, w_73, m_74, v_75)]) nk fr fk fp vl_80)⟩⟩, hS.F ht⟩) hS.2.2 dX4_readOne_30
    refine lv_if_ne (tgt := 31) hx hb dX4_readOne_23 (by decide) (fun c_127 => ?_) (fun c_127 => absurd c_127 (by decide))
    have hw9 := wd_40 ib_41
    refine lv_iload_n hx hb dX4_readOne_31 rfl (lv_at hl 2 rfl) ?_
    refine lv_bipush (v := 6) hx hb dX4_readOne_32 (by decide) ?_
    refine lv_icmp_lt (tgt := 50) hx hb dX4_readOne_34 (by decide) (fun c_128 => ?_) (fun c_128 => absurd (by decide) c_128)
    refine lv_aload_n hx hb dX4_readOne_50 rfl (lv_at hl 1 rfl) ?_
    refine va_get (D := D) (ci := 4) (v := .ref tp) (C := RX4) (T := TX4) (N := 8) hx hb hts hin4 hown hK hP krd e_30 rfl 0 (by decide) (hts (.fieldLink RX4 12 "HoneyHouse$RuleReader" "tape" "LHoneyHouse$Tape;") (List.mem_of_getElem? (i := 1) rfl)) (fun _ h9 => h9) rfl dX4_readOne_51 ?_
    have hFc := free_all hD hS hA
    refine va_callv (va_runV (As := []) (rest := []) ⟨hx, hb, hml, hown, hts⟩ (a_advance l D (rz [ktp]) ws_25 ty_26 f9 tp ktp tl (teF f9 tl ts) (nI (kdF f9 tl ts)) (nI ts) bb kb_5 cb_6 tb_7 fb_8 H.size htl hb_22 hng (by omega) e_31 e_33 u_35 (rz_o1 (pl_ne e_33 e_31 (by intro h9; simp at h9))) (rz_in (by simp))) (cwV 0 hts gX4_readOne_X6_advance rfl rfl rfl (by decide +kernel) ⟨Nat.le_of_ble_eq_true rfl, Nat.le_of_ble_eq_true rfl⟩) ⟨fun a U g mk q => by obtain ⟨q0, q1, qP, qK, qD⟩ := q; exact ⟨q0, q1, qP, va_K.moved (u := U) (U := U.calling g mk a) (Vm.Alike.refl U.vm) qK, qD⟩, va_recv hK hP (ci := 6) (q0 := ktp) rfl e_31, fun U hU hW => ⟨rfl, by rw [hU], by rw [hU]; exact hP, va_K.moved hW.alike hK, hD.weaken (fun _ _ _ _ => trivial)⟩⟩ rfl rfl hl.1 rfl (lv_room (Nat.le_of_ble_eq_true rfl)) dX4_readOne_54 ⟨Nat.le_of_ble_eq_true rfl, Nat.le_of_ble_eq_true rfl⟩) hS (fun q _ h => hFc q h) hFc (fun u t H1 locs ht hvm w_130 hB hz1 hk1 hS => ?_)
    obtain ⟨ws_131, ty_132, hm_133, ht_135, hP1, hK1, hD1, hx_134⟩ := hB
    rw [ht] at hP1
    have hK := va_K.moved hvm.symm hK1
    have hD := hD1.weaken (fun _ _ _ h => hFc _ h)
    generalize H1 = H at hP1 hS ⊢
    have hP := hP1
    have e_136 := hm_133.keep (rz_o1 (pl_ne e_30 e_31 (by intro h9; simp at h9))) e_30
    have e_137 := hm_133.keep (rz_o1 (pl_ne e_32 e_31 (by intro h9; simp at h9))) e_32
    have e_138 := hm_133.keep (rz_o1 (pl_ne e_33 e_31 (by intro h9; simp at h9))) e_33
    have u_139 := ht_135 _ _ u_34
    have u_140 := ht_135 _ _ u_35
    have hm_141 : sm ρ [6] ws_25 ws_131 := hm_133.up (fun k _ h => rz_u1 wt_14 k h)
    have hsm := hsm.tr (hm_141.mono (by decide))
    have htx := htx.tr ht_135
    have e_142 : ws_131[ktp]? = some (tp, .inr (6, [.int (nI tl), .int (nI (kdF f9 tl (nxF f9 tl ts))), .int (nI (nxF f9 tl ts)), .int (nI (teF f9 tl (nxF f9 tl ts))), .ref bb])) := hx_134; have hq_143 : pcB f9 tl (nxF f9 tl ts) := nxF_pc (f := f9) hp_9.1; have hq_1431 := hq_143.1; have hq_143t := teF_le (f := f9) hq_143.1; have hg_144 := nx_gain (f := f9) hp_9.1
    refine lv_iload_n hx hb dX4_readOne_57 rfl (lv_at hl 0 rfl) ?_
    refine lv_if_ne (tgt := 86) hx hb dX4_readOne_58 (by decide) (fun c_145 => absurd (by decide) c_145) (fun c_145 => ?_)
    refine lv_aload_n hx hb dX4_readOne_61 rfl (lv_at hl 1 rfl) ?_
    refine lv_iload_n hx hb dX4_readOne_62 rfl (lv_at hl 2 rfl) ?_
    refine lv_iconst (v := 1) hx hb dX4_readOne_63 (by decide) ?_
    refine lv_iadd hx hb dX4_readOne_64 ?_
    refine tp_i (y := 1) (by decide) ?_
    have hFc := free_all hD hS hA
    refine va_calli (va_runV (As := [.int 1]) (rest := []) ⟨hx, hb, hml, hown, hts⟩ (r_readEither1 l D ρ ws_131 ty_132 adK adV fo f9 rd krd tp ktp cd bb tl (nxF f9 tl ts) T nk fr fk fp vl (12 :: σ) H.size htl hng (⟨kc_1, cc_2, tc_3, fc_4, kb_5, cb_6, tb_7, fb_8, hq_143, hT_10, e_136, e_142, wr_13, wt_14, e_137, u_139, wc_17, hc_18, e_138, u_140, wb_21, hb_22⟩ : RSX ρ ws_131 ty_132 f9 rd krd tp ktp cd bb tl (nxF f9 tl ts) T nk fr fk fp vl) (bas_12 σ) ((dep_y σ (Or.inr rfl)).trans (by omega)) (by omega)) (cwV 1 hts gX4_readOne_X4_readEither rfl rfl rfl (by decide +kernel) ⟨Nat.le_of_ble_eq_true rfl, Nat.le_of_ble_eq_true rfl⟩) ⟨fun a U g mk q => by obtain ⟨q0, q1, qP, qK, qD, qS⟩ := q; exact ⟨q0, q1, qP, va_K.moved (u := U) (U := U.calling g mk a) (Vm.Alike.refl U.vm) qK, qD, SZ.same rfl rfl qS⟩, va_recv hK hP (ci := 4) (q0 := krd) rfl e_136, fun U hU hW => ⟨rfl, by rw [hU], by rw [hU]; exact hP, va_K.moved hW.alike hK, hD.weaken (fun _ _ _ _ => trivial), hsz9.go hS hW hU hFc⟩⟩ rfl rfl hl.1 rfl (lv_room (Nat.le_of_ble_eq_true rfl)) dX4_readOne_65 ⟨Nat.le_of_ble_eq_true rfl, Nat.le_of_ble_eq_true rfl⟩) hS (fun q _ h => hFc q h) hFc (fun r_146 u t H1 locs ht hvm w_147 hB hz1 hk1 hS => ?_)
    subst w_147
    obtain ⟨ws_148, ty_149, hm_150, ht_152, hP1, hK1, hD1, hx_151⟩ := hB
    rw [ht] at hP1
    have hK := va_K.moved hvm.symm hK1
    have hD := hD1.weaken (fun _ _ _ h => hFc _ h)
    generalize H1 = H at hP1 hS ⊢
    have hP := hP1
    obtain ⟨g_154, e_153, h_155⟩ := hm_150.obj e_136
    obtain ⟨z_156, z_157, z_158, z_159, z_160, z_161, rfl⟩ := smX4 h_155
    obtain ⟨g_163, e_162, h_164⟩ := hm_150.obj e_142
    obtain ⟨z_165, z_166, z_167, z_168, rfl⟩ := smX6 h_164
    obtain ⟨f_170, e_169⟩ := hm_150.arrI e_137
    have u_171 := ht_152 _ _ u_139
    have e_172 := hm_150.keep (by rw [wb_21]; omega) e_138
    have u_173 := ht_152 _ _ u_140
    have hsm := hsm.tr (hm_150.mono (by decide))
    have htx := htx.tr ht_152
    rcases hx_151 with ⟨rfl, k_174, p_175, ts_176, T_177, vl_178, hk_179, hk_180, hr_181, hR_182⟩ | ⟨rfl, b_183, ta_184, T_177, vl_178, hr_181, hj_185, hn_186, hg_187, hg_188, hR_182⟩
    · obtain ⟨kc_189, cc_190, tc_191, fc_192, kb_193, cb_194, tb_195, fb_196, hp_197, hT_198, er_199, et_200, wr_201, wt_202, ec_203, uc_204, wc_205, hc_206, eb_207, ub_208, wb_209, hb_210⟩ := id hR_182
      have hp_1971 := hp_197.1
      have hp_197t := teF_le (f := f9) hp_197.1
      refine lv_if_eq (tgt := 84) hx hb dX4_readOne_68 (by decide) (fun c_211 => ?_) (fun c_211 => absurd (by decide) c_211)
      refine lv_iconst (v := 0) hx hb dX4_readOne_84 (by decide) ?_
      exact W.zret (v := 0) hx hb hr rfl (fun t ht hW => ⟨⟨0, 0, rfl, rfl, ws_148, ty_149, hsm, htx, by rw [ht]; exact hP, va_K.moved hW.alike hK, hD, Or.inl ⟨rfl, k_174, p_175, _, _, _, by omega, by omega, ((Rch.rf (0, ts, σ, T)).st (st_open ib_41 (by omega))).tr hr_181, (⟨kc_189, cc_190, tc_191, fc_192, kb_193, cb_194, tb_195, fb_196, hp_197, hT_198, er_199, et_200, wr_201, wt_202, ec_203, uc_204, wc_205, hc_206, eb_207, ub_208, wb_209, hb_210⟩ : RSX ρ ws_148 ty_149 f9 rd krd tp ktp cd bb tl ts_176 T_177 nk fr (nI k_174) (nI p_175) vl_178)⟩⟩, hS.F ht⟩) hS.2.2 dX4_readOne_85
    obtain ⟨kc_212, cc_213, tc_214, fc_215, kb_216, cb_217, tb_218, fb_219, hp_220, hT_221, er_222, et_223, wr_224, wt_225, ec_226, uc_227, wc_228, hc_229, eb_230, ub_231, wb_232, hb_233⟩ := id hR_182
    have hp_2201 := hp_220.1
    have hp_220t := teF_le (f := f9) hp_220.1
    refine lv_if_eq (tgt := 84) hx hb dX4_readOne_68 (by decide) (fun c_234 => absurd c_234 (by decide)) (fun c_234 => ?_)
    refine lv_aload_n hx hb dX4_readOne_71 rfl (lv_at hl 1 rfl) ?_
    refine lv_bipush (v := 41) hx hb dX4_readOne_72 (by decide) ?_
    have hFc := free_all hD hS hA
    refine va_calli (va_runV (As := [.int 41]) (rest := []) ⟨hx, hb, hml, hown, hts⟩ (r_readByte l D ρ ws_148 ty_149 adK adV fo f9 rd krd tp ktp cd bb tl b_183 (T_177 ++ eO ta_184) nk fr fk fp vl_178 41 H.size htl hng (⟨kc_212, cc_213, tc_214, fc_215, kb_216, cb_217, tb_218, fb_219, hp_220, hT_221, er_222, et_223, wr_224, wt_225, ec_226, uc_227, wc_228, hc_229, eb_230, ub_231, wb_232, hb_233⟩ : RSX ρ ws_148 ty_149 f9 rd krd tp ktp cd bb tl b_183 (T_177 ++ eO ta_184) nk fr fk fp vl_178) (by unfold ltr; decide) (by unfold dgt; decide)) (cwV 1 hts gX4_readOne_X4_readByte rfl rfl rfl (by decide +kernel) ⟨Nat.le_of_ble_eq_true rfl, Nat.le_of_ble_eq_true rfl⟩) ⟨fun a U g mk q => by obtain ⟨q0, q1, qP, qK, qD, qS⟩ := q; exact ⟨q0, q1, qP, va_K.moved (u := U) (U := U.calling g mk a) (Vm.Alike.refl U.vm) qK, qD, SZ.same rfl rfl qS⟩, va_recv hK hP (ci := 4) (q0 := krd) rfl er_222, fun U hU hW => ⟨rfl, by rw [hU], by rw [hU]; exact hP, va_K.moved hW.alike hK, hD.weaken (fun _ _ _ _ => trivial), hsz9.go hS hW hU hFc⟩⟩ rfl rfl hl.1 rfl (lv_room (Nat.le_of_ble_eq_true rfl)) dX4_readOne_74 ⟨Nat.le_of_ble_eq_true rfl, Nat.le_of_ble_eq_true rfl⟩) hS (fun q _ h => hFc q h) hFc (fun r_235 u t H1 locs ht hvm w_236 hB hz1 hk1 hS => ?_)
    subst w_236
    obtain ⟨ws_237, ty_238, hm_239, ht_241, hP1, hK1, hD1, hx_240⟩ := hB
    rw [ht] at hP1
    have hK := va_K.moved hvm.symm hK1
    have hD := hD1.weaken (fun _ _ _ h => hFc _ h)
    generalize H1 = H at hP1 hS ⊢
    have hP := hP1
    obtain ⟨g_243, e_242, h_244⟩ := hm_239.obj er_222
    obtain ⟨z_245, z_246, z_247, z_248, z_249, z_250, rfl⟩ := smX4 h_244
    obtain ⟨g_252, e_251, h_253⟩ := hm_239.obj et_223
    obtain ⟨z_254, z_255, z_256, z_257, rfl⟩ := smX6 h_253
    obtain ⟨f_259, e_258⟩ := hm_239.arrI ec_226
    have u_260 := ht_241 _ _ uc_227
    have e_261 := hm_239.keep (by rw [wb_232]; omega) eb_230
    have u_262 := ht_241 _ _ ub_231
    have hsm := hsm.tr (hm_239.mono (by decide))
    have htx := htx.tr ht_241
    rcases hx_240 with ⟨rfl, rb_263, hR_264⟩ | ⟨rfl, rb_263, hR_264⟩
    · obtain ⟨kc_265, cc_266, tc_267, fc_268, kb_269, cb_270, tb_271, fb_272, hp_273, hT_274, er_275, et_276, wr_277, wt_278, ec_279, uc_280, wc_281, hc_282, eb_283, ub_284, wb_285, hb_286⟩ := id hR_264
      have hp_2731 := hp_273.1
      have hp_273t := teF_le (f := f9) hp_273.1
      refine lv_if_eq (tgt := 84) hx hb dX4_readOne_77 (by decide) (fun c_287 => ?_) (fun c_287 => absurd (by decide) c_287)
      refine lv_iconst (v := 0) hx hb dX4_readOne_84 (by decide) ?_
      exact W.zret (v := 0) hx hb hr rfl (fun t ht hW => ⟨⟨0, 0, rfl, rfl, ws_237, ty_238, hsm, htx, by rw [ht]; exact hP, va_K.moved hW.alike hK, hD, Or.inl ⟨rfl, 1, b_183, _, _, _, by omega, by omega, (((Rch.rf (0, ts, σ, T)).st (st_open ib_41 (by omega))).tr hr_181).st (st_left hn_186 rb_263 (brk_12 hj_185)), (⟨kc_265, cc_266, tc_267, fc_268, kb_269, cb_270, tb_271, fb_272, hp_273, hT_274, er_275, et_276, wr_277, wt_278, ec_279, uc_280, wc_281, hc_282, eb_283, ub_284, wb_285, hb_286⟩ : RSX ρ ws_237 ty_238 f9 rd krd tp ktp cd bb tl b_183 (T_177 ++ eO ta_184) nk fr 1 (nI b_183) vl_178)⟩⟩, hS.F ht⟩) hS.2.2 dX4_readOne_85
    have rb_263g := nx_gain (f := f9) hp_220.1
    obtain ⟨kc_288, cc_289, tc_290, fc_291, kb_292, cb_293, tb_294, fb_295, hp_296, hT_297, er_298, et_299, wr_300, wt_301, ec_302, uc_303, wc_304, hc_305, eb_306, ub_307, wb_308, hb_309⟩ := id hR_264
    have hp_2961 := hp_296.1
    have hp_296t := teF_le (f := f9) hp_296.1
    refine lv_if_eq (tgt := 84) hx hb dX4_readOne_77 (by decide) (fun c_310 => absurd c_310 (by decide)) (fun c_310 => ?_)
    refine lv_iconst (v := 1) hx hb dX4_readOne_80 (by decide) ?_
    refine lv_goto (tgt := 85) hx hb dX4_readOne_81 (by decide) ?_
    exact W.zret (v := 1) hx hb hr rfl (fun t ht hW => ⟨⟨1, 1, rfl, rfl, ws_237, ty_238, hsm, htx, by rw [ht]; exact hP, va_K.moved hW.alike hK, hD, Or.inr ⟨rfl, nxF f9 tl b_183, _, _, rch_cl (((Rch.rf (0, ts, σ, T)).st (st_open ib_41 (by omega))).tr hr_181) hj_185 rb_263, by omega, by omega, (⟨kc_288, cc_289, tc_290, fc_291, kb_292, cb_293, tb_294, fb_295, hp_296, hT_297, er_298, et_299, wr_300, wt_301, ec_302, uc_303, wc_304, hc_305, eb_306, ub_307, wb_308, hb_309⟩ : RSX ρ ws_237 ty_238 f9 rd krd tp ktp cd bb tl (nxF f9 tl b_183) (T_177 ++ eO ta_184) nk fr fk fp vl_178)⟩⟩, hS.F ht⟩) hS.2.2 dX4_readOne_85
  have iw_37 : wdE f9 tl ts = 3 := iw_37
  refine lv_istore_n (lv' := [(2, .int 1), (0, .ref rd), (1, .int 0)]) hx hb dX4_readOne_9 rfl hl (by decide) rfl (fun ls hl => ?_)
  refine lv_iload_n hx hb dX4_readOne_10 rfl (lv_at hl 0 rfl) ?_
  refine lv_if_ne (tgt := 31) hx hb dX4_readOne_11 (by decide) (fun c_311 => ?_) (fun c_311 => absurd c_311 (by decide))
  have hw9 := nx_wd hpc9 (j := 3) (by omega) iw_37
  have hw9 : ts + 3 ≤ nxF f9 tl ts ∧ nxF f9 tl ts ≤ tl := hw9
  refine lv_iload_n hx hb dX4_readOne_31 rfl (lv_at hl 2 rfl) ?_
  refine lv_bipush (v := 6) hx hb dX4_readOne_32 (by decide) ?_
  refine lv_icmp_lt (tgt := 50) hx hb dX4_readOne_34 (by decide) (fun c_312 => ?_) (fun c_312 => absurd (by decide) c_312)
  refine lv_aload_n hx hb dX4_readOne_50 rfl (lv_at hl 1 rfl) ?_
  refine va_get (D := D) (ci := 4) (v := .ref tp) (C := RX4) (T := TX4) (N := 8) hx hb hts hin4 hown hK hP krd e_30 rfl 0 (by decide) (hts (.fieldLink RX4 12 "HoneyHouse$RuleReader" "tape" "LHoneyHouse$Tape;") (List.mem_of_getElem? (i := 1) rfl)) (fun _ h9 => h9) rfl dX4_readOne_51 ?_
  have hFc := free_all hD hS hA
  refine va_callv (va_runV (As := []) (rest := []) ⟨hx, hb, hml, hown, hts⟩ (a_advance l D (rz [ktp]) ws_25 ty_26 f9 tp ktp tl (teF f9 tl ts) (nI (kdF f9 tl ts)) (nI ts) bb kb_5 cb_6 tb_7 fb_8 H.size htl hb_22 hng (by omega) e_31 e_33 u_35 (rz_o1 (pl_ne e_33 e_31 (by intro h9; simp at h9))) (rz_in (by simp))) (cwV 0 hts gX4_readOne_X6_advance rfl rfl rfl (by decide +kernel) ⟨Nat.le_of_ble_eq_true rfl, Nat.le_of_ble_eq_true rfl⟩) ⟨fun a U g mk q => by obtain ⟨q0, q1, qP, qK, qD⟩ := q; exact ⟨q0, q1, qP, va_K.moved (u := U) (U := U.calling g mk a) (Vm.Alike.refl U.vm) qK, qD⟩, va_recv hK hP (ci := 6) (q0 := ktp) rfl e_31, fun U hU hW => ⟨rfl, by rw [hU], by rw [hU]; exact hP, va_K.moved hW.alike hK, hD.weaken (fun _ _ _ _ => trivial)⟩⟩ rfl rfl hl.1 rfl (lv_room (Nat.le_of_ble_eq_true rfl)) dX4_readOne_54 ⟨Nat.le_of_ble_eq_true rfl, Nat.le_of_ble_eq_true rfl⟩) hS (fun q _ h => hFc q h) hFc (fun u t H1 locs ht hvm w_314 hB hz1 hk1 hS => ?_)
  obtain ⟨ws_315, ty_316, hm_317, ht_319, hP1, hK1, hD1, hx_318⟩ := hB
  rw [ht] at hP1
  have hK := va_K.moved hvm.symm hK1
  have hD := hD1.weaken (fun _ _ _ h => hFc _ h)
  generalize H1 = H at hP1 hS ⊢
  have hP := hP1
  have e_320 := hm_317.keep (rz_o1 (pl_ne e_30 e_31 (by intro h9; simp at h9))) e_30
  have e_321 := hm_317.keep (rz_o1 (pl_ne e_32 e_31 (by intro h9; simp at h9))) e_32
  have e_322 := hm_317.keep (rz_o1 (pl_ne e_33 e_31 (by intro h9; simp at h9))) e_33
  have u_323 := ht_319 _ _ u_34
  have u_324 := ht_319 _ _ u_35
  have hm_325 : sm ρ [6] ws_25 ws_315 := hm_317.up (fun k _ h => rz_u1 wt_14 k h)
  have hsm := hsm.tr (hm_325.mono (by decide))
  have htx := htx.tr ht_319
  have e_326 : ws_315[ktp]? = some (tp, .inr (6, [.int (nI tl), .int (nI (kdF f9 tl (nxF f9 tl ts))), .int (nI (nxF f9 tl ts)), .int (nI (teF f9 tl (nxF f9 tl ts))), .ref bb])) := hx_318; have hq_327 : pcB f9 tl (nxF f9 tl ts) := nxF_pc (f := f9) hp_9.1; have hq_3271 := hq_327.1; have hq_327t := teF_le (f := f9) hq_327.1; have hg_328 := nx_gain (f := f9) hp_9.1
  refine lv_iload_n hx hb dX4_readOne_57 rfl (lv_at hl 0 rfl) ?_
  refine lv_if_ne (tgt := 86) hx hb dX4_readOne_58 (by decide) (fun c_329 => ?_) (fun c_329 => absurd c_329 (by decide))
  refine lv_aload_n hx hb dX4_readOne_86 rfl (lv_at hl 1 rfl) ?_
  refine lv_iload_n hx hb dX4_readOne_87 rfl (lv_at hl 2 rfl) ?_
  refine lv_iconst (v := 1) hx hb dX4_readOne_88 (by decide) ?_
  refine lv_iadd hx hb dX4_readOne_89 ?_
  refine tp_i (y := 1) (by decide) ?_
  have hFc := free_all hD hS hA
  refine va_calli (va_runV (As := [.int 1]) (rest := []) ⟨hx, hb, hml, hown, hts⟩ (r_readOne1 l D ρ ws_315 ty_316 adK adV fo f9 rd krd tp ktp cd bb tl (nxF f9 tl ts) T nk fr fk fp vl (3 :: σ) H.size htl hng (⟨kc_1, cc_2, tc_3, fc_4, kb_5, cb_6, tb_7, fb_8, hq_327, hT_10, e_320, e_326, wr_13, wt_14, e_321, u_323, wc_17, hc_18, e_322, u_324, wb_21, hb_22⟩ : RSX ρ ws_315 ty_316 f9 rd krd tp ktp cd bb tl (nxF f9 tl ts) T nk fr fk fp vl) ((dep_y σ (Or.inl rfl)).trans (by omega)) (by omega)) (cwV 1 hts gX4_readOne_X4_readOne rfl rfl rfl (by decide +kernel) ⟨Nat.le_of_ble_eq_true rfl, Nat.le_of_ble_eq_true rfl⟩) ⟨fun a U g mk q => by obtain ⟨q0, q1, qP, qK, qD, qS⟩ := q; exact ⟨q0, q1, qP, va_K.moved (u := U) (U := U.calling g mk a) (Vm.Alike.refl U.vm) qK, qD, SZ.same rfl rfl qS⟩, va_recv hK hP (ci := 4) (q0 := krd) rfl e_320, fun U hU hW => ⟨rfl, by rw [hU], by rw [hU]; exact hP, va_K.moved hW.alike hK, hD.weaken (fun _ _ _ _ => trivial), hsz9.go hS hW hU hFc⟩⟩ rfl rfl hl.1 rfl (lv_room (Nat.le_of_ble_eq_true rfl)) dX4_readOne_90 ⟨Nat.le_of_ble_eq_true rfl, Nat.le_of_ble_eq_true rfl⟩) hS (fun q _ h => hFc q h) hFc (fun r_330 u t H1 locs ht hvm w_331 hB hz1 hk1 hS => ?_)
  subst w_331
  obtain ⟨ws_332, ty_333, hm_334, ht_336, hP1, hK1, hD1, hx_335⟩ := hB
  rw [ht] at hP1
  have hK := va_K.moved hvm.symm hK1
  have hD := hD1.weaken (fun _ _ _ h => hFc _ h)
  generalize H1 = H at hP1 hS ⊢
  have hP := hP1
  obtain ⟨g_338, e_337, h_339⟩ := hm_334.obj e_320
  obtain ⟨z_340, z_341, z_342, z_343, z_344, z_345, rfl⟩ := smX4 h_339
  obtain ⟨g_347, e_346, h_348⟩ := hm_334.obj e_326
  obtain ⟨z_349, z_350, z_351, z_352, rfl⟩ := smX6 h_348
  obtain ⟨f_354, e_353⟩ := hm_334.arrI e_321
  have u_355 := ht_336 _ _ u_323
  have e_356 := hm_334.keep (by rw [wb_21]; omega) e_322
  have u_357 := ht_336 _ _ u_324
  have hsm := hsm.tr (hm_334.mono (by decide))
  have htx := htx.tr ht_336
  rcases hx_335 with ⟨rfl, k_358, p_359, ts_360, T_361, vl_362, hk_363, hk_364, hr_365, hR_366⟩ | ⟨rfl, b_367, T_361, vl_362, hr_365, hg_371, hg_372, hR_366⟩
  · obtain ⟨kc_373, cc_374, tc_375, fc_376, kb_377, cb_378, tb_379, fb_380, hp_381, hT_382, er_383, et_384, wr_385, wt_386, ec_387, uc_388, wc_389, hc_390, eb_391, ub_392, wb_393, hb_394⟩ := id hR_366
    have hp_3811 := hp_381.1
    have hp_381t := teF_le (f := f9) hp_381.1
    refine lv_istore_n (lv' := [(3, .int 0), (2, .int 1), (0, .ref rd), (1, .int 0)]) hx hb dX4_readOne_93 rfl hl (by decide) rfl (fun ls hl => ?_)
    refine lv_aload_n hx hb dX4_readOne_94 rfl (lv_at hl 2 rfl) ?_
    refine lv_iconst (v := (-1)) hx hb dX4_readOne_95 (by decide) ?_
    have hFc := free_all hD hS hA
    refine va_callv (va_runV (As := [.int (-1)]) (rest := []) ⟨hx, hb, hml, hown, hts⟩ (r_addCode l D ρ ws_332 ty_333 adK adV fo f9 rd krd tp ktp cd bb tl ts_360 T_361 nk fr (nI k_358) (nI p_359) vl_362 (3, 0, 0, 0) (-1) H.size htl hng (⟨kc_373, cc_374, tc_375, fc_376, kb_377, cb_378, tb_379, fb_380, hp_381, hT_382, er_383, et_384, wr_385, wt_386, ec_387, uc_388, wc_389, hc_390, eb_391, ub_392, wb_393, hb_394⟩ : RSX ρ ws_332 ty_333 f9 rd krd tp ktp cd bb tl ts_360 T_361 nk fr (nI k_358) (nI p_359) vl_362) rfl) (cwV 1 hts gX4_readOne_X4_addCode rfl rfl rfl (by decide +kernel) ⟨Nat.le_of_ble_eq_true rfl, Nat.le_of_ble_eq_true rfl⟩) ⟨fun a U g mk q => by obtain ⟨q0, q1, qP, qK, qD, qS⟩ := q; exact ⟨q0, q1, qP, va_K.moved (u := U) (U := U.calling g mk a) (Vm.Alike.refl U.vm) qK, qD, SZ.same rfl rfl qS⟩, va_recv hK hP (ci := 4) (q0 := krd) rfl er_383, fun U hU hW => ⟨rfl, by rw [hU], by rw [hU]; exact hP, va_K.moved hW.alike hK, hD.weaken (fun _ _ _ _ => trivial), hsz9.go hS hW hU hFc⟩⟩ rfl rfl hl.1 rfl (lv_room (Nat.le_of_ble_eq_true rfl)) dX4_readOne_96 ⟨Nat.le_of_ble_eq_true rfl, Nat.le_of_ble_eq_true rfl⟩) hS (fun q _ h => hFc q h) hFc (fun u t H1 locs ht hvm w_396 hB hz1 hk1 hS => ?_)
    obtain ⟨ws_397, ty_398, hm_399, ht_401, hP1, hK1, hD1, hx_400⟩ := hB
    rw [ht] at hP1
    have hK := va_K.moved hvm.symm hK1
    have hD := hD1.weaken (fun _ _ _ h => hFc _ h)
    generalize H1 = H at hP1 hS ⊢
    have hP := hP1
    obtain ⟨g_403, e_402, h_404⟩ := hm_399.obj er_383
    obtain ⟨z_405, z_406, z_407, z_408, z_409, z_410, rfl⟩ := smX4 h_404
    obtain ⟨g_412, e_411, h_413⟩ := hm_399.obj et_384
    obtain ⟨z_414, z_415, z_416, z_417, rfl⟩ := smX6 h_413
    obtain ⟨f_419, e_418⟩ := hm_399.arrI ec_387
    have u_420 := ht_401 _ _ uc_388
    have e_421 := hm_399.keep (by rw [wb_393]; omega) eb_391
    have u_422 := ht_401 _ _ ub_392
    have hsm := hsm.tr (hm_399.mono (by decide))
    have htx := htx.tr ht_401
    rcases hx_400 with ⟨hl_423, hR_424⟩ | ⟨hl_423, hR_424⟩
    · obtain ⟨kc_425, cc_426, tc_427, fc_428, kb_429, cb_430, tb_431, fb_432, hp_433, hT_434, er_435, et_436, wr_437, wt_438, ec_439, uc_440, wc_441, hc_442, eb_443, ub_444, wb_445, hb_446⟩ := id hR_424
      have hp_4331 := hp_433.1
      have hp_433t := teF_le (f := f9) hp_433.1
      refine lv_iload_n hx hb dX4_readOne_99 rfl (lv_at hl 0 rfl) ?_
      exact W.zret (v := 0) hx hb hr rfl (fun t ht hW => ⟨⟨0, 0, rfl, rfl, ws_397, ty_398, hsm, htx, by rw [ht]; exact hP, va_K.moved hW.alike hK, hD, Or.inl ⟨rfl, k_358, p_359, _, _, _, by omega, by omega, ((Rch.rf (0, ts, σ, T)).st (st_not iw_37 (by omega))).tr hr_365, (⟨kc_425, cc_426, tc_427, fc_428, kb_429, cb_430, tb_431, fb_432, hp_433, hT_434, er_435, et_436, wr_437, wt_438, ec_439, uc_440, wc_441, hc_442, eb_443, ub_444, wb_445, hb_446⟩ : RSX ρ ws_397 ty_398 f9 rd krd tp ktp cd bb tl ts_360 (T_361 ++ [(3, 0, 0, 0)]) nk fr (nI k_358) (nI p_359) vl_362)⟩⟩, hS.F ht⟩) hS.2.2 dX4_readOne_100
    obtain ⟨kc_447, cc_448, tc_449, fc_450, kb_451, cb_452, tb_453, fb_454, hp_455, hT_456, er_457, et_458, wr_459, wt_460, ec_461, uc_462, wc_463, hc_464, eb_465, ub_466, wb_467, hb_468⟩ := id hR_424
    have hp_4551 := hp_455.1
    have hp_455t := teF_le (f := f9) hp_455.1
    refine lv_iload_n hx hb dX4_readOne_99 rfl (lv_at hl 0 rfl) ?_
    exact W.zret (v := 0) hx hb hr rfl (fun t ht hW => ⟨⟨0, 0, rfl, rfl, ws_397, ty_398, hsm, htx, by rw [ht]; exact hP, va_K.moved hW.alike hK, hD, Or.inl ⟨rfl, k_358, p_359, _, _, _, by omega, by omega, ((Rch.rf (0, ts, σ, T)).st (st_not iw_37 (by omega))).tr hr_365, (⟨kc_447, cc_448, tc_449, fc_450, kb_451, cb_452, tb_453, fb_454, hp_455, hT_456, er_457, et_458, wr_459, wt_460, ec_461, uc_462, wc_463, hc_464, eb_465, ub_466, wb_467, hb_468⟩ : RSX ρ ws_397 ty_398 f9 rd krd tp ktp cd bb tl ts_360 T_361 nk fr (nI k_358) (nI p_359) vl_362)⟩⟩, hS.F ht⟩) hS.2.2 dX4_readOne_100
  obtain ⟨kc_469, cc_470, tc_471, fc_472, kb_473, cb_474, tb_475, fb_476, hp_477, hT_478, er_479, et_480, wr_481, wt_482, ec_483, uc_484, wc_485, hc_486, eb_487, ub_488, wb_489, hb_490⟩ := id hR_366
  have hp_4771 := hp_477.1
  have hp_477t := teF_le (f := f9) hp_477.1
  refine lv_istore_n (lv' := [(3, .int 1), (2, .int 1), (0, .ref rd), (1, .int 0)]) hx hb dX4_readOne_93 rfl hl (by decide) rfl (fun ls hl => ?_)
  refine lv_aload_n hx hb dX4_readOne_94 rfl (lv_at hl 2 rfl) ?_
  refine lv_iconst (v := (-1)) hx hb dX4_readOne_95 (by decide) ?_
  have hFc := free_all hD hS hA
  refine va_callv (va_runV (As := [.int (-1)]) (rest := []) ⟨hx, hb, hml, hown, hts⟩ (r_addCode l D ρ ws_332 ty_333 adK adV fo f9 rd krd tp ktp cd bb tl b_367 T_361 nk fr fk fp vl_362 (3, 0, 0, 0) (-1) H.size htl hng (⟨kc_469, cc_470, tc_471, fc_472, kb_473, cb_474, tb_475, fb_476, hp_477, hT_478, er_479, et_480, wr_481, wt_482, ec_483, uc_484, wc_485, hc_486, eb_487, ub_488, wb_489, hb_490⟩ : RSX ρ ws_332 ty_333 f9 rd krd tp ktp cd bb tl b_367 T_361 nk fr fk fp vl_362) rfl) (cwV 1 hts gX4_readOne_X4_addCode rfl rfl rfl (by decide +kernel) ⟨Nat.le_of_ble_eq_true rfl, Nat.le_of_ble_eq_true rfl⟩) ⟨fun a U g mk q => by obtain ⟨q0, q1, qP, qK, qD, qS⟩ := q; exact ⟨q0, q1, qP, va_K.moved (u := U) (U := U.calling g mk a) (Vm.Alike.refl U.vm) qK, qD, SZ.same rfl rfl qS⟩, va_recv hK hP (ci := 4) (q0 := krd) rfl er_479, fun U hU hW => ⟨rfl, by rw [hU], by rw [hU]; exact hP, va_K.moved hW.alike hK, hD.weaken (fun _ _ _ _ => trivial), hsz9.go hS hW hU hFc⟩⟩ rfl rfl hl.1 rfl (lv_room (Nat.le_of_ble_eq_true rfl)) dX4_readOne_96 ⟨Nat.le_of_ble_eq_true rfl, Nat.le_of_ble_eq_true rfl⟩) hS (fun q _ h => hFc q h) hFc (fun u t H1 locs ht hvm w_492 hB hz1 hk1 hS => ?_)
  obtain ⟨ws_493, ty_494, hm_495, ht_497, hP1, hK1, hD1, hx_496⟩ := hB
  rw [ht] at hP1
  have hK := va_K.moved hvm.symm hK1
  have hD := hD1.weaken (fun _ _ _ h => hFc _ h)
  generalize H1 = H at hP1 hS ⊢
  have hP := hP1
  obtain ⟨g_499, e_498, h_500⟩ := hm_495.obj er_479
  obtain ⟨z_501, z_502, z_503, z_504, z_505, z_506, rfl⟩ := smX4 h_500
  obtain ⟨g_508, e_507, h_509⟩ := hm_495.obj et_480
  obtain ⟨z_510, z_511, z_512, z_513, rfl⟩ := smX6 h_509
  obtain ⟨f_515, e_514⟩ := hm_495.arrI ec_483
  have u_516 := ht_497 _ _ uc_484
  have e_517 := hm_495.keep (by rw [wb_489]; omega) eb_487
  have u_518 := ht_497 _ _ ub_488
  have hsm := hsm.tr (hm_495.mono (by decide))
  have htx := htx.tr ht_497
  obtain ⟨hl_519, hR_520⟩ := hx_496.resolve_right (fun h9 => h9.1 (by omega))
  obtain ⟨kc_521, cc_522, tc_523, fc_524, kb_525, cb_526, tb_527, fb_528, hp_529, hT_530, er_531, et_532, wr_533, wt_534, ec_535, uc_536, wc_537, hc_538, eb_539, ub_540, wb_541, hb_542⟩ := id hR_520
  have hp_5291 := hp_529.1
  have hp_529t := teF_le (f := f9) hp_529.1
  refine lv_iload_n hx hb dX4_readOne_99 rfl (lv_at hl 0 rfl) ?_
  exact W.zret (v := 1) hx hb hr rfl (fun t ht hW => ⟨⟨1, 1, rfl, rfl, ws_493, ty_494, hsm, htx, by rw [ht]; exact hP, va_K.moved hW.alike hK, hD, Or.inr ⟨rfl, b_367, _, _, rch_no (((Rch.rf (0, ts, σ, T)).st (st_not iw_37 (by omega))).tr hr_365), by omega, by rw [len_a1]; omega, (⟨kc_521, cc_522, tc_523, fc_524, kb_525, cb_526, tb_527, fb_528, hp_529, hT_530, er_531, et_532, wr_533, wt_534, ec_535, uc_536, wc_537, hc_538, eb_539, ub_540, wb_541, hb_542⟩ : RSX ρ ws_493 ty_494 f9 rd krd tp ktp cd bb tl b_367 (T_361 ++ [(3, 0, 0, 0)]) nk fr fk fp vl_362)⟩⟩, hS.F ht⟩) hS.2.2 dX4_readOne_100
set_option maxHeartbeats 4000000 in
set_option maxRecDepth 100000 in
theorem r_readEither0 (l : Launch) (D : va_G) (ρ : Nat → Nat) (ws : va_W) (tys : List (ClassId × FieldType)) (adK adV : Nat → Nat) (fo : Option Nat) (f9 : Nat → Int32) (rd krd tp ktp cd bb tl ts : Nat) (T : List Tk) (nk : Int64) (fr fk fp vl : Int32) (σ : List Nat) (sz : Nat) (htl : tl ≤ 400) (hng : ∀ i : Nat, i < tl → ¬ f9 i = -1) (R0 : RSX ρ ws tys f9 rd krd tp ktp cd bb tl ts T nk fr fk fp vl) (hbs : bas σ) (hdp : dep σ = 0) (hT2 : 2 * T.length ≤ ts) : Met l yX4_readEither wsX4_readEither ({ frames := 20, cells := 0, slots := 0, locals := 460 }) (va_Pc [.ref rd, .int 0] (fun U => U.heap.size = sz ∧ va_P D vwCl ws U.heap ∧ va_K D vwCl tys U ∧ va_D (fun _ => True) ws ∧ SZ adK adV fo (va_A ws sz) U U.heap)) (va_Qi (fun (r : Int32) (s9 : Int32) => r = s9) (fun (s9 : Int32) (t : State) => ∃ (ws' : va_W) (tys' : List (ClassId × FieldType)), sm ρ [4, 6] ws ws' ∧ tyx tys tys' ∧ va_P D vwCl ws' t.heap ∧ va_K D vwCl tys' t ∧ va_D (va_A ws sz) ws' ∧ ((s9 = 0 ∧ FLT ρ ws' tys' f9 rd krd tp ktp cd bb tl (0, ts, σ, T) nk fr) ∨ (s9 = 1 ∧ EIT ρ ws' tys' f9 rd krd tp ktp cd bb tl ts σ T nk fr fk fp))) (va_A ws sz)) 0 0 (va_A ws sz) := by
  refine Met.ofW (cc := cX4_readEither) (maxL := 6) (ret := (some .boolean)) (by decide) rfl ?_
  intro p e s m args below meth c s₁ B hml hv
  obtain ⟨rfl, hsz, hP, hK, hD0, hsz9⟩ := hv
  have hx := B.exec
  have hb := B.bytes
  have hr := B.returns
  have hts := atoms_spec (ws := wsX4_readEither) B.pre
  have hown : s.vm.findClass RX4 = some m.cls := findClass_of_methodNamed B.named
  have hlocks := B.notSynchronized
  subst hsz
  have hD := hD0.self (sz := s.heap.size)
  generalize hAe : va_A ws s.heap.size = A at hD hsz9 ⊢
  have hA : ∀ q : Nat, s.heap.size ≤ q → A q := fun q h => by rw [← hAe]; exact Or.inr h
  have hS : va_S A s.heap s.heap [] := va_S.rf
  have hsm : sm ρ [4, 6] ws ws := sm.rf ws
  have htx : tyx tys tys := tyx.rf tys
  have hin4 : ∀ w ∈ u_ws RX4 TX4 8, w ∈ wsX4_readEither := (fun _ h9 => List.mem_cons_of_mem _ (List.mem_append_left _ ((List.mem_append_right _ h9))))
  have hl := lv_entry ([.ref rd, .int 0]) (n := 6) (Nat.le_of_ble_eq_true rfl)
  rw [lg_entry_eq]
  generalize (lg_sl ([.ref rd, .int 0]) ++ List.replicate (6 - (lg_sl ([.ref rd, .int 0])).length) Slot.unset).toArray = ls at hl ⊢
  have hl : lv_has ls 6 [(0, .ref rd), (1, .int 0)] := hl
  obtain ⟨kc_1, cc_2, tc_3, fc_4, kb_5, cb_6, tb_7, fb_8, hp_9, hT_10, er_11, et_12, wr_13, wt_14, ec_15, uc_16, wc_17, hc_18, eb_19, ub_20, wb_21, hb_22⟩ := id R0
  have hp_91 := hp_9.1
  have hp_9t := teF_le (f := f9) hp_9.1
  refine lv_aload_n hx hb dX4_readEither_0 rfl (lv_at hl 0 rfl) ?_
  refine lv_iload_n hx hb dX4_readEither_1 rfl (lv_at hl 1 rfl) ?_
  have hFc := free_all hD hS hA
  refine va_calli (va_runV (As := [.int 0]) (rest := []) ⟨hx, hb, hml, hown, hts⟩ (r_readOne0 l D ρ ws tys adK adV fo f9 rd krd tp ktp cd bb tl ts T nk fr fk fp vl σ s.heap.size htl hng (⟨kc_1, cc_2, tc_3, fc_4, kb_5, cb_6, tb_7, fb_8, hp_9, hT_10, er_11, et_12, wr_13, wt_14, ec_15, uc_16, wc_17, hc_18, eb_19, ub_20, wb_21, hb_22⟩ : RSX ρ ws tys f9 rd krd tp ktp cd bb tl ts T nk fr fk fp vl) hdp (by omega)) (cwV 1 hts gX4_readEither_X4_readOne rfl rfl rfl (by decide +kernel) ⟨Nat.le_of_ble_eq_true rfl, Nat.le_of_ble_eq_true rfl⟩) ⟨fun a U g mk q => by obtain ⟨q0, q1, qP, qK, qD, qS⟩ := q; exact ⟨q0, q1, qP, va_K.moved (u := U) (U := U.calling g mk a) (Vm.Alike.refl U.vm) qK, qD, SZ.same rfl rfl qS⟩, va_recv hK hP (ci := 4) (q0 := krd) rfl er_11, fun U hU hW => ⟨rfl, by rw [hU], by rw [hU]; exact hP, va_K.moved hW.alike hK, hD.weaken (fun _ _ _ _ => trivial), hsz9.go hS hW hU hFc⟩⟩ rfl rfl hl.1 rfl (lv_room (Nat.le_of_ble_eq_true rfl)) dX4_readEither_2 ⟨Nat.le_of_ble_eq_true rfl, Nat.le_of_ble_eq_true rfl⟩) hS (fun q _ h => hFc q h) hFc (fun r_23 u t H1 locs ht hvm w_24 hB hz1 hk1 hS => ?_)
  subst w_24
  obtain ⟨ws_25, ty_26, hm_27, ht_29, hP1, hK1, hD1, hx_28⟩ := hB
  rw [ht] at hP1
  have hK := va_K.moved hvm.symm hK1
  have hD := hD1.weaken (fun _ _ _ h => hFc _ h)
  generalize H1 = H at hP1 hS ⊢
  have hP := hP1
  obtain ⟨g_31, e_30, h_32⟩ := hm_27.obj er_11
  obtain ⟨z_33, z_34, z_35, z_36, z_37, z_38, rfl⟩ := smX4 h_32
  obtain ⟨g_40, e_39, h_41⟩ := hm_27.obj et_12
  obtain ⟨z_42, z_43, z_44, z_45, rfl⟩ := smX6 h_41
  obtain ⟨f_47, e_46⟩ := hm_27.arrI ec_15
  have u_48 := ht_29 _ _ uc_16
  have e_49 := hm_27.keep (by rw [wb_21]; omega) eb_19
  have u_50 := ht_29 _ _ ub_20
  have hsm := hsm.tr (hm_27.mono (by decide))
  have htx := htx.tr ht_29
  refine lv_istore_n (lv' := [(2, .int r_23), (0, .ref rd), (1, .int 0)]) hx hb dX4_readEither_5 rfl hl (by decide) rfl (fun ls hl => ?_)
  refine lv_iconst (v := 0) hx hb dX4_readEither_6 (by decide) ?_
  refine lv_istore_n (lv' := [(3, .int 0), (2, .int r_23), (0, .ref rd), (1, .int 0)]) hx hb dX4_readEither_7 rfl hl (by decide) rfl (fun ls hl => ?_)
  refine lv_iconst (v := 0) hx hb dX4_readEither_8 (by decide) ?_
  refine lv_istore (lv' := [(4, .int 0), (3, .int 0), (2, .int r_23), (0, .ref rd), (1, .int 0)]) hx hb dX4_readEither_9 hl (by decide) rfl (fun ls hl => ?_)
  refine lp_V (nL := 6) (σ := Nat × Int32 × Int32) (lv := fun x9 => [(4, .int (nI x9.1)), (2, .int x9.2.1), (3, .int x9.2.2), (1, .int 0), (0, .ref rd)]) (μ := fun x9 => 400 - x9.1) (J := fun x9 ws9 => sm ρ [4, 6] ws_25 ws9 ∧ (∃ ty9 : List (ClassId × FieldType), va_K D vwCl ty9 s ∧ tyx tys ty9 ∧ ((x9.2.1 = 1 ∧ (x9.2.2 = 0 ∨ x9.2.2 = 1) ∧ LPE ρ ws9 ty9 f9 rd krd tp ktp cd bb tl ts σ T nk fr fk fp x9.1 x9.2.2) ∨ (x9.2.1 = 0 ∧ (x9.2.2 = 0 ∨ x9.2.2 = 1) ∧ FLT ρ ws9 ty9 f9 rd krd tp ktp cd bb tl (0, ts, σ, T) nk fr))) ∧ (x9.1 ≤ 400)) (fun x9 ws_56 H locs ls hj hP hD hS hl ih_51 => ?_) (0, r_23, 0) ws_25 _ _ ls ⟨sm.rf _, ⟨ty_26, hK, htx, by rcases hx_28 with ⟨h0, h⟩ | ⟨h0, b9, T9, vl, hr, g1, g2, h⟩; exact Or.inr ⟨h0, Or.inl rfl, h⟩; exact Or.inl ⟨h0, Or.inl rfl, ⟨b9, σ, T9, vl, rch_bs hbs hr, ow_0 hbs, by omega, fun (h9 : (0 : Int32) = 1) => absurd h9 (by decide), fun _ => by rw [hbs.fx.2.2.2.1, List.append_nil]; omega, by rw [hbs.fx.2.2.2.1, List.append_nil]; exact h⟩⟩⟩, (show 0 ≤ 400 from by omega)⟩ hP hD hS (lv_sub hl [0, 2, 1, 4, 3] rfl)
  obtain ⟨i_52, x_53, y_54⟩ := x9
  replace hj : sm ρ [4, 6] ws_25 ws_56 ∧ (∃ ty9 : List (ClassId × FieldType), va_K D vwCl ty9 s ∧ tyx tys ty9 ∧ ((x_53 = 1 ∧ (y_54 = 0 ∨ y_54 = 1) ∧ LPE ρ ws_56 ty9 f9 rd krd tp ktp cd bb tl ts σ T nk fr fk fp i_52 y_54) ∨ (x_53 = 0 ∧ (y_54 = 0 ∨ y_54 = 1) ∧ FLT ρ ws_56 ty9 f9 rd krd tp ktp cd bb tl (0, ts, σ, T) nk fr))) ∧ (i_52 ≤ 400) := hj
  obtain ⟨hm_57, hR_59, hi_55⟩ := hj
  obtain ⟨g_61, e_60, h_62⟩ := hm_57.obj e_30
  obtain ⟨z_63, z_64, z_65, z_66, z_67, z_68, rfl⟩ := smX4 h_62
  obtain ⟨g_70, e_69, h_71⟩ := hm_57.obj e_39
  obtain ⟨z_72, z_73, z_74, z_75, rfl⟩ := smX6 h_71
  obtain ⟨f_77, e_76⟩ := hm_57.arrI e_46
  have e_78 := hm_57.keep (by rw [wb_21]; omega) e_49
  have hsm := hsm.tr (hm_57.mono (by decide))
  have hlp_58 := hm_57
  have hl : lv_has ls 6 [(4, .int (nI i_52)), (2, .int x_53), (3, .int y_54), (1, .int 0), (0, .ref rd)] := hl
  refine lv_iload hx hb dX4_readEither_11 (lv_at hl 0 rfl) ?_
  obtain ⟨ty_79, hK, htx, hR_80⟩ := hR_59
  rcases hR_80 with ⟨rfl, rfl | rfl, b_81, ta_82, T_83, vl_84, hr_85, ow_86, gi_87, ga_88, gb_89, hR_90⟩ | ⟨rfl, rfl | rfl, k_91, p_92, ts_93, T_83, vl_84, hk_94, hk_95, hr_85, hR_90⟩
  · have gb_89 := gb_89 rfl
    obtain ⟨kc_96, cc_97, tc_98, fc_99, kb_100, cb_101, tb_102, fb_103, hp_104, hT_105, er_106, et_107, wr_108, wt_109, ec_110, uc_111, wc_112, hc_113, eb_114, ub_115, wb_116, hb_117⟩ := id hR_90
    have hp_1041 := hp_104.1
    have hp_104t := teF_le (f := f9) hp_104.1
    refine lv_sipush (v := 400) hx hb dX4_readEither_13 (by decide) ?_
    refine lv_icmp_ge (tgt := 101) hx hb dX4_readEither_16 (by decide) (fun c_118 => ?_) (fun c_118 => ?_)
    · have d_119 := n_le (a := 400) (b := i_52) (by omega) (by omega) c_118
      refine lv_iload_n hx hb dX4_readEither_101 rfl (lv_at hl 2 rfl) ?_
      refine lv_if_eq (tgt := 111) hx hb dX4_readEither_102 (by decide) (fun c_120 => ?_) (fun c_120 => absurd (by decide) c_120)
      refine lv_iload_n hx hb dX4_readEither_111 rfl (lv_at hl 1 rfl) ?_
      exact W.zret (v := 1) hx hb hr rfl (fun t ht hW => ⟨⟨1, 1, rfl, rfl, ws_56, ty_79, hsm, htx, by rw [ht]; exact hP, va_K.moved hW.alike hK, hD, (by exfalso; omega)⟩, hS.F ht⟩) hS.2.2 dX4_readEither_112
    have d_121 := n_nle (a := 400) (b := i_52) (by omega) (by omega) c_118
    refine lv_iload_n hx hb dX4_readEither_19 rfl (lv_at hl 1 rfl) ?_
    refine lv_if_eq (tgt := 101) hx hb dX4_readEither_20 (by decide) (fun c_122 => absurd c_122 (by decide)) (fun c_122 => ?_)
    refine lv_aload_n hx hb dX4_readEither_23 rfl (lv_at hl 4 rfl) ?_
    have hFc := free_all hD hS hA
    refine va_calli (va_runV (As := []) (rest := []) ⟨hx, hb, hml, hown, hts⟩ (r_isAndOr l D (rz []) ws_56 ty_79 adK adV fo f9 rd krd tp ktp cd tl b_81 nk fr fk fp (nI (T_83 ++ eA ta_82).length) vl_84 bb kb_100 cb_101 tb_102 fb_103 H.size er_106 htl hb_117 hng hp_104 et_107 eb_114 ub_115 rz_o0) (cwV 0 hts gX4_readEither_X4_isAndOr rfl rfl rfl (by decide +kernel) ⟨Nat.le_of_ble_eq_true rfl, Nat.le_of_ble_eq_true rfl⟩) ⟨fun a U g mk q => by obtain ⟨q0, q1, qP, qK, qD, qS⟩ := q; exact ⟨q0, q1, qP, va_K.moved (u := U) (U := U.calling g mk a) (Vm.Alike.refl U.vm) qK, qD, SZ.same rfl rfl qS⟩, va_recv hK hP (ci := 4) (q0 := krd) rfl er_106, fun U hU hW => ⟨rfl, by rw [hU], by rw [hU]; exact hP, va_K.moved hW.alike hK, hD.weaken (fun _ _ _ _ => trivial), hsz9.go hS hW hU hFc⟩⟩ rfl rfl hl.1 rfl (lv_room (Nat.le_of_ble_eq_true rfl)) dX4_readEither_24 ⟨Nat.le_of_ble_eq_true rfl, Nat.le_of_ble_eq_true rfl⟩) hS (fun q _ h => hFc q h) hFc (fun r_123 u t H1 locs ht hvm w_124 hB hz1 hk1 hS => ?_)
    obtain ⟨ws_125, ty_126, hm_127, ht_129, hP1, hK1, hD1, hx_128⟩ := hB
    rw [ht] at hP1
    have hK := va_K.moved hvm.symm hK1
    have hD := hD1.weaken (fun _ _ _ h => hFc _ h)
    generalize H1 = H at hP1 hS ⊢
    have hP := hP1
    have e_130 := hm_127.keep rz_o0 er_106
    have e_131 := hm_127.keep rz_o0 et_107
    have e_132 := hm_127.keep rz_o0 ec_110
    have e_133 := hm_127.keep rz_o0 eb_114
    have u_134 := ht_129 _ _ uc_111
    have u_135 := ht_129 _ _ ub_115
    have hm_136 : sm ρ [] ws_56 ws_125 := hm_127.up (fun k _ h => rz_u0  k h)
    have hsm := hsm.tr (hm_136.mono (by decide))
    have hlp_58 := hlp_58.tr (hm_136.mono (by decide))
    have htx := htx.tr ht_129
    rcases w_124 with ⟨rfl, ao_137⟩ | ⟨rfl, ao_137⟩
    · refine lv_if_eq (tgt := 101) hx hb dX4_readEither_27 (by decide) (fun c_138 => ?_) (fun c_138 => absurd (by decide) c_138)
      refine lv_iload_n hx hb dX4_readEither_101 rfl (lv_at hl 2 rfl) ?_
      refine lv_if_eq (tgt := 111) hx hb dX4_readEither_102 (by decide) (fun c_139 => ?_) (fun c_139 => absurd (by decide) c_139)
      refine lv_iload_n hx hb dX4_readEither_111 rfl (lv_at hl 1 rfl) ?_
      exact W.zret (v := 1) hx hb hr rfl (fun t ht hW => ⟨⟨1, 1, rfl, rfl, ws_125, ty_126, hsm, htx, by rw [ht]; exact hP, va_K.moved hW.alike hK, hD, Or.inr ⟨rfl, b_81, ta_82, T_83, _, hr_85, ow_jO hbs ow_86, ao_137, by omega, by rw [(ow_eO hbs ow_86).1 rfl]; omega, by rw [(ow_eO hbs ow_86).1 rfl]; exact (⟨kc_96, cc_97, tc_98, fc_99, kb_100, cb_101, tb_102, fb_103, hp_104, hT_105, e_130, e_131, wr_108, wt_109, e_132, u_134, wc_112, hc_113, e_133, u_135, wb_116, hb_117⟩ : RSX ρ ws_125 ty_126 f9 rd krd tp ktp cd bb tl b_81 (T_83 ++ eA ta_82) nk fr fk fp vl_84)⟩⟩, hS.F ht⟩) hS.2.2 dX4_readEither_112
    refine lv_if_eq (tgt := 101) hx hb dX4_readEither_27 (by decide) (fun c_140 => absurd c_140 (by decide)) (fun c_140 => ?_)
    refine lv_aload_n hx hb dX4_readEither_30 rfl (lv_at hl 4 rfl) ?_
    refine va_get (D := D) (ci := 4) (v := .ref tp) (C := RX4) (T := TX4) (N := 8) hx hb hts hin4 hown hK hP krd e_130 rfl 0 (by decide) (hts (.fieldLink RX4 12 "HoneyHouse$RuleReader" "tape" "LHoneyHouse$Tape;") (List.mem_of_getElem? (i := 1) rfl)) (fun _ h9 => h9) rfl dX4_readEither_31 ?_
    refine va_ldcS hx hb hown hsz9.2.2.2.2.2.1 dX4_readEither_34 ?_
    have hFc := free_all hD hS hA
    refine va_calli (va_runV (As := [.ref (adK 2)]) (rest := []) ⟨hx, hb, hml, hown, hts⟩ (a_isWord l D (rz []) ws_125 ty_126 adK adV fo 2 f9 tp ktp tl b_81 bb kb_100 cb_101 tb_102 fb_103 H.size (by decide) htl hb_117 hng hp_104 e_131 e_133 u_135 rz_o0) (cwV 1 hts gX4_readEither_X6_isWord rfl rfl rfl (by decide +kernel) ⟨Nat.le_of_ble_eq_true rfl, Nat.le_of_ble_eq_true rfl⟩) ⟨fun a U g mk q => by obtain ⟨q0, q1, qP, qK, qD, qS⟩ := q; exact ⟨q0, q1, qP, va_K.moved (u := U) (U := U.calling g mk a) (Vm.Alike.refl U.vm) qK, qD, SZ.same rfl rfl qS⟩, va_recv hK hP (ci := 6) (q0 := ktp) rfl e_131, fun U hU hW => ⟨rfl, by rw [hU], by rw [hU]; exact hP, va_K.moved hW.alike hK, hD.weaken (fun _ _ _ _ => trivial), hsz9.go hS hW hU hFc⟩⟩ rfl rfl hl.1 rfl (lv_room (Nat.le_of_ble_eq_true rfl)) dX4_readEither_36 ⟨Nat.le_of_ble_eq_true rfl, Nat.le_of_ble_eq_true rfl⟩) hS (fun q _ h => hFc q h) hFc (fun r_141 u t H1 locs ht hvm w_142 hB hz1 hk1 hS => ?_)
    obtain ⟨ws_143, ty_144, hm_145, ht_147, hP1, hK1, hD1, hx_146⟩ := hB
    rw [ht] at hP1
    have hK := va_K.moved hvm.symm hK1
    have hD := hD1.weaken (fun _ _ _ h => hFc _ h)
    generalize H1 = H at hP1 hS ⊢
    have hP := hP1
    have e_148 := hm_145.keep rz_o0 e_130
    have e_149 := hm_145.keep rz_o0 e_131
    have e_150 := hm_145.keep rz_o0 e_132
    have e_151 := hm_145.keep rz_o0 e_133
    have u_152 := ht_147 _ _ u_134
    have u_153 := ht_147 _ _ u_135
    have hm_154 : sm ρ [] ws_125 ws_143 := hm_145.up (fun k _ h => rz_u0  k h)
    have hsm := hsm.tr (hm_154.mono (by decide))
    have hlp_58 := hlp_58.tr (hm_154.mono (by decide))
    have htx := htx.tr ht_147
    rcases w_142 with ⟨rfl, iw_155⟩ | ⟨rfl, iw_155⟩
    · have iw_155 : ¬ wdE f9 tl b_81 = 2 := iw_155
      refine lv_istore (lv' := [(5, .int 0), (4, .int (nI i_52)), (2, .int 1), (3, .int 0), (1, .int 0), (0, .ref rd)]) hx hb dX4_readEither_39 hl (by decide) rfl (fun ls hl => ?_)
      refine lv_iload hx hb dX4_readEither_41 (lv_at hl 0 rfl) ?_
      refine lv_if_ne (tgt := 56) hx hb dX4_readEither_43 (by decide) (fun c_156 => absurd (by decide) c_156) (fun c_156 => ?_)
      refine lv_iload_n hx hb dX4_readEither_46 rfl (lv_at hl 3 rfl) ?_
      refine lv_if_eq (tgt := 56) hx hb dX4_readEither_47 (by decide) (fun c_157 => ?_) (fun c_157 => absurd (by decide) c_157)
      refine lv_iload_n hx hb dX4_readEither_56 rfl (lv_at hl 3 rfl) ?_
      refine lv_if_ne (tgt := 65) hx hb dX4_readEither_57 (by decide) (fun c_158 => absurd (by decide) c_158) (fun c_158 => ?_)
      refine lv_iload hx hb dX4_readEither_60 (lv_at hl 0 rfl) ?_
      refine lv_if_ne (tgt := 69) hx hb dX4_readEither_62 (by decide) (fun c_159 => absurd (by decide) c_159) (fun c_159 => ?_)
      refine lv_iconst (v := 1) hx hb dX4_readEither_65 (by decide) ?_
      refine lv_goto (tgt := 70) hx hb dX4_readEither_66 (by decide) ?_
      refine lv_istore_n (lv' := [(3, .int 1), (5, .int 0), (4, .int (nI i_52)), (2, .int 1), (1, .int 0), (0, .ref rd)]) hx hb dX4_readEither_70 rfl hl (by decide) rfl (fun ls hl => ?_)
      have hw1 : wdE f9 tl b_81 = 1 := by omega
      have hw9 : b_81 + 2 ≤ nxF f9 tl b_81 ∧ nxF f9 tl b_81 ≤ tl := nx_wd hp_104.1 (j := 1) (by omega) hw1
      have hm9 : Rch f9 tl (0, ts, σ, T) (0, nxF f9 tl b_81, 1 :: σ, T_83 ++ eA ta_82) := by have h9 := hr_85.st (st_or hw1); rw [ow_jO hbs ow_86, (ow_eO hbs ow_86).1 rfl] at h9; exact h9
      have hdq : dep (1 :: σ) = dep σ := dep_n _ (by omega)
      refine lv_aload_n hx hb dX4_readEither_71 rfl (lv_at hl 5 rfl) ?_
      refine va_get (D := D) (ci := 4) (v := .ref tp) (C := RX4) (T := TX4) (N := 8) hx hb hts hin4 hown hK hP krd e_148 rfl 0 (by decide) (hts (.fieldLink RX4 12 "HoneyHouse$RuleReader" "tape" "LHoneyHouse$Tape;") (List.mem_of_getElem? (i := 1) rfl)) (fun _ h9 => h9) rfl dX4_readEither_72 ?_
      have hFc := free_all hD hS hA
      refine va_callv (va_runV (As := []) (rest := []) ⟨hx, hb, hml, hown, hts⟩ (a_advance l D (rz [ktp]) ws_143 ty_144 f9 tp ktp tl (teF f9 tl b_81) (nI (kdF f9 tl b_81)) (nI b_81) bb kb_100 cb_101 tb_102 fb_103 H.size htl hb_117 hng (by omega) e_149 e_151 u_153 (rz_o1 (pl_ne e_151 e_149 (by intro h9; simp at h9))) (rz_in (by simp))) (cwV 0 hts gX4_readEither_X6_advance rfl rfl rfl (by decide +kernel) ⟨Nat.le_of_ble_eq_true rfl, Nat.le_of_ble_eq_true rfl⟩) ⟨fun a U g mk q => by obtain ⟨q0, q1, qP, qK, qD⟩ := q; exact ⟨q0, q1, qP, va_K.moved (u := U) (U := U.calling g mk a) (Vm.Alike.refl U.vm) qK, qD⟩, va_recv hK hP (ci := 6) (q0 := ktp) rfl e_149, fun U hU hW => ⟨rfl, by rw [hU], by rw [hU]; exact hP, va_K.moved hW.alike hK, hD.weaken (fun _ _ _ _ => trivial)⟩⟩ rfl rfl hl.1 rfl (lv_room (Nat.le_of_ble_eq_true rfl)) dX4_readEither_75 ⟨Nat.le_of_ble_eq_true rfl, Nat.le_of_ble_eq_true rfl⟩) hS (fun q _ h => hFc q h) hFc (fun u t H1 locs ht hvm w_161 hB hz1 hk1 hS => ?_)
      obtain ⟨ws_162, ty_163, hm_164, ht_166, hP1, hK1, hD1, hx_165⟩ := hB
      rw [ht] at hP1
      have hK := va_K.moved hvm.symm hK1
      have hD := hD1.weaken (fun _ _ _ h => hFc _ h)
      generalize H1 = H at hP1 hS ⊢
      have hP := hP1
      have e_167 := hm_164.keep (rz_o1 (pl_ne e_148 e_149 (by intro h9; simp at h9))) e_148
      have e_168 := hm_164.keep (rz_o1 (pl_ne e_150 e_149 (by intro h9; simp at h9))) e_150
      have e_169 := hm_164.keep (rz_o1 (pl_ne e_151 e_149 (by intro h9; simp at h9))) e_151
      have u_170 := ht_166 _ _ u_152
      have u_171 := ht_166 _ _ u_153
      have hm_172 : sm ρ [6] ws_143 ws_162 := hm_164.up (fun k _ h => rz_u1 wt_109 k h)
      have hsm := hsm.tr (hm_172.mono (by decide))
      have hlp_58 := hlp_58.tr (hm_172.mono (by decide))
      have htx := htx.tr ht_166
      have e_173 : ws_162[ktp]? = some (tp, .inr (6, [.int (nI tl), .int (nI (kdF f9 tl (nxF f9 tl b_81))), .int (nI (nxF f9 tl b_81)), .int (nI (teF f9 tl (nxF f9 tl b_81))), .ref bb])) := hx_165; have hq_174 : pcB f9 tl (nxF f9 tl b_81) := nxF_pc (f := f9) hp_104.1; have hq_1741 := hq_174.1; have hq_174t := teF_le (f := f9) hq_174.1; have hg_175 := nx_gain (f := f9) hp_104.1
      refine lv_aload_n hx hb dX4_readEither_78 rfl (lv_at hl 5 rfl) ?_
      refine lv_iload_n hx hb dX4_readEither_79 rfl (lv_at hl 4 rfl) ?_
      have hFc := free_all hD hS hA
      refine va_calli (va_runV (As := [.int 0]) (rest := []) ⟨hx, hb, hml, hown, hts⟩ (r_readOne0 l D ρ ws_162 ty_163 adK adV fo f9 rd krd tp ktp cd bb tl (nxF f9 tl b_81) (T_83 ++ eA ta_82) nk fr fk fp vl_84 (1 :: σ) H.size htl hng (⟨kc_96, cc_97, tc_98, fc_99, kb_100, cb_101, tb_102, fb_103, hq_174, hT_105, e_167, e_173, wr_108, wt_109, e_168, u_170, wc_112, hc_113, e_169, u_171, wb_116, hb_117⟩ : RSX ρ ws_162 ty_163 f9 rd krd tp ktp cd bb tl (nxF f9 tl b_81) (T_83 ++ eA ta_82) nk fr fk fp vl_84) (hdq.trans hdp) (by omega)) (cwV 1 hts gX4_readEither_X4_readOne rfl rfl rfl (by decide +kernel) ⟨Nat.le_of_ble_eq_true rfl, Nat.le_of_ble_eq_true rfl⟩) ⟨fun a U g mk q => by obtain ⟨q0, q1, qP, qK, qD, qS⟩ := q; exact ⟨q0, q1, qP, va_K.moved (u := U) (U := U.calling g mk a) (Vm.Alike.refl U.vm) qK, qD, SZ.same rfl rfl qS⟩, va_recv hK hP (ci := 4) (q0 := krd) rfl e_167, fun U hU hW => ⟨rfl, by rw [hU], by rw [hU]; exact hP, va_K.moved hW.alike hK, hD.weaken (fun _ _ _ _ => trivial), hsz9.go hS hW hU hFc⟩⟩ rfl rfl hl.1 rfl (lv_room (Nat.le_of_ble_eq_true rfl)) dX4_readEither_80 ⟨Nat.le_of_ble_eq_true rfl, Nat.le_of_ble_eq_true rfl⟩) hS (fun q _ h => hFc q h) hFc (fun r_176 u t H1 locs ht hvm w_177 hB hz1 hk1 hS => ?_)
      subst w_177
      obtain ⟨ws_178, ty_179, hm_180, ht_182, hP1, hK1, hD1, hx_181⟩ := hB
      rw [ht] at hP1
      have hK := va_K.moved hvm.symm hK1
      have hD := hD1.weaken (fun _ _ _ h => hFc _ h)
      generalize H1 = H at hP1 hS ⊢
      have hP := hP1
      obtain ⟨g_184, e_183, h_185⟩ := hm_180.obj e_167
      obtain ⟨z_186, z_187, z_188, z_189, z_190, z_191, rfl⟩ := smX4 h_185
      obtain ⟨g_193, e_192, h_194⟩ := hm_180.obj e_173
      obtain ⟨z_195, z_196, z_197, z_198, rfl⟩ := smX6 h_194
      obtain ⟨f_200, e_199⟩ := hm_180.arrI e_168
      have u_201 := ht_182 _ _ u_170
      have e_202 := hm_180.keep (by rw [wb_116]; omega) e_169
      have u_203 := ht_182 _ _ u_171
      have hsm := hsm.tr (hm_180.mono (by decide))
      have hlp_58 := hlp_58.tr (hm_180.mono (by decide))
      have htx := htx.tr ht_182
      rcases hx_181 with ⟨rfl, k_204, p_205, ts_206, T_207, vl_208, hk_209, hk_210, hr_211, hR_212⟩ | ⟨rfl, b_213, T_207, vl_208, hr_211, hg_217, hg_218, hR_212⟩
      · obtain ⟨kc_219, cc_220, tc_221, fc_222, kb_223, cb_224, tb_225, fb_226, hp_227, hT_228, er_229, et_230, wr_231, wt_232, ec_233, uc_234, wc_235, hc_236, eb_237, ub_238, wb_239, hb_240⟩ := id hR_212
        have hp_2271 := hp_227.1
        have hp_227t := teF_le (f := f9) hp_227.1
        refine lv_istore_n (lv' := [(2, .int 0), (3, .int 1), (5, .int 0), (4, .int (nI i_52)), (1, .int 0), (0, .ref rd)]) hx hb dX4_readEither_83 rfl hl (by decide) rfl (fun ls hl => ?_)
        refine lv_iload hx hb dX4_readEither_84 (lv_at hl 2 rfl) ?_
        refine lv_if_eq (tgt := 95) hx hb dX4_readEither_86 (by decide) (fun c_241 => ?_) (fun c_241 => absurd (by decide) c_241)
        refine lv_iinc (v := nI (i_52 + 1)) (lv' := [(4, .int (nI (i_52 + 1))), (2, .int 0), (3, .int 1), (5, .int 0), (1, .int 0), (0, .ref rd)]) hx hb dX4_readEither_95 hl (k := 3) rfl (nI_add i_52 1) (by decide) rfl (fun ls hl => ?_)
        refine lv_goto (tgt := 11) hx hb dX4_readEither_98 (by decide) ?_
        exact ih_51 (i_52 + 1, 0, 1) ws_178 _ _ ls (by show 400 - (i_52 + 1) < 400 - i_52; omega) ⟨hlp_58, ⟨ty_179, hK, htx, Or.inr ⟨rfl, Or.inr rfl, (⟨k_204, p_205, _, _, _, by omega, by omega, hm9.tr hr_211, (⟨kc_219, cc_220, tc_221, fc_222, kb_223, cb_224, tb_225, fb_226, hp_227, hT_228, er_229, et_230, wr_231, wt_232, ec_233, uc_234, wc_235, hc_236, eb_237, ub_238, wb_239, hb_240⟩ : RSX ρ ws_178 ty_179 f9 rd krd tp ktp cd bb tl ts_206 T_207 nk fr (nI k_204) (nI p_205) vl_208)⟩ : FLT ρ ws_178 ty_179 f9 rd krd tp ktp cd bb tl (0, ts, σ, T) nk fr)⟩⟩, (show (i_52 + 1) ≤ 400 from by omega)⟩ hP hD hS (lv_sub hl [0, 1, 2, 4, 5] rfl)
      obtain ⟨kc_242, cc_243, tc_244, fc_245, kb_246, cb_247, tb_248, fb_249, hp_250, hT_251, er_252, et_253, wr_254, wt_255, ec_256, uc_257, wc_258, hc_259, eb_260, ub_261, wb_262, hb_263⟩ := id hR_212
      have hp_2501 := hp_250.1
      have hp_250t := teF_le (f := f9) hp_250.1
      refine lv_istore_n (lv' := [(2, .int 1), (3, .int 1), (5, .int 0), (4, .int (nI i_52)), (1, .int 0), (0, .ref rd)]) hx hb dX4_readEither_83 rfl hl (by decide) rfl (fun ls hl => ?_)
      refine lv_iload hx hb dX4_readEither_84 (lv_at hl 2 rfl) ?_
      refine lv_if_eq (tgt := 95) hx hb dX4_readEither_86 (by decide) (fun c_264 => ?_) (fun c_264 => absurd (by decide) c_264)
      refine lv_iinc (v := nI (i_52 + 1)) (lv' := [(4, .int (nI (i_52 + 1))), (2, .int 1), (3, .int 1), (5, .int 0), (1, .int 0), (0, .ref rd)]) hx hb dX4_readEither_95 hl (k := 3) rfl (nI_add i_52 1) (by decide) rfl (fun ls hl => ?_)
      refine lv_goto (tgt := 11) hx hb dX4_readEither_98 (by decide) ?_
      exact ih_51 (i_52 + 1, 1, 1) ws_178 _ _ ls (by show 400 - (i_52 + 1) < 400 - i_52; omega) ⟨hlp_58, ⟨ty_179, hK, htx, Or.inl ⟨rfl, Or.inr rfl, (⟨b_213, 1 :: σ, T_207, _, hm9.tr (rch_an (by omega) hr_211), ow_or, by omega, fun _ => by rw [eA_n _ (by omega), List.append_nil]; omega, fun h9 => absurd h9 (by decide), by rw [eA_n _ (by omega), List.append_nil]; exact (⟨kc_242, cc_243, tc_244, fc_245, kb_246, cb_247, tb_248, fb_249, hp_250, hT_251, er_252, et_253, wr_254, wt_255, ec_256, uc_257, wc_258, hc_259, eb_260, ub_261, wb_262, hb_263⟩ : RSX ρ ws_178 ty_179 f9 rd krd tp ktp cd bb tl b_213 T_207 nk fr fk fp vl_208)⟩ : LPE ρ ws_178 ty_179 f9 rd krd tp ktp cd bb tl ts σ T nk fr fk fp (i_52 + 1) 1)⟩⟩, (show (i_52 + 1) ≤ 400 from by omega)⟩ hP hD hS (lv_sub hl [0, 1, 2, 4, 5] rfl)
    have iw_155 : wdE f9 tl b_81 = 2 := iw_155
    refine lv_istore (lv' := [(5, .int 1), (4, .int (nI i_52)), (2, .int 1), (3, .int 0), (1, .int 0), (0, .ref rd)]) hx hb dX4_readEither_39 hl (by decide) rfl (fun ls hl => ?_)
    refine lv_iload hx hb dX4_readEither_41 (lv_at hl 0 rfl) ?_
    refine lv_if_ne (tgt := 56) hx hb dX4_readEither_43 (by decide) (fun c_265 => ?_) (fun c_265 => absurd c_265 (by decide))
    refine lv_iload_n hx hb dX4_readEither_56 rfl (lv_at hl 3 rfl) ?_
    refine lv_if_ne (tgt := 65) hx hb dX4_readEither_57 (by decide) (fun c_266 => absurd (by decide) c_266) (fun c_266 => ?_)
    refine lv_iload hx hb dX4_readEither_60 (lv_at hl 0 rfl) ?_
    refine lv_if_ne (tgt := 69) hx hb dX4_readEither_62 (by decide) (fun c_267 => ?_) (fun c_267 => absurd c_267 (by decide))
    refine lv_iconst (v := 0) hx hb dX4_readEither_69 (by decide) ?_
    refine lv_istore_n (lv' := [(3, .int 0), (5, .int 1), (4, .int (nI i_52)), (2, .int 1), (1, .int 0), (0, .ref rd)]) hx hb dX4_readEither_70 rfl hl (by decide) rfl (fun ls hl => ?_)
    have hw9 : b_81 + 3 ≤ nxF f9 tl b_81 ∧ nxF f9 tl b_81 ≤ tl := nx_wd hp_104.1 (j := 2) (by omega) iw_155
    have hm9 : Rch f9 tl (0, ts, σ, T) (0, nxF f9 tl b_81, 2 :: jA ta_82, T_83 ++ eA ta_82) := hr_85.st (st_and iw_155)
    have hdq : dep (2 :: jA ta_82) = dep σ := (dep_n _ (by omega)).trans ((dep_jA _).trans ((dep_jO _).symm.trans (congrArg dep (ow_jO hbs ow_86))))
    refine lv_aload_n hx hb dX4_readEither_71 rfl (lv_at hl 5 rfl) ?_
    refine va_get (D := D) (ci := 4) (v := .ref tp) (C := RX4) (T := TX4) (N := 8) hx hb hts hin4 hown hK hP krd e_148 rfl 0 (by decide) (hts (.fieldLink RX4 12 "HoneyHouse$RuleReader" "tape" "LHoneyHouse$Tape;") (List.mem_of_getElem? (i := 1) rfl)) (fun _ h9 => h9) rfl dX4_readEither_72 ?_
    have hFc := free_all hD hS hA
    refine va_callv (va_runV (As := []) (rest := []) ⟨hx, hb, hml, hown, hts⟩ (a_advance l D (rz [ktp]) ws_143 ty_144 f9 tp ktp tl (teF f9 tl b_81) (nI (kdF f9 tl b_81)) (nI b_81) bb kb_100 cb_101 tb_102 fb_103 H.size htl hb_117 hng (by omega) e_149 e_151 u_153 (rz_o1 (pl_ne e_151 e_149 (by intro h9; simp at h9))) (rz_in (by simp))) (cwV 0 hts gX4_readEither_X6_advance rfl rfl rfl (by decide +kernel) ⟨Nat.le_of_ble_eq_true rfl, Nat.le_of_ble_eq_true rfl⟩) ⟨fun a U g mk q => by obtain ⟨q0, q1, qP, qK, qD⟩ := q; exact ⟨q0, q1, qP, va_K.moved (u := U) (U := U.calling g mk a) (Vm.Alike.refl U.vm) qK, qD⟩, va_recv hK hP (ci := 6) (q0 := ktp) rfl e_149, fun U hU hW => ⟨rfl, by rw [hU], by rw [hU]; exact hP, va_K.moved hW.alike hK, hD.weaken (fun _ _ _ _ => trivial)⟩⟩ rfl rfl hl.1 rfl (lv_room (Nat.le_of_ble_eq_true rfl)) dX4_readEither_75 ⟨Nat.le_of_ble_eq_true rfl, Nat.le_of_ble_eq_true rfl⟩) hS (fun q _ h => hFc q h) hFc (fun u t H1 locs ht hvm w_269 hB hz1 hk1 hS => ?_)
    obtain ⟨ws_270, ty_271, hm_272, ht_274, hP1, hK1, hD1, hx_273⟩ := hB
    rw [ht] at hP1
    have hK := va_K.moved hvm.symm hK1
    have hD := hD1.weaken (fun _ _ _ h => hFc _ h)
    generalize H1 = H at hP1 hS ⊢
    have hP := hP1
    have e_275 := hm_272.keep (rz_o1 (pl_ne e_148 e_149 (by intro h9; simp at h9))) e_148
    have e_276 := hm_272.keep (rz_o1 (pl_ne e_150 e_149 (by intro h9; simp at h9))) e_150
    have e_277 := hm_272.keep (rz_o1 (pl_ne e_151 e_149 (by intro h9; simp at h9))) e_151
    have u_278 := ht_274 _ _ u_152
    have u_279 := ht_274 _ _ u_153
    have hm_280 : sm ρ [6] ws_143 ws_270 := hm_272.up (fun k _ h => rz_u1 wt_109 k h)
    have hsm := hsm.tr (hm_280.mono (by decide))
    have hlp_58 := hlp_58.tr (hm_280.mono (by decide))
    have htx := htx.tr ht_274
    have e_281 : ws_270[ktp]? = some (tp, .inr (6, [.int (nI tl), .int (nI (kdF f9 tl (nxF f9 tl b_81))), .int (nI (nxF f9 tl b_81)), .int (nI (teF f9 tl (nxF f9 tl b_81))), .ref bb])) := hx_273; have hq_282 : pcB f9 tl (nxF f9 tl b_81) := nxF_pc (f := f9) hp_104.1; have hq_2821 := hq_282.1; have hq_282t := teF_le (f := f9) hq_282.1; have hg_283 := nx_gain (f := f9) hp_104.1
    refine lv_aload_n hx hb dX4_readEither_78 rfl (lv_at hl 5 rfl) ?_
    refine lv_iload_n hx hb dX4_readEither_79 rfl (lv_at hl 4 rfl) ?_
    have hFc := free_all hD hS hA
    refine va_calli (va_runV (As := [.int 0]) (rest := []) ⟨hx, hb, hml, hown, hts⟩ (r_readOne0 l D ρ ws_270 ty_271 adK adV fo f9 rd krd tp ktp cd bb tl (nxF f9 tl b_81) (T_83 ++ eA ta_82) nk fr fk fp vl_84 (2 :: jA ta_82) H.size htl hng (⟨kc_96, cc_97, tc_98, fc_99, kb_100, cb_101, tb_102, fb_103, hq_282, hT_105, e_275, e_281, wr_108, wt_109, e_276, u_278, wc_112, hc_113, e_277, u_279, wb_116, hb_117⟩ : RSX ρ ws_270 ty_271 f9 rd krd tp ktp cd bb tl (nxF f9 tl b_81) (T_83 ++ eA ta_82) nk fr fk fp vl_84) (hdq.trans hdp) (by omega)) (cwV 1 hts gX4_readEither_X4_readOne rfl rfl rfl (by decide +kernel) ⟨Nat.le_of_ble_eq_true rfl, Nat.le_of_ble_eq_true rfl⟩) ⟨fun a U g mk q => by obtain ⟨q0, q1, qP, qK, qD, qS⟩ := q; exact ⟨q0, q1, qP, va_K.moved (u := U) (U := U.calling g mk a) (Vm.Alike.refl U.vm) qK, qD, SZ.same rfl rfl qS⟩, va_recv hK hP (ci := 4) (q0 := krd) rfl e_275, fun U hU hW => ⟨rfl, by rw [hU], by rw [hU]; exact hP, va_K.moved hW.alike hK, hD.weaken (fun _ _ _ _ => trivial), hsz9.go hS hW hU hFc⟩⟩ rfl rfl hl.1 rfl (lv_room (Nat.le_of_ble_eq_true rfl)) dX4_readEither_80 ⟨Nat.le_of_ble_eq_true rfl, Nat.le_of_ble_eq_true rfl⟩) hS (fun q _ h => hFc q h) hFc (fun r_284 u t H1 locs ht hvm w_285 hB hz1 hk1 hS => ?_)
    subst w_285
    obtain ⟨ws_286, ty_287, hm_288, ht_290, hP1, hK1, hD1, hx_289⟩ := hB
    rw [ht] at hP1
    have hK := va_K.moved hvm.symm hK1
    have hD := hD1.weaken (fun _ _ _ h => hFc _ h)
    generalize H1 = H at hP1 hS ⊢
    have hP := hP1
    obtain ⟨g_292, e_291, h_293⟩ := hm_288.obj e_275
    obtain ⟨z_294, z_295, z_296, z_297, z_298, z_299, rfl⟩ := smX4 h_293
    obtain ⟨g_301, e_300, h_302⟩ := hm_288.obj e_281
    obtain ⟨z_303, z_304, z_305, z_306, rfl⟩ := smX6 h_302
    obtain ⟨f_308, e_307⟩ := hm_288.arrI e_276
    have u_309 := ht_290 _ _ u_278
    have e_310 := hm_288.keep (by rw [wb_116]; omega) e_277
    have u_311 := ht_290 _ _ u_279
    have hsm := hsm.tr (hm_288.mono (by decide))
    have hlp_58 := hlp_58.tr (hm_288.mono (by decide))
    have htx := htx.tr ht_290
    rcases hx_289 with ⟨rfl, k_312, p_313, ts_314, T_315, vl_316, hk_317, hk_318, hr_319, hR_320⟩ | ⟨rfl, b_321, T_315, vl_316, hr_319, hg_325, hg_326, hR_320⟩
    · obtain ⟨kc_327, cc_328, tc_329, fc_330, kb_331, cb_332, tb_333, fb_334, hp_335, hT_336, er_337, et_338, wr_339, wt_340, ec_341, uc_342, wc_343, hc_344, eb_345, ub_346, wb_347, hb_348⟩ := id hR_320
      have hp_3351 := hp_335.1
      have hp_335t := teF_le (f := f9) hp_335.1
      refine lv_istore_n (lv' := [(2, .int 0), (3, .int 0), (5, .int 1), (4, .int (nI i_52)), (1, .int 0), (0, .ref rd)]) hx hb dX4_readEither_83 rfl hl (by decide) rfl (fun ls hl => ?_)
      refine lv_iload hx hb dX4_readEither_84 (lv_at hl 2 rfl) ?_
      refine lv_if_eq (tgt := 95) hx hb dX4_readEither_86 (by decide) (fun c_349 => absurd c_349 (by decide)) (fun c_349 => ?_)
      refine lv_aload_n hx hb dX4_readEither_89 rfl (lv_at hl 5 rfl) ?_
      refine lv_bipush (v := (-2)) hx hb dX4_readEither_90 (by decide) ?_
      have hFc := free_all hD hS hA
      refine va_callv (va_runV (As := [.int (-2)]) (rest := []) ⟨hx, hb, hml, hown, hts⟩ (r_addCode l D ρ ws_286 ty_287 adK adV fo f9 rd krd tp ktp cd bb tl ts_314 T_315 nk fr (nI k_312) (nI p_313) vl_316 (2, 0, 0, 0) (-2) H.size htl hng (⟨kc_327, cc_328, tc_329, fc_330, kb_331, cb_332, tb_333, fb_334, hp_335, hT_336, er_337, et_338, wr_339, wt_340, ec_341, uc_342, wc_343, hc_344, eb_345, ub_346, wb_347, hb_348⟩ : RSX ρ ws_286 ty_287 f9 rd krd tp ktp cd bb tl ts_314 T_315 nk fr (nI k_312) (nI p_313) vl_316) rfl) (cwV 1 hts gX4_readEither_X4_addCode rfl rfl rfl (by decide +kernel) ⟨Nat.le_of_ble_eq_true rfl, Nat.le_of_ble_eq_true rfl⟩) ⟨fun a U g mk q => by obtain ⟨q0, q1, qP, qK, qD, qS⟩ := q; exact ⟨q0, q1, qP, va_K.moved (u := U) (U := U.calling g mk a) (Vm.Alike.refl U.vm) qK, qD, SZ.same rfl rfl qS⟩, va_recv hK hP (ci := 4) (q0 := krd) rfl er_337, fun U hU hW => ⟨rfl, by rw [hU], by rw [hU]; exact hP, va_K.moved hW.alike hK, hD.weaken (fun _ _ _ _ => trivial), hsz9.go hS hW hU hFc⟩⟩ rfl rfl hl.1 rfl (lv_room (Nat.le_of_ble_eq_true rfl)) dX4_readEither_92 ⟨Nat.le_of_ble_eq_true rfl, Nat.le_of_ble_eq_true rfl⟩) hS (fun q _ h => hFc q h) hFc (fun u t H1 locs ht hvm w_351 hB hz1 hk1 hS => ?_)
      obtain ⟨ws_352, ty_353, hm_354, ht_356, hP1, hK1, hD1, hx_355⟩ := hB
      rw [ht] at hP1
      have hK := va_K.moved hvm.symm hK1
      have hD := hD1.weaken (fun _ _ _ h => hFc _ h)
      generalize H1 = H at hP1 hS ⊢
      have hP := hP1
      obtain ⟨g_358, e_357, h_359⟩ := hm_354.obj er_337
      obtain ⟨z_360, z_361, z_362, z_363, z_364, z_365, rfl⟩ := smX4 h_359
      obtain ⟨g_367, e_366, h_368⟩ := hm_354.obj et_338
      obtain ⟨z_369, z_370, z_371, z_372, rfl⟩ := smX6 h_368
      obtain ⟨f_374, e_373⟩ := hm_354.arrI ec_341
      have u_375 := ht_356 _ _ uc_342
      have e_376 := hm_354.keep (by rw [wb_347]; omega) eb_345
      have u_377 := ht_356 _ _ ub_346
      have hsm := hsm.tr (hm_354.mono (by decide))
      have hlp_58 := hlp_58.tr (hm_354.mono (by decide))
      have htx := htx.tr ht_356
      rcases hx_355 with ⟨hl_378, hR_379⟩ | ⟨hl_378, hR_379⟩
      · obtain ⟨kc_380, cc_381, tc_382, fc_383, kb_384, cb_385, tb_386, fb_387, hp_388, hT_389, er_390, et_391, wr_392, wt_393, ec_394, uc_395, wc_396, hc_397, eb_398, ub_399, wb_400, hb_401⟩ := id hR_379
        have hp_3881 := hp_388.1
        have hp_388t := teF_le (f := f9) hp_388.1
        refine lv_iinc (v := nI (i_52 + 1)) (lv' := [(4, .int (nI (i_52 + 1))), (2, .int 0), (3, .int 0), (5, .int 1), (1, .int 0), (0, .ref rd)]) hx hb dX4_readEither_95 hl (k := 3) rfl (nI_add i_52 1) (by decide) rfl (fun ls hl => ?_)
        refine lv_goto (tgt := 11) hx hb dX4_readEither_98 (by decide) ?_
        exact ih_51 (i_52 + 1, 0, 0) ws_352 _ _ ls (by show 400 - (i_52 + 1) < 400 - i_52; omega) ⟨hlp_58, ⟨ty_353, hK, htx, Or.inr ⟨rfl, Or.inl rfl, (⟨k_312, p_313, _, _, _, by omega, by omega, hm9.tr hr_319, (⟨kc_380, cc_381, tc_382, fc_383, kb_384, cb_385, tb_386, fb_387, hp_388, hT_389, er_390, et_391, wr_392, wt_393, ec_394, uc_395, wc_396, hc_397, eb_398, ub_399, wb_400, hb_401⟩ : RSX ρ ws_352 ty_353 f9 rd krd tp ktp cd bb tl ts_314 (T_315 ++ [(2, 0, 0, 0)]) nk fr (nI k_312) (nI p_313) vl_316)⟩ : FLT ρ ws_352 ty_353 f9 rd krd tp ktp cd bb tl (0, ts, σ, T) nk fr)⟩⟩, (show (i_52 + 1) ≤ 400 from by omega)⟩ hP hD hS (lv_sub hl [0, 1, 2, 4, 5] rfl)
      obtain ⟨kc_402, cc_403, tc_404, fc_405, kb_406, cb_407, tb_408, fb_409, hp_410, hT_411, er_412, et_413, wr_414, wt_415, ec_416, uc_417, wc_418, hc_419, eb_420, ub_421, wb_422, hb_423⟩ := id hR_379
      have hp_4101 := hp_410.1
      have hp_410t := teF_le (f := f9) hp_410.1
      refine lv_iinc (v := nI (i_52 + 1)) (lv' := [(4, .int (nI (i_52 + 1))), (2, .int 0), (3, .int 0), (5, .int 1), (1, .int 0), (0, .ref rd)]) hx hb dX4_readEither_95 hl (k := 3) rfl (nI_add i_52 1) (by decide) rfl (fun ls hl => ?_)
      refine lv_goto (tgt := 11) hx hb dX4_readEither_98 (by decide) ?_
      exact ih_51 (i_52 + 1, 0, 0) ws_352 _ _ ls (by show 400 - (i_52 + 1) < 400 - i_52; omega) ⟨hlp_58, ⟨ty_353, hK, htx, Or.inr ⟨rfl, Or.inl rfl, (⟨k_312, p_313, _, _, _, by omega, by omega, hm9.tr hr_319, (⟨kc_402, cc_403, tc_404, fc_405, kb_406, cb_407, tb_408, fb_409, hp_410, hT_411, er_412, et_413, wr_414, wt_415, ec_416, uc_417, wc_418, hc_419, eb_420, ub_421, wb_422, hb_423⟩ : RSX ρ ws_352 ty_353 f9 rd krd tp ktp cd bb tl ts_314 T_315 nk fr (nI k_312) (nI p_313) vl_316)⟩ : FLT ρ ws_352 ty_353 f9 rd krd tp ktp cd bb tl (0, ts, σ, T) nk fr)⟩⟩, (show (i_52 + 1) ≤ 400 from by omega)⟩ hP hD hS (lv_sub hl [0, 1, 2, 4, 5] rfl)
    obtain ⟨kc_424, cc_425, tc_426, fc_427, kb_428, cb_429, tb_430, fb_431, hp_432, hT_433, er_434, et_435, wr_436, wt_437, ec_438, uc_439, wc_440, hc_441, eb_442, ub_443, wb_444, hb_445⟩ := id hR_320
    have hp_4321 := hp_432.1
    have hp_432t := teF_le (f := f9) hp_432.1
    refine lv_istore_n (lv' := [(2, .int 1), (3, .int 0), (5, .int 1), (4, .int (nI i_52)), (1, .int 0), (0, .ref rd)]) hx hb dX4_readEither_83 rfl hl (by decide) rfl (fun ls hl => ?_)
    refine lv_iload hx hb dX4_readEither_84 (lv_at hl 2 rfl) ?_
    refine lv_if_eq (tgt := 95) hx hb dX4_readEither_86 (by decide) (fun c_446 => absurd c_446 (by decide)) (fun c_446 => ?_)
    refine lv_aload_n hx hb dX4_readEither_89 rfl (lv_at hl 5 rfl) ?_
    refine lv_bipush (v := (-2)) hx hb dX4_readEither_90 (by decide) ?_
    have hFc := free_all hD hS hA
    refine va_callv (va_runV (As := [.int (-2)]) (rest := []) ⟨hx, hb, hml, hown, hts⟩ (r_addCode l D ρ ws_286 ty_287 adK adV fo f9 rd krd tp ktp cd bb tl b_321 T_315 nk fr fk fp vl_316 (2, 0, 0, 0) (-2) H.size htl hng (⟨kc_424, cc_425, tc_426, fc_427, kb_428, cb_429, tb_430, fb_431, hp_432, hT_433, er_434, et_435, wr_436, wt_437, ec_438, uc_439, wc_440, hc_441, eb_442, ub_443, wb_444, hb_445⟩ : RSX ρ ws_286 ty_287 f9 rd krd tp ktp cd bb tl b_321 T_315 nk fr fk fp vl_316) rfl) (cwV 1 hts gX4_readEither_X4_addCode rfl rfl rfl (by decide +kernel) ⟨Nat.le_of_ble_eq_true rfl, Nat.le_of_ble_eq_true rfl⟩) ⟨fun a U g mk q => by obtain ⟨q0, q1, qP, qK, qD, qS⟩ := q; exact ⟨q0, q1, qP, va_K.moved (u := U) (U := U.calling g mk a) (Vm.Alike.refl U.vm) qK, qD, SZ.same rfl rfl qS⟩, va_recv hK hP (ci := 4) (q0 := krd) rfl er_434, fun U hU hW => ⟨rfl, by rw [hU], by rw [hU]; exact hP, va_K.moved hW.alike hK, hD.weaken (fun _ _ _ _ => trivial), hsz9.go hS hW hU hFc⟩⟩ rfl rfl hl.1 rfl (lv_room (Nat.le_of_ble_eq_true rfl)) dX4_readEither_92 ⟨Nat.le_of_ble_eq_true rfl, Nat.le_of_ble_eq_true rfl⟩) hS (fun q _ h => hFc q h) hFc (fun u t H1 locs ht hvm w_448 hB hz1 hk1 hS => ?_)
    obtain ⟨ws_449, ty_450, hm_451, ht_453, hP1, hK1, hD1, hx_452⟩ := hB
    rw [ht] at hP1
    have hK := va_K.moved hvm.symm hK1
    have hD := hD1.weaken (fun _ _ _ h => hFc _ h)
    generalize H1 = H at hP1 hS ⊢
    have hP := hP1
    obtain ⟨g_455, e_454, h_456⟩ := hm_451.obj er_434
    obtain ⟨z_457, z_458, z_459, z_460, z_461, z_462, rfl⟩ := smX4 h_456
    obtain ⟨g_464, e_463, h_465⟩ := hm_451.obj et_435
    obtain ⟨z_466, z_467, z_468, z_469, rfl⟩ := smX6 h_465
    obtain ⟨f_471, e_470⟩ := hm_451.arrI ec_438
    have u_472 := ht_453 _ _ uc_439
    have e_473 := hm_451.keep (by rw [wb_444]; omega) eb_442
    have u_474 := ht_453 _ _ ub_443
    have hsm := hsm.tr (hm_451.mono (by decide))
    have hlp_58 := hlp_58.tr (hm_451.mono (by decide))
    have htx := htx.tr ht_453
    obtain ⟨hl_475, hR_476⟩ := hx_452.resolve_right (fun h9 => h9.1 (by omega))
    obtain ⟨kc_477, cc_478, tc_479, fc_480, kb_481, cb_482, tb_483, fb_484, hp_485, hT_486, er_487, et_488, wr_489, wt_490, ec_491, uc_492, wc_493, hc_494, eb_495, ub_496, wb_497, hb_498⟩ := id hR_476
    have hp_4851 := hp_485.1
    have hp_485t := teF_le (f := f9) hp_485.1
    refine lv_iinc (v := nI (i_52 + 1)) (lv' := [(4, .int (nI (i_52 + 1))), (2, .int 1), (3, .int 0), (5, .int 1), (1, .int 0), (0, .ref rd)]) hx hb dX4_readEither_95 hl (k := 3) rfl (nI_add i_52 1) (by decide) rfl (fun ls hl => ?_)
    refine lv_goto (tgt := 11) hx hb dX4_readEither_98 (by decide) ?_
    exact ih_51 (i_52 + 1, 1, 0) ws_449 _ _ ls (by show 400 - (i_52 + 1) < 400 - i_52; omega) ⟨hlp_58, ⟨ty_450, hK, htx, Or.inl ⟨rfl, Or.inl rfl, (⟨b_321, 2 :: jA ta_82, T_315, _, hm9.tr (rch_an (by omega) hr_319), ow_and hbs ow_86, by omega, fun h9 => absurd h9 (by decide), fun _ => by rw [eA_2jA, len_a1]; omega, by rw [eA_2jA]; exact (⟨kc_477, cc_478, tc_479, fc_480, kb_481, cb_482, tb_483, fb_484, hp_485, hT_486, er_487, et_488, wr_489, wt_490, ec_491, uc_492, wc_493, hc_494, eb_495, ub_496, wb_497, hb_498⟩ : RSX ρ ws_449 ty_450 f9 rd krd tp ktp cd bb tl b_321 (T_315 ++ [(2, 0, 0, 0)]) nk fr fk fp vl_316)⟩ : LPE ρ ws_449 ty_450 f9 rd krd tp ktp cd bb tl ts σ T nk fr fk fp (i_52 + 1) 0)⟩⟩, (show (i_52 + 1) ≤ 400 from by omega)⟩ hP hD hS (lv_sub hl [0, 1, 2, 4, 5] rfl)
  · have ga_88 := ga_88 rfl
    obtain ⟨kc_499, cc_500, tc_501, fc_502, kb_503, cb_504, tb_505, fb_506, hp_507, hT_508, er_509, et_510, wr_511, wt_512, ec_513, uc_514, wc_515, hc_516, eb_517, ub_518, wb_519, hb_520⟩ := id hR_90
    have hp_5071 := hp_507.1
    have hp_507t := teF_le (f := f9) hp_507.1
    refine lv_sipush (v := 400) hx hb dX4_readEither_13 (by decide) ?_
    refine lv_icmp_ge (tgt := 101) hx hb dX4_readEither_16 (by decide) (fun c_521 => ?_) (fun c_521 => ?_)
    · have d_522 := n_le (a := 400) (b := i_52) (by omega) (by omega) c_521
      refine lv_iload_n hx hb dX4_readEither_101 rfl (lv_at hl 2 rfl) ?_
      refine lv_if_eq (tgt := 111) hx hb dX4_readEither_102 (by decide) (fun c_523 => absurd c_523 (by decide)) (fun c_523 => ?_)
      refine lv_aload_n hx hb dX4_readEither_105 rfl (lv_at hl 4 rfl) ?_
      refine lv_bipush (v := (-3)) hx hb dX4_readEither_106 (by decide) ?_
      have hFc := free_all hD hS hA
      refine va_callv (va_runV (As := [.int (-3)]) (rest := []) ⟨hx, hb, hml, hown, hts⟩ (r_addCode l D ρ ws_56 ty_79 adK adV fo f9 rd krd tp ktp cd bb tl b_81 (T_83 ++ eA ta_82) nk fr fk fp vl_84 (1, 0, 0, 0) (-3) H.size htl hng (⟨kc_499, cc_500, tc_501, fc_502, kb_503, cb_504, tb_505, fb_506, hp_507, hT_508, er_509, et_510, wr_511, wt_512, ec_513, uc_514, wc_515, hc_516, eb_517, ub_518, wb_519, hb_520⟩ : RSX ρ ws_56 ty_79 f9 rd krd tp ktp cd bb tl b_81 (T_83 ++ eA ta_82) nk fr fk fp vl_84) rfl) (cwV 1 hts gX4_readEither_X4_addCode rfl rfl rfl (by decide +kernel) ⟨Nat.le_of_ble_eq_true rfl, Nat.le_of_ble_eq_true rfl⟩) ⟨fun a U g mk q => by obtain ⟨q0, q1, qP, qK, qD, qS⟩ := q; exact ⟨q0, q1, qP, va_K.moved (u := U) (U := U.calling g mk a) (Vm.Alike.refl U.vm) qK, qD, SZ.same rfl rfl qS⟩, va_recv hK hP (ci := 4) (q0 := krd) rfl er_509, fun U hU hW => ⟨rfl, by rw [hU], by rw [hU]; exact hP, va_K.moved hW.alike hK, hD.weaken (fun _ _ _ _ => trivial), hsz9.go hS hW hU hFc⟩⟩ rfl rfl hl.1 rfl (lv_room (Nat.le_of_ble_eq_true rfl)) dX4_readEither_108 ⟨Nat.le_of_ble_eq_true rfl, Nat.le_of_ble_eq_true rfl⟩) hS (fun q _ h => hFc q h) hFc (fun u t H1 locs ht hvm w_525 hB hz1 hk1 hS => ?_)
      obtain ⟨ws_526, ty_527, hm_528, ht_530, hP1, hK1, hD1, hx_529⟩ := hB
      rw [ht] at hP1
      have hK := va_K.moved hvm.symm hK1
      have hD := hD1.weaken (fun _ _ _ h => hFc _ h)
      generalize H1 = H at hP1 hS ⊢
      have hP := hP1
      obtain ⟨g_532, e_531, h_533⟩ := hm_528.obj er_509
      obtain ⟨z_534, z_535, z_536, z_537, z_538, z_539, rfl⟩ := smX4 h_533
      obtain ⟨g_541, e_540, h_542⟩ := hm_528.obj et_510
      obtain ⟨z_543, z_544, z_545, z_546, rfl⟩ := smX6 h_542
      obtain ⟨f_548, e_547⟩ := hm_528.arrI ec_513
      have u_549 := ht_530 _ _ uc_514
      have e_550 := hm_528.keep (by rw [wb_519]; omega) eb_517
      have u_551 := ht_530 _ _ ub_518
      have hsm := hsm.tr (hm_528.mono (by decide))
      have hlp_58 := hlp_58.tr (hm_528.mono (by decide))
      have htx := htx.tr ht_530
      rcases hx_529 with ⟨hl_552, hR_553⟩ | ⟨hl_552, hR_553⟩
      · obtain ⟨kc_554, cc_555, tc_556, fc_557, kb_558, cb_559, tb_560, fb_561, hp_562, hT_563, er_564, et_565, wr_566, wt_567, ec_568, uc_569, wc_570, hc_571, eb_572, ub_573, wb_574, hb_575⟩ := id hR_553
        have hp_5621 := hp_562.1
        have hp_562t := teF_le (f := f9) hp_562.1
        refine lv_iload_n hx hb dX4_readEither_111 rfl (lv_at hl 1 rfl) ?_
        exact W.zret (v := 1) hx hb hr rfl (fun t ht hW => ⟨⟨1, 1, rfl, rfl, ws_526, ty_527, hsm, htx, by rw [ht]; exact hP, va_K.moved hW.alike hK, hD, (by exfalso; omega)⟩, hS.F ht⟩) hS.2.2 dX4_readEither_112
      obtain ⟨kc_576, cc_577, tc_578, fc_579, kb_580, cb_581, tb_582, fb_583, hp_584, hT_585, er_586, et_587, wr_588, wt_589, ec_590, uc_591, wc_592, hc_593, eb_594, ub_595, wb_596, hb_597⟩ := id hR_553
      have hp_5841 := hp_584.1
      have hp_584t := teF_le (f := f9) hp_584.1
      refine lv_iload_n hx hb dX4_readEither_111 rfl (lv_at hl 1 rfl) ?_
      exact W.zret (v := 1) hx hb hr rfl (fun t ht hW => ⟨⟨1, 1, rfl, rfl, ws_526, ty_527, hsm, htx, by rw [ht]; exact hP, va_K.moved hW.alike hK, hD, (by exfalso; omega)⟩, hS.F ht⟩) hS.2.2 dX4_readEither_112
    have d_598 := n_nle (a := 400) (b := i_52) (by omega) (by omega) c_521
    refine lv_iload_n hx hb dX4_readEither_19 rfl (lv_at hl 1 rfl) ?_
    refine lv_if_eq (tgt := 101) hx hb dX4_readEither_20 (by decide) (fun c_599 => absurd c_599 (by decide)) (fun c_599 => ?_)
    refine lv_aload_n hx hb dX4_readEither_23 rfl (lv_at hl 4 rfl) ?_
    have hFc := free_all hD hS hA
    refine va_calli (va_runV (As := []) (rest := []) ⟨hx, hb, hml, hown, hts⟩ (r_isAndOr l D (rz []) ws_56 ty_79 adK adV fo f9 rd krd tp ktp cd tl b_81 nk fr fk fp (nI (T_83 ++ eA ta_82).length) vl_84 bb kb_503 cb_504 tb_505 fb_506 H.size er_509 htl hb_520 hng hp_507 et_510 eb_517 ub_518 rz_o0) (cwV 0 hts gX4_readEither_X4_isAndOr rfl rfl rfl (by decide +kernel) ⟨Nat.le_of_ble_eq_true rfl, Nat.le_of_ble_eq_true rfl⟩) ⟨fun a U g mk q => by obtain ⟨q0, q1, qP, qK, qD, qS⟩ := q; exact ⟨q0, q1, qP, va_K.moved (u := U) (U := U.calling g mk a) (Vm.Alike.refl U.vm) qK, qD, SZ.same rfl rfl qS⟩, va_recv hK hP (ci := 4) (q0 := krd) rfl er_509, fun U hU hW => ⟨rfl, by rw [hU], by rw [hU]; exact hP, va_K.moved hW.alike hK, hD.weaken (fun _ _ _ _ => trivial), hsz9.go hS hW hU hFc⟩⟩ rfl rfl hl.1 rfl (lv_room (Nat.le_of_ble_eq_true rfl)) dX4_readEither_24 ⟨Nat.le_of_ble_eq_true rfl, Nat.le_of_ble_eq_true rfl⟩) hS (fun q _ h => hFc q h) hFc (fun r_600 u t H1 locs ht hvm w_601 hB hz1 hk1 hS => ?_)
    obtain ⟨ws_602, ty_603, hm_604, ht_606, hP1, hK1, hD1, hx_605⟩ := hB
    rw [ht] at hP1
    have hK := va_K.moved hvm.symm hK1
    have hD := hD1.weaken (fun _ _ _ h => hFc _ h)
    generalize H1 = H at hP1 hS ⊢
    have hP := hP1
    have e_607 := hm_604.keep rz_o0 er_509
    have e_608 := hm_604.keep rz_o0 et_510
    have e_609 := hm_604.keep rz_o0 ec_513
    have e_610 := hm_604.keep rz_o0 eb_517
    have u_611 := ht_606 _ _ uc_514
    have u_612 := ht_606 _ _ ub_518
    have hm_613 : sm ρ [] ws_56 ws_602 := hm_604.up (fun k _ h => rz_u0  k h)
    have hsm := hsm.tr (hm_613.mono (by decide))
    have hlp_58 := hlp_58.tr (hm_613.mono (by decide))
    have htx := htx.tr ht_606
    rcases w_601 with ⟨rfl, ao_614⟩ | ⟨rfl, ao_614⟩
    · refine lv_if_eq (tgt := 101) hx hb dX4_readEither_27 (by decide) (fun c_615 => ?_) (fun c_615 => absurd (by decide) c_615)
      refine lv_iload_n hx hb dX4_readEither_101 rfl (lv_at hl 2 rfl) ?_
      refine lv_if_eq (tgt := 111) hx hb dX4_readEither_102 (by decide) (fun c_616 => absurd c_616 (by decide)) (fun c_616 => ?_)
      refine lv_aload_n hx hb dX4_readEither_105 rfl (lv_at hl 4 rfl) ?_
      refine lv_bipush (v := (-3)) hx hb dX4_readEither_106 (by decide) ?_
      have hFc := free_all hD hS hA
      refine va_callv (va_runV (As := [.int (-3)]) (rest := []) ⟨hx, hb, hml, hown, hts⟩ (r_addCode l D ρ ws_602 ty_603 adK adV fo f9 rd krd tp ktp cd bb tl b_81 (T_83 ++ eA ta_82) nk fr fk fp vl_84 (1, 0, 0, 0) (-3) H.size htl hng (⟨kc_499, cc_500, tc_501, fc_502, kb_503, cb_504, tb_505, fb_506, hp_507, hT_508, e_607, e_608, wr_511, wt_512, e_609, u_611, wc_515, hc_516, e_610, u_612, wb_519, hb_520⟩ : RSX ρ ws_602 ty_603 f9 rd krd tp ktp cd bb tl b_81 (T_83 ++ eA ta_82) nk fr fk fp vl_84) rfl) (cwV 1 hts gX4_readEither_X4_addCode rfl rfl rfl (by decide +kernel) ⟨Nat.le_of_ble_eq_true rfl, Nat.le_of_ble_eq_true rfl⟩) ⟨fun a U g mk q => by obtain ⟨q0, q1, qP, qK, qD, qS⟩ := q; exact ⟨q0, q1, qP, va_K.moved (u := U) (U := U.calling g mk a) (Vm.Alike.refl U.vm) qK, qD, SZ.same rfl rfl qS⟩, va_recv hK hP (ci := 4) (q0 := krd) rfl e_607, fun U hU hW => ⟨rfl, by rw [hU], by rw [hU]; exact hP, va_K.moved hW.alike hK, hD.weaken (fun _ _ _ _ => trivial), hsz9.go hS hW hU hFc⟩⟩ rfl rfl hl.1 rfl (lv_room (Nat.le_of_ble_eq_true rfl)) dX4_readEither_108 ⟨Nat.le_of_ble_eq_true rfl, Nat.le_of_ble_eq_true rfl⟩) hS (fun q _ h => hFc q h) hFc (fun u t H1 locs ht hvm w_618 hB hz1 hk1 hS => ?_)
      obtain ⟨ws_619, ty_620, hm_621, ht_623, hP1, hK1, hD1, hx_622⟩ := hB
      rw [ht] at hP1
      have hK := va_K.moved hvm.symm hK1
      have hD := hD1.weaken (fun _ _ _ h => hFc _ h)
      generalize H1 = H at hP1 hS ⊢
      have hP := hP1
      obtain ⟨g_625, e_624, h_626⟩ := hm_621.obj e_607
      obtain ⟨z_627, z_628, z_629, z_630, z_631, z_632, rfl⟩ := smX4 h_626
      obtain ⟨g_634, e_633, h_635⟩ := hm_621.obj e_608
      obtain ⟨z_636, z_637, z_638, z_639, rfl⟩ := smX6 h_635
      obtain ⟨f_641, e_640⟩ := hm_621.arrI e_609
      have u_642 := ht_623 _ _ u_611
      have e_643 := hm_621.keep (by rw [wb_519]; omega) e_610
      have u_644 := ht_623 _ _ u_612
      have hsm := hsm.tr (hm_621.mono (by decide))
      have hlp_58 := hlp_58.tr (hm_621.mono (by decide))
      have htx := htx.tr ht_623
      obtain ⟨hl_645, hR_646⟩ := hx_622.resolve_right (fun h9 => h9.1 (by omega))
      obtain ⟨kc_647, cc_648, tc_649, fc_650, kb_651, cb_652, tb_653, fb_654, hp_655, hT_656, er_657, et_658, wr_659, wt_660, ec_661, uc_662, wc_663, hc_664, eb_665, ub_666, wb_667, hb_668⟩ := id hR_646
      have hp_6551 := hp_655.1
      have hp_655t := teF_le (f := f9) hp_655.1
      refine lv_iload_n hx hb dX4_readEither_111 rfl (lv_at hl 1 rfl) ?_
      exact W.zret (v := 1) hx hb hr rfl (fun t ht hW => ⟨⟨1, 1, rfl, rfl, ws_619, ty_620, hsm, htx, by rw [ht]; exact hP, va_K.moved hW.alike hK, hD, Or.inr ⟨rfl, b_81, ta_82, T_83, _, hr_85, ow_jO hbs ow_86, ao_614, by omega, by rw [(ow_eO hbs ow_86).2 rfl, ← List.append_assoc, len_a1]; omega, by rw [(ow_eO hbs ow_86).2 rfl, ← List.append_assoc]; exact (⟨kc_647, cc_648, tc_649, fc_650, kb_651, cb_652, tb_653, fb_654, hp_655, hT_656, er_657, et_658, wr_659, wt_660, ec_661, uc_662, wc_663, hc_664, eb_665, ub_666, wb_667, hb_668⟩ : RSX ρ ws_619 ty_620 f9 rd krd tp ktp cd bb tl b_81 ((T_83 ++ eA ta_82) ++ [(1, 0, 0, 0)]) nk fr fk fp vl_84)⟩⟩, hS.F ht⟩) hS.2.2 dX4_readEither_112
    refine lv_if_eq (tgt := 101) hx hb dX4_readEither_27 (by decide) (fun c_669 => absurd c_669 (by decide)) (fun c_669 => ?_)
    refine lv_aload_n hx hb dX4_readEither_30 rfl (lv_at hl 4 rfl) ?_
    refine va_get (D := D) (ci := 4) (v := .ref tp) (C := RX4) (T := TX4) (N := 8) hx hb hts hin4 hown hK hP krd e_607 rfl 0 (by decide) (hts (.fieldLink RX4 12 "HoneyHouse$RuleReader" "tape" "LHoneyHouse$Tape;") (List.mem_of_getElem? (i := 1) rfl)) (fun _ h9 => h9) rfl dX4_readEither_31 ?_
    refine va_ldcS hx hb hown hsz9.2.2.2.2.2.1 dX4_readEither_34 ?_
    have hFc := free_all hD hS hA
    refine va_calli (va_runV (As := [.ref (adK 2)]) (rest := []) ⟨hx, hb, hml, hown, hts⟩ (a_isWord l D (rz []) ws_602 ty_603 adK adV fo 2 f9 tp ktp tl b_81 bb kb_503 cb_504 tb_505 fb_506 H.size (by decide) htl hb_520 hng hp_507 e_608 e_610 u_612 rz_o0) (cwV 1 hts gX4_readEither_X6_isWord rfl rfl rfl (by decide +kernel) ⟨Nat.le_of_ble_eq_true rfl, Nat.le_of_ble_eq_true rfl⟩) ⟨fun a U g mk q => by obtain ⟨q0, q1, qP, qK, qD, qS⟩ := q; exact ⟨q0, q1, qP, va_K.moved (u := U) (U := U.calling g mk a) (Vm.Alike.refl U.vm) qK, qD, SZ.same rfl rfl qS⟩, va_recv hK hP (ci := 6) (q0 := ktp) rfl e_608, fun U hU hW => ⟨rfl, by rw [hU], by rw [hU]; exact hP, va_K.moved hW.alike hK, hD.weaken (fun _ _ _ _ => trivial), hsz9.go hS hW hU hFc⟩⟩ rfl rfl hl.1 rfl (lv_room (Nat.le_of_ble_eq_true rfl)) dX4_readEither_36 ⟨Nat.le_of_ble_eq_true rfl, Nat.le_of_ble_eq_true rfl⟩) hS (fun q _ h => hFc q h) hFc (fun r_670 u t H1 locs ht hvm w_671 hB hz1 hk1 hS => ?_)
    obtain ⟨ws_672, ty_673, hm_674, ht_676, hP1, hK1, hD1, hx_675⟩ := hB
    rw [ht] at hP1
    have hK := va_K.moved hvm.symm hK1
    have hD := hD1.weaken (fun _ _ _ h => hFc _ h)
    generalize H1 = H at hP1 hS ⊢
    have hP := hP1
    have e_677 := hm_674.keep rz_o0 e_607
    have e_678 := hm_674.keep rz_o0 e_608
    have e_679 := hm_674.keep rz_o0 e_609
    have e_680 := hm_674.keep rz_o0 e_610
    have u_681 := ht_676 _ _ u_611
    have u_682 := ht_676 _ _ u_612
    have hm_683 : sm ρ [] ws_602 ws_672 := hm_674.up (fun k _ h => rz_u0  k h)
    have hsm := hsm.tr (hm_683.mono (by decide))
    have hlp_58 := hlp_58.tr (hm_683.mono (by decide))
    have htx := htx.tr ht_676
    rcases w_671 with ⟨rfl, iw_684⟩ | ⟨rfl, iw_684⟩
    · have iw_684 : ¬ wdE f9 tl b_81 = 2 := iw_684
      refine lv_istore (lv' := [(5, .int 0), (4, .int (nI i_52)), (2, .int 1), (3, .int 1), (1, .int 0), (0, .ref rd)]) hx hb dX4_readEither_39 hl (by decide) rfl (fun ls hl => ?_)
      refine lv_iload hx hb dX4_readEither_41 (lv_at hl 0 rfl) ?_
      refine lv_if_ne (tgt := 56) hx hb dX4_readEither_43 (by decide) (fun c_685 => absurd (by decide) c_685) (fun c_685 => ?_)
      refine lv_iload_n hx hb dX4_readEither_46 rfl (lv_at hl 3 rfl) ?_
      refine lv_if_eq (tgt := 56) hx hb dX4_readEither_47 (by decide) (fun c_686 => absurd c_686 (by decide)) (fun c_686 => ?_)
      refine lv_aload_n hx hb dX4_readEither_50 rfl (lv_at hl 5 rfl) ?_
      refine lv_bipush (v := (-3)) hx hb dX4_readEither_51 (by decide) ?_
      have hFc := free_all hD hS hA
      refine va_callv (va_runV (As := [.int (-3)]) (rest := []) ⟨hx, hb, hml, hown, hts⟩ (r_addCode l D ρ ws_672 ty_673 adK adV fo f9 rd krd tp ktp cd bb tl b_81 (T_83 ++ eA ta_82) nk fr fk fp vl_84 (1, 0, 0, 0) (-3) H.size htl hng (⟨kc_499, cc_500, tc_501, fc_502, kb_503, cb_504, tb_505, fb_506, hp_507, hT_508, e_677, e_678, wr_511, wt_512, e_679, u_681, wc_515, hc_516, e_680, u_682, wb_519, hb_520⟩ : RSX ρ ws_672 ty_673 f9 rd krd tp ktp cd bb tl b_81 (T_83 ++ eA ta_82) nk fr fk fp vl_84) rfl) (cwV 1 hts gX4_readEither_X4_addCode rfl rfl rfl (by decide +kernel) ⟨Nat.le_of_ble_eq_true rfl, Nat.le_of_ble_eq_true rfl⟩) ⟨fun a U g mk q => by obtain ⟨q0, q1, qP, qK, qD, qS⟩ := q; exact ⟨q0, q1, qP, va_K.moved (u := U) (U := U.calling g mk a) (Vm.Alike.refl U.vm) qK, qD, SZ.same rfl rfl qS⟩, va_recv hK hP (ci := 4) (q0 := krd) rfl e_677, fun U hU hW => ⟨rfl, by rw [hU], by rw [hU]; exact hP, va_K.moved hW.alike hK, hD.weaken (fun _ _ _ _ => trivial), hsz9.go hS hW hU hFc⟩⟩ rfl rfl hl.1 rfl (lv_room (Nat.le_of_ble_eq_true rfl)) dX4_readEither_53 ⟨Nat.le_of_ble_eq_true rfl, Nat.le_of_ble_eq_true rfl⟩) hS (fun q _ h => hFc q h) hFc (fun u t H1 locs ht hvm w_688 hB hz1 hk1 hS => ?_)
      obtain ⟨ws_689, ty_690, hm_691, ht_693, hP1, hK1, hD1, hx_692⟩ := hB
      rw [ht] at hP1
      have hK := va_K.moved hvm.symm hK1
      have hD := hD1.weaken (fun _ _ _ h => hFc _ h)
      generalize H1 = H at hP1 hS ⊢
      have hP := hP1
      obtain ⟨g_695, e_694, h_696⟩ := hm_691.obj e_677
      obtain ⟨z_697, z_698, z_699, z_700, z_701, z_702, rfl⟩ := smX4 h_696
      obtain ⟨g_704, e_703, h_705⟩ := hm_691.obj e_678
      obtain ⟨z_706, z_707, z_708, z_709, rfl⟩ := smX6 h_705
      obtain ⟨f_711, e_710⟩ := hm_691.arrI e_679
      have u_712 := ht_693 _ _ u_681
      have e_713 := hm_691.keep (by rw [wb_519]; omega) e_680
      have u_714 := ht_693 _ _ u_682
      have hsm := hsm.tr (hm_691.mono (by decide))
      have hlp_58 := hlp_58.tr (hm_691.mono (by decide))
      have htx := htx.tr ht_693
      obtain ⟨hl_715, hR_716⟩ := hx_692.resolve_right (fun h9 => h9.1 (by omega))
      obtain ⟨kc_717, cc_718, tc_719, fc_720, kb_721, cb_722, tb_723, fb_724, hp_725, hT_726, er_727, et_728, wr_729, wt_730, ec_731, uc_732, wc_733, hc_734, eb_735, ub_736, wb_737, hb_738⟩ := id hR_716
      have hp_7251 := hp_725.1
      have hp_725t := teF_le (f := f9) hp_725.1
      refine lv_iload_n hx hb dX4_readEither_56 rfl (lv_at hl 3 rfl) ?_
      refine lv_if_ne (tgt := 65) hx hb dX4_readEither_57 (by decide) (fun c_739 => ?_) (fun c_739 => absurd c_739 (by decide))
      refine lv_iconst (v := 1) hx hb dX4_readEither_65 (by decide) ?_
      refine lv_goto (tgt := 70) hx hb dX4_readEither_66 (by decide) ?_
      refine lv_istore_n (lv' := [(3, .int 1), (5, .int 0), (4, .int (nI i_52)), (2, .int 1), (1, .int 0), (0, .ref rd)]) hx hb dX4_readEither_70 rfl hl (by decide) rfl (fun ls hl => ?_)
      have hw1 : wdE f9 tl b_81 = 1 := by omega
      have hw9 : b_81 + 2 ≤ nxF f9 tl b_81 ∧ nxF f9 tl b_81 ≤ tl := nx_wd hp_725.1 (j := 1) (by omega) hw1
      have hm9 : Rch f9 tl (0, ts, σ, T) (0, nxF f9 tl b_81, 1 :: σ, (T_83 ++ eA ta_82) ++ [(1, 0, 0, 0)]) := by have h9 := hr_85.st (st_or hw1); rw [ow_jO hbs ow_86, (ow_eO hbs ow_86).2 rfl, ← List.append_assoc] at h9; exact h9
      have hdq : dep (1 :: σ) = dep σ := dep_n _ (by omega)
      have hl9 := len_a1 (T_83 ++ eA ta_82) ((1, 0, 0, 0) : Tk)
      refine lv_aload_n hx hb dX4_readEither_71 rfl (lv_at hl 5 rfl) ?_
      refine va_get (D := D) (ci := 4) (v := .ref tp) (C := RX4) (T := TX4) (N := 8) hx hb hts hin4 hown hK hP krd er_727 rfl 0 (by decide) (hts (.fieldLink RX4 12 "HoneyHouse$RuleReader" "tape" "LHoneyHouse$Tape;") (List.mem_of_getElem? (i := 1) rfl)) (fun _ h9 => h9) rfl dX4_readEither_72 ?_
      have hFc := free_all hD hS hA
      refine va_callv (va_runV (As := []) (rest := []) ⟨hx, hb, hml, hown, hts⟩ (a_advance l D (rz [ktp]) ws_689 ty_690 f9 tp ktp tl (teF f9 tl b_81) (nI (kdF f9 tl b_81)) (nI b_81) bb kb_721 cb_722 tb_723 fb_724 H.size htl hb_738 hng (by omega) et_728 eb_735 ub_736 (rz_o1 (pl_ne eb_735 et_728 (by intro h9; simp at h9))) (rz_in (by simp))) (cwV 0 hts gX4_readEither_X6_advance rfl rfl rfl (by decide +kernel) ⟨Nat.le_of_ble_eq_true rfl, Nat.le_of_ble_eq_true rfl⟩) ⟨fun a U g mk q => by obtain ⟨q0, q1, qP, qK, qD⟩ := q; exact ⟨q0, q1, qP, va_K.moved (u := U) (U := U.calling g mk a) (Vm.Alike.refl U.vm) qK, qD⟩, va_recv hK hP (ci := 6) (q0 := ktp) rfl et_728, fun U hU hW => ⟨rfl, by rw [hU], by rw [hU]; exact hP, va_K.moved hW.alike hK, hD.weaken (fun _ _ _ _ => trivial)⟩⟩ rfl rfl hl.1 rfl (lv_room (Nat.le_of_ble_eq_true rfl)) dX4_readEither_75 ⟨Nat.le_of_ble_eq_true rfl, Nat.le_of_ble_eq_true rfl⟩) hS (fun q _ h => hFc q h) hFc (fun u t H1 locs ht hvm w_741 hB hz1 hk1 hS => ?_)
      obtain ⟨ws_742, ty_743, hm_744, ht_746, hP1, hK1, hD1, hx_745⟩ := hB
      rw [ht] at hP1
      have hK := va_K.moved hvm.symm hK1
      have hD := hD1.weaken (fun _ _ _ h => hFc _ h)
      generalize H1 = H at hP1 hS ⊢
      have hP := hP1
      have e_747 := hm_744.keep (rz_o1 (pl_ne er_727 et_728 (by intro h9; simp at h9))) er_727
      have e_748 := hm_744.keep (rz_o1 (pl_ne ec_731 et_728 (by intro h9; simp at h9))) ec_731
      have e_749 := hm_744.keep (rz_o1 (pl_ne eb_735 et_728 (by intro h9; simp at h9))) eb_735
      have u_750 := ht_746 _ _ uc_732
      have u_751 := ht_746 _ _ ub_736
      have hm_752 : sm ρ [6] ws_689 ws_742 := hm_744.up (fun k _ h => rz_u1 wt_730 k h)
      have hsm := hsm.tr (hm_752.mono (by decide))
      have hlp_58 := hlp_58.tr (hm_752.mono (by decide))
      have htx := htx.tr ht_746
      have e_753 : ws_742[ktp]? = some (tp, .inr (6, [.int (nI tl), .int (nI (kdF f9 tl (nxF f9 tl b_81))), .int (nI (nxF f9 tl b_81)), .int (nI (teF f9 tl (nxF f9 tl b_81))), .ref bb])) := hx_745; have hq_754 : pcB f9 tl (nxF f9 tl b_81) := nxF_pc (f := f9) hp_725.1; have hq_7541 := hq_754.1; have hq_754t := teF_le (f := f9) hq_754.1; have hg_755 := nx_gain (f := f9) hp_725.1
      refine lv_aload_n hx hb dX4_readEither_78 rfl (lv_at hl 5 rfl) ?_
      refine lv_iload_n hx hb dX4_readEither_79 rfl (lv_at hl 4 rfl) ?_
      have hFc := free_all hD hS hA
      refine va_calli (va_runV (As := [.int 0]) (rest := []) ⟨hx, hb, hml, hown, hts⟩ (r_readOne0 l D ρ ws_742 ty_743 adK adV fo f9 rd krd tp ktp cd bb tl (nxF f9 tl b_81) ((T_83 ++ eA ta_82) ++ [(1, 0, 0, 0)]) nk fr fk fp vl_84 (1 :: σ) H.size htl hng (⟨kc_717, cc_718, tc_719, fc_720, kb_721, cb_722, tb_723, fb_724, hq_754, hT_726, e_747, e_753, wr_729, wt_730, e_748, u_750, wc_733, hc_734, e_749, u_751, wb_737, hb_738⟩ : RSX ρ ws_742 ty_743 f9 rd krd tp ktp cd bb tl (nxF f9 tl b_81) ((T_83 ++ eA ta_82) ++ [(1, 0, 0, 0)]) nk fr fk fp vl_84) (hdq.trans hdp) (by omega)) (cwV 1 hts gX4_readEither_X4_readOne rfl rfl rfl (by decide +kernel) ⟨Nat.le_of_ble_eq_true rfl, Nat.le_of_ble_eq_true rfl⟩) ⟨fun a U g mk q => by obtain ⟨q0, q1, qP, qK, qD, qS⟩ := q; exact ⟨q0, q1, qP, va_K.moved (u := U) (U := U.calling g mk a) (Vm.Alike.refl U.vm) qK, qD, SZ.same rfl rfl qS⟩, va_recv hK hP (ci := 4) (q0 := krd) rfl e_747, fun U hU hW => ⟨rfl, by rw [hU], by rw [hU]; exact hP, va_K.moved hW.alike hK, hD.weaken (fun _ _ _ _ => trivial), hsz9.go hS hW hU hFc⟩⟩ rfl rfl hl.1 rfl (lv_room (Nat.le_of_ble_eq_true rfl)) dX4_readEither_80 ⟨Nat.le_of_ble_eq_true rfl, Nat.le_of_ble_eq_true rfl⟩) hS (fun q _ h => hFc q h) hFc (fun r_756 u t H1 locs ht hvm w_757 hB hz1 hk1 hS => ?_)
      subst w_757
      obtain ⟨ws_758, ty_759, hm_760, ht_762, hP1, hK1, hD1, hx_761⟩ := hB
      rw [ht] at hP1
      have hK := va_K.moved hvm.symm hK1
      have hD := hD1.weaken (fun _ _ _ h => hFc _ h)
      generalize H1 = H at hP1 hS ⊢
      have hP := hP1
      obtain ⟨g_764, e_763, h_765⟩ := hm_760.obj e_747
      obtain ⟨z_766, z_767, z_768, z_769, z_770, z_771, rfl⟩ := smX4 h_765
      obtain ⟨g_773, e_772, h_774⟩ := hm_760.obj e_753
      obtain ⟨z_775, z_776, z_777, z_778, rfl⟩ := smX6 h_774
      obtain ⟨f_780, e_779⟩ := hm_760.arrI e_748
      have u_781 := ht_762 _ _ u_750
      have e_782 := hm_760.keep (by rw [wb_737]; omega) e_749
      have u_783 := ht_762 _ _ u_751
      have hsm := hsm.tr (hm_760.mono (by decide))
      have hlp_58 := hlp_58.tr (hm_760.mono (by decide))
      have htx := htx.tr ht_762
      rcases hx_761 with ⟨rfl, k_784, p_785, ts_786, T_787, vl_788, hk_789, hk_790, hr_791, hR_792⟩ | ⟨rfl, b_793, T_787, vl_788, hr_791, hg_797, hg_798, hR_792⟩
      · obtain ⟨kc_799, cc_800, tc_801, fc_802, kb_803, cb_804, tb_805, fb_806, hp_807, hT_808, er_809, et_810, wr_811, wt_812, ec_813, uc_814, wc_815, hc_816, eb_817, ub_818, wb_819, hb_820⟩ := id hR_792
        have hp_8071 := hp_807.1
        have hp_807t := teF_le (f := f9) hp_807.1
        refine lv_istore_n (lv' := [(2, .int 0), (3, .int 1), (5, .int 0), (4, .int (nI i_52)), (1, .int 0), (0, .ref rd)]) hx hb dX4_readEither_83 rfl hl (by decide) rfl (fun ls hl => ?_)
        refine lv_iload hx hb dX4_readEither_84 (lv_at hl 2 rfl) ?_
        refine lv_if_eq (tgt := 95) hx hb dX4_readEither_86 (by decide) (fun c_821 => ?_) (fun c_821 => absurd (by decide) c_821)
        refine lv_iinc (v := nI (i_52 + 1)) (lv' := [(4, .int (nI (i_52 + 1))), (2, .int 0), (3, .int 1), (5, .int 0), (1, .int 0), (0, .ref rd)]) hx hb dX4_readEither_95 hl (k := 3) rfl (nI_add i_52 1) (by decide) rfl (fun ls hl => ?_)
        refine lv_goto (tgt := 11) hx hb dX4_readEither_98 (by decide) ?_
        exact ih_51 (i_52 + 1, 0, 1) ws_758 _ _ ls (by show 400 - (i_52 + 1) < 400 - i_52; omega) ⟨hlp_58, ⟨ty_759, hK, htx, Or.inr ⟨rfl, Or.inr rfl, (⟨k_784, p_785, _, _, _, by omega, by omega, hm9.tr hr_791, (⟨kc_799, cc_800, tc_801, fc_802, kb_803, cb_804, tb_805, fb_806, hp_807, hT_808, er_809, et_810, wr_811, wt_812, ec_813, uc_814, wc_815, hc_816, eb_817, ub_818, wb_819, hb_820⟩ : RSX ρ ws_758 ty_759 f9 rd krd tp ktp cd bb tl ts_786 T_787 nk fr (nI k_784) (nI p_785) vl_788)⟩ : FLT ρ ws_758 ty_759 f9 rd krd tp ktp cd bb tl (0, ts, σ, T) nk fr)⟩⟩, (show (i_52 + 1) ≤ 400 from by omega)⟩ hP hD hS (lv_sub hl [0, 1, 2, 4, 5] rfl)
      obtain ⟨kc_822, cc_823, tc_824, fc_825, kb_826, cb_827, tb_828, fb_829, hp_830, hT_831, er_832, et_833, wr_834, wt_835, ec_836, uc_837, wc_838, hc_839, eb_840, ub_841, wb_842, hb_843⟩ := id hR_792
      have hp_8301 := hp_830.1
      have hp_830t := teF_le (f := f9) hp_830.1
      refine lv_istore_n (lv' := [(2, .int 1), (3, .int 1), (5, .int 0), (4, .int (nI i_52)), (1, .int 0), (0, .ref rd)]) hx hb dX4_readEither_83 rfl hl (by decide) rfl (fun ls hl => ?_)
      refine lv_iload hx hb dX4_readEither_84 (lv_at hl 2 rfl) ?_
      refine lv_if_eq (tgt := 95) hx hb dX4_readEither_86 (by decide) (fun c_844 => ?_) (fun c_844 => absurd (by decide) c_844)
      refine lv_iinc (v := nI (i_52 + 1)) (lv' := [(4, .int (nI (i_52 + 1))), (2, .int 1), (3, .int 1), (5, .int 0), (1, .int 0), (0, .ref rd)]) hx hb dX4_readEither_95 hl (k := 3) rfl (nI_add i_52 1) (by decide) rfl (fun ls hl => ?_)
      refine lv_goto (tgt := 11) hx hb dX4_readEither_98 (by decide) ?_
      exact ih_51 (i_52 + 1, 1, 1) ws_758 _ _ ls (by show 400 - (i_52 + 1) < 400 - i_52; omega) ⟨hlp_58, ⟨ty_759, hK, htx, Or.inl ⟨rfl, Or.inr rfl, (⟨b_793, 1 :: σ, T_787, _, hm9.tr (rch_an (by omega) hr_791), ow_or, by omega, fun _ => by rw [eA_n _ (by omega), List.append_nil]; omega, fun h9 => absurd h9 (by decide), by rw [eA_n _ (by omega), List.append_nil]; exact (⟨kc_822, cc_823, tc_824, fc_825, kb_826, cb_827, tb_828, fb_829, hp_830, hT_831, er_832, et_833, wr_834, wt_835, ec_836, uc_837, wc_838, hc_839, eb_840, ub_841, wb_842, hb_843⟩ : RSX ρ ws_758 ty_759 f9 rd krd tp ktp cd bb tl b_793 T_787 nk fr fk fp vl_788)⟩ : LPE ρ ws_758 ty_759 f9 rd krd tp ktp cd bb tl ts σ T nk fr fk fp (i_52 + 1) 1)⟩⟩, (show (i_52 + 1) ≤ 400 from by omega)⟩ hP hD hS (lv_sub hl [0, 1, 2, 4, 5] rfl)
    have iw_684 : wdE f9 tl b_81 = 2 := iw_684
    refine lv_istore (lv' := [(5, .int 1), (4, .int (nI i_52)), (2, .int 1), (3, .int 1), (1, .int 0), (0, .ref rd)]) hx hb dX4_readEither_39 hl (by decide) rfl (fun ls hl => ?_)
    refine lv_iload hx hb dX4_readEither_41 (lv_at hl 0 rfl) ?_
    refine lv_if_ne (tgt := 56) hx hb dX4_readEither_43 (by decide) (fun c_845 => ?_) (fun c_845 => absurd c_845 (by decide))
    refine lv_iload_n hx hb dX4_readEither_56 rfl (lv_at hl 3 rfl) ?_
    refine lv_if_ne (tgt := 65) hx hb dX4_readEither_57 (by decide) (fun c_846 => ?_) (fun c_846 => absurd c_846 (by decide))
    refine lv_iconst (v := 1) hx hb dX4_readEither_65 (by decide) ?_
    refine lv_goto (tgt := 70) hx hb dX4_readEither_66 (by decide) ?_
    refine lv_istore_n (lv' := [(3, .int 1), (5, .int 1), (4, .int (nI i_52)), (2, .int 1), (1, .int 0), (0, .ref rd)]) hx hb dX4_readEither_70 rfl hl (by decide) rfl (fun ls hl => ?_)
    have hw9 : b_81 + 3 ≤ nxF f9 tl b_81 ∧ nxF f9 tl b_81 ≤ tl := nx_wd hp_507.1 (j := 2) (by omega) iw_684
    have hm9 : Rch f9 tl (0, ts, σ, T) (0, nxF f9 tl b_81, 2 :: jA ta_82, T_83 ++ eA ta_82) := hr_85.st (st_and iw_684)
    have hdq : dep (2 :: jA ta_82) = dep σ := (dep_n _ (by omega)).trans ((dep_jA _).trans ((dep_jO _).symm.trans (congrArg dep (ow_jO hbs ow_86))))
    refine lv_aload_n hx hb dX4_readEither_71 rfl (lv_at hl 5 rfl) ?_
    refine va_get (D := D) (ci := 4) (v := .ref tp) (C := RX4) (T := TX4) (N := 8) hx hb hts hin4 hown hK hP krd e_677 rfl 0 (by decide) (hts (.fieldLink RX4 12 "HoneyHouse$RuleReader" "tape" "LHoneyHouse$Tape;") (List.mem_of_getElem? (i := 1) rfl)) (fun _ h9 => h9) rfl dX4_readEither_72 ?_
    have hFc := free_all hD hS hA
    refine va_callv (va_runV (As := []) (rest := []) ⟨hx, hb, hml, hown, hts⟩ (a_advance l D (rz [ktp]) ws_672 ty_673 f9 tp ktp tl (teF f9 tl b_81) (nI (kdF f9 tl b_81)) (nI b_81) bb kb_503 cb_504 tb_505 fb_506 H.size htl hb_520 hng (by omega) e_678 e_680 u_682 (rz_o1 (pl_ne e_680 e_678 (by intro h9; simp at h9))) (rz_in (by simp))) (cwV 0 hts gX4_readEither_X6_advance rfl rfl rfl (by decide +kernel) ⟨Nat.le_of_ble_eq_true rfl, Nat.le_of_ble_eq_true rfl⟩) ⟨fun a U g mk q => by obtain ⟨q0, q1, qP, qK, qD⟩ := q; exact ⟨q0, q1, qP, va_K.moved (u := U) (U := U.calling g mk a) (Vm.Alike.refl U.vm) qK, qD⟩, va_recv hK hP (ci := 6) (q0 := ktp) rfl e_678, fun U hU hW => ⟨rfl, by rw [hU], by rw [hU]; exact hP, va_K.moved hW.alike hK, hD.weaken (fun _ _ _ _ => trivial)⟩⟩ rfl rfl hl.1 rfl (lv_room (Nat.le_of_ble_eq_true rfl)) dX4_readEither_75 ⟨Nat.le_of_ble_eq_true rfl, Nat.le_of_ble_eq_true rfl⟩) hS (fun q _ h => hFc q h) hFc (fun u t H1 locs ht hvm w_848 hB hz1 hk1 hS => ?_)
    obtain ⟨ws_849, ty_850, hm_851, ht_853, hP1, hK1, hD1, hx_852⟩ := hB
    rw [ht] at hP1
    have hK := va_K.moved hvm.symm hK1
    have hD := hD1.weaken (fun _ _ _ h => hFc _ h)
    generalize H1 = H at hP1 hS ⊢
    have hP := hP1
    have e_854 := hm_851.keep (rz_o1 (pl_ne e_677 e_678 (by intro h9; simp at h9))) e_677
    have e_855 := hm_851.keep (rz_o1 (pl_ne e_679 e_678 (by intro h9; simp at h9))) e_679
    have e_856 := hm_851.keep (rz_o1 (pl_ne e_680 e_678 (by intro h9; simp at h9))) e_680
    have u_857 := ht_853 _ _ u_681
    have u_858 := ht_853 _ _ u_682
    have hm_859 : sm ρ [6] ws_672 ws_849 := hm_851.up (fun k _ h => rz_u1 wt_512 k h)
    have hsm := hsm.tr (hm_859.mono (by decide))
    have hlp_58 := hlp_58.tr (hm_859.mono (by decide))
    have htx := htx.tr ht_853
    have e_860 : ws_849[ktp]? = some (tp, .inr (6, [.int (nI tl), .int (nI (kdF f9 tl (nxF f9 tl b_81))), .int (nI (nxF f9 tl b_81)), .int (nI (teF f9 tl (nxF f9 tl b_81))), .ref bb])) := hx_852; have hq_861 : pcB f9 tl (nxF f9 tl b_81) := nxF_pc (f := f9) hp_507.1; have hq_8611 := hq_861.1; have hq_861t := teF_le (f := f9) hq_861.1; have hg_862 := nx_gain (f := f9) hp_507.1
    refine lv_aload_n hx hb dX4_readEither_78 rfl (lv_at hl 5 rfl) ?_
    refine lv_iload_n hx hb dX4_readEither_79 rfl (lv_at hl 4 rfl) ?_
    have hFc := free_all hD hS hA
    refine va_calli (va_runV (As := [.int 0]) (rest := []) ⟨hx, hb, hml, hown, hts⟩ (r_readOne0 l D ρ ws_849 ty_850 adK adV fo f9 rd krd tp ktp cd bb tl (nxF f9 tl b_81) (T_83 ++ eA ta_82) nk fr fk fp vl_84 (2 :: jA ta_82) H.size htl hng (⟨kc_499, cc_500, tc_501, fc_502, kb_503, cb_504, tb_505, fb_506, hq_861, hT_508, e_854, e_860, wr_511, wt_512, e_855, u_857, wc_515, hc_516, e_856, u_858, wb_519, hb_520⟩ : RSX ρ ws_849 ty_850 f9 rd krd tp ktp cd bb tl (nxF f9 tl b_81) (T_83 ++ eA ta_82) nk fr fk fp vl_84) (hdq.trans hdp) (by omega)) (cwV 1 hts gX4_readEither_X4_readOne rfl rfl rfl (by decide +kernel) ⟨Nat.le_of_ble_eq_true rfl, Nat.le_of_ble_eq_true rfl⟩) ⟨fun a U g mk q => by obtain ⟨q0, q1, qP, qK, qD, qS⟩ := q; exact ⟨q0, q1, qP, va_K.moved (u := U) (U := U.calling g mk a) (Vm.Alike.refl U.vm) qK, qD, SZ.same rfl rfl qS⟩, va_recv hK hP (ci := 4) (q0 := krd) rfl e_854, fun U hU hW => ⟨rfl, by rw [hU], by rw [hU]; exact hP, va_K.moved hW.alike hK, hD.weaken (fun _ _ _ _ => trivial), hsz9.go hS hW hU hFc⟩⟩ rfl rfl hl.1 rfl (lv_room (Nat.le_of_ble_eq_true rfl)) dX4_readEither_80 ⟨Nat.le_of_ble_eq_true rfl, Nat.le_of_ble_eq_true rfl⟩) hS (fun q _ h => hFc q h) hFc (fun r_863 u t H1 locs ht hvm w_864 hB hz1 hk1 hS => ?_)
    subst w_864
    obtain ⟨ws_865, ty_866, hm_867, ht_869, hP1, hK1, hD1, hx_868⟩ := hB
    rw [ht] at hP1
    have hK := va_K.moved hvm.symm hK1
    have hD := hD1.weaken (fun _ _ _ h => hFc _ h)
    generalize H1 = H at hP1 hS ⊢
    have hP := hP1
    obtain ⟨g_871, e_870, h_872⟩ := hm_867.obj e_854
    obtain ⟨z_873, z_874, z_875, z_876, z_877, z_878, rfl⟩ := smX4 h_872
    obtain ⟨g_880, e_879, h_881⟩ := hm_867.obj e_860
    obtain ⟨z_882, z_883, z_884, z_885, rfl⟩ := smX6 h_881
    obtain ⟨f_887, e_886⟩ := hm_867.arrI e_855
    have u_888 := ht_869 _ _ u_857
    have e_889 := hm_867.keep (by rw [wb_519]; omega) e_856
    have u_890 := ht_869 _ _ u_858
    have hsm := hsm.tr (hm_867.mono (by decide))
    have hlp_58 := hlp_58.tr (hm_867.mono (by decide))
    have htx := htx.tr ht_869
    rcases hx_868 with ⟨rfl, k_891, p_892, ts_893, T_894, vl_895, hk_896, hk_897, hr_898, hR_899⟩ | ⟨rfl, b_900, T_894, vl_895, hr_898, hg_904, hg_905, hR_899⟩
    · obtain ⟨kc_906, cc_907, tc_908, fc_909, kb_910, cb_911, tb_912, fb_913, hp_914, hT_915, er_916, et_917, wr_918, wt_919, ec_920, uc_921, wc_922, hc_923, eb_924, ub_925, wb_926, hb_927⟩ := id hR_899
      have hp_9141 := hp_914.1
      have hp_914t := teF_le (f := f9) hp_914.1
      refine lv_istore_n (lv' := [(2, .int 0), (3, .int 1), (5, .int 1), (4, .int (nI i_52)), (1, .int 0), (0, .ref rd)]) hx hb dX4_readEither_83 rfl hl (by decide) rfl (fun ls hl => ?_)
      refine lv_iload hx hb dX4_readEither_84 (lv_at hl 2 rfl) ?_
      refine lv_if_eq (tgt := 95) hx hb dX4_readEither_86 (by decide) (fun c_928 => absurd c_928 (by decide)) (fun c_928 => ?_)
      refine lv_aload_n hx hb dX4_readEither_89 rfl (lv_at hl 5 rfl) ?_
      refine lv_bipush (v := (-2)) hx hb dX4_readEither_90 (by decide) ?_
      have hFc := free_all hD hS hA
      refine va_callv (va_runV (As := [.int (-2)]) (rest := []) ⟨hx, hb, hml, hown, hts⟩ (r_addCode l D ρ ws_865 ty_866 adK adV fo f9 rd krd tp ktp cd bb tl ts_893 T_894 nk fr (nI k_891) (nI p_892) vl_895 (2, 0, 0, 0) (-2) H.size htl hng (⟨kc_906, cc_907, tc_908, fc_909, kb_910, cb_911, tb_912, fb_913, hp_914, hT_915, er_916, et_917, wr_918, wt_919, ec_920, uc_921, wc_922, hc_923, eb_924, ub_925, wb_926, hb_927⟩ : RSX ρ ws_865 ty_866 f9 rd krd tp ktp cd bb tl ts_893 T_894 nk fr (nI k_891) (nI p_892) vl_895) rfl) (cwV 1 hts gX4_readEither_X4_addCode rfl rfl rfl (by decide +kernel) ⟨Nat.le_of_ble_eq_true rfl, Nat.le_of_ble_eq_true rfl⟩) ⟨fun a U g mk q => by obtain ⟨q0, q1, qP, qK, qD, qS⟩ := q; exact ⟨q0, q1, qP, va_K.moved (u := U) (U := U.calling g mk a) (Vm.Alike.refl U.vm) qK, qD, SZ.same rfl rfl qS⟩, va_recv hK hP (ci := 4) (q0 := krd) rfl er_916, fun U hU hW => ⟨rfl, by rw [hU], by rw [hU]; exact hP, va_K.moved hW.alike hK, hD.weaken (fun _ _ _ _ => trivial), hsz9.go hS hW hU hFc⟩⟩ rfl rfl hl.1 rfl (lv_room (Nat.le_of_ble_eq_true rfl)) dX4_readEither_92 ⟨Nat.le_of_ble_eq_true rfl, Nat.le_of_ble_eq_true rfl⟩) hS (fun q _ h => hFc q h) hFc (fun u t H1 locs ht hvm w_930 hB hz1 hk1 hS => ?_)
      obtain ⟨ws_931, ty_932, hm_933, ht_935, hP1, hK1, hD1, hx_934⟩ := hB
      rw [ht] at hP1
      have hK := va_K.moved hvm.symm hK1
      have hD := hD1.weaken (fun _ _ _ h => hFc _ h)
      generalize H1 = H at hP1 hS ⊢
      have hP := hP1
      obtain ⟨g_937, e_936, h_938⟩ := hm_933.obj er_916
      obtain ⟨z_939, z_940, z_941, z_942, z_943, z_944, rfl⟩ := smX4 h_938
      obtain ⟨g_946, e_945, h_947⟩ := hm_933.obj et_917
      obtain ⟨z_948, z_949, z_950, z_951, rfl⟩ := smX6 h_947
      obtain ⟨f_953, e_952⟩ := hm_933.arrI ec_920
      have u_954 := ht_935 _ _ uc_921
      have e_955 := hm_933.keep (by rw [wb_926]; omega) eb_924
      have u_956 := ht_935 _ _ ub_925
      have hsm := hsm.tr (hm_933.mono (by decide))
      have hlp_58 := hlp_58.tr (hm_933.mono (by decide))
      have htx := htx.tr ht_935
      rcases hx_934 with ⟨hl_957, hR_958⟩ | ⟨hl_957, hR_958⟩
      · obtain ⟨kc_959, cc_960, tc_961, fc_962, kb_963, cb_964, tb_965, fb_966, hp_967, hT_968, er_969, et_970, wr_971, wt_972, ec_973, uc_974, wc_975, hc_976, eb_977, ub_978, wb_979, hb_980⟩ := id hR_958
        have hp_9671 := hp_967.1
        have hp_967t := teF_le (f := f9) hp_967.1
        refine lv_iinc (v := nI (i_52 + 1)) (lv' := [(4, .int (nI (i_52 + 1))), (2, .int 0), (3, .int 1), (5, .int 1), (1, .int 0), (0, .ref rd)]) hx hb dX4_readEither_95 hl (k := 3) rfl (nI_add i_52 1) (by decide) rfl (fun ls hl => ?_)
        refine lv_goto (tgt := 11) hx hb dX4_readEither_98 (by decide) ?_
        exact ih_51 (i_52 + 1, 0, 1) ws_931 _ _ ls (by show 400 - (i_52 + 1) < 400 - i_52; omega) ⟨hlp_58, ⟨ty_932, hK, htx, Or.inr ⟨rfl, Or.inr rfl, (⟨k_891, p_892, _, _, _, by omega, by omega, hm9.tr hr_898, (⟨kc_959, cc_960, tc_961, fc_962, kb_963, cb_964, tb_965, fb_966, hp_967, hT_968, er_969, et_970, wr_971, wt_972, ec_973, uc_974, wc_975, hc_976, eb_977, ub_978, wb_979, hb_980⟩ : RSX ρ ws_931 ty_932 f9 rd krd tp ktp cd bb tl ts_893 (T_894 ++ [(2, 0, 0, 0)]) nk fr (nI k_891) (nI p_892) vl_895)⟩ : FLT ρ ws_931 ty_932 f9 rd krd tp ktp cd bb tl (0, ts, σ, T) nk fr)⟩⟩, (show (i_52 + 1) ≤ 400 from by omega)⟩ hP hD hS (lv_sub hl [0, 1, 2, 4, 5] rfl)
      obtain ⟨kc_981, cc_982, tc_983, fc_984, kb_985, cb_986, tb_987, fb_988, hp_989, hT_990, er_991, et_992, wr_993, wt_994, ec_995, uc_996, wc_997, hc_998, eb_999, ub_1000, wb_1001, hb_1002⟩ := id hR_958
      have hp_9891 := hp_989.1
      have hp_989t := teF_le (f := f9) hp_989.1
      refine lv_iinc (v := nI (i_52 + 1)) (lv' := [(4, .int (nI (i_52 + 1))), (2, .int 0), (3, .int 1), (5, .int 1), (1, .int 0), (0, .ref rd)]) hx hb dX4_readEither_95 hl (k := 3) rfl (nI_add i_52 1) (by decide) rfl (fun ls hl => ?_)
      refine lv_goto (tgt := 11) hx hb dX4_readEither_98 (by decide) ?_
      exact ih_51 (i_52 + 1, 0, 1) ws_931 _ _ ls (by show 400 - (i_52 + 1) < 400 - i_52; omega) ⟨hlp_58, ⟨ty_932, hK, htx, Or.inr ⟨rfl, Or.inr rfl, (⟨k_891, p_892, _, _, _, by omega, by omega, hm9.tr hr_898, (⟨kc_981, cc_982, tc_983, fc_984, kb_985, cb_986, tb_987, fb_988, hp_989, hT_990, er_991, et_992, wr_993, wt_994, ec_995, uc_996, wc_997, hc_998, eb_999, ub_1000, wb_1001, hb_1002⟩ : RSX ρ ws_931 ty_932 f9 rd krd tp ktp cd bb tl ts_893 T_894 nk fr (nI k_891) (nI p_892) vl_895)⟩ : FLT ρ ws_931 ty_932 f9 rd krd tp ktp cd bb tl (0, ts, σ, T) nk fr)⟩⟩, (show (i_52 + 1) ≤ 400 from by omega)⟩ hP hD hS (lv_sub hl [0, 1, 2, 4, 5] rfl)
    obtain ⟨kc_1003, cc_1004, tc_1005, fc_1006, kb_1007, cb_1008, tb_1009, fb_1010, hp_1011, hT_1012, er_1013, et_1014, wr_1015, wt_1016, ec_1017, uc_1018, wc_1019, hc_1020, eb_1021, ub_1022, wb_1023, hb_1024⟩ := id hR_899
    have hp_10111 := hp_1011.1
    have hp_1011t := teF_le (f := f9) hp_1011.1
    refine lv_istore_n (lv' := [(2, .int 1), (3, .int 1), (5, .int 1), (4, .int (nI i_52)), (1, .int 0), (0, .ref rd)]) hx hb dX4_readEither_83 rfl hl (by decide) rfl (fun ls hl => ?_)
    refine lv_iload hx hb dX4_readEither_84 (lv_at hl 2 rfl) ?_
    refine lv_if_eq (tgt := 95) hx hb dX4_readEither_86 (by decide) (fun c_1025 => absurd c_1025 (by decide)) (fun c_1025 => ?_)
    refine lv_aload_n hx hb dX4_readEither_89 rfl (lv_at hl 5 rfl) ?_
    refine lv_bipush (v := (-2)) hx hb dX4_readEither_90 (by decide) ?_
    have hFc := free_all hD hS hA
    refine va_callv (va_runV (As := [.int (-2)]) (rest := []) ⟨hx, hb, hml, hown, hts⟩ (r_addCode l D ρ ws_865 ty_866 adK adV fo f9 rd krd tp ktp cd bb tl b_900 T_894 nk fr fk fp vl_895 (2, 0, 0, 0) (-2) H.size htl hng (⟨kc_1003, cc_1004, tc_1005, fc_1006, kb_1007, cb_1008, tb_1009, fb_1010, hp_1011, hT_1012, er_1013, et_1014, wr_1015, wt_1016, ec_1017, uc_1018, wc_1019, hc_1020, eb_1021, ub_1022, wb_1023, hb_1024⟩ : RSX ρ ws_865 ty_866 f9 rd krd tp ktp cd bb tl b_900 T_894 nk fr fk fp vl_895) rfl) (cwV 1 hts gX4_readEither_X4_addCode rfl rfl rfl (by decide +kernel) ⟨Nat.le_of_ble_eq_true rfl, Nat.le_of_ble_eq_true rfl⟩) ⟨fun a U g mk q => by obtain ⟨q0, q1, qP, qK, qD, qS⟩ := q; exact ⟨q0, q1, qP, va_K.moved (u := U) (U := U.calling g mk a) (Vm.Alike.refl U.vm) qK, qD, SZ.same rfl rfl qS⟩, va_recv hK hP (ci := 4) (q0 := krd) rfl er_1013, fun U hU hW => ⟨rfl, by rw [hU], by rw [hU]; exact hP, va_K.moved hW.alike hK, hD.weaken (fun _ _ _ _ => trivial), hsz9.go hS hW hU hFc⟩⟩ rfl rfl hl.1 rfl (lv_room (Nat.le_of_ble_eq_true rfl)) dX4_readEither_92 ⟨Nat.le_of_ble_eq_true rfl, Nat.le_of_ble_eq_true rfl⟩) hS (fun q _ h => hFc q h) hFc (fun u t H1 locs ht hvm w_1027 hB hz1 hk1 hS => ?_)
    obtain ⟨ws_1028, ty_1029, hm_1030, ht_1032, hP1, hK1, hD1, hx_1031⟩ := hB
    rw [ht] at hP1
    have hK := va_K.moved hvm.symm hK1
    have hD := hD1.weaken (fun _ _ _ h => hFc _ h)
    generalize H1 = H at hP1 hS ⊢
    have hP := hP1
    obtain ⟨g_1034, e_1033, h_1035⟩ := hm_1030.obj er_1013
    obtain ⟨z_1036, z_1037, z_1038, z_1039, z_1040, z_1041, rfl⟩ := smX4 h_1035
    obtain ⟨g_1043, e_1042, h_1044⟩ := hm_1030.obj et_1014
    obtain ⟨z_1045, z_1046, z_1047, z_1048, rfl⟩ := smX6 h_1044
    obtain ⟨f_1050, e_1049⟩ := hm_1030.arrI ec_1017
    have u_1051 := ht_1032 _ _ uc_1018
    have e_1052 := hm_1030.keep (by rw [wb_1023]; omega) eb_1021
    have u_1053 := ht_1032 _ _ ub_1022
    have hsm := hsm.tr (hm_1030.mono (by decide))
    have hlp_58 := hlp_58.tr (hm_1030.mono (by decide))
    have htx := htx.tr ht_1032
    obtain ⟨hl_1054, hR_1055⟩ := hx_1031.resolve_right (fun h9 => h9.1 (by omega))
    obtain ⟨kc_1056, cc_1057, tc_1058, fc_1059, kb_1060, cb_1061, tb_1062, fb_1063, hp_1064, hT_1065, er_1066, et_1067, wr_1068, wt_1069, ec_1070, uc_1071, wc_1072, hc_1073, eb_1074, ub_1075, wb_1076, hb_1077⟩ := id hR_1055
    have hp_10641 := hp_1064.1
    have hp_1064t := teF_le (f := f9) hp_1064.1
    refine lv_iinc (v := nI (i_52 + 1)) (lv' := [(4, .int (nI (i_52 + 1))), (2, .int 1), (3, .int 1), (5, .int 1), (1, .int 0), (0, .ref rd)]) hx hb dX4_readEither_95 hl (k := 3) rfl (nI_add i_52 1) (by decide) rfl (fun ls hl => ?_)
    refine lv_goto (tgt := 11) hx hb dX4_readEither_98 (by decide) ?_
    exact ih_51 (i_52 + 1, 1, 1) ws_1028 _ _ ls (by show 400 - (i_52 + 1) < 400 - i_52; omega) ⟨hlp_58, ⟨ty_1029, hK, htx, Or.inl ⟨rfl, Or.inr rfl, (⟨b_900, 2 :: jA ta_82, T_894, _, hm9.tr (rch_an (by omega) hr_898), ow_and hbs ow_86, by omega, fun _ => by rw [eA_2jA, len_a1]; omega, fun h9 => absurd h9 (by decide), by rw [eA_2jA]; exact (⟨kc_1056, cc_1057, tc_1058, fc_1059, kb_1060, cb_1061, tb_1062, fb_1063, hp_1064, hT_1065, er_1066, et_1067, wr_1068, wt_1069, ec_1070, uc_1071, wc_1072, hc_1073, eb_1074, ub_1075, wb_1076, hb_1077⟩ : RSX ρ ws_1028 ty_1029 f9 rd krd tp ktp cd bb tl b_900 (T_894 ++ [(2, 0, 0, 0)]) nk fr fk fp vl_895)⟩ : LPE ρ ws_1028 ty_1029 f9 rd krd tp ktp cd bb tl ts σ T nk fr fk fp (i_52 + 1) 1)⟩⟩, (show (i_52 + 1) ≤ 400 from by omega)⟩ hP hD hS (lv_sub hl [0, 1, 2, 4, 5] rfl)
  · obtain ⟨kc_1078, cc_1079, tc_1080, fc_1081, kb_1082, cb_1083, tb_1084, fb_1085, hp_1086, hT_1087, er_1088, et_1089, wr_1090, wt_1091, ec_1092, uc_1093, wc_1094, hc_1095, eb_1096, ub_1097, wb_1098, hb_1099⟩ := id hR_90
    have hp_10861 := hp_1086.1
    have hp_1086t := teF_le (f := f9) hp_1086.1
    refine lv_sipush (v := 400) hx hb dX4_readEither_13 (by decide) ?_
    refine lv_icmp_ge (tgt := 101) hx hb dX4_readEither_16 (by decide) (fun c_1100 => ?_) (fun c_1100 => ?_)
    · have d_1101 := n_le (a := 400) (b := i_52) (by omega) (by omega) c_1100
      refine lv_iload_n hx hb dX4_readEither_101 rfl (lv_at hl 2 rfl) ?_
      refine lv_if_eq (tgt := 111) hx hb dX4_readEither_102 (by decide) (fun c_1102 => ?_) (fun c_1102 => absurd (by decide) c_1102)
      refine lv_iload_n hx hb dX4_readEither_111 rfl (lv_at hl 1 rfl) ?_
      exact W.zret (v := 0) hx hb hr rfl (fun t ht hW => ⟨⟨0, 0, rfl, rfl, ws_56, ty_79, hsm, htx, by rw [ht]; exact hP, va_K.moved hW.alike hK, hD, Or.inl ⟨rfl, k_91, p_92, _, _, _, by omega, by omega, hr_85, (⟨kc_1078, cc_1079, tc_1080, fc_1081, kb_1082, cb_1083, tb_1084, fb_1085, hp_1086, hT_1087, er_1088, et_1089, wr_1090, wt_1091, ec_1092, uc_1093, wc_1094, hc_1095, eb_1096, ub_1097, wb_1098, hb_1099⟩ : RSX ρ ws_56 ty_79 f9 rd krd tp ktp cd bb tl ts_93 T_83 nk fr (nI k_91) (nI p_92) vl_84)⟩⟩, hS.F ht⟩) hS.2.2 dX4_readEither_112
    have d_1103 := n_nle (a := 400) (b := i_52) (by omega) (by omega) c_1100
    refine lv_iload_n hx hb dX4_readEither_19 rfl (lv_at hl 1 rfl) ?_
    refine lv_if_eq (tgt := 101) hx hb dX4_readEither_20 (by decide) (fun c_1104 => ?_) (fun c_1104 => absurd (by decide) c_1104)
    refine lv_iload_n hx hb dX4_readEither_101 rfl (lv_at hl 2 rfl) ?_
    refine lv_if_eq (tgt := 111) hx hb dX4_readEither_102 (by decide) (fun c_1105 => ?_) (fun c_1105 => absurd (by decide) c_1105)
    refine lv_iload_n hx hb dX4_readEither_111 rfl (lv_at hl 1 rfl) ?_
    exact W.zret (v := 0) hx hb hr rfl (fun t ht hW => ⟨⟨0, 0, rfl, rfl, ws_56, ty_79, hsm, htx, by rw [ht]; exact hP, va_K.moved hW.alike hK, hD, Or.inl ⟨rfl, k_91, p_92, _, _, _, by omega, by omega, hr_85, (⟨kc_1078, cc_1079, tc_1080, fc_1081, kb_1082, cb_1083, tb_1084, fb_1085, hp_1086, hT_1087, er_1088, et_1089, wr_1090, wt_1091, ec_1092, uc_1093, wc_1094, hc_1095, eb_1096, ub_1097, wb_1098, hb_1099⟩ : RSX ρ ws_56 ty_79 f9 rd krd tp ktp cd bb tl ts_93 T_83 nk fr (nI k_91) (nI p_92) vl_84)⟩⟩, hS.F ht⟩) hS.2.2 dX4_readEither_112
  obtain ⟨kc_1106, cc_1107, tc_1108, fc_1109, kb_1110, cb_1111, tb_1112, fb_1113, hp_1114, hT_1115, er_1116, et_1117, wr_1118, wt_1119, ec_1120, uc_1121, wc_1122, hc_1123, eb_1124, ub_1125, wb_1126, hb_1127⟩ := id hR_90
  have hp_11141 := hp_1114.1
  have hp_1114t := teF_le (f := f9) hp_1114.1
  refine lv_sipush (v := 400) hx hb dX4_readEither_13 (by decide) ?_
  refine lv_icmp_ge (tgt := 101) hx hb dX4_readEither_16 (by decide) (fun c_1128 => ?_) (fun c_1128 => ?_)
  · have d_1129 := n_le (a := 400) (b := i_52) (by omega) (by omega) c_1128
    refine lv_iload_n hx hb dX4_readEither_101 rfl (lv_at hl 2 rfl) ?_
    refine lv_if_eq (tgt := 111) hx hb dX4_readEither_102 (by decide) (fun c_1130 => absurd c_1130 (by decide)) (fun c_1130 => ?_)
    refine lv_aload_n hx hb dX4_readEither_105 rfl (lv_at hl 4 rfl) ?_
    refine lv_bipush (v := (-3)) hx hb dX4_readEither_106 (by decide) ?_
    have hFc := free_all hD hS hA
    refine va_callv (va_runV (As := [.int (-3)]) (rest := []) ⟨hx, hb, hml, hown, hts⟩ (r_addCode l D ρ ws_56 ty_79 adK adV fo f9 rd krd tp ktp cd bb tl ts_93 T_83 nk fr (nI k_91) (nI p_92) vl_84 (1, 0, 0, 0) (-3) H.size htl hng (⟨kc_1106, cc_1107, tc_1108, fc_1109, kb_1110, cb_1111, tb_1112, fb_1113, hp_1114, hT_1115, er_1116, et_1117, wr_1118, wt_1119, ec_1120, uc_1121, wc_1122, hc_1123, eb_1124, ub_1125, wb_1126, hb_1127⟩ : RSX ρ ws_56 ty_79 f9 rd krd tp ktp cd bb tl ts_93 T_83 nk fr (nI k_91) (nI p_92) vl_84) rfl) (cwV 1 hts gX4_readEither_X4_addCode rfl rfl rfl (by decide +kernel) ⟨Nat.le_of_ble_eq_true rfl, Nat.le_of_ble_eq_true rfl⟩) ⟨fun a U g mk q => by obtain ⟨q0, q1, qP, qK, qD, qS⟩ := q; exact ⟨q0, q1, qP, va_K.moved (u := U) (U := U.calling g mk a) (Vm.Alike.refl U.vm) qK, qD, SZ.same rfl rfl qS⟩, va_recv hK hP (ci := 4) (q0 := krd) rfl er_1116, fun U hU hW => ⟨rfl, by rw [hU], by rw [hU]; exact hP, va_K.moved hW.alike hK, hD.weaken (fun _ _ _ _ => trivial), hsz9.go hS hW hU hFc⟩⟩ rfl rfl hl.1 rfl (lv_room (Nat.le_of_ble_eq_true rfl)) dX4_readEither_108 ⟨Nat.le_of_ble_eq_true rfl, Nat.le_of_ble_eq_true rfl⟩) hS (fun q _ h => hFc q h) hFc (fun u t H1 locs ht hvm w_1132 hB hz1 hk1 hS => ?_)
    obtain ⟨ws_1133, ty_1134, hm_1135, ht_1137, hP1, hK1, hD1, hx_1136⟩ := hB
    rw [ht] at hP1
    have hK := va_K.moved hvm.symm hK1
    have hD := hD1.weaken (fun _ _ _ h => hFc _ h)
    generalize H1 = H at hP1 hS ⊢
    have hP := hP1
    obtain ⟨g_1139, e_1138, h_1140⟩ := hm_1135.obj er_1116
    obtain ⟨z_1141, z_1142, z_1143, z_1144, z_1145, z_1146, rfl⟩ := smX4 h_1140
    obtain ⟨g_1148, e_1147, h_1149⟩ := hm_1135.obj et_1117
    obtain ⟨z_1150, z_1151, z_1152, z_1153, rfl⟩ := smX6 h_1149
    obtain ⟨f_1155, e_1154⟩ := hm_1135.arrI ec_1120
    have u_1156 := ht_1137 _ _ uc_1121
    have e_1157 := hm_1135.keep (by rw [wb_1126]; omega) eb_1124
    have u_1158 := ht_1137 _ _ ub_1125
    have hsm := hsm.tr (hm_1135.mono (by decide))
    have hlp_58 := hlp_58.tr (hm_1135.mono (by decide))
    have htx := htx.tr ht_1137
    rcases hx_1136 with ⟨hl_1159, hR_1160⟩ | ⟨hl_1159, hR_1160⟩
    · obtain ⟨kc_1161, cc_1162, tc_1163, fc_1164, kb_1165, cb_1166, tb_1167, fb_1168, hp_1169, hT_1170, er_1171, et_1172, wr_1173, wt_1174, ec_1175, uc_1176, wc_1177, hc_1178, eb_1179, ub_1180, wb_1181, hb_1182⟩ := id hR_1160
      have hp_11691 := hp_1169.1
      have hp_1169t := teF_le (f := f9) hp_1169.1
      refine lv_iload_n hx hb dX4_readEither_111 rfl (lv_at hl 1 rfl) ?_
      exact W.zret (v := 0) hx hb hr rfl (fun t ht hW => ⟨⟨0, 0, rfl, rfl, ws_1133, ty_1134, hsm, htx, by rw [ht]; exact hP, va_K.moved hW.alike hK, hD, Or.inl ⟨rfl, k_91, p_92, _, _, _, by omega, by omega, hr_85, (⟨kc_1161, cc_1162, tc_1163, fc_1164, kb_1165, cb_1166, tb_1167, fb_1168, hp_1169, hT_1170, er_1171, et_1172, wr_1173, wt_1174, ec_1175, uc_1176, wc_1177, hc_1178, eb_1179, ub_1180, wb_1181, hb_1182⟩ : RSX ρ ws_1133 ty_1134 f9 rd krd tp ktp cd bb tl ts_93 (T_83 ++ [(1, 0, 0, 0)]) nk fr (nI k_91) (nI p_92) vl_84)⟩⟩, hS.F ht⟩) hS.2.2 dX4_readEither_112
    obtain ⟨kc_1183, cc_1184, tc_1185, fc_1186, kb_1187, cb_1188, tb_1189, fb_1190, hp_1191, hT_1192, er_1193, et_1194, wr_1195, wt_1196, ec_1197, uc_1198, wc_1199, hc_1200, eb_1201, ub_1202, wb_1203, hb_1204⟩ := id hR_1160
    have hp_11911 := hp_1191.1
    have hp_1191t := teF_le (f := f9) hp_1191.1
    refine lv_iload_n hx hb dX4_readEither_111 rfl (lv_at hl 1 rfl) ?_
    exact W.zret (v := 0) hx hb hr rfl (fun t ht hW => ⟨⟨0, 0, rfl, rfl, ws_1133, ty_1134, hsm, htx, by rw [ht]; exact hP, va_K.moved hW.alike hK, hD, Or.inl ⟨rfl, k_91, p_92, _, _, _, by omega, by omega, hr_85, (⟨kc_1183, cc_1184, tc_1185, fc_1186, kb_1187, cb_1188, tb_1189, fb_1190, hp_1191, hT_1192, er_1193, et_1194, wr_1195, wt_1196, ec_1197, uc_1198, wc_1199, hc_1200, eb_1201, ub_1202, wb_1203, hb_1204⟩ : RSX ρ ws_1133 ty_1134 f9 rd krd tp ktp cd bb tl ts_93 T_83 nk fr (nI k_91) (nI p_92) vl_84)⟩⟩, hS.F ht⟩) hS.2.2 dX4_readEither_112
  have d_1205 := n_nle (a := 400) (b := i_52) (by omega) (by omega) c_1128
  refine lv_iload_n hx hb dX4_readEither_19 rfl (lv_at hl 1 rfl) ?_
  refine lv_if_eq (tgt := 101) hx hb dX4_readEither_20 (by decide) (fun c_1206 => ?_) (fun c_1206 => absurd (by decide) c_1206)
  refine lv_iload_n hx hb dX4_readEither_101 rfl (lv_at hl 2 rfl) ?_
  refine lv_if_eq (tgt := 111) hx hb dX4_readEither_102 (by decide) (fun c_1207 => absurd c_1207 (by decide)) (fun c_1207 => ?_)
  refine lv_aload_n hx hb dX4_readEither_105 rfl (lv_at hl 4 rfl) ?_
  refine lv_bipush (v := (-3)) hx hb dX4_readEither_106 (by decide) ?_
  have hFc := free_all hD hS hA
  refine va_callv (va_runV (As := [.int (-3)]) (rest := []) ⟨hx, hb, hml, hown, hts⟩ (r_addCode l D ρ ws_56 ty_79 adK adV fo f9 rd krd tp ktp cd bb tl ts_93 T_83 nk fr (nI k_91) (nI p_92) vl_84 (1, 0, 0, 0) (-3) H.size htl hng (⟨kc_1106, cc_1107, tc_1108, fc_1109, kb_1110, cb_1111, tb_1112, fb_1113, hp_1114, hT_1115, er_1116, et_1117, wr_1118, wt_1119, ec_1120, uc_1121, wc_1122, hc_1123, eb_1124, ub_1125, wb_1126, hb_1127⟩ : RSX ρ ws_56 ty_79 f9 rd krd tp ktp cd bb tl ts_93 T_83 nk fr (nI k_91) (nI p_92) vl_84) rfl) (cwV 1 hts gX4_readEither_X4_addCode rfl rfl rfl (by decide +kernel) ⟨Nat.le_of_ble_eq_true rfl, Nat.le_of_ble_eq_true rfl⟩) ⟨fun a U g mk q => by obtain ⟨q0, q1, qP, qK, qD, qS⟩ := q; exact ⟨q0, q1, qP, va_K.moved (u := U) (U := U.calling g mk a) (Vm.Alike.refl U.vm) qK, qD, SZ.same rfl rfl qS⟩, va_recv hK hP (ci := 4) (q0 := krd) rfl er_1116, fun U hU hW => ⟨rfl, by rw [hU], by rw [hU]; exact hP, va_K.moved hW.alike hK, hD.weaken (fun _ _ _ _ => trivial), hsz9.go hS hW hU hFc⟩⟩ rfl rfl hl.1 rfl (lv_room (Nat.le_of_ble_eq_true rfl)) dX4_readEither_108 ⟨Nat.le_of_ble_eq_true rfl, Nat.le_of_ble_eq_true rfl⟩) hS (fun q _ h => hFc q h) hFc (fun u t H1 locs ht hvm w_1209 hB hz1 hk1 hS => ?_)
  obtain ⟨ws_1210, ty_1211, hm_1212, ht_1214, hP1, hK1, hD1, hx_1213⟩ := hB
  rw [ht] at hP1
  have hK := va_K.moved hvm.symm hK1
  have hD := hD1.weaken (fun _ _ _ h => hFc _ h)
  generalize H1 = H at hP1 hS ⊢
  have hP := hP1
  obtain ⟨g_1216, e_1215, h_1217⟩ := hm_1212.obj er_1116
  obtain ⟨z_1218, z_1219, z_1220, z_1221, z_1222, z_1223, rfl⟩ := smX4 h_1217
  obtain ⟨g_1225, e_1224, h_1226⟩ := hm_1212.obj et_1117
  obtain ⟨z_1227, z_1228, z_1229, z_1230, rfl⟩ := smX6 h_1226
  obtain ⟨f_1232, e_1231⟩ := hm_1212.arrI ec_1120
  have u_1233 := ht_1214 _ _ uc_1121
  have e_1234 := hm_1212.keep (by rw [wb_1126]; omega) eb_1124
  have u_1235 := ht_1214 _ _ ub_1125
  have hsm := hsm.tr (hm_1212.mono (by decide))
  have hlp_58 := hlp_58.tr (hm_1212.mono (by decide))
  have htx := htx.tr ht_1214
  rcases hx_1213 with ⟨hl_1236, hR_1237⟩ | ⟨hl_1236, hR_1237⟩
  · obtain ⟨kc_1238, cc_1239, tc_1240, fc_1241, kb_1242, cb_1243, tb_1244, fb_1245, hp_1246, hT_1247, er_1248, et_1249, wr_1250, wt_1251, ec_1252, uc_1253, wc_1254, hc_1255, eb_1256, ub_1257, wb_1258, hb_1259⟩ := id hR_1237
    have hp_12461 := hp_1246.1
    have hp_1246t := teF_le (f := f9) hp_1246.1
    refine lv_iload_n hx hb dX4_readEither_111 rfl (lv_at hl 1 rfl) ?_
    exact W.zret (v := 0) hx hb hr rfl (fun t ht hW => ⟨⟨0, 0, rfl, rfl, ws_1210, ty_1211, hsm, htx, by rw [ht]; exact hP, va_K.moved hW.alike hK, hD, Or.inl ⟨rfl, k_91, p_92, _, _, _, by omega, by omega, hr_85, (⟨kc_1238, cc_1239, tc_1240, fc_1241, kb_1242, cb_1243, tb_1244, fb_1245, hp_1246, hT_1247, er_1248, et_1249, wr_1250, wt_1251, ec_1252, uc_1253, wc_1254, hc_1255, eb_1256, ub_1257, wb_1258, hb_1259⟩ : RSX ρ ws_1210 ty_1211 f9 rd krd tp ktp cd bb tl ts_93 (T_83 ++ [(1, 0, 0, 0)]) nk fr (nI k_91) (nI p_92) vl_84)⟩⟩, hS.F ht⟩) hS.2.2 dX4_readEither_112
  obtain ⟨kc_1260, cc_1261, tc_1262, fc_1263, kb_1264, cb_1265, tb_1266, fb_1267, hp_1268, hT_1269, er_1270, et_1271, wr_1272, wt_1273, ec_1274, uc_1275, wc_1276, hc_1277, eb_1278, ub_1279, wb_1280, hb_1281⟩ := id hR_1237
  have hp_12681 := hp_1268.1
  have hp_1268t := teF_le (f := f9) hp_1268.1
  refine lv_iload_n hx hb dX4_readEither_111 rfl (lv_at hl 1 rfl) ?_
  exact W.zret (v := 0) hx hb hr rfl (fun t ht hW => ⟨⟨0, 0, rfl, rfl, ws_1210, ty_1211, hsm, htx, by rw [ht]; exact hP, va_K.moved hW.alike hK, hD, Or.inl ⟨rfl, k_91, p_92, _, _, _, by omega, by omega, hr_85, (⟨kc_1260, cc_1261, tc_1262, fc_1263, kb_1264, cb_1265, tb_1266, fb_1267, hp_1268, hT_1269, er_1270, et_1271, wr_1272, wt_1273, ec_1274, uc_1275, wc_1276, hc_1277, eb_1278, ub_1279, wb_1280, hb_1281⟩ : RSX ρ ws_1210 ty_1211 f9 rd krd tp ktp cd bb tl ts_93 T_83 nk fr (nI k_91) (nI p_92) vl_84)⟩⟩, hS.F ht⟩) hS.2.2 dX4_readEither_112
