theorem dX4_readOne_0 : decode cX4_readOne 0 = .ok (.aload_n 0, 1) := by decide +kernel
theorem dX4_readOne_1 : decode cX4_readOne 1 = .ok (.getfield 12, 3) := by decide +kernel
theorem dX4_readOne_4 : decode cX4_readOne 4 = .ok (.ldc 104, 2) := by decide +kernel
theorem dX4_readOne_6 : decode cX4_readOne 6 = .ok (.invokevirtual 99, 3) := by decide +kernel
theorem dX4_readOne_9 : decode cX4_readOne 9 = .ok (.istore_n 2, 1) := by decide +kernel
theorem dX4_readOne_10 : decode cX4_readOne 10 = .ok (.iload_n 2, 1) := by decide +kernel
theorem dX4_readOne_11 : decode cX4_readOne 11 = .ok (.ifCond .ne 20, 3) := by decide +kernel
theorem dX4_readOne_14 : decode cX4_readOne 14 = .ok (.aload_n 0, 1) := by decide +kernel
theorem dX4_readOne_15 : decode cX4_readOne 15 = .ok (.getfield 12, 3) := by decide +kernel
theorem dX4_readOne_18 : decode cX4_readOne 18 = .ok (.bipush 40, 2) := by decide +kernel
theorem dX4_readOne_20 : decode cX4_readOne 20 = .ok (.invokevirtual 114, 3) := by decide +kernel
theorem dX4_readOne_23 : decode cX4_readOne 23 = .ok (.ifCond .ne 8, 3) := by decide +kernel
theorem dX4_readOne_26 : decode cX4_readOne 26 = .ok (.aload_n 0, 1) := by decide +kernel
theorem dX4_readOne_27 : decode cX4_readOne 27 = .ok (.invokevirtual 130, 3) := by decide +kernel
theorem dX4_readOne_30 : decode cX4_readOne 30 = .ok (.ireturn, 1) := by decide +kernel
theorem dX4_readOne_31 : decode cX4_readOne 31 = .ok (.iload_n 1, 1) := by decide +kernel
theorem dX4_readOne_32 : decode cX4_readOne 32 = .ok (.bipush 6, 2) := by decide +kernel
theorem dX4_readOne_34 : decode cX4_readOne 34 = .ok (.if_icmp .lt 16, 3) := by decide +kernel
theorem dX4_readOne_37 : decode cX4_readOne 37 = .ok (.aload_n 0, 1) := by decide +kernel
theorem dX4_readOne_38 : decode cX4_readOne 38 = .ok (.iconst 3, 1) := by decide +kernel
theorem dX4_readOne_39 : decode cX4_readOne 39 = .ok (.aload_n 0, 1) := by decide +kernel
theorem dX4_readOne_40 : decode cX4_readOne 40 = .ok (.getfield 12, 3) := by decide +kernel
theorem dX4_readOne_43 : decode cX4_readOne 43 = .ok (.getfield 73, 3) := by decide +kernel
theorem dX4_readOne_46 : decode cX4_readOne 46 = .ok (.invokevirtual 76, 3) := by decide +kernel
theorem dX4_readOne_49 : decode cX4_readOne 49 = .ok (.ireturn, 1) := by decide +kernel
theorem dX4_readOne_50 : decode cX4_readOne 50 = .ok (.aload_n 0, 1) := by decide +kernel
theorem dX4_readOne_51 : decode cX4_readOne 51 = .ok (.getfield 12, 3) := by decide +kernel
theorem dX4_readOne_54 : decode cX4_readOne 54 = .ok (.invokevirtual 94, 3) := by decide +kernel
theorem dX4_readOne_57 : decode cX4_readOne 57 = .ok (.iload_n 2, 1) := by decide +kernel
theorem dX4_readOne_58 : decode cX4_readOne 58 = .ok (.ifCond .ne 28, 3) := by decide +kernel
theorem dX4_readOne_61 : decode cX4_readOne 61 = .ok (.aload_n 0, 1) := by decide +kernel
theorem dX4_readOne_62 : decode cX4_readOne 62 = .ok (.iload_n 1, 1) := by decide +kernel
theorem dX4_readOne_63 : decode cX4_readOne 63 = .ok (.iconst 1, 1) := by decide +kernel
theorem dX4_readOne_64 : decode cX4_readOne 64 = .ok (.iadd, 1) := by decide +kernel
theorem dX4_readOne_65 : decode cX4_readOne 65 = .ok (.invokevirtual 43, 3) := by decide +kernel
theorem dX4_readOne_68 : decode cX4_readOne 68 = .ok (.ifCond .eq 16, 3) := by decide +kernel
theorem dX4_readOne_71 : decode cX4_readOne 71 = .ok (.aload_n 0, 1) := by decide +kernel
theorem dX4_readOne_72 : decode cX4_readOne 72 = .ok (.bipush 41, 2) := by decide +kernel
theorem dX4_readOne_74 : decode cX4_readOne 74 = .ok (.invokevirtual 39, 3) := by decide +kernel
theorem dX4_readOne_77 : decode cX4_readOne 77 = .ok (.ifCond .eq 7, 3) := by decide +kernel
theorem dX4_readOne_80 : decode cX4_readOne 80 = .ok (.iconst 1, 1) := by decide +kernel
theorem dX4_readOne_81 : decode cX4_readOne 81 = .ok (.goto 4, 3) := by decide +kernel
theorem dX4_readOne_84 : decode cX4_readOne 84 = .ok (.iconst 0, 1) := by decide +kernel
theorem dX4_readOne_85 : decode cX4_readOne 85 = .ok (.ireturn, 1) := by decide +kernel
theorem dX4_readOne_86 : decode cX4_readOne 86 = .ok (.aload_n 0, 1) := by decide +kernel
theorem dX4_readOne_87 : decode cX4_readOne 87 = .ok (.iload_n 1, 1) := by decide +kernel
theorem dX4_readOne_88 : decode cX4_readOne 88 = .ok (.iconst 1, 1) := by decide +kernel
theorem dX4_readOne_89 : decode cX4_readOne 89 = .ok (.iadd, 1) := by decide +kernel
theorem dX4_readOne_90 : decode cX4_readOne 90 = .ok (.invokevirtual 120, 3) := by decide +kernel
theorem dX4_readOne_93 : decode cX4_readOne 93 = .ok (.istore_n 3, 1) := by decide +kernel
theorem dX4_readOne_94 : decode cX4_readOne 94 = .ok (.aload_n 0, 1) := by decide +kernel
theorem dX4_readOne_95 : decode cX4_readOne 95 = .ok (.iconst (-1), 1) := by decide +kernel
theorem dX4_readOne_96 : decode cX4_readOne 96 = .ok (.invokevirtual 126, 3) := by decide +kernel
theorem dX4_readOne_99 : decode cX4_readOne 99 = .ok (.iload_n 3, 1) := by decide +kernel
theorem dX4_readOne_100 : decode cX4_readOne 100 = .ok (.ireturn, 1) := by decide +kernel
theorem dX4_readEither_0 : decode cX4_readEither 0 = .ok (.aload_n 0, 1) := by decide +kernel
theorem dX4_readEither_1 : decode cX4_readEither 1 = .ok (.iload_n 1, 1) := by decide +kernel
theorem dX4_readEither_2 : decode cX4_readEither 2 = .ok (.invokevirtual 120, 3) := by decide +kernel
theorem dX4_readEither_5 : decode cX4_readEither 5 = .ok (.istore_n 2, 1) := by decide +kernel
theorem dX4_readEither_6 : decode cX4_readEither 6 = .ok (.iconst 0, 1) := by decide +kernel
theorem dX4_readEither_7 : decode cX4_readEither 7 = .ok (.istore_n 3, 1) := by decide +kernel
theorem dX4_readEither_8 : decode cX4_readEither 8 = .ok (.iconst 0, 1) := by decide +kernel
theorem dX4_readEither_9 : decode cX4_readEither 9 = .ok (.istore 4, 2) := by decide +kernel
theorem dX4_readEither_11 : decode cX4_readEither 11 = .ok (.iload 4, 2) := by decide +kernel
theorem dX4_readEither_13 : decode cX4_readEither 13 = .ok (.sipush 400, 3) := by decide +kernel
theorem dX4_readEither_16 : decode cX4_readEither 16 = .ok (.if_icmp .ge 85, 3) := by decide +kernel
theorem dX4_readEither_19 : decode cX4_readEither 19 = .ok (.iload_n 2, 1) := by decide +kernel
theorem dX4_readEither_20 : decode cX4_readEither 20 = .ok (.ifCond .eq 81, 3) := by decide +kernel
theorem dX4_readEither_23 : decode cX4_readEither 23 = .ok (.aload_n 0, 1) := by decide +kernel
theorem dX4_readEither_24 : decode cX4_readEither 24 = .ok (.invokevirtual 123, 3) := by decide +kernel
theorem dX4_readEither_27 : decode cX4_readEither 27 = .ok (.ifCond .eq 74, 3) := by decide +kernel
theorem dX4_readEither_30 : decode cX4_readEither 30 = .ok (.aload_n 0, 1) := by decide +kernel
theorem dX4_readEither_31 : decode cX4_readEither 31 = .ok (.getfield 12, 3) := by decide +kernel
theorem dX4_readEither_34 : decode cX4_readEither 34 = .ok (.ldc 102, 2) := by decide +kernel
theorem dX4_readEither_36 : decode cX4_readEither 36 = .ok (.invokevirtual 99, 3) := by decide +kernel
theorem dX4_readEither_39 : decode cX4_readEither 39 = .ok (.istore 5, 2) := by decide +kernel
theorem dX4_readEither_41 : decode cX4_readEither 41 = .ok (.iload 5, 2) := by decide +kernel
theorem dX4_readEither_43 : decode cX4_readEither 43 = .ok (.ifCond .ne 13, 3) := by decide +kernel
theorem dX4_readEither_46 : decode cX4_readEither 46 = .ok (.iload_n 3, 1) := by decide +kernel
theorem dX4_readEither_47 : decode cX4_readEither 47 = .ok (.ifCond .eq 9, 3) := by decide +kernel
theorem dX4_readEither_50 : decode cX4_readEither 50 = .ok (.aload_n 0, 1) := by decide +kernel
theorem dX4_readEither_51 : decode cX4_readEither 51 = .ok (.bipush (-3), 2) := by decide +kernel
theorem dX4_readEither_53 : decode cX4_readEither 53 = .ok (.invokevirtual 126, 3) := by decide +kernel
theorem dX4_readEither_56 : decode cX4_readEither 56 = .ok (.iload_n 3, 1) := by decide +kernel
theorem dX4_readEither_57 : decode cX4_readEither 57 = .ok (.ifCond .ne 8, 3) := by decide +kernel
theorem dX4_readEither_60 : decode cX4_readEither 60 = .ok (.iload 5, 2) := by decide +kernel
theorem dX4_readEither_62 : decode cX4_readEither 62 = .ok (.ifCond .ne 7, 3) := by decide +kernel
theorem dX4_readEither_65 : decode cX4_readEither 65 = .ok (.iconst 1, 1) := by decide +kernel
theorem dX4_readEither_66 : decode cX4_readEither 66 = .ok (.goto 4, 3) := by decide +kernel
theorem dX4_readEither_69 : decode cX4_readEither 69 = .ok (.iconst 0, 1) := by decide +kernel
theorem dX4_readEither_70 : decode cX4_readEither 70 = .ok (.istore_n 3, 1) := by decide +kernel
theorem dX4_readEither_71 : decode cX4_readEither 71 = .ok (.aload_n 0, 1) := by decide +kernel
theorem dX4_readEither_72 : decode cX4_readEither 72 = .ok (.getfield 12, 3) := by decide +kernel
theorem dX4_readEither_75 : decode cX4_readEither 75 = .ok (.invokevirtual 94, 3) := by decide +kernel
theorem dX4_readEither_78 : decode cX4_readEither 78 = .ok (.aload_n 0, 1) := by decide +kernel
theorem dX4_readEither_79 : decode cX4_readEither 79 = .ok (.iload_n 1, 1) := by decide +kernel
theorem dX4_readEither_80 : decode cX4_readEither 80 = .ok (.invokevirtual 120, 3) := by decide +kernel
theorem dX4_readEither_83 : decode cX4_readEither 83 = .ok (.istore_n 2, 1) := by decide +kernel
theorem dX4_readEither_84 : decode cX4_readEither 84 = .ok (.iload 5, 2) := by decide +kernel
theorem dX4_readEither_86 : decode cX4_readEither 86 = .ok (.ifCond .eq 9, 3) := by decide +kernel
theorem dX4_readEither_89 : decode cX4_readEither 89 = .ok (.aload_n 0, 1) := by decide +kernel
theorem dX4_readEither_90 : decode cX4_readEither 90 = .ok (.bipush (-2), 2) := by decide +kernel
theorem dX4_readEither_92 : decode cX4_readEither 92 = .ok (.invokevirtual 126, 3) := by decide +kernel
theorem dX4_readEither_95 : decode cX4_readEither 95 = .ok (.iinc 4 1, 3) := by decide +kernel
theorem dX4_readEither_98 : decode cX4_readEither 98 = .ok (.goto (-87), 3) := by decide +kernel
theorem dX4_readEither_101 : decode cX4_readEither 101 = .ok (.iload_n 3, 1) := by decide +kernel
theorem dX4_readEither_102 : decode cX4_readEither 102 = .ok (.ifCond .eq 9, 3) := by decide +kernel
theorem dX4_readEither_105 : decode cX4_readEither 105 = .ok (.aload_n 0, 1) := by decide +kernel
theorem dX4_readEither_106 : decode cX4_readEither 106 = .ok (.bipush (-3), 2) := by decide +kernel
theorem dX4_readEither_108 : decode cX4_readEither 108 = .ok (.invokevirtual 126, 3) := by decide +kernel
theorem dX4_readEither_111 : decode cX4_readEither 111 = .ok (.iload_n 2, 1) := by decide +kernel
theorem dX4_readEither_112 : decode cX4_readEither 112 = .ok (.ireturn, 1) := by decide +kernel
set_option maxRecDepth 20000 in
theorem ggX4_readOne_X6_isWord : GoodIn wsX4_readOne wsX6_isWord := goodIn_r _ [7, 8, 9, 10, 11, 12, 13, 14, 15, 16, 17, 18, 19, 20, 21, 22, 23, 24, 25, 6, 26, 27, 28, 29, 30, 31, 32, 33, 34, 35, 36, 37, 38, 39, 40, 41, 42, 43, 44, 45, 46, 47, 48, 49, 50, 51, 52, 53, 54, 55, 56, 57, 58, 59, 60, 61, 62, 63, 64, 65, 139, 140, 141, 142, 143] (by decide +kernel) (by decide +kernel)
set_option maxRecDepth 20000 in
theorem gX4_readOne_X6_isWord : GoodIn wsX4_readOne (wsV RX4 99 RX6 yX6_isWord wsX6_isWord) := goodIn_app (goodIn_of _ (by decide +kernel)) ggX4_readOne_X6_isWord
set_option maxRecDepth 20000 in
theorem ggX4_readOne_X6_isByte : GoodIn wsX4_readOne wsX6_isByte := goodIn_r _ [69, 8, 10, 23, 24, 25, 6, 26, 27, 28, 139, 140, 141, 142, 143] (by decide +kernel) (by decide +kernel)
set_option maxRecDepth 20000 in
theorem gX4_readOne_X6_isByte : GoodIn wsX4_readOne (wsV RX4 114 RX6 yX6_isByte wsX6_isByte) := goodIn_app (goodIn_of _ (by decide +kernel)) ggX4_readOne_X6_isByte
set_option maxRecDepth 20000 in
theorem ggX4_readOne_X4_readTest : GoodIn wsX4_readOne wsX4_readTest := goodIn_r _ [74, 1, 75, 76, 77, 78, 73, 79, 3, 4, 5, 6, 7, 8, 9, 10, 11, 12, 13, 14, 15, 16, 17, 18, 19, 20, 21, 22, 23, 24, 25, 26, 27, 28, 29, 30, 31, 32, 33, 34, 35, 36, 37, 38, 39, 40, 41, 42, 43, 44, 45, 46, 47, 48, 49, 50, 51, 52, 53, 54, 55, 56, 57, 58, 59, 60, 61, 62, 63, 64, 65, 80, 81, 82, 83, 2, 84, 85, 86, 87, 88, 89, 90, 91, 92, 93, 94, 95, 96, 97, 98, 99, 100, 101, 102, 103, 104, 105, 106, 107, 108, 109, 110, 111, 112, 113, 114, 115, 131, 132, 133, 134, 135, 136, 137, 138, 139, 140, 141, 142, 143] (by decide +kernel) (by decide +kernel)
set_option maxRecDepth 20000 in
theorem gX4_readOne_X4_readTest : GoodIn wsX4_readOne (wsV RX4 130 RX4 yX4_readTest wsX4_readTest) := goodIn_app (goodIn_of _ (by decide +kernel)) ggX4_readOne_X4_readTest
set_option maxRecDepth 20000 in
theorem ggX4_readOne_X4_failAt : GoodIn wsX4_readOne wsX4_failAt := goodIn_r _ [87, 88, 89, 131, 132, 133, 134, 135, 136, 137, 138] (by decide +kernel) (by decide +kernel)
set_option maxRecDepth 20000 in
theorem gX4_readOne_X4_failAt : GoodIn wsX4_readOne (wsV RX4 76 RX4 yX4_failAt wsX4_failAt) := goodIn_app (goodIn_of _ (by decide +kernel)) ggX4_readOne_X4_failAt
set_option maxRecDepth 20000 in
theorem ggX4_readEither_X4_readOne : GoodIn wsX4_readEither wsX4_readOne := goodIn_r _ [86, 1, 87, 10, 11, 12, 13, 14, 15, 16, 17, 18, 19, 20, 21, 22, 23, 24, 25, 26, 27, 28, 29, 30, 31, 32, 33, 34, 35, 36, 37, 38, 39, 40, 41, 42, 43, 44, 45, 46, 47, 48, 49, 50, 51, 52, 53, 54, 55, 56, 57, 58, 59, 60, 61, 62, 63, 64, 65, 66, 67, 68, 69, 70, 71, 72, 88, 89, 90, 91, 92, 93, 94, 5, 95, 96, 97, 98, 99, 100, 101, 102, 103, 104, 105, 106, 107, 108, 109, 110, 79, 80, 81, 82, 83, 84, 85, 111, 112, 113, 114, 115, 116, 117, 118, 119, 120, 121, 122, 123, 73, 74, 75, 76, 77, 78, 124, 125, 126, 127, 128, 129, 130, 2, 3, 4, 0, 6, 7, 8, 9, 131, 132, 133, 134, 135, 136, 137, 138, 139, 140, 141, 142, 143] (by decide +kernel) (by decide +kernel)
set_option maxRecDepth 20000 in
theorem gX4_readEither_X4_readOne : GoodIn wsX4_readEither (wsV RX4 120 RX4 yX4_readOne wsX4_readOne) := goodIn_app (goodIn_of _ (by decide +kernel)) ggX4_readEither_X4_readOne
set_option maxRecDepth 20000 in
theorem ggX4_readEither_X4_addCode : GoodIn wsX4_readEither wsX4_addCode := goodIn_r _ [76, 77, 78, 131, 132, 133, 134, 135, 136, 137, 138] (by decide +kernel) (by decide +kernel)
set_option maxRecDepth 20000 in
theorem gX4_readEither_X4_addCode : GoodIn wsX4_readEither (wsV RX4 126 RX4 yX4_addCode wsX4_addCode) := goodIn_app (goodIn_of _ (by decide +kernel)) ggX4_readEither_X4_addCode
set_option maxRecDepth 20000 in
theorem ggX4_readEither_X4_isAndOr : GoodIn wsX4_readEither wsX4_isAndOr := goodIn_r _ [9, 1, 10, 11, 12, 13, 14, 15, 16, 17, 18, 19, 20, 21, 22, 23, 24, 25, 26, 27, 28, 29, 30, 31, 32, 33, 34, 35, 36, 37, 38, 39, 40, 41, 42, 43, 44, 45, 46, 47, 48, 49, 50, 51, 52, 53, 54, 55, 56, 57, 58, 59, 60, 61, 62, 63, 64, 65, 66, 67, 68, 69, 70, 71, 72, 131, 132, 133, 134, 135, 136, 137, 138, 139, 140, 141, 142, 143] (by decide +kernel) (by decide +kernel)
set_option maxRecDepth 20000 in
theorem gX4_readEither_X4_isAndOr : GoodIn wsX4_readEither (wsV RX4 123 RX4 yX4_isAndOr wsX4_isAndOr) := goodIn_app (goodIn_of _ (by decide +kernel)) ggX4_readEither_X4_isAndOr
set_option maxRecDepth 20000 in
theorem ggX4_readEither_X6_isWord : GoodIn wsX4_readEither wsX6_isWord := goodIn_r _ [14, 15, 16, 17, 18, 19, 20, 21, 22, 23, 24, 25, 26, 27, 28, 29, 30, 31, 32, 13, 33, 34, 35, 36, 37, 38, 39, 40, 41, 42, 43, 44, 45, 46, 47, 48, 49, 50, 51, 52, 53, 54, 55, 56, 57, 58, 59, 60, 61, 62, 63, 64, 65, 66, 67, 68, 69, 70, 71, 72, 139, 140, 141, 142, 143] (by decide +kernel) (by decide +kernel)
set_option maxRecDepth 20000 in
theorem gX4_readEither_X6_isWord : GoodIn wsX4_readEither (wsV RX4 99 RX6 yX6_isWord wsX6_isWord) := goodIn_app (goodIn_of _ (by decide +kernel)) ggX4_readEither_X6_isWord
set_option maxRecDepth 20000 in
theorem ggX4_readEither_X6_advance : GoodIn wsX4_readEither wsX6_advance := goodIn_r _ [82, 16, 34, 17, 15, 30, 31, 32, 13, 33, 35, 83, 84, 85, 139, 140, 141, 142, 143] (by decide +kernel) (by decide +kernel)
set_option maxRecDepth 20000 in
theorem gX4_readEither_X6_advance : GoodIn wsX4_readEither (wsV RX4 94 RX6 yX6_advance wsX6_advance) := goodIn_app (goodIn_of _ (by decide +kernel)) ggX4_readEither_X6_advance
set_option maxRecDepth 20000 in
theorem ggX4_readOne_X6_advance : GoodIn wsX4_readOne wsX6_advance := goodIn_r _ [93, 9, 27, 10, 8, 23, 24, 25, 6, 26, 28, 94, 95, 96, 139, 140, 141, 142, 143] (by decide +kernel) (by decide +kernel)
set_option maxRecDepth 20000 in
theorem gX4_readOne_X6_advance : GoodIn wsX4_readOne (wsV RX4 94 RX6 yX6_advance wsX6_advance) := goodIn_app (goodIn_of _ (by decide +kernel)) ggX4_readOne_X6_advance
set_option maxRecDepth 20000 in
theorem ggX4_readOne_X4_readEither : GoodIn wsX4_readOne wsX4_readEither := goodIn_r _ [126, 1, 123, 124, 125, 73, 127, 128, 129, 130, 3, 4, 5, 6, 7, 8, 9, 10, 11, 12, 13, 14, 15, 16, 17, 18, 19, 20, 21, 22, 23, 24, 25, 26, 27, 28, 29, 30, 31, 32, 33, 34, 35, 36, 37, 38, 39, 40, 41, 42, 43, 44, 45, 46, 47, 48, 49, 50, 51, 52, 53, 54, 55, 56, 57, 58, 59, 60, 61, 62, 63, 64, 65, 110, 111, 112, 113, 114, 115, 90, 91, 92, 93, 94, 95, 96, 0, 2, 66, 67, 68, 69, 70, 71, 72, 74, 75, 76, 77, 78, 79, 80, 81, 82, 83, 84, 85, 86, 87, 88, 89, 97, 98, 99, 100, 101, 102, 103, 104, 105, 106, 107, 108, 109, 116, 117, 118, 119, 120, 121, 122, 131, 132, 133, 134, 135, 136, 137, 138, 139, 140, 141, 142, 143] (by decide +kernel) (by decide +kernel)
set_option maxRecDepth 20000 in
theorem gX4_readOne_X4_readEither : GoodIn wsX4_readOne (wsV RX4 43 RX4 yX4_readEither wsX4_readEither) := goodIn_app (goodIn_of _ (by decide +kernel)) ggX4_readOne_X4_readEither
set_option maxRecDepth 20000 in
theorem ggX4_readOne_X4_readByte : GoodIn wsX4_readOne wsX4_readByte := goodIn_r _ [122, 1, 66, 67, 68, 6, 69, 8, 10, 23, 24, 25, 26, 27, 28, 80, 81, 82, 73, 83, 2, 84, 85, 86, 87, 88, 89, 90, 91, 92, 93, 9, 94, 95, 96, 131, 132, 133, 134, 135, 136, 137, 138, 139, 140, 141, 142, 143] (by decide +kernel) (by decide +kernel)
set_option maxRecDepth 20000 in
theorem gX4_readOne_X4_readByte : GoodIn wsX4_readOne (wsV RX4 39 RX4 yX4_readByte wsX4_readByte) := goodIn_app (goodIn_of _ (by decide +kernel)) ggX4_readOne_X4_readByte
set_option maxRecDepth 20000 in
theorem ggX4_readOne_X4_readOne : GoodIn wsX4_readOne wsX4_readOne := goodIn_r _ [0, 1, 2, 3, 4, 5, 6, 7, 8, 9, 10, 11, 12, 13, 14, 15, 16, 17, 18, 19, 20, 21, 22, 23, 24, 25, 26, 27, 28, 29, 30, 31, 32, 33, 34, 35, 36, 37, 38, 39, 40, 41, 42, 43, 44, 45, 46, 47, 48, 49, 50, 51, 52, 53, 54, 55, 56, 57, 58, 59, 60, 61, 62, 63, 64, 65, 66, 67, 68, 69, 70, 71, 72, 73, 74, 75, 76, 77, 78, 79, 80, 81, 82, 83, 84, 85, 86, 87, 88, 89, 90, 91, 92, 93, 94, 95, 96, 97, 98, 99, 100, 101, 102, 103, 104, 105, 106, 107, 108, 109, 110, 111, 112, 113, 114, 115, 116, 117, 118, 119, 120, 121, 122, 123, 124, 125, 126, 127, 128, 129, 130, 131, 132, 133, 134, 135, 136, 137, 138, 139, 140, 141, 142, 143] (by decide +kernel) (by decide +kernel)
set_option maxRecDepth 20000 in
theorem gX4_readOne_X4_readOne : GoodIn wsX4_readOne (wsV RX4 120 RX4 yX4_readOne wsX4_readOne) := goodIn_app (goodIn_of _ (by decide +kernel)) ggX4_readOne_X4_readOne
set_option maxRecDepth 20000 in
theorem ggX4_readOne_X4_addCode : GoodIn wsX4_readOne wsX4_addCode := goodIn_r _ [113, 114, 115, 131, 132, 133, 134, 135, 136, 137, 138] (by decide +kernel) (by decide +kernel)
set_option maxRecDepth 20000 in
theorem gX4_readOne_X4_addCode : GoodIn wsX4_readOne (wsV RX4 126 RX4 yX4_addCode wsX4_addCode) := goodIn_app (goodIn_of _ (by decide +kernel)) ggX4_readOne_X4_addCode
set_option maxHeartbeats 4000000 in
set_option maxRecDepth 100000 in
theorem r_readOne6 (l : Launch) (D : va_G) (ws : va_W) (tys : List (ClassId × FieldType)) (adK adV : Nat → Nat) (fo : Option Nat) (rd krd tp ktp cd bb tl : Nat)  (sz : Nat) (R0 : RS ws tys rd krd tp ktp cd bb tl)  : Met l yX4_readOne wsX4_readOne ({ frames := 7, cells := 0, slots := 0, locals := 149 }) (va_Pc [.ref rd, .int 6] (fun U => U.heap.size = sz ∧ va_P D vwCl ws U.heap ∧ va_K D vwCl tys U ∧ va_D (fun _ => True) ws ∧ SZ adK adV fo (va_A ws sz) U U.heap)) (va_Qi (fun (r : Int32) (_ : Unit) => r = 0 ∨ r = 1) (fun (_ : Unit) (t : State) => ∃ (ws' : va_W) (tys' : List (ClassId × FieldType)), sm [4, 6] ws ws' ∧ tyx tys tys' ∧ va_P D vwCl ws' t.heap ∧ va_K D vwCl tys' t ∧ va_D (va_A ws sz) ws' ∧ RS ws' tys' rd krd tp ktp cd bb tl) (va_A ws sz)) 0 0 (va_A ws sz) := by
  refine Met.ofW (cc := cX4_readOne) (maxL := 4) (ret := (some .boolean)) (by decide) rfl ?_
  intro p e s m args below meth c s₁ B hml hv
  obtain ⟨rfl, hsz, hP, hK, hD0, hsz9⟩ := hv
  have hx := B.exec
  have hb := B.bytes
  have hr := B.returns
  have hts := atoms_spec (ws := wsX4_readOne) B.pre
  have hown : s.vm.findClass RX4 = some m.cls := findClass_of_methodNamed B.named
  have hlocks := B.notSynchronized
  subst hsz
  have hD := hD0.self (sz := s.heap.size)
  generalize hAe : va_A ws s.heap.size = A at hD hsz9 ⊢
  have hA : ∀ q : Nat, s.heap.size ≤ q → A q := fun q h => by rw [← hAe]; exact Or.inr h
  have hS : va_S A s.heap s.heap [] := va_S.rf
  have hsm : sm [4, 6] ws ws := sm.rf ws
  have htx : tyx tys tys := tyx.rf tys
  have hin4 : ∀ w ∈ u_ws RX4 TX4 8, w ∈ wsX4_readOne := (fun _ h9 => List.mem_cons_of_mem _ (List.mem_append_left _ ((List.mem_append_right _ h9))))
  have hin6 : ∀ w ∈ u_ws RX6 TX6 5, w ∈ wsX4_readOne := (fun _ h9 => List.mem_cons_of_mem _ ((List.mem_append_right _ h9)))
  have hl := lv_entry ([.ref rd, .int 6]) (n := 4) (Nat.le_of_ble_eq_true rfl)
  rw [lg_entry_eq]
  generalize (lg_sl ([.ref rd, .int 6]) ++ List.replicate (4 - (lg_sl ([.ref rd, .int 6])).length) Slot.unset).toArray = ls at hl ⊢
  have hl : lv_has ls 4 [(0, .ref rd), (1, .int 6)] := hl
  obtain ⟨ts_1, te_2, cc_3, ra_4, rb_5, rc_6, rv_7, re_8, ya_9, h1_10, h2_11, h3_12, h4_13, er_14, et_15, ⟨k_16, c9_17, t_18, f_19, e_20, u_21⟩, ⟨k_22, c9_23, t_24, f_25, e_26, u_27⟩⟩ := id R0
  refine lv_aload_n hx hb dX4_readOne_0 rfl (lv_at hl 0 rfl) ?_
  refine va_get (D := D) (ci := 4) (v := .ref tp) (C := RX4) (T := TX4) (N := 8) hx hb hts hin4 hown hK hP krd er_14 rfl 0 (by decide) (hts (.fieldLink RX4 12 "HoneyHouse$RuleReader" "tape" "LHoneyHouse$Tape;") (List.mem_of_getElem? (i := 1) rfl)) (fun _ h9 => h9) rfl dX4_readOne_1 ?_
  refine va_ldcS hx hb hown hsz9.2.2.2.2.2.2.1 dX4_readOne_4 ?_
  have hFc := free_all hD hS hA
  refine va_calli (va_runV (As := [.ref (adK 3)]) (rest := []) ⟨hx, hb, hml, hown, hts⟩ (a_isWord l D ws tys adK adV fo 3 tp ktp tl ya_9 (nI ts_1) (nI te_2) bb k_22 c9_23 t_24 f_25 s.heap.size (by decide) et_15 e_26 u_27) (cwV 1 hts gX4_readOne_X6_isWord rfl rfl rfl (by decide +kernel) ⟨Nat.le_of_ble_eq_true rfl, Nat.le_of_ble_eq_true rfl⟩) ⟨fun a U g mk q => by obtain ⟨q0, q1, qP, qK, qD, qS⟩ := q; exact ⟨q0, q1, qP, va_K.moved (u := U) (U := U.calling g mk a) (Vm.Alike.refl U.vm) qK, qD, SZ.same rfl rfl qS⟩, va_recv hK hP (ci := 6) (q0 := ktp) rfl et_15, fun U hU hW => ⟨rfl, by rw [hU], by rw [hU]; exact hP, va_K.moved hW.alike hK, hD.weaken (fun _ _ _ _ => trivial), hsz9.go hS hW hU hFc⟩⟩ rfl rfl hl.1 rfl (lv_room (Nat.le_of_ble_eq_true rfl)) dX4_readOne_6 ⟨Nat.le_of_ble_eq_true rfl, Nat.le_of_ble_eq_true rfl⟩) hS (fun q _ h => hFc q h) hFc (fun r_28 u t H1 locs ht hvm w_29 hB hz1 hk1 hS => ?_)
  obtain ⟨ws_30, ty_31, hm_32, ht_34, hP1, hK1, hD1, hx_33⟩ := hB
  rw [ht] at hP1
  have hK := va_K.moved hvm.symm hK1
  have hD := hD1.weaken (fun _ _ _ h => hFc _ h)
  generalize H1 = H at hP1 hS ⊢
  have hP := hP1
  have e_35 := hm_32.objK er_14 (by decide)
  have e_36 := hm_32.objK et_15 (by decide)
  obtain ⟨f_38, e_37⟩ := hm_32.arrI e_20
  have u_39 := ht_34 _ _ u_21
  obtain ⟨f_41, e_40⟩ := hm_32.arrI e_26
  have u_42 := ht_34 _ _ u_27
  have hsm := hsm.tr (hm_32.mono (by decide))
  have htx := htx.tr ht_34
  rcases w_29 with rfl | rfl
  · refine lv_istore_n (lv' := [(2, .int 0), (0, .ref rd), (1, .int 6)]) hx hb dX4_readOne_9 rfl hl (by decide) rfl (fun ls hl => ?_)
    refine lv_iload_n hx hb dX4_readOne_10 rfl (lv_at hl 0 rfl) ?_
    refine lv_if_ne (tgt := 31) hx hb dX4_readOne_11 (by decide) (fun c_43 => absurd (by decide) c_43) (fun c_43 => ?_)
    refine lv_aload_n hx hb dX4_readOne_14 rfl (lv_at hl 1 rfl) ?_
    refine va_get (D := D) (ci := 4) (v := .ref tp) (C := RX4) (T := TX4) (N := 8) hx hb hts hin4 hown hK hP krd e_35 rfl 0 (by decide) (hts (.fieldLink RX4 12 "HoneyHouse$RuleReader" "tape" "LHoneyHouse$Tape;") (List.mem_of_getElem? (i := 1) rfl)) (fun _ h9 => h9) rfl dX4_readOne_15 ?_
    refine lv_bipush (v := 40) hx hb dX4_readOne_18 (by decide) ?_
    refine vp_callSi (W.runV (As := [.int 40]) (rest := []) ⟨hx, hb, hml, hown, hts⟩ (s_isByte l D ws_30 ty_31 tp ktp tl ya_9 (nI ts_1) (nI te_2) bb k_22 c9_23 t_24 f_41 40 e_36 e_40 u_42) (cwV 1 hts gX4_readOne_X6_isByte rfl rfl rfl (by decide +kernel) ⟨Nat.le_of_ble_eq_true rfl, Nat.le_of_ble_eq_true rfl⟩) ⟨fun a U g mk q => ⟨q.1, q.2.1, va_K.moved (u := U) (U := U.calling g mk a) (Vm.Alike.refl U.vm) q.2.2⟩, va_recv hK hP (ci := 6) (q0 := ktp) rfl e_36, fun U hU hW => ⟨rfl, by rw [hU]; exact hP, va_K.moved hW.alike hK⟩⟩ rfl rfl hl.1 rfl (lv_room (Nat.le_of_ble_eq_true rfl)) dX4_readOne_20 ⟨Nat.le_of_ble_eq_true rfl, Nat.le_of_ble_eq_true rfl⟩) (fun r_44 k_45 => ?_)
    rcases k_45 with rfl | rfl
    · refine lv_if_ne (tgt := 31) hx hb dX4_readOne_23 (by decide) (fun c_46 => absurd (by decide) c_46) (fun c_46 => ?_)
      refine lv_aload_n hx hb dX4_readOne_26 rfl (lv_at hl 1 rfl) ?_
      have hFc := free_all hD hS hA
      refine va_calli (va_runV (As := []) (rest := []) ⟨hx, hb, hml, hown, hts⟩ (r_readTest l D ws_30 ty_31 adK adV fo rd krd tp ktp cd bb tl  H.size (⟨ts_1, te_2, cc_3, ra_4, rb_5, rc_6, rv_7, re_8, ya_9, by omega, by omega, by omega, by omega, e_35, e_36, ⟨k_16, c9_17, t_18, f_38, e_37, u_39⟩, ⟨k_22, c9_23, t_24, f_41, e_40, u_42⟩⟩ : RS ws_30 ty_31 rd krd tp ktp cd bb tl)) (cwV 0 hts gX4_readOne_X4_readTest rfl rfl rfl (by decide +kernel) ⟨Nat.le_of_ble_eq_true rfl, Nat.le_of_ble_eq_true rfl⟩) ⟨fun a U g mk q => by obtain ⟨q0, q1, qP, qK, qD, qS⟩ := q; exact ⟨q0, q1, qP, va_K.moved (u := U) (U := U.calling g mk a) (Vm.Alike.refl U.vm) qK, qD, SZ.same rfl rfl qS⟩, va_recv hK hP (ci := 4) (q0 := krd) rfl e_35, fun U hU hW => ⟨rfl, by rw [hU], by rw [hU]; exact hP, va_K.moved hW.alike hK, hD.weaken (fun _ _ _ _ => trivial), hsz9.go hS hW hU hFc⟩⟩ rfl rfl hl.1 rfl (lv_room (Nat.le_of_ble_eq_true rfl)) dX4_readOne_27 ⟨Nat.le_of_ble_eq_true rfl, Nat.le_of_ble_eq_true rfl⟩) hS (fun q _ h => hFc q h) hFc (fun r_47 u t H1 locs ht hvm w_48 hB hz1 hk1 hS => ?_)
      obtain ⟨ws_49, ty_50, hm_51, ht_53, hP1, hK1, hD1, hx_52⟩ := hB
      rw [ht] at hP1
      have hK := va_K.moved hvm.symm hK1
      have hD := hD1.weaken (fun _ _ _ h => hFc _ h)
      generalize H1 = H at hP1 hS ⊢
      have hP := hP1
      obtain ⟨g_55, e_54, h_56⟩ := hm_51.obj e_35
      obtain ⟨z_57, z_58, z_59, z_60, z_61, z_62, rfl⟩ := smX4 h_56
      obtain ⟨g_64, e_63, h_65⟩ := hm_51.obj e_36
      obtain ⟨z_66, z_67, z_68, z_69, rfl⟩ := smX6 h_65
      obtain ⟨f_71, e_70⟩ := hm_51.arrI e_37
      have u_72 := ht_53 _ _ u_39
      obtain ⟨f_74, e_73⟩ := hm_51.arrI e_40
      have u_75 := ht_53 _ _ u_42
      have hsm := hsm.tr (hm_51.mono (by decide))
      have htx := htx.tr ht_53
      obtain ⟨ts_76, te_77, cc_78, ra_79, rb_80, rc_81, rv_82, re_83, ya_84, h1_85, h2_86, h3_87, h4_88, er_89, et_90, ⟨k_91, c9_92, t_93, f_94, e_95, u_96⟩, ⟨k_97, c9_98, t_99, f_100, e_101, u_102⟩⟩ := id hx_52
      exact W.zret (v := r_47) hx hb hr (by rcases w_48 with h9 | h9 <;> rw [h9] <;> rfl) (fun t ht hW => ⟨⟨r_47, (), rfl, w_48, ws_49, ty_50, hsm, htx, by rw [ht]; exact hP, va_K.moved hW.alike hK, hD, (⟨ts_76, te_77, cc_78, ra_79, rb_80, rc_81, rv_82, re_83, ya_84, by omega, by omega, by omega, by omega, er_89, et_90, ⟨k_91, c9_92, t_93, f_94, e_95, u_96⟩, ⟨k_97, c9_98, t_99, f_100, e_101, u_102⟩⟩ : RS ws_49 ty_50 rd krd tp ktp cd bb tl)⟩, hS.F ht⟩) hS.2.2 dX4_readOne_30
    refine lv_if_ne (tgt := 31) hx hb dX4_readOne_23 (by decide) (fun c_103 => ?_) (fun c_103 => absurd c_103 (by decide))
    refine lv_iload_n hx hb dX4_readOne_31 rfl (lv_at hl 2 rfl) ?_
    refine lv_bipush (v := 6) hx hb dX4_readOne_32 (by decide) ?_
    refine lv_icmp_lt (tgt := 50) hx hb dX4_readOne_34 (by decide) (fun c_104 => absurd c_104 (by decide)) (fun c_104 => ?_)
    refine lv_aload_n hx hb dX4_readOne_37 rfl (lv_at hl 1 rfl) ?_
    refine lv_iconst (v := 3) hx hb dX4_readOne_38 (by decide) ?_
    refine lv_aload_n hx hb dX4_readOne_39 rfl (lv_at hl 1 rfl) ?_
    refine va_get (D := D) (ci := 4) (v := .ref tp) (C := RX4) (T := TX4) (N := 8) hx hb hts hin4 hown hK hP krd e_35 rfl 0 (by decide) (hts (.fieldLink RX4 12 "HoneyHouse$RuleReader" "tape" "LHoneyHouse$Tape;") (List.mem_of_getElem? (i := 1) rfl)) (fun _ h9 => h9) rfl dX4_readOne_40 ?_
    refine va_get (D := D) (ci := 6) (v := .int (nI ts_1)) (C := RX6) (T := TX6) (N := 5) hx hb hts hin6 hown hK hP ktp e_36 rfl 2 (by decide) (hts (.fieldLink RX4 73 "HoneyHouse$Tape" "start" "I") (List.mem_of_getElem? (i := 2) rfl)) (fun _ h9 => h9) rfl dX4_readOne_43 ?_
    have hFc := free_all hD hS hA
    refine va_calli (va_runV (As := [.int 3, .int (nI ts_1)]) (rest := []) ⟨hx, hb, hml, hown, hts⟩ (r_failAt l D ws_30 ty_31 adK adV fo rd krd tp ktp cd bb tl 3 (nI ts_1) H.size (⟨ts_1, te_2, cc_3, ra_4, rb_5, rc_6, rv_7, re_8, ya_9, by omega, by omega, by omega, by omega, e_35, e_36, ⟨k_16, c9_17, t_18, f_38, e_37, u_39⟩, ⟨k_22, c9_23, t_24, f_41, e_40, u_42⟩⟩ : RS ws_30 ty_31 rd krd tp ktp cd bb tl)) (cwV 2 hts gX4_readOne_X4_failAt rfl rfl rfl (by decide +kernel) ⟨Nat.le_of_ble_eq_true rfl, Nat.le_of_ble_eq_true rfl⟩) ⟨fun a U g mk q => by obtain ⟨q0, q1, qP, qK, qD, qS⟩ := q; exact ⟨q0, q1, qP, va_K.moved (u := U) (U := U.calling g mk a) (Vm.Alike.refl U.vm) qK, qD, SZ.same rfl rfl qS⟩, va_recv hK hP (ci := 4) (q0 := krd) rfl e_35, fun U hU hW => ⟨rfl, by rw [hU], by rw [hU]; exact hP, va_K.moved hW.alike hK, hD.weaken (fun _ _ _ _ => trivial), hsz9.go hS hW hU hFc⟩⟩ rfl rfl hl.1 rfl (lv_room (Nat.le_of_ble_eq_true rfl)) dX4_readOne_46 ⟨Nat.le_of_ble_eq_true rfl, Nat.le_of_ble_eq_true rfl⟩) hS (fun q _ h => hFc q h) hFc (fun r_105 u t H1 locs ht hvm w_106 hB hz1 hk1 hS => ?_)
    obtain ⟨ws_107, ty_108, hm_109, ht_111, hP1, hK1, hD1, hx_110⟩ := hB
    rw [ht] at hP1
    have hK := va_K.moved hvm.symm hK1
    have hD := hD1.weaken (fun _ _ _ h => hFc _ h)
    generalize H1 = H at hP1 hS ⊢
    have hP := hP1
    obtain ⟨g_113, e_112, h_114⟩ := hm_109.obj e_35
    obtain ⟨z_115, z_116, z_117, z_118, z_119, z_120, rfl⟩ := smX4 h_114
    obtain ⟨g_122, e_121, h_123⟩ := hm_109.obj e_36
    obtain ⟨z_124, z_125, z_126, z_127, rfl⟩ := smX6 h_123
    obtain ⟨f_129, e_128⟩ := hm_109.arrI e_37
    have u_130 := ht_111 _ _ u_39
    obtain ⟨f_132, e_131⟩ := hm_109.arrI e_40
    have u_133 := ht_111 _ _ u_42
    have hsm := hsm.tr (hm_109.mono (by decide))
    have htx := htx.tr ht_111
    obtain ⟨ts_134, te_135, cc_136, ra_137, rb_138, rc_139, rv_140, re_141, ya_142, h1_143, h2_144, h3_145, h4_146, er_147, et_148, ⟨k_149, c9_150, t_151, f_152, e_153, u_154⟩, ⟨k_155, c9_156, t_157, f_158, e_159, u_160⟩⟩ := id hx_110
    subst w_106
    exact W.zret (v := 0) hx hb hr rfl (fun t ht hW => ⟨⟨0, (), rfl, Or.inl rfl, ws_107, ty_108, hsm, htx, by rw [ht]; exact hP, va_K.moved hW.alike hK, hD, (⟨ts_134, te_135, cc_136, ra_137, rb_138, rc_139, rv_140, re_141, ya_142, by omega, by omega, by omega, by omega, er_147, et_148, ⟨k_149, c9_150, t_151, f_152, e_153, u_154⟩, ⟨k_155, c9_156, t_157, f_158, e_159, u_160⟩⟩ : RS ws_107 ty_108 rd krd tp ktp cd bb tl)⟩, hS.F ht⟩) hS.2.2 dX4_readOne_49
  refine lv_istore_n (lv' := [(2, .int 1), (0, .ref rd), (1, .int 6)]) hx hb dX4_readOne_9 rfl hl (by decide) rfl (fun ls hl => ?_)
  refine lv_iload_n hx hb dX4_readOne_10 rfl (lv_at hl 0 rfl) ?_
  refine lv_if_ne (tgt := 31) hx hb dX4_readOne_11 (by decide) (fun c_161 => ?_) (fun c_161 => absurd c_161 (by decide))
  refine lv_iload_n hx hb dX4_readOne_31 rfl (lv_at hl 2 rfl) ?_
  refine lv_bipush (v := 6) hx hb dX4_readOne_32 (by decide) ?_
  refine lv_icmp_lt (tgt := 50) hx hb dX4_readOne_34 (by decide) (fun c_162 => absurd c_162 (by decide)) (fun c_162 => ?_)
  refine lv_aload_n hx hb dX4_readOne_37 rfl (lv_at hl 1 rfl) ?_
  refine lv_iconst (v := 3) hx hb dX4_readOne_38 (by decide) ?_
  refine lv_aload_n hx hb dX4_readOne_39 rfl (lv_at hl 1 rfl) ?_
  refine va_get (D := D) (ci := 4) (v := .ref tp) (C := RX4) (T := TX4) (N := 8) hx hb hts hin4 hown hK hP krd e_35 rfl 0 (by decide) (hts (.fieldLink RX4 12 "HoneyHouse$RuleReader" "tape" "LHoneyHouse$Tape;") (List.mem_of_getElem? (i := 1) rfl)) (fun _ h9 => h9) rfl dX4_readOne_40 ?_
  refine va_get (D := D) (ci := 6) (v := .int (nI ts_1)) (C := RX6) (T := TX6) (N := 5) hx hb hts hin6 hown hK hP ktp e_36 rfl 2 (by decide) (hts (.fieldLink RX4 73 "HoneyHouse$Tape" "start" "I") (List.mem_of_getElem? (i := 2) rfl)) (fun _ h9 => h9) rfl dX4_readOne_43 ?_
  have hFc := free_all hD hS hA
  refine va_calli (va_runV (As := [.int 3, .int (nI ts_1)]) (rest := []) ⟨hx, hb, hml, hown, hts⟩ (r_failAt l D ws_30 ty_31 adK adV fo rd krd tp ktp cd bb tl 3 (nI ts_1) H.size (⟨ts_1, te_2, cc_3, ra_4, rb_5, rc_6, rv_7, re_8, ya_9, by omega, by omega, by omega, by omega, e_35, e_36, ⟨k_16, c9_17, t_18, f_38, e_37, u_39⟩, ⟨k_22, c9_23, t_24, f_41, e_40, u_42⟩⟩ : RS ws_30 ty_31 rd krd tp ktp cd bb tl)) (cwV 2 hts gX4_readOne_X4_failAt rfl rfl rfl (by decide +kernel) ⟨Nat.le_of_ble_eq_true rfl, Nat.le_of_ble_eq_true rfl⟩) ⟨fun a U g mk q => by obtain ⟨q0, q1, qP, qK, qD, qS⟩ := q; exact ⟨q0, q1, qP, va_K.moved (u := U) (U := U.calling g mk a) (Vm.Alike.refl U.vm) qK, qD, SZ.same rfl rfl qS⟩, va_recv hK hP (ci := 4) (q0 := krd) rfl e_35, fun U hU hW => ⟨rfl, by rw [hU], by rw [hU]; exact hP, va_K.moved hW.alike hK, hD.weaken (fun _ _ _ _ => trivial), hsz9.go hS hW hU hFc⟩⟩ rfl rfl hl.1 rfl (lv_room (Nat.le_of_ble_eq_true rfl)) dX4_readOne_46 ⟨Nat.le_of_ble_eq_true rfl, Nat.le_of_ble_eq_true rfl⟩) hS (fun q _ h => hFc q h) hFc (fun r_163 u t H1 locs ht hvm w_164 hB hz1 hk1 hS => ?_)
  obtain ⟨ws_165, ty_166, hm_167, ht_169, hP1, hK1, hD1, hx_168⟩ := hB
  rw [ht] at hP1
  have hK := va_K.moved hvm.symm hK1
  have hD := hD1.weaken (fun _ _ _ h => hFc _ h)
  generalize H1 = H at hP1 hS ⊢
  have hP := hP1
  obtain ⟨g_171, e_170, h_172⟩ := hm_167.obj e_35
  obtain ⟨z_173, z_174, z_175, z_176, z_177, z_178, rfl⟩ := smX4 h_172
  obtain ⟨g_180, e_179, h_181⟩ := hm_167.obj e_36
  obtain ⟨z_182, z_183, z_184, z_185, rfl⟩ := smX6 h_181
  obtain ⟨f_187, e_186⟩ := hm_167.arrI e_37
  have u_188 := ht_169 _ _ u_39
  obtain ⟨f_190, e_189⟩ := hm_167.arrI e_40
  have u_191 := ht_169 _ _ u_42
  have hsm := hsm.tr (hm_167.mono (by decide))
  have htx := htx.tr ht_169
  obtain ⟨ts_192, te_193, cc_194, ra_195, rb_196, rc_197, rv_198, re_199, ya_200, h1_201, h2_202, h3_203, h4_204, er_205, et_206, ⟨k_207, c9_208, t_209, f_210, e_211, u_212⟩, ⟨k_213, c9_214, t_215, f_216, e_217, u_218⟩⟩ := id hx_168
  subst w_164
  exact W.zret (v := 0) hx hb hr rfl (fun t ht hW => ⟨⟨0, (), rfl, Or.inl rfl, ws_165, ty_166, hsm, htx, by rw [ht]; exact hP, va_K.moved hW.alike hK, hD, (⟨ts_192, te_193, cc_194, ra_195, rb_196, rc_197, rv_198, re_199, ya_200, by omega, by omega, by omega, by omega, er_205, et_206, ⟨k_207, c9_208, t_209, f_210, e_211, u_212⟩, ⟨k_213, c9_214, t_215, f_216, e_217, u_218⟩⟩ : RS ws_165 ty_166 rd krd tp ktp cd bb tl)⟩, hS.F ht⟩) hS.2.2 dX4_readOne_49
set_option maxHeartbeats 4000000 in
set_option maxRecDepth 100000 in
theorem r_readEither6 (l : Launch) (D : va_G) (ws : va_W) (tys : List (ClassId × FieldType)) (adK adV : Nat → Nat) (fo : Option Nat) (rd krd tp ktp cd bb tl : Nat)  (sz : Nat) (R0 : RS ws tys rd krd tp ktp cd bb tl)  : Met l yX4_readEither wsX4_readEither ({ frames := 8, cells := 0, slots := 0, locals := 172 }) (va_Pc [.ref rd, .int 6] (fun U => U.heap.size = sz ∧ va_P D vwCl ws U.heap ∧ va_K D vwCl tys U ∧ va_D (fun _ => True) ws ∧ SZ adK adV fo (va_A ws sz) U U.heap)) (va_Qi (fun (r : Int32) (_ : Unit) => r = 0 ∨ r = 1) (fun (_ : Unit) (t : State) => ∃ (ws' : va_W) (tys' : List (ClassId × FieldType)), sm [4, 6] ws ws' ∧ tyx tys tys' ∧ va_P D vwCl ws' t.heap ∧ va_K D vwCl tys' t ∧ va_D (va_A ws sz) ws' ∧ RS ws' tys' rd krd tp ktp cd bb tl) (va_A ws sz)) 0 0 (va_A ws sz) := by
  refine Met.ofW (cc := cX4_readEither) (maxL := 6) (ret := (some .boolean)) (by decide) rfl ?_
  intro p e s m args below meth c s₁ B hml hv
  obtain ⟨rfl, hsz, hP, hK, hD0, hsz9⟩ := hv
  have hx := B.exec
  have hb := B.bytes
  have hr := B.returns
  have hts := atoms_spec (ws := wsX4_readEither) B.pre
  have hown : s.vm.findClass RX4 = some m.cls := findClass_of_methodNamed B.named
  have hlocks := B.notSynchronized
  subst hsz
  have hD := hD0.self (sz := s.heap.size)
  generalize hAe : va_A ws s.heap.size = A at hD hsz9 ⊢
  have hA : ∀ q : Nat, s.heap.size ≤ q → A q := fun q h => by rw [← hAe]; exact Or.inr h
  have hS : va_S A s.heap s.heap [] := va_S.rf
  have hsm : sm [4, 6] ws ws := sm.rf ws
  have htx : tyx tys tys := tyx.rf tys
  have hin4 : ∀ w ∈ u_ws RX4 TX4 8, w ∈ wsX4_readEither := (fun _ h9 => List.mem_cons_of_mem _ (List.mem_append_left _ ((List.mem_append_right _ h9))))
  have hl := lv_entry ([.ref rd, .int 6]) (n := 6) (Nat.le_of_ble_eq_true rfl)
  rw [lg_entry_eq]
  generalize (lg_sl ([.ref rd, .int 6]) ++ List.replicate (6 - (lg_sl ([.ref rd, .int 6])).length) Slot.unset).toArray = ls at hl ⊢
  have hl : lv_has ls 6 [(0, .ref rd), (1, .int 6)] := hl
  obtain ⟨ts_1, te_2, cc_3, ra_4, rb_5, rc_6, rv_7, re_8, ya_9, h1_10, h2_11, h3_12, h4_13, er_14, et_15, ⟨k_16, c9_17, t_18, f_19, e_20, u_21⟩, ⟨k_22, c9_23, t_24, f_25, e_26, u_27⟩⟩ := id R0
  refine lv_aload_n hx hb dX4_readEither_0 rfl (lv_at hl 0 rfl) ?_
  refine lv_iload_n hx hb dX4_readEither_1 rfl (lv_at hl 1 rfl) ?_
  have hFc := free_all hD hS hA
  refine va_calli (va_runV (As := [.int 6]) (rest := []) ⟨hx, hb, hml, hown, hts⟩ (r_readOne6 l D ws tys adK adV fo rd krd tp ktp cd bb tl  s.heap.size (⟨ts_1, te_2, cc_3, ra_4, rb_5, rc_6, rv_7, re_8, ya_9, by omega, by omega, by omega, by omega, er_14, et_15, ⟨k_16, c9_17, t_18, f_19, e_20, u_21⟩, ⟨k_22, c9_23, t_24, f_25, e_26, u_27⟩⟩ : RS ws tys rd krd tp ktp cd bb tl)) (cwV 1 hts gX4_readEither_X4_readOne rfl rfl rfl (by decide +kernel) ⟨Nat.le_of_ble_eq_true rfl, Nat.le_of_ble_eq_true rfl⟩) ⟨fun a U g mk q => by obtain ⟨q0, q1, qP, qK, qD, qS⟩ := q; exact ⟨q0, q1, qP, va_K.moved (u := U) (U := U.calling g mk a) (Vm.Alike.refl U.vm) qK, qD, SZ.same rfl rfl qS⟩, va_recv hK hP (ci := 4) (q0 := krd) rfl er_14, fun U hU hW => ⟨rfl, by rw [hU], by rw [hU]; exact hP, va_K.moved hW.alike hK, hD.weaken (fun _ _ _ _ => trivial), hsz9.go hS hW hU hFc⟩⟩ rfl rfl hl.1 rfl (lv_room (Nat.le_of_ble_eq_true rfl)) dX4_readEither_2 ⟨Nat.le_of_ble_eq_true rfl, Nat.le_of_ble_eq_true rfl⟩) hS (fun q _ h => hFc q h) hFc (fun r_28 u t H1 locs ht hvm w_29 hB hz1 hk1 hS => ?_)
  obtain ⟨ws_30, ty_31, hm_32, ht_34, hP1, hK1, hD1, hx_33⟩ := hB
  rw [ht] at hP1
  have hK := va_K.moved hvm.symm hK1
  have hD := hD1.weaken (fun _ _ _ h => hFc _ h)
  generalize H1 = H at hP1 hS ⊢
  have hP := hP1
  obtain ⟨g_36, e_35, h_37⟩ := hm_32.obj er_14
  obtain ⟨z_38, z_39, z_40, z_41, z_42, z_43, rfl⟩ := smX4 h_37
  obtain ⟨g_45, e_44, h_46⟩ := hm_32.obj et_15
  obtain ⟨z_47, z_48, z_49, z_50, rfl⟩ := smX6 h_46
  obtain ⟨f_52, e_51⟩ := hm_32.arrI e_20
  have u_53 := ht_34 _ _ u_21
  obtain ⟨f_55, e_54⟩ := hm_32.arrI e_26
  have u_56 := ht_34 _ _ u_27
  have hsm := hsm.tr (hm_32.mono (by decide))
  have htx := htx.tr ht_34
  obtain ⟨ts_57, te_58, cc_59, ra_60, rb_61, rc_62, rv_63, re_64, ya_65, h1_66, h2_67, h3_68, h4_69, er_70, et_71, ⟨k_72, c9_73, t_74, f_75, e_76, u_77⟩, ⟨k_78, c9_79, t_80, f_81, e_82, u_83⟩⟩ := id hx_33
  refine lv_istore_n (lv' := [(2, .int r_28), (0, .ref rd), (1, .int 6)]) hx hb dX4_readEither_5 rfl hl (by decide) rfl (fun ls hl => ?_)
  refine lv_iconst (v := 0) hx hb dX4_readEither_6 (by decide) ?_
  refine lv_istore_n (lv' := [(3, .int 0), (2, .int r_28), (0, .ref rd), (1, .int 6)]) hx hb dX4_readEither_7 rfl hl (by decide) rfl (fun ls hl => ?_)
  refine lv_iconst (v := 0) hx hb dX4_readEither_8 (by decide) ?_
  refine lv_istore (lv' := [(4, .int 0), (3, .int 0), (2, .int r_28), (0, .ref rd), (1, .int 6)]) hx hb dX4_readEither_9 hl (by decide) rfl (fun ls hl => ?_)
  refine lp_V (nL := 6) (σ := Nat × Int32 × Int32) (lv := fun x9 => [(4, .int (nI x9.1)), (2, .int x9.2.1), (3, .int x9.2.2), (1, .int 6), (0, .ref rd)]) (μ := fun x9 => 400 - x9.1) (J := fun x9 ws9 => sm [4, 6] ws_30 ws9 ∧ (∃ ty9 : List (ClassId × FieldType), va_K D vwCl ty9 s ∧ tyx tys ty9 ∧ RS ws9 ty9 rd krd tp ktp cd bb tl) ∧ (x9.1 ≤ 400) ∧ (x9.2.1 = 0 ∨ x9.2.1 = 1) ∧ (x9.2.2 = 0 ∨ x9.2.2 = 1)) (fun x9 ws_91 H locs ls hj hP hD hS hl ih_84 => ?_) (0, r_28, 0) ws_30 _ _ ls ⟨sm.rf _, ⟨ty_31, hK, htx, (⟨ts_57, te_58, cc_59, ra_60, rb_61, rc_62, rv_63, re_64, ya_65, by omega, by omega, by omega, by omega, er_70, et_71, ⟨k_72, c9_73, t_74, f_75, e_76, u_77⟩, ⟨k_78, c9_79, t_80, f_81, e_82, u_83⟩⟩ : RS ws_30 ty_31 rd krd tp ktp cd bb tl)⟩, (show 0 ≤ 400 from by omega), (show r_28 = 0 ∨ r_28 = 1 from w_29), (show 0 = 0 ∨ 0 = 1 from Or.inl rfl)⟩ hP hD hS (lv_sub hl [0, 2, 1, 4, 3] rfl)
  obtain ⟨i_85, x_86, y_87⟩ := x9
  have hj : sm [4, 6] ws_30 ws_91 ∧ (∃ ty9 : List (ClassId × FieldType), va_K D vwCl ty9 s ∧ tyx tys ty9 ∧ RS ws_91 ty9 rd krd tp ktp cd bb tl) ∧ (i_85 ≤ 400) ∧ (x_86 = 0 ∨ x_86 = 1) ∧ (y_87 = 0 ∨ y_87 = 1) := hj
  obtain ⟨hm_92, hR_94, hi_88, hbx_89, hby_90⟩ := hj
  obtain ⟨g_96, e_95, h_97⟩ := hm_92.obj er_70
  obtain ⟨z_98, z_99, z_100, z_101, z_102, z_103, rfl⟩ := smX4 h_97
  obtain ⟨g_105, e_104, h_106⟩ := hm_92.obj et_71
  obtain ⟨z_107, z_108, z_109, z_110, rfl⟩ := smX6 h_106
  obtain ⟨f_112, e_111⟩ := hm_92.arrI e_76
  obtain ⟨f_114, e_113⟩ := hm_92.arrI e_82
  have hsm := hsm.tr (hm_92.mono (by decide))
  obtain ⟨ty_115, hK, htx, hR_116⟩ := hR_94
  obtain ⟨ts_117, te_118, cc_119, ra_120, rb_121, rc_122, rv_123, re_124, ya_125, h1_126, h2_127, h3_128, h4_129, er_130, et_131, ⟨k_132, c9_133, t_134, f_135, e_136, u_137⟩, ⟨k_138, c9_139, t_140, f_141, e_142, u_143⟩⟩ := id hR_116
  have hlp_93 := hm_92
  have hl : lv_has ls 6 [(4, .int (nI i_85)), (2, .int x_86), (3, .int y_87), (1, .int 6), (0, .ref rd)] := hl
  refine lv_iload hx hb dX4_readEither_11 (lv_at hl 0 rfl) ?_
  refine lv_sipush (v := 400) hx hb dX4_readEither_13 (by decide) ?_
  refine lv_icmp_ge (tgt := 101) hx hb dX4_readEither_16 (by decide) (fun c_144 => ?_) (fun c_144 => ?_)
  · have d_145 := n_le (a := 400) (b := i_85) (by omega) (by omega) c_144
    refine lv_iload_n hx hb dX4_readEither_101 rfl (lv_at hl 2 rfl) ?_
    refine lv_if_eq (tgt := 111) hx hb dX4_readEither_102 (by decide) (fun c_146 => ?_) (fun c_146 => ?_)
    · refine lv_iload_n hx hb dX4_readEither_111 rfl (lv_at hl 1 rfl) ?_
      exact W.zret (v := x_86) hx hb hr (by rcases hbx_89 with h9 | h9 <;> rw [h9] <;> rfl) (fun t ht hW => ⟨⟨x_86, (), rfl, hbx_89, ws_91, ty_115, hsm, htx, by rw [ht]; exact hP, va_K.moved hW.alike hK, hD, (⟨ts_117, te_118, cc_119, ra_120, rb_121, rc_122, rv_123, re_124, ya_125, by omega, by omega, by omega, by omega, er_130, et_131, ⟨k_132, c9_133, t_134, f_135, e_136, u_137⟩, ⟨k_138, c9_139, t_140, f_141, e_142, u_143⟩⟩ : RS ws_91 ty_115 rd krd tp ktp cd bb tl)⟩, hS.F ht⟩) hS.2.2 dX4_readEither_112
    refine lv_aload_n hx hb dX4_readEither_105 rfl (lv_at hl 4 rfl) ?_
    refine lv_bipush (v := (-3)) hx hb dX4_readEither_106 (by decide) ?_
    have hFc := free_all hD hS hA
    refine va_callv (va_runV (As := [.int (-3)]) (rest := []) ⟨hx, hb, hml, hown, hts⟩ (r_addCode l D ws_91 ty_115 adK adV fo rd krd tp ktp cd bb tl (-3) H.size (⟨ts_117, te_118, cc_119, ra_120, rb_121, rc_122, rv_123, re_124, ya_125, by omega, by omega, by omega, by omega, er_130, et_131, ⟨k_132, c9_133, t_134, f_135, e_136, u_137⟩, ⟨k_138, c9_139, t_140, f_141, e_142, u_143⟩⟩ : RS ws_91 ty_115 rd krd tp ktp cd bb tl)) (cwV 1 hts gX4_readEither_X4_addCode rfl rfl rfl (by decide +kernel) ⟨Nat.le_of_ble_eq_true rfl, Nat.le_of_ble_eq_true rfl⟩) ⟨fun a U g mk q => by obtain ⟨q0, q1, qP, qK, qD, qS⟩ := q; exact ⟨q0, q1, qP, va_K.moved (u := U) (U := U.calling g mk a) (Vm.Alike.refl U.vm) qK, qD, SZ.same rfl rfl qS⟩, va_recv hK hP (ci := 4) (q0 := krd) rfl er_130, fun U hU hW => ⟨rfl, by rw [hU], by rw [hU]; exact hP, va_K.moved hW.alike hK, hD.weaken (fun _ _ _ _ => trivial), hsz9.go hS hW hU hFc⟩⟩ rfl rfl hl.1 rfl (lv_room (Nat.le_of_ble_eq_true rfl)) dX4_readEither_108 ⟨Nat.le_of_ble_eq_true rfl, Nat.le_of_ble_eq_true rfl⟩) hS (fun q _ h => hFc q h) hFc (fun u t H1 locs ht hvm w_148 hB hz1 hk1 hS => ?_)
    obtain ⟨ws_149, ty_150, hm_151, ht_153, hP1, hK1, hD1, hx_152⟩ := hB
    rw [ht] at hP1
    have hK := va_K.moved hvm.symm hK1
    have hD := hD1.weaken (fun _ _ _ h => hFc _ h)
    generalize H1 = H at hP1 hS ⊢
    have hP := hP1
    obtain ⟨g_155, e_154, h_156⟩ := hm_151.obj er_130
    obtain ⟨z_157, z_158, z_159, z_160, z_161, z_162, rfl⟩ := smX4 h_156
    obtain ⟨g_164, e_163, h_165⟩ := hm_151.obj et_131
    obtain ⟨z_166, z_167, z_168, z_169, rfl⟩ := smX6 h_165
    obtain ⟨f_171, e_170⟩ := hm_151.arrI e_136
    have u_172 := ht_153 _ _ u_137
    obtain ⟨f_174, e_173⟩ := hm_151.arrI e_142
    have u_175 := ht_153 _ _ u_143
    have hsm := hsm.tr (hm_151.mono (by decide))
    have hlp_93 := hlp_93.tr (hm_151.mono (by decide))
    have htx := htx.tr ht_153
    obtain ⟨ts_176, te_177, cc_178, ra_179, rb_180, rc_181, rv_182, re_183, ya_184, h1_185, h2_186, h3_187, h4_188, er_189, et_190, ⟨k_191, c9_192, t_193, f_194, e_195, u_196⟩, ⟨k_197, c9_198, t_199, f_200, e_201, u_202⟩⟩ := id hx_152
    refine lv_iload_n hx hb dX4_readEither_111 rfl (lv_at hl 1 rfl) ?_
    exact W.zret (v := x_86) hx hb hr (by rcases hbx_89 with h9 | h9 <;> rw [h9] <;> rfl) (fun t ht hW => ⟨⟨x_86, (), rfl, hbx_89, ws_149, ty_150, hsm, htx, by rw [ht]; exact hP, va_K.moved hW.alike hK, hD, (⟨ts_176, te_177, cc_178, ra_179, rb_180, rc_181, rv_182, re_183, ya_184, by omega, by omega, by omega, by omega, er_189, et_190, ⟨k_191, c9_192, t_193, f_194, e_195, u_196⟩, ⟨k_197, c9_198, t_199, f_200, e_201, u_202⟩⟩ : RS ws_149 ty_150 rd krd tp ktp cd bb tl)⟩, hS.F ht⟩) hS.2.2 dX4_readEither_112
  have d_203 := n_nle (a := 400) (b := i_85) (by omega) (by omega) c_144
  refine lv_iload_n hx hb dX4_readEither_19 rfl (lv_at hl 1 rfl) ?_
  refine lv_if_eq (tgt := 101) hx hb dX4_readEither_20 (by decide) (fun c_204 => ?_) (fun c_204 => ?_)
  · refine lv_iload_n hx hb dX4_readEither_101 rfl (lv_at hl 2 rfl) ?_
    refine lv_if_eq (tgt := 111) hx hb dX4_readEither_102 (by decide) (fun c_205 => ?_) (fun c_205 => ?_)
    · refine lv_iload_n hx hb dX4_readEither_111 rfl (lv_at hl 1 rfl) ?_
      exact W.zret (v := x_86) hx hb hr (by rcases hbx_89 with h9 | h9 <;> rw [h9] <;> rfl) (fun t ht hW => ⟨⟨x_86, (), rfl, hbx_89, ws_91, ty_115, hsm, htx, by rw [ht]; exact hP, va_K.moved hW.alike hK, hD, (⟨ts_117, te_118, cc_119, ra_120, rb_121, rc_122, rv_123, re_124, ya_125, by omega, by omega, by omega, by omega, er_130, et_131, ⟨k_132, c9_133, t_134, f_135, e_136, u_137⟩, ⟨k_138, c9_139, t_140, f_141, e_142, u_143⟩⟩ : RS ws_91 ty_115 rd krd tp ktp cd bb tl)⟩, hS.F ht⟩) hS.2.2 dX4_readEither_112
    refine lv_aload_n hx hb dX4_readEither_105 rfl (lv_at hl 4 rfl) ?_
    refine lv_bipush (v := (-3)) hx hb dX4_readEither_106 (by decide) ?_
    have hFc := free_all hD hS hA
    refine va_callv (va_runV (As := [.int (-3)]) (rest := []) ⟨hx, hb, hml, hown, hts⟩ (r_addCode l D ws_91 ty_115 adK adV fo rd krd tp ktp cd bb tl (-3) H.size (⟨ts_117, te_118, cc_119, ra_120, rb_121, rc_122, rv_123, re_124, ya_125, by omega, by omega, by omega, by omega, er_130, et_131, ⟨k_132, c9_133, t_134, f_135, e_136, u_137⟩, ⟨k_138, c9_139, t_140, f_141, e_142, u_143⟩⟩ : RS ws_91 ty_115 rd krd tp ktp cd bb tl)) (cwV 1 hts gX4_readEither_X4_addCode rfl rfl rfl (by decide +kernel) ⟨Nat.le_of_ble_eq_true rfl, Nat.le_of_ble_eq_true rfl⟩) ⟨fun a U g mk q => by obtain ⟨q0, q1, qP, qK, qD, qS⟩ := q; exact ⟨q0, q1, qP, va_K.moved (u := U) (U := U.calling g mk a) (Vm.Alike.refl U.vm) qK, qD, SZ.same rfl rfl qS⟩, va_recv hK hP (ci := 4) (q0 := krd) rfl er_130, fun U hU hW => ⟨rfl, by rw [hU], by rw [hU]; exact hP, va_K.moved hW.alike hK, hD.weaken (fun _ _ _ _ => trivial), hsz9.go hS hW hU hFc⟩⟩ rfl rfl hl.1 rfl (lv_room (Nat.le_of_ble_eq_true rfl)) dX4_readEither_108 ⟨Nat.le_of_ble_eq_true rfl, Nat.le_of_ble_eq_true rfl⟩) hS (fun q _ h => hFc q h) hFc (fun u t H1 locs ht hvm w_207 hB hz1 hk1 hS => ?_)
    obtain ⟨ws_208, ty_209, hm_210, ht_212, hP1, hK1, hD1, hx_211⟩ := hB
    rw [ht] at hP1
    have hK := va_K.moved hvm.symm hK1
    have hD := hD1.weaken (fun _ _ _ h => hFc _ h)
    generalize H1 = H at hP1 hS ⊢
    have hP := hP1
    obtain ⟨g_214, e_213, h_215⟩ := hm_210.obj er_130
    obtain ⟨z_216, z_217, z_218, z_219, z_220, z_221, rfl⟩ := smX4 h_215
    obtain ⟨g_223, e_222, h_224⟩ := hm_210.obj et_131
    obtain ⟨z_225, z_226, z_227, z_228, rfl⟩ := smX6 h_224
    obtain ⟨f_230, e_229⟩ := hm_210.arrI e_136
    have u_231 := ht_212 _ _ u_137
    obtain ⟨f_233, e_232⟩ := hm_210.arrI e_142
    have u_234 := ht_212 _ _ u_143
    have hsm := hsm.tr (hm_210.mono (by decide))
    have hlp_93 := hlp_93.tr (hm_210.mono (by decide))
    have htx := htx.tr ht_212
    obtain ⟨ts_235, te_236, cc_237, ra_238, rb_239, rc_240, rv_241, re_242, ya_243, h1_244, h2_245, h3_246, h4_247, er_248, et_249, ⟨k_250, c9_251, t_252, f_253, e_254, u_255⟩, ⟨k_256, c9_257, t_258, f_259, e_260, u_261⟩⟩ := id hx_211
    refine lv_iload_n hx hb dX4_readEither_111 rfl (lv_at hl 1 rfl) ?_
    exact W.zret (v := x_86) hx hb hr (by rcases hbx_89 with h9 | h9 <;> rw [h9] <;> rfl) (fun t ht hW => ⟨⟨x_86, (), rfl, hbx_89, ws_208, ty_209, hsm, htx, by rw [ht]; exact hP, va_K.moved hW.alike hK, hD, (⟨ts_235, te_236, cc_237, ra_238, rb_239, rc_240, rv_241, re_242, ya_243, by omega, by omega, by omega, by omega, er_248, et_249, ⟨k_250, c9_251, t_252, f_253, e_254, u_255⟩, ⟨k_256, c9_257, t_258, f_259, e_260, u_261⟩⟩ : RS ws_208 ty_209 rd krd tp ktp cd bb tl)⟩, hS.F ht⟩) hS.2.2 dX4_readEither_112
  refine lv_aload_n hx hb dX4_readEither_23 rfl (lv_at hl 4 rfl) ?_
  have hFc := free_all hD hS hA
  refine va_calli (va_runV (As := []) (rest := []) ⟨hx, hb, hml, hown, hts⟩ (r_isAndOr l D ws_91 ty_115 adK adV fo rd krd tp ktp cd bb tl  H.size (⟨ts_117, te_118, cc_119, ra_120, rb_121, rc_122, rv_123, re_124, ya_125, by omega, by omega, by omega, by omega, er_130, et_131, ⟨k_132, c9_133, t_134, f_135, e_136, u_137⟩, ⟨k_138, c9_139, t_140, f_141, e_142, u_143⟩⟩ : RS ws_91 ty_115 rd krd tp ktp cd bb tl)) (cwV 0 hts gX4_readEither_X4_isAndOr rfl rfl rfl (by decide +kernel) ⟨Nat.le_of_ble_eq_true rfl, Nat.le_of_ble_eq_true rfl⟩) ⟨fun a U g mk q => by obtain ⟨q0, q1, qP, qK, qD, qS⟩ := q; exact ⟨q0, q1, qP, va_K.moved (u := U) (U := U.calling g mk a) (Vm.Alike.refl U.vm) qK, qD, SZ.same rfl rfl qS⟩, va_recv hK hP (ci := 4) (q0 := krd) rfl er_130, fun U hU hW => ⟨rfl, by rw [hU], by rw [hU]; exact hP, va_K.moved hW.alike hK, hD.weaken (fun _ _ _ _ => trivial), hsz9.go hS hW hU hFc⟩⟩ rfl rfl hl.1 rfl (lv_room (Nat.le_of_ble_eq_true rfl)) dX4_readEither_24 ⟨Nat.le_of_ble_eq_true rfl, Nat.le_of_ble_eq_true rfl⟩) hS (fun q _ h => hFc q h) hFc (fun r_262 u t H1 locs ht hvm w_263 hB hz1 hk1 hS => ?_)
  obtain ⟨ws_264, ty_265, hm_266, ht_268, hP1, hK1, hD1, hx_267⟩ := hB
  rw [ht] at hP1
  have hK := va_K.moved hvm.symm hK1
  have hD := hD1.weaken (fun _ _ _ h => hFc _ h)
  generalize H1 = H at hP1 hS ⊢
  have hP := hP1
  have e_269 := hm_266.objK er_130 (by decide)
  have e_270 := hm_266.objK et_131 (by decide)
  obtain ⟨f_272, e_271⟩ := hm_266.arrI e_136
  have u_273 := ht_268 _ _ u_137
  obtain ⟨f_275, e_274⟩ := hm_266.arrI e_142
  have u_276 := ht_268 _ _ u_143
  have hsm := hsm.tr (hm_266.mono (by decide))
  have hlp_93 := hlp_93.tr (hm_266.mono (by decide))
  have htx := htx.tr ht_268
  rcases w_263 with rfl | rfl
  · refine lv_if_eq (tgt := 101) hx hb dX4_readEither_27 (by decide) (fun c_277 => ?_) (fun c_277 => absurd (by decide) c_277)
    refine lv_iload_n hx hb dX4_readEither_101 rfl (lv_at hl 2 rfl) ?_
    refine lv_if_eq (tgt := 111) hx hb dX4_readEither_102 (by decide) (fun c_278 => ?_) (fun c_278 => ?_)
    · refine lv_iload_n hx hb dX4_readEither_111 rfl (lv_at hl 1 rfl) ?_
      exact W.zret (v := x_86) hx hb hr (by rcases hbx_89 with h9 | h9 <;> rw [h9] <;> rfl) (fun t ht hW => ⟨⟨x_86, (), rfl, hbx_89, ws_264, ty_265, hsm, htx, by rw [ht]; exact hP, va_K.moved hW.alike hK, hD, (⟨ts_117, te_118, cc_119, ra_120, rb_121, rc_122, rv_123, re_124, ya_125, by omega, by omega, by omega, by omega, e_269, e_270, ⟨k_132, c9_133, t_134, f_272, e_271, u_273⟩, ⟨k_138, c9_139, t_140, f_275, e_274, u_276⟩⟩ : RS ws_264 ty_265 rd krd tp ktp cd bb tl)⟩, hS.F ht⟩) hS.2.2 dX4_readEither_112
    refine lv_aload_n hx hb dX4_readEither_105 rfl (lv_at hl 4 rfl) ?_
    refine lv_bipush (v := (-3)) hx hb dX4_readEither_106 (by decide) ?_
    have hFc := free_all hD hS hA
    refine va_callv (va_runV (As := [.int (-3)]) (rest := []) ⟨hx, hb, hml, hown, hts⟩ (r_addCode l D ws_264 ty_265 adK adV fo rd krd tp ktp cd bb tl (-3) H.size (⟨ts_117, te_118, cc_119, ra_120, rb_121, rc_122, rv_123, re_124, ya_125, by omega, by omega, by omega, by omega, e_269, e_270, ⟨k_132, c9_133, t_134, f_272, e_271, u_273⟩, ⟨k_138, c9_139, t_140, f_275, e_274, u_276⟩⟩ : RS ws_264 ty_265 rd krd tp ktp cd bb tl)) (cwV 1 hts gX4_readEither_X4_addCode rfl rfl rfl (by decide +kernel) ⟨Nat.le_of_ble_eq_true rfl, Nat.le_of_ble_eq_true rfl⟩) ⟨fun a U g mk q => by obtain ⟨q0, q1, qP, qK, qD, qS⟩ := q; exact ⟨q0, q1, qP, va_K.moved (u := U) (U := U.calling g mk a) (Vm.Alike.refl U.vm) qK, qD, SZ.same rfl rfl qS⟩, va_recv hK hP (ci := 4) (q0 := krd) rfl e_269, fun U hU hW => ⟨rfl, by rw [hU], by rw [hU]; exact hP, va_K.moved hW.alike hK, hD.weaken (fun _ _ _ _ => trivial), hsz9.go hS hW hU hFc⟩⟩ rfl rfl hl.1 rfl (lv_room (Nat.le_of_ble_eq_true rfl)) dX4_readEither_108 ⟨Nat.le_of_ble_eq_true rfl, Nat.le_of_ble_eq_true rfl⟩) hS (fun q _ h => hFc q h) hFc (fun u t H1 locs ht hvm w_280 hB hz1 hk1 hS => ?_)
    obtain ⟨ws_281, ty_282, hm_283, ht_285, hP1, hK1, hD1, hx_284⟩ := hB
    rw [ht] at hP1
    have hK := va_K.moved hvm.symm hK1
    have hD := hD1.weaken (fun _ _ _ h => hFc _ h)
    generalize H1 = H at hP1 hS ⊢
    have hP := hP1
    obtain ⟨g_287, e_286, h_288⟩ := hm_283.obj e_269
    obtain ⟨z_289, z_290, z_291, z_292, z_293, z_294, rfl⟩ := smX4 h_288
    obtain ⟨g_296, e_295, h_297⟩ := hm_283.obj e_270
    obtain ⟨z_298, z_299, z_300, z_301, rfl⟩ := smX6 h_297
    obtain ⟨f_303, e_302⟩ := hm_283.arrI e_271
    have u_304 := ht_285 _ _ u_273
    obtain ⟨f_306, e_305⟩ := hm_283.arrI e_274
    have u_307 := ht_285 _ _ u_276
    have hsm := hsm.tr (hm_283.mono (by decide))
    have hlp_93 := hlp_93.tr (hm_283.mono (by decide))
    have htx := htx.tr ht_285
    obtain ⟨ts_308, te_309, cc_310, ra_311, rb_312, rc_313, rv_314, re_315, ya_316, h1_317, h2_318, h3_319, h4_320, er_321, et_322, ⟨k_323, c9_324, t_325, f_326, e_327, u_328⟩, ⟨k_329, c9_330, t_331, f_332, e_333, u_334⟩⟩ := id hx_284
    refine lv_iload_n hx hb dX4_readEither_111 rfl (lv_at hl 1 rfl) ?_
    exact W.zret (v := x_86) hx hb hr (by rcases hbx_89 with h9 | h9 <;> rw [h9] <;> rfl) (fun t ht hW => ⟨⟨x_86, (), rfl, hbx_89, ws_281, ty_282, hsm, htx, by rw [ht]; exact hP, va_K.moved hW.alike hK, hD, (⟨ts_308, te_309, cc_310, ra_311, rb_312, rc_313, rv_314, re_315, ya_316, by omega, by omega, by omega, by omega, er_321, et_322, ⟨k_323, c9_324, t_325, f_326, e_327, u_328⟩, ⟨k_329, c9_330, t_331, f_332, e_333, u_334⟩⟩ : RS ws_281 ty_282 rd krd tp ktp cd bb tl)⟩, hS.F ht⟩) hS.2.2 dX4_readEither_112
  refine lv_if_eq (tgt := 101) hx hb dX4_readEither_27 (by decide) (fun c_335 => absurd c_335 (by decide)) (fun c_335 => ?_)
  refine lv_aload_n hx hb dX4_readEither_30 rfl (lv_at hl 4 rfl) ?_
  refine va_get (D := D) (ci := 4) (v := .ref tp) (C := RX4) (T := TX4) (N := 8) hx hb hts hin4 hown hK hP krd e_269 rfl 0 (by decide) (hts (.fieldLink RX4 12 "HoneyHouse$RuleReader" "tape" "LHoneyHouse$Tape;") (List.mem_of_getElem? (i := 1) rfl)) (fun _ h9 => h9) rfl dX4_readEither_31 ?_
  refine va_ldcS hx hb hown hsz9.2.2.2.2.2.1 dX4_readEither_34 ?_
  have hFc := free_all hD hS hA
  refine va_calli (va_runV (As := [.ref (adK 2)]) (rest := []) ⟨hx, hb, hml, hown, hts⟩ (a_isWord l D ws_264 ty_265 adK adV fo 2 tp ktp tl ya_125 (nI ts_117) (nI te_118) bb k_138 c9_139 t_140 f_275 H.size (by decide) e_270 e_274 u_276) (cwV 1 hts gX4_readEither_X6_isWord rfl rfl rfl (by decide +kernel) ⟨Nat.le_of_ble_eq_true rfl, Nat.le_of_ble_eq_true rfl⟩) ⟨fun a U g mk q => by obtain ⟨q0, q1, qP, qK, qD, qS⟩ := q; exact ⟨q0, q1, qP, va_K.moved (u := U) (U := U.calling g mk a) (Vm.Alike.refl U.vm) qK, qD, SZ.same rfl rfl qS⟩, va_recv hK hP (ci := 6) (q0 := ktp) rfl e_270, fun U hU hW => ⟨rfl, by rw [hU], by rw [hU]; exact hP, va_K.moved hW.alike hK, hD.weaken (fun _ _ _ _ => trivial), hsz9.go hS hW hU hFc⟩⟩ rfl rfl hl.1 rfl (lv_room (Nat.le_of_ble_eq_true rfl)) dX4_readEither_36 ⟨Nat.le_of_ble_eq_true rfl, Nat.le_of_ble_eq_true rfl⟩) hS (fun q _ h => hFc q h) hFc (fun r_336 u t H1 locs ht hvm w_337 hB hz1 hk1 hS => ?_)
  obtain ⟨ws_338, ty_339, hm_340, ht_342, hP1, hK1, hD1, hx_341⟩ := hB
  rw [ht] at hP1
  have hK := va_K.moved hvm.symm hK1
  have hD := hD1.weaken (fun _ _ _ h => hFc _ h)
  generalize H1 = H at hP1 hS ⊢
  have hP := hP1
  have e_343 := hm_340.objK e_269 (by decide)
  have e_344 := hm_340.objK e_270 (by decide)
  obtain ⟨f_346, e_345⟩ := hm_340.arrI e_271
  have u_347 := ht_342 _ _ u_273
  obtain ⟨f_349, e_348⟩ := hm_340.arrI e_274
  have u_350 := ht_342 _ _ u_276
  have hsm := hsm.tr (hm_340.mono (by decide))
  have hlp_93 := hlp_93.tr (hm_340.mono (by decide))
  have htx := htx.tr ht_342
  rcases w_337 with rfl | rfl
  · refine lv_istore (lv' := [(5, .int 0), (4, .int (nI i_85)), (2, .int x_86), (3, .int y_87), (1, .int 6), (0, .ref rd)]) hx hb dX4_readEither_39 hl (by decide) rfl (fun ls hl => ?_)
    refine lv_iload hx hb dX4_readEither_41 (lv_at hl 0 rfl) ?_
    refine lv_if_ne (tgt := 56) hx hb dX4_readEither_43 (by decide) (fun c_351 => absurd (by decide) c_351) (fun c_351 => ?_)
    refine lv_iload_n hx hb dX4_readEither_46 rfl (lv_at hl 3 rfl) ?_
    refine lv_if_eq (tgt := 56) hx hb dX4_readEither_47 (by decide) (fun c_352 => ?_) (fun c_352 => ?_)
    · refine lv_iload_n hx hb dX4_readEither_56 rfl (lv_at hl 3 rfl) ?_
      refine lv_if_ne (tgt := 65) hx hb dX4_readEither_57 (by decide) (fun c_353 => ?_) (fun c_353 => ?_)
      · refine lv_iconst (v := 1) hx hb dX4_readEither_65 (by decide) ?_
        refine lv_goto (tgt := 70) hx hb dX4_readEither_66 (by decide) ?_
        refine lv_istore_n (lv' := [(3, .int 1), (5, .int 0), (4, .int (nI i_85)), (2, .int x_86), (1, .int 6), (0, .ref rd)]) hx hb dX4_readEither_70 rfl hl (by decide) rfl (fun ls hl => ?_)
        refine lv_aload_n hx hb dX4_readEither_71 rfl (lv_at hl 5 rfl) ?_
        refine va_get (D := D) (ci := 4) (v := .ref tp) (C := RX4) (T := TX4) (N := 8) hx hb hts hin4 hown hK hP krd e_343 rfl 0 (by decide) (hts (.fieldLink RX4 12 "HoneyHouse$RuleReader" "tape" "LHoneyHouse$Tape;") (List.mem_of_getElem? (i := 1) rfl)) (fun _ h9 => h9) rfl dX4_readEither_72 ?_
        have hFc := free_all hD hS hA
        refine va_callv (va_runV (As := []) (rest := []) ⟨hx, hb, hml, hown, hts⟩ (a_advance l D ws_338 ty_339 tp ktp tl te_118 ya_125 (nI ts_117) bb k_138 c9_139 t_140 f_349 H.size (by omega) (by omega) e_344 e_348 u_350) (cwV 0 hts gX4_readEither_X6_advance rfl rfl rfl (by decide +kernel) ⟨Nat.le_of_ble_eq_true rfl, Nat.le_of_ble_eq_true rfl⟩) ⟨fun a U g mk q => by obtain ⟨q0, q1, qP, qK, qD⟩ := q; exact ⟨q0, q1, qP, va_K.moved (u := U) (U := U.calling g mk a) (Vm.Alike.refl U.vm) qK, qD⟩, va_recv hK hP (ci := 6) (q0 := ktp) rfl e_344, fun U hU hW => ⟨rfl, by rw [hU], by rw [hU]; exact hP, va_K.moved hW.alike hK, hD.weaken (fun _ _ _ _ => trivial)⟩⟩ rfl rfl hl.1 rfl (lv_room (Nat.le_of_ble_eq_true rfl)) dX4_readEither_75 ⟨Nat.le_of_ble_eq_true rfl, Nat.le_of_ble_eq_true rfl⟩) hS (fun q _ h => hFc q h) hFc (fun u t H1 locs ht hvm w_355 hB hz1 hk1 hS => ?_)
        obtain ⟨ws_356, ty_357, hm_358, ht_360, hP1, hK1, hD1, hx_359⟩ := hB
        rw [ht] at hP1
        have hK := va_K.moved hvm.symm hK1
        have hD := hD1.weaken (fun _ _ _ h => hFc _ h)
        generalize H1 = H at hP1 hS ⊢
        have hP := hP1
        have e_361 := hm_358.objK e_343 (by decide)
        obtain ⟨g_363, e_362, h_364⟩ := hm_358.obj e_344
        obtain ⟨z_365, z_366, z_367, z_368, rfl⟩ := smX6 h_364
        obtain ⟨f_370, e_369⟩ := hm_358.arrI e_345
        have u_371 := ht_360 _ _ u_347
        obtain ⟨f_373, e_372⟩ := hm_358.arrI e_348
        have u_374 := ht_360 _ _ u_350
        have hsm := hsm.tr (hm_358.mono (by decide))
        have hlp_93 := hlp_93.tr (hm_358.mono (by decide))
        have htx := htx.tr ht_360
        obtain ⟨k_375, s_376, e_377, h_378, h_379, h_380, e_381⟩ := hx_359
        refine lv_aload_n hx hb dX4_readEither_78 rfl (lv_at hl 5 rfl) ?_
        refine lv_iload_n hx hb dX4_readEither_79 rfl (lv_at hl 4 rfl) ?_
        have hFc := free_all hD hS hA
        refine va_calli (va_runV (As := [.int 6]) (rest := []) ⟨hx, hb, hml, hown, hts⟩ (r_readOne6 l D ws_356 ty_357 adK adV fo rd krd tp ktp cd bb tl  H.size (⟨s_376, e_377, cc_119, ra_120, rb_121, rc_122, rv_123, re_124, nI k_375, by omega, by omega, by omega, by omega, e_361, e_381, ⟨k_132, c9_133, t_134, f_370, e_369, u_371⟩, ⟨k_138, c9_139, t_140, f_373, e_372, u_374⟩⟩ : RS ws_356 ty_357 rd krd tp ktp cd bb tl)) (cwV 1 hts gX4_readEither_X4_readOne rfl rfl rfl (by decide +kernel) ⟨Nat.le_of_ble_eq_true rfl, Nat.le_of_ble_eq_true rfl⟩) ⟨fun a U g mk q => by obtain ⟨q0, q1, qP, qK, qD, qS⟩ := q; exact ⟨q0, q1, qP, va_K.moved (u := U) (U := U.calling g mk a) (Vm.Alike.refl U.vm) qK, qD, SZ.same rfl rfl qS⟩, va_recv hK hP (ci := 4) (q0 := krd) rfl e_361, fun U hU hW => ⟨rfl, by rw [hU], by rw [hU]; exact hP, va_K.moved hW.alike hK, hD.weaken (fun _ _ _ _ => trivial), hsz9.go hS hW hU hFc⟩⟩ rfl rfl hl.1 rfl (lv_room (Nat.le_of_ble_eq_true rfl)) dX4_readEither_80 ⟨Nat.le_of_ble_eq_true rfl, Nat.le_of_ble_eq_true rfl⟩) hS (fun q _ h => hFc q h) hFc (fun r_382 u t H1 locs ht hvm w_383 hB hz1 hk1 hS => ?_)
        obtain ⟨ws_384, ty_385, hm_386, ht_388, hP1, hK1, hD1, hx_387⟩ := hB
        rw [ht] at hP1
        have hK := va_K.moved hvm.symm hK1
        have hD := hD1.weaken (fun _ _ _ h => hFc _ h)
        generalize H1 = H at hP1 hS ⊢
        have hP := hP1
        obtain ⟨g_390, e_389, h_391⟩ := hm_386.obj e_361
        obtain ⟨z_392, z_393, z_394, z_395, z_396, z_397, rfl⟩ := smX4 h_391
        obtain ⟨g_399, e_398, h_400⟩ := hm_386.obj e_381
        obtain ⟨z_401, z_402, z_403, z_404, rfl⟩ := smX6 h_400
        obtain ⟨f_406, e_405⟩ := hm_386.arrI e_369
        have u_407 := ht_388 _ _ u_371
        obtain ⟨f_409, e_408⟩ := hm_386.arrI e_372
        have u_410 := ht_388 _ _ u_374
        have hsm := hsm.tr (hm_386.mono (by decide))
        have hlp_93 := hlp_93.tr (hm_386.mono (by decide))
        have htx := htx.tr ht_388
        obtain ⟨ts_411, te_412, cc_413, ra_414, rb_415, rc_416, rv_417, re_418, ya_419, h1_420, h2_421, h3_422, h4_423, er_424, et_425, ⟨k_426, c9_427, t_428, f_429, e_430, u_431⟩, ⟨k_432, c9_433, t_434, f_435, e_436, u_437⟩⟩ := id hx_387
        refine lv_istore_n (lv' := [(2, .int r_382), (3, .int 1), (5, .int 0), (4, .int (nI i_85)), (1, .int 6), (0, .ref rd)]) hx hb dX4_readEither_83 rfl hl (by decide) rfl (fun ls hl => ?_)
        refine lv_iload hx hb dX4_readEither_84 (lv_at hl 2 rfl) ?_
        refine lv_if_eq (tgt := 95) hx hb dX4_readEither_86 (by decide) (fun c_438 => ?_) (fun c_438 => absurd (by decide) c_438)
        refine lv_iinc (v := nI (i_85 + 1)) (lv' := [(4, .int (nI (i_85 + 1))), (2, .int r_382), (3, .int 1), (5, .int 0), (1, .int 6), (0, .ref rd)]) hx hb dX4_readEither_95 hl (k := 3) rfl (nI_add i_85 1) (by decide) rfl (fun ls hl => ?_)
        refine lv_goto (tgt := 11) hx hb dX4_readEither_98 (by decide) ?_
        exact ih_84 (i_85 + 1, r_382, 1) ws_384 _ _ ls (by show 400 - (i_85 + 1) < 400 - i_85; omega) ⟨hlp_93, ⟨ty_385, hK, htx, (⟨ts_411, te_412, cc_413, ra_414, rb_415, rc_416, rv_417, re_418, ya_419, by omega, by omega, by omega, by omega, er_424, et_425, ⟨k_426, c9_427, t_428, f_429, e_430, u_431⟩, ⟨k_432, c9_433, t_434, f_435, e_436, u_437⟩⟩ : RS ws_384 ty_385 rd krd tp ktp cd bb tl)⟩, (show (i_85 + 1) ≤ 400 from by omega), (show r_382 = 0 ∨ r_382 = 1 from w_383), (show 1 = 0 ∨ 1 = 1 from Or.inr rfl)⟩ hP hD hS (lv_sub hl [0, 1, 2, 4, 5] rfl)
      refine lv_iload hx hb dX4_readEither_60 (lv_at hl 0 rfl) ?_
      refine lv_if_ne (tgt := 69) hx hb dX4_readEither_62 (by decide) (fun c_439 => absurd (by decide) c_439) (fun c_439 => ?_)
      refine lv_iconst (v := 1) hx hb dX4_readEither_65 (by decide) ?_
      refine lv_goto (tgt := 70) hx hb dX4_readEither_66 (by decide) ?_
      refine lv_istore_n (lv' := [(3, .int 1), (5, .int 0), (4, .int (nI i_85)), (2, .int x_86), (1, .int 6), (0, .ref rd)]) hx hb dX4_readEither_70 rfl hl (by decide) rfl (fun ls hl => ?_)
      refine lv_aload_n hx hb dX4_readEither_71 rfl (lv_at hl 5 rfl) ?_
      refine va_get (D := D) (ci := 4) (v := .ref tp) (C := RX4) (T := TX4) (N := 8) hx hb hts hin4 hown hK hP krd e_343 rfl 0 (by decide) (hts (.fieldLink RX4 12 "HoneyHouse$RuleReader" "tape" "LHoneyHouse$Tape;") (List.mem_of_getElem? (i := 1) rfl)) (fun _ h9 => h9) rfl dX4_readEither_72 ?_
      have hFc := free_all hD hS hA
      refine va_callv (va_runV (As := []) (rest := []) ⟨hx, hb, hml, hown, hts⟩ (a_advance l D ws_338 ty_339 tp ktp tl te_118 ya_125 (nI ts_117) bb k_138 c9_139 t_140 f_349 H.size (by omega) (by omega) e_344 e_348 u_350) (cwV 0 hts gX4_readEither_X6_advance rfl rfl rfl (by decide +kernel) ⟨Nat.le_of_ble_eq_true rfl, Nat.le_of_ble_eq_true rfl⟩) ⟨fun a U g mk q => by obtain ⟨q0, q1, qP, qK, qD⟩ := q; exact ⟨q0, q1, qP, va_K.moved (u := U) (U := U.calling g mk a) (Vm.Alike.refl U.vm) qK, qD⟩, va_recv hK hP (ci := 6) (q0 := ktp) rfl e_344, fun U hU hW => ⟨rfl, by rw [hU], by rw [hU]; exact hP, va_K.moved hW.alike hK, hD.weaken (fun _ _ _ _ => trivial)⟩⟩ rfl rfl hl.1 rfl (lv_room (Nat.le_of_ble_eq_true rfl)) dX4_readEither_75 ⟨Nat.le_of_ble_eq_true rfl, Nat.le_of_ble_eq_true rfl⟩) hS (fun q _ h => hFc q h) hFc (fun u t H1 locs ht hvm w_441 hB hz1 hk1 hS => ?_)
      obtain ⟨ws_442, ty_443, hm_444, ht_446, hP1, hK1, hD1, hx_445⟩ := hB
      rw [ht] at hP1
      have hK := va_K.moved hvm.symm hK1
      have hD := hD1.weaken (fun _ _ _ h => hFc _ h)
      generalize H1 = H at hP1 hS ⊢
      have hP := hP1
      have e_447 := hm_444.objK e_343 (by decide)
      obtain ⟨g_449, e_448, h_450⟩ := hm_444.obj e_344
      obtain ⟨z_451, z_452, z_453, z_454, rfl⟩ := smX6 h_450
      obtain ⟨f_456, e_455⟩ := hm_444.arrI e_345
      have u_457 := ht_446 _ _ u_347
      obtain ⟨f_459, e_458⟩ := hm_444.arrI e_348
      have u_460 := ht_446 _ _ u_350
      have hsm := hsm.tr (hm_444.mono (by decide))
      have hlp_93 := hlp_93.tr (hm_444.mono (by decide))
      have htx := htx.tr ht_446
      obtain ⟨k_461, s_462, e_463, h_464, h_465, h_466, e_467⟩ := hx_445
      refine lv_aload_n hx hb dX4_readEither_78 rfl (lv_at hl 5 rfl) ?_
      refine lv_iload_n hx hb dX4_readEither_79 rfl (lv_at hl 4 rfl) ?_
      have hFc := free_all hD hS hA
      refine va_calli (va_runV (As := [.int 6]) (rest := []) ⟨hx, hb, hml, hown, hts⟩ (r_readOne6 l D ws_442 ty_443 adK adV fo rd krd tp ktp cd bb tl  H.size (⟨s_462, e_463, cc_119, ra_120, rb_121, rc_122, rv_123, re_124, nI k_461, by omega, by omega, by omega, by omega, e_447, e_467, ⟨k_132, c9_133, t_134, f_456, e_455, u_457⟩, ⟨k_138, c9_139, t_140, f_459, e_458, u_460⟩⟩ : RS ws_442 ty_443 rd krd tp ktp cd bb tl)) (cwV 1 hts gX4_readEither_X4_readOne rfl rfl rfl (by decide +kernel) ⟨Nat.le_of_ble_eq_true rfl, Nat.le_of_ble_eq_true rfl⟩) ⟨fun a U g mk q => by obtain ⟨q0, q1, qP, qK, qD, qS⟩ := q; exact ⟨q0, q1, qP, va_K.moved (u := U) (U := U.calling g mk a) (Vm.Alike.refl U.vm) qK, qD, SZ.same rfl rfl qS⟩, va_recv hK hP (ci := 4) (q0 := krd) rfl e_447, fun U hU hW => ⟨rfl, by rw [hU], by rw [hU]; exact hP, va_K.moved hW.alike hK, hD.weaken (fun _ _ _ _ => trivial), hsz9.go hS hW hU hFc⟩⟩ rfl rfl hl.1 rfl (lv_room (Nat.le_of_ble_eq_true rfl)) dX4_readEither_80 ⟨Nat.le_of_ble_eq_true rfl, Nat.le_of_ble_eq_true rfl⟩) hS (fun q _ h => hFc q h) hFc (fun r_468 u t H1 locs ht hvm w_469 hB hz1 hk1 hS => ?_)
      obtain ⟨ws_470, ty_471, hm_472, ht_474, hP1, hK1, hD1, hx_473⟩ := hB
      rw [ht] at hP1
      have hK := va_K.moved hvm.symm hK1
      have hD := hD1.weaken (fun _ _ _ h => hFc _ h)
      generalize H1 = H at hP1 hS ⊢
      have hP := hP1
      obtain ⟨g_476, e_475, h_477⟩ := hm_472.obj e_447
      obtain ⟨z_478, z_479, z_480, z_481, z_482, z_483, rfl⟩ := smX4 h_477
      obtain ⟨g_485, e_484, h_486⟩ := hm_472.obj e_467
      obtain ⟨z_487, z_488, z_489, z_490, rfl⟩ := smX6 h_486
      obtain ⟨f_492, e_491⟩ := hm_472.arrI e_455
      have u_493 := ht_474 _ _ u_457
      obtain ⟨f_495, e_494⟩ := hm_472.arrI e_458
      have u_496 := ht_474 _ _ u_460
      have hsm := hsm.tr (hm_472.mono (by decide))
      have hlp_93 := hlp_93.tr (hm_472.mono (by decide))
      have htx := htx.tr ht_474
      obtain ⟨ts_497, te_498, cc_499, ra_500, rb_501, rc_502, rv_503, re_504, ya_505, h1_506, h2_507, h3_508, h4_509, er_510, et_511, ⟨k_512, c9_513, t_514, f_515, e_516, u_517⟩, ⟨k_518, c9_519, t_520, f_521, e_522, u_523⟩⟩ := id hx_473
      refine lv_istore_n (lv' := [(2, .int r_468), (3, .int 1), (5, .int 0), (4, .int (nI i_85)), (1, .int 6), (0, .ref rd)]) hx hb dX4_readEither_83 rfl hl (by decide) rfl (fun ls hl => ?_)
      refine lv_iload hx hb dX4_readEither_84 (lv_at hl 2 rfl) ?_
      refine lv_if_eq (tgt := 95) hx hb dX4_readEither_86 (by decide) (fun c_524 => ?_) (fun c_524 => absurd (by decide) c_524)
      refine lv_iinc (v := nI (i_85 + 1)) (lv' := [(4, .int (nI (i_85 + 1))), (2, .int r_468), (3, .int 1), (5, .int 0), (1, .int 6), (0, .ref rd)]) hx hb dX4_readEither_95 hl (k := 3) rfl (nI_add i_85 1) (by decide) rfl (fun ls hl => ?_)
      refine lv_goto (tgt := 11) hx hb dX4_readEither_98 (by decide) ?_
      exact ih_84 (i_85 + 1, r_468, 1) ws_470 _ _ ls (by show 400 - (i_85 + 1) < 400 - i_85; omega) ⟨hlp_93, ⟨ty_471, hK, htx, (⟨ts_497, te_498, cc_499, ra_500, rb_501, rc_502, rv_503, re_504, ya_505, by omega, by omega, by omega, by omega, er_510, et_511, ⟨k_512, c9_513, t_514, f_515, e_516, u_517⟩, ⟨k_518, c9_519, t_520, f_521, e_522, u_523⟩⟩ : RS ws_470 ty_471 rd krd tp ktp cd bb tl)⟩, (show (i_85 + 1) ≤ 400 from by omega), (show r_468 = 0 ∨ r_468 = 1 from w_469), (show 1 = 0 ∨ 1 = 1 from Or.inr rfl)⟩ hP hD hS (lv_sub hl [0, 1, 2, 4, 5] rfl)
    refine lv_aload_n hx hb dX4_readEither_50 rfl (lv_at hl 5 rfl) ?_
    refine lv_bipush (v := (-3)) hx hb dX4_readEither_51 (by decide) ?_
    have hFc := free_all hD hS hA
    refine va_callv (va_runV (As := [.int (-3)]) (rest := []) ⟨hx, hb, hml, hown, hts⟩ (r_addCode l D ws_338 ty_339 adK adV fo rd krd tp ktp cd bb tl (-3) H.size (⟨ts_117, te_118, cc_119, ra_120, rb_121, rc_122, rv_123, re_124, ya_125, by omega, by omega, by omega, by omega, e_343, e_344, ⟨k_132, c9_133, t_134, f_346, e_345, u_347⟩, ⟨k_138, c9_139, t_140, f_349, e_348, u_350⟩⟩ : RS ws_338 ty_339 rd krd tp ktp cd bb tl)) (cwV 1 hts gX4_readEither_X4_addCode rfl rfl rfl (by decide +kernel) ⟨Nat.le_of_ble_eq_true rfl, Nat.le_of_ble_eq_true rfl⟩) ⟨fun a U g mk q => by obtain ⟨q0, q1, qP, qK, qD, qS⟩ := q; exact ⟨q0, q1, qP, va_K.moved (u := U) (U := U.calling g mk a) (Vm.Alike.refl U.vm) qK, qD, SZ.same rfl rfl qS⟩, va_recv hK hP (ci := 4) (q0 := krd) rfl e_343, fun U hU hW => ⟨rfl, by rw [hU], by rw [hU]; exact hP, va_K.moved hW.alike hK, hD.weaken (fun _ _ _ _ => trivial), hsz9.go hS hW hU hFc⟩⟩ rfl rfl hl.1 rfl (lv_room (Nat.le_of_ble_eq_true rfl)) dX4_readEither_53 ⟨Nat.le_of_ble_eq_true rfl, Nat.le_of_ble_eq_true rfl⟩) hS (fun q _ h => hFc q h) hFc (fun u t H1 locs ht hvm w_526 hB hz1 hk1 hS => ?_)
    obtain ⟨ws_527, ty_528, hm_529, ht_531, hP1, hK1, hD1, hx_530⟩ := hB
    rw [ht] at hP1
    have hK := va_K.moved hvm.symm hK1
    have hD := hD1.weaken (fun _ _ _ h => hFc _ h)
    generalize H1 = H at hP1 hS ⊢
    have hP := hP1
    obtain ⟨g_533, e_532, h_534⟩ := hm_529.obj e_343
    obtain ⟨z_535, z_536, z_537, z_538, z_539, z_540, rfl⟩ := smX4 h_534
    obtain ⟨g_542, e_541, h_543⟩ := hm_529.obj e_344
    obtain ⟨z_544, z_545, z_546, z_547, rfl⟩ := smX6 h_543
    obtain ⟨f_549, e_548⟩ := hm_529.arrI e_345
    have u_550 := ht_531 _ _ u_347
    obtain ⟨f_552, e_551⟩ := hm_529.arrI e_348
    have u_553 := ht_531 _ _ u_350
    have hsm := hsm.tr (hm_529.mono (by decide))
    have hlp_93 := hlp_93.tr (hm_529.mono (by decide))
    have htx := htx.tr ht_531
    obtain ⟨ts_554, te_555, cc_556, ra_557, rb_558, rc_559, rv_560, re_561, ya_562, h1_563, h2_564, h3_565, h4_566, er_567, et_568, ⟨k_569, c9_570, t_571, f_572, e_573, u_574⟩, ⟨k_575, c9_576, t_577, f_578, e_579, u_580⟩⟩ := id hx_530
    refine lv_iload_n hx hb dX4_readEither_56 rfl (lv_at hl 3 rfl) ?_
    refine lv_if_ne (tgt := 65) hx hb dX4_readEither_57 (by decide) (fun c_581 => ?_) (fun c_581 => ?_)
    · refine lv_iconst (v := 1) hx hb dX4_readEither_65 (by decide) ?_
      refine lv_goto (tgt := 70) hx hb dX4_readEither_66 (by decide) ?_
      refine lv_istore_n (lv' := [(3, .int 1), (5, .int 0), (4, .int (nI i_85)), (2, .int x_86), (1, .int 6), (0, .ref rd)]) hx hb dX4_readEither_70 rfl hl (by decide) rfl (fun ls hl => ?_)
      refine lv_aload_n hx hb dX4_readEither_71 rfl (lv_at hl 5 rfl) ?_
      refine va_get (D := D) (ci := 4) (v := .ref tp) (C := RX4) (T := TX4) (N := 8) hx hb hts hin4 hown hK hP krd er_567 rfl 0 (by decide) (hts (.fieldLink RX4 12 "HoneyHouse$RuleReader" "tape" "LHoneyHouse$Tape;") (List.mem_of_getElem? (i := 1) rfl)) (fun _ h9 => h9) rfl dX4_readEither_72 ?_
      have hFc := free_all hD hS hA
      refine va_callv (va_runV (As := []) (rest := []) ⟨hx, hb, hml, hown, hts⟩ (a_advance l D ws_527 ty_528 tp ktp tl te_555 ya_562 (nI ts_554) bb k_575 c9_576 t_577 f_578 H.size (by omega) (by omega) et_568 e_579 u_580) (cwV 0 hts gX4_readEither_X6_advance rfl rfl rfl (by decide +kernel) ⟨Nat.le_of_ble_eq_true rfl, Nat.le_of_ble_eq_true rfl⟩) ⟨fun a U g mk q => by obtain ⟨q0, q1, qP, qK, qD⟩ := q; exact ⟨q0, q1, qP, va_K.moved (u := U) (U := U.calling g mk a) (Vm.Alike.refl U.vm) qK, qD⟩, va_recv hK hP (ci := 6) (q0 := ktp) rfl et_568, fun U hU hW => ⟨rfl, by rw [hU], by rw [hU]; exact hP, va_K.moved hW.alike hK, hD.weaken (fun _ _ _ _ => trivial)⟩⟩ rfl rfl hl.1 rfl (lv_room (Nat.le_of_ble_eq_true rfl)) dX4_readEither_75 ⟨Nat.le_of_ble_eq_true rfl, Nat.le_of_ble_eq_true rfl⟩) hS (fun q _ h => hFc q h) hFc (fun u t H1 locs ht hvm w_583 hB hz1 hk1 hS => ?_)
      obtain ⟨ws_584, ty_585, hm_586, ht_588, hP1, hK1, hD1, hx_587⟩ := hB
      rw [ht] at hP1
      have hK := va_K.moved hvm.symm hK1
      have hD := hD1.weaken (fun _ _ _ h => hFc _ h)
      generalize H1 = H at hP1 hS ⊢
      have hP := hP1
      have e_589 := hm_586.objK er_567 (by decide)
      obtain ⟨g_591, e_590, h_592⟩ := hm_586.obj et_568
      obtain ⟨z_593, z_594, z_595, z_596, rfl⟩ := smX6 h_592
      obtain ⟨f_598, e_597⟩ := hm_586.arrI e_573
      have u_599 := ht_588 _ _ u_574
      obtain ⟨f_601, e_600⟩ := hm_586.arrI e_579
      have u_602 := ht_588 _ _ u_580
      have hsm := hsm.tr (hm_586.mono (by decide))
      have hlp_93 := hlp_93.tr (hm_586.mono (by decide))
      have htx := htx.tr ht_588
      obtain ⟨k_603, s_604, e_605, h_606, h_607, h_608, e_609⟩ := hx_587
      refine lv_aload_n hx hb dX4_readEither_78 rfl (lv_at hl 5 rfl) ?_
      refine lv_iload_n hx hb dX4_readEither_79 rfl (lv_at hl 4 rfl) ?_
      have hFc := free_all hD hS hA
      refine va_calli (va_runV (As := [.int 6]) (rest := []) ⟨hx, hb, hml, hown, hts⟩ (r_readOne6 l D ws_584 ty_585 adK adV fo rd krd tp ktp cd bb tl  H.size (⟨s_604, e_605, cc_556, ra_557, rb_558, rc_559, rv_560, re_561, nI k_603, by omega, by omega, by omega, by omega, e_589, e_609, ⟨k_569, c9_570, t_571, f_598, e_597, u_599⟩, ⟨k_575, c9_576, t_577, f_601, e_600, u_602⟩⟩ : RS ws_584 ty_585 rd krd tp ktp cd bb tl)) (cwV 1 hts gX4_readEither_X4_readOne rfl rfl rfl (by decide +kernel) ⟨Nat.le_of_ble_eq_true rfl, Nat.le_of_ble_eq_true rfl⟩) ⟨fun a U g mk q => by obtain ⟨q0, q1, qP, qK, qD, qS⟩ := q; exact ⟨q0, q1, qP, va_K.moved (u := U) (U := U.calling g mk a) (Vm.Alike.refl U.vm) qK, qD, SZ.same rfl rfl qS⟩, va_recv hK hP (ci := 4) (q0 := krd) rfl e_589, fun U hU hW => ⟨rfl, by rw [hU], by rw [hU]; exact hP, va_K.moved hW.alike hK, hD.weaken (fun _ _ _ _ => trivial), hsz9.go hS hW hU hFc⟩⟩ rfl rfl hl.1 rfl (lv_room (Nat.le_of_ble_eq_true rfl)) dX4_readEither_80 ⟨Nat.le_of_ble_eq_true rfl, Nat.le_of_ble_eq_true rfl⟩) hS (fun q _ h => hFc q h) hFc (fun r_610 u t H1 locs ht hvm w_611 hB hz1 hk1 hS => ?_)
      obtain ⟨ws_612, ty_613, hm_614, ht_616, hP1, hK1, hD1, hx_615⟩ := hB
      rw [ht] at hP1
      have hK := va_K.moved hvm.symm hK1
      have hD := hD1.weaken (fun _ _ _ h => hFc _ h)
      generalize H1 = H at hP1 hS ⊢
      have hP := hP1
      obtain ⟨g_618, e_617, h_619⟩ := hm_614.obj e_589
      obtain ⟨z_620, z_621, z_622, z_623, z_624, z_625, rfl⟩ := smX4 h_619
      obtain ⟨g_627, e_626, h_628⟩ := hm_614.obj e_609
      obtain ⟨z_629, z_630, z_631, z_632, rfl⟩ := smX6 h_628
      obtain ⟨f_634, e_633⟩ := hm_614.arrI e_597
      have u_635 := ht_616 _ _ u_599
      obtain ⟨f_637, e_636⟩ := hm_614.arrI e_600
      have u_638 := ht_616 _ _ u_602
      have hsm := hsm.tr (hm_614.mono (by decide))
      have hlp_93 := hlp_93.tr (hm_614.mono (by decide))
      have htx := htx.tr ht_616
      obtain ⟨ts_639, te_640, cc_641, ra_642, rb_643, rc_644, rv_645, re_646, ya_647, h1_648, h2_649, h3_650, h4_651, er_652, et_653, ⟨k_654, c9_655, t_656, f_657, e_658, u_659⟩, ⟨k_660, c9_661, t_662, f_663, e_664, u_665⟩⟩ := id hx_615
      refine lv_istore_n (lv' := [(2, .int r_610), (3, .int 1), (5, .int 0), (4, .int (nI i_85)), (1, .int 6), (0, .ref rd)]) hx hb dX4_readEither_83 rfl hl (by decide) rfl (fun ls hl => ?_)
      refine lv_iload hx hb dX4_readEither_84 (lv_at hl 2 rfl) ?_
      refine lv_if_eq (tgt := 95) hx hb dX4_readEither_86 (by decide) (fun c_666 => ?_) (fun c_666 => absurd (by decide) c_666)
      refine lv_iinc (v := nI (i_85 + 1)) (lv' := [(4, .int (nI (i_85 + 1))), (2, .int r_610), (3, .int 1), (5, .int 0), (1, .int 6), (0, .ref rd)]) hx hb dX4_readEither_95 hl (k := 3) rfl (nI_add i_85 1) (by decide) rfl (fun ls hl => ?_)
      refine lv_goto (tgt := 11) hx hb dX4_readEither_98 (by decide) ?_
      exact ih_84 (i_85 + 1, r_610, 1) ws_612 _ _ ls (by show 400 - (i_85 + 1) < 400 - i_85; omega) ⟨hlp_93, ⟨ty_613, hK, htx, (⟨ts_639, te_640, cc_641, ra_642, rb_643, rc_644, rv_645, re_646, ya_647, by omega, by omega, by omega, by omega, er_652, et_653, ⟨k_654, c9_655, t_656, f_657, e_658, u_659⟩, ⟨k_660, c9_661, t_662, f_663, e_664, u_665⟩⟩ : RS ws_612 ty_613 rd krd tp ktp cd bb tl)⟩, (show (i_85 + 1) ≤ 400 from by omega), (show r_610 = 0 ∨ r_610 = 1 from w_611), (show 1 = 0 ∨ 1 = 1 from Or.inr rfl)⟩ hP hD hS (lv_sub hl [0, 1, 2, 4, 5] rfl)
    refine lv_iload hx hb dX4_readEither_60 (lv_at hl 0 rfl) ?_
    refine lv_if_ne (tgt := 69) hx hb dX4_readEither_62 (by decide) (fun c_667 => absurd (by decide) c_667) (fun c_667 => ?_)
    refine lv_iconst (v := 1) hx hb dX4_readEither_65 (by decide) ?_
    refine lv_goto (tgt := 70) hx hb dX4_readEither_66 (by decide) ?_
    refine lv_istore_n (lv' := [(3, .int 1), (5, .int 0), (4, .int (nI i_85)), (2, .int x_86), (1, .int 6), (0, .ref rd)]) hx hb dX4_readEither_70 rfl hl (by decide) rfl (fun ls hl => ?_)
    refine lv_aload_n hx hb dX4_readEither_71 rfl (lv_at hl 5 rfl) ?_
    refine va_get (D := D) (ci := 4) (v := .ref tp) (C := RX4) (T := TX4) (N := 8) hx hb hts hin4 hown hK hP krd er_567 rfl 0 (by decide) (hts (.fieldLink RX4 12 "HoneyHouse$RuleReader" "tape" "LHoneyHouse$Tape;") (List.mem_of_getElem? (i := 1) rfl)) (fun _ h9 => h9) rfl dX4_readEither_72 ?_
    have hFc := free_all hD hS hA
    refine va_callv (va_runV (As := []) (rest := []) ⟨hx, hb, hml, hown, hts⟩ (a_advance l D ws_527 ty_528 tp ktp tl te_555 ya_562 (nI ts_554) bb k_575 c9_576 t_577 f_578 H.size (by omega) (by omega) et_568 e_579 u_580) (cwV 0 hts gX4_readEither_X6_advance rfl rfl rfl (by decide +kernel) ⟨Nat.le_of_ble_eq_true rfl, Nat.le_of_ble_eq_true rfl⟩) ⟨fun a U g mk q => by obtain ⟨q0, q1, qP, qK, qD⟩ := q; exact ⟨q0, q1, qP, va_K.moved (u := U) (U := U.calling g mk a) (Vm.Alike.refl U.vm) qK, qD⟩, va_recv hK hP (ci := 6) (q0 := ktp) rfl et_568, fun U hU hW => ⟨rfl, by rw [hU], by rw [hU]; exact hP, va_K.moved hW.alike hK, hD.weaken (fun _ _ _ _ => trivial)⟩⟩ rfl rfl hl.1 rfl (lv_room (Nat.le_of_ble_eq_true rfl)) dX4_readEither_75 ⟨Nat.le_of_ble_eq_true rfl, Nat.le_of_ble_eq_true rfl⟩) hS (fun q _ h => hFc q h) hFc (fun u t H1 locs ht hvm w_669 hB hz1 hk1 hS => ?_)
    obtain ⟨ws_670, ty_671, hm_672, ht_674, hP1, hK1, hD1, hx_673⟩ := hB
    rw [ht] at hP1
    have hK := va_K.moved hvm.symm hK1
    have hD := hD1.weaken (fun _ _ _ h => hFc _ h)
    generalize H1 = H at hP1 hS ⊢
    have hP := hP1
    have e_675 := hm_672.objK er_567 (by decide)
    obtain ⟨g_677, e_676, h_678⟩ := hm_672.obj et_568
    obtain ⟨z_679, z_680, z_681, z_682, rfl⟩ := smX6 h_678
    obtain ⟨f_684, e_683⟩ := hm_672.arrI e_573
    have u_685 := ht_674 _ _ u_574
    obtain ⟨f_687, e_686⟩ := hm_672.arrI e_579
    have u_688 := ht_674 _ _ u_580
    have hsm := hsm.tr (hm_672.mono (by decide))
    have hlp_93 := hlp_93.tr (hm_672.mono (by decide))
    have htx := htx.tr ht_674
    obtain ⟨k_689, s_690, e_691, h_692, h_693, h_694, e_695⟩ := hx_673
    refine lv_aload_n hx hb dX4_readEither_78 rfl (lv_at hl 5 rfl) ?_
    refine lv_iload_n hx hb dX4_readEither_79 rfl (lv_at hl 4 rfl) ?_
    have hFc := free_all hD hS hA
    refine va_calli (va_runV (As := [.int 6]) (rest := []) ⟨hx, hb, hml, hown, hts⟩ (r_readOne6 l D ws_670 ty_671 adK adV fo rd krd tp ktp cd bb tl  H.size (⟨s_690, e_691, cc_556, ra_557, rb_558, rc_559, rv_560, re_561, nI k_689, by omega, by omega, by omega, by omega, e_675, e_695, ⟨k_569, c9_570, t_571, f_684, e_683, u_685⟩, ⟨k_575, c9_576, t_577, f_687, e_686, u_688⟩⟩ : RS ws_670 ty_671 rd krd tp ktp cd bb tl)) (cwV 1 hts gX4_readEither_X4_readOne rfl rfl rfl (by decide +kernel) ⟨Nat.le_of_ble_eq_true rfl, Nat.le_of_ble_eq_true rfl⟩) ⟨fun a U g mk q => by obtain ⟨q0, q1, qP, qK, qD, qS⟩ := q; exact ⟨q0, q1, qP, va_K.moved (u := U) (U := U.calling g mk a) (Vm.Alike.refl U.vm) qK, qD, SZ.same rfl rfl qS⟩, va_recv hK hP (ci := 4) (q0 := krd) rfl e_675, fun U hU hW => ⟨rfl, by rw [hU], by rw [hU]; exact hP, va_K.moved hW.alike hK, hD.weaken (fun _ _ _ _ => trivial), hsz9.go hS hW hU hFc⟩⟩ rfl rfl hl.1 rfl (lv_room (Nat.le_of_ble_eq_true rfl)) dX4_readEither_80 ⟨Nat.le_of_ble_eq_true rfl, Nat.le_of_ble_eq_true rfl⟩) hS (fun q _ h => hFc q h) hFc (fun r_696 u t H1 locs ht hvm w_697 hB hz1 hk1 hS => ?_)
    obtain ⟨ws_698, ty_699, hm_700, ht_702, hP1, hK1, hD1, hx_701⟩ := hB
    rw [ht] at hP1
    have hK := va_K.moved hvm.symm hK1
    have hD := hD1.weaken (fun _ _ _ h => hFc _ h)
    generalize H1 = H at hP1 hS ⊢
    have hP := hP1
    obtain ⟨g_704, e_703, h_705⟩ := hm_700.obj e_675
    obtain ⟨z_706, z_707, z_708, z_709, z_710, z_711, rfl⟩ := smX4 h_705
    obtain ⟨g_713, e_712, h_714⟩ := hm_700.obj e_695
    obtain ⟨z_715, z_716, z_717, z_718, rfl⟩ := smX6 h_714
    obtain ⟨f_720, e_719⟩ := hm_700.arrI e_683
    have u_721 := ht_702 _ _ u_685
    obtain ⟨f_723, e_722⟩ := hm_700.arrI e_686
    have u_724 := ht_702 _ _ u_688
    have hsm := hsm.tr (hm_700.mono (by decide))
    have hlp_93 := hlp_93.tr (hm_700.mono (by decide))
    have htx := htx.tr ht_702
    obtain ⟨ts_725, te_726, cc_727, ra_728, rb_729, rc_730, rv_731, re_732, ya_733, h1_734, h2_735, h3_736, h4_737, er_738, et_739, ⟨k_740, c9_741, t_742, f_743, e_744, u_745⟩, ⟨k_746, c9_747, t_748, f_749, e_750, u_751⟩⟩ := id hx_701
    refine lv_istore_n (lv' := [(2, .int r_696), (3, .int 1), (5, .int 0), (4, .int (nI i_85)), (1, .int 6), (0, .ref rd)]) hx hb dX4_readEither_83 rfl hl (by decide) rfl (fun ls hl => ?_)
    refine lv_iload hx hb dX4_readEither_84 (lv_at hl 2 rfl) ?_
    refine lv_if_eq (tgt := 95) hx hb dX4_readEither_86 (by decide) (fun c_752 => ?_) (fun c_752 => absurd (by decide) c_752)
    refine lv_iinc (v := nI (i_85 + 1)) (lv' := [(4, .int (nI (i_85 + 1))), (2, .int r_696), (3, .int 1), (5, .int 0), (1, .int 6), (0, .ref rd)]) hx hb dX4_readEither_95 hl (k := 3) rfl (nI_add i_85 1) (by decide) rfl (fun ls hl => ?_)
    refine lv_goto (tgt := 11) hx hb dX4_readEither_98 (by decide) ?_
    exact ih_84 (i_85 + 1, r_696, 1) ws_698 _ _ ls (by show 400 - (i_85 + 1) < 400 - i_85; omega) ⟨hlp_93, ⟨ty_699, hK, htx, (⟨ts_725, te_726, cc_727, ra_728, rb_729, rc_730, rv_731, re_732, ya_733, by omega, by omega, by omega, by omega, er_738, et_739, ⟨k_740, c9_741, t_742, f_743, e_744, u_745⟩, ⟨k_746, c9_747, t_748, f_749, e_750, u_751⟩⟩ : RS ws_698 ty_699 rd krd tp ktp cd bb tl)⟩, (show (i_85 + 1) ≤ 400 from by omega), (show r_696 = 0 ∨ r_696 = 1 from w_697), (show 1 = 0 ∨ 1 = 1 from Or.inr rfl)⟩ hP hD hS (lv_sub hl [0, 1, 2, 4, 5] rfl)
  refine lv_istore (lv' := [(5, .int 1), (4, .int (nI i_85)), (2, .int x_86), (3, .int y_87), (1, .int 6), (0, .ref rd)]) hx hb dX4_readEither_39 hl (by decide) rfl (fun ls hl => ?_)
  refine lv_iload hx hb dX4_readEither_41 (lv_at hl 0 rfl) ?_
  refine lv_if_ne (tgt := 56) hx hb dX4_readEither_43 (by decide) (fun c_753 => ?_) (fun c_753 => absurd c_753 (by decide))
  refine lv_iload_n hx hb dX4_readEither_56 rfl (lv_at hl 3 rfl) ?_
  refine lv_if_ne (tgt := 65) hx hb dX4_readEither_57 (by decide) (fun c_754 => ?_) (fun c_754 => ?_)
  · refine lv_iconst (v := 1) hx hb dX4_readEither_65 (by decide) ?_
    refine lv_goto (tgt := 70) hx hb dX4_readEither_66 (by decide) ?_
    refine lv_istore_n (lv' := [(3, .int 1), (5, .int 1), (4, .int (nI i_85)), (2, .int x_86), (1, .int 6), (0, .ref rd)]) hx hb dX4_readEither_70 rfl hl (by decide) rfl (fun ls hl => ?_)
    refine lv_aload_n hx hb dX4_readEither_71 rfl (lv_at hl 5 rfl) ?_
    refine va_get (D := D) (ci := 4) (v := .ref tp) (C := RX4) (T := TX4) (N := 8) hx hb hts hin4 hown hK hP krd e_343 rfl 0 (by decide) (hts (.fieldLink RX4 12 "HoneyHouse$RuleReader" "tape" "LHoneyHouse$Tape;") (List.mem_of_getElem? (i := 1) rfl)) (fun _ h9 => h9) rfl dX4_readEither_72 ?_
    have hFc := free_all hD hS hA
    refine va_callv (va_runV (As := []) (rest := []) ⟨hx, hb, hml, hown, hts⟩ (a_advance l D ws_338 ty_339 tp ktp tl te_118 ya_125 (nI ts_117) bb k_138 c9_139 t_140 f_349 H.size (by omega) (by omega) e_344 e_348 u_350) (cwV 0 hts gX4_readEither_X6_advance rfl rfl rfl (by decide +kernel) ⟨Nat.le_of_ble_eq_true rfl, Nat.le_of_ble_eq_true rfl⟩) ⟨fun a U g mk q => by obtain ⟨q0, q1, qP, qK, qD⟩ := q; exact ⟨q0, q1, qP, va_K.moved (u := U) (U := U.calling g mk a) (Vm.Alike.refl U.vm) qK, qD⟩, va_recv hK hP (ci := 6) (q0 := ktp) rfl e_344, fun U hU hW => ⟨rfl, by rw [hU], by rw [hU]; exact hP, va_K.moved hW.alike hK, hD.weaken (fun _ _ _ _ => trivial)⟩⟩ rfl rfl hl.1 rfl (lv_room (Nat.le_of_ble_eq_true rfl)) dX4_readEither_75 ⟨Nat.le_of_ble_eq_true rfl, Nat.le_of_ble_eq_true rfl⟩) hS (fun q _ h => hFc q h) hFc (fun u t H1 locs ht hvm w_756 hB hz1 hk1 hS => ?_)
    obtain ⟨ws_757, ty_758, hm_759, ht_761, hP1, hK1, hD1, hx_760⟩ := hB
    rw [ht] at hP1
    have hK := va_K.moved hvm.symm hK1
    have hD := hD1.weaken (fun _ _ _ h => hFc _ h)
    generalize H1 = H at hP1 hS ⊢
    have hP := hP1
    have e_762 := hm_759.objK e_343 (by decide)
    obtain ⟨g_764, e_763, h_765⟩ := hm_759.obj e_344
    obtain ⟨z_766, z_767, z_768, z_769, rfl⟩ := smX6 h_765
    obtain ⟨f_771, e_770⟩ := hm_759.arrI e_345
    have u_772 := ht_761 _ _ u_347
    obtain ⟨f_774, e_773⟩ := hm_759.arrI e_348
    have u_775 := ht_761 _ _ u_350
    have hsm := hsm.tr (hm_759.mono (by decide))
    have hlp_93 := hlp_93.tr (hm_759.mono (by decide))
    have htx := htx.tr ht_761
    obtain ⟨k_776, s_777, e_778, h_779, h_780, h_781, e_782⟩ := hx_760
    refine lv_aload_n hx hb dX4_readEither_78 rfl (lv_at hl 5 rfl) ?_
    refine lv_iload_n hx hb dX4_readEither_79 rfl (lv_at hl 4 rfl) ?_
    have hFc := free_all hD hS hA
    refine va_calli (va_runV (As := [.int 6]) (rest := []) ⟨hx, hb, hml, hown, hts⟩ (r_readOne6 l D ws_757 ty_758 adK adV fo rd krd tp ktp cd bb tl  H.size (⟨s_777, e_778, cc_119, ra_120, rb_121, rc_122, rv_123, re_124, nI k_776, by omega, by omega, by omega, by omega, e_762, e_782, ⟨k_132, c9_133, t_134, f_771, e_770, u_772⟩, ⟨k_138, c9_139, t_140, f_774, e_773, u_775⟩⟩ : RS ws_757 ty_758 rd krd tp ktp cd bb tl)) (cwV 1 hts gX4_readEither_X4_readOne rfl rfl rfl (by decide +kernel) ⟨Nat.le_of_ble_eq_true rfl, Nat.le_of_ble_eq_true rfl⟩) ⟨fun a U g mk q => by obtain ⟨q0, q1, qP, qK, qD, qS⟩ := q; exact ⟨q0, q1, qP, va_K.moved (u := U) (U := U.calling g mk a) (Vm.Alike.refl U.vm) qK, qD, SZ.same rfl rfl qS⟩, va_recv hK hP (ci := 4) (q0 := krd) rfl e_762, fun U hU hW => ⟨rfl, by rw [hU], by rw [hU]; exact hP, va_K.moved hW.alike hK, hD.weaken (fun _ _ _ _ => trivial), hsz9.go hS hW hU hFc⟩⟩ rfl rfl hl.1 rfl (lv_room (Nat.le_of_ble_eq_true rfl)) dX4_readEither_80 ⟨Nat.le_of_ble_eq_true rfl, Nat.le_of_ble_eq_true rfl⟩) hS (fun q _ h => hFc q h) hFc (fun r_783 u t H1 locs ht hvm w_784 hB hz1 hk1 hS => ?_)
    obtain ⟨ws_785, ty_786, hm_787, ht_789, hP1, hK1, hD1, hx_788⟩ := hB
    rw [ht] at hP1
    have hK := va_K.moved hvm.symm hK1
    have hD := hD1.weaken (fun _ _ _ h => hFc _ h)
    generalize H1 = H at hP1 hS ⊢
    have hP := hP1
    obtain ⟨g_791, e_790, h_792⟩ := hm_787.obj e_762
    obtain ⟨z_793, z_794, z_795, z_796, z_797, z_798, rfl⟩ := smX4 h_792
    obtain ⟨g_800, e_799, h_801⟩ := hm_787.obj e_782
    obtain ⟨z_802, z_803, z_804, z_805, rfl⟩ := smX6 h_801
    obtain ⟨f_807, e_806⟩ := hm_787.arrI e_770
    have u_808 := ht_789 _ _ u_772
    obtain ⟨f_810, e_809⟩ := hm_787.arrI e_773
    have u_811 := ht_789 _ _ u_775
    have hsm := hsm.tr (hm_787.mono (by decide))
    have hlp_93 := hlp_93.tr (hm_787.mono (by decide))
    have htx := htx.tr ht_789
    obtain ⟨ts_812, te_813, cc_814, ra_815, rb_816, rc_817, rv_818, re_819, ya_820, h1_821, h2_822, h3_823, h4_824, er_825, et_826, ⟨k_827, c9_828, t_829, f_830, e_831, u_832⟩, ⟨k_833, c9_834, t_835, f_836, e_837, u_838⟩⟩ := id hx_788
    refine lv_istore_n (lv' := [(2, .int r_783), (3, .int 1), (5, .int 1), (4, .int (nI i_85)), (1, .int 6), (0, .ref rd)]) hx hb dX4_readEither_83 rfl hl (by decide) rfl (fun ls hl => ?_)
    refine lv_iload hx hb dX4_readEither_84 (lv_at hl 2 rfl) ?_
    refine lv_if_eq (tgt := 95) hx hb dX4_readEither_86 (by decide) (fun c_839 => absurd c_839 (by decide)) (fun c_839 => ?_)
    refine lv_aload_n hx hb dX4_readEither_89 rfl (lv_at hl 5 rfl) ?_
    refine lv_bipush (v := (-2)) hx hb dX4_readEither_90 (by decide) ?_
    have hFc := free_all hD hS hA
    refine va_callv (va_runV (As := [.int (-2)]) (rest := []) ⟨hx, hb, hml, hown, hts⟩ (r_addCode l D ws_785 ty_786 adK adV fo rd krd tp ktp cd bb tl (-2) H.size (⟨ts_812, te_813, cc_814, ra_815, rb_816, rc_817, rv_818, re_819, ya_820, by omega, by omega, by omega, by omega, er_825, et_826, ⟨k_827, c9_828, t_829, f_830, e_831, u_832⟩, ⟨k_833, c9_834, t_835, f_836, e_837, u_838⟩⟩ : RS ws_785 ty_786 rd krd tp ktp cd bb tl)) (cwV 1 hts gX4_readEither_X4_addCode rfl rfl rfl (by decide +kernel) ⟨Nat.le_of_ble_eq_true rfl, Nat.le_of_ble_eq_true rfl⟩) ⟨fun a U g mk q => by obtain ⟨q0, q1, qP, qK, qD, qS⟩ := q; exact ⟨q0, q1, qP, va_K.moved (u := U) (U := U.calling g mk a) (Vm.Alike.refl U.vm) qK, qD, SZ.same rfl rfl qS⟩, va_recv hK hP (ci := 4) (q0 := krd) rfl er_825, fun U hU hW => ⟨rfl, by rw [hU], by rw [hU]; exact hP, va_K.moved hW.alike hK, hD.weaken (fun _ _ _ _ => trivial), hsz9.go hS hW hU hFc⟩⟩ rfl rfl hl.1 rfl (lv_room (Nat.le_of_ble_eq_true rfl)) dX4_readEither_92 ⟨Nat.le_of_ble_eq_true rfl, Nat.le_of_ble_eq_true rfl⟩) hS (fun q _ h => hFc q h) hFc (fun u t H1 locs ht hvm w_841 hB hz1 hk1 hS => ?_)
    obtain ⟨ws_842, ty_843, hm_844, ht_846, hP1, hK1, hD1, hx_845⟩ := hB
    rw [ht] at hP1
    have hK := va_K.moved hvm.symm hK1
    have hD := hD1.weaken (fun _ _ _ h => hFc _ h)
    generalize H1 = H at hP1 hS ⊢
    have hP := hP1
    obtain ⟨g_848, e_847, h_849⟩ := hm_844.obj er_825
    obtain ⟨z_850, z_851, z_852, z_853, z_854, z_855, rfl⟩ := smX4 h_849
    obtain ⟨g_857, e_856, h_858⟩ := hm_844.obj et_826
    obtain ⟨z_859, z_860, z_861, z_862, rfl⟩ := smX6 h_858
    obtain ⟨f_864, e_863⟩ := hm_844.arrI e_831
    have u_865 := ht_846 _ _ u_832
    obtain ⟨f_867, e_866⟩ := hm_844.arrI e_837
    have u_868 := ht_846 _ _ u_838
    have hsm := hsm.tr (hm_844.mono (by decide))
    have hlp_93 := hlp_93.tr (hm_844.mono (by decide))
    have htx := htx.tr ht_846
    obtain ⟨ts_869, te_870, cc_871, ra_872, rb_873, rc_874, rv_875, re_876, ya_877, h1_878, h2_879, h3_880, h4_881, er_882, et_883, ⟨k_884, c9_885, t_886, f_887, e_888, u_889⟩, ⟨k_890, c9_891, t_892, f_893, e_894, u_895⟩⟩ := id hx_845
    refine lv_iinc (v := nI (i_85 + 1)) (lv' := [(4, .int (nI (i_85 + 1))), (2, .int r_783), (3, .int 1), (5, .int 1), (1, .int 6), (0, .ref rd)]) hx hb dX4_readEither_95 hl (k := 3) rfl (nI_add i_85 1) (by decide) rfl (fun ls hl => ?_)
    refine lv_goto (tgt := 11) hx hb dX4_readEither_98 (by decide) ?_
    exact ih_84 (i_85 + 1, r_783, 1) ws_842 _ _ ls (by show 400 - (i_85 + 1) < 400 - i_85; omega) ⟨hlp_93, ⟨ty_843, hK, htx, (⟨ts_869, te_870, cc_871, ra_872, rb_873, rc_874, rv_875, re_876, ya_877, by omega, by omega, by omega, by omega, er_882, et_883, ⟨k_884, c9_885, t_886, f_887, e_888, u_889⟩, ⟨k_890, c9_891, t_892, f_893, e_894, u_895⟩⟩ : RS ws_842 ty_843 rd krd tp ktp cd bb tl)⟩, (show (i_85 + 1) ≤ 400 from by omega), (show r_783 = 0 ∨ r_783 = 1 from w_784), (show 1 = 0 ∨ 1 = 1 from Or.inr rfl)⟩ hP hD hS (lv_sub hl [0, 1, 2, 4, 5] rfl)
  refine lv_iload hx hb dX4_readEither_60 (lv_at hl 0 rfl) ?_
  refine lv_if_ne (tgt := 69) hx hb dX4_readEither_62 (by decide) (fun c_896 => ?_) (fun c_896 => absurd c_896 (by decide))
  refine lv_iconst (v := 0) hx hb dX4_readEither_69 (by decide) ?_
  refine lv_istore_n (lv' := [(3, .int 0), (5, .int 1), (4, .int (nI i_85)), (2, .int x_86), (1, .int 6), (0, .ref rd)]) hx hb dX4_readEither_70 rfl hl (by decide) rfl (fun ls hl => ?_)
  refine lv_aload_n hx hb dX4_readEither_71 rfl (lv_at hl 5 rfl) ?_
  refine va_get (D := D) (ci := 4) (v := .ref tp) (C := RX4) (T := TX4) (N := 8) hx hb hts hin4 hown hK hP krd e_343 rfl 0 (by decide) (hts (.fieldLink RX4 12 "HoneyHouse$RuleReader" "tape" "LHoneyHouse$Tape;") (List.mem_of_getElem? (i := 1) rfl)) (fun _ h9 => h9) rfl dX4_readEither_72 ?_
  have hFc := free_all hD hS hA
  refine va_callv (va_runV (As := []) (rest := []) ⟨hx, hb, hml, hown, hts⟩ (a_advance l D ws_338 ty_339 tp ktp tl te_118 ya_125 (nI ts_117) bb k_138 c9_139 t_140 f_349 H.size (by omega) (by omega) e_344 e_348 u_350) (cwV 0 hts gX4_readEither_X6_advance rfl rfl rfl (by decide +kernel) ⟨Nat.le_of_ble_eq_true rfl, Nat.le_of_ble_eq_true rfl⟩) ⟨fun a U g mk q => by obtain ⟨q0, q1, qP, qK, qD⟩ := q; exact ⟨q0, q1, qP, va_K.moved (u := U) (U := U.calling g mk a) (Vm.Alike.refl U.vm) qK, qD⟩, va_recv hK hP (ci := 6) (q0 := ktp) rfl e_344, fun U hU hW => ⟨rfl, by rw [hU], by rw [hU]; exact hP, va_K.moved hW.alike hK, hD.weaken (fun _ _ _ _ => trivial)⟩⟩ rfl rfl hl.1 rfl (lv_room (Nat.le_of_ble_eq_true rfl)) dX4_readEither_75 ⟨Nat.le_of_ble_eq_true rfl, Nat.le_of_ble_eq_true rfl⟩) hS (fun q _ h => hFc q h) hFc (fun u t H1 locs ht hvm w_898 hB hz1 hk1 hS => ?_)
  obtain ⟨ws_899, ty_900, hm_901, ht_903, hP1, hK1, hD1, hx_902⟩ := hB
  rw [ht] at hP1
  have hK := va_K.moved hvm.symm hK1
  have hD := hD1.weaken (fun _ _ _ h => hFc _ h)
  generalize H1 = H at hP1 hS ⊢
  have hP := hP1
  have e_904 := hm_901.objK e_343 (by decide)
  obtain ⟨g_906, e_905, h_907⟩ := hm_901.obj e_344
  obtain ⟨z_908, z_909, z_910, z_911, rfl⟩ := smX6 h_907
  obtain ⟨f_913, e_912⟩ := hm_901.arrI e_345
  have u_914 := ht_903 _ _ u_347
  obtain ⟨f_916, e_915⟩ := hm_901.arrI e_348
  have u_917 := ht_903 _ _ u_350
  have hsm := hsm.tr (hm_901.mono (by decide))
  have hlp_93 := hlp_93.tr (hm_901.mono (by decide))
  have htx := htx.tr ht_903
  obtain ⟨k_918, s_919, e_920, h_921, h_922, h_923, e_924⟩ := hx_902
  refine lv_aload_n hx hb dX4_readEither_78 rfl (lv_at hl 5 rfl) ?_
  refine lv_iload_n hx hb dX4_readEither_79 rfl (lv_at hl 4 rfl) ?_
  have hFc := free_all hD hS hA
  refine va_calli (va_runV (As := [.int 6]) (rest := []) ⟨hx, hb, hml, hown, hts⟩ (r_readOne6 l D ws_899 ty_900 adK adV fo rd krd tp ktp cd bb tl  H.size (⟨s_919, e_920, cc_119, ra_120, rb_121, rc_122, rv_123, re_124, nI k_918, by omega, by omega, by omega, by omega, e_904, e_924, ⟨k_132, c9_133, t_134, f_913, e_912, u_914⟩, ⟨k_138, c9_139, t_140, f_916, e_915, u_917⟩⟩ : RS ws_899 ty_900 rd krd tp ktp cd bb tl)) (cwV 1 hts gX4_readEither_X4_readOne rfl rfl rfl (by decide +kernel) ⟨Nat.le_of_ble_eq_true rfl, Nat.le_of_ble_eq_true rfl⟩) ⟨fun a U g mk q => by obtain ⟨q0, q1, qP, qK, qD, qS⟩ := q; exact ⟨q0, q1, qP, va_K.moved (u := U) (U := U.calling g mk a) (Vm.Alike.refl U.vm) qK, qD, SZ.same rfl rfl qS⟩, va_recv hK hP (ci := 4) (q0 := krd) rfl e_904, fun U hU hW => ⟨rfl, by rw [hU], by rw [hU]; exact hP, va_K.moved hW.alike hK, hD.weaken (fun _ _ _ _ => trivial), hsz9.go hS hW hU hFc⟩⟩ rfl rfl hl.1 rfl (lv_room (Nat.le_of_ble_eq_true rfl)) dX4_readEither_80 ⟨Nat.le_of_ble_eq_true rfl, Nat.le_of_ble_eq_true rfl⟩) hS (fun q _ h => hFc q h) hFc (fun r_925 u t H1 locs ht hvm w_926 hB hz1 hk1 hS => ?_)
  obtain ⟨ws_927, ty_928, hm_929, ht_931, hP1, hK1, hD1, hx_930⟩ := hB
  rw [ht] at hP1
  have hK := va_K.moved hvm.symm hK1
  have hD := hD1.weaken (fun _ _ _ h => hFc _ h)
  generalize H1 = H at hP1 hS ⊢
  have hP := hP1
  obtain ⟨g_933, e_932, h_934⟩ := hm_929.obj e_904
  obtain ⟨z_935, z_936, z_937, z_938, z_939, z_940, rfl⟩ := smX4 h_934
  obtain ⟨g_942, e_941, h_943⟩ := hm_929.obj e_924
  obtain ⟨z_944, z_945, z_946, z_947, rfl⟩ := smX6 h_943
  obtain ⟨f_949, e_948⟩ := hm_929.arrI e_912
  have u_950 := ht_931 _ _ u_914
  obtain ⟨f_952, e_951⟩ := hm_929.arrI e_915
  have u_953 := ht_931 _ _ u_917
  have hsm := hsm.tr (hm_929.mono (by decide))
  have hlp_93 := hlp_93.tr (hm_929.mono (by decide))
  have htx := htx.tr ht_931
  obtain ⟨ts_954, te_955, cc_956, ra_957, rb_958, rc_959, rv_960, re_961, ya_962, h1_963, h2_964, h3_965, h4_966, er_967, et_968, ⟨k_969, c9_970, t_971, f_972, e_973, u_974⟩, ⟨k_975, c9_976, t_977, f_978, e_979, u_980⟩⟩ := id hx_930
  refine lv_istore_n (lv' := [(2, .int r_925), (3, .int 0), (5, .int 1), (4, .int (nI i_85)), (1, .int 6), (0, .ref rd)]) hx hb dX4_readEither_83 rfl hl (by decide) rfl (fun ls hl => ?_)
  refine lv_iload hx hb dX4_readEither_84 (lv_at hl 2 rfl) ?_
  refine lv_if_eq (tgt := 95) hx hb dX4_readEither_86 (by decide) (fun c_981 => absurd c_981 (by decide)) (fun c_981 => ?_)
  refine lv_aload_n hx hb dX4_readEither_89 rfl (lv_at hl 5 rfl) ?_
  refine lv_bipush (v := (-2)) hx hb dX4_readEither_90 (by decide) ?_
  have hFc := free_all hD hS hA
  refine va_callv (va_runV (As := [.int (-2)]) (rest := []) ⟨hx, hb, hml, hown, hts⟩ (r_addCode l D ws_927 ty_928 adK adV fo rd krd tp ktp cd bb tl (-2) H.size (⟨ts_954, te_955, cc_956, ra_957, rb_958, rc_959, rv_960, re_961, ya_962, by omega, by omega, by omega, by omega, er_967, et_968, ⟨k_969, c9_970, t_971, f_972, e_973, u_974⟩, ⟨k_975, c9_976, t_977, f_978, e_979, u_980⟩⟩ : RS ws_927 ty_928 rd krd tp ktp cd bb tl)) (cwV 1 hts gX4_readEither_X4_addCode rfl rfl rfl (by decide +kernel) ⟨Nat.le_of_ble_eq_true rfl, Nat.le_of_ble_eq_true rfl⟩) ⟨fun a U g mk q => by obtain ⟨q0, q1, qP, qK, qD, qS⟩ := q; exact ⟨q0, q1, qP, va_K.moved (u := U) (U := U.calling g mk a) (Vm.Alike.refl U.vm) qK, qD, SZ.same rfl rfl qS⟩, va_recv hK hP (ci := 4) (q0 := krd) rfl er_967, fun U hU hW => ⟨rfl, by rw [hU], by rw [hU]; exact hP, va_K.moved hW.alike hK, hD.weaken (fun _ _ _ _ => trivial), hsz9.go hS hW hU hFc⟩⟩ rfl rfl hl.1 rfl (lv_room (Nat.le_of_ble_eq_true rfl)) dX4_readEither_92 ⟨Nat.le_of_ble_eq_true rfl, Nat.le_of_ble_eq_true rfl⟩) hS (fun q _ h => hFc q h) hFc (fun u t H1 locs ht hvm w_983 hB hz1 hk1 hS => ?_)
  obtain ⟨ws_984, ty_985, hm_986, ht_988, hP1, hK1, hD1, hx_987⟩ := hB
  rw [ht] at hP1
  have hK := va_K.moved hvm.symm hK1
  have hD := hD1.weaken (fun _ _ _ h => hFc _ h)
  generalize H1 = H at hP1 hS ⊢
  have hP := hP1
  obtain ⟨g_990, e_989, h_991⟩ := hm_986.obj er_967
  obtain ⟨z_992, z_993, z_994, z_995, z_996, z_997, rfl⟩ := smX4 h_991
  obtain ⟨g_999, e_998, h_1000⟩ := hm_986.obj et_968
  obtain ⟨z_1001, z_1002, z_1003, z_1004, rfl⟩ := smX6 h_1000
  obtain ⟨f_1006, e_1005⟩ := hm_986.arrI e_973
  have u_1007 := ht_988 _ _ u_974
  obtain ⟨f_1009, e_1008⟩ := hm_986.arrI e_979
  have u_1010 := ht_988 _ _ u_980
  have hsm := hsm.tr (hm_986.mono (by decide))
  have hlp_93 := hlp_93.tr (hm_986.mono (by decide))
  have htx := htx.tr ht_988
  obtain ⟨ts_1011, te_1012, cc_1013, ra_1014, rb_1015, rc_1016, rv_1017, re_1018, ya_1019, h1_1020, h2_1021, h3_1022, h4_1023, er_1024, et_1025, ⟨k_1026, c9_1027, t_1028, f_1029, e_1030, u_1031⟩, ⟨k_1032, c9_1033, t_1034, f_1035, e_1036, u_1037⟩⟩ := id hx_987
  refine lv_iinc (v := nI (i_85 + 1)) (lv' := [(4, .int (nI (i_85 + 1))), (2, .int r_925), (3, .int 0), (5, .int 1), (1, .int 6), (0, .ref rd)]) hx hb dX4_readEither_95 hl (k := 3) rfl (nI_add i_85 1) (by decide) rfl (fun ls hl => ?_)
  refine lv_goto (tgt := 11) hx hb dX4_readEither_98 (by decide) ?_
  exact ih_84 (i_85 + 1, r_925, 0) ws_984 _ _ ls (by show 400 - (i_85 + 1) < 400 - i_85; omega) ⟨hlp_93, ⟨ty_985, hK, htx, (⟨ts_1011, te_1012, cc_1013, ra_1014, rb_1015, rc_1016, rv_1017, re_1018, ya_1019, by omega, by omega, by omega, by omega, er_1024, et_1025, ⟨k_1026, c9_1027, t_1028, f_1029, e_1030, u_1031⟩, ⟨k_1032, c9_1033, t_1034, f_1035, e_1036, u_1037⟩⟩ : RS ws_984 ty_985 rd krd tp ktp cd bb tl)⟩, (show (i_85 + 1) ≤ 400 from by omega), (show r_925 = 0 ∨ r_925 = 1 from w_926), (show 0 = 0 ∨ 0 = 1 from Or.inl rfl)⟩ hP hD hS (lv_sub hl [0, 1, 2, 4, 5] rfl)
set_option maxHeartbeats 4000000 in
set_option maxRecDepth 100000 in
theorem r_readOne5 (l : Launch) (D : va_G) (ws : va_W) (tys : List (ClassId × FieldType)) (adK adV : Nat → Nat) (fo : Option Nat) (rd krd tp ktp cd bb tl : Nat)  (sz : Nat) (R0 : RS ws tys rd krd tp ktp cd bb tl)  : Met l yX4_readOne wsX4_readOne ({ frames := 9, cells := 0, slots := 0, locals := 197 }) (va_Pc [.ref rd, .int 5] (fun U => U.heap.size = sz ∧ va_P D vwCl ws U.heap ∧ va_K D vwCl tys U ∧ va_D (fun _ => True) ws ∧ SZ adK adV fo (va_A ws sz) U U.heap)) (va_Qi (fun (r : Int32) (_ : Unit) => r = 0 ∨ r = 1) (fun (_ : Unit) (t : State) => ∃ (ws' : va_W) (tys' : List (ClassId × FieldType)), sm [4, 6] ws ws' ∧ tyx tys tys' ∧ va_P D vwCl ws' t.heap ∧ va_K D vwCl tys' t ∧ va_D (va_A ws sz) ws' ∧ RS ws' tys' rd krd tp ktp cd bb tl) (va_A ws sz)) 0 0 (va_A ws sz) := by
  refine Met.ofW (cc := cX4_readOne) (maxL := 4) (ret := (some .boolean)) (by decide) rfl ?_
  intro p e s m args below meth c s₁ B hml hv
  obtain ⟨rfl, hsz, hP, hK, hD0, hsz9⟩ := hv
  have hx := B.exec
  have hb := B.bytes
  have hr := B.returns
  have hts := atoms_spec (ws := wsX4_readOne) B.pre
  have hown : s.vm.findClass RX4 = some m.cls := findClass_of_methodNamed B.named
  have hlocks := B.notSynchronized
  subst hsz
  have hD := hD0.self (sz := s.heap.size)
  generalize hAe : va_A ws s.heap.size = A at hD hsz9 ⊢
  have hA : ∀ q : Nat, s.heap.size ≤ q → A q := fun q h => by rw [← hAe]; exact Or.inr h
  have hS : va_S A s.heap s.heap [] := va_S.rf
  have hsm : sm [4, 6] ws ws := sm.rf ws
  have htx : tyx tys tys := tyx.rf tys
  have hin4 : ∀ w ∈ u_ws RX4 TX4 8, w ∈ wsX4_readOne := (fun _ h9 => List.mem_cons_of_mem _ (List.mem_append_left _ ((List.mem_append_right _ h9))))
  have hl := lv_entry ([.ref rd, .int 5]) (n := 4) (Nat.le_of_ble_eq_true rfl)
  rw [lg_entry_eq]
  generalize (lg_sl ([.ref rd, .int 5]) ++ List.replicate (4 - (lg_sl ([.ref rd, .int 5])).length) Slot.unset).toArray = ls at hl ⊢
  have hl : lv_has ls 4 [(0, .ref rd), (1, .int 5)] := hl
  obtain ⟨ts_1, te_2, cc_3, ra_4, rb_5, rc_6, rv_7, re_8, ya_9, h1_10, h2_11, h3_12, h4_13, er_14, et_15, ⟨k_16, c9_17, t_18, f_19, e_20, u_21⟩, ⟨k_22, c9_23, t_24, f_25, e_26, u_27⟩⟩ := id R0
  refine lv_aload_n hx hb dX4_readOne_0 rfl (lv_at hl 0 rfl) ?_
  refine va_get (D := D) (ci := 4) (v := .ref tp) (C := RX4) (T := TX4) (N := 8) hx hb hts hin4 hown hK hP krd er_14 rfl 0 (by decide) (hts (.fieldLink RX4 12 "HoneyHouse$RuleReader" "tape" "LHoneyHouse$Tape;") (List.mem_of_getElem? (i := 1) rfl)) (fun _ h9 => h9) rfl dX4_readOne_1 ?_
  refine va_ldcS hx hb hown hsz9.2.2.2.2.2.2.1 dX4_readOne_4 ?_
  have hFc := free_all hD hS hA
  refine va_calli (va_runV (As := [.ref (adK 3)]) (rest := []) ⟨hx, hb, hml, hown, hts⟩ (a_isWord l D ws tys adK adV fo 3 tp ktp tl ya_9 (nI ts_1) (nI te_2) bb k_22 c9_23 t_24 f_25 s.heap.size (by decide) et_15 e_26 u_27) (cwV 1 hts gX4_readOne_X6_isWord rfl rfl rfl (by decide +kernel) ⟨Nat.le_of_ble_eq_true rfl, Nat.le_of_ble_eq_true rfl⟩) ⟨fun a U g mk q => by obtain ⟨q0, q1, qP, qK, qD, qS⟩ := q; exact ⟨q0, q1, qP, va_K.moved (u := U) (U := U.calling g mk a) (Vm.Alike.refl U.vm) qK, qD, SZ.same rfl rfl qS⟩, va_recv hK hP (ci := 6) (q0 := ktp) rfl et_15, fun U hU hW => ⟨rfl, by rw [hU], by rw [hU]; exact hP, va_K.moved hW.alike hK, hD.weaken (fun _ _ _ _ => trivial), hsz9.go hS hW hU hFc⟩⟩ rfl rfl hl.1 rfl (lv_room (Nat.le_of_ble_eq_true rfl)) dX4_readOne_6 ⟨Nat.le_of_ble_eq_true rfl, Nat.le_of_ble_eq_true rfl⟩) hS (fun q _ h => hFc q h) hFc (fun r_28 u t H1 locs ht hvm w_29 hB hz1 hk1 hS => ?_)
  obtain ⟨ws_30, ty_31, hm_32, ht_34, hP1, hK1, hD1, hx_33⟩ := hB
  rw [ht] at hP1
  have hK := va_K.moved hvm.symm hK1
  have hD := hD1.weaken (fun _ _ _ h => hFc _ h)
  generalize H1 = H at hP1 hS ⊢
  have hP := hP1
  have e_35 := hm_32.objK er_14 (by decide)
  have e_36 := hm_32.objK et_15 (by decide)
  obtain ⟨f_38, e_37⟩ := hm_32.arrI e_20
  have u_39 := ht_34 _ _ u_21
  obtain ⟨f_41, e_40⟩ := hm_32.arrI e_26
  have u_42 := ht_34 _ _ u_27
  have hsm := hsm.tr (hm_32.mono (by decide))
  have htx := htx.tr ht_34
  rcases w_29 with rfl | rfl
  · refine lv_istore_n (lv' := [(2, .int 0), (0, .ref rd), (1, .int 5)]) hx hb dX4_readOne_9 rfl hl (by decide) rfl (fun ls hl => ?_)
    refine lv_iload_n hx hb dX4_readOne_10 rfl (lv_at hl 0 rfl) ?_
    refine lv_if_ne (tgt := 31) hx hb dX4_readOne_11 (by decide) (fun c_43 => absurd (by decide) c_43) (fun c_43 => ?_)
    refine lv_aload_n hx hb dX4_readOne_14 rfl (lv_at hl 1 rfl) ?_
    refine va_get (D := D) (ci := 4) (v := .ref tp) (C := RX4) (T := TX4) (N := 8) hx hb hts hin4 hown hK hP krd e_35 rfl 0 (by decide) (hts (.fieldLink RX4 12 "HoneyHouse$RuleReader" "tape" "LHoneyHouse$Tape;") (List.mem_of_getElem? (i := 1) rfl)) (fun _ h9 => h9) rfl dX4_readOne_15 ?_
    refine lv_bipush (v := 40) hx hb dX4_readOne_18 (by decide) ?_
    refine vp_callSi (W.runV (As := [.int 40]) (rest := []) ⟨hx, hb, hml, hown, hts⟩ (s_isByte l D ws_30 ty_31 tp ktp tl ya_9 (nI ts_1) (nI te_2) bb k_22 c9_23 t_24 f_41 40 e_36 e_40 u_42) (cwV 1 hts gX4_readOne_X6_isByte rfl rfl rfl (by decide +kernel) ⟨Nat.le_of_ble_eq_true rfl, Nat.le_of_ble_eq_true rfl⟩) ⟨fun a U g mk q => ⟨q.1, q.2.1, va_K.moved (u := U) (U := U.calling g mk a) (Vm.Alike.refl U.vm) q.2.2⟩, va_recv hK hP (ci := 6) (q0 := ktp) rfl e_36, fun U hU hW => ⟨rfl, by rw [hU]; exact hP, va_K.moved hW.alike hK⟩⟩ rfl rfl hl.1 rfl (lv_room (Nat.le_of_ble_eq_true rfl)) dX4_readOne_20 ⟨Nat.le_of_ble_eq_true rfl, Nat.le_of_ble_eq_true rfl⟩) (fun r_44 k_45 => ?_)
    rcases k_45 with rfl | rfl
    · refine lv_if_ne (tgt := 31) hx hb dX4_readOne_23 (by decide) (fun c_46 => absurd (by decide) c_46) (fun c_46 => ?_)
      refine lv_aload_n hx hb dX4_readOne_26 rfl (lv_at hl 1 rfl) ?_
      have hFc := free_all hD hS hA
      refine va_calli (va_runV (As := []) (rest := []) ⟨hx, hb, hml, hown, hts⟩ (r_readTest l D ws_30 ty_31 adK adV fo rd krd tp ktp cd bb tl  H.size (⟨ts_1, te_2, cc_3, ra_4, rb_5, rc_6, rv_7, re_8, ya_9, by omega, by omega, by omega, by omega, e_35, e_36, ⟨k_16, c9_17, t_18, f_38, e_37, u_39⟩, ⟨k_22, c9_23, t_24, f_41, e_40, u_42⟩⟩ : RS ws_30 ty_31 rd krd tp ktp cd bb tl)) (cwV 0 hts gX4_readOne_X4_readTest rfl rfl rfl (by decide +kernel) ⟨Nat.le_of_ble_eq_true rfl, Nat.le_of_ble_eq_true rfl⟩) ⟨fun a U g mk q => by obtain ⟨q0, q1, qP, qK, qD, qS⟩ := q; exact ⟨q0, q1, qP, va_K.moved (u := U) (U := U.calling g mk a) (Vm.Alike.refl U.vm) qK, qD, SZ.same rfl rfl qS⟩, va_recv hK hP (ci := 4) (q0 := krd) rfl e_35, fun U hU hW => ⟨rfl, by rw [hU], by rw [hU]; exact hP, va_K.moved hW.alike hK, hD.weaken (fun _ _ _ _ => trivial), hsz9.go hS hW hU hFc⟩⟩ rfl rfl hl.1 rfl (lv_room (Nat.le_of_ble_eq_true rfl)) dX4_readOne_27 ⟨Nat.le_of_ble_eq_true rfl, Nat.le_of_ble_eq_true rfl⟩) hS (fun q _ h => hFc q h) hFc (fun r_47 u t H1 locs ht hvm w_48 hB hz1 hk1 hS => ?_)
      obtain ⟨ws_49, ty_50, hm_51, ht_53, hP1, hK1, hD1, hx_52⟩ := hB
      rw [ht] at hP1
      have hK := va_K.moved hvm.symm hK1
      have hD := hD1.weaken (fun _ _ _ h => hFc _ h)
      generalize H1 = H at hP1 hS ⊢
      have hP := hP1
      obtain ⟨g_55, e_54, h_56⟩ := hm_51.obj e_35
      obtain ⟨z_57, z_58, z_59, z_60, z_61, z_62, rfl⟩ := smX4 h_56
      obtain ⟨g_64, e_63, h_65⟩ := hm_51.obj e_36
      obtain ⟨z_66, z_67, z_68, z_69, rfl⟩ := smX6 h_65
      obtain ⟨f_71, e_70⟩ := hm_51.arrI e_37
      have u_72 := ht_53 _ _ u_39
      obtain ⟨f_74, e_73⟩ := hm_51.arrI e_40
      have u_75 := ht_53 _ _ u_42
      have hsm := hsm.tr (hm_51.mono (by decide))
      have htx := htx.tr ht_53
      obtain ⟨ts_76, te_77, cc_78, ra_79, rb_80, rc_81, rv_82, re_83, ya_84, h1_85, h2_86, h3_87, h4_88, er_89, et_90, ⟨k_91, c9_92, t_93, f_94, e_95, u_96⟩, ⟨k_97, c9_98, t_99, f_100, e_101, u_102⟩⟩ := id hx_52
      exact W.zret (v := r_47) hx hb hr (by rcases w_48 with h9 | h9 <;> rw [h9] <;> rfl) (fun t ht hW => ⟨⟨r_47, (), rfl, w_48, ws_49, ty_50, hsm, htx, by rw [ht]; exact hP, va_K.moved hW.alike hK, hD, (⟨ts_76, te_77, cc_78, ra_79, rb_80, rc_81, rv_82, re_83, ya_84, by omega, by omega, by omega, by omega, er_89, et_90, ⟨k_91, c9_92, t_93, f_94, e_95, u_96⟩, ⟨k_97, c9_98, t_99, f_100, e_101, u_102⟩⟩ : RS ws_49 ty_50 rd krd tp ktp cd bb tl)⟩, hS.F ht⟩) hS.2.2 dX4_readOne_30
    refine lv_if_ne (tgt := 31) hx hb dX4_readOne_23 (by decide) (fun c_103 => ?_) (fun c_103 => absurd c_103 (by decide))
    refine lv_iload_n hx hb dX4_readOne_31 rfl (lv_at hl 2 rfl) ?_
    refine lv_bipush (v := 6) hx hb dX4_readOne_32 (by decide) ?_
    refine lv_icmp_lt (tgt := 50) hx hb dX4_readOne_34 (by decide) (fun c_104 => ?_) (fun c_104 => absurd (by decide) c_104)
    refine lv_aload_n hx hb dX4_readOne_50 rfl (lv_at hl 1 rfl) ?_
    refine va_get (D := D) (ci := 4) (v := .ref tp) (C := RX4) (T := TX4) (N := 8) hx hb hts hin4 hown hK hP krd e_35 rfl 0 (by decide) (hts (.fieldLink RX4 12 "HoneyHouse$RuleReader" "tape" "LHoneyHouse$Tape;") (List.mem_of_getElem? (i := 1) rfl)) (fun _ h9 => h9) rfl dX4_readOne_51 ?_
    have hFc := free_all hD hS hA
    refine va_callv (va_runV (As := []) (rest := []) ⟨hx, hb, hml, hown, hts⟩ (a_advance l D ws_30 ty_31 tp ktp tl te_2 ya_9 (nI ts_1) bb k_22 c9_23 t_24 f_41 H.size (by omega) (by omega) e_36 e_40 u_42) (cwV 0 hts gX4_readOne_X6_advance rfl rfl rfl (by decide +kernel) ⟨Nat.le_of_ble_eq_true rfl, Nat.le_of_ble_eq_true rfl⟩) ⟨fun a U g mk q => by obtain ⟨q0, q1, qP, qK, qD⟩ := q; exact ⟨q0, q1, qP, va_K.moved (u := U) (U := U.calling g mk a) (Vm.Alike.refl U.vm) qK, qD⟩, va_recv hK hP (ci := 6) (q0 := ktp) rfl e_36, fun U hU hW => ⟨rfl, by rw [hU], by rw [hU]; exact hP, va_K.moved hW.alike hK, hD.weaken (fun _ _ _ _ => trivial)⟩⟩ rfl rfl hl.1 rfl (lv_room (Nat.le_of_ble_eq_true rfl)) dX4_readOne_54 ⟨Nat.le_of_ble_eq_true rfl, Nat.le_of_ble_eq_true rfl⟩) hS (fun q _ h => hFc q h) hFc (fun u t H1 locs ht hvm w_106 hB hz1 hk1 hS => ?_)
    obtain ⟨ws_107, ty_108, hm_109, ht_111, hP1, hK1, hD1, hx_110⟩ := hB
    rw [ht] at hP1
    have hK := va_K.moved hvm.symm hK1
    have hD := hD1.weaken (fun _ _ _ h => hFc _ h)
    generalize H1 = H at hP1 hS ⊢
    have hP := hP1
    have e_112 := hm_109.objK e_35 (by decide)
    obtain ⟨g_114, e_113, h_115⟩ := hm_109.obj e_36
    obtain ⟨z_116, z_117, z_118, z_119, rfl⟩ := smX6 h_115
    obtain ⟨f_121, e_120⟩ := hm_109.arrI e_37
    have u_122 := ht_111 _ _ u_39
    obtain ⟨f_124, e_123⟩ := hm_109.arrI e_40
    have u_125 := ht_111 _ _ u_42
    have hsm := hsm.tr (hm_109.mono (by decide))
    have htx := htx.tr ht_111
    obtain ⟨k_126, s_127, e_128, h_129, h_130, h_131, e_132⟩ := hx_110
    refine lv_iload_n hx hb dX4_readOne_57 rfl (lv_at hl 0 rfl) ?_
    refine lv_if_ne (tgt := 86) hx hb dX4_readOne_58 (by decide) (fun c_133 => absurd (by decide) c_133) (fun c_133 => ?_)
    refine lv_aload_n hx hb dX4_readOne_61 rfl (lv_at hl 1 rfl) ?_
    refine lv_iload_n hx hb dX4_readOne_62 rfl (lv_at hl 2 rfl) ?_
    refine lv_iconst (v := 1) hx hb dX4_readOne_63 (by decide) ?_
    refine lv_iadd hx hb dX4_readOne_64 ?_
    refine tp_i (y := 6) (by decide) ?_
    have hFc := free_all hD hS hA
    refine va_calli (va_runV (As := [.int 6]) (rest := []) ⟨hx, hb, hml, hown, hts⟩ (r_readEither6 l D ws_107 ty_108 adK adV fo rd krd tp ktp cd bb tl  H.size (⟨s_127, e_128, cc_3, ra_4, rb_5, rc_6, rv_7, re_8, nI k_126, by omega, by omega, by omega, by omega, e_112, e_132, ⟨k_16, c9_17, t_18, f_121, e_120, u_122⟩, ⟨k_22, c9_23, t_24, f_124, e_123, u_125⟩⟩ : RS ws_107 ty_108 rd krd tp ktp cd bb tl)) (cwV 1 hts gX4_readOne_X4_readEither rfl rfl rfl (by decide +kernel) ⟨Nat.le_of_ble_eq_true rfl, Nat.le_of_ble_eq_true rfl⟩) ⟨fun a U g mk q => by obtain ⟨q0, q1, qP, qK, qD, qS⟩ := q; exact ⟨q0, q1, qP, va_K.moved (u := U) (U := U.calling g mk a) (Vm.Alike.refl U.vm) qK, qD, SZ.same rfl rfl qS⟩, va_recv hK hP (ci := 4) (q0 := krd) rfl e_112, fun U hU hW => ⟨rfl, by rw [hU], by rw [hU]; exact hP, va_K.moved hW.alike hK, hD.weaken (fun _ _ _ _ => trivial), hsz9.go hS hW hU hFc⟩⟩ rfl rfl hl.1 rfl (lv_room (Nat.le_of_ble_eq_true rfl)) dX4_readOne_65 ⟨Nat.le_of_ble_eq_true rfl, Nat.le_of_ble_eq_true rfl⟩) hS (fun q _ h => hFc q h) hFc (fun r_134 u t H1 locs ht hvm w_135 hB hz1 hk1 hS => ?_)
    obtain ⟨ws_136, ty_137, hm_138, ht_140, hP1, hK1, hD1, hx_139⟩ := hB
    rw [ht] at hP1
    have hK := va_K.moved hvm.symm hK1
    have hD := hD1.weaken (fun _ _ _ h => hFc _ h)
    generalize H1 = H at hP1 hS ⊢
    have hP := hP1
    obtain ⟨g_142, e_141, h_143⟩ := hm_138.obj e_112
    obtain ⟨z_144, z_145, z_146, z_147, z_148, z_149, rfl⟩ := smX4 h_143
    obtain ⟨g_151, e_150, h_152⟩ := hm_138.obj e_132
    obtain ⟨z_153, z_154, z_155, z_156, rfl⟩ := smX6 h_152
    obtain ⟨f_158, e_157⟩ := hm_138.arrI e_120
    have u_159 := ht_140 _ _ u_122
    obtain ⟨f_161, e_160⟩ := hm_138.arrI e_123
    have u_162 := ht_140 _ _ u_125
    have hsm := hsm.tr (hm_138.mono (by decide))
    have htx := htx.tr ht_140
    obtain ⟨ts_163, te_164, cc_165, ra_166, rb_167, rc_168, rv_169, re_170, ya_171, h1_172, h2_173, h3_174, h4_175, er_176, et_177, ⟨k_178, c9_179, t_180, f_181, e_182, u_183⟩, ⟨k_184, c9_185, t_186, f_187, e_188, u_189⟩⟩ := id hx_139
    refine lv_if_eq (tgt := 84) hx hb dX4_readOne_68 (by decide) (fun c_190 => ?_) (fun c_190 => ?_)
    · refine lv_iconst (v := 0) hx hb dX4_readOne_84 (by decide) ?_
      exact W.zret (v := 0) hx hb hr rfl (fun t ht hW => ⟨⟨0, (), rfl, Or.inl rfl, ws_136, ty_137, hsm, htx, by rw [ht]; exact hP, va_K.moved hW.alike hK, hD, (⟨ts_163, te_164, cc_165, ra_166, rb_167, rc_168, rv_169, re_170, ya_171, by omega, by omega, by omega, by omega, er_176, et_177, ⟨k_178, c9_179, t_180, f_181, e_182, u_183⟩, ⟨k_184, c9_185, t_186, f_187, e_188, u_189⟩⟩ : RS ws_136 ty_137 rd krd tp ktp cd bb tl)⟩, hS.F ht⟩) hS.2.2 dX4_readOne_85
    refine lv_aload_n hx hb dX4_readOne_71 rfl (lv_at hl 1 rfl) ?_
    refine lv_bipush (v := 41) hx hb dX4_readOne_72 (by decide) ?_
    have hFc := free_all hD hS hA
    refine va_calli (va_runV (As := [.int 41]) (rest := []) ⟨hx, hb, hml, hown, hts⟩ (r_readByte l D ws_136 ty_137 adK adV fo rd krd tp ktp cd bb tl 41 H.size (⟨ts_163, te_164, cc_165, ra_166, rb_167, rc_168, rv_169, re_170, ya_171, by omega, by omega, by omega, by omega, er_176, et_177, ⟨k_178, c9_179, t_180, f_181, e_182, u_183⟩, ⟨k_184, c9_185, t_186, f_187, e_188, u_189⟩⟩ : RS ws_136 ty_137 rd krd tp ktp cd bb tl)) (cwV 1 hts gX4_readOne_X4_readByte rfl rfl rfl (by decide +kernel) ⟨Nat.le_of_ble_eq_true rfl, Nat.le_of_ble_eq_true rfl⟩) ⟨fun a U g mk q => by obtain ⟨q0, q1, qP, qK, qD, qS⟩ := q; exact ⟨q0, q1, qP, va_K.moved (u := U) (U := U.calling g mk a) (Vm.Alike.refl U.vm) qK, qD, SZ.same rfl rfl qS⟩, va_recv hK hP (ci := 4) (q0 := krd) rfl er_176, fun U hU hW => ⟨rfl, by rw [hU], by rw [hU]; exact hP, va_K.moved hW.alike hK, hD.weaken (fun _ _ _ _ => trivial), hsz9.go hS hW hU hFc⟩⟩ rfl rfl hl.1 rfl (lv_room (Nat.le_of_ble_eq_true rfl)) dX4_readOne_74 ⟨Nat.le_of_ble_eq_true rfl, Nat.le_of_ble_eq_true rfl⟩) hS (fun q _ h => hFc q h) hFc (fun r_191 u t H1 locs ht hvm w_192 hB hz1 hk1 hS => ?_)
    obtain ⟨ws_193, ty_194, hm_195, ht_197, hP1, hK1, hD1, hx_196⟩ := hB
    rw [ht] at hP1
    have hK := va_K.moved hvm.symm hK1
    have hD := hD1.weaken (fun _ _ _ h => hFc _ h)
    generalize H1 = H at hP1 hS ⊢
    have hP := hP1
    obtain ⟨g_199, e_198, h_200⟩ := hm_195.obj er_176
    obtain ⟨z_201, z_202, z_203, z_204, z_205, z_206, rfl⟩ := smX4 h_200
    obtain ⟨g_208, e_207, h_209⟩ := hm_195.obj et_177
    obtain ⟨z_210, z_211, z_212, z_213, rfl⟩ := smX6 h_209
    obtain ⟨f_215, e_214⟩ := hm_195.arrI e_182
    have u_216 := ht_197 _ _ u_183
    obtain ⟨f_218, e_217⟩ := hm_195.arrI e_188
    have u_219 := ht_197 _ _ u_189
    have hsm := hsm.tr (hm_195.mono (by decide))
    have htx := htx.tr ht_197
    obtain ⟨ts_220, te_221, cc_222, ra_223, rb_224, rc_225, rv_226, re_227, ya_228, h1_229, h2_230, h3_231, h4_232, er_233, et_234, ⟨k_235, c9_236, t_237, f_238, e_239, u_240⟩, ⟨k_241, c9_242, t_243, f_244, e_245, u_246⟩⟩ := id hx_196
    rcases w_192 with rfl | rfl
    · refine lv_if_eq (tgt := 84) hx hb dX4_readOne_77 (by decide) (fun c_247 => ?_) (fun c_247 => absurd (by decide) c_247)
      refine lv_iconst (v := 0) hx hb dX4_readOne_84 (by decide) ?_
      exact W.zret (v := 0) hx hb hr rfl (fun t ht hW => ⟨⟨0, (), rfl, Or.inl rfl, ws_193, ty_194, hsm, htx, by rw [ht]; exact hP, va_K.moved hW.alike hK, hD, (⟨ts_220, te_221, cc_222, ra_223, rb_224, rc_225, rv_226, re_227, ya_228, by omega, by omega, by omega, by omega, er_233, et_234, ⟨k_235, c9_236, t_237, f_238, e_239, u_240⟩, ⟨k_241, c9_242, t_243, f_244, e_245, u_246⟩⟩ : RS ws_193 ty_194 rd krd tp ktp cd bb tl)⟩, hS.F ht⟩) hS.2.2 dX4_readOne_85
    refine lv_if_eq (tgt := 84) hx hb dX4_readOne_77 (by decide) (fun c_248 => absurd c_248 (by decide)) (fun c_248 => ?_)
    refine lv_iconst (v := 1) hx hb dX4_readOne_80 (by decide) ?_
    refine lv_goto (tgt := 85) hx hb dX4_readOne_81 (by decide) ?_
    exact W.zret (v := 1) hx hb hr rfl (fun t ht hW => ⟨⟨1, (), rfl, Or.inr rfl, ws_193, ty_194, hsm, htx, by rw [ht]; exact hP, va_K.moved hW.alike hK, hD, (⟨ts_220, te_221, cc_222, ra_223, rb_224, rc_225, rv_226, re_227, ya_228, by omega, by omega, by omega, by omega, er_233, et_234, ⟨k_235, c9_236, t_237, f_238, e_239, u_240⟩, ⟨k_241, c9_242, t_243, f_244, e_245, u_246⟩⟩ : RS ws_193 ty_194 rd krd tp ktp cd bb tl)⟩, hS.F ht⟩) hS.2.2 dX4_readOne_85
  refine lv_istore_n (lv' := [(2, .int 1), (0, .ref rd), (1, .int 5)]) hx hb dX4_readOne_9 rfl hl (by decide) rfl (fun ls hl => ?_)
  refine lv_iload_n hx hb dX4_readOne_10 rfl (lv_at hl 0 rfl) ?_
  refine lv_if_ne (tgt := 31) hx hb dX4_readOne_11 (by decide) (fun c_249 => ?_) (fun c_249 => absurd c_249 (by decide))
  refine lv_iload_n hx hb dX4_readOne_31 rfl (lv_at hl 2 rfl) ?_
  refine lv_bipush (v := 6) hx hb dX4_readOne_32 (by decide) ?_
  refine lv_icmp_lt (tgt := 50) hx hb dX4_readOne_34 (by decide) (fun c_250 => ?_) (fun c_250 => absurd (by decide) c_250)
  refine lv_aload_n hx hb dX4_readOne_50 rfl (lv_at hl 1 rfl) ?_
  refine va_get (D := D) (ci := 4) (v := .ref tp) (C := RX4) (T := TX4) (N := 8) hx hb hts hin4 hown hK hP krd e_35 rfl 0 (by decide) (hts (.fieldLink RX4 12 "HoneyHouse$RuleReader" "tape" "LHoneyHouse$Tape;") (List.mem_of_getElem? (i := 1) rfl)) (fun _ h9 => h9) rfl dX4_readOne_51 ?_
  have hFc := free_all hD hS hA
  refine va_callv (va_runV (As := []) (rest := []) ⟨hx, hb, hml, hown, hts⟩ (a_advance l D ws_30 ty_31 tp ktp tl te_2 ya_9 (nI ts_1) bb k_22 c9_23 t_24 f_41 H.size (by omega) (by omega) e_36 e_40 u_42) (cwV 0 hts gX4_readOne_X6_advance rfl rfl rfl (by decide +kernel) ⟨Nat.le_of_ble_eq_true rfl, Nat.le_of_ble_eq_true rfl⟩) ⟨fun a U g mk q => by obtain ⟨q0, q1, qP, qK, qD⟩ := q; exact ⟨q0, q1, qP, va_K.moved (u := U) (U := U.calling g mk a) (Vm.Alike.refl U.vm) qK, qD⟩, va_recv hK hP (ci := 6) (q0 := ktp) rfl e_36, fun U hU hW => ⟨rfl, by rw [hU], by rw [hU]; exact hP, va_K.moved hW.alike hK, hD.weaken (fun _ _ _ _ => trivial)⟩⟩ rfl rfl hl.1 rfl (lv_room (Nat.le_of_ble_eq_true rfl)) dX4_readOne_54 ⟨Nat.le_of_ble_eq_true rfl, Nat.le_of_ble_eq_true rfl⟩) hS (fun q _ h => hFc q h) hFc (fun u t H1 locs ht hvm w_252 hB hz1 hk1 hS => ?_)
  obtain ⟨ws_253, ty_254, hm_255, ht_257, hP1, hK1, hD1, hx_256⟩ := hB
  rw [ht] at hP1
  have hK := va_K.moved hvm.symm hK1
  have hD := hD1.weaken (fun _ _ _ h => hFc _ h)
  generalize H1 = H at hP1 hS ⊢
  have hP := hP1
  have e_258 := hm_255.objK e_35 (by decide)
  obtain ⟨g_260, e_259, h_261⟩ := hm_255.obj e_36
  obtain ⟨z_262, z_263, z_264, z_265, rfl⟩ := smX6 h_261
  obtain ⟨f_267, e_266⟩ := hm_255.arrI e_37
  have u_268 := ht_257 _ _ u_39
  obtain ⟨f_270, e_269⟩ := hm_255.arrI e_40
  have u_271 := ht_257 _ _ u_42
  have hsm := hsm.tr (hm_255.mono (by decide))
  have htx := htx.tr ht_257
  obtain ⟨k_272, s_273, e_274, h_275, h_276, h_277, e_278⟩ := hx_256
  refine lv_iload_n hx hb dX4_readOne_57 rfl (lv_at hl 0 rfl) ?_
  refine lv_if_ne (tgt := 86) hx hb dX4_readOne_58 (by decide) (fun c_279 => ?_) (fun c_279 => absurd c_279 (by decide))
  refine lv_aload_n hx hb dX4_readOne_86 rfl (lv_at hl 1 rfl) ?_
  refine lv_iload_n hx hb dX4_readOne_87 rfl (lv_at hl 2 rfl) ?_
  refine lv_iconst (v := 1) hx hb dX4_readOne_88 (by decide) ?_
  refine lv_iadd hx hb dX4_readOne_89 ?_
  refine tp_i (y := 6) (by decide) ?_
  have hFc := free_all hD hS hA
  refine va_calli (va_runV (As := [.int 6]) (rest := []) ⟨hx, hb, hml, hown, hts⟩ (r_readOne6 l D ws_253 ty_254 adK adV fo rd krd tp ktp cd bb tl  H.size (⟨s_273, e_274, cc_3, ra_4, rb_5, rc_6, rv_7, re_8, nI k_272, by omega, by omega, by omega, by omega, e_258, e_278, ⟨k_16, c9_17, t_18, f_267, e_266, u_268⟩, ⟨k_22, c9_23, t_24, f_270, e_269, u_271⟩⟩ : RS ws_253 ty_254 rd krd tp ktp cd bb tl)) (cwV 1 hts gX4_readOne_X4_readOne rfl rfl rfl (by decide +kernel) ⟨Nat.le_of_ble_eq_true rfl, Nat.le_of_ble_eq_true rfl⟩) ⟨fun a U g mk q => by obtain ⟨q0, q1, qP, qK, qD, qS⟩ := q; exact ⟨q0, q1, qP, va_K.moved (u := U) (U := U.calling g mk a) (Vm.Alike.refl U.vm) qK, qD, SZ.same rfl rfl qS⟩, va_recv hK hP (ci := 4) (q0 := krd) rfl e_258, fun U hU hW => ⟨rfl, by rw [hU], by rw [hU]; exact hP, va_K.moved hW.alike hK, hD.weaken (fun _ _ _ _ => trivial), hsz9.go hS hW hU hFc⟩⟩ rfl rfl hl.1 rfl (lv_room (Nat.le_of_ble_eq_true rfl)) dX4_readOne_90 ⟨Nat.le_of_ble_eq_true rfl, Nat.le_of_ble_eq_true rfl⟩) hS (fun q _ h => hFc q h) hFc (fun r_280 u t H1 locs ht hvm w_281 hB hz1 hk1 hS => ?_)
  obtain ⟨ws_282, ty_283, hm_284, ht_286, hP1, hK1, hD1, hx_285⟩ := hB
  rw [ht] at hP1
  have hK := va_K.moved hvm.symm hK1
  have hD := hD1.weaken (fun _ _ _ h => hFc _ h)
  generalize H1 = H at hP1 hS ⊢
  have hP := hP1
  obtain ⟨g_288, e_287, h_289⟩ := hm_284.obj e_258
  obtain ⟨z_290, z_291, z_292, z_293, z_294, z_295, rfl⟩ := smX4 h_289
  obtain ⟨g_297, e_296, h_298⟩ := hm_284.obj e_278
  obtain ⟨z_299, z_300, z_301, z_302, rfl⟩ := smX6 h_298
  obtain ⟨f_304, e_303⟩ := hm_284.arrI e_266
  have u_305 := ht_286 _ _ u_268
  obtain ⟨f_307, e_306⟩ := hm_284.arrI e_269
  have u_308 := ht_286 _ _ u_271
  have hsm := hsm.tr (hm_284.mono (by decide))
  have htx := htx.tr ht_286
  obtain ⟨ts_309, te_310, cc_311, ra_312, rb_313, rc_314, rv_315, re_316, ya_317, h1_318, h2_319, h3_320, h4_321, er_322, et_323, ⟨k_324, c9_325, t_326, f_327, e_328, u_329⟩, ⟨k_330, c9_331, t_332, f_333, e_334, u_335⟩⟩ := id hx_285
  refine lv_istore_n (lv' := [(3, .int r_280), (2, .int 1), (0, .ref rd), (1, .int 5)]) hx hb dX4_readOne_93 rfl hl (by decide) rfl (fun ls hl => ?_)
  refine lv_aload_n hx hb dX4_readOne_94 rfl (lv_at hl 2 rfl) ?_
  refine lv_iconst (v := (-1)) hx hb dX4_readOne_95 (by decide) ?_
  have hFc := free_all hD hS hA
  refine va_callv (va_runV (As := [.int (-1)]) (rest := []) ⟨hx, hb, hml, hown, hts⟩ (r_addCode l D ws_282 ty_283 adK adV fo rd krd tp ktp cd bb tl (-1) H.size (⟨ts_309, te_310, cc_311, ra_312, rb_313, rc_314, rv_315, re_316, ya_317, by omega, by omega, by omega, by omega, er_322, et_323, ⟨k_324, c9_325, t_326, f_327, e_328, u_329⟩, ⟨k_330, c9_331, t_332, f_333, e_334, u_335⟩⟩ : RS ws_282 ty_283 rd krd tp ktp cd bb tl)) (cwV 1 hts gX4_readOne_X4_addCode rfl rfl rfl (by decide +kernel) ⟨Nat.le_of_ble_eq_true rfl, Nat.le_of_ble_eq_true rfl⟩) ⟨fun a U g mk q => by obtain ⟨q0, q1, qP, qK, qD, qS⟩ := q; exact ⟨q0, q1, qP, va_K.moved (u := U) (U := U.calling g mk a) (Vm.Alike.refl U.vm) qK, qD, SZ.same rfl rfl qS⟩, va_recv hK hP (ci := 4) (q0 := krd) rfl er_322, fun U hU hW => ⟨rfl, by rw [hU], by rw [hU]; exact hP, va_K.moved hW.alike hK, hD.weaken (fun _ _ _ _ => trivial), hsz9.go hS hW hU hFc⟩⟩ rfl rfl hl.1 rfl (lv_room (Nat.le_of_ble_eq_true rfl)) dX4_readOne_96 ⟨Nat.le_of_ble_eq_true rfl, Nat.le_of_ble_eq_true rfl⟩) hS (fun q _ h => hFc q h) hFc (fun u t H1 locs ht hvm w_337 hB hz1 hk1 hS => ?_)
  obtain ⟨ws_338, ty_339, hm_340, ht_342, hP1, hK1, hD1, hx_341⟩ := hB
  rw [ht] at hP1
  have hK := va_K.moved hvm.symm hK1
  have hD := hD1.weaken (fun _ _ _ h => hFc _ h)
  generalize H1 = H at hP1 hS ⊢
  have hP := hP1
  obtain ⟨g_344, e_343, h_345⟩ := hm_340.obj er_322
  obtain ⟨z_346, z_347, z_348, z_349, z_350, z_351, rfl⟩ := smX4 h_345
  obtain ⟨g_353, e_352, h_354⟩ := hm_340.obj et_323
  obtain ⟨z_355, z_356, z_357, z_358, rfl⟩ := smX6 h_354
  obtain ⟨f_360, e_359⟩ := hm_340.arrI e_328
  have u_361 := ht_342 _ _ u_329
  obtain ⟨f_363, e_362⟩ := hm_340.arrI e_334
  have u_364 := ht_342 _ _ u_335
  have hsm := hsm.tr (hm_340.mono (by decide))
  have htx := htx.tr ht_342
  obtain ⟨ts_365, te_366, cc_367, ra_368, rb_369, rc_370, rv_371, re_372, ya_373, h1_374, h2_375, h3_376, h4_377, er_378, et_379, ⟨k_380, c9_381, t_382, f_383, e_384, u_385⟩, ⟨k_386, c9_387, t_388, f_389, e_390, u_391⟩⟩ := id hx_341
  refine lv_iload_n hx hb dX4_readOne_99 rfl (lv_at hl 0 rfl) ?_
  exact W.zret (v := r_280) hx hb hr (by rcases w_281 with h9 | h9 <;> rw [h9] <;> rfl) (fun t ht hW => ⟨⟨r_280, (), rfl, w_281, ws_338, ty_339, hsm, htx, by rw [ht]; exact hP, va_K.moved hW.alike hK, hD, (⟨ts_365, te_366, cc_367, ra_368, rb_369, rc_370, rv_371, re_372, ya_373, by omega, by omega, by omega, by omega, er_378, et_379, ⟨k_380, c9_381, t_382, f_383, e_384, u_385⟩, ⟨k_386, c9_387, t_388, f_389, e_390, u_391⟩⟩ : RS ws_338 ty_339 rd krd tp ktp cd bb tl)⟩, hS.F ht⟩) hS.2.2 dX4_readOne_100
set_option maxHeartbeats 4000000 in
set_option maxRecDepth 100000 in
theorem r_readEither5 (l : Launch) (D : va_G) (ws : va_W) (tys : List (ClassId × FieldType)) (adK adV : Nat → Nat) (fo : Option Nat) (rd krd tp ktp cd bb tl : Nat)  (sz : Nat) (R0 : RS ws tys rd krd tp ktp cd bb tl)  : Met l yX4_readEither wsX4_readEither ({ frames := 10, cells := 0, slots := 0, locals := 220 }) (va_Pc [.ref rd, .int 5] (fun U => U.heap.size = sz ∧ va_P D vwCl ws U.heap ∧ va_K D vwCl tys U ∧ va_D (fun _ => True) ws ∧ SZ adK adV fo (va_A ws sz) U U.heap)) (va_Qi (fun (r : Int32) (_ : Unit) => r = 0 ∨ r = 1) (fun (_ : Unit) (t : State) => ∃ (ws' : va_W) (tys' : List (ClassId × FieldType)), sm [4, 6] ws ws' ∧ tyx tys tys' ∧ va_P D vwCl ws' t.heap ∧ va_K D vwCl tys' t ∧ va_D (va_A ws sz) ws' ∧ RS ws' tys' rd krd tp ktp cd bb tl) (va_A ws sz)) 0 0 (va_A ws sz) := by
  refine Met.ofW (cc := cX4_readEither) (maxL := 6) (ret := (some .boolean)) (by decide) rfl ?_
  intro p e s m args below meth c s₁ B hml hv
  obtain ⟨rfl, hsz, hP, hK, hD0, hsz9⟩ := hv
  have hx := B.exec
  have hb := B.bytes
  have hr := B.returns
  have hts := atoms_spec (ws := wsX4_readEither) B.pre
  have hown : s.vm.findClass RX4 = some m.cls := findClass_of_methodNamed B.named
  have hlocks := B.notSynchronized
  subst hsz
  have hD := hD0.self (sz := s.heap.size)
  generalize hAe : va_A ws s.heap.size = A at hD hsz9 ⊢
  have hA : ∀ q : Nat, s.heap.size ≤ q → A q := fun q h => by rw [← hAe]; exact Or.inr h
  have hS : va_S A s.heap s.heap [] := va_S.rf
  have hsm : sm [4, 6] ws ws := sm.rf ws
  have htx : tyx tys tys := tyx.rf tys
  have hin4 : ∀ w ∈ u_ws RX4 TX4 8, w ∈ wsX4_readEither := (fun _ h9 => List.mem_cons_of_mem _ (List.mem_append_left _ ((List.mem_append_right _ h9))))
  have hl := lv_entry ([.ref rd, .int 5]) (n := 6) (Nat.le_of_ble_eq_true rfl)
  rw [lg_entry_eq]
  generalize (lg_sl ([.ref rd, .int 5]) ++ List.replicate (6 - (lg_sl ([.ref rd, .int 5])).length) Slot.unset).toArray = ls at hl ⊢
  have hl : lv_has ls 6 [(0, .ref rd), (1, .int 5)] := hl
  obtain ⟨ts_1, te_2, cc_3, ra_4, rb_5, rc_6, rv_7, re_8, ya_9, h1_10, h2_11, h3_12, h4_13, er_14, et_15, ⟨k_16, c9_17, t_18, f_19, e_20, u_21⟩, ⟨k_22, c9_23, t_24, f_25, e_26, u_27⟩⟩ := id R0
  refine lv_aload_n hx hb dX4_readEither_0 rfl (lv_at hl 0 rfl) ?_
  refine lv_iload_n hx hb dX4_readEither_1 rfl (lv_at hl 1 rfl) ?_
  have hFc := free_all hD hS hA
  refine va_calli (va_runV (As := [.int 5]) (rest := []) ⟨hx, hb, hml, hown, hts⟩ (r_readOne5 l D ws tys adK adV fo rd krd tp ktp cd bb tl  s.heap.size (⟨ts_1, te_2, cc_3, ra_4, rb_5, rc_6, rv_7, re_8, ya_9, by omega, by omega, by omega, by omega, er_14, et_15, ⟨k_16, c9_17, t_18, f_19, e_20, u_21⟩, ⟨k_22, c9_23, t_24, f_25, e_26, u_27⟩⟩ : RS ws tys rd krd tp ktp cd bb tl)) (cwV 1 hts gX4_readEither_X4_readOne rfl rfl rfl (by decide +kernel) ⟨Nat.le_of_ble_eq_true rfl, Nat.le_of_ble_eq_true rfl⟩) ⟨fun a U g mk q => by obtain ⟨q0, q1, qP, qK, qD, qS⟩ := q; exact ⟨q0, q1, qP, va_K.moved (u := U) (U := U.calling g mk a) (Vm.Alike.refl U.vm) qK, qD, SZ.same rfl rfl qS⟩, va_recv hK hP (ci := 4) (q0 := krd) rfl er_14, fun U hU hW => ⟨rfl, by rw [hU], by rw [hU]; exact hP, va_K.moved hW.alike hK, hD.weaken (fun _ _ _ _ => trivial), hsz9.go hS hW hU hFc⟩⟩ rfl rfl hl.1 rfl (lv_room (Nat.le_of_ble_eq_true rfl)) dX4_readEither_2 ⟨Nat.le_of_ble_eq_true rfl, Nat.le_of_ble_eq_true rfl⟩) hS (fun q _ h => hFc q h) hFc (fun r_28 u t H1 locs ht hvm w_29 hB hz1 hk1 hS => ?_)
  obtain ⟨ws_30, ty_31, hm_32, ht_34, hP1, hK1, hD1, hx_33⟩ := hB
  rw [ht] at hP1
  have hK := va_K.moved hvm.symm hK1
  have hD := hD1.weaken (fun _ _ _ h => hFc _ h)
  generalize H1 = H at hP1 hS ⊢
  have hP := hP1
  obtain ⟨g_36, e_35, h_37⟩ := hm_32.obj er_14
  obtain ⟨z_38, z_39, z_40, z_41, z_42, z_43, rfl⟩ := smX4 h_37
  obtain ⟨g_45, e_44, h_46⟩ := hm_32.obj et_15
  obtain ⟨z_47, z_48, z_49, z_50, rfl⟩ := smX6 h_46
  obtain ⟨f_52, e_51⟩ := hm_32.arrI e_20
  have u_53 := ht_34 _ _ u_21
  obtain ⟨f_55, e_54⟩ := hm_32.arrI e_26
  have u_56 := ht_34 _ _ u_27
  have hsm := hsm.tr (hm_32.mono (by decide))
  have htx := htx.tr ht_34
  obtain ⟨ts_57, te_58, cc_59, ra_60, rb_61, rc_62, rv_63, re_64, ya_65, h1_66, h2_67, h3_68, h4_69, er_70, et_71, ⟨k_72, c9_73, t_74, f_75, e_76, u_77⟩, ⟨k_78, c9_79, t_80, f_81, e_82, u_83⟩⟩ := id hx_33
  refine lv_istore_n (lv' := [(2, .int r_28), (0, .ref rd), (1, .int 5)]) hx hb dX4_readEither_5 rfl hl (by decide) rfl (fun ls hl => ?_)
  refine lv_iconst (v := 0) hx hb dX4_readEither_6 (by decide) ?_
  refine lv_istore_n (lv' := [(3, .int 0), (2, .int r_28), (0, .ref rd), (1, .int 5)]) hx hb dX4_readEither_7 rfl hl (by decide) rfl (fun ls hl => ?_)
  refine lv_iconst (v := 0) hx hb dX4_readEither_8 (by decide) ?_
  refine lv_istore (lv' := [(4, .int 0), (3, .int 0), (2, .int r_28), (0, .ref rd), (1, .int 5)]) hx hb dX4_readEither_9 hl (by decide) rfl (fun ls hl => ?_)
  refine lp_V (nL := 6) (σ := Nat × Int32 × Int32) (lv := fun x9 => [(4, .int (nI x9.1)), (2, .int x9.2.1), (3, .int x9.2.2), (1, .int 5), (0, .ref rd)]) (μ := fun x9 => 400 - x9.1) (J := fun x9 ws9 => sm [4, 6] ws_30 ws9 ∧ (∃ ty9 : List (ClassId × FieldType), va_K D vwCl ty9 s ∧ tyx tys ty9 ∧ RS ws9 ty9 rd krd tp ktp cd bb tl) ∧ (x9.1 ≤ 400) ∧ (x9.2.1 = 0 ∨ x9.2.1 = 1) ∧ (x9.2.2 = 0 ∨ x9.2.2 = 1)) (fun x9 ws_91 H locs ls hj hP hD hS hl ih_84 => ?_) (0, r_28, 0) ws_30 _ _ ls ⟨sm.rf _, ⟨ty_31, hK, htx, (⟨ts_57, te_58, cc_59, ra_60, rb_61, rc_62, rv_63, re_64, ya_65, by omega, by omega, by omega, by omega, er_70, et_71, ⟨k_72, c9_73, t_74, f_75, e_76, u_77⟩, ⟨k_78, c9_79, t_80, f_81, e_82, u_83⟩⟩ : RS ws_30 ty_31 rd krd tp ktp cd bb tl)⟩, (show 0 ≤ 400 from by omega), (show r_28 = 0 ∨ r_28 = 1 from w_29), (show 0 = 0 ∨ 0 = 1 from Or.inl rfl)⟩ hP hD hS (lv_sub hl [0, 2, 1, 4, 3] rfl)
  obtain ⟨i_85, x_86, y_87⟩ := x9
  have hj : sm [4, 6] ws_30 ws_91 ∧ (∃ ty9 : List (ClassId × FieldType), va_K D vwCl ty9 s ∧ tyx tys ty9 ∧ RS ws_91 ty9 rd krd tp ktp cd bb tl) ∧ (i_85 ≤ 400) ∧ (x_86 = 0 ∨ x_86 = 1) ∧ (y_87 = 0 ∨ y_87 = 1) := hj
  obtain ⟨hm_92, hR_94, hi_88, hbx_89, hby_90⟩ := hj
  obtain ⟨g_96, e_95, h_97⟩ := hm_92.obj er_70
  obtain ⟨z_98, z_99, z_100, z_101, z_102, z_103, rfl⟩ := smX4 h_97
  obtain ⟨g_105, e_104, h_106⟩ := hm_92.obj et_71
  obtain ⟨z_107, z_108, z_109, z_110, rfl⟩ := smX6 h_106
  obtain ⟨f_112, e_111⟩ := hm_92.arrI e_76
  obtain ⟨f_114, e_113⟩ := hm_92.arrI e_82
  have hsm := hsm.tr (hm_92.mono (by decide))
  obtain ⟨ty_115, hK, htx, hR_116⟩ := hR_94
  obtain ⟨ts_117, te_118, cc_119, ra_120, rb_121, rc_122, rv_123, re_124, ya_125, h1_126, h2_127, h3_128, h4_129, er_130, et_131, ⟨k_132, c9_133, t_134, f_135, e_136, u_137⟩, ⟨k_138, c9_139, t_140, f_141, e_142, u_143⟩⟩ := id hR_116
  have hlp_93 := hm_92
  have hl : lv_has ls 6 [(4, .int (nI i_85)), (2, .int x_86), (3, .int y_87), (1, .int 5), (0, .ref rd)] := hl
  refine lv_iload hx hb dX4_readEither_11 (lv_at hl 0 rfl) ?_
  refine lv_sipush (v := 400) hx hb dX4_readEither_13 (by decide) ?_
  refine lv_icmp_ge (tgt := 101) hx hb dX4_readEither_16 (by decide) (fun c_144 => ?_) (fun c_144 => ?_)
  · have d_145 := n_le (a := 400) (b := i_85) (by omega) (by omega) c_144
    refine lv_iload_n hx hb dX4_readEither_101 rfl (lv_at hl 2 rfl) ?_
    refine lv_if_eq (tgt := 111) hx hb dX4_readEither_102 (by decide) (fun c_146 => ?_) (fun c_146 => ?_)
    · refine lv_iload_n hx hb dX4_readEither_111 rfl (lv_at hl 1 rfl) ?_
      exact W.zret (v := x_86) hx hb hr (by rcases hbx_89 with h9 | h9 <;> rw [h9] <;> rfl) (fun t ht hW => ⟨⟨x_86, (), rfl, hbx_89, ws_91, ty_115, hsm, htx, by rw [ht]; exact hP, va_K.moved hW.alike hK, hD, (⟨ts_117, te_118, cc_119, ra_120, rb_121, rc_122, rv_123, re_124, ya_125, by omega, by omega, by omega, by omega, er_130, et_131, ⟨k_132, c9_133, t_134, f_135, e_136, u_137⟩, ⟨k_138, c9_139, t_140, f_141, e_142, u_143⟩⟩ : RS ws_91 ty_115 rd krd tp ktp cd bb tl)⟩, hS.F ht⟩) hS.2.2 dX4_readEither_112
    refine lv_aload_n hx hb dX4_readEither_105 rfl (lv_at hl 4 rfl) ?_
    refine lv_bipush (v := (-3)) hx hb dX4_readEither_106 (by decide) ?_
    have hFc := free_all hD hS hA
    refine va_callv (va_runV (As := [.int (-3)]) (rest := []) ⟨hx, hb, hml, hown, hts⟩ (r_addCode l D ws_91 ty_115 adK adV fo rd krd tp ktp cd bb tl (-3) H.size (⟨ts_117, te_118, cc_119, ra_120, rb_121, rc_122, rv_123, re_124, ya_125, by omega, by omega, by omega, by omega, er_130, et_131, ⟨k_132, c9_133, t_134, f_135, e_136, u_137⟩, ⟨k_138, c9_139, t_140, f_141, e_142, u_143⟩⟩ : RS ws_91 ty_115 rd krd tp ktp cd bb tl)) (cwV 1 hts gX4_readEither_X4_addCode rfl rfl rfl (by decide +kernel) ⟨Nat.le_of_ble_eq_true rfl, Nat.le_of_ble_eq_true rfl⟩) ⟨fun a U g mk q => by obtain ⟨q0, q1, qP, qK, qD, qS⟩ := q; exact ⟨q0, q1, qP, va_K.moved (u := U) (U := U.calling g mk a) (Vm.Alike.refl U.vm) qK, qD, SZ.same rfl rfl qS⟩, va_recv hK hP (ci := 4) (q0 := krd) rfl er_130, fun U hU hW => ⟨rfl, by rw [hU], by rw [hU]; exact hP, va_K.moved hW.alike hK, hD.weaken (fun _ _ _ _ => trivial), hsz9.go hS hW hU hFc⟩⟩ rfl rfl hl.1 rfl (lv_room (Nat.le_of_ble_eq_true rfl)) dX4_readEither_108 ⟨Nat.le_of_ble_eq_true rfl, Nat.le_of_ble_eq_true rfl⟩) hS (fun q _ h => hFc q h) hFc (fun u t H1 locs ht hvm w_148 hB hz1 hk1 hS => ?_)
    obtain ⟨ws_149, ty_150, hm_151, ht_153, hP1, hK1, hD1, hx_152⟩ := hB
    rw [ht] at hP1
    have hK := va_K.moved hvm.symm hK1
    have hD := hD1.weaken (fun _ _ _ h => hFc _ h)
    generalize H1 = H at hP1 hS ⊢
    have hP := hP1
    obtain ⟨g_155, e_154, h_156⟩ := hm_151.obj er_130
    obtain ⟨z_157, z_158, z_159, z_160, z_161, z_162, rfl⟩ := smX4 h_156
    obtain ⟨g_164, e_163, h_165⟩ := hm_151.obj et_131
    obtain ⟨z_166, z_167, z_168, z_169, rfl⟩ := smX6 h_165
    obtain ⟨f_171, e_170⟩ := hm_151.arrI e_136
    have u_172 := ht_153 _ _ u_137
    obtain ⟨f_174, e_173⟩ := hm_151.arrI e_142
    have u_175 := ht_153 _ _ u_143
    have hsm := hsm.tr (hm_151.mono (by decide))
    have hlp_93 := hlp_93.tr (hm_151.mono (by decide))
    have htx := htx.tr ht_153
    obtain ⟨ts_176, te_177, cc_178, ra_179, rb_180, rc_181, rv_182, re_183, ya_184, h1_185, h2_186, h3_187, h4_188, er_189, et_190, ⟨k_191, c9_192, t_193, f_194, e_195, u_196⟩, ⟨k_197, c9_198, t_199, f_200, e_201, u_202⟩⟩ := id hx_152
    refine lv_iload_n hx hb dX4_readEither_111 rfl (lv_at hl 1 rfl) ?_
    exact W.zret (v := x_86) hx hb hr (by rcases hbx_89 with h9 | h9 <;> rw [h9] <;> rfl) (fun t ht hW => ⟨⟨x_86, (), rfl, hbx_89, ws_149, ty_150, hsm, htx, by rw [ht]; exact hP, va_K.moved hW.alike hK, hD, (⟨ts_176, te_177, cc_178, ra_179, rb_180, rc_181, rv_182, re_183, ya_184, by omega, by omega, by omega, by omega, er_189, et_190, ⟨k_191, c9_192, t_193, f_194, e_195, u_196⟩, ⟨k_197, c9_198, t_199, f_200, e_201, u_202⟩⟩ : RS ws_149 ty_150 rd krd tp ktp cd bb tl)⟩, hS.F ht⟩) hS.2.2 dX4_readEither_112
  have d_203 := n_nle (a := 400) (b := i_85) (by omega) (by omega) c_144
  refine lv_iload_n hx hb dX4_readEither_19 rfl (lv_at hl 1 rfl) ?_
  refine lv_if_eq (tgt := 101) hx hb dX4_readEither_20 (by decide) (fun c_204 => ?_) (fun c_204 => ?_)
  · refine lv_iload_n hx hb dX4_readEither_101 rfl (lv_at hl 2 rfl) ?_
    refine lv_if_eq (tgt := 111) hx hb dX4_readEither_102 (by decide) (fun c_205 => ?_) (fun c_205 => ?_)
    · refine lv_iload_n hx hb dX4_readEither_111 rfl (lv_at hl 1 rfl) ?_
      exact W.zret (v := x_86) hx hb hr (by rcases hbx_89 with h9 | h9 <;> rw [h9] <;> rfl) (fun t ht hW => ⟨⟨x_86, (), rfl, hbx_89, ws_91, ty_115, hsm, htx, by rw [ht]; exact hP, va_K.moved hW.alike hK, hD, (⟨ts_117, te_118, cc_119, ra_120, rb_121, rc_122, rv_123, re_124, ya_125, by omega, by omega, by omega, by omega, er_130, et_131, ⟨k_132, c9_133, t_134, f_135, e_136, u_137⟩, ⟨k_138, c9_139, t_140, f_141, e_142, u_143⟩⟩ : RS ws_91 ty_115 rd krd tp ktp cd bb tl)⟩, hS.F ht⟩) hS.2.2 dX4_readEither_112
    refine lv_aload_n hx hb dX4_readEither_105 rfl (lv_at hl 4 rfl) ?_
    refine lv_bipush (v := (-3)) hx hb dX4_readEither_106 (by decide) ?_
    have hFc := free_all hD hS hA
    refine va_callv (va_runV (As := [.int (-3)]) (rest := []) ⟨hx, hb, hml, hown, hts⟩ (r_addCode l D ws_91 ty_115 adK adV fo rd krd tp ktp cd bb tl (-3) H.size (⟨ts_117, te_118, cc_119, ra_120, rb_121, rc_122, rv_123, re_124, ya_125, by omega, by omega, by omega, by omega, er_130, et_131, ⟨k_132, c9_133, t_134, f_135, e_136, u_137⟩, ⟨k_138, c9_139, t_140, f_141, e_142, u_143⟩⟩ : RS ws_91 ty_115 rd krd tp ktp cd bb tl)) (cwV 1 hts gX4_readEither_X4_addCode rfl rfl rfl (by decide +kernel) ⟨Nat.le_of_ble_eq_true rfl, Nat.le_of_ble_eq_true rfl⟩) ⟨fun a U g mk q => by obtain ⟨q0, q1, qP, qK, qD, qS⟩ := q; exact ⟨q0, q1, qP, va_K.moved (u := U) (U := U.calling g mk a) (Vm.Alike.refl U.vm) qK, qD, SZ.same rfl rfl qS⟩, va_recv hK hP (ci := 4) (q0 := krd) rfl er_130, fun U hU hW => ⟨rfl, by rw [hU], by rw [hU]; exact hP, va_K.moved hW.alike hK, hD.weaken (fun _ _ _ _ => trivial), hsz9.go hS hW hU hFc⟩⟩ rfl rfl hl.1 rfl (lv_room (Nat.le_of_ble_eq_true rfl)) dX4_readEither_108 ⟨Nat.le_of_ble_eq_true rfl, Nat.le_of_ble_eq_true rfl⟩) hS (fun q _ h => hFc q h) hFc (fun u t H1 locs ht hvm w_207 hB hz1 hk1 hS => ?_)
    obtain ⟨ws_208, ty_209, hm_210, ht_212, hP1, hK1, hD1, hx_211⟩ := hB
    rw [ht] at hP1
    have hK := va_K.moved hvm.symm hK1
    have hD := hD1.weaken (fun _ _ _ h => hFc _ h)
    generalize H1 = H at hP1 hS ⊢
    have hP := hP1
    obtain ⟨g_214, e_213, h_215⟩ := hm_210.obj er_130
    obtain ⟨z_216, z_217, z_218, z_219, z_220, z_221, rfl⟩ := smX4 h_215
    obtain ⟨g_223, e_222, h_224⟩ := hm_210.obj et_131
    obtain ⟨z_225, z_226, z_227, z_228, rfl⟩ := smX6 h_224
    obtain ⟨f_230, e_229⟩ := hm_210.arrI e_136
    have u_231 := ht_212 _ _ u_137
    obtain ⟨f_233, e_232⟩ := hm_210.arrI e_142
    have u_234 := ht_212 _ _ u_143
    have hsm := hsm.tr (hm_210.mono (by decide))
    have hlp_93 := hlp_93.tr (hm_210.mono (by decide))
    have htx := htx.tr ht_212
    obtain ⟨ts_235, te_236, cc_237, ra_238, rb_239, rc_240, rv_241, re_242, ya_243, h1_244, h2_245, h3_246, h4_247, er_248, et_249, ⟨k_250, c9_251, t_252, f_253, e_254, u_255⟩, ⟨k_256, c9_257, t_258, f_259, e_260, u_261⟩⟩ := id hx_211
    refine lv_iload_n hx hb dX4_readEither_111 rfl (lv_at hl 1 rfl) ?_
    exact W.zret (v := x_86) hx hb hr (by rcases hbx_89 with h9 | h9 <;> rw [h9] <;> rfl) (fun t ht hW => ⟨⟨x_86, (), rfl, hbx_89, ws_208, ty_209, hsm, htx, by rw [ht]; exact hP, va_K.moved hW.alike hK, hD, (⟨ts_235, te_236, cc_237, ra_238, rb_239, rc_240, rv_241, re_242, ya_243, by omega, by omega, by omega, by omega, er_248, et_249, ⟨k_250, c9_251, t_252, f_253, e_254, u_255⟩, ⟨k_256, c9_257, t_258, f_259, e_260, u_261⟩⟩ : RS ws_208 ty_209 rd krd tp ktp cd bb tl)⟩, hS.F ht⟩) hS.2.2 dX4_readEither_112
  refine lv_aload_n hx hb dX4_readEither_23 rfl (lv_at hl 4 rfl) ?_
  have hFc := free_all hD hS hA
  refine va_calli (va_runV (As := []) (rest := []) ⟨hx, hb, hml, hown, hts⟩ (r_isAndOr l D ws_91 ty_115 adK adV fo rd krd tp ktp cd bb tl  H.size (⟨ts_117, te_118, cc_119, ra_120, rb_121, rc_122, rv_123, re_124, ya_125, by omega, by omega, by omega, by omega, er_130, et_131, ⟨k_132, c9_133, t_134, f_135, e_136, u_137⟩, ⟨k_138, c9_139, t_140, f_141, e_142, u_143⟩⟩ : RS ws_91 ty_115 rd krd tp ktp cd bb tl)) (cwV 0 hts gX4_readEither_X4_isAndOr rfl rfl rfl (by decide +kernel) ⟨Nat.le_of_ble_eq_true rfl, Nat.le_of_ble_eq_true rfl⟩) ⟨fun a U g mk q => by obtain ⟨q0, q1, qP, qK, qD, qS⟩ := q; exact ⟨q0, q1, qP, va_K.moved (u := U) (U := U.calling g mk a) (Vm.Alike.refl U.vm) qK, qD, SZ.same rfl rfl qS⟩, va_recv hK hP (ci := 4) (q0 := krd) rfl er_130, fun U hU hW => ⟨rfl, by rw [hU], by rw [hU]; exact hP, va_K.moved hW.alike hK, hD.weaken (fun _ _ _ _ => trivial), hsz9.go hS hW hU hFc⟩⟩ rfl rfl hl.1 rfl (lv_room (Nat.le_of_ble_eq_true rfl)) dX4_readEither_24 ⟨Nat.le_of_ble_eq_true rfl, Nat.le_of_ble_eq_true rfl⟩) hS (fun q _ h => hFc q h) hFc (fun r_262 u t H1 locs ht hvm w_263 hB hz1 hk1 hS => ?_)
  obtain ⟨ws_264, ty_265, hm_266, ht_268, hP1, hK1, hD1, hx_267⟩ := hB
  rw [ht] at hP1
  have hK := va_K.moved hvm.symm hK1
  have hD := hD1.weaken (fun _ _ _ h => hFc _ h)
  generalize H1 = H at hP1 hS ⊢
  have hP := hP1
  have e_269 := hm_266.objK er_130 (by decide)
  have e_270 := hm_266.objK et_131 (by decide)
  obtain ⟨f_272, e_271⟩ := hm_266.arrI e_136
  have u_273 := ht_268 _ _ u_137
  obtain ⟨f_275, e_274⟩ := hm_266.arrI e_142
  have u_276 := ht_268 _ _ u_143
  have hsm := hsm.tr (hm_266.mono (by decide))
  have hlp_93 := hlp_93.tr (hm_266.mono (by decide))
  have htx := htx.tr ht_268
  rcases w_263 with rfl | rfl
  · refine lv_if_eq (tgt := 101) hx hb dX4_readEither_27 (by decide) (fun c_277 => ?_) (fun c_277 => absurd (by decide) c_277)
    refine lv_iload_n hx hb dX4_readEither_101 rfl (lv_at hl 2 rfl) ?_
    refine lv_if_eq (tgt := 111) hx hb dX4_readEither_102 (by decide) (fun c_278 => ?_) (fun c_278 => ?_)
    · refine lv_iload_n hx hb dX4_readEither_111 rfl (lv_at hl 1 rfl) ?_
      exact W.zret (v := x_86) hx hb hr (by rcases hbx_89 with h9 | h9 <;> rw [h9] <;> rfl) (fun t ht hW => ⟨⟨x_86, (), rfl, hbx_89, ws_264, ty_265, hsm, htx, by rw [ht]; exact hP, va_K.moved hW.alike hK, hD, (⟨ts_117, te_118, cc_119, ra_120, rb_121, rc_122, rv_123, re_124, ya_125, by omega, by omega, by omega, by omega, e_269, e_270, ⟨k_132, c9_133, t_134, f_272, e_271, u_273⟩, ⟨k_138, c9_139, t_140, f_275, e_274, u_276⟩⟩ : RS ws_264 ty_265 rd krd tp ktp cd bb tl)⟩, hS.F ht⟩) hS.2.2 dX4_readEither_112
    refine lv_aload_n hx hb dX4_readEither_105 rfl (lv_at hl 4 rfl) ?_
    refine lv_bipush (v := (-3)) hx hb dX4_readEither_106 (by decide) ?_
    have hFc := free_all hD hS hA
    refine va_callv (va_runV (As := [.int (-3)]) (rest := []) ⟨hx, hb, hml, hown, hts⟩ (r_addCode l D ws_264 ty_265 adK adV fo rd krd tp ktp cd bb tl (-3) H.size (⟨ts_117, te_118, cc_119, ra_120, rb_121, rc_122, rv_123, re_124, ya_125, by omega, by omega, by omega, by omega, e_269, e_270, ⟨k_132, c9_133, t_134, f_272, e_271, u_273⟩, ⟨k_138, c9_139, t_140, f_275, e_274, u_276⟩⟩ : RS ws_264 ty_265 rd krd tp ktp cd bb tl)) (cwV 1 hts gX4_readEither_X4_addCode rfl rfl rfl (by decide +kernel) ⟨Nat.le_of_ble_eq_true rfl, Nat.le_of_ble_eq_true rfl⟩) ⟨fun a U g mk q => by obtain ⟨q0, q1, qP, qK, qD, qS⟩ := q; exact ⟨q0, q1, qP, va_K.moved (u := U) (U := U.calling g mk a) (Vm.Alike.refl U.vm) qK, qD, SZ.same rfl rfl qS⟩, va_recv hK hP (ci := 4) (q0 := krd) rfl e_269, fun U hU hW => ⟨rfl, by rw [hU], by rw [hU]; exact hP, va_K.moved hW.alike hK, hD.weaken (fun _ _ _ _ => trivial), hsz9.go hS hW hU hFc⟩⟩ rfl rfl hl.1 rfl (lv_room (Nat.le_of_ble_eq_true rfl)) dX4_readEither_108 ⟨Nat.le_of_ble_eq_true rfl, Nat.le_of_ble_eq_true rfl⟩) hS (fun q _ h => hFc q h) hFc (fun u t H1 locs ht hvm w_280 hB hz1 hk1 hS => ?_)
    obtain ⟨ws_281, ty_282, hm_283, ht_285, hP1, hK1, hD1, hx_284⟩ := hB
    rw [ht] at hP1
    have hK := va_K.moved hvm.symm hK1
    have hD := hD1.weaken (fun _ _ _ h => hFc _ h)
    generalize H1 = H at hP1 hS ⊢
    have hP := hP1
    obtain ⟨g_287, e_286, h_288⟩ := hm_283.obj e_269
    obtain ⟨z_289, z_290, z_291, z_292, z_293, z_294, rfl⟩ := smX4 h_288
    obtain ⟨g_296, e_295, h_297⟩ := hm_283.obj e_270
    obtain ⟨z_298, z_299, z_300, z_301, rfl⟩ := smX6 h_297
    obtain ⟨f_303, e_302⟩ := hm_283.arrI e_271
    have u_304 := ht_285 _ _ u_273
    obtain ⟨f_306, e_305⟩ := hm_283.arrI e_274
    have u_307 := ht_285 _ _ u_276
    have hsm := hsm.tr (hm_283.mono (by decide))
    have hlp_93 := hlp_93.tr (hm_283.mono (by decide))
    have htx := htx.tr ht_285
    obtain ⟨ts_308, te_309, cc_310, ra_311, rb_312, rc_313, rv_314, re_315, ya_316, h1_317, h2_318, h3_319, h4_320, er_321, et_322, ⟨k_323, c9_324, t_325, f_326, e_327, u_328⟩, ⟨k_329, c9_330, t_331, f_332, e_333, u_334⟩⟩ := id hx_284
    refine lv_iload_n hx hb dX4_readEither_111 rfl (lv_at hl 1 rfl) ?_
    exact W.zret (v := x_86) hx hb hr (by rcases hbx_89 with h9 | h9 <;> rw [h9] <;> rfl) (fun t ht hW => ⟨⟨x_86, (), rfl, hbx_89, ws_281, ty_282, hsm, htx, by rw [ht]; exact hP, va_K.moved hW.alike hK, hD, (⟨ts_308, te_309, cc_310, ra_311, rb_312, rc_313, rv_314, re_315, ya_316, by omega, by omega, by omega, by omega, er_321, et_322, ⟨k_323, c9_324, t_325, f_326, e_327, u_328⟩, ⟨k_329, c9_330, t_331, f_332, e_333, u_334⟩⟩ : RS ws_281 ty_282 rd krd tp ktp cd bb tl)⟩, hS.F ht⟩) hS.2.2 dX4_readEither_112
  refine lv_if_eq (tgt := 101) hx hb dX4_readEither_27 (by decide) (fun c_335 => absurd c_335 (by decide)) (fun c_335 => ?_)
  refine lv_aload_n hx hb dX4_readEither_30 rfl (lv_at hl 4 rfl) ?_
  refine va_get (D := D) (ci := 4) (v := .ref tp) (C := RX4) (T := TX4) (N := 8) hx hb hts hin4 hown hK hP krd e_269 rfl 0 (by decide) (hts (.fieldLink RX4 12 "HoneyHouse$RuleReader" "tape" "LHoneyHouse$Tape;") (List.mem_of_getElem? (i := 1) rfl)) (fun _ h9 => h9) rfl dX4_readEither_31 ?_
  refine va_ldcS hx hb hown hsz9.2.2.2.2.2.1 dX4_readEither_34 ?_
  have hFc := free_all hD hS hA
  refine va_calli (va_runV (As := [.ref (adK 2)]) (rest := []) ⟨hx, hb, hml, hown, hts⟩ (a_isWord l D ws_264 ty_265 adK adV fo 2 tp ktp tl ya_125 (nI ts_117) (nI te_118) bb k_138 c9_139 t_140 f_275 H.size (by decide) e_270 e_274 u_276) (cwV 1 hts gX4_readEither_X6_isWord rfl rfl rfl (by decide +kernel) ⟨Nat.le_of_ble_eq_true rfl, Nat.le_of_ble_eq_true rfl⟩) ⟨fun a U g mk q => by obtain ⟨q0, q1, qP, qK, qD, qS⟩ := q; exact ⟨q0, q1, qP, va_K.moved (u := U) (U := U.calling g mk a) (Vm.Alike.refl U.vm) qK, qD, SZ.same rfl rfl qS⟩, va_recv hK hP (ci := 6) (q0 := ktp) rfl e_270, fun U hU hW => ⟨rfl, by rw [hU], by rw [hU]; exact hP, va_K.moved hW.alike hK, hD.weaken (fun _ _ _ _ => trivial), hsz9.go hS hW hU hFc⟩⟩ rfl rfl hl.1 rfl (lv_room (Nat.le_of_ble_eq_true rfl)) dX4_readEither_36 ⟨Nat.le_of_ble_eq_true rfl, Nat.le_of_ble_eq_true rfl⟩) hS (fun q _ h => hFc q h) hFc (fun r_336 u t H1 locs ht hvm w_337 hB hz1 hk1 hS => ?_)
  obtain ⟨ws_338, ty_339, hm_340, ht_342, hP1, hK1, hD1, hx_341⟩ := hB
  rw [ht] at hP1
  have hK := va_K.moved hvm.symm hK1
  have hD := hD1.weaken (fun _ _ _ h => hFc _ h)
  generalize H1 = H at hP1 hS ⊢
  have hP := hP1
  have e_343 := hm_340.objK e_269 (by decide)
  have e_344 := hm_340.objK e_270 (by decide)
  obtain ⟨f_346, e_345⟩ := hm_340.arrI e_271
  have u_347 := ht_342 _ _ u_273
  obtain ⟨f_349, e_348⟩ := hm_340.arrI e_274
  have u_350 := ht_342 _ _ u_276
  have hsm := hsm.tr (hm_340.mono (by decide))
  have hlp_93 := hlp_93.tr (hm_340.mono (by decide))
  have htx := htx.tr ht_342
  rcases w_337 with rfl | rfl
  · refine lv_istore (lv' := [(5, .int 0), (4, .int (nI i_85)), (2, .int x_86), (3, .int y_87), (1, .int 5), (0, .ref rd)]) hx hb dX4_readEither_39 hl (by decide) rfl (fun ls hl => ?_)
    refine lv_iload hx hb dX4_readEither_41 (lv_at hl 0 rfl) ?_
    refine lv_if_ne (tgt := 56) hx hb dX4_readEither_43 (by decide) (fun c_351 => absurd (by decide) c_351) (fun c_351 => ?_)
    refine lv_iload_n hx hb dX4_readEither_46 rfl (lv_at hl 3 rfl) ?_
    refine lv_if_eq (tgt := 56) hx hb dX4_readEither_47 (by decide) (fun c_352 => ?_) (fun c_352 => ?_)
    · refine lv_iload_n hx hb dX4_readEither_56 rfl (lv_at hl 3 rfl) ?_
      refine lv_if_ne (tgt := 65) hx hb dX4_readEither_57 (by decide) (fun c_353 => ?_) (fun c_353 => ?_)
      · refine lv_iconst (v := 1) hx hb dX4_readEither_65 (by decide) ?_
        refine lv_goto (tgt := 70) hx hb dX4_readEither_66 (by decide) ?_
        refine lv_istore_n (lv' := [(3, .int 1), (5, .int 0), (4, .int (nI i_85)), (2, .int x_86), (1, .int 5), (0, .ref rd)]) hx hb dX4_readEither_70 rfl hl (by decide) rfl (fun ls hl => ?_)
        refine lv_aload_n hx hb dX4_readEither_71 rfl (lv_at hl 5 rfl) ?_
        refine va_get (D := D) (ci := 4) (v := .ref tp) (C := RX4) (T := TX4) (N := 8) hx hb hts hin4 hown hK hP krd e_343 rfl 0 (by decide) (hts (.fieldLink RX4 12 "HoneyHouse$RuleReader" "tape" "LHoneyHouse$Tape;") (List.mem_of_getElem? (i := 1) rfl)) (fun _ h9 => h9) rfl dX4_readEither_72 ?_
        have hFc := free_all hD hS hA
        refine va_callv (va_runV (As := []) (rest := []) ⟨hx, hb, hml, hown, hts⟩ (a_advance l D ws_338 ty_339 tp ktp tl te_118 ya_125 (nI ts_117) bb k_138 c9_139 t_140 f_349 H.size (by omega) (by omega) e_344 e_348 u_350) (cwV 0 hts gX4_readEither_X6_advance rfl rfl rfl (by decide +kernel) ⟨Nat.le_of_ble_eq_true rfl, Nat.le_of_ble_eq_true rfl⟩) ⟨fun a U g mk q => by obtain ⟨q0, q1, qP, qK, qD⟩ := q; exact ⟨q0, q1, qP, va_K.moved (u := U) (U := U.calling g mk a) (Vm.Alike.refl U.vm) qK, qD⟩, va_recv hK hP (ci := 6) (q0 := ktp) rfl e_344, fun U hU hW => ⟨rfl, by rw [hU], by rw [hU]; exact hP, va_K.moved hW.alike hK, hD.weaken (fun _ _ _ _ => trivial)⟩⟩ rfl rfl hl.1 rfl (lv_room (Nat.le_of_ble_eq_true rfl)) dX4_readEither_75 ⟨Nat.le_of_ble_eq_true rfl, Nat.le_of_ble_eq_true rfl⟩) hS (fun q _ h => hFc q h) hFc (fun u t H1 locs ht hvm w_355 hB hz1 hk1 hS => ?_)
        obtain ⟨ws_356, ty_357, hm_358, ht_360, hP1, hK1, hD1, hx_359⟩ := hB
        rw [ht] at hP1
        have hK := va_K.moved hvm.symm hK1
        have hD := hD1.weaken (fun _ _ _ h => hFc _ h)
        generalize H1 = H at hP1 hS ⊢
        have hP := hP1
        have e_361 := hm_358.objK e_343 (by decide)
        obtain ⟨g_363, e_362, h_364⟩ := hm_358.obj e_344
        obtain ⟨z_365, z_366, z_367, z_368, rfl⟩ := smX6 h_364
        obtain ⟨f_370, e_369⟩ := hm_358.arrI e_345
        have u_371 := ht_360 _ _ u_347
        obtain ⟨f_373, e_372⟩ := hm_358.arrI e_348
        have u_374 := ht_360 _ _ u_350
        have hsm := hsm.tr (hm_358.mono (by decide))
        have hlp_93 := hlp_93.tr (hm_358.mono (by decide))
        have htx := htx.tr ht_360
        obtain ⟨k_375, s_376, e_377, h_378, h_379, h_380, e_381⟩ := hx_359
        refine lv_aload_n hx hb dX4_readEither_78 rfl (lv_at hl 5 rfl) ?_
        refine lv_iload_n hx hb dX4_readEither_79 rfl (lv_at hl 4 rfl) ?_
        have hFc := free_all hD hS hA
        refine va_calli (va_runV (As := [.int 5]) (rest := []) ⟨hx, hb, hml, hown, hts⟩ (r_readOne5 l D ws_356 ty_357 adK adV fo rd krd tp ktp cd bb tl  H.size (⟨s_376, e_377, cc_119, ra_120, rb_121, rc_122, rv_123, re_124, nI k_375, by omega, by omega, by omega, by omega, e_361, e_381, ⟨k_132, c9_133, t_134, f_370, e_369, u_371⟩, ⟨k_138, c9_139, t_140, f_373, e_372, u_374⟩⟩ : RS ws_356 ty_357 rd krd tp ktp cd bb tl)) (cwV 1 hts gX4_readEither_X4_readOne rfl rfl rfl (by decide +kernel) ⟨Nat.le_of_ble_eq_true rfl, Nat.le_of_ble_eq_true rfl⟩) ⟨fun a U g mk q => by obtain ⟨q0, q1, qP, qK, qD, qS⟩ := q; exact ⟨q0, q1, qP, va_K.moved (u := U) (U := U.calling g mk a) (Vm.Alike.refl U.vm) qK, qD, SZ.same rfl rfl qS⟩, va_recv hK hP (ci := 4) (q0 := krd) rfl e_361, fun U hU hW => ⟨rfl, by rw [hU], by rw [hU]; exact hP, va_K.moved hW.alike hK, hD.weaken (fun _ _ _ _ => trivial), hsz9.go hS hW hU hFc⟩⟩ rfl rfl hl.1 rfl (lv_room (Nat.le_of_ble_eq_true rfl)) dX4_readEither_80 ⟨Nat.le_of_ble_eq_true rfl, Nat.le_of_ble_eq_true rfl⟩) hS (fun q _ h => hFc q h) hFc (fun r_382 u t H1 locs ht hvm w_383 hB hz1 hk1 hS => ?_)
        obtain ⟨ws_384, ty_385, hm_386, ht_388, hP1, hK1, hD1, hx_387⟩ := hB
        rw [ht] at hP1
        have hK := va_K.moved hvm.symm hK1
        have hD := hD1.weaken (fun _ _ _ h => hFc _ h)
        generalize H1 = H at hP1 hS ⊢
        have hP := hP1
        obtain ⟨g_390, e_389, h_391⟩ := hm_386.obj e_361
        obtain ⟨z_392, z_393, z_394, z_395, z_396, z_397, rfl⟩ := smX4 h_391
        obtain ⟨g_399, e_398, h_400⟩ := hm_386.obj e_381
        obtain ⟨z_401, z_402, z_403, z_404, rfl⟩ := smX6 h_400
        obtain ⟨f_406, e_405⟩ := hm_386.arrI e_369
        have u_407 := ht_388 _ _ u_371
        obtain ⟨f_409, e_408⟩ := hm_386.arrI e_372
        have u_410 := ht_388 _ _ u_374
        have hsm := hsm.tr (hm_386.mono (by decide))
        have hlp_93 := hlp_93.tr (hm_386.mono (by decide))
        have htx := htx.tr ht_388
        obtain ⟨ts_411, te_412, cc_413, ra_414, rb_415, rc_416, rv_417, re_418, ya_419, h1_420, h2_421, h3_422, h4_423, er_424, et_425, ⟨k_426, c9_427, t_428, f_429, e_430, u_431⟩, ⟨k_432, c9_433, t_434, f_435, e_436, u_437⟩⟩ := id hx_387
        refine lv_istore_n (lv' := [(2, .int r_382), (3, .int 1), (5, .int 0), (4, .int (nI i_85)), (1, .int 5), (0, .ref rd)]) hx hb dX4_readEither_83 rfl hl (by decide) rfl (fun ls hl => ?_)
        refine lv_iload hx hb dX4_readEither_84 (lv_at hl 2 rfl) ?_
        refine lv_if_eq (tgt := 95) hx hb dX4_readEither_86 (by decide) (fun c_438 => ?_) (fun c_438 => absurd (by decide) c_438)
        refine lv_iinc (v := nI (i_85 + 1)) (lv' := [(4, .int (nI (i_85 + 1))), (2, .int r_382), (3, .int 1), (5, .int 0), (1, .int 5), (0, .ref rd)]) hx hb dX4_readEither_95 hl (k := 3) rfl (nI_add i_85 1) (by decide) rfl (fun ls hl => ?_)
        refine lv_goto (tgt := 11) hx hb dX4_readEither_98 (by decide) ?_
        exact ih_84 (i_85 + 1, r_382, 1) ws_384 _ _ ls (by show 400 - (i_85 + 1) < 400 - i_85; omega) ⟨hlp_93, ⟨ty_385, hK, htx, (⟨ts_411, te_412, cc_413, ra_414, rb_415, rc_416, rv_417, re_418, ya_419, by omega, by omega, by omega, by omega, er_424, et_425, ⟨k_426, c9_427, t_428, f_429, e_430, u_431⟩, ⟨k_432, c9_433, t_434, f_435, e_436, u_437⟩⟩ : RS ws_384 ty_385 rd krd tp ktp cd bb tl)⟩, (show (i_85 + 1) ≤ 400 from by omega), (show r_382 = 0 ∨ r_382 = 1 from w_383), (show 1 = 0 ∨ 1 = 1 from Or.inr rfl)⟩ hP hD hS (lv_sub hl [0, 1, 2, 4, 5] rfl)
      refine lv_iload hx hb dX4_readEither_60 (lv_at hl 0 rfl) ?_
      refine lv_if_ne (tgt := 69) hx hb dX4_readEither_62 (by decide) (fun c_439 => absurd (by decide) c_439) (fun c_439 => ?_)
      refine lv_iconst (v := 1) hx hb dX4_readEither_65 (by decide) ?_
      refine lv_goto (tgt := 70) hx hb dX4_readEither_66 (by decide) ?_
      refine lv_istore_n (lv' := [(3, .int 1), (5, .int 0), (4, .int (nI i_85)), (2, .int x_86), (1, .int 5), (0, .ref rd)]) hx hb dX4_readEither_70 rfl hl (by decide) rfl (fun ls hl => ?_)
      refine lv_aload_n hx hb dX4_readEither_71 rfl (lv_at hl 5 rfl) ?_
      refine va_get (D := D) (ci := 4) (v := .ref tp) (C := RX4) (T := TX4) (N := 8) hx hb hts hin4 hown hK hP krd e_343 rfl 0 (by decide) (hts (.fieldLink RX4 12 "HoneyHouse$RuleReader" "tape" "LHoneyHouse$Tape;") (List.mem_of_getElem? (i := 1) rfl)) (fun _ h9 => h9) rfl dX4_readEither_72 ?_
      have hFc := free_all hD hS hA
      refine va_callv (va_runV (As := []) (rest := []) ⟨hx, hb, hml, hown, hts⟩ (a_advance l D ws_338 ty_339 tp ktp tl te_118 ya_125 (nI ts_117) bb k_138 c9_139 t_140 f_349 H.size (by omega) (by omega) e_344 e_348 u_350) (cwV 0 hts gX4_readEither_X6_advance rfl rfl rfl (by decide +kernel) ⟨Nat.le_of_ble_eq_true rfl, Nat.le_of_ble_eq_true rfl⟩) ⟨fun a U g mk q => by obtain ⟨q0, q1, qP, qK, qD⟩ := q; exact ⟨q0, q1, qP, va_K.moved (u := U) (U := U.calling g mk a) (Vm.Alike.refl U.vm) qK, qD⟩, va_recv hK hP (ci := 6) (q0 := ktp) rfl e_344, fun U hU hW => ⟨rfl, by rw [hU], by rw [hU]; exact hP, va_K.moved hW.alike hK, hD.weaken (fun _ _ _ _ => trivial)⟩⟩ rfl rfl hl.1 rfl (lv_room (Nat.le_of_ble_eq_true rfl)) dX4_readEither_75 ⟨Nat.le_of_ble_eq_true rfl, Nat.le_of_ble_eq_true rfl⟩) hS (fun q _ h => hFc q h) hFc (fun u t H1 locs ht hvm w_441 hB hz1 hk1 hS => ?_)
      obtain ⟨ws_442, ty_443, hm_444, ht_446, hP1, hK1, hD1, hx_445⟩ := hB
      rw [ht] at hP1
      have hK := va_K.moved hvm.symm hK1
      have hD := hD1.weaken (fun _ _ _ h => hFc _ h)
      generalize H1 = H at hP1 hS ⊢
      have hP := hP1
      have e_447 := hm_444.objK e_343 (by decide)
      obtain ⟨g_449, e_448, h_450⟩ := hm_444.obj e_344
      obtain ⟨z_451, z_452, z_453, z_454, rfl⟩ := smX6 h_450
      obtain ⟨f_456, e_455⟩ := hm_444.arrI e_345
      have u_457 := ht_446 _ _ u_347
      obtain ⟨f_459, e_458⟩ := hm_444.arrI e_348
      have u_460 := ht_446 _ _ u_350
      have hsm := hsm.tr (hm_444.mono (by decide))
      have hlp_93 := hlp_93.tr (hm_444.mono (by decide))
      have htx := htx.tr ht_446
      obtain ⟨k_461, s_462, e_463, h_464, h_465, h_466, e_467⟩ := hx_445
      refine lv_aload_n hx hb dX4_readEither_78 rfl (lv_at hl 5 rfl) ?_
      refine lv_iload_n hx hb dX4_readEither_79 rfl (lv_at hl 4 rfl) ?_
      have hFc := free_all hD hS hA
      refine va_calli (va_runV (As := [.int 5]) (rest := []) ⟨hx, hb, hml, hown, hts⟩ (r_readOne5 l D ws_442 ty_443 adK adV fo rd krd tp ktp cd bb tl  H.size (⟨s_462, e_463, cc_119, ra_120, rb_121, rc_122, rv_123, re_124, nI k_461, by omega, by omega, by omega, by omega, e_447, e_467, ⟨k_132, c9_133, t_134, f_456, e_455, u_457⟩, ⟨k_138, c9_139, t_140, f_459, e_458, u_460⟩⟩ : RS ws_442 ty_443 rd krd tp ktp cd bb tl)) (cwV 1 hts gX4_readEither_X4_readOne rfl rfl rfl (by decide +kernel) ⟨Nat.le_of_ble_eq_true rfl, Nat.le_of_ble_eq_true rfl⟩) ⟨fun a U g mk q => by obtain ⟨q0, q1, qP, qK, qD, qS⟩ := q; exact ⟨q0, q1, qP, va_K.moved (u := U) (U := U.calling g mk a) (Vm.Alike.refl U.vm) qK, qD, SZ.same rfl rfl qS⟩, va_recv hK hP (ci := 4) (q0 := krd) rfl e_447, fun U hU hW => ⟨rfl, by rw [hU], by rw [hU]; exact hP, va_K.moved hW.alike hK, hD.weaken (fun _ _ _ _ => trivial), hsz9.go hS hW hU hFc⟩⟩ rfl rfl hl.1 rfl (lv_room (Nat.le_of_ble_eq_true rfl)) dX4_readEither_80 ⟨Nat.le_of_ble_eq_true rfl, Nat.le_of_ble_eq_true rfl⟩) hS (fun q _ h => hFc q h) hFc (fun r_468 u t H1 locs ht hvm w_469 hB hz1 hk1 hS => ?_)
      obtain ⟨ws_470, ty_471, hm_472, ht_474, hP1, hK1, hD1, hx_473⟩ := hB
      rw [ht] at hP1
      have hK := va_K.moved hvm.symm hK1
      have hD := hD1.weaken (fun _ _ _ h => hFc _ h)
      generalize H1 = H at hP1 hS ⊢
      have hP := hP1
      obtain ⟨g_476, e_475, h_477⟩ := hm_472.obj e_447
      obtain ⟨z_478, z_479, z_480, z_481, z_482, z_483, rfl⟩ := smX4 h_477
      obtain ⟨g_485, e_484, h_486⟩ := hm_472.obj e_467
      obtain ⟨z_487, z_488, z_489, z_490, rfl⟩ := smX6 h_486
      obtain ⟨f_492, e_491⟩ := hm_472.arrI e_455
      have u_493 := ht_474 _ _ u_457
      obtain ⟨f_495, e_494⟩ := hm_472.arrI e_458
      have u_496 := ht_474 _ _ u_460
      have hsm := hsm.tr (hm_472.mono (by decide))
      have hlp_93 := hlp_93.tr (hm_472.mono (by decide))
      have htx := htx.tr ht_474
      obtain ⟨ts_497, te_498, cc_499, ra_500, rb_501, rc_502, rv_503, re_504, ya_505, h1_506, h2_507, h3_508, h4_509, er_510, et_511, ⟨k_512, c9_513, t_514, f_515, e_516, u_517⟩, ⟨k_518, c9_519, t_520, f_521, e_522, u_523⟩⟩ := id hx_473
      refine lv_istore_n (lv' := [(2, .int r_468), (3, .int 1), (5, .int 0), (4, .int (nI i_85)), (1, .int 5), (0, .ref rd)]) hx hb dX4_readEither_83 rfl hl (by decide) rfl (fun ls hl => ?_)
      refine lv_iload hx hb dX4_readEither_84 (lv_at hl 2 rfl) ?_
      refine lv_if_eq (tgt := 95) hx hb dX4_readEither_86 (by decide) (fun c_524 => ?_) (fun c_524 => absurd (by decide) c_524)
      refine lv_iinc (v := nI (i_85 + 1)) (lv' := [(4, .int (nI (i_85 + 1))), (2, .int r_468), (3, .int 1), (5, .int 0), (1, .int 5), (0, .ref rd)]) hx hb dX4_readEither_95 hl (k := 3) rfl (nI_add i_85 1) (by decide) rfl (fun ls hl => ?_)
      refine lv_goto (tgt := 11) hx hb dX4_readEither_98 (by decide) ?_
      exact ih_84 (i_85 + 1, r_468, 1) ws_470 _ _ ls (by show 400 - (i_85 + 1) < 400 - i_85; omega) ⟨hlp_93, ⟨ty_471, hK, htx, (⟨ts_497, te_498, cc_499, ra_500, rb_501, rc_502, rv_503, re_504, ya_505, by omega, by omega, by omega, by omega, er_510, et_511, ⟨k_512, c9_513, t_514, f_515, e_516, u_517⟩, ⟨k_518, c9_519, t_520, f_521, e_522, u_523⟩⟩ : RS ws_470 ty_471 rd krd tp ktp cd bb tl)⟩, (show (i_85 + 1) ≤ 400 from by omega), (show r_468 = 0 ∨ r_468 = 1 from w_469), (show 1 = 0 ∨ 1 = 1 from Or.inr rfl)⟩ hP hD hS (lv_sub hl [0, 1, 2, 4, 5] rfl)
    refine lv_aload_n hx hb dX4_readEither_50 rfl (lv_at hl 5 rfl) ?_
    refine lv_bipush (v := (-3)) hx hb dX4_readEither_51 (by decide) ?_
    have hFc := free_all hD hS hA
    refine va_callv (va_runV (As := [.int (-3)]) (rest := []) ⟨hx, hb, hml, hown, hts⟩ (r_addCode l D ws_338 ty_339 adK adV fo rd krd tp ktp cd bb tl (-3) H.size (⟨ts_117, te_118, cc_119, ra_120, rb_121, rc_122, rv_123, re_124, ya_125, by omega, by omega, by omega, by omega, e_343, e_344, ⟨k_132, c9_133, t_134, f_346, e_345, u_347⟩, ⟨k_138, c9_139, t_140, f_349, e_348, u_350⟩⟩ : RS ws_338 ty_339 rd krd tp ktp cd bb tl)) (cwV 1 hts gX4_readEither_X4_addCode rfl rfl rfl (by decide +kernel) ⟨Nat.le_of_ble_eq_true rfl, Nat.le_of_ble_eq_true rfl⟩) ⟨fun a U g mk q => by obtain ⟨q0, q1, qP, qK, qD, qS⟩ := q; exact ⟨q0, q1, qP, va_K.moved (u := U) (U := U.calling g mk a) (Vm.Alike.refl U.vm) qK, qD, SZ.same rfl rfl qS⟩, va_recv hK hP (ci := 4) (q0 := krd) rfl e_343, fun U hU hW => ⟨rfl, by rw [hU], by rw [hU]; exact hP, va_K.moved hW.alike hK, hD.weaken (fun _ _ _ _ => trivial), hsz9.go hS hW hU hFc⟩⟩ rfl rfl hl.1 rfl (lv_room (Nat.le_of_ble_eq_true rfl)) dX4_readEither_53 ⟨Nat.le_of_ble_eq_true rfl, Nat.le_of_ble_eq_true rfl⟩) hS (fun q _ h => hFc q h) hFc (fun u t H1 locs ht hvm w_526 hB hz1 hk1 hS => ?_)
    obtain ⟨ws_527, ty_528, hm_529, ht_531, hP1, hK1, hD1, hx_530⟩ := hB
    rw [ht] at hP1
    have hK := va_K.moved hvm.symm hK1
    have hD := hD1.weaken (fun _ _ _ h => hFc _ h)
    generalize H1 = H at hP1 hS ⊢
    have hP := hP1
    obtain ⟨g_533, e_532, h_534⟩ := hm_529.obj e_343
    obtain ⟨z_535, z_536, z_537, z_538, z_539, z_540, rfl⟩ := smX4 h_534
    obtain ⟨g_542, e_541, h_543⟩ := hm_529.obj e_344
    obtain ⟨z_544, z_545, z_546, z_547, rfl⟩ := smX6 h_543
    obtain ⟨f_549, e_548⟩ := hm_529.arrI e_345
    have u_550 := ht_531 _ _ u_347
    obtain ⟨f_552, e_551⟩ := hm_529.arrI e_348
    have u_553 := ht_531 _ _ u_350
    have hsm := hsm.tr (hm_529.mono (by decide))
    have hlp_93 := hlp_93.tr (hm_529.mono (by decide))
    have htx := htx.tr ht_531
    obtain ⟨ts_554, te_555, cc_556, ra_557, rb_558, rc_559, rv_560, re_561, ya_562, h1_563, h2_564, h3_565, h4_566, er_567, et_568, ⟨k_569, c9_570, t_571, f_572, e_573, u_574⟩, ⟨k_575, c9_576, t_577, f_578, e_579, u_580⟩⟩ := id hx_530
    refine lv_iload_n hx hb dX4_readEither_56 rfl (lv_at hl 3 rfl) ?_
    refine lv_if_ne (tgt := 65) hx hb dX4_readEither_57 (by decide) (fun c_581 => ?_) (fun c_581 => ?_)
    · refine lv_iconst (v := 1) hx hb dX4_readEither_65 (by decide) ?_
      refine lv_goto (tgt := 70) hx hb dX4_readEither_66 (by decide) ?_
      refine lv_istore_n (lv' := [(3, .int 1), (5, .int 0), (4, .int (nI i_85)), (2, .int x_86), (1, .int 5), (0, .ref rd)]) hx hb dX4_readEither_70 rfl hl (by decide) rfl (fun ls hl => ?_)
      refine lv_aload_n hx hb dX4_readEither_71 rfl (lv_at hl 5 rfl) ?_
      refine va_get (D := D) (ci := 4) (v := .ref tp) (C := RX4) (T := TX4) (N := 8) hx hb hts hin4 hown hK hP krd er_567 rfl 0 (by decide) (hts (.fieldLink RX4 12 "HoneyHouse$RuleReader" "tape" "LHoneyHouse$Tape;") (List.mem_of_getElem? (i := 1) rfl)) (fun _ h9 => h9) rfl dX4_readEither_72 ?_
      have hFc := free_all hD hS hA
      refine va_callv (va_runV (As := []) (rest := []) ⟨hx, hb, hml, hown, hts⟩ (a_advance l D ws_527 ty_528 tp ktp tl te_555 ya_562 (nI ts_554) bb k_575 c9_576 t_577 f_578 H.size (by omega) (by omega) et_568 e_579 u_580) (cwV 0 hts gX4_readEither_X6_advance rfl rfl rfl (by decide +kernel) ⟨Nat.le_of_ble_eq_true rfl, Nat.le_of_ble_eq_true rfl⟩) ⟨fun a U g mk q => by obtain ⟨q0, q1, qP, qK, qD⟩ := q; exact ⟨q0, q1, qP, va_K.moved (u := U) (U := U.calling g mk a) (Vm.Alike.refl U.vm) qK, qD⟩, va_recv hK hP (ci := 6) (q0 := ktp) rfl et_568, fun U hU hW => ⟨rfl, by rw [hU], by rw [hU]; exact hP, va_K.moved hW.alike hK, hD.weaken (fun _ _ _ _ => trivial)⟩⟩ rfl rfl hl.1 rfl (lv_room (Nat.le_of_ble_eq_true rfl)) dX4_readEither_75 ⟨Nat.le_of_ble_eq_true rfl, Nat.le_of_ble_eq_true rfl⟩) hS (fun q _ h => hFc q h) hFc (fun u t H1 locs ht hvm w_583 hB hz1 hk1 hS => ?_)
      obtain ⟨ws_584, ty_585, hm_586, ht_588, hP1, hK1, hD1, hx_587⟩ := hB
      rw [ht] at hP1
      have hK := va_K.moved hvm.symm hK1
      have hD := hD1.weaken (fun _ _ _ h => hFc _ h)
      generalize H1 = H at hP1 hS ⊢
      have hP := hP1
      have e_589 := hm_586.objK er_567 (by decide)
      obtain ⟨g_591, e_590, h_592⟩ := hm_586.obj et_568
      obtain ⟨z_593, z_594, z_595, z_596, rfl⟩ := smX6 h_592
      obtain ⟨f_598, e_597⟩ := hm_586.arrI e_573
      have u_599 := ht_588 _ _ u_574
      obtain ⟨f_601, e_600⟩ := hm_586.arrI e_579
      have u_602 := ht_588 _ _ u_580
      have hsm := hsm.tr (hm_586.mono (by decide))
      have hlp_93 := hlp_93.tr (hm_586.mono (by decide))
      have htx := htx.tr ht_588
      obtain ⟨k_603, s_604, e_605, h_606, h_607, h_608, e_609⟩ := hx_587
      refine lv_aload_n hx hb dX4_readEither_78 rfl (lv_at hl 5 rfl) ?_
      refine lv_iload_n hx hb dX4_readEither_79 rfl (lv_at hl 4 rfl) ?_
      have hFc := free_all hD hS hA
      refine va_calli (va_runV (As := [.int 5]) (rest := []) ⟨hx, hb, hml, hown, hts⟩ (r_readOne5 l D ws_584 ty_585 adK adV fo rd krd tp ktp cd bb tl  H.size (⟨s_604, e_605, cc_556, ra_557, rb_558, rc_559, rv_560, re_561, nI k_603, by omega, by omega, by omega, by omega, e_589, e_609, ⟨k_569, c9_570, t_571, f_598, e_597, u_599⟩, ⟨k_575, c9_576, t_577, f_601, e_600, u_602⟩⟩ : RS ws_584 ty_585 rd krd tp ktp cd bb tl)) (cwV 1 hts gX4_readEither_X4_readOne rfl rfl rfl (by decide +kernel) ⟨Nat.le_of_ble_eq_true rfl, Nat.le_of_ble_eq_true rfl⟩) ⟨fun a U g mk q => by obtain ⟨q0, q1, qP, qK, qD, qS⟩ := q; exact ⟨q0, q1, qP, va_K.moved (u := U) (U := U.calling g mk a) (Vm.Alike.refl U.vm) qK, qD, SZ.same rfl rfl qS⟩, va_recv hK hP (ci := 4) (q0 := krd) rfl e_589, fun U hU hW => ⟨rfl, by rw [hU], by rw [hU]; exact hP, va_K.moved hW.alike hK, hD.weaken (fun _ _ _ _ => trivial), hsz9.go hS hW hU hFc⟩⟩ rfl rfl hl.1 rfl (lv_room (Nat.le_of_ble_eq_true rfl)) dX4_readEither_80 ⟨Nat.le_of_ble_eq_true rfl, Nat.le_of_ble_eq_true rfl⟩) hS (fun q _ h => hFc q h) hFc (fun r_610 u t H1 locs ht hvm w_611 hB hz1 hk1 hS => ?_)
      obtain ⟨ws_612, ty_613, hm_614, ht_616, hP1, hK1, hD1, hx_615⟩ := hB
      rw [ht] at hP1
      have hK := va_K.moved hvm.symm hK1
      have hD := hD1.weaken (fun _ _ _ h => hFc _ h)
      generalize H1 = H at hP1 hS ⊢
      have hP := hP1
      obtain ⟨g_618, e_617, h_619⟩ := hm_614.obj e_589
      obtain ⟨z_620, z_621, z_622, z_623, z_624, z_625, rfl⟩ := smX4 h_619
      obtain ⟨g_627, e_626, h_628⟩ := hm_614.obj e_609
      obtain ⟨z_629, z_630, z_631, z_632, rfl⟩ := smX6 h_628
      obtain ⟨f_634, e_633⟩ := hm_614.arrI e_597
      have u_635 := ht_616 _ _ u_599
      obtain ⟨f_637, e_636⟩ := hm_614.arrI e_600
      have u_638 := ht_616 _ _ u_602
      have hsm := hsm.tr (hm_614.mono (by decide))
      have hlp_93 := hlp_93.tr (hm_614.mono (by decide))
      have htx := htx.tr ht_616
      obtain ⟨ts_639, te_640, cc_641, ra_642, rb_643, rc_644, rv_645, re_646, ya_647, h1_648, h2_649, h3_650, h4_651, er_652, et_653, ⟨k_654, c9_655, t_656, f_657, e_658, u_659⟩, ⟨k_660, c9_661, t_662, f_663, e_664, u_665⟩⟩ := id hx_615
      refine lv_istore_n (lv' := [(2, .int r_610), (3, .int 1), (5, .int 0), (4, .int (nI i_85)), (1, .int 5), (0, .ref rd)]) hx hb dX4_readEither_83 rfl hl (by decide) rfl (fun ls hl => ?_)
      refine lv_iload hx hb dX4_readEither_84 (lv_at hl 2 rfl) ?_
      refine lv_if_eq (tgt := 95) hx hb dX4_readEither_86 (by decide) (fun c_666 => ?_) (fun c_666 => absurd (by decide) c_666)
      refine lv_iinc (v := nI (i_85 + 1)) (lv' := [(4, .int (nI (i_85 + 1))), (2, .int r_610), (3, .int 1), (5, .int 0), (1, .int 5), (0, .ref rd)]) hx hb dX4_readEither_95 hl (k := 3) rfl (nI_add i_85 1) (by decide) rfl (fun ls hl => ?_)
      refine lv_goto (tgt := 11) hx hb dX4_readEither_98 (by decide) ?_
      exact ih_84 (i_85 + 1, r_610, 1) ws_612 _ _ ls (by show 400 - (i_85 + 1) < 400 - i_85; omega) ⟨hlp_93, ⟨ty_613, hK, htx, (⟨ts_639, te_640, cc_641, ra_642, rb_643, rc_644, rv_645, re_646, ya_647, by omega, by omega, by omega, by omega, er_652, et_653, ⟨k_654, c9_655, t_656, f_657, e_658, u_659⟩, ⟨k_660, c9_661, t_662, f_663, e_664, u_665⟩⟩ : RS ws_612 ty_613 rd krd tp ktp cd bb tl)⟩, (show (i_85 + 1) ≤ 400 from by omega), (show r_610 = 0 ∨ r_610 = 1 from w_611), (show 1 = 0 ∨ 1 = 1 from Or.inr rfl)⟩ hP hD hS (lv_sub hl [0, 1, 2, 4, 5] rfl)
    refine lv_iload hx hb dX4_readEither_60 (lv_at hl 0 rfl) ?_
    refine lv_if_ne (tgt := 69) hx hb dX4_readEither_62 (by decide) (fun c_667 => absurd (by decide) c_667) (fun c_667 => ?_)
    refine lv_iconst (v := 1) hx hb dX4_readEither_65 (by decide) ?_
    refine lv_goto (tgt := 70) hx hb dX4_readEither_66 (by decide) ?_
    refine lv_istore_n (lv' := [(3, .int 1), (5, .int 0), (4, .int (nI i_85)), (2, .int x_86), (1, .int 5), (0, .ref rd)]) hx hb dX4_readEither_70 rfl hl (by decide) rfl (fun ls hl => ?_)
    refine lv_aload_n hx hb dX4_readEither_71 rfl (lv_at hl 5 rfl) ?_
    refine va_get (D := D) (ci := 4) (v := .ref tp) (C := RX4) (T := TX4) (N := 8) hx hb hts hin4 hown hK hP krd er_567 rfl 0 (by decide) (hts (.fieldLink RX4 12 "HoneyHouse$RuleReader" "tape" "LHoneyHouse$Tape;") (List.mem_of_getElem? (i := 1) rfl)) (fun _ h9 => h9) rfl dX4_readEither_72 ?_
    have hFc := free_all hD hS hA
    refine va_callv (va_runV (As := []) (rest := []) ⟨hx, hb, hml, hown, hts⟩ (a_advance l D ws_527 ty_528 tp ktp tl te_555 ya_562 (nI ts_554) bb k_575 c9_576 t_577 f_578 H.size (by omega) (by omega) et_568 e_579 u_580) (cwV 0 hts gX4_readEither_X6_advance rfl rfl rfl (by decide +kernel) ⟨Nat.le_of_ble_eq_true rfl, Nat.le_of_ble_eq_true rfl⟩) ⟨fun a U g mk q => by obtain ⟨q0, q1, qP, qK, qD⟩ := q; exact ⟨q0, q1, qP, va_K.moved (u := U) (U := U.calling g mk a) (Vm.Alike.refl U.vm) qK, qD⟩, va_recv hK hP (ci := 6) (q0 := ktp) rfl et_568, fun U hU hW => ⟨rfl, by rw [hU], by rw [hU]; exact hP, va_K.moved hW.alike hK, hD.weaken (fun _ _ _ _ => trivial)⟩⟩ rfl rfl hl.1 rfl (lv_room (Nat.le_of_ble_eq_true rfl)) dX4_readEither_75 ⟨Nat.le_of_ble_eq_true rfl, Nat.le_of_ble_eq_true rfl⟩) hS (fun q _ h => hFc q h) hFc (fun u t H1 locs ht hvm w_669 hB hz1 hk1 hS => ?_)
    obtain ⟨ws_670, ty_671, hm_672, ht_674, hP1, hK1, hD1, hx_673⟩ := hB
    rw [ht] at hP1
    have hK := va_K.moved hvm.symm hK1
    have hD := hD1.weaken (fun _ _ _ h => hFc _ h)
    generalize H1 = H at hP1 hS ⊢
    have hP := hP1
    have e_675 := hm_672.objK er_567 (by decide)
    obtain ⟨g_677, e_676, h_678⟩ := hm_672.obj et_568
    obtain ⟨z_679, z_680, z_681, z_682, rfl⟩ := smX6 h_678
    obtain ⟨f_684, e_683⟩ := hm_672.arrI e_573
    have u_685 := ht_674 _ _ u_574
    obtain ⟨f_687, e_686⟩ := hm_672.arrI e_579
    have u_688 := ht_674 _ _ u_580
    have hsm := hsm.tr (hm_672.mono (by decide))
    have hlp_93 := hlp_93.tr (hm_672.mono (by decide))
    have htx := htx.tr ht_674
    obtain ⟨k_689, s_690, e_691, h_692, h_693, h_694, e_695⟩ := hx_673
    refine lv_aload_n hx hb dX4_readEither_78 rfl (lv_at hl 5 rfl) ?_
    refine lv_iload_n hx hb dX4_readEither_79 rfl (lv_at hl 4 rfl) ?_
    have hFc := free_all hD hS hA
    refine va_calli (va_runV (As := [.int 5]) (rest := []) ⟨hx, hb, hml, hown, hts⟩ (r_readOne5 l D ws_670 ty_671 adK adV fo rd krd tp ktp cd bb tl  H.size (⟨s_690, e_691, cc_556, ra_557, rb_558, rc_559, rv_560, re_561, nI k_689, by omega, by omega, by omega, by omega, e_675, e_695, ⟨k_569, c9_570, t_571, f_684, e_683, u_685⟩, ⟨k_575, c9_576, t_577, f_687, e_686, u_688⟩⟩ : RS ws_670 ty_671 rd krd tp ktp cd bb tl)) (cwV 1 hts gX4_readEither_X4_readOne rfl rfl rfl (by decide +kernel) ⟨Nat.le_of_ble_eq_true rfl, Nat.le_of_ble_eq_true rfl⟩) ⟨fun a U g mk q => by obtain ⟨q0, q1, qP, qK, qD, qS⟩ := q; exact ⟨q0, q1, qP, va_K.moved (u := U) (U := U.calling g mk a) (Vm.Alike.refl U.vm) qK, qD, SZ.same rfl rfl qS⟩, va_recv hK hP (ci := 4) (q0 := krd) rfl e_675, fun U hU hW => ⟨rfl, by rw [hU], by rw [hU]; exact hP, va_K.moved hW.alike hK, hD.weaken (fun _ _ _ _ => trivial), hsz9.go hS hW hU hFc⟩⟩ rfl rfl hl.1 rfl (lv_room (Nat.le_of_ble_eq_true rfl)) dX4_readEither_80 ⟨Nat.le_of_ble_eq_true rfl, Nat.le_of_ble_eq_true rfl⟩) hS (fun q _ h => hFc q h) hFc (fun r_696 u t H1 locs ht hvm w_697 hB hz1 hk1 hS => ?_)
    obtain ⟨ws_698, ty_699, hm_700, ht_702, hP1, hK1, hD1, hx_701⟩ := hB
    rw [ht] at hP1
    have hK := va_K.moved hvm.symm hK1
    have hD := hD1.weaken (fun _ _ _ h => hFc _ h)
    generalize H1 = H at hP1 hS ⊢
    have hP := hP1
    obtain ⟨g_704, e_703, h_705⟩ := hm_700.obj e_675
    obtain ⟨z_706, z_707, z_708, z_709, z_710, z_711, rfl⟩ := smX4 h_705
    obtain ⟨g_713, e_712, h_714⟩ := hm_700.obj e_695
    obtain ⟨z_715, z_716, z_717, z_718, rfl⟩ := smX6 h_714
    obtain ⟨f_720, e_719⟩ := hm_700.arrI e_683
    have u_721 := ht_702 _ _ u_685
    obtain ⟨f_723, e_722⟩ := hm_700.arrI e_686
    have u_724 := ht_702 _ _ u_688
    have hsm := hsm.tr (hm_700.mono (by decide))
    have hlp_93 := hlp_93.tr (hm_700.mono (by decide))
    have htx := htx.tr ht_702
    obtain ⟨ts_725, te_726, cc_727, ra_728, rb_729, rc_730, rv_731, re_732, ya_733, h1_734, h2_735, h3_736, h4_737, er_738, et_739, ⟨k_740, c9_741, t_742, f_743, e_744, u_745⟩, ⟨k_746, c9_747, t_748, f_749, e_750, u_751⟩⟩ := id hx_701
    refine lv_istore_n (lv' := [(2, .int r_696), (3, .int 1), (5, .int 0), (4, .int (nI i_85)), (1, .int 5), (0, .ref rd)]) hx hb dX4_readEither_83 rfl hl (by decide) rfl (fun ls hl => ?_)
    refine lv_iload hx hb dX4_readEither_84 (lv_at hl 2 rfl) ?_
    refine lv_if_eq (tgt := 95) hx hb dX4_readEither_86 (by decide) (fun c_752 => ?_) (fun c_752 => absurd (by decide) c_752)
    refine lv_iinc (v := nI (i_85 + 1)) (lv' := [(4, .int (nI (i_85 + 1))), (2, .int r_696), (3, .int 1), (5, .int 0), (1, .int 5), (0, .ref rd)]) hx hb dX4_readEither_95 hl (k := 3) rfl (nI_add i_85 1) (by decide) rfl (fun ls hl => ?_)
    refine lv_goto (tgt := 11) hx hb dX4_readEither_98 (by decide) ?_
    exact ih_84 (i_85 + 1, r_696, 1) ws_698 _ _ ls (by show 400 - (i_85 + 1) < 400 - i_85; omega) ⟨hlp_93, ⟨ty_699, hK, htx, (⟨ts_725, te_726, cc_727, ra_728, rb_729, rc_730, rv_731, re_732, ya_733, by omega, by omega, by omega, by omega, er_738, et_739, ⟨k_740, c9_741, t_742, f_743, e_744, u_745⟩, ⟨k_746, c9_747, t_748, f_749, e_750, u_751⟩⟩ : RS ws_698 ty_699 rd krd tp ktp cd bb tl)⟩, (show (i_85 + 1) ≤ 400 from by omega), (show r_696 = 0 ∨ r_696 = 1 from w_697), (show 1 = 0 ∨ 1 = 1 from Or.inr rfl)⟩ hP hD hS (lv_sub hl [0, 1, 2, 4, 5] rfl)
  refine lv_istore (lv' := [(5, .int 1), (4, .int (nI i_85)), (2, .int x_86), (3, .int y_87), (1, .int 5), (0, .ref rd)]) hx hb dX4_readEither_39 hl (by decide) rfl (fun ls hl => ?_)
  refine lv_iload hx hb dX4_readEither_41 (lv_at hl 0 rfl) ?_
  refine lv_if_ne (tgt := 56) hx hb dX4_readEither_43 (by decide) (fun c_753 => ?_) (fun c_753 => absurd c_753 (by decide))
  refine lv_iload_n hx hb dX4_readEither_56 rfl (lv_at hl 3 rfl) ?_
  refine lv_if_ne (tgt := 65) hx hb dX4_readEither_57 (by decide) (fun c_754 => ?_) (fun c_754 => ?_)
  · refine lv_iconst (v := 1) hx hb dX4_readEither_65 (by decide) ?_
    refine lv_goto (tgt := 70) hx hb dX4_readEither_66 (by decide) ?_
    refine lv_istore_n (lv' := [(3, .int 1), (5, .int 1), (4, .int (nI i_85)), (2, .int x_86), (1, .int 5), (0, .ref rd)]) hx hb dX4_readEither_70 rfl hl (by decide) rfl (fun ls hl => ?_)
    refine lv_aload_n hx hb dX4_readEither_71 rfl (lv_at hl 5 rfl) ?_
    refine va_get (D := D) (ci := 4) (v := .ref tp) (C := RX4) (T := TX4) (N := 8) hx hb hts hin4 hown hK hP krd e_343 rfl 0 (by decide) (hts (.fieldLink RX4 12 "HoneyHouse$RuleReader" "tape" "LHoneyHouse$Tape;") (List.mem_of_getElem? (i := 1) rfl)) (fun _ h9 => h9) rfl dX4_readEither_72 ?_
    have hFc := free_all hD hS hA
    refine va_callv (va_runV (As := []) (rest := []) ⟨hx, hb, hml, hown, hts⟩ (a_advance l D ws_338 ty_339 tp ktp tl te_118 ya_125 (nI ts_117) bb k_138 c9_139 t_140 f_349 H.size (by omega) (by omega) e_344 e_348 u_350) (cwV 0 hts gX4_readEither_X6_advance rfl rfl rfl (by decide +kernel) ⟨Nat.le_of_ble_eq_true rfl, Nat.le_of_ble_eq_true rfl⟩) ⟨fun a U g mk q => by obtain ⟨q0, q1, qP, qK, qD⟩ := q; exact ⟨q0, q1, qP, va_K.moved (u := U) (U := U.calling g mk a) (Vm.Alike.refl U.vm) qK, qD⟩, va_recv hK hP (ci := 6) (q0 := ktp) rfl e_344, fun U hU hW => ⟨rfl, by rw [hU], by rw [hU]; exact hP, va_K.moved hW.alike hK, hD.weaken (fun _ _ _ _ => trivial)⟩⟩ rfl rfl hl.1 rfl (lv_room (Nat.le_of_ble_eq_true rfl)) dX4_readEither_75 ⟨Nat.le_of_ble_eq_true rfl, Nat.le_of_ble_eq_true rfl⟩) hS (fun q _ h => hFc q h) hFc (fun u t H1 locs ht hvm w_756 hB hz1 hk1 hS => ?_)
    obtain ⟨ws_757, ty_758, hm_759, ht_761, hP1, hK1, hD1, hx_760⟩ := hB
    rw [ht] at hP1
    have hK := va_K.moved hvm.symm hK1
    have hD := hD1.weaken (fun _ _ _ h => hFc _ h)
    generalize H1 = H at hP1 hS ⊢
    have hP := hP1
    have e_762 := hm_759.objK e_343 (by decide)
    obtain ⟨g_764, e_763, h_765⟩ := hm_759.obj e_344
    obtain ⟨z_766, z_767, z_768, z_769, rfl⟩ := smX6 h_765
    obtain ⟨f_771, e_770⟩ := hm_759.arrI e_345
    have u_772 := ht_761 _ _ u_347
    obtain ⟨f_774, e_773⟩ := hm_759.arrI e_348
    have u_775 := ht_761 _ _ u_350
    have hsm := hsm.tr (hm_759.mono (by decide))
    have hlp_93 := hlp_93.tr (hm_759.mono (by decide))
    have htx := htx.tr ht_761
    obtain ⟨k_776, s_777, e_778, h_779, h_780, h_781, e_782⟩ := hx_760
    refine lv_aload_n hx hb dX4_readEither_78 rfl (lv_at hl 5 rfl) ?_
    refine lv_iload_n hx hb dX4_readEither_79 rfl (lv_at hl 4 rfl) ?_
    have hFc := free_all hD hS hA
    refine va_calli (va_runV (As := [.int 5]) (rest := []) ⟨hx, hb, hml, hown, hts⟩ (r_readOne5 l D ws_757 ty_758 adK adV fo rd krd tp ktp cd bb tl  H.size (⟨s_777, e_778, cc_119, ra_120, rb_121, rc_122, rv_123, re_124, nI k_776, by omega, by omega, by omega, by omega, e_762, e_782, ⟨k_132, c9_133, t_134, f_771, e_770, u_772⟩, ⟨k_138, c9_139, t_140, f_774, e_773, u_775⟩⟩ : RS ws_757 ty_758 rd krd tp ktp cd bb tl)) (cwV 1 hts gX4_readEither_X4_readOne rfl rfl rfl (by decide +kernel) ⟨Nat.le_of_ble_eq_true rfl, Nat.le_of_ble_eq_true rfl⟩) ⟨fun a U g mk q => by obtain ⟨q0, q1, qP, qK, qD, qS⟩ := q; exact ⟨q0, q1, qP, va_K.moved (u := U) (U := U.calling g mk a) (Vm.Alike.refl U.vm) qK, qD, SZ.same rfl rfl qS⟩, va_recv hK hP (ci := 4) (q0 := krd) rfl e_762, fun U hU hW => ⟨rfl, by rw [hU], by rw [hU]; exact hP, va_K.moved hW.alike hK, hD.weaken (fun _ _ _ _ => trivial), hsz9.go hS hW hU hFc⟩⟩ rfl rfl hl.1 rfl (lv_room (Nat.le_of_ble_eq_true rfl)) dX4_readEither_80 ⟨Nat.le_of_ble_eq_true rfl, Nat.le_of_ble_eq_true rfl⟩) hS (fun q _ h => hFc q h) hFc (fun r_783 u t H1 locs ht hvm w_784 hB hz1 hk1 hS => ?_)
    obtain ⟨ws_785, ty_786, hm_787, ht_789, hP1, hK1, hD1, hx_788⟩ := hB
    rw [ht] at hP1
    have hK := va_K.moved hvm.symm hK1
    have hD := hD1.weaken (fun _ _ _ h => hFc _ h)
    generalize H1 = H at hP1 hS ⊢
    have hP := hP1
    obtain ⟨g_791, e_790, h_792⟩ := hm_787.obj e_762
    obtain ⟨z_793, z_794, z_795, z_796, z_797, z_798, rfl⟩ := smX4 h_792
    obtain ⟨g_800, e_799, h_801⟩ := hm_787.obj e_782
    obtain ⟨z_802, z_803, z_804, z_805, rfl⟩ := smX6 h_801
    obtain ⟨f_807, e_806⟩ := hm_787.arrI e_770
    have u_808 := ht_789 _ _ u_772
    obtain ⟨f_810, e_809⟩ := hm_787.arrI e_773
    have u_811 := ht_789 _ _ u_775
    have hsm := hsm.tr (hm_787.mono (by decide))
    have hlp_93 := hlp_93.tr (hm_787.mono (by decide))
    have htx := htx.tr ht_789
    obtain ⟨ts_812, te_813, cc_814, ra_815, rb_816, rc_817, rv_818, re_819, ya_820, h1_821, h2_822, h3_823, h4_824, er_825, et_826, ⟨k_827, c9_828, t_829, f_830, e_831, u_832⟩, ⟨k_833, c9_834, t_835, f_836, e_837, u_838⟩⟩ := id hx_788
    refine lv_istore_n (lv' := [(2, .int r_783), (3, .int 1), (5, .int 1), (4, .int (nI i_85)), (1, .int 5), (0, .ref rd)]) hx hb dX4_readEither_83 rfl hl (by decide) rfl (fun ls hl => ?_)
    refine lv_iload hx hb dX4_readEither_84 (lv_at hl 2 rfl) ?_
    refine lv_if_eq (tgt := 95) hx hb dX4_readEither_86 (by decide) (fun c_839 => absurd c_839 (by decide)) (fun c_839 => ?_)
    refine lv_aload_n hx hb dX4_readEither_89 rfl (lv_at hl 5 rfl) ?_
    refine lv_bipush (v := (-2)) hx hb dX4_readEither_90 (by decide) ?_
    have hFc := free_all hD hS hA
    refine va_callv (va_runV (As := [.int (-2)]) (rest := []) ⟨hx, hb, hml, hown, hts⟩ (r_addCode l D ws_785 ty_786 adK adV fo rd krd tp ktp cd bb tl (-2) H.size (⟨ts_812, te_813, cc_814, ra_815, rb_816, rc_817, rv_818, re_819, ya_820, by omega, by omega, by omega, by omega, er_825, et_826, ⟨k_827, c9_828, t_829, f_830, e_831, u_832⟩, ⟨k_833, c9_834, t_835, f_836, e_837, u_838⟩⟩ : RS ws_785 ty_786 rd krd tp ktp cd bb tl)) (cwV 1 hts gX4_readEither_X4_addCode rfl rfl rfl (by decide +kernel) ⟨Nat.le_of_ble_eq_true rfl, Nat.le_of_ble_eq_true rfl⟩) ⟨fun a U g mk q => by obtain ⟨q0, q1, qP, qK, qD, qS⟩ := q; exact ⟨q0, q1, qP, va_K.moved (u := U) (U := U.calling g mk a) (Vm.Alike.refl U.vm) qK, qD, SZ.same rfl rfl qS⟩, va_recv hK hP (ci := 4) (q0 := krd) rfl er_825, fun U hU hW => ⟨rfl, by rw [hU], by rw [hU]; exact hP, va_K.moved hW.alike hK, hD.weaken (fun _ _ _ _ => trivial), hsz9.go hS hW hU hFc⟩⟩ rfl rfl hl.1 rfl (lv_room (Nat.le_of_ble_eq_true rfl)) dX4_readEither_92 ⟨Nat.le_of_ble_eq_true rfl, Nat.le_of_ble_eq_true rfl⟩) hS (fun q _ h => hFc q h) hFc (fun u t H1 locs ht hvm w_841 hB hz1 hk1 hS => ?_)
    obtain ⟨ws_842, ty_843, hm_844, ht_846, hP1, hK1, hD1, hx_845⟩ := hB
    rw [ht] at hP1
    have hK := va_K.moved hvm.symm hK1
    have hD := hD1.weaken (fun _ _ _ h => hFc _ h)
    generalize H1 = H at hP1 hS ⊢
    have hP := hP1
    obtain ⟨g_848, e_847, h_849⟩ := hm_844.obj er_825
    obtain ⟨z_850, z_851, z_852, z_853, z_854, z_855, rfl⟩ := smX4 h_849
    obtain ⟨g_857, e_856, h_858⟩ := hm_844.obj et_826
    obtain ⟨z_859, z_860, z_861, z_862, rfl⟩ := smX6 h_858
    obtain ⟨f_864, e_863⟩ := hm_844.arrI e_831
    have u_865 := ht_846 _ _ u_832
    obtain ⟨f_867, e_866⟩ := hm_844.arrI e_837
    have u_868 := ht_846 _ _ u_838
    have hsm := hsm.tr (hm_844.mono (by decide))
    have hlp_93 := hlp_93.tr (hm_844.mono (by decide))
    have htx := htx.tr ht_846
    obtain ⟨ts_869, te_870, cc_871, ra_872, rb_873, rc_874, rv_875, re_876, ya_877, h1_878, h2_879, h3_880, h4_881, er_882, et_883, ⟨k_884, c9_885, t_886, f_887, e_888, u_889⟩, ⟨k_890, c9_891, t_892, f_893, e_894, u_895⟩⟩ := id hx_845
    refine lv_iinc (v := nI (i_85 + 1)) (lv' := [(4, .int (nI (i_85 + 1))), (2, .int r_783), (3, .int 1), (5, .int 1), (1, .int 5), (0, .ref rd)]) hx hb dX4_readEither_95 hl (k := 3) rfl (nI_add i_85 1) (by decide) rfl (fun ls hl => ?_)
    refine lv_goto (tgt := 11) hx hb dX4_readEither_98 (by decide) ?_
    exact ih_84 (i_85 + 1, r_783, 1) ws_842 _ _ ls (by show 400 - (i_85 + 1) < 400 - i_85; omega) ⟨hlp_93, ⟨ty_843, hK, htx, (⟨ts_869, te_870, cc_871, ra_872, rb_873, rc_874, rv_875, re_876, ya_877, by omega, by omega, by omega, by omega, er_882, et_883, ⟨k_884, c9_885, t_886, f_887, e_888, u_889⟩, ⟨k_890, c9_891, t_892, f_893, e_894, u_895⟩⟩ : RS ws_842 ty_843 rd krd tp ktp cd bb tl)⟩, (show (i_85 + 1) ≤ 400 from by omega), (show r_783 = 0 ∨ r_783 = 1 from w_784), (show 1 = 0 ∨ 1 = 1 from Or.inr rfl)⟩ hP hD hS (lv_sub hl [0, 1, 2, 4, 5] rfl)
  refine lv_iload hx hb dX4_readEither_60 (lv_at hl 0 rfl) ?_
  refine lv_if_ne (tgt := 69) hx hb dX4_readEither_62 (by decide) (fun c_896 => ?_) (fun c_896 => absurd c_896 (by decide))
  refine lv_iconst (v := 0) hx hb dX4_readEither_69 (by decide) ?_
  refine lv_istore_n (lv' := [(3, .int 0), (5, .int 1), (4, .int (nI i_85)), (2, .int x_86), (1, .int 5), (0, .ref rd)]) hx hb dX4_readEither_70 rfl hl (by decide) rfl (fun ls hl => ?_)
  refine lv_aload_n hx hb dX4_readEither_71 rfl (lv_at hl 5 rfl) ?_
  refine va_get (D := D) (ci := 4) (v := .ref tp) (C := RX4) (T := TX4) (N := 8) hx hb hts hin4 hown hK hP krd e_343 rfl 0 (by decide) (hts (.fieldLink RX4 12 "HoneyHouse$RuleReader" "tape" "LHoneyHouse$Tape;") (List.mem_of_getElem? (i := 1) rfl)) (fun _ h9 => h9) rfl dX4_readEither_72 ?_
  have hFc := free_all hD hS hA
  refine va_callv (va_runV (As := []) (rest := []) ⟨hx, hb, hml, hown, hts⟩ (a_advance l D ws_338 ty_339 tp ktp tl te_118 ya_125 (nI ts_117) bb k_138 c9_139 t_140 f_349 H.size (by omega) (by omega) e_344 e_348 u_350) (cwV 0 hts gX4_readEither_X6_advance rfl rfl rfl (by decide +kernel) ⟨Nat.le_of_ble_eq_true rfl, Nat.le_of_ble_eq_true rfl⟩) ⟨fun a U g mk q => by obtain ⟨q0, q1, qP, qK, qD⟩ := q; exact ⟨q0, q1, qP, va_K.moved (u := U) (U := U.calling g mk a) (Vm.Alike.refl U.vm) qK, qD⟩, va_recv hK hP (ci := 6) (q0 := ktp) rfl e_344, fun U hU hW => ⟨rfl, by rw [hU], by rw [hU]; exact hP, va_K.moved hW.alike hK, hD.weaken (fun _ _ _ _ => trivial)⟩⟩ rfl rfl hl.1 rfl (lv_room (Nat.le_of_ble_eq_true rfl)) dX4_readEither_75 ⟨Nat.le_of_ble_eq_true rfl, Nat.le_of_ble_eq_true rfl⟩) hS (fun q _ h => hFc q h) hFc (fun u t H1 locs ht hvm w_898 hB hz1 hk1 hS => ?_)
  obtain ⟨ws_899, ty_900, hm_901, ht_903, hP1, hK1, hD1, hx_902⟩ := hB
  rw [ht] at hP1
  have hK := va_K.moved hvm.symm hK1
  have hD := hD1.weaken (fun _ _ _ h => hFc _ h)
  generalize H1 = H at hP1 hS ⊢
  have hP := hP1
  have e_904 := hm_901.objK e_343 (by decide)
  obtain ⟨g_906, e_905, h_907⟩ := hm_901.obj e_344
  obtain ⟨z_908, z_909, z_910, z_911, rfl⟩ := smX6 h_907
  obtain ⟨f_913, e_912⟩ := hm_901.arrI e_345
  have u_914 := ht_903 _ _ u_347
  obtain ⟨f_916, e_915⟩ := hm_901.arrI e_348
  have u_917 := ht_903 _ _ u_350
  have hsm := hsm.tr (hm_901.mono (by decide))
  have hlp_93 := hlp_93.tr (hm_901.mono (by decide))
  have htx := htx.tr ht_903
  obtain ⟨k_918, s_919, e_920, h_921, h_922, h_923, e_924⟩ := hx_902
  refine lv_aload_n hx hb dX4_readEither_78 rfl (lv_at hl 5 rfl) ?_
  refine lv_iload_n hx hb dX4_readEither_79 rfl (lv_at hl 4 rfl) ?_
  have hFc := free_all hD hS hA
  refine va_calli (va_runV (As := [.int 5]) (rest := []) ⟨hx, hb, hml, hown, hts⟩ (r_readOne5 l D ws_899 ty_900 adK adV fo rd krd tp ktp cd bb tl  H.size (⟨s_919, e_920, cc_119, ra_120, rb_121, rc_122, rv_123, re_124, nI k_918, by omega, by omega, by omega, by omega, e_904, e_924, ⟨k_132, c9_133, t_134, f_913, e_912, u_914⟩, ⟨k_138, c9_139, t_140, f_916, e_915, u_917⟩⟩ : RS ws_899 ty_900 rd krd tp ktp cd bb tl)) (cwV 1 hts gX4_readEither_X4_readOne rfl rfl rfl (by decide +kernel) ⟨Nat.le_of_ble_eq_true rfl, Nat.le_of_ble_eq_true rfl⟩) ⟨fun a U g mk q => by obtain ⟨q0, q1, qP, qK, qD, qS⟩ := q; exact ⟨q0, q1, qP, va_K.moved (u := U) (U := U.calling g mk a) (Vm.Alike.refl U.vm) qK, qD, SZ.same rfl rfl qS⟩, va_recv hK hP (ci := 4) (q0 := krd) rfl e_904, fun U hU hW => ⟨rfl, by rw [hU], by rw [hU]; exact hP, va_K.moved hW.alike hK, hD.weaken (fun _ _ _ _ => trivial), hsz9.go hS hW hU hFc⟩⟩ rfl rfl hl.1 rfl (lv_room (Nat.le_of_ble_eq_true rfl)) dX4_readEither_80 ⟨Nat.le_of_ble_eq_true rfl, Nat.le_of_ble_eq_true rfl⟩) hS (fun q _ h => hFc q h) hFc (fun r_925 u t H1 locs ht hvm w_926 hB hz1 hk1 hS => ?_)
  obtain ⟨ws_927, ty_928, hm_929, ht_931, hP1, hK1, hD1, hx_930⟩ := hB
  rw [ht] at hP1
  have hK := va_K.moved hvm.symm hK1
  have hD := hD1.weaken (fun _ _ _ h => hFc _ h)
  generalize H1 = H at hP1 hS ⊢
  have hP := hP1
  obtain ⟨g_933, e_932, h_934⟩ := hm_929.obj e_904
  obtain ⟨z_935, z_936, z_937, z_938, z_939, z_940, rfl⟩ := smX4 h_934
  obtain ⟨g_942, e_941, h_943⟩ := hm_929.obj e_924
  obtain ⟨z_944, z_945, z_946, z_947, rfl⟩ := smX6 h_943
  obtain ⟨f_949, e_948⟩ := hm_929.arrI e_912
  have u_950 := ht_931 _ _ u_914
  obtain ⟨f_952, e_951⟩ := hm_929.arrI e_915
  have u_953 := ht_931 _ _ u_917
  have hsm := hsm.tr (hm_929.mono (by decide))
  have hlp_93 := hlp_93.tr (hm_929.mono (by decide))
  have htx := htx.tr ht_931
  obtain ⟨ts_954, te_955, cc_956, ra_957, rb_958, rc_959, rv_960, re_961, ya_962, h1_963, h2_964, h3_965, h4_966, er_967, et_968, ⟨k_969, c9_970, t_971, f_972, e_973, u_974⟩, ⟨k_975, c9_976, t_977, f_978, e_979, u_980⟩⟩ := id hx_930
  refine lv_istore_n (lv' := [(2, .int r_925), (3, .int 0), (5, .int 1), (4, .int (nI i_85)), (1, .int 5), (0, .ref rd)]) hx hb dX4_readEither_83 rfl hl (by decide) rfl (fun ls hl => ?_)
  refine lv_iload hx hb dX4_readEither_84 (lv_at hl 2 rfl) ?_
  refine lv_if_eq (tgt := 95) hx hb dX4_readEither_86 (by decide) (fun c_981 => absurd c_981 (by decide)) (fun c_981 => ?_)
  refine lv_aload_n hx hb dX4_readEither_89 rfl (lv_at hl 5 rfl) ?_
  refine lv_bipush (v := (-2)) hx hb dX4_readEither_90 (by decide) ?_
  have hFc := free_all hD hS hA
  refine va_callv (va_runV (As := [.int (-2)]) (rest := []) ⟨hx, hb, hml, hown, hts⟩ (r_addCode l D ws_927 ty_928 adK adV fo rd krd tp ktp cd bb tl (-2) H.size (⟨ts_954, te_955, cc_956, ra_957, rb_958, rc_959, rv_960, re_961, ya_962, by omega, by omega, by omega, by omega, er_967, et_968, ⟨k_969, c9_970, t_971, f_972, e_973, u_974⟩, ⟨k_975, c9_976, t_977, f_978, e_979, u_980⟩⟩ : RS ws_927 ty_928 rd krd tp ktp cd bb tl)) (cwV 1 hts gX4_readEither_X4_addCode rfl rfl rfl (by decide +kernel) ⟨Nat.le_of_ble_eq_true rfl, Nat.le_of_ble_eq_true rfl⟩) ⟨fun a U g mk q => by obtain ⟨q0, q1, qP, qK, qD, qS⟩ := q; exact ⟨q0, q1, qP, va_K.moved (u := U) (U := U.calling g mk a) (Vm.Alike.refl U.vm) qK, qD, SZ.same rfl rfl qS⟩, va_recv hK hP (ci := 4) (q0 := krd) rfl er_967, fun U hU hW => ⟨rfl, by rw [hU], by rw [hU]; exact hP, va_K.moved hW.alike hK, hD.weaken (fun _ _ _ _ => trivial), hsz9.go hS hW hU hFc⟩⟩ rfl rfl hl.1 rfl (lv_room (Nat.le_of_ble_eq_true rfl)) dX4_readEither_92 ⟨Nat.le_of_ble_eq_true rfl, Nat.le_of_ble_eq_true rfl⟩) hS (fun q _ h => hFc q h) hFc (fun u t H1 locs ht hvm w_983 hB hz1 hk1 hS => ?_)
  obtain ⟨ws_984, ty_985, hm_986, ht_988, hP1, hK1, hD1, hx_987⟩ := hB
  rw [ht] at hP1
  have hK := va_K.moved hvm.symm hK1
  have hD := hD1.weaken (fun _ _ _ h => hFc _ h)
  generalize H1 = H at hP1 hS ⊢
  have hP := hP1
  obtain ⟨g_990, e_989, h_991⟩ := hm_986.obj er_967
  obtain ⟨z_992, z_993, z_994, z_995, z_996, z_997, rfl⟩ := smX4 h_991
  obtain ⟨g_999, e_998, h_1000⟩ := hm_986.obj et_968
  obtain ⟨z_1001, z_1002, z_1003, z_1004, rfl⟩ := smX6 h_1000
  obtain ⟨f_1006, e_1005⟩ := hm_986.arrI e_973
  have u_1007 := ht_988 _ _ u_974
  obtain ⟨f_1009, e_1008⟩ := hm_986.arrI e_979
  have u_1010 := ht_988 _ _ u_980
  have hsm := hsm.tr (hm_986.mono (by decide))
  have hlp_93 := hlp_93.tr (hm_986.mono (by decide))
  have htx := htx.tr ht_988
  obtain ⟨ts_1011, te_1012, cc_1013, ra_1014, rb_1015, rc_1016, rv_1017, re_1018, ya_1019, h1_1020, h2_1021, h3_1022, h4_1023, er_1024, et_1025, ⟨k_1026, c9_1027, t_1028, f_1029, e_1030, u_1031⟩, ⟨k_1032, c9_1033, t_1034, f_1035, e_1036, u_1037⟩⟩ := id hx_987
  refine lv_iinc (v := nI (i_85 + 1)) (lv' := [(4, .int (nI (i_85 + 1))), (2, .int r_925), (3, .int 0), (5, .int 1), (1, .int 5), (0, .ref rd)]) hx hb dX4_readEither_95 hl (k := 3) rfl (nI_add i_85 1) (by decide) rfl (fun ls hl => ?_)
  refine lv_goto (tgt := 11) hx hb dX4_readEither_98 (by decide) ?_
  exact ih_84 (i_85 + 1, r_925, 0) ws_984 _ _ ls (by show 400 - (i_85 + 1) < 400 - i_85; omega) ⟨hlp_93, ⟨ty_985, hK, htx, (⟨ts_1011, te_1012, cc_1013, ra_1014, rb_1015, rc_1016, rv_1017, re_1018, ya_1019, by omega, by omega, by omega, by omega, er_1024, et_1025, ⟨k_1026, c9_1027, t_1028, f_1029, e_1030, u_1031⟩, ⟨k_1032, c9_1033, t_1034, f_1035, e_1036, u_1037⟩⟩ : RS ws_984 ty_985 rd krd tp ktp cd bb tl)⟩, (show (i_85 + 1) ≤ 400 from by omega), (show r_925 = 0 ∨ r_925 = 1 from w_926), (show 0 = 0 ∨ 0 = 1 from Or.inl rfl)⟩ hP hD hS (lv_sub hl [0, 1, 2, 4, 5] rfl)
set_option maxHeartbeats 4000000 in
set_option maxRecDepth 100000 in
theorem r_readOne4 (l : Launch) (D : va_G) (ws : va_W) (tys : List (ClassId × FieldType)) (adK adV : Nat → Nat) (fo : Option Nat) (rd krd tp ktp cd bb tl : Nat)  (sz : Nat) (R0 : RS ws tys rd krd tp ktp cd bb tl)  : Met l yX4_readOne wsX4_readOne ({ frames := 11, cells := 0, slots := 0, locals := 245 }) (va_Pc [.ref rd, .int 4] (fun U => U.heap.size = sz ∧ va_P D vwCl ws U.heap ∧ va_K D vwCl tys U ∧ va_D (fun _ => True) ws ∧ SZ adK adV fo (va_A ws sz) U U.heap)) (va_Qi (fun (r : Int32) (_ : Unit) => r = 0 ∨ r = 1) (fun (_ : Unit) (t : State) => ∃ (ws' : va_W) (tys' : List (ClassId × FieldType)), sm [4, 6] ws ws' ∧ tyx tys tys' ∧ va_P D vwCl ws' t.heap ∧ va_K D vwCl tys' t ∧ va_D (va_A ws sz) ws' ∧ RS ws' tys' rd krd tp ktp cd bb tl) (va_A ws sz)) 0 0 (va_A ws sz) := by
  refine Met.ofW (cc := cX4_readOne) (maxL := 4) (ret := (some .boolean)) (by decide) rfl ?_
  intro p e s m args below meth c s₁ B hml hv
  obtain ⟨rfl, hsz, hP, hK, hD0, hsz9⟩ := hv
  have hx := B.exec
  have hb := B.bytes
  have hr := B.returns
  have hts := atoms_spec (ws := wsX4_readOne) B.pre
  have hown : s.vm.findClass RX4 = some m.cls := findClass_of_methodNamed B.named
  have hlocks := B.notSynchronized
  subst hsz
  have hD := hD0.self (sz := s.heap.size)
  generalize hAe : va_A ws s.heap.size = A at hD hsz9 ⊢
  have hA : ∀ q : Nat, s.heap.size ≤ q → A q := fun q h => by rw [← hAe]; exact Or.inr h
  have hS : va_S A s.heap s.heap [] := va_S.rf
  have hsm : sm [4, 6] ws ws := sm.rf ws
  have htx : tyx tys tys := tyx.rf tys
  have hin4 : ∀ w ∈ u_ws RX4 TX4 8, w ∈ wsX4_readOne := (fun _ h9 => List.mem_cons_of_mem _ (List.mem_append_left _ ((List.mem_append_right _ h9))))
  have hl := lv_entry ([.ref rd, .int 4]) (n := 4) (Nat.le_of_ble_eq_true rfl)
  rw [lg_entry_eq]
  generalize (lg_sl ([.ref rd, .int 4]) ++ List.replicate (4 - (lg_sl ([.ref rd, .int 4])).length) Slot.unset).toArray = ls at hl ⊢
  have hl : lv_has ls 4 [(0, .ref rd), (1, .int 4)] := hl
  obtain ⟨ts_1, te_2, cc_3, ra_4, rb_5, rc_6, rv_7, re_8, ya_9, h1_10, h2_11, h3_12, h4_13, er_14, et_15, ⟨k_16, c9_17, t_18, f_19, e_20, u_21⟩, ⟨k_22, c9_23, t_24, f_25, e_26, u_27⟩⟩ := id R0
  refine lv_aload_n hx hb dX4_readOne_0 rfl (lv_at hl 0 rfl) ?_
  refine va_get (D := D) (ci := 4) (v := .ref tp) (C := RX4) (T := TX4) (N := 8) hx hb hts hin4 hown hK hP krd er_14 rfl 0 (by decide) (hts (.fieldLink RX4 12 "HoneyHouse$RuleReader" "tape" "LHoneyHouse$Tape;") (List.mem_of_getElem? (i := 1) rfl)) (fun _ h9 => h9) rfl dX4_readOne_1 ?_
  refine va_ldcS hx hb hown hsz9.2.2.2.2.2.2.1 dX4_readOne_4 ?_
  have hFc := free_all hD hS hA
  refine va_calli (va_runV (As := [.ref (adK 3)]) (rest := []) ⟨hx, hb, hml, hown, hts⟩ (a_isWord l D ws tys adK adV fo 3 tp ktp tl ya_9 (nI ts_1) (nI te_2) bb k_22 c9_23 t_24 f_25 s.heap.size (by decide) et_15 e_26 u_27) (cwV 1 hts gX4_readOne_X6_isWord rfl rfl rfl (by decide +kernel) ⟨Nat.le_of_ble_eq_true rfl, Nat.le_of_ble_eq_true rfl⟩) ⟨fun a U g mk q => by obtain ⟨q0, q1, qP, qK, qD, qS⟩ := q; exact ⟨q0, q1, qP, va_K.moved (u := U) (U := U.calling g mk a) (Vm.Alike.refl U.vm) qK, qD, SZ.same rfl rfl qS⟩, va_recv hK hP (ci := 6) (q0 := ktp) rfl et_15, fun U hU hW => ⟨rfl, by rw [hU], by rw [hU]; exact hP, va_K.moved hW.alike hK, hD.weaken (fun _ _ _ _ => trivial), hsz9.go hS hW hU hFc⟩⟩ rfl rfl hl.1 rfl (lv_room (Nat.le_of_ble_eq_true rfl)) dX4_readOne_6 ⟨Nat.le_of_ble_eq_true rfl, Nat.le_of_ble_eq_true rfl⟩) hS (fun q _ h => hFc q h) hFc (fun r_28 u t H1 locs ht hvm w_29 hB hz1 hk1 hS => ?_)
  obtain ⟨ws_30, ty_31, hm_32, ht_34, hP1, hK1, hD1, hx_33⟩ := hB
  rw [ht] at hP1
  have hK := va_K.moved hvm.symm hK1
  have hD := hD1.weaken (fun _ _ _ h => hFc _ h)
  generalize H1 = H at hP1 hS ⊢
  have hP := hP1
  have e_35 := hm_32.objK er_14 (by decide)
  have e_36 := hm_32.objK et_15 (by decide)
  obtain ⟨f_38, e_37⟩ := hm_32.arrI e_20
  have u_39 := ht_34 _ _ u_21
  obtain ⟨f_41, e_40⟩ := hm_32.arrI e_26
  have u_42 := ht_34 _ _ u_27
  have hsm := hsm.tr (hm_32.mono (by decide))
  have htx := htx.tr ht_34
  rcases w_29 with rfl | rfl
  · refine lv_istore_n (lv' := [(2, .int 0), (0, .ref rd), (1, .int 4)]) hx hb dX4_readOne_9 rfl hl (by decide) rfl (fun ls hl => ?_)
    refine lv_iload_n hx hb dX4_readOne_10 rfl (lv_at hl 0 rfl) ?_
    refine lv_if_ne (tgt := 31) hx hb dX4_readOne_11 (by decide) (fun c_43 => absurd (by decide) c_43) (fun c_43 => ?_)
    refine lv_aload_n hx hb dX4_readOne_14 rfl (lv_at hl 1 rfl) ?_
    refine va_get (D := D) (ci := 4) (v := .ref tp) (C := RX4) (T := TX4) (N := 8) hx hb hts hin4 hown hK hP krd e_35 rfl 0 (by decide) (hts (.fieldLink RX4 12 "HoneyHouse$RuleReader" "tape" "LHoneyHouse$Tape;") (List.mem_of_getElem? (i := 1) rfl)) (fun _ h9 => h9) rfl dX4_readOne_15 ?_
    refine lv_bipush (v := 40) hx hb dX4_readOne_18 (by decide) ?_
    refine vp_callSi (W.runV (As := [.int 40]) (rest := []) ⟨hx, hb, hml, hown, hts⟩ (s_isByte l D ws_30 ty_31 tp ktp tl ya_9 (nI ts_1) (nI te_2) bb k_22 c9_23 t_24 f_41 40 e_36 e_40 u_42) (cwV 1 hts gX4_readOne_X6_isByte rfl rfl rfl (by decide +kernel) ⟨Nat.le_of_ble_eq_true rfl, Nat.le_of_ble_eq_true rfl⟩) ⟨fun a U g mk q => ⟨q.1, q.2.1, va_K.moved (u := U) (U := U.calling g mk a) (Vm.Alike.refl U.vm) q.2.2⟩, va_recv hK hP (ci := 6) (q0 := ktp) rfl e_36, fun U hU hW => ⟨rfl, by rw [hU]; exact hP, va_K.moved hW.alike hK⟩⟩ rfl rfl hl.1 rfl (lv_room (Nat.le_of_ble_eq_true rfl)) dX4_readOne_20 ⟨Nat.le_of_ble_eq_true rfl, Nat.le_of_ble_eq_true rfl⟩) (fun r_44 k_45 => ?_)
    rcases k_45 with rfl | rfl
    · refine lv_if_ne (tgt := 31) hx hb dX4_readOne_23 (by decide) (fun c_46 => absurd (by decide) c_46) (fun c_46 => ?_)
      refine lv_aload_n hx hb dX4_readOne_26 rfl (lv_at hl 1 rfl) ?_
      have hFc := free_all hD hS hA
      refine va_calli (va_runV (As := []) (rest := []) ⟨hx, hb, hml, hown, hts⟩ (r_readTest l D ws_30 ty_31 adK adV fo rd krd tp ktp cd bb tl  H.size (⟨ts_1, te_2, cc_3, ra_4, rb_5, rc_6, rv_7, re_8, ya_9, by omega, by omega, by omega, by omega, e_35, e_36, ⟨k_16, c9_17, t_18, f_38, e_37, u_39⟩, ⟨k_22, c9_23, t_24, f_41, e_40, u_42⟩⟩ : RS ws_30 ty_31 rd krd tp ktp cd bb tl)) (cwV 0 hts gX4_readOne_X4_readTest rfl rfl rfl (by decide +kernel) ⟨Nat.le_of_ble_eq_true rfl, Nat.le_of_ble_eq_true rfl⟩) ⟨fun a U g mk q => by obtain ⟨q0, q1, qP, qK, qD, qS⟩ := q; exact ⟨q0, q1, qP, va_K.moved (u := U) (U := U.calling g mk a) (Vm.Alike.refl U.vm) qK, qD, SZ.same rfl rfl qS⟩, va_recv hK hP (ci := 4) (q0 := krd) rfl e_35, fun U hU hW => ⟨rfl, by rw [hU], by rw [hU]; exact hP, va_K.moved hW.alike hK, hD.weaken (fun _ _ _ _ => trivial), hsz9.go hS hW hU hFc⟩⟩ rfl rfl hl.1 rfl (lv_room (Nat.le_of_ble_eq_true rfl)) dX4_readOne_27 ⟨Nat.le_of_ble_eq_true rfl, Nat.le_of_ble_eq_true rfl⟩) hS (fun q _ h => hFc q h) hFc (fun r_47 u t H1 locs ht hvm w_48 hB hz1 hk1 hS => ?_)
      obtain ⟨ws_49, ty_50, hm_51, ht_53, hP1, hK1, hD1, hx_52⟩ := hB
      rw [ht] at hP1
      have hK := va_K.moved hvm.symm hK1
      have hD := hD1.weaken (fun _ _ _ h => hFc _ h)
      generalize H1 = H at hP1 hS ⊢
      have hP := hP1
      obtain ⟨g_55, e_54, h_56⟩ := hm_51.obj e_35
      obtain ⟨z_57, z_58, z_59, z_60, z_61, z_62, rfl⟩ := smX4 h_56
      obtain ⟨g_64, e_63, h_65⟩ := hm_51.obj e_36
      obtain ⟨z_66, z_67, z_68, z_69, rfl⟩ := smX6 h_65
      obtain ⟨f_71, e_70⟩ := hm_51.arrI e_37
      have u_72 := ht_53 _ _ u_39
      obtain ⟨f_74, e_73⟩ := hm_51.arrI e_40
      have u_75 := ht_53 _ _ u_42
      have hsm := hsm.tr (hm_51.mono (by decide))
      have htx := htx.tr ht_53
      obtain ⟨ts_76, te_77, cc_78, ra_79, rb_80, rc_81, rv_82, re_83, ya_84, h1_85, h2_86, h3_87, h4_88, er_89, et_90, ⟨k_91, c9_92, t_93, f_94, e_95, u_96⟩, ⟨k_97, c9_98, t_99, f_100, e_101, u_102⟩⟩ := id hx_52
      exact W.zret (v := r_47) hx hb hr (by rcases w_48 with h9 | h9 <;> rw [h9] <;> rfl) (fun t ht hW => ⟨⟨r_47, (), rfl, w_48, ws_49, ty_50, hsm, htx, by rw [ht]; exact hP, va_K.moved hW.alike hK, hD, (⟨ts_76, te_77, cc_78, ra_79, rb_80, rc_81, rv_82, re_83, ya_84, by omega, by omega, by omega, by omega, er_89, et_90, ⟨k_91, c9_92, t_93, f_94, e_95, u_96⟩, ⟨k_97, c9_98, t_99, f_100, e_101, u_102⟩⟩ : RS ws_49 ty_50 rd krd tp ktp cd bb tl)⟩, hS.F ht⟩) hS.2.2 dX4_readOne_30
    refine lv_if_ne (tgt := 31) hx hb dX4_readOne_23 (by decide) (fun c_103 => ?_) (fun c_103 => absurd c_103 (by decide))
    refine lv_iload_n hx hb dX4_readOne_31 rfl (lv_at hl 2 rfl) ?_
    refine lv_bipush (v := 6) hx hb dX4_readOne_32 (by decide) ?_
    refine lv_icmp_lt (tgt := 50) hx hb dX4_readOne_34 (by decide) (fun c_104 => ?_) (fun c_104 => absurd (by decide) c_104)
    refine lv_aload_n hx hb dX4_readOne_50 rfl (lv_at hl 1 rfl) ?_
    refine va_get (D := D) (ci := 4) (v := .ref tp) (C := RX4) (T := TX4) (N := 8) hx hb hts hin4 hown hK hP krd e_35 rfl 0 (by decide) (hts (.fieldLink RX4 12 "HoneyHouse$RuleReader" "tape" "LHoneyHouse$Tape;") (List.mem_of_getElem? (i := 1) rfl)) (fun _ h9 => h9) rfl dX4_readOne_51 ?_
    have hFc := free_all hD hS hA
    refine va_callv (va_runV (As := []) (rest := []) ⟨hx, hb, hml, hown, hts⟩ (a_advance l D ws_30 ty_31 tp ktp tl te_2 ya_9 (nI ts_1) bb k_22 c9_23 t_24 f_41 H.size (by omega) (by omega) e_36 e_40 u_42) (cwV 0 hts gX4_readOne_X6_advance rfl rfl rfl (by decide +kernel) ⟨Nat.le_of_ble_eq_true rfl, Nat.le_of_ble_eq_true rfl⟩) ⟨fun a U g mk q => by obtain ⟨q0, q1, qP, qK, qD⟩ := q; exact ⟨q0, q1, qP, va_K.moved (u := U) (U := U.calling g mk a) (Vm.Alike.refl U.vm) qK, qD⟩, va_recv hK hP (ci := 6) (q0 := ktp) rfl e_36, fun U hU hW => ⟨rfl, by rw [hU], by rw [hU]; exact hP, va_K.moved hW.alike hK, hD.weaken (fun _ _ _ _ => trivial)⟩⟩ rfl rfl hl.1 rfl (lv_room (Nat.le_of_ble_eq_true rfl)) dX4_readOne_54 ⟨Nat.le_of_ble_eq_true rfl, Nat.le_of_ble_eq_true rfl⟩) hS (fun q _ h => hFc q h) hFc (fun u t H1 locs ht hvm w_106 hB hz1 hk1 hS => ?_)
    obtain ⟨ws_107, ty_108, hm_109, ht_111, hP1, hK1, hD1, hx_110⟩ := hB
    rw [ht] at hP1
    have hK := va_K.moved hvm.symm hK1
    have hD := hD1.weaken (fun _ _ _ h => hFc _ h)
    generalize H1 = H at hP1 hS ⊢
    have hP := hP1
    have e_112 := hm_109.objK e_35 (by decide)
    obtain ⟨g_114, e_113, h_115⟩ := hm_109.obj e_36
    obtain ⟨z_116, z_117, z_118, z_119, rfl⟩ := smX6 h_115
    obtain ⟨f_121, e_120⟩ := hm_109.arrI e_37
    have u_122 := ht_111 _ _ u_39
    obtain ⟨f_124, e_123⟩ := hm_109.arrI e_40
    have u_125 := ht_111 _ _ u_42
    have hsm := hsm.tr (hm_109.mono (by decide))
    have htx := htx.tr ht_111
    obtain ⟨k_126, s_127, e_128, h_129, h_130, h_131, e_132⟩ := hx_110
    refine lv_iload_n hx hb dX4_readOne_57 rfl (lv_at hl 0 rfl) ?_
    refine lv_if_ne (tgt := 86) hx hb dX4_readOne_58 (by decide) (fun c_133 => absurd (by decide) c_133) (fun c_133 => ?_)
    refine lv_aload_n hx hb dX4_readOne_61 rfl (lv_at hl 1 rfl) ?_
    refine lv_iload_n hx hb dX4_readOne_62 rfl (lv_at hl 2 rfl) ?_
    refine lv_iconst (v := 1) hx hb dX4_readOne_63 (by decide) ?_
    refine lv_iadd hx hb dX4_readOne_64 ?_
    refine tp_i (y := 5) (by decide) ?_
    have hFc := free_all hD hS hA
    refine va_calli (va_runV (As := [.int 5]) (rest := []) ⟨hx, hb, hml, hown, hts⟩ (r_readEither5 l D ws_107 ty_108 adK adV fo rd krd tp ktp cd bb tl  H.size (⟨s_127, e_128, cc_3, ra_4, rb_5, rc_6, rv_7, re_8, nI k_126, by omega, by omega, by omega, by omega, e_112, e_132, ⟨k_16, c9_17, t_18, f_121, e_120, u_122⟩, ⟨k_22, c9_23, t_24, f_124, e_123, u_125⟩⟩ : RS ws_107 ty_108 rd krd tp ktp cd bb tl)) (cwV 1 hts gX4_readOne_X4_readEither rfl rfl rfl (by decide +kernel) ⟨Nat.le_of_ble_eq_true rfl, Nat.le_of_ble_eq_true rfl⟩) ⟨fun a U g mk q => by obtain ⟨q0, q1, qP, qK, qD, qS⟩ := q; exact ⟨q0, q1, qP, va_K.moved (u := U) (U := U.calling g mk a) (Vm.Alike.refl U.vm) qK, qD, SZ.same rfl rfl qS⟩, va_recv hK hP (ci := 4) (q0 := krd) rfl e_112, fun U hU hW => ⟨rfl, by rw [hU], by rw [hU]; exact hP, va_K.moved hW.alike hK, hD.weaken (fun _ _ _ _ => trivial), hsz9.go hS hW hU hFc⟩⟩ rfl rfl hl.1 rfl (lv_room (Nat.le_of_ble_eq_true rfl)) dX4_readOne_65 ⟨Nat.le_of_ble_eq_true rfl, Nat.le_of_ble_eq_true rfl⟩) hS (fun q _ h => hFc q h) hFc (fun r_134 u t H1 locs ht hvm w_135 hB hz1 hk1 hS => ?_)
    obtain ⟨ws_136, ty_137, hm_138, ht_140, hP1, hK1, hD1, hx_139⟩ := hB
    rw [ht] at hP1
    have hK := va_K.moved hvm.symm hK1
    have hD := hD1.weaken (fun _ _ _ h => hFc _ h)
    generalize H1 = H at hP1 hS ⊢
    have hP := hP1
    obtain ⟨g_142, e_141, h_143⟩ := hm_138.obj e_112
    obtain ⟨z_144, z_145, z_146, z_147, z_148, z_149, rfl⟩ := smX4 h_143
    obtain ⟨g_151, e_150, h_152⟩ := hm_138.obj e_132
    obtain ⟨z_153, z_154, z_155, z_156, rfl⟩ := smX6 h_152
    obtain ⟨f_158, e_157⟩ := hm_138.arrI e_120
    have u_159 := ht_140 _ _ u_122
    obtain ⟨f_161, e_160⟩ := hm_138.arrI e_123
    have u_162 := ht_140 _ _ u_125
    have hsm := hsm.tr (hm_138.mono (by decide))
    have htx := htx.tr ht_140
    obtain ⟨ts_163, te_164, cc_165, ra_166, rb_167, rc_168, rv_169, re_170, ya_171, h1_172, h2_173, h3_174, h4_175, er_176, et_177, ⟨k_178, c9_179, t_180, f_181, e_182, u_183⟩, ⟨k_184, c9_185, t_186, f_187, e_188, u_189⟩⟩ := id hx_139
    refine lv_if_eq (tgt := 84) hx hb dX4_readOne_68 (by decide) (fun c_190 => ?_) (fun c_190 => ?_)
    · refine lv_iconst (v := 0) hx hb dX4_readOne_84 (by decide) ?_
      exact W.zret (v := 0) hx hb hr rfl (fun t ht hW => ⟨⟨0, (), rfl, Or.inl rfl, ws_136, ty_137, hsm, htx, by rw [ht]; exact hP, va_K.moved hW.alike hK, hD, (⟨ts_163, te_164, cc_165, ra_166, rb_167, rc_168, rv_169, re_170, ya_171, by omega, by omega, by omega, by omega, er_176, et_177, ⟨k_178, c9_179, t_180, f_181, e_182, u_183⟩, ⟨k_184, c9_185, t_186, f_187, e_188, u_189⟩⟩ : RS ws_136 ty_137 rd krd tp ktp cd bb tl)⟩, hS.F ht⟩) hS.2.2 dX4_readOne_85
    refine lv_aload_n hx hb dX4_readOne_71 rfl (lv_at hl 1 rfl) ?_
    refine lv_bipush (v := 41) hx hb dX4_readOne_72 (by decide) ?_
    have hFc := free_all hD hS hA
    refine va_calli (va_runV (As := [.int 41]) (rest := []) ⟨hx, hb, hml, hown, hts⟩ (r_readByte l D ws_136 ty_137 adK adV fo rd krd tp ktp cd bb tl 41 H.size (⟨ts_163, te_164, cc_165, ra_166, rb_167, rc_168, rv_169, re_170, ya_171, by omega, by omega, by omega, by omega, er_176, et_177, ⟨k_178, c9_179, t_180, f_181, e_182, u_183⟩, ⟨k_184, c9_185, t_186, f_187, e_188, u_189⟩⟩ : RS ws_136 ty_137 rd krd tp ktp cd bb tl)) (cwV 1 hts gX4_readOne_X4_readByte rfl rfl rfl (by decide +kernel) ⟨Nat.le_of_ble_eq_true rfl, Nat.le_of_ble_eq_true rfl⟩) ⟨fun a U g mk q => by obtain ⟨q0, q1, qP, qK, qD, qS⟩ := q; exact ⟨q0, q1, qP, va_K.moved (u := U) (U := U.calling g mk a) (Vm.Alike.refl U.vm) qK, qD, SZ.same rfl rfl qS⟩, va_recv hK hP (ci := 4) (q0 := krd) rfl er_176, fun U hU hW => ⟨rfl, by rw [hU], by rw [hU]; exact hP, va_K.moved hW.alike hK, hD.weaken (fun _ _ _ _ => trivial), hsz9.go hS hW hU hFc⟩⟩ rfl rfl hl.1 rfl (lv_room (Nat.le_of_ble_eq_true rfl)) dX4_readOne_74 ⟨Nat.le_of_ble_eq_true rfl, Nat.le_of_ble_eq_true rfl⟩) hS (fun q _ h => hFc q h) hFc (fun r_191 u t H1 locs ht hvm w_192 hB hz1 hk1 hS => ?_)
    obtain ⟨ws_193, ty_194, hm_195, ht_197, hP1, hK1, hD1, hx_196⟩ := hB
    rw [ht] at hP1
    have hK := va_K.moved hvm.symm hK1
    have hD := hD1.weaken (fun _ _ _ h => hFc _ h)
    generalize H1 = H at hP1 hS ⊢
    have hP := hP1
    obtain ⟨g_199, e_198, h_200⟩ := hm_195.obj er_176
    obtain ⟨z_201, z_202, z_203, z_204, z_205, z_206, rfl⟩ := smX4 h_200
    obtain ⟨g_208, e_207, h_209⟩ := hm_195.obj et_177
    obtain ⟨z_210, z_211, z_212, z_213, rfl⟩ := smX6 h_209
    obtain ⟨f_215, e_214⟩ := hm_195.arrI e_182
    have u_216 := ht_197 _ _ u_183
    obtain ⟨f_218, e_217⟩ := hm_195.arrI e_188
    have u_219 := ht_197 _ _ u_189
    have hsm := hsm.tr (hm_195.mono (by decide))
    have htx := htx.tr ht_197
    obtain ⟨ts_220, te_221, cc_222, ra_223, rb_224, rc_225, rv_226, re_227, ya_228, h1_229, h2_230, h3_231, h4_232, er_233, et_234, ⟨k_235, c9_236, t_237, f_238, e_239, u_240⟩, ⟨k_241, c9_242, t_243, f_244, e_245, u_246⟩⟩ := id hx_196
    rcases w_192 with rfl | rfl
    · refine lv_if_eq (tgt := 84) hx hb dX4_readOne_77 (by decide) (fun c_247 => ?_) (fun c_247 => absurd (by decide) c_247)
      refine lv_iconst (v := 0) hx hb dX4_readOne_84 (by decide) ?_
      exact W.zret (v := 0) hx hb hr rfl (fun t ht hW => ⟨⟨0, (), rfl, Or.inl rfl, ws_193, ty_194, hsm, htx, by rw [ht]; exact hP, va_K.moved hW.alike hK, hD, (⟨ts_220, te_221, cc_222, ra_223, rb_224, rc_225, rv_226, re_227, ya_228, by omega, by omega, by omega, by omega, er_233, et_234, ⟨k_235, c9_236, t_237, f_238, e_239, u_240⟩, ⟨k_241, c9_242, t_243, f_244, e_245, u_246⟩⟩ : RS ws_193 ty_194 rd krd tp ktp cd bb tl)⟩, hS.F ht⟩) hS.2.2 dX4_readOne_85
    refine lv_if_eq (tgt := 84) hx hb dX4_readOne_77 (by decide) (fun c_248 => absurd c_248 (by decide)) (fun c_248 => ?_)
    refine lv_iconst (v := 1) hx hb dX4_readOne_80 (by decide) ?_
    refine lv_goto (tgt := 85) hx hb dX4_readOne_81 (by decide) ?_
    exact W.zret (v := 1) hx hb hr rfl (fun t ht hW => ⟨⟨1, (), rfl, Or.inr rfl, ws_193, ty_194, hsm, htx, by rw [ht]; exact hP, va_K.moved hW.alike hK, hD, (⟨ts_220, te_221, cc_222, ra_223, rb_224, rc_225, rv_226, re_227, ya_228, by omega, by omega, by omega, by omega, er_233, et_234, ⟨k_235, c9_236, t_237, f_238, e_239, u_240⟩, ⟨k_241, c9_242, t_243, f_244, e_245, u_246⟩⟩ : RS ws_193 ty_194 rd krd tp ktp cd bb tl)⟩, hS.F ht⟩) hS.2.2 dX4_readOne_85
  refine lv_istore_n (lv' := [(2, .int 1), (0, .ref rd), (1, .int 4)]) hx hb dX4_readOne_9 rfl hl (by decide) rfl (fun ls hl => ?_)
  refine lv_iload_n hx hb dX4_readOne_10 rfl (lv_at hl 0 rfl) ?_
  refine lv_if_ne (tgt := 31) hx hb dX4_readOne_11 (by decide) (fun c_249 => ?_) (fun c_249 => absurd c_249 (by decide))
  refine lv_iload_n hx hb dX4_readOne_31 rfl (lv_at hl 2 rfl) ?_
  refine lv_bipush (v := 6) hx hb dX4_readOne_32 (by decide) ?_
  refine lv_icmp_lt (tgt := 50) hx hb dX4_readOne_34 (by decide) (fun c_250 => ?_) (fun c_250 => absurd (by decide) c_250)
  refine lv_aload_n hx hb dX4_readOne_50 rfl (lv_at hl 1 rfl) ?_
  refine va_get (D := D) (ci := 4) (v := .ref tp) (C := RX4) (T := TX4) (N := 8) hx hb hts hin4 hown hK hP krd e_35 rfl 0 (by decide) (hts (.fieldLink RX4 12 "HoneyHouse$RuleReader" "tape" "LHoneyHouse$Tape;") (List.mem_of_getElem? (i := 1) rfl)) (fun _ h9 => h9) rfl dX4_readOne_51 ?_
  have hFc := free_all hD hS hA
  refine va_callv (va_runV (As := []) (rest := []) ⟨hx, hb, hml, hown, hts⟩ (a_advance l D ws_30 ty_31 tp ktp tl te_2 ya_9 (nI ts_1) bb k_22 c9_23 t_24 f_41 H.size (by omega) (by omega) e_36 e_40 u_42) (cwV 0 hts gX4_readOne_X6_advance rfl rfl rfl (by decide +kernel) ⟨Nat.le_of_ble_eq_true rfl, Nat.le_of_ble_eq_true rfl⟩) ⟨fun a U g mk q => by obtain ⟨q0, q1, qP, qK, qD⟩ := q; exact ⟨q0, q1, qP, va_K.moved (u := U) (U := U.calling g mk a) (Vm.Alike.refl U.vm) qK, qD⟩, va_recv hK hP (ci := 6) (q0 := ktp) rfl e_36, fun U hU hW => ⟨rfl, by rw [hU], by rw [hU]; exact hP, va_K.moved hW.alike hK, hD.weaken (fun _ _ _ _ => trivial)⟩⟩ rfl rfl hl.1 rfl (lv_room (Nat.le_of_ble_eq_true rfl)) dX4_readOne_54 ⟨Nat.le_of_ble_eq_true rfl, Nat.le_of_ble_eq_true rfl⟩) hS (fun q _ h => hFc q h) hFc (fun u t H1 locs ht hvm w_252 hB hz1 hk1 hS => ?_)
  obtain ⟨ws_253, ty_254, hm_255, ht_257, hP1, hK1, hD1, hx_256⟩ := hB
  rw [ht] at hP1
  have hK := va_K.moved hvm.symm hK1
  have hD := hD1.weaken (fun _ _ _ h => hFc _ h)
  generalize H1 = H at hP1 hS ⊢
  have hP := hP1
  have e_258 := hm_255.objK e_35 (by decide)
  obtain ⟨g_260, e_259, h_261⟩ := hm_255.obj e_36
  obtain ⟨z_262, z_263, z_264, z_265, rfl⟩ := smX6 h_261
  obtain ⟨f_267, e_266⟩ := hm_255.arrI e_37
  have u_268 := ht_257 _ _ u_39
  obtain ⟨f_270, e_269⟩ := hm_255.arrI e_40
  have u_271 := ht_257 _ _ u_42
  have hsm := hsm.tr (hm_255.mono (by decide))
  have htx := htx.tr ht_257
  obtain ⟨k_272, s_273, e_274, h_275, h_276, h_277, e_278⟩ := hx_256
  refine lv_iload_n hx hb dX4_readOne_57 rfl (lv_at hl 0 rfl) ?_
  refine lv_if_ne (tgt := 86) hx hb dX4_readOne_58 (by decide) (fun c_279 => ?_) (fun c_279 => absurd c_279 (by decide))
  refine lv_aload_n hx hb dX4_readOne_86 rfl (lv_at hl 1 rfl) ?_
  refine lv_iload_n hx hb dX4_readOne_87 rfl (lv_at hl 2 rfl) ?_
  refine lv_iconst (v := 1) hx hb dX4_readOne_88 (by decide) ?_
  refine lv_iadd hx hb dX4_readOne_89 ?_
  refine tp_i (y := 5) (by decide) ?_
  have hFc := free_all hD hS hA
  refine va_calli (va_runV (As := [.int 5]) (rest := []) ⟨hx, hb, hml, hown, hts⟩ (r_readOne5 l D ws_253 ty_254 adK adV fo rd krd tp ktp cd bb tl  H.size (⟨s_273, e_274, cc_3, ra_4, rb_5, rc_6, rv_7, re_8, nI k_272, by omega, by omega, by omega, by omega, e_258, e_278, ⟨k_16, c9_17, t_18, f_267, e_266, u_268⟩, ⟨k_22, c9_23, t_24, f_270, e_269, u_271⟩⟩ : RS ws_253 ty_254 rd krd tp ktp cd bb tl)) (cwV 1 hts gX4_readOne_X4_readOne rfl rfl rfl (by decide +kernel) ⟨Nat.le_of_ble_eq_true rfl, Nat.le_of_ble_eq_true rfl⟩) ⟨fun a U g mk q => by obtain ⟨q0, q1, qP, qK, qD, qS⟩ := q; exact ⟨q0, q1, qP, va_K.moved (u := U) (U := U.calling g mk a) (Vm.Alike.refl U.vm) qK, qD, SZ.same rfl rfl qS⟩, va_recv hK hP (ci := 4) (q0 := krd) rfl e_258, fun U hU hW => ⟨rfl, by rw [hU], by rw [hU]; exact hP, va_K.moved hW.alike hK, hD.weaken (fun _ _ _ _ => trivial), hsz9.go hS hW hU hFc⟩⟩ rfl rfl hl.1 rfl (lv_room (Nat.le_of_ble_eq_true rfl)) dX4_readOne_90 ⟨Nat.le_of_ble_eq_true rfl, Nat.le_of_ble_eq_true rfl⟩) hS (fun q _ h => hFc q h) hFc (fun r_280 u t H1 locs ht hvm w_281 hB hz1 hk1 hS => ?_)
  obtain ⟨ws_282, ty_283, hm_284, ht_286, hP1, hK1, hD1, hx_285⟩ := hB
  rw [ht] at hP1
  have hK := va_K.moved hvm.symm hK1
  have hD := hD1.weaken (fun _ _ _ h => hFc _ h)
  generalize H1 = H at hP1 hS ⊢
  have hP := hP1
  obtain ⟨g_288, e_287, h_289⟩ := hm_284.obj e_258
  obtain ⟨z_290, z_291, z_292, z_293, z_294, z_295, rfl⟩ := smX4 h_289
  obtain ⟨g_297, e_296, h_298⟩ := hm_284.obj e_278
  obtain ⟨z_299, z_300, z_301, z_302, rfl⟩ := smX6 h_298
  obtain ⟨f_304, e_303⟩ := hm_284.arrI e_266
  have u_305 := ht_286 _ _ u_268
  obtain ⟨f_307, e_306⟩ := hm_284.arrI e_269
  have u_308 := ht_286 _ _ u_271
  have hsm := hsm.tr (hm_284.mono (by decide))
  have htx := htx.tr ht_286
  obtain ⟨ts_309, te_310, cc_311, ra_312, rb_313, rc_314, rv_315, re_316, ya_317, h1_318, h2_319, h3_320, h4_321, er_322, et_323, ⟨k_324, c9_325, t_326, f_327, e_328, u_329⟩, ⟨k_330, c9_331, t_332, f_333, e_334, u_335⟩⟩ := id hx_285
  refine lv_istore_n (lv' := [(3, .int r_280), (2, .int 1), (0, .ref rd), (1, .int 4)]) hx hb dX4_readOne_93 rfl hl (by decide) rfl (fun ls hl => ?_)
  refine lv_aload_n hx hb dX4_readOne_94 rfl (lv_at hl 2 rfl) ?_
  refine lv_iconst (v := (-1)) hx hb dX4_readOne_95 (by decide) ?_
  have hFc := free_all hD hS hA
  refine va_callv (va_runV (As := [.int (-1)]) (rest := []) ⟨hx, hb, hml, hown, hts⟩ (r_addCode l D ws_282 ty_283 adK adV fo rd krd tp ktp cd bb tl (-1) H.size (⟨ts_309, te_310, cc_311, ra_312, rb_313, rc_314, rv_315, re_316, ya_317, by omega, by omega, by omega, by omega, er_322, et_323, ⟨k_324, c9_325, t_326, f_327, e_328, u_329⟩, ⟨k_330, c9_331, t_332, f_333, e_334, u_335⟩⟩ : RS ws_282 ty_283 rd krd tp ktp cd bb tl)) (cwV 1 hts gX4_readOne_X4_addCode rfl rfl rfl (by decide +kernel) ⟨Nat.le_of_ble_eq_true rfl, Nat.le_of_ble_eq_true rfl⟩) ⟨fun a U g mk q => by obtain ⟨q0, q1, qP, qK, qD, qS⟩ := q; exact ⟨q0, q1, qP, va_K.moved (u := U) (U := U.calling g mk a) (Vm.Alike.refl U.vm) qK, qD, SZ.same rfl rfl qS⟩, va_recv hK hP (ci := 4) (q0 := krd) rfl er_322, fun U hU hW => ⟨rfl, by rw [hU], by rw [hU]; exact hP, va_K.moved hW.alike hK, hD.weaken (fun _ _ _ _ => trivial), hsz9.go hS hW hU hFc⟩⟩ rfl rfl hl.1 rfl (lv_room (Nat.le_of_ble_eq_true rfl)) dX4_readOne_96 ⟨Nat.le_of_ble_eq_true rfl, Nat.le_of_ble_eq_true rfl⟩) hS (fun q _ h => hFc q h) hFc (fun u t H1 locs ht hvm w_337 hB hz1 hk1 hS => ?_)
  obtain ⟨ws_338, ty_339, hm_340, ht_342, hP1, hK1, hD1, hx_341⟩ := hB
  rw [ht] at hP1
  have hK := va_K.moved hvm.symm hK1
  have hD := hD1.weaken (fun _ _ _ h => hFc _ h)
  generalize H1 = H at hP1 hS ⊢
  have hP := hP1
  obtain ⟨g_344, e_343, h_345⟩ := hm_340.obj er_322
  obtain ⟨z_346, z_347, z_348, z_349, z_350, z_351, rfl⟩ := smX4 h_345
  obtain ⟨g_353, e_352, h_354⟩ := hm_340.obj et_323
  obtain ⟨z_355, z_356, z_357, z_358, rfl⟩ := smX6 h_354
  obtain ⟨f_360, e_359⟩ := hm_340.arrI e_328
  have u_361 := ht_342 _ _ u_329
  obtain ⟨f_363, e_362⟩ := hm_340.arrI e_334
  have u_364 := ht_342 _ _ u_335
  have hsm := hsm.tr (hm_340.mono (by decide))
  have htx := htx.tr ht_342
  obtain ⟨ts_365, te_366, cc_367, ra_368, rb_369, rc_370, rv_371, re_372, ya_373, h1_374, h2_375, h3_376, h4_377, er_378, et_379, ⟨k_380, c9_381, t_382, f_383, e_384, u_385⟩, ⟨k_386, c9_387, t_388, f_389, e_390, u_391⟩⟩ := id hx_341
  refine lv_iload_n hx hb dX4_readOne_99 rfl (lv_at hl 0 rfl) ?_
  exact W.zret (v := r_280) hx hb hr (by rcases w_281 with h9 | h9 <;> rw [h9] <;> rfl) (fun t ht hW => ⟨⟨r_280, (), rfl, w_281, ws_338, ty_339, hsm, htx, by rw [ht]; exact hP, va_K.moved hW.alike hK, hD, (⟨ts_365, te_366, cc_367, ra_368, rb_369, rc_370, rv_371, re_372, ya_373, by omega, by omega, by omega, by omega, er_378, et_379, ⟨k_380, c9_381, t_382, f_383, e_384, u_385⟩, ⟨k_386, c9_387, t_388, f_389, e_390, u_391⟩⟩ : RS ws_338 ty_339 rd krd tp ktp cd bb tl)⟩, hS.F ht⟩) hS.2.2 dX4_readOne_100
set_option maxHeartbeats 4000000 in
set_option maxRecDepth 100000 in
theorem r_readEither4 (l : Launch) (D : va_G) (ws : va_W) (tys : List (ClassId × FieldType)) (adK adV : Nat → Nat) (fo : Option Nat) (rd krd tp ktp cd bb tl : Nat)  (sz : Nat) (R0 : RS ws tys rd krd tp ktp cd bb tl)  : Met l yX4_readEither wsX4_readEither ({ frames := 12, cells := 0, slots := 0, locals := 268 }) (va_Pc [.ref rd, .int 4] (fun U => U.heap.size = sz ∧ va_P D vwCl ws U.heap ∧ va_K D vwCl tys U ∧ va_D (fun _ => True) ws ∧ SZ adK adV fo (va_A ws sz) U U.heap)) (va_Qi (fun (r : Int32) (_ : Unit) => r = 0 ∨ r = 1) (fun (_ : Unit) (t : State) => ∃ (ws' : va_W) (tys' : List (ClassId × FieldType)), sm [4, 6] ws ws' ∧ tyx tys tys' ∧ va_P D vwCl ws' t.heap ∧ va_K D vwCl tys' t ∧ va_D (va_A ws sz) ws' ∧ RS ws' tys' rd krd tp ktp cd bb tl) (va_A ws sz)) 0 0 (va_A ws sz) := by
  refine Met.ofW (cc := cX4_readEither) (maxL := 6) (ret := (some .boolean)) (by decide) rfl ?_
  intro p e s m args below meth c s₁ B hml hv
  obtain ⟨rfl, hsz, hP, hK, hD0, hsz9⟩ := hv
  have hx := B.exec
  have hb := B.bytes
  have hr := B.returns
  have hts := atoms_spec (ws := wsX4_readEither) B.pre
  have hown : s.vm.findClass RX4 = some m.cls := findClass_of_methodNamed B.named
  have hlocks := B.notSynchronized
  subst hsz
  have hD := hD0.self (sz := s.heap.size)
  generalize hAe : va_A ws s.heap.size = A at hD hsz9 ⊢
  have hA : ∀ q : Nat, s.heap.size ≤ q → A q := fun q h => by rw [← hAe]; exact Or.inr h
  have hS : va_S A s.heap s.heap [] := va_S.rf
  have hsm : sm [4, 6] ws ws := sm.rf ws
  have htx : tyx tys tys := tyx.rf tys
  have hin4 : ∀ w ∈ u_ws RX4 TX4 8, w ∈ wsX4_readEither := (fun _ h9 => List.mem_cons_of_mem _ (List.mem_append_left _ ((List.mem_append_right _ h9))))
  have hl := lv_entry ([.ref rd, .int 4]) (n := 6) (Nat.le_of_ble_eq_true rfl)
  rw [lg_entry_eq]
  generalize (lg_sl ([.ref rd, .int 4]) ++ List.replicate (6 - (lg_sl ([.ref rd, .int 4])).length) Slot.unset).toArray = ls at hl ⊢
  have hl : lv_has ls 6 [(0, .ref rd), (1, .int 4)] := hl
  obtain ⟨ts_1, te_2, cc_3, ra_4, rb_5, rc_6, rv_7, re_8, ya_9, h1_10, h2_11, h3_12, h4_13, er_14, et_15, ⟨k_16, c9_17, t_18, f_19, e_20, u_21⟩, ⟨k_22, c9_23, t_24, f_25, e_26, u_27⟩⟩ := id R0
  refine lv_aload_n hx hb dX4_readEither_0 rfl (lv_at hl 0 rfl) ?_
  refine lv_iload_n hx hb dX4_readEither_1 rfl (lv_at hl 1 rfl) ?_
  have hFc := free_all hD hS hA
  refine va_calli (va_runV (As := [.int 4]) (rest := []) ⟨hx, hb, hml, hown, hts⟩ (r_readOne4 l D ws tys adK adV fo rd krd tp ktp cd bb tl  s.heap.size (⟨ts_1, te_2, cc_3, ra_4, rb_5, rc_6, rv_7, re_8, ya_9, by omega, by omega, by omega, by omega, er_14, et_15, ⟨k_16, c9_17, t_18, f_19, e_20, u_21⟩, ⟨k_22, c9_23, t_24, f_25, e_26, u_27⟩⟩ : RS ws tys rd krd tp ktp cd bb tl)) (cwV 1 hts gX4_readEither_X4_readOne rfl rfl rfl (by decide +kernel) ⟨Nat.le_of_ble_eq_true rfl, Nat.le_of_ble_eq_true rfl⟩) ⟨fun a U g mk q => by obtain ⟨q0, q1, qP, qK, qD, qS⟩ := q; exact ⟨q0, q1, qP, va_K.moved (u := U) (U := U.calling g mk a) (Vm.Alike.refl U.vm) qK, qD, SZ.same rfl rfl qS⟩, va_recv hK hP (ci := 4) (q0 := krd) rfl er_14, fun U hU hW => ⟨rfl, by rw [hU], by rw [hU]; exact hP, va_K.moved hW.alike hK, hD.weaken (fun _ _ _ _ => trivial), hsz9.go hS hW hU hFc⟩⟩ rfl rfl hl.1 rfl (lv_room (Nat.le_of_ble_eq_true rfl)) dX4_readEither_2 ⟨Nat.le_of_ble_eq_true rfl, Nat.le_of_ble_eq_true rfl⟩) hS (fun q _ h => hFc q h) hFc (fun r_28 u t H1 locs ht hvm w_29 hB hz1 hk1 hS => ?_)
  obtain ⟨ws_30, ty_31, hm_32, ht_34, hP1, hK1, hD1, hx_33⟩ := hB
  rw [ht] at hP1
  have hK := va_K.moved hvm.symm hK1
  have hD := hD1.weaken (fun _ _ _ h => hFc _ h)
  generalize H1 = H at hP1 hS ⊢
  have hP := hP1
  obtain ⟨g_36, e_35, h_37⟩ := hm_32.obj er_14
  obtain ⟨z_38, z_39, z_40, z_41, z_42, z_43, rfl⟩ := smX4 h_37
  obtain ⟨g_45, e_44, h_46⟩ := hm_32.obj et_15
  obtain ⟨z_47, z_48, z_49, z_50, rfl⟩ := smX6 h_46
  obtain ⟨f_52, e_51⟩ := hm_32.arrI e_20
  have u_53 := ht_34 _ _ u_21
  obtain ⟨f_55, e_54⟩ := hm_32.arrI e_26
  have u_56 := ht_34 _ _ u_27
  have hsm := hsm.tr (hm_32.mono (by decide))
  have htx := htx.tr ht_34
  obtain ⟨ts_57, te_58, cc_59, ra_60, rb_61, rc_62, rv_63, re_64, ya_65, h1_66, h2_67, h3_68, h4_69, er_70, et_71, ⟨k_72, c9_73, t_74, f_75, e_76, u_77⟩, ⟨k_78, c9_79, t_80, f_81, e_82, u_83⟩⟩ := id hx_33
  refine lv_istore_n (lv' := [(2, .int r_28), (0, .ref rd), (1, .int 4)]) hx hb dX4_readEither_5 rfl hl (by decide) rfl (fun ls hl => ?_)
  refine lv_iconst (v := 0) hx hb dX4_readEither_6 (by decide) ?_
  refine lv_istore_n (lv' := [(3, .int 0), (2, .int r_28), (0, .ref rd), (1, .int 4)]) hx hb dX4_readEither_7 rfl hl (by decide) rfl (fun ls hl => ?_)
  refine lv_iconst (v := 0) hx hb dX4_readEither_8 (by decide) ?_
  refine lv_istore (lv' := [(4, .int 0), (3, .int 0), (2, .int r_28), (0, .ref rd), (1, .int 4)]) hx hb dX4_readEither_9 hl (by decide) rfl (fun ls hl => ?_)
  refine lp_V (nL := 6) (σ := Nat × Int32 × Int32) (lv := fun x9 => [(4, .int (nI x9.1)), (2, .int x9.2.1), (3, .int x9.2.2), (1, .int 4), (0, .ref rd)]) (μ := fun x9 => 400 - x9.1) (J := fun x9 ws9 => sm [4, 6] ws_30 ws9 ∧ (∃ ty9 : List (ClassId × FieldType), va_K D vwCl ty9 s ∧ tyx tys ty9 ∧ RS ws9 ty9 rd krd tp ktp cd bb tl) ∧ (x9.1 ≤ 400) ∧ (x9.2.1 = 0 ∨ x9.2.1 = 1) ∧ (x9.2.2 = 0 ∨ x9.2.2 = 1)) (fun x9 ws_91 H locs ls hj hP hD hS hl ih_84 => ?_) (0, r_28, 0) ws_30 _ _ ls ⟨sm.rf _, ⟨ty_31, hK, htx, (⟨ts_57, te_58, cc_59, ra_60, rb_61, rc_62, rv_63, re_64, ya_65, by omega, by omega, by omega, by omega, er_70, et_71, ⟨k_72, c9_73, t_74, f_75, e_76, u_77⟩, ⟨k_78, c9_79, t_80, f_81, e_82, u_83⟩⟩ : RS ws_30 ty_31 rd krd tp ktp cd bb tl)⟩, (show 0 ≤ 400 from by omega), (show r_28 = 0 ∨ r_28 = 1 from w_29), (show 0 = 0 ∨ 0 = 1 from Or.inl rfl)⟩ hP hD hS (lv_sub hl [0, 2, 1, 4, 3] rfl)
  obtain ⟨i_85, x_86, y_87⟩ := x9
  have hj : sm [4, 6] ws_30 ws_91 ∧ (∃ ty9 : List (ClassId × FieldType), va_K D vwCl ty9 s ∧ tyx tys ty9 ∧ RS ws_91 ty9 rd krd tp ktp cd bb tl) ∧ (i_85 ≤ 400) ∧ (x_86 = 0 ∨ x_86 = 1) ∧ (y_87 = 0 ∨ y_87 = 1) := hj
  obtain ⟨hm_92, hR_94, hi_88, hbx_89, hby_90⟩ := hj
  obtain ⟨g_96, e_95, h_97⟩ := hm_92.obj er_70
  obtain ⟨z_98, z_99, z_100, z_101, z_102, z_103, rfl⟩ := smX4 h_97
  obtain ⟨g_105, e_104, h_106⟩ := hm_92.obj et_71
  obtain ⟨z_107, z_108, z_109, z_110, rfl⟩ := smX6 h_106
  obtain ⟨f_112, e_111⟩ := hm_92.arrI e_76
  obtain ⟨f_114, e_113⟩ := hm_92.arrI e_82
  have hsm := hsm.tr (hm_92.mono (by decide))
  obtain ⟨ty_115, hK, htx, hR_116⟩ := hR_94
  obtain ⟨ts_117, te_118, cc_119, ra_120, rb_121, rc_122, rv_123, re_124, ya_125, h1_126, h2_127, h3_128, h4_129, er_130, et_131, ⟨k_132, c9_133, t_134, f_135, e_136, u_137⟩, ⟨k_138, c9_139, t_140, f_141, e_142, u_143⟩⟩ := id hR_116
  have hlp_93 := hm_92
  have hl : lv_has ls 6 [(4, .int (nI i_85)), (2, .int x_86), (3, .int y_87), (1, .int 4), (0, .ref rd)] := hl
  refine lv_iload hx hb dX4_readEither_11 (lv_at hl 0 rfl) ?_
  refine lv_sipush (v := 400) hx hb dX4_readEither_13 (by decide) ?_
  refine lv_icmp_ge (tgt := 101) hx hb dX4_readEither_16 (by decide) (fun c_144 => ?_) (fun c_144 => ?_)
  · have d_145 := n_le (a := 400) (b := i_85) (by omega) (by omega) c_144
    refine lv_iload_n hx hb dX4_readEither_101 rfl (lv_at hl 2 rfl) ?_
    refine lv_if_eq (tgt := 111) hx hb dX4_readEither_102 (by decide) (fun c_146 => ?_) (fun c_146 => ?_)
    · refine lv_iload_n hx hb dX4_readEither_111 rfl (lv_at hl 1 rfl) ?_
      exact W.zret (v := x_86) hx hb hr (by rcases hbx_89 with h9 | h9 <;> rw [h9] <;> rfl) (fun t ht hW => ⟨⟨x_86, (), rfl, hbx_89, ws_91, ty_115, hsm, htx, by rw [ht]; exact hP, va_K.moved hW.alike hK, hD, (⟨ts_117, te_118, cc_119, ra_120, rb_121, rc_122, rv_123, re_124, ya_125, by omega, by omega, by omega, by omega, er_130, et_131, ⟨k_132, c9_133, t_134, f_135, e_136, u_137⟩, ⟨k_138, c9_139, t_140, f_141, e_142, u_143⟩⟩ : RS ws_91 ty_115 rd krd tp ktp cd bb tl)⟩, hS.F ht⟩) hS.2.2 dX4_readEither_112
    refine lv_aload_n hx hb dX4_readEither_105 rfl (lv_at hl 4 rfl) ?_
    refine lv_bipush (v := (-3)) hx hb dX4_readEither_106 (by decide) ?_
    have hFc := free_all hD hS hA
    refine va_callv (va_runV (As := [.int (-3)]) (rest := []) ⟨hx, hb, hml, hown, hts⟩ (r_addCode l D ws_91 ty_115 adK adV fo rd krd tp ktp cd bb tl (-3) H.size (⟨ts_117, te_118, cc_119, ra_120, rb_121, rc_122, rv_123, re_124, ya_125, by omega, by omega, by omega, by omega, er_130, et_131, ⟨k_132, c9_133, t_134, f_135, e_136, u_137⟩, ⟨k_138, c9_139, t_140, f_141, e_142, u_143⟩⟩ : RS ws_91 ty_115 rd krd tp ktp cd bb tl)) (cwV 1 hts gX4_readEither_X4_addCode rfl rfl rfl (by decide +kernel) ⟨Nat.le_of_ble_eq_true rfl, Nat.le_of_ble_eq_true rfl⟩) ⟨fun a U g mk q => by obtain ⟨q0, q1, qP, qK, qD, qS⟩ := q; exact ⟨q0, q1, qP, va_K.moved (u := U) (U := U.calling g mk a) (Vm.Alike.refl U.vm) qK, qD, SZ.same rfl rfl qS⟩, va_recv hK hP (ci := 4) (q0 := krd) rfl er_130, fun U hU hW => ⟨rfl, by rw [hU], by rw [hU]; exact hP, va_K.moved hW.alike hK, hD.weaken (fun _ _ _ _ => trivial), hsz9.go hS hW hU hFc⟩⟩ rfl rfl hl.1 rfl (lv_room (Nat.le_of_ble_eq_true rfl)) dX4_readEither_108 ⟨Nat.le_of_ble_eq_true rfl, Nat.le_of_ble_eq_true rfl⟩) hS (fun q _ h => hFc q h) hFc (fun u t H1 locs ht hvm w_148 hB hz1 hk1 hS => ?_)
    obtain ⟨ws_149, ty_150, hm_151, ht_153, hP1, hK1, hD1, hx_152⟩ := hB
    rw [ht] at hP1
    have hK := va_K.moved hvm.symm hK1
    have hD := hD1.weaken (fun _ _ _ h => hFc _ h)
    generalize H1 = H at hP1 hS ⊢
    have hP := hP1
    obtain ⟨g_155, e_154, h_156⟩ := hm_151.obj er_130
    obtain ⟨z_157, z_158, z_159, z_160, z_161, z_162, rfl⟩ := smX4 h_156
    obtain ⟨g_164, e_163, h_165⟩ := hm_151.obj et_131
    obtain ⟨z_166, z_167, z_168, z_169, rfl⟩ := smX6 h_165
    obtain ⟨f_171, e_170⟩ := hm_151.arrI e_136
    have u_172 := ht_153 _ _ u_137
    obtain ⟨f_174, e_173⟩ := hm_151.arrI e_142
    have u_175 := ht_153 _ _ u_143
    have hsm := hsm.tr (hm_151.mono (by decide))
    have hlp_93 := hlp_93.tr (hm_151.mono (by decide))
    have htx := htx.tr ht_153
    obtain ⟨ts_176, te_177, cc_178, ra_179, rb_180, rc_181, rv_182, re_183, ya_184, h1_185, h2_186, h3_187, h4_188, er_189, et_190, ⟨k_191, c9_192, t_193, f_194, e_195, u_196⟩, ⟨k_197, c9_198, t_199, f_200, e_201, u_202⟩⟩ := id hx_152
    refine lv_iload_n hx hb dX4_readEither_111 rfl (lv_at hl 1 rfl) ?_
    exact W.zret (v := x_86) hx hb hr (by rcases hbx_89 with h9 | h9 <;> rw [h9] <;> rfl) (fun t ht hW => ⟨⟨x_86, (), rfl, hbx_89, ws_149, ty_150, hsm, htx, by rw [ht]; exact hP, va_K.moved hW.alike hK, hD, (⟨ts_176, te_177, cc_178, ra_179, rb_180, rc_181, rv_182, re_183, ya_184, by omega, by omega, by omega, by omega, er_189, et_190, ⟨k_191, c9_192, t_193, f_194, e_195, u_196⟩, ⟨k_197, c9_198, t_199, f_200, e_201, u_202⟩⟩ : RS ws_149 ty_150 rd krd tp ktp cd bb tl)⟩, hS.F ht⟩) hS.2.2 dX4_readEither_112
  have d_203 := n_nle (a := 400) (b := i_85) (by omega) (by omega) c_144
  refine lv_iload_n hx hb dX4_readEither_19 rfl (lv_at hl 1 rfl) ?_
  refine lv_if_eq (tgt := 101) hx hb dX4_readEither_20 (by decide) (fun c_204 => ?_) (fun c_204 => ?_)
  · refine lv_iload_n hx hb dX4_readEither_101 rfl (lv_at hl 2 rfl) ?_
    refine lv_if_eq (tgt := 111) hx hb dX4_readEither_102 (by decide) (fun c_205 => ?_) (fun c_205 => ?_)
    · refine lv_iload_n hx hb dX4_readEither_111 rfl (lv_at hl 1 rfl) ?_
      exact W.zret (v := x_86) hx hb hr (by rcases hbx_89 with h9 | h9 <;> rw [h9] <;> rfl) (fun t ht hW => ⟨⟨x_86, (), rfl, hbx_89, ws_91, ty_115, hsm, htx, by rw [ht]; exact hP, va_K.moved hW.alike hK, hD, (⟨ts_117, te_118, cc_119, ra_120, rb_121, rc_122, rv_123, re_124, ya_125, by omega, by omega, by omega, by omega, er_130, et_131, ⟨k_132, c9_133, t_134, f_135, e_136, u_137⟩, ⟨k_138, c9_139, t_140, f_141, e_142, u_143⟩⟩ : RS ws_91 ty_115 rd krd tp ktp cd bb tl)⟩, hS.F ht⟩) hS.2.2 dX4_readEither_112
    refine lv_aload_n hx hb dX4_readEither_105 rfl (lv_at hl 4 rfl) ?_
    refine lv_bipush (v := (-3)) hx hb dX4_readEither_106 (by decide) ?_
    have hFc := free_all hD hS hA
    refine va_callv (va_runV (As := [.int (-3)]) (rest := []) ⟨hx, hb, hml, hown, hts⟩ (r_addCode l D ws_91 ty_115 adK adV fo rd krd tp ktp cd bb tl (-3) H.size (⟨ts_117, te_118, cc_119, ra_120, rb_121, rc_122, rv_123, re_124, ya_125, by omega, by omega, by omega, by omega, er_130, et_131, ⟨k_132, c9_133, t_134, f_135, e_136, u_137⟩, ⟨k_138, c9_139, t_140, f_141, e_142, u_143⟩⟩ : RS ws_91 ty_115 rd krd tp ktp cd bb tl)) (cwV 1 hts gX4_readEither_X4_addCode rfl rfl rfl (by decide +kernel) ⟨Nat.le_of_ble_eq_true rfl, Nat.le_of_ble_eq_true rfl⟩) ⟨fun a U g mk q => by obtain ⟨q0, q1, qP, qK, qD, qS⟩ := q; exact ⟨q0, q1, qP, va_K.moved (u := U) (U := U.calling g mk a) (Vm.Alike.refl U.vm) qK, qD, SZ.same rfl rfl qS⟩, va_recv hK hP (ci := 4) (q0 := krd) rfl er_130, fun U hU hW => ⟨rfl, by rw [hU], by rw [hU]; exact hP, va_K.moved hW.alike hK, hD.weaken (fun _ _ _ _ => trivial), hsz9.go hS hW hU hFc⟩⟩ rfl rfl hl.1 rfl (lv_room (Nat.le_of_ble_eq_true rfl)) dX4_readEither_108 ⟨Nat.le_of_ble_eq_true rfl, Nat.le_of_ble_eq_true rfl⟩) hS (fun q _ h => hFc q h) hFc (fun u t H1 locs ht hvm w_207 hB hz1 hk1 hS => ?_)
    obtain ⟨ws_208, ty_209, hm_210, ht_212, hP1, hK1, hD1, hx_211⟩ := hB
    rw [ht] at hP1
    have hK := va_K.moved hvm.symm hK1
    have hD := hD1.weaken (fun _ _ _ h => hFc _ h)
    generalize H1 = H at hP1 hS ⊢
    have hP := hP1
    obtain ⟨g_214, e_213, h_215⟩ := hm_210.obj er_130
    obtain ⟨z_216, z_217, z_218, z_219, z_220, z_221, rfl⟩ := smX4 h_215
    obtain ⟨g_223, e_222, h_224⟩ := hm_210.obj et_131
    obtain ⟨z_225, z_226, z_227, z_228, rfl⟩ := smX6 h_224
    obtain ⟨f_230, e_229⟩ := hm_210.arrI e_136
    have u_231 := ht_212 _ _ u_137
    obtain ⟨f_233, e_232⟩ := hm_210.arrI e_142
    have u_234 := ht_212 _ _ u_143
    have hsm := hsm.tr (hm_210.mono (by decide))
    have hlp_93 := hlp_93.tr (hm_210.mono (by decide))
    have htx := htx.tr ht_212
    obtain ⟨ts_235, te_236, cc_237, ra_238, rb_239, rc_240, rv_241, re_242, ya_243, h1_244, h2_245, h3_246, h4_247, er_248, et_249, ⟨k_250, c9_251, t_252, f_253, e_254, u_255⟩, ⟨k_256, c9_257, t_258, f_259, e_260, u_261⟩⟩ := id hx_211
    refine lv_iload_n hx hb dX4_readEither_111 rfl (lv_at hl 1 rfl) ?_
    exact W.zret (v := x_86) hx hb hr (by rcases hbx_89 with h9 | h9 <;> rw [h9] <;> rfl) (fun t ht hW => ⟨⟨x_86, (), rfl, hbx_89, ws_208, ty_209, hsm, htx, by rw [ht]; exact hP, va_K.moved hW.alike hK, hD, (⟨ts_235, te_236, cc_237, ra_238, rb_239, rc_240, rv_241, re_242, ya_243, by omega, by omega, by omega, by omega, er_248, et_249, ⟨k_250, c9_251, t_252, f_253, e_254, u_255⟩, ⟨k_256, c9_257, t_258, f_259, e_260, u_261⟩⟩ : RS ws_208 ty_209 rd krd tp ktp cd bb tl)⟩, hS.F ht⟩) hS.2.2 dX4_readEither_112
  refine lv_aload_n hx hb dX4_readEither_23 rfl (lv_at hl 4 rfl) ?_
  have hFc := free_all hD hS hA
  refine va_calli (va_runV (As := []) (rest := []) ⟨hx, hb, hml, hown, hts⟩ (r_isAndOr l D ws_91 ty_115 adK adV fo rd krd tp ktp cd bb tl  H.size (⟨ts_117, te_118, cc_119, ra_120, rb_121, rc_122, rv_123, re_124, ya_125, by omega, by omega, by omega, by omega, er_130, et_131, ⟨k_132, c9_133, t_134, f_135, e_136, u_137⟩, ⟨k_138, c9_139, t_140, f_141, e_142, u_143⟩⟩ : RS ws_91 ty_115 rd krd tp ktp cd bb tl)) (cwV 0 hts gX4_readEither_X4_isAndOr rfl rfl rfl (by decide +kernel) ⟨Nat.le_of_ble_eq_true rfl, Nat.le_of_ble_eq_true rfl⟩) ⟨fun a U g mk q => by obtain ⟨q0, q1, qP, qK, qD, qS⟩ := q; exact ⟨q0, q1, qP, va_K.moved (u := U) (U := U.calling g mk a) (Vm.Alike.refl U.vm) qK, qD, SZ.same rfl rfl qS⟩, va_recv hK hP (ci := 4) (q0 := krd) rfl er_130, fun U hU hW => ⟨rfl, by rw [hU], by rw [hU]; exact hP, va_K.moved hW.alike hK, hD.weaken (fun _ _ _ _ => trivial), hsz9.go hS hW hU hFc⟩⟩ rfl rfl hl.1 rfl (lv_room (Nat.le_of_ble_eq_true rfl)) dX4_readEither_24 ⟨Nat.le_of_ble_eq_true rfl, Nat.le_of_ble_eq_true rfl⟩) hS (fun q _ h => hFc q h) hFc (fun r_262 u t H1 locs ht hvm w_263 hB hz1 hk1 hS => ?_)
  obtain ⟨ws_264, ty_265, hm_266, ht_268, hP1, hK1, hD1, hx_267⟩ := hB
  rw [ht] at hP1
  have hK := va_K.moved hvm.symm hK1
  have hD := hD1.weaken (fun _ _ _ h => hFc _ h)
  generalize H1 = H at hP1 hS ⊢
  have hP := hP1
  have e_269 := hm_266.objK er_130 (by decide)
  have e_270 := hm_266.objK et_131 (by decide)
  obtain ⟨f_272, e_271⟩ := hm_266.arrI e_136
  have u_273 := ht_268 _ _ u_137
  obtain ⟨f_275, e_274⟩ := hm_266.arrI e_142
  have u_276 := ht_268 _ _ u_143
  have hsm := hsm.tr (hm_266.mono (by decide))
  have hlp_93 := hlp_93.tr (hm_266.mono (by decide))
  have htx := htx.tr ht_268
  rcases w_263 with rfl | rfl
  · refine lv_if_eq (tgt := 101) hx hb dX4_readEither_27 (by decide) (fun c_277 => ?_) (fun c_277 => absurd (by decide) c_277)
    refine lv_iload_n hx hb dX4_readEither_101 rfl (lv_at hl 2 rfl) ?_
    refine lv_if_eq (tgt := 111) hx hb dX4_readEither_102 (by decide) (fun c_278 => ?_) (fun c_278 => ?_)
    · refine lv_iload_n hx hb dX4_readEither_111 rfl (lv_at hl 1 rfl) ?_
      exact W.zret (v := x_86) hx hb hr (by rcases hbx_89 with h9 | h9 <;> rw [h9] <;> rfl) (fun t ht hW => ⟨⟨x_86, (), rfl, hbx_89, ws_264, ty_265, hsm, htx, by rw [ht]; exact hP, va_K.moved hW.alike hK, hD, (⟨ts_117, te_118, cc_119, ra_120, rb_121, rc_122, rv_123, re_124, ya_125, by omega, by omega, by omega, by omega, e_269, e_270, ⟨k_132, c9_133, t_134, f_272, e_271, u_273⟩, ⟨k_138, c9_139, t_140, f_275, e_274, u_276⟩⟩ : RS ws_264 ty_265 rd krd tp ktp cd bb tl)⟩, hS.F ht⟩) hS.2.2 dX4_readEither_112
    refine lv_aload_n hx hb dX4_readEither_105 rfl (lv_at hl 4 rfl) ?_
    refine lv_bipush (v := (-3)) hx hb dX4_readEither_106 (by decide) ?_
    have hFc := free_all hD hS hA
    refine va_callv (va_runV (As := [.int (-3)]) (rest := []) ⟨hx, hb, hml, hown, hts⟩ (r_addCode l D ws_264 ty_265 adK adV fo rd krd tp ktp cd bb tl (-3) H.size (⟨ts_117, te_118, cc_119, ra_120, rb_121, rc_122, rv_123, re_124, ya_125, by omega, by omega, by omega, by omega, e_269, e_270, ⟨k_132, c9_133, t_134, f_272, e_271, u_273⟩, ⟨k_138, c9_139, t_140, f_275, e_274, u_276⟩⟩ : RS ws_264 ty_265 rd krd tp ktp cd bb tl)) (cwV 1 hts gX4_readEither_X4_addCode rfl rfl rfl (by decide +kernel) ⟨Nat.le_of_ble_eq_true rfl, Nat.le_of_ble_eq_true rfl⟩) ⟨fun a U g mk q => by obtain ⟨q0, q1, qP, qK, qD, qS⟩ := q; exact ⟨q0, q1, qP, va_K.moved (u := U) (U := U.calling g mk a) (Vm.Alike.refl U.vm) qK, qD, SZ.same rfl rfl qS⟩, va_recv hK hP (ci := 4) (q0 := krd) rfl e_269, fun U hU hW => ⟨rfl, by rw [hU], by rw [hU]; exact hP, va_K.moved hW.alike hK, hD.weaken (fun _ _ _ _ => trivial), hsz9.go hS hW hU hFc⟩⟩ rfl rfl hl.1 rfl (lv_room (Nat.le_of_ble_eq_true rfl)) dX4_readEither_108 ⟨Nat.le_of_ble_eq_true rfl, Nat.le_of_ble_eq_true rfl⟩) hS (fun q _ h => hFc q h) hFc (fun u t H1 locs ht hvm w_280 hB hz1 hk1 hS => ?_)
    obtain ⟨ws_281, ty_282, hm_283, ht_285, hP1, hK1, hD1, hx_284⟩ := hB
    rw [ht] at hP1
    have hK := va_K.moved hvm.symm hK1
    have hD := hD1.weaken (fun _ _ _ h => hFc _ h)
    generalize H1 = H at hP1 hS ⊢
    have hP := hP1
    obtain ⟨g_287, e_286, h_288⟩ := hm_283.obj e_269
    obtain ⟨z_289, z_290, z_291, z_292, z_293, z_294, rfl⟩ := smX4 h_288
    obtain ⟨g_296, e_295, h_297⟩ := hm_283.obj e_270
    obtain ⟨z_298, z_299, z_300, z_301, rfl⟩ := smX6 h_297
    obtain ⟨f_303, e_302⟩ := hm_283.arrI e_271
    have u_304 := ht_285 _ _ u_273
    obtain ⟨f_306, e_305⟩ := hm_283.arrI e_274
    have u_307 := ht_285 _ _ u_276
    have hsm := hsm.tr (hm_283.mono (by decide))
    have hlp_93 := hlp_93.tr (hm_283.mono (by decide))
    have htx := htx.tr ht_285
    obtain ⟨ts_308, te_309, cc_310, ra_311, rb_312, rc_313, rv_314, re_315, ya_316, h1_317, h2_318, h3_319, h4_320, er_321, et_322, ⟨k_323, c9_324, t_325, f_326, e_327, u_328⟩, ⟨k_329, c9_330, t_331, f_332, e_333, u_334⟩⟩ := id hx_284
    refine lv_iload_n hx hb dX4_readEither_111 rfl (lv_at hl 1 rfl) ?_
    exact W.zret (v := x_86) hx hb hr (by rcases hbx_89 with h9 | h9 <;> rw [h9] <;> rfl) (fun t ht hW => ⟨⟨x_86, (), rfl, hbx_89, ws_281, ty_282, hsm, htx, by rw [ht]; exact hP, va_K.moved hW.alike hK, hD, (⟨ts_308, te_309, cc_310, ra_311, rb_312, rc_313, rv_314, re_315, ya_316, by omega, by omega, by omega, by omega, er_321, et_322, ⟨k_323, c9_324, t_325, f_326, e_327, u_328⟩, ⟨k_329, c9_330, t_331, f_332, e_333, u_334⟩⟩ : RS ws_281 ty_282 rd krd tp ktp cd bb tl)⟩, hS.F ht⟩) hS.2.2 dX4_readEither_112
  refine lv_if_eq (tgt := 101) hx hb dX4_readEither_27 (by decide) (fun c_335 => absurd c_335 (by decide)) (fun c_335 => ?_)
  refine lv_aload_n hx hb dX4_readEither_30 rfl (lv_at hl 4 rfl) ?_
  refine va_get (D := D) (ci := 4) (v := .ref tp) (C := RX4) (T := TX4) (N := 8) hx hb hts hin4 hown hK hP krd e_269 rfl 0 (by decide) (hts (.fieldLink RX4 12 "HoneyHouse$RuleReader" "tape" "LHoneyHouse$Tape;") (List.mem_of_getElem? (i := 1) rfl)) (fun _ h9 => h9) rfl dX4_readEither_31 ?_
  refine va_ldcS hx hb hown hsz9.2.2.2.2.2.1 dX4_readEither_34 ?_
  have hFc := free_all hD hS hA
  refine va_calli (va_runV (As := [.ref (adK 2)]) (rest := []) ⟨hx, hb, hml, hown, hts⟩ (a_isWord l D ws_264 ty_265 adK adV fo 2 tp ktp tl ya_125 (nI ts_117) (nI te_118) bb k_138 c9_139 t_140 f_275 H.size (by decide) e_270 e_274 u_276) (cwV 1 hts gX4_readEither_X6_isWord rfl rfl rfl (by decide +kernel) ⟨Nat.le_of_ble_eq_true rfl, Nat.le_of_ble_eq_true rfl⟩) ⟨fun a U g mk q => by obtain ⟨q0, q1, qP, qK, qD, qS⟩ := q; exact ⟨q0, q1, qP, va_K.moved (u := U) (U := U.calling g mk a) (Vm.Alike.refl U.vm) qK, qD, SZ.same rfl rfl qS⟩, va_recv hK hP (ci := 6) (q0 := ktp) rfl e_270, fun U hU hW => ⟨rfl, by rw [hU], by rw [hU]; exact hP, va_K.moved hW.alike hK, hD.weaken (fun _ _ _ _ => trivial), hsz9.go hS hW hU hFc⟩⟩ rfl rfl hl.1 rfl (lv_room (Nat.le_of_ble_eq_true rfl)) dX4_readEither_36 ⟨Nat.le_of_ble_eq_true rfl, Nat.le_of_ble_eq_true rfl⟩) hS (fun q _ h => hFc q h) hFc (fun r_336 u t H1 locs ht hvm w_337 hB hz1 hk1 hS => ?_)
  obtain ⟨ws_338, ty_339, hm_340, ht_342, hP1, hK1, hD1, hx_341⟩ := hB
  rw [ht] at hP1
  have hK := va_K.moved hvm.symm hK1
  have hD := hD1.weaken (fun _ _ _ h => hFc _ h)
  generalize H1 = H at hP1 hS ⊢
  have hP := hP1
  have e_343 := hm_340.objK e_269 (by decide)
  have e_344 := hm_340.objK e_270 (by decide)
  obtain ⟨f_346, e_345⟩ := hm_340.arrI e_271
  have u_347 := ht_342 _ _ u_273
  obtain ⟨f_349, e_348⟩ := hm_340.arrI e_274
  have u_350 := ht_342 _ _ u_276
  have hsm := hsm.tr (hm_340.mono (by decide))
  have hlp_93 := hlp_93.tr (hm_340.mono (by decide))
  have htx := htx.tr ht_342
  rcases w_337 with rfl | rfl
  · refine lv_istore (lv' := [(5, .int 0), (4, .int (nI i_85)), (2, .int x_86), (3, .int y_87), (1, .int 4), (0, .ref rd)]) hx hb dX4_readEither_39 hl (by decide) rfl (fun ls hl => ?_)
    refine lv_iload hx hb dX4_readEither_41 (lv_at hl 0 rfl) ?_
    refine lv_if_ne (tgt := 56) hx hb dX4_readEither_43 (by decide) (fun c_351 => absurd (by decide) c_351) (fun c_351 => ?_)
    refine lv_iload_n hx hb dX4_readEither_46 rfl (lv_at hl 3 rfl) ?_
    refine lv_if_eq (tgt := 56) hx hb dX4_readEither_47 (by decide) (fun c_352 => ?_) (fun c_352 => ?_)
    · refine lv_iload_n hx hb dX4_readEither_56 rfl (lv_at hl 3 rfl) ?_
      refine lv_if_ne (tgt := 65) hx hb dX4_readEither_57 (by decide) (fun c_353 => ?_) (fun c_353 => ?_)
      · refine lv_iconst (v := 1) hx hb dX4_readEither_65 (by decide) ?_
        refine lv_goto (tgt := 70) hx hb dX4_readEither_66 (by decide) ?_
        refine lv_istore_n (lv' := [(3, .int 1), (5, .int 0), (4, .int (nI i_85)), (2, .int x_86), (1, .int 4), (0, .ref rd)]) hx hb dX4_readEither_70 rfl hl (by decide) rfl (fun ls hl => ?_)
        refine lv_aload_n hx hb dX4_readEither_71 rfl (lv_at hl 5 rfl) ?_
        refine va_get (D := D) (ci := 4) (v := .ref tp) (C := RX4) (T := TX4) (N := 8) hx hb hts hin4 hown hK hP krd e_343 rfl 0 (by decide) (hts (.fieldLink RX4 12 "HoneyHouse$RuleReader" "tape" "LHoneyHouse$Tape;") (List.mem_of_getElem? (i := 1) rfl)) (fun _ h9 => h9) rfl dX4_readEither_72 ?_
        have hFc := free_all hD hS hA
        refine va_callv (va_runV (As := []) (rest := []) ⟨hx, hb, hml, hown, hts⟩ (a_advance l D ws_338 ty_339 tp ktp tl te_118 ya_125 (nI ts_117) bb k_138 c9_139 t_140 f_349 H.size (by omega) (by omega) e_344 e_348 u_350) (cwV 0 hts gX4_readEither_X6_advance rfl rfl rfl (by decide +kernel) ⟨Nat.le_of_ble_eq_true rfl, Nat.le_of_ble_eq_true rfl⟩) ⟨fun a U g mk q => by obtain ⟨q0, q1, qP, qK, qD⟩ := q; exact ⟨q0, q1, qP, va_K.moved (u := U) (U := U.calling g mk a) (Vm.Alike.refl U.vm) qK, qD⟩, va_recv hK hP (ci := 6) (q0 := ktp) rfl e_344, fun U hU hW => ⟨rfl, by rw [hU], by rw [hU]; exact hP, va_K.moved hW.alike hK, hD.weaken (fun _ _ _ _ => trivial)⟩⟩ rfl rfl hl.1 rfl (lv_room (Nat.le_of_ble_eq_true rfl)) dX4_readEither_75 ⟨Nat.le_of_ble_eq_true rfl, Nat.le_of_ble_eq_true rfl⟩) hS (fun q _ h => hFc q h) hFc (fun u t H1 locs ht hvm w_355 hB hz1 hk1 hS => ?_)
        obtain ⟨ws_356, ty_357, hm_358, ht_360, hP1, hK1, hD1, hx_359⟩ := hB
        rw [ht] at hP1
        have hK := va_K.moved hvm.symm hK1
        have hD := hD1.weaken (fun _ _ _ h => hFc _ h)
        generalize H1 = H at hP1 hS ⊢
        have hP := hP1
        have e_361 := hm_358.objK e_343 (by decide)
        obtain ⟨g_363, e_362, h_364⟩ := hm_358.obj e_344
        obtain ⟨z_365, z_366, z_367, z_368, rfl⟩ := smX6 h_364
        obtain ⟨f_370, e_369⟩ := hm_358.arrI e_345
        have u_371 := ht_360 _ _ u_347
        obtain ⟨f_373, e_372⟩ := hm_358.arrI e_348
        have u_374 := ht_360 _ _ u_350
        have hsm := hsm.tr (hm_358.mono (by decide))
        have hlp_93 := hlp_93.tr (hm_358.mono (by decide))
        have htx := htx.tr ht_360
        obtain ⟨k_375, s_376, e_377, h_378, h_379, h_380, e_381⟩ := hx_359
        refine lv_aload_n hx hb dX4_readEither_78 rfl (lv_at hl 5 rfl) ?_
        refine lv_iload_n hx hb dX4_readEither_79 rfl (lv_at hl 4 rfl) ?_
        have hFc := free_all hD hS hA
        refine va_calli (va_runV (As := [.int 4]) (rest := []) ⟨hx, hb, hml, hown, hts⟩ (r_readOne4 l D ws_356 ty_357 adK adV fo rd krd tp ktp cd bb tl  H.size (⟨s_376, e_377, cc_119, ra_120, rb_121, rc_122, rv_123, re_124, nI k_375, by omega, by omega, by omega, by omega, e_361, e_381, ⟨k_132, c9_133, t_134, f_370, e_369, u_371⟩, ⟨k_138, c9_139, t_140, f_373, e_372, u_374⟩⟩ : RS ws_356 ty_357 rd krd tp ktp cd bb tl)) (cwV 1 hts gX4_readEither_X4_readOne rfl rfl rfl (by decide +kernel) ⟨Nat.le_of_ble_eq_true rfl, Nat.le_of_ble_eq_true rfl⟩) ⟨fun a U g mk q => by obtain ⟨q0, q1, qP, qK, qD, qS⟩ := q; exact ⟨q0, q1, qP, va_K.moved (u := U) (U := U.calling g mk a) (Vm.Alike.refl U.vm) qK, qD, SZ.same rfl rfl qS⟩, va_recv hK hP (ci := 4) (q0 := krd) rfl e_361, fun U hU hW => ⟨rfl, by rw [hU], by rw [hU]; exact hP, va_K.moved hW.alike hK, hD.weaken (fun _ _ _ _ => trivial), hsz9.go hS hW hU hFc⟩⟩ rfl rfl hl.1 rfl (lv_room (Nat.le_of_ble_eq_true rfl)) dX4_readEither_80 ⟨Nat.le_of_ble_eq_true rfl, Nat.le_of_ble_eq_true rfl⟩) hS (fun q _ h => hFc q h) hFc (fun r_382 u t H1 locs ht hvm w_383 hB hz1 hk1 hS => ?_)
        obtain ⟨ws_384, ty_385, hm_386, ht_388, hP1, hK1, hD1, hx_387⟩ := hB
        rw [ht] at hP1
        have hK := va_K.moved hvm.symm hK1
        have hD := hD1.weaken (fun _ _ _ h => hFc _ h)
        generalize H1 = H at hP1 hS ⊢
        have hP := hP1
        obtain ⟨g_390, e_389, h_391⟩ := hm_386.obj e_361
        obtain ⟨z_392, z_393, z_394, z_395, z_396, z_397, rfl⟩ := smX4 h_391
        obtain ⟨g_399, e_398, h_400⟩ := hm_386.obj e_381
        obtain ⟨z_401, z_402, z_403, z_404, rfl⟩ := smX6 h_400
        obtain ⟨f_406, e_405⟩ := hm_386.arrI e_369
        have u_407 := ht_388 _ _ u_371
        obtain ⟨f_409, e_408⟩ := hm_386.arrI e_372
        have u_410 := ht_388 _ _ u_374
        have hsm := hsm.tr (hm_386.mono (by decide))
        have hlp_93 := hlp_93.tr (hm_386.mono (by decide))
        have htx := htx.tr ht_388
        obtain ⟨ts_411, te_412, cc_413, ra_414, rb_415, rc_416, rv_417, re_418, ya_419, h1_420, h2_421, h3_422, h4_423, er_424, et_425, ⟨k_426, c9_427, t_428, f_429, e_430, u_431⟩, ⟨k_432, c9_433, t_434, f_435, e_436, u_437⟩⟩ := id hx_387
        refine lv_istore_n (lv' := [(2, .int r_382), (3, .int 1), (5, .int 0), (4, .int (nI i_85)), (1, .int 4), (0, .ref rd)]) hx hb dX4_readEither_83 rfl hl (by decide) rfl (fun ls hl => ?_)
        refine lv_iload hx hb dX4_readEither_84 (lv_at hl 2 rfl) ?_
        refine lv_if_eq (tgt := 95) hx hb dX4_readEither_86 (by decide) (fun c_438 => ?_) (fun c_438 => absurd (by decide) c_438)
        refine lv_iinc (v := nI (i_85 + 1)) (lv' := [(4, .int (nI (i_85 + 1))), (2, .int r_382), (3, .int 1), (5, .int 0), (1, .int 4), (0, .ref rd)]) hx hb dX4_readEither_95 hl (k := 3) rfl (nI_add i_85 1) (by decide) rfl (fun ls hl => ?_)
        refine lv_goto (tgt := 11) hx hb dX4_readEither_98 (by decide) ?_
        exact ih_84 (i_85 + 1, r_382, 1) ws_384 _ _ ls (by show 400 - (i_85 + 1) < 400 - i_85; omega) ⟨hlp_93, ⟨ty_385, hK, htx, (⟨ts_411, te_412, cc_413, ra_414, rb_415, rc_416, rv_417, re_418, ya_419, by omega, by omega, by omega, by omega, er_424, et_425, ⟨k_426, c9_427, t_428, f_429, e_430, u_431⟩, ⟨k_432, c9_433, t_434, f_435, e_436, u_437⟩⟩ : RS ws_384 ty_385 rd krd tp ktp cd bb tl)⟩, (show (i_85 + 1) ≤ 400 from by omega), (show r_382 = 0 ∨ r_382 = 1 from w_383), (show 1 = 0 ∨ 1 = 1 from Or.inr rfl)⟩ hP hD hS (lv_sub hl [0, 1, 2, 4, 5] rfl)
      refine lv_iload hx hb dX4_readEither_60 (lv_at hl 0 rfl) ?_
      refine lv_if_ne (tgt := 69) hx hb dX4_readEither_62 (by decide) (fun c_439 => absurd (by decide) c_439) (fun c_439 => ?_)
      refine lv_iconst (v := 1) hx hb dX4_readEither_65 (by decide) ?_
      refine lv_goto (tgt := 70) hx hb dX4_readEither_66 (by decide) ?_
      refine lv_istore_n (lv' := [(3, .int 1), (5, .int 0), (4, .int (nI i_85)), (2, .int x_86), (1, .int 4), (0, .ref rd)]) hx hb dX4_readEither_70 rfl hl (by decide) rfl (fun ls hl => ?_)
      refine lv_aload_n hx hb dX4_readEither_71 rfl (lv_at hl 5 rfl) ?_
      refine va_get (D := D) (ci := 4) (v := .ref tp) (C := RX4) (T := TX4) (N := 8) hx hb hts hin4 hown hK hP krd e_343 rfl 0 (by decide) (hts (.fieldLink RX4 12 "HoneyHouse$RuleReader" "tape" "LHoneyHouse$Tape;") (List.mem_of_getElem? (i := 1) rfl)) (fun _ h9 => h9) rfl dX4_readEither_72 ?_
      have hFc := free_all hD hS hA
      refine va_callv (va_runV (As := []) (rest := []) ⟨hx, hb, hml, hown, hts⟩ (a_advance l D ws_338 ty_339 tp ktp tl te_118 ya_125 (nI ts_117) bb k_138 c9_139 t_140 f_349 H.size (by omega) (by omega) e_344 e_348 u_350) (cwV 0 hts gX4_readEither_X6_advance rfl rfl rfl (by decide +kernel) ⟨Nat.le_of_ble_eq_true rfl, Nat.le_of_ble_eq_true rfl⟩) ⟨fun a U g mk q => by obtain ⟨q0, q1, qP, qK, qD⟩ := q; exact ⟨q0, q1, qP, va_K.moved (u := U) (U := U.calling g mk a) (Vm.Alike.refl U.vm) qK, qD⟩, va_recv hK hP (ci := 6) (q0 := ktp) rfl e_344, fun U hU hW => ⟨rfl, by rw [hU], by rw [hU]; exact hP, va_K.moved hW.alike hK, hD.weaken (fun _ _ _ _ => trivial)⟩⟩ rfl rfl hl.1 rfl (lv_room (Nat.le_of_ble_eq_true rfl)) dX4_readEither_75 ⟨Nat.le_of_ble_eq_true rfl, Nat.le_of_ble_eq_true rfl⟩) hS (fun q _ h => hFc q h) hFc (fun u t H1 locs ht hvm w_441 hB hz1 hk1 hS => ?_)
      obtain ⟨ws_442, ty_443, hm_444, ht_446, hP1, hK1, hD1, hx_445⟩ := hB
      rw [ht] at hP1
      have hK := va_K.moved hvm.symm hK1
      have hD := hD1.weaken (fun _ _ _ h => hFc _ h)
      generalize H1 = H at hP1 hS ⊢
      have hP := hP1
      have e_447 := hm_444.objK e_343 (by decide)
      obtain ⟨g_449, e_448, h_450⟩ := hm_444.obj e_344
      obtain ⟨z_451, z_452, z_453, z_454, rfl⟩ := smX6 h_450
      obtain ⟨f_456, e_455⟩ := hm_444.arrI e_345
      have u_457 := ht_446 _ _ u_347
      obtain ⟨f_459, e_458⟩ := hm_444.arrI e_348
      have u_460 := ht_446 _ _ u_350
      have hsm := hsm.tr (hm_444.mono (by decide))
      have hlp_93 := hlp_93.tr (hm_444.mono (by decide))
      have htx := htx.tr ht_446
      obtain ⟨k_461, s_462, e_463, h_464, h_465, h_466, e_467⟩ := hx_445
      refine lv_aload_n hx hb dX4_readEither_78 rfl (lv_at hl 5 rfl) ?_
      refine lv_iload_n hx hb dX4_readEither_79 rfl (lv_at hl 4 rfl) ?_
      have hFc := free_all hD hS hA
      refine va_calli (va_runV (As := [.int 4]) (rest := []) ⟨hx, hb, hml, hown, hts⟩ (r_readOne4 l D ws_442 ty_443 adK adV fo rd krd tp ktp cd bb tl  H.size (⟨s_462, e_463, cc_119, ra_120, rb_121, rc_122, rv_123, re_124, nI k_461, by omega, by omega, by omega, by omega, e_447, e_467, ⟨k_132, c9_133, t_134, f_456, e_455, u_457⟩, ⟨k_138, c9_139, t_140, f_459, e_458, u_460⟩⟩ : RS ws_442 ty_443 rd krd tp ktp cd bb tl)) (cwV 1 hts gX4_readEither_X4_readOne rfl rfl rfl (by decide +kernel) ⟨Nat.le_of_ble_eq_true rfl, Nat.le_of_ble_eq_true rfl⟩) ⟨fun a U g mk q => by obtain ⟨q0, q1, qP, qK, qD, qS⟩ := q; exact ⟨q0, q1, qP, va_K.moved (u := U) (U := U.calling g mk a) (Vm.Alike.refl U.vm) qK, qD, SZ.same rfl rfl qS⟩, va_recv hK hP (ci := 4) (q0 := krd) rfl e_447, fun U hU hW => ⟨rfl, by rw [hU], by rw [hU]; exact hP, va_K.moved hW.alike hK, hD.weaken (fun _ _ _ _ => trivial), hsz9.go hS hW hU hFc⟩⟩ rfl rfl hl.1 rfl (lv_room (Nat.le_of_ble_eq_true rfl)) dX4_readEither_80 ⟨Nat.le_of_ble_eq_true rfl, Nat.le_of_ble_eq_true rfl⟩) hS (fun q _ h => hFc q h) hFc (fun r_468 u t H1 locs ht hvm w_469 hB hz1 hk1 hS => ?_)
      obtain ⟨ws_470, ty_471, hm_472, ht_474, hP1, hK1, hD1, hx_473⟩ := hB
      rw [ht] at hP1
      have hK := va_K.moved hvm.symm hK1
      have hD := hD1.weaken (fun _ _ _ h => hFc _ h)
      generalize H1 = H at hP1 hS ⊢
      have hP := hP1
      obtain ⟨g_476, e_475, h_477⟩ := hm_472.obj e_447
      obtain ⟨z_478, z_479, z_480, z_481, z_482, z_483, rfl⟩ := smX4 h_477
      obtain ⟨g_485, e_484, h_486⟩ := hm_472.obj e_467
      obtain ⟨z_487, z_488, z_489, z_490, rfl⟩ := smX6 h_486
      obtain ⟨f_492, e_491⟩ := hm_472.arrI e_455
      have u_493 := ht_474 _ _ u_457
      obtain ⟨f_495, e_494⟩ := hm_472.arrI e_458
      have u_496 := ht_474 _ _ u_460
      have hsm := hsm.tr (hm_472.mono (by decide))
      have hlp_93 := hlp_93.tr (hm_472.mono (by decide))
      have htx := htx.tr ht_474
      obtain ⟨ts_497, te_498, cc_499, ra_500, rb_501, rc_502, rv_503, re_504, ya_505, h1_506, h2_507, h3_508, h4_509, er_510, et_511, ⟨k_512, c9_513, t_514, f_515, e_516, u_517⟩, ⟨k_518, c9_519, t_520, f_521, e_522, u_523⟩⟩ := id hx_473
      refine lv_istore_n (lv' := [(2, .int r_468), (3, .int 1), (5, .int 0), (4, .int (nI i_85)), (1, .int 4), (0, .ref rd)]) hx hb dX4_readEither_83 rfl hl (by decide) rfl (fun ls hl => ?_)
      refine lv_iload hx hb dX4_readEither_84 (lv_at hl 2 rfl) ?_
      refine lv_if_eq (tgt := 95) hx hb dX4_readEither_86 (by decide) (fun c_524 => ?_) (fun c_524 => absurd (by decide) c_524)
      refine lv_iinc (v := nI (i_85 + 1)) (lv' := [(4, .int (nI (i_85 + 1))), (2, .int r_468), (3, .int 1), (5, .int 0), (1, .int 4), (0, .ref rd)]) hx hb dX4_readEither_95 hl (k := 3) rfl (nI_add i_85 1) (by decide) rfl (fun ls hl => ?_)
      refine lv_goto (tgt := 11) hx hb dX4_readEither_98 (by decide) ?_
      exact ih_84 (i_85 + 1, r_468, 1) ws_470 _ _ ls (by show 400 - (i_85 + 1) < 400 - i_85; omega) ⟨hlp_93, ⟨ty_471, hK, htx, (⟨ts_497, te_498, cc_499, ra_500, rb_501, rc_502, rv_503, re_504, ya_505, by omega, by omega, by omega, by omega, er_510, et_511, ⟨k_512, c9_513, t_514, f_515, e_516, u_517⟩, ⟨k_518, c9_519, t_520, f_521, e_522, u_523⟩⟩ : RS ws_470 ty_471 rd krd tp ktp cd bb tl)⟩, (show (i_85 + 1) ≤ 400 from by omega), (show r_468 = 0 ∨ r_468 = 1 from w_469), (show 1 = 0 ∨ 1 = 1 from Or.inr rfl)⟩ hP hD hS (lv_sub hl [0, 1, 2, 4, 5] rfl)
    refine lv_aload_n hx hb dX4_readEither_50 rfl (lv_at hl 5 rfl) ?_
    refine lv_bipush (v := (-3)) hx hb dX4_readEither_51 (by decide) ?_
    have hFc := free_all hD hS hA
    refine va_callv (va_runV (As := [.int (-3)]) (rest := []) ⟨hx, hb, hml, hown, hts⟩ (r_addCode l D ws_338 ty_339 adK adV fo rd krd tp ktp cd bb tl (-3) H.size (⟨ts_117, te_118, cc_119, ra_120, rb_121, rc_122, rv_123, re_124, ya_125, by omega, by omega, by omega, by omega, e_343, e_344, ⟨k_132, c9_133, t_134, f_346, e_345, u_347⟩, ⟨k_138, c9_139, t_140, f_349, e_348, u_350⟩⟩ : RS ws_338 ty_339 rd krd tp ktp cd bb tl)) (cwV 1 hts gX4_readEither_X4_addCode rfl rfl rfl (by decide +kernel) ⟨Nat.le_of_ble_eq_true rfl, Nat.le_of_ble_eq_true rfl⟩) ⟨fun a U g mk q => by obtain ⟨q0, q1, qP, qK, qD, qS⟩ := q; exact ⟨q0, q1, qP, va_K.moved (u := U) (U := U.calling g mk a) (Vm.Alike.refl U.vm) qK, qD, SZ.same rfl rfl qS⟩, va_recv hK hP (ci := 4) (q0 := krd) rfl e_343, fun U hU hW => ⟨rfl, by rw [hU], by rw [hU]; exact hP, va_K.moved hW.alike hK, hD.weaken (fun _ _ _ _ => trivial), hsz9.go hS hW hU hFc⟩⟩ rfl rfl hl.1 rfl (lv_room (Nat.le_of_ble_eq_true rfl)) dX4_readEither_53 ⟨Nat.le_of_ble_eq_true rfl, Nat.le_of_ble_eq_true rfl⟩) hS (fun q _ h => hFc q h) hFc (fun u t H1 locs ht hvm w_526 hB hz1 hk1 hS => ?_)
    obtain ⟨ws_527, ty_528, hm_529, ht_531, hP1, hK1, hD1, hx_530⟩ := hB
    rw [ht] at hP1
    have hK := va_K.moved hvm.symm hK1
    have hD := hD1.weaken (fun _ _ _ h => hFc _ h)
    generalize H1 = H at hP1 hS ⊢
    have hP := hP1
    obtain ⟨g_533, e_532, h_534⟩ := hm_529.obj e_343
    obtain ⟨z_535, z_536, z_537, z_538, z_539, z_540, rfl⟩ := smX4 h_534
    obtain ⟨g_542, e_541, h_543⟩ := hm_529.obj e_344
    obtain ⟨z_544, z_545, z_546, z_547, rfl⟩ := smX6 h_543
    obtain ⟨f_549, e_548⟩ := hm_529.arrI e_345
    have u_550 := ht_531 _ _ u_347
    obtain ⟨f_552, e_551⟩ := hm_529.arrI e_348
    have u_553 := ht_531 _ _ u_350
    have hsm := hsm.tr (hm_529.mono (by decide))
    have hlp_93 := hlp_93.tr (hm_529.mono (by decide))
    have htx := htx.tr ht_531
    obtain ⟨ts_554, te_555, cc_556, ra_557, rb_558, rc_559, rv_560, re_561, ya_562, h1_563, h2_564, h3_565, h4_566, er_567, et_568, ⟨k_569, c9_570, t_571, f_572, e_573, u_574⟩, ⟨k_575, c9_576, t_577, f_578, e_579, u_580⟩⟩ := id hx_530
    refine lv_iload_n hx hb dX4_readEither_56 rfl (lv_at hl 3 rfl) ?_
    refine lv_if_ne (tgt := 65) hx hb dX4_readEither_57 (by decide) (fun c_581 => ?_) (fun c_581 => ?_)
    · refine lv_iconst (v := 1) hx hb dX4_readEither_65 (by decide) ?_
      refine lv_goto (tgt := 70) hx hb dX4_readEither_66 (by decide) ?_
      refine lv_istore_n (lv' := [(3, .int 1), (5, .int 0), (4, .int (nI i_85)), (2, .int x_86), (1, .int 4), (0, .ref rd)]) hx hb dX4_readEither_70 rfl hl (by decide) rfl (fun ls hl => ?_)
      refine lv_aload_n hx hb dX4_readEither_71 rfl (lv_at hl 5 rfl) ?_
      refine va_get (D := D) (ci := 4) (v := .ref tp) (C := RX4) (T := TX4) (N := 8) hx hb hts hin4 hown hK hP krd er_567 rfl 0 (by decide) (hts (.fieldLink RX4 12 "HoneyHouse$RuleReader" "tape" "LHoneyHouse$Tape;") (List.mem_of_getElem? (i := 1) rfl)) (fun _ h9 => h9) rfl dX4_readEither_72 ?_
      have hFc := free_all hD hS hA
      refine va_callv (va_runV (As := []) (rest := []) ⟨hx, hb, hml, hown, hts⟩ (a_advance l D ws_527 ty_528 tp ktp tl te_555 ya_562 (nI ts_554) bb k_575 c9_576 t_577 f_578 H.size (by omega) (by omega) et_568 e_579 u_580) (cwV 0 hts gX4_readEither_X6_advance rfl rfl rfl (by decide +kernel) ⟨Nat.le_of_ble_eq_true rfl, Nat.le_of_ble_eq_true rfl⟩) ⟨fun a U g mk q => by obtain ⟨q0, q1, qP, qK, qD⟩ := q; exact ⟨q0, q1, qP, va_K.moved (u := U) (U := U.calling g mk a) (Vm.Alike.refl U.vm) qK, qD⟩, va_recv hK hP (ci := 6) (q0 := ktp) rfl et_568, fun U hU hW => ⟨rfl, by rw [hU], by rw [hU]; exact hP, va_K.moved hW.alike hK, hD.weaken (fun _ _ _ _ => trivial)⟩⟩ rfl rfl hl.1 rfl (lv_room (Nat.le_of_ble_eq_true rfl)) dX4_readEither_75 ⟨Nat.le_of_ble_eq_true rfl, Nat.le_of_ble_eq_true rfl⟩) hS (fun q _ h => hFc q h) hFc (fun u t H1 locs ht hvm w_583 hB hz1 hk1 hS => ?_)
      obtain ⟨ws_584, ty_585, hm_586, ht_588, hP1, hK1, hD1, hx_587⟩ := hB
      rw [ht] at hP1
      have hK := va_K.moved hvm.symm hK1
      have hD := hD1.weaken (fun _ _ _ h => hFc _ h)
      generalize H1 = H at hP1 hS ⊢
      have hP := hP1
      have e_589 := hm_586.objK er_567 (by decide)
      obtain ⟨g_591, e_590, h_592⟩ := hm_586.obj et_568
      obtain ⟨z_593, z_594, z_595, z_596, rfl⟩ := smX6 h_592
      obtain ⟨f_598, e_597⟩ := hm_586.arrI e_573
      have u_599 := ht_588 _ _ u_574
      obtain ⟨f_601, e_600⟩ := hm_586.arrI e_579
      have u_602 := ht_588 _ _ u_580
      have hsm := hsm.tr (hm_586.mono (by decide))
      have hlp_93 := hlp_93.tr (hm_586.mono (by decide))
      have htx := htx.tr ht_588
      obtain ⟨k_603, s_604, e_605, h_606, h_607, h_608, e_609⟩ := hx_587
      refine lv_aload_n hx hb dX4_readEither_78 rfl (lv_at hl 5 rfl) ?_
      refine lv_iload_n hx hb dX4_readEither_79 rfl (lv_at hl 4 rfl) ?_
      have hFc := free_all hD hS hA
      refine va_calli (va_runV (As := [.int 4]) (rest := []) ⟨hx, hb, hml, hown, hts⟩ (r_readOne4 l D ws_584 ty_585 adK adV fo rd krd tp ktp cd bb tl  H.size (⟨s_604, e_605, cc_556, ra_557, rb_558, rc_559, rv_560, re_561, nI k_603, by omega, by omega, by omega, by omega, e_589, e_609, ⟨k_569, c9_570, t_571, f_598, e_597, u_599⟩, ⟨k_575, c9_576, t_577, f_601, e_600, u_602⟩⟩ : RS ws_584 ty_585 rd krd tp ktp cd bb tl)) (cwV 1 hts gX4_readEither_X4_readOne rfl rfl rfl (by decide +kernel) ⟨Nat.le_of_ble_eq_true rfl, Nat.le_of_ble_eq_true rfl⟩) ⟨fun a U g mk q => by obtain ⟨q0, q1, qP, qK, qD, qS⟩ := q; exact ⟨q0, q1, qP, va_K.moved (u := U) (U := U.calling g mk a) (Vm.Alike.refl U.vm) qK, qD, SZ.same rfl rfl qS⟩, va_recv hK hP (ci := 4) (q0 := krd) rfl e_589, fun U hU hW => ⟨rfl, by rw [hU], by rw [hU]; exact hP, va_K.moved hW.alike hK, hD.weaken (fun _ _ _ _ => trivial), hsz9.go hS hW hU hFc⟩⟩ rfl rfl hl.1 rfl (lv_room (Nat.le_of_ble_eq_true rfl)) dX4_readEither_80 ⟨Nat.le_of_ble_eq_true rfl, Nat.le_of_ble_eq_true rfl⟩) hS (fun q _ h => hFc q h) hFc (fun r_610 u t H1 locs ht hvm w_611 hB hz1 hk1 hS => ?_)
      obtain ⟨ws_612, ty_613, hm_614, ht_616, hP1, hK1, hD1, hx_615⟩ := hB
      rw [ht] at hP1
      have hK := va_K.moved hvm.symm hK1
      have hD := hD1.weaken (fun _ _ _ h => hFc _ h)
      generalize H1 = H at hP1 hS ⊢
      have hP := hP1
      obtain ⟨g_618, e_617, h_619⟩ := hm_614.obj e_589
      obtain ⟨z_620, z_621, z_622, z_623, z_624, z_625, rfl⟩ := smX4 h_619
      obtain ⟨g_627, e_626, h_628⟩ := hm_614.obj e_609
      obtain ⟨z_629, z_630, z_631, z_632, rfl⟩ := smX6 h_628
      obtain ⟨f_634, e_633⟩ := hm_614.arrI e_597
      have u_635 := ht_616 _ _ u_599
      obtain ⟨f_637, e_636⟩ := hm_614.arrI e_600
      have u_638 := ht_616 _ _ u_602
      have hsm := hsm.tr (hm_614.mono (by decide))
      have hlp_93 := hlp_93.tr (hm_614.mono (by decide))
      have htx := htx.tr ht_616
      obtain ⟨ts_639, te_640, cc_641, ra_642, rb_643, rc_644, rv_645, re_646, ya_647, h1_648, h2_649, h3_650, h4_651, er_652, et_653, ⟨k_654, c9_655, t_656, f_657, e_658, u_659⟩, ⟨k_660, c9_661, t_662, f_663, e_664, u_665⟩⟩ := id hx_615
      refine lv_istore_n (lv' := [(2, .int r_610), (3, .int 1), (5, .int 0), (4, .int (nI i_85)), (1, .int 4), (0, .ref rd)]) hx hb dX4_readEither_83 rfl hl (by decide) rfl (fun ls hl => ?_)
      refine lv_iload hx hb dX4_readEither_84 (lv_at hl 2 rfl) ?_
      refine lv_if_eq (tgt := 95) hx hb dX4_readEither_86 (by decide) (fun c_666 => ?_) (fun c_666 => absurd (by decide) c_666)
      refine lv_iinc (v := nI (i_85 + 1)) (lv' := [(4, .int (nI (i_85 + 1))), (2, .int r_610), (3, .int 1), (5, .int 0), (1, .int 4), (0, .ref rd)]) hx hb dX4_readEither_95 hl (k := 3) rfl (nI_add i_85 1) (by decide) rfl (fun ls hl => ?_)
      refine lv_goto (tgt := 11) hx hb dX4_readEither_98 (by decide) ?_
      exact ih_84 (i_85 + 1, r_610, 1) ws_612 _ _ ls (by show 400 - (i_85 + 1) < 400 - i_85; omega) ⟨hlp_93, ⟨ty_613, hK, htx, (⟨ts_639, te_640, cc_641, ra_642, rb_643, rc_644, rv_645, re_646, ya_647, by omega, by omega, by omega, by omega, er_652, et_653, ⟨k_654, c9_655, t_656, f_657, e_658, u_659⟩, ⟨k_660, c9_661, t_662, f_663, e_664, u_665⟩⟩ : RS ws_612 ty_613 rd krd tp ktp cd bb tl)⟩, (show (i_85 + 1) ≤ 400 from by omega), (show r_610 = 0 ∨ r_610 = 1 from w_611), (show 1 = 0 ∨ 1 = 1 from Or.inr rfl)⟩ hP hD hS (lv_sub hl [0, 1, 2, 4, 5] rfl)
    refine lv_iload hx hb dX4_readEither_60 (lv_at hl 0 rfl) ?_
    refine lv_if_ne (tgt := 69) hx hb dX4_readEither_62 (by decide) (fun c_667 => absurd (by decide) c_667) (fun c_667 => ?_)
    refine lv_iconst (v := 1) hx hb dX4_readEither_65 (by decide) ?_
    refine lv_goto (tgt := 70) hx hb dX4_readEither_66 (by decide) ?_
    refine lv_istore_n (lv' := [(3, .int 1), (5, .int 0), (4, .int (nI i_85)), (2, .int x_86), (1, .int 4), (0, .ref rd)]) hx hb dX4_readEither_70 rfl hl (by decide) rfl (fun ls hl => ?_)
    refine lv_aload_n hx hb dX4_readEither_71 rfl (lv_at hl 5 rfl) ?_
    refine va_get (D := D) (ci := 4) (v := .ref tp) (C := RX4) (T := TX4) (N := 8) hx hb hts hin4 hown hK hP krd er_567 rfl 0 (by decide) (hts (.fieldLink RX4 12 "HoneyHouse$RuleReader" "tape" "LHoneyHouse$Tape;") (List.mem_of_getElem? (i := 1) rfl)) (fun _ h9 => h9) rfl dX4_readEither_72 ?_
    have hFc := free_all hD hS hA
    refine va_callv (va_runV (As := []) (rest := []) ⟨hx, hb, hml, hown, hts⟩ (a_advance l D ws_527 ty_528 tp ktp tl te_555 ya_562 (nI ts_554) bb k_575 c9_576 t_577 f_578 H.size (by omega) (by omega) et_568 e_579 u_580) (cwV 0 hts gX4_readEither_X6_advance rfl rfl rfl (by decide +kernel) ⟨Nat.le_of_ble_eq_true rfl, Nat.le_of_ble_eq_true rfl⟩) ⟨fun a U g mk q => by obtain ⟨q0, q1, qP, qK, qD⟩ := q; exact ⟨q0, q1, qP, va_K.moved (u := U) (U := U.calling g mk a) (Vm.Alike.refl U.vm) qK, qD⟩, va_recv hK hP (ci := 6) (q0 := ktp) rfl et_568, fun U hU hW => ⟨rfl, by rw [hU], by rw [hU]; exact hP, va_K.moved hW.alike hK, hD.weaken (fun _ _ _ _ => trivial)⟩⟩ rfl rfl hl.1 rfl (lv_room (Nat.le_of_ble_eq_true rfl)) dX4_readEither_75 ⟨Nat.le_of_ble_eq_true rfl, Nat.le_of_ble_eq_true rfl⟩) hS (fun q _ h => hFc q h) hFc (fun u t H1 locs ht hvm w_669 hB hz1 hk1 hS => ?_)
    obtain ⟨ws_670, ty_671, hm_672, ht_674, hP1, hK1, hD1, hx_673⟩ := hB
    rw [ht] at hP1
    have hK := va_K.moved hvm.symm hK1
    have hD := hD1.weaken (fun _ _ _ h => hFc _ h)
    generalize H1 = H at hP1 hS ⊢
    have hP := hP1
    have e_675 := hm_672.objK er_567 (by decide)
    obtain ⟨g_677, e_676, h_678⟩ := hm_672.obj et_568
    obtain ⟨z_679, z_680, z_681, z_682, rfl⟩ := smX6 h_678
    obtain ⟨f_684, e_683⟩ := hm_672.arrI e_573
    have u_685 := ht_674 _ _ u_574
    obtain ⟨f_687, e_686⟩ := hm_672.arrI e_579
    have u_688 := ht_674 _ _ u_580
    have hsm := hsm.tr (hm_672.mono (by decide))
    have hlp_93 := hlp_93.tr (hm_672.mono (by decide))
    have htx := htx.tr ht_674
    obtain ⟨k_689, s_690, e_691, h_692, h_693, h_694, e_695⟩ := hx_673
    refine lv_aload_n hx hb dX4_readEither_78 rfl (lv_at hl 5 rfl) ?_
    refine lv_iload_n hx hb dX4_readEither_79 rfl (lv_at hl 4 rfl) ?_
    have hFc := free_all hD hS hA
    refine va_calli (va_runV (As := [.int 4]) (rest := []) ⟨hx, hb, hml, hown, hts⟩ (r_readOne4 l D ws_670 ty_671 adK adV fo rd krd tp ktp cd bb tl  H.size (⟨s_690, e_691, cc_556, ra_557, rb_558, rc_559, rv_560, re_561, nI k_689, by omega, by omega, by omega, by omega, e_675, e_695, ⟨k_569, c9_570, t_571, f_684, e_683, u_685⟩, ⟨k_575, c9_576, t_577, f_687, e_686, u_688⟩⟩ : RS ws_670 ty_671 rd krd tp ktp cd bb tl)) (cwV 1 hts gX4_readEither_X4_readOne rfl rfl rfl (by decide +kernel) ⟨Nat.le_of_ble_eq_true rfl, Nat.le_of_ble_eq_true rfl⟩) ⟨fun a U g mk q => by obtain ⟨q0, q1, qP, qK, qD, qS⟩ := q; exact ⟨q0, q1, qP, va_K.moved (u := U) (U := U.calling g mk a) (Vm.Alike.refl U.vm) qK, qD, SZ.same rfl rfl qS⟩, va_recv hK hP (ci := 4) (q0 := krd) rfl e_675, fun U hU hW => ⟨rfl, by rw [hU], by rw [hU]; exact hP, va_K.moved hW.alike hK, hD.weaken (fun _ _ _ _ => trivial), hsz9.go hS hW hU hFc⟩⟩ rfl rfl hl.1 rfl (lv_room (Nat.le_of_ble_eq_true rfl)) dX4_readEither_80 ⟨Nat.le_of_ble_eq_true rfl, Nat.le_of_ble_eq_true rfl⟩) hS (fun q _ h => hFc q h) hFc (fun r_696 u t H1 locs ht hvm w_697 hB hz1 hk1 hS => ?_)
    obtain ⟨ws_698, ty_699, hm_700, ht_702, hP1, hK1, hD1, hx_701⟩ := hB
    rw [ht] at hP1
    have hK := va_K.moved hvm.symm hK1
    have hD := hD1.weaken (fun _ _ _ h => hFc _ h)
    generalize H1 = H at hP1 hS ⊢
    have hP := hP1
    obtain ⟨g_704, e_703, h_705⟩ := hm_700.obj e_675
    obtain ⟨z_706, z_707, z_708, z_709, z_710, z_711, rfl⟩ := smX4 h_705
    obtain ⟨g_713, e_712, h_714⟩ := hm_700.obj e_695
    obtain ⟨z_715, z_716, z_717, z_718, rfl⟩ := smX6 h_714
    obtain ⟨f_720, e_719⟩ := hm_700.arrI e_683
    have u_721 := ht_702 _ _ u_685
    obtain ⟨f_723, e_722⟩ := hm_700.arrI e_686
    have u_724 := ht_702 _ _ u_688
    have hsm := hsm.tr (hm_700.mono (by decide))
    have hlp_93 := hlp_93.tr (hm_700.mono (by decide))
    have htx := htx.tr ht_702
    obtain ⟨ts_725, te_726, cc_727, ra_728, rb_729, rc_730, rv_731, re_732, ya_733, h1_734, h2_735, h3_736, h4_737, er_738, et_739, ⟨k_740, c9_741, t_742, f_743, e_744, u_745⟩, ⟨k_746, c9_747, t_748, f_749, e_750, u_751⟩⟩ := id hx_701
    refine lv_istore_n (lv' := [(2, .int r_696), (3, .int 1), (5, .int 0), (4, .int (nI i_85)), (1, .int 4), (0, .ref rd)]) hx hb dX4_readEither_83 rfl hl (by decide) rfl (fun ls hl => ?_)
    refine lv_iload hx hb dX4_readEither_84 (lv_at hl 2 rfl) ?_
    refine lv_if_eq (tgt := 95) hx hb dX4_readEither_86 (by decide) (fun c_752 => ?_) (fun c_752 => absurd (by decide) c_752)
    refine lv_iinc (v := nI (i_85 + 1)) (lv' := [(4, .int (nI (i_85 + 1))), (2, .int r_696), (3, .int 1), (5, .int 0), (1, .int 4), (0, .ref rd)]) hx hb dX4_readEither_95 hl (k := 3) rfl (nI_add i_85 1) (by decide) rfl (fun ls hl => ?_)
    refine lv_goto (tgt := 11) hx hb dX4_readEither_98 (by decide) ?_
    exact ih_84 (i_85 + 1, r_696, 1) ws_698 _ _ ls (by show 400 - (i_85 + 1) < 400 - i_85; omega) ⟨hlp_93, ⟨ty_699, hK, htx, (⟨ts_725, te_726, cc_727, ra_728, rb_729, rc_730, rv_731, re_732, ya_733, by omega, by omega, by omega, by omega, er_738, et_739, ⟨k_740, c9_741, t_742, f_743, e_744, u_745⟩, ⟨k_746, c9_747, t_748, f_749, e_750, u_751⟩⟩ : RS ws_698 ty_699 rd krd tp ktp cd bb tl)⟩, (show (i_85 + 1) ≤ 400 from by omega), (show r_696 = 0 ∨ r_696 = 1 from w_697), (show 1 = 0 ∨ 1 = 1 from Or.inr rfl)⟩ hP hD hS (lv_sub hl [0, 1, 2, 4, 5] rfl)
  refine lv_istore (lv' := [(5, .int 1), (4, .int (nI i_85)), (2, .int x_86), (3, .int y_87), (1, .int 4), (0, .ref rd)]) hx hb dX4_readEither_39 hl (by decide) rfl (fun ls hl => ?_)
  refine lv_iload hx hb dX4_readEither_41 (lv_at hl 0 rfl) ?_
  refine lv_if_ne (tgt := 56) hx hb dX4_readEither_43 (by decide) (fun c_753 => ?_) (fun c_753 => absurd c_753 (by decide))
  refine lv_iload_n hx hb dX4_readEither_56 rfl (lv_at hl 3 rfl) ?_
  refine lv_if_ne (tgt := 65) hx hb dX4_readEither_57 (by decide) (fun c_754 => ?_) (fun c_754 => ?_)
  · refine lv_iconst (v := 1) hx hb dX4_readEither_65 (by decide) ?_
    refine lv_goto (tgt := 70) hx hb dX4_readEither_66 (by decide) ?_
    refine lv_istore_n (lv' := [(3, .int 1), (5, .int 1), (4, .int (nI i_85)), (2, .int x_86), (1, .int 4), (0, .ref rd)]) hx hb dX4_readEither_70 rfl hl (by decide) rfl (fun ls hl => ?_)
    refine lv_aload_n hx hb dX4_readEither_71 rfl (lv_at hl 5 rfl) ?_
    refine va_get (D := D) (ci := 4) (v := .ref tp) (C := RX4) (T := TX4) (N := 8) hx hb hts hin4 hown hK hP krd e_343 rfl 0 (by decide) (hts (.fieldLink RX4 12 "HoneyHouse$RuleReader" "tape" "LHoneyHouse$Tape;") (List.mem_of_getElem? (i := 1) rfl)) (fun _ h9 => h9) rfl dX4_readEither_72 ?_
    have hFc := free_all hD hS hA
    refine va_callv (va_runV (As := []) (rest := []) ⟨hx, hb, hml, hown, hts⟩ (a_advance l D ws_338 ty_339 tp ktp tl te_118 ya_125 (nI ts_117) bb k_138 c9_139 t_140 f_349 H.size (by omega) (by omega) e_344 e_348 u_350) (cwV 0 hts gX4_readEither_X6_advance rfl rfl rfl (by decide +kernel) ⟨Nat.le_of_ble_eq_true rfl, Nat.le_of_ble_eq_true rfl⟩) ⟨fun a U g mk q => by obtain ⟨q0, q1, qP, qK, qD⟩ := q; exact ⟨q0, q1, qP, va_K.moved (u := U) (U := U.calling g mk a) (Vm.Alike.refl U.vm) qK, qD⟩, va_recv hK hP (ci := 6) (q0 := ktp) rfl e_344, fun U hU hW => ⟨rfl, by rw [hU], by rw [hU]; exact hP, va_K.moved hW.alike hK, hD.weaken (fun _ _ _ _ => trivial)⟩⟩ rfl rfl hl.1 rfl (lv_room (Nat.le_of_ble_eq_true rfl)) dX4_readEither_75 ⟨Nat.le_of_ble_eq_true rfl, Nat.le_of_ble_eq_true rfl⟩) hS (fun q _ h => hFc q h) hFc (fun u t H1 locs ht hvm w_756 hB hz1 hk1 hS => ?_)
    obtain ⟨ws_757, ty_758, hm_759, ht_761, hP1, hK1, hD1, hx_760⟩ := hB
    rw [ht] at hP1
    have hK := va_K.moved hvm.symm hK1
    have hD := hD1.weaken (fun _ _ _ h => hFc _ h)
    generalize H1 = H at hP1 hS ⊢
    have hP := hP1
    have e_762 := hm_759.objK e_343 (by decide)
    obtain ⟨g_764, e_763, h_765⟩ := hm_759.obj e_344
    obtain ⟨z_766, z_767, z_768, z_769, rfl⟩ := smX6 h_765
    obtain ⟨f_771, e_770⟩ := hm_759.arrI e_345
    have u_772 := ht_761 _ _ u_347
    obtain ⟨f_774, e_773⟩ := hm_759.arrI e_348
    have u_775 := ht_761 _ _ u_350
    have hsm := hsm.tr (hm_759.mono (by decide))
    have hlp_93 := hlp_93.tr (hm_759.mono (by decide))
    have htx := htx.tr ht_761
    obtain ⟨k_776, s_777, e_778, h_779, h_780, h_781, e_782⟩ := hx_760
    refine lv_aload_n hx hb dX4_readEither_78 rfl (lv_at hl 5 rfl) ?_
    refine lv_iload_n hx hb dX4_readEither_79 rfl (lv_at hl 4 rfl) ?_
    have hFc := free_all hD hS hA
    refine va_calli (va_runV (As := [.int 4]) (rest := []) ⟨hx, hb, hml, hown, hts⟩ (r_readOne4 l D ws_757 ty_758 adK adV fo rd krd tp ktp cd bb tl  H.size (⟨s_777, e_778, cc_119, ra_120, rb_121, rc_122, rv_123, re_124, nI k_776, by omega, by omega, by omega, by omega, e_762, e_782, ⟨k_132, c9_133, t_134, f_771, e_770, u_772⟩, ⟨k_138, c9_139, t_140, f_774, e_773, u_775⟩⟩ : RS ws_757 ty_758 rd krd tp ktp cd bb tl)) (cwV 1 hts gX4_readEither_X4_readOne rfl rfl rfl (by decide +kernel) ⟨Nat.le_of_ble_eq_true rfl, Nat.le_of_ble_eq_true rfl⟩) ⟨fun a U g mk q => by obtain ⟨q0, q1, qP, qK, qD, qS⟩ := q; exact ⟨q0, q1, qP, va_K.moved (u := U) (U := U.calling g mk a) (Vm.Alike.refl U.vm) qK, qD, SZ.same rfl rfl qS⟩, va_recv hK hP (ci := 4) (q0 := krd) rfl e_762, fun U hU hW => ⟨rfl, by rw [hU], by rw [hU]; exact hP, va_K.moved hW.alike hK, hD.weaken (fun _ _ _ _ => trivial), hsz9.go hS hW hU hFc⟩⟩ rfl rfl hl.1 rfl (lv_room (Nat.le_of_ble_eq_true rfl)) dX4_readEither_80 ⟨Nat.le_of_ble_eq_true rfl, Nat.le_of_ble_eq_true rfl⟩) hS (fun q _ h => hFc q h) hFc (fun r_783 u t H1 locs ht hvm w_784 hB hz1 hk1 hS => ?_)
    obtain ⟨ws_785, ty_786, hm_787, ht_789, hP1, hK1, hD1, hx_788⟩ := hB
    rw [ht] at hP1
    have hK := va_K.moved hvm.symm hK1
    have hD := hD1.weaken (fun _ _ _ h => hFc _ h)
    generalize H1 = H at hP1 hS ⊢
    have hP := hP1
    obtain ⟨g_791, e_790, h_792⟩ := hm_787.obj e_762
    obtain ⟨z_793, z_794, z_795, z_796, z_797, z_798, rfl⟩ := smX4 h_792
    obtain ⟨g_800, e_799, h_801⟩ := hm_787.obj e_782
    obtain ⟨z_802, z_803, z_804, z_805, rfl⟩ := smX6 h_801
    obtain ⟨f_807, e_806⟩ := hm_787.arrI e_770
    have u_808 := ht_789 _ _ u_772
    obtain ⟨f_810, e_809⟩ := hm_787.arrI e_773
    have u_811 := ht_789 _ _ u_775
    have hsm := hsm.tr (hm_787.mono (by decide))
    have hlp_93 := hlp_93.tr (hm_787.mono (by decide))
    have htx := htx.tr ht_789
    obtain ⟨ts_812, te_813, cc_814, ra_815, rb_816, rc_817, rv_818, re_819, ya_820, h1_821, h2_822, h3_823, h4_824, er_825, et_826, ⟨k_827, c9_828, t_829, f_830, e_831, u_832⟩, ⟨k_833, c9_834, t_835, f_836, e_837, u_838⟩⟩ := id hx_788
    refine lv_istore_n (lv' := [(2, .int r_783), (3, .int 1), (5, .int 1), (4, .int (nI i_85)), (1, .int 4), (0, .ref rd)]) hx hb dX4_readEither_83 rfl hl (by decide) rfl (fun ls hl => ?_)
    refine lv_iload hx hb dX4_readEither_84 (lv_at hl 2 rfl) ?_
    refine lv_if_eq (tgt := 95) hx hb dX4_readEither_86 (by decide) (fun c_839 => absurd c_839 (by decide)) (fun c_839 => ?_)
    refine lv_aload_n hx hb dX4_readEither_89 rfl (lv_at hl 5 rfl) ?_
    refine lv_bipush (v := (-2)) hx hb dX4_readEither_90 (by decide) ?_
    have hFc := free_all hD hS hA
    refine va_callv (va_runV (As := [.int (-2)]) (rest := []) ⟨hx, hb, hml, hown, hts⟩ (r_addCode l D ws_785 ty_786 adK adV fo rd krd tp ktp cd bb tl (-2) H.size (⟨ts_812, te_813, cc_814, ra_815, rb_816, rc_817, rv_818, re_819, ya_820, by omega, by omega, by omega, by omega, er_825, et_826, ⟨k_827, c9_828, t_829, f_830, e_831, u_832⟩, ⟨k_833, c9_834, t_835, f_836, e_837, u_838⟩⟩ : RS ws_785 ty_786 rd krd tp ktp cd bb tl)) (cwV 1 hts gX4_readEither_X4_addCode rfl rfl rfl (by decide +kernel) ⟨Nat.le_of_ble_eq_true rfl, Nat.le_of_ble_eq_true rfl⟩) ⟨fun a U g mk q => by obtain ⟨q0, q1, qP, qK, qD, qS⟩ := q; exact ⟨q0, q1, qP, va_K.moved (u := U) (U := U.calling g mk a) (Vm.Alike.refl U.vm) qK, qD, SZ.same rfl rfl qS⟩, va_recv hK hP (ci := 4) (q0 := krd) rfl er_825, fun U hU hW => ⟨rfl, by rw [hU], by rw [hU]; exact hP, va_K.moved hW.alike hK, hD.weaken (fun _ _ _ _ => trivial), hsz9.go hS hW hU hFc⟩⟩ rfl rfl hl.1 rfl (lv_room (Nat.le_of_ble_eq_true rfl)) dX4_readEither_92 ⟨Nat.le_of_ble_eq_true rfl, Nat.le_of_ble_eq_true rfl⟩) hS (fun q _ h => hFc q h) hFc (fun u t H1 locs ht hvm w_841 hB hz1 hk1 hS => ?_)
    obtain ⟨ws_842, ty_843, hm_844, ht_846, hP1, hK1, hD1, hx_845⟩ := hB
    rw [ht] at hP1
    have hK := va_K.moved hvm.symm hK1
    have hD := hD1.weaken (fun _ _ _ h => hFc _ h)
    generalize H1 = H at hP1 hS ⊢
    have hP := hP1
    obtain ⟨g_848, e_847, h_849⟩ := hm_844.obj er_825
    obtain ⟨z_850, z_851, z_852, z_853, z_854, z_855, rfl⟩ := smX4 h_849
    obtain ⟨g_857, e_856, h_858⟩ := hm_844.obj et_826
    obtain ⟨z_859, z_860, z_861, z_862, rfl⟩ := smX6 h_858
    obtain ⟨f_864, e_863⟩ := hm_844.arrI e_831
    have u_865 := ht_846 _ _ u_832
    obtain ⟨f_867, e_866⟩ := hm_844.arrI e_837
    have u_868 := ht_846 _ _ u_838
    have hsm := hsm.tr (hm_844.mono (by decide))
    have hlp_93 := hlp_93.tr (hm_844.mono (by decide))
    have htx := htx.tr ht_846
    obtain ⟨ts_869, te_870, cc_871, ra_872, rb_873, rc_874, rv_875, re_876, ya_877, h1_878, h2_879, h3_880, h4_881, er_882, et_883, ⟨k_884, c9_885, t_886, f_887, e_888, u_889⟩, ⟨k_890, c9_891, t_892, f_893, e_894, u_895⟩⟩ := id hx_845
    refine lv_iinc (v := nI (i_85 + 1)) (lv' := [(4, .int (nI (i_85 + 1))), (2, .int r_783), (3, .int 1), (5, .int 1), (1, .int 4), (0, .ref rd)]) hx hb dX4_readEither_95 hl (k := 3) rfl (nI_add i_85 1) (by decide) rfl (fun ls hl => ?_)
    refine lv_goto (tgt := 11) hx hb dX4_readEither_98 (by decide) ?_
    exact ih_84 (i_85 + 1, r_783, 1) ws_842 _ _ ls (by show 400 - (i_85 + 1) < 400 - i_85; omega) ⟨hlp_93, ⟨ty_843, hK, htx, (⟨ts_869, te_870, cc_871, ra_872, rb_873, rc_874, rv_875, re_876, ya_877, by omega, by omega, by omega, by omega, er_882, et_883, ⟨k_884, c9_885, t_886, f_887, e_888, u_889⟩, ⟨k_890, c9_891, t_892, f_893, e_894, u_895⟩⟩ : RS ws_842 ty_843 rd krd tp ktp cd bb tl)⟩, (show (i_85 + 1) ≤ 400 from by omega), (show r_783 = 0 ∨ r_783 = 1 from w_784), (show 1 = 0 ∨ 1 = 1 from Or.inr rfl)⟩ hP hD hS (lv_sub hl [0, 1, 2, 4, 5] rfl)
  refine lv_iload hx hb dX4_readEither_60 (lv_at hl 0 rfl) ?_
  refine lv_if_ne (tgt := 69) hx hb dX4_readEither_62 (by decide) (fun c_896 => ?_) (fun c_896 => absurd c_896 (by decide))
  refine lv_iconst (v := 0) hx hb dX4_readEither_69 (by decide) ?_
  refine lv_istore_n (lv' := [(3, .int 0), (5, .int 1), (4, .int (nI i_85)), (2, .int x_86), (1, .int 4), (0, .ref rd)]) hx hb dX4_readEither_70 rfl hl (by decide) rfl (fun ls hl => ?_)
  refine lv_aload_n hx hb dX4_readEither_71 rfl (lv_at hl 5 rfl) ?_
  refine va_get (D := D) (ci := 4) (v := .ref tp) (C := RX4) (T := TX4) (N := 8) hx hb hts hin4 hown hK hP krd e_343 rfl 0 (by decide) (hts (.fieldLink RX4 12 "HoneyHouse$RuleReader" "tape" "LHoneyHouse$Tape;") (List.mem_of_getElem? (i := 1) rfl)) (fun _ h9 => h9) rfl dX4_readEither_72 ?_
  have hFc := free_all hD hS hA
  refine va_callv (va_runV (As := []) (rest := []) ⟨hx, hb, hml, hown, hts⟩ (a_advance l D ws_338 ty_339 tp ktp tl te_118 ya_125 (nI ts_117) bb k_138 c9_139 t_140 f_349 H.size (by omega) (by omega) e_344 e_348 u_350) (cwV 0 hts gX4_readEither_X6_advance rfl rfl rfl (by decide +kernel) ⟨Nat.le_of_ble_eq_true rfl, Nat.le_of_ble_eq_true rfl⟩) ⟨fun a U g mk q => by obtain ⟨q0, q1, qP, qK, qD⟩ := q; exact ⟨q0, q1, qP, va_K.moved (u := U) (U := U.calling g mk a) (Vm.Alike.refl U.vm) qK, qD⟩, va_recv hK hP (ci := 6) (q0 := ktp) rfl e_344, fun U hU hW => ⟨rfl, by rw [hU], by rw [hU]; exact hP, va_K.moved hW.alike hK, hD.weaken (fun _ _ _ _ => trivial)⟩⟩ rfl rfl hl.1 rfl (lv_room (Nat.le_of_ble_eq_true rfl)) dX4_readEither_75 ⟨Nat.le_of_ble_eq_true rfl, Nat.le_of_ble_eq_true rfl⟩) hS (fun q _ h => hFc q h) hFc (fun u t H1 locs ht hvm w_898 hB hz1 hk1 hS => ?_)
  obtain ⟨ws_899, ty_900, hm_901, ht_903, hP1, hK1, hD1, hx_902⟩ := hB
  rw [ht] at hP1
  have hK := va_K.moved hvm.symm hK1
  have hD := hD1.weaken (fun _ _ _ h => hFc _ h)
  generalize H1 = H at hP1 hS ⊢
  have hP := hP1
  have e_904 := hm_901.objK e_343 (by decide)
  obtain ⟨g_906, e_905, h_907⟩ := hm_901.obj e_344
  obtain ⟨z_908, z_909, z_910, z_911, rfl⟩ := smX6 h_907
  obtain ⟨f_913, e_912⟩ := hm_901.arrI e_345
  have u_914 := ht_903 _ _ u_347
  obtain ⟨f_916, e_915⟩ := hm_901.arrI e_348
  have u_917 := ht_903 _ _ u_350
  have hsm := hsm.tr (hm_901.mono (by decide))
  have hlp_93 := hlp_93.tr (hm_901.mono (by decide))
  have htx := htx.tr ht_903
  obtain ⟨k_918, s_919, e_920, h_921, h_922, h_923, e_924⟩ := hx_902
  refine lv_aload_n hx hb dX4_readEither_78 rfl (lv_at hl 5 rfl) ?_
  refine lv_iload_n hx hb dX4_readEither_79 rfl (lv_at hl 4 rfl) ?_
  have hFc := free_all hD hS hA
  refine va_calli (va_runV (As := [.int 4]) (rest := []) ⟨hx, hb, hml, hown, hts⟩ (r_readOne4 l D ws_899 ty_900 adK adV fo rd krd tp ktp cd bb tl  H.size (⟨s_919, e_920, cc_119, ra_120, rb_121, rc_122, rv_123, re_124, nI k_918, by omega, by omega, by omega, by omega, e_904, e_924, ⟨k_132, c9_133, t_134, f_913, e_912, u_914⟩, ⟨k_138, c9_139, t_140, f_916, e_915, u_917⟩⟩ : RS ws_899 ty_900 rd krd tp ktp cd bb tl)) (cwV 1 hts gX4_readEither_X4_readOne rfl rfl rfl (by decide +kernel) ⟨Nat.le_of_ble_eq_true rfl, Nat.le_of_ble_eq_true rfl⟩) ⟨fun a U g mk q => by obtain ⟨q0, q1, qP, qK, qD, qS⟩ := q; exact ⟨q0, q1, qP, va_K.moved (u := U) (U := U.calling g mk a) (Vm.Alike.refl U.vm) qK, qD, SZ.same rfl rfl qS⟩, va_recv hK hP (ci := 4) (q0 := krd) rfl e_904, fun U hU hW => ⟨rfl, by rw [hU], by rw [hU]; exact hP, va_K.moved hW.alike hK, hD.weaken (fun _ _ _ _ => trivial), hsz9.go hS hW hU hFc⟩⟩ rfl rfl hl.1 rfl (lv_room (Nat.le_of_ble_eq_true rfl)) dX4_readEither_80 ⟨Nat.le_of_ble_eq_true rfl, Nat.le_of_ble_eq_true rfl⟩) hS (fun q _ h => hFc q h) hFc (fun r_925 u t H1 locs ht hvm w_926 hB hz1 hk1 hS => ?_)
  obtain ⟨ws_927, ty_928, hm_929, ht_931, hP1, hK1, hD1, hx_930⟩ := hB
  rw [ht] at hP1
  have hK := va_K.moved hvm.symm hK1
  have hD := hD1.weaken (fun _ _ _ h => hFc _ h)
  generalize H1 = H at hP1 hS ⊢
  have hP := hP1
  obtain ⟨g_933, e_932, h_934⟩ := hm_929.obj e_904
  obtain ⟨z_935, z_936, z_937, z_938, z_939, z_940, rfl⟩ := smX4 h_934
  obtain ⟨g_942, e_941, h_943⟩ := hm_929.obj e_924
  obtain ⟨z_944, z_945, z_946, z_947, rfl⟩ := smX6 h_943
  obtain ⟨f_949, e_948⟩ := hm_929.arrI e_912
  have u_950 := ht_931 _ _ u_914
  obtain ⟨f_952, e_951⟩ := hm_929.arrI e_915
  have u_953 := ht_931 _ _ u_917
  have hsm := hsm.tr (hm_929.mono (by decide))
  have hlp_93 := hlp_93.tr (hm_929.mono (by decide))
  have htx := htx.tr ht_931
  obtain ⟨ts_954, te_955, cc_956, ra_957, rb_958, rc_959, rv_960, re_961, ya_962, h1_963, h2_964, h3_965, h4_966, er_967, et_968, ⟨k_969, c9_970, t_971, f_972, e_973, u_974⟩, ⟨k_975, c9_976, t_977, f_978, e_979, u_980⟩⟩ := id hx_930
  refine lv_istore_n (lv' := [(2, .int r_925), (3, .int 0), (5, .int 1), (4, .int (nI i_85)), (1, .int 4), (0, .ref rd)]) hx hb dX4_readEither_83 rfl hl (by decide) rfl (fun ls hl => ?_)
  refine lv_iload hx hb dX4_readEither_84 (lv_at hl 2 rfl) ?_
  refine lv_if_eq (tgt := 95) hx hb dX4_readEither_86 (by decide) (fun c_981 => absurd c_981 (by decide)) (fun c_981 => ?_)
  refine lv_aload_n hx hb dX4_readEither_89 rfl (lv_at hl 5 rfl) ?_
  refine lv_bipush (v := (-2)) hx hb dX4_readEither_90 (by decide) ?_
  have hFc := free_all hD hS hA
  refine va_callv (va_runV (As := [.int (-2)]) (rest := []) ⟨hx, hb, hml, hown, hts⟩ (r_addCode l D ws_927 ty_928 adK adV fo rd krd tp ktp cd bb tl (-2) H.size (⟨ts_954, te_955, cc_956, ra_957, rb_958, rc_959, rv_960, re_961, ya_962, by omega, by omega, by omega, by omega, er_967, et_968, ⟨k_969, c9_970, t_971, f_972, e_973, u_974⟩, ⟨k_975, c9_976, t_977, f_978, e_979, u_980⟩⟩ : RS ws_927 ty_928 rd krd tp ktp cd bb tl)) (cwV 1 hts gX4_readEither_X4_addCode rfl rfl rfl (by decide +kernel) ⟨Nat.le_of_ble_eq_true rfl, Nat.le_of_ble_eq_true rfl⟩) ⟨fun a U g mk q => by obtain ⟨q0, q1, qP, qK, qD, qS⟩ := q; exact ⟨q0, q1, qP, va_K.moved (u := U) (U := U.calling g mk a) (Vm.Alike.refl U.vm) qK, qD, SZ.same rfl rfl qS⟩, va_recv hK hP (ci := 4) (q0 := krd) rfl er_967, fun U hU hW => ⟨rfl, by rw [hU], by rw [hU]; exact hP, va_K.moved hW.alike hK, hD.weaken (fun _ _ _ _ => trivial), hsz9.go hS hW hU hFc⟩⟩ rfl rfl hl.1 rfl (lv_room (Nat.le_of_ble_eq_true rfl)) dX4_readEither_92 ⟨Nat.le_of_ble_eq_true rfl, Nat.le_of_ble_eq_true rfl⟩) hS (fun q _ h => hFc q h) hFc (fun u t H1 locs ht hvm w_983 hB hz1 hk1 hS => ?_)
  obtain ⟨ws_984, ty_985, hm_986, ht_988, hP1, hK1, hD1, hx_987⟩ := hB
  rw [ht] at hP1
  have hK := va_K.moved hvm.symm hK1
  have hD := hD1.weaken (fun _ _ _ h => hFc _ h)
  generalize H1 = H at hP1 hS ⊢
  have hP := hP1
  obtain ⟨g_990, e_989, h_991⟩ := hm_986.obj er_967
  obtain ⟨z_992, z_993, z_994, z_995, z_996, z_997, rfl⟩ := smX4 h_991
  obtain ⟨g_999, e_998, h_1000⟩ := hm_986.obj et_968
  obtain ⟨z_1001, z_1002, z_1003, z_1004, rfl⟩ := smX6 h_1000
  obtain ⟨f_1006, e_1005⟩ := hm_986.arrI e_973
  have u_1007 := ht_988 _ _ u_974
  obtain ⟨f_1009, e_1008⟩ := hm_986.arrI e_979
  have u_1010 := ht_988 _ _ u_980
  have hsm := hsm.tr (hm_986.mono (by decide))
  have hlp_93 := hlp_93.tr (hm_986.mono (by decide))
  have htx := htx.tr ht_988
  obtain ⟨ts_1011, te_1012, cc_1013, ra_1014, rb_1015, rc_1016, rv_1017, re_1018, ya_1019, h1_1020, h2_1021, h3_1022, h4_1023, er_1024, et_1025, ⟨k_1026, c9_1027, t_1028, f_1029, e_1030, u_1031⟩, ⟨k_1032, c9_1033, t_1034, f_1035, e_1036, u_1037⟩⟩ := id hx_987
  refine lv_iinc (v := nI (i_85 + 1)) (lv' := [(4, .int (nI (i_85 + 1))), (2, .int r_925), (3, .int 0), (5, .int 1), (1, .int 4), (0, .ref rd)]) hx hb dX4_readEither_95 hl (k := 3) rfl (nI_add i_85 1) (by decide) rfl (fun ls hl => ?_)
  refine lv_goto (tgt := 11) hx hb dX4_readEither_98 (by decide) ?_
  exact ih_84 (i_85 + 1, r_925, 0) ws_984 _ _ ls (by show 400 - (i_85 + 1) < 400 - i_85; omega) ⟨hlp_93, ⟨ty_985, hK, htx, (⟨ts_1011, te_1012, cc_1013, ra_1014, rb_1015, rc_1016, rv_1017, re_1018, ya_1019, by omega, by omega, by omega, by omega, er_1024, et_1025, ⟨k_1026, c9_1027, t_1028, f_1029, e_1030, u_1031⟩, ⟨k_1032, c9_1033, t_1034, f_1035, e_1036, u_1037⟩⟩ : RS ws_984 ty_985 rd krd tp ktp cd bb tl)⟩, (show (i_85 + 1) ≤ 400 from by omega), (show r_925 = 0 ∨ r_925 = 1 from w_926), (show 0 = 0 ∨ 0 = 1 from Or.inl rfl)⟩ hP hD hS (lv_sub hl [0, 1, 2, 4, 5] rfl)
set_option maxHeartbeats 4000000 in
set_option maxRecDepth 100000 in
theorem r_readOne3 (l : Launch) (D : va_G) (ws : va_W) (tys : List (ClassId × FieldType)) (adK adV : Nat → Nat) (fo : Option Nat) (rd krd tp ktp cd bb tl : Nat)  (sz : Nat) (R0 : RS ws tys rd krd tp ktp cd bb tl)  : Met l yX4_readOne wsX4_readOne ({ frames := 13, cells := 0, slots := 0, locals := 293 }) (va_Pc [.ref rd, .int 3] (fun U => U.heap.size = sz ∧ va_P D vwCl ws U.heap ∧ va_K D vwCl tys U ∧ va_D (fun _ => True) ws ∧ SZ adK adV fo (va_A ws sz) U U.heap)) (va_Qi (fun (r : Int32) (_ : Unit) => r = 0 ∨ r = 1) (fun (_ : Unit) (t : State) => ∃ (ws' : va_W) (tys' : List (ClassId × FieldType)), sm [4, 6] ws ws' ∧ tyx tys tys' ∧ va_P D vwCl ws' t.heap ∧ va_K D vwCl tys' t ∧ va_D (va_A ws sz) ws' ∧ RS ws' tys' rd krd tp ktp cd bb tl) (va_A ws sz)) 0 0 (va_A ws sz) := by
  refine Met.ofW (cc := cX4_readOne) (maxL := 4) (ret := (some .boolean)) (by decide) rfl ?_
  intro p e s m args below meth c s₁ B hml hv
  obtain ⟨rfl, hsz, hP, hK, hD0, hsz9⟩ := hv
  have hx := B.exec
  have hb := B.bytes
  have hr := B.returns
  have hts := atoms_spec (ws := wsX4_readOne) B.pre
  have hown : s.vm.findClass RX4 = some m.cls := findClass_of_methodNamed B.named
  have hlocks := B.notSynchronized
  subst hsz
  have hD := hD0.self (sz := s.heap.size)
  generalize hAe : va_A ws s.heap.size = A at hD hsz9 ⊢
  have hA : ∀ q : Nat, s.heap.size ≤ q → A q := fun q h => by rw [← hAe]; exact Or.inr h
  have hS : va_S A s.heap s.heap [] := va_S.rf
  have hsm : sm [4, 6] ws ws := sm.rf ws
  have htx : tyx tys tys := tyx.rf tys
  have hin4 : ∀ w ∈ u_ws RX4 TX4 8, w ∈ wsX4_readOne := (fun _ h9 => List.mem_cons_of_mem _ (List.mem_append_left _ ((List.mem_append_right _ h9))))
  have hl := lv_entry ([.ref rd, .int 3]) (n := 4) (Nat.le_of_ble_eq_true rfl)
  rw [lg_entry_eq]
  generalize (lg_sl ([.ref rd, .int 3]) ++ List.replicate (4 - (lg_sl ([.ref rd, .int 3])).length) Slot.unset).toArray = ls at hl ⊢
  have hl : lv_has ls 4 [(0, .ref rd), (1, .int 3)] := hl
  obtain ⟨ts_1, te_2, cc_3, ra_4, rb_5, rc_6, rv_7, re_8, ya_9, h1_10, h2_11, h3_12, h4_13, er_14, et_15, ⟨k_16, c9_17, t_18, f_19, e_20, u_21⟩, ⟨k_22, c9_23, t_24, f_25, e_26, u_27⟩⟩ := id R0
  refine lv_aload_n hx hb dX4_readOne_0 rfl (lv_at hl 0 rfl) ?_
  refine va_get (D := D) (ci := 4) (v := .ref tp) (C := RX4) (T := TX4) (N := 8) hx hb hts hin4 hown hK hP krd er_14 rfl 0 (by decide) (hts (.fieldLink RX4 12 "HoneyHouse$RuleReader" "tape" "LHoneyHouse$Tape;") (List.mem_of_getElem? (i := 1) rfl)) (fun _ h9 => h9) rfl dX4_readOne_1 ?_
  refine va_ldcS hx hb hown hsz9.2.2.2.2.2.2.1 dX4_readOne_4 ?_
  have hFc := free_all hD hS hA
  refine va_calli (va_runV (As := [.ref (adK 3)]) (rest := []) ⟨hx, hb, hml, hown, hts⟩ (a_isWord l D ws tys adK adV fo 3 tp ktp tl ya_9 (nI ts_1) (nI te_2) bb k_22 c9_23 t_24 f_25 s.heap.size (by decide) et_15 e_26 u_27) (cwV 1 hts gX4_readOne_X6_isWord rfl rfl rfl (by decide +kernel) ⟨Nat.le_of_ble_eq_true rfl, Nat.le_of_ble_eq_true rfl⟩) ⟨fun a U g mk q => by obtain ⟨q0, q1, qP, qK, qD, qS⟩ := q; exact ⟨q0, q1, qP, va_K.moved (u := U) (U := U.calling g mk a) (Vm.Alike.refl U.vm) qK, qD, SZ.same rfl rfl qS⟩, va_recv hK hP (ci := 6) (q0 := ktp) rfl et_15, fun U hU hW => ⟨rfl, by rw [hU], by rw [hU]; exact hP, va_K.moved hW.alike hK, hD.weaken (fun _ _ _ _ => trivial), hsz9.go hS hW hU hFc⟩⟩ rfl rfl hl.1 rfl (lv_room (Nat.le_of_ble_eq_true rfl)) dX4_readOne_6 ⟨Nat.le_of_ble_eq_true rfl, Nat.le_of_ble_eq_true rfl⟩) hS (fun q _ h => hFc q h) hFc (fun r_28 u t H1 locs ht hvm w_29 hB hz1 hk1 hS => ?_)
  obtain ⟨ws_30, ty_31, hm_32, ht_34, hP1, hK1, hD1, hx_33⟩ := hB
  rw [ht] at hP1
  have hK := va_K.moved hvm.symm hK1
  have hD := hD1.weaken (fun _ _ _ h => hFc _ h)
  generalize H1 = H at hP1 hS ⊢
  have hP := hP1
  have e_35 := hm_32.objK er_14 (by decide)
  have e_36 := hm_32.objK et_15 (by decide)
  obtain ⟨f_38, e_37⟩ := hm_32.arrI e_20
  have u_39 := ht_34 _ _ u_21
  obtain ⟨f_41, e_40⟩ := hm_32.arrI e_26
  have u_42 := ht_34 _ _ u_27
  have hsm := hsm.tr (hm_32.mono (by decide))
  have htx := htx.tr ht_34
  rcases w_29 with rfl | rfl
  · refine lv_istore_n (lv' := [(2, .int 0), (0, .ref rd), (1, .int 3)]) hx hb dX4_readOne_9 rfl hl (by decide) rfl (fun ls hl => ?_)
    refine lv_iload_n hx hb dX4_readOne_10 rfl (lv_at hl 0 rfl) ?_
    refine lv_if_ne (tgt := 31) hx hb dX4_readOne_11 (by decide) (fun c_43 => absurd (by decide) c_43) (fun c_43 => ?_)
    refine lv_aload_n hx hb dX4_readOne_14 rfl (lv_at hl 1 rfl) ?_
    refine va_get (D := D) (ci := 4) (v := .ref tp) (C := RX4) (T := TX4) (N := 8) hx hb hts hin4 hown hK hP krd e_35 rfl 0 (by decide) (hts (.fieldLink RX4 12 "HoneyHouse$RuleReader" "tape" "LHoneyHouse$Tape;") (List.mem_of_getElem? (i := 1) rfl)) (fun _ h9 => h9) rfl dX4_readOne_15 ?_
    refine lv_bipush (v := 40) hx hb dX4_readOne_18 (by decide) ?_
    refine vp_callSi (W.runV (As := [.int 40]) (rest := []) ⟨hx, hb, hml, hown, hts⟩ (s_isByte l D ws_30 ty_31 tp ktp tl ya_9 (nI ts_1) (nI te_2) bb k_22 c9_23 t_24 f_41 40 e_36 e_40 u_42) (cwV 1 hts gX4_readOne_X6_isByte rfl rfl rfl (by decide +kernel) ⟨Nat.le_of_ble_eq_true rfl, Nat.le_of_ble_eq_true rfl⟩) ⟨fun a U g mk q => ⟨q.1, q.2.1, va_K.moved (u := U) (U := U.calling g mk a) (Vm.Alike.refl U.vm) q.2.2⟩, va_recv hK hP (ci := 6) (q0 := ktp) rfl e_36, fun U hU hW => ⟨rfl, by rw [hU]; exact hP, va_K.moved hW.alike hK⟩⟩ rfl rfl hl.1 rfl (lv_room (Nat.le_of_ble_eq_true rfl)) dX4_readOne_20 ⟨Nat.le_of_ble_eq_true rfl, Nat.le_of_ble_eq_true rfl⟩) (fun r_44 k_45 => ?_)
    rcases k_45 with rfl | rfl
    · refine lv_if_ne (tgt := 31) hx hb dX4_readOne_23 (by decide) (fun c_46 => absurd (by decide) c_46) (fun c_46 => ?_)
      refine lv_aload_n hx hb dX4_readOne_26 rfl (lv_at hl 1 rfl) ?_
      have hFc := free_all hD hS hA
      refine va_calli (va_runV (As := []) (rest := []) ⟨hx, hb, hml, hown, hts⟩ (r_readTest l D ws_30 ty_31 adK adV fo rd krd tp ktp cd bb tl  H.size (⟨ts_1, te_2, cc_3, ra_4, rb_5, rc_6, rv_7, re_8, ya_9, by omega, by omega, by omega, by omega, e_35, e_36, ⟨k_16, c9_17, t_18, f_38, e_37, u_39⟩, ⟨k_22, c9_23, t_24, f_41, e_40, u_42⟩⟩ : RS ws_30 ty_31 rd krd tp ktp cd bb tl)) (cwV 0 hts gX4_readOne_X4_readTest rfl rfl rfl (by decide +kernel) ⟨Nat.le_of_ble_eq_true rfl, Nat.le_of_ble_eq_true rfl⟩) ⟨fun a U g mk q => by obtain ⟨q0, q1, qP, qK, qD, qS⟩ := q; exact ⟨q0, q1, qP, va_K.moved (u := U) (U := U.calling g mk a) (Vm.Alike.refl U.vm) qK, qD, SZ.same rfl rfl qS⟩, va_recv hK hP (ci := 4) (q0 := krd) rfl e_35, fun U hU hW => ⟨rfl, by rw [hU], by rw [hU]; exact hP, va_K.moved hW.alike hK, hD.weaken (fun _ _ _ _ => trivial), hsz9.go hS hW hU hFc⟩⟩ rfl rfl hl.1 rfl (lv_room (Nat.le_of_ble_eq_true rfl)) dX4_readOne_27 ⟨Nat.le_of_ble_eq_true rfl, Nat.le_of_ble_eq_true rfl⟩) hS (fun q _ h => hFc q h) hFc (fun r_47 u t H1 locs ht hvm w_48 hB hz1 hk1 hS => ?_)
      obtain ⟨ws_49, ty_50, hm_51, ht_53, hP1, hK1, hD1, hx_52⟩ := hB
      rw [ht] at hP1
      have hK := va_K.moved hvm.symm hK1
      have hD := hD1.weaken (fun _ _ _ h => hFc _ h)
      generalize H1 = H at hP1 hS ⊢
      have hP := hP1
      obtain ⟨g_55, e_54, h_56⟩ := hm_51.obj e_35
      obtain ⟨z_57, z_58, z_59, z_60, z_61, z_62, rfl⟩ := smX4 h_56
      obtain ⟨g_64, e_63, h_65⟩ := hm_51.obj e_36
      obtain ⟨z_66, z_67, z_68, z_69, rfl⟩ := smX6 h_65
      obtain ⟨f_71, e_70⟩ := hm_51.arrI e_37
      have u_72 := ht_53 _ _ u_39
      obtain ⟨f_74, e_73⟩ := hm_51.arrI e_40
      have u_75 := ht_53 _ _ u_42
      have hsm := hsm.tr (hm_51.mono (by decide))
      have htx := htx.tr ht_53
      obtain ⟨ts_76, te_77, cc_78, ra_79, rb_80, rc_81, rv_82, re_83, ya_84, h1_85, h2_86, h3_87, h4_88, er_89, et_90, ⟨k_91, c9_92, t_93, f_94, e_95, u_96⟩, ⟨k_97, c9_98, t_99, f_100, e_101, u_102⟩⟩ := id hx_52
      exact W.zret (v := r_47) hx hb hr (by rcases w_48 with h9 | h9 <;> rw [h9] <;> rfl) (fun t ht hW => ⟨⟨r_47, (), rfl, w_48, ws_49, ty_50, hsm, htx, by rw [ht]; exact hP, va_K.moved hW.alike hK, hD, (⟨ts_76, te_77, cc_78, ra_79, rb_80, rc_81, rv_82, re_83, ya_84, by omega, by omega, by omega, by omega, er_89, et_90, ⟨k_91, c9_92, t_93, f_94, e_95, u_96⟩, ⟨k_97, c9_98, t_99, f_100, e_101, u_102⟩⟩ : RS ws_49 ty_50 rd krd tp ktp cd bb tl)⟩, hS.F ht⟩) hS.2.2 dX4_readOne_30
    refine lv_if_ne (tgt := 31) hx hb dX4_readOne_23 (by decide) (fun c_103 => ?_) (fun c_103 => absurd c_103 (by decide))
    refine lv_iload_n hx hb dX4_readOne_31 rfl (lv_at hl 2 rfl) ?_
    refine lv_bipush (v := 6) hx hb dX4_readOne_32 (by decide) ?_
    refine lv_icmp_lt (tgt := 50) hx hb dX4_readOne_34 (by decide) (fun c_104 => ?_) (fun c_104 => absurd (by decide) c_104)
    refine lv_aload_n hx hb dX4_readOne_50 rfl (lv_at hl 1 rfl) ?_
    refine va_get (D := D) (ci := 4) (v := .ref tp) (C := RX4) (T := TX4) (N := 8) hx hb hts hin4 hown hK hP krd e_35 rfl 0 (by decide) (hts (.fieldLink RX4 12 "HoneyHouse$RuleReader" "tape" "LHoneyHouse$Tape;") (List.mem_of_getElem? (i := 1) rfl)) (fun _ h9 => h9) rfl dX4_readOne_51 ?_
    have hFc := free_all hD hS hA
    refine va_callv (va_runV (As := []) (rest := []) ⟨hx, hb, hml, hown, hts⟩ (a_advance l D ws_30 ty_31 tp ktp tl te_2 ya_9 (nI ts_1) bb k_22 c9_23 t_24 f_41 H.size (by omega) (by omega) e_36 e_40 u_42) (cwV 0 hts gX4_readOne_X6_advance rfl rfl rfl (by decide +kernel) ⟨Nat.le_of_ble_eq_true rfl, Nat.le_of_ble_eq_true rfl⟩) ⟨fun a U g mk q => by obtain ⟨q0, q1, qP, qK, qD⟩ := q; exact ⟨q0, q1, qP, va_K.moved (u := U) (U := U.calling g mk a) (Vm.Alike.refl U.vm) qK, qD⟩, va_recv hK hP (ci := 6) (q0 := ktp) rfl e_36, fun U hU hW => ⟨rfl, by rw [hU], by rw [hU]; exact hP, va_K.moved hW.alike hK, hD.weaken (fun _ _ _ _ => trivial)⟩⟩ rfl rfl hl.1 rfl (lv_room (Nat.le_of_ble_eq_true rfl)) dX4_readOne_54 ⟨Nat.le_of_ble_eq_true rfl, Nat.le_of_ble_eq_true rfl⟩) hS (fun q _ h => hFc q h) hFc (fun u t H1 locs ht hvm w_106 hB hz1 hk1 hS => ?_)
    obtain ⟨ws_107, ty_108, hm_109, ht_111, hP1, hK1, hD1, hx_110⟩ := hB
    rw [ht] at hP1
    have hK := va_K.moved hvm.symm hK1
    have hD := hD1.weaken (fun _ _ _ h => hFc _ h)
    generalize H1 = H at hP1 hS ⊢
    have hP := hP1
    have e_112 := hm_109.objK e_35 (by decide)
    obtain ⟨g_114, e_113, h_115⟩ := hm_109.obj e_36
    obtain ⟨z_116, z_117, z_118, z_119, rfl⟩ := smX6 h_115
    obtain ⟨f_121, e_120⟩ := hm_109.arrI e_37
    have u_122 := ht_111 _ _ u_39
    obtain ⟨f_124, e_123⟩ := hm_109.arrI e_40
    have u_125 := ht_111 _ _ u_42
    have hsm := hsm.tr (hm_109.mono (by decide))
    have htx := htx.tr ht_111
    obtain ⟨k_126, s_127, e_128, h_129, h_130, h_131, e_132⟩ := hx_110
    refine lv_iload_n hx hb dX4_readOne_57 rfl (lv_at hl 0 rfl) ?_
    refine lv_if_ne (tgt := 86) hx hb dX4_readOne_58 (by decide) (fun c_133 => absurd (by decide) c_133) (fun c_133 => ?_)
    refine lv_aload_n hx hb dX4_readOne_61 rfl (lv_at hl 1 rfl) ?_
    refine lv_iload_n hx hb dX4_readOne_62 rfl (lv_at hl 2 rfl) ?_
    refine lv_iconst (v := 1) hx hb dX4_readOne_63 (by decide) ?_
    refine lv_iadd hx hb dX4_readOne_64 ?_
    refine tp_i (y := 4) (by decide) ?_
    have hFc := free_all hD hS hA
    refine va_calli (va_runV (As := [.int 4]) (rest := []) ⟨hx, hb, hml, hown, hts⟩ (r_readEither4 l D ws_107 ty_108 adK adV fo rd krd tp ktp cd bb tl  H.size (⟨s_127, e_128, cc_3, ra_4, rb_5, rc_6, rv_7, re_8, nI k_126, by omega, by omega, by omega, by omega, e_112, e_132, ⟨k_16, c9_17, t_18, f_121, e_120, u_122⟩, ⟨k_22, c9_23, t_24, f_124, e_123, u_125⟩⟩ : RS ws_107 ty_108 rd krd tp ktp cd bb tl)) (cwV 1 hts gX4_readOne_X4_readEither rfl rfl rfl (by decide +kernel) ⟨Nat.le_of_ble_eq_true rfl, Nat.le_of_ble_eq_true rfl⟩) ⟨fun a U g mk q => by obtain ⟨q0, q1, qP, qK, qD, qS⟩ := q; exact ⟨q0, q1, qP, va_K.moved (u := U) (U := U.calling g mk a) (Vm.Alike.refl U.vm) qK, qD, SZ.same rfl rfl qS⟩, va_recv hK hP (ci := 4) (q0 := krd) rfl e_112, fun U hU hW => ⟨rfl, by rw [hU], by rw [hU]; exact hP, va_K.moved hW.alike hK, hD.weaken (fun _ _ _ _ => trivial), hsz9.go hS hW hU hFc⟩⟩ rfl rfl hl.1 rfl (lv_room (Nat.le_of_ble_eq_true rfl)) dX4_readOne_65 ⟨Nat.le_of_ble_eq_true rfl, Nat.le_of_ble_eq_true rfl⟩) hS (fun q _ h => hFc q h) hFc (fun r_134 u t H1 locs ht hvm w_135 hB hz1 hk1 hS => ?_)
    obtain ⟨ws_136, ty_137, hm_138, ht_140, hP1, hK1, hD1, hx_139⟩ := hB
    rw [ht] at hP1
    have hK := va_K.moved hvm.symm hK1
    have hD := hD1.weaken (fun _ _ _ h => hFc _ h)
    generalize H1 = H at hP1 hS ⊢
    have hP := hP1
    obtain ⟨g_142, e_141, h_143⟩ := hm_138.obj e_112
    obtain ⟨z_144, z_145, z_146, z_147, z_148, z_149, rfl⟩ := smX4 h_143
    obtain ⟨g_151, e_150, h_152⟩ := hm_138.obj e_132
    obtain ⟨z_153, z_154, z_155, z_156, rfl⟩ := smX6 h_152
    obtain ⟨f_158, e_157⟩ := hm_138.arrI e_120
    have u_159 := ht_140 _ _ u_122
    obtain ⟨f_161, e_160⟩ := hm_138.arrI e_123
    have u_162 := ht_140 _ _ u_125
    have hsm := hsm.tr (hm_138.mono (by decide))
    have htx := htx.tr ht_140
    obtain ⟨ts_163, te_164, cc_165, ra_166, rb_167, rc_168, rv_169, re_170, ya_171, h1_172, h2_173, h3_174, h4_175, er_176, et_177, ⟨k_178, c9_179, t_180, f_181, e_182, u_183⟩, ⟨k_184, c9_185, t_186, f_187, e_188, u_189⟩⟩ := id hx_139
    refine lv_if_eq (tgt := 84) hx hb dX4_readOne_68 (by decide) (fun c_190 => ?_) (fun c_190 => ?_)
    · refine lv_iconst (v := 0) hx hb dX4_readOne_84 (by decide) ?_
      exact W.zret (v := 0) hx hb hr rfl (fun t ht hW => ⟨⟨0, (), rfl, Or.inl rfl, ws_136, ty_137, hsm, htx, by rw [ht]; exact hP, va_K.moved hW.alike hK, hD, (⟨ts_163, te_164, cc_165, ra_166, rb_167, rc_168, rv_169, re_170, ya_171, by omega, by omega, by omega, by omega, er_176, et_177, ⟨k_178, c9_179, t_180, f_181, e_182, u_183⟩, ⟨k_184, c9_185, t_186, f_187, e_188, u_189⟩⟩ : RS ws_136 ty_137 rd krd tp ktp cd bb tl)⟩, hS.F ht⟩) hS.2.2 dX4_readOne_85
    refine lv_aload_n hx hb dX4_readOne_71 rfl (lv_at hl 1 rfl) ?_
    refine lv_bipush (v := 41) hx hb dX4_readOne_72 (by decide) ?_
    have hFc := free_all hD hS hA
    refine va_calli (va_runV (As := [.int 41]) (rest := []) ⟨hx, hb, hml, hown, hts⟩ (r_readByte l D ws_136 ty_137 adK adV fo rd krd tp ktp cd bb tl 41 H.size (⟨ts_163, te_164, cc_165, ra_166, rb_167, rc_168, rv_169, re_170, ya_171, by omega, by omega, by omega, by omega, er_176, et_177, ⟨k_178, c9_179, t_180, f_181, e_182, u_183⟩, ⟨k_184, c9_185, t_186, f_187, e_188, u_189⟩⟩ : RS ws_136 ty_137 rd krd tp ktp cd bb tl)) (cwV 1 hts gX4_readOne_X4_readByte rfl rfl rfl (by decide +kernel) ⟨Nat.le_of_ble_eq_true rfl, Nat.le_of_ble_eq_true rfl⟩) ⟨fun a U g mk q => by obtain ⟨q0, q1, qP, qK, qD, qS⟩ := q; exact ⟨q0, q1, qP, va_K.moved (u := U) (U := U.calling g mk a) (Vm.Alike.refl U.vm) qK, qD, SZ.same rfl rfl qS⟩, va_recv hK hP (ci := 4) (q0 := krd) rfl er_176, fun U hU hW => ⟨rfl, by rw [hU], by rw [hU]; exact hP, va_K.moved hW.alike hK, hD.weaken (fun _ _ _ _ => trivial), hsz9.go hS hW hU hFc⟩⟩ rfl rfl hl.1 rfl (lv_room (Nat.le_of_ble_eq_true rfl)) dX4_readOne_74 ⟨Nat.le_of_ble_eq_true rfl, Nat.le_of_ble_eq_true rfl⟩) hS (fun q _ h => hFc q h) hFc (fun r_191 u t H1 locs ht hvm w_192 hB hz1 hk1 hS => ?_)
    obtain ⟨ws_193, ty_194, hm_195, ht_197, hP1, hK1, hD1, hx_196⟩ := hB
    rw [ht] at hP1
    have hK := va_K.moved hvm.symm hK1
    have hD := hD1.weaken (fun _ _ _ h => hFc _ h)
    generalize H1 = H at hP1 hS ⊢
    have hP := hP1
    obtain ⟨g_199, e_198, h_200⟩ := hm_195.obj er_176
    obtain ⟨z_201, z_202, z_203, z_204, z_205, z_206, rfl⟩ := smX4 h_200
    obtain ⟨g_208, e_207, h_209⟩ := hm_195.obj et_177
    obtain ⟨z_210, z_211, z_212, z_213, rfl⟩ := smX6 h_209
    obtain ⟨f_215, e_214⟩ := hm_195.arrI e_182
    have u_216 := ht_197 _ _ u_183
    obtain ⟨f_218, e_217⟩ := hm_195.arrI e_188
    have u_219 := ht_197 _ _ u_189
    have hsm := hsm.tr (hm_195.mono (by decide))
    have htx := htx.tr ht_197
    obtain ⟨ts_220, te_221, cc_222, ra_223, rb_224, rc_225, rv_226, re_227, ya_228, h1_229, h2_230, h3_231, h4_232, er_233, et_234, ⟨k_235, c9_236, t_237, f_238, e_239, u_240⟩, ⟨k_241, c9_242, t_243, f_244, e_245, u_246⟩⟩ := id hx_196
    rcases w_192 with rfl | rfl
    · refine lv_if_eq (tgt := 84) hx hb dX4_readOne_77 (by decide) (fun c_247 => ?_) (fun c_247 => absurd (by decide) c_247)
      refine lv_iconst (v := 0) hx hb dX4_readOne_84 (by decide) ?_
      exact W.zret (v := 0) hx hb hr rfl (fun t ht hW => ⟨⟨0, (), rfl, Or.inl rfl, ws_193, ty_194, hsm, htx, by rw [ht]; exact hP, va_K.moved hW.alike hK, hD, (⟨ts_220, te_221, cc_222, ra_223, rb_224, rc_225, rv_226, re_227, ya_228, by omega, by omega, by omega, by omega, er_233, et_234, ⟨k_235, c9_236, t_237, f_238, e_239, u_240⟩, ⟨k_241, c9_242, t_243, f_244, e_245, u_246⟩⟩ : RS ws_193 ty_194 rd krd tp ktp cd bb tl)⟩, hS.F ht⟩) hS.2.2 dX4_readOne_85
    refine lv_if_eq (tgt := 84) hx hb dX4_readOne_77 (by decide) (fun c_248 => absurd c_248 (by decide)) (fun c_248 => ?_)
    refine lv_iconst (v := 1) hx hb dX4_readOne_80 (by decide) ?_
    refine lv_goto (tgt := 85) hx hb dX4_readOne_81 (by decide) ?_
    exact W.zret (v := 1) hx hb hr rfl (fun t ht hW => ⟨⟨1, (), rfl, Or.inr rfl, ws_193, ty_194, hsm, htx, by rw [ht]; exact hP, va_K.moved hW.alike hK, hD, (⟨ts_220, te_221, cc_222, ra_223, rb_224, rc_225, rv_226, re_227, ya_228, by omega, by omega, by omega, by omega, er_233, et_234, ⟨k_235, c9_236, t_237, f_238, e_239, u_240⟩, ⟨k_241, c9_242, t_243, f_244, e_245, u_246⟩⟩ : RS ws_193 ty_194 rd krd tp ktp cd bb tl)⟩, hS.F ht⟩) hS.2.2 dX4_readOne_85
  refine lv_istore_n (lv' := [(2, .int 1), (0, .ref rd), (1, .int 3)]) hx hb dX4_readOne_9 rfl hl (by decide) rfl (fun ls hl => ?_)
  refine lv_iload_n hx hb dX4_readOne_10 rfl (lv_at hl 0 rfl) ?_
  refine lv_if_ne (tgt := 31) hx hb dX4_readOne_11 (by decide) (fun c_249 => ?_) (fun c_249 => absurd c_249 (by decide))
  refine lv_iload_n hx hb dX4_readOne_31 rfl (lv_at hl 2 rfl) ?_
  refine lv_bipush (v := 6) hx hb dX4_readOne_32 (by decide) ?_
  refine lv_icmp_lt (tgt := 50) hx hb dX4_readOne_34 (by decide) (fun c_250 => ?_) (fun c_250 => absurd (by decide) c_250)
  refine lv_aload_n hx hb dX4_readOne_50 rfl (lv_at hl 1 rfl) ?_
  refine va_get (D := D) (ci := 4) (v := .ref tp) (C := RX4) (T := TX4) (N := 8) hx hb hts hin4 hown hK hP krd e_35 rfl 0 (by decide) (hts (.fieldLink RX4 12 "HoneyHouse$RuleReader" "tape" "LHoneyHouse$Tape;") (List.mem_of_getElem? (i := 1) rfl)) (fun _ h9 => h9) rfl dX4_readOne_51 ?_
  have hFc := free_all hD hS hA
  refine va_callv (va_runV (As := []) (rest := []) ⟨hx, hb, hml, hown, hts⟩ (a_advance l D ws_30 ty_31 tp ktp tl te_2 ya_9 (nI ts_1) bb k_22 c9_23 t_24 f_41 H.size (by omega) (by omega) e_36 e_40 u_42) (cwV 0 hts gX4_readOne_X6_advance rfl rfl rfl (by decide +kernel) ⟨Nat.le_of_ble_eq_true rfl, Nat.le_of_ble_eq_true rfl⟩) ⟨fun a U g mk q => by obtain ⟨q0, q1, qP, qK, qD⟩ := q; exact ⟨q0, q1, qP, va_K.moved (u := U) (U := U.calling g mk a) (Vm.Alike.refl U.vm) qK, qD⟩, va_recv hK hP (ci := 6) (q0 := ktp) rfl e_36, fun U hU hW => ⟨rfl, by rw [hU], by rw [hU]; exact hP, va_K.moved hW.alike hK, hD.weaken (fun _ _ _ _ => trivial)⟩⟩ rfl rfl hl.1 rfl (lv_room (Nat.le_of_ble_eq_true rfl)) dX4_readOne_54 ⟨Nat.le_of_ble_eq_true rfl, Nat.le_of_ble_eq_true rfl⟩) hS (fun q _ h => hFc q h) hFc (fun u t H1 locs ht hvm w_252 hB hz1 hk1 hS => ?_)
  obtain ⟨ws_253, ty_254, hm_255, ht_257, hP1, hK1, hD1, hx_256⟩ := hB
  rw [ht] at hP1
  have hK := va_K.moved hvm.symm hK1
  have hD := hD1.weaken (fun _ _ _ h => hFc _ h)
  generalize H1 = H at hP1 hS ⊢
  have hP := hP1
  have e_258 := hm_255.objK e_35 (by decide)
  obtain ⟨g_260, e_259, h_261⟩ := hm_255.obj e_36
  obtain ⟨z_262, z_263, z_264, z_265, rfl⟩ := smX6 h_261
  obtain ⟨f_267, e_266⟩ := hm_255.arrI e_37
  have u_268 := ht_257 _ _ u_39
  obtain ⟨f_270, e_269⟩ := hm_255.arrI e_40
  have u_271 := ht_257 _ _ u_42
  have hsm := hsm.tr (hm_255.mono (by decide))
  have htx := htx.tr ht_257
  obtain ⟨k_272, s_273, e_274, h_275, h_276, h_277, e_278⟩ := hx_256
  refine lv_iload_n hx hb dX4_readOne_57 rfl (lv_at hl 0 rfl) ?_
  refine lv_if_ne (tgt := 86) hx hb dX4_readOne_58 (by decide) (fun c_279 => ?_) (fun c_279 => absurd c_279 (by decide))
  refine lv_aload_n hx hb dX4_readOne_86 rfl (lv_at hl 1 rfl) ?_
  refine lv_iload_n hx hb dX4_readOne_87 rfl (lv_at hl 2 rfl) ?_
  refine lv_iconst (v := 1) hx hb dX4_readOne_88 (by decide) ?_
  refine lv_iadd hx hb dX4_readOne_89 ?_
  refine tp_i (y := 4) (by decide) ?_
  have hFc := free_all hD hS hA
  refine va_calli (va_runV (As := [.int 4]) (rest := []) ⟨hx, hb, hml, hown, hts⟩ (r_readOne4 l D ws_253 ty_254 adK adV fo rd krd tp ktp cd bb tl  H.size (⟨s_273, e_274, cc_3, ra_4, rb_5, rc_6, rv_7, re_8, nI k_272, by omega, by omega, by omega, by omega, e_258, e_278, ⟨k_16, c9_17, t_18, f_267, e_266, u_268⟩, ⟨k_22, c9_23, t_24, f_270, e_269, u_271⟩⟩ : RS ws_253 ty_254 rd krd tp ktp cd bb tl)) (cwV 1 hts gX4_readOne_X4_readOne rfl rfl rfl (by decide +kernel) ⟨Nat.le_of_ble_eq_true rfl, Nat.le_of_ble_eq_true rfl⟩) ⟨fun a U g mk q => by obtain ⟨q0, q1, qP, qK, qD, qS⟩ := q; exact ⟨q0, q1, qP, va_K.moved (u := U) (U := U.calling g mk a) (Vm.Alike.refl U.vm) qK, qD, SZ.same rfl rfl qS⟩, va_recv hK hP (ci := 4) (q0 := krd) rfl e_258, fun U hU hW => ⟨rfl, by rw [hU], by rw [hU]; exact hP, va_K.moved hW.alike hK, hD.weaken (fun _ _ _ _ => trivial), hsz9.go hS hW hU hFc⟩⟩ rfl rfl hl.1 rfl (lv_room (Nat.le_of_ble_eq_true rfl)) dX4_readOne_90 ⟨Nat.le_of_ble_eq_true rfl, Nat.le_of_ble_eq_true rfl⟩) hS (fun q _ h => hFc q h) hFc (fun r_280 u t H1 locs ht hvm w_281 hB hz1 hk1 hS => ?_)
  obtain ⟨ws_282, ty_283, hm_284, ht_286, hP1, hK1, hD1, hx_285⟩ := hB
  rw [ht] at hP1
  have hK := va_K.moved hvm.symm hK1
  have hD := hD1.weaken (fun _ _ _ h => hFc _ h)
  generalize H1 = H at hP1 hS ⊢
  have hP := hP1
  obtain ⟨g_288, e_287, h_289⟩ := hm_284.obj e_258
  obtain ⟨z_290, z_291, z_292, z_293, z_294, z_295, rfl⟩ := smX4 h_289
  obtain ⟨g_297, e_296, h_298⟩ := hm_284.obj e_278
  obtain ⟨z_299, z_300, z_301, z_302, rfl⟩ := smX6 h_298
  obtain ⟨f_304, e_303⟩ := hm_284.arrI e_266
  have u_305 := ht_286 _ _ u_268
  obtain ⟨f_307, e_306⟩ := hm_284.arrI e_269
  have u_308 := ht_286 _ _ u_271
  have hsm := hsm.tr (hm_284.mono (by decide))
  have htx := htx.tr ht_286
  obtain ⟨ts_309, te_310, cc_311, ra_312, rb_313, rc_314, rv_315, re_316, ya_317, h1_318, h2_319, h3_320, h4_321, er_322, et_323, ⟨k_324, c9_325, t_326, f_327, e_328, u_329⟩, ⟨k_330, c9_331, t_332, f_333, e_334, u_335⟩⟩ := id hx_285
  refine lv_istore_n (lv' := [(3, .int r_280), (2, .int 1), (0, .ref rd), (1, .int 3)]) hx hb dX4_readOne_93 rfl hl (by decide) rfl (fun ls hl => ?_)
  refine lv_aload_n hx hb dX4_readOne_94 rfl (lv_at hl 2 rfl) ?_
  refine lv_iconst (v := (-1)) hx hb dX4_readOne_95 (by decide) ?_
  have hFc := free_all hD hS hA
  refine va_callv (va_runV (As := [.int (-1)]) (rest := []) ⟨hx, hb, hml, hown, hts⟩ (r_addCode l D ws_282 ty_283 adK adV fo rd krd tp ktp cd bb tl (-1) H.size (⟨ts_309, te_310, cc_311, ra_312, rb_313, rc_314, rv_315, re_316, ya_317, by omega, by omega, by omega, by omega, er_322, et_323, ⟨k_324, c9_325, t_326, f_327, e_328, u_329⟩, ⟨k_330, c9_331, t_332, f_333, e_334, u_335⟩⟩ : RS ws_282 ty_283 rd krd tp ktp cd bb tl)) (cwV 1 hts gX4_readOne_X4_addCode rfl rfl rfl (by decide +kernel) ⟨Nat.le_of_ble_eq_true rfl, Nat.le_of_ble_eq_true rfl⟩) ⟨fun a U g mk q => by obtain ⟨q0, q1, qP, qK, qD, qS⟩ := q; exact ⟨q0, q1, qP, va_K.moved (u := U) (U := U.calling g mk a) (Vm.Alike.refl U.vm) qK, qD, SZ.same rfl rfl qS⟩, va_recv hK hP (ci := 4) (q0 := krd) rfl er_322, fun U hU hW => ⟨rfl, by rw [hU], by rw [hU]; exact hP, va_K.moved hW.alike hK, hD.weaken (fun _ _ _ _ => trivial), hsz9.go hS hW hU hFc⟩⟩ rfl rfl hl.1 rfl (lv_room (Nat.le_of_ble_eq_true rfl)) dX4_readOne_96 ⟨Nat.le_of_ble_eq_true rfl, Nat.le_of_ble_eq_true rfl⟩) hS (fun q _ h => hFc q h) hFc (fun u t H1 locs ht hvm w_337 hB hz1 hk1 hS => ?_)
  obtain ⟨ws_338, ty_339, hm_340, ht_342, hP1, hK1, hD1, hx_341⟩ := hB
  rw [ht] at hP1
  have hK := va_K.moved hvm.symm hK1
  have hD := hD1.weaken (fun _ _ _ h => hFc _ h)
  generalize H1 = H at hP1 hS ⊢
  have hP := hP1
  obtain ⟨g_344, e_343, h_345⟩ := hm_340.obj er_322
  obtain ⟨z_346, z_347, z_348, z_349, z_350, z_351, rfl⟩ := smX4 h_345
  obtain ⟨g_353, e_352, h_354⟩ := hm_340.obj et_323
  obtain ⟨z_355, z_356, z_357, z_358, rfl⟩ := smX6 h_354
  obtain ⟨f_360, e_359⟩ := hm_340.arrI e_328
  have u_361 := ht_342 _ _ u_329
  obtain ⟨f_363, e_362⟩ := hm_340.arrI e_334
  have u_364 := ht_342 _ _ u_335
  have hsm := hsm.tr (hm_340.mono (by decide))
  have htx := htx.tr ht_342
  obtain ⟨ts_365, te_366, cc_367, ra_368, rb_369, rc_370, rv_371, re_372, ya_373, h1_374, h2_375, h3_376, h4_377, er_378, et_379, ⟨k_380, c9_381, t_382, f_383, e_384, u_385⟩, ⟨k_386, c9_387, t_388, f_389, e_390, u_391⟩⟩ := id hx_341
  refine lv_iload_n hx hb dX4_readOne_99 rfl (lv_at hl 0 rfl) ?_
  exact W.zret (v := r_280) hx hb hr (by rcases w_281 with h9 | h9 <;> rw [h9] <;> rfl) (fun t ht hW => ⟨⟨r_280, (), rfl, w_281, ws_338, ty_339, hsm, htx, by rw [ht]; exact hP, va_K.moved hW.alike hK, hD, (⟨ts_365, te_366, cc_367, ra_368, rb_369, rc_370, rv_371, re_372, ya_373, by omega, by omega, by omega, by omega, er_378, et_379, ⟨k_380, c9_381, t_382, f_383, e_384, u_385⟩, ⟨k_386, c9_387, t_388, f_389, e_390, u_391⟩⟩ : RS ws_338 ty_339 rd krd tp ktp cd bb tl)⟩, hS.F ht⟩) hS.2.2 dX4_readOne_100
set_option maxHeartbeats 4000000 in
set_option maxRecDepth 100000 in
theorem r_readEither3 (l : Launch) (D : va_G) (ws : va_W) (tys : List (ClassId × FieldType)) (adK adV : Nat → Nat) (fo : Option Nat) (rd krd tp ktp cd bb tl : Nat)  (sz : Nat) (R0 : RS ws tys rd krd tp ktp cd bb tl)  : Met l yX4_readEither wsX4_readEither ({ frames := 14, cells := 0, slots := 0, locals := 316 }) (va_Pc [.ref rd, .int 3] (fun U => U.heap.size = sz ∧ va_P D vwCl ws U.heap ∧ va_K D vwCl tys U ∧ va_D (fun _ => True) ws ∧ SZ adK adV fo (va_A ws sz) U U.heap)) (va_Qi (fun (r : Int32) (_ : Unit) => r = 0 ∨ r = 1) (fun (_ : Unit) (t : State) => ∃ (ws' : va_W) (tys' : List (ClassId × FieldType)), sm [4, 6] ws ws' ∧ tyx tys tys' ∧ va_P D vwCl ws' t.heap ∧ va_K D vwCl tys' t ∧ va_D (va_A ws sz) ws' ∧ RS ws' tys' rd krd tp ktp cd bb tl) (va_A ws sz)) 0 0 (va_A ws sz) := by
  refine Met.ofW (cc := cX4_readEither) (maxL := 6) (ret := (some .boolean)) (by decide) rfl ?_
  intro p e s m args below meth c s₁ B hml hv
  obtain ⟨rfl, hsz, hP, hK, hD0, hsz9⟩ := hv
  have hx := B.exec
  have hb := B.bytes
  have hr := B.returns
  have hts := atoms_spec (ws := wsX4_readEither) B.pre
  have hown : s.vm.findClass RX4 = some m.cls := findClass_of_methodNamed B.named
  have hlocks := B.notSynchronized
  subst hsz
  have hD := hD0.self (sz := s.heap.size)
  generalize hAe : va_A ws s.heap.size = A at hD hsz9 ⊢
  have hA : ∀ q : Nat, s.heap.size ≤ q → A q := fun q h => by rw [← hAe]; exact Or.inr h
  have hS : va_S A s.heap s.heap [] := va_S.rf
  have hsm : sm [4, 6] ws ws := sm.rf ws
  have htx : tyx tys tys := tyx.rf tys
  have hin4 : ∀ w ∈ u_ws RX4 TX4 8, w ∈ wsX4_readEither := (fun _ h9 => List.mem_cons_of_mem _ (List.mem_append_left _ ((List.mem_append_right _ h9))))
  have hl := lv_entry ([.ref rd, .int 3]) (n := 6) (Nat.le_of_ble_eq_true rfl)
  rw [lg_entry_eq]
  generalize (lg_sl ([.ref rd, .int 3]) ++ List.replicate (6 - (lg_sl ([.ref rd, .int 3])).length) Slot.unset).toArray = ls at hl ⊢
  have hl : lv_has ls 6 [(0, .ref rd), (1, .int 3)] := hl
  obtain ⟨ts_1, te_2, cc_3, ra_4, rb_5, rc_6, rv_7, re_8, ya_9, h1_10, h2_11, h3_12, h4_13, er_14, et_15, ⟨k_16, c9_17, t_18, f_19, e_20, u_21⟩, ⟨k_22, c9_23, t_24, f_25, e_26, u_27⟩⟩ := id R0
  refine lv_aload_n hx hb dX4_readEither_0 rfl (lv_at hl 0 rfl) ?_
  refine lv_iload_n hx hb dX4_readEither_1 rfl (lv_at hl 1 rfl) ?_
  have hFc := free_all hD hS hA
  refine va_calli (va_runV (As := [.int 3]) (rest := []) ⟨hx, hb, hml, hown, hts⟩ (r_readOne3 l D ws tys adK adV fo rd krd tp ktp cd bb tl  s.heap.size (⟨ts_1, te_2, cc_3, ra_4, rb_5, rc_6, rv_7, re_8, ya_9, by omega, by omega, by omega, by omega, er_14, et_15, ⟨k_16, c9_17, t_18, f_19, e_20, u_21⟩, ⟨k_22, c9_23, t_24, f_25, e_26, u_27⟩⟩ : RS ws tys rd krd tp ktp cd bb tl)) (cwV 1 hts gX4_readEither_X4_readOne rfl rfl rfl (by decide +kernel) ⟨Nat.le_of_ble_eq_true rfl, Nat.le_of_ble_eq_true rfl⟩) ⟨fun a U g mk q => by obtain ⟨q0, q1, qP, qK, qD, qS⟩ := q; exact ⟨q0, q1, qP, va_K.moved (u := U) (U := U.calling g mk a) (Vm.Alike.refl U.vm) qK, qD, SZ.same rfl rfl qS⟩, va_recv hK hP (ci := 4) (q0 := krd) rfl er_14, fun U hU hW => ⟨rfl, by rw [hU], by rw [hU]; exact hP, va_K.moved hW.alike hK, hD.weaken (fun _ _ _ _ => trivial), hsz9.go hS hW hU hFc⟩⟩ rfl rfl hl.1 rfl (lv_room (Nat.le_of_ble_eq_true rfl)) dX4_readEither_2 ⟨Nat.le_of_ble_eq_true rfl, Nat.le_of_ble_eq_true rfl⟩) hS (fun q _ h => hFc q h) hFc (fun r_28 u t H1 locs ht hvm w_29 hB hz1 hk1 hS => ?_)
  obtain ⟨ws_30, ty_31, hm_32, ht_34, hP1, hK1, hD1, hx_33⟩ := hB
  rw [ht] at hP1
  have hK := va_K.moved hvm.symm hK1
  have hD := hD1.weaken (fun _ _ _ h => hFc _ h)
  generalize H1 = H at hP1 hS ⊢
  have hP := hP1
  obtain ⟨g_36, e_35, h_37⟩ := hm_32.obj er_14
  obtain ⟨z_38, z_39, z_40, z_41, z_42, z_43, rfl⟩ := smX4 h_37
  obtain ⟨g_45, e_44, h_46⟩ := hm_32.obj et_15
  obtain ⟨z_47, z_48, z_49, z_50, rfl⟩ := smX6 h_46
  obtain ⟨f_52, e_51⟩ := hm_32.arrI e_20
  have u_53 := ht_34 _ _ u_21
  obtain ⟨f_55, e_54⟩ := hm_32.arrI e_26
  have u_56 := ht_34 _ _ u_27
  have hsm := hsm.tr (hm_32.mono (by decide))
  have htx := htx.tr ht_34
  obtain ⟨ts_57, te_58, cc_59, ra_60, rb_61, rc_62, rv_63, re_64, ya_65, h1_66, h2_67, h3_68, h4_69, er_70, et_71, ⟨k_72, c9_73, t_74, f_75, e_76, u_77⟩, ⟨k_78, c9_79, t_80, f_81, e_82, u_83⟩⟩ := id hx_33
  refine lv_istore_n (lv' := [(2, .int r_28), (0, .ref rd), (1, .int 3)]) hx hb dX4_readEither_5 rfl hl (by decide) rfl (fun ls hl => ?_)
  refine lv_iconst (v := 0) hx hb dX4_readEither_6 (by decide) ?_
  refine lv_istore_n (lv' := [(3, .int 0), (2, .int r_28), (0, .ref rd), (1, .int 3)]) hx hb dX4_readEither_7 rfl hl (by decide) rfl (fun ls hl => ?_)
  refine lv_iconst (v := 0) hx hb dX4_readEither_8 (by decide) ?_
  refine lv_istore (lv' := [(4, .int 0), (3, .int 0), (2, .int r_28), (0, .ref rd), (1, .int 3)]) hx hb dX4_readEither_9 hl (by decide) rfl (fun ls hl => ?_)
  refine lp_V (nL := 6) (σ := Nat × Int32 × Int32) (lv := fun x9 => [(4, .int (nI x9.1)), (2, .int x9.2.1), (3, .int x9.2.2), (1, .int 3), (0, .ref rd)]) (μ := fun x9 => 400 - x9.1) (J := fun x9 ws9 => sm [4, 6] ws_30 ws9 ∧ (∃ ty9 : List (ClassId × FieldType), va_K D vwCl ty9 s ∧ tyx tys ty9 ∧ RS ws9 ty9 rd krd tp ktp cd bb tl) ∧ (x9.1 ≤ 400) ∧ (x9.2.1 = 0 ∨ x9.2.1 = 1) ∧ (x9.2.2 = 0 ∨ x9.2.2 = 1)) (fun x9 ws_91 H locs ls hj hP hD hS hl ih_84 => ?_) (0, r_28, 0) ws_30 _ _ ls ⟨sm.rf _, ⟨ty_31, hK, htx, (⟨ts_57, te_58, cc_59, ra_60, rb_61, rc_62, rv_63, re_64, ya_65, by omega, by omega, by omega, by omega, er_70, et_71, ⟨k_72, c9_73, t_74, f_75, e_76, u_77⟩, ⟨k_78, c9_79, t_80, f_81, e_82, u_83⟩⟩ : RS ws_30 ty_31 rd krd tp ktp cd bb tl)⟩, (show 0 ≤ 400 from by omega), (show r_28 = 0 ∨ r_28 = 1 from w_29), (show 0 = 0 ∨ 0 = 1 from Or.inl rfl)⟩ hP hD hS (lv_sub hl [0, 2, 1, 4, 3] rfl)
  obtain ⟨i_85, x_86, y_87⟩ := x9
  have hj : sm [4, 6] ws_30 ws_91 ∧ (∃ ty9 : List (ClassId × FieldType), va_K D vwCl ty9 s ∧ tyx tys ty9 ∧ RS ws_91 ty9 rd krd tp ktp cd bb tl) ∧ (i_85 ≤ 400) ∧ (x_86 = 0 ∨ x_86 = 1) ∧ (y_87 = 0 ∨ y_87 = 1) := hj
  obtain ⟨hm_92, hR_94, hi_88, hbx_89, hby_90⟩ := hj
  obtain ⟨g_96, e_95, h_97⟩ := hm_92.obj er_70
  obtain ⟨z_98, z_99, z_100, z_101, z_102, z_103, rfl⟩ := smX4 h_97
  obtain ⟨g_105, e_104, h_106⟩ := hm_92.obj et_71
  obtain ⟨z_107, z_108, z_109, z_110, rfl⟩ := smX6 h_106
  obtain ⟨f_112, e_111⟩ := hm_92.arrI e_76
  obtain ⟨f_114, e_113⟩ := hm_92.arrI e_82
  have hsm := hsm.tr (hm_92.mono (by decide))
  obtain ⟨ty_115, hK, htx, hR_116⟩ := hR_94
  obtain ⟨ts_117, te_118, cc_119, ra_120, rb_121, rc_122, rv_123, re_124, ya_125, h1_126, h2_127, h3_128, h4_129, er_130, et_131, ⟨k_132, c9_133, t_134, f_135, e_136, u_137⟩, ⟨k_138, c9_139, t_140, f_141, e_142, u_143⟩⟩ := id hR_116
  have hlp_93 := hm_92
  have hl : lv_has ls 6 [(4, .int (nI i_85)), (2, .int x_86), (3, .int y_87), (1, .int 3), (0, .ref rd)] := hl
  refine lv_iload hx hb dX4_readEither_11 (lv_at hl 0 rfl) ?_
  refine lv_sipush (v := 400) hx hb dX4_readEither_13 (by decide) ?_
  refine lv_icmp_ge (tgt := 101) hx hb dX4_readEither_16 (by decide) (fun c_144 => ?_) (fun c_144 => ?_)
  · have d_145 := n_le (a := 400) (b := i_85) (by omega) (by omega) c_144
    refine lv_iload_n hx hb dX4_readEither_101 rfl (lv_at hl 2 rfl) ?_
    refine lv_if_eq (tgt := 111) hx hb dX4_readEither_102 (by decide) (fun c_146 => ?_) (fun c_146 => ?_)
    · refine lv_iload_n hx hb dX4_readEither_111 rfl (lv_at hl 1 rfl) ?_
      exact W.zret (v := x_86) hx hb hr (by rcases hbx_89 with h9 | h9 <;> rw [h9] <;> rfl) (fun t ht hW => ⟨⟨x_86, (), rfl, hbx_89, ws_91, ty_115, hsm, htx, by rw [ht]; exact hP, va_K.moved hW.alike hK, hD, (⟨ts_117, te_118, cc_119, ra_120, rb_121, rc_122, rv_123, re_124, ya_125, by omega, by omega, by omega, by omega, er_130, et_131, ⟨k_132, c9_133, t_134, f_135, e_136, u_137⟩, ⟨k_138, c9_139, t_140, f_141, e_142, u_143⟩⟩ : RS ws_91 ty_115 rd krd tp ktp cd bb tl)⟩, hS.F ht⟩) hS.2.2 dX4_readEither_112
    refine lv_aload_n hx hb dX4_readEither_105 rfl (lv_at hl 4 rfl) ?_
    refine lv_bipush (v := (-3)) hx hb dX4_readEither_106 (by decide) ?_
    have hFc := free_all hD hS hA
    refine va_callv (va_runV (As := [.int (-3)]) (rest := []) ⟨hx, hb, hml, hown, hts⟩ (r_addCode l D ws_91 ty_115 adK adV fo rd krd tp ktp cd bb tl (-3) H.size (⟨ts_117, te_118, cc_119, ra_120, rb_121, rc_122, rv_123, re_124, ya_125, by omega, by omega, by omega, by omega, er_130, et_131, ⟨k_132, c9_133, t_134, f_135, e_136, u_137⟩, ⟨k_138, c9_139, t_140, f_141, e_142, u_143⟩⟩ : RS ws_91 ty_115 rd krd tp ktp cd bb tl)) (cwV 1 hts gX4_readEither_X4_addCode rfl rfl rfl (by decide +kernel) ⟨Nat.le_of_ble_eq_true rfl, Nat.le_of_ble_eq_true rfl⟩) ⟨fun a U g mk q => by obtain ⟨q0, q1, qP, qK, qD, qS⟩ := q; exact ⟨q0, q1, qP, va_K.moved (u := U) (U := U.calling g mk a) (Vm.Alike.refl U.vm) qK, qD, SZ.same rfl rfl qS⟩, va_recv hK hP (ci := 4) (q0 := krd) rfl er_130, fun U hU hW => ⟨rfl, by rw [hU], by rw [hU]; exact hP, va_K.moved hW.alike hK, hD.weaken (fun _ _ _ _ => trivial), hsz9.go hS hW hU hFc⟩⟩ rfl rfl hl.1 rfl (lv_room (Nat.le_of_ble_eq_true rfl)) dX4_readEither_108 ⟨Nat.le_of_ble_eq_true rfl, Nat.le_of_ble_eq_true rfl⟩) hS (fun q _ h => hFc q h) hFc (fun u t H1 locs ht hvm w_148 hB hz1 hk1 hS => ?_)
    obtain ⟨ws_149, ty_150, hm_151, ht_153, hP1, hK1, hD1, hx_152⟩ := hB
    rw [ht] at hP1
    have hK := va_K.moved hvm.symm hK1
    have hD := hD1.weaken (fun _ _ _ h => hFc _ h)
    generalize H1 = H at hP1 hS ⊢
    have hP := hP1
    obtain ⟨g_155, e_154, h_156⟩ := hm_151.obj er_130
    obtain ⟨z_157, z_158, z_159, z_160, z_161, z_162, rfl⟩ := smX4 h_156
    obtain ⟨g_164, e_163, h_165⟩ := hm_151.obj et_131
    obtain ⟨z_166, z_167, z_168, z_169, rfl⟩ := smX6 h_165
    obtain ⟨f_171, e_170⟩ := hm_151.arrI e_136
    have u_172 := ht_153 _ _ u_137
    obtain ⟨f_174, e_173⟩ := hm_151.arrI e_142
    have u_175 := ht_153 _ _ u_143
    have hsm := hsm.tr (hm_151.mono (by decide))
    have hlp_93 := hlp_93.tr (hm_151.mono (by decide))
    have htx := htx.tr ht_153
    obtain ⟨ts_176, te_177, cc_178, ra_179, rb_180, rc_181, rv_182, re_183, ya_184, h1_185, h2_186, h3_187, h4_188, er_189, et_190, ⟨k_191, c9_192, t_193, f_194, e_195, u_196⟩, ⟨k_197, c9_198, t_199, f_200, e_201, u_202⟩⟩ := id hx_152
    refine lv_iload_n hx hb dX4_readEither_111 rfl (lv_at hl 1 rfl) ?_
    exact W.zret (v := x_86) hx hb hr (by rcases hbx_89 with h9 | h9 <;> rw [h9] <;> rfl) (fun t ht hW => ⟨⟨x_86, (), rfl, hbx_89, ws_149, ty_150, hsm, htx, by rw [ht]; exact hP, va_K.moved hW.alike hK, hD, (⟨ts_176, te_177, cc_178, ra_179, rb_180, rc_181, rv_182, re_183, ya_184, by omega, by omega, by omega, by omega, er_189, et_190, ⟨k_191, c9_192, t_193, f_194, e_195, u_196⟩, ⟨k_197, c9_198, t_199, f_200, e_201, u_202⟩⟩ : RS ws_149 ty_150 rd krd tp ktp cd bb tl)⟩, hS.F ht⟩) hS.2.2 dX4_readEither_112
  have d_203 := n_nle (a := 400) (b := i_85) (by omega) (by omega) c_144
  refine lv_iload_n hx hb dX4_readEither_19 rfl (lv_at hl 1 rfl) ?_
  refine lv_if_eq (tgt := 101) hx hb dX4_readEither_20 (by decide) (fun c_204 => ?_) (fun c_204 => ?_)
  · refine lv_iload_n hx hb dX4_readEither_101 rfl (lv_at hl 2 rfl) ?_
    refine lv_if_eq (tgt := 111) hx hb dX4_readEither_102 (by decide) (fun c_205 => ?_) (fun c_205 => ?_)
    · refine lv_iload_n hx hb dX4_readEither_111 rfl (lv_at hl 1 rfl) ?_
      exact W.zret (v := x_86) hx hb hr (by rcases hbx_89 with h9 | h9 <;> rw [h9] <;> rfl) (fun t ht hW => ⟨⟨x_86, (), rfl, hbx_89, ws_91, ty_115, hsm, htx, by rw [ht]; exact hP, va_K.moved hW.alike hK, hD, (⟨ts_117, te_118, cc_119, ra_120, rb_121, rc_122, rv_123, re_124, ya_125, by omega, by omega, by omega, by omega, er_130, et_131, ⟨k_132, c9_133, t_134, f_135, e_136, u_137⟩, ⟨k_138, c9_139, t_140, f_141, e_142, u_143⟩⟩ : RS ws_91 ty_115 rd krd tp ktp cd bb tl)⟩, hS.F ht⟩) hS.2.2 dX4_readEither_112
    refine lv_aload_n hx hb dX4_readEither_105 rfl (lv_at hl 4 rfl) ?_
    refine lv_bipush (v := (-3)) hx hb dX4_readEither_106 (by decide) ?_
    have hFc := free_all hD hS hA
    refine va_callv (va_runV (As := [.int (-3)]) (rest := []) ⟨hx, hb, hml, hown, hts⟩ (r_addCode l D ws_91 ty_115 adK adV fo rd krd tp ktp cd bb tl (-3) H.size (⟨ts_117, te_118, cc_119, ra_120, rb_121, rc_122, rv_123, re_124, ya_125, by omega, by omega, by omega, by omega, er_130, et_131, ⟨k_132, c9_133, t_134, f_135, e_136, u_137⟩, ⟨k_138, c9_139, t_140, f_141, e_142, u_143⟩⟩ : RS ws_91 ty_115 rd krd tp ktp cd bb tl)) (cwV 1 hts gX4_readEither_X4_addCode rfl rfl rfl (by decide +kernel) ⟨Nat.le_of_ble_eq_true rfl, Nat.le_of_ble_eq_true rfl⟩) ⟨fun a U g mk q => by obtain ⟨q0, q1, qP, qK, qD, qS⟩ := q; exact ⟨q0, q1, qP, va_K.moved (u := U) (U := U.calling g mk a) (Vm.Alike.refl U.vm) qK, qD, SZ.same rfl rfl qS⟩, va_recv hK hP (ci := 4) (q0 := krd) rfl er_130, fun U hU hW => ⟨rfl, by rw [hU], by rw [hU]; exact hP, va_K.moved hW.alike hK, hD.weaken (fun _ _ _ _ => trivial), hsz9.go hS hW hU hFc⟩⟩ rfl rfl hl.1 rfl (lv_room (Nat.le_of_ble_eq_true rfl)) dX4_readEither_108 ⟨Nat.le_of_ble_eq_true rfl, Nat.le_of_ble_eq_true rfl⟩) hS (fun q _ h => hFc q h) hFc (fun u t H1 locs ht hvm w_207 hB hz1 hk1 hS => ?_)
    obtain ⟨ws_208, ty_209, hm_210, ht_212, hP1, hK1, hD1, hx_211⟩ := hB
    rw [ht] at hP1
    have hK := va_K.moved hvm.symm hK1
    have hD := hD1.weaken (fun _ _ _ h => hFc _ h)
    generalize H1 = H at hP1 hS ⊢
    have hP := hP1
    obtain ⟨g_214, e_213, h_215⟩ := hm_210.obj er_130
    obtain ⟨z_216, z_217, z_218, z_219, z_220, z_221, rfl⟩ := smX4 h_215
    obtain ⟨g_223, e_222, h_224⟩ := hm_210.obj et_131
    obtain ⟨z_225, z_226, z_227, z_228, rfl⟩ := smX6 h_224
    obtain ⟨f_230, e_229⟩ := hm_210.arrI e_136
    have u_231 := ht_212 _ _ u_137
    obtain ⟨f_233, e_232⟩ := hm_210.arrI e_142
    have u_234 := ht_212 _ _ u_143
    have hsm := hsm.tr (hm_210.mono (by decide))
    have hlp_93 := hlp_93.tr (hm_210.mono (by decide))
    have htx := htx.tr ht_212
    obtain ⟨ts_235, te_236, cc_237, ra_238, rb_239, rc_240, rv_241, re_242, ya_243, h1_244, h2_245, h3_246, h4_247, er_248, et_249, ⟨k_250, c9_251, t_252, f_253, e_254, u_255⟩, ⟨k_256, c9_257, t_258, f_259, e_260, u_261⟩⟩ := id hx_211
    refine lv_iload_n hx hb dX4_readEither_111 rfl (lv_at hl 1 rfl) ?_
    exact W.zret (v := x_86) hx hb hr (by rcases hbx_89 with h9 | h9 <;> rw [h9] <;> rfl) (fun t ht hW => ⟨⟨x_86, (), rfl, hbx_89, ws_208, ty_209, hsm, htx, by rw [ht]; exact hP, va_K.moved hW.alike hK, hD, (⟨ts_235, te_236, cc_237, ra_238, rb_239, rc_240, rv_241, re_242, ya_243, by omega, by omega, by omega, by omega, er_248, et_249, ⟨k_250, c9_251, t_252, f_253, e_254, u_255⟩, ⟨k_256, c9_257, t_258, f_259, e_260, u_261⟩⟩ : RS ws_208 ty_209 rd krd tp ktp cd bb tl)⟩, hS.F ht⟩) hS.2.2 dX4_readEither_112
  refine lv_aload_n hx hb dX4_readEither_23 rfl (lv_at hl 4 rfl) ?_
  have hFc := free_all hD hS hA
  refine va_calli (va_runV (As := []) (rest := []) ⟨hx, hb, hml, hown, hts⟩ (r_isAndOr l D ws_91 ty_115 adK adV fo rd krd tp ktp cd bb tl  H.size (⟨ts_117, te_118, cc_119, ra_120, rb_121, rc_122, rv_123, re_124, ya_125, by omega, by omega, by omega, by omega, er_130, et_131, ⟨k_132, c9_133, t_134, f_135, e_136, u_137⟩, ⟨k_138, c9_139, t_140, f_141, e_142, u_143⟩⟩ : RS ws_91 ty_115 rd krd tp ktp cd bb tl)) (cwV 0 hts gX4_readEither_X4_isAndOr rfl rfl rfl (by decide +kernel) ⟨Nat.le_of_ble_eq_true rfl, Nat.le_of_ble_eq_true rfl⟩) ⟨fun a U g mk q => by obtain ⟨q0, q1, qP, qK, qD, qS⟩ := q; exact ⟨q0, q1, qP, va_K.moved (u := U) (U := U.calling g mk a) (Vm.Alike.refl U.vm) qK, qD, SZ.same rfl rfl qS⟩, va_recv hK hP (ci := 4) (q0 := krd) rfl er_130, fun U hU hW => ⟨rfl, by rw [hU], by rw [hU]; exact hP, va_K.moved hW.alike hK, hD.weaken (fun _ _ _ _ => trivial), hsz9.go hS hW hU hFc⟩⟩ rfl rfl hl.1 rfl (lv_room (Nat.le_of_ble_eq_true rfl)) dX4_readEither_24 ⟨Nat.le_of_ble_eq_true rfl, Nat.le_of_ble_eq_true rfl⟩) hS (fun q _ h => hFc q h) hFc (fun r_262 u t H1 locs ht hvm w_263 hB hz1 hk1 hS => ?_)
  obtain ⟨ws_264, ty_265, hm_266, ht_268, hP1, hK1, hD1, hx_267⟩ := hB
  rw [ht] at hP1
  have hK := va_K.moved hvm.symm hK1
  have hD := hD1.weaken (fun _ _ _ h => hFc _ h)
  generalize H1 = H at hP1 hS ⊢
  have hP := hP1
  have e_269 := hm_266.objK er_130 (by decide)
  have e_270 := hm_266.objK et_131 (by decide)
  obtain ⟨f_272, e_271⟩ := hm_266.arrI e_136
  have u_273 := ht_268 _ _ u_137
  obtain ⟨f_275, e_274⟩ := hm_266.arrI e_142
  have u_276 := ht_268 _ _ u_143
  have hsm := hsm.tr (hm_266.mono (by decide))
  have hlp_93 := hlp_93.tr (hm_266.mono (by decide))
  have htx := htx.tr ht_268
  rcases w_263 with rfl | rfl
  · refine lv_if_eq (tgt := 101) hx hb dX4_readEither_27 (by decide) (fun c_277 => ?_) (fun c_277 => absurd (by decide) c_277)
    refine lv_iload_n hx hb dX4_readEither_101 rfl (lv_at hl 2 rfl) ?_
    refine lv_if_eq (tgt := 111) hx hb dX4_readEither_102 (by decide) (fun c_278 => ?_) (fun c_278 => ?_)
    · refine lv_iload_n hx hb dX4_readEither_111 rfl (lv_at hl 1 rfl) ?_
      exact W.zret (v := x_86) hx hb hr (by rcases hbx_89 with h9 | h9 <;> rw [h9] <;> rfl) (fun t ht hW => ⟨⟨x_86, (), rfl, hbx_89, ws_264, ty_265, hsm, htx, by rw [ht]; exact hP, va_K.moved hW.alike hK, hD, (⟨ts_117, te_118, cc_119, ra_120, rb_121, rc_122, rv_123, re_124, ya_125, by omega, by omega, by omega, by omega, e_269, e_270, ⟨k_132, c9_133, t_134, f_272, e_271, u_273⟩, ⟨k_138, c9_139, t_140, f_275, e_274, u_276⟩⟩ : RS ws_264 ty_265 rd krd tp ktp cd bb tl)⟩, hS.F ht⟩) hS.2.2 dX4_readEither_112
    refine lv_aload_n hx hb dX4_readEither_105 rfl (lv_at hl 4 rfl) ?_
    refine lv_bipush (v := (-3)) hx hb dX4_readEither_106 (by decide) ?_
    have hFc := free_all hD hS hA
    refine va_callv (va_runV (As := [.int (-3)]) (rest := []) ⟨hx, hb, hml, hown, hts⟩ (r_addCode l D ws_264 ty_265 adK adV fo rd krd tp ktp cd bb tl (-3) H.size (⟨ts_117, te_118, cc_119, ra_120, rb_121, rc_122, rv_123, re_124, ya_125, by omega, by omega, by omega, by omega, e_269, e_270, ⟨k_132, c9_133, t_134, f_272, e_271, u_273⟩, ⟨k_138, c9_139, t_140, f_275, e_274, u_276⟩⟩ : RS ws_264 ty_265 rd krd tp ktp cd bb tl)) (cwV 1 hts gX4_readEither_X4_addCode rfl rfl rfl (by decide +kernel) ⟨Nat.le_of_ble_eq_true rfl, Nat.le_of_ble_eq_true rfl⟩) ⟨fun a U g mk q => by obtain ⟨q0, q1, qP, qK, qD, qS⟩ := q; exact ⟨q0, q1, qP, va_K.moved (u := U) (U := U.calling g mk a) (Vm.Alike.refl U.vm) qK, qD, SZ.same rfl rfl qS⟩, va_recv hK hP (ci := 4) (q0 := krd) rfl e_269, fun U hU hW => ⟨rfl, by rw [hU], by rw [hU]; exact hP, va_K.moved hW.alike hK, hD.weaken (fun _ _ _ _ => trivial), hsz9.go hS hW hU hFc⟩⟩ rfl rfl hl.1 rfl (lv_room (Nat.le_of_ble_eq_true rfl)) dX4_readEither_108 ⟨Nat.le_of_ble_eq_true rfl, Nat.le_of_ble_eq_true rfl⟩) hS (fun q _ h => hFc q h) hFc (fun u t H1 locs ht hvm w_280 hB hz1 hk1 hS => ?_)
    obtain ⟨ws_281, ty_282, hm_283, ht_285, hP1, hK1, hD1, hx_284⟩ := hB
    rw [ht] at hP1
    have hK := va_K.moved hvm.symm hK1
    have hD := hD1.weaken (fun _ _ _ h => hFc _ h)
    generalize H1 = H at hP1 hS ⊢
    have hP := hP1
    obtain ⟨g_287, e_286, h_288⟩ := hm_283.obj e_269
    obtain ⟨z_289, z_290, z_291, z_292, z_293, z_294, rfl⟩ := smX4 h_288
    obtain ⟨g_296, e_295, h_297⟩ := hm_283.obj e_270
    obtain ⟨z_298, z_299, z_300, z_301, rfl⟩ := smX6 h_297
    obtain ⟨f_303, e_302⟩ := hm_283.arrI e_271
    have u_304 := ht_285 _ _ u_273
    obtain ⟨f_306, e_305⟩ := hm_283.arrI e_274
    have u_307 := ht_285 _ _ u_276
    have hsm := hsm.tr (hm_283.mono (by decide))
    have hlp_93 := hlp_93.tr (hm_283.mono (by decide))
    have htx := htx.tr ht_285
    obtain ⟨ts_308, te_309, cc_310, ra_311, rb_312, rc_313, rv_314, re_315, ya_316, h1_317, h2_318, h3_319, h4_320, er_321, et_322, ⟨k_323, c9_324, t_325, f_326, e_327, u_328⟩, ⟨k_329, c9_330, t_331, f_332, e_333, u_334⟩⟩ := id hx_284
    refine lv_iload_n hx hb dX4_readEither_111 rfl (lv_at hl 1 rfl) ?_
    exact W.zret (v := x_86) hx hb hr (by rcases hbx_89 with h9 | h9 <;> rw [h9] <;> rfl) (fun t ht hW => ⟨⟨x_86, (), rfl, hbx_89, ws_281, ty_282, hsm, htx, by rw [ht]; exact hP, va_K.moved hW.alike hK, hD, (⟨ts_308, te_309, cc_310, ra_311, rb_312, rc_313, rv_314, re_315, ya_316, by omega, by omega, by omega, by omega, er_321, et_322, ⟨k_323, c9_324, t_325, f_326, e_327, u_328⟩, ⟨k_329, c9_330, t_331, f_332, e_333, u_334⟩⟩ : RS ws_281 ty_282 rd krd tp ktp cd bb tl)⟩, hS.F ht⟩) hS.2.2 dX4_readEither_112
  refine lv_if_eq (tgt := 101) hx hb dX4_readEither_27 (by decide) (fun c_335 => absurd c_335 (by decide)) (fun c_335 => ?_)
  refine lv_aload_n hx hb dX4_readEither_30 rfl (lv_at hl 4 rfl) ?_
  refine va_get (D := D) (ci := 4) (v := .ref tp) (C := RX4) (T := TX4) (N := 8) hx hb hts hin4 hown hK hP krd e_269 rfl 0 (by decide) (hts (.fieldLink RX4 12 "HoneyHouse$RuleReader" "tape" "LHoneyHouse$Tape;") (List.mem_of_getElem? (i := 1) rfl)) (fun _ h9 => h9) rfl dX4_readEither_31 ?_
  refine va_ldcS hx hb hown hsz9.2.2.2.2.2.1 dX4_readEither_34 ?_
  have hFc := free_all hD hS hA
  refine va_calli (va_runV (As := [.ref (adK 2)]) (rest := []) ⟨hx, hb, hml, hown, hts⟩ (a_isWord l D ws_264 ty_265 adK adV fo 2 tp ktp tl ya_125 (nI ts_117) (nI te_118) bb k_138 c9_139 t_140 f_275 H.size (by decide) e_270 e_274 u_276) (cwV 1 hts gX4_readEither_X6_isWord rfl rfl rfl (by decide +kernel) ⟨Nat.le_of_ble_eq_true rfl, Nat.le_of_ble_eq_true rfl⟩) ⟨fun a U g mk q => by obtain ⟨q0, q1, qP, qK, qD, qS⟩ := q; exact ⟨q0, q1, qP, va_K.moved (u := U) (U := U.calling g mk a) (Vm.Alike.refl U.vm) qK, qD, SZ.same rfl rfl qS⟩, va_recv hK hP (ci := 6) (q0 := ktp) rfl e_270, fun U hU hW => ⟨rfl, by rw [hU], by rw [hU]; exact hP, va_K.moved hW.alike hK, hD.weaken (fun _ _ _ _ => trivial), hsz9.go hS hW hU hFc⟩⟩ rfl rfl hl.1 rfl (lv_room (Nat.le_of_ble_eq_true rfl)) dX4_readEither_36 ⟨Nat.le_of_ble_eq_true rfl, Nat.le_of_ble_eq_true rfl⟩) hS (fun q _ h => hFc q h) hFc (fun r_336 u t H1 locs ht hvm w_337 hB hz1 hk1 hS => ?_)
  obtain ⟨ws_338, ty_339, hm_340, ht_342, hP1, hK1, hD1, hx_341⟩ := hB
  rw [ht] at hP1
  have hK := va_K.moved hvm.symm hK1
  have hD := hD1.weaken (fun _ _ _ h => hFc _ h)
  generalize H1 = H at hP1 hS ⊢
  have hP := hP1
  have e_343 := hm_340.objK e_269 (by decide)
  have e_344 := hm_340.objK e_270 (by decide)
  obtain ⟨f_346, e_345⟩ := hm_340.arrI e_271
  have u_347 := ht_342 _ _ u_273
  obtain ⟨f_349, e_348⟩ := hm_340.arrI e_274
  have u_350 := ht_342 _ _ u_276
  have hsm := hsm.tr (hm_340.mono (by decide))
  have hlp_93 := hlp_93.tr (hm_340.mono (by decide))
  have htx := htx.tr ht_342
  rcases w_337 with rfl | rfl
  · refine lv_istore (lv' := [(5, .int 0), (4, .int (nI i_85)), (2, .int x_86), (3, .int y_87), (1, .int 3), (0, .ref rd)]) hx hb dX4_readEither_39 hl (by decide) rfl (fun ls hl => ?_)
    refine lv_iload hx hb dX4_readEither_41 (lv_at hl 0 rfl) ?_
    refine lv_if_ne (tgt := 56) hx hb dX4_readEither_43 (by decide) (fun c_351 => absurd (by decide) c_351) (fun c_351 => ?_)
    refine lv_iload_n hx hb dX4_readEither_46 rfl (lv_at hl 3 rfl) ?_
    refine lv_if_eq (tgt := 56) hx hb dX4_readEither_47 (by decide) (fun c_352 => ?_) (fun c_352 => ?_)
    · refine lv_iload_n hx hb dX4_readEither_56 rfl (lv_at hl 3 rfl) ?_
      refine lv_if_ne (tgt := 65) hx hb dX4_readEither_57 (by decide) (fun c_353 => ?_) (fun c_353 => ?_)
      · refine lv_iconst (v := 1) hx hb dX4_readEither_65 (by decide) ?_
        refine lv_goto (tgt := 70) hx hb dX4_readEither_66 (by decide) ?_
        refine lv_istore_n (lv' := [(3, .int 1), (5, .int 0), (4, .int (nI i_85)), (2, .int x_86), (1, .int 3), (0, .ref rd)]) hx hb dX4_readEither_70 rfl hl (by decide) rfl (fun ls hl => ?_)
        refine lv_aload_n hx hb dX4_readEither_71 rfl (lv_at hl 5 rfl) ?_
        refine va_get (D := D) (ci := 4) (v := .ref tp) (C := RX4) (T := TX4) (N := 8) hx hb hts hin4 hown hK hP krd e_343 rfl 0 (by decide) (hts (.fieldLink RX4 12 "HoneyHouse$RuleReader" "tape" "LHoneyHouse$Tape;") (List.mem_of_getElem? (i := 1) rfl)) (fun _ h9 => h9) rfl dX4_readEither_72 ?_
        have hFc := free_all hD hS hA
        refine va_callv (va_runV (As := []) (rest := []) ⟨hx, hb, hml, hown, hts⟩ (a_advance l D ws_338 ty_339 tp ktp tl te_118 ya_125 (nI ts_117) bb k_138 c9_139 t_140 f_349 H.size (by omega) (by omega) e_344 e_348 u_350) (cwV 0 hts gX4_readEither_X6_advance rfl rfl rfl (by decide +kernel) ⟨Nat.le_of_ble_eq_true rfl, Nat.le_of_ble_eq_true rfl⟩) ⟨fun a U g mk q => by obtain ⟨q0, q1, qP, qK, qD⟩ := q; exact ⟨q0, q1, qP, va_K.moved (u := U) (U := U.calling g mk a) (Vm.Alike.refl U.vm) qK, qD⟩, va_recv hK hP (ci := 6) (q0 := ktp) rfl e_344, fun U hU hW => ⟨rfl, by rw [hU], by rw [hU]; exact hP, va_K.moved hW.alike hK, hD.weaken (fun _ _ _ _ => trivial)⟩⟩ rfl rfl hl.1 rfl (lv_room (Nat.le_of_ble_eq_true rfl)) dX4_readEither_75 ⟨Nat.le_of_ble_eq_true rfl, Nat.le_of_ble_eq_true rfl⟩) hS (fun q _ h => hFc q h) hFc (fun u t H1 locs ht hvm w_355 hB hz1 hk1 hS => ?_)
        obtain ⟨ws_356, ty_357, hm_358, ht_360, hP1, hK1, hD1, hx_359⟩ := hB
        rw [ht] at hP1
        have hK := va_K.moved hvm.symm hK1
        have hD := hD1.weaken (fun _ _ _ h => hFc _ h)
        generalize H1 = H at hP1 hS ⊢
        have hP := hP1
        have e_361 := hm_358.objK e_343 (by decide)
        obtain ⟨g_363, e_362, h_364⟩ := hm_358.obj e_344
        obtain ⟨z_365, z_366, z_367, z_368, rfl⟩ := smX6 h_364
        obtain ⟨f_370, e_369⟩ := hm_358.arrI e_345
        have u_371 := ht_360 _ _ u_347
        obtain ⟨f_373, e_372⟩ := hm_358.arrI e_348
        have u_374 := ht_360 _ _ u_350
        have hsm := hsm.tr (hm_358.mono (by decide))
        have hlp_93 := hlp_93.tr (hm_358.mono (by decide))
        have htx := htx.tr ht_360
        obtain ⟨k_375, s_376, e_377, h_378, h_379, h_380, e_381⟩ := hx_359
        refine lv_aload_n hx hb dX4_readEither_78 rfl (lv_at hl 5 rfl) ?_
        refine lv_iload_n hx hb dX4_readEither_79 rfl (lv_at hl 4 rfl) ?_
        have hFc := free_all hD hS hA
        refine va_calli (va_runV (As := [.int 3]) (rest := []) ⟨hx, hb, hml, hown, hts⟩ (r_readOne3 l D ws_356 ty_357 adK adV fo rd krd tp ktp cd bb tl  H.size (⟨s_376, e_377, cc_119, ra_120, rb_121, rc_122, rv_123, re_124, nI k_375, by omega, by omega, by omega, by omega, e_361, e_381, ⟨k_132, c9_133, t_134, f_370, e_369, u_371⟩, ⟨k_138, c9_139, t_140, f_373, e_372, u_374⟩⟩ : RS ws_356 ty_357 rd krd tp ktp cd bb tl)) (cwV 1 hts gX4_readEither_X4_readOne rfl rfl rfl (by decide +kernel) ⟨Nat.le_of_ble_eq_true rfl, Nat.le_of_ble_eq_true rfl⟩) ⟨fun a U g mk q => by obtain ⟨q0, q1, qP, qK, qD, qS⟩ := q; exact ⟨q0, q1, qP, va_K.moved (u := U) (U := U.calling g mk a) (Vm.Alike.refl U.vm) qK, qD, SZ.same rfl rfl qS⟩, va_recv hK hP (ci := 4) (q0 := krd) rfl e_361, fun U hU hW => ⟨rfl, by rw [hU], by rw [hU]; exact hP, va_K.moved hW.alike hK, hD.weaken (fun _ _ _ _ => trivial), hsz9.go hS hW hU hFc⟩⟩ rfl rfl hl.1 rfl (lv_room (Nat.le_of_ble_eq_true rfl)) dX4_readEither_80 ⟨Nat.le_of_ble_eq_true rfl, Nat.le_of_ble_eq_true rfl⟩) hS (fun q _ h => hFc q h) hFc (fun r_382 u t H1 locs ht hvm w_383 hB hz1 hk1 hS => ?_)
        obtain ⟨ws_384, ty_385, hm_386, ht_388, hP1, hK1, hD1, hx_387⟩ := hB
        rw [ht] at hP1
        have hK := va_K.moved hvm.symm hK1
        have hD := hD1.weaken (fun _ _ _ h => hFc _ h)
        generalize H1 = H at hP1 hS ⊢
        have hP := hP1
        obtain ⟨g_390, e_389, h_391⟩ := hm_386.obj e_361
        obtain ⟨z_392, z_393, z_394, z_395, z_396, z_397, rfl⟩ := smX4 h_391
        obtain ⟨g_399, e_398, h_400⟩ := hm_386.obj e_381
        obtain ⟨z_401, z_402, z_403, z_404, rfl⟩ := smX6 h_400
        obtain ⟨f_406, e_405⟩ := hm_386.arrI e_369
        have u_407 := ht_388 _ _ u_371
        obtain ⟨f_409, e_408⟩ := hm_386.arrI e_372
        have u_410 := ht_388 _ _ u_374
        have hsm := hsm.tr (hm_386.mono (by decide))
        have hlp_93 := hlp_93.tr (hm_386.mono (by decide))
        have htx := htx.tr ht_388
        obtain ⟨ts_411, te_412, cc_413, ra_414, rb_415, rc_416, rv_417, re_418, ya_419, h1_420, h2_421, h3_422, h4_423, er_424, et_425, ⟨k_426, c9_427, t_428, f_429, e_430, u_431⟩, ⟨k_432, c9_433, t_434, f_435, e_436, u_437⟩⟩ := id hx_387
        refine lv_istore_n (lv' := [(2, .int r_382), (3, .int 1), (5, .int 0), (4, .int (nI i_85)), (1, .int 3), (0, .ref rd)]) hx hb dX4_readEither_83 rfl hl (by decide) rfl (fun ls hl => ?_)
        refine lv_iload hx hb dX4_readEither_84 (lv_at hl 2 rfl) ?_
        refine lv_if_eq (tgt := 95) hx hb dX4_readEither_86 (by decide) (fun c_438 => ?_) (fun c_438 => absurd (by decide) c_438)
        refine lv_iinc (v := nI (i_85 + 1)) (lv' := [(4, .int (nI (i_85 + 1))), (2, .int r_382), (3, .int 1), (5, .int 0), (1, .int 3), (0, .ref rd)]) hx hb dX4_readEither_95 hl (k := 3) rfl (nI_add i_85 1) (by decide) rfl (fun ls hl => ?_)
        refine lv_goto (tgt := 11) hx hb dX4_readEither_98 (by decide) ?_
        exact ih_84 (i_85 + 1, r_382, 1) ws_384 _ _ ls (by show 400 - (i_85 + 1) < 400 - i_85; omega) ⟨hlp_93, ⟨ty_385, hK, htx, (⟨ts_411, te_412, cc_413, ra_414, rb_415, rc_416, rv_417, re_418, ya_419, by omega, by omega, by omega, by omega, er_424, et_425, ⟨k_426, c9_427, t_428, f_429, e_430, u_431⟩, ⟨k_432, c9_433, t_434, f_435, e_436, u_437⟩⟩ : RS ws_384 ty_385 rd krd tp ktp cd bb tl)⟩, (show (i_85 + 1) ≤ 400 from by omega), (show r_382 = 0 ∨ r_382 = 1 from w_383), (show 1 = 0 ∨ 1 = 1 from Or.inr rfl)⟩ hP hD hS (lv_sub hl [0, 1, 2, 4, 5] rfl)
      refine lv_iload hx hb dX4_readEither_60 (lv_at hl 0 rfl) ?_
      refine lv_if_ne (tgt := 69) hx hb dX4_readEither_62 (by decide) (fun c_439 => absurd (by decide) c_439) (fun c_439 => ?_)
      refine lv_iconst (v := 1) hx hb dX4_readEither_65 (by decide) ?_
      refine lv_goto (tgt := 70) hx hb dX4_readEither_66 (by decide) ?_
      refine lv_istore_n (lv' := [(3, .int 1), (5, .int 0), (4, .int (nI i_85)), (2, .int x_86), (1, .int 3), (0, .ref rd)]) hx hb dX4_readEither_70 rfl hl (by decide) rfl (fun ls hl => ?_)
      refine lv_aload_n hx hb dX4_readEither_71 rfl (lv_at hl 5 rfl) ?_
      refine va_get (D := D) (ci := 4) (v := .ref tp) (C := RX4) (T := TX4) (N := 8) hx hb hts hin4 hown hK hP krd e_343 rfl 0 (by decide) (hts (.fieldLink RX4 12 "HoneyHouse$RuleReader" "tape" "LHoneyHouse$Tape;") (List.mem_of_getElem? (i := 1) rfl)) (fun _ h9 => h9) rfl dX4_readEither_72 ?_
      have hFc := free_all hD hS hA
      refine va_callv (va_runV (As := []) (rest := []) ⟨hx, hb, hml, hown, hts⟩ (a_advance l D ws_338 ty_339 tp ktp tl te_118 ya_125 (nI ts_117) bb k_138 c9_139 t_140 f_349 H.size (by omega) (by omega) e_344 e_348 u_350) (cwV 0 hts gX4_readEither_X6_advance rfl rfl rfl (by decide +kernel) ⟨Nat.le_of_ble_eq_true rfl, Nat.le_of_ble_eq_true rfl⟩) ⟨fun a U g mk q => by obtain ⟨q0, q1, qP, qK, qD⟩ := q; exact ⟨q0, q1, qP, va_K.moved (u := U) (U := U.calling g mk a) (Vm.Alike.refl U.vm) qK, qD⟩, va_recv hK hP (ci := 6) (q0 := ktp) rfl e_344, fun U hU hW => ⟨rfl, by rw [hU], by rw [hU]; exact hP, va_K.moved hW.alike hK, hD.weaken (fun _ _ _ _ => trivial)⟩⟩ rfl rfl hl.1 rfl (lv_room (Nat.le_of_ble_eq_true rfl)) dX4_readEither_75 ⟨Nat.le_of_ble_eq_true rfl, Nat.le_of_ble_eq_true rfl⟩) hS (fun q _ h => hFc q h) hFc (fun u t H1 locs ht hvm w_441 hB hz1 hk1 hS => ?_)
      obtain ⟨ws_442, ty_443, hm_444, ht_446, hP1, hK1, hD1, hx_445⟩ := hB
      rw [ht] at hP1
      have hK := va_K.moved hvm.symm hK1
      have hD := hD1.weaken (fun _ _ _ h => hFc _ h)
      generalize H1 = H at hP1 hS ⊢
      have hP := hP1
      have e_447 := hm_444.objK e_343 (by decide)
      obtain ⟨g_449, e_448, h_450⟩ := hm_444.obj e_344
      obtain ⟨z_451, z_452, z_453, z_454, rfl⟩ := smX6 h_450
      obtain ⟨f_456, e_455⟩ := hm_444.arrI e_345
      have u_457 := ht_446 _ _ u_347
      obtain ⟨f_459, e_458⟩ := hm_444.arrI e_348
      have u_460 := ht_446 _ _ u_350
      have hsm := hsm.tr (hm_444.mono (by decide))
      have hlp_93 := hlp_93.tr (hm_444.mono (by decide))
      have htx := htx.tr ht_446
      obtain ⟨k_461, s_462, e_463, h_464, h_465, h_466, e_467⟩ := hx_445
      refine lv_aload_n hx hb dX4_readEither_78 rfl (lv_at hl 5 rfl) ?_
      refine lv_iload_n hx hb dX4_readEither_79 rfl (lv_at hl 4 rfl) ?_
      have hFc := free_all hD hS hA
      refine va_calli (va_runV (As := [.int 3]) (rest := []) ⟨hx, hb, hml, hown, hts⟩ (r_readOne3 l D ws_442 ty_443 adK adV fo rd krd tp ktp cd bb tl  H.size (⟨s_462, e_463, cc_119, ra_120, rb_121, rc_122, rv_123, re_124, nI k_461, by omega, by omega, by omega, by omega, e_447, e_467, ⟨k_132, c9_133, t_134, f_456, e_455, u_457⟩, ⟨k_138, c9_139, t_140, f_459, e_458, u_460⟩⟩ : RS ws_442 ty_443 rd krd tp ktp cd bb tl)) (cwV 1 hts gX4_readEither_X4_readOne rfl rfl rfl (by decide +kernel) ⟨Nat.le_of_ble_eq_true rfl, Nat.le_of_ble_eq_true rfl⟩) ⟨fun a U g mk q => by obtain ⟨q0, q1, qP, qK, qD, qS⟩ := q; exact ⟨q0, q1, qP, va_K.moved (u := U) (U := U.calling g mk a) (Vm.Alike.refl U.vm) qK, qD, SZ.same rfl rfl qS⟩, va_recv hK hP (ci := 4) (q0 := krd) rfl e_447, fun U hU hW => ⟨rfl, by rw [hU], by rw [hU]; exact hP, va_K.moved hW.alike hK, hD.weaken (fun _ _ _ _ => trivial), hsz9.go hS hW hU hFc⟩⟩ rfl rfl hl.1 rfl (lv_room (Nat.le_of_ble_eq_true rfl)) dX4_readEither_80 ⟨Nat.le_of_ble_eq_true rfl, Nat.le_of_ble_eq_true rfl⟩) hS (fun q _ h => hFc q h) hFc (fun r_468 u t H1 locs ht hvm w_469 hB hz1 hk1 hS => ?_)
      obtain ⟨ws_470, ty_471, hm_472, ht_474, hP1, hK1, hD1, hx_473⟩ := hB
      rw [ht] at hP1
      have hK := va_K.moved hvm.symm hK1
      have hD := hD1.weaken (fun _ _ _ h => hFc _ h)
      generalize H1 = H at hP1 hS ⊢
      have hP := hP1
      obtain ⟨g_476, e_475, h_477⟩ := hm_472.obj e_447
      obtain ⟨z_478, z_479, z_480, z_481, z_482, z_483, rfl⟩ := smX4 h_477
      obtain ⟨g_485, e_484, h_486⟩ := hm_472.obj e_467
      obtain ⟨z_487, z_488, z_489, z_490, rfl⟩ := smX6 h_486
      obtain ⟨f_492, e_491⟩ := hm_472.arrI e_455
      have u_493 := ht_474 _ _ u_457
      obtain ⟨f_495, e_494⟩ := hm_472.arrI e_458
      have u_496 := ht_474 _ _ u_460
      have hsm := hsm.tr (hm_472.mono (by decide))
      have hlp_93 := hlp_93.tr (hm_472.mono (by decide))
      have htx := htx.tr ht_474
      obtain ⟨ts_497, te_498, cc_499, ra_500, rb_501, rc_502, rv_503, re_504, ya_505, h1_506, h2_507, h3_508, h4_509, er_510, et_511, ⟨k_512, c9_513, t_514, f_515, e_516, u_517⟩, ⟨k_518, c9_519, t_520, f_521, e_522, u_523⟩⟩ := id hx_473
      refine lv_istore_n (lv' := [(2, .int r_468), (3, .int 1), (5, .int 0), (4, .int (nI i_85)), (1, .int 3), (0, .ref rd)]) hx hb dX4_readEither_83 rfl hl (by decide) rfl (fun ls hl => ?_)
      refine lv_iload hx hb dX4_readEither_84 (lv_at hl 2 rfl) ?_
      refine lv_if_eq (tgt := 95) hx hb dX4_readEither_86 (by decide) (fun c_524 => ?_) (fun c_524 => absurd (by decide) c_524)
      refine lv_iinc (v := nI (i_85 + 1)) (lv' := [(4, .int (nI (i_85 + 1))), (2, .int r_468), (3, .int 1), (5, .int 0), (1, .int 3), (0, .ref rd)]) hx hb dX4_readEither_95 hl (k := 3) rfl (nI_add i_85 1) (by decide) rfl (fun ls hl => ?_)
      refine lv_goto (tgt := 11) hx hb dX4_readEither_98 (by decide) ?_
      exact ih_84 (i_85 + 1, r_468, 1) ws_470 _ _ ls (by show 400 - (i_85 + 1) < 400 - i_85; omega) ⟨hlp_93, ⟨ty_471, hK, htx, (⟨ts_497, te_498, cc_499, ra_500, rb_501, rc_502, rv_503, re_504, ya_505, by omega, by omega, by omega, by omega, er_510, et_511, ⟨k_512, c9_513, t_514, f_515, e_516, u_517⟩, ⟨k_518, c9_519, t_520, f_521, e_522, u_523⟩⟩ : RS ws_470 ty_471 rd krd tp ktp cd bb tl)⟩, (show (i_85 + 1) ≤ 400 from by omega), (show r_468 = 0 ∨ r_468 = 1 from w_469), (show 1 = 0 ∨ 1 = 1 from Or.inr rfl)⟩ hP hD hS (lv_sub hl [0, 1, 2, 4, 5] rfl)
    refine lv_aload_n hx hb dX4_readEither_50 rfl (lv_at hl 5 rfl) ?_
    refine lv_bipush (v := (-3)) hx hb dX4_readEither_51 (by decide) ?_
    have hFc := free_all hD hS hA
    refine va_callv (va_runV (As := [.int (-3)]) (rest := []) ⟨hx, hb, hml, hown, hts⟩ (r_addCode l D ws_338 ty_339 adK adV fo rd krd tp ktp cd bb tl (-3) H.size (⟨ts_117, te_118, cc_119, ra_120, rb_121, rc_122, rv_123, re_124, ya_125, by omega, by omega, by omega, by omega, e_343, e_344, ⟨k_132, c9_133, t_134, f_346, e_345, u_347⟩, ⟨k_138, c9_139, t_140, f_349, e_348, u_350⟩⟩ : RS ws_338 ty_339 rd krd tp ktp cd bb tl)) (cwV 1 hts gX4_readEither_X4_addCode rfl rfl rfl (by decide +kernel) ⟨Nat.le_of_ble_eq_true rfl, Nat.le_of_ble_eq_true rfl⟩) ⟨fun a U g mk q => by obtain ⟨q0, q1, qP, qK, qD, qS⟩ := q; exact ⟨q0, q1, qP, va_K.moved (u := U) (U := U.calling g mk a) (Vm.Alike.refl U.vm) qK, qD, SZ.same rfl rfl qS⟩, va_recv hK hP (ci := 4) (q0 := krd) rfl e_343, fun U hU hW => ⟨rfl, by rw [hU], by rw [hU]; exact hP, va_K.moved hW.alike hK, hD.weaken (fun _ _ _ _ => trivial), hsz9.go hS hW hU hFc⟩⟩ rfl rfl hl.1 rfl (lv_room (Nat.le_of_ble_eq_true rfl)) dX4_readEither_53 ⟨Nat.le_of_ble_eq_true rfl, Nat.le_of_ble_eq_true rfl⟩) hS (fun q _ h => hFc q h) hFc (fun u t H1 locs ht hvm w_526 hB hz1 hk1 hS => ?_)
    obtain ⟨ws_527, ty_528, hm_529, ht_531, hP1, hK1, hD1, hx_530⟩ := hB
    rw [ht] at hP1
    have hK := va_K.moved hvm.symm hK1
    have hD := hD1.weaken (fun _ _ _ h => hFc _ h)
    generalize H1 = H at hP1 hS ⊢
    have hP := hP1
    obtain ⟨g_533, e_532, h_534⟩ := hm_529.obj e_343
    obtain ⟨z_535, z_536, z_537, z_538, z_539, z_540, rfl⟩ := smX4 h_534
    obtain ⟨g_542, e_541, h_543⟩ := hm_529.obj e_344
    obtain ⟨z_544, z_545, z_546, z_547, rfl⟩ := smX6 h_543
    obtain ⟨f_549, e_548⟩ := hm_529.arrI e_345
    have u_550 := ht_531 _ _ u_347
    obtain ⟨f_552, e_551⟩ := hm_529.arrI e_348
    have u_553 := ht_531 _ _ u_350
    have hsm := hsm.tr (hm_529.mono (by decide))
    have hlp_93 := hlp_93.tr (hm_529.mono (by decide))
    have htx := htx.tr ht_531
    obtain ⟨ts_554, te_555, cc_556, ra_557, rb_558, rc_559, rv_560, re_561, ya_562, h1_563, h2_564, h3_565, h4_566, er_567, et_568, ⟨k_569, c9_570, t_571, f_572, e_573, u_574⟩, ⟨k_575, c9_576, t_577, f_578, e_579, u_580⟩⟩ := id hx_530
    refine lv_iload_n hx hb dX4_readEither_56 rfl (lv_at hl 3 rfl) ?_
    refine lv_if_ne (tgt := 65) hx hb dX4_readEither_57 (by decide) (fun c_581 => ?_) (fun c_581 => ?_)
    · refine lv_iconst (v := 1) hx hb dX4_readEither_65 (by decide) ?_
      refine lv_goto (tgt := 70) hx hb dX4_readEither_66 (by decide) ?_
      refine lv_istore_n (lv' := [(3, .int 1), (5, .int 0), (4, .int (nI i_85)), (2, .int x_86), (1, .int 3), (0, .ref rd)]) hx hb dX4_readEither_70 rfl hl (by decide) rfl (fun ls hl => ?_)
      refine lv_aload_n hx hb dX4_readEither_71 rfl (lv_at hl 5 rfl) ?_
      refine va_get (D := D) (ci := 4) (v := .ref tp) (C := RX4) (T := TX4) (N := 8) hx hb hts hin4 hown hK hP krd er_567 rfl 0 (by decide) (hts (.fieldLink RX4 12 "HoneyHouse$RuleReader" "tape" "LHoneyHouse$Tape;") (List.mem_of_getElem? (i := 1) rfl)) (fun _ h9 => h9) rfl dX4_readEither_72 ?_
      have hFc := free_all hD hS hA
      refine va_callv (va_runV (As := []) (rest := []) ⟨hx, hb, hml, hown, hts⟩ (a_advance l D ws_527 ty_528 tp ktp tl te_555 ya_562 (nI ts_554) bb k_575 c9_576 t_577 f_578 H.size (by omega) (by omega) et_568 e_579 u_580) (cwV 0 hts gX4_readEither_X6_advance rfl rfl rfl (by decide +kernel) ⟨Nat.le_of_ble_eq_true rfl, Nat.le_of_ble_eq_true rfl⟩) ⟨fun a U g mk q => by obtain ⟨q0, q1, qP, qK, qD⟩ := q; exact ⟨q0, q1, qP, va_K.moved (u := U) (U := U.calling g mk a) (Vm.Alike.refl U.vm) qK, qD⟩, va_recv hK hP (ci := 6) (q0 := ktp) rfl et_568, fun U hU hW => ⟨rfl, by rw [hU], by rw [hU]; exact hP, va_K.moved hW.alike hK, hD.weaken (fun _ _ _ _ => trivial)⟩⟩ rfl rfl hl.1 rfl (lv_room (Nat.le_of_ble_eq_true rfl)) dX4_readEither_75 ⟨Nat.le_of_ble_eq_true rfl, Nat.le_of_ble_eq_true rfl⟩) hS (fun q _ h => hFc q h) hFc (fun u t H1 locs ht hvm w_583 hB hz1 hk1 hS => ?_)
      obtain ⟨ws_584, ty_585, hm_586, ht_588, hP1, hK1, hD1, hx_587⟩ := hB
      rw [ht] at hP1
      have hK := va_K.moved hvm.symm hK1
      have hD := hD1.weaken (fun _ _ _ h => hFc _ h)
      generalize H1 = H at hP1 hS ⊢
      have hP := hP1
      have e_589 := hm_586.objK er_567 (by decide)
      obtain ⟨g_591, e_590, h_592⟩ := hm_586.obj et_568
      obtain ⟨z_593, z_594, z_595, z_596, rfl⟩ := smX6 h_592
      obtain ⟨f_598, e_597⟩ := hm_586.arrI e_573
      have u_599 := ht_588 _ _ u_574
      obtain ⟨f_601, e_600⟩ := hm_586.arrI e_579
      have u_602 := ht_588 _ _ u_580
      have hsm := hsm.tr (hm_586.mono (by decide))
      have hlp_93 := hlp_93.tr (hm_586.mono (by decide))
      have htx := htx.tr ht_588
      obtain ⟨k_603, s_604, e_605, h_606, h_607, h_608, e_609⟩ := hx_587
      refine lv_aload_n hx hb dX4_readEither_78 rfl (lv_at hl 5 rfl) ?_
      refine lv_iload_n hx hb dX4_readEither_79 rfl (lv_at hl 4 rfl) ?_
      have hFc := free_all hD hS hA
      refine va_calli (va_runV (As := [.int 3]) (rest := []) ⟨hx, hb, hml, hown, hts⟩ (r_readOne3 l D ws_584 ty_585 adK adV fo rd krd tp ktp cd bb tl  H.size (⟨s_604, e_605, cc_556, ra_557, rb_558, rc_559, rv_560, re_561, nI k_603, by omega, by omega, by omega, by omega, e_589, e_609, ⟨k_569, c9_570, t_571, f_598, e_597, u_599⟩, ⟨k_575, c9_576, t_577, f_601, e_600, u_602⟩⟩ : RS ws_584 ty_585 rd krd tp ktp cd bb tl)) (cwV 1 hts gX4_readEither_X4_readOne rfl rfl rfl (by decide +kernel) ⟨Nat.le_of_ble_eq_true rfl, Nat.le_of_ble_eq_true rfl⟩) ⟨fun a U g mk q => by obtain ⟨q0, q1, qP, qK, qD, qS⟩ := q; exact ⟨q0, q1, qP, va_K.moved (u := U) (U := U.calling g mk a) (Vm.Alike.refl U.vm) qK, qD, SZ.same rfl rfl qS⟩, va_recv hK hP (ci := 4) (q0 := krd) rfl e_589, fun U hU hW => ⟨rfl, by rw [hU], by rw [hU]; exact hP, va_K.moved hW.alike hK, hD.weaken (fun _ _ _ _ => trivial), hsz9.go hS hW hU hFc⟩⟩ rfl rfl hl.1 rfl (lv_room (Nat.le_of_ble_eq_true rfl)) dX4_readEither_80 ⟨Nat.le_of_ble_eq_true rfl, Nat.le_of_ble_eq_true rfl⟩) hS (fun q _ h => hFc q h) hFc (fun r_610 u t H1 locs ht hvm w_611 hB hz1 hk1 hS => ?_)
      obtain ⟨ws_612, ty_613, hm_614, ht_616, hP1, hK1, hD1, hx_615⟩ := hB
      rw [ht] at hP1
      have hK := va_K.moved hvm.symm hK1
      have hD := hD1.weaken (fun _ _ _ h => hFc _ h)
      generalize H1 = H at hP1 hS ⊢
      have hP := hP1
      obtain ⟨g_618, e_617, h_619⟩ := hm_614.obj e_589
      obtain ⟨z_620, z_621, z_622, z_623, z_624, z_625, rfl⟩ := smX4 h_619
      obtain ⟨g_627, e_626, h_628⟩ := hm_614.obj e_609
      obtain ⟨z_629, z_630, z_631, z_632, rfl⟩ := smX6 h_628
      obtain ⟨f_634, e_633⟩ := hm_614.arrI e_597
      have u_635 := ht_616 _ _ u_599
      obtain ⟨f_637, e_636⟩ := hm_614.arrI e_600
      have u_638 := ht_616 _ _ u_602
      have hsm := hsm.tr (hm_614.mono (by decide))
      have hlp_93 := hlp_93.tr (hm_614.mono (by decide))
      have htx := htx.tr ht_616
      obtain ⟨ts_639, te_640, cc_641, ra_642, rb_643, rc_644, rv_645, re_646, ya_647, h1_648, h2_649, h3_650, h4_651, er_652, et_653, ⟨k_654, c9_655, t_656, f_657, e_658, u_659⟩, ⟨k_660, c9_661, t_662, f_663, e_664, u_665⟩⟩ := id hx_615
      refine lv_istore_n (lv' := [(2, .int r_610), (3, .int 1), (5, .int 0), (4, .int (nI i_85)), (1, .int 3), (0, .ref rd)]) hx hb dX4_readEither_83 rfl hl (by decide) rfl (fun ls hl => ?_)
      refine lv_iload hx hb dX4_readEither_84 (lv_at hl 2 rfl) ?_
      refine lv_if_eq (tgt := 95) hx hb dX4_readEither_86 (by decide) (fun c_666 => ?_) (fun c_666 => absurd (by decide) c_666)
      refine lv_iinc (v := nI (i_85 + 1)) (lv' := [(4, .int (nI (i_85 + 1))), (2, .int r_610), (3, .int 1), (5, .int 0), (1, .int 3), (0, .ref rd)]) hx hb dX4_readEither_95 hl (k := 3) rfl (nI_add i_85 1) (by decide) rfl (fun ls hl => ?_)
      refine lv_goto (tgt := 11) hx hb dX4_readEither_98 (by decide) ?_
      exact ih_84 (i_85 + 1, r_610, 1) ws_612 _ _ ls (by show 400 - (i_85 + 1) < 400 - i_85; omega) ⟨hlp_93, ⟨ty_613, hK, htx, (⟨ts_639, te_640, cc_641, ra_642, rb_643, rc_644, rv_645, re_646, ya_647, by omega, by omega, by omega, by omega, er_652, et_653, ⟨k_654, c9_655, t_656, f_657, e_658, u_659⟩, ⟨k_660, c9_661, t_662, f_663, e_664, u_665⟩⟩ : RS ws_612 ty_613 rd krd tp ktp cd bb tl)⟩, (show (i_85 + 1) ≤ 400 from by omega), (show r_610 = 0 ∨ r_610 = 1 from w_611), (show 1 = 0 ∨ 1 = 1 from Or.inr rfl)⟩ hP hD hS (lv_sub hl [0, 1, 2, 4, 5] rfl)
    refine lv_iload hx hb dX4_readEither_60 (lv_at hl 0 rfl) ?_
    refine lv_if_ne (tgt := 69) hx hb dX4_readEither_62 (by decide) (fun c_667 => absurd (by decide) c_667) (fun c_667 => ?_)
    refine lv_iconst (v := 1) hx hb dX4_readEither_65 (by decide) ?_
    refine lv_goto (tgt := 70) hx hb dX4_readEither_66 (by decide) ?_
    refine lv_istore_n (lv' := [(3, .int 1), (5, .int 0), (4, .int (nI i_85)), (2, .int x_86), (1, .int 3), (0, .ref rd)]) hx hb dX4_readEither_70 rfl hl (by decide) rfl (fun ls hl => ?_)
    refine lv_aload_n hx hb dX4_readEither_71 rfl (lv_at hl 5 rfl) ?_
    refine va_get (D := D) (ci := 4) (v := .ref tp) (C := RX4) (T := TX4) (N := 8) hx hb hts hin4 hown hK hP krd er_567 rfl 0 (by decide) (hts (.fieldLink RX4 12 "HoneyHouse$RuleReader" "tape" "LHoneyHouse$Tape;") (List.mem_of_getElem? (i := 1) rfl)) (fun _ h9 => h9) rfl dX4_readEither_72 ?_
    have hFc := free_all hD hS hA
    refine va_callv (va_runV (As := []) (rest := []) ⟨hx, hb, hml, hown, hts⟩ (a_advance l D ws_527 ty_528 tp ktp tl te_555 ya_562 (nI ts_554) bb k_575 c9_576 t_577 f_578 H.size (by omega) (by omega) et_568 e_579 u_580) (cwV 0 hts gX4_readEither_X6_advance rfl rfl rfl (by decide +kernel) ⟨Nat.le_of_ble_eq_true rfl, Nat.le_of_ble_eq_true rfl⟩) ⟨fun a U g mk q => by obtain ⟨q0, q1, qP, qK, qD⟩ := q; exact ⟨q0, q1, qP, va_K.moved (u := U) (U := U.calling g mk a) (Vm.Alike.refl U.vm) qK, qD⟩, va_recv hK hP (ci := 6) (q0 := ktp) rfl et_568, fun U hU hW => ⟨rfl, by rw [hU], by rw [hU]; exact hP, va_K.moved hW.alike hK, hD.weaken (fun _ _ _ _ => trivial)⟩⟩ rfl rfl hl.1 rfl (lv_room (Nat.le_of_ble_eq_true rfl)) dX4_readEither_75 ⟨Nat.le_of_ble_eq_true rfl, Nat.le_of_ble_eq_true rfl⟩) hS (fun q _ h => hFc q h) hFc (fun u t H1 locs ht hvm w_669 hB hz1 hk1 hS => ?_)
    obtain ⟨ws_670, ty_671, hm_672, ht_674, hP1, hK1, hD1, hx_673⟩ := hB
    rw [ht] at hP1
    have hK := va_K.moved hvm.symm hK1
    have hD := hD1.weaken (fun _ _ _ h => hFc _ h)
    generalize H1 = H at hP1 hS ⊢
    have hP := hP1
    have e_675 := hm_672.objK er_567 (by decide)
    obtain ⟨g_677, e_676, h_678⟩ := hm_672.obj et_568
    obtain ⟨z_679, z_680, z_681, z_682, rfl⟩ := smX6 h_678
    obtain ⟨f_684, e_683⟩ := hm_672.arrI e_573
    have u_685 := ht_674 _ _ u_574
    obtain ⟨f_687, e_686⟩ := hm_672.arrI e_579
    have u_688 := ht_674 _ _ u_580
    have hsm := hsm.tr (hm_672.mono (by decide))
    have hlp_93 := hlp_93.tr (hm_672.mono (by decide))
    have htx := htx.tr ht_674
    obtain ⟨k_689, s_690, e_691, h_692, h_693, h_694, e_695⟩ := hx_673
    refine lv_aload_n hx hb dX4_readEither_78 rfl (lv_at hl 5 rfl) ?_
    refine lv_iload_n hx hb dX4_readEither_79 rfl (lv_at hl 4 rfl) ?_
    have hFc := free_all hD hS hA
    refine va_calli (va_runV (As := [.int 3]) (rest := []) ⟨hx, hb, hml, hown, hts⟩ (r_readOne3 l D ws_670 ty_671 adK adV fo rd krd tp ktp cd bb tl  H.size (⟨s_690, e_691, cc_556, ra_557, rb_558, rc_559, rv_560, re_561, nI k_689, by omega, by omega, by omega, by omega, e_675, e_695, ⟨k_569, c9_570, t_571, f_684, e_683, u_685⟩, ⟨k_575, c9_576, t_577, f_687, e_686, u_688⟩⟩ : RS ws_670 ty_671 rd krd tp ktp cd bb tl)) (cwV 1 hts gX4_readEither_X4_readOne rfl rfl rfl (by decide +kernel) ⟨Nat.le_of_ble_eq_true rfl, Nat.le_of_ble_eq_true rfl⟩) ⟨fun a U g mk q => by obtain ⟨q0, q1, qP, qK, qD, qS⟩ := q; exact ⟨q0, q1, qP, va_K.moved (u := U) (U := U.calling g mk a) (Vm.Alike.refl U.vm) qK, qD, SZ.same rfl rfl qS⟩, va_recv hK hP (ci := 4) (q0 := krd) rfl e_675, fun U hU hW => ⟨rfl, by rw [hU], by rw [hU]; exact hP, va_K.moved hW.alike hK, hD.weaken (fun _ _ _ _ => trivial), hsz9.go hS hW hU hFc⟩⟩ rfl rfl hl.1 rfl (lv_room (Nat.le_of_ble_eq_true rfl)) dX4_readEither_80 ⟨Nat.le_of_ble_eq_true rfl, Nat.le_of_ble_eq_true rfl⟩) hS (fun q _ h => hFc q h) hFc (fun r_696 u t H1 locs ht hvm w_697 hB hz1 hk1 hS => ?_)
    obtain ⟨ws_698, ty_699, hm_700, ht_702, hP1, hK1, hD1, hx_701⟩ := hB
    rw [ht] at hP1
    have hK := va_K.moved hvm.symm hK1
    have hD := hD1.weaken (fun _ _ _ h => hFc _ h)
    generalize H1 = H at hP1 hS ⊢
    have hP := hP1
    obtain ⟨g_704, e_703, h_705⟩ := hm_700.obj e_675
    obtain ⟨z_706, z_707, z_708, z_709, z_710, z_711, rfl⟩ := smX4 h_705
    obtain ⟨g_713, e_712, h_714⟩ := hm_700.obj e_695
    obtain ⟨z_715, z_716, z_717, z_718, rfl⟩ := smX6 h_714
    obtain ⟨f_720, e_719⟩ := hm_700.arrI e_683
    have u_721 := ht_702 _ _ u_685
    obtain ⟨f_723, e_722⟩ := hm_700.arrI e_686
    have u_724 := ht_702 _ _ u_688
    have hsm := hsm.tr (hm_700.mono (by decide))
    have hlp_93 := hlp_93.tr (hm_700.mono (by decide))
    have htx := htx.tr ht_702
    obtain ⟨ts_725, te_726, cc_727, ra_728, rb_729, rc_730, rv_731, re_732, ya_733, h1_734, h2_735, h3_736, h4_737, er_738, et_739, ⟨k_740, c9_741, t_742, f_743, e_744, u_745⟩, ⟨k_746, c9_747, t_748, f_749, e_750, u_751⟩⟩ := id hx_701
    refine lv_istore_n (lv' := [(2, .int r_696), (3, .int 1), (5, .int 0), (4, .int (nI i_85)), (1, .int 3), (0, .ref rd)]) hx hb dX4_readEither_83 rfl hl (by decide) rfl (fun ls hl => ?_)
    refine lv_iload hx hb dX4_readEither_84 (lv_at hl 2 rfl) ?_
    refine lv_if_eq (tgt := 95) hx hb dX4_readEither_86 (by decide) (fun c_752 => ?_) (fun c_752 => absurd (by decide) c_752)
    refine lv_iinc (v := nI (i_85 + 1)) (lv' := [(4, .int (nI (i_85 + 1))), (2, .int r_696), (3, .int 1), (5, .int 0), (1, .int 3), (0, .ref rd)]) hx hb dX4_readEither_95 hl (k := 3) rfl (nI_add i_85 1) (by decide) rfl (fun ls hl => ?_)
    refine lv_goto (tgt := 11) hx hb dX4_readEither_98 (by decide) ?_
    exact ih_84 (i_85 + 1, r_696, 1) ws_698 _ _ ls (by show 400 - (i_85 + 1) < 400 - i_85; omega) ⟨hlp_93, ⟨ty_699, hK, htx, (⟨ts_725, te_726, cc_727, ra_728, rb_729, rc_730, rv_731, re_732, ya_733, by omega, by omega, by omega, by omega, er_738, et_739, ⟨k_740, c9_741, t_742, f_743, e_744, u_745⟩, ⟨k_746, c9_747, t_748, f_749, e_750, u_751⟩⟩ : RS ws_698 ty_699 rd krd tp ktp cd bb tl)⟩, (show (i_85 + 1) ≤ 400 from by omega), (show r_696 = 0 ∨ r_696 = 1 from w_697), (show 1 = 0 ∨ 1 = 1 from Or.inr rfl)⟩ hP hD hS (lv_sub hl [0, 1, 2, 4, 5] rfl)
  refine lv_istore (lv' := [(5, .int 1), (4, .int (nI i_85)), (2, .int x_86), (3, .int y_87), (1, .int 3), (0, .ref rd)]) hx hb dX4_readEither_39 hl (by decide) rfl (fun ls hl => ?_)
  refine lv_iload hx hb dX4_readEither_41 (lv_at hl 0 rfl) ?_
  refine lv_if_ne (tgt := 56) hx hb dX4_readEither_43 (by decide) (fun c_753 => ?_) (fun c_753 => absurd c_753 (by decide))
  refine lv_iload_n hx hb dX4_readEither_56 rfl (lv_at hl 3 rfl) ?_
  refine lv_if_ne (tgt := 65) hx hb dX4_readEither_57 (by decide) (fun c_754 => ?_) (fun c_754 => ?_)
  · refine lv_iconst (v := 1) hx hb dX4_readEither_65 (by decide) ?_
    refine lv_goto (tgt := 70) hx hb dX4_readEither_66 (by decide) ?_
    refine lv_istore_n (lv' := [(3, .int 1), (5, .int 1), (4, .int (nI i_85)), (2, .int x_86), (1, .int 3), (0, .ref rd)]) hx hb dX4_readEither_70 rfl hl (by decide) rfl (fun ls hl => ?_)
    refine lv_aload_n hx hb dX4_readEither_71 rfl (lv_at hl 5 rfl) ?_
    refine va_get (D := D) (ci := 4) (v := .ref tp) (C := RX4) (T := TX4) (N := 8) hx hb hts hin4 hown hK hP krd e_343 rfl 0 (by decide) (hts (.fieldLink RX4 12 "HoneyHouse$RuleReader" "tape" "LHoneyHouse$Tape;") (List.mem_of_getElem? (i := 1) rfl)) (fun _ h9 => h9) rfl dX4_readEither_72 ?_
    have hFc := free_all hD hS hA
    refine va_callv (va_runV (As := []) (rest := []) ⟨hx, hb, hml, hown, hts⟩ (a_advance l D ws_338 ty_339 tp ktp tl te_118 ya_125 (nI ts_117) bb k_138 c9_139 t_140 f_349 H.size (by omega) (by omega) e_344 e_348 u_350) (cwV 0 hts gX4_readEither_X6_advance rfl rfl rfl (by decide +kernel) ⟨Nat.le_of_ble_eq_true rfl, Nat.le_of_ble_eq_true rfl⟩) ⟨fun a U g mk q => by obtain ⟨q0, q1, qP, qK, qD⟩ := q; exact ⟨q0, q1, qP, va_K.moved (u := U) (U := U.calling g mk a) (Vm.Alike.refl U.vm) qK, qD⟩, va_recv hK hP (ci := 6) (q0 := ktp) rfl e_344, fun U hU hW => ⟨rfl, by rw [hU], by rw [hU]; exact hP, va_K.moved hW.alike hK, hD.weaken (fun _ _ _ _ => trivial)⟩⟩ rfl rfl hl.1 rfl (lv_room (Nat.le_of_ble_eq_true rfl)) dX4_readEither_75 ⟨Nat.le_of_ble_eq_true rfl, Nat.le_of_ble_eq_true rfl⟩) hS (fun q _ h => hFc q h) hFc (fun u t H1 locs ht hvm w_756 hB hz1 hk1 hS => ?_)
    obtain ⟨ws_757, ty_758, hm_759, ht_761, hP1, hK1, hD1, hx_760⟩ := hB
    rw [ht] at hP1
    have hK := va_K.moved hvm.symm hK1
    have hD := hD1.weaken (fun _ _ _ h => hFc _ h)
    generalize H1 = H at hP1 hS ⊢
    have hP := hP1
    have e_762 := hm_759.objK e_343 (by decide)
    obtain ⟨g_764, e_763, h_765⟩ := hm_759.obj e_344
    obtain ⟨z_766, z_767, z_768, z_769, rfl⟩ := smX6 h_765
    obtain ⟨f_771, e_770⟩ := hm_759.arrI e_345
    have u_772 := ht_761 _ _ u_347
    obtain ⟨f_774, e_773⟩ := hm_759.arrI e_348
    have u_775 := ht_761 _ _ u_350
    have hsm := hsm.tr (hm_759.mono (by decide))
    have hlp_93 := hlp_93.tr (hm_759.mono (by decide))
    have htx := htx.tr ht_761
    obtain ⟨k_776, s_777, e_778, h_779, h_780, h_781, e_782⟩ := hx_760
    refine lv_aload_n hx hb dX4_readEither_78 rfl (lv_at hl 5 rfl) ?_
    refine lv_iload_n hx hb dX4_readEither_79 rfl (lv_at hl 4 rfl) ?_
    have hFc := free_all hD hS hA
    refine va_calli (va_runV (As := [.int 3]) (rest := []) ⟨hx, hb, hml, hown, hts⟩ (r_readOne3 l D ws_757 ty_758 adK adV fo rd krd tp ktp cd bb tl  H.size (⟨s_777, e_778, cc_119, ra_120, rb_121, rc_122, rv_123, re_124, nI k_776, by omega, by omega, by omega, by omega, e_762, e_782, ⟨k_132, c9_133, t_134, f_771, e_770, u_772⟩, ⟨k_138, c9_139, t_140, f_774, e_773, u_775⟩⟩ : RS ws_757 ty_758 rd krd tp ktp cd bb tl)) (cwV 1 hts gX4_readEither_X4_readOne rfl rfl rfl (by decide +kernel) ⟨Nat.le_of_ble_eq_true rfl, Nat.le_of_ble_eq_true rfl⟩) ⟨fun a U g mk q => by obtain ⟨q0, q1, qP, qK, qD, qS⟩ := q; exact ⟨q0, q1, qP, va_K.moved (u := U) (U := U.calling g mk a) (Vm.Alike.refl U.vm) qK, qD, SZ.same rfl rfl qS⟩, va_recv hK hP (ci := 4) (q0 := krd) rfl e_762, fun U hU hW => ⟨rfl, by rw [hU], by rw [hU]; exact hP, va_K.moved hW.alike hK, hD.weaken (fun _ _ _ _ => trivial), hsz9.go hS hW hU hFc⟩⟩ rfl rfl hl.1 rfl (lv_room (Nat.le_of_ble_eq_true rfl)) dX4_readEither_80 ⟨Nat.le_of_ble_eq_true rfl, Nat.le_of_ble_eq_true rfl⟩) hS (fun q _ h => hFc q h) hFc (fun r_783 u t H1 locs ht hvm w_784 hB hz1 hk1 hS => ?_)
    obtain ⟨ws_785, ty_786, hm_787, ht_789, hP1, hK1, hD1, hx_788⟩ := hB
    rw [ht] at hP1
    have hK := va_K.moved hvm.symm hK1
    have hD := hD1.weaken (fun _ _ _ h => hFc _ h)
    generalize H1 = H at hP1 hS ⊢
    have hP := hP1
    obtain ⟨g_791, e_790, h_792⟩ := hm_787.obj e_762
    obtain ⟨z_793, z_794, z_795, z_796, z_797, z_798, rfl⟩ := smX4 h_792
    obtain ⟨g_800, e_799, h_801⟩ := hm_787.obj e_782
    obtain ⟨z_802, z_803, z_804, z_805, rfl⟩ := smX6 h_801
    obtain ⟨f_807, e_806⟩ := hm_787.arrI e_770
    have u_808 := ht_789 _ _ u_772
    obtain ⟨f_810, e_809⟩ := hm_787.arrI e_773
    have u_811 := ht_789 _ _ u_775
    have hsm := hsm.tr (hm_787.mono (by decide))
    have hlp_93 := hlp_93.tr (hm_787.mono (by decide))
    have htx := htx.tr ht_789
    obtain ⟨ts_812, te_813, cc_814, ra_815, rb_816, rc_817, rv_818, re_819, ya_820, h1_821, h2_822, h3_823, h4_824, er_825, et_826, ⟨k_827, c9_828, t_829, f_830, e_831, u_832⟩, ⟨k_833, c9_834, t_835, f_836, e_837, u_838⟩⟩ := id hx_788
    refine lv_istore_n (lv' := [(2, .int r_783), (3, .int 1), (5, .int 1), (4, .int (nI i_85)), (1, .int 3), (0, .ref rd)]) hx hb dX4_readEither_83 rfl hl (by decide) rfl (fun ls hl => ?_)
    refine lv_iload hx hb dX4_readEither_84 (lv_at hl 2 rfl) ?_
    refine lv_if_eq (tgt := 95) hx hb dX4_readEither_86 (by decide) (fun c_839 => absurd c_839 (by decide)) (fun c_839 => ?_)
    refine lv_aload_n hx hb dX4_readEither_89 rfl (lv_at hl 5 rfl) ?_
    refine lv_bipush (v := (-2)) hx hb dX4_readEither_90 (by decide) ?_
    have hFc := free_all hD hS hA
    refine va_callv (va_runV (As := [.int (-2)]) (rest := []) ⟨hx, hb, hml, hown, hts⟩ (r_addCode l D ws_785 ty_786 adK adV fo rd krd tp ktp cd bb tl (-2) H.size (⟨ts_812, te_813, cc_814, ra_815, rb_816, rc_817, rv_818, re_819, ya_820, by omega, by omega, by omega, by omega, er_825, et_826, ⟨k_827, c9_828, t_829, f_830, e_831, u_832⟩, ⟨k_833, c9_834, t_835, f_836, e_837, u_838⟩⟩ : RS ws_785 ty_786 rd krd tp ktp cd bb tl)) (cwV 1 hts gX4_readEither_X4_addCode rfl rfl rfl (by decide +kernel) ⟨Nat.le_of_ble_eq_true rfl, Nat.le_of_ble_eq_true rfl⟩) ⟨fun a U g mk q => by obtain ⟨q0, q1, qP, qK, qD, qS⟩ := q; exact ⟨q0, q1, qP, va_K.moved (u := U) (U := U.calling g mk a) (Vm.Alike.refl U.vm) qK, qD, SZ.same rfl rfl qS⟩, va_recv hK hP (ci := 4) (q0 := krd) rfl er_825, fun U hU hW => ⟨rfl, by rw [hU], by rw [hU]; exact hP, va_K.moved hW.alike hK, hD.weaken (fun _ _ _ _ => trivial), hsz9.go hS hW hU hFc⟩⟩ rfl rfl hl.1 rfl (lv_room (Nat.le_of_ble_eq_true rfl)) dX4_readEither_92 ⟨Nat.le_of_ble_eq_true rfl, Nat.le_of_ble_eq_true rfl⟩) hS (fun q _ h => hFc q h) hFc (fun u t H1 locs ht hvm w_841 hB hz1 hk1 hS => ?_)
    obtain ⟨ws_842, ty_843, hm_844, ht_846, hP1, hK1, hD1, hx_845⟩ := hB
    rw [ht] at hP1
    have hK := va_K.moved hvm.symm hK1
    have hD := hD1.weaken (fun _ _ _ h => hFc _ h)
    generalize H1 = H at hP1 hS ⊢
    have hP := hP1
    obtain ⟨g_848, e_847, h_849⟩ := hm_844.obj er_825
    obtain ⟨z_850, z_851, z_852, z_853, z_854, z_855, rfl⟩ := smX4 h_849
    obtain ⟨g_857, e_856, h_858⟩ := hm_844.obj et_826
    obtain ⟨z_859, z_860, z_861, z_862, rfl⟩ := smX6 h_858
    obtain ⟨f_864, e_863⟩ := hm_844.arrI e_831
    have u_865 := ht_846 _ _ u_832
    obtain ⟨f_867, e_866⟩ := hm_844.arrI e_837
    have u_868 := ht_846 _ _ u_838
    have hsm := hsm.tr (hm_844.mono (by decide))
    have hlp_93 := hlp_93.tr (hm_844.mono (by decide))
    have htx := htx.tr ht_846
    obtain ⟨ts_869, te_870, cc_871, ra_872, rb_873, rc_874, rv_875, re_876, ya_877, h1_878, h2_879, h3_880, h4_881, er_882, et_883, ⟨k_884, c9_885, t_886, f_887, e_888, u_889⟩, ⟨k_890, c9_891, t_892, f_893, e_894, u_895⟩⟩ := id hx_845
    refine lv_iinc (v := nI (i_85 + 1)) (lv' := [(4, .int (nI (i_85 + 1))), (2, .int r_783), (3, .int 1), (5, .int 1), (1, .int 3), (0, .ref rd)]) hx hb dX4_readEither_95 hl (k := 3) rfl (nI_add i_85 1) (by decide) rfl (fun ls hl => ?_)
    refine lv_goto (tgt := 11) hx hb dX4_readEither_98 (by decide) ?_
    exact ih_84 (i_85 + 1, r_783, 1) ws_842 _ _ ls (by show 400 - (i_85 + 1) < 400 - i_85; omega) ⟨hlp_93, ⟨ty_843, hK, htx, (⟨ts_869, te_870, cc_871, ra_872, rb_873, rc_874, rv_875, re_876, ya_877, by omega, by omega, by omega, by omega, er_882, et_883, ⟨k_884, c9_885, t_886, f_887, e_888, u_889⟩, ⟨k_890, c9_891, t_892, f_893, e_894, u_895⟩⟩ : RS ws_842 ty_843 rd krd tp ktp cd bb tl)⟩, (show (i_85 + 1) ≤ 400 from by omega), (show r_783 = 0 ∨ r_783 = 1 from w_784), (show 1 = 0 ∨ 1 = 1 from Or.inr rfl)⟩ hP hD hS (lv_sub hl [0, 1, 2, 4, 5] rfl)
  refine lv_iload hx hb dX4_readEither_60 (lv_at hl 0 rfl) ?_
  refine lv_if_ne (tgt := 69) hx hb dX4_readEither_62 (by decide) (fun c_896 => ?_) (fun c_896 => absurd c_896 (by decide))
  refine lv_iconst (v := 0) hx hb dX4_readEither_69 (by decide) ?_
  refine lv_istore_n (lv' := [(3, .int 0), (5, .int 1), (4, .int (nI i_85)), (2, .int x_86), (1, .int 3), (0, .ref rd)]) hx hb dX4_readEither_70 rfl hl (by decide) rfl (fun ls hl => ?_)
  refine lv_aload_n hx hb dX4_readEither_71 rfl (lv_at hl 5 rfl) ?_
  refine va_get (D := D) (ci := 4) (v := .ref tp) (C := RX4) (T := TX4) (N := 8) hx hb hts hin4 hown hK hP krd e_343 rfl 0 (by decide) (hts (.fieldLink RX4 12 "HoneyHouse$RuleReader" "tape" "LHoneyHouse$Tape;") (List.mem_of_getElem? (i := 1) rfl)) (fun _ h9 => h9) rfl dX4_readEither_72 ?_
  have hFc := free_all hD hS hA
  refine va_callv (va_runV (As := []) (rest := []) ⟨hx, hb, hml, hown, hts⟩ (a_advance l D ws_338 ty_339 tp ktp tl te_118 ya_125 (nI ts_117) bb k_138 c9_139 t_140 f_349 H.size (by omega) (by omega) e_344 e_348 u_350) (cwV 0 hts gX4_readEither_X6_advance rfl rfl rfl (by decide +kernel) ⟨Nat.le_of_ble_eq_true rfl, Nat.le_of_ble_eq_true rfl⟩) ⟨fun a U g mk q => by obtain ⟨q0, q1, qP, qK, qD⟩ := q; exact ⟨q0, q1, qP, va_K.moved (u := U) (U := U.calling g mk a) (Vm.Alike.refl U.vm) qK, qD⟩, va_recv hK hP (ci := 6) (q0 := ktp) rfl e_344, fun U hU hW => ⟨rfl, by rw [hU], by rw [hU]; exact hP, va_K.moved hW.alike hK, hD.weaken (fun _ _ _ _ => trivial)⟩⟩ rfl rfl hl.1 rfl (lv_room (Nat.le_of_ble_eq_true rfl)) dX4_readEither_75 ⟨Nat.le_of_ble_eq_true rfl, Nat.le_of_ble_eq_true rfl⟩) hS (fun q _ h => hFc q h) hFc (fun u t H1 locs ht hvm w_898 hB hz1 hk1 hS => ?_)
  obtain ⟨ws_899, ty_900, hm_901, ht_903, hP1, hK1, hD1, hx_902⟩ := hB
  rw [ht] at hP1
  have hK := va_K.moved hvm.symm hK1
  have hD := hD1.weaken (fun _ _ _ h => hFc _ h)
  generalize H1 = H at hP1 hS ⊢
  have hP := hP1
  have e_904 := hm_901.objK e_343 (by decide)
  obtain ⟨g_906, e_905, h_907⟩ := hm_901.obj e_344
  obtain ⟨z_908, z_909, z_910, z_911, rfl⟩ := smX6 h_907
  obtain ⟨f_913, e_912⟩ := hm_901.arrI e_345
  have u_914 := ht_903 _ _ u_347
  obtain ⟨f_916, e_915⟩ := hm_901.arrI e_348
  have u_917 := ht_903 _ _ u_350
  have hsm := hsm.tr (hm_901.mono (by decide))
  have hlp_93 := hlp_93.tr (hm_901.mono (by decide))
  have htx := htx.tr ht_903
  obtain ⟨k_918, s_919, e_920, h_921, h_922, h_923, e_924⟩ := hx_902
  refine lv_aload_n hx hb dX4_readEither_78 rfl (lv_at hl 5 rfl) ?_
  refine lv_iload_n hx hb dX4_readEither_79 rfl (lv_at hl 4 rfl) ?_
  have hFc := free_all hD hS hA
  refine va_calli (va_runV (As := [.int 3]) (rest := []) ⟨hx, hb, hml, hown, hts⟩ (r_readOne3 l D ws_899 ty_900 adK adV fo rd krd tp ktp cd bb tl  H.size (⟨s_919, e_920, cc_119, ra_120, rb_121, rc_122, rv_123, re_124, nI k_918, by omega, by omega, by omega, by omega, e_904, e_924, ⟨k_132, c9_133, t_134, f_913, e_912, u_914⟩, ⟨k_138, c9_139, t_140, f_916, e_915, u_917⟩⟩ : RS ws_899 ty_900 rd krd tp ktp cd bb tl)) (cwV 1 hts gX4_readEither_X4_readOne rfl rfl rfl (by decide +kernel) ⟨Nat.le_of_ble_eq_true rfl, Nat.le_of_ble_eq_true rfl⟩) ⟨fun a U g mk q => by obtain ⟨q0, q1, qP, qK, qD, qS⟩ := q; exact ⟨q0, q1, qP, va_K.moved (u := U) (U := U.calling g mk a) (Vm.Alike.refl U.vm) qK, qD, SZ.same rfl rfl qS⟩, va_recv hK hP (ci := 4) (q0 := krd) rfl e_904, fun U hU hW => ⟨rfl, by rw [hU], by rw [hU]; exact hP, va_K.moved hW.alike hK, hD.weaken (fun _ _ _ _ => trivial), hsz9.go hS hW hU hFc⟩⟩ rfl rfl hl.1 rfl (lv_room (Nat.le_of_ble_eq_true rfl)) dX4_readEither_80 ⟨Nat.le_of_ble_eq_true rfl, Nat.le_of_ble_eq_true rfl⟩) hS (fun q _ h => hFc q h) hFc (fun r_925 u t H1 locs ht hvm w_926 hB hz1 hk1 hS => ?_)
  obtain ⟨ws_927, ty_928, hm_929, ht_931, hP1, hK1, hD1, hx_930⟩ := hB
  rw [ht] at hP1
  have hK := va_K.moved hvm.symm hK1
  have hD := hD1.weaken (fun _ _ _ h => hFc _ h)
  generalize H1 = H at hP1 hS ⊢
  have hP := hP1
  obtain ⟨g_933, e_932, h_934⟩ := hm_929.obj e_904
  obtain ⟨z_935, z_936, z_937, z_938, z_939, z_940, rfl⟩ := smX4 h_934
  obtain ⟨g_942, e_941, h_943⟩ := hm_929.obj e_924
  obtain ⟨z_944, z_945, z_946, z_947, rfl⟩ := smX6 h_943
  obtain ⟨f_949, e_948⟩ := hm_929.arrI e_912
  have u_950 := ht_931 _ _ u_914
  obtain ⟨f_952, e_951⟩ := hm_929.arrI e_915
  have u_953 := ht_931 _ _ u_917
  have hsm := hsm.tr (hm_929.mono (by decide))
  have hlp_93 := hlp_93.tr (hm_929.mono (by decide))
  have htx := htx.tr ht_931
  obtain ⟨ts_954, te_955, cc_956, ra_957, rb_958, rc_959, rv_960, re_961, ya_962, h1_963, h2_964, h3_965, h4_966, er_967, et_968, ⟨k_969, c9_970, t_971, f_972, e_973, u_974⟩, ⟨k_975, c9_976, t_977, f_978, e_979, u_980⟩⟩ := id hx_930
  refine lv_istore_n (lv' := [(2, .int r_925), (3, .int 0), (5, .int 1), (4, .int (nI i_85)), (1, .int 3), (0, .ref rd)]) hx hb dX4_readEither_83 rfl hl (by decide) rfl (fun ls hl => ?_)
  refine lv_iload hx hb dX4_readEither_84 (lv_at hl 2 rfl) ?_
  refine lv_if_eq (tgt := 95) hx hb dX4_readEither_86 (by decide) (fun c_981 => absurd c_981 (by decide)) (fun c_981 => ?_)
  refine lv_aload_n hx hb dX4_readEither_89 rfl (lv_at hl 5 rfl) ?_
  refine lv_bipush (v := (-2)) hx hb dX4_readEither_90 (by decide) ?_
  have hFc := free_all hD hS hA
  refine va_callv (va_runV (As := [.int (-2)]) (rest := []) ⟨hx, hb, hml, hown, hts⟩ (r_addCode l D ws_927 ty_928 adK adV fo rd krd tp ktp cd bb tl (-2) H.size (⟨ts_954, te_955, cc_956, ra_957, rb_958, rc_959, rv_960, re_961, ya_962, by omega, by omega, by omega, by omega, er_967, et_968, ⟨k_969, c9_970, t_971, f_972, e_973, u_974⟩, ⟨k_975, c9_976, t_977, f_978, e_979, u_980⟩⟩ : RS ws_927 ty_928 rd krd tp ktp cd bb tl)) (cwV 1 hts gX4_readEither_X4_addCode rfl rfl rfl (by decide +kernel) ⟨Nat.le_of_ble_eq_true rfl, Nat.le_of_ble_eq_true rfl⟩) ⟨fun a U g mk q => by obtain ⟨q0, q1, qP, qK, qD, qS⟩ := q; exact ⟨q0, q1, qP, va_K.moved (u := U) (U := U.calling g mk a) (Vm.Alike.refl U.vm) qK, qD, SZ.same rfl rfl qS⟩, va_recv hK hP (ci := 4) (q0 := krd) rfl er_967, fun U hU hW => ⟨rfl, by rw [hU], by rw [hU]; exact hP, va_K.moved hW.alike hK, hD.weaken (fun _ _ _ _ => trivial), hsz9.go hS hW hU hFc⟩⟩ rfl rfl hl.1 rfl (lv_room (Nat.le_of_ble_eq_true rfl)) dX4_readEither_92 ⟨Nat.le_of_ble_eq_true rfl, Nat.le_of_ble_eq_true rfl⟩) hS (fun q _ h => hFc q h) hFc (fun u t H1 locs ht hvm w_983 hB hz1 hk1 hS => ?_)
  obtain ⟨ws_984, ty_985, hm_986, ht_988, hP1, hK1, hD1, hx_987⟩ := hB
  rw [ht] at hP1
  have hK := va_K.moved hvm.symm hK1
  have hD := hD1.weaken (fun _ _ _ h => hFc _ h)
  generalize H1 = H at hP1 hS ⊢
  have hP := hP1
  obtain ⟨g_990, e_989, h_991⟩ := hm_986.obj er_967
  obtain ⟨z_992, z_993, z_994, z_995, z_996, z_997, rfl⟩ := smX4 h_991
  obtain ⟨g_999, e_998, h_1000⟩ := hm_986.obj et_968
  obtain ⟨z_1001, z_1002, z_1003, z_1004, rfl⟩ := smX6 h_1000
  obtain ⟨f_1006, e_1005⟩ := hm_986.arrI e_973
  have u_1007 := ht_988 _ _ u_974
  obtain ⟨f_1009, e_1008⟩ := hm_986.arrI e_979
  have u_1010 := ht_988 _ _ u_980
  have hsm := hsm.tr (hm_986.mono (by decide))
  have hlp_93 := hlp_93.tr (hm_986.mono (by decide))
  have htx := htx.tr ht_988
  obtain ⟨ts_1011, te_1012, cc_1013, ra_1014, rb_1015, rc_1016, rv_1017, re_1018, ya_1019, h1_1020, h2_1021, h3_1022, h4_1023, er_1024, et_1025, ⟨k_1026, c9_1027, t_1028, f_1029, e_1030, u_1031⟩, ⟨k_1032, c9_1033, t_1034, f_1035, e_1036, u_1037⟩⟩ := id hx_987
  refine lv_iinc (v := nI (i_85 + 1)) (lv' := [(4, .int (nI (i_85 + 1))), (2, .int r_925), (3, .int 0), (5, .int 1), (1, .int 3), (0, .ref rd)]) hx hb dX4_readEither_95 hl (k := 3) rfl (nI_add i_85 1) (by decide) rfl (fun ls hl => ?_)
  refine lv_goto (tgt := 11) hx hb dX4_readEither_98 (by decide) ?_
  exact ih_84 (i_85 + 1, r_925, 0) ws_984 _ _ ls (by show 400 - (i_85 + 1) < 400 - i_85; omega) ⟨hlp_93, ⟨ty_985, hK, htx, (⟨ts_1011, te_1012, cc_1013, ra_1014, rb_1015, rc_1016, rv_1017, re_1018, ya_1019, by omega, by omega, by omega, by omega, er_1024, et_1025, ⟨k_1026, c9_1027, t_1028, f_1029, e_1030, u_1031⟩, ⟨k_1032, c9_1033, t_1034, f_1035, e_1036, u_1037⟩⟩ : RS ws_984 ty_985 rd krd tp ktp cd bb tl)⟩, (show (i_85 + 1) ≤ 400 from by omega), (show r_925 = 0 ∨ r_925 = 1 from w_926), (show 0 = 0 ∨ 0 = 1 from Or.inl rfl)⟩ hP hD hS (lv_sub hl [0, 1, 2, 4, 5] rfl)
set_option maxHeartbeats 4000000 in
set_option maxRecDepth 100000 in
theorem r_readOne2 (l : Launch) (D : va_G) (ws : va_W) (tys : List (ClassId × FieldType)) (adK adV : Nat → Nat) (fo : Option Nat) (rd krd tp ktp cd bb tl : Nat)  (sz : Nat) (R0 : RS ws tys rd krd tp ktp cd bb tl)  : Met l yX4_readOne wsX4_readOne ({ frames := 15, cells := 0, slots := 0, locals := 341 }) (va_Pc [.ref rd, .int 2] (fun U => U.heap.size = sz ∧ va_P D vwCl ws U.heap ∧ va_K D vwCl tys U ∧ va_D (fun _ => True) ws ∧ SZ adK adV fo (va_A ws sz) U U.heap)) (va_Qi (fun (r : Int32) (_ : Unit) => r = 0 ∨ r = 1) (fun (_ : Unit) (t : State) => ∃ (ws' : va_W) (tys' : List (ClassId × FieldType)), sm [4, 6] ws ws' ∧ tyx tys tys' ∧ va_P D vwCl ws' t.heap ∧ va_K D vwCl tys' t ∧ va_D (va_A ws sz) ws' ∧ RS ws' tys' rd krd tp ktp cd bb tl) (va_A ws sz)) 0 0 (va_A ws sz) := by
  refine Met.ofW (cc := cX4_readOne) (maxL := 4) (ret := (some .boolean)) (by decide) rfl ?_
  intro p e s m args below meth c s₁ B hml hv
  obtain ⟨rfl, hsz, hP, hK, hD0, hsz9⟩ := hv
  have hx := B.exec
  have hb := B.bytes
  have hr := B.returns
  have hts := atoms_spec (ws := wsX4_readOne) B.pre
  have hown : s.vm.findClass RX4 = some m.cls := findClass_of_methodNamed B.named
  have hlocks := B.notSynchronized
  subst hsz
  have hD := hD0.self (sz := s.heap.size)
  generalize hAe : va_A ws s.heap.size = A at hD hsz9 ⊢
  have hA : ∀ q : Nat, s.heap.size ≤ q → A q := fun q h => by rw [← hAe]; exact Or.inr h
  have hS : va_S A s.heap s.heap [] := va_S.rf
  have hsm : sm [4, 6] ws ws := sm.rf ws
  have htx : tyx tys tys := tyx.rf tys
  have hin4 : ∀ w ∈ u_ws RX4 TX4 8, w ∈ wsX4_readOne := (fun _ h9 => List.mem_cons_of_mem _ (List.mem_append_left _ ((List.mem_append_right _ h9))))
  have hl := lv_entry ([.ref rd, .int 2]) (n := 4) (Nat.le_of_ble_eq_true rfl)
  rw [lg_entry_eq]
  generalize (lg_sl ([.ref rd, .int 2]) ++ List.replicate (4 - (lg_sl ([.ref rd, .int 2])).length) Slot.unset).toArray = ls at hl ⊢
  have hl : lv_has ls 4 [(0, .ref rd), (1, .int 2)] := hl
  obtain ⟨ts_1, te_2, cc_3, ra_4, rb_5, rc_6, rv_7, re_8, ya_9, h1_10, h2_11, h3_12, h4_13, er_14, et_15, ⟨k_16, c9_17, t_18, f_19, e_20, u_21⟩, ⟨k_22, c9_23, t_24, f_25, e_26, u_27⟩⟩ := id R0
  refine lv_aload_n hx hb dX4_readOne_0 rfl (lv_at hl 0 rfl) ?_
  refine va_get (D := D) (ci := 4) (v := .ref tp) (C := RX4) (T := TX4) (N := 8) hx hb hts hin4 hown hK hP krd er_14 rfl 0 (by decide) (hts (.fieldLink RX4 12 "HoneyHouse$RuleReader" "tape" "LHoneyHouse$Tape;") (List.mem_of_getElem? (i := 1) rfl)) (fun _ h9 => h9) rfl dX4_readOne_1 ?_
  refine va_ldcS hx hb hown hsz9.2.2.2.2.2.2.1 dX4_readOne_4 ?_
  have hFc := free_all hD hS hA
  refine va_calli (va_runV (As := [.ref (adK 3)]) (rest := []) ⟨hx, hb, hml, hown, hts⟩ (a_isWord l D ws tys adK adV fo 3 tp ktp tl ya_9 (nI ts_1) (nI te_2) bb k_22 c9_23 t_24 f_25 s.heap.size (by decide) et_15 e_26 u_27) (cwV 1 hts gX4_readOne_X6_isWord rfl rfl rfl (by decide +kernel) ⟨Nat.le_of_ble_eq_true rfl, Nat.le_of_ble_eq_true rfl⟩) ⟨fun a U g mk q => by obtain ⟨q0, q1, qP, qK, qD, qS⟩ := q; exact ⟨q0, q1, qP, va_K.moved (u := U) (U := U.calling g mk a) (Vm.Alike.refl U.vm) qK, qD, SZ.same rfl rfl qS⟩, va_recv hK hP (ci := 6) (q0 := ktp) rfl et_15, fun U hU hW => ⟨rfl, by rw [hU], by rw [hU]; exact hP, va_K.moved hW.alike hK, hD.weaken (fun _ _ _ _ => trivial), hsz9.go hS hW hU hFc⟩⟩ rfl rfl hl.1 rfl (lv_room (Nat.le_of_ble_eq_true rfl)) dX4_readOne_6 ⟨Nat.le_of_ble_eq_true rfl, Nat.le_of_ble_eq_true rfl⟩) hS (fun q _ h => hFc q h) hFc (fun r_28 u t H1 locs ht hvm w_29 hB hz1 hk1 hS => ?_)
  obtain ⟨ws_30, ty_31, hm_32, ht_34, hP1, hK1, hD1, hx_33⟩ := hB
  rw [ht] at hP1
  have hK := va_K.moved hvm.symm hK1
  have hD := hD1.weaken (fun _ _ _ h => hFc _ h)
  generalize H1 = H at hP1 hS ⊢
  have hP := hP1
  have e_35 := hm_32.objK er_14 (by decide)
  have e_36 := hm_32.objK et_15 (by decide)
  obtain ⟨f_38, e_37⟩ := hm_32.arrI e_20
  have u_39 := ht_34 _ _ u_21
  obtain ⟨f_41, e_40⟩ := hm_32.arrI e_26
  have u_42 := ht_34 _ _ u_27
  have hsm := hsm.tr (hm_32.mono (by decide))
  have htx := htx.tr ht_34
  rcases w_29 with rfl | rfl
  · refine lv_istore_n (lv' := [(2, .int 0), (0, .ref rd), (1, .int 2)]) hx hb dX4_readOne_9 rfl hl (by decide) rfl (fun ls hl => ?_)
    refine lv_iload_n hx hb dX4_readOne_10 rfl (lv_at hl 0 rfl) ?_
    refine lv_if_ne (tgt := 31) hx hb dX4_readOne_11 (by decide) (fun c_43 => absurd (by decide) c_43) (fun c_43 => ?_)
    refine lv_aload_n hx hb dX4_readOne_14 rfl (lv_at hl 1 rfl) ?_
    refine va_get (D := D) (ci := 4) (v := .ref tp) (C := RX4) (T := TX4) (N := 8) hx hb hts hin4 hown hK hP krd e_35 rfl 0 (by decide) (hts (.fieldLink RX4 12 "HoneyHouse$RuleReader" "tape" "LHoneyHouse$Tape;") (List.mem_of_getElem? (i := 1) rfl)) (fun _ h9 => h9) rfl dX4_readOne_15 ?_
    refine lv_bipush (v := 40) hx hb dX4_readOne_18 (by decide) ?_
    refine vp_callSi (W.runV (As := [.int 40]) (rest := []) ⟨hx, hb, hml, hown, hts⟩ (s_isByte l D ws_30 ty_31 tp ktp tl ya_9 (nI ts_1) (nI te_2) bb k_22 c9_23 t_24 f_41 40 e_36 e_40 u_42) (cwV 1 hts gX4_readOne_X6_isByte rfl rfl rfl (by decide +kernel) ⟨Nat.le_of_ble_eq_true rfl, Nat.le_of_ble_eq_true rfl⟩) ⟨fun a U g mk q => ⟨q.1, q.2.1, va_K.moved (u := U) (U := U.calling g mk a) (Vm.Alike.refl U.vm) q.2.2⟩, va_recv hK hP (ci := 6) (q0 := ktp) rfl e_36, fun U hU hW => ⟨rfl, by rw [hU]; exact hP, va_K.moved hW.alike hK⟩⟩ rfl rfl hl.1 rfl (lv_room (Nat.le_of_ble_eq_true rfl)) dX4_readOne_20 ⟨Nat.le_of_ble_eq_true rfl, Nat.le_of_ble_eq_true rfl⟩) (fun r_44 k_45 => ?_)
    rcases k_45 with rfl | rfl
    · refine lv_if_ne (tgt := 31) hx hb dX4_readOne_23 (by decide) (fun c_46 => absurd (by decide) c_46) (fun c_46 => ?_)
      refine lv_aload_n hx hb dX4_readOne_26 rfl (lv_at hl 1 rfl) ?_
      have hFc := free_all hD hS hA
      refine va_calli (va_runV (As := []) (rest := []) ⟨hx, hb, hml, hown, hts⟩ (r_readTest l D ws_30 ty_31 adK adV fo rd krd tp ktp cd bb tl  H.size (⟨ts_1, te_2, cc_3, ra_4, rb_5, rc_6, rv_7, re_8, ya_9, by omega, by omega, by omega, by omega, e_35, e_36, ⟨k_16, c9_17, t_18, f_38, e_37, u_39⟩, ⟨k_22, c9_23, t_24, f_41, e_40, u_42⟩⟩ : RS ws_30 ty_31 rd krd tp ktp cd bb tl)) (cwV 0 hts gX4_readOne_X4_readTest rfl rfl rfl (by decide +kernel) ⟨Nat.le_of_ble_eq_true rfl, Nat.le_of_ble_eq_true rfl⟩) ⟨fun a U g mk q => by obtain ⟨q0, q1, qP, qK, qD, qS⟩ := q; exact ⟨q0, q1, qP, va_K.moved (u := U) (U := U.calling g mk a) (Vm.Alike.refl U.vm) qK, qD, SZ.same rfl rfl qS⟩, va_recv hK hP (ci := 4) (q0 := krd) rfl e_35, fun U hU hW => ⟨rfl, by rw [hU], by rw [hU]; exact hP, va_K.moved hW.alike hK, hD.weaken (fun _ _ _ _ => trivial), hsz9.go hS hW hU hFc⟩⟩ rfl rfl hl.1 rfl (lv_room (Nat.le_of_ble_eq_true rfl)) dX4_readOne_27 ⟨Nat.le_of_ble_eq_true rfl, Nat.le_of_ble_eq_true rfl⟩) hS (fun q _ h => hFc q h) hFc (fun r_47 u t H1 locs ht hvm w_48 hB hz1 hk1 hS => ?_)
      obtain ⟨ws_49, ty_50, hm_51, ht_53, hP1, hK1, hD1, hx_52⟩ := hB
      rw [ht] at hP1
      have hK := va_K.moved hvm.symm hK1
      have hD := hD1.weaken (fun _ _ _ h => hFc _ h)
      generalize H1 = H at hP1 hS ⊢
      have hP := hP1
      obtain ⟨g_55, e_54, h_56⟩ := hm_51.obj e_35
      obtain ⟨z_57, z_58, z_59, z_60, z_61, z_62, rfl⟩ := smX4 h_56
      obtain ⟨g_64, e_63, h_65⟩ := hm_51.obj e_36
      obtain ⟨z_66, z_67, z_68, z_69, rfl⟩ := smX6 h_65
      obtain ⟨f_71, e_70⟩ := hm_51.arrI e_37
      have u_72 := ht_53 _ _ u_39
      obtain ⟨f_74, e_73⟩ := hm_51.arrI e_40
      have u_75 := ht_53 _ _ u_42
      have hsm := hsm.tr (hm_51.mono (by decide))
      have htx := htx.tr ht_53
      obtain ⟨ts_76, te_77, cc_78, ra_79, rb_80, rc_81, rv_82, re_83, ya_84, h1_85, h2_86, h3_87, h4_88, er_89, et_90, ⟨k_91, c9_92, t_93, f_94, e_95, u_96⟩, ⟨k_97, c9_98, t_99, f_100, e_101, u_102⟩⟩ := id hx_52
      exact W.zret (v := r_47) hx hb hr (by rcases w_48 with h9 | h9 <;> rw [h9] <;> rfl) (fun t ht hW => ⟨⟨r_47, (), rfl, w_48, ws_49, ty_50, hsm, htx, by rw [ht]; exact hP, va_K.moved hW.alike hK, hD, (⟨ts_76, te_77, cc_78, ra_79, rb_80, rc_81, rv_82, re_83, ya_84, by omega, by omega, by omega, by omega, er_89, et_90, ⟨k_91, c9_92, t_93, f_94, e_95, u_96⟩, ⟨k_97, c9_98, t_99, f_100, e_101, u_102⟩⟩ : RS ws_49 ty_50 rd krd tp ktp cd bb tl)⟩, hS.F ht⟩) hS.2.2 dX4_readOne_30
    refine lv_if_ne (tgt := 31) hx hb dX4_readOne_23 (by decide) (fun c_103 => ?_) (fun c_103 => absurd c_103 (by decide))
    refine lv_iload_n hx hb dX4_readOne_31 rfl (lv_at hl 2 rfl) ?_
    refine lv_bipush (v := 6) hx hb dX4_readOne_32 (by decide) ?_
    refine lv_icmp_lt (tgt := 50) hx hb dX4_readOne_34 (by decide) (fun c_104 => ?_) (fun c_104 => absurd (by decide) c_104)
    refine lv_aload_n hx hb dX4_readOne_50 rfl (lv_at hl 1 rfl) ?_
    refine va_get (D := D) (ci := 4) (v := .ref tp) (C := RX4) (T := TX4) (N := 8) hx hb hts hin4 hown hK hP krd e_35 rfl 0 (by decide) (hts (.fieldLink RX4 12 "HoneyHouse$RuleReader" "tape" "LHoneyHouse$Tape;") (List.mem_of_getElem? (i := 1) rfl)) (fun _ h9 => h9) rfl dX4_readOne_51 ?_
    have hFc := free_all hD hS hA
    refine va_callv (va_runV (As := []) (rest := []) ⟨hx, hb, hml, hown, hts⟩ (a_advance l D ws_30 ty_31 tp ktp tl te_2 ya_9 (nI ts_1) bb k_22 c9_23 t_24 f_41 H.size (by omega) (by omega) e_36 e_40 u_42) (cwV 0 hts gX4_readOne_X6_advance rfl rfl rfl (by decide +kernel) ⟨Nat.le_of_ble_eq_true rfl, Nat.le_of_ble_eq_true rfl⟩) ⟨fun a U g mk q => by obtain ⟨q0, q1, qP, qK, qD⟩ := q; exact ⟨q0, q1, qP, va_K.moved (u := U) (U := U.calling g mk a) (Vm.Alike.refl U.vm) qK, qD⟩, va_recv hK hP (ci := 6) (q0 := ktp) rfl e_36, fun U hU hW => ⟨rfl, by rw [hU], by rw [hU]; exact hP, va_K.moved hW.alike hK, hD.weaken (fun _ _ _ _ => trivial)⟩⟩ rfl rfl hl.1 rfl (lv_room (Nat.le_of_ble_eq_true rfl)) dX4_readOne_54 ⟨Nat.le_of_ble_eq_true rfl, Nat.le_of_ble_eq_true rfl⟩) hS (fun q _ h => hFc q h) hFc (fun u t H1 locs ht hvm w_106 hB hz1 hk1 hS => ?_)
    obtain ⟨ws_107, ty_108, hm_109, ht_111, hP1, hK1, hD1, hx_110⟩ := hB
    rw [ht] at hP1
    have hK := va_K.moved hvm.symm hK1
    have hD := hD1.weaken (fun _ _ _ h => hFc _ h)
    generalize H1 = H at hP1 hS ⊢
    have hP := hP1
    have e_112 := hm_109.objK e_35 (by decide)
    obtain ⟨g_114, e_113, h_115⟩ := hm_109.obj e_36
    obtain ⟨z_116, z_117, z_118, z_119, rfl⟩ := smX6 h_115
    obtain ⟨f_121, e_120⟩ := hm_109.arrI e_37
    have u_122 := ht_111 _ _ u_39
    obtain ⟨f_124, e_123⟩ := hm_109.arrI e_40
    have u_125 := ht_111 _ _ u_42
    have hsm := hsm.tr (hm_109.mono (by decide))
    have htx := htx.tr ht_111
    obtain ⟨k_126, s_127, e_128, h_129, h_130, h_131, e_132⟩ := hx_110
    refine lv_iload_n hx hb dX4_readOne_57 rfl (lv_at hl 0 rfl) ?_
    refine lv_if_ne (tgt := 86) hx hb dX4_readOne_58 (by decide) (fun c_133 => absurd (by decide) c_133) (fun c_133 => ?_)
    refine lv_aload_n hx hb dX4_readOne_61 rfl (lv_at hl 1 rfl) ?_
    refine lv_iload_n hx hb dX4_readOne_62 rfl (lv_at hl 2 rfl) ?_
    refine lv_iconst (v := 1) hx hb dX4_readOne_63 (by decide) ?_
    refine lv_iadd hx hb dX4_readOne_64 ?_
    refine tp_i (y := 3) (by decide) ?_
    have hFc := free_all hD hS hA
    refine va_calli (va_runV (As := [.int 3]) (rest := []) ⟨hx, hb, hml, hown, hts⟩ (r_readEither3 l D ws_107 ty_108 adK adV fo rd krd tp ktp cd bb tl  H.size (⟨s_127, e_128, cc_3, ra_4, rb_5, rc_6, rv_7, re_8, nI k_126, by omega, by omega, by omega, by omega, e_112, e_132, ⟨k_16, c9_17, t_18, f_121, e_120, u_122⟩, ⟨k_22, c9_23, t_24, f_124, e_123, u_125⟩⟩ : RS ws_107 ty_108 rd krd tp ktp cd bb tl)) (cwV 1 hts gX4_readOne_X4_readEither rfl rfl rfl (by decide +kernel) ⟨Nat.le_of_ble_eq_true rfl, Nat.le_of_ble_eq_true rfl⟩) ⟨fun a U g mk q => by obtain ⟨q0, q1, qP, qK, qD, qS⟩ := q; exact ⟨q0, q1, qP, va_K.moved (u := U) (U := U.calling g mk a) (Vm.Alike.refl U.vm) qK, qD, SZ.same rfl rfl qS⟩, va_recv hK hP (ci := 4) (q0 := krd) rfl e_112, fun U hU hW => ⟨rfl, by rw [hU], by rw [hU]; exact hP, va_K.moved hW.alike hK, hD.weaken (fun _ _ _ _ => trivial), hsz9.go hS hW hU hFc⟩⟩ rfl rfl hl.1 rfl (lv_room (Nat.le_of_ble_eq_true rfl)) dX4_readOne_65 ⟨Nat.le_of_ble_eq_true rfl, Nat.le_of_ble_eq_true rfl⟩) hS (fun q _ h => hFc q h) hFc (fun r_134 u t H1 locs ht hvm w_135 hB hz1 hk1 hS => ?_)
    obtain ⟨ws_136, ty_137, hm_138, ht_140, hP1, hK1, hD1, hx_139⟩ := hB
    rw [ht] at hP1
    have hK := va_K.moved hvm.symm hK1
    have hD := hD1.weaken (fun _ _ _ h => hFc _ h)
    generalize H1 = H at hP1 hS ⊢
    have hP := hP1
    obtain ⟨g_142, e_141, h_143⟩ := hm_138.obj e_112
    obtain ⟨z_144, z_145, z_146, z_147, z_148, z_149, rfl⟩ := smX4 h_143
    obtain ⟨g_151, e_150, h_152⟩ := hm_138.obj e_132
    obtain ⟨z_153, z_154, z_155, z_156, rfl⟩ := smX6 h_152
    obtain ⟨f_158, e_157⟩ := hm_138.arrI e_120
    have u_159 := ht_140 _ _ u_122
    obtain ⟨f_161, e_160⟩ := hm_138.arrI e_123
    have u_162 := ht_140 _ _ u_125
    have hsm := hsm.tr (hm_138.mono (by decide))
    have htx := htx.tr ht_140
    obtain ⟨ts_163, te_164, cc_165, ra_166, rb_167, rc_168, rv_169, re_170, ya_171, h1_172, h2_173, h3_174, h4_175, er_176, et_177, ⟨k_178, c9_179, t_180, f_181, e_182, u_183⟩, ⟨k_184, c9_185, t_186, f_187, e_188, u_189⟩⟩ := id hx_139
    refine lv_if_eq (tgt := 84) hx hb dX4_readOne_68 (by decide) (fun c_190 => ?_) (fun c_190 => ?_)
    · refine lv_iconst (v := 0) hx hb dX4_readOne_84 (by decide) ?_
      exact W.zret (v := 0) hx hb hr rfl (fun t ht hW => ⟨⟨0, (), rfl, Or.inl rfl, ws_136, ty_137, hsm, htx, by rw [ht]; exact hP, va_K.moved hW.alike hK, hD, (⟨ts_163, te_164, cc_165, ra_166, rb_167, rc_168, rv_169, re_170, ya_171, by omega, by omega, by omega, by omega, er_176, et_177, ⟨k_178, c9_179, t_180, f_181, e_182, u_183⟩, ⟨k_184, c9_185, t_186, f_187, e_188, u_189⟩⟩ : RS ws_136 ty_137 rd krd tp ktp cd bb tl)⟩, hS.F ht⟩) hS.2.2 dX4_readOne_85
    refine lv_aload_n hx hb dX4_readOne_71 rfl (lv_at hl 1 rfl) ?_
    refine lv_bipush (v := 41) hx hb dX4_readOne_72 (by decide) ?_
    have hFc := free_all hD hS hA
    refine va_calli (va_runV (As := [.int 41]) (rest := []) ⟨hx, hb, hml, hown, hts⟩ (r_readByte l D ws_136 ty_137 adK adV fo rd krd tp ktp cd bb tl 41 H.size (⟨ts_163, te_164, cc_165, ra_166, rb_167, rc_168, rv_169, re_170, ya_171, by omega, by omega, by omega, by omega, er_176, et_177, ⟨k_178, c9_179, t_180, f_181, e_182, u_183⟩, ⟨k_184, c9_185, t_186, f_187, e_188, u_189⟩⟩ : RS ws_136 ty_137 rd krd tp ktp cd bb tl)) (cwV 1 hts gX4_readOne_X4_readByte rfl rfl rfl (by decide +kernel) ⟨Nat.le_of_ble_eq_true rfl, Nat.le_of_ble_eq_true rfl⟩) ⟨fun a U g mk q => by obtain ⟨q0, q1, qP, qK, qD, qS⟩ := q; exact ⟨q0, q1, qP, va_K.moved (u := U) (U := U.calling g mk a) (Vm.Alike.refl U.vm) qK, qD, SZ.same rfl rfl qS⟩, va_recv hK hP (ci := 4) (q0 := krd) rfl er_176, fun U hU hW => ⟨rfl, by rw [hU], by rw [hU]; exact hP, va_K.moved hW.alike hK, hD.weaken (fun _ _ _ _ => trivial), hsz9.go hS hW hU hFc⟩⟩ rfl rfl hl.1 rfl (lv_room (Nat.le_of_ble_eq_true rfl)) dX4_readOne_74 ⟨Nat.le_of_ble_eq_true rfl, Nat.le_of_ble_eq_true rfl⟩) hS (fun q _ h => hFc q h) hFc (fun r_191 u t H1 locs ht hvm w_192 hB hz1 hk1 hS => ?_)
    obtain ⟨ws_193, ty_194, hm_195, ht_197, hP1, hK1, hD1, hx_196⟩ := hB
    rw [ht] at hP1
    have hK := va_K.moved hvm.symm hK1
    have hD := hD1.weaken (fun _ _ _ h => hFc _ h)
    generalize H1 = H at hP1 hS ⊢
    have hP := hP1
    obtain ⟨g_199, e_198, h_200⟩ := hm_195.obj er_176
    obtain ⟨z_201, z_202, z_203, z_204, z_205, z_206, rfl⟩ := smX4 h_200
    obtain ⟨g_208, e_207, h_209⟩ := hm_195.obj et_177
    obtain ⟨z_210, z_211, z_212, z_213, rfl⟩ := smX6 h_209
    obtain ⟨f_215, e_214⟩ := hm_195.arrI e_182
    have u_216 := ht_197 _ _ u_183
    obtain ⟨f_218, e_217⟩ := hm_195.arrI e_188
    have u_219 := ht_197 _ _ u_189
    have hsm := hsm.tr (hm_195.mono (by decide))
    have htx := htx.tr ht_197
    obtain ⟨ts_220, te_221, cc_222, ra_223, rb_224, rc_225, rv_226, re_227, ya_228, h1_229, h2_230, h3_231, h4_232, er_233, et_234, ⟨k_235, c9_236, t_237, f_238, e_239, u_240⟩, ⟨k_241, c9_242, t_243, f_244, e_245, u_246⟩⟩ := id hx_196
    rcases w_192 with rfl | rfl
    · refine lv_if_eq (tgt := 84) hx hb dX4_readOne_77 (by decide) (fun c_247 => ?_) (fun c_247 => absurd (by decide) c_247)
      refine lv_iconst (v := 0) hx hb dX4_readOne_84 (by decide) ?_
      exact W.zret (v := 0) hx hb hr rfl (fun t ht hW => ⟨⟨0, (), rfl, Or.inl rfl, ws_193, ty_194, hsm, htx, by rw [ht]; exact hP, va_K.moved hW.alike hK, hD, (⟨ts_220, te_221, cc_222, ra_223, rb_224, rc_225, rv_226, re_227, ya_228, by omega, by omega, by omega, by omega, er_233, et_234, ⟨k_235, c9_236, t_237, f_238, e_239, u_240⟩, ⟨k_241, c9_242, t_243, f_244, e_245, u_246⟩⟩ : RS ws_193 ty_194 rd krd tp ktp cd bb tl)⟩, hS.F ht⟩) hS.2.2 dX4_readOne_85
    refine lv_if_eq (tgt := 84) hx hb dX4_readOne_77 (by decide) (fun c_248 => absurd c_248 (by decide)) (fun c_248 => ?_)
    refine lv_iconst (v := 1) hx hb dX4_readOne_80 (by decide) ?_
    refine lv_goto (tgt := 85) hx hb dX4_readOne_81 (by decide) ?_
    exact W.zret (v := 1) hx hb hr rfl (fun t ht hW => ⟨⟨1, (), rfl, Or.inr rfl, ws_193, ty_194, hsm, htx, by rw [ht]; exact hP, va_K.moved hW.alike hK, hD, (⟨ts_220, te_221, cc_222, ra_223, rb_224, rc_225, rv_226, re_227, ya_228, by omega, by omega, by omega, by omega, er_233, et_234, ⟨k_235, c9_236, t_237, f_238, e_239, u_240⟩, ⟨k_241, c9_242, t_243, f_244, e_245, u_246⟩⟩ : RS ws_193 ty_194 rd krd tp ktp cd bb tl)⟩, hS.F ht⟩) hS.2.2 dX4_readOne_85
  refine lv_istore_n (lv' := [(2, .int 1), (0, .ref rd), (1, .int 2)]) hx hb dX4_readOne_9 rfl hl (by decide) rfl (fun ls hl => ?_)
  refine lv_iload_n hx hb dX4_readOne_10 rfl (lv_at hl 0 rfl) ?_
  refine lv_if_ne (tgt := 31) hx hb dX4_readOne_11 (by decide) (fun c_249 => ?_) (fun c_249 => absurd c_249 (by decide))
  refine lv_iload_n hx hb dX4_readOne_31 rfl (lv_at hl 2 rfl) ?_
  refine lv_bipush (v := 6) hx hb dX4_readOne_32 (by decide) ?_
  refine lv_icmp_lt (tgt := 50) hx hb dX4_readOne_34 (by decide) (fun c_250 => ?_) (fun c_250 => absurd (by decide) c_250)
  refine lv_aload_n hx hb dX4_readOne_50 rfl (lv_at hl 1 rfl) ?_
  refine va_get (D := D) (ci := 4) (v := .ref tp) (C := RX4) (T := TX4) (N := 8) hx hb hts hin4 hown hK hP krd e_35 rfl 0 (by decide) (hts (.fieldLink RX4 12 "HoneyHouse$RuleReader" "tape" "LHoneyHouse$Tape;") (List.mem_of_getElem? (i := 1) rfl)) (fun _ h9 => h9) rfl dX4_readOne_51 ?_
  have hFc := free_all hD hS hA
  refine va_callv (va_runV (As := []) (rest := []) ⟨hx, hb, hml, hown, hts⟩ (a_advance l D ws_30 ty_31 tp ktp tl te_2 ya_9 (nI ts_1) bb k_22 c9_23 t_24 f_41 H.size (by omega) (by omega) e_36 e_40 u_42) (cwV 0 hts gX4_readOne_X6_advance rfl rfl rfl (by decide +kernel) ⟨Nat.le_of_ble_eq_true rfl, Nat.le_of_ble_eq_true rfl⟩) ⟨fun a U g mk q => by obtain ⟨q0, q1, qP, qK, qD⟩ := q; exact ⟨q0, q1, qP, va_K.moved (u := U) (U := U.calling g mk a) (Vm.Alike.refl U.vm) qK, qD⟩, va_recv hK hP (ci := 6) (q0 := ktp) rfl e_36, fun U hU hW => ⟨rfl, by rw [hU], by rw [hU]; exact hP, va_K.moved hW.alike hK, hD.weaken (fun _ _ _ _ => trivial)⟩⟩ rfl rfl hl.1 rfl (lv_room (Nat.le_of_ble_eq_true rfl)) dX4_readOne_54 ⟨Nat.le_of_ble_eq_true rfl, Nat.le_of_ble_eq_true rfl⟩) hS (fun q _ h => hFc q h) hFc (fun u t H1 locs ht hvm w_252 hB hz1 hk1 hS => ?_)
  obtain ⟨ws_253, ty_254, hm_255, ht_257, hP1, hK1, hD1, hx_256⟩ := hB
  rw [ht] at hP1
  have hK := va_K.moved hvm.symm hK1
  have hD := hD1.weaken (fun _ _ _ h => hFc _ h)
  generalize H1 = H at hP1 hS ⊢
  have hP := hP1
  have e_258 := hm_255.objK e_35 (by decide)
  obtain ⟨g_260, e_259, h_261⟩ := hm_255.obj e_36
  obtain ⟨z_262, z_263, z_264, z_265, rfl⟩ := smX6 h_261
  obtain ⟨f_267, e_266⟩ := hm_255.arrI e_37
  have u_268 := ht_257 _ _ u_39
  obtain ⟨f_270, e_269⟩ := hm_255.arrI e_40
  have u_271 := ht_257 _ _ u_42
  have hsm := hsm.tr (hm_255.mono (by decide))
  have htx := htx.tr ht_257
  obtain ⟨k_272, s_273, e_274, h_275, h_276, h_277, e_278⟩ := hx_256
  refine lv_iload_n hx hb dX4_readOne_57 rfl (lv_at hl 0 rfl) ?_
  refine lv_if_ne (tgt := 86) hx hb dX4_readOne_58 (by decide) (fun c_279 => ?_) (fun c_279 => absurd c_279 (by decide))
  refine lv_aload_n hx hb dX4_readOne_86 rfl (lv_at hl 1 rfl) ?_
  refine lv_iload_n hx hb dX4_readOne_87 rfl (lv_at hl 2 rfl) ?_
  refine lv_iconst (v := 1) hx hb dX4_readOne_88 (by decide) ?_
  refine lv_iadd hx hb dX4_readOne_89 ?_
  refine tp_i (y := 3) (by decide) ?_
  have hFc := free_all hD hS hA
  refine va_calli (va_runV (As := [.int 3]) (rest := []) ⟨hx, hb, hml, hown, hts⟩ (r_readOne3 l D ws_253 ty_254 adK adV fo rd krd tp ktp cd bb tl  H.size (⟨s_273, e_274, cc_3, ra_4, rb_5, rc_6, rv_7, re_8, nI k_272, by omega, by omega, by omega, by omega, e_258, e_278, ⟨k_16, c9_17, t_18, f_267, e_266, u_268⟩, ⟨k_22, c9_23, t_24, f_270, e_269, u_271⟩⟩ : RS ws_253 ty_254 rd krd tp ktp cd bb tl)) (cwV 1 hts gX4_readOne_X4_readOne rfl rfl rfl (by decide +kernel) ⟨Nat.le_of_ble_eq_true rfl, Nat.le_of_ble_eq_true rfl⟩) ⟨fun a U g mk q => by obtain ⟨q0, q1, qP, qK, qD, qS⟩ := q; exact ⟨q0, q1, qP, va_K.moved (u := U) (U := U.calling g mk a) (Vm.Alike.refl U.vm) qK, qD, SZ.same rfl rfl qS⟩, va_recv hK hP (ci := 4) (q0 := krd) rfl e_258, fun U hU hW => ⟨rfl, by rw [hU], by rw [hU]; exact hP, va_K.moved hW.alike hK, hD.weaken (fun _ _ _ _ => trivial), hsz9.go hS hW hU hFc⟩⟩ rfl rfl hl.1 rfl (lv_room (Nat.le_of_ble_eq_true rfl)) dX4_readOne_90 ⟨Nat.le_of_ble_eq_true rfl, Nat.le_of_ble_eq_true rfl⟩) hS (fun q _ h => hFc q h) hFc (fun r_280 u t H1 locs ht hvm w_281 hB hz1 hk1 hS => ?_)
  obtain ⟨ws_282, ty_283, hm_284, ht_286, hP1, hK1, hD1, hx_285⟩ := hB
  rw [ht] at hP1
  have hK := va_K.moved hvm.symm hK1
  have hD := hD1.weaken (fun _ _ _ h => hFc _ h)
  generalize H1 = H at hP1 hS ⊢
  have hP := hP1
  obtain ⟨g_288, e_287, h_289⟩ := hm_284.obj e_258
  obtain ⟨z_290, z_291, z_292, z_293, z_294, z_295, rfl⟩ := smX4 h_289
  obtain ⟨g_297, e_296, h_298⟩ := hm_284.obj e_278
  obtain ⟨z_299, z_300, z_301, z_302, rfl⟩ := smX6 h_298
  obtain ⟨f_304, e_303⟩ := hm_284.arrI e_266
  have u_305 := ht_286 _ _ u_268
  obtain ⟨f_307, e_306⟩ := hm_284.arrI e_269
  have u_308 := ht_286 _ _ u_271
  have hsm := hsm.tr (hm_284.mono (by decide))
  have htx := htx.tr ht_286
  obtain ⟨ts_309, te_310, cc_311, ra_312, rb_313, rc_314, rv_315, re_316, ya_317, h1_318, h2_319, h3_320, h4_321, er_322, et_323, ⟨k_324, c9_325, t_326, f_327, e_328, u_329⟩, ⟨k_330, c9_331, t_332, f_333, e_334, u_335⟩⟩ := id hx_285
  refine lv_istore_n (lv' := [(3, .int r_280), (2, .int 1), (0, .ref rd), (1, .int 2)]) hx hb dX4_readOne_93 rfl hl (by decide) rfl (fun ls hl => ?_)
  refine lv_aload_n hx hb dX4_readOne_94 rfl (lv_at hl 2 rfl) ?_
  refine lv_iconst (v := (-1)) hx hb dX4_readOne_95 (by decide) ?_
  have hFc := free_all hD hS hA
  refine va_callv (va_runV (As := [.int (-1)]) (rest := []) ⟨hx, hb, hml, hown, hts⟩ (r_addCode l D ws_282 ty_283 adK adV fo rd krd tp ktp cd bb tl (-1) H.size (⟨ts_309, te_310, cc_311, ra_312, rb_313, rc_314, rv_315, re_316, ya_317, by omega, by omega, by omega, by omega, er_322, et_323, ⟨k_324, c9_325, t_326, f_327, e_328, u_329⟩, ⟨k_330, c9_331, t_332, f_333, e_334, u_335⟩⟩ : RS ws_282 ty_283 rd krd tp ktp cd bb tl)) (cwV 1 hts gX4_readOne_X4_addCode rfl rfl rfl (by decide +kernel) ⟨Nat.le_of_ble_eq_true rfl, Nat.le_of_ble_eq_true rfl⟩) ⟨fun a U g mk q => by obtain ⟨q0, q1, qP, qK, qD, qS⟩ := q; exact ⟨q0, q1, qP, va_K.moved (u := U) (U := U.calling g mk a) (Vm.Alike.refl U.vm) qK, qD, SZ.same rfl rfl qS⟩, va_recv hK hP (ci := 4) (q0 := krd) rfl er_322, fun U hU hW => ⟨rfl, by rw [hU], by rw [hU]; exact hP, va_K.moved hW.alike hK, hD.weaken (fun _ _ _ _ => trivial), hsz9.go hS hW hU hFc⟩⟩ rfl rfl hl.1 rfl (lv_room (Nat.le_of_ble_eq_true rfl)) dX4_readOne_96 ⟨Nat.le_of_ble_eq_true rfl, Nat.le_of_ble_eq_true rfl⟩) hS (fun q _ h => hFc q h) hFc (fun u t H1 locs ht hvm w_337 hB hz1 hk1 hS => ?_)
  obtain ⟨ws_338, ty_339, hm_340, ht_342, hP1, hK1, hD1, hx_341⟩ := hB
  rw [ht] at hP1
  have hK := va_K.moved hvm.symm hK1
  have hD := hD1.weaken (fun _ _ _ h => hFc _ h)
  generalize H1 = H at hP1 hS ⊢
  have hP := hP1
  obtain ⟨g_344, e_343, h_345⟩ := hm_340.obj er_322
  obtain ⟨z_346, z_347, z_348, z_349, z_350, z_351, rfl⟩ := smX4 h_345
  obtain ⟨g_353, e_352, h_354⟩ := hm_340.obj et_323
  obtain ⟨z_355, z_356, z_357, z_358, rfl⟩ := smX6 h_354
  obtain ⟨f_360, e_359⟩ := hm_340.arrI e_328
  have u_361 := ht_342 _ _ u_329
  obtain ⟨f_363, e_362⟩ := hm_340.arrI e_334
  have u_364 := ht_342 _ _ u_335
  have hsm := hsm.tr (hm_340.mono (by decide))
  have htx := htx.tr ht_342
  obtain ⟨ts_365, te_366, cc_367, ra_368, rb_369, rc_370, rv_371, re_372, ya_373, h1_374, h2_375, h3_376, h4_377, er_378, et_379, ⟨k_380, c9_381, t_382, f_383, e_384, u_385⟩, ⟨k_386, c9_387, t_388, f_389, e_390, u_391⟩⟩ := id hx_341
  refine lv_iload_n hx hb dX4_readOne_99 rfl (lv_at hl 0 rfl) ?_
  exact W.zret (v := r_280) hx hb hr (by rcases w_281 with h9 | h9 <;> rw [h9] <;> rfl) (fun t ht hW => ⟨⟨r_280, (), rfl, w_281, ws_338, ty_339, hsm, htx, by rw [ht]; exact hP, va_K.moved hW.alike hK, hD, (⟨ts_365, te_366, cc_367, ra_368, rb_369, rc_370, rv_371, re_372, ya_373, by omega, by omega, by omega, by omega, er_378, et_379, ⟨k_380, c9_381, t_382, f_383, e_384, u_385⟩, ⟨k_386, c9_387, t_388, f_389, e_390, u_391⟩⟩ : RS ws_338 ty_339 rd krd tp ktp cd bb tl)⟩, hS.F ht⟩) hS.2.2 dX4_readOne_100
set_option maxHeartbeats 4000000 in
set_option maxRecDepth 100000 in
theorem r_readEither2 (l : Launch) (D : va_G) (ws : va_W) (tys : List (ClassId × FieldType)) (adK adV : Nat → Nat) (fo : Option Nat) (rd krd tp ktp cd bb tl : Nat)  (sz : Nat) (R0 : RS ws tys rd krd tp ktp cd bb tl)  : Met l yX4_readEither wsX4_readEither ({ frames := 16, cells := 0, slots := 0, locals := 364 }) (va_Pc [.ref rd, .int 2] (fun U => U.heap.size = sz ∧ va_P D vwCl ws U.heap ∧ va_K D vwCl tys U ∧ va_D (fun _ => True) ws ∧ SZ adK adV fo (va_A ws sz) U U.heap)) (va_Qi (fun (r : Int32) (_ : Unit) => r = 0 ∨ r = 1) (fun (_ : Unit) (t : State) => ∃ (ws' : va_W) (tys' : List (ClassId × FieldType)), sm [4, 6] ws ws' ∧ tyx tys tys' ∧ va_P D vwCl ws' t.heap ∧ va_K D vwCl tys' t ∧ va_D (va_A ws sz) ws' ∧ RS ws' tys' rd krd tp ktp cd bb tl) (va_A ws sz)) 0 0 (va_A ws sz) := by
  refine Met.ofW (cc := cX4_readEither) (maxL := 6) (ret := (some .boolean)) (by decide) rfl ?_
  intro p e s m args below meth c s₁ B hml hv
  obtain ⟨rfl, hsz, hP, hK, hD0, hsz9⟩ := hv
  have hx := B.exec
  have hb := B.bytes
  have hr := B.returns
  have hts := atoms_spec (ws := wsX4_readEither) B.pre
  have hown : s.vm.findClass RX4 = some m.cls := findClass_of_methodNamed B.named
  have hlocks := B.notSynchronized
  subst hsz
  have hD := hD0.self (sz := s.heap.size)
  generalize hAe : va_A ws s.heap.size = A at hD hsz9 ⊢
  have hA : ∀ q : Nat, s.heap.size ≤ q → A q := fun q h => by rw [← hAe]; exact Or.inr h
  have hS : va_S A s.heap s.heap [] := va_S.rf
  have hsm : sm [4, 6] ws ws := sm.rf ws
  have htx : tyx tys tys := tyx.rf tys
  have hin4 : ∀ w ∈ u_ws RX4 TX4 8, w ∈ wsX4_readEither := (fun _ h9 => List.mem_cons_of_mem _ (List.mem_append_left _ ((List.mem_append_right _ h9))))
  have hl := lv_entry ([.ref rd, .int 2]) (n := 6) (Nat.le_of_ble_eq_true rfl)
  rw [lg_entry_eq]
  generalize (lg_sl ([.ref rd, .int 2]) ++ List.replicate (6 - (lg_sl ([.ref rd, .int 2])).length) Slot.unset).toArray = ls at hl ⊢
  have hl : lv_has ls 6 [(0, .ref rd), (1, .int 2)] := hl
  obtain ⟨ts_1, te_2, cc_3, ra_4, rb_5, rc_6, rv_7, re_8, ya_9, h1_10, h2_11, h3_12, h4_13, er_14, et_15, ⟨k_16, c9_17, t_18, f_19, e_20, u_21⟩, ⟨k_22, c9_23, t_24, f_25, e_26, u_27⟩⟩ := id R0
  refine lv_aload_n hx hb dX4_readEither_0 rfl (lv_at hl 0 rfl) ?_
  refine lv_iload_n hx hb dX4_readEither_1 rfl (lv_at hl 1 rfl) ?_
  have hFc := free_all hD hS hA
  refine va_calli (va_runV (As := [.int 2]) (rest := []) ⟨hx, hb, hml, hown, hts⟩ (r_readOne2 l D ws tys adK adV fo rd krd tp ktp cd bb tl  s.heap.size (⟨ts_1, te_2, cc_3, ra_4, rb_5, rc_6, rv_7, re_8, ya_9, by omega, by omega, by omega, by omega, er_14, et_15, ⟨k_16, c9_17, t_18, f_19, e_20, u_21⟩, ⟨k_22, c9_23, t_24, f_25, e_26, u_27⟩⟩ : RS ws tys rd krd tp ktp cd bb tl)) (cwV 1 hts gX4_readEither_X4_readOne rfl rfl rfl (by decide +kernel) ⟨Nat.le_of_ble_eq_true rfl, Nat.le_of_ble_eq_true rfl⟩) ⟨fun a U g mk q => by obtain ⟨q0, q1, qP, qK, qD, qS⟩ := q; exact ⟨q0, q1, qP, va_K.moved (u := U) (U := U.calling g mk a) (Vm.Alike.refl U.vm) qK, qD, SZ.same rfl rfl qS⟩, va_recv hK hP (ci := 4) (q0 := krd) rfl er_14, fun U hU hW => ⟨rfl, by rw [hU], by rw [hU]; exact hP, va_K.moved hW.alike hK, hD.weaken (fun _ _ _ _ => trivial), hsz9.go hS hW hU hFc⟩⟩ rfl rfl hl.1 rfl (lv_room (Nat.le_of_ble_eq_true rfl)) dX4_readEither_2 ⟨Nat.le_of_ble_eq_true rfl, Nat.le_of_ble_eq_true rfl⟩) hS (fun q _ h => hFc q h) hFc (fun r_28 u t H1 locs ht hvm w_29 hB hz1 hk1 hS => ?_)
  obtain ⟨ws_30, ty_31, hm_32, ht_34, hP1, hK1, hD1, hx_33⟩ := hB
  rw [ht] at hP1
  have hK := va_K.moved hvm.symm hK1
  have hD := hD1.weaken (fun _ _ _ h => hFc _ h)
  generalize H1 = H at hP1 hS ⊢
  have hP := hP1
  obtain ⟨g_36, e_35, h_37⟩ := hm_32.obj er_14
  obtain ⟨z_38, z_39, z_40, z_41, z_42, z_43, rfl⟩ := smX4 h_37
  obtain ⟨g_45, e_44, h_46⟩ := hm_32.obj et_15
  obtain ⟨z_47, z_48, z_49, z_50, rfl⟩ := smX6 h_46
  obtain ⟨f_52, e_51⟩ := hm_32.arrI e_20
  have u_53 := ht_34 _ _ u_21
  obtain ⟨f_55, e_54⟩ := hm_32.arrI e_26
  have u_56 := ht_34 _ _ u_27
  have hsm := hsm.tr (hm_32.mono (by decide))
  have htx := htx.tr ht_34
  obtain ⟨ts_57, te_58, cc_59, ra_60, rb_61, rc_62, rv_63, re_64, ya_65, h1_66, h2_67, h3_68, h4_69, er_70, et_71, ⟨k_72, c9_73, t_74, f_75, e_76, u_77⟩, ⟨k_78, c9_79, t_80, f_81, e_82, u_83⟩⟩ := id hx_33
  refine lv_istore_n (lv' := [(2, .int r_28), (0, .ref rd), (1, .int 2)]) hx hb dX4_readEither_5 rfl hl (by decide) rfl (fun ls hl => ?_)
  refine lv_iconst (v := 0) hx hb dX4_readEither_6 (by decide) ?_
  refine lv_istore_n (lv' := [(3, .int 0), (2, .int r_28), (0, .ref rd), (1, .int 2)]) hx hb dX4_readEither_7 rfl hl (by decide) rfl (fun ls hl => ?_)
  refine lv_iconst (v := 0) hx hb dX4_readEither_8 (by decide) ?_
  refine lv_istore (lv' := [(4, .int 0), (3, .int 0), (2, .int r_28), (0, .ref rd), (1, .int 2)]) hx hb dX4_readEither_9 hl (by decide) rfl (fun ls hl => ?_)
  refine lp_V (nL := 6) (σ := Nat × Int32 × Int32) (lv := fun x9 => [(4, .int (nI x9.1)), (2, .int x9.2.1), (3, .int x9.2.2), (1, .int 2), (0, .ref rd)]) (μ := fun x9 => 400 - x9.1) (J := fun x9 ws9 => sm [4, 6] ws_30 ws9 ∧ (∃ ty9 : List (ClassId × FieldType), va_K D vwCl ty9 s ∧ tyx tys ty9 ∧ RS ws9 ty9 rd krd tp ktp cd bb tl) ∧ (x9.1 ≤ 400) ∧ (x9.2.1 = 0 ∨ x9.2.1 = 1) ∧ (x9.2.2 = 0 ∨ x9.2.2 = 1)) (fun x9 ws_91 H locs ls hj hP hD hS hl ih_84 => ?_) (0, r_28, 0) ws_30 _ _ ls ⟨sm.rf _, ⟨ty_31, hK, htx, (⟨ts_57, te_58, cc_59, ra_60, rb_61, rc_62, rv_63, re_64, ya_65, by omega, by omega, by omega, by omega, er_70, et_71, ⟨k_72, c9_73, t_74, f_75, e_76, u_77⟩, ⟨k_78, c9_79, t_80, f_81, e_82, u_83⟩⟩ : RS ws_30 ty_31 rd krd tp ktp cd bb tl)⟩, (show 0 ≤ 400 from by omega), (show r_28 = 0 ∨ r_28 = 1 from w_29), (show 0 = 0 ∨ 0 = 1 from Or.inl rfl)⟩ hP hD hS (lv_sub hl [0, 2, 1, 4, 3] rfl)
  obtain ⟨i_85, x_86, y_87⟩ := x9
  have hj : sm [4, 6] ws_30 ws_91 ∧ (∃ ty9 : List (ClassId × FieldType), va_K D vwCl ty9 s ∧ tyx tys ty9 ∧ RS ws_91 ty9 rd krd tp ktp cd bb tl) ∧ (i_85 ≤ 400) ∧ (x_86 = 0 ∨ x_86 = 1) ∧ (y_87 = 0 ∨ y_87 = 1) := hj
  obtain ⟨hm_92, hR_94, hi_88, hbx_89, hby_90⟩ := hj
  obtain ⟨g_96, e_95, h_97⟩ := hm_92.obj er_70
  obtain ⟨z_98, z_99, z_100, z_101, z_102, z_103, rfl⟩ := smX4 h_97
  obtain ⟨g_105, e_104, h_106⟩ := hm_92.obj et_71
  obtain ⟨z_107, z_108, z_109, z_110, rfl⟩ := smX6 h_106
  obtain ⟨f_112, e_111⟩ := hm_92.arrI e_76
  obtain ⟨f_114, e_113⟩ := hm_92.arrI e_82
  have hsm := hsm.tr (hm_92.mono (by decide))
  obtain ⟨ty_115, hK, htx, hR_116⟩ := hR_94
  obtain ⟨ts_117, te_118, cc_119, ra_120, rb_121, rc_122, rv_123, re_124, ya_125, h1_126, h2_127, h3_128, h4_129, er_130, et_131, ⟨k_132, c9_133, t_134, f_135, e_136, u_137⟩, ⟨k_138, c9_139, t_140, f_141, e_142, u_143⟩⟩ := id hR_116
  have hlp_93 := hm_92
  have hl : lv_has ls 6 [(4, .int (nI i_85)), (2, .int x_86), (3, .int y_87), (1, .int 2), (0, .ref rd)] := hl
  refine lv_iload hx hb dX4_readEither_11 (lv_at hl 0 rfl) ?_
  refine lv_sipush (v := 400) hx hb dX4_readEither_13 (by decide) ?_
  refine lv_icmp_ge (tgt := 101) hx hb dX4_readEither_16 (by decide) (fun c_144 => ?_) (fun c_144 => ?_)
  · have d_145 := n_le (a := 400) (b := i_85) (by omega) (by omega) c_144
    refine lv_iload_n hx hb dX4_readEither_101 rfl (lv_at hl 2 rfl) ?_
    refine lv_if_eq (tgt := 111) hx hb dX4_readEither_102 (by decide) (fun c_146 => ?_) (fun c_146 => ?_)
    · refine lv_iload_n hx hb dX4_readEither_111 rfl (lv_at hl 1 rfl) ?_
      exact W.zret (v := x_86) hx hb hr (by rcases hbx_89 with h9 | h9 <;> rw [h9] <;> rfl) (fun t ht hW => ⟨⟨x_86, (), rfl, hbx_89, ws_91, ty_115, hsm, htx, by rw [ht]; exact hP, va_K.moved hW.alike hK, hD, (⟨ts_117, te_118, cc_119, ra_120, rb_121, rc_122, rv_123, re_124, ya_125, by omega, by omega, by omega, by omega, er_130, et_131, ⟨k_132, c9_133, t_134, f_135, e_136, u_137⟩, ⟨k_138, c9_139, t_140, f_141, e_142, u_143⟩⟩ : RS ws_91 ty_115 rd krd tp ktp cd bb tl)⟩, hS.F ht⟩) hS.2.2 dX4_readEither_112
    refine lv_aload_n hx hb dX4_readEither_105 rfl (lv_at hl 4 rfl) ?_
    refine lv_bipush (v := (-3)) hx hb dX4_readEither_106 (by decide) ?_
    have hFc := free_all hD hS hA
    refine va_callv (va_runV (As := [.int (-3)]) (rest := []) ⟨hx, hb, hml, hown, hts⟩ (r_addCode l D ws_91 ty_115 adK adV fo rd krd tp ktp cd bb tl (-3) H.size (⟨ts_117, te_118, cc_119, ra_120, rb_121, rc_122, rv_123, re_124, ya_125, by omega, by omega, by omega, by omega, er_130, et_131, ⟨k_132, c9_133, t_134, f_135, e_136, u_137⟩, ⟨k_138, c9_139, t_140, f_141, e_142, u_143⟩⟩ : RS ws_91 ty_115 rd krd tp ktp cd bb tl)) (cwV 1 hts gX4_readEither_X4_addCode rfl rfl rfl (by decide +kernel) ⟨Nat.le_of_ble_eq_true rfl, Nat.le_of_ble_eq_true rfl⟩) ⟨fun a U g mk q => by obtain ⟨q0, q1, qP, qK, qD, qS⟩ := q; exact ⟨q0, q1, qP, va_K.moved (u := U) (U := U.calling g mk a) (Vm.Alike.refl U.vm) qK, qD, SZ.same rfl rfl qS⟩, va_recv hK hP (ci := 4) (q0 := krd) rfl er_130, fun U hU hW => ⟨rfl, by rw [hU], by rw [hU]; exact hP, va_K.moved hW.alike hK, hD.weaken (fun _ _ _ _ => trivial), hsz9.go hS hW hU hFc⟩⟩ rfl rfl hl.1 rfl (lv_room (Nat.le_of_ble_eq_true rfl)) dX4_readEither_108 ⟨Nat.le_of_ble_eq_true rfl, Nat.le_of_ble_eq_true rfl⟩) hS (fun q _ h => hFc q h) hFc (fun u t H1 locs ht hvm w_148 hB hz1 hk1 hS => ?_)
    obtain ⟨ws_149, ty_150, hm_151, ht_153, hP1, hK1, hD1, hx_152⟩ := hB
    rw [ht] at hP1
    have hK := va_K.moved hvm.symm hK1
    have hD := hD1.weaken (fun _ _ _ h => hFc _ h)
    generalize H1 = H at hP1 hS ⊢
    have hP := hP1
    obtain ⟨g_155, e_154, h_156⟩ := hm_151.obj er_130
    obtain ⟨z_157, z_158, z_159, z_160, z_161, z_162, rfl⟩ := smX4 h_156
    obtain ⟨g_164, e_163, h_165⟩ := hm_151.obj et_131
    obtain ⟨z_166, z_167, z_168, z_169, rfl⟩ := smX6 h_165
    obtain ⟨f_171, e_170⟩ := hm_151.arrI e_136
    have u_172 := ht_153 _ _ u_137
    obtain ⟨f_174, e_173⟩ := hm_151.arrI e_142
    have u_175 := ht_153 _ _ u_143
    have hsm := hsm.tr (hm_151.mono (by decide))
    have hlp_93 := hlp_93.tr (hm_151.mono (by decide))
    have htx := htx.tr ht_153
    obtain ⟨ts_176, te_177, cc_178, ra_179, rb_180, rc_181, rv_182, re_183, ya_184, h1_185, h2_186, h3_187, h4_188, er_189, et_190, ⟨k_191, c9_192, t_193, f_194, e_195, u_196⟩, ⟨k_197, c9_198, t_199, f_200, e_201, u_202⟩⟩ := id hx_152
    refine lv_iload_n hx hb dX4_readEither_111 rfl (lv_at hl 1 rfl) ?_
    exact W.zret (v := x_86) hx hb hr (by rcases hbx_89 with h9 | h9 <;> rw [h9] <;> rfl) (fun t ht hW => ⟨⟨x_86, (), rfl, hbx_89, ws_149, ty_150, hsm, htx, by rw [ht]; exact hP, va_K.moved hW.alike hK, hD, (⟨ts_176, te_177, cc_178, ra_179, rb_180, rc_181, rv_182, re_183, ya_184, by omega, by omega, by omega, by omega, er_189, et_190, ⟨k_191, c9_192, t_193, f_194, e_195, u_196⟩, ⟨k_197, c9_198, t_199, f_200, e_201, u_202⟩⟩ : RS ws_149 ty_150 rd krd tp ktp cd bb tl)⟩, hS.F ht⟩) hS.2.2 dX4_readEither_112
  have d_203 := n_nle (a := 400) (b := i_85) (by omega) (by omega) c_144
  refine lv_iload_n hx hb dX4_readEither_19 rfl (lv_at hl 1 rfl) ?_
  refine lv_if_eq (tgt := 101) hx hb dX4_readEither_20 (by decide) (fun c_204 => ?_) (fun c_204 => ?_)
  · refine lv_iload_n hx hb dX4_readEither_101 rfl (lv_at hl 2 rfl) ?_
    refine lv_if_eq (tgt := 111) hx hb dX4_readEither_102 (by decide) (fun c_205 => ?_) (fun c_205 => ?_)
    · refine lv_iload_n hx hb dX4_readEither_111 rfl (lv_at hl 1 rfl) ?_
      exact W.zret (v := x_86) hx hb hr (by rcases hbx_89 with h9 | h9 <;> rw [h9] <;> rfl) (fun t ht hW => ⟨⟨x_86, (), rfl, hbx_89, ws_91, ty_115, hsm, htx, by rw [ht]; exact hP, va_K.moved hW.alike hK, hD, (⟨ts_117, te_118, cc_119, ra_120, rb_121, rc_122, rv_123, re_124, ya_125, by omega, by omega, by omega, by omega, er_130, et_131, ⟨k_132, c9_133, t_134, f_135, e_136, u_137⟩, ⟨k_138, c9_139, t_140, f_141, e_142, u_143⟩⟩ : RS ws_91 ty_115 rd krd tp ktp cd bb tl)⟩, hS.F ht⟩) hS.2.2 dX4_readEither_112
    refine lv_aload_n hx hb dX4_readEither_105 rfl (lv_at hl 4 rfl) ?_
    refine lv_bipush (v := (-3)) hx hb dX4_readEither_106 (by decide) ?_
    have hFc := free_all hD hS hA
    refine va_callv (va_runV (As := [.int (-3)]) (rest := []) ⟨hx, hb, hml, hown, hts⟩ (r_addCode l D ws_91 ty_115 adK adV fo rd krd tp ktp cd bb tl (-3) H.size (⟨ts_117, te_118, cc_119, ra_120, rb_121, rc_122, rv_123, re_124, ya_125, by omega, by omega, by omega, by omega, er_130, et_131, ⟨k_132, c9_133, t_134, f_135, e_136, u_137⟩, ⟨k_138, c9_139, t_140, f_141, e_142, u_143⟩⟩ : RS ws_91 ty_115 rd krd tp ktp cd bb tl)) (cwV 1 hts gX4_readEither_X4_addCode rfl rfl rfl (by decide +kernel) ⟨Nat.le_of_ble_eq_true rfl, Nat.le_of_ble_eq_true rfl⟩) ⟨fun a U g mk q => by obtain ⟨q0, q1, qP, qK, qD, qS⟩ := q; exact ⟨q0, q1, qP, va_K.moved (u := U) (U := U.calling g mk a) (Vm.Alike.refl U.vm) qK, qD, SZ.same rfl rfl qS⟩, va_recv hK hP (ci := 4) (q0 := krd) rfl er_130, fun U hU hW => ⟨rfl, by rw [hU], by rw [hU]; exact hP, va_K.moved hW.alike hK, hD.weaken (fun _ _ _ _ => trivial), hsz9.go hS hW hU hFc⟩⟩ rfl rfl hl.1 rfl (lv_room (Nat.le_of_ble_eq_true rfl)) dX4_readEither_108 ⟨Nat.le_of_ble_eq_true rfl, Nat.le_of_ble_eq_true rfl⟩) hS (fun q _ h => hFc q h) hFc (fun u t H1 locs ht hvm w_207 hB hz1 hk1 hS => ?_)
    obtain ⟨ws_208, ty_209, hm_210, ht_212, hP1, hK1, hD1, hx_211⟩ := hB
    rw [ht] at hP1
    have hK := va_K.moved hvm.symm hK1
    have hD := hD1.weaken (fun _ _ _ h => hFc _ h)
    generalize H1 = H at hP1 hS ⊢
    have hP := hP1
    obtain ⟨g_214, e_213, h_215⟩ := hm_210.obj er_130
    obtain ⟨z_216, z_217, z_218, z_219, z_220, z_221, rfl⟩ := smX4 h_215
    obtain ⟨g_223, e_222, h_224⟩ := hm_210.obj et_131
    obtain ⟨z_225, z_226, z_227, z_228, rfl⟩ := smX6 h_224
    obtain ⟨f_230, e_229⟩ := hm_210.arrI e_136
    have u_231 := ht_212 _ _ u_137
    obtain ⟨f_233, e_232⟩ := hm_210.arrI e_142
    have u_234 := ht_212 _ _ u_143
    have hsm := hsm.tr (hm_210.mono (by decide))
    have hlp_93 := hlp_93.tr (hm_210.mono (by decide))
    have htx := htx.tr ht_212
    obtain ⟨ts_235, te_236, cc_237, ra_238, rb_239, rc_240, rv_241, re_242, ya_243, h1_244, h2_245, h3_246, h4_247, er_248, et_249, ⟨k_250, c9_251, t_252, f_253, e_254, u_255⟩, ⟨k_256, c9_257, t_258, f_259, e_260, u_261⟩⟩ := id hx_211
    refine lv_iload_n hx hb dX4_readEither_111 rfl (lv_at hl 1 rfl) ?_
    exact W.zret (v := x_86) hx hb hr (by rcases hbx_89 with h9 | h9 <;> rw [h9] <;> rfl) (fun t ht hW => ⟨⟨x_86, (), rfl, hbx_89, ws_208, ty_209, hsm, htx, by rw [ht]; exact hP, va_K.moved hW.alike hK, hD, (⟨ts_235, te_236, cc_237, ra_238, rb_239, rc_240, rv_241, re_242, ya_243, by omega, by omega, by omega, by omega, er_248, et_249, ⟨k_250, c9_251, t_252, f_253, e_254, u_255⟩, ⟨k_256, c9_257, t_258, f_259, e_260, u_261⟩⟩ : RS ws_208 ty_209 rd krd tp ktp cd bb tl)⟩, hS.F ht⟩) hS.2.2 dX4_readEither_112
  refine lv_aload_n hx hb dX4_readEither_23 rfl (lv_at hl 4 rfl) ?_
  have hFc := free_all hD hS hA
  refine va_calli (va_runV (As := []) (rest := []) ⟨hx, hb, hml, hown, hts⟩ (r_isAndOr l D ws_91 ty_115 adK adV fo rd krd tp ktp cd bb tl  H.size (⟨ts_117, te_118, cc_119, ra_120, rb_121, rc_122, rv_123, re_124, ya_125, by omega, by omega, by omega, by omega, er_130, et_131, ⟨k_132, c9_133, t_134, f_135, e_136, u_137⟩, ⟨k_138, c9_139, t_140, f_141, e_142, u_143⟩⟩ : RS ws_91 ty_115 rd krd tp ktp cd bb tl)) (cwV 0 hts gX4_readEither_X4_isAndOr rfl rfl rfl (by decide +kernel) ⟨Nat.le_of_ble_eq_true rfl, Nat.le_of_ble_eq_true rfl⟩) ⟨fun a U g mk q => by obtain ⟨q0, q1, qP, qK, qD, qS⟩ := q; exact ⟨q0, q1, qP, va_K.moved (u := U) (U := U.calling g mk a) (Vm.Alike.refl U.vm) qK, qD, SZ.same rfl rfl qS⟩, va_recv hK hP (ci := 4) (q0 := krd) rfl er_130, fun U hU hW => ⟨rfl, by rw [hU], by rw [hU]; exact hP, va_K.moved hW.alike hK, hD.weaken (fun _ _ _ _ => trivial), hsz9.go hS hW hU hFc⟩⟩ rfl rfl hl.1 rfl (lv_room (Nat.le_of_ble_eq_true rfl)) dX4_readEither_24 ⟨Nat.le_of_ble_eq_true rfl, Nat.le_of_ble_eq_true rfl⟩) hS (fun q _ h => hFc q h) hFc (fun r_262 u t H1 locs ht hvm w_263 hB hz1 hk1 hS => ?_)
  obtain ⟨ws_264, ty_265, hm_266, ht_268, hP1, hK1, hD1, hx_267⟩ := hB
  rw [ht] at hP1
  have hK := va_K.moved hvm.symm hK1
  have hD := hD1.weaken (fun _ _ _ h => hFc _ h)
  generalize H1 = H at hP1 hS ⊢
  have hP := hP1
  have e_269 := hm_266.objK er_130 (by decide)
  have e_270 := hm_266.objK et_131 (by decide)
  obtain ⟨f_272, e_271⟩ := hm_266.arrI e_136
  have u_273 := ht_268 _ _ u_137
  obtain ⟨f_275, e_274⟩ := hm_266.arrI e_142
  have u_276 := ht_268 _ _ u_143
  have hsm := hsm.tr (hm_266.mono (by decide))
  have hlp_93 := hlp_93.tr (hm_266.mono (by decide))
  have htx := htx.tr ht_268
  rcases w_263 with rfl | rfl
  · refine lv_if_eq (tgt := 101) hx hb dX4_readEither_27 (by decide) (fun c_277 => ?_) (fun c_277 => absurd (by decide) c_277)
    refine lv_iload_n hx hb dX4_readEither_101 rfl (lv_at hl 2 rfl) ?_
    refine lv_if_eq (tgt := 111) hx hb dX4_readEither_102 (by decide) (fun c_278 => ?_) (fun c_278 => ?_)
    · refine lv_iload_n hx hb dX4_readEither_111 rfl (lv_at hl 1 rfl) ?_
      exact W.zret (v := x_86) hx hb hr (by rcases hbx_89 with h9 | h9 <;> rw [h9] <;> rfl) (fun t ht hW => ⟨⟨x_86, (), rfl, hbx_89, ws_264, ty_265, hsm, htx, by rw [ht]; exact hP, va_K.moved hW.alike hK, hD, (⟨ts_117, te_118, cc_119, ra_120, rb_121, rc_122, rv_123, re_124, ya_125, by omega, by omega, by omega, by omega, e_269, e_270, ⟨k_132, c9_133, t_134, f_272, e_271, u_273⟩, ⟨k_138, c9_139, t_140, f_275, e_274, u_276⟩⟩ : RS ws_264 ty_265 rd krd tp ktp cd bb tl)⟩, hS.F ht⟩) hS.2.2 dX4_readEither_112
    refine lv_aload_n hx hb dX4_readEither_105 rfl (lv_at hl 4 rfl) ?_
    refine lv_bipush (v := (-3)) hx hb dX4_readEither_106 (by decide) ?_
    have hFc := free_all hD hS hA
    refine va_callv (va_runV (As := [.int (-3)]) (rest := []) ⟨hx, hb, hml, hown, hts⟩ (r_addCode l D ws_264 ty_265 adK adV fo rd krd tp ktp cd bb tl (-3) H.size (⟨ts_117, te_118, cc_119, ra_120, rb_121, rc_122, rv_123, re_124, ya_125, by omega, by omega, by omega, by omega, e_269, e_270, ⟨k_132, c9_133, t_134, f_272, e_271, u_273⟩, ⟨k_138, c9_139, t_140, f_275, e_274, u_276⟩⟩ : RS ws_264 ty_265 rd krd tp ktp cd bb tl)) (cwV 1 hts gX4_readEither_X4_addCode rfl rfl rfl (by decide +kernel) ⟨Nat.le_of_ble_eq_true rfl, Nat.le_of_ble_eq_true rfl⟩) ⟨fun a U g mk q => by obtain ⟨q0, q1, qP, qK, qD, qS⟩ := q; exact ⟨q0, q1, qP, va_K.moved (u := U) (U := U.calling g mk a) (Vm.Alike.refl U.vm) qK, qD, SZ.same rfl rfl qS⟩, va_recv hK hP (ci := 4) (q0 := krd) rfl e_269, fun U hU hW => ⟨rfl, by rw [hU], by rw [hU]; exact hP, va_K.moved hW.alike hK, hD.weaken (fun _ _ _ _ => trivial), hsz9.go hS hW hU hFc⟩⟩ rfl rfl hl.1 rfl (lv_room (Nat.le_of_ble_eq_true rfl)) dX4_readEither_108 ⟨Nat.le_of_ble_eq_true rfl, Nat.le_of_ble_eq_true rfl⟩) hS (fun q _ h => hFc q h) hFc (fun u t H1 locs ht hvm w_280 hB hz1 hk1 hS => ?_)
    obtain ⟨ws_281, ty_282, hm_283, ht_285, hP1, hK1, hD1, hx_284⟩ := hB
    rw [ht] at hP1
    have hK := va_K.moved hvm.symm hK1
    have hD := hD1.weaken (fun _ _ _ h => hFc _ h)
    generalize H1 = H at hP1 hS ⊢
    have hP := hP1
    obtain ⟨g_287, e_286, h_288⟩ := hm_283.obj e_269
    obtain ⟨z_289, z_290, z_291, z_292, z_293, z_294, rfl⟩ := smX4 h_288
    obtain ⟨g_296, e_295, h_297⟩ := hm_283.obj e_270
    obtain ⟨z_298, z_299, z_300, z_301, rfl⟩ := smX6 h_297
    obtain ⟨f_303, e_302⟩ := hm_283.arrI e_271
    have u_304 := ht_285 _ _ u_273
    obtain ⟨f_306, e_305⟩ := hm_283.arrI e_274
    have u_307 := ht_285 _ _ u_276
    have hsm := hsm.tr (hm_283.mono (by decide))
    have hlp_93 := hlp_93.tr (hm_283.mono (by decide))
    have htx := htx.tr ht_285
    obtain ⟨ts_308, te_309, cc_310, ra_311, rb_312, rc_313, rv_314, re_315, ya_316, h1_317, h2_318, h3_319, h4_320, er_321, et_322, ⟨k_323, c9_324, t_325, f_326, e_327, u_328⟩, ⟨k_329, c9_330, t_331, f_332, e_333, u_334⟩⟩ := id hx_284
    refine lv_iload_n hx hb dX4_readEither_111 rfl (lv_at hl 1 rfl) ?_
    exact W.zret (v := x_86) hx hb hr (by rcases hbx_89 with h9 | h9 <;> rw [h9] <;> rfl) (fun t ht hW => ⟨⟨x_86, (), rfl, hbx_89, ws_281, ty_282, hsm, htx, by rw [ht]; exact hP, va_K.moved hW.alike hK, hD, (⟨ts_308, te_309, cc_310, ra_311, rb_312, rc_313, rv_314, re_315, ya_316, by omega, by omega, by omega, by omega, er_321, et_322, ⟨k_323, c9_324, t_325, f_326, e_327, u_328⟩, ⟨k_329, c9_330, t_331, f_332, e_333, u_334⟩⟩ : RS ws_281 ty_282 rd krd tp ktp cd bb tl)⟩, hS.F ht⟩) hS.2.2 dX4_readEither_112
  refine lv_if_eq (tgt := 101) hx hb dX4_readEither_27 (by decide) (fun c_335 => absurd c_335 (by decide)) (fun c_335 => ?_)
  refine lv_aload_n hx hb dX4_readEither_30 rfl (lv_at hl 4 rfl) ?_
  refine va_get (D := D) (ci := 4) (v := .ref tp) (C := RX4) (T := TX4) (N := 8) hx hb hts hin4 hown hK hP krd e_269 rfl 0 (by decide) (hts (.fieldLink RX4 12 "HoneyHouse$RuleReader" "tape" "LHoneyHouse$Tape;") (List.mem_of_getElem? (i := 1) rfl)) (fun _ h9 => h9) rfl dX4_readEither_31 ?_
  refine va_ldcS hx hb hown hsz9.2.2.2.2.2.1 dX4_readEither_34 ?_
  have hFc := free_all hD hS hA
  refine va_calli (va_runV (As := [.ref (adK 2)]) (rest := []) ⟨hx, hb, hml, hown, hts⟩ (a_isWord l D ws_264 ty_265 adK adV fo 2 tp ktp tl ya_125 (nI ts_117) (nI te_118) bb k_138 c9_139 t_140 f_275 H.size (by decide) e_270 e_274 u_276) (cwV 1 hts gX4_readEither_X6_isWord rfl rfl rfl (by decide +kernel) ⟨Nat.le_of_ble_eq_true rfl, Nat.le_of_ble_eq_true rfl⟩) ⟨fun a U g mk q => by obtain ⟨q0, q1, qP, qK, qD, qS⟩ := q; exact ⟨q0, q1, qP, va_K.moved (u := U) (U := U.calling g mk a) (Vm.Alike.refl U.vm) qK, qD, SZ.same rfl rfl qS⟩, va_recv hK hP (ci := 6) (q0 := ktp) rfl e_270, fun U hU hW => ⟨rfl, by rw [hU], by rw [hU]; exact hP, va_K.moved hW.alike hK, hD.weaken (fun _ _ _ _ => trivial), hsz9.go hS hW hU hFc⟩⟩ rfl rfl hl.1 rfl (lv_room (Nat.le_of_ble_eq_true rfl)) dX4_readEither_36 ⟨Nat.le_of_ble_eq_true rfl, Nat.le_of_ble_eq_true rfl⟩) hS (fun q _ h => hFc q h) hFc (fun r_336 u t H1 locs ht hvm w_337 hB hz1 hk1 hS => ?_)
  obtain ⟨ws_338, ty_339, hm_340, ht_342, hP1, hK1, hD1, hx_341⟩ := hB
  rw [ht] at hP1
  have hK := va_K.moved hvm.symm hK1
  have hD := hD1.weaken (fun _ _ _ h => hFc _ h)
  generalize H1 = H at hP1 hS ⊢
  have hP := hP1
  have e_343 := hm_340.objK e_269 (by decide)
  have e_344 := hm_340.objK e_270 (by decide)
  obtain ⟨f_346, e_345⟩ := hm_340.arrI e_271
  have u_347 := ht_342 _ _ u_273
  obtain ⟨f_349, e_348⟩ := hm_340.arrI e_274
  have u_350 := ht_342 _ _ u_276
  have hsm := hsm.tr (hm_340.mono (by decide))
  have hlp_93 := hlp_93.tr (hm_340.mono (by decide))
  have htx := htx.tr ht_342
  rcases w_337 with rfl | rfl
  · refine lv_istore (lv' := [(5, .int 0), (4, .int (nI i_85)), (2, .int x_86), (3, .int y_87), (1, .int 2), (0, .ref rd)]) hx hb dX4_readEither_39 hl (by decide) rfl (fun ls hl => ?_)
    refine lv_iload hx hb dX4_readEither_41 (lv_at hl 0 rfl) ?_
    refine lv_if_ne (tgt := 56) hx hb dX4_readEither_43 (by decide) (fun c_351 => absurd (by decide) c_351) (fun c_351 => ?_)
    refine lv_iload_n hx hb dX4_readEither_46 rfl (lv_at hl 3 rfl) ?_
    refine lv_if_eq (tgt := 56) hx hb dX4_readEither_47 (by decide) (fun c_352 => ?_) (fun c_352 => ?_)
    · refine lv_iload_n hx hb dX4_readEither_56 rfl (lv_at hl 3 rfl) ?_
      refine lv_if_ne (tgt := 65) hx hb dX4_readEither_57 (by decide) (fun c_353 => ?_) (fun c_353 => ?_)
      · refine lv_iconst (v := 1) hx hb dX4_readEither_65 (by decide) ?_
        refine lv_goto (tgt := 70) hx hb dX4_readEither_66 (by decide) ?_
        refine lv_istore_n (lv' := [(3, .int 1), (5, .int 0), (4, .int (nI i_85)), (2, .int x_86), (1, .int 2), (0, .ref rd)]) hx hb dX4_readEither_70 rfl hl (by decide) rfl (fun ls hl => ?_)
        refine lv_aload_n hx hb dX4_readEither_71 rfl (lv_at hl 5 rfl) ?_
        refine va_get (D := D) (ci := 4) (v := .ref tp) (C := RX4) (T := TX4) (N := 8) hx hb hts hin4 hown hK hP krd e_343 rfl 0 (by decide) (hts (.fieldLink RX4 12 "HoneyHouse$RuleReader" "tape" "LHoneyHouse$Tape;") (List.mem_of_getElem? (i := 1) rfl)) (fun _ h9 => h9) rfl dX4_readEither_72 ?_
        have hFc := free_all hD hS hA
        refine va_callv (va_runV (As := []) (rest := []) ⟨hx, hb, hml, hown, hts⟩ (a_advance l D ws_338 ty_339 tp ktp tl te_118 ya_125 (nI ts_117) bb k_138 c9_139 t_140 f_349 H.size (by omega) (by omega) e_344 e_348 u_350) (cwV 0 hts gX4_readEither_X6_advance rfl rfl rfl (by decide +kernel) ⟨Nat.le_of_ble_eq_true rfl, Nat.le_of_ble_eq_true rfl⟩) ⟨fun a U g mk q => by obtain ⟨q0, q1, qP, qK, qD⟩ := q; exact ⟨q0, q1, qP, va_K.moved (u := U) (U := U.calling g mk a) (Vm.Alike.refl U.vm) qK, qD⟩, va_recv hK hP (ci := 6) (q0 := ktp) rfl e_344, fun U hU hW => ⟨rfl, by rw [hU], by rw [hU]; exact hP, va_K.moved hW.alike hK, hD.weaken (fun _ _ _ _ => trivial)⟩⟩ rfl rfl hl.1 rfl (lv_room (Nat.le_of_ble_eq_true rfl)) dX4_readEither_75 ⟨Nat.le_of_ble_eq_true rfl, Nat.le_of_ble_eq_true rfl⟩) hS (fun q _ h => hFc q h) hFc (fun u t H1 locs ht hvm w_355 hB hz1 hk1 hS => ?_)
        obtain ⟨ws_356, ty_357, hm_358, ht_360, hP1, hK1, hD1, hx_359⟩ := hB
        rw [ht] at hP1
        have hK := va_K.moved hvm.symm hK1
        have hD := hD1.weaken (fun _ _ _ h => hFc _ h)
        generalize H1 = H at hP1 hS ⊢
        have hP := hP1
        have e_361 := hm_358.objK e_343 (by decide)
        obtain ⟨g_363, e_362, h_364⟩ := hm_358.obj e_344
        obtain ⟨z_365, z_366, z_367, z_368, rfl⟩ := smX6 h_364
        obtain ⟨f_370, e_369⟩ := hm_358.arrI e_345
        have u_371 := ht_360 _ _ u_347
        obtain ⟨f_373, e_372⟩ := hm_358.arrI e_348
        have u_374 := ht_360 _ _ u_350
        have hsm := hsm.tr (hm_358.mono (by decide))
        have hlp_93 := hlp_93.tr (hm_358.mono (by decide))
        have htx := htx.tr ht_360
        obtain ⟨k_375, s_376, e_377, h_378, h_379, h_380, e_381⟩ := hx_359
        refine lv_aload_n hx hb dX4_readEither_78 rfl (lv_at hl 5 rfl) ?_
        refine lv_iload_n hx hb dX4_readEither_79 rfl (lv_at hl 4 rfl) ?_
        have hFc := free_all hD hS hA
        refine va_calli (va_runV (As := [.int 2]) (rest := []) ⟨hx, hb, hml, hown, hts⟩ (r_readOne2 l D ws_356 ty_357 adK adV fo rd krd tp ktp cd bb tl  H.size (⟨s_376, e_377, cc_119, ra_120, rb_121, rc_122, rv_123, re_124, nI k_375, by omega, by omega, by omega, by omega, e_361, e_381, ⟨k_132, c9_133, t_134, f_370, e_369, u_371⟩, ⟨k_138, c9_139, t_140, f_373, e_372, u_374⟩⟩ : RS ws_356 ty_357 rd krd tp ktp cd bb tl)) (cwV 1 hts gX4_readEither_X4_readOne rfl rfl rfl (by decide +kernel) ⟨Nat.le_of_ble_eq_true rfl, Nat.le_of_ble_eq_true rfl⟩) ⟨fun a U g mk q => by obtain ⟨q0, q1, qP, qK, qD, qS⟩ := q; exact ⟨q0, q1, qP, va_K.moved (u := U) (U := U.calling g mk a) (Vm.Alike.refl U.vm) qK, qD, SZ.same rfl rfl qS⟩, va_recv hK hP (ci := 4) (q0 := krd) rfl e_361, fun U hU hW => ⟨rfl, by rw [hU], by rw [hU]; exact hP, va_K.moved hW.alike hK, hD.weaken (fun _ _ _ _ => trivial), hsz9.go hS hW hU hFc⟩⟩ rfl rfl hl.1 rfl (lv_room (Nat.le_of_ble_eq_true rfl)) dX4_readEither_80 ⟨Nat.le_of_ble_eq_true rfl, Nat.le_of_ble_eq_true rfl⟩) hS (fun q _ h => hFc q h) hFc (fun r_382 u t H1 locs ht hvm w_383 hB hz1 hk1 hS => ?_)
        obtain ⟨ws_384, ty_385, hm_386, ht_388, hP1, hK1, hD1, hx_387⟩ := hB
        rw [ht] at hP1
        have hK := va_K.moved hvm.symm hK1
        have hD := hD1.weaken (fun _ _ _ h => hFc _ h)
        generalize H1 = H at hP1 hS ⊢
        have hP := hP1
        obtain ⟨g_390, e_389, h_391⟩ := hm_386.obj e_361
        obtain ⟨z_392, z_393, z_394, z_395, z_396, z_397, rfl⟩ := smX4 h_391
        obtain ⟨g_399, e_398, h_400⟩ := hm_386.obj e_381
        obtain ⟨z_401, z_402, z_403, z_404, rfl⟩ := smX6 h_400
        obtain ⟨f_406, e_405⟩ := hm_386.arrI e_369
        have u_407 := ht_388 _ _ u_371
        obtain ⟨f_409, e_408⟩ := hm_386.arrI e_372
        have u_410 := ht_388 _ _ u_374
        have hsm := hsm.tr (hm_386.mono (by decide))
        have hlp_93 := hlp_93.tr (hm_386.mono (by decide))
        have htx := htx.tr ht_388
        obtain ⟨ts_411, te_412, cc_413, ra_414, rb_415, rc_416, rv_417, re_418, ya_419, h1_420, h2_421, h3_422, h4_423, er_424, et_425, ⟨k_426, c9_427, t_428, f_429, e_430, u_431⟩, ⟨k_432, c9_433, t_434, f_435, e_436, u_437⟩⟩ := id hx_387
        refine lv_istore_n (lv' := [(2, .int r_382), (3, .int 1), (5, .int 0), (4, .int (nI i_85)), (1, .int 2), (0, .ref rd)]) hx hb dX4_readEither_83 rfl hl (by decide) rfl (fun ls hl => ?_)
        refine lv_iload hx hb dX4_readEither_84 (lv_at hl 2 rfl) ?_
        refine lv_if_eq (tgt := 95) hx hb dX4_readEither_86 (by decide) (fun c_438 => ?_) (fun c_438 => absurd (by decide) c_438)
        refine lv_iinc (v := nI (i_85 + 1)) (lv' := [(4, .int (nI (i_85 + 1))), (2, .int r_382), (3, .int 1), (5, .int 0), (1, .int 2), (0, .ref rd)]) hx hb dX4_readEither_95 hl (k := 3) rfl (nI_add i_85 1) (by decide) rfl (fun ls hl => ?_)
        refine lv_goto (tgt := 11) hx hb dX4_readEither_98 (by decide) ?_
        exact ih_84 (i_85 + 1, r_382, 1) ws_384 _ _ ls (by show 400 - (i_85 + 1) < 400 - i_85; omega) ⟨hlp_93, ⟨ty_385, hK, htx, (⟨ts_411, te_412, cc_413, ra_414, rb_415, rc_416, rv_417, re_418, ya_419, by omega, by omega, by omega, by omega, er_424, et_425, ⟨k_426, c9_427, t_428, f_429, e_430, u_431⟩, ⟨k_432, c9_433, t_434, f_435, e_436, u_437⟩⟩ : RS ws_384 ty_385 rd krd tp ktp cd bb tl)⟩, (show (i_85 + 1) ≤ 400 from by omega), (show r_382 = 0 ∨ r_382 = 1 from w_383), (show 1 = 0 ∨ 1 = 1 from Or.inr rfl)⟩ hP hD hS (lv_sub hl [0, 1, 2, 4, 5] rfl)
      refine lv_iload hx hb dX4_readEither_60 (lv_at hl 0 rfl) ?_
      refine lv_if_ne (tgt := 69) hx hb dX4_readEither_62 (by decide) (fun c_439 => absurd (by decide) c_439) (fun c_439 => ?_)
      refine lv_iconst (v := 1) hx hb dX4_readEither_65 (by decide) ?_
      refine lv_goto (tgt := 70) hx hb dX4_readEither_66 (by decide) ?_
      refine lv_istore_n (lv' := [(3, .int 1), (5, .int 0), (4, .int (nI i_85)), (2, .int x_86), (1, .int 2), (0, .ref rd)]) hx hb dX4_readEither_70 rfl hl (by decide) rfl (fun ls hl => ?_)
      refine lv_aload_n hx hb dX4_readEither_71 rfl (lv_at hl 5 rfl) ?_
      refine va_get (D := D) (ci := 4) (v := .ref tp) (C := RX4) (T := TX4) (N := 8) hx hb hts hin4 hown hK hP krd e_343 rfl 0 (by decide) (hts (.fieldLink RX4 12 "HoneyHouse$RuleReader" "tape" "LHoneyHouse$Tape;") (List.mem_of_getElem? (i := 1) rfl)) (fun _ h9 => h9) rfl dX4_readEither_72 ?_
      have hFc := free_all hD hS hA
      refine va_callv (va_runV (As := []) (rest := []) ⟨hx, hb, hml, hown, hts⟩ (a_advance l D ws_338 ty_339 tp ktp tl te_118 ya_125 (nI ts_117) bb k_138 c9_139 t_140 f_349 H.size (by omega) (by omega) e_344 e_348 u_350) (cwV 0 hts gX4_readEither_X6_advance rfl rfl rfl (by decide +kernel) ⟨Nat.le_of_ble_eq_true rfl, Nat.le_of_ble_eq_true rfl⟩) ⟨fun a U g mk q => by obtain ⟨q0, q1, qP, qK, qD⟩ := q; exact ⟨q0, q1, qP, va_K.moved (u := U) (U := U.calling g mk a) (Vm.Alike.refl U.vm) qK, qD⟩, va_recv hK hP (ci := 6) (q0 := ktp) rfl e_344, fun U hU hW => ⟨rfl, by rw [hU], by rw [hU]; exact hP, va_K.moved hW.alike hK, hD.weaken (fun _ _ _ _ => trivial)⟩⟩ rfl rfl hl.1 rfl (lv_room (Nat.le_of_ble_eq_true rfl)) dX4_readEither_75 ⟨Nat.le_of_ble_eq_true rfl, Nat.le_of_ble_eq_true rfl⟩) hS (fun q _ h => hFc q h) hFc (fun u t H1 locs ht hvm w_441 hB hz1 hk1 hS => ?_)
      obtain ⟨ws_442, ty_443, hm_444, ht_446, hP1, hK1, hD1, hx_445⟩ := hB
      rw [ht] at hP1
      have hK := va_K.moved hvm.symm hK1
      have hD := hD1.weaken (fun _ _ _ h => hFc _ h)
      generalize H1 = H at hP1 hS ⊢
      have hP := hP1
      have e_447 := hm_444.objK e_343 (by decide)
      obtain ⟨g_449, e_448, h_450⟩ := hm_444.obj e_344
      obtain ⟨z_451, z_452, z_453, z_454, rfl⟩ := smX6 h_450
      obtain ⟨f_456, e_455⟩ := hm_444.arrI e_345
      have u_457 := ht_446 _ _ u_347
      obtain ⟨f_459, e_458⟩ := hm_444.arrI e_348
      have u_460 := ht_446 _ _ u_350
      have hsm := hsm.tr (hm_444.mono (by decide))
      have hlp_93 := hlp_93.tr (hm_444.mono (by decide))
      have htx := htx.tr ht_446
      obtain ⟨k_461, s_462, e_463, h_464, h_465, h_466, e_467⟩ := hx_445
      refine lv_aload_n hx hb dX4_readEither_78 rfl (lv_at hl 5 rfl) ?_
      refine lv_iload_n hx hb dX4_readEither_79 rfl (lv_at hl 4 rfl) ?_
      have hFc := free_all hD hS hA
      refine va_calli (va_runV (As := [.int 2]) (rest := []) ⟨hx, hb, hml, hown, hts⟩ (r_readOne2 l D ws_442 ty_443 adK adV fo rd krd tp ktp cd bb tl  H.size (⟨s_462, e_463, cc_119, ra_120, rb_121, rc_122, rv_123, re_124, nI k_461, by omega, by omega, by omega, by omega, e_447, e_467, ⟨k_132, c9_133, t_134, f_456, e_455, u_457⟩, ⟨k_138, c9_139, t_140, f_459, e_458, u_460⟩⟩ : RS ws_442 ty_443 rd krd tp ktp cd bb tl)) (cwV 1 hts gX4_readEither_X4_readOne rfl rfl rfl (by decide +kernel) ⟨Nat.le_of_ble_eq_true rfl, Nat.le_of_ble_eq_true rfl⟩) ⟨fun a U g mk q => by obtain ⟨q0, q1, qP, qK, qD, qS⟩ := q; exact ⟨q0, q1, qP, va_K.moved (u := U) (U := U.calling g mk a) (Vm.Alike.refl U.vm) qK, qD, SZ.same rfl rfl qS⟩, va_recv hK hP (ci := 4) (q0 := krd) rfl e_447, fun U hU hW => ⟨rfl, by rw [hU], by rw [hU]; exact hP, va_K.moved hW.alike hK, hD.weaken (fun _ _ _ _ => trivial), hsz9.go hS hW hU hFc⟩⟩ rfl rfl hl.1 rfl (lv_room (Nat.le_of_ble_eq_true rfl)) dX4_readEither_80 ⟨Nat.le_of_ble_eq_true rfl, Nat.le_of_ble_eq_true rfl⟩) hS (fun q _ h => hFc q h) hFc (fun r_468 u t H1 locs ht hvm w_469 hB hz1 hk1 hS => ?_)
      obtain ⟨ws_470, ty_471, hm_472, ht_474, hP1, hK1, hD1, hx_473⟩ := hB
      rw [ht] at hP1
      have hK := va_K.moved hvm.symm hK1
      have hD := hD1.weaken (fun _ _ _ h => hFc _ h)
      generalize H1 = H at hP1 hS ⊢
      have hP := hP1
      obtain ⟨g_476, e_475, h_477⟩ := hm_472.obj e_447
      obtain ⟨z_478, z_479, z_480, z_481, z_482, z_483, rfl⟩ := smX4 h_477
      obtain ⟨g_485, e_484, h_486⟩ := hm_472.obj e_467
      obtain ⟨z_487, z_488, z_489, z_490, rfl⟩ := smX6 h_486
      obtain ⟨f_492, e_491⟩ := hm_472.arrI e_455
      have u_493 := ht_474 _ _ u_457
      obtain ⟨f_495, e_494⟩ := hm_472.arrI e_458
      have u_496 := ht_474 _ _ u_460
      have hsm := hsm.tr (hm_472.mono (by decide))
      have hlp_93 := hlp_93.tr (hm_472.mono (by decide))
      have htx := htx.tr ht_474
      obtain ⟨ts_497, te_498, cc_499, ra_500, rb_501, rc_502, rv_503, re_504, ya_505, h1_506, h2_507, h3_508, h4_509, er_510, et_511, ⟨k_512, c9_513, t_514, f_515, e_516, u_517⟩, ⟨k_518, c9_519, t_520, f_521, e_522, u_523⟩⟩ := id hx_473
      refine lv_istore_n (lv' := [(2, .int r_468), (3, .int 1), (5, .int 0), (4, .int (nI i_85)), (1, .int 2), (0, .ref rd)]) hx hb dX4_readEither_83 rfl hl (by decide) rfl (fun ls hl => ?_)
      refine lv_iload hx hb dX4_readEither_84 (lv_at hl 2 rfl) ?_
      refine lv_if_eq (tgt := 95) hx hb dX4_readEither_86 (by decide) (fun c_524 => ?_) (fun c_524 => absurd (by decide) c_524)
      refine lv_iinc (v := nI (i_85 + 1)) (lv' := [(4, .int (nI (i_85 + 1))), (2, .int r_468), (3, .int 1), (5, .int 0), (1, .int 2), (0, .ref rd)]) hx hb dX4_readEither_95 hl (k := 3) rfl (nI_add i_85 1) (by decide) rfl (fun ls hl => ?_)
      refine lv_goto (tgt := 11) hx hb dX4_readEither_98 (by decide) ?_
      exact ih_84 (i_85 + 1, r_468, 1) ws_470 _ _ ls (by show 400 - (i_85 + 1) < 400 - i_85; omega) ⟨hlp_93, ⟨ty_471, hK, htx, (⟨ts_497, te_498, cc_499, ra_500, rb_501, rc_502, rv_503, re_504, ya_505, by omega, by omega, by omega, by omega, er_510, et_511, ⟨k_512, c9_513, t_514, f_515, e_516, u_517⟩, ⟨k_518, c9_519, t_520, f_521, e_522, u_523⟩⟩ : RS ws_470 ty_471 rd krd tp ktp cd bb tl)⟩, (show (i_85 + 1) ≤ 400 from by omega), (show r_468 = 0 ∨ r_468 = 1 from w_469), (show 1 = 0 ∨ 1 = 1 from Or.inr rfl)⟩ hP hD hS (lv_sub hl [0, 1, 2, 4, 5] rfl)
    refine lv_aload_n hx hb dX4_readEither_50 rfl (lv_at hl 5 rfl) ?_
    refine lv_bipush (v := (-3)) hx hb dX4_readEither_51 (by decide) ?_
    have hFc := free_all hD hS hA
    refine va_callv (va_runV (As := [.int (-3)]) (rest := []) ⟨hx, hb, hml, hown, hts⟩ (r_addCode l D ws_338 ty_339 adK adV fo rd krd tp ktp cd bb tl (-3) H.size (⟨ts_117, te_118, cc_119, ra_120, rb_121, rc_122, rv_123, re_124, ya_125, by omega, by omega, by omega, by omega, e_343, e_344, ⟨k_132, c9_133, t_134, f_346, e_345, u_347⟩, ⟨k_138, c9_139, t_140, f_349, e_348, u_350⟩⟩ : RS ws_338 ty_339 rd krd tp ktp cd bb tl)) (cwV 1 hts gX4_readEither_X4_addCode rfl rfl rfl (by decide +kernel) ⟨Nat.le_of_ble_eq_true rfl, Nat.le_of_ble_eq_true rfl⟩) ⟨fun a U g mk q => by obtain ⟨q0, q1, qP, qK, qD, qS⟩ := q; exact ⟨q0, q1, qP, va_K.moved (u := U) (U := U.calling g mk a) (Vm.Alike.refl U.vm) qK, qD, SZ.same rfl rfl qS⟩, va_recv hK hP (ci := 4) (q0 := krd) rfl e_343, fun U hU hW => ⟨rfl, by rw [hU], by rw [hU]; exact hP, va_K.moved hW.alike hK, hD.weaken (fun _ _ _ _ => trivial), hsz9.go hS hW hU hFc⟩⟩ rfl rfl hl.1 rfl (lv_room (Nat.le_of_ble_eq_true rfl)) dX4_readEither_53 ⟨Nat.le_of_ble_eq_true rfl, Nat.le_of_ble_eq_true rfl⟩) hS (fun q _ h => hFc q h) hFc (fun u t H1 locs ht hvm w_526 hB hz1 hk1 hS => ?_)
    obtain ⟨ws_527, ty_528, hm_529, ht_531, hP1, hK1, hD1, hx_530⟩ := hB
    rw [ht] at hP1
    have hK := va_K.moved hvm.symm hK1
    have hD := hD1.weaken (fun _ _ _ h => hFc _ h)
    generalize H1 = H at hP1 hS ⊢
    have hP := hP1
    obtain ⟨g_533, e_532, h_534⟩ := hm_529.obj e_343
    obtain ⟨z_535, z_536, z_537, z_538, z_539, z_540, rfl⟩ := smX4 h_534
    obtain ⟨g_542, e_541, h_543⟩ := hm_529.obj e_344
    obtain ⟨z_544, z_545, z_546, z_547, rfl⟩ := smX6 h_543
    obtain ⟨f_549, e_548⟩ := hm_529.arrI e_345
    have u_550 := ht_531 _ _ u_347
    obtain ⟨f_552, e_551⟩ := hm_529.arrI e_348
    have u_553 := ht_531 _ _ u_350
    have hsm := hsm.tr (hm_529.mono (by decide))
    have hlp_93 := hlp_93.tr (hm_529.mono (by decide))
    have htx := htx.tr ht_531
    obtain ⟨ts_554, te_555, cc_556, ra_557, rb_558, rc_559, rv_560, re_561, ya_562, h1_563, h2_564, h3_565, h4_566, er_567, et_568, ⟨k_569, c9_570, t_571, f_572, e_573, u_574⟩, ⟨k_575, c9_576, t_577, f_578, e_579, u_580⟩⟩ := id hx_530
    refine lv_iload_n hx hb dX4_readEither_56 rfl (lv_at hl 3 rfl) ?_
    refine lv_if_ne (tgt := 65) hx hb dX4_readEither_57 (by decide) (fun c_581 => ?_) (fun c_581 => ?_)
    · refine lv_iconst (v := 1) hx hb dX4_readEither_65 (by decide) ?_
      refine lv_goto (tgt := 70) hx hb dX4_readEither_66 (by decide) ?_
      refine lv_istore_n (lv' := [(3, .int 1), (5, .int 0), (4, .int (nI i_85)), (2, .int x_86), (1, .int 2), (0, .ref rd)]) hx hb dX4_readEither_70 rfl hl (by decide) rfl (fun ls hl => ?_)
      refine lv_aload_n hx hb dX4_readEither_71 rfl (lv_at hl 5 rfl) ?_
      refine va_get (D := D) (ci := 4) (v := .ref tp) (C := RX4) (T := TX4) (N := 8) hx hb hts hin4 hown hK hP krd er_567 rfl 0 (by decide) (hts (.fieldLink RX4 12 "HoneyHouse$RuleReader" "tape" "LHoneyHouse$Tape;") (List.mem_of_getElem? (i := 1) rfl)) (fun _ h9 => h9) rfl dX4_readEither_72 ?_
      have hFc := free_all hD hS hA
      refine va_callv (va_runV (As := []) (rest := []) ⟨hx, hb, hml, hown, hts⟩ (a_advance l D ws_527 ty_528 tp ktp tl te_555 ya_562 (nI ts_554) bb k_575 c9_576 t_577 f_578 H.size (by omega) (by omega) et_568 e_579 u_580) (cwV 0 hts gX4_readEither_X6_advance rfl rfl rfl (by decide +kernel) ⟨Nat.le_of_ble_eq_true rfl, Nat.le_of_ble_eq_true rfl⟩) ⟨fun a U g mk q => by obtain ⟨q0, q1, qP, qK, qD⟩ := q; exact ⟨q0, q1, qP, va_K.moved (u := U) (U := U.calling g mk a) (Vm.Alike.refl U.vm) qK, qD⟩, va_recv hK hP (ci := 6) (q0 := ktp) rfl et_568, fun U hU hW => ⟨rfl, by rw [hU], by rw [hU]; exact hP, va_K.moved hW.alike hK, hD.weaken (fun _ _ _ _ => trivial)⟩⟩ rfl rfl hl.1 rfl (lv_room (Nat.le_of_ble_eq_true rfl)) dX4_readEither_75 ⟨Nat.le_of_ble_eq_true rfl, Nat.le_of_ble_eq_true rfl⟩) hS (fun q _ h => hFc q h) hFc (fun u t H1 locs ht hvm w_583 hB hz1 hk1 hS => ?_)
      obtain ⟨ws_584, ty_585, hm_586, ht_588, hP1, hK1, hD1, hx_587⟩ := hB
      rw [ht] at hP1
      have hK := va_K.moved hvm.symm hK1
      have hD := hD1.weaken (fun _ _ _ h => hFc _ h)
      generalize H1 = H at hP1 hS ⊢
      have hP := hP1
      have e_589 := hm_586.objK er_567 (by decide)
      obtain ⟨g_591, e_590, h_592⟩ := hm_586.obj et_568
      obtain ⟨z_593, z_594, z_595, z_596, rfl⟩ := smX6 h_592
      obtain ⟨f_598, e_597⟩ := hm_586.arrI e_573
      have u_599 := ht_588 _ _ u_574
      obtain ⟨f_601, e_600⟩ := hm_586.arrI e_579
      have u_602 := ht_588 _ _ u_580
      have hsm := hsm.tr (hm_586.mono (by decide))
      have hlp_93 := hlp_93.tr (hm_586.mono (by decide))
      have htx := htx.tr ht_588
      obtain ⟨k_603, s_604, e_605, h_606, h_607, h_608, e_609⟩ := hx_587
      refine lv_aload_n hx hb dX4_readEither_78 rfl (lv_at hl 5 rfl) ?_
      refine lv_iload_n hx hb dX4_readEither_79 rfl (lv_at hl 4 rfl) ?_
      have hFc := free_all hD hS hA
      refine va_calli (va_runV (As := [.int 2]) (rest := []) ⟨hx, hb, hml, hown, hts⟩ (r_readOne2 l D ws_584 ty_585 adK adV fo rd krd tp ktp cd bb tl  H.size (⟨s_604, e_605, cc_556, ra_557, rb_558, rc_559, rv_560, re_561, nI k_603, by omega, by omega, by omega, by omega, e_589, e_609, ⟨k_569, c9_570, t_571, f_598, e_597, u_599⟩, ⟨k_575, c9_576, t_577, f_601, e_600, u_602⟩⟩ : RS ws_584 ty_585 rd krd tp ktp cd bb tl)) (cwV 1 hts gX4_readEither_X4_readOne rfl rfl rfl (by decide +kernel) ⟨Nat.le_of_ble_eq_true rfl, Nat.le_of_ble_eq_true rfl⟩) ⟨fun a U g mk q => by obtain ⟨q0, q1, qP, qK, qD, qS⟩ := q; exact ⟨q0, q1, qP, va_K.moved (u := U) (U := U.calling g mk a) (Vm.Alike.refl U.vm) qK, qD, SZ.same rfl rfl qS⟩, va_recv hK hP (ci := 4) (q0 := krd) rfl e_589, fun U hU hW => ⟨rfl, by rw [hU], by rw [hU]; exact hP, va_K.moved hW.alike hK, hD.weaken (fun _ _ _ _ => trivial), hsz9.go hS hW hU hFc⟩⟩ rfl rfl hl.1 rfl (lv_room (Nat.le_of_ble_eq_true rfl)) dX4_readEither_80 ⟨Nat.le_of_ble_eq_true rfl, Nat.le_of_ble_eq_true rfl⟩) hS (fun q _ h => hFc q h) hFc (fun r_610 u t H1 locs ht hvm w_611 hB hz1 hk1 hS => ?_)
      obtain ⟨ws_612, ty_613, hm_614, ht_616, hP1, hK1, hD1, hx_615⟩ := hB
      rw [ht] at hP1
      have hK := va_K.moved hvm.symm hK1
      have hD := hD1.weaken (fun _ _ _ h => hFc _ h)
      generalize H1 = H at hP1 hS ⊢
      have hP := hP1
      obtain ⟨g_618, e_617, h_619⟩ := hm_614.obj e_589
      obtain ⟨z_620, z_621, z_622, z_623, z_624, z_625, rfl⟩ := smX4 h_619
      obtain ⟨g_627, e_626, h_628⟩ := hm_614.obj e_609
      obtain ⟨z_629, z_630, z_631, z_632, rfl⟩ := smX6 h_628
      obtain ⟨f_634, e_633⟩ := hm_614.arrI e_597
      have u_635 := ht_616 _ _ u_599
      obtain ⟨f_637, e_636⟩ := hm_614.arrI e_600
      have u_638 := ht_616 _ _ u_602
      have hsm := hsm.tr (hm_614.mono (by decide))
      have hlp_93 := hlp_93.tr (hm_614.mono (by decide))
      have htx := htx.tr ht_616
      obtain ⟨ts_639, te_640, cc_641, ra_642, rb_643, rc_644, rv_645, re_646, ya_647, h1_648, h2_649, h3_650, h4_651, er_652, et_653, ⟨k_654, c9_655, t_656, f_657, e_658, u_659⟩, ⟨k_660, c9_661, t_662, f_663, e_664, u_665⟩⟩ := id hx_615
      refine lv_istore_n (lv' := [(2, .int r_610), (3, .int 1), (5, .int 0), (4, .int (nI i_85)), (1, .int 2), (0, .ref rd)]) hx hb dX4_readEither_83 rfl hl (by decide) rfl (fun ls hl => ?_)
      refine lv_iload hx hb dX4_readEither_84 (lv_at hl 2 rfl) ?_
      refine lv_if_eq (tgt := 95) hx hb dX4_readEither_86 (by decide) (fun c_666 => ?_) (fun c_666 => absurd (by decide) c_666)
      refine lv_iinc (v := nI (i_85 + 1)) (lv' := [(4, .int (nI (i_85 + 1))), (2, .int r_610), (3, .int 1), (5, .int 0), (1, .int 2), (0, .ref rd)]) hx hb dX4_readEither_95 hl (k := 3) rfl (nI_add i_85 1) (by decide) rfl (fun ls hl => ?_)
      refine lv_goto (tgt := 11) hx hb dX4_readEither_98 (by decide) ?_
      exact ih_84 (i_85 + 1, r_610, 1) ws_612 _ _ ls (by show 400 - (i_85 + 1) < 400 - i_85; omega) ⟨hlp_93, ⟨ty_613, hK, htx, (⟨ts_639, te_640, cc_641, ra_642, rb_643, rc_644, rv_645, re_646, ya_647, by omega, by omega, by omega, by omega, er_652, et_653, ⟨k_654, c9_655, t_656, f_657, e_658, u_659⟩, ⟨k_660, c9_661, t_662, f_663, e_664, u_665⟩⟩ : RS ws_612 ty_613 rd krd tp ktp cd bb tl)⟩, (show (i_85 + 1) ≤ 400 from by omega), (show r_610 = 0 ∨ r_610 = 1 from w_611), (show 1 = 0 ∨ 1 = 1 from Or.inr rfl)⟩ hP hD hS (lv_sub hl [0, 1, 2, 4, 5] rfl)
    refine lv_iload hx hb dX4_readEither_60 (lv_at hl 0 rfl) ?_
    refine lv_if_ne (tgt := 69) hx hb dX4_readEither_62 (by decide) (fun c_667 => absurd (by decide) c_667) (fun c_667 => ?_)
    refine lv_iconst (v := 1) hx hb dX4_readEither_65 (by decide) ?_
    refine lv_goto (tgt := 70) hx hb dX4_readEither_66 (by decide) ?_
    refine lv_istore_n (lv' := [(3, .int 1), (5, .int 0), (4, .int (nI i_85)), (2, .int x_86), (1, .int 2), (0, .ref rd)]) hx hb dX4_readEither_70 rfl hl (by decide) rfl (fun ls hl => ?_)
    refine lv_aload_n hx hb dX4_readEither_71 rfl (lv_at hl 5 rfl) ?_
    refine va_get (D := D) (ci := 4) (v := .ref tp) (C := RX4) (T := TX4) (N := 8) hx hb hts hin4 hown hK hP krd er_567 rfl 0 (by decide) (hts (.fieldLink RX4 12 "HoneyHouse$RuleReader" "tape" "LHoneyHouse$Tape;") (List.mem_of_getElem? (i := 1) rfl)) (fun _ h9 => h9) rfl dX4_readEither_72 ?_
    have hFc := free_all hD hS hA
    refine va_callv (va_runV (As := []) (rest := []) ⟨hx, hb, hml, hown, hts⟩ (a_advance l D ws_527 ty_528 tp ktp tl te_555 ya_562 (nI ts_554) bb k_575 c9_576 t_577 f_578 H.size (by omega) (by omega) et_568 e_579 u_580) (cwV 0 hts gX4_readEither_X6_advance rfl rfl rfl (by decide +kernel) ⟨Nat.le_of_ble_eq_true rfl, Nat.le_of_ble_eq_true rfl⟩) ⟨fun a U g mk q => by obtain ⟨q0, q1, qP, qK, qD⟩ := q; exact ⟨q0, q1, qP, va_K.moved (u := U) (U := U.calling g mk a) (Vm.Alike.refl U.vm) qK, qD⟩, va_recv hK hP (ci := 6) (q0 := ktp) rfl et_568, fun U hU hW => ⟨rfl, by rw [hU], by rw [hU]; exact hP, va_K.moved hW.alike hK, hD.weaken (fun _ _ _ _ => trivial)⟩⟩ rfl rfl hl.1 rfl (lv_room (Nat.le_of_ble_eq_true rfl)) dX4_readEither_75 ⟨Nat.le_of_ble_eq_true rfl, Nat.le_of_ble_eq_true rfl⟩) hS (fun q _ h => hFc q h) hFc (fun u t H1 locs ht hvm w_669 hB hz1 hk1 hS => ?_)
    obtain ⟨ws_670, ty_671, hm_672, ht_674, hP1, hK1, hD1, hx_673⟩ := hB
    rw [ht] at hP1
    have hK := va_K.moved hvm.symm hK1
    have hD := hD1.weaken (fun _ _ _ h => hFc _ h)
    generalize H1 = H at hP1 hS ⊢
    have hP := hP1
    have e_675 := hm_672.objK er_567 (by decide)
    obtain ⟨g_677, e_676, h_678⟩ := hm_672.obj et_568
    obtain ⟨z_679, z_680, z_681, z_682, rfl⟩ := smX6 h_678
    obtain ⟨f_684, e_683⟩ := hm_672.arrI e_573
    have u_685 := ht_674 _ _ u_574
    obtain ⟨f_687, e_686⟩ := hm_672.arrI e_579
    have u_688 := ht_674 _ _ u_580
    have hsm := hsm.tr (hm_672.mono (by decide))
    have hlp_93 := hlp_93.tr (hm_672.mono (by decide))
    have htx := htx.tr ht_674
    obtain ⟨k_689, s_690, e_691, h_692, h_693, h_694, e_695⟩ := hx_673
    refine lv_aload_n hx hb dX4_readEither_78 rfl (lv_at hl 5 rfl) ?_
    refine lv_iload_n hx hb dX4_readEither_79 rfl (lv_at hl 4 rfl) ?_
    have hFc := free_all hD hS hA
    refine va_calli (va_runV (As := [.int 2]) (rest := []) ⟨hx, hb, hml, hown, hts⟩ (r_readOne2 l D ws_670 ty_671 adK adV fo rd krd tp ktp cd bb tl  H.size (⟨s_690, e_691, cc_556, ra_557, rb_558, rc_559, rv_560, re_561, nI k_689, by omega, by omega, by omega, by omega, e_675, e_695, ⟨k_569, c9_570, t_571, f_684, e_683, u_685⟩, ⟨k_575, c9_576, t_577, f_687, e_686, u_688⟩⟩ : RS ws_670 ty_671 rd krd tp ktp cd bb tl)) (cwV 1 hts gX4_readEither_X4_readOne rfl rfl rfl (by decide +kernel) ⟨Nat.le_of_ble_eq_true rfl, Nat.le_of_ble_eq_true rfl⟩) ⟨fun a U g mk q => by obtain ⟨q0, q1, qP, qK, qD, qS⟩ := q; exact ⟨q0, q1, qP, va_K.moved (u := U) (U := U.calling g mk a) (Vm.Alike.refl U.vm) qK, qD, SZ.same rfl rfl qS⟩, va_recv hK hP (ci := 4) (q0 := krd) rfl e_675, fun U hU hW => ⟨rfl, by rw [hU], by rw [hU]; exact hP, va_K.moved hW.alike hK, hD.weaken (fun _ _ _ _ => trivial), hsz9.go hS hW hU hFc⟩⟩ rfl rfl hl.1 rfl (lv_room (Nat.le_of_ble_eq_true rfl)) dX4_readEither_80 ⟨Nat.le_of_ble_eq_true rfl, Nat.le_of_ble_eq_true rfl⟩) hS (fun q _ h => hFc q h) hFc (fun r_696 u t H1 locs ht hvm w_697 hB hz1 hk1 hS => ?_)
    obtain ⟨ws_698, ty_699, hm_700, ht_702, hP1, hK1, hD1, hx_701⟩ := hB
    rw [ht] at hP1
    have hK := va_K.moved hvm.symm hK1
    have hD := hD1.weaken (fun _ _ _ h => hFc _ h)
    generalize H1 = H at hP1 hS ⊢
    have hP := hP1
    obtain ⟨g_704, e_703, h_705⟩ := hm_700.obj e_675
    obtain ⟨z_706, z_707, z_708, z_709, z_710, z_711, rfl⟩ := smX4 h_705
    obtain ⟨g_713, e_712, h_714⟩ := hm_700.obj e_695
    obtain ⟨z_715, z_716, z_717, z_718, rfl⟩ := smX6 h_714
    obtain ⟨f_720, e_719⟩ := hm_700.arrI e_683
    have u_721 := ht_702 _ _ u_685
    obtain ⟨f_723, e_722⟩ := hm_700.arrI e_686
    have u_724 := ht_702 _ _ u_688
    have hsm := hsm.tr (hm_700.mono (by decide))
    have hlp_93 := hlp_93.tr (hm_700.mono (by decide))
    have htx := htx.tr ht_702
    obtain ⟨ts_725, te_726, cc_727, ra_728, rb_729, rc_730, rv_731, re_732, ya_733, h1_734, h2_735, h3_736, h4_737, er_738, et_739, ⟨k_740, c9_741, t_742, f_743, e_744, u_745⟩, ⟨k_746, c9_747, t_748, f_749, e_750, u_751⟩⟩ := id hx_701
    refine lv_istore_n (lv' := [(2, .int r_696), (3, .int 1), (5, .int 0), (4, .int (nI i_85)), (1, .int 2), (0, .ref rd)]) hx hb dX4_readEither_83 rfl hl (by decide) rfl (fun ls hl => ?_)
    refine lv_iload hx hb dX4_readEither_84 (lv_at hl 2 rfl) ?_
    refine lv_if_eq (tgt := 95) hx hb dX4_readEither_86 (by decide) (fun c_752 => ?_) (fun c_752 => absurd (by decide) c_752)
    refine lv_iinc (v := nI (i_85 + 1)) (lv' := [(4, .int (nI (i_85 + 1))), (2, .int r_696), (3, .int 1), (5, .int 0), (1, .int 2), (0, .ref rd)]) hx hb dX4_readEither_95 hl (k := 3) rfl (nI_add i_85 1) (by decide) rfl (fun ls hl => ?_)
    refine lv_goto (tgt := 11) hx hb dX4_readEither_98 (by decide) ?_
    exact ih_84 (i_85 + 1, r_696, 1) ws_698 _ _ ls (by show 400 - (i_85 + 1) < 400 - i_85; omega) ⟨hlp_93, ⟨ty_699, hK, htx, (⟨ts_725, te_726, cc_727, ra_728, rb_729, rc_730, rv_731, re_732, ya_733, by omega, by omega, by omega, by omega, er_738, et_739, ⟨k_740, c9_741, t_742, f_743, e_744, u_745⟩, ⟨k_746, c9_747, t_748, f_749, e_750, u_751⟩⟩ : RS ws_698 ty_699 rd krd tp ktp cd bb tl)⟩, (show (i_85 + 1) ≤ 400 from by omega), (show r_696 = 0 ∨ r_696 = 1 from w_697), (show 1 = 0 ∨ 1 = 1 from Or.inr rfl)⟩ hP hD hS (lv_sub hl [0, 1, 2, 4, 5] rfl)
  refine lv_istore (lv' := [(5, .int 1), (4, .int (nI i_85)), (2, .int x_86), (3, .int y_87), (1, .int 2), (0, .ref rd)]) hx hb dX4_readEither_39 hl (by decide) rfl (fun ls hl => ?_)
  refine lv_iload hx hb dX4_readEither_41 (lv_at hl 0 rfl) ?_
  refine lv_if_ne (tgt := 56) hx hb dX4_readEither_43 (by decide) (fun c_753 => ?_) (fun c_753 => absurd c_753 (by decide))
  refine lv_iload_n hx hb dX4_readEither_56 rfl (lv_at hl 3 rfl) ?_
  refine lv_if_ne (tgt := 65) hx hb dX4_readEither_57 (by decide) (fun c_754 => ?_) (fun c_754 => ?_)
  · refine lv_iconst (v := 1) hx hb dX4_readEither_65 (by decide) ?_
    refine lv_goto (tgt := 70) hx hb dX4_readEither_66 (by decide) ?_
    refine lv_istore_n (lv' := [(3, .int 1), (5, .int 1), (4, .int (nI i_85)), (2, .int x_86), (1, .int 2), (0, .ref rd)]) hx hb dX4_readEither_70 rfl hl (by decide) rfl (fun ls hl => ?_)
    refine lv_aload_n hx hb dX4_readEither_71 rfl (lv_at hl 5 rfl) ?_
    refine va_get (D := D) (ci := 4) (v := .ref tp) (C := RX4) (T := TX4) (N := 8) hx hb hts hin4 hown hK hP krd e_343 rfl 0 (by decide) (hts (.fieldLink RX4 12 "HoneyHouse$RuleReader" "tape" "LHoneyHouse$Tape;") (List.mem_of_getElem? (i := 1) rfl)) (fun _ h9 => h9) rfl dX4_readEither_72 ?_
    have hFc := free_all hD hS hA
    refine va_callv (va_runV (As := []) (rest := []) ⟨hx, hb, hml, hown, hts⟩ (a_advance l D ws_338 ty_339 tp ktp tl te_118 ya_125 (nI ts_117) bb k_138 c9_139 t_140 f_349 H.size (by omega) (by omega) e_344 e_348 u_350) (cwV 0 hts gX4_readEither_X6_advance rfl rfl rfl (by decide +kernel) ⟨Nat.le_of_ble_eq_true rfl, Nat.le_of_ble_eq_true rfl⟩) ⟨fun a U g mk q => by obtain ⟨q0, q1, qP, qK, qD⟩ := q; exact ⟨q0, q1, qP, va_K.moved (u := U) (U := U.calling g mk a) (Vm.Alike.refl U.vm) qK, qD⟩, va_recv hK hP (ci := 6) (q0 := ktp) rfl e_344, fun U hU hW => ⟨rfl, by rw [hU], by rw [hU]; exact hP, va_K.moved hW.alike hK, hD.weaken (fun _ _ _ _ => trivial)⟩⟩ rfl rfl hl.1 rfl (lv_room (Nat.le_of_ble_eq_true rfl)) dX4_readEither_75 ⟨Nat.le_of_ble_eq_true rfl, Nat.le_of_ble_eq_true rfl⟩) hS (fun q _ h => hFc q h) hFc (fun u t H1 locs ht hvm w_756 hB hz1 hk1 hS => ?_)
    obtain ⟨ws_757, ty_758, hm_759, ht_761, hP1, hK1, hD1, hx_760⟩ := hB
    rw [ht] at hP1
    have hK := va_K.moved hvm.symm hK1
    have hD := hD1.weaken (fun _ _ _ h => hFc _ h)
    generalize H1 = H at hP1 hS ⊢
    have hP := hP1
    have e_762 := hm_759.objK e_343 (by decide)
    obtain ⟨g_764, e_763, h_765⟩ := hm_759.obj e_344
    obtain ⟨z_766, z_767, z_768, z_769, rfl⟩ := smX6 h_765
    obtain ⟨f_771, e_770⟩ := hm_759.arrI e_345
    have u_772 := ht_761 _ _ u_347
    obtain ⟨f_774, e_773⟩ := hm_759.arrI e_348
    have u_775 := ht_761 _ _ u_350
    have hsm := hsm.tr (hm_759.mono (by decide))
    have hlp_93 := hlp_93.tr (hm_759.mono (by decide))
    have htx := htx.tr ht_761
    obtain ⟨k_776, s_777, e_778, h_779, h_780, h_781, e_782⟩ := hx_760
    refine lv_aload_n hx hb dX4_readEither_78 rfl (lv_at hl 5 rfl) ?_
    refine lv_iload_n hx hb dX4_readEither_79 rfl (lv_at hl 4 rfl) ?_
    have hFc := free_all hD hS hA
    refine va_calli (va_runV (As := [.int 2]) (rest := []) ⟨hx, hb, hml, hown, hts⟩ (r_readOne2 l D ws_757 ty_758 adK adV fo rd krd tp ktp cd bb tl  H.size (⟨s_777, e_778, cc_119, ra_120, rb_121, rc_122, rv_123, re_124, nI k_776, by omega, by omega, by omega, by omega, e_762, e_782, ⟨k_132, c9_133, t_134, f_771, e_770, u_772⟩, ⟨k_138, c9_139, t_140, f_774, e_773, u_775⟩⟩ : RS ws_757 ty_758 rd krd tp ktp cd bb tl)) (cwV 1 hts gX4_readEither_X4_readOne rfl rfl rfl (by decide +kernel) ⟨Nat.le_of_ble_eq_true rfl, Nat.le_of_ble_eq_true rfl⟩) ⟨fun a U g mk q => by obtain ⟨q0, q1, qP, qK, qD, qS⟩ := q; exact ⟨q0, q1, qP, va_K.moved (u := U) (U := U.calling g mk a) (Vm.Alike.refl U.vm) qK, qD, SZ.same rfl rfl qS⟩, va_recv hK hP (ci := 4) (q0 := krd) rfl e_762, fun U hU hW => ⟨rfl, by rw [hU], by rw [hU]; exact hP, va_K.moved hW.alike hK, hD.weaken (fun _ _ _ _ => trivial), hsz9.go hS hW hU hFc⟩⟩ rfl rfl hl.1 rfl (lv_room (Nat.le_of_ble_eq_true rfl)) dX4_readEither_80 ⟨Nat.le_of_ble_eq_true rfl, Nat.le_of_ble_eq_true rfl⟩) hS (fun q _ h => hFc q h) hFc (fun r_783 u t H1 locs ht hvm w_784 hB hz1 hk1 hS => ?_)
    obtain ⟨ws_785, ty_786, hm_787, ht_789, hP1, hK1, hD1, hx_788⟩ := hB
    rw [ht] at hP1
    have hK := va_K.moved hvm.symm hK1
    have hD := hD1.weaken (fun _ _ _ h => hFc _ h)
    generalize H1 = H at hP1 hS ⊢
    have hP := hP1
    obtain ⟨g_791, e_790, h_792⟩ := hm_787.obj e_762
    obtain ⟨z_793, z_794, z_795, z_796, z_797, z_798, rfl⟩ := smX4 h_792
    obtain ⟨g_800, e_799, h_801⟩ := hm_787.obj e_782
    obtain ⟨z_802, z_803, z_804, z_805, rfl⟩ := smX6 h_801
    obtain ⟨f_807, e_806⟩ := hm_787.arrI e_770
    have u_808 := ht_789 _ _ u_772
    obtain ⟨f_810, e_809⟩ := hm_787.arrI e_773
    have u_811 := ht_789 _ _ u_775
    have hsm := hsm.tr (hm_787.mono (by decide))
    have hlp_93 := hlp_93.tr (hm_787.mono (by decide))
    have htx := htx.tr ht_789
    obtain ⟨ts_812, te_813, cc_814, ra_815, rb_816, rc_817, rv_818, re_819, ya_820, h1_821, h2_822, h3_823, h4_824, er_825, et_826, ⟨k_827, c9_828, t_829, f_830, e_831, u_832⟩, ⟨k_833, c9_834, t_835, f_836, e_837, u_838⟩⟩ := id hx_788
    refine lv_istore_n (lv' := [(2, .int r_783), (3, .int 1), (5, .int 1), (4, .int (nI i_85)), (1, .int 2), (0, .ref rd)]) hx hb dX4_readEither_83 rfl hl (by decide) rfl (fun ls hl => ?_)
    refine lv_iload hx hb dX4_readEither_84 (lv_at hl 2 rfl) ?_
    refine lv_if_eq (tgt := 95) hx hb dX4_readEither_86 (by decide) (fun c_839 => absurd c_839 (by decide)) (fun c_839 => ?_)
    refine lv_aload_n hx hb dX4_readEither_89 rfl (lv_at hl 5 rfl) ?_
    refine lv_bipush (v := (-2)) hx hb dX4_readEither_90 (by decide) ?_
    have hFc := free_all hD hS hA
    refine va_callv (va_runV (As := [.int (-2)]) (rest := []) ⟨hx, hb, hml, hown, hts⟩ (r_addCode l D ws_785 ty_786 adK adV fo rd krd tp ktp cd bb tl (-2) H.size (⟨ts_812, te_813, cc_814, ra_815, rb_816, rc_817, rv_818, re_819, ya_820, by omega, by omega, by omega, by omega, er_825, et_826, ⟨k_827, c9_828, t_829, f_830, e_831, u_832⟩, ⟨k_833, c9_834, t_835, f_836, e_837, u_838⟩⟩ : RS ws_785 ty_786 rd krd tp ktp cd bb tl)) (cwV 1 hts gX4_readEither_X4_addCode rfl rfl rfl (by decide +kernel) ⟨Nat.le_of_ble_eq_true rfl, Nat.le_of_ble_eq_true rfl⟩) ⟨fun a U g mk q => by obtain ⟨q0, q1, qP, qK, qD, qS⟩ := q; exact ⟨q0, q1, qP, va_K.moved (u := U) (U := U.calling g mk a) (Vm.Alike.refl U.vm) qK, qD, SZ.same rfl rfl qS⟩, va_recv hK hP (ci := 4) (q0 := krd) rfl er_825, fun U hU hW => ⟨rfl, by rw [hU], by rw [hU]; exact hP, va_K.moved hW.alike hK, hD.weaken (fun _ _ _ _ => trivial), hsz9.go hS hW hU hFc⟩⟩ rfl rfl hl.1 rfl (lv_room (Nat.le_of_ble_eq_true rfl)) dX4_readEither_92 ⟨Nat.le_of_ble_eq_true rfl, Nat.le_of_ble_eq_true rfl⟩) hS (fun q _ h => hFc q h) hFc (fun u t H1 locs ht hvm w_841 hB hz1 hk1 hS => ?_)
    obtain ⟨ws_842, ty_843, hm_844, ht_846, hP1, hK1, hD1, hx_845⟩ := hB
    rw [ht] at hP1
    have hK := va_K.moved hvm.symm hK1
    have hD := hD1.weaken (fun _ _ _ h => hFc _ h)
    generalize H1 = H at hP1 hS ⊢
    have hP := hP1
    obtain ⟨g_848, e_847, h_849⟩ := hm_844.obj er_825
    obtain ⟨z_850, z_851, z_852, z_853, z_854, z_855, rfl⟩ := smX4 h_849
    obtain ⟨g_857, e_856, h_858⟩ := hm_844.obj et_826
    obtain ⟨z_859, z_860, z_861, z_862, rfl⟩ := smX6 h_858
    obtain ⟨f_864, e_863⟩ := hm_844.arrI e_831
    have u_865 := ht_846 _ _ u_832
    obtain ⟨f_867, e_866⟩ := hm_844.arrI e_837
    have u_868 := ht_846 _ _ u_838
    have hsm := hsm.tr (hm_844.mono (by decide))
    have hlp_93 := hlp_93.tr (hm_844.mono (by decide))
    have htx := htx.tr ht_846
    obtain ⟨ts_869, te_870, cc_871, ra_872, rb_873, rc_874, rv_875, re_876, ya_877, h1_878, h2_879, h3_880, h4_881, er_882, et_883, ⟨k_884, c9_885, t_886, f_887, e_888, u_889⟩, ⟨k_890, c9_891, t_892, f_893, e_894, u_895⟩⟩ := id hx_845
    refine lv_iinc (v := nI (i_85 + 1)) (lv' := [(4, .int (nI (i_85 + 1))), (2, .int r_783), (3, .int 1), (5, .int 1), (1, .int 2), (0, .ref rd)]) hx hb dX4_readEither_95 hl (k := 3) rfl (nI_add i_85 1) (by decide) rfl (fun ls hl => ?_)
    refine lv_goto (tgt := 11) hx hb dX4_readEither_98 (by decide) ?_
    exact ih_84 (i_85 + 1, r_783, 1) ws_842 _ _ ls (by show 400 - (i_85 + 1) < 400 - i_85; omega) ⟨hlp_93, ⟨ty_843, hK, htx, (⟨ts_869, te_870, cc_871, ra_872, rb_873, rc_874, rv_875, re_876, ya_877, by omega, by omega, by omega, by omega, er_882, et_883, ⟨k_884, c9_885, t_886, f_887, e_888, u_889⟩, ⟨k_890, c9_891, t_892, f_893, e_894, u_895⟩⟩ : RS ws_842 ty_843 rd krd tp ktp cd bb tl)⟩, (show (i_85 + 1) ≤ 400 from by omega), (show r_783 = 0 ∨ r_783 = 1 from w_784), (show 1 = 0 ∨ 1 = 1 from Or.inr rfl)⟩ hP hD hS (lv_sub hl [0, 1, 2, 4, 5] rfl)
  refine lv_iload hx hb dX4_readEither_60 (lv_at hl 0 rfl) ?_
  refine lv_if_ne (tgt := 69) hx hb dX4_readEither_62 (by decide) (fun c_896 => ?_) (fun c_896 => absurd c_896 (by decide))
  refine lv_iconst (v := 0) hx hb dX4_readEither_69 (by decide) ?_
  refine lv_istore_n (lv' := [(3, .int 0), (5, .int 1), (4, .int (nI i_85)), (2, .int x_86), (1, .int 2), (0, .ref rd)]) hx hb dX4_readEither_70 rfl hl (by decide) rfl (fun ls hl => ?_)
  refine lv_aload_n hx hb dX4_readEither_71 rfl (lv_at hl 5 rfl) ?_
  refine va_get (D := D) (ci := 4) (v := .ref tp) (C := RX4) (T := TX4) (N := 8) hx hb hts hin4 hown hK hP krd e_343 rfl 0 (by decide) (hts (.fieldLink RX4 12 "HoneyHouse$RuleReader" "tape" "LHoneyHouse$Tape;") (List.mem_of_getElem? (i := 1) rfl)) (fun _ h9 => h9) rfl dX4_readEither_72 ?_
  have hFc := free_all hD hS hA
  refine va_callv (va_runV (As := []) (rest := []) ⟨hx, hb, hml, hown, hts⟩ (a_advance l D ws_338 ty_339 tp ktp tl te_118 ya_125 (nI ts_117) bb k_138 c9_139 t_140 f_349 H.size (by omega) (by omega) e_344 e_348 u_350) (cwV 0 hts gX4_readEither_X6_advance rfl rfl rfl (by decide +kernel) ⟨Nat.le_of_ble_eq_true rfl, Nat.le_of_ble_eq_true rfl⟩) ⟨fun a U g mk q => by obtain ⟨q0, q1, qP, qK, qD⟩ := q; exact ⟨q0, q1, qP, va_K.moved (u := U) (U := U.calling g mk a) (Vm.Alike.refl U.vm) qK, qD⟩, va_recv hK hP (ci := 6) (q0 := ktp) rfl e_344, fun U hU hW => ⟨rfl, by rw [hU], by rw [hU]; exact hP, va_K.moved hW.alike hK, hD.weaken (fun _ _ _ _ => trivial)⟩⟩ rfl rfl hl.1 rfl (lv_room (Nat.le_of_ble_eq_true rfl)) dX4_readEither_75 ⟨Nat.le_of_ble_eq_true rfl, Nat.le_of_ble_eq_true rfl⟩) hS (fun q _ h => hFc q h) hFc (fun u t H1 locs ht hvm w_898 hB hz1 hk1 hS => ?_)
  obtain ⟨ws_899, ty_900, hm_901, ht_903, hP1, hK1, hD1, hx_902⟩ := hB
  rw [ht] at hP1
  have hK := va_K.moved hvm.symm hK1
  have hD := hD1.weaken (fun _ _ _ h => hFc _ h)
  generalize H1 = H at hP1 hS ⊢
  have hP := hP1
  have e_904 := hm_901.objK e_343 (by decide)
  obtain ⟨g_906, e_905, h_907⟩ := hm_901.obj e_344
  obtain ⟨z_908, z_909, z_910, z_911, rfl⟩ := smX6 h_907
  obtain ⟨f_913, e_912⟩ := hm_901.arrI e_345
  have u_914 := ht_903 _ _ u_347
  obtain ⟨f_916, e_915⟩ := hm_901.arrI e_348
  have u_917 := ht_903 _ _ u_350
  have hsm := hsm.tr (hm_901.mono (by decide))
  have hlp_93 := hlp_93.tr (hm_901.mono (by decide))
  have htx := htx.tr ht_903
  obtain ⟨k_918, s_919, e_920, h_921, h_922, h_923, e_924⟩ := hx_902
  refine lv_aload_n hx hb dX4_readEither_78 rfl (lv_at hl 5 rfl) ?_
  refine lv_iload_n hx hb dX4_readEither_79 rfl (lv_at hl 4 rfl) ?_
  have hFc := free_all hD hS hA
  refine va_calli (va_runV (As := [.int 2]) (rest := []) ⟨hx, hb, hml, hown, hts⟩ (r_readOne2 l D ws_899 ty_900 adK adV fo rd krd tp ktp cd bb tl  H.size (⟨s_919, e_920, cc_119, ra_120, rb_121, rc_122, rv_123, re_124, nI k_918, by omega, by omega, by omega, by omega, e_904, e_924, ⟨k_132, c9_133, t_134, f_913, e_912, u_914⟩, ⟨k_138, c9_139, t_140, f_916, e_915, u_917⟩⟩ : RS ws_899 ty_900 rd krd tp ktp cd bb tl)) (cwV 1 hts gX4_readEither_X4_readOne rfl rfl rfl (by decide +kernel) ⟨Nat.le_of_ble_eq_true rfl, Nat.le_of_ble_eq_true rfl⟩) ⟨fun a U g mk q => by obtain ⟨q0, q1, qP, qK, qD, qS⟩ := q; exact ⟨q0, q1, qP, va_K.moved (u := U) (U := U.calling g mk a) (Vm.Alike.refl U.vm) qK, qD, SZ.same rfl rfl qS⟩, va_recv hK hP (ci := 4) (q0 := krd) rfl e_904, fun U hU hW => ⟨rfl, by rw [hU], by rw [hU]; exact hP, va_K.moved hW.alike hK, hD.weaken (fun _ _ _ _ => trivial), hsz9.go hS hW hU hFc⟩⟩ rfl rfl hl.1 rfl (lv_room (Nat.le_of_ble_eq_true rfl)) dX4_readEither_80 ⟨Nat.le_of_ble_eq_true rfl, Nat.le_of_ble_eq_true rfl⟩) hS (fun q _ h => hFc q h) hFc (fun r_925 u t H1 locs ht hvm w_926 hB hz1 hk1 hS => ?_)
  obtain ⟨ws_927, ty_928, hm_929, ht_931, hP1, hK1, hD1, hx_930⟩ := hB
  rw [ht] at hP1
  have hK := va_K.moved hvm.symm hK1
  have hD := hD1.weaken (fun _ _ _ h => hFc _ h)
  generalize H1 = H at hP1 hS ⊢
  have hP := hP1
  obtain ⟨g_933, e_932, h_934⟩ := hm_929.obj e_904
  obtain ⟨z_935, z_936, z_937, z_938, z_939, z_940, rfl⟩ := smX4 h_934
  obtain ⟨g_942, e_941, h_943⟩ := hm_929.obj e_924
  obtain ⟨z_944, z_945, z_946, z_947, rfl⟩ := smX6 h_943
  obtain ⟨f_949, e_948⟩ := hm_929.arrI e_912
  have u_950 := ht_931 _ _ u_914
  obtain ⟨f_952, e_951⟩ := hm_929.arrI e_915
  have u_953 := ht_931 _ _ u_917
  have hsm := hsm.tr (hm_929.mono (by decide))
  have hlp_93 := hlp_93.tr (hm_929.mono (by decide))
  have htx := htx.tr ht_931
  obtain ⟨ts_954, te_955, cc_956, ra_957, rb_958, rc_959, rv_960, re_961, ya_962, h1_963, h2_964, h3_965, h4_966, er_967, et_968, ⟨k_969, c9_970, t_971, f_972, e_973, u_974⟩, ⟨k_975, c9_976, t_977, f_978, e_979, u_980⟩⟩ := id hx_930
  refine lv_istore_n (lv' := [(2, .int r_925), (3, .int 0), (5, .int 1), (4, .int (nI i_85)), (1, .int 2), (0, .ref rd)]) hx hb dX4_readEither_83 rfl hl (by decide) rfl (fun ls hl => ?_)
  refine lv_iload hx hb dX4_readEither_84 (lv_at hl 2 rfl) ?_
  refine lv_if_eq (tgt := 95) hx hb dX4_readEither_86 (by decide) (fun c_981 => absurd c_981 (by decide)) (fun c_981 => ?_)
  refine lv_aload_n hx hb dX4_readEither_89 rfl (lv_at hl 5 rfl) ?_
  refine lv_bipush (v := (-2)) hx hb dX4_readEither_90 (by decide) ?_
  have hFc := free_all hD hS hA
  refine va_callv (va_runV (As := [.int (-2)]) (rest := []) ⟨hx, hb, hml, hown, hts⟩ (r_addCode l D ws_927 ty_928 adK adV fo rd krd tp ktp cd bb tl (-2) H.size (⟨ts_954, te_955, cc_956, ra_957, rb_958, rc_959, rv_960, re_961, ya_962, by omega, by omega, by omega, by omega, er_967, et_968, ⟨k_969, c9_970, t_971, f_972, e_973, u_974⟩, ⟨k_975, c9_976, t_977, f_978, e_979, u_980⟩⟩ : RS ws_927 ty_928 rd krd tp ktp cd bb tl)) (cwV 1 hts gX4_readEither_X4_addCode rfl rfl rfl (by decide +kernel) ⟨Nat.le_of_ble_eq_true rfl, Nat.le_of_ble_eq_true rfl⟩) ⟨fun a U g mk q => by obtain ⟨q0, q1, qP, qK, qD, qS⟩ := q; exact ⟨q0, q1, qP, va_K.moved (u := U) (U := U.calling g mk a) (Vm.Alike.refl U.vm) qK, qD, SZ.same rfl rfl qS⟩, va_recv hK hP (ci := 4) (q0 := krd) rfl er_967, fun U hU hW => ⟨rfl, by rw [hU], by rw [hU]; exact hP, va_K.moved hW.alike hK, hD.weaken (fun _ _ _ _ => trivial), hsz9.go hS hW hU hFc⟩⟩ rfl rfl hl.1 rfl (lv_room (Nat.le_of_ble_eq_true rfl)) dX4_readEither_92 ⟨Nat.le_of_ble_eq_true rfl, Nat.le_of_ble_eq_true rfl⟩) hS (fun q _ h => hFc q h) hFc (fun u t H1 locs ht hvm w_983 hB hz1 hk1 hS => ?_)
  obtain ⟨ws_984, ty_985, hm_986, ht_988, hP1, hK1, hD1, hx_987⟩ := hB
  rw [ht] at hP1
  have hK := va_K.moved hvm.symm hK1
  have hD := hD1.weaken (fun _ _ _ h => hFc _ h)
  generalize H1 = H at hP1 hS ⊢
  have hP := hP1
  obtain ⟨g_990, e_989, h_991⟩ := hm_986.obj er_967
  obtain ⟨z_992, z_993, z_994, z_995, z_996, z_997, rfl⟩ := smX4 h_991
  obtain ⟨g_999, e_998, h_1000⟩ := hm_986.obj et_968
  obtain ⟨z_1001, z_1002, z_1003, z_1004, rfl⟩ := smX6 h_1000
  obtain ⟨f_1006, e_1005⟩ := hm_986.arrI e_973
  have u_1007 := ht_988 _ _ u_974
  obtain ⟨f_1009, e_1008⟩ := hm_986.arrI e_979
  have u_1010 := ht_988 _ _ u_980
  have hsm := hsm.tr (hm_986.mono (by decide))
  have hlp_93 := hlp_93.tr (hm_986.mono (by decide))
  have htx := htx.tr ht_988
  obtain ⟨ts_1011, te_1012, cc_1013, ra_1014, rb_1015, rc_1016, rv_1017, re_1018, ya_1019, h1_1020, h2_1021, h3_1022, h4_1023, er_1024, et_1025, ⟨k_1026, c9_1027, t_1028, f_1029, e_1030, u_1031⟩, ⟨k_1032, c9_1033, t_1034, f_1035, e_1036, u_1037⟩⟩ := id hx_987
  refine lv_iinc (v := nI (i_85 + 1)) (lv' := [(4, .int (nI (i_85 + 1))), (2, .int r_925), (3, .int 0), (5, .int 1), (1, .int 2), (0, .ref rd)]) hx hb dX4_readEither_95 hl (k := 3) rfl (nI_add i_85 1) (by decide) rfl (fun ls hl => ?_)
  refine lv_goto (tgt := 11) hx hb dX4_readEither_98 (by decide) ?_
  exact ih_84 (i_85 + 1, r_925, 0) ws_984 _ _ ls (by show 400 - (i_85 + 1) < 400 - i_85; omega) ⟨hlp_93, ⟨ty_985, hK, htx, (⟨ts_1011, te_1012, cc_1013, ra_1014, rb_1015, rc_1016, rv_1017, re_1018, ya_1019, by omega, by omega, by omega, by omega, er_1024, et_1025, ⟨k_1026, c9_1027, t_1028, f_1029, e_1030, u_1031⟩, ⟨k_1032, c9_1033, t_1034, f_1035, e_1036, u_1037⟩⟩ : RS ws_984 ty_985 rd krd tp ktp cd bb tl)⟩, (show (i_85 + 1) ≤ 400 from by omega), (show r_925 = 0 ∨ r_925 = 1 from w_926), (show 0 = 0 ∨ 0 = 1 from Or.inl rfl)⟩ hP hD hS (lv_sub hl [0, 1, 2, 4, 5] rfl)
set_option maxHeartbeats 4000000 in
set_option maxRecDepth 100000 in
theorem r_readOne1 (l : Launch) (D : va_G) (ws : va_W) (tys : List (ClassId × FieldType)) (adK adV : Nat → Nat) (fo : Option Nat) (rd krd tp ktp cd bb tl : Nat)  (sz : Nat) (R0 : RS ws tys rd krd tp ktp cd bb tl)  : Met l yX4_readOne wsX4_readOne ({ frames := 17, cells := 0, slots := 0, locals := 389 }) (va_Pc [.ref rd, .int 1] (fun U => U.heap.size = sz ∧ va_P D vwCl ws U.heap ∧ va_K D vwCl tys U ∧ va_D (fun _ => True) ws ∧ SZ adK adV fo (va_A ws sz) U U.heap)) (va_Qi (fun (r : Int32) (_ : Unit) => r = 0 ∨ r = 1) (fun (_ : Unit) (t : State) => ∃ (ws' : va_W) (tys' : List (ClassId × FieldType)), sm [4, 6] ws ws' ∧ tyx tys tys' ∧ va_P D vwCl ws' t.heap ∧ va_K D vwCl tys' t ∧ va_D (va_A ws sz) ws' ∧ RS ws' tys' rd krd tp ktp cd bb tl) (va_A ws sz)) 0 0 (va_A ws sz) := by
  refine Met.ofW (cc := cX4_readOne) (maxL := 4) (ret := (some .boolean)) (by decide) rfl ?_
  intro p e s m args below meth c s₁ B hml hv
  obtain ⟨rfl, hsz, hP, hK, hD0, hsz9⟩ := hv
  have hx := B.exec
  have hb := B.bytes
  have hr := B.returns
  have hts := atoms_spec (ws := wsX4_readOne) B.pre
  have hown : s.vm.findClass RX4 = some m.cls := findClass_of_methodNamed B.named
  have hlocks := B.notSynchronized
  subst hsz
  have hD := hD0.self (sz := s.heap.size)
  generalize hAe : va_A ws s.heap.size = A at hD hsz9 ⊢
  have hA : ∀ q : Nat, s.heap.size ≤ q → A q := fun q h => by rw [← hAe]; exact Or.inr h
  have hS : va_S A s.heap s.heap [] := va_S.rf
  have hsm : sm [4, 6] ws ws := sm.rf ws
  have htx : tyx tys tys := tyx.rf tys
  have hin4 : ∀ w ∈ u_ws RX4 TX4 8, w ∈ wsX4_readOne := (fun _ h9 => List.mem_cons_of_mem _ (List.mem_append_left _ ((List.mem_append_right _ h9))))
  have hl := lv_entry ([.ref rd, .int 1]) (n := 4) (Nat.le_of_ble_eq_true rfl)
  rw [lg_entry_eq]
  generalize (lg_sl ([.ref rd, .int 1]) ++ List.replicate (4 - (lg_sl ([.ref rd, .int 1])).length) Slot.unset).toArray = ls at hl ⊢
  have hl : lv_has ls 4 [(0, .ref rd), (1, .int 1)] := hl
  obtain ⟨ts_1, te_2, cc_3, ra_4, rb_5, rc_6, rv_7, re_8, ya_9, h1_10, h2_11, h3_12, h4_13, er_14, et_15, ⟨k_16, c9_17, t_18, f_19, e_20, u_21⟩, ⟨k_22, c9_23, t_24, f_25, e_26, u_27⟩⟩ := id R0
  refine lv_aload_n hx hb dX4_readOne_0 rfl (lv_at hl 0 rfl) ?_
  refine va_get (D := D) (ci := 4) (v := .ref tp) (C := RX4) (T := TX4) (N := 8) hx hb hts hin4 hown hK hP krd er_14 rfl 0 (by decide) (hts (.fieldLink RX4 12 "HoneyHouse$RuleReader" "tape" "LHoneyHouse$Tape;") (List.mem_of_getElem? (i := 1) rfl)) (fun _ h9 => h9) rfl dX4_readOne_1 ?_
  refine va_ldcS hx hb hown hsz9.2.2.2.2.2.2.1 dX4_readOne_4 ?_
  have hFc := free_all hD hS hA
  refine va_calli (va_runV (As := [.ref (adK 3)]) (rest := []) ⟨hx, hb, hml, hown, hts⟩ (a_isWord l D ws tys adK adV fo 3 tp ktp tl ya_9 (nI ts_1) (nI te_2) bb k_22 c9_23 t_24 f_25 s.heap.size (by decide) et_15 e_26 u_27) (cwV 1 hts gX4_readOne_X6_isWord rfl rfl rfl (by decide +kernel) ⟨Nat.le_of_ble_eq_true rfl, Nat.le_of_ble_eq_true rfl⟩) ⟨fun a U g mk q => by obtain ⟨q0, q1, qP, qK, qD, qS⟩ := q; exact ⟨q0, q1, qP, va_K.moved (u := U) (U := U.calling g mk a) (Vm.Alike.refl U.vm) qK, qD, SZ.same rfl rfl qS⟩, va_recv hK hP (ci := 6) (q0 := ktp) rfl et_15, fun U hU hW => ⟨rfl, by rw [hU], by rw [hU]; exact hP, va_K.moved hW.alike hK, hD.weaken (fun _ _ _ _ => trivial), hsz9.go hS hW hU hFc⟩⟩ rfl rfl hl.1 rfl (lv_room (Nat.le_of_ble_eq_true rfl)) dX4_readOne_6 ⟨Nat.le_of_ble_eq_true rfl, Nat.le_of_ble_eq_true rfl⟩) hS (fun q _ h => hFc q h) hFc (fun r_28 u t H1 locs ht hvm w_29 hB hz1 hk1 hS => ?_)
  obtain ⟨ws_30, ty_31, hm_32, ht_34, hP1, hK1, hD1, hx_33⟩ := hB
  rw [ht] at hP1
  have hK := va_K.moved hvm.symm hK1
  have hD := hD1.weaken (fun _ _ _ h => hFc _ h)
  generalize H1 = H at hP1 hS ⊢
  have hP := hP1
  have e_35 := hm_32.objK er_14 (by decide)
  have e_36 := hm_32.objK et_15 (by decide)
  obtain ⟨f_38, e_37⟩ := hm_32.arrI e_20
  have u_39 := ht_34 _ _ u_21
  obtain ⟨f_41, e_40⟩ := hm_32.arrI e_26
  have u_42 := ht_34 _ _ u_27
  have hsm := hsm.tr (hm_32.mono (by decide))
  have htx := htx.tr ht_34
  rcases w_29 with rfl | rfl
  · refine lv_istore_n (lv' := [(2, .int 0), (0, .ref rd), (1, .int 1)]) hx hb dX4_readOne_9 rfl hl (by decide) rfl (fun ls hl => ?_)
    refine lv_iload_n hx hb dX4_readOne_10 rfl (lv_at hl 0 rfl) ?_
    refine lv_if_ne (tgt := 31) hx hb dX4_readOne_11 (by decide) (fun c_43 => absurd (by decide) c_43) (fun c_43 => ?_)
    refine lv_aload_n hx hb dX4_readOne_14 rfl (lv_at hl 1 rfl) ?_
    refine va_get (D := D) (ci := 4) (v := .ref tp) (C := RX4) (T := TX4) (N := 8) hx hb hts hin4 hown hK hP krd e_35 rfl 0 (by decide) (hts (.fieldLink RX4 12 "HoneyHouse$RuleReader" "tape" "LHoneyHouse$Tape;") (List.mem_of_getElem? (i := 1) rfl)) (fun _ h9 => h9) rfl dX4_readOne_15 ?_
    refine lv_bipush (v := 40) hx hb dX4_readOne_18 (by decide) ?_
    refine vp_callSi (W.runV (As := [.int 40]) (rest := []) ⟨hx, hb, hml, hown, hts⟩ (s_isByte l D ws_30 ty_31 tp ktp tl ya_9 (nI ts_1) (nI te_2) bb k_22 c9_23 t_24 f_41 40 e_36 e_40 u_42) (cwV 1 hts gX4_readOne_X6_isByte rfl rfl rfl (by decide +kernel) ⟨Nat.le_of_ble_eq_true rfl, Nat.le_of_ble_eq_true rfl⟩) ⟨fun a U g mk q => ⟨q.1, q.2.1, va_K.moved (u := U) (U := U.calling g mk a) (Vm.Alike.refl U.vm) q.2.2⟩, va_recv hK hP (ci := 6) (q0 := ktp) rfl e_36, fun U hU hW => ⟨rfl, by rw [hU]; exact hP, va_K.moved hW.alike hK⟩⟩ rfl rfl hl.1 rfl (lv_room (Nat.le_of_ble_eq_true rfl)) dX4_readOne_20 ⟨Nat.le_of_ble_eq_true rfl, Nat.le_of_ble_eq_true rfl⟩) (fun r_44 k_45 => ?_)
    rcases k_45 with rfl | rfl
    · refine lv_if_ne (tgt := 31) hx hb dX4_readOne_23 (by decide) (fun c_46 => absurd (by decide) c_46) (fun c_46 => ?_)
      refine lv_aload_n hx hb dX4_readOne_26 rfl (lv_at hl 1 rfl) ?_
      have hFc := free_all hD hS hA
      refine va_calli (va_runV (As := []) (rest := []) ⟨hx, hb, hml, hown, hts⟩ (r_readTest l D ws_30 ty_31 adK adV fo rd krd tp ktp cd bb tl  H.size (⟨ts_1, te_2, cc_3, ra_4, rb_5, rc_6, rv_7, re_8, ya_9, by omega, by omega, by omega, by omega, e_35, e_36, ⟨k_16, c9_17, t_18, f_38, e_37, u_39⟩, ⟨k_22, c9_23, t_24, f_41, e_40, u_42⟩⟩ : RS ws_30 ty_31 rd krd tp ktp cd bb tl)) (cwV 0 hts gX4_readOne_X4_readTest rfl rfl rfl (by decide +kernel) ⟨Nat.le_of_ble_eq_true rfl, Nat.le_of_ble_eq_true rfl⟩) ⟨fun a U g mk q => by obtain ⟨q0, q1, qP, qK, qD, qS⟩ := q; exact ⟨q0, q1, qP, va_K.moved (u := U) (U := U.calling g mk a) (Vm.Alike.refl U.vm) qK, qD, SZ.same rfl rfl qS⟩, va_recv hK hP (ci := 4) (q0 := krd) rfl e_35, fun U hU hW => ⟨rfl, by rw [hU], by rw [hU]; exact hP, va_K.moved hW.alike hK, hD.weaken (fun _ _ _ _ => trivial), hsz9.go hS hW hU hFc⟩⟩ rfl rfl hl.1 rfl (lv_room (Nat.le_of_ble_eq_true rfl)) dX4_readOne_27 ⟨Nat.le_of_ble_eq_true rfl, Nat.le_of_ble_eq_true rfl⟩) hS (fun q _ h => hFc q h) hFc (fun r_47 u t H1 locs ht hvm w_48 hB hz1 hk1 hS => ?_)
      obtain ⟨ws_49, ty_50, hm_51, ht_53, hP1, hK1, hD1, hx_52⟩ := hB
      rw [ht] at hP1
      have hK := va_K.moved hvm.symm hK1
      have hD := hD1.weaken (fun _ _ _ h => hFc _ h)
      generalize H1 = H at hP1 hS ⊢
      have hP := hP1
      obtain ⟨g_55, e_54, h_56⟩ := hm_51.obj e_35
      obtain ⟨z_57, z_58, z_59, z_60, z_61, z_62, rfl⟩ := smX4 h_56
      obtain ⟨g_64, e_63, h_65⟩ := hm_51.obj e_36
      obtain ⟨z_66, z_67, z_68, z_69, rfl⟩ := smX6 h_65
      obtain ⟨f_71, e_70⟩ := hm_51.arrI e_37
      have u_72 := ht_53 _ _ u_39
      obtain ⟨f_74, e_73⟩ := hm_51.arrI e_40
      have u_75 := ht_53 _ _ u_42
      have hsm := hsm.tr (hm_51.mono (by decide))
      have htx := htx.tr ht_53
      obtain ⟨ts_76, te_77, cc_78, ra_79, rb_80, rc_81, rv_82, re_83, ya_84, h1_85, h2_86, h3_87, h4_88, er_89, et_90, ⟨k_91, c9_92, t_93, f_94, e_95, u_96⟩, ⟨k_97, c9_98, t_99, f_100, e_101, u_102⟩⟩ := id hx_52
      exact W.zret (v := r_47) hx hb hr (by rcases w_48 with h9 | h9 <;> rw [h9] <;> rfl) (fun t ht hW => ⟨⟨r_47, (), rfl, w_48, ws_49, ty_50, hsm, htx, by rw [ht]; exact hP, va_K.moved hW.alike hK, hD, (⟨ts_76, te_77, cc_78, ra_79, rb_80, rc_81, rv_82, re_83, ya_84, by omega, by omega, by omega, by omega, er_89, et_90, ⟨k_91, c9_92, t_93, f_94, e_95, u_96⟩, ⟨k_97, c9_98, t_99, f_100, e_101, u_102⟩⟩ : RS ws_49 ty_50 rd krd tp ktp cd bb tl)⟩, hS.F ht⟩) hS.2.2 dX4_readOne_30
    refine lv_if_ne (tgt := 31) hx hb dX4_readOne_23 (by decide) (fun c_103 => ?_) (fun c_103 => absurd c_103 (by decide))
    refine lv_iload_n hx hb dX4_readOne_31 rfl (lv_at hl 2 rfl) ?_
    refine lv_bipush (v := 6) hx hb dX4_readOne_32 (by decide) ?_
    refine lv_icmp_lt (tgt := 50) hx hb dX4_readOne_34 (by decide) (fun c_104 => ?_) (fun c_104 => absurd (by decide) c_104)
    refine lv_aload_n hx hb dX4_readOne_50 rfl (lv_at hl 1 rfl) ?_
    refine va_get (D := D) (ci := 4) (v := .ref tp) (C := RX4) (T := TX4) (N := 8) hx hb hts hin4 hown hK hP krd e_35 rfl 0 (by decide) (hts (.fieldLink RX4 12 "HoneyHouse$RuleReader" "tape" "LHoneyHouse$Tape;") (List.mem_of_getElem? (i := 1) rfl)) (fun _ h9 => h9) rfl dX4_readOne_51 ?_
    have hFc := free_all hD hS hA
    refine va_callv (va_runV (As := []) (rest := []) ⟨hx, hb, hml, hown, hts⟩ (a_advance l D ws_30 ty_31 tp ktp tl te_2 ya_9 (nI ts_1) bb k_22 c9_23 t_24 f_41 H.size (by omega) (by omega) e_36 e_40 u_42) (cwV 0 hts gX4_readOne_X6_advance rfl rfl rfl (by decide +kernel) ⟨Nat.le_of_ble_eq_true rfl, Nat.le_of_ble_eq_true rfl⟩) ⟨fun a U g mk q => by obtain ⟨q0, q1, qP, qK, qD⟩ := q; exact ⟨q0, q1, qP, va_K.moved (u := U) (U := U.calling g mk a) (Vm.Alike.refl U.vm) qK, qD⟩, va_recv hK hP (ci := 6) (q0 := ktp) rfl e_36, fun U hU hW => ⟨rfl, by rw [hU], by rw [hU]; exact hP, va_K.moved hW.alike hK, hD.weaken (fun _ _ _ _ => trivial)⟩⟩ rfl rfl hl.1 rfl (lv_room (Nat.le_of_ble_eq_true rfl)) dX4_readOne_54 ⟨Nat.le_of_ble_eq_true rfl, Nat.le_of_ble_eq_true rfl⟩) hS (fun q _ h => hFc q h) hFc (fun u t H1 locs ht hvm w_106 hB hz1 hk1 hS => ?_)
    obtain ⟨ws_107, ty_108, hm_109, ht_111, hP1, hK1, hD1, hx_110⟩ := hB
    rw [ht] at hP1
    have hK := va_K.moved hvm.symm hK1
    have hD := hD1.weaken (fun _ _ _ h => hFc _ h)
    generalize H1 = H at hP1 hS ⊢
    have hP := hP1
    have e_112 := hm_109.objK e_35 (by decide)
    obtain ⟨g_114, e_113, h_115⟩ := hm_109.obj e_36
    obtain ⟨z_116, z_117, z_118, z_119, rfl⟩ := smX6 h_115
    obtain ⟨f_121, e_120⟩ := hm_109.arrI e_37
    have u_122 := ht_111 _ _ u_39
    obtain ⟨f_124, e_123⟩ := hm_109.arrI e_40
    have u_125 := ht_111 _ _ u_42
    have hsm := hsm.tr (hm_109.mono (by decide))
    have htx := htx.tr ht_111
    obtain ⟨k_126, s_127, e_128, h_129, h_130, h_131, e_132⟩ := hx_110
    refine lv_iload_n hx hb dX4_readOne_57 rfl (lv_at hl 0 rfl) ?_
    refine lv_if_ne (tgt := 86) hx hb dX4_readOne_58 (by decide) (fun c_133 => absurd (by decide) c_133) (fun c_133 => ?_)
    refine lv_aload_n hx hb dX4_readOne_61 rfl (lv_at hl 1 rfl) ?_
    refine lv_iload_n hx hb dX4_readOne_62 rfl (lv_at hl 2 rfl) ?_
    refine lv_iconst (v := 1) hx hb dX4_readOne_63 (by decide) ?_
    refine lv_iadd hx hb dX4_readOne_64 ?_
    refine tp_i (y := 2) (by decide) ?_
    have hFc := free_all hD hS hA
    refine va_calli (va_runV (As := [.int 2]) (rest := []) ⟨hx, hb, hml, hown, hts⟩ (r_readEither2 l D ws_107 ty_108 adK adV fo rd krd tp ktp cd bb tl  H.size (⟨s_127, e_128, cc_3, ra_4, rb_5, rc_6, rv_7, re_8, nI k_126, by omega, by omega, by omega, by omega, e_112, e_132, ⟨k_16, c9_17, t_18, f_121, e_120, u_122⟩, ⟨k_22, c9_23, t_24, f_124, e_123, u_125⟩⟩ : RS ws_107 ty_108 rd krd tp ktp cd bb tl)) (cwV 1 hts gX4_readOne_X4_readEither rfl rfl rfl (by decide +kernel) ⟨Nat.le_of_ble_eq_true rfl, Nat.le_of_ble_eq_true rfl⟩) ⟨fun a U g mk q => by obtain ⟨q0, q1, qP, qK, qD, qS⟩ := q; exact ⟨q0, q1, qP, va_K.moved (u := U) (U := U.calling g mk a) (Vm.Alike.refl U.vm) qK, qD, SZ.same rfl rfl qS⟩, va_recv hK hP (ci := 4) (q0 := krd) rfl e_112, fun U hU hW => ⟨rfl, by rw [hU], by rw [hU]; exact hP, va_K.moved hW.alike hK, hD.weaken (fun _ _ _ _ => trivial), hsz9.go hS hW hU hFc⟩⟩ rfl rfl hl.1 rfl (lv_room (Nat.le_of_ble_eq_true rfl)) dX4_readOne_65 ⟨Nat.le_of_ble_eq_true rfl, Nat.le_of_ble_eq_true rfl⟩) hS (fun q _ h => hFc q h) hFc (fun r_134 u t H1 locs ht hvm w_135 hB hz1 hk1 hS => ?_)
    obtain ⟨ws_136, ty_137, hm_138, ht_140, hP1, hK1, hD1, hx_139⟩ := hB
    rw [ht] at hP1
    have hK := va_K.moved hvm.symm hK1
    have hD := hD1.weaken (fun _ _ _ h => hFc _ h)
    generalize H1 = H at hP1 hS ⊢
    have hP := hP1
    obtain ⟨g_142, e_141, h_143⟩ := hm_138.obj e_112
    obtain ⟨z_144, z_145, z_146, z_147, z_148, z_149, rfl⟩ := smX4 h_143
    obtain ⟨g_151, e_150, h_152⟩ := hm_138.obj e_132
    obtain ⟨z_153, z_154, z_155, z_156, rfl⟩ := smX6 h_152
    obtain ⟨f_158, e_157⟩ := hm_138.arrI e_120
    have u_159 := ht_140 _ _ u_122
    obtain ⟨f_161, e_160⟩ := hm_138.arrI e_123
    have u_162 := ht_140 _ _ u_125
    have hsm := hsm.tr (hm_138.mono (by decide))
    have htx := htx.tr ht_140
    obtain ⟨ts_163, te_164, cc_165, ra_166, rb_167, rc_168, rv_169, re_170, ya_171, h1_172, h2_173, h3_174, h4_175, er_176, et_177, ⟨k_178, c9_179, t_180, f_181, e_182, u_183⟩, ⟨k_184, c9_185, t_186, f_187, e_188, u_189⟩⟩ := id hx_139
    refine lv_if_eq (tgt := 84) hx hb dX4_readOne_68 (by decide) (fun c_190 => ?_) (fun c_190 => ?_)
    · refine lv_iconst (v := 0) hx hb dX4_readOne_84 (by decide) ?_
      exact W.zret (v := 0) hx hb hr rfl (fun t ht hW => ⟨⟨0, (), rfl, Or.inl rfl, ws_136, ty_137, hsm, htx, by rw [ht]; exact hP, va_K.moved hW.alike hK, hD, (⟨ts_163, te_164, cc_165, ra_166, rb_167, rc_168, rv_169, re_170, ya_171, by omega, by omega, by omega, by omega, er_176, et_177, ⟨k_178, c9_179, t_180, f_181, e_182, u_183⟩, ⟨k_184, c9_185, t_186, f_187, e_188, u_189⟩⟩ : RS ws_136 ty_137 rd krd tp ktp cd bb tl)⟩, hS.F ht⟩) hS.2.2 dX4_readOne_85
    refine lv_aload_n hx hb dX4_readOne_71 rfl (lv_at hl 1 rfl) ?_
    refine lv_bipush (v := 41) hx hb dX4_readOne_72 (by decide) ?_
    have hFc := free_all hD hS hA
    refine va_calli (va_runV (As := [.int 41]) (rest := []) ⟨hx, hb, hml, hown, hts⟩ (r_readByte l D ws_136 ty_137 adK adV fo rd krd tp ktp cd bb tl 41 H.size (⟨ts_163, te_164, cc_165, ra_166, rb_167, rc_168, rv_169, re_170, ya_171, by omega, by omega, by omega, by omega, er_176, et_177, ⟨k_178, c9_179, t_180, f_181, e_182, u_183⟩, ⟨k_184, c9_185, t_186, f_187, e_188, u_189⟩⟩ : RS ws_136 ty_137 rd krd tp ktp cd bb tl)) (cwV 1 hts gX4_readOne_X4_readByte rfl rfl rfl (by decide +kernel) ⟨Nat.le_of_ble_eq_true rfl, Nat.le_of_ble_eq_true rfl⟩) ⟨fun a U g mk q => by obtain ⟨q0, q1, qP, qK, qD, qS⟩ := q; exact ⟨q0, q1, qP, va_K.moved (u := U) (U := U.calling g mk a) (Vm.Alike.refl U.vm) qK, qD, SZ.same rfl rfl qS⟩, va_recv hK hP (ci := 4) (q0 := krd) rfl er_176, fun U hU hW => ⟨rfl, by rw [hU], by rw [hU]; exact hP, va_K.moved hW.alike hK, hD.weaken (fun _ _ _ _ => trivial), hsz9.go hS hW hU hFc⟩⟩ rfl rfl hl.1 rfl (lv_room (Nat.le_of_ble_eq_true rfl)) dX4_readOne_74 ⟨Nat.le_of_ble_eq_true rfl, Nat.le_of_ble_eq_true rfl⟩) hS (fun q _ h => hFc q h) hFc (fun r_191 u t H1 locs ht hvm w_192 hB hz1 hk1 hS => ?_)
    obtain ⟨ws_193, ty_194, hm_195, ht_197, hP1, hK1, hD1, hx_196⟩ := hB
    rw [ht] at hP1
    have hK := va_K.moved hvm.symm hK1
    have hD := hD1.weaken (fun _ _ _ h => hFc _ h)
    generalize H1 = H at hP1 hS ⊢
    have hP := hP1
    obtain ⟨g_199, e_198, h_200⟩ := hm_195.obj er_176
    obtain ⟨z_201, z_202, z_203, z_204, z_205, z_206, rfl⟩ := smX4 h_200
    obtain ⟨g_208, e_207, h_209⟩ := hm_195.obj et_177
    obtain ⟨z_210, z_211, z_212, z_213, rfl⟩ := smX6 h_209
    obtain ⟨f_215, e_214⟩ := hm_195.arrI e_182
    have u_216 := ht_197 _ _ u_183
    obtain ⟨f_218, e_217⟩ := hm_195.arrI e_188
    have u_219 := ht_197 _ _ u_189
    have hsm := hsm.tr (hm_195.mono (by decide))
    have htx := htx.tr ht_197
    obtain ⟨ts_220, te_221, cc_222, ra_223, rb_224, rc_225, rv_226, re_227, ya_228, h1_229, h2_230, h3_231, h4_232, er_233, et_234, ⟨k_235, c9_236, t_237, f_238, e_239, u_240⟩, ⟨k_241, c9_242, t_243, f_244, e_245, u_246⟩⟩ := id hx_196
    rcases w_192 with rfl | rfl
    · refine lv_if_eq (tgt := 84) hx hb dX4_readOne_77 (by decide) (fun c_247 => ?_) (fun c_247 => absurd (by decide) c_247)
      refine lv_iconst (v := 0) hx hb dX4_readOne_84 (by decide) ?_
      exact W.zret (v := 0) hx hb hr rfl (fun t ht hW => ⟨⟨0, (), rfl, Or.inl rfl, ws_193, ty_194, hsm, htx, by rw [ht]; exact hP, va_K.moved hW.alike hK, hD, (⟨ts_220, te_221, cc_222, ra_223, rb_224, rc_225, rv_226, re_227, ya_228, by omega, by omega, by omega, by omega, er_233, et_234, ⟨k_235, c9_236, t_237, f_238, e_239, u_240⟩, ⟨k_241, c9_242, t_243, f_244, e_245, u_246⟩⟩ : RS ws_193 ty_194 rd krd tp ktp cd bb tl)⟩, hS.F ht⟩) hS.2.2 dX4_readOne_85
    refine lv_if_eq (tgt := 84) hx hb dX4_readOne_77 (by decide) (fun c_248 => absurd c_248 (by decide)) (fun c_248 => ?_)
    refine lv_iconst (v := 1) hx hb dX4_readOne_80 (by decide) ?_
    refine lv_goto (tgt := 85) hx hb dX4_readOne_81 (by decide) ?_
    exact W.zret (v := 1) hx hb hr rfl (fun t ht hW => ⟨⟨1, (), rfl, Or.inr rfl, ws_193, ty_194, hsm, htx, by rw [ht]; exact hP, va_K.moved hW.alike hK, hD, (⟨ts_220, te_221, cc_222, ra_223, rb_224, rc_225, rv_226, re_227, ya_228, by omega, by omega, by omega, by omega, er_233, et_234, ⟨k_235, c9_236, t_237, f_238, e_239, u_240⟩, ⟨k_241, c9_242, t_243, f_244, e_245, u_246⟩⟩ : RS ws_193 ty_194 rd krd tp ktp cd bb tl)⟩, hS.F ht⟩) hS.2.2 dX4_readOne_85
  refine lv_istore_n (lv' := [(2, .int 1), (0, .ref rd), (1, .int 1)]) hx hb dX4_readOne_9 rfl hl (by decide) rfl (fun ls hl => ?_)
  refine lv_iload_n hx hb dX4_readOne_10 rfl (lv_at hl 0 rfl) ?_
  refine lv_if_ne (tgt := 31) hx hb dX4_readOne_11 (by decide) (fun c_249 => ?_) (fun c_249 => absurd c_249 (by decide))
  refine lv_iload_n hx hb dX4_readOne_31 rfl (lv_at hl 2 rfl) ?_
  refine lv_bipush (v := 6) hx hb dX4_readOne_32 (by decide) ?_
  refine lv_icmp_lt (tgt := 50) hx hb dX4_readOne_34 (by decide) (fun c_250 => ?_) (fun c_250 => absurd (by decide) c_250)
  refine lv_aload_n hx hb dX4_readOne_50 rfl (lv_at hl 1 rfl) ?_
  refine va_get (D := D) (ci := 4) (v := .ref tp) (C := RX4) (T := TX4) (N := 8) hx hb hts hin4 hown hK hP krd e_35 rfl 0 (by decide) (hts (.fieldLink RX4 12 "HoneyHouse$RuleReader" "tape" "LHoneyHouse$Tape;") (List.mem_of_getElem? (i := 1) rfl)) (fun _ h9 => h9) rfl dX4_readOne_51 ?_
  have hFc := free_all hD hS hA
  refine va_callv (va_runV (As := []) (rest := []) ⟨hx, hb, hml, hown, hts⟩ (a_advance l D ws_30 ty_31 tp ktp tl te_2 ya_9 (nI ts_1) bb k_22 c9_23 t_24 f_41 H.size (by omega) (by omega) e_36 e_40 u_42) (cwV 0 hts gX4_readOne_X6_advance rfl rfl rfl (by decide +kernel) ⟨Nat.le_of_ble_eq_true rfl, Nat.le_of_ble_eq_true rfl⟩) ⟨fun a U g mk q => by obtain ⟨q0, q1, qP, qK, qD⟩ := q; exact ⟨q0, q1, qP, va_K.moved (u := U) (U := U.calling g mk a) (Vm.Alike.refl U.vm) qK, qD⟩, va_recv hK hP (ci := 6) (q0 := ktp) rfl e_36, fun U hU hW => ⟨rfl, by rw [hU], by rw [hU]; exact hP, va_K.moved hW.alike hK, hD.weaken (fun _ _ _ _ => trivial)⟩⟩ rfl rfl hl.1 rfl (lv_room (Nat.le_of_ble_eq_true rfl)) dX4_readOne_54 ⟨Nat.le_of_ble_eq_true rfl, Nat.le_of_ble_eq_true rfl⟩) hS (fun q _ h => hFc q h) hFc (fun u t H1 locs ht hvm w_252 hB hz1 hk1 hS => ?_)
  obtain ⟨ws_253, ty_254, hm_255, ht_257, hP1, hK1, hD1, hx_256⟩ := hB
  rw [ht] at hP1
  have hK := va_K.moved hvm.symm hK1
  have hD := hD1.weaken (fun _ _ _ h => hFc _ h)
  generalize H1 = H at hP1 hS ⊢
  have hP := hP1
  have e_258 := hm_255.objK e_35 (by decide)
  obtain ⟨g_260, e_259, h_261⟩ := hm_255.obj e_36
  obtain ⟨z_262, z_263, z_264, z_265, rfl⟩ := smX6 h_261
  obtain ⟨f_267, e_266⟩ := hm_255.arrI e_37
  have u_268 := ht_257 _ _ u_39
  obtain ⟨f_270, e_269⟩ := hm_255.arrI e_40
  have u_271 := ht_257 _ _ u_42
  have hsm := hsm.tr (hm_255.mono (by decide))
  have htx := htx.tr ht_257
  obtain ⟨k_272, s_273, e_274, h_275, h_276, h_277, e_278⟩ := hx_256
  refine lv_iload_n hx hb dX4_readOne_57 rfl (lv_at hl 0 rfl) ?_
  refine lv_if_ne (tgt := 86) hx hb dX4_readOne_58 (by decide) (fun c_279 => ?_) (fun c_279 => absurd c_279 (by decide))
  refine lv_aload_n hx hb dX4_readOne_86 rfl (lv_at hl 1 rfl) ?_
  refine lv_iload_n hx hb dX4_readOne_87 rfl (lv_at hl 2 rfl) ?_
  refine lv_iconst (v := 1) hx hb dX4_readOne_88 (by decide) ?_
  refine lv_iadd hx hb dX4_readOne_89 ?_
  refine tp_i (y := 2) (by decide) ?_
  have hFc := free_all hD hS hA
  refine va_calli (va_runV (As := [.int 2]) (rest := []) ⟨hx, hb, hml, hown, hts⟩ (r_readOne2 l D ws_253 ty_254 adK adV fo rd krd tp ktp cd bb tl  H.size (⟨s_273, e_274, cc_3, ra_4, rb_5, rc_6, rv_7, re_8, nI k_272, by omega, by omega, by omega, by omega, e_258, e_278, ⟨k_16, c9_17, t_18, f_267, e_266, u_268⟩, ⟨k_22, c9_23, t_24, f_270, e_269, u_271⟩⟩ : RS ws_253 ty_254 rd krd tp ktp cd bb tl)) (cwV 1 hts gX4_readOne_X4_readOne rfl rfl rfl (by decide +kernel) ⟨Nat.le_of_ble_eq_true rfl, Nat.le_of_ble_eq_true rfl⟩) ⟨fun a U g mk q => by obtain ⟨q0, q1, qP, qK, qD, qS⟩ := q; exact ⟨q0, q1, qP, va_K.moved (u := U) (U := U.calling g mk a) (Vm.Alike.refl U.vm) qK, qD, SZ.same rfl rfl qS⟩, va_recv hK hP (ci := 4) (q0 := krd) rfl e_258, fun U hU hW => ⟨rfl, by rw [hU], by rw [hU]; exact hP, va_K.moved hW.alike hK, hD.weaken (fun _ _ _ _ => trivial), hsz9.go hS hW hU hFc⟩⟩ rfl rfl hl.1 rfl (lv_room (Nat.le_of_ble_eq_true rfl)) dX4_readOne_90 ⟨Nat.le_of_ble_eq_true rfl, Nat.le_of_ble_eq_true rfl⟩) hS (fun q _ h => hFc q h) hFc (fun r_280 u t H1 locs ht hvm w_281 hB hz1 hk1 hS => ?_)
  obtain ⟨ws_282, ty_283, hm_284, ht_286, hP1, hK1, hD1, hx_285⟩ := hB
  rw [ht] at hP1
  have hK := va_K.moved hvm.symm hK1
  have hD := hD1.weaken (fun _ _ _ h => hFc _ h)
  generalize H1 = H at hP1 hS ⊢
  have hP := hP1
  obtain ⟨g_288, e_287, h_289⟩ := hm_284.obj e_258
  obtain ⟨z_290, z_291, z_292, z_293, z_294, z_295, rfl⟩ := smX4 h_289
  obtain ⟨g_297, e_296, h_298⟩ := hm_284.obj e_278
  obtain ⟨z_299, z_300, z_301, z_302, rfl⟩ := smX6 h_298
  obtain ⟨f_304, e_303⟩ := hm_284.arrI e_266
  have u_305 := ht_286 _ _ u_268
  obtain ⟨f_307, e_306⟩ := hm_284.arrI e_269
  have u_308 := ht_286 _ _ u_271
  have hsm := hsm.tr (hm_284.mono (by decide))
  have htx := htx.tr ht_286
  obtain ⟨ts_309, te_310, cc_311, ra_312, rb_313, rc_314, rv_315, re_316, ya_317, h1_318, h2_319, h3_320, h4_321, er_322, et_323, ⟨k_324, c9_325, t_326, f_327, e_328, u_329⟩, ⟨k_330, c9_331, t_332, f_333, e_334, u_335⟩⟩ := id hx_285
  refine lv_istore_n (lv' := [(3, .int r_280), (2, .int 1), (0, .ref rd), (1, .int 1)]) hx hb dX4_readOne_93 rfl hl (by decide) rfl (fun ls hl => ?_)
  refine lv_aload_n hx hb dX4_readOne_94 rfl (lv_at hl 2 rfl) ?_
  refine lv_iconst (v := (-1)) hx hb dX4_readOne_95 (by decide) ?_
  have hFc := free_all hD hS hA
  refine va_callv (va_runV (As := [.int (-1)]) (rest := []) ⟨hx, hb, hml, hown, hts⟩ (r_addCode l D ws_282 ty_283 adK adV fo rd krd tp ktp cd bb tl (-1) H.size (⟨ts_309, te_310, cc_311, ra_312, rb_313, rc_314, rv_315, re_316, ya_317, by omega, by omega, by omega, by omega, er_322, et_323, ⟨k_324, c9_325, t_326, f_327, e_328, u_329⟩, ⟨k_330, c9_331, t_332, f_333, e_334, u_335⟩⟩ : RS ws_282 ty_283 rd krd tp ktp cd bb tl)) (cwV 1 hts gX4_readOne_X4_addCode rfl rfl rfl (by decide +kernel) ⟨Nat.le_of_ble_eq_true rfl, Nat.le_of_ble_eq_true rfl⟩) ⟨fun a U g mk q => by obtain ⟨q0, q1, qP, qK, qD, qS⟩ := q; exact ⟨q0, q1, qP, va_K.moved (u := U) (U := U.calling g mk a) (Vm.Alike.refl U.vm) qK, qD, SZ.same rfl rfl qS⟩, va_recv hK hP (ci := 4) (q0 := krd) rfl er_322, fun U hU hW => ⟨rfl, by rw [hU], by rw [hU]; exact hP, va_K.moved hW.alike hK, hD.weaken (fun _ _ _ _ => trivial), hsz9.go hS hW hU hFc⟩⟩ rfl rfl hl.1 rfl (lv_room (Nat.le_of_ble_eq_true rfl)) dX4_readOne_96 ⟨Nat.le_of_ble_eq_true rfl, Nat.le_of_ble_eq_true rfl⟩) hS (fun q _ h => hFc q h) hFc (fun u t H1 locs ht hvm w_337 hB hz1 hk1 hS => ?_)
  obtain ⟨ws_338, ty_339, hm_340, ht_342, hP1, hK1, hD1, hx_341⟩ := hB
  rw [ht] at hP1
  have hK := va_K.moved hvm.symm hK1
  have hD := hD1.weaken (fun _ _ _ h => hFc _ h)
  generalize H1 = H at hP1 hS ⊢
  have hP := hP1
  obtain ⟨g_344, e_343, h_345⟩ := hm_340.obj er_322
  obtain ⟨z_346, z_347, z_348, z_349, z_350, z_351, rfl⟩ := smX4 h_345
  obtain ⟨g_353, e_352, h_354⟩ := hm_340.obj et_323
  obtain ⟨z_355, z_356, z_357, z_358, rfl⟩ := smX6 h_354
  obtain ⟨f_360, e_359⟩ := hm_340.arrI e_328
  have u_361 := ht_342 _ _ u_329
  obtain ⟨f_363, e_362⟩ := hm_340.arrI e_334
  have u_364 := ht_342 _ _ u_335
  have hsm := hsm.tr (hm_340.mono (by decide))
  have htx := htx.tr ht_342
  obtain ⟨ts_365, te_366, cc_367, ra_368, rb_369, rc_370, rv_371, re_372, ya_373, h1_374, h2_375, h3_376, h4_377, er_378, et_379, ⟨k_380, c9_381, t_382, f_383, e_384, u_385⟩, ⟨k_386, c9_387, t_388, f_389, e_390, u_391⟩⟩ := id hx_341
  refine lv_iload_n hx hb dX4_readOne_99 rfl (lv_at hl 0 rfl) ?_
  exact W.zret (v := r_280) hx hb hr (by rcases w_281 with h9 | h9 <;> rw [h9] <;> rfl) (fun t ht hW => ⟨⟨r_280, (), rfl, w_281, ws_338, ty_339, hsm, htx, by rw [ht]; exact hP, va_K.moved hW.alike hK, hD, (⟨ts_365, te_366, cc_367, ra_368, rb_369, rc_370, rv_371, re_372, ya_373, by omega, by omega, by omega, by omega, er_378, et_379, ⟨k_380, c9_381, t_382, f_383, e_384, u_385⟩, ⟨k_386, c9_387, t_388, f_389, e_390, u_391⟩⟩ : RS ws_338 ty_339 rd krd tp ktp cd bb tl)⟩, hS.F ht⟩) hS.2.2 dX4_readOne_100
set_option maxHeartbeats 4000000 in
set_option maxRecDepth 100000 in
theorem r_readEither1 (l : Launch) (D : va_G) (ws : va_W) (tys : List (ClassId × FieldType)) (adK adV : Nat → Nat) (fo : Option Nat) (rd krd tp ktp cd bb tl : Nat)  (sz : Nat) (R0 : RS ws tys rd krd tp ktp cd bb tl)  : Met l yX4_readEither wsX4_readEither ({ frames := 18, cells := 0, slots := 0, locals := 412 }) (va_Pc [.ref rd, .int 1] (fun U => U.heap.size = sz ∧ va_P D vwCl ws U.heap ∧ va_K D vwCl tys U ∧ va_D (fun _ => True) ws ∧ SZ adK adV fo (va_A ws sz) U U.heap)) (va_Qi (fun (r : Int32) (_ : Unit) => r = 0 ∨ r = 1) (fun (_ : Unit) (t : State) => ∃ (ws' : va_W) (tys' : List (ClassId × FieldType)), sm [4, 6] ws ws' ∧ tyx tys tys' ∧ va_P D vwCl ws' t.heap ∧ va_K D vwCl tys' t ∧ va_D (va_A ws sz) ws' ∧ RS ws' tys' rd krd tp ktp cd bb tl) (va_A ws sz)) 0 0 (va_A ws sz) := by
  refine Met.ofW (cc := cX4_readEither) (maxL := 6) (ret := (some .boolean)) (by decide) rfl ?_
  intro p e s m args below meth c s₁ B hml hv
  obtain ⟨rfl, hsz, hP, hK, hD0, hsz9⟩ := hv
  have hx := B.exec
  have hb := B.bytes
  have hr := B.returns
  have hts := atoms_spec (ws := wsX4_readEither) B.pre
  have hown : s.vm.findClass RX4 = some m.cls := findClass_of_methodNamed B.named
  have hlocks := B.notSynchronized
  subst hsz
  have hD := hD0.self (sz := s.heap.size)
  generalize hAe : va_A ws s.heap.size = A at hD hsz9 ⊢
  have hA : ∀ q : Nat, s.heap.size ≤ q → A q := fun q h => by rw [← hAe]; exact Or.inr h
  have hS : va_S A s.heap s.heap [] := va_S.rf
  have hsm : sm [4, 6] ws ws := sm.rf ws
  have htx : tyx tys tys := tyx.rf tys
  have hin4 : ∀ w ∈ u_ws RX4 TX4 8, w ∈ wsX4_readEither := (fun _ h9 => List.mem_cons_of_mem _ (List.mem_append_left _ ((List.mem_append_right _ h9))))
  have hl := lv_entry ([.ref rd, .int 1]) (n := 6) (Nat.le_of_ble_eq_true rfl)
  rw [lg_entry_eq]
  generalize (lg_sl ([.ref rd, .int 1]) ++ List.replicate (6 - (lg_sl ([.ref rd, .int 1])).length) Slot.unset).toArray = ls at hl ⊢
  have hl : lv_has ls 6 [(0, .ref rd), (1, .int 1)] := hl
  obtain ⟨ts_1, te_2, cc_3, ra_4, rb_5, rc_6, rv_7, re_8, ya_9, h1_10, h2_11, h3_12, h4_13, er_14, et_15, ⟨k_16, c9_17, t_18, f_19, e_20, u_21⟩, ⟨k_22, c9_23, t_24, f_25, e_26, u_27⟩⟩ := id R0
  refine lv_aload_n hx hb dX4_readEither_0 rfl (lv_at hl 0 rfl) ?_
  refine lv_iload_n hx hb dX4_readEither_1 rfl (lv_at hl 1 rfl) ?_
  have hFc := free_all hD hS hA
  refine va_calli (va_runV (As := [.int 1]) (rest := []) ⟨hx, hb, hml, hown, hts⟩ (r_readOne1 l D ws tys adK adV fo rd krd tp ktp cd bb tl  s.heap.size (⟨ts_1, te_2, cc_3, ra_4, rb_5, rc_6, rv_7, re_8, ya_9, by omega, by omega, by omega, by omega, er_14, et_15, ⟨k_16, c9_17, t_18, f_19, e_20, u_21⟩, ⟨k_22, c9_23, t_24, f_25, e_26, u_27⟩⟩ : RS ws tys rd krd tp ktp cd bb tl)) (cwV 1 hts gX4_readEither_X4_readOne rfl rfl rfl (by decide +kernel) ⟨Nat.le_of_ble_eq_true rfl, Nat.le_of_ble_eq_true rfl⟩) ⟨fun a U g mk q => by obtain ⟨q0, q1, qP, qK, qD, qS⟩ := q; exact ⟨q0, q1, qP, va_K.moved (u := U) (U := U.calling g mk a) (Vm.Alike.refl U.vm) qK, qD, SZ.same rfl rfl qS⟩, va_recv hK hP (ci := 4) (q0 := krd) rfl er_14, fun U hU hW => ⟨rfl, by rw [hU], by rw [hU]; exact hP, va_K.moved hW.alike hK, hD.weaken (fun _ _ _ _ => trivial), hsz9.go hS hW hU hFc⟩⟩ rfl rfl hl.1 rfl (lv_room (Nat.le_of_ble_eq_true rfl)) dX4_readEither_2 ⟨Nat.le_of_ble_eq_true rfl, Nat.le_of_ble_eq_true rfl⟩) hS (fun q _ h => hFc q h) hFc (fun r_28 u t H1 locs ht hvm w_29 hB hz1 hk1 hS => ?_)
  obtain ⟨ws_30, ty_31, hm_32, ht_34, hP1, hK1, hD1, hx_33⟩ := hB
  rw [ht] at hP1
  have hK := va_K.moved hvm.symm hK1
  have hD := hD1.weaken (fun _ _ _ h => hFc _ h)
  generalize H1 = H at hP1 hS ⊢
  have hP := hP1
  obtain ⟨g_36, e_35, h_37⟩ := hm_32.obj er_14
  obtain ⟨z_38, z_39, z_40, z_41, z_42, z_43, rfl⟩ := smX4 h_37
  obtain ⟨g_45, e_44, h_46⟩ := hm_32.obj et_15
  obtain ⟨z_47, z_48, z_49, z_50, rfl⟩ := smX6 h_46
  obtain ⟨f_52, e_51⟩ := hm_32.arrI e_20
  have u_53 := ht_34 _ _ u_21
  obtain ⟨f_55, e_54⟩ := hm_32.arrI e_26
  have u_56 := ht_34 _ _ u_27
  have hsm := hsm.tr (hm_32.mono (by decide))
  have htx := htx.tr ht_34
  obtain ⟨ts_57, te_58, cc_59, ra_60, rb_61, rc_62, rv_63, re_64, ya_65, h1_66, h2_67, h3_68, h4_69, er_70, et_71, ⟨k_72, c9_73, t_74, f_75, e_76, u_77⟩, ⟨k_78, c9_79, t_80, f_81, e_82, u_83⟩⟩ := id hx_33
  refine lv_istore_n (lv' := [(2, .int r_28), (0, .ref rd), (1, .int 1)]) hx hb dX4_readEither_5 rfl hl (by decide) rfl (fun ls hl => ?_)
  refine lv_iconst (v := 0) hx hb dX4_readEither_6 (by decide) ?_
  refine lv_istore_n (lv' := [(3, .int 0), (2, .int r_28), (0, .ref rd), (1, .int 1)]) hx hb dX4_readEither_7 rfl hl (by decide) rfl (fun ls hl => ?_)
  refine lv_iconst (v := 0) hx hb dX4_readEither_8 (by decide) ?_
  refine lv_istore (lv' := [(4, .int 0), (3, .int 0), (2, .int r_28), (0, .ref rd), (1, .int 1)]) hx hb dX4_readEither_9 hl (by decide) rfl (fun ls hl => ?_)
  refine lp_V (nL := 6) (σ := Nat × Int32 × Int32) (lv := fun x9 => [(4, .int (nI x9.1)), (2, .int x9.2.1), (3, .int x9.2.2), (1, .int 1), (0, .ref rd)]) (μ := fun x9 => 400 - x9.1) (J := fun x9 ws9 => sm [4, 6] ws_30 ws9 ∧ (∃ ty9 : List (ClassId × FieldType), va_K D vwCl ty9 s ∧ tyx tys ty9 ∧ RS ws9 ty9 rd krd tp ktp cd bb tl) ∧ (x9.1 ≤ 400) ∧ (x9.2.1 = 0 ∨ x9.2.1 = 1) ∧ (x9.2.2 = 0 ∨ x9.2.2 = 1)) (fun x9 ws_91 H locs ls hj hP hD hS hl ih_84 => ?_) (0, r_28, 0) ws_30 _ _ ls ⟨sm.rf _, ⟨ty_31, hK, htx, (⟨ts_57, te_58, cc_59, ra_60, rb_61, rc_62, rv_63, re_64, ya_65, by omega, by omega, by omega, by omega, er_70, et_71, ⟨k_72, c9_73, t_74, f_75, e_76, u_77⟩, ⟨k_78, c9_79, t_80, f_81, e_82, u_83⟩⟩ : RS ws_30 ty_31 rd krd tp ktp cd bb tl)⟩, (show 0 ≤ 400 from by omega), (show r_28 = 0 ∨ r_28 = 1 from w_29), (show 0 = 0 ∨ 0 = 1 from Or.inl rfl)⟩ hP hD hS (lv_sub hl [0, 2, 1, 4, 3] rfl)
  obtain ⟨i_85, x_86, y_87⟩ := x9
  have hj : sm [4, 6] ws_30 ws_91 ∧ (∃ ty9 : List (ClassId × FieldType), va_K D vwCl ty9 s ∧ tyx tys ty9 ∧ RS ws_91 ty9 rd krd tp ktp cd bb tl) ∧ (i_85 ≤ 400) ∧ (x_86 = 0 ∨ x_86 = 1) ∧ (y_87 = 0 ∨ y_87 = 1) := hj
  obtain ⟨hm_92, hR_94, hi_88, hbx_89, hby_90⟩ := hj
  obtain ⟨g_96, e_95, h_97⟩ := hm_92.obj er_70
  obtain ⟨z_98, z_99, z_100, z_101, z_102, z_103, rfl⟩ := smX4 h_97
  obtain ⟨g_105, e_104, h_106⟩ := hm_92.obj et_71
  obtain ⟨z_107, z_108, z_109, z_110, rfl⟩ := smX6 h_106
  obtain ⟨f_112, e_111⟩ := hm_92.arrI e_76
  obtain ⟨f_114, e_113⟩ := hm_92.arrI e_82
  have hsm := hsm.tr (hm_92.mono (by decide))
  obtain ⟨ty_115, hK, htx, hR_116⟩ := hR_94
  obtain ⟨ts_117, te_118, cc_119, ra_120, rb_121, rc_122, rv_123, re_124, ya_125, h1_126, h2_127, h3_128, h4_129, er_130, et_131, ⟨k_132, c9_133, t_134, f_135, e_136, u_137⟩, ⟨k_138, c9_139, t_140, f_141, e_142, u_143⟩⟩ := id hR_116
  have hlp_93 := hm_92
  have hl : lv_has ls 6 [(4, .int (nI i_85)), (2, .int x_86), (3, .int y_87), (1, .int 1), (0, .ref rd)] := hl
  refine lv_iload hx hb dX4_readEither_11 (lv_at hl 0 rfl) ?_
  refine lv_sipush (v := 400) hx hb dX4_readEither_13 (by decide) ?_
  refine lv_icmp_ge (tgt := 101) hx hb dX4_readEither_16 (by decide) (fun c_144 => ?_) (fun c_144 => ?_)
  · have d_145 := n_le (a := 400) (b := i_85) (by omega) (by omega) c_144
    refine lv_iload_n hx hb dX4_readEither_101 rfl (lv_at hl 2 rfl) ?_
    refine lv_if_eq (tgt := 111) hx hb dX4_readEither_102 (by decide) (fun c_146 => ?_) (fun c_146 => ?_)
    · refine lv_iload_n hx hb dX4_readEither_111 rfl (lv_at hl 1 rfl) ?_
      exact W.zret (v := x_86) hx hb hr (by rcases hbx_89 with h9 | h9 <;> rw [h9] <;> rfl) (fun t ht hW => ⟨⟨x_86, (), rfl, hbx_89, ws_91, ty_115, hsm, htx, by rw [ht]; exact hP, va_K.moved hW.alike hK, hD, (⟨ts_117, te_118, cc_119, ra_120, rb_121, rc_122, rv_123, re_124, ya_125, by omega, by omega, by omega, by omega, er_130, et_131, ⟨k_132, c9_133, t_134, f_135, e_136, u_137⟩, ⟨k_138, c9_139, t_140, f_141, e_142, u_143⟩⟩ : RS ws_91 ty_115 rd krd tp ktp cd bb tl)⟩, hS.F ht⟩) hS.2.2 dX4_readEither_112
    refine lv_aload_n hx hb dX4_readEither_105 rfl (lv_at hl 4 rfl) ?_
    refine lv_bipush (v := (-3)) hx hb dX4_readEither_106 (by decide) ?_
    have hFc := free_all hD hS hA
    refine va_callv (va_runV (As := [.int (-3)]) (rest := []) ⟨hx, hb, hml, hown, hts⟩ (r_addCode l D ws_91 ty_115 adK adV fo rd krd tp ktp cd bb tl (-3) H.size (⟨ts_117, te_118, cc_119, ra_120, rb_121, rc_122, rv_123, re_124, ya_125, by omega, by omega, by omega, by omega, er_130, et_131, ⟨k_132, c9_133, t_134, f_135, e_136, u_137⟩, ⟨k_138, c9_139, t_140, f_141, e_142, u_143⟩⟩ : RS ws_91 ty_115 rd krd tp ktp cd bb tl)) (cwV 1 hts gX4_readEither_X4_addCode rfl rfl rfl (by decide +kernel) ⟨Nat.le_of_ble_eq_true rfl, Nat.le_of_ble_eq_true rfl⟩) ⟨fun a U g mk q => by obtain ⟨q0, q1, qP, qK, qD, qS⟩ := q; exact ⟨q0, q1, qP, va_K.moved (u := U) (U := U.calling g mk a) (Vm.Alike.refl U.vm) qK, qD, SZ.same rfl rfl qS⟩, va_recv hK hP (ci := 4) (q0 := krd) rfl er_130, fun U hU hW => ⟨rfl, by rw [hU], by rw [hU]; exact hP, va_K.moved hW.alike hK, hD.weaken (fun _ _ _ _ => trivial), hsz9.go hS hW hU hFc⟩⟩ rfl rfl hl.1 rfl (lv_room (Nat.le_of_ble_eq_true rfl)) dX4_readEither_108 ⟨Nat.le_of_ble_eq_true rfl, Nat.le_of_ble_eq_true rfl⟩) hS (fun q _ h => hFc q h) hFc (fun u t H1 locs ht hvm w_148 hB hz1 hk1 hS => ?_)
    obtain ⟨ws_149, ty_150, hm_151, ht_153, hP1, hK1, hD1, hx_152⟩ := hB
    rw [ht] at hP1
    have hK := va_K.moved hvm.symm hK1
    have hD := hD1.weaken (fun _ _ _ h => hFc _ h)
    generalize H1 = H at hP1 hS ⊢
    have hP := hP1
    obtain ⟨g_155, e_154, h_156⟩ := hm_151.obj er_130
    obtain ⟨z_157, z_158, z_159, z_160, z_161, z_162, rfl⟩ := smX4 h_156
    obtain ⟨g_164, e_163, h_165⟩ := hm_151.obj et_131
    obtain ⟨z_166, z_167, z_168, z_169, rfl⟩ := smX6 h_165
    obtain ⟨f_171, e_170⟩ := hm_151.arrI e_136
    have u_172 := ht_153 _ _ u_137
    obtain ⟨f_174, e_173⟩ := hm_151.arrI e_142
    have u_175 := ht_153 _ _ u_143
    have hsm := hsm.tr (hm_151.mono (by decide))
    have hlp_93 := hlp_93.tr (hm_151.mono (by decide))
    have htx := htx.tr ht_153
    obtain ⟨ts_176, te_177, cc_178, ra_179, rb_180, rc_181, rv_182, re_183, ya_184, h1_185, h2_186, h3_187, h4_188, er_189, et_190, ⟨k_191, c9_192, t_193, f_194, e_195, u_196⟩, ⟨k_197, c9_198, t_199, f_200, e_201, u_202⟩⟩ := id hx_152
    refine lv_iload_n hx hb dX4_readEither_111 rfl (lv_at hl 1 rfl) ?_
    exact W.zret (v := x_86) hx hb hr (by rcases hbx_89 with h9 | h9 <;> rw [h9] <;> rfl) (fun t ht hW => ⟨⟨x_86, (), rfl, hbx_89, ws_149, ty_150, hsm, htx, by rw [ht]; exact hP, va_K.moved hW.alike hK, hD, (⟨ts_176, te_177, cc_178, ra_179, rb_180, rc_181, rv_182, re_183, ya_184, by omega, by omega, by omega, by omega, er_189, et_190, ⟨k_191, c9_192, t_193, f_194, e_195, u_196⟩, ⟨k_197, c9_198, t_199, f_200, e_201, u_202⟩⟩ : RS ws_149 ty_150 rd krd tp ktp cd bb tl)⟩, hS.F ht⟩) hS.2.2 dX4_readEither_112
  have d_203 := n_nle (a := 400) (b := i_85) (by omega) (by omega) c_144
  refine lv_iload_n hx hb dX4_readEither_19 rfl (lv_at hl 1 rfl) ?_
  refine lv_if_eq (tgt := 101) hx hb dX4_readEither_20 (by decide) (fun c_204 => ?_) (fun c_204 => ?_)
  · refine lv_iload_n hx hb dX4_readEither_101 rfl (lv_at hl 2 rfl) ?_
    refine lv_if_eq (tgt := 111) hx hb dX4_readEither_102 (by decide) (fun c_205 => ?_) (fun c_205 => ?_)
    · refine lv_iload_n hx hb dX4_readEither_111 rfl (lv_at hl 1 rfl) ?_
      exact W.zret (v := x_86) hx hb hr (by rcases hbx_89 with h9 | h9 <;> rw [h9] <;> rfl) (fun t ht hW => ⟨⟨x_86, (), rfl, hbx_89, ws_91, ty_115, hsm, htx, by rw [ht]; exact hP, va_K.moved hW.alike hK, hD, (⟨ts_117, te_118, cc_119, ra_120, rb_121, rc_122, rv_123, re_124, ya_125, by omega, by omega, by omega, by omega, er_130, et_131, ⟨k_132, c9_133, t_134, f_135, e_136, u_137⟩, ⟨k_138, c9_139, t_140, f_141, e_142, u_143⟩⟩ : RS ws_91 ty_115 rd krd tp ktp cd bb tl)⟩, hS.F ht⟩) hS.2.2 dX4_readEither_112
    refine lv_aload_n hx hb dX4_readEither_105 rfl (lv_at hl 4 rfl) ?_
    refine lv_bipush (v := (-3)) hx hb dX4_readEither_106 (by decide) ?_
    have hFc := free_all hD hS hA
    refine va_callv (va_runV (As := [.int (-3)]) (rest := []) ⟨hx, hb, hml, hown, hts⟩ (r_addCode l D ws_91 ty_115 adK adV fo rd krd tp ktp cd bb tl (-3) H.size (⟨ts_117, te_118, cc_119, ra_120, rb_121, rc_122, rv_123, re_124, ya_125, by omega, by omega, by omega, by omega, er_130, et_131, ⟨k_132, c9_133, t_134, f_135, e_136, u_137⟩, ⟨k_138, c9_139, t_140, f_141, e_142, u_143⟩⟩ : RS ws_91 ty_115 rd krd tp ktp cd bb tl)) (cwV 1 hts gX4_readEither_X4_addCode rfl rfl rfl (by decide +kernel) ⟨Nat.le_of_ble_eq_true rfl, Nat.le_of_ble_eq_true rfl⟩) ⟨fun a U g mk q => by obtain ⟨q0, q1, qP, qK, qD, qS⟩ := q; exact ⟨q0, q1, qP, va_K.moved (u := U) (U := U.calling g mk a) (Vm.Alike.refl U.vm) qK, qD, SZ.same rfl rfl qS⟩, va_recv hK hP (ci := 4) (q0 := krd) rfl er_130, fun U hU hW => ⟨rfl, by rw [hU], by rw [hU]; exact hP, va_K.moved hW.alike hK, hD.weaken (fun _ _ _ _ => trivial), hsz9.go hS hW hU hFc⟩⟩ rfl rfl hl.1 rfl (lv_room (Nat.le_of_ble_eq_true rfl)) dX4_readEither_108 ⟨Nat.le_of_ble_eq_true rfl, Nat.le_of_ble_eq_true rfl⟩) hS (fun q _ h => hFc q h) hFc (fun u t H1 locs ht hvm w_207 hB hz1 hk1 hS => ?_)
    obtain ⟨ws_208, ty_209, hm_210, ht_212, hP1, hK1, hD1, hx_211⟩ := hB
    rw [ht] at hP1
    have hK := va_K.moved hvm.symm hK1
    have hD := hD1.weaken (fun _ _ _ h => hFc _ h)
    generalize H1 = H at hP1 hS ⊢
    have hP := hP1
    obtain ⟨g_214, e_213, h_215⟩ := hm_210.obj er_130
    obtain ⟨z_216, z_217, z_218, z_219, z_220, z_221, rfl⟩ := smX4 h_215
    obtain ⟨g_223, e_222, h_224⟩ := hm_210.obj et_131
    obtain ⟨z_225, z_226, z_227, z_228, rfl⟩ := smX6 h_224
    obtain ⟨f_230, e_229⟩ := hm_210.arrI e_136
    have u_231 := ht_212 _ _ u_137
    obtain ⟨f_233, e_232⟩ := hm_210.arrI e_142
    have u_234 := ht_212 _ _ u_143
    have hsm := hsm.tr (hm_210.mono (by decide))
    have hlp_93 := hlp_93.tr (hm_210.mono (by decide))
    have htx := htx.tr ht_212
    obtain ⟨ts_235, te_236, cc_237, ra_238, rb_239, rc_240, rv_241, re_242, ya_243, h1_244, h2_245, h3_246, h4_247, er_248, et_249, ⟨k_250, c9_251, t_252, f_253, e_254, u_255⟩, ⟨k_256, c9_257, t_258, f_259, e_260, u_261⟩⟩ := id hx_211
    refine lv_iload_n hx hb dX4_readEither_111 rfl (lv_at hl 1 rfl) ?_
    exact W.zret (v := x_86) hx hb hr (by rcases hbx_89 with h9 | h9 <;> rw [h9] <;> rfl) (fun t ht hW => ⟨⟨x_86, (), rfl, hbx_89, ws_208, ty_209, hsm, htx, by rw [ht]; exact hP, va_K.moved hW.alike hK, hD, (⟨ts_235, te_236, cc_237, ra_238, rb_239, rc_240, rv_241, re_242, ya_243, by omega, by omega, by omega, by omega, er_248, et_249, ⟨k_250, c9_251, t_252, f_253, e_254, u_255⟩, ⟨k_256, c9_257, t_258, f_259, e_260, u_261⟩⟩ : RS ws_208 ty_209 rd krd tp ktp cd bb tl)⟩, hS.F ht⟩) hS.2.2 dX4_readEither_112
  refine lv_aload_n hx hb dX4_readEither_23 rfl (lv_at hl 4 rfl) ?_
  have hFc := free_all hD hS hA
  refine va_calli (va_runV (As := []) (rest := []) ⟨hx, hb, hml, hown, hts⟩ (r_isAndOr l D ws_91 ty_115 adK adV fo rd krd tp ktp cd bb tl  H.size (⟨ts_117, te_118, cc_119, ra_120, rb_121, rc_122, rv_123, re_124, ya_125, by omega, by omega, by omega, by omega, er_130, et_131, ⟨k_132, c9_133, t_134, f_135, e_136, u_137⟩, ⟨k_138, c9_139, t_140, f_141, e_142, u_143⟩⟩ : RS ws_91 ty_115 rd krd tp ktp cd bb tl)) (cwV 0 hts gX4_readEither_X4_isAndOr rfl rfl rfl (by decide +kernel) ⟨Nat.le_of_ble_eq_true rfl, Nat.le_of_ble_eq_true rfl⟩) ⟨fun a U g mk q => by obtain ⟨q0, q1, qP, qK, qD, qS⟩ := q; exact ⟨q0, q1, qP, va_K.moved (u := U) (U := U.calling g mk a) (Vm.Alike.refl U.vm) qK, qD, SZ.same rfl rfl qS⟩, va_recv hK hP (ci := 4) (q0 := krd) rfl er_130, fun U hU hW => ⟨rfl, by rw [hU], by rw [hU]; exact hP, va_K.moved hW.alike hK, hD.weaken (fun _ _ _ _ => trivial), hsz9.go hS hW hU hFc⟩⟩ rfl rfl hl.1 rfl (lv_room (Nat.le_of_ble_eq_true rfl)) dX4_readEither_24 ⟨Nat.le_of_ble_eq_true rfl, Nat.le_of_ble_eq_true rfl⟩) hS (fun q _ h => hFc q h) hFc (fun r_262 u t H1 locs ht hvm w_263 hB hz1 hk1 hS => ?_)
  obtain ⟨ws_264, ty_265, hm_266, ht_268, hP1, hK1, hD1, hx_267⟩ := hB
  rw [ht] at hP1
  have hK := va_K.moved hvm.symm hK1
  have hD := hD1.weaken (fun _ _ _ h => hFc _ h)
  generalize H1 = H at hP1 hS ⊢
  have hP := hP1
  have e_269 := hm_266.objK er_130 (by decide)
  have e_270 := hm_266.objK et_131 (by decide)
  obtain ⟨f_272, e_271⟩ := hm_266.arrI e_136
  have u_273 := ht_268 _ _ u_137
  obtain ⟨f_275, e_274⟩ := hm_266.arrI e_142
  have u_276 := ht_268 _ _ u_143
  have hsm := hsm.tr (hm_266.mono (by decide))
  have hlp_93 := hlp_93.tr (hm_266.mono (by decide))
  have htx := htx.tr ht_268
  rcases w_263 with rfl | rfl
  · refine lv_if_eq (tgt := 101) hx hb dX4_readEither_27 (by decide) (fun c_277 => ?_) (fun c_277 => absurd (by decide) c_277)
    refine lv_iload_n hx hb dX4_readEither_101 rfl (lv_at hl 2 rfl) ?_
    refine lv_if_eq (tgt := 111) hx hb dX4_readEither_102 (by decide) (fun c_278 => ?_) (fun c_278 => ?_)
    · refine lv_iload_n hx hb dX4_readEither_111 rfl (lv_at hl 1 rfl) ?_
      exact W.zret (v := x_86) hx hb hr (by rcases hbx_89 with h9 | h9 <;> rw [h9] <;> rfl) (fun t ht hW => ⟨⟨x_86, (), rfl, hbx_89, ws_264, ty_265, hsm, htx, by rw [ht]; exact hP, va_K.moved hW.alike hK, hD, (⟨ts_117, te_118, cc_119, ra_120, rb_121, rc_122, rv_123, re_124, ya_125, by omega, by omega, by omega, by omega, e_269, e_270, ⟨k_132, c9_133, t_134, f_272, e_271, u_273⟩, ⟨k_138, c9_139, t_140, f_275, e_274, u_276⟩⟩ : RS ws_264 ty_265 rd krd tp ktp cd bb tl)⟩, hS.F ht⟩) hS.2.2 dX4_readEither_112
    refine lv_aload_n hx hb dX4_readEither_105 rfl (lv_at hl 4 rfl) ?_
    refine lv_bipush (v := (-3)) hx hb dX4_readEither_106 (by decide) ?_
    have hFc := free_all hD hS hA
    refine va_callv (va_runV (As := [.int (-3)]) (rest := []) ⟨hx, hb, hml, hown, hts⟩ (r_addCode l D ws_264 ty_265 adK adV fo rd krd tp ktp cd bb tl (-3) H.size (⟨ts_117, te_118, cc_119, ra_120, rb_121, rc_122, rv_123, re_124, ya_125, by omega, by omega, by omega, by omega, e_269, e_270, ⟨k_132, c9_133, t_134, f_272, e_271, u_273⟩, ⟨k_138, c9_139, t_140, f_275, e_274, u_276⟩⟩ : RS ws_264 ty_265 rd krd tp ktp cd bb tl)) (cwV 1 hts gX4_readEither_X4_addCode rfl rfl rfl (by decide +kernel) ⟨Nat.le_of_ble_eq_true rfl, Nat.le_of_ble_eq_true rfl⟩) ⟨fun a U g mk q => by obtain ⟨q0, q1, qP, qK, qD, qS⟩ := q; exact ⟨q0, q1, qP, va_K.moved (u := U) (U := U.calling g mk a) (Vm.Alike.refl U.vm) qK, qD, SZ.same rfl rfl qS⟩, va_recv hK hP (ci := 4) (q0 := krd) rfl e_269, fun U hU hW => ⟨rfl, by rw [hU], by rw [hU]; exact hP, va_K.moved hW.alike hK, hD.weaken (fun _ _ _ _ => trivial), hsz9.go hS hW hU hFc⟩⟩ rfl rfl hl.1 rfl (lv_room (Nat.le_of_ble_eq_true rfl)) dX4_readEither_108 ⟨Nat.le_of_ble_eq_true rfl, Nat.le_of_ble_eq_true rfl⟩) hS (fun q _ h => hFc q h) hFc (fun u t H1 locs ht hvm w_280 hB hz1 hk1 hS => ?_)
    obtain ⟨ws_281, ty_282, hm_283, ht_285, hP1, hK1, hD1, hx_284⟩ := hB
    rw [ht] at hP1
    have hK := va_K.moved hvm.symm hK1
    have hD := hD1.weaken (fun _ _ _ h => hFc _ h)
    generalize H1 = H at hP1 hS ⊢
    have hP := hP1
    obtain ⟨g_287, e_286, h_288⟩ := hm_283.obj e_269
    obtain ⟨z_289, z_290, z_291, z_292, z_293, z_294, rfl⟩ := smX4 h_288
    obtain ⟨g_296, e_295, h_297⟩ := hm_283.obj e_270
    obtain ⟨z_298, z_299, z_300, z_301, rfl⟩ := smX6 h_297
    obtain ⟨f_303, e_302⟩ := hm_283.arrI e_271
    have u_304 := ht_285 _ _ u_273
    obtain ⟨f_306, e_305⟩ := hm_283.arrI e_274
    have u_307 := ht_285 _ _ u_276
    have hsm := hsm.tr (hm_283.mono (by decide))
    have hlp_93 := hlp_93.tr (hm_283.mono (by decide))
    have htx := htx.tr ht_285
    obtain ⟨ts_308, te_309, cc_310, ra_311, rb_312, rc_313, rv_314, re_315, ya_316, h1_317, h2_318, h3_319, h4_320, er_321, et_322, ⟨k_323, c9_324, t_325, f_326, e_327, u_328⟩, ⟨k_329, c9_330, t_331, f_332, e_333, u_334⟩⟩ := id hx_284
    refine lv_iload_n hx hb dX4_readEither_111 rfl (lv_at hl 1 rfl) ?_
    exact W.zret (v := x_86) hx hb hr (by rcases hbx_89 with h9 | h9 <;> rw [h9] <;> rfl) (fun t ht hW => ⟨⟨x_86, (), rfl, hbx_89, ws_281, ty_282, hsm, htx, by rw [ht]; exact hP, va_K.moved hW.alike hK, hD, (⟨ts_308, te_309, cc_310, ra_311, rb_312, rc_313, rv_314, re_315, ya_316, by omega, by omega, by omega, by omega, er_321, et_322, ⟨k_323, c9_324, t_325, f_326, e_327, u_328⟩, ⟨k_329, c9_330, t_331, f_332, e_333, u_334⟩⟩ : RS ws_281 ty_282 rd krd tp ktp cd bb tl)⟩, hS.F ht⟩) hS.2.2 dX4_readEither_112
  refine lv_if_eq (tgt := 101) hx hb dX4_readEither_27 (by decide) (fun c_335 => absurd c_335 (by decide)) (fun c_335 => ?_)
  refine lv_aload_n hx hb dX4_readEither_30 rfl (lv_at hl 4 rfl) ?_
  refine va_get (D := D) (ci := 4) (v := .ref tp) (C := RX4) (T := TX4) (N := 8) hx hb hts hin4 hown hK hP krd e_269 rfl 0 (by decide) (hts (.fieldLink RX4 12 "HoneyHouse$RuleReader" "tape" "LHoneyHouse$Tape;") (List.mem_of_getElem? (i := 1) rfl)) (fun _ h9 => h9) rfl dX4_readEither_31 ?_
  refine va_ldcS hx hb hown hsz9.2.2.2.2.2.1 dX4_readEither_34 ?_
  have hFc := free_all hD hS hA
  refine va_calli (va_runV (As := [.ref (adK 2)]) (rest := []) ⟨hx, hb, hml, hown, hts⟩ (a_isWord l D ws_264 ty_265 adK adV fo 2 tp ktp tl ya_125 (nI ts_117) (nI te_118) bb k_138 c9_139 t_140 f_275 H.size (by decide) e_270 e_274 u_276) (cwV 1 hts gX4_readEither_X6_isWord rfl rfl rfl (by decide +kernel) ⟨Nat.le_of_ble_eq_true rfl, Nat.le_of_ble_eq_true rfl⟩) ⟨fun a U g mk q => by obtain ⟨q0, q1, qP, qK, qD, qS⟩ := q; exact ⟨q0, q1, qP, va_K.moved (u := U) (U := U.calling g mk a) (Vm.Alike.refl U.vm) qK, qD, SZ.same rfl rfl qS⟩, va_recv hK hP (ci := 6) (q0 := ktp) rfl e_270, fun U hU hW => ⟨rfl, by rw [hU], by rw [hU]; exact hP, va_K.moved hW.alike hK, hD.weaken (fun _ _ _ _ => trivial), hsz9.go hS hW hU hFc⟩⟩ rfl rfl hl.1 rfl (lv_room (Nat.le_of_ble_eq_true rfl)) dX4_readEither_36 ⟨Nat.le_of_ble_eq_true rfl, Nat.le_of_ble_eq_true rfl⟩) hS (fun q _ h => hFc q h) hFc (fun r_336 u t H1 locs ht hvm w_337 hB hz1 hk1 hS => ?_)
  obtain ⟨ws_338, ty_339, hm_340, ht_342, hP1, hK1, hD1, hx_341⟩ := hB
  rw [ht] at hP1
  have hK := va_K.moved hvm.symm hK1
  have hD := hD1.weaken (fun _ _ _ h => hFc _ h)
  generalize H1 = H at hP1 hS ⊢
  have hP := hP1
  have e_343 := hm_340.objK e_269 (by decide)
  have e_344 := hm_340.objK e_270 (by decide)
  obtain ⟨f_346, e_345⟩ := hm_340.arrI e_271
  have u_347 := ht_342 _ _ u_273
  obtain ⟨f_349, e_348⟩ := hm_340.arrI e_274
  have u_350 := ht_342 _ _ u_276
  have hsm := hsm.tr (hm_340.mono (by decide))
  have hlp_93 := hlp_93.tr (hm_340.mono (by decide))
  have htx := htx.tr ht_342
  rcases w_337 with rfl | rfl
  · refine lv_istore (lv' := [(5, .int 0), (4, .int (nI i_85)), (2, .int x_86), (3, .int y_87), (1, .int 1), (0, .ref rd)]) hx hb dX4_readEither_39 hl (by decide) rfl (fun ls hl => ?_)
    refine lv_iload hx hb dX4_readEither_41 (lv_at hl 0 rfl) ?_
    refine lv_if_ne (tgt := 56) hx hb dX4_readEither_43 (by decide) (fun c_351 => absurd (by decide) c_351) (fun c_351 => ?_)
    refine lv_iload_n hx hb dX4_readEither_46 rfl (lv_at hl 3 rfl) ?_
    refine lv_if_eq (tgt := 56) hx hb dX4_readEither_47 (by decide) (fun c_352 => ?_) (fun c_352 => ?_)
    · refine lv_iload_n hx hb dX4_readEither_56 rfl (lv_at hl 3 rfl) ?_
      refine lv_if_ne (tgt := 65) hx hb dX4_readEither_57 (by decide) (fun c_353 => ?_) (fun c_353 => ?_)
      · refine lv_iconst (v := 1) hx hb dX4_readEither_65 (by decide) ?_
        refine lv_goto (tgt := 70) hx hb dX4_readEither_66 (by decide) ?_
        refine lv_istore_n (lv' := [(3, .int 1), (5, .int 0), (4, .int (nI i_85)), (2, .int x_86), (1, .int 1), (0, .ref rd)]) hx hb dX4_readEither_70 rfl hl (by decide) rfl (fun ls hl => ?_)
        refine lv_aload_n hx hb dX4_readEither_71 rfl (lv_at hl 5 rfl) ?_
        refine va_get (D := D) (ci := 4) (v := .ref tp) (C := RX4) (T := TX4) (N := 8) hx hb hts hin4 hown hK hP krd e_343 rfl 0 (by decide) (hts (.fieldLink RX4 12 "HoneyHouse$RuleReader" "tape" "LHoneyHouse$Tape;") (List.mem_of_getElem? (i := 1) rfl)) (fun _ h9 => h9) rfl dX4_readEither_72 ?_
        have hFc := free_all hD hS hA
        refine va_callv (va_runV (As := []) (rest := []) ⟨hx, hb, hml, hown, hts⟩ (a_advance l D ws_338 ty_339 tp ktp tl te_118 ya_125 (nI ts_117) bb k_138 c9_139 t_140 f_349 H.size (by omega) (by omega) e_344 e_348 u_350) (cwV 0 hts gX4_readEither_X6_advance rfl rfl rfl (by decide +kernel) ⟨Nat.le_of_ble_eq_true rfl, Nat.le_of_ble_eq_true rfl⟩) ⟨fun a U g mk q => by obtain ⟨q0, q1, qP, qK, qD⟩ := q; exact ⟨q0, q1, qP, va_K.moved (u := U) (U := U.calling g mk a) (Vm.Alike.refl U.vm) qK, qD⟩, va_recv hK hP (ci := 6) (q0 := ktp) rfl e_344, fun U hU hW => ⟨rfl, by rw [hU], by rw [hU]; exact hP, va_K.moved hW.alike hK, hD.weaken (fun _ _ _ _ => trivial)⟩⟩ rfl rfl hl.1 rfl (lv_room (Nat.le_of_ble_eq_true rfl)) dX4_readEither_75 ⟨Nat.le_of_ble_eq_true rfl, Nat.le_of_ble_eq_true rfl⟩) hS (fun q _ h => hFc q h) hFc (fun u t H1 locs ht hvm w_355 hB hz1 hk1 hS => ?_)
        obtain ⟨ws_356, ty_357, hm_358, ht_360, hP1, hK1, hD1, hx_359⟩ := hB
        rw [ht] at hP1
        have hK := va_K.moved hvm.symm hK1
        have hD := hD1.weaken (fun _ _ _ h => hFc _ h)
        generalize H1 = H at hP1 hS ⊢
        have hP := hP1
        have e_361 := hm_358.objK e_343 (by decide)
        obtain ⟨g_363, e_362, h_364⟩ := hm_358.obj e_344
        obtain ⟨z_365, z_366, z_367, z_368, rfl⟩ := smX6 h_364
        obtain ⟨f_370, e_369⟩ := hm_358.arrI e_345
        have u_371 := ht_360 _ _ u_347
        obtain ⟨f_373, e_372⟩ := hm_358.arrI e_348
        have u_374 := ht_360 _ _ u_350
        have hsm := hsm.tr (hm_358.mono (by decide))
        have hlp_93 := hlp_93.tr (hm_358.mono (by decide))
        have htx := htx.tr ht_360
        obtain ⟨k_375, s_376, e_377, h_378, h_379, h_380, e_381⟩ := hx_359
        refine lv_aload_n hx hb dX4_readEither_78 rfl (lv_at hl 5 rfl) ?_
        refine lv_iload_n hx hb dX4_readEither_79 rfl (lv_at hl 4 rfl) ?_
        have hFc := free_all hD hS hA
        refine va_calli (va_runV (As := [.int 1]) (rest := []) ⟨hx, hb, hml, hown, hts⟩ (r_readOne1 l D ws_356 ty_357 adK adV fo rd krd tp ktp cd bb tl  H.size (⟨s_376, e_377, cc_119, ra_120, rb_121, rc_122, rv_123, re_124, nI k_375, by omega, by omega, by omega, by omega, e_361, e_381, ⟨k_132, c9_133, t_134, f_370, e_369, u_371⟩, ⟨k_138, c9_139, t_140, f_373, e_372, u_374⟩⟩ : RS ws_356 ty_357 rd krd tp ktp cd bb tl)) (cwV 1 hts gX4_readEither_X4_readOne rfl rfl rfl (by decide +kernel) ⟨Nat.le_of_ble_eq_true rfl, Nat.le_of_ble_eq_true rfl⟩) ⟨fun a U g mk q => by obtain ⟨q0, q1, qP, qK, qD, qS⟩ := q; exact ⟨q0, q1, qP, va_K.moved (u := U) (U := U.calling g mk a) (Vm.Alike.refl U.vm) qK, qD, SZ.same rfl rfl qS⟩, va_recv hK hP (ci := 4) (q0 := krd) rfl e_361, fun U hU hW => ⟨rfl, by rw [hU], by rw [hU]; exact hP, va_K.moved hW.alike hK, hD.weaken (fun _ _ _ _ => trivial), hsz9.go hS hW hU hFc⟩⟩ rfl rfl hl.1 rfl (lv_room (Nat.le_of_ble_eq_true rfl)) dX4_readEither_80 ⟨Nat.le_of_ble_eq_true rfl, Nat.le_of_ble_eq_true rfl⟩) hS (fun q _ h => hFc q h) hFc (fun r_382 u t H1 locs ht hvm w_383 hB hz1 hk1 hS => ?_)
        obtain ⟨ws_384, ty_385, hm_386, ht_388, hP1, hK1, hD1, hx_387⟩ := hB
        rw [ht] at hP1
        have hK := va_K.moved hvm.symm hK1
        have hD := hD1.weaken (fun _ _ _ h => hFc _ h)
        generalize H1 = H at hP1 hS ⊢
        have hP := hP1
        obtain ⟨g_390, e_389, h_391⟩ := hm_386.obj e_361
        obtain ⟨z_392, z_393, z_394, z_395, z_396, z_397, rfl⟩ := smX4 h_391
        obtain ⟨g_399, e_398, h_400⟩ := hm_386.obj e_381
        obtain ⟨z_401, z_402, z_403, z_404, rfl⟩ := smX6 h_400
        obtain ⟨f_406, e_405⟩ := hm_386.arrI e_369
        have u_407 := ht_388 _ _ u_371
        obtain ⟨f_409, e_408⟩ := hm_386.arrI e_372
        have u_410 := ht_388 _ _ u_374
        have hsm := hsm.tr (hm_386.mono (by decide))
        have hlp_93 := hlp_93.tr (hm_386.mono (by decide))
        have htx := htx.tr ht_388
        obtain ⟨ts_411, te_412, cc_413, ra_414, rb_415, rc_416, rv_417, re_418, ya_419, h1_420, h2_421, h3_422, h4_423, er_424, et_425, ⟨k_426, c9_427, t_428, f_429, e_430, u_431⟩, ⟨k_432, c9_433, t_434, f_435, e_436, u_437⟩⟩ := id hx_387
        refine lv_istore_n (lv' := [(2, .int r_382), (3, .int 1), (5, .int 0), (4, .int (nI i_85)), (1, .int 1), (0, .ref rd)]) hx hb dX4_readEither_83 rfl hl (by decide) rfl (fun ls hl => ?_)
        refine lv_iload hx hb dX4_readEither_84 (lv_at hl 2 rfl) ?_
        refine lv_if_eq (tgt := 95) hx hb dX4_readEither_86 (by decide) (fun c_438 => ?_) (fun c_438 => absurd (by decide) c_438)
        refine lv_iinc (v := nI (i_85 + 1)) (lv' := [(4, .int (nI (i_85 + 1))), (2, .int r_382), (3, .int 1), (5, .int 0), (1, .int 1), (0, .ref rd)]) hx hb dX4_readEither_95 hl (k := 3) rfl (nI_add i_85 1) (by decide) rfl (fun ls hl => ?_)
        refine lv_goto (tgt := 11) hx hb dX4_readEither_98 (by decide) ?_
        exact ih_84 (i_85 + 1, r_382, 1) ws_384 _ _ ls (by show 400 - (i_85 + 1) < 400 - i_85; omega) ⟨hlp_93, ⟨ty_385, hK, htx, (⟨ts_411, te_412, cc_413, ra_414, rb_415, rc_416, rv_417, re_418, ya_419, by omega, by omega, by omega, by omega, er_424, et_425, ⟨k_426, c9_427, t_428, f_429, e_430, u_431⟩, ⟨k_432, c9_433, t_434, f_435, e_436, u_437⟩⟩ : RS ws_384 ty_385 rd krd tp ktp cd bb tl)⟩, (show (i_85 + 1) ≤ 400 from by omega), (show r_382 = 0 ∨ r_382 = 1 from w_383), (show 1 = 0 ∨ 1 = 1 from Or.inr rfl)⟩ hP hD hS (lv_sub hl [0, 1, 2, 4, 5] rfl)
      refine lv_iload hx hb dX4_readEither_60 (lv_at hl 0 rfl) ?_
      refine lv_if_ne (tgt := 69) hx hb dX4_readEither_62 (by decide) (fun c_439 => absurd (by decide) c_439) (fun c_439 => ?_)
      refine lv_iconst (v := 1) hx hb dX4_readEither_65 (by decide) ?_
      refine lv_goto (tgt := 70) hx hb dX4_readEither_66 (by decide) ?_
      refine lv_istore_n (lv' := [(3, .int 1), (5, .int 0), (4, .int (nI i_85)), (2, .int x_86), (1, .int 1), (0, .ref rd)]) hx hb dX4_readEither_70 rfl hl (by decide) rfl (fun ls hl => ?_)
      refine lv_aload_n hx hb dX4_readEither_71 rfl (lv_at hl 5 rfl) ?_
      refine va_get (D := D) (ci := 4) (v := .ref tp) (C := RX4) (T := TX4) (N := 8) hx hb hts hin4 hown hK hP krd e_343 rfl 0 (by decide) (hts (.fieldLink RX4 12 "HoneyHouse$RuleReader" "tape" "LHoneyHouse$Tape;") (List.mem_of_getElem? (i := 1) rfl)) (fun _ h9 => h9) rfl dX4_readEither_72 ?_
      have hFc := free_all hD hS hA
      refine va_callv (va_runV (As := []) (rest := []) ⟨hx, hb, hml, hown, hts⟩ (a_advance l D ws_338 ty_339 tp ktp tl te_118 ya_125 (nI ts_117) bb k_138 c9_139 t_140 f_349 H.size (by omega) (by omega) e_344 e_348 u_350) (cwV 0 hts gX4_readEither_X6_advance rfl rfl rfl (by decide +kernel) ⟨Nat.le_of_ble_eq_true rfl, Nat.le_of_ble_eq_true rfl⟩) ⟨fun a U g mk q => by obtain ⟨q0, q1, qP, qK, qD⟩ := q; exact ⟨q0, q1, qP, va_K.moved (u := U) (U := U.calling g mk a) (Vm.Alike.refl U.vm) qK, qD⟩, va_recv hK hP (ci := 6) (q0 := ktp) rfl e_344, fun U hU hW => ⟨rfl, by rw [hU], by rw [hU]; exact hP, va_K.moved hW.alike hK, hD.weaken (fun _ _ _ _ => trivial)⟩⟩ rfl rfl hl.1 rfl (lv_room (Nat.le_of_ble_eq_true rfl)) dX4_readEither_75 ⟨Nat.le_of_ble_eq_true rfl, Nat.le_of_ble_eq_true rfl⟩) hS (fun q _ h => hFc q h) hFc (fun u t H1 locs ht hvm w_441 hB hz1 hk1 hS => ?_)
      obtain ⟨ws_442, ty_443, hm_444, ht_446, hP1, hK1, hD1, hx_445⟩ := hB
      rw [ht] at hP1
      have hK := va_K.moved hvm.symm hK1
      have hD := hD1.weaken (fun _ _ _ h => hFc _ h)
      generalize H1 = H at hP1 hS ⊢
      have hP := hP1
      have e_447 := hm_444.objK e_343 (by decide)
      obtain ⟨g_449, e_448, h_450⟩ := hm_444.obj e_344
      obtain ⟨z_451, z_452, z_453, z_454, rfl⟩ := smX6 h_450
      obtain ⟨f_456, e_455⟩ := hm_444.arrI e_345
      have u_457 := ht_446 _ _ u_347
      obtain ⟨f_459, e_458⟩ := hm_444.arrI e_348
      have u_460 := ht_446 _ _ u_350
      have hsm := hsm.tr (hm_444.mono (by decide))
      have hlp_93 := hlp_93.tr (hm_444.mono (by decide))
      have htx := htx.tr ht_446
      obtain ⟨k_461, s_462, e_463, h_464, h_465, h_466, e_467⟩ := hx_445
      refine lv_aload_n hx hb dX4_readEither_78 rfl (lv_at hl 5 rfl) ?_
      refine lv_iload_n hx hb dX4_readEither_79 rfl (lv_at hl 4 rfl) ?_
      have hFc := free_all hD hS hA
      refine va_calli (va_runV (As := [.int 1]) (rest := []) ⟨hx, hb, hml, hown, hts⟩ (r_readOne1 l D ws_442 ty_443 adK adV fo rd krd tp ktp cd bb tl  H.size (⟨s_462, e_463, cc_119, ra_120, rb_121, rc_122, rv_123, re_124, nI k_461, by omega, by omega, by omega, by omega, e_447, e_467, ⟨k_132, c9_133, t_134, f_456, e_455, u_457⟩, ⟨k_138, c9_139, t_140, f_459, e_458, u_460⟩⟩ : RS ws_442 ty_443 rd krd tp ktp cd bb tl)) (cwV 1 hts gX4_readEither_X4_readOne rfl rfl rfl (by decide +kernel) ⟨Nat.le_of_ble_eq_true rfl, Nat.le_of_ble_eq_true rfl⟩) ⟨fun a U g mk q => by obtain ⟨q0, q1, qP, qK, qD, qS⟩ := q; exact ⟨q0, q1, qP, va_K.moved (u := U) (U := U.calling g mk a) (Vm.Alike.refl U.vm) qK, qD, SZ.same rfl rfl qS⟩, va_recv hK hP (ci := 4) (q0 := krd) rfl e_447, fun U hU hW => ⟨rfl, by rw [hU], by rw [hU]; exact hP, va_K.moved hW.alike hK, hD.weaken (fun _ _ _ _ => trivial), hsz9.go hS hW hU hFc⟩⟩ rfl rfl hl.1 rfl (lv_room (Nat.le_of_ble_eq_true rfl)) dX4_readEither_80 ⟨Nat.le_of_ble_eq_true rfl, Nat.le_of_ble_eq_true rfl⟩) hS (fun q _ h => hFc q h) hFc (fun r_468 u t H1 locs ht hvm w_469 hB hz1 hk1 hS => ?_)
      obtain ⟨ws_470, ty_471, hm_472, ht_474, hP1, hK1, hD1, hx_473⟩ := hB
      rw [ht] at hP1
      have hK := va_K.moved hvm.symm hK1
      have hD := hD1.weaken (fun _ _ _ h => hFc _ h)
      generalize H1 = H at hP1 hS ⊢
      have hP := hP1
      obtain ⟨g_476, e_475, h_477⟩ := hm_472.obj e_447
      obtain ⟨z_478, z_479, z_480, z_481, z_482, z_483, rfl⟩ := smX4 h_477
      obtain ⟨g_485, e_484, h_486⟩ := hm_472.obj e_467
      obtain ⟨z_487, z_488, z_489, z_490, rfl⟩ := smX6 h_486
      obtain ⟨f_492, e_491⟩ := hm_472.arrI e_455
      have u_493 := ht_474 _ _ u_457
      obtain ⟨f_495, e_494⟩ := hm_472.arrI e_458
      have u_496 := ht_474 _ _ u_460
      have hsm := hsm.tr (hm_472.mono (by decide))
      have hlp_93 := hlp_93.tr (hm_472.mono (by decide))
      have htx := htx.tr ht_474
      obtain ⟨ts_497, te_498, cc_499, ra_500, rb_501, rc_502, rv_503, re_504, ya_505, h1_506, h2_507, h3_508, h4_509, er_510, et_511, ⟨k_512, c9_513, t_514, f_515, e_516, u_517⟩, ⟨k_518, c9_519, t_520, f_521, e_522, u_523⟩⟩ := id hx_473
      refine lv_istore_n (lv' := [(2, .int r_468), (3, .int 1), (5, .int 0), (4, .int (nI i_85)), (1, .int 1), (0, .ref rd)]) hx hb dX4_readEither_83 rfl hl (by decide) rfl (fun ls hl => ?_)
      refine lv_iload hx hb dX4_readEither_84 (lv_at hl 2 rfl) ?_
      refine lv_if_eq (tgt := 95) hx hb dX4_readEither_86 (by decide) (fun c_524 => ?_) (fun c_524 => absurd (by decide) c_524)
      refine lv_iinc (v := nI (i_85 + 1)) (lv' := [(4, .int (nI (i_85 + 1))), (2, .int r_468), (3, .int 1), (5, .int 0), (1, .int 1), (0, .ref rd)]) hx hb dX4_readEither_95 hl (k := 3) rfl (nI_add i_85 1) (by decide) rfl (fun ls hl => ?_)
      refine lv_goto (tgt := 11) hx hb dX4_readEither_98 (by decide) ?_
      exact ih_84 (i_85 + 1, r_468, 1) ws_470 _ _ ls (by show 400 - (i_85 + 1) < 400 - i_85; omega) ⟨hlp_93, ⟨ty_471, hK, htx, (⟨ts_497, te_498, cc_499, ra_500, rb_501, rc_502, rv_503, re_504, ya_505, by omega, by omega, by omega, by omega, er_510, et_511, ⟨k_512, c9_513, t_514, f_515, e_516, u_517⟩, ⟨k_518, c9_519, t_520, f_521, e_522, u_523⟩⟩ : RS ws_470 ty_471 rd krd tp ktp cd bb tl)⟩, (show (i_85 + 1) ≤ 400 from by omega), (show r_468 = 0 ∨ r_468 = 1 from w_469), (show 1 = 0 ∨ 1 = 1 from Or.inr rfl)⟩ hP hD hS (lv_sub hl [0, 1, 2, 4, 5] rfl)
    refine lv_aload_n hx hb dX4_readEither_50 rfl (lv_at hl 5 rfl) ?_
    refine lv_bipush (v := (-3)) hx hb dX4_readEither_51 (by decide) ?_
    have hFc := free_all hD hS hA
    refine va_callv (va_runV (As := [.int (-3)]) (rest := []) ⟨hx, hb, hml, hown, hts⟩ (r_addCode l D ws_338 ty_339 adK adV fo rd krd tp ktp cd bb tl (-3) H.size (⟨ts_117, te_118, cc_119, ra_120, rb_121, rc_122, rv_123, re_124, ya_125, by omega, by omega, by omega, by omega, e_343, e_344, ⟨k_132, c9_133, t_134, f_346, e_345, u_347⟩, ⟨k_138, c9_139, t_140, f_349, e_348, u_350⟩⟩ : RS ws_338 ty_339 rd krd tp ktp cd bb tl)) (cwV 1 hts gX4_readEither_X4_addCode rfl rfl rfl (by decide +kernel) ⟨Nat.le_of_ble_eq_true rfl, Nat.le_of_ble_eq_true rfl⟩) ⟨fun a U g mk q => by obtain ⟨q0, q1, qP, qK, qD, qS⟩ := q; exact ⟨q0, q1, qP, va_K.moved (u := U) (U := U.calling g mk a) (Vm.Alike.refl U.vm) qK, qD, SZ.same rfl rfl qS⟩, va_recv hK hP (ci := 4) (q0 := krd) rfl e_343, fun U hU hW => ⟨rfl, by rw [hU], by rw [hU]; exact hP, va_K.moved hW.alike hK, hD.weaken (fun _ _ _ _ => trivial), hsz9.go hS hW hU hFc⟩⟩ rfl rfl hl.1 rfl (lv_room (Nat.le_of_ble_eq_true rfl)) dX4_readEither_53 ⟨Nat.le_of_ble_eq_true rfl, Nat.le_of_ble_eq_true rfl⟩) hS (fun q _ h => hFc q h) hFc (fun u t H1 locs ht hvm w_526 hB hz1 hk1 hS => ?_)
    obtain ⟨ws_527, ty_528, hm_529, ht_531, hP1, hK1, hD1, hx_530⟩ := hB
    rw [ht] at hP1
    have hK := va_K.moved hvm.symm hK1
    have hD := hD1.weaken (fun _ _ _ h => hFc _ h)
    generalize H1 = H at hP1 hS ⊢
    have hP := hP1
    obtain ⟨g_533, e_532, h_534⟩ := hm_529.obj e_343
    obtain ⟨z_535, z_536, z_537, z_538, z_539, z_540, rfl⟩ := smX4 h_534
    obtain ⟨g_542, e_541, h_543⟩ := hm_529.obj e_344
    obtain ⟨z_544, z_545, z_546, z_547, rfl⟩ := smX6 h_543
    obtain ⟨f_549, e_548⟩ := hm_529.arrI e_345
    have u_550 := ht_531 _ _ u_347
    obtain ⟨f_552, e_551⟩ := hm_529.arrI e_348
    have u_553 := ht_531 _ _ u_350
    have hsm := hsm.tr (hm_529.mono (by decide))
    have hlp_93 := hlp_93.tr (hm_529.mono (by decide))
    have htx := htx.tr ht_531
    obtain ⟨ts_554, te_555, cc_556, ra_557, rb_558, rc_559, rv_560, re_561, ya_562, h1_563, h2_564, h3_565, h4_566, er_567, et_568, ⟨k_569, c9_570, t_571, f_572, e_573, u_574⟩, ⟨k_575, c9_576, t_577, f_578, e_579, u_580⟩⟩ := id hx_530
    refine lv_iload_n hx hb dX4_readEither_56 rfl (lv_at hl 3 rfl) ?_
    refine lv_if_ne (tgt := 65) hx hb dX4_readEither_57 (by decide) (fun c_581 => ?_) (fun c_581 => ?_)
    · refine lv_iconst (v := 1) hx hb dX4_readEither_65 (by decide) ?_
      refine lv_goto (tgt := 70) hx hb dX4_readEither_66 (by decide) ?_
      refine lv_istore_n (lv' := [(3, .int 1), (5, .int 0), (4, .int (nI i_85)), (2, .int x_86), (1, .int 1), (0, .ref rd)]) hx hb dX4_readEither_70 rfl hl (by decide) rfl (fun ls hl => ?_)
      refine lv_aload_n hx hb dX4_readEither_71 rfl (lv_at hl 5 rfl) ?_
      refine va_get (D := D) (ci := 4) (v := .ref tp) (C := RX4) (T := TX4) (N := 8) hx hb hts hin4 hown hK hP krd er_567 rfl 0 (by decide) (hts (.fieldLink RX4 12 "HoneyHouse$RuleReader" "tape" "LHoneyHouse$Tape;") (List.mem_of_getElem? (i := 1) rfl)) (fun _ h9 => h9) rfl dX4_readEither_72 ?_
      have hFc := free_all hD hS hA
      refine va_callv (va_runV (As := []) (rest := []) ⟨hx, hb, hml, hown, hts⟩ (a_advance l D ws_527 ty_528 tp ktp tl te_555 ya_562 (nI ts_554) bb k_575 c9_576 t_577 f_578 H.size (by omega) (by omega) et_568 e_579 u_580) (cwV 0 hts gX4_readEither_X6_advance rfl rfl rfl (by decide +kernel) ⟨Nat.le_of_ble_eq_true rfl, Nat.le_of_ble_eq_true rfl⟩) ⟨fun a U g mk q => by obtain ⟨q0, q1, qP, qK, qD⟩ := q; exact ⟨q0, q1, qP, va_K.moved (u := U) (U := U.calling g mk a) (Vm.Alike.refl U.vm) qK, qD⟩, va_recv hK hP (ci := 6) (q0 := ktp) rfl et_568, fun U hU hW => ⟨rfl, by rw [hU], by rw [hU]; exact hP, va_K.moved hW.alike hK, hD.weaken (fun _ _ _ _ => trivial)⟩⟩ rfl rfl hl.1 rfl (lv_room (Nat.le_of_ble_eq_true rfl)) dX4_readEither_75 ⟨Nat.le_of_ble_eq_true rfl, Nat.le_of_ble_eq_true rfl⟩) hS (fun q _ h => hFc q h) hFc (fun u t H1 locs ht hvm w_583 hB hz1 hk1 hS => ?_)
      obtain ⟨ws_584, ty_585, hm_586, ht_588, hP1, hK1, hD1, hx_587⟩ := hB
      rw [ht] at hP1
      have hK := va_K.moved hvm.symm hK1
      have hD := hD1.weaken (fun _ _ _ h => hFc _ h)
      generalize H1 = H at hP1 hS ⊢
      have hP := hP1
      have e_589 := hm_586.objK er_567 (by decide)
      obtain ⟨g_591, e_590, h_592⟩ := hm_586.obj et_568
      obtain ⟨z_593, z_594, z_595, z_596, rfl⟩ := smX6 h_592
      obtain ⟨f_598, e_597⟩ := hm_586.arrI e_573
      have u_599 := ht_588 _ _ u_574
      obtain ⟨f_601, e_600⟩ := hm_586.arrI e_579
      have u_602 := ht_588 _ _ u_580
      have hsm := hsm.tr (hm_586.mono (by decide))
      have hlp_93 := hlp_93.tr (hm_586.mono (by decide))
      have htx := htx.tr ht_588
      obtain ⟨k_603, s_604, e_605, h_606, h_607, h_608, e_609⟩ := hx_587
      refine lv_aload_n hx hb dX4_readEither_78 rfl (lv_at hl 5 rfl) ?_
      refine lv_iload_n hx hb dX4_readEither_79 rfl (lv_at hl 4 rfl) ?_
      have hFc := free_all hD hS hA
      refine va_calli (va_runV (As := [.int 1]) (rest := []) ⟨hx, hb, hml, hown, hts⟩ (r_readOne1 l D ws_584 ty_585 adK adV fo rd krd tp ktp cd bb tl  H.size (⟨s_604, e_605, cc_556, ra_557, rb_558, rc_559, rv_560, re_561, nI k_603, by omega, by omega, by omega, by omega, e_589, e_609, ⟨k_569, c9_570, t_571, f_598, e_597, u_599⟩, ⟨k_575, c9_576, t_577, f_601, e_600, u_602⟩⟩ : RS ws_584 ty_585 rd krd tp ktp cd bb tl)) (cwV 1 hts gX4_readEither_X4_readOne rfl rfl rfl (by decide +kernel) ⟨Nat.le_of_ble_eq_true rfl, Nat.le_of_ble_eq_true rfl⟩) ⟨fun a U g mk q => by obtain ⟨q0, q1, qP, qK, qD, qS⟩ := q; exact ⟨q0, q1, qP, va_K.moved (u := U) (U := U.calling g mk a) (Vm.Alike.refl U.vm) qK, qD, SZ.same rfl rfl qS⟩, va_recv hK hP (ci := 4) (q0 := krd) rfl e_589, fun U hU hW => ⟨rfl, by rw [hU], by rw [hU]; exact hP, va_K.moved hW.alike hK, hD.weaken (fun _ _ _ _ => trivial), hsz9.go hS hW hU hFc⟩⟩ rfl rfl hl.1 rfl (lv_room (Nat.le_of_ble_eq_true rfl)) dX4_readEither_80 ⟨Nat.le_of_ble_eq_true rfl, Nat.le_of_ble_eq_true rfl⟩) hS (fun q _ h => hFc q h) hFc (fun r_610 u t H1 locs ht hvm w_611 hB hz1 hk1 hS => ?_)
      obtain ⟨ws_612, ty_613, hm_614, ht_616, hP1, hK1, hD1, hx_615⟩ := hB
      rw [ht] at hP1
      have hK := va_K.moved hvm.symm hK1
      have hD := hD1.weaken (fun _ _ _ h => hFc _ h)
      generalize H1 = H at hP1 hS ⊢
      have hP := hP1
      obtain ⟨g_618, e_617, h_619⟩ := hm_614.obj e_589
      obtain ⟨z_620, z_621, z_622, z_623, z_624, z_625, rfl⟩ := smX4 h_619
      obtain ⟨g_627, e_626, h_628⟩ := hm_614.obj e_609
      obtain ⟨z_629, z_630, z_631, z_632, rfl⟩ := smX6 h_628
      obtain ⟨f_634, e_633⟩ := hm_614.arrI e_597
      have u_635 := ht_616 _ _ u_599
      obtain ⟨f_637, e_636⟩ := hm_614.arrI e_600
      have u_638 := ht_616 _ _ u_602
      have hsm := hsm.tr (hm_614.mono (by decide))
      have hlp_93 := hlp_93.tr (hm_614.mono (by decide))
      have htx := htx.tr ht_616
      obtain ⟨ts_639, te_640, cc_641, ra_642, rb_643, rc_644, rv_645, re_646, ya_647, h1_648, h2_649, h3_650, h4_651, er_652, et_653, ⟨k_654, c9_655, t_656, f_657, e_658, u_659⟩, ⟨k_660, c9_661, t_662, f_663, e_664, u_665⟩⟩ := id hx_615
      refine lv_istore_n (lv' := [(2, .int r_610), (3, .int 1), (5, .int 0), (4, .int (nI i_85)), (1, .int 1), (0, .ref rd)]) hx hb dX4_readEither_83 rfl hl (by decide) rfl (fun ls hl => ?_)
      refine lv_iload hx hb dX4_readEither_84 (lv_at hl 2 rfl) ?_
      refine lv_if_eq (tgt := 95) hx hb dX4_readEither_86 (by decide) (fun c_666 => ?_) (fun c_666 => absurd (by decide) c_666)
      refine lv_iinc (v := nI (i_85 + 1)) (lv' := [(4, .int (nI (i_85 + 1))), (2, .int r_610), (3, .int 1), (5, .int 0), (1, .int 1), (0, .ref rd)]) hx hb dX4_readEither_95 hl (k := 3) rfl (nI_add i_85 1) (by decide) rfl (fun ls hl => ?_)
      refine lv_goto (tgt := 11) hx hb dX4_readEither_98 (by decide) ?_
      exact ih_84 (i_85 + 1, r_610, 1) ws_612 _ _ ls (by show 400 - (i_85 + 1) < 400 - i_85; omega) ⟨hlp_93, ⟨ty_613, hK, htx, (⟨ts_639, te_640, cc_641, ra_642, rb_643, rc_644, rv_645, re_646, ya_647, by omega, by omega, by omega, by omega, er_652, et_653, ⟨k_654, c9_655, t_656, f_657, e_658, u_659⟩, ⟨k_660, c9_661, t_662, f_663, e_664, u_665⟩⟩ : RS ws_612 ty_613 rd krd tp ktp cd bb tl)⟩, (show (i_85 + 1) ≤ 400 from by omega), (show r_610 = 0 ∨ r_610 = 1 from w_611), (show 1 = 0 ∨ 1 = 1 from Or.inr rfl)⟩ hP hD hS (lv_sub hl [0, 1, 2, 4, 5] rfl)
    refine lv_iload hx hb dX4_readEither_60 (lv_at hl 0 rfl) ?_
    refine lv_if_ne (tgt := 69) hx hb dX4_readEither_62 (by decide) (fun c_667 => absurd (by decide) c_667) (fun c_667 => ?_)
    refine lv_iconst (v := 1) hx hb dX4_readEither_65 (by decide) ?_
    refine lv_goto (tgt := 70) hx hb dX4_readEither_66 (by decide) ?_
    refine lv_istore_n (lv' := [(3, .int 1), (5, .int 0), (4, .int (nI i_85)), (2, .int x_86), (1, .int 1), (0, .ref rd)]) hx hb dX4_readEither_70 rfl hl (by decide) rfl (fun ls hl => ?_)
    refine lv_aload_n hx hb dX4_readEither_71 rfl (lv_at hl 5 rfl) ?_
    refine va_get (D := D) (ci := 4) (v := .ref tp) (C := RX4) (T := TX4) (N := 8) hx hb hts hin4 hown hK hP krd er_567 rfl 0 (by decide) (hts (.fieldLink RX4 12 "HoneyHouse$RuleReader" "tape" "LHoneyHouse$Tape;") (List.mem_of_getElem? (i := 1) rfl)) (fun _ h9 => h9) rfl dX4_readEither_72 ?_
    have hFc := free_all hD hS hA
    refine va_callv (va_runV (As := []) (rest := []) ⟨hx, hb, hml, hown, hts⟩ (a_advance l D ws_527 ty_528 tp ktp tl te_555 ya_562 (nI ts_554) bb k_575 c9_576 t_577 f_578 H.size (by omega) (by omega) et_568 e_579 u_580) (cwV 0 hts gX4_readEither_X6_advance rfl rfl rfl (by decide +kernel) ⟨Nat.le_of_ble_eq_true rfl, Nat.le_of_ble_eq_true rfl⟩) ⟨fun a U g mk q => by obtain ⟨q0, q1, qP, qK, qD⟩ := q; exact ⟨q0, q1, qP, va_K.moved (u := U) (U := U.calling g mk a) (Vm.Alike.refl U.vm) qK, qD⟩, va_recv hK hP (ci := 6) (q0 := ktp) rfl et_568, fun U hU hW => ⟨rfl, by rw [hU], by rw [hU]; exact hP, va_K.moved hW.alike hK, hD.weaken (fun _ _ _ _ => trivial)⟩⟩ rfl rfl hl.1 rfl (lv_room (Nat.le_of_ble_eq_true rfl)) dX4_readEither_75 ⟨Nat.le_of_ble_eq_true rfl, Nat.le_of_ble_eq_true rfl⟩) hS (fun q _ h => hFc q h) hFc (fun u t H1 locs ht hvm w_669 hB hz1 hk1 hS => ?_)
    obtain ⟨ws_670, ty_671, hm_672, ht_674, hP1, hK1, hD1, hx_673⟩ := hB
    rw [ht] at hP1
    have hK := va_K.moved hvm.symm hK1
    have hD := hD1.weaken (fun _ _ _ h => hFc _ h)
    generalize H1 = H at hP1 hS ⊢
    have hP := hP1
    have e_675 := hm_672.objK er_567 (by decide)
    obtain ⟨g_677, e_676, h_678⟩ := hm_672.obj et_568
    obtain ⟨z_679, z_680, z_681, z_682, rfl⟩ := smX6 h_678
    obtain ⟨f_684, e_683⟩ := hm_672.arrI e_573
    have u_685 := ht_674 _ _ u_574
    obtain ⟨f_687, e_686⟩ := hm_672.arrI e_579
    have u_688 := ht_674 _ _ u_580
    have hsm := hsm.tr (hm_672.mono (by decide))
    have hlp_93 := hlp_93.tr (hm_672.mono (by decide))
    have htx := htx.tr ht_674
    obtain ⟨k_689, s_690, e_691, h_692, h_693, h_694, e_695⟩ := hx_673
    refine lv_aload_n hx hb dX4_readEither_78 rfl (lv_at hl 5 rfl) ?_
    refine lv_iload_n hx hb dX4_readEither_79 rfl (lv_at hl 4 rfl) ?_
    have hFc := free_all hD hS hA
    refine va_calli (va_runV (As := [.int 1]) (rest := []) ⟨hx, hb, hml, hown, hts⟩ (r_readOne1 l D ws_670 ty_671 adK adV fo rd krd tp ktp cd bb tl  H.size (⟨s_690, e_691, cc_556, ra_557, rb_558, rc_559, rv_560, re_561, nI k_689, by omega, by omega, by omega, by omega, e_675, e_695, ⟨k_569, c9_570, t_571, f_684, e_683, u_685⟩, ⟨k_575, c9_576, t_577, f_687, e_686, u_688⟩⟩ : RS ws_670 ty_671 rd krd tp ktp cd bb tl)) (cwV 1 hts gX4_readEither_X4_readOne rfl rfl rfl (by decide +kernel) ⟨Nat.le_of_ble_eq_true rfl, Nat.le_of_ble_eq_true rfl⟩) ⟨fun a U g mk q => by obtain ⟨q0, q1, qP, qK, qD, qS⟩ := q; exact ⟨q0, q1, qP, va_K.moved (u := U) (U := U.calling g mk a) (Vm.Alike.refl U.vm) qK, qD, SZ.same rfl rfl qS⟩, va_recv hK hP (ci := 4) (q0 := krd) rfl e_675, fun U hU hW => ⟨rfl, by rw [hU], by rw [hU]; exact hP, va_K.moved hW.alike hK, hD.weaken (fun _ _ _ _ => trivial), hsz9.go hS hW hU hFc⟩⟩ rfl rfl hl.1 rfl (lv_room (Nat.le_of_ble_eq_true rfl)) dX4_readEither_80 ⟨Nat.le_of_ble_eq_true rfl, Nat.le_of_ble_eq_true rfl⟩) hS (fun q _ h => hFc q h) hFc (fun r_696 u t H1 locs ht hvm w_697 hB hz1 hk1 hS => ?_)
    obtain ⟨ws_698, ty_699, hm_700, ht_702, hP1, hK1, hD1, hx_701⟩ := hB
    rw [ht] at hP1
    have hK := va_K.moved hvm.symm hK1
    have hD := hD1.weaken (fun _ _ _ h => hFc _ h)
    generalize H1 = H at hP1 hS ⊢
    have hP := hP1
    obtain ⟨g_704, e_703, h_705⟩ := hm_700.obj e_675
    obtain ⟨z_706, z_707, z_708, z_709, z_710, z_711, rfl⟩ := smX4 h_705
    obtain ⟨g_713, e_712, h_714⟩ := hm_700.obj e_695
    obtain ⟨z_715, z_716, z_717, z_718, rfl⟩ := smX6 h_714
    obtain ⟨f_720, e_719⟩ := hm_700.arrI e_683
    have u_721 := ht_702 _ _ u_685
    obtain ⟨f_723, e_722⟩ := hm_700.arrI e_686
    have u_724 := ht_702 _ _ u_688
    have hsm := hsm.tr (hm_700.mono (by decide))
    have hlp_93 := hlp_93.tr (hm_700.mono (by decide))
    have htx := htx.tr ht_702
    obtain ⟨ts_725, te_726, cc_727, ra_728, rb_729, rc_730, rv_731, re_732, ya_733, h1_734, h2_735, h3_736, h4_737, er_738, et_739, ⟨k_740, c9_741, t_742, f_743, e_744, u_745⟩, ⟨k_746, c9_747, t_748, f_749, e_750, u_751⟩⟩ := id hx_701
    refine lv_istore_n (lv' := [(2, .int r_696), (3, .int 1), (5, .int 0), (4, .int (nI i_85)), (1, .int 1), (0, .ref rd)]) hx hb dX4_readEither_83 rfl hl (by decide) rfl (fun ls hl => ?_)
    refine lv_iload hx hb dX4_readEither_84 (lv_at hl 2 rfl) ?_
    refine lv_if_eq (tgt := 95) hx hb dX4_readEither_86 (by decide) (fun c_752 => ?_) (fun c_752 => absurd (by decide) c_752)
    refine lv_iinc (v := nI (i_85 + 1)) (lv' := [(4, .int (nI (i_85 + 1))), (2, .int r_696), (3, .int 1), (5, .int 0), (1, .int 1), (0, .ref rd)]) hx hb dX4_readEither_95 hl (k := 3) rfl (nI_add i_85 1) (by decide) rfl (fun ls hl => ?_)
    refine lv_goto (tgt := 11) hx hb dX4_readEither_98 (by decide) ?_
    exact ih_84 (i_85 + 1, r_696, 1) ws_698 _ _ ls (by show 400 - (i_85 + 1) < 400 - i_85; omega) ⟨hlp_93, ⟨ty_699, hK, htx, (⟨ts_725, te_726, cc_727, ra_728, rb_729, rc_730, rv_731, re_732, ya_733, by omega, by omega, by omega, by omega, er_738, et_739, ⟨k_740, c9_741, t_742, f_743, e_744, u_745⟩, ⟨k_746, c9_747, t_748, f_749, e_750, u_751⟩⟩ : RS ws_698 ty_699 rd krd tp ktp cd bb tl)⟩, (show (i_85 + 1) ≤ 400 from by omega), (show r_696 = 0 ∨ r_696 = 1 from w_697), (show 1 = 0 ∨ 1 = 1 from Or.inr rfl)⟩ hP hD hS (lv_sub hl [0, 1, 2, 4, 5] rfl)
  refine lv_istore (lv' := [(5, .int 1), (4, .int (nI i_85)), (2, .int x_86), (3, .int y_87), (1, .int 1), (0, .ref rd)]) hx hb dX4_readEither_39 hl (by decide) rfl (fun ls hl => ?_)
  refine lv_iload hx hb dX4_readEither_41 (lv_at hl 0 rfl) ?_
  refine lv_if_ne (tgt := 56) hx hb dX4_readEither_43 (by decide) (fun c_753 => ?_) (fun c_753 => absurd c_753 (by decide))
  refine lv_iload_n hx hb dX4_readEither_56 rfl (lv_at hl 3 rfl) ?_
  refine lv_if_ne (tgt := 65) hx hb dX4_readEither_57 (by decide) (fun c_754 => ?_) (fun c_754 => ?_)
  · refine lv_iconst (v := 1) hx hb dX4_readEither_65 (by decide) ?_
    refine lv_goto (tgt := 70) hx hb dX4_readEither_66 (by decide) ?_
    refine lv_istore_n (lv' := [(3, .int 1), (5, .int 1), (4, .int (nI i_85)), (2, .int x_86), (1, .int 1), (0, .ref rd)]) hx hb dX4_readEither_70 rfl hl (by decide) rfl (fun ls hl => ?_)
    refine lv_aload_n hx hb dX4_readEither_71 rfl (lv_at hl 5 rfl) ?_
    refine va_get (D := D) (ci := 4) (v := .ref tp) (C := RX4) (T := TX4) (N := 8) hx hb hts hin4 hown hK hP krd e_343 rfl 0 (by decide) (hts (.fieldLink RX4 12 "HoneyHouse$RuleReader" "tape" "LHoneyHouse$Tape;") (List.mem_of_getElem? (i := 1) rfl)) (fun _ h9 => h9) rfl dX4_readEither_72 ?_
    have hFc := free_all hD hS hA
    refine va_callv (va_runV (As := []) (rest := []) ⟨hx, hb, hml, hown, hts⟩ (a_advance l D ws_338 ty_339 tp ktp tl te_118 ya_125 (nI ts_117) bb k_138 c9_139 t_140 f_349 H.size (by omega) (by omega) e_344 e_348 u_350) (cwV 0 hts gX4_readEither_X6_advance rfl rfl rfl (by decide +kernel) ⟨Nat.le_of_ble_eq_true rfl, Nat.le_of_ble_eq_true rfl⟩) ⟨fun a U g mk q => by obtain ⟨q0, q1, qP, qK, qD⟩ := q; exact ⟨q0, q1, qP, va_K.moved (u := U) (U := U.calling g mk a) (Vm.Alike.refl U.vm) qK, qD⟩, va_recv hK hP (ci := 6) (q0 := ktp) rfl e_344, fun U hU hW => ⟨rfl, by rw [hU], by rw [hU]; exact hP, va_K.moved hW.alike hK, hD.weaken (fun _ _ _ _ => trivial)⟩⟩ rfl rfl hl.1 rfl (lv_room (Nat.le_of_ble_eq_true rfl)) dX4_readEither_75 ⟨Nat.le_of_ble_eq_true rfl, Nat.le_of_ble_eq_true rfl⟩) hS (fun q _ h => hFc q h) hFc (fun u t H1 locs ht hvm w_756 hB hz1 hk1 hS => ?_)
    obtain ⟨ws_757, ty_758, hm_759, ht_761, hP1, hK1, hD1, hx_760⟩ := hB
    rw [ht] at hP1
    have hK := va_K.moved hvm.symm hK1
    have hD := hD1.weaken (fun _ _ _ h => hFc _ h)
    generalize H1 = H at hP1 hS ⊢
    have hP := hP1
    have e_762 := hm_759.objK e_343 (by decide)
    obtain ⟨g_764, e_763, h_765⟩ := hm_759.obj e_344
    obtain ⟨z_766, z_767, z_768, z_769, rfl⟩ := smX6 h_765
    obtain ⟨f_771, e_770⟩ := hm_759.arrI e_345
    have u_772 := ht_761 _ _ u_347
    obtain ⟨f_774, e_773⟩ := hm_759.arrI e_348
    have u_775 := ht_761 _ _ u_350
    have hsm := hsm.tr (hm_759.mono (by decide))
    have hlp_93 := hlp_93.tr (hm_759.mono (by decide))
    have htx := htx.tr ht_761
    obtain ⟨k_776, s_777, e_778, h_779, h_780, h_781, e_782⟩ := hx_760
    refine lv_aload_n hx hb dX4_readEither_78 rfl (lv_at hl 5 rfl) ?_
    refine lv_iload_n hx hb dX4_readEither_79 rfl (lv_at hl 4 rfl) ?_
    have hFc := free_all hD hS hA
    refine va_calli (va_runV (As := [.int 1]) (rest := []) ⟨hx, hb, hml, hown, hts⟩ (r_readOne1 l D ws_757 ty_758 adK adV fo rd krd tp ktp cd bb tl  H.size (⟨s_777, e_778, cc_119, ra_120, rb_121, rc_122, rv_123, re_124, nI k_776, by omega, by omega, by omega, by omega, e_762, e_782, ⟨k_132, c9_133, t_134, f_771, e_770, u_772⟩, ⟨k_138, c9_139, t_140, f_774, e_773, u_775⟩⟩ : RS ws_757 ty_758 rd krd tp ktp cd bb tl)) (cwV 1 hts gX4_readEither_X4_readOne rfl rfl rfl (by decide +kernel) ⟨Nat.le_of_ble_eq_true rfl, Nat.le_of_ble_eq_true rfl⟩) ⟨fun a U g mk q => by obtain ⟨q0, q1, qP, qK, qD, qS⟩ := q; exact ⟨q0, q1, qP, va_K.moved (u := U) (U := U.calling g mk a) (Vm.Alike.refl U.vm) qK, qD, SZ.same rfl rfl qS⟩, va_recv hK hP (ci := 4) (q0 := krd) rfl e_762, fun U hU hW => ⟨rfl, by rw [hU], by rw [hU]; exact hP, va_K.moved hW.alike hK, hD.weaken (fun _ _ _ _ => trivial), hsz9.go hS hW hU hFc⟩⟩ rfl rfl hl.1 rfl (lv_room (Nat.le_of_ble_eq_true rfl)) dX4_readEither_80 ⟨Nat.le_of_ble_eq_true rfl, Nat.le_of_ble_eq_true rfl⟩) hS (fun q _ h => hFc q h) hFc (fun r_783 u t H1 locs ht hvm w_784 hB hz1 hk1 hS => ?_)
    obtain ⟨ws_785, ty_786, hm_787, ht_789, hP1, hK1, hD1, hx_788⟩ := hB
    rw [ht] at hP1
    have hK := va_K.moved hvm.symm hK1
    have hD := hD1.weaken (fun _ _ _ h => hFc _ h)
    generalize H1 = H at hP1 hS ⊢
    have hP := hP1
    obtain ⟨g_791, e_790, h_792⟩ := hm_787.obj e_762
    obtain ⟨z_793, z_794, z_795, z_796, z_797, z_798, rfl⟩ := smX4 h_792
    obtain ⟨g_800, e_799, h_801⟩ := hm_787.obj e_782
    obtain ⟨z_802, z_803, z_804, z_805, rfl⟩ := smX6 h_801
    obtain ⟨f_807, e_806⟩ := hm_787.arrI e_770
    have u_808 := ht_789 _ _ u_772
    obtain ⟨f_810, e_809⟩ := hm_787.arrI e_773
    have u_811 := ht_789 _ _ u_775
    have hsm := hsm.tr (hm_787.mono (by decide))
    have hlp_93 := hlp_93.tr (hm_787.mono (by decide))
    have htx := htx.tr ht_789
    obtain ⟨ts_812, te_813, cc_814, ra_815, rb_816, rc_817, rv_818, re_819, ya_820, h1_821, h2_822, h3_823, h4_824, er_825, et_826, ⟨k_827, c9_828, t_829, f_830, e_831, u_832⟩, ⟨k_833, c9_834, t_835, f_836, e_837, u_838⟩⟩ := id hx_788
    refine lv_istore_n (lv' := [(2, .int r_783), (3, .int 1), (5, .int 1), (4, .int (nI i_85)), (1, .int 1), (0, .ref rd)]) hx hb dX4_readEither_83 rfl hl (by decide) rfl (fun ls hl => ?_)
    refine lv_iload hx hb dX4_readEither_84 (lv_at hl 2 rfl) ?_
    refine lv_if_eq (tgt := 95) hx hb dX4_readEither_86 (by decide) (fun c_839 => absurd c_839 (by decide)) (fun c_839 => ?_)
    refine lv_aload_n hx hb dX4_readEither_89 rfl (lv_at hl 5 rfl) ?_
    refine lv_bipush (v := (-2)) hx hb dX4_readEither_90 (by decide) ?_
    have hFc := free_all hD hS hA
    refine va_callv (va_runV (As := [.int (-2)]) (rest := []) ⟨hx, hb, hml, hown, hts⟩ (r_addCode l D ws_785 ty_786 adK adV fo rd krd tp ktp cd bb tl (-2) H.size (⟨ts_812, te_813, cc_814, ra_815, rb_816, rc_817, rv_818, re_819, ya_820, by omega, by omega, by omega, by omega, er_825, et_826, ⟨k_827, c9_828, t_829, f_830, e_831, u_832⟩, ⟨k_833, c9_834, t_835, f_836, e_837, u_838⟩⟩ : RS ws_785 ty_786 rd krd tp ktp cd bb tl)) (cwV 1 hts gX4_readEither_X4_addCode rfl rfl rfl (by decide +kernel) ⟨Nat.le_of_ble_eq_true rfl, Nat.le_of_ble_eq_true rfl⟩) ⟨fun a U g mk q => by obtain ⟨q0, q1, qP, qK, qD, qS⟩ := q; exact ⟨q0, q1, qP, va_K.moved (u := U) (U := U.calling g mk a) (Vm.Alike.refl U.vm) qK, qD, SZ.same rfl rfl qS⟩, va_recv hK hP (ci := 4) (q0 := krd) rfl er_825, fun U hU hW => ⟨rfl, by rw [hU], by rw [hU]; exact hP, va_K.moved hW.alike hK, hD.weaken (fun _ _ _ _ => trivial), hsz9.go hS hW hU hFc⟩⟩ rfl rfl hl.1 rfl (lv_room (Nat.le_of_ble_eq_true rfl)) dX4_readEither_92 ⟨Nat.le_of_ble_eq_true rfl, Nat.le_of_ble_eq_true rfl⟩) hS (fun q _ h => hFc q h) hFc (fun u t H1 locs ht hvm w_841 hB hz1 hk1 hS => ?_)
    obtain ⟨ws_842, ty_843, hm_844, ht_846, hP1, hK1, hD1, hx_845⟩ := hB
    rw [ht] at hP1
    have hK := va_K.moved hvm.symm hK1
    have hD := hD1.weaken (fun _ _ _ h => hFc _ h)
    generalize H1 = H at hP1 hS ⊢
    have hP := hP1
    obtain ⟨g_848, e_847, h_849⟩ := hm_844.obj er_825
    obtain ⟨z_850, z_851, z_852, z_853, z_854, z_855, rfl⟩ := smX4 h_849
    obtain ⟨g_857, e_856, h_858⟩ := hm_844.obj et_826
    obtain ⟨z_859, z_860, z_861, z_862, rfl⟩ := smX6 h_858
    obtain ⟨f_864, e_863⟩ := hm_844.arrI e_831
    have u_865 := ht_846 _ _ u_832
    obtain ⟨f_867, e_866⟩ := hm_844.arrI e_837
    have u_868 := ht_846 _ _ u_838
    have hsm := hsm.tr (hm_844.mono (by decide))
    have hlp_93 := hlp_93.tr (hm_844.mono (by decide))
    have htx := htx.tr ht_846
    obtain ⟨ts_869, te_870, cc_871, ra_872, rb_873, rc_874, rv_875, re_876, ya_877, h1_878, h2_879, h3_880, h4_881, er_882, et_883, ⟨k_884, c9_885, t_886, f_887, e_888, u_889⟩, ⟨k_890, c9_891, t_892, f_893, e_894, u_895⟩⟩ := id hx_845
    refine lv_iinc (v := nI (i_85 + 1)) (lv' := [(4, .int (nI (i_85 + 1))), (2, .int r_783), (3, .int 1), (5, .int 1), (1, .int 1), (0, .ref rd)]) hx hb dX4_readEither_95 hl (k := 3) rfl (nI_add i_85 1) (by decide) rfl (fun ls hl => ?_)
    refine lv_goto (tgt := 11) hx hb dX4_readEither_98 (by decide) ?_
    exact ih_84 (i_85 + 1, r_783, 1) ws_842 _ _ ls (by show 400 - (i_85 + 1) < 400 - i_85; omega) ⟨hlp_93, ⟨ty_843, hK, htx, (⟨ts_869, te_870, cc_871, ra_872, rb_873, rc_874, rv_875, re_876, ya_877, by omega, by omega, by omega, by omega, er_882, et_883, ⟨k_884, c9_885, t_886, f_887, e_888, u_889⟩, ⟨k_890, c9_891, t_892, f_893, e_894, u_895⟩⟩ : RS ws_842 ty_843 rd krd tp ktp cd bb tl)⟩, (show (i_85 + 1) ≤ 400 from by omega), (show r_783 = 0 ∨ r_783 = 1 from w_784), (show 1 = 0 ∨ 1 = 1 from Or.inr rfl)⟩ hP hD hS (lv_sub hl [0, 1, 2, 4, 5] rfl)
  refine lv_iload hx hb dX4_readEither_60 (lv_at hl 0 rfl) ?_
  refine lv_if_ne (tgt := 69) hx hb dX4_readEither_62 (by decide) (fun c_896 => ?_) (fun c_896 => absurd c_896 (by decide))
  refine lv_iconst (v := 0) hx hb dX4_readEither_69 (by decide) ?_
  refine lv_istore_n (lv' := [(3, .int 0), (5, .int 1), (4, .int (nI i_85)), (2, .int x_86), (1, .int 1), (0, .ref rd)]) hx hb dX4_readEither_70 rfl hl (by decide) rfl (fun ls hl => ?_)
  refine lv_aload_n hx hb dX4_readEither_71 rfl (lv_at hl 5 rfl) ?_
  refine va_get (D := D) (ci := 4) (v := .ref tp) (C := RX4) (T := TX4) (N := 8) hx hb hts hin4 hown hK hP krd e_343 rfl 0 (by decide) (hts (.fieldLink RX4 12 "HoneyHouse$RuleReader" "tape" "LHoneyHouse$Tape;") (List.mem_of_getElem? (i := 1) rfl)) (fun _ h9 => h9) rfl dX4_readEither_72 ?_
  have hFc := free_all hD hS hA
  refine va_callv (va_runV (As := []) (rest := []) ⟨hx, hb, hml, hown, hts⟩ (a_advance l D ws_338 ty_339 tp ktp tl te_118 ya_125 (nI ts_117) bb k_138 c9_139 t_140 f_349 H.size (by omega) (by omega) e_344 e_348 u_350) (cwV 0 hts gX4_readEither_X6_advance rfl rfl rfl (by decide +kernel) ⟨Nat.le_of_ble_eq_true rfl, Nat.le_of_ble_eq_true rfl⟩) ⟨fun a U g mk q => by obtain ⟨q0, q1, qP, qK, qD⟩ := q; exact ⟨q0, q1, qP, va_K.moved (u := U) (U := U.calling g mk a) (Vm.Alike.refl U.vm) qK, qD⟩, va_recv hK hP (ci := 6) (q0 := ktp) rfl e_344, fun U hU hW => ⟨rfl, by rw [hU], by rw [hU]; exact hP, va_K.moved hW.alike hK, hD.weaken (fun _ _ _ _ => trivial)⟩⟩ rfl rfl hl.1 rfl (lv_room (Nat.le_of_ble_eq_true rfl)) dX4_readEither_75 ⟨Nat.le_of_ble_eq_true rfl, Nat.le_of_ble_eq_true rfl⟩) hS (fun q _ h => hFc q h) hFc (fun u t H1 locs ht hvm w_898 hB hz1 hk1 hS => ?_)
  obtain ⟨ws_899, ty_900, hm_901, ht_903, hP1, hK1, hD1, hx_902⟩ := hB
  rw [ht] at hP1
  have hK := va_K.moved hvm.symm hK1
  have hD := hD1.weaken (fun _ _ _ h => hFc _ h)
  generalize H1 = H at hP1 hS ⊢
  have hP := hP1
  have e_904 := hm_901.objK e_343 (by decide)
  obtain ⟨g_906, e_905, h_907⟩ := hm_901.obj e_344
  obtain ⟨z_908, z_909, z_910, z_911, rfl⟩ := smX6 h_907
  obtain ⟨f_913, e_912⟩ := hm_901.arrI e_345
  have u_914 := ht_903 _ _ u_347
  obtain ⟨f_916, e_915⟩ := hm_901.arrI e_348
  have u_917 := ht_903 _ _ u_350
  have hsm := hsm.tr (hm_901.mono (by decide))
  have hlp_93 := hlp_93.tr (hm_901.mono (by decide))
  have htx := htx.tr ht_903
  obtain ⟨k_918, s_919, e_920, h_921, h_922, h_923, e_924⟩ := hx_902
  refine lv_aload_n hx hb dX4_readEither_78 rfl (lv_at hl 5 rfl) ?_
  refine lv_iload_n hx hb dX4_readEither_79 rfl (lv_at hl 4 rfl) ?_
  have hFc := free_all hD hS hA
  refine va_calli (va_runV (As := [.int 1]) (rest := []) ⟨hx, hb, hml, hown, hts⟩ (r_readOne1 l D ws_899 ty_900 adK adV fo rd krd tp ktp cd bb tl  H.size (⟨s_919, e_920, cc_119, ra_120, rb_121, rc_122, rv_123, re_124, nI k_918, by omega, by omega, by omega, by omega, e_904, e_924, ⟨k_132, c9_133, t_134, f_913, e_912, u_914⟩, ⟨k_138, c9_139, t_140, f_916, e_915, u_917⟩⟩ : RS ws_899 ty_900 rd krd tp ktp cd bb tl)) (cwV 1 hts gX4_readEither_X4_readOne rfl rfl rfl (by decide +kernel) ⟨Nat.le_of_ble_eq_true rfl, Nat.le_of_ble_eq_true rfl⟩) ⟨fun a U g mk q => by obtain ⟨q0, q1, qP, qK, qD, qS⟩ := q; exact ⟨q0, q1, qP, va_K.moved (u := U) (U := U.calling g mk a) (Vm.Alike.refl U.vm) qK, qD, SZ.same rfl rfl qS⟩, va_recv hK hP (ci := 4) (q0 := krd) rfl e_904, fun U hU hW => ⟨rfl, by rw [hU], by rw [hU]; exact hP, va_K.moved hW.alike hK, hD.weaken (fun _ _ _ _ => trivial), hsz9.go hS hW hU hFc⟩⟩ rfl rfl hl.1 rfl (lv_room (Nat.le_of_ble_eq_true rfl)) dX4_readEither_80 ⟨Nat.le_of_ble_eq_true rfl, Nat.le_of_ble_eq_true rfl⟩) hS (fun q _ h => hFc q h) hFc (fun r_925 u t H1 locs ht hvm w_926 hB hz1 hk1 hS => ?_)
  obtain ⟨ws_927, ty_928, hm_929, ht_931, hP1, hK1, hD1, hx_930⟩ := hB
  rw [ht] at hP1
  have hK := va_K.moved hvm.symm hK1
  have hD := hD1.weaken (fun _ _ _ h => hFc _ h)
  generalize H1 = H at hP1 hS ⊢
  have hP := hP1
  obtain ⟨g_933, e_932, h_934⟩ := hm_929.obj e_904
  obtain ⟨z_935, z_936, z_937, z_938, z_939, z_940, rfl⟩ := smX4 h_934
  obtain ⟨g_942, e_941, h_943⟩ := hm_929.obj e_924
  obtain ⟨z_944, z_945, z_946, z_947, rfl⟩ := smX6 h_943
  obtain ⟨f_949, e_948⟩ := hm_929.arrI e_912
  have u_950 := ht_931 _ _ u_914
  obtain ⟨f_952, e_951⟩ := hm_929.arrI e_915
  have u_953 := ht_931 _ _ u_917
  have hsm := hsm.tr (hm_929.mono (by decide))
  have hlp_93 := hlp_93.tr (hm_929.mono (by decide))
  have htx := htx.tr ht_931
  obtain ⟨ts_954, te_955, cc_956, ra_957, rb_958, rc_959, rv_960, re_961, ya_962, h1_963, h2_964, h3_965, h4_966, er_967, et_968, ⟨k_969, c9_970, t_971, f_972, e_973, u_974⟩, ⟨k_975, c9_976, t_977, f_978, e_979, u_980⟩⟩ := id hx_930
  refine lv_istore_n (lv' := [(2, .int r_925), (3, .int 0), (5, .int 1), (4, .int (nI i_85)), (1, .int 1), (0, .ref rd)]) hx hb dX4_readEither_83 rfl hl (by decide) rfl (fun ls hl => ?_)
  refine lv_iload hx hb dX4_readEither_84 (lv_at hl 2 rfl) ?_
  refine lv_if_eq (tgt := 95) hx hb dX4_readEither_86 (by decide) (fun c_981 => absurd c_981 (by decide)) (fun c_981 => ?_)
  refine lv_aload_n hx hb dX4_readEither_89 rfl (lv_at hl 5 rfl) ?_
  refine lv_bipush (v := (-2)) hx hb dX4_readEither_90 (by decide) ?_
  have hFc := free_all hD hS hA
  refine va_callv (va_runV (As := [.int (-2)]) (rest := []) ⟨hx, hb, hml, hown, hts⟩ (r_addCode l D ws_927 ty_928 adK adV fo rd krd tp ktp cd bb tl (-2) H.size (⟨ts_954, te_955, cc_956, ra_957, rb_958, rc_959, rv_960, re_961, ya_962, by omega, by omega, by omega, by omega, er_967, et_968, ⟨k_969, c9_970, t_971, f_972, e_973, u_974⟩, ⟨k_975, c9_976, t_977, f_978, e_979, u_980⟩⟩ : RS ws_927 ty_928 rd krd tp ktp cd bb tl)) (cwV 1 hts gX4_readEither_X4_addCode rfl rfl rfl (by decide +kernel) ⟨Nat.le_of_ble_eq_true rfl, Nat.le_of_ble_eq_true rfl⟩) ⟨fun a U g mk q => by obtain ⟨q0, q1, qP, qK, qD, qS⟩ := q; exact ⟨q0, q1, qP, va_K.moved (u := U) (U := U.calling g mk a) (Vm.Alike.refl U.vm) qK, qD, SZ.same rfl rfl qS⟩, va_recv hK hP (ci := 4) (q0 := krd) rfl er_967, fun U hU hW => ⟨rfl, by rw [hU], by rw [hU]; exact hP, va_K.moved hW.alike hK, hD.weaken (fun _ _ _ _ => trivial), hsz9.go hS hW hU hFc⟩⟩ rfl rfl hl.1 rfl (lv_room (Nat.le_of_ble_eq_true rfl)) dX4_readEither_92 ⟨Nat.le_of_ble_eq_true rfl, Nat.le_of_ble_eq_true rfl⟩) hS (fun q _ h => hFc q h) hFc (fun u t H1 locs ht hvm w_983 hB hz1 hk1 hS => ?_)
  obtain ⟨ws_984, ty_985, hm_986, ht_988, hP1, hK1, hD1, hx_987⟩ := hB
  rw [ht] at hP1
  have hK := va_K.moved hvm.symm hK1
  have hD := hD1.weaken (fun _ _ _ h => hFc _ h)
  generalize H1 = H at hP1 hS ⊢
  have hP := hP1
  obtain ⟨g_990, e_989, h_991⟩ := hm_986.obj er_967
  obtain ⟨z_992, z_993, z_994, z_995, z_996, z_997, rfl⟩ := smX4 h_991
  obtain ⟨g_999, e_998, h_1000⟩ := hm_986.obj et_968
  obtain ⟨z_1001, z_1002, z_1003, z_1004, rfl⟩ := smX6 h_1000
  obtain ⟨f_1006, e_1005⟩ := hm_986.arrI e_973
  have u_1007 := ht_988 _ _ u_974
  obtain ⟨f_1009, e_1008⟩ := hm_986.arrI e_979
  have u_1010 := ht_988 _ _ u_980
  have hsm := hsm.tr (hm_986.mono (by decide))
  have hlp_93 := hlp_93.tr (hm_986.mono (by decide))
  have htx := htx.tr ht_988
  obtain ⟨ts_1011, te_1012, cc_1013, ra_1014, rb_1015, rc_1016, rv_1017, re_1018, ya_1019, h1_1020, h2_1021, h3_1022, h4_1023, er_1024, et_1025, ⟨k_1026, c9_1027, t_1028, f_1029, e_1030, u_1031⟩, ⟨k_1032, c9_1033, t_1034, f_1035, e_1036, u_1037⟩⟩ := id hx_987
  refine lv_iinc (v := nI (i_85 + 1)) (lv' := [(4, .int (nI (i_85 + 1))), (2, .int r_925), (3, .int 0), (5, .int 1), (1, .int 1), (0, .ref rd)]) hx hb dX4_readEither_95 hl (k := 3) rfl (nI_add i_85 1) (by decide) rfl (fun ls hl => ?_)
  refine lv_goto (tgt := 11) hx hb dX4_readEither_98 (by decide) ?_
  exact ih_84 (i_85 + 1, r_925, 0) ws_984 _ _ ls (by show 400 - (i_85 + 1) < 400 - i_85; omega) ⟨hlp_93, ⟨ty_985, hK, htx, (⟨ts_1011, te_1012, cc_1013, ra_1014, rb_1015, rc_1016, rv_1017, re_1018, ya_1019, by omega, by omega, by omega, by omega, er_1024, et_1025, ⟨k_1026, c9_1027, t_1028, f_1029, e_1030, u_1031⟩, ⟨k_1032, c9_1033, t_1034, f_1035, e_1036, u_1037⟩⟩ : RS ws_984 ty_985 rd krd tp ktp cd bb tl)⟩, (show (i_85 + 1) ≤ 400 from by omega), (show r_925 = 0 ∨ r_925 = 1 from w_926), (show 0 = 0 ∨ 0 = 1 from Or.inl rfl)⟩ hP hD hS (lv_sub hl [0, 1, 2, 4, 5] rfl)
set_option maxHeartbeats 4000000 in
set_option maxRecDepth 100000 in
theorem r_readOne0 (l : Launch) (D : va_G) (ws : va_W) (tys : List (ClassId × FieldType)) (adK adV : Nat → Nat) (fo : Option Nat) (rd krd tp ktp cd bb tl : Nat)  (sz : Nat) (R0 : RS ws tys rd krd tp ktp cd bb tl)  : Met l yX4_readOne wsX4_readOne ({ frames := 19, cells := 0, slots := 0, locals := 437 }) (va_Pc [.ref rd, .int 0] (fun U => U.heap.size = sz ∧ va_P D vwCl ws U.heap ∧ va_K D vwCl tys U ∧ va_D (fun _ => True) ws ∧ SZ adK adV fo (va_A ws sz) U U.heap)) (va_Qi (fun (r : Int32) (_ : Unit) => r = 0 ∨ r = 1) (fun (_ : Unit) (t : State) => ∃ (ws' : va_W) (tys' : List (ClassId × FieldType)), sm [4, 6] ws ws' ∧ tyx tys tys' ∧ va_P D vwCl ws' t.heap ∧ va_K D vwCl tys' t ∧ va_D (va_A ws sz) ws' ∧ RS ws' tys' rd krd tp ktp cd bb tl) (va_A ws sz)) 0 0 (va_A ws sz) := by
  refine Met.ofW (cc := cX4_readOne) (maxL := 4) (ret := (some .boolean)) (by decide) rfl ?_
  intro p e s m args below meth c s₁ B hml hv
  obtain ⟨rfl, hsz, hP, hK, hD0, hsz9⟩ := hv
  have hx := B.exec
  have hb := B.bytes
  have hr := B.returns
  have hts := atoms_spec (ws := wsX4_readOne) B.pre
  have hown : s.vm.findClass RX4 = some m.cls := findClass_of_methodNamed B.named
  have hlocks := B.notSynchronized
  subst hsz
  have hD := hD0.self (sz := s.heap.size)
  generalize hAe : va_A ws s.heap.size = A at hD hsz9 ⊢
  have hA : ∀ q : Nat, s.heap.size ≤ q → A q := fun q h => by rw [← hAe]; exact Or.inr h
  have hS : va_S A s.heap s.heap [] := va_S.rf
  have hsm : sm [4, 6] ws ws := sm.rf ws
  have htx : tyx tys tys := tyx.rf tys
  have hin4 : ∀ w ∈ u_ws RX4 TX4 8, w ∈ wsX4_readOne := (fun _ h9 => List.mem_cons_of_mem _ (List.mem_append_left _ ((List.mem_append_right _ h9))))
  have hl := lv_entry ([.ref rd, .int 0]) (n := 4) (Nat.le_of_ble_eq_true rfl)
  rw [lg_entry_eq]
  generalize (lg_sl ([.ref rd, .int 0]) ++ List.replicate (4 - (lg_sl ([.ref rd, .int 0])).length) Slot.unset).toArray = ls at hl ⊢
  have hl : lv_has ls 4 [(0, .ref rd), (1, .int 0)] := hl
  obtain ⟨ts_1, te_2, cc_3, ra_4, rb_5, rc_6, rv_7, re_8, ya_9, h1_10, h2_11, h3_12, h4_13, er_14, et_15, ⟨k_16, c9_17, t_18, f_19, e_20, u_21⟩, ⟨k_22, c9_23, t_24, f_25, e_26, u_27⟩⟩ := id R0
  refine lv_aload_n hx hb dX4_readOne_0 rfl (lv_at hl 0 rfl) ?_
  refine va_get (D := D) (ci := 4) (v := .ref tp) (C := RX4) (T := TX4) (N := 8) hx hb hts hin4 hown hK hP krd er_14 rfl 0 (by decide) (hts (.fieldLink RX4 12 "HoneyHouse$RuleReader" "tape" "LHoneyHouse$Tape;") (List.mem_of_getElem? (i := 1) rfl)) (fun _ h9 => h9) rfl dX4_readOne_1 ?_
  refine va_ldcS hx hb hown hsz9.2.2.2.2.2.2.1 dX4_readOne_4 ?_
  have hFc := free_all hD hS hA
  refine va_calli (va_runV (As := [.ref (adK 3)]) (rest := []) ⟨hx, hb, hml, hown, hts⟩ (a_isWord l D ws tys adK adV fo 3 tp ktp tl ya_9 (nI ts_1) (nI te_2) bb k_22 c9_23 t_24 f_25 s.heap.size (by decide) et_15 e_26 u_27) (cwV 1 hts gX4_readOne_X6_isWord rfl rfl rfl (by decide +kernel) ⟨Nat.le_of_ble_eq_true rfl, Nat.le_of_ble_eq_true rfl⟩) ⟨fun a U g mk q => by obtain ⟨q0, q1, qP, qK, qD, qS⟩ := q; exact ⟨q0, q1, qP, va_K.moved (u := U) (U := U.calling g mk a) (Vm.Alike.refl U.vm) qK, qD, SZ.same rfl rfl qS⟩, va_recv hK hP (ci := 6) (q0 := ktp) rfl et_15, fun U hU hW => ⟨rfl, by rw [hU], by rw [hU]; exact hP, va_K.moved hW.alike hK, hD.weaken (fun _ _ _ _ => trivial), hsz9.go hS hW hU hFc⟩⟩ rfl rfl hl.1 rfl (lv_room (Nat.le_of_ble_eq_true rfl)) dX4_readOne_6 ⟨Nat.le_of_ble_eq_true rfl, Nat.le_of_ble_eq_true rfl⟩) hS (fun q _ h => hFc q h) hFc (fun r_28 u t H1 locs ht hvm w_29 hB hz1 hk1 hS => ?_)
  obtain ⟨ws_30, ty_31, hm_32, ht_34, hP1, hK1, hD1, hx_33⟩ := hB
  rw [ht] at hP1
  have hK := va_K.moved hvm.symm hK1
  have hD := hD1.weaken (fun _ _ _ h => hFc _ h)
  generalize H1 = H at hP1 hS ⊢
  have hP := hP1
  have e_35 := hm_32.objK er_14 (by decide)
  have e_36 := hm_32.objK et_15 (by decide)
  obtain ⟨f_38, e_37⟩ := hm_32.arrI e_20
  have u_39 := ht_34 _ _ u_21
  obtain ⟨f_41, e_40⟩ := hm_32.arrI e_26
  have u_42 := ht_34 _ _ u_27
  have hsm := hsm.tr (hm_32.mono (by decide))
  have htx := htx.tr ht_34
  rcases w_29 with rfl | rfl
  · refine lv_istore_n (lv' := [(2, .int 0), (0, .ref rd), (1, .int 0)]) hx hb dX4_readOne_9 rfl hl (by decide) rfl (fun ls hl => ?_)
    refine lv_iload_n hx hb dX4_readOne_10 rfl (lv_at hl 0 rfl) ?_
    refine lv_if_ne (tgt := 31) hx hb dX4_readOne_11 (by decide) (fun c_43 => absurd (by decide) c_43) (fun c_43 => ?_)
    refine lv_aload_n hx hb dX4_readOne_14 rfl (lv_at hl 1 rfl) ?_
    refine va_get (D := D) (ci := 4) (v := .ref tp) (C := RX4) (T := TX4) (N := 8) hx hb hts hin4 hown hK hP krd e_35 rfl 0 (by decide) (hts (.fieldLink RX4 12 "HoneyHouse$RuleReader" "tape" "LHoneyHouse$Tape;") (List.mem_of_getElem? (i := 1) rfl)) (fun _ h9 => h9) rfl dX4_readOne_15 ?_
    refine lv_bipush (v := 40) hx hb dX4_readOne_18 (by decide) ?_
    refine vp_callSi (W.runV (As := [.int 40]) (rest := []) ⟨hx, hb, hml, hown, hts⟩ (s_isByte l D ws_30 ty_31 tp ktp tl ya_9 (nI ts_1) (nI te_2) bb k_22 c9_23 t_24 f_41 40 e_36 e_40 u_42) (cwV 1 hts gX4_readOne_X6_isByte rfl rfl rfl (by decide +kernel) ⟨Nat.le_of_ble_eq_true rfl, Nat.le_of_ble_eq_true rfl⟩) ⟨fun a U g mk q => ⟨q.1, q.2.1, va_K.moved (u := U) (U := U.calling g mk a) (Vm.Alike.refl U.vm) q.2.2⟩, va_recv hK hP (ci := 6) (q0 := ktp) rfl e_36, fun U hU hW => ⟨rfl, by rw [hU]; exact hP, va_K.moved hW.alike hK⟩⟩ rfl rfl hl.1 rfl (lv_room (Nat.le_of_ble_eq_true rfl)) dX4_readOne_20 ⟨Nat.le_of_ble_eq_true rfl, Nat.le_of_ble_eq_true rfl⟩) (fun r_44 k_45 => ?_)
    rcases k_45 with rfl | rfl
    · refine lv_if_ne (tgt := 31) hx hb dX4_readOne_23 (by decide) (fun c_46 => absurd (by decide) c_46) (fun c_46 => ?_)
      refine lv_aload_n hx hb dX4_readOne_26 rfl (lv_at hl 1 rfl) ?_
      have hFc := free_all hD hS hA
      refine va_calli (va_runV (As := []) (rest := []) ⟨hx, hb, hml, hown, hts⟩ (r_readTest l D ws_30 ty_31 adK adV fo rd krd tp ktp cd bb tl  H.size (⟨ts_1, te_2, cc_3, ra_4, rb_5, rc_6, rv_7, re_8, ya_9, by omega, by omega, by omega, by omega, e_35, e_36, ⟨k_16, c9_17, t_18, f_38, e_37, u_39⟩, ⟨k_22, c9_23, t_24, f_41, e_40, u_42⟩⟩ : RS ws_30 ty_31 rd krd tp ktp cd bb tl)) (cwV 0 hts gX4_readOne_X4_readTest rfl rfl rfl (by decide +kernel) ⟨Nat.le_of_ble_eq_true rfl, Nat.le_of_ble_eq_true rfl⟩) ⟨fun a U g mk q => by obtain ⟨q0, q1, qP, qK, qD, qS⟩ := q; exact ⟨q0, q1, qP, va_K.moved (u := U) (U := U.calling g mk a) (Vm.Alike.refl U.vm) qK, qD, SZ.same rfl rfl qS⟩, va_recv hK hP (ci := 4) (q0 := krd) rfl e_35, fun U hU hW => ⟨rfl, by rw [hU], by rw [hU]; exact hP, va_K.moved hW.alike hK, hD.weaken (fun _ _ _ _ => trivial), hsz9.go hS hW hU hFc⟩⟩ rfl rfl hl.1 rfl (lv_room (Nat.le_of_ble_eq_true rfl)) dX4_readOne_27 ⟨Nat.le_of_ble_eq_true rfl, Nat.le_of_ble_eq_true rfl⟩) hS (fun q _ h => hFc q h) hFc (fun r_47 u t H1 locs ht hvm w_48 hB hz1 hk1 hS => ?_)
      obtain ⟨ws_49, ty_50, hm_51, ht_53, hP1, hK1, hD1, hx_52⟩ := hB
      rw [ht] at hP1
      have hK := va_K.moved hvm.symm hK1
      have hD := hD1.weaken (fun _ _ _ h => hFc _ h)
      generalize H1 = H at hP1 hS ⊢
      have hP := hP1
      obtain ⟨g_55, e_54, h_56⟩ := hm_51.obj e_35
      obtain ⟨z_57, z_58, z_59, z_60, z_61, z_62, rfl⟩ := smX4 h_56
      obtain ⟨g_64, e_63, h_65⟩ := hm_51.obj e_36
      obtain ⟨z_66, z_67, z_68, z_69, rfl⟩ := smX6 h_65
      obtain ⟨f_71, e_70⟩ := hm_51.arrI e_37
      have u_72 := ht_53 _ _ u_39
      obtain ⟨f_74, e_73⟩ := hm_51.arrI e_40
      have u_75 := ht_53 _ _ u_42
      have hsm := hsm.tr (hm_51.mono (by decide))
      have htx := htx.tr ht_53
      obtain ⟨ts_76, te_77, cc_78, ra_79, rb_80, rc_81, rv_82, re_83, ya_84, h1_85, h2_86, h3_87, h4_88, er_89, et_90, ⟨k_91, c9_92, t_93, f_94, e_95, u_96⟩, ⟨k_97, c9_98, t_99, f_100, e_101, u_102⟩⟩ := id hx_52
      exact W.zret (v := r_47) hx hb hr (by rcases w_48 with h9 | h9 <;> rw [h9] <;> rfl) (fun t ht hW => ⟨⟨r_47, (), rfl, w_48, ws_49, ty_50, hsm, htx, by rw [ht]; exact hP, va_K.moved hW.alike hK, hD, (⟨ts_76, te_77, cc_78, ra_79, rb_80, rc_81, rv_82, re_83, ya_84, by omega, by omega, by omega, by omega, er_89, et_90, ⟨k_91, c9_92, t_93, f_94, e_95, u_96⟩, ⟨k_97, c9_98, t_99, f_100, e_101, u_102⟩⟩ : RS ws_49 ty_50 rd krd tp ktp cd bb tl)⟩, hS.F ht⟩) hS.2.2 dX4_readOne_30
    refine lv_if_ne (tgt := 31) hx hb dX4_readOne_23 (by decide) (fun c_103 => ?_) (fun c_103 => absurd c_103 (by decide))
    refine lv_iload_n hx hb dX4_readOne_31 rfl (lv_at hl 2 rfl) ?_
    refine lv_bipush (v := 6) hx hb dX4_readOne_32 (by decide) ?_
    refine lv_icmp_lt (tgt := 50) hx hb dX4_readOne_34 (by decide) (fun c_104 => ?_) (fun c_104 => absurd (by decide) c_104)
    refine lv_aload_n hx hb dX4_readOne_50 rfl (lv_at hl 1 rfl) ?_
    refine va_get (D := D) (ci := 4) (v := .ref tp) (C := RX4) (T := TX4) (N := 8) hx hb hts hin4 hown hK hP krd e_35 rfl 0 (by decide) (hts (.fieldLink RX4 12 "HoneyHouse$RuleReader" "tape" "LHoneyHouse$Tape;") (List.mem_of_getElem? (i := 1) rfl)) (fun _ h9 => h9) rfl dX4_readOne_51 ?_
    have hFc := free_all hD hS hA
    refine va_callv (va_runV (As := []) (rest := []) ⟨hx, hb, hml, hown, hts⟩ (a_advance l D ws_30 ty_31 tp ktp tl te_2 ya_9 (nI ts_1) bb k_22 c9_23 t_24 f_41 H.size (by omega) (by omega) e_36 e_40 u_42) (cwV 0 hts gX4_readOne_X6_advance rfl rfl rfl (by decide +kernel) ⟨Nat.le_of_ble_eq_true rfl, Nat.le_of_ble_eq_true rfl⟩) ⟨fun a U g mk q => by obtain ⟨q0, q1, qP, qK, qD⟩ := q; exact ⟨q0, q1, qP, va_K.moved (u := U) (U := U.calling g mk a) (Vm.Alike.refl U.vm) qK, qD⟩, va_recv hK hP (ci := 6) (q0 := ktp) rfl e_36, fun U hU hW => ⟨rfl, by rw [hU], by rw [hU]; exact hP, va_K.moved hW.alike hK, hD.weaken (fun _ _ _ _ => trivial)⟩⟩ rfl rfl hl.1 rfl (lv_room (Nat.le_of_ble_eq_true rfl)) dX4_readOne_54 ⟨Nat.le_of_ble_eq_true rfl, Nat.le_of_ble_eq_true rfl⟩) hS (fun q _ h => hFc q h) hFc (fun u t H1 locs ht hvm w_106 hB hz1 hk1 hS => ?_)
    obtain ⟨ws_107, ty_108, hm_109, ht_111, hP1, hK1, hD1, hx_110⟩ := hB
    rw [ht] at hP1
    have hK := va_K.moved hvm.symm hK1
    have hD := hD1.weaken (fun _ _ _ h => hFc _ h)
    generalize H1 = H at hP1 hS ⊢
    have hP := hP1
    have e_112 := hm_109.objK e_35 (by decide)
    obtain ⟨g_114, e_113, h_115⟩ := hm_109.obj e_36
    obtain ⟨z_116, z_117, z_118, z_119, rfl⟩ := smX6 h_115
    obtain ⟨f_121, e_120⟩ := hm_109.arrI e_37
    have u_122 := ht_111 _ _ u_39
    obtain ⟨f_124, e_123⟩ := hm_109.arrI e_40
    have u_125 := ht_111 _ _ u_42
    have hsm := hsm.tr (hm_109.mono (by decide))
    have htx := htx.tr ht_111
    obtain ⟨k_126, s_127, e_128, h_129, h_130, h_131, e_132⟩ := hx_110
    refine lv_iload_n hx hb dX4_readOne_57 rfl (lv_at hl 0 rfl) ?_
    refine lv_if_ne (tgt := 86) hx hb dX4_readOne_58 (by decide) (fun c_133 => absurd (by decide) c_133) (fun c_133 => ?_)
    refine lv_aload_n hx hb dX4_readOne_61 rfl (lv_at hl 1 rfl) ?_
    refine lv_iload_n hx hb dX4_readOne_62 rfl (lv_at hl 2 rfl) ?_
    refine lv_iconst (v := 1) hx hb dX4_readOne_63 (by decide) ?_
    refine lv_iadd hx hb dX4_readOne_64 ?_
    refine tp_i (y := 1) (by decide) ?_
    have hFc := free_all hD hS hA
    refine va_calli (va_runV (As := [.int 1]) (rest := []) ⟨hx, hb, hml, hown, hts⟩ (r_readEither1 l D ws_107 ty_108 adK adV fo rd krd tp ktp cd bb tl  H.size (⟨s_127, e_128, cc_3, ra_4, rb_5, rc_6, rv_7, re_8, nI k_126, by omega, by omega, by omega, by omega, e_112, e_132, ⟨k_16, c9_17, t_18, f_121, e_120, u_122⟩, ⟨k_22, c9_23, t_24, f_124, e_123, u_125⟩⟩ : RS ws_107 ty_108 rd krd tp ktp cd bb tl)) (cwV 1 hts gX4_readOne_X4_readEither rfl rfl rfl (by decide +kernel) ⟨Nat.le_of_ble_eq_true rfl, Nat.le_of_ble_eq_true rfl⟩) ⟨fun a U g mk q => by obtain ⟨q0, q1, qP, qK, qD, qS⟩ := q; exact ⟨q0, q1, qP, va_K.moved (u := U) (U := U.calling g mk a) (Vm.Alike.refl U.vm) qK, qD, SZ.same rfl rfl qS⟩, va_recv hK hP (ci := 4) (q0 := krd) rfl e_112, fun U hU hW => ⟨rfl, by rw [hU], by rw [hU]; exact hP, va_K.moved hW.alike hK, hD.weaken (fun _ _ _ _ => trivial), hsz9.go hS hW hU hFc⟩⟩ rfl rfl hl.1 rfl (lv_room (Nat.le_of_ble_eq_true rfl)) dX4_readOne_65 ⟨Nat.le_of_ble_eq_true rfl, Nat.le_of_ble_eq_true rfl⟩) hS (fun q _ h => hFc q h) hFc (fun r_134 u t H1 locs ht hvm w_135 hB hz1 hk1 hS => ?_)
    obtain ⟨ws_136, ty_137, hm_138, ht_140, hP1, hK1, hD1, hx_139⟩ := hB
    rw [ht] at hP1
    have hK := va_K.moved hvm.symm hK1
    have hD := hD1.weaken (fun _ _ _ h => hFc _ h)
    generalize H1 = H at hP1 hS ⊢
    have hP := hP1
    obtain ⟨g_142, e_141, h_143⟩ := hm_138.obj e_112
    obtain ⟨z_144, z_145, z_146, z_147, z_148, z_149, rfl⟩ := smX4 h_143
    obtain ⟨g_151, e_150, h_152⟩ := hm_138.obj e_132
    obtain ⟨z_153, z_154, z_155, z_156, rfl⟩ := smX6 h_152
    obtain ⟨f_158, e_157⟩ := hm_138.arrI e_120
    have u_159 := ht_140 _ _ u_122
    obtain ⟨f_161, e_160⟩ := hm_138.arrI e_123
    have u_162 := ht_140 _ _ u_125
    have hsm := hsm.tr (hm_138.mono (by decide))
    have htx := htx.tr ht_140
    obtain ⟨ts_163, te_164, cc_165, ra_166, rb_167, rc_168, rv_169, re_170, ya_171, h1_172, h2_173, h3_174, h4_175, er_176, et_177, ⟨k_178, c9_179, t_180, f_181, e_182, u_183⟩, ⟨k_184, c9_185, t_186, f_187, e_188, u_189⟩⟩ := id hx_139
    refine lv_if_eq (tgt := 84) hx hb dX4_readOne_68 (by decide) (fun c_190 => ?_) (fun c_190 => ?_)
    · refine lv_iconst (v := 0) hx hb dX4_readOne_84 (by decide) ?_
      exact W.zret (v := 0) hx hb hr rfl (fun t ht hW => ⟨⟨0, (), rfl, Or.inl rfl, ws_136, ty_137, hsm, htx, by rw [ht]; exact hP, va_K.moved hW.alike hK, hD, (⟨ts_163, te_164, cc_165, ra_166, rb_167, rc_168, rv_169, re_170, ya_171, by omega, by omega, by omega, by omega, er_176, et_177, ⟨k_178, c9_179, t_180, f_181, e_182, u_183⟩, ⟨k_184, c9_185, t_186, f_187, e_188, u_189⟩⟩ : RS ws_136 ty_137 rd krd tp ktp cd bb tl)⟩, hS.F ht⟩) hS.2.2 dX4_readOne_85
    refine lv_aload_n hx hb dX4_readOne_71 rfl (lv_at hl 1 rfl) ?_
    refine lv_bipush (v := 41) hx hb dX4_readOne_72 (by decide) ?_
    have hFc := free_all hD hS hA
    refine va_calli (va_runV (As := [.int 41]) (rest := []) ⟨hx, hb, hml, hown, hts⟩ (r_readByte l D ws_136 ty_137 adK adV fo rd krd tp ktp cd bb tl 41 H.size (⟨ts_163, te_164, cc_165, ra_166, rb_167, rc_168, rv_169, re_170, ya_171, by omega, by omega, by omega, by omega, er_176, et_177, ⟨k_178, c9_179, t_180, f_181, e_182, u_183⟩, ⟨k_184, c9_185, t_186, f_187, e_188, u_189⟩⟩ : RS ws_136 ty_137 rd krd tp ktp cd bb tl)) (cwV 1 hts gX4_readOne_X4_readByte rfl rfl rfl (by decide +kernel) ⟨Nat.le_of_ble_eq_true rfl, Nat.le_of_ble_eq_true rfl⟩) ⟨fun a U g mk q => by obtain ⟨q0, q1, qP, qK, qD, qS⟩ := q; exact ⟨q0, q1, qP, va_K.moved (u := U) (U := U.calling g mk a) (Vm.Alike.refl U.vm) qK, qD, SZ.same rfl rfl qS⟩, va_recv hK hP (ci := 4) (q0 := krd) rfl er_176, fun U hU hW => ⟨rfl, by rw [hU], by rw [hU]; exact hP, va_K.moved hW.alike hK, hD.weaken (fun _ _ _ _ => trivial), hsz9.go hS hW hU hFc⟩⟩ rfl rfl hl.1 rfl (lv_room (Nat.le_of_ble_eq_true rfl)) dX4_readOne_74 ⟨Nat.le_of_ble_eq_true rfl, Nat.le_of_ble_eq_true rfl⟩) hS (fun q _ h => hFc q h) hFc (fun r_191 u t H1 locs ht hvm w_192 hB hz1 hk1 hS => ?_)
    obtain ⟨ws_193, ty_194, hm_195, ht_197, hP1, hK1, hD1, hx_196⟩ := hB
    rw [ht] at hP1
    have hK := va_K.moved hvm.symm hK1
    have hD := hD1.weaken (fun _ _ _ h => hFc _ h)
    generalize H1 = H at hP1 hS ⊢
    have hP := hP1
    obtain ⟨g_199, e_198, h_200⟩ := hm_195.obj er_176
    obtain ⟨z_201, z_202, z_203, z_204, z_205, z_206, rfl⟩ := smX4 h_200
    obtain ⟨g_208, e_207, h_209⟩ := hm_195.obj et_177
    obtain ⟨z_210, z_211, z_212, z_213, rfl⟩ := smX6 h_209
    obtain ⟨f_215, e_214⟩ := hm_195.arrI e_182
    have u_216 := ht_197 _ _ u_183
    obtain ⟨f_218, e_217⟩ := hm_195.arrI e_188
    have u_219 := ht_197 _ _ u_189
    have hsm := hsm.tr (hm_195.mono (by decide))
    have htx := htx.tr ht_197
    obtain ⟨ts_220, te_221, cc_222, ra_223, rb_224, rc_225, rv_226, re_227, ya_228, h1_229, h2_230, h3_231, h4_232, er_233, et_234, ⟨k_235, c9_236, t_237, f_238, e_239, u_240⟩, ⟨k_241, c9_242, t_243, f_244, e_245, u_246⟩⟩ := id hx_196
    rcases w_192 with rfl | rfl
    · refine lv_if_eq (tgt := 84) hx hb dX4_readOne_77 (by decide) (fun c_247 => ?_) (fun c_247 => absurd (by decide) c_247)
      refine lv_iconst (v := 0) hx hb dX4_readOne_84 (by decide) ?_
      exact W.zret (v := 0) hx hb hr rfl (fun t ht hW => ⟨⟨0, (), rfl, Or.inl rfl, ws_193, ty_194, hsm, htx, by rw [ht]; exact hP, va_K.moved hW.alike hK, hD, (⟨ts_220, te_221, cc_222, ra_223, rb_224, rc_225, rv_226, re_227, ya_228, by omega, by omega, by omega, by omega, er_233, et_234, ⟨k_235, c9_236, t_237, f_238, e_239, u_240⟩, ⟨k_241, c9_242, t_243, f_244, e_245, u_246⟩⟩ : RS ws_193 ty_194 rd krd tp ktp cd bb tl)⟩, hS.F ht⟩) hS.2.2 dX4_readOne_85
    refine lv_if_eq (tgt := 84) hx hb dX4_readOne_77 (by decide) (fun c_248 => absurd c_248 (by decide)) (fun c_248 => ?_)
    refine lv_iconst (v := 1) hx hb dX4_readOne_80 (by decide) ?_
    refine lv_goto (tgt := 85) hx hb dX4_readOne_81 (by decide) ?_
    exact W.zret (v := 1) hx hb hr rfl (fun t ht hW => ⟨⟨1, (), rfl, Or.inr rfl, ws_193, ty_194, hsm, htx, by rw [ht]; exact hP, va_K.moved hW.alike hK, hD, (⟨ts_220, te_221, cc_222, ra_223, rb_224, rc_225, rv_226, re_227, ya_228, by omega, by omega, by omega, by omega, er_233, et_234, ⟨k_235, c9_236, t_237, f_238, e_239, u_240⟩, ⟨k_241, c9_242, t_243, f_244, e_245, u_246⟩⟩ : RS ws_193 ty_194 rd krd tp ktp cd bb tl)⟩, hS.F ht⟩) hS.2.2 dX4_readOne_85
  refine lv_istore_n (lv' := [(2, .int 1), (0, .ref rd), (1, .int 0)]) hx hb dX4_readOne_9 rfl hl (by decide) rfl (fun ls hl => ?_)
  refine lv_iload_n hx hb dX4_readOne_10 rfl (lv_at hl 0 rfl) ?_
  refine lv_if_ne (tgt := 31) hx hb dX4_readOne_11 (by decide) (fun c_249 => ?_) (fun c_249 => absurd c_249 (by decide))
  refine lv_iload_n hx hb dX4_readOne_31 rfl (lv_at hl 2 rfl) ?_
  refine lv_bipush (v := 6) hx hb dX4_readOne_32 (by decide) ?_
  refine lv_icmp_lt (tgt := 50) hx hb dX4_readOne_34 (by decide) (fun c_250 => ?_) (fun c_250 => absurd (by decide) c_250)
  refine lv_aload_n hx hb dX4_readOne_50 rfl (lv_at hl 1 rfl) ?_
  refine va_get (D := D) (ci := 4) (v := .ref tp) (C := RX4) (T := TX4) (N := 8) hx hb hts hin4 hown hK hP krd e_35 rfl 0 (by decide) (hts (.fieldLink RX4 12 "HoneyHouse$RuleReader" "tape" "LHoneyHouse$Tape;") (List.mem_of_getElem? (i := 1) rfl)) (fun _ h9 => h9) rfl dX4_readOne_51 ?_
  have hFc := free_all hD hS hA
  refine va_callv (va_runV (As := []) (rest := []) ⟨hx, hb, hml, hown, hts⟩ (a_advance l D ws_30 ty_31 tp ktp tl te_2 ya_9 (nI ts_1) bb k_22 c9_23 t_24 f_41 H.size (by omega) (by omega) e_36 e_40 u_42) (cwV 0 hts gX4_readOne_X6_advance rfl rfl rfl (by decide +kernel) ⟨Nat.le_of_ble_eq_true rfl, Nat.le_of_ble_eq_true rfl⟩) ⟨fun a U g mk q => by obtain ⟨q0, q1, qP, qK, qD⟩ := q; exact ⟨q0, q1, qP, va_K.moved (u := U) (U := U.calling g mk a) (Vm.Alike.refl U.vm) qK, qD⟩, va_recv hK hP (ci := 6) (q0 := ktp) rfl e_36, fun U hU hW => ⟨rfl, by rw [hU], by rw [hU]; exact hP, va_K.moved hW.alike hK, hD.weaken (fun _ _ _ _ => trivial)⟩⟩ rfl rfl hl.1 rfl (lv_room (Nat.le_of_ble_eq_true rfl)) dX4_readOne_54 ⟨Nat.le_of_ble_eq_true rfl, Nat.le_of_ble_eq_true rfl⟩) hS (fun q _ h => hFc q h) hFc (fun u t H1 locs ht hvm w_252 hB hz1 hk1 hS => ?_)
  obtain ⟨ws_253, ty_254, hm_255, ht_257, hP1, hK1, hD1, hx_256⟩ := hB
  rw [ht] at hP1
  have hK := va_K.moved hvm.symm hK1
  have hD := hD1.weaken (fun _ _ _ h => hFc _ h)
  generalize H1 = H at hP1 hS ⊢
  have hP := hP1
  have e_258 := hm_255.objK e_35 (by decide)
  obtain ⟨g_260, e_259, h_261⟩ := hm_255.obj e_36
  obtain ⟨z_262, z_263, z_264, z_265, rfl⟩ := smX6 h_261
  obtain ⟨f_267, e_266⟩ := hm_255.arrI e_37
  have u_268 := ht_257 _ _ u_39
  obtain ⟨f_270, e_269⟩ := hm_255.arrI e_40
  have u_271 := ht_257 _ _ u_42
  have hsm := hsm.tr (hm_255.mono (by decide))
  have htx := htx.tr ht_257
  obtain ⟨k_272, s_273, e_274, h_275, h_276, h_277, e_278⟩ := hx_256
  refine lv_iload_n hx hb dX4_readOne_57 rfl (lv_at hl 0 rfl) ?_
  refine lv_if_ne (tgt := 86) hx hb dX4_readOne_58 (by decide) (fun c_279 => ?_) (fun c_279 => absurd c_279 (by decide))
  refine lv_aload_n hx hb dX4_readOne_86 rfl (lv_at hl 1 rfl) ?_
  refine lv_iload_n hx hb dX4_readOne_87 rfl (lv_at hl 2 rfl) ?_
  refine lv_iconst (v := 1) hx hb dX4_readOne_88 (by decide) ?_
  refine lv_iadd hx hb dX4_readOne_89 ?_
  refine tp_i (y := 1) (by decide) ?_
  have hFc := free_all hD hS hA
  refine va_calli (va_runV (As := [.int 1]) (rest := []) ⟨hx, hb, hml, hown, hts⟩ (r_readOne1 l D ws_253 ty_254 adK adV fo rd krd tp ktp cd bb tl  H.size (⟨s_273, e_274, cc_3, ra_4, rb_5, rc_6, rv_7, re_8, nI k_272, by omega, by omega, by omega, by omega, e_258, e_278, ⟨k_16, c9_17, t_18, f_267, e_266, u_268⟩, ⟨k_22, c9_23, t_24, f_270, e_269, u_271⟩⟩ : RS ws_253 ty_254 rd krd tp ktp cd bb tl)) (cwV 1 hts gX4_readOne_X4_readOne rfl rfl rfl (by decide +kernel) ⟨Nat.le_of_ble_eq_true rfl, Nat.le_of_ble_eq_true rfl⟩) ⟨fun a U g mk q => by obtain ⟨q0, q1, qP, qK, qD, qS⟩ := q; exact ⟨q0, q1, qP, va_K.moved (u := U) (U := U.calling g mk a) (Vm.Alike.refl U.vm) qK, qD, SZ.same rfl rfl qS⟩, va_recv hK hP (ci := 4) (q0 := krd) rfl e_258, fun U hU hW => ⟨rfl, by rw [hU], by rw [hU]; exact hP, va_K.moved hW.alike hK, hD.weaken (fun _ _ _ _ => trivial), hsz9.go hS hW hU hFc⟩⟩ rfl rfl hl.1 rfl (lv_room (Nat.le_of_ble_eq_true rfl)) dX4_readOne_90 ⟨Nat.le_of_ble_eq_true rfl, Nat.le_of_ble_eq_true rfl⟩) hS (fun q _ h => hFc q h) hFc (fun r_280 u t H1 locs ht hvm w_281 hB hz1 hk1 hS => ?_)
  obtain ⟨ws_282, ty_283, hm_284, ht_286, hP1, hK1, hD1, hx_285⟩ := hB
  rw [ht] at hP1
  have hK := va_K.moved hvm.symm hK1
  have hD := hD1.weaken (fun _ _ _ h => hFc _ h)
  generalize H1 = H at hP1 hS ⊢
  have hP := hP1
  obtain ⟨g_288, e_287, h_289⟩ := hm_284.obj e_258
  obtain ⟨z_290, z_291, z_292, z_293, z_294, z_295, rfl⟩ := smX4 h_289
  obtain ⟨g_297, e_296, h_298⟩ := hm_284.obj e_278
  obtain ⟨z_299, z_300, z_301, z_302, rfl⟩ := smX6 h_298
  obtain ⟨f_304, e_303⟩ := hm_284.arrI e_266
  have u_305 := ht_286 _ _ u_268
  obtain ⟨f_307, e_306⟩ := hm_284.arrI e_269
  have u_308 := ht_286 _ _ u_271
  have hsm := hsm.tr (hm_284.mono (by decide))
  have htx := htx.tr ht_286
  obtain ⟨ts_309, te_310, cc_311, ra_312, rb_313, rc_314, rv_315, re_316, ya_317, h1_318, h2_319, h3_320, h4_321, er_322, et_323, ⟨k_324, c9_325, t_326, f_327, e_328, u_329⟩, ⟨k_330, c9_331, t_332, f_333, e_334, u_335⟩⟩ := id hx_285
  refine lv_istore_n (lv' := [(3, .int r_280), (2, .int 1), (0, .ref rd), (1, .int 0)]) hx hb dX4_readOne_93 rfl hl (by decide) rfl (fun ls hl => ?_)
  refine lv_aload_n hx hb dX4_readOne_94 rfl (lv_at hl 2 rfl) ?_
  refine lv_iconst (v := (-1)) hx hb dX4_readOne_95 (by decide) ?_
  have hFc := free_all hD hS hA
  refine va_callv (va_runV (As := [.int (-1)]) (rest := []) ⟨hx, hb, hml, hown, hts⟩ (r_addCode l D ws_282 ty_283 adK adV fo rd krd tp ktp cd bb tl (-1) H.size (⟨ts_309, te_310, cc_311, ra_312, rb_313, rc_314, rv_315, re_316, ya_317, by omega, by omega, by omega, by omega, er_322, et_323, ⟨k_324, c9_325, t_326, f_327, e_328, u_329⟩, ⟨k_330, c9_331, t_332, f_333, e_334, u_335⟩⟩ : RS ws_282 ty_283 rd krd tp ktp cd bb tl)) (cwV 1 hts gX4_readOne_X4_addCode rfl rfl rfl (by decide +kernel) ⟨Nat.le_of_ble_eq_true rfl, Nat.le_of_ble_eq_true rfl⟩) ⟨fun a U g mk q => by obtain ⟨q0, q1, qP, qK, qD, qS⟩ := q; exact ⟨q0, q1, qP, va_K.moved (u := U) (U := U.calling g mk a) (Vm.Alike.refl U.vm) qK, qD, SZ.same rfl rfl qS⟩, va_recv hK hP (ci := 4) (q0 := krd) rfl er_322, fun U hU hW => ⟨rfl, by rw [hU], by rw [hU]; exact hP, va_K.moved hW.alike hK, hD.weaken (fun _ _ _ _ => trivial), hsz9.go hS hW hU hFc⟩⟩ rfl rfl hl.1 rfl (lv_room (Nat.le_of_ble_eq_true rfl)) dX4_readOne_96 ⟨Nat.le_of_ble_eq_true rfl, Nat.le_of_ble_eq_true rfl⟩) hS (fun q _ h => hFc q h) hFc (fun u t H1 locs ht hvm w_337 hB hz1 hk1 hS => ?_)
  obtain ⟨ws_338, ty_339, hm_340, ht_342, hP1, hK1, hD1, hx_341⟩ := hB
  rw [ht] at hP1
  have hK := va_K.moved hvm.symm hK1
  have hD := hD1.weaken (fun _ _ _ h => hFc _ h)
  generalize H1 = H at hP1 hS ⊢
  have hP := hP1
  obtain ⟨g_344, e_343, h_345⟩ := hm_340.obj er_322
  obtain ⟨z_346, z_347, z_348, z_349, z_350, z_351, rfl⟩ := smX4 h_345
  obtain ⟨g_353, e_352, h_354⟩ := hm_340.obj et_323
  obtain ⟨z_355, z_356, z_357, z_358, rfl⟩ := smX6 h_354
  obtain ⟨f_360, e_359⟩ := hm_340.arrI e_328
  have u_361 := ht_342 _ _ u_329
  obtain ⟨f_363, e_362⟩ := hm_340.arrI e_334
  have u_364 := ht_342 _ _ u_335
  have hsm := hsm.tr (hm_340.mono (by decide))
  have htx := htx.tr ht_342
  obtain ⟨ts_365, te_366, cc_367, ra_368, rb_369, rc_370, rv_371, re_372, ya_373, h1_374, h2_375, h3_376, h4_377, er_378, et_379, ⟨k_380, c9_381, t_382, f_383, e_384, u_385⟩, ⟨k_386, c9_387, t_388, f_389, e_390, u_391⟩⟩ := id hx_341
  refine lv_iload_n hx hb dX4_readOne_99 rfl (lv_at hl 0 rfl) ?_
  exact W.zret (v := r_280) hx hb hr (by rcases w_281 with h9 | h9 <;> rw [h9] <;> rfl) (fun t ht hW => ⟨⟨r_280, (), rfl, w_281, ws_338, ty_339, hsm, htx, by rw [ht]; exact hP, va_K.moved hW.alike hK, hD, (⟨ts_365, te_366, cc_367, ra_368, rb_369, rc_370, rv_371, re_372, ya_373, by omega, by omega, by omega, by omega, er_378, et_379, ⟨k_380, c9_381, t_382, f_383, e_384, u_385⟩, ⟨k_386, c9_387, t_388, f_389, e_390, u_391⟩⟩ : RS ws_338 ty_339 rd krd tp ktp cd bb tl)⟩, hS.F ht⟩) hS.2.2 dX4_readOne_100
set_option maxHeartbeats 4000000 in
set_option maxRecDepth 100000 in
theorem r_readEither0 (l : Launch) (D : va_G) (ws : va_W) (tys : List (ClassId × FieldType)) (adK adV : Nat → Nat) (fo : Option Nat) (rd krd tp ktp cd bb tl : Nat)  (sz : Nat) (R0 : RS ws tys rd krd tp ktp cd bb tl)  : Met l yX4_readEither wsX4_readEither ({ frames := 20, cells := 0, slots := 0, locals := 460 }) (va_Pc [.ref rd, .int 0] (fun U => U.heap.size = sz ∧ va_P D vwCl ws U.heap ∧ va_K D vwCl tys U ∧ va_D (fun _ => True) ws ∧ SZ adK adV fo (va_A ws sz) U U.heap)) (va_Qi (fun (r : Int32) (_ : Unit) => r = 0 ∨ r = 1) (fun (_ : Unit) (t : State) => ∃ (ws' : va_W) (tys' : List (ClassId × FieldType)), sm [4, 6] ws ws' ∧ tyx tys tys' ∧ va_P D vwCl ws' t.heap ∧ va_K D vwCl tys' t ∧ va_D (va_A ws sz) ws' ∧ RS ws' tys' rd krd tp ktp cd bb tl) (va_A ws sz)) 0 0 (va_A ws sz) := by
  refine Met.ofW (cc := cX4_readEither) (maxL := 6) (ret := (some .boolean)) (by decide) rfl ?_
  intro p e s m args below meth c s₁ B hml hv
  obtain ⟨rfl, hsz, hP, hK, hD0, hsz9⟩ := hv
  have hx := B.exec
  have hb := B.bytes
  have hr := B.returns
  have hts := atoms_spec (ws := wsX4_readEither) B.pre
  have hown : s.vm.findClass RX4 = some m.cls := findClass_of_methodNamed B.named
  have hlocks := B.notSynchronized
  subst hsz
  have hD := hD0.self (sz := s.heap.size)
  generalize hAe : va_A ws s.heap.size = A at hD hsz9 ⊢
  have hA : ∀ q : Nat, s.heap.size ≤ q → A q := fun q h => by rw [← hAe]; exact Or.inr h
  have hS : va_S A s.heap s.heap [] := va_S.rf
  have hsm : sm [4, 6] ws ws := sm.rf ws
  have htx : tyx tys tys := tyx.rf tys
  have hin4 : ∀ w ∈ u_ws RX4 TX4 8, w ∈ wsX4_readEither := (fun _ h9 => List.mem_cons_of_mem _ (List.mem_append_left _ ((List.mem_append_right _ h9))))
  have hl := lv_entry ([.ref rd, .int 0]) (n := 6) (Nat.le_of_ble_eq_true rfl)
  rw [lg_entry_eq]
  generalize (lg_sl ([.ref rd, .int 0]) ++ List.replicate (6 - (lg_sl ([.ref rd, .int 0])).length) Slot.unset).toArray = ls at hl ⊢
  have hl : lv_has ls 6 [(0, .ref rd), (1, .int 0)] := hl
  obtain ⟨ts_1, te_2, cc_3, ra_4, rb_5, rc_6, rv_7, re_8, ya_9, h1_10, h2_11, h3_12, h4_13, er_14, et_15, ⟨k_16, c9_17, t_18, f_19, e_20, u_21⟩, ⟨k_22, c9_23, t_24, f_25, e_26, u_27⟩⟩ := id R0
  refine lv_aload_n hx hb dX4_readEither_0 rfl (lv_at hl 0 rfl) ?_
  refine lv_iload_n hx hb dX4_readEither_1 rfl (lv_at hl 1 rfl) ?_
  have hFc := free_all hD hS hA
  refine va_calli (va_runV (As := [.int 0]) (rest := []) ⟨hx, hb, hml, hown, hts⟩ (r_readOne0 l D ws tys adK adV fo rd krd tp ktp cd bb tl  s.heap.size (⟨ts_1, te_2, cc_3, ra_4, rb_5, rc_6, rv_7, re_8, ya_9, by omega, by omega, by omega, by omega, er_14, et_15, ⟨k_16, c9_17, t_18, f_19, e_20, u_21⟩, ⟨k_22, c9_23, t_24, f_25, e_26, u_27⟩⟩ : RS ws tys rd krd tp ktp cd bb tl)) (cwV 1 hts gX4_readEither_X4_readOne rfl rfl rfl (by decide +kernel) ⟨Nat.le_of_ble_eq_true rfl, Nat.le_of_ble_eq_true rfl⟩) ⟨fun a U g mk q => by obtain ⟨q0, q1, qP, qK, qD, qS⟩ := q; exact ⟨q0, q1, qP, va_K.moved (u := U) (U := U.calling g mk a) (Vm.Alike.refl U.vm) qK, qD, SZ.same rfl rfl qS⟩, va_recv hK hP (ci := 4) (q0 := krd) rfl er_14, fun U hU hW => ⟨rfl, by rw [hU], by rw [hU]; exact hP, va_K.moved hW.alike hK, hD.weaken (fun _ _ _ _ => trivial), hsz9.go hS hW hU hFc⟩⟩ rfl rfl hl.1 rfl (lv_room (Nat.le_of_ble_eq_true rfl)) dX4_readEither_2 ⟨Nat.le_of_ble_eq_true rfl, Nat.le_of_ble_eq_true rfl⟩) hS (fun q _ h => hFc q h) hFc (fun r_28 u t H1 locs ht hvm w_29 hB hz1 hk1 hS => ?_)
  obtain ⟨ws_30, ty_31, hm_32, ht_34, hP1, hK1, hD1, hx_33⟩ := hB
  rw [ht] at hP1
  have hK := va_K.moved hvm.symm hK1
  have hD := hD1.weaken (fun _ _ _ h => hFc _ h)
  generalize H1 = H at hP1 hS ⊢
  have hP := hP1
  obtain ⟨g_36, e_35, h_37⟩ := hm_32.obj er_14
  obtain ⟨z_38, z_39, z_40, z_41, z_42, z_43, rfl⟩ := smX4 h_37
  obtain ⟨g_45, e_44, h_46⟩ := hm_32.obj et_15
  obtain ⟨z_47, z_48, z_49, z_50, rfl⟩ := smX6 h_46
  obtain ⟨f_52, e_51⟩ := hm_32.arrI e_20
  have u_53 := ht_34 _ _ u_21
  obtain ⟨f_55, e_54⟩ := hm_32.arrI e_26
  have u_56 := ht_34 _ _ u_27
  have hsm := hsm.tr (hm_32.mono (by decide))
  have htx := htx.tr ht_34
  obtain ⟨ts_57, te_58, cc_59, ra_60, rb_61, rc_62, rv_63, re_64, ya_65, h1_66, h2_67, h3_68, h4_69, er_70, et_71, ⟨k_72, c9_73, t_74, f_75, e_76, u_77⟩, ⟨k_78, c9_79, t_80, f_81, e_82, u_83⟩⟩ := id hx_33
  refine lv_istore_n (lv' := [(2, .int r_28), (0, .ref rd), (1, .int 0)]) hx hb dX4_readEither_5 rfl hl (by decide) rfl (fun ls hl => ?_)
  refine lv_iconst (v := 0) hx hb dX4_readEither_6 (by decide) ?_
  refine lv_istore_n (lv' := [(3, .int 0), (2, .int r_28), (0, .ref rd), (1, .int 0)]) hx hb dX4_readEither_7 rfl hl (by decide) rfl (fun ls hl => ?_)
  refine lv_iconst (v := 0) hx hb dX4_readEither_8 (by decide) ?_
  refine lv_istore (lv' := [(4, .int 0), (3, .int 0), (2, .int r_28), (0, .ref rd), (1, .int 0)]) hx hb dX4_readEither_9 hl (by decide) rfl (fun ls hl => ?_)
  refine lp_V (nL := 6) (σ := Nat × Int32 × Int32) (lv := fun x9 => [(4, .int (nI x9.1)), (2, .int x9.2.1), (3, .int x9.2.2), (1, .int 0), (0, .ref rd)]) (μ := fun x9 => 400 - x9.1) (J := fun x9 ws9 => sm [4, 6] ws_30 ws9 ∧ (∃ ty9 : List (ClassId × FieldType), va_K D vwCl ty9 s ∧ tyx tys ty9 ∧ RS ws9 ty9 rd krd tp ktp cd bb tl) ∧ (x9.1 ≤ 400) ∧ (x9.2.1 = 0 ∨ x9.2.1 = 1) ∧ (x9.2.2 = 0 ∨ x9.2.2 = 1)) (fun x9 ws_91 H locs ls hj hP hD hS hl ih_84 => ?_) (0, r_28, 0) ws_30 _ _ ls ⟨sm.rf _, ⟨ty_31, hK, htx, (⟨ts_57, te_58, cc_59, ra_60, rb_61, rc_62, rv_63, re_64, ya_65, by omega, by omega, by omega, by omega, er_70, et_71, ⟨k_72, c9_73, t_74, f_75, e_76, u_77⟩, ⟨k_78, c9_79, t_80, f_81, e_82, u_83⟩⟩ : RS ws_30 ty_31 rd krd tp ktp cd bb tl)⟩, (show 0 ≤ 400 from by omega), (show r_28 = 0 ∨ r_28 = 1 from w_29), (show 0 = 0 ∨ 0 = 1 from Or.inl rfl)⟩ hP hD hS (lv_sub hl [0, 2, 1, 4, 3] rfl)
  obtain ⟨i_85, x_86, y_87⟩ := x9
  have hj : sm [4, 6] ws_30 ws_91 ∧ (∃ ty9 : List (ClassId × FieldType), va_K D vwCl ty9 s ∧ tyx tys ty9 ∧ RS ws_91 ty9 rd krd tp ktp cd bb tl) ∧ (i_85 ≤ 400) ∧ (x_86 = 0 ∨ x_86 = 1) ∧ (y_87 = 0 ∨ y_87 = 1) := hj
  obtain ⟨hm_92, hR_94, hi_88, hbx_89, hby_90⟩ := hj
  obtain ⟨g_96, e_95, h_97⟩ := hm_92.obj er_70
  obtain ⟨z_98, z_99, z_100, z_101, z_102, z_103, rfl⟩ := smX4 h_97
  obtain ⟨g_105, e_104, h_106⟩ := hm_92.obj et_71
  obtain ⟨z_107, z_108, z_109, z_110, rfl⟩ := smX6 h_106
  obtain ⟨f_112, e_111⟩ := hm_92.arrI e_76
  obtain ⟨f_114, e_113⟩ := hm_92.arrI e_82
  have hsm := hsm.tr (hm_92.mono (by decide))
  obtain ⟨ty_115, hK, htx, hR_116⟩ := hR_94
  obtain ⟨ts_117, te_118, cc_119, ra_120, rb_121, rc_122, rv_123, re_124, ya_125, h1_126, h2_127, h3_128, h4_129, er_130, et_131, ⟨k_132, c9_133, t_134, f_135, e_136, u_137⟩, ⟨k_138, c9_139, t_140, f_141, e_142, u_143⟩⟩ := id hR_116
  have hlp_93 := hm_92
  have hl : lv_has ls 6 [(4, .int (nI i_85)), (2, .int x_86), (3, .int y_87), (1, .int 0), (0, .ref rd)] := hl
  refine lv_iload hx hb dX4_readEither_11 (lv_at hl 0 rfl) ?_
  refine lv_sipush (v := 400) hx hb dX4_readEither_13 (by decide) ?_
  refine lv_icmp_ge (tgt := 101) hx hb dX4_readEither_16 (by decide) (fun c_144 => ?_) (fun c_144 => ?_)
  · have d_145 := n_le (a := 400) (b := i_85) (by omega) (by omega) c_144
    refine lv_iload_n hx hb dX4_readEither_101 rfl (lv_at hl 2 rfl) ?_
    refine lv_if_eq (tgt := 111) hx hb dX4_readEither_102 (by decide) (fun c_146 => ?_) (fun c_146 => ?_)
    · refine lv_iload_n hx hb dX4_readEither_111 rfl (lv_at hl 1 rfl) ?_
      exact W.zret (v := x_86) hx hb hr (by rcases hbx_89 with h9 | h9 <;> rw [h9] <;> rfl) (fun t ht hW => ⟨⟨x_86, (), rfl, hbx_89, ws_91, ty_115, hsm, htx, by rw [ht]; exact hP, va_K.moved hW.alike hK, hD, (⟨ts_117, te_118, cc_119, ra_120, rb_121, rc_122, rv_123, re_124, ya_125, by omega, by omega, by omega, by omega, er_130, et_131, ⟨k_132, c9_133, t_134, f_135, e_136, u_137⟩, ⟨k_138, c9_139, t_140, f_141, e_142, u_143⟩⟩ : RS ws_91 ty_115 rd krd tp ktp cd bb tl)⟩, hS.F ht⟩) hS.2.2 dX4_readEither_112
    refine lv_aload_n hx hb dX4_readEither_105 rfl (lv_at hl 4 rfl) ?_
    refine lv_bipush (v := (-3)) hx hb dX4_readEither_106 (by decide) ?_
    have hFc := free_all hD hS hA
    refine va_callv (va_runV (As := [.int (-3)]) (rest := []) ⟨hx, hb, hml, hown, hts⟩ (r_addCode l D ws_91 ty_115 adK adV fo rd krd tp ktp cd bb tl (-3) H.size (⟨ts_117, te_118, cc_119, ra_120, rb_121, rc_122, rv_123, re_124, ya_125, by omega, by omega, by omega, by omega, er_130, et_131, ⟨k_132, c9_133, t_134, f_135, e_136, u_137⟩, ⟨k_138, c9_139, t_140, f_141, e_142, u_143⟩⟩ : RS ws_91 ty_115 rd krd tp ktp cd bb tl)) (cwV 1 hts gX4_readEither_X4_addCode rfl rfl rfl (by decide +kernel) ⟨Nat.le_of_ble_eq_true rfl, Nat.le_of_ble_eq_true rfl⟩) ⟨fun a U g mk q => by obtain ⟨q0, q1, qP, qK, qD, qS⟩ := q; exact ⟨q0, q1, qP, va_K.moved (u := U) (U := U.calling g mk a) (Vm.Alike.refl U.vm) qK, qD, SZ.same rfl rfl qS⟩, va_recv hK hP (ci := 4) (q0 := krd) rfl er_130, fun U hU hW => ⟨rfl, by rw [hU], by rw [hU]; exact hP, va_K.moved hW.alike hK, hD.weaken (fun _ _ _ _ => trivial), hsz9.go hS hW hU hFc⟩⟩ rfl rfl hl.1 rfl (lv_room (Nat.le_of_ble_eq_true rfl)) dX4_readEither_108 ⟨Nat.le_of_ble_eq_true rfl, Nat.le_of_ble_eq_true rfl⟩) hS (fun q _ h => hFc q h) hFc (fun u t H1 locs ht hvm w_148 hB hz1 hk1 hS => ?_)
    obtain ⟨ws_149, ty_150, hm_151, ht_153, hP1, hK1, hD1, hx_152⟩ := hB
    rw [ht] at hP1
    have hK := va_K.moved hvm.symm hK1
    have hD := hD1.weaken (fun _ _ _ h => hFc _ h)
    generalize H1 = H at hP1 hS ⊢
    have hP := hP1
    obtain ⟨g_155, e_154, h_156⟩ := hm_151.obj er_130
    obtain ⟨z_157, z_158, z_159, z_160, z_161, z_162, rfl⟩ := smX4 h_156
    obtain ⟨g_164, e_163, h_165⟩ := hm_151.obj et_131
    obtain ⟨z_166, z_167, z_168, z_169, rfl⟩ := smX6 h_165
    obtain ⟨f_171, e_170⟩ := hm_151.arrI e_136
    have u_172 := ht_153 _ _ u_137
    obtain ⟨f_174, e_173⟩ := hm_151.arrI e_142
    have u_175 := ht_153 _ _ u_143
    have hsm := hsm.tr (hm_151.mono (by decide))
    have hlp_93 := hlp_93.tr (hm_151.mono (by decide))
    have htx := htx.tr ht_153
    obtain ⟨ts_176, te_177, cc_178, ra_179, rb_180, rc_181, rv_182, re_183, ya_184, h1_185, h2_186, h3_187, h4_188, er_189, et_190, ⟨k_191, c9_192, t_193, f_194, e_195, u_196⟩, ⟨k_197, c9_198, t_199, f_200, e_201, u_202⟩⟩ := id hx_152
    refine lv_iload_n hx hb dX4_readEither_111 rfl (lv_at hl 1 rfl) ?_
    exact W.zret (v := x_86) hx hb hr (by rcases hbx_89 with h9 | h9 <;> rw [h9] <;> rfl) (fun t ht hW => ⟨⟨x_86, (), rfl, hbx_89, ws_149, ty_150, hsm, htx, by rw [ht]; exact hP, va_K.moved hW.alike hK, hD, (⟨ts_176, te_177, cc_178, ra_179, rb_180, rc_181, rv_182, re_183, ya_184, by omega, by omega, by omega, by omega, er_189, et_190, ⟨k_191, c9_192, t_193, f_194, e_195, u_196⟩, ⟨k_197, c9_198, t_199, f_200, e_201, u_202⟩⟩ : RS ws_149 ty_150 rd krd tp ktp cd bb tl)⟩, hS.F ht⟩) hS.2.2 dX4_readEither_112
  have d_203 := n_nle (a := 400) (b := i_85) (by omega) (by omega) c_144
  refine lv_iload_n hx hb dX4_readEither_19 rfl (lv_at hl 1 rfl) ?_
  refine lv_if_eq (tgt := 101) hx hb dX4_readEither_20 (by decide) (fun c_204 => ?_) (fun c_204 => ?_)
  · refine lv_iload_n hx hb dX4_readEither_101 rfl (lv_at hl 2 rfl) ?_
    refine lv_if_eq (tgt := 111) hx hb dX4_readEither_102 (by decide) (fun c_205 => ?_) (fun c_205 => ?_)
    · refine lv_iload_n hx hb dX4_readEither_111 rfl (lv_at hl 1 rfl) ?_
      exact W.zret (v := x_86) hx hb hr (by rcases hbx_89 with h9 | h9 <;> rw [h9] <;> rfl) (fun t ht hW => ⟨⟨x_86, (), rfl, hbx_89, ws_91, ty_115, hsm, htx, by rw [ht]; exact hP, va_K.moved hW.alike hK, hD, (⟨ts_117, te_118, cc_119, ra_120, rb_121, rc_122, rv_123, re_124, ya_125, by omega, by omega, by omega, by omega, er_130, et_131, ⟨k_132, c9_133, t_134, f_135, e_136, u_137⟩, ⟨k_138, c9_139, t_140, f_141, e_142, u_143⟩⟩ : RS ws_91 ty_115 rd krd tp ktp cd bb tl)⟩, hS.F ht⟩) hS.2.2 dX4_readEither_112
    refine lv_aload_n hx hb dX4_readEither_105 rfl (lv_at hl 4 rfl) ?_
    refine lv_bipush (v := (-3)) hx hb dX4_readEither_106 (by decide) ?_
    have hFc := free_all hD hS hA
    refine va_callv (va_runV (As := [.int (-3)]) (rest := []) ⟨hx, hb, hml, hown, hts⟩ (r_addCode l D ws_91 ty_115 adK adV fo rd krd tp ktp cd bb tl (-3) H.size (⟨ts_117, te_118, cc_119, ra_120, rb_121, rc_122, rv_123, re_124, ya_125, by omega, by omega, by omega, by omega, er_130, et_131, ⟨k_132, c9_133, t_134, f_135, e_136, u_137⟩, ⟨k_138, c9_139, t_140, f_141, e_142, u_143⟩⟩ : RS ws_91 ty_115 rd krd tp ktp cd bb tl)) (cwV 1 hts gX4_readEither_X4_addCode rfl rfl rfl (by decide +kernel) ⟨Nat.le_of_ble_eq_true rfl, Nat.le_of_ble_eq_true rfl⟩) ⟨fun a U g mk q => by obtain ⟨q0, q1, qP, qK, qD, qS⟩ := q; exact ⟨q0, q1, qP, va_K.moved (u := U) (U := U.calling g mk a) (Vm.Alike.refl U.vm) qK, qD, SZ.same rfl rfl qS⟩, va_recv hK hP (ci := 4) (q0 := krd) rfl er_130, fun U hU hW => ⟨rfl, by rw [hU], by rw [hU]; exact hP, va_K.moved hW.alike hK, hD.weaken (fun _ _ _ _ => trivial), hsz9.go hS hW hU hFc⟩⟩ rfl rfl hl.1 rfl (lv_room (Nat.le_of_ble_eq_true rfl)) dX4_readEither_108 ⟨Nat.le_of_ble_eq_true rfl, Nat.le_of_ble_eq_true rfl⟩) hS (fun q _ h => hFc q h) hFc (fun u t H1 locs ht hvm w_207 hB hz1 hk1 hS => ?_)
    obtain ⟨ws_208, ty_209, hm_210, ht_212, hP1, hK1, hD1, hx_211⟩ := hB
    rw [ht] at hP1
    have hK := va_K.moved hvm.symm hK1
    have hD := hD1.weaken (fun _ _ _ h => hFc _ h)
    generalize H1 = H at hP1 hS ⊢
    have hP := hP1
    obtain ⟨g_214, e_213, h_215⟩ := hm_210.obj er_130
    obtain ⟨z_216, z_217, z_218, z_219, z_220, z_221, rfl⟩ := smX4 h_215
    obtain ⟨g_223, e_222, h_224⟩ := hm_210.obj et_131
    obtain ⟨z_225, z_226, z_227, z_228, rfl⟩ := smX6 h_224
    obtain ⟨f_230, e_229⟩ := hm_210.arrI e_136
    have u_231 := ht_212 _ _ u_137
    obtain ⟨f_233, e_232⟩ := hm_210.arrI e_142
    have u_234 := ht_212 _ _ u_143
    have hsm := hsm.tr (hm_210.mono (by decide))
    have hlp_93 := hlp_93.tr (hm_210.mono (by decide))
    have htx := htx.tr ht_212
    obtain ⟨ts_235, te_236, cc_237, ra_238, rb_239, rc_240, rv_241, re_242, ya_243, h1_244, h2_245, h3_246, h4_247, er_248, et_249, ⟨k_250, c9_251, t_252, f_253, e_254, u_255⟩, ⟨k_256, c9_257, t_258, f_259, e_260, u_261⟩⟩ := id hx_211
    refine lv_iload_n hx hb dX4_readEither_111 rfl (lv_at hl 1 rfl) ?_
    exact W.zret (v := x_86) hx hb hr (by rcases hbx_89 with h9 | h9 <;> rw [h9] <;> rfl) (fun t ht hW => ⟨⟨x_86, (), rfl, hbx_89, ws_208, ty_209, hsm, htx, by rw [ht]; exact hP, va_K.moved hW.alike hK, hD, (⟨ts_235, te_236, cc_237, ra_238, rb_239, rc_240, rv_241, re_242, ya_243, by omega, by omega, by omega, by omega, er_248, et_249, ⟨k_250, c9_251, t_252, f_253, e_254, u_255⟩, ⟨k_256, c9_257, t_258, f_259, e_260, u_261⟩⟩ : RS ws_208 ty_209 rd krd tp ktp cd bb tl)⟩, hS.F ht⟩) hS.2.2 dX4_readEither_112
  refine lv_aload_n hx hb dX4_readEither_23 rfl (lv_at hl 4 rfl) ?_
  have hFc := free_all hD hS hA
  refine va_calli (va_runV (As := []) (rest := []) ⟨hx, hb, hml, hown, hts⟩ (r_isAndOr l D ws_91 ty_115 adK adV fo rd krd tp ktp cd bb tl  H.size (⟨ts_117, te_118, cc_119, ra_120, rb_121, rc_122, rv_123, re_124, ya_125, by omega, by omega, by omega, by omega, er_130, et_131, ⟨k_132, c9_133, t_134, f_135, e_136, u_137⟩, ⟨k_138, c9_139, t_140, f_141, e_142, u_143⟩⟩ : RS ws_91 ty_115 rd krd tp ktp cd bb tl)) (cwV 0 hts gX4_readEither_X4_isAndOr rfl rfl rfl (by decide +kernel) ⟨Nat.le_of_ble_eq_true rfl, Nat.le_of_ble_eq_true rfl⟩) ⟨fun a U g mk q => by obtain ⟨q0, q1, qP, qK, qD, qS⟩ := q; exact ⟨q0, q1, qP, va_K.moved (u := U) (U := U.calling g mk a) (Vm.Alike.refl U.vm) qK, qD, SZ.same rfl rfl qS⟩, va_recv hK hP (ci := 4) (q0 := krd) rfl er_130, fun U hU hW => ⟨rfl, by rw [hU], by rw [hU]; exact hP, va_K.moved hW.alike hK, hD.weaken (fun _ _ _ _ => trivial), hsz9.go hS hW hU hFc⟩⟩ rfl rfl hl.1 rfl (lv_room (Nat.le_of_ble_eq_true rfl)) dX4_readEither_24 ⟨Nat.le_of_ble_eq_true rfl, Nat.le_of_ble_eq_true rfl⟩) hS (fun q _ h => hFc q h) hFc (fun r_262 u t H1 locs ht hvm w_263 hB hz1 hk1 hS => ?_)
  obtain ⟨ws_264, ty_265, hm_266, ht_268, hP1, hK1, hD1, hx_267⟩ := hB
  rw [ht] at hP1
  have hK := va_K.moved hvm.symm hK1
  have hD := hD1.weaken (fun _ _ _ h => hFc _ h)
  generalize H1 = H at hP1 hS ⊢
  have hP := hP1
  have e_269 := hm_266.objK er_130 (by decide)
  have e_270 := hm_266.objK et_131 (by decide)
  obtain ⟨f_272, e_271⟩ := hm_266.arrI e_136
  have u_273 := ht_268 _ _ u_137
  obtain ⟨f_275, e_274⟩ := hm_266.arrI e_142
  have u_276 := ht_268 _ _ u_143
  have hsm := hsm.tr (hm_266.mono (by decide))
  have hlp_93 := hlp_93.tr (hm_266.mono (by decide))
  have htx := htx.tr ht_268
  rcases w_263 with rfl | rfl
  · refine lv_if_eq (tgt := 101) hx hb dX4_readEither_27 (by decide) (fun c_277 => ?_) (fun c_277 => absurd (by decide) c_277)
    refine lv_iload_n hx hb dX4_readEither_101 rfl (lv_at hl 2 rfl) ?_
    refine lv_if_eq (tgt := 111) hx hb dX4_readEither_102 (by decide) (fun c_278 => ?_) (fun c_278 => ?_)
    · refine lv_iload_n hx hb dX4_readEither_111 rfl (lv_at hl 1 rfl) ?_
      exact W.zret (v := x_86) hx hb hr (by rcases hbx_89 with h9 | h9 <;> rw [h9] <;> rfl) (fun t ht hW => ⟨⟨x_86, (), rfl, hbx_89, ws_264, ty_265, hsm, htx, by rw [ht]; exact hP, va_K.moved hW.alike hK, hD, (⟨ts_117, te_118, cc_119, ra_120, rb_121, rc_122, rv_123, re_124, ya_125, by omega, by omega, by omega, by omega, e_269, e_270, ⟨k_132, c9_133, t_134, f_272, e_271, u_273⟩, ⟨k_138, c9_139, t_140, f_275, e_274, u_276⟩⟩ : RS ws_264 ty_265 rd krd tp ktp cd bb tl)⟩, hS.F ht⟩) hS.2.2 dX4_readEither_112
    refine lv_aload_n hx hb dX4_readEither_105 rfl (lv_at hl 4 rfl) ?_
    refine lv_bipush (v := (-3)) hx hb dX4_readEither_106 (by decide) ?_
    have hFc := free_all hD hS hA
    refine va_callv (va_runV (As := [.int (-3)]) (rest := []) ⟨hx, hb, hml, hown, hts⟩ (r_addCode l D ws_264 ty_265 adK adV fo rd krd tp ktp cd bb tl (-3) H.size (⟨ts_117, te_118, cc_119, ra_120, rb_121, rc_122, rv_123, re_124, ya_125, by omega, by omega, by omega, by omega, e_269, e_270, ⟨k_132, c9_133, t_134, f_272, e_271, u_273⟩, ⟨k_138, c9_139, t_140, f_275, e_274, u_276⟩⟩ : RS ws_264 ty_265 rd krd tp ktp cd bb tl)) (cwV 1 hts gX4_readEither_X4_addCode rfl rfl rfl (by decide +kernel) ⟨Nat.le_of_ble_eq_true rfl, Nat.le_of_ble_eq_true rfl⟩) ⟨fun a U g mk q => by obtain ⟨q0, q1, qP, qK, qD, qS⟩ := q; exact ⟨q0, q1, qP, va_K.moved (u := U) (U := U.calling g mk a) (Vm.Alike.refl U.vm) qK, qD, SZ.same rfl rfl qS⟩, va_recv hK hP (ci := 4) (q0 := krd) rfl e_269, fun U hU hW => ⟨rfl, by rw [hU], by rw [hU]; exact hP, va_K.moved hW.alike hK, hD.weaken (fun _ _ _ _ => trivial), hsz9.go hS hW hU hFc⟩⟩ rfl rfl hl.1 rfl (lv_room (Nat.le_of_ble_eq_true rfl)) dX4_readEither_108 ⟨Nat.le_of_ble_eq_true rfl, Nat.le_of_ble_eq_true rfl⟩) hS (fun q _ h => hFc q h) hFc (fun u t H1 locs ht hvm w_280 hB hz1 hk1 hS => ?_)
    obtain ⟨ws_281, ty_282, hm_283, ht_285, hP1, hK1, hD1, hx_284⟩ := hB
    rw [ht] at hP1
    have hK := va_K.moved hvm.symm hK1
    have hD := hD1.weaken (fun _ _ _ h => hFc _ h)
    generalize H1 = H at hP1 hS ⊢
    have hP := hP1
    obtain ⟨g_287, e_286, h_288⟩ := hm_283.obj e_269
    obtain ⟨z_289, z_290, z_291, z_292, z_293, z_294, rfl⟩ := smX4 h_288
    obtain ⟨g_296, e_295, h_297⟩ := hm_283.obj e_270
    obtain ⟨z_298, z_299, z_300, z_301, rfl⟩ := smX6 h_297
    obtain ⟨f_303, e_302⟩ := hm_283.arrI e_271
    have u_304 := ht_285 _ _ u_273
    obtain ⟨f_306, e_305⟩ := hm_283.arrI e_274
    have u_307 := ht_285 _ _ u_276
    have hsm := hsm.tr (hm_283.mono (by decide))
    have hlp_93 := hlp_93.tr (hm_283.mono (by decide))
    have htx := htx.tr ht_285
    obtain ⟨ts_308, te_309, cc_310, ra_311, rb_312, rc_313, rv_314, re_315, ya_316, h1_317, h2_318, h3_319, h4_320, er_321, et_322, ⟨k_323, c9_324, t_325, f_326, e_327, u_328⟩, ⟨k_329, c9_330, t_331, f_332, e_333, u_334⟩⟩ := id hx_284
    refine lv_iload_n hx hb dX4_readEither_111 rfl (lv_at hl 1 rfl) ?_
    exact W.zret (v := x_86) hx hb hr (by rcases hbx_89 with h9 | h9 <;> rw [h9] <;> rfl) (fun t ht hW => ⟨⟨x_86, (), rfl, hbx_89, ws_281, ty_282, hsm, htx, by rw [ht]; exact hP, va_K.moved hW.alike hK, hD, (⟨ts_308, te_309, cc_310, ra_311, rb_312, rc_313, rv_314, re_315, ya_316, by omega, by omega, by omega, by omega, er_321, et_322, ⟨k_323, c9_324, t_325, f_326, e_327, u_328⟩, ⟨k_329, c9_330, t_331, f_332, e_333, u_334⟩⟩ : RS ws_281 ty_282 rd krd tp ktp cd bb tl)⟩, hS.F ht⟩) hS.2.2 dX4_readEither_112
  refine lv_if_eq (tgt := 101) hx hb dX4_readEither_27 (by decide) (fun c_335 => absurd c_335 (by decide)) (fun c_335 => ?_)
  refine lv_aload_n hx hb dX4_readEither_30 rfl (lv_at hl 4 rfl) ?_
  refine va_get (D := D) (ci := 4) (v := .ref tp) (C := RX4) (T := TX4) (N := 8) hx hb hts hin4 hown hK hP krd e_269 rfl 0 (by decide) (hts (.fieldLink RX4 12 "HoneyHouse$RuleReader" "tape" "LHoneyHouse$Tape;") (List.mem_of_getElem? (i := 1) rfl)) (fun _ h9 => h9) rfl dX4_readEither_31 ?_
  refine va_ldcS hx hb hown hsz9.2.2.2.2.2.1 dX4_readEither_34 ?_
  have hFc := free_all hD hS hA
  refine va_calli (va_runV (As := [.ref (adK 2)]) (rest := []) ⟨hx, hb, hml, hown, hts⟩ (a_isWord l D ws_264 ty_265 adK adV fo 2 tp ktp tl ya_125 (nI ts_117) (nI te_118) bb k_138 c9_139 t_140 f_275 H.size (by decide) e_270 e_274 u_276) (cwV 1 hts gX4_readEither_X6_isWord rfl rfl rfl (by decide +kernel) ⟨Nat.le_of_ble_eq_true rfl, Nat.le_of_ble_eq_true rfl⟩) ⟨fun a U g mk q => by obtain ⟨q0, q1, qP, qK, qD, qS⟩ := q; exact ⟨q0, q1, qP, va_K.moved (u := U) (U := U.calling g mk a) (Vm.Alike.refl U.vm) qK, qD, SZ.same rfl rfl qS⟩, va_recv hK hP (ci := 6) (q0 := ktp) rfl e_270, fun U hU hW => ⟨rfl, by rw [hU], by rw [hU]; exact hP, va_K.moved hW.alike hK, hD.weaken (fun _ _ _ _ => trivial), hsz9.go hS hW hU hFc⟩⟩ rfl rfl hl.1 rfl (lv_room (Nat.le_of_ble_eq_true rfl)) dX4_readEither_36 ⟨Nat.le_of_ble_eq_true rfl, Nat.le_of_ble_eq_true rfl⟩) hS (fun q _ h => hFc q h) hFc (fun r_336 u t H1 locs ht hvm w_337 hB hz1 hk1 hS => ?_)
  obtain ⟨ws_338, ty_339, hm_340, ht_342, hP1, hK1, hD1, hx_341⟩ := hB
  rw [ht] at hP1
  have hK := va_K.moved hvm.symm hK1
  have hD := hD1.weaken (fun _ _ _ h => hFc _ h)
  generalize H1 = H at hP1 hS ⊢
  have hP := hP1
  have e_343 := hm_340.objK e_269 (by decide)
  have e_344 := hm_340.objK e_270 (by decide)
  obtain ⟨f_346, e_345⟩ := hm_340.arrI e_271
  have u_347 := ht_342 _ _ u_273
  obtain ⟨f_349, e_348⟩ := hm_340.arrI e_274
  have u_350 := ht_342 _ _ u_276
  have hsm := hsm.tr (hm_340.mono (by decide))
  have hlp_93 := hlp_93.tr (hm_340.mono (by decide))
  have htx := htx.tr ht_342
  rcases w_337 with rfl | rfl
  · refine lv_istore (lv' := [(5, .int 0), (4, .int (nI i_85)), (2, .int x_86), (3, .int y_87), (1, .int 0), (0, .ref rd)]) hx hb dX4_readEither_39 hl (by decide) rfl (fun ls hl => ?_)
    refine lv_iload hx hb dX4_readEither_41 (lv_at hl 0 rfl) ?_
    refine lv_if_ne (tgt := 56) hx hb dX4_readEither_43 (by decide) (fun c_351 => absurd (by decide) c_351) (fun c_351 => ?_)
    refine lv_iload_n hx hb dX4_readEither_46 rfl (lv_at hl 3 rfl) ?_
    refine lv_if_eq (tgt := 56) hx hb dX4_readEither_47 (by decide) (fun c_352 => ?_) (fun c_352 => ?_)
    · refine lv_iload_n hx hb dX4_readEither_56 rfl (lv_at hl 3 rfl) ?_
      refine lv_if_ne (tgt := 65) hx hb dX4_readEither_57 (by decide) (fun c_353 => ?_) (fun c_353 => ?_)
      · refine lv_iconst (v := 1) hx hb dX4_readEither_65 (by decide) ?_
        refine lv_goto (tgt := 70) hx hb dX4_readEither_66 (by decide) ?_
        refine lv_istore_n (lv' := [(3, .int 1), (5, .int 0), (4, .int (nI i_85)), (2, .int x_86), (1, .int 0), (0, .ref rd)]) hx hb dX4_readEither_70 rfl hl (by decide) rfl (fun ls hl => ?_)
        refine lv_aload_n hx hb dX4_readEither_71 rfl (lv_at hl 5 rfl) ?_
        refine va_get (D := D) (ci := 4) (v := .ref tp) (C := RX4) (T := TX4) (N := 8) hx hb hts hin4 hown hK hP krd e_343 rfl 0 (by decide) (hts (.fieldLink RX4 12 "HoneyHouse$RuleReader" "tape" "LHoneyHouse$Tape;") (List.mem_of_getElem? (i := 1) rfl)) (fun _ h9 => h9) rfl dX4_readEither_72 ?_
        have hFc := free_all hD hS hA
        refine va_callv (va_runV (As := []) (rest := []) ⟨hx, hb, hml, hown, hts⟩ (a_advance l D ws_338 ty_339 tp ktp tl te_118 ya_125 (nI ts_117) bb k_138 c9_139 t_140 f_349 H.size (by omega) (by omega) e_344 e_348 u_350) (cwV 0 hts gX4_readEither_X6_advance rfl rfl rfl (by decide +kernel) ⟨Nat.le_of_ble_eq_true rfl, Nat.le_of_ble_eq_true rfl⟩) ⟨fun a U g mk q => by obtain ⟨q0, q1, qP, qK, qD⟩ := q; exact ⟨q0, q1, qP, va_K.moved (u := U) (U := U.calling g mk a) (Vm.Alike.refl U.vm) qK, qD⟩, va_recv hK hP (ci := 6) (q0 := ktp) rfl e_344, fun U hU hW => ⟨rfl, by rw [hU], by rw [hU]; exact hP, va_K.moved hW.alike hK, hD.weaken (fun _ _ _ _ => trivial)⟩⟩ rfl rfl hl.1 rfl (lv_room (Nat.le_of_ble_eq_true rfl)) dX4_readEither_75 ⟨Nat.le_of_ble_eq_true rfl, Nat.le_of_ble_eq_true rfl⟩) hS (fun q _ h => hFc q h) hFc (fun u t H1 locs ht hvm w_355 hB hz1 hk1 hS => ?_)
        obtain ⟨ws_356, ty_357, hm_358, ht_360, hP1, hK1, hD1, hx_359⟩ := hB
        rw [ht] at hP1
        have hK := va_K.moved hvm.symm hK1
        have hD := hD1.weaken (fun _ _ _ h => hFc _ h)
        generalize H1 = H at hP1 hS ⊢
        have hP := hP1
        have e_361 := hm_358.objK e_343 (by decide)
        obtain ⟨g_363, e_362, h_364⟩ := hm_358.obj e_344
        obtain ⟨z_365, z_366, z_367, z_368, rfl⟩ := smX6 h_364
        obtain ⟨f_370, e_369⟩ := hm_358.arrI e_345
        have u_371 := ht_360 _ _ u_347
        obtain ⟨f_373, e_372⟩ := hm_358.arrI e_348
        have u_374 := ht_360 _ _ u_350
        have hsm := hsm.tr (hm_358.mono (by decide))
        have hlp_93 := hlp_93.tr (hm_358.mono (by decide))
        have htx := htx.tr ht_360
        obtain ⟨k_375, s_376, e_377, h_378, h_379, h_380, e_381⟩ := hx_359
        refine lv_aload_n hx hb dX4_readEither_78 rfl (lv_at hl 5 rfl) ?_
        refine lv_iload_n hx hb dX4_readEither_79 rfl (lv_at hl 4 rfl) ?_
        have hFc := free_all hD hS hA
        refine va_calli (va_runV (As := [.int 0]) (rest := []) ⟨hx, hb, hml, hown, hts⟩ (r_readOne0 l D ws_356 ty_357 adK adV fo rd krd tp ktp cd bb tl  H.size (⟨s_376, e_377, cc_119, ra_120, rb_121, rc_122, rv_123, re_124, nI k_375, by omega, by omega, by omega, by omega, e_361, e_381, ⟨k_132, c9_133, t_134, f_370, e_369, u_371⟩, ⟨k_138, c9_139, t_140, f_373, e_372, u_374⟩⟩ : RS ws_356 ty_357 rd krd tp ktp cd bb tl)) (cwV 1 hts gX4_readEither_X4_readOne rfl rfl rfl (by decide +kernel) ⟨Nat.le_of_ble_eq_true rfl, Nat.le_of_ble_eq_true rfl⟩) ⟨fun a U g mk q => by obtain ⟨q0, q1, qP, qK, qD, qS⟩ := q; exact ⟨q0, q1, qP, va_K.moved (u := U) (U := U.calling g mk a) (Vm.Alike.refl U.vm) qK, qD, SZ.same rfl rfl qS⟩, va_recv hK hP (ci := 4) (q0 := krd) rfl e_361, fun U hU hW => ⟨rfl, by rw [hU], by rw [hU]; exact hP, va_K.moved hW.alike hK, hD.weaken (fun _ _ _ _ => trivial), hsz9.go hS hW hU hFc⟩⟩ rfl rfl hl.1 rfl (lv_room (Nat.le_of_ble_eq_true rfl)) dX4_readEither_80 ⟨Nat.le_of_ble_eq_true rfl, Nat.le_of_ble_eq_true rfl⟩) hS (fun q _ h => hFc q h) hFc (fun r_382 u t H1 locs ht hvm w_383 hB hz1 hk1 hS => ?_)
        obtain ⟨ws_384, ty_385, hm_386, ht_388, hP1, hK1, hD1, hx_387⟩ := hB
        rw [ht] at hP1
        have hK := va_K.moved hvm.symm hK1
        have hD := hD1.weaken (fun _ _ _ h => hFc _ h)
        generalize H1 = H at hP1 hS ⊢
        have hP := hP1
        obtain ⟨g_390, e_389, h_391⟩ := hm_386.obj e_361
        obtain ⟨z_392, z_393, z_394, z_395, z_396, z_397, rfl⟩ := smX4 h_391
        obtain ⟨g_399, e_398, h_400⟩ := hm_386.obj e_381
        obtain ⟨z_401, z_402, z_403, z_404, rfl⟩ := smX6 h_400
        obtain ⟨f_406, e_405⟩ := hm_386.arrI e_369
        have u_407 := ht_388 _ _ u_371
        obtain ⟨f_409, e_408⟩ := hm_386.arrI e_372
        have u_410 := ht_388 _ _ u_374
        have hsm := hsm.tr (hm_386.mono (by decide))
        have hlp_93 := hlp_93.tr (hm_386.mono (by decide))
        have htx := htx.tr ht_388
        obtain ⟨ts_411, te_412, cc_413, ra_414, rb_415, rc_416, rv_417, re_418, ya_419, h1_420, h2_421, h3_422, h4_423, er_424, et_425, ⟨k_426, c9_427, t_428, f_429, e_430, u_431⟩, ⟨k_432, c9_433, t_434, f_435, e_436, u_437⟩⟩ := id hx_387
        refine lv_istore_n (lv' := [(2, .int r_382), (3, .int 1), (5, .int 0), (4, .int (nI i_85)), (1, .int 0), (0, .ref rd)]) hx hb dX4_readEither_83 rfl hl (by decide) rfl (fun ls hl => ?_)
        refine lv_iload hx hb dX4_readEither_84 (lv_at hl 2 rfl) ?_
        refine lv_if_eq (tgt := 95) hx hb dX4_readEither_86 (by decide) (fun c_438 => ?_) (fun c_438 => absurd (by decide) c_438)
        refine lv_iinc (v := nI (i_85 + 1)) (lv' := [(4, .int (nI (i_85 + 1))), (2, .int r_382), (3, .int 1), (5, .int 0), (1, .int 0), (0, .ref rd)]) hx hb dX4_readEither_95 hl (k := 3) rfl (nI_add i_85 1) (by decide) rfl (fun ls hl => ?_)
        refine lv_goto (tgt := 11) hx hb dX4_readEither_98 (by decide) ?_
        exact ih_84 (i_85 + 1, r_382, 1) ws_384 _ _ ls (by show 400 - (i_85 + 1) < 400 - i_85; omega) ⟨hlp_93, ⟨ty_385, hK, htx, (⟨ts_411, te_412, cc_413, ra_414, rb_415, rc_416, rv_417, re_418, ya_419, by omega, by omega, by omega, by omega, er_424, et_425, ⟨k_426, c9_427, t_428, f_429, e_430, u_431⟩, ⟨k_432, c9_433, t_434, f_435, e_436, u_437⟩⟩ : RS ws_384 ty_385 rd krd tp ktp cd bb tl)⟩, (show (i_85 + 1) ≤ 400 from by omega), (show r_382 = 0 ∨ r_382 = 1 from w_383), (show 1 = 0 ∨ 1 = 1 from Or.inr rfl)⟩ hP hD hS (lv_sub hl [0, 1, 2, 4, 5] rfl)
      refine lv_iload hx hb dX4_readEither_60 (lv_at hl 0 rfl) ?_
      refine lv_if_ne (tgt := 69) hx hb dX4_readEither_62 (by decide) (fun c_439 => absurd (by decide) c_439) (fun c_439 => ?_)
      refine lv_iconst (v := 1) hx hb dX4_readEither_65 (by decide) ?_
      refine lv_goto (tgt := 70) hx hb dX4_readEither_66 (by decide) ?_
      refine lv_istore_n (lv' := [(3, .int 1), (5, .int 0), (4, .int (nI i_85)), (2, .int x_86), (1, .int 0), (0, .ref rd)]) hx hb dX4_readEither_70 rfl hl (by decide) rfl (fun ls hl => ?_)
      refine lv_aload_n hx hb dX4_readEither_71 rfl (lv_at hl 5 rfl) ?_
      refine va_get (D := D) (ci := 4) (v := .ref tp) (C := RX4) (T := TX4) (N := 8) hx hb hts hin4 hown hK hP krd e_343 rfl 0 (by decide) (hts (.fieldLink RX4 12 "HoneyHouse$RuleReader" "tape" "LHoneyHouse$Tape;") (List.mem_of_getElem? (i := 1) rfl)) (fun _ h9 => h9) rfl dX4_readEither_72 ?_
      have hFc := free_all hD hS hA
      refine va_callv (va_runV (As := []) (rest := []) ⟨hx, hb, hml, hown, hts⟩ (a_advance l D ws_338 ty_339 tp ktp tl te_118 ya_125 (nI ts_117) bb k_138 c9_139 t_140 f_349 H.size (by omega) (by omega) e_344 e_348 u_350) (cwV 0 hts gX4_readEither_X6_advance rfl rfl rfl (by decide +kernel) ⟨Nat.le_of_ble_eq_true rfl, Nat.le_of_ble_eq_true rfl⟩) ⟨fun a U g mk q => by obtain ⟨q0, q1, qP, qK, qD⟩ := q; exact ⟨q0, q1, qP, va_K.moved (u := U) (U := U.calling g mk a) (Vm.Alike.refl U.vm) qK, qD⟩, va_recv hK hP (ci := 6) (q0 := ktp) rfl e_344, fun U hU hW => ⟨rfl, by rw [hU], by rw [hU]; exact hP, va_K.moved hW.alike hK, hD.weaken (fun _ _ _ _ => trivial)⟩⟩ rfl rfl hl.1 rfl (lv_room (Nat.le_of_ble_eq_true rfl)) dX4_readEither_75 ⟨Nat.le_of_ble_eq_true rfl, Nat.le_of_ble_eq_true rfl⟩) hS (fun q _ h => hFc q h) hFc (fun u t H1 locs ht hvm w_441 hB hz1 hk1 hS => ?_)
      obtain ⟨ws_442, ty_443, hm_444, ht_446, hP1, hK1, hD1, hx_445⟩ := hB
      rw [ht] at hP1
      have hK := va_K.moved hvm.symm hK1
      have hD := hD1.weaken (fun _ _ _ h => hFc _ h)
      generalize H1 = H at hP1 hS ⊢
      have hP := hP1
      have e_447 := hm_444.objK e_343 (by decide)
      obtain ⟨g_449, e_448, h_450⟩ := hm_444.obj e_344
      obtain ⟨z_451, z_452, z_453, z_454, rfl⟩ := smX6 h_450
      obtain ⟨f_456, e_455⟩ := hm_444.arrI e_345
      have u_457 := ht_446 _ _ u_347
      obtain ⟨f_459, e_458⟩ := hm_444.arrI e_348
      have u_460 := ht_446 _ _ u_350
      have hsm := hsm.tr (hm_444.mono (by decide))
      have hlp_93 := hlp_93.tr (hm_444.mono (by decide))
      have htx := htx.tr ht_446
      obtain ⟨k_461, s_462, e_463, h_464, h_465, h_466, e_467⟩ := hx_445
      refine lv_aload_n hx hb dX4_readEither_78 rfl (lv_at hl 5 rfl) ?_
      refine lv_iload_n hx hb dX4_readEither_79 rfl (lv_at hl 4 rfl) ?_
      have hFc := free_all hD hS hA
      refine va_calli (va_runV (As := [.int 0]) (rest := []) ⟨hx, hb, hml, hown, hts⟩ (r_readOne0 l D ws_442 ty_443 adK adV fo rd krd tp ktp cd bb tl  H.size (⟨s_462, e_463, cc_119, ra_120, rb_121, rc_122, rv_123, re_124, nI k_461, by omega, by omega, by omega, by omega, e_447, e_467, ⟨k_132, c9_133, t_134, f_456, e_455, u_457⟩, ⟨k_138, c9_139, t_140, f_459, e_458, u_460⟩⟩ : RS ws_442 ty_443 rd krd tp ktp cd bb tl)) (cwV 1 hts gX4_readEither_X4_readOne rfl rfl rfl (by decide +kernel) ⟨Nat.le_of_ble_eq_true rfl, Nat.le_of_ble_eq_true rfl⟩) ⟨fun a U g mk q => by obtain ⟨q0, q1, qP, qK, qD, qS⟩ := q; exact ⟨q0, q1, qP, va_K.moved (u := U) (U := U.calling g mk a) (Vm.Alike.refl U.vm) qK, qD, SZ.same rfl rfl qS⟩, va_recv hK hP (ci := 4) (q0 := krd) rfl e_447, fun U hU hW => ⟨rfl, by rw [hU], by rw [hU]; exact hP, va_K.moved hW.alike hK, hD.weaken (fun _ _ _ _ => trivial), hsz9.go hS hW hU hFc⟩⟩ rfl rfl hl.1 rfl (lv_room (Nat.le_of_ble_eq_true rfl)) dX4_readEither_80 ⟨Nat.le_of_ble_eq_true rfl, Nat.le_of_ble_eq_true rfl⟩) hS (fun q _ h => hFc q h) hFc (fun r_468 u t H1 locs ht hvm w_469 hB hz1 hk1 hS => ?_)
      obtain ⟨ws_470, ty_471, hm_472, ht_474, hP1, hK1, hD1, hx_473⟩ := hB
      rw [ht] at hP1
      have hK := va_K.moved hvm.symm hK1
      have hD := hD1.weaken (fun _ _ _ h => hFc _ h)
      generalize H1 = H at hP1 hS ⊢
      have hP := hP1
      obtain ⟨g_476, e_475, h_477⟩ := hm_472.obj e_447
      obtain ⟨z_478, z_479, z_480, z_481, z_482, z_483, rfl⟩ := smX4 h_477
      obtain ⟨g_485, e_484, h_486⟩ := hm_472.obj e_467
      obtain ⟨z_487, z_488, z_489, z_490, rfl⟩ := smX6 h_486
      obtain ⟨f_492, e_491⟩ := hm_472.arrI e_455
      have u_493 := ht_474 _ _ u_457
      obtain ⟨f_495, e_494⟩ := hm_472.arrI e_458
      have u_496 := ht_474 _ _ u_460
      have hsm := hsm.tr (hm_472.mono (by decide))
      have hlp_93 := hlp_93.tr (hm_472.mono (by decide))
      have htx := htx.tr ht_474
      obtain ⟨ts_497, te_498, cc_499, ra_500, rb_501, rc_502, rv_503, re_504, ya_505, h1_506, h2_507, h3_508, h4_509, er_510, et_511, ⟨k_512, c9_513, t_514, f_515, e_516, u_517⟩, ⟨k_518, c9_519, t_520, f_521, e_522, u_523⟩⟩ := id hx_473
      refine lv_istore_n (lv' := [(2, .int r_468), (3, .int 1), (5, .int 0), (4, .int (nI i_85)), (1, .int 0), (0, .ref rd)]) hx hb dX4_readEither_83 rfl hl (by decide) rfl (fun ls hl => ?_)
      refine lv_iload hx hb dX4_readEither_84 (lv_at hl 2 rfl) ?_
      refine lv_if_eq (tgt := 95) hx hb dX4_readEither_86 (by decide) (fun c_524 => ?_) (fun c_524 => absurd (by decide) c_524)
      refine lv_iinc (v := nI (i_85 + 1)) (lv' := [(4, .int (nI (i_85 + 1))), (2, .int r_468), (3, .int 1), (5, .int 0), (1, .int 0), (0, .ref rd)]) hx hb dX4_readEither_95 hl (k := 3) rfl (nI_add i_85 1) (by decide) rfl (fun ls hl => ?_)
      refine lv_goto (tgt := 11) hx hb dX4_readEither_98 (by decide) ?_
      exact ih_84 (i_85 + 1, r_468, 1) ws_470 _ _ ls (by show 400 - (i_85 + 1) < 400 - i_85; omega) ⟨hlp_93, ⟨ty_471, hK, htx, (⟨ts_497, te_498, cc_499, ra_500, rb_501, rc_502, rv_503, re_504, ya_505, by omega, by omega, by omega, by omega, er_510, et_511, ⟨k_512, c9_513, t_514, f_515, e_516, u_517⟩, ⟨k_518, c9_519, t_520, f_521, e_522, u_523⟩⟩ : RS ws_470 ty_471 rd krd tp ktp cd bb tl)⟩, (show (i_85 + 1) ≤ 400 from by omega), (show r_468 = 0 ∨ r_468 = 1 from w_469), (show 1 = 0 ∨ 1 = 1 from Or.inr rfl)⟩ hP hD hS (lv_sub hl [0, 1, 2, 4, 5] rfl)
    refine lv_aload_n hx hb dX4_readEither_50 rfl (lv_at hl 5 rfl) ?_
    refine lv_bipush (v := (-3)) hx hb dX4_readEither_51 (by decide) ?_
    have hFc := free_all hD hS hA
    refine va_callv (va_runV (As := [.int (-3)]) (rest := []) ⟨hx, hb, hml, hown, hts⟩ (r_addCode l D ws_338 ty_339 adK adV fo rd krd tp ktp cd bb tl (-3) H.size (⟨ts_117, te_118, cc_119, ra_120, rb_121, rc_122, rv_123, re_124, ya_125, by omega, by omega, by omega, by omega, e_343, e_344, ⟨k_132, c9_133, t_134, f_346, e_345, u_347⟩, ⟨k_138, c9_139, t_140, f_349, e_348, u_350⟩⟩ : RS ws_338 ty_339 rd krd tp ktp cd bb tl)) (cwV 1 hts gX4_readEither_X4_addCode rfl rfl rfl (by decide +kernel) ⟨Nat.le_of_ble_eq_true rfl, Nat.le_of_ble_eq_true rfl⟩) ⟨fun a U g mk q => by obtain ⟨q0, q1, qP, qK, qD, qS⟩ := q; exact ⟨q0, q1, qP, va_K.moved (u := U) (U := U.calling g mk a) (Vm.Alike.refl U.vm) qK, qD, SZ.same rfl rfl qS⟩, va_recv hK hP (ci := 4) (q0 := krd) rfl e_343, fun U hU hW => ⟨rfl, by rw [hU], by rw [hU]; exact hP, va_K.moved hW.alike hK, hD.weaken (fun _ _ _ _ => trivial), hsz9.go hS hW hU hFc⟩⟩ rfl rfl hl.1 rfl (lv_room (Nat.le_of_ble_eq_true rfl)) dX4_readEither_53 ⟨Nat.le_of_ble_eq_true rfl, Nat.le_of_ble_eq_true rfl⟩) hS (fun q _ h => hFc q h) hFc (fun u t H1 locs ht hvm w_526 hB hz1 hk1 hS => ?_)
    obtain ⟨ws_527, ty_528, hm_529, ht_531, hP1, hK1, hD1, hx_530⟩ := hB
    rw [ht] at hP1
    have hK := va_K.moved hvm.symm hK1
    have hD := hD1.weaken (fun _ _ _ h => hFc _ h)
    generalize H1 = H at hP1 hS ⊢
    have hP := hP1
    obtain ⟨g_533, e_532, h_534⟩ := hm_529.obj e_343
    obtain ⟨z_535, z_536, z_537, z_538, z_539, z_540, rfl⟩ := smX4 h_534
    obtain ⟨g_542, e_541, h_543⟩ := hm_529.obj e_344
    obtain ⟨z_544, z_545, z_546, z_547, rfl⟩ := smX6 h_543
    obtain ⟨f_549, e_548⟩ := hm_529.arrI e_345
    have u_550 := ht_531 _ _ u_347
    obtain ⟨f_552, e_551⟩ := hm_529.arrI e_348
    have u_553 := ht_531 _ _ u_350
    have hsm := hsm.tr (hm_529.mono (by decide))
    have hlp_93 := hlp_93.tr (hm_529.mono (by decide))
    have htx := htx.tr ht_531
    obtain ⟨ts_554, te_555, cc_556, ra_557, rb_558, rc_559, rv_560, re_561, ya_562, h1_563, h2_564, h3_565, h4_566, er_567, et_568, ⟨k_569, c9_570, t_571, f_572, e_573, u_574⟩, ⟨k_575, c9_576, t_577, f_578, e_579, u_580⟩⟩ := id hx_530
    refine lv_iload_n hx hb dX4_readEither_56 rfl (lv_at hl 3 rfl) ?_
    refine lv_if_ne (tgt := 65) hx hb dX4_readEither_57 (by decide) (fun c_581 => ?_) (fun c_581 => ?_)
    · refine lv_iconst (v := 1) hx hb dX4_readEither_65 (by decide) ?_
      refine lv_goto (tgt := 70) hx hb dX4_readEither_66 (by decide) ?_
      refine lv_istore_n (lv' := [(3, .int 1), (5, .int 0), (4, .int (nI i_85)), (2, .int x_86), (1, .int 0), (0, .ref rd)]) hx hb dX4_readEither_70 rfl hl (by decide) rfl (fun ls hl => ?_)
      refine lv_aload_n hx hb dX4_readEither_71 rfl (lv_at hl 5 rfl) ?_
      refine va_get (D := D) (ci := 4) (v := .ref tp) (C := RX4) (T := TX4) (N := 8) hx hb hts hin4 hown hK hP krd er_567 rfl 0 (by decide) (hts (.fieldLink RX4 12 "HoneyHouse$RuleReader" "tape" "LHoneyHouse$Tape;") (List.mem_of_getElem? (i := 1) rfl)) (fun _ h9 => h9) rfl dX4_readEither_72 ?_
      have hFc := free_all hD hS hA
      refine va_callv (va_runV (As := []) (rest := []) ⟨hx, hb, hml, hown, hts⟩ (a_advance l D ws_527 ty_528 tp ktp tl te_555 ya_562 (nI ts_554) bb k_575 c9_576 t_577 f_578 H.size (by omega) (by omega) et_568 e_579 u_580) (cwV 0 hts gX4_readEither_X6_advance rfl rfl rfl (by decide +kernel) ⟨Nat.le_of_ble_eq_true rfl, Nat.le_of_ble_eq_true rfl⟩) ⟨fun a U g mk q => by obtain ⟨q0, q1, qP, qK, qD⟩ := q; exact ⟨q0, q1, qP, va_K.moved (u := U) (U := U.calling g mk a) (Vm.Alike.refl U.vm) qK, qD⟩, va_recv hK hP (ci := 6) (q0 := ktp) rfl et_568, fun U hU hW => ⟨rfl, by rw [hU], by rw [hU]; exact hP, va_K.moved hW.alike hK, hD.weaken (fun _ _ _ _ => trivial)⟩⟩ rfl rfl hl.1 rfl (lv_room (Nat.le_of_ble_eq_true rfl)) dX4_readEither_75 ⟨Nat.le_of_ble_eq_true rfl, Nat.le_of_ble_eq_true rfl⟩) hS (fun q _ h => hFc q h) hFc (fun u t H1 locs ht hvm w_583 hB hz1 hk1 hS => ?_)
      obtain ⟨ws_584, ty_585, hm_586, ht_588, hP1, hK1, hD1, hx_587⟩ := hB
      rw [ht] at hP1
      have hK := va_K.moved hvm.symm hK1
      have hD := hD1.weaken (fun _ _ _ h => hFc _ h)
      generalize H1 = H at hP1 hS ⊢
      have hP := hP1
      have e_589 := hm_586.objK er_567 (by decide)
      obtain ⟨g_591, e_590, h_592⟩ := hm_586.obj et_568
      obtain ⟨z_593, z_594, z_595, z_596, rfl⟩ := smX6 h_592
      obtain ⟨f_598, e_597⟩ := hm_586.arrI e_573
      have u_599 := ht_588 _ _ u_574
      obtain ⟨f_601, e_600⟩ := hm_586.arrI e_579
      have u_602 := ht_588 _ _ u_580
      have hsm := hsm.tr (hm_586.mono (by decide))
      have hlp_93 := hlp_93.tr (hm_586.mono (by decide))
      have htx := htx.tr ht_588
      obtain ⟨k_603, s_604, e_605, h_606, h_607, h_608, e_609⟩ := hx_587
      refine lv_aload_n hx hb dX4_readEither_78 rfl (lv_at hl 5 rfl) ?_
      refine lv_iload_n hx hb dX4_readEither_79 rfl (lv_at hl 4 rfl) ?_
      have hFc := free_all hD hS hA
      refine va_calli (va_runV (As := [.int 0]) (rest := []) ⟨hx, hb, hml, hown, hts⟩ (r_readOne0 l D ws_584 ty_585 adK adV fo rd krd tp ktp cd bb tl  H.size (⟨s_604, e_605, cc_556, ra_557, rb_558, rc_559, rv_560, re_561, nI k_603, by omega, by omega, by omega, by omega, e_589, e_609, ⟨k_569, c9_570, t_571, f_598, e_597, u_599⟩, ⟨k_575, c9_576, t_577, f_601, e_600, u_602⟩⟩ : RS ws_584 ty_585 rd krd tp ktp cd bb tl)) (cwV 1 hts gX4_readEither_X4_readOne rfl rfl rfl (by decide +kernel) ⟨Nat.le_of_ble_eq_true rfl, Nat.le_of_ble_eq_true rfl⟩) ⟨fun a U g mk q => by obtain ⟨q0, q1, qP, qK, qD, qS⟩ := q; exact ⟨q0, q1, qP, va_K.moved (u := U) (U := U.calling g mk a) (Vm.Alike.refl U.vm) qK, qD, SZ.same rfl rfl qS⟩, va_recv hK hP (ci := 4) (q0 := krd) rfl e_589, fun U hU hW => ⟨rfl, by rw [hU], by rw [hU]; exact hP, va_K.moved hW.alike hK, hD.weaken (fun _ _ _ _ => trivial), hsz9.go hS hW hU hFc⟩⟩ rfl rfl hl.1 rfl (lv_room (Nat.le_of_ble_eq_true rfl)) dX4_readEither_80 ⟨Nat.le_of_ble_eq_true rfl, Nat.le_of_ble_eq_true rfl⟩) hS (fun q _ h => hFc q h) hFc (fun r_610 u t H1 locs ht hvm w_611 hB hz1 hk1 hS => ?_)
      obtain ⟨ws_612, ty_613, hm_614, ht_616, hP1, hK1, hD1, hx_615⟩ := hB
      rw [ht] at hP1
      have hK := va_K.moved hvm.symm hK1
      have hD := hD1.weaken (fun _ _ _ h => hFc _ h)
      generalize H1 = H at hP1 hS ⊢
      have hP := hP1
      obtain ⟨g_618, e_617, h_619⟩ := hm_614.obj e_589
      obtain ⟨z_620, z_621, z_622, z_623, z_624, z_625, rfl⟩ := smX4 h_619
      obtain ⟨g_627, e_626, h_628⟩ := hm_614.obj e_609
      obtain ⟨z_629, z_630, z_631, z_632, rfl⟩ := smX6 h_628
      obtain ⟨f_634, e_633⟩ := hm_614.arrI e_597
      have u_635 := ht_616 _ _ u_599
      obtain ⟨f_637, e_636⟩ := hm_614.arrI e_600
      have u_638 := ht_616 _ _ u_602
      have hsm := hsm.tr (hm_614.mono (by decide))
      have hlp_93 := hlp_93.tr (hm_614.mono (by decide))
      have htx := htx.tr ht_616
      obtain ⟨ts_639, te_640, cc_641, ra_642, rb_643, rc_644, rv_645, re_646, ya_647, h1_648, h2_649, h3_650, h4_651, er_652, et_653, ⟨k_654, c9_655, t_656, f_657, e_658, u_659⟩, ⟨k_660, c9_661, t_662, f_663, e_664, u_665⟩⟩ := id hx_615
      refine lv_istore_n (lv' := [(2, .int r_610), (3, .int 1), (5, .int 0), (4, .int (nI i_85)), (1, .int 0), (0, .ref rd)]) hx hb dX4_readEither_83 rfl hl (by decide) rfl (fun ls hl => ?_)
      refine lv_iload hx hb dX4_readEither_84 (lv_at hl 2 rfl) ?_
      refine lv_if_eq (tgt := 95) hx hb dX4_readEither_86 (by decide) (fun c_666 => ?_) (fun c_666 => absurd (by decide) c_666)
      refine lv_iinc (v := nI (i_85 + 1)) (lv' := [(4, .int (nI (i_85 + 1))), (2, .int r_610), (3, .int 1), (5, .int 0), (1, .int 0), (0, .ref rd)]) hx hb dX4_readEither_95 hl (k := 3) rfl (nI_add i_85 1) (by decide) rfl (fun ls hl => ?_)
      refine lv_goto (tgt := 11) hx hb dX4_readEither_98 (by decide) ?_
      exact ih_84 (i_85 + 1, r_610, 1) ws_612 _ _ ls (by show 400 - (i_85 + 1) < 400 - i_85; omega) ⟨hlp_93, ⟨ty_613, hK, htx, (⟨ts_639, te_640, cc_641, ra_642, rb_643, rc_644, rv_645, re_646, ya_647, by omega, by omega, by omega, by omega, er_652, et_653, ⟨k_654, c9_655, t_656, f_657, e_658, u_659⟩, ⟨k_660, c9_661, t_662, f_663, e_664, u_665⟩⟩ : RS ws_612 ty_613 rd krd tp ktp cd bb tl)⟩, (show (i_85 + 1) ≤ 400 from by omega), (show r_610 = 0 ∨ r_610 = 1 from w_611), (show 1 = 0 ∨ 1 = 1 from Or.inr rfl)⟩ hP hD hS (lv_sub hl [0, 1, 2, 4, 5] rfl)
    refine lv_iload hx hb dX4_readEither_60 (lv_at hl 0 rfl) ?_
    refine lv_if_ne (tgt := 69) hx hb dX4_readEither_62 (by decide) (fun c_667 => absurd (by decide) c_667) (fun c_667 => ?_)
    refine lv_iconst (v := 1) hx hb dX4_readEither_65 (by decide) ?_
    refine lv_goto (tgt := 70) hx hb dX4_readEither_66 (by decide) ?_
    refine lv_istore_n (lv' := [(3, .int 1), (5, .int 0), (4, .int (nI i_85)), (2, .int x_86), (1, .int 0), (0, .ref rd)]) hx hb dX4_readEither_70 rfl hl (by decide) rfl (fun ls hl => ?_)
    refine lv_aload_n hx hb dX4_readEither_71 rfl (lv_at hl 5 rfl) ?_
    refine va_get (D := D) (ci := 4) (v := .ref tp) (C := RX4) (T := TX4) (N := 8) hx hb hts hin4 hown hK hP krd er_567 rfl 0 (by decide) (hts (.fieldLink RX4 12 "HoneyHouse$RuleReader" "tape" "LHoneyHouse$Tape;") (List.mem_of_getElem? (i := 1) rfl)) (fun _ h9 => h9) rfl dX4_readEither_72 ?_
    have hFc := free_all hD hS hA
    refine va_callv (va_runV (As := []) (rest := []) ⟨hx, hb, hml, hown, hts⟩ (a_advance l D ws_527 ty_528 tp ktp tl te_555 ya_562 (nI ts_554) bb k_575 c9_576 t_577 f_578 H.size (by omega) (by omega) et_568 e_579 u_580) (cwV 0 hts gX4_readEither_X6_advance rfl rfl rfl (by decide +kernel) ⟨Nat.le_of_ble_eq_true rfl, Nat.le_of_ble_eq_true rfl⟩) ⟨fun a U g mk q => by obtain ⟨q0, q1, qP, qK, qD⟩ := q; exact ⟨q0, q1, qP, va_K.moved (u := U) (U := U.calling g mk a) (Vm.Alike.refl U.vm) qK, qD⟩, va_recv hK hP (ci := 6) (q0 := ktp) rfl et_568, fun U hU hW => ⟨rfl, by rw [hU], by rw [hU]; exact hP, va_K.moved hW.alike hK, hD.weaken (fun _ _ _ _ => trivial)⟩⟩ rfl rfl hl.1 rfl (lv_room (Nat.le_of_ble_eq_true rfl)) dX4_readEither_75 ⟨Nat.le_of_ble_eq_true rfl, Nat.le_of_ble_eq_true rfl⟩) hS (fun q _ h => hFc q h) hFc (fun u t H1 locs ht hvm w_669 hB hz1 hk1 hS => ?_)
    obtain ⟨ws_670, ty_671, hm_672, ht_674, hP1, hK1, hD1, hx_673⟩ := hB
    rw [ht] at hP1
    have hK := va_K.moved hvm.symm hK1
    have hD := hD1.weaken (fun _ _ _ h => hFc _ h)
    generalize H1 = H at hP1 hS ⊢
    have hP := hP1
    have e_675 := hm_672.objK er_567 (by decide)
    obtain ⟨g_677, e_676, h_678⟩ := hm_672.obj et_568
    obtain ⟨z_679, z_680, z_681, z_682, rfl⟩ := smX6 h_678
    obtain ⟨f_684, e_683⟩ := hm_672.arrI e_573
    have u_685 := ht_674 _ _ u_574
    obtain ⟨f_687, e_686⟩ := hm_672.arrI e_579
    have u_688 := ht_674 _ _ u_580
    have hsm := hsm.tr (hm_672.mono (by decide))
    have hlp_93 := hlp_93.tr (hm_672.mono (by decide))
    have htx := htx.tr ht_674
    obtain ⟨k_689, s_690, e_691, h_692, h_693, h_694, e_695⟩ := hx_673
    refine lv_aload_n hx hb dX4_readEither_78 rfl (lv_at hl 5 rfl) ?_
    refine lv_iload_n hx hb dX4_readEither_79 rfl (lv_at hl 4 rfl) ?_
    have hFc := free_all hD hS hA
    refine va_calli (va_runV (As := [.int 0]) (rest := []) ⟨hx, hb, hml, hown, hts⟩ (r_readOne0 l D ws_670 ty_671 adK adV fo rd krd tp ktp cd bb tl  H.size (⟨s_690, e_691, cc_556, ra_557, rb_558, rc_559, rv_560, re_561, nI k_689, by omega, by omega, by omega, by omega, e_675, e_695, ⟨k_569, c9_570, t_571, f_684, e_683, u_685⟩, ⟨k_575, c9_576, t_577, f_687, e_686, u_688⟩⟩ : RS ws_670 ty_671 rd krd tp ktp cd bb tl)) (cwV 1 hts gX4_readEither_X4_readOne rfl rfl rfl (by decide +kernel) ⟨Nat.le_of_ble_eq_true rfl, Nat.le_of_ble_eq_true rfl⟩) ⟨fun a U g mk q => by obtain ⟨q0, q1, qP, qK, qD, qS⟩ := q; exact ⟨q0, q1, qP, va_K.moved (u := U) (U := U.calling g mk a) (Vm.Alike.refl U.vm) qK, qD, SZ.same rfl rfl qS⟩, va_recv hK hP (ci := 4) (q0 := krd) rfl e_675, fun U hU hW => ⟨rfl, by rw [hU], by rw [hU]; exact hP, va_K.moved hW.alike hK, hD.weaken (fun _ _ _ _ => trivial), hsz9.go hS hW hU hFc⟩⟩ rfl rfl hl.1 rfl (lv_room (Nat.le_of_ble_eq_true rfl)) dX4_readEither_80 ⟨Nat.le_of_ble_eq_true rfl, Nat.le_of_ble_eq_true rfl⟩) hS (fun q _ h => hFc q h) hFc (fun r_696 u t H1 locs ht hvm w_697 hB hz1 hk1 hS => ?_)
    obtain ⟨ws_698, ty_699, hm_700, ht_702, hP1, hK1, hD1, hx_701⟩ := hB
    rw [ht] at hP1
    have hK := va_K.moved hvm.symm hK1
    have hD := hD1.weaken (fun _ _ _ h => hFc _ h)
    generalize H1 = H at hP1 hS ⊢
    have hP := hP1
    obtain ⟨g_704, e_703, h_705⟩ := hm_700.obj e_675
    obtain ⟨z_706, z_707, z_708, z_709, z_710, z_711, rfl⟩ := smX4 h_705
    obtain ⟨g_713, e_712, h_714⟩ := hm_700.obj e_695
    obtain ⟨z_715, z_716, z_717, z_718, rfl⟩ := smX6 h_714
    obtain ⟨f_720, e_719⟩ := hm_700.arrI e_683
    have u_721 := ht_702 _ _ u_685
    obtain ⟨f_723, e_722⟩ := hm_700.arrI e_686
    have u_724 := ht_702 _ _ u_688
    have hsm := hsm.tr (hm_700.mono (by decide))
    have hlp_93 := hlp_93.tr (hm_700.mono (by decide))
    have htx := htx.tr ht_702
    obtain ⟨ts_725, te_726, cc_727, ra_728, rb_729, rc_730, rv_731, re_732, ya_733, h1_734, h2_735, h3_736, h4_737, er_738, et_739, ⟨k_740, c9_741, t_742, f_743, e_744, u_745⟩, ⟨k_746, c9_747, t_748, f_749, e_750, u_751⟩⟩ := id hx_701
    refine lv_istore_n (lv' := [(2, .int r_696), (3, .int 1), (5, .int 0), (4, .int (nI i_85)), (1, .int 0), (0, .ref rd)]) hx hb dX4_readEither_83 rfl hl (by decide) rfl (fun ls hl => ?_)
    refine lv_iload hx hb dX4_readEither_84 (lv_at hl 2 rfl) ?_
    refine lv_if_eq (tgt := 95) hx hb dX4_readEither_86 (by decide) (fun c_752 => ?_) (fun c_752 => absurd (by decide) c_752)
    refine lv_iinc (v := nI (i_85 + 1)) (lv' := [(4, .int (nI (i_85 + 1))), (2, .int r_696), (3, .int 1), (5, .int 0), (1, .int 0), (0, .ref rd)]) hx hb dX4_readEither_95 hl (k := 3) rfl (nI_add i_85 1) (by decide) rfl (fun ls hl => ?_)
    refine lv_goto (tgt := 11) hx hb dX4_readEither_98 (by decide) ?_
    exact ih_84 (i_85 + 1, r_696, 1) ws_698 _ _ ls (by show 400 - (i_85 + 1) < 400 - i_85; omega) ⟨hlp_93, ⟨ty_699, hK, htx, (⟨ts_725, te_726, cc_727, ra_728, rb_729, rc_730, rv_731, re_732, ya_733, by omega, by omega, by omega, by omega, er_738, et_739, ⟨k_740, c9_741, t_742, f_743, e_744, u_745⟩, ⟨k_746, c9_747, t_748, f_749, e_750, u_751⟩⟩ : RS ws_698 ty_699 rd krd tp ktp cd bb tl)⟩, (show (i_85 + 1) ≤ 400 from by omega), (show r_696 = 0 ∨ r_696 = 1 from w_697), (show 1 = 0 ∨ 1 = 1 from Or.inr rfl)⟩ hP hD hS (lv_sub hl [0, 1, 2, 4, 5] rfl)
  refine lv_istore (lv' := [(5, .int 1), (4, .int (nI i_85)), (2, .int x_86), (3, .int y_87), (1, .int 0), (0, .ref rd)]) hx hb dX4_readEither_39 hl (by decide) rfl (fun ls hl => ?_)
  refine lv_iload hx hb dX4_readEither_41 (lv_at hl 0 rfl) ?_
  refine lv_if_ne (tgt := 56) hx hb dX4_readEither_43 (by decide) (fun c_753 => ?_) (fun c_753 => absurd c_753 (by decide))
  refine lv_iload_n hx hb dX4_readEither_56 rfl (lv_at hl 3 rfl) ?_
  refine lv_if_ne (tgt := 65) hx hb dX4_readEither_57 (by decide) (fun c_754 => ?_) (fun c_754 => ?_)
  · refine lv_iconst (v := 1) hx hb dX4_readEither_65 (by decide) ?_
    refine lv_goto (tgt := 70) hx hb dX4_readEither_66 (by decide) ?_
    refine lv_istore_n (lv' := [(3, .int 1), (5, .int 1), (4, .int (nI i_85)), (2, .int x_86), (1, .int 0), (0, .ref rd)]) hx hb dX4_readEither_70 rfl hl (by decide) rfl (fun ls hl => ?_)
    refine lv_aload_n hx hb dX4_readEither_71 rfl (lv_at hl 5 rfl) ?_
    refine va_get (D := D) (ci := 4) (v := .ref tp) (C := RX4) (T := TX4) (N := 8) hx hb hts hin4 hown hK hP krd e_343 rfl 0 (by decide) (hts (.fieldLink RX4 12 "HoneyHouse$RuleReader" "tape" "LHoneyHouse$Tape;") (List.mem_of_getElem? (i := 1) rfl)) (fun _ h9 => h9) rfl dX4_readEither_72 ?_
    have hFc := free_all hD hS hA
    refine va_callv (va_runV (As := []) (rest := []) ⟨hx, hb, hml, hown, hts⟩ (a_advance l D ws_338 ty_339 tp ktp tl te_118 ya_125 (nI ts_117) bb k_138 c9_139 t_140 f_349 H.size (by omega) (by omega) e_344 e_348 u_350) (cwV 0 hts gX4_readEither_X6_advance rfl rfl rfl (by decide +kernel) ⟨Nat.le_of_ble_eq_true rfl, Nat.le_of_ble_eq_true rfl⟩) ⟨fun a U g mk q => by obtain ⟨q0, q1, qP, qK, qD⟩ := q; exact ⟨q0, q1, qP, va_K.moved (u := U) (U := U.calling g mk a) (Vm.Alike.refl U.vm) qK, qD⟩, va_recv hK hP (ci := 6) (q0 := ktp) rfl e_344, fun U hU hW => ⟨rfl, by rw [hU], by rw [hU]; exact hP, va_K.moved hW.alike hK, hD.weaken (fun _ _ _ _ => trivial)⟩⟩ rfl rfl hl.1 rfl (lv_room (Nat.le_of_ble_eq_true rfl)) dX4_readEither_75 ⟨Nat.le_of_ble_eq_true rfl, Nat.le_of_ble_eq_true rfl⟩) hS (fun q _ h => hFc q h) hFc (fun u t H1 locs ht hvm w_756 hB hz1 hk1 hS => ?_)
    obtain ⟨ws_757, ty_758, hm_759, ht_761, hP1, hK1, hD1, hx_760⟩ := hB
    rw [ht] at hP1
    have hK := va_K.moved hvm.symm hK1
    have hD := hD1.weaken (fun _ _ _ h => hFc _ h)
    generalize H1 = H at hP1 hS ⊢
    have hP := hP1
    have e_762 := hm_759.objK e_343 (by decide)
    obtain ⟨g_764, e_763, h_765⟩ := hm_759.obj e_344
    obtain ⟨z_766, z_767, z_768, z_769, rfl⟩ := smX6 h_765
    obtain ⟨f_771, e_770⟩ := hm_759.arrI e_345
    have u_772 := ht_761 _ _ u_347
    obtain ⟨f_774, e_773⟩ := hm_759.arrI e_348
    have u_775 := ht_761 _ _ u_350
    have hsm := hsm.tr (hm_759.mono (by decide))
    have hlp_93 := hlp_93.tr (hm_759.mono (by decide))
    have htx := htx.tr ht_761
    obtain ⟨k_776, s_777, e_778, h_779, h_780, h_781, e_782⟩ := hx_760
    refine lv_aload_n hx hb dX4_readEither_78 rfl (lv_at hl 5 rfl) ?_
    refine lv_iload_n hx hb dX4_readEither_79 rfl (lv_at hl 4 rfl) ?_
    have hFc := free_all hD hS hA
    refine va_calli (va_runV (As := [.int 0]) (rest := []) ⟨hx, hb, hml, hown, hts⟩ (r_readOne0 l D ws_757 ty_758 adK adV fo rd krd tp ktp cd bb tl  H.size (⟨s_777, e_778, cc_119, ra_120, rb_121, rc_122, rv_123, re_124, nI k_776, by omega, by omega, by omega, by omega, e_762, e_782, ⟨k_132, c9_133, t_134, f_771, e_770, u_772⟩, ⟨k_138, c9_139, t_140, f_774, e_773, u_775⟩⟩ : RS ws_757 ty_758 rd krd tp ktp cd bb tl)) (cwV 1 hts gX4_readEither_X4_readOne rfl rfl rfl (by decide +kernel) ⟨Nat.le_of_ble_eq_true rfl, Nat.le_of_ble_eq_true rfl⟩) ⟨fun a U g mk q => by obtain ⟨q0, q1, qP, qK, qD, qS⟩ := q; exact ⟨q0, q1, qP, va_K.moved (u := U) (U := U.calling g mk a) (Vm.Alike.refl U.vm) qK, qD, SZ.same rfl rfl qS⟩, va_recv hK hP (ci := 4) (q0 := krd) rfl e_762, fun U hU hW => ⟨rfl, by rw [hU], by rw [hU]; exact hP, va_K.moved hW.alike hK, hD.weaken (fun _ _ _ _ => trivial), hsz9.go hS hW hU hFc⟩⟩ rfl rfl hl.1 rfl (lv_room (Nat.le_of_ble_eq_true rfl)) dX4_readEither_80 ⟨Nat.le_of_ble_eq_true rfl, Nat.le_of_ble_eq_true rfl⟩) hS (fun q _ h => hFc q h) hFc (fun r_783 u t H1 locs ht hvm w_784 hB hz1 hk1 hS => ?_)
    obtain ⟨ws_785, ty_786, hm_787, ht_789, hP1, hK1, hD1, hx_788⟩ := hB
    rw [ht] at hP1
    have hK := va_K.moved hvm.symm hK1
    have hD := hD1.weaken (fun _ _ _ h => hFc _ h)
    generalize H1 = H at hP1 hS ⊢
    have hP := hP1
    obtain ⟨g_791, e_790, h_792⟩ := hm_787.obj e_762
    obtain ⟨z_793, z_794, z_795, z_796, z_797, z_798, rfl⟩ := smX4 h_792
    obtain ⟨g_800, e_799, h_801⟩ := hm_787.obj e_782
    obtain ⟨z_802, z_803, z_804, z_805, rfl⟩ := smX6 h_801
    obtain ⟨f_807, e_806⟩ := hm_787.arrI e_770
    have u_808 := ht_789 _ _ u_772
    obtain ⟨f_810, e_809⟩ := hm_787.arrI e_773
    have u_811 := ht_789 _ _ u_775
    have hsm := hsm.tr (hm_787.mono (by decide))
    have hlp_93 := hlp_93.tr (hm_787.mono (by decide))
    have htx := htx.tr ht_789
    obtain ⟨ts_812, te_813, cc_814, ra_815, rb_816, rc_817, rv_818, re_819, ya_820, h1_821, h2_822, h3_823, h4_824, er_825, et_826, ⟨k_827, c9_828, t_829, f_830, e_831, u_832⟩, ⟨k_833, c9_834, t_835, f_836, e_837, u_838⟩⟩ := id hx_788
    refine lv_istore_n (lv' := [(2, .int r_783), (3, .int 1), (5, .int 1), (4, .int (nI i_85)), (1, .int 0), (0, .ref rd)]) hx hb dX4_readEither_83 rfl hl (by decide) rfl (fun ls hl => ?_)
    refine lv_iload hx hb dX4_readEither_84 (lv_at hl 2 rfl) ?_
    refine lv_if_eq (tgt := 95) hx hb dX4_readEither_86 (by decide) (fun c_839 => absurd c_839 (by decide)) (fun c_839 => ?_)
    refine lv_aload_n hx hb dX4_readEither_89 rfl (lv_at hl 5 rfl) ?_
    refine lv_bipush (v := (-2)) hx hb dX4_readEither_90 (by decide) ?_
    have hFc := free_all hD hS hA
    refine va_callv (va_runV (As := [.int (-2)]) (rest := []) ⟨hx, hb, hml, hown, hts⟩ (r_addCode l D ws_785 ty_786 adK adV fo rd krd tp ktp cd bb tl (-2) H.size (⟨ts_812, te_813, cc_814, ra_815, rb_816, rc_817, rv_818, re_819, ya_820, by omega, by omega, by omega, by omega, er_825, et_826, ⟨k_827, c9_828, t_829, f_830, e_831, u_832⟩, ⟨k_833, c9_834, t_835, f_836, e_837, u_838⟩⟩ : RS ws_785 ty_786 rd krd tp ktp cd bb tl)) (cwV 1 hts gX4_readEither_X4_addCode rfl rfl rfl (by decide +kernel) ⟨Nat.le_of_ble_eq_true rfl, Nat.le_of_ble_eq_true rfl⟩) ⟨fun a U g mk q => by obtain ⟨q0, q1, qP, qK, qD, qS⟩ := q; exact ⟨q0, q1, qP, va_K.moved (u := U) (U := U.calling g mk a) (Vm.Alike.refl U.vm) qK, qD, SZ.same rfl rfl qS⟩, va_recv hK hP (ci := 4) (q0 := krd) rfl er_825, fun U hU hW => ⟨rfl, by rw [hU], by rw [hU]; exact hP, va_K.moved hW.alike hK, hD.weaken (fun _ _ _ _ => trivial), hsz9.go hS hW hU hFc⟩⟩ rfl rfl hl.1 rfl (lv_room (Nat.le_of_ble_eq_true rfl)) dX4_readEither_92 ⟨Nat.le_of_ble_eq_true rfl, Nat.le_of_ble_eq_true rfl⟩) hS (fun q _ h => hFc q h) hFc (fun u t H1 locs ht hvm w_841 hB hz1 hk1 hS => ?_)
    obtain ⟨ws_842, ty_843, hm_844, ht_846, hP1, hK1, hD1, hx_845⟩ := hB
    rw [ht] at hP1
    have hK := va_K.moved hvm.symm hK1
    have hD := hD1.weaken (fun _ _ _ h => hFc _ h)
    generalize H1 = H at hP1 hS ⊢
    have hP := hP1
    obtain ⟨g_848, e_847, h_849⟩ := hm_844.obj er_825
    obtain ⟨z_850, z_851, z_852, z_853, z_854, z_855, rfl⟩ := smX4 h_849
    obtain ⟨g_857, e_856, h_858⟩ := hm_844.obj et_826
    obtain ⟨z_859, z_860, z_861, z_862, rfl⟩ := smX6 h_858
    obtain ⟨f_864, e_863⟩ := hm_844.arrI e_831
    have u_865 := ht_846 _ _ u_832
    obtain ⟨f_867, e_866⟩ := hm_844.arrI e_837
    have u_868 := ht_846 _ _ u_838
    have hsm := hsm.tr (hm_844.mono (by decide))
    have hlp_93 := hlp_93.tr (hm_844.mono (by decide))
    have htx := htx.tr ht_846
    obtain ⟨ts_869, te_870, cc_871, ra_872, rb_873, rc_874, rv_875, re_876, ya_877, h1_878, h2_879, h3_880, h4_881, er_882, et_883, ⟨k_884, c9_885, t_886, f_887, e_888, u_889⟩, ⟨k_890, c9_891, t_892, f_893, e_894, u_895⟩⟩ := id hx_845
    refine lv_iinc (v := nI (i_85 + 1)) (lv' := [(4, .int (nI (i_85 + 1))), (2, .int r_783), (3, .int 1), (5, .int 1), (1, .int 0), (0, .ref rd)]) hx hb dX4_readEither_95 hl (k := 3) rfl (nI_add i_85 1) (by decide) rfl (fun ls hl => ?_)
    refine lv_goto (tgt := 11) hx hb dX4_readEither_98 (by decide) ?_
    exact ih_84 (i_85 + 1, r_783, 1) ws_842 _ _ ls (by show 400 - (i_85 + 1) < 400 - i_85; omega) ⟨hlp_93, ⟨ty_843, hK, htx, (⟨ts_869, te_870, cc_871, ra_872, rb_873, rc_874, rv_875, re_876, ya_877, by omega, by omega, by omega, by omega, er_882, et_883, ⟨k_884, c9_885, t_886, f_887, e_888, u_889⟩, ⟨k_890, c9_891, t_892, f_893, e_894, u_895⟩⟩ : RS ws_842 ty_843 rd krd tp ktp cd bb tl)⟩, (show (i_85 + 1) ≤ 400 from by omega), (show r_783 = 0 ∨ r_783 = 1 from w_784), (show 1 = 0 ∨ 1 = 1 from Or.inr rfl)⟩ hP hD hS (lv_sub hl [0, 1, 2, 4, 5] rfl)
  refine lv_iload hx hb dX4_readEither_60 (lv_at hl 0 rfl) ?_
  refine lv_if_ne (tgt := 69) hx hb dX4_readEither_62 (by decide) (fun c_896 => ?_) (fun c_896 => absurd c_896 (by decide))
  refine lv_iconst (v := 0) hx hb dX4_readEither_69 (by decide) ?_
  refine lv_istore_n (lv' := [(3, .int 0), (5, .int 1), (4, .int (nI i_85)), (2, .int x_86), (1, .int 0), (0, .ref rd)]) hx hb dX4_readEither_70 rfl hl (by decide) rfl (fun ls hl => ?_)
  refine lv_aload_n hx hb dX4_readEither_71 rfl (lv_at hl 5 rfl) ?_
  refine va_get (D := D) (ci := 4) (v := .ref tp) (C := RX4) (T := TX4) (N := 8) hx hb hts hin4 hown hK hP krd e_343 rfl 0 (by decide) (hts (.fieldLink RX4 12 "HoneyHouse$RuleReader" "tape" "LHoneyHouse$Tape;") (List.mem_of_getElem? (i := 1) rfl)) (fun _ h9 => h9) rfl dX4_readEither_72 ?_
  have hFc := free_all hD hS hA
  refine va_callv (va_runV (As := []) (rest := []) ⟨hx, hb, hml, hown, hts⟩ (a_advance l D ws_338 ty_339 tp ktp tl te_118 ya_125 (nI ts_117) bb k_138 c9_139 t_140 f_349 H.size (by omega) (by omega) e_344 e_348 u_350) (cwV 0 hts gX4_readEither_X6_advance rfl rfl rfl (by decide +kernel) ⟨Nat.le_of_ble_eq_true rfl, Nat.le_of_ble_eq_true rfl⟩) ⟨fun a U g mk q => by obtain ⟨q0, q1, qP, qK, qD⟩ := q; exact ⟨q0, q1, qP, va_K.moved (u := U) (U := U.calling g mk a) (Vm.Alike.refl U.vm) qK, qD⟩, va_recv hK hP (ci := 6) (q0 := ktp) rfl e_344, fun U hU hW => ⟨rfl, by rw [hU], by rw [hU]; exact hP, va_K.moved hW.alike hK, hD.weaken (fun _ _ _ _ => trivial)⟩⟩ rfl rfl hl.1 rfl (lv_room (Nat.le_of_ble_eq_true rfl)) dX4_readEither_75 ⟨Nat.le_of_ble_eq_true rfl, Nat.le_of_ble_eq_true rfl⟩) hS (fun q _ h => hFc q h) hFc (fun u t H1 locs ht hvm w_898 hB hz1 hk1 hS => ?_)
  obtain ⟨ws_899, ty_900, hm_901, ht_903, hP1, hK1, hD1, hx_902⟩ := hB
  rw [ht] at hP1
  have hK := va_K.moved hvm.symm hK1
  have hD := hD1.weaken (fun _ _ _ h => hFc _ h)
  generalize H1 = H at hP1 hS ⊢
  have hP := hP1
  have e_904 := hm_901.objK e_343 (by decide)
  obtain ⟨g_906, e_905, h_907⟩ := hm_901.obj e_344
  obtain ⟨z_908, z_909, z_910, z_911, rfl⟩ := smX6 h_907
  obtain ⟨f_913, e_912⟩ := hm_901.arrI e_345
  have u_914 := ht_903 _ _ u_347
  obtain ⟨f_916, e_915⟩ := hm_901.arrI e_348
  have u_917 := ht_903 _ _ u_350
  have hsm := hsm.tr (hm_901.mono (by decide))
  have hlp_93 := hlp_93.tr (hm_901.mono (by decide))
  have htx := htx.tr ht_903
  obtain ⟨k_918, s_919, e_920, h_921, h_922, h_923, e_924⟩ := hx_902
  refine lv_aload_n hx hb dX4_readEither_78 rfl (lv_at hl 5 rfl) ?_
  refine lv_iload_n hx hb dX4_readEither_79 rfl (lv_at hl 4 rfl) ?_
  have hFc := free_all hD hS hA
  refine va_calli (va_runV (As := [.int 0]) (rest := []) ⟨hx, hb, hml, hown, hts⟩ (r_readOne0 l D ws_899 ty_900 adK adV fo rd krd tp ktp cd bb tl  H.size (⟨s_919, e_920, cc_119, ra_120, rb_121, rc_122, rv_123, re_124, nI k_918, by omega, by omega, by omega, by omega, e_904, e_924, ⟨k_132, c9_133, t_134, f_913, e_912, u_914⟩, ⟨k_138, c9_139, t_140, f_916, e_915, u_917⟩⟩ : RS ws_899 ty_900 rd krd tp ktp cd bb tl)) (cwV 1 hts gX4_readEither_X4_readOne rfl rfl rfl (by decide +kernel) ⟨Nat.le_of_ble_eq_true rfl, Nat.le_of_ble_eq_true rfl⟩) ⟨fun a U g mk q => by obtain ⟨q0, q1, qP, qK, qD, qS⟩ := q; exact ⟨q0, q1, qP, va_K.moved (u := U) (U := U.calling g mk a) (Vm.Alike.refl U.vm) qK, qD, SZ.same rfl rfl qS⟩, va_recv hK hP (ci := 4) (q0 := krd) rfl e_904, fun U hU hW => ⟨rfl, by rw [hU], by rw [hU]; exact hP, va_K.moved hW.alike hK, hD.weaken (fun _ _ _ _ => trivial), hsz9.go hS hW hU hFc⟩⟩ rfl rfl hl.1 rfl (lv_room (Nat.le_of_ble_eq_true rfl)) dX4_readEither_80 ⟨Nat.le_of_ble_eq_true rfl, Nat.le_of_ble_eq_true rfl⟩) hS (fun q _ h => hFc q h) hFc (fun r_925 u t H1 locs ht hvm w_926 hB hz1 hk1 hS => ?_)
  obtain ⟨ws_927, ty_928, hm_929, ht_931, hP1, hK1, hD1, hx_930⟩ := hB
  rw [ht] at hP1
  have hK := va_K.moved hvm.symm hK1
  have hD := hD1.weaken (fun _ _ _ h => hFc _ h)
  generalize H1 = H at hP1 hS ⊢
  have hP := hP1
  obtain ⟨g_933, e_932, h_934⟩ := hm_929.obj e_904
  obtain ⟨z_935, z_936, z_937, z_938, z_939, z_940, rfl⟩ := smX4 h_934
  obtain ⟨g_942, e_941, h_943⟩ := hm_929.obj e_924
  obtain ⟨z_944, z_945, z_946, z_947, rfl⟩ := smX6 h_943
  obtain ⟨f_949, e_948⟩ := hm_929.arrI e_912
  have u_950 := ht_931 _ _ u_914
  obtain ⟨f_952, e_951⟩ := hm_929.arrI e_915
  have u_953 := ht_931 _ _ u_917
  have hsm := hsm.tr (hm_929.mono (by decide))
  have hlp_93 := hlp_93.tr (hm_929.mono (by decide))
  have htx := htx.tr ht_931
  obtain ⟨ts_954, te_955, cc_956, ra_957, rb_958, rc_959, rv_960, re_961, ya_962, h1_963, h2_964, h3_965, h4_966, er_967, et_968, ⟨k_969, c9_970, t_971, f_972, e_973, u_974⟩, ⟨k_975, c9_976, t_977, f_978, e_979, u_980⟩⟩ := id hx_930
  refine lv_istore_n (lv' := [(2, .int r_925), (3, .int 0), (5, .int 1), (4, .int (nI i_85)), (1, .int 0), (0, .ref rd)]) hx hb dX4_readEither_83 rfl hl (by decide) rfl (fun ls hl => ?_)
  refine lv_iload hx hb dX4_readEither_84 (lv_at hl 2 rfl) ?_
  refine lv_if_eq (tgt := 95) hx hb dX4_readEither_86 (by decide) (fun c_981 => absurd c_981 (by decide)) (fun c_981 => ?_)
  refine lv_aload_n hx hb dX4_readEither_89 rfl (lv_at hl 5 rfl) ?_
  refine lv_bipush (v := (-2)) hx hb dX4_readEither_90 (by decide) ?_
  have hFc := free_all hD hS hA
  refine va_callv (va_runV (As := [.int (-2)]) (rest := []) ⟨hx, hb, hml, hown, hts⟩ (r_addCode l D ws_927 ty_928 adK adV fo rd krd tp ktp cd bb tl (-2) H.size (⟨ts_954, te_955, cc_956, ra_957, rb_958, rc_959, rv_960, re_961, ya_962, by omega, by omega, by omega, by omega, er_967, et_968, ⟨k_969, c9_970, t_971, f_972, e_973, u_974⟩, ⟨k_975, c9_976, t_977, f_978, e_979, u_980⟩⟩ : RS ws_927 ty_928 rd krd tp ktp cd bb tl)) (cwV 1 hts gX4_readEither_X4_addCode rfl rfl rfl (by decide +kernel) ⟨Nat.le_of_ble_eq_true rfl, Nat.le_of_ble_eq_true rfl⟩) ⟨fun a U g mk q => by obtain ⟨q0, q1, qP, qK, qD, qS⟩ := q; exact ⟨q0, q1, qP, va_K.moved (u := U) (U := U.calling g mk a) (Vm.Alike.refl U.vm) qK, qD, SZ.same rfl rfl qS⟩, va_recv hK hP (ci := 4) (q0 := krd) rfl er_967, fun U hU hW => ⟨rfl, by rw [hU], by rw [hU]; exact hP, va_K.moved hW.alike hK, hD.weaken (fun _ _ _ _ => trivial), hsz9.go hS hW hU hFc⟩⟩ rfl rfl hl.1 rfl (lv_room (Nat.le_of_ble_eq_true rfl)) dX4_readEither_92 ⟨Nat.le_of_ble_eq_true rfl, Nat.le_of_ble_eq_true rfl⟩) hS (fun q _ h => hFc q h) hFc (fun u t H1 locs ht hvm w_983 hB hz1 hk1 hS => ?_)
  obtain ⟨ws_984, ty_985, hm_986, ht_988, hP1, hK1, hD1, hx_987⟩ := hB
  rw [ht] at hP1
  have hK := va_K.moved hvm.symm hK1
  have hD := hD1.weaken (fun _ _ _ h => hFc _ h)
  generalize H1 = H at hP1 hS ⊢
  have hP := hP1
  obtain ⟨g_990, e_989, h_991⟩ := hm_986.obj er_967
  obtain ⟨z_992, z_993, z_994, z_995, z_996, z_997, rfl⟩ := smX4 h_991
  obtain ⟨g_999, e_998, h_1000⟩ := hm_986.obj et_968
  obtain ⟨z_1001, z_1002, z_1003, z_1004, rfl⟩ := smX6 h_1000
  obtain ⟨f_1006, e_1005⟩ := hm_986.arrI e_973
  have u_1007 := ht_988 _ _ u_974
  obtain ⟨f_1009, e_1008⟩ := hm_986.arrI e_979
  have u_1010 := ht_988 _ _ u_980
  have hsm := hsm.tr (hm_986.mono (by decide))
  have hlp_93 := hlp_93.tr (hm_986.mono (by decide))
  have htx := htx.tr ht_988
  obtain ⟨ts_1011, te_1012, cc_1013, ra_1014, rb_1015, rc_1016, rv_1017, re_1018, ya_1019, h1_1020, h2_1021, h3_1022, h4_1023, er_1024, et_1025, ⟨k_1026, c9_1027, t_1028, f_1029, e_1030, u_1031⟩, ⟨k_1032, c9_1033, t_1034, f_1035, e_1036, u_1037⟩⟩ := id hx_987
  refine lv_iinc (v := nI (i_85 + 1)) (lv' := [(4, .int (nI (i_85 + 1))), (2, .int r_925), (3, .int 0), (5, .int 1), (1, .int 0), (0, .ref rd)]) hx hb dX4_readEither_95 hl (k := 3) rfl (nI_add i_85 1) (by decide) rfl (fun ls hl => ?_)
  refine lv_goto (tgt := 11) hx hb dX4_readEither_98 (by decide) ?_
  exact ih_84 (i_85 + 1, r_925, 0) ws_984 _ _ ls (by show 400 - (i_85 + 1) < 400 - i_85; omega) ⟨hlp_93, ⟨ty_985, hK, htx, (⟨ts_1011, te_1012, cc_1013, ra_1014, rb_1015, rc_1016, rv_1017, re_1018, ya_1019, by omega, by omega, by omega, by omega, er_1024, et_1025, ⟨k_1026, c9_1027, t_1028, f_1029, e_1030, u_1031⟩, ⟨k_1032, c9_1033, t_1034, f_1035, e_1036, u_1037⟩⟩ : RS ws_984 ty_985 rd krd tp ktp cd bb tl)⟩, (show (i_85 + 1) ≤ 400 from by omega), (show r_925 = 0 ∨ r_925 = 1 from w_926), (show 0 = 0 ∨ 0 = 1 from Or.inl rfl)⟩ hP hD hS (lv_sub hl [0, 1, 2, 4, 5] rfl)
